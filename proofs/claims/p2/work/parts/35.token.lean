def wsp : Nat → Bool := fun k => zWD.getD k 32 == 32
theorem wsp_120 : zct wsp 120 = 23 := by decide +kernel
theorem wd_120 : zWD.getD 120 32 = 32 := by decide +kernel
theorem wd_eta (i : Nat) : zrg 2058 i = ((zrg 2058 i).1, (zrg 2058 i).2) := rfl
theorem wd_at {i : Nat} {v : Int} (h1 : (zrg 2058 i).1 ≤ v) (h2 : v ≤ (zrg 2058 i).2) : v = zWD.getD i 32 := by
  have e : zrg 2058 i = zcl (zWD.getD i 32, zWD.getD i 32) := rfl
  rw [e] at h1 h2
  simp only [zcl] at h1 h2
  omega
theorem wsp_s {x3 : Int} {i : Int} {v : Int} (h : x3 = zct wsp i.toNat) (h0 : 0 ≤ i) (hv : v = zWD.getD i.toNat 32) : (v ≠ 32 → x3 = zct wsp (i + 1).toNat) ∧ (v = 32 → x3 + 1 = zct wsp (i + 1).toNat) := by
  rw [show (i + 1).toNat = i.toNat + 1 by omega, zct_s, ← h]
  unfold wsp
  rw [← hv]
  constructor
  · intro q
    rw [if_neg (by simpa using q)]
    omega
  · intro q
    rw [if_pos (by simpa using q)]
theorem wsp_b {i : Int} (h : i ≤ 120) : 0 ≤ zct wsp i.toNat ∧ zct wsp i.toNat ≤ 23 := by
  have h1 := zct_mono wsp (n := i.toNat) (m := 120) (by omega)
  rw [wsp_120] at h1
  exact ⟨(zct_le wsp _).1, h1⟩

set_option maxHeartbeats 4000000 in
set_option maxRecDepth 100000 in
theorem c_X9_wrong {l : Launch} {Γ : zΓ} {G : zH} {w : Nat} {k : Int} (hX : zXs Γ)  : zMet l Γ yX9_wrong cX9_wrong 2 (some .boolean) 0 [zr 10 w, zi k] G (zpi (fun x G' => zsm [1004, 1005] G G' ∧ (x = 0))) := by
  refine zMet_of RX9 hX (by decide) rfl (Nat.le_of_ble_eq_true rfl) ?_
  intro p e s m args below meth c C hr hlk
  show Z p l e (zrm 0) s m args below meth c Γ 2 0 0 (MQ below (zQc Γ (zpi (fun x G' => zsm [1004, 1005] G G' ∧ (x = 0)))) args s 0 0 (zA Γ)) 0 [some (zr 10 w), some (zi k)] [] G
  refine zs_loc 1 rfl (fun ha1 hb1 => ?_)
  refine zs_aload_n (pc := 0) C dX9_wrong_0 rfl ?_
  refine zs_iload_n (pc := 1) C dX9_wrong_1 rfl ?_
  refine zs_puti (r := 1004) (pc := 2) C dX9_wrong_2 w_X9_184 f_10_4 rfl (r_1004 0) (by omega) ?_
  refine zs_aload_n (pc := 5) C dX9_wrong_5 rfl ?_
  refine zs_aload_n (pc := 6) C dX9_wrong_6 rfl ?_
  refine zs_geti (r := 1010) (pc := 7) C dX9_wrong_7 w_X9_187 f_10_10 rfl (r_1010 0) (fun v7 e7 l7 u7 => ?_)
  try simp only [zuI_1, zuI_2, zuJ_1, zuJ_2, zuJ_3, zuP_1, zuP_2, zuP_3, zuC_1, zuC_2, reduceIte, Nat.reduceEqDiff, false_and, and_false, true_and, and_true, and_self, or_true, true_or, or_false, false_or] at e7
  refine zs_puti (r := 1005) (pc := 10) C dX9_wrong_10 w_X9_16 f_10_5 rfl (r_1005 0) (by omega) ?_
  refine zs_iconst (pc := 13) C dX9_wrong_13 (by decide) ?_
  exact zs_zret (pc := 14) C hr hlk dX9_wrong_14 (by omega) ⟨by repeat (first | exact zsm_rf | assumption | refine zsm_C (by decide) ?_ | refine zsm_I (by decide) ?_ | refine zsm_J ?_ | refine zsm_c (by assumption) (by decide) ?_), by first | omega | (simp only [zuI_1, zuI_2, zuJ_1, zuJ_2, zuJ_3, zuP_1, zuP_2, zuP_3, zuC_1, zuC_2, reduceIte, Nat.reduceEqDiff, false_and, and_false, true_and, and_true, and_self, or_true, true_or, or_false, false_or]; omega)⟩

set_option maxHeartbeats 4000000 in
set_option maxRecDepth 100000 in
theorem c_X9_isSmall {l : Launch} {Γ : zΓ} {G : zH} {w : Nat} {a : Int} (hX : zXs Γ) (ha : 0 ≤ a ∧ a ≤ 700) : zMet l Γ yX9_isSmall cX9_isSmall 2 (some .boolean) 0 [zr 10 w, zi a] G (zpi (fun x G' => G' = G ∧ ((x = 0 ∨ x = 1) ∧ (x = 1 ↔ a < G.1 1006 w 0 ∧ 97 ≤ G.1 2057 (Γ.2.1 w 0) a.toNat ∧ G.1 2057 (Γ.2.1 w 0) a.toNat ≤ 122)))) := by
  refine zMet_of RX9 hX (by decide) rfl (Nat.le_of_ble_eq_true rfl) ?_
  intro p e s m args below meth c C hr hlk
  show Z p l e (zrm 0) s m args below meth c Γ 2 0 0 (MQ below (zQc Γ (zpi (fun x G' => G' = G ∧ ((x = 0 ∨ x = 1) ∧ (x = 1 ↔ a < G.1 1006 w 0 ∧ 97 ≤ G.1 2057 (Γ.2.1 w 0) a.toNat ∧ G.1 2057 (Γ.2.1 w 0) a.toNat ≤ 122))))) args s 0 0 (zA Γ)) 0 [some (zr 10 w), some (zi a)] [] G
  refine zs_loc 1 rfl (fun ha1 hb1 => ?_)
  refine zs_iload_n (pc := 0) C dX9_isSmall_0 rfl ?_
  refine zs_aload_n (pc := 1) C dX9_isSmall_1 rfl ?_
  refine zs_geti (r := 1006) (pc := 2) C dX9_isSmall_2 w_X9_190 f_10_6 rfl (r_1006 0) (fun v2 e2 l2 u2 => ?_)
  refine zs_icmp_ge (tgt := 34) (pc := 5) C dX9_isSmall_5 (by decide) (fun h5 => ?_) (fun h5 => ?_)
  · skip
    refine zs_iconst (pc := 34) C dX9_isSmall_34 (by decide) ?_
    exact zs_zret (pc := 35) C hr hlk dX9_isSmall_35 (by omega) ⟨rfl, by first | omega | (simp only [zuI_1, zuI_2, zuJ_1, zuJ_2, zuJ_3, zuP_1, zuP_2, zuP_3, zuC_1, zuC_2, reduceIte, Nat.reduceEqDiff, false_and, and_false, true_and, and_true, and_self, or_true, true_or, or_false, false_or]; omega)⟩
  · skip
    refine zs_aload_n (pc := 8) C dX9_isSmall_8 rfl ?_
    refine zs_getf (pc := 9) C dX9_isSmall_9 w_X9_7 f_10_0 (by decide) ?_
    refine zs_iload_n (pc := 12) C dX9_isSmall_12 rfl ?_
    refine zs_iald (r := 2057) (pc := 13) C dX9_isSmall_13 a_57 (by decide) (by omega) rfl (r_2057 _) (fun v13 e13 l13 u13 => ?_)
    refine zs_bipush (pc := 14) C dX9_isSmall_14 (by decide) (by decide) ?_
    refine zs_icmp_lt (tgt := 34) (pc := 16) C dX9_isSmall_16 (by decide) (fun h16 => ?_) (fun h16 => ?_)
    · skip
      refine zs_iconst (pc := 34) C dX9_isSmall_34 (by decide) ?_
      exact zs_zret (pc := 35) C hr hlk dX9_isSmall_35 (by omega) ⟨rfl, by first | omega | (simp only [zuI_1, zuI_2, zuJ_1, zuJ_2, zuJ_3, zuP_1, zuP_2, zuP_3, zuC_1, zuC_2, reduceIte, Nat.reduceEqDiff, false_and, and_false, true_and, and_true, and_self, or_true, true_or, or_false, false_or]; omega)⟩
    · skip
      refine zs_aload_n (pc := 19) C dX9_isSmall_19 rfl ?_
      refine zs_getf (pc := 20) C dX9_isSmall_20 w_X9_7 f_10_0 (by decide) ?_
      refine zs_iload_n (pc := 23) C dX9_isSmall_23 rfl ?_
      refine zs_iald (r := 2057) (pc := 24) C dX9_isSmall_24 a_57 (by decide) (by omega) rfl (r_2057 _) (fun v24 e24 l24 u24 => ?_)
      refine zs_bipush (pc := 25) C dX9_isSmall_25 (by decide) (by decide) ?_
      refine zs_icmp_gt (tgt := 34) (pc := 27) C dX9_isSmall_27 (by decide) (fun h27 => ?_) (fun h27 => ?_)
      · skip
        refine zs_iconst (pc := 34) C dX9_isSmall_34 (by decide) ?_
        exact zs_zret (pc := 35) C hr hlk dX9_isSmall_35 (by omega) ⟨rfl, by first | omega | (simp only [zuI_1, zuI_2, zuJ_1, zuJ_2, zuJ_3, zuP_1, zuP_2, zuP_3, zuC_1, zuC_2, reduceIte, Nat.reduceEqDiff, false_and, and_false, true_and, and_true, and_self, or_true, true_or, or_false, false_or]; omega)⟩
      · skip
        refine zs_iconst (pc := 30) C dX9_isSmall_30 (by decide) ?_
        refine zs_goto (tgt := 35) (pc := 31) C dX9_isSmall_31 (by decide) ?_
        exact zs_zret (pc := 35) C hr hlk dX9_isSmall_35 (by omega) ⟨rfl, by first | omega | (simp only [zuI_1, zuI_2, zuJ_1, zuJ_2, zuJ_3, zuP_1, zuP_2, zuP_3, zuC_1, zuC_2, reduceIte, Nat.reduceEqDiff, false_and, and_false, true_and, and_true, and_self, or_true, true_or, or_false, false_or]; omega)⟩

set_option maxHeartbeats 4000000 in
set_option maxRecDepth 100000 in
theorem c_X9_isDigit {l : Launch} {Γ : zΓ} {G : zH} {w : Nat} {a : Int} (hX : zXs Γ) (ha : 0 ≤ a ∧ a ≤ 700) : zMet l Γ yX9_isDigit cX9_isDigit 2 (some .boolean) 0 [zr 10 w, zi a] G (zpi (fun x G' => G' = G ∧ ((x = 0 ∨ x = 1) ∧ (x = 1 ↔ a < G.1 1006 w 0 ∧ 48 ≤ G.1 2057 (Γ.2.1 w 0) a.toNat ∧ G.1 2057 (Γ.2.1 w 0) a.toNat ≤ 57)))) := by
  refine zMet_of RX9 hX (by decide) rfl (Nat.le_of_ble_eq_true rfl) ?_
  intro p e s m args below meth c C hr hlk
  show Z p l e (zrm 0) s m args below meth c Γ 2 0 0 (MQ below (zQc Γ (zpi (fun x G' => G' = G ∧ ((x = 0 ∨ x = 1) ∧ (x = 1 ↔ a < G.1 1006 w 0 ∧ 48 ≤ G.1 2057 (Γ.2.1 w 0) a.toNat ∧ G.1 2057 (Γ.2.1 w 0) a.toNat ≤ 57))))) args s 0 0 (zA Γ)) 0 [some (zr 10 w), some (zi a)] [] G
  refine zs_loc 1 rfl (fun ha1 hb1 => ?_)
  refine zs_iload_n (pc := 0) C dX9_isDigit_0 rfl ?_
  refine zs_aload_n (pc := 1) C dX9_isDigit_1 rfl ?_
  refine zs_geti (r := 1006) (pc := 2) C dX9_isDigit_2 w_X9_190 f_10_6 rfl (r_1006 0) (fun v2 e2 l2 u2 => ?_)
  refine zs_icmp_ge (tgt := 34) (pc := 5) C dX9_isDigit_5 (by decide) (fun h5 => ?_) (fun h5 => ?_)
  · skip
    refine zs_iconst (pc := 34) C dX9_isDigit_34 (by decide) ?_
    exact zs_zret (pc := 35) C hr hlk dX9_isDigit_35 (by omega) ⟨rfl, by first | omega | (simp only [zuI_1, zuI_2, zuJ_1, zuJ_2, zuJ_3, zuP_1, zuP_2, zuP_3, zuC_1, zuC_2, reduceIte, Nat.reduceEqDiff, false_and, and_false, true_and, and_true, and_self, or_true, true_or, or_false, false_or]; omega)⟩
  · skip
    refine zs_aload_n (pc := 8) C dX9_isDigit_8 rfl ?_
    refine zs_getf (pc := 9) C dX9_isDigit_9 w_X9_7 f_10_0 (by decide) ?_
    refine zs_iload_n (pc := 12) C dX9_isDigit_12 rfl ?_
    refine zs_iald (r := 2057) (pc := 13) C dX9_isDigit_13 a_57 (by decide) (by omega) rfl (r_2057 _) (fun v13 e13 l13 u13 => ?_)
    refine zs_bipush (pc := 14) C dX9_isDigit_14 (by decide) (by decide) ?_
    refine zs_icmp_lt (tgt := 34) (pc := 16) C dX9_isDigit_16 (by decide) (fun h16 => ?_) (fun h16 => ?_)
    · skip
      refine zs_iconst (pc := 34) C dX9_isDigit_34 (by decide) ?_
      exact zs_zret (pc := 35) C hr hlk dX9_isDigit_35 (by omega) ⟨rfl, by first | omega | (simp only [zuI_1, zuI_2, zuJ_1, zuJ_2, zuJ_3, zuP_1, zuP_2, zuP_3, zuC_1, zuC_2, reduceIte, Nat.reduceEqDiff, false_and, and_false, true_and, and_true, and_self, or_true, true_or, or_false, false_or]; omega)⟩
    · skip
      refine zs_aload_n (pc := 19) C dX9_isDigit_19 rfl ?_
      refine zs_getf (pc := 20) C dX9_isDigit_20 w_X9_7 f_10_0 (by decide) ?_
      refine zs_iload_n (pc := 23) C dX9_isDigit_23 rfl ?_
      refine zs_iald (r := 2057) (pc := 24) C dX9_isDigit_24 a_57 (by decide) (by omega) rfl (r_2057 _) (fun v24 e24 l24 u24 => ?_)
      refine zs_bipush (pc := 25) C dX9_isDigit_25 (by decide) (by decide) ?_
      refine zs_icmp_gt (tgt := 34) (pc := 27) C dX9_isDigit_27 (by decide) (fun h27 => ?_) (fun h27 => ?_)
      · skip
        refine zs_iconst (pc := 34) C dX9_isDigit_34 (by decide) ?_
        exact zs_zret (pc := 35) C hr hlk dX9_isDigit_35 (by omega) ⟨rfl, by first | omega | (simp only [zuI_1, zuI_2, zuJ_1, zuJ_2, zuJ_3, zuP_1, zuP_2, zuP_3, zuC_1, zuC_2, reduceIte, Nat.reduceEqDiff, false_and, and_false, true_and, and_true, and_self, or_true, true_or, or_false, false_or]; omega)⟩
      · skip
        refine zs_iconst (pc := 30) C dX9_isDigit_30 (by decide) ?_
        refine zs_goto (tgt := 35) (pc := 31) C dX9_isDigit_31 (by decide) ?_
        exact zs_zret (pc := 35) C hr hlk dX9_isDigit_35 (by omega) ⟨rfl, by first | omega | (simp only [zuI_1, zuI_2, zuJ_1, zuJ_2, zuJ_3, zuP_1, zuP_2, zuP_3, zuC_1, zuC_2, reduceIte, Nat.reduceEqDiff, false_and, and_false, true_and, and_true, and_self, or_true, true_or, or_false, false_or]; omega)⟩

set_option maxHeartbeats 4000000 in
set_option maxRecDepth 100000 in
theorem c_X9_packed {l : Launch} {Γ : zΓ} {G : zH} {w : Nat} {a b : Int} (hX : zXs Γ) (ha : 0 ≤ a ∧ a ≤ 700 ∧ b ≤ 700) : zMet l Γ yX9_packed cX9_packed 5 (some .int) 0 [zr 10 w, zi a, zi b] G (zpi (fun x G' => G' = G ∧ True)) := by
  refine zMet_of RX9 hX (by decide) rfl (Nat.le_of_ble_eq_true rfl) ?_
  intro p e s m args below meth c C hr hlk
  show Z p l e (zrm 0) s m args below meth c Γ 5 0 0 (MQ below (zQc Γ (zpi (fun x G' => G' = G ∧ True))) args s 0 0 (zA Γ)) 0 [some (zr 10 w), some (zi a), some (zi b), none, none] [] G
  refine zs_loc 1 rfl (fun ha1 hb1 => ?_)
  refine zs_loc 2 rfl (fun ha2 hb2 => ?_)
  refine zs_iconst (pc := 0) C dX9_packed_0 (by decide) ?_
  refine zs_istore_n (pc := 1) C dX9_packed_1 (by decide) ?_
  dsimp only [zset, zclr, znone]
  refine zs_iload_n (pc := 2) C dX9_packed_2 rfl ?_
  refine zs_istore (pc := 3) C dX9_packed_3 (by decide) ?_
  dsimp only [zset, zclr, znone]
  have L5 : ∀ (nn : Nat) (x3 x4 : Int), (a ≤ x4 ∧ x4 ≤ a + 6) → (a + 6 - x4).toNat < nn → Z p l e (zrm 0) s m args below meth c Γ 5 0 0 (MQ below (zQc Γ (zpi (fun x G' => G' = G ∧ True))) args s 0 0 (zA Γ)) 5 [some (zr 10 w), some (zi a), some (zi b), some (zi x3), some (zi x4)] [] G := by
    intro nn
    induction nn with
    | zero => intro x3 x4 h5_0 hm; exact absurd hm (Nat.not_lt_zero _)
    | succ nn ih5 =>
      intro x3 x4 h5_0 hm5
      refine zs_iload (pc := 5) C dX9_packed_5 rfl ?_
      refine zs_iload_n (pc := 7) C dX9_packed_7 rfl ?_
      refine zs_bipush (pc := 8) C dX9_packed_8 (by decide) (by decide) ?_
      first | refine zs_iadd (pc := 10) C dX9_packed_10 (by omega) ?_ | refine zs_iaddF (pc := 10) C dX9_packed_10 (fun z10 hz101 hz102 => ?_)
      refine zs_icmp_ge (tgt := 45) (pc := 11) C dX9_packed_11 (by decide) (fun h11 => ?_) (fun h11 => ?_)
      · skip
        refine zs_iload_n (pc := 45) C dX9_packed_45 rfl ?_
        exact zs_iret (pc := 46) C hr hlk dX9_packed_46 ⟨rfl, trivial⟩
      · skip
        refine zs_iload_n (pc := 14) C dX9_packed_14 rfl ?_
        refine zs_iconst (pc := 15) C dX9_packed_15 (by decide) ?_
        refine zs_ishlF (pc := 16) C dX9_packed_16 (fun z16 hz161 hz162 => ?_)
        refine zs_iload (pc := 17) C dX9_packed_17 rfl ?_
        refine zs_iload_n (pc := 19) C dX9_packed_19 rfl ?_
        refine zs_icmp_ge (tgt := 36) (pc := 20) C dX9_packed_20 (by decide) (fun h20 => ?_) (fun h20 => ?_)
        · skip
          refine zs_iconst (pc := 36) C dX9_packed_36 (by decide) ?_
          refine zs_iorF (pc := 37) C dX9_packed_37 (fun z37 hz371 hz372 => ?_)
          refine zs_istore_n (pc := 38) C dX9_packed_38 (by decide) ?_
          dsimp only [zset, zclr, znone]
          first | refine zs_iinc (pc := 39) C dX9_packed_39 rfl (by decide) (by omega) ?_ | refine zs_iincF (pc := 39) C dX9_packed_39 rfl (by decide) (fun z39 hz391 hz392 => ?_)
          dsimp only [zset, zclr, znone]
          refine zs_goto (tgt := 5) (pc := 42) C dX9_packed_42 (by decide) ?_
          exact zs_wk (ih5 _ _ (by first | omega | (simp only [zuI_1, zuI_2, zuJ_1, zuJ_2, zuJ_3, zuP_1, zuP_2, zuP_3, zuC_1, zuC_2, reduceIte, Nat.reduceEqDiff, false_and, and_false, true_and, and_true, and_self, or_true, true_or, or_false, false_or]; omega)) (by first | omega | (simp only [zuI_1, zuI_2, zuJ_1, zuJ_2, zuJ_3, zuP_1, zuP_2, zuP_3, zuC_1, zuC_2, reduceIte, Nat.reduceEqDiff, false_and, and_false, true_and, and_true, and_self, or_true, true_or, or_false, false_or]; omega))) (zwk_s rfl (zwk_s rfl (zwk_s rfl (zwk_s rfl (zwk_s rfl zwk_0)))))
        · skip
          refine zs_aload_n (pc := 23) C dX9_packed_23 rfl ?_
          refine zs_getf (pc := 24) C dX9_packed_24 w_X9_7 f_10_0 (by decide) ?_
          refine zs_iload (pc := 27) C dX9_packed_27 rfl ?_
          refine zs_iald (r := 2057) (pc := 29) C dX9_packed_29 a_57 (by decide) (by omega) rfl (r_2057 _) (fun v29 e29 l29 u29 => ?_)
          refine zs_bipush (pc := 30) C dX9_packed_30 (by decide) (by decide) ?_
          first | refine zs_isub (pc := 32) C dX9_packed_32 (by omega) ?_ | refine zs_isubF (pc := 32) C dX9_packed_32 (fun z32 hz321 hz322 => ?_)
          refine zs_goto (tgt := 37) (pc := 33) C dX9_packed_33 (by decide) ?_
          refine zs_iorF (pc := 37) C dX9_packed_37 (fun z37 hz371 hz372 => ?_)
          refine zs_istore_n (pc := 38) C dX9_packed_38 (by decide) ?_
          dsimp only [zset, zclr, znone]
          first | refine zs_iinc (pc := 39) C dX9_packed_39 rfl (by decide) (by omega) ?_ | refine zs_iincF (pc := 39) C dX9_packed_39 rfl (by decide) (fun z39 hz391 hz392 => ?_)
          dsimp only [zset, zclr, znone]
          refine zs_goto (tgt := 5) (pc := 42) C dX9_packed_42 (by decide) ?_
          exact zs_wk (ih5 _ _ (by first | omega | (simp only [zuI_1, zuI_2, zuJ_1, zuJ_2, zuJ_3, zuP_1, zuP_2, zuP_3, zuC_1, zuC_2, reduceIte, Nat.reduceEqDiff, false_and, and_false, true_and, and_true, and_self, or_true, true_or, or_false, false_or]; omega)) (by first | omega | (simp only [zuI_1, zuI_2, zuJ_1, zuJ_2, zuJ_3, zuP_1, zuP_2, zuP_3, zuC_1, zuC_2, reduceIte, Nat.reduceEqDiff, false_and, and_false, true_and, and_true, and_self, or_true, true_or, or_false, false_or]; omega))) (zwk_s rfl (zwk_s rfl (zwk_s rfl (zwk_s rfl (zwk_s rfl zwk_0)))))
  exact zs_wk (L5 _ _ _ (by first | omega | (simp only [zuI_1, zuI_2, zuJ_1, zuJ_2, zuJ_3, zuP_1, zuP_2, zuP_3, zuC_1, zuC_2, reduceIte, Nat.reduceEqDiff, false_and, and_false, true_and, and_true, and_self, or_true, true_or, or_false, false_or]; omega)) (Nat.lt_succ_self _)) (zwk_s rfl (zwk_s rfl (zwk_s rfl (zwk_s rfl (zwk_s rfl zwk_0)))))

set_option maxHeartbeats 4000000 in
set_option maxRecDepth 100000 in
theorem c_X9_wordAt {l : Launch} {Γ : zΓ} {G : zH} {w : Nat} {a b : Int} (hX : zXs Γ) (ha : 0 ≤ a ∧ a ≤ b ∧ b ≤ 700) : zMet l Γ yX9_wordAt cX9_wordAt 8 (some .int) 0 [zr 10 w, zi a, zi b] G (zpi (fun x G' => G' = G ∧ (-1 ≤ x ∧ x ≤ 23))) := by
  refine zMet_of RX9 hX (by decide) rfl (Nat.le_of_ble_eq_true rfl) ?_
  intro p e s m args below meth c C hr hlk
  show Z p l e (zrm 0) s m args below meth c Γ 8 0 0 (MQ below (zQc Γ (zpi (fun x G' => G' = G ∧ (-1 ≤ x ∧ x ≤ 23)))) args s 0 0 (zA Γ)) 0 [some (zr 10 w), some (zi a), some (zi b), none, none, none, none, none] [] G
  refine zs_loc 1 rfl (fun ha1 hb1 => ?_)
  refine zs_loc 2 rfl (fun ha2 hb2 => ?_)
  refine zs_iconst (pc := 0) C dX9_wordAt_0 (by decide) ?_
  refine zs_istore_n (pc := 1) C dX9_wordAt_1 (by decide) ?_
  dsimp only [zset, zclr, znone]
  refine zs_iconst (pc := 2) C dX9_wordAt_2 (by decide) ?_
  refine zs_istore (pc := 3) C dX9_wordAt_3 (by decide) ?_
  dsimp only [zset, zclr, znone]
  have L5 : ∀ (nn : Nat) (x3 x4 : Int), (0 ≤ x4 ∧ x4 ≤ 121) → (x3 = zct wsp x4.toNat) → (121 - x4).toNat < nn → Z p l e (zrm 0) s m args below meth c Γ 8 0 0 (MQ below (zQc Γ (zpi (fun x G' => G' = G ∧ (-1 ≤ x ∧ x ≤ 23)))) args s 0 0 (zA Γ)) 5 [some (zr 10 w), some (zi a), some (zi b), some (zi x3), some (zi x4), none, none, none] [] G := by
    intro nn
    induction nn with
    | zero => intro x3 x4 h5_0 h5_1 hm; exact absurd hm (Nat.not_lt_zero _)
    | succ nn ih5 =>
      intro x3 x4 h5_0 h5_1 hm5
      refine zs_iload (pc := 5) C dX9_wordAt_5 rfl ?_
      refine zs_aload_n (pc := 7) C dX9_wordAt_7 rfl ?_
      refine zs_getf (pc := 8) C dX9_wordAt_8 w_X9_13 f_10_3 (by decide) ?_
      refine zs_alen (pc := 11) C dX9_wordAt_11 a_58 (by decide) (by decide) ?_
      refine zs_icmp_ge (tgt := 126) (pc := 12) C dX9_wordAt_12 (by decide) (fun h12 => ?_) (fun h12 => ?_)
      · skip
        refine zs_iconst (pc := 126) C dX9_wordAt_126 (by decide) ?_
        exact zs_iret (pc := 127) C hr hlk dX9_wordAt_127 ⟨rfl, by first | omega | (simp only [zuI_1, zuI_2, zuJ_1, zuJ_2, zuJ_3, zuP_1, zuP_2, zuP_3, zuC_1, zuC_2, reduceIte, Nat.reduceEqDiff, false_and, and_false, true_and, and_true, and_self, or_true, true_or, or_false, false_or]; omega)⟩
      · skip
        refine zs_iconst (pc := 15) C dX9_wordAt_15 (by decide) ?_
        refine zs_istore (pc := 16) C dX9_wordAt_16 (by decide) ?_
        dsimp only [zset, zclr, znone]
        have L18 : ∀ (nn : Nat) (x5 : Int), (0 ≤ x5 ∧ x4 + x5 ≤ 120) → (x3 = zct wsp (x4 + x5).toNat) → (120 - x5).toNat < nn → Z p l e (zrm 0) s m args below meth c Γ 8 0 0 (MQ below (zQc Γ (zpi (fun x G' => G' = G ∧ (-1 ≤ x ∧ x ≤ 23)))) args s 0 0 (zA Γ)) 18 [some (zr 10 w), some (zi a), some (zi b), some (zi x3), some (zi x4), some (zi x5), none, none] [] G := by
          intro nn
          induction nn with
          | zero => intro x5 h18_0 h18_1 hm; exact absurd hm (Nat.not_lt_zero _)
          | succ nn ih18 =>
            intro x5 h18_0 h18_1 hm18
            have hwb := wsp_b (i := x4 + x5) (by omega)
            refine zs_aload_n (pc := 18) C dX9_wordAt_18 rfl ?_
            refine zs_getf (pc := 19) C dX9_wordAt_19 w_X9_13 f_10_3 (by decide) ?_
            refine zs_iload (pc := 22) C dX9_wordAt_22 rfl ?_
            refine zs_iload (pc := 24) C dX9_wordAt_24 rfl ?_
            first | refine zs_iadd (pc := 26) C dX9_wordAt_26 (by omega) ?_ | refine zs_iaddF (pc := 26) C dX9_wordAt_26 (fun z26 hz261 hz262 => ?_)
            refine zs_iald (r := 2058) (pc := 27) C dX9_wordAt_27 a_58 (by decide) (by omega) rfl (wd_eta _) (fun v27 e27 l27 u27 => ?_)
            have hwd := wd_at l27 u27
            have hws := wsp_s h18_1 (by omega) hwd
            have hw120 : x4 + x5 = 120 → v27 = 32 := fun q => by rw [hwd, show (x4 + x5).toNat = 120 by omega]; exact wd_120
            refine zs_bipush (pc := 28) C dX9_wordAt_28 (by decide) (by decide) ?_
            refine zs_icmp_eq (tgt := 39) (pc := 30) C dX9_wordAt_30 (by decide) (fun h30 => ?_) (fun h30 => ?_)
            · skip
              refine zs_iload (pc := 39) C dX9_wordAt_39 rfl ?_
              refine zs_iload_n (pc := 41) C dX9_wordAt_41 rfl ?_
              refine zs_iload_n (pc := 42) C dX9_wordAt_42 rfl ?_
              first | refine zs_isub (pc := 43) C dX9_wordAt_43 (by omega) ?_ | refine zs_isubF (pc := 43) C dX9_wordAt_43 (fun z43 hz431 hz432 => ?_)
              refine zs_icmp_ne (tgt := 51) (pc := 44) C dX9_wordAt_44 (by decide) (fun h44 => ?_) (fun h44 => ?_)
              · skip
                refine zs_iconst (pc := 51) C dX9_wordAt_51 (by decide) ?_
                refine zs_istore (pc := 52) C dX9_wordAt_52 (by decide) ?_
                dsimp only [zset, zclr, znone]
                refine zs_iconst (pc := 54) C dX9_wordAt_54 (by decide) ?_
                refine zs_istore (pc := 55) C dX9_wordAt_55 (by decide) ?_
                dsimp only [zset, zclr, znone]
                have L57 : ∀ (nn : Nat) (x6 x7 : Int), (0 ≤ x7 ∧ x7 ≤ x5) → (x6 = 0 ∨ (x6 = 1 ∧ x5 = b - a)) → (x5 - x7).toNat < nn → Z p l e (zrm 0) s m args below meth c Γ 8 0 0 (MQ below (zQc Γ (zpi (fun x G' => G' = G ∧ (-1 ≤ x ∧ x ≤ 23)))) args s 0 0 (zA Γ)) 57 [some (zr 10 w), some (zi a), some (zi b), some (zi x3), some (zi x4), some (zi x5), some (zi x6), some (zi x7)] [] G := by
                  intro nn
                  induction nn with
                  | zero => intro x6 x7 h57_0 h57_1 hm; exact absurd hm (Nat.not_lt_zero _)
                  | succ nn ih57 =>
                    intro x6 x7 h57_0 h57_1 hm57
                    refine zs_iload (pc := 57) C dX9_wordAt_57 rfl ?_
                    refine zs_iload (pc := 59) C dX9_wordAt_59 rfl ?_
                    refine zs_icmp_ge (tgt := 104) (pc := 61) C dX9_wordAt_61 (by decide) (fun h61 => ?_) (fun h61 => ?_)
                    · skip
                      refine zs_iload (pc := 104) C dX9_wordAt_104 rfl ?_
                      refine zs_if_eq (tgt := 111) (pc := 106) C dX9_wordAt_106 (by decide) (fun h106 => ?_) (fun h106 => ?_)
                      · skip
                        refine zs_iload (pc := 111) C dX9_wordAt_111 rfl ?_
                        refine zs_iload (pc := 113) C dX9_wordAt_113 rfl ?_
                        refine zs_iconst (pc := 115) C dX9_wordAt_115 (by decide) ?_
                        first | refine zs_iadd (pc := 116) C dX9_wordAt_116 (by omega) ?_ | refine zs_iaddF (pc := 116) C dX9_wordAt_116 (fun z116 hz1161 hz1162 => ?_)
                        first | refine zs_iadd (pc := 117) C dX9_wordAt_117 (by omega) ?_ | refine zs_iaddF (pc := 117) C dX9_wordAt_117 (fun z117 hz1171 hz1172 => ?_)
                        refine zs_istore (pc := 118) C dX9_wordAt_118 (by decide) ?_
                        dsimp only [zset, zclr, znone]
                        first | refine zs_iinc (pc := 120) C dX9_wordAt_120 rfl (by decide) (by omega) ?_ | refine zs_iincF (pc := 120) C dX9_wordAt_120 rfl (by decide) (fun z120 hz1201 hz1202 => ?_)
                        dsimp only [zset, zclr, znone]
                        refine zs_goto (tgt := 5) (pc := 123) C dX9_wordAt_123 (by decide) ?_
                        exact zs_wk (ih5 _ _ (by omega) (by first | exact (hws.2 (by omega)) | (rw [show x4 + (x5 + 1) = x4 + x5 + 1 by omega]; exact hws.2 (by omega))) (by first | omega | (simp only [zuI_1, zuI_2, zuJ_1, zuJ_2, zuJ_3, zuP_1, zuP_2, zuP_3, zuC_1, zuC_2, reduceIte, Nat.reduceEqDiff, false_and, and_false, true_and, and_true, and_self, or_true, true_or, or_false, false_or]; omega))) (zwk_s rfl (zwk_s rfl (zwk_s rfl (zwk_s rfl (zwk_s rfl (zwk_n (zwk_n (zwk_n zwk_0))))))))
                      · skip
                        refine zs_iload_n (pc := 109) C dX9_wordAt_109 rfl ?_
                        exact zs_iret (pc := 110) C hr hlk dX9_wordAt_110 ⟨rfl, by first | omega | (simp only [zuI_1, zuI_2, zuJ_1, zuJ_2, zuJ_3, zuP_1, zuP_2, zuP_3, zuC_1, zuC_2, reduceIte, Nat.reduceEqDiff, false_and, and_false, true_and, and_true, and_self, or_true, true_or, or_false, false_or]; omega)⟩
                    · skip
                      refine zs_iload (pc := 64) C dX9_wordAt_64 rfl ?_
                      refine zs_if_eq (tgt := 104) (pc := 66) C dX9_wordAt_66 (by decide) (fun h66 => ?_) (fun h66 => ?_)
                      · skip
                        refine zs_iload (pc := 104) C dX9_wordAt_104 rfl ?_
                        refine zs_if_eq (tgt := 111) (pc := 106) C dX9_wordAt_106 (by decide) (fun h106 => ?_) (fun h106 => ?_)
                        · skip
                          refine zs_iload (pc := 111) C dX9_wordAt_111 rfl ?_
                          refine zs_iload (pc := 113) C dX9_wordAt_113 rfl ?_
                          refine zs_iconst (pc := 115) C dX9_wordAt_115 (by decide) ?_
                          first | refine zs_iadd (pc := 116) C dX9_wordAt_116 (by omega) ?_ | refine zs_iaddF (pc := 116) C dX9_wordAt_116 (fun z116 hz1161 hz1162 => ?_)
                          first | refine zs_iadd (pc := 117) C dX9_wordAt_117 (by omega) ?_ | refine zs_iaddF (pc := 117) C dX9_wordAt_117 (fun z117 hz1171 hz1172 => ?_)
                          refine zs_istore (pc := 118) C dX9_wordAt_118 (by decide) ?_
                          dsimp only [zset, zclr, znone]
                          first | refine zs_iinc (pc := 120) C dX9_wordAt_120 rfl (by decide) (by omega) ?_ | refine zs_iincF (pc := 120) C dX9_wordAt_120 rfl (by decide) (fun z120 hz1201 hz1202 => ?_)
                          dsimp only [zset, zclr, znone]
                          refine zs_goto (tgt := 5) (pc := 123) C dX9_wordAt_123 (by decide) ?_
                          exact zs_wk (ih5 _ _ (by omega) (by first | exact (hws.2 (by omega)) | (rw [show x4 + (x5 + 1) = x4 + x5 + 1 by omega]; exact hws.2 (by omega))) (by first | omega | (simp only [zuI_1, zuI_2, zuJ_1, zuJ_2, zuJ_3, zuP_1, zuP_2, zuP_3, zuC_1, zuC_2, reduceIte, Nat.reduceEqDiff, false_and, and_false, true_and, and_true, and_self, or_true, true_or, or_false, false_or]; omega))) (zwk_s rfl (zwk_s rfl (zwk_s rfl (zwk_s rfl (zwk_s rfl (zwk_n (zwk_n (zwk_n zwk_0))))))))
                        · skip
                          refine zs_iload_n (pc := 109) C dX9_wordAt_109 rfl ?_
                          exact zs_iret (pc := 110) C hr hlk dX9_wordAt_110 ⟨rfl, by first | omega | (simp only [zuI_1, zuI_2, zuJ_1, zuJ_2, zuJ_3, zuP_1, zuP_2, zuP_3, zuC_1, zuC_2, reduceIte, Nat.reduceEqDiff, false_and, and_false, true_and, and_true, and_self, or_true, true_or, or_false, false_or]; omega)⟩
                      · skip
                        refine zs_aload_n (pc := 69) C dX9_wordAt_69 rfl ?_
                        refine zs_getf (pc := 70) C dX9_wordAt_70 w_X9_13 f_10_3 (by decide) ?_
                        refine zs_iload (pc := 73) C dX9_wordAt_73 rfl ?_
                        refine zs_iload (pc := 75) C dX9_wordAt_75 rfl ?_
                        first | refine zs_iadd (pc := 77) C dX9_wordAt_77 (by omega) ?_ | refine zs_iaddF (pc := 77) C dX9_wordAt_77 (fun z77 hz771 hz772 => ?_)
                        refine zs_iald (r := 2058) (pc := 78) C dX9_wordAt_78 a_58 (by decide) (by omega) rfl (wd_eta _) (fun v78 e78 l78 u78 => ?_)
                        refine zs_aload_n (pc := 79) C dX9_wordAt_79 rfl ?_
                        refine zs_getf (pc := 80) C dX9_wordAt_80 w_X9_7 f_10_0 (by decide) ?_
                        refine zs_iload_n (pc := 83) C dX9_wordAt_83 rfl ?_
                        refine zs_iload (pc := 84) C dX9_wordAt_84 rfl ?_
                        first | refine zs_iadd (pc := 86) C dX9_wordAt_86 (by omega) ?_ | refine zs_iaddF (pc := 86) C dX9_wordAt_86 (fun z86 hz861 hz862 => ?_)
                        refine zs_iald (r := 2057) (pc := 87) C dX9_wordAt_87 a_57 (by decide) (by omega) rfl (r_2057 _) (fun v87 e87 l87 u87 => ?_)
                        refine zs_icmp_ne (tgt := 95) (pc := 88) C dX9_wordAt_88 (by decide) (fun h88 => ?_) (fun h88 => ?_)
                        · skip
                          refine zs_iconst (pc := 95) C dX9_wordAt_95 (by decide) ?_
                          refine zs_istore (pc := 96) C dX9_wordAt_96 (by decide) ?_
                          dsimp only [zset, zclr, znone]
                          first | refine zs_iinc (pc := 98) C dX9_wordAt_98 rfl (by decide) (by omega) ?_ | refine zs_iincF (pc := 98) C dX9_wordAt_98 rfl (by decide) (fun z98 hz981 hz982 => ?_)
                          dsimp only [zset, zclr, znone]
                          refine zs_goto (tgt := 57) (pc := 101) C dX9_wordAt_101 (by decide) ?_
                          exact zs_wk (ih57 _ _ (by first | omega | (simp only [zuI_1, zuI_2, zuJ_1, zuJ_2, zuJ_3, zuP_1, zuP_2, zuP_3, zuC_1, zuC_2, reduceIte, Nat.reduceEqDiff, false_and, and_false, true_and, and_true, and_self, or_true, true_or, or_false, false_or]; omega)) (by first | omega | (simp only [zuI_1, zuI_2, zuJ_1, zuJ_2, zuJ_3, zuP_1, zuP_2, zuP_3, zuC_1, zuC_2, reduceIte, Nat.reduceEqDiff, false_and, and_false, true_and, and_true, and_self, or_true, true_or, or_false, false_or]; omega)) (by first | omega | (simp only [zuI_1, zuI_2, zuJ_1, zuJ_2, zuJ_3, zuP_1, zuP_2, zuP_3, zuC_1, zuC_2, reduceIte, Nat.reduceEqDiff, false_and, and_false, true_and, and_true, and_self, or_true, true_or, or_false, false_or]; omega))) (zwk_s rfl (zwk_s rfl (zwk_s rfl (zwk_s rfl (zwk_s rfl (zwk_s rfl (zwk_s rfl (zwk_s rfl zwk_0))))))))
                        · skip
                          refine zs_iconst (pc := 91) C dX9_wordAt_91 (by decide) ?_
                          refine zs_goto (tgt := 96) (pc := 92) C dX9_wordAt_92 (by decide) ?_
                          refine zs_istore (pc := 96) C dX9_wordAt_96 (by decide) ?_
                          dsimp only [zset, zclr, znone]
                          first | refine zs_iinc (pc := 98) C dX9_wordAt_98 rfl (by decide) (by omega) ?_ | refine zs_iincF (pc := 98) C dX9_wordAt_98 rfl (by decide) (fun z98 hz981 hz982 => ?_)
                          dsimp only [zset, zclr, znone]
                          refine zs_goto (tgt := 57) (pc := 101) C dX9_wordAt_101 (by decide) ?_
                          exact zs_wk (ih57 _ _ (by first | omega | (simp only [zuI_1, zuI_2, zuJ_1, zuJ_2, zuJ_3, zuP_1, zuP_2, zuP_3, zuC_1, zuC_2, reduceIte, Nat.reduceEqDiff, false_and, and_false, true_and, and_true, and_self, or_true, true_or, or_false, false_or]; omega)) (by first | omega | (simp only [zuI_1, zuI_2, zuJ_1, zuJ_2, zuJ_3, zuP_1, zuP_2, zuP_3, zuC_1, zuC_2, reduceIte, Nat.reduceEqDiff, false_and, and_false, true_and, and_true, and_self, or_true, true_or, or_false, false_or]; omega)) (by first | omega | (simp only [zuI_1, zuI_2, zuJ_1, zuJ_2, zuJ_3, zuP_1, zuP_2, zuP_3, zuC_1, zuC_2, reduceIte, Nat.reduceEqDiff, false_and, and_false, true_and, and_true, and_self, or_true, true_or, or_false, false_or]; omega))) (zwk_s rfl (zwk_s rfl (zwk_s rfl (zwk_s rfl (zwk_s rfl (zwk_s rfl (zwk_s rfl (zwk_s rfl zwk_0))))))))
                exact zs_wk (L57 _ _ _ (by first | omega | (simp only [zuI_1, zuI_2, zuJ_1, zuJ_2, zuJ_3, zuP_1, zuP_2, zuP_3, zuC_1, zuC_2, reduceIte, Nat.reduceEqDiff, false_and, and_false, true_and, and_true, and_self, or_true, true_or, or_false, false_or]; omega)) (by first | omega | (simp only [zuI_1, zuI_2, zuJ_1, zuJ_2, zuJ_3, zuP_1, zuP_2, zuP_3, zuC_1, zuC_2, reduceIte, Nat.reduceEqDiff, false_and, and_false, true_and, and_true, and_self, or_true, true_or, or_false, false_or]; omega)) (Nat.lt_succ_self _)) (zwk_s rfl (zwk_s rfl (zwk_s rfl (zwk_s rfl (zwk_s rfl (zwk_s rfl (zwk_s rfl (zwk_s rfl zwk_0))))))))
              · skip
                refine zs_iconst (pc := 47) C dX9_wordAt_47 (by decide) ?_
                refine zs_goto (tgt := 52) (pc := 48) C dX9_wordAt_48 (by decide) ?_
                refine zs_istore (pc := 52) C dX9_wordAt_52 (by decide) ?_
                dsimp only [zset, zclr, znone]
                refine zs_iconst (pc := 54) C dX9_wordAt_54 (by decide) ?_
                refine zs_istore (pc := 55) C dX9_wordAt_55 (by decide) ?_
                dsimp only [zset, zclr, znone]
                have L57 : ∀ (nn : Nat) (x6 x7 : Int), (0 ≤ x7 ∧ x7 ≤ x5) → (x6 = 0 ∨ (x6 = 1 ∧ x5 = b - a)) → (x5 - x7).toNat < nn → Z p l e (zrm 0) s m args below meth c Γ 8 0 0 (MQ below (zQc Γ (zpi (fun x G' => G' = G ∧ (-1 ≤ x ∧ x ≤ 23)))) args s 0 0 (zA Γ)) 57 [some (zr 10 w), some (zi a), some (zi b), some (zi x3), some (zi x4), some (zi x5), some (zi x6), some (zi x7)] [] G := by
                  intro nn
                  induction nn with
                  | zero => intro x6 x7 h57_0 h57_1 hm; exact absurd hm (Nat.not_lt_zero _)
                  | succ nn ih57 =>
                    intro x6 x7 h57_0 h57_1 hm57
                    refine zs_iload (pc := 57) C dX9_wordAt_57 rfl ?_
                    refine zs_iload (pc := 59) C dX9_wordAt_59 rfl ?_
                    refine zs_icmp_ge (tgt := 104) (pc := 61) C dX9_wordAt_61 (by decide) (fun h61 => ?_) (fun h61 => ?_)
                    · skip
                      refine zs_iload (pc := 104) C dX9_wordAt_104 rfl ?_
                      refine zs_if_eq (tgt := 111) (pc := 106) C dX9_wordAt_106 (by decide) (fun h106 => ?_) (fun h106 => ?_)
                      · skip
                        refine zs_iload (pc := 111) C dX9_wordAt_111 rfl ?_
                        refine zs_iload (pc := 113) C dX9_wordAt_113 rfl ?_
                        refine zs_iconst (pc := 115) C dX9_wordAt_115 (by decide) ?_
                        first | refine zs_iadd (pc := 116) C dX9_wordAt_116 (by omega) ?_ | refine zs_iaddF (pc := 116) C dX9_wordAt_116 (fun z116 hz1161 hz1162 => ?_)
                        first | refine zs_iadd (pc := 117) C dX9_wordAt_117 (by omega) ?_ | refine zs_iaddF (pc := 117) C dX9_wordAt_117 (fun z117 hz1171 hz1172 => ?_)
                        refine zs_istore (pc := 118) C dX9_wordAt_118 (by decide) ?_
                        dsimp only [zset, zclr, znone]
                        first | refine zs_iinc (pc := 120) C dX9_wordAt_120 rfl (by decide) (by omega) ?_ | refine zs_iincF (pc := 120) C dX9_wordAt_120 rfl (by decide) (fun z120 hz1201 hz1202 => ?_)
                        dsimp only [zset, zclr, znone]
                        refine zs_goto (tgt := 5) (pc := 123) C dX9_wordAt_123 (by decide) ?_
                        exact zs_wk (ih5 _ _ (by omega) (by first | exact (hws.2 (by omega)) | (rw [show x4 + (x5 + 1) = x4 + x5 + 1 by omega]; exact hws.2 (by omega))) (by first | omega | (simp only [zuI_1, zuI_2, zuJ_1, zuJ_2, zuJ_3, zuP_1, zuP_2, zuP_3, zuC_1, zuC_2, reduceIte, Nat.reduceEqDiff, false_and, and_false, true_and, and_true, and_self, or_true, true_or, or_false, false_or]; omega))) (zwk_s rfl (zwk_s rfl (zwk_s rfl (zwk_s rfl (zwk_s rfl (zwk_n (zwk_n (zwk_n zwk_0))))))))
                      · skip
                        refine zs_iload_n (pc := 109) C dX9_wordAt_109 rfl ?_
                        exact zs_iret (pc := 110) C hr hlk dX9_wordAt_110 ⟨rfl, by first | omega | (simp only [zuI_1, zuI_2, zuJ_1, zuJ_2, zuJ_3, zuP_1, zuP_2, zuP_3, zuC_1, zuC_2, reduceIte, Nat.reduceEqDiff, false_and, and_false, true_and, and_true, and_self, or_true, true_or, or_false, false_or]; omega)⟩
                    · skip
                      refine zs_iload (pc := 64) C dX9_wordAt_64 rfl ?_
                      refine zs_if_eq (tgt := 104) (pc := 66) C dX9_wordAt_66 (by decide) (fun h66 => ?_) (fun h66 => ?_)
                      · skip
                        refine zs_iload (pc := 104) C dX9_wordAt_104 rfl ?_
                        refine zs_if_eq (tgt := 111) (pc := 106) C dX9_wordAt_106 (by decide) (fun h106 => ?_) (fun h106 => ?_)
                        · skip
                          refine zs_iload (pc := 111) C dX9_wordAt_111 rfl ?_
                          refine zs_iload (pc := 113) C dX9_wordAt_113 rfl ?_
                          refine zs_iconst (pc := 115) C dX9_wordAt_115 (by decide) ?_
                          first | refine zs_iadd (pc := 116) C dX9_wordAt_116 (by omega) ?_ | refine zs_iaddF (pc := 116) C dX9_wordAt_116 (fun z116 hz1161 hz1162 => ?_)
                          first | refine zs_iadd (pc := 117) C dX9_wordAt_117 (by omega) ?_ | refine zs_iaddF (pc := 117) C dX9_wordAt_117 (fun z117 hz1171 hz1172 => ?_)
                          refine zs_istore (pc := 118) C dX9_wordAt_118 (by decide) ?_
                          dsimp only [zset, zclr, znone]
                          first | refine zs_iinc (pc := 120) C dX9_wordAt_120 rfl (by decide) (by omega) ?_ | refine zs_iincF (pc := 120) C dX9_wordAt_120 rfl (by decide) (fun z120 hz1201 hz1202 => ?_)
                          dsimp only [zset, zclr, znone]
                          refine zs_goto (tgt := 5) (pc := 123) C dX9_wordAt_123 (by decide) ?_
                          exact zs_wk (ih5 _ _ (by omega) (by first | exact (hws.2 (by omega)) | (rw [show x4 + (x5 + 1) = x4 + x5 + 1 by omega]; exact hws.2 (by omega))) (by first | omega | (simp only [zuI_1, zuI_2, zuJ_1, zuJ_2, zuJ_3, zuP_1, zuP_2, zuP_3, zuC_1, zuC_2, reduceIte, Nat.reduceEqDiff, false_and, and_false, true_and, and_true, and_self, or_true, true_or, or_false, false_or]; omega))) (zwk_s rfl (zwk_s rfl (zwk_s rfl (zwk_s rfl (zwk_s rfl (zwk_n (zwk_n (zwk_n zwk_0))))))))
                        · skip
                          refine zs_iload_n (pc := 109) C dX9_wordAt_109 rfl ?_
                          exact zs_iret (pc := 110) C hr hlk dX9_wordAt_110 ⟨rfl, by first | omega | (simp only [zuI_1, zuI_2, zuJ_1, zuJ_2, zuJ_3, zuP_1, zuP_2, zuP_3, zuC_1, zuC_2, reduceIte, Nat.reduceEqDiff, false_and, and_false, true_and, and_true, and_self, or_true, true_or, or_false, false_or]; omega)⟩
                      · skip
                        refine zs_aload_n (pc := 69) C dX9_wordAt_69 rfl ?_
                        refine zs_getf (pc := 70) C dX9_wordAt_70 w_X9_13 f_10_3 (by decide) ?_
                        refine zs_iload (pc := 73) C dX9_wordAt_73 rfl ?_
                        refine zs_iload (pc := 75) C dX9_wordAt_75 rfl ?_
                        first | refine zs_iadd (pc := 77) C dX9_wordAt_77 (by omega) ?_ | refine zs_iaddF (pc := 77) C dX9_wordAt_77 (fun z77 hz771 hz772 => ?_)
                        refine zs_iald (r := 2058) (pc := 78) C dX9_wordAt_78 a_58 (by decide) (by omega) rfl (wd_eta _) (fun v78 e78 l78 u78 => ?_)
                        refine zs_aload_n (pc := 79) C dX9_wordAt_79 rfl ?_
                        refine zs_getf (pc := 80) C dX9_wordAt_80 w_X9_7 f_10_0 (by decide) ?_
                        refine zs_iload_n (pc := 83) C dX9_wordAt_83 rfl ?_
                        refine zs_iload (pc := 84) C dX9_wordAt_84 rfl ?_
                        first | refine zs_iadd (pc := 86) C dX9_wordAt_86 (by omega) ?_ | refine zs_iaddF (pc := 86) C dX9_wordAt_86 (fun z86 hz861 hz862 => ?_)
                        refine zs_iald (r := 2057) (pc := 87) C dX9_wordAt_87 a_57 (by decide) (by omega) rfl (r_2057 _) (fun v87 e87 l87 u87 => ?_)
                        refine zs_icmp_ne (tgt := 95) (pc := 88) C dX9_wordAt_88 (by decide) (fun h88 => ?_) (fun h88 => ?_)
                        · skip
                          refine zs_iconst (pc := 95) C dX9_wordAt_95 (by decide) ?_
                          refine zs_istore (pc := 96) C dX9_wordAt_96 (by decide) ?_
                          dsimp only [zset, zclr, znone]
                          first | refine zs_iinc (pc := 98) C dX9_wordAt_98 rfl (by decide) (by omega) ?_ | refine zs_iincF (pc := 98) C dX9_wordAt_98 rfl (by decide) (fun z98 hz981 hz982 => ?_)
                          dsimp only [zset, zclr, znone]
                          refine zs_goto (tgt := 57) (pc := 101) C dX9_wordAt_101 (by decide) ?_
                          exact zs_wk (ih57 _ _ (by first | omega | (simp only [zuI_1, zuI_2, zuJ_1, zuJ_2, zuJ_3, zuP_1, zuP_2, zuP_3, zuC_1, zuC_2, reduceIte, Nat.reduceEqDiff, false_and, and_false, true_and, and_true, and_self, or_true, true_or, or_false, false_or]; omega)) (by first | omega | (simp only [zuI_1, zuI_2, zuJ_1, zuJ_2, zuJ_3, zuP_1, zuP_2, zuP_3, zuC_1, zuC_2, reduceIte, Nat.reduceEqDiff, false_and, and_false, true_and, and_true, and_self, or_true, true_or, or_false, false_or]; omega)) (by first | omega | (simp only [zuI_1, zuI_2, zuJ_1, zuJ_2, zuJ_3, zuP_1, zuP_2, zuP_3, zuC_1, zuC_2, reduceIte, Nat.reduceEqDiff, false_and, and_false, true_and, and_true, and_self, or_true, true_or, or_false, false_or]; omega))) (zwk_s rfl (zwk_s rfl (zwk_s rfl (zwk_s rfl (zwk_s rfl (zwk_s rfl (zwk_s rfl (zwk_s rfl zwk_0))))))))
                        · skip
                          refine zs_iconst (pc := 91) C dX9_wordAt_91 (by decide) ?_
                          refine zs_goto (tgt := 96) (pc := 92) C dX9_wordAt_92 (by decide) ?_
                          refine zs_istore (pc := 96) C dX9_wordAt_96 (by decide) ?_
                          dsimp only [zset, zclr, znone]
                          first | refine zs_iinc (pc := 98) C dX9_wordAt_98 rfl (by decide) (by omega) ?_ | refine zs_iincF (pc := 98) C dX9_wordAt_98 rfl (by decide) (fun z98 hz981 hz982 => ?_)
                          dsimp only [zset, zclr, znone]
                          refine zs_goto (tgt := 57) (pc := 101) C dX9_wordAt_101 (by decide) ?_
                          exact zs_wk (ih57 _ _ (by first | omega | (simp only [zuI_1, zuI_2, zuJ_1, zuJ_2, zuJ_3, zuP_1, zuP_2, zuP_3, zuC_1, zuC_2, reduceIte, Nat.reduceEqDiff, false_and, and_false, true_and, and_true, and_self, or_true, true_or, or_false, false_or]; omega)) (by first | omega | (simp only [zuI_1, zuI_2, zuJ_1, zuJ_2, zuJ_3, zuP_1, zuP_2, zuP_3, zuC_1, zuC_2, reduceIte, Nat.reduceEqDiff, false_and, and_false, true_and, and_true, and_self, or_true, true_or, or_false, false_or]; omega)) (by first | omega | (simp only [zuI_1, zuI_2, zuJ_1, zuJ_2, zuJ_3, zuP_1, zuP_2, zuP_3, zuC_1, zuC_2, reduceIte, Nat.reduceEqDiff, false_and, and_false, true_and, and_true, and_self, or_true, true_or, or_false, false_or]; omega))) (zwk_s rfl (zwk_s rfl (zwk_s rfl (zwk_s rfl (zwk_s rfl (zwk_s rfl (zwk_s rfl (zwk_s rfl zwk_0))))))))
                exact zs_wk (L57 _ _ _ (by first | omega | (simp only [zuI_1, zuI_2, zuJ_1, zuJ_2, zuJ_3, zuP_1, zuP_2, zuP_3, zuC_1, zuC_2, reduceIte, Nat.reduceEqDiff, false_and, and_false, true_and, and_true, and_self, or_true, true_or, or_false, false_or]; omega)) (by first | omega | (simp only [zuI_1, zuI_2, zuJ_1, zuJ_2, zuJ_3, zuP_1, zuP_2, zuP_3, zuC_1, zuC_2, reduceIte, Nat.reduceEqDiff, false_and, and_false, true_and, and_true, and_self, or_true, true_or, or_false, false_or]; omega)) (Nat.lt_succ_self _)) (zwk_s rfl (zwk_s rfl (zwk_s rfl (zwk_s rfl (zwk_s rfl (zwk_s rfl (zwk_s rfl (zwk_s rfl zwk_0))))))))
            · skip
              first | refine zs_iinc (pc := 33) C dX9_wordAt_33 rfl (by decide) (by omega) ?_ | refine zs_iincF (pc := 33) C dX9_wordAt_33 rfl (by decide) (fun z33 hz331 hz332 => ?_)
              dsimp only [zset, zclr, znone]
              refine zs_goto (tgt := 18) (pc := 36) C dX9_wordAt_36 (by decide) ?_
              exact zs_wk (ih18 _ (by omega) (by rw [show x4 + (x5 + 1) = x4 + x5 + 1 by omega]; exact hws.1 (by omega)) (by first | omega | (simp only [zuI_1, zuI_2, zuJ_1, zuJ_2, zuJ_3, zuP_1, zuP_2, zuP_3, zuC_1, zuC_2, reduceIte, Nat.reduceEqDiff, false_and, and_false, true_and, and_true, and_self, or_true, true_or, or_false, false_or]; omega))) (zwk_s rfl (zwk_s rfl (zwk_s rfl (zwk_s rfl (zwk_s rfl (zwk_s rfl (zwk_n (zwk_n zwk_0))))))))
        exact zs_wk (L18 _ _ (by omega) (by rw [show x4 + 0 = x4 by omega]; exact h5_1) (Nat.lt_succ_self _)) (zwk_s rfl (zwk_s rfl (zwk_s rfl (zwk_s rfl (zwk_s rfl (zwk_s rfl (zwk_n (zwk_n zwk_0))))))))
  exact zs_wk (L5 _ _ _ (by omega) rfl (Nat.lt_succ_self _)) (zwk_s rfl (zwk_s rfl (zwk_s rfl (zwk_s rfl (zwk_s rfl (zwk_n (zwk_n (zwk_n zwk_0))))))))

set_option maxHeartbeats 4000000 in
set_option maxRecDepth 100000 in
theorem c_X9_signToken {l : Launch} {Γ : zΓ} {G : zH} {w : Nat}  (hX : zXs Γ) (hn : G.1 1007 w 0 < G.1 1006 w 0) (ha : G.1 1010 w 0 = G.1 1007 w 0) : zMet l Γ yX9_signToken cX9_signToken 4 none 0 [zr 10 w] G (zpv (fun G' => zsm [1007, 1008, 1009] G G' ∧ (G'.1 1007 w 0 ≤ G'.1 1006 w 0 ∧ G'.1 1010 w 0 < G'.1 1007 w 0 ∧ ((G'.1 1008 w 0 = 5 → 0 ≤ G'.1 1009 w 0 ∧ G'.1 1009 w 0 ≤ 5) ∧ (G'.1 1008 w 0 = 1 → 0 ≤ G'.1 1009 w 0 ∧ G'.1 1009 w 0 ≤ 23) ∧ (G'.1 1008 w 0 = 3 → 0 ≤ G'.1 1009 w 0))))) := by
  refine zMet_of RX9 hX (by decide) rfl (Nat.le_of_ble_eq_true rfl) ?_
  intro p e s m args below meth c C hr hlk
  show Z p l e (zrm 0) s m args below meth c Γ 4 0 0 (MQ below (zQc Γ (zpv (fun G' => zsm [1007, 1008, 1009] G G' ∧ (G'.1 1007 w 0 ≤ G'.1 1006 w 0 ∧ G'.1 1010 w 0 < G'.1 1007 w 0 ∧ ((G'.1 1008 w 0 = 5 → 0 ≤ G'.1 1009 w 0 ∧ G'.1 1009 w 0 ≤ 5) ∧ (G'.1 1008 w 0 = 1 → 0 ≤ G'.1 1009 w 0 ∧ G'.1 1009 w 0 ≤ 23) ∧ (G'.1 1008 w 0 = 3 → 0 ≤ G'.1 1009 w 0)))))) args s 0 0 (zA Γ)) 0 [some (zr 10 w), none, none, none] [] G
  refine zs_aload_n (pc := 0) C dX9_signToken_0 rfl ?_
  refine zs_aload_n (pc := 1) C dX9_signToken_1 rfl ?_
  refine zs_getf (pc := 2) C dX9_signToken_2 w_X9_7 f_10_0 (by decide) ?_
  refine zs_aload_n (pc := 5) C dX9_signToken_5 rfl ?_
  refine zs_geti (r := 1007) (pc := 6) C dX9_signToken_6 w_X9_193 f_10_7 rfl (r_1007 0) (fun v6 e6 l6 u6 => ?_)
  refine zs_iald (r := 2057) (pc := 9) C dX9_signToken_9 a_57 (by decide) (by omega) rfl (r_2057 _) (fun v9 e9 l9 u9 => ?_)
  refine zs_puti (r := 1009) (pc := 10) C dX9_signToken_10 w_X9_207 f_10_9 rfl (r_1009 0) (by omega) ?_
  refine zs_aload_n (pc := 13) C dX9_signToken_13 rfl ?_
  refine zs_dupa (pc := 14) C dX9_signToken_14 ?_
  refine zs_geti (r := 1007) (pc := 15) C dX9_signToken_15 w_X9_193 f_10_7 rfl (r_1007 0) (fun v15 e15 l15 u15 => ?_)
  try simp only [zuI_1, zuI_2, zuJ_1, zuJ_2, zuJ_3, zuP_1, zuP_2, zuP_3, zuC_1, zuC_2, reduceIte, Nat.reduceEqDiff, false_and, and_false, true_and, and_true, and_self, or_true, true_or, or_false, false_or] at e15
  refine zs_iconst (pc := 18) C dX9_signToken_18 (by decide) ?_
  first | refine zs_iadd (pc := 19) C dX9_signToken_19 (by omega) ?_ | refine zs_iaddF (pc := 19) C dX9_signToken_19 (fun z19 hz191 hz192 => ?_)
  refine zs_puti (r := 1007) (pc := 20) C dX9_signToken_20 w_X9_193 f_10_7 rfl (r_1007 0) (by omega) ?_
  refine zs_heap (P := fun G1 => zsm [1009, 1007] G G1 ∧ G1.1 1007 w 0 = G.1 1007 w 0 + 1 ∧ G1.1 1010 w 0 = G.1 1010 w 0 ∧ G1.1 1006 w 0 = G.1 1006 w 0) ⟨(by repeat (first | exact zsm_rf | assumption | refine zsm_C (by decide) ?_ | refine zsm_I (by decide) ?_ | refine zsm_J ?_ | refine zsm_c (by assumption) (by decide) ?_)), by simp only [zuI_1, zuI_2, zuJ_1, zuJ_2, zuJ_3, zuP_1, zuP_2, zuP_3, zuC_1, zuC_2, reduceIte, Nat.reduceEqDiff, false_and, and_false, true_and, and_true, and_self, or_true, true_or, or_false, false_or]; omega, by simp only [zuI_1, zuI_2, zuJ_1, zuJ_2, zuJ_3, zuP_1, zuP_2, zuP_3, zuC_1, zuC_2, reduceIte, Nat.reduceEqDiff, false_and, and_false, true_and, and_true, and_self, or_true, true_or, or_false, false_or], by simp only [zuI_1, zuI_2, zuJ_1, zuJ_2, zuJ_3, zuP_1, zuP_2, zuP_3, zuC_1, zuC_2, reduceIte, Nat.reduceEqDiff, false_and, and_false, true_and, and_true, and_self, or_true, true_or, or_false, false_or]⟩ (fun G1 hG1 => ?_)
  obtain ⟨hh1, hh2, hh3, hh4⟩ := hG1
  refine zs_aload_n (pc := 23) C dX9_signToken_23 rfl ?_
  have J50 : ∀ (_ : Nat), Z p l e (zrm 0) s m args below meth c Γ 4 0 0 (MQ below (zQc Γ (zpv (fun G' => zsm [1007, 1008, 1009] G G' ∧ (G'.1 1007 w 0 ≤ G'.1 1006 w 0 ∧ G'.1 1010 w 0 < G'.1 1007 w 0 ∧ ((G'.1 1008 w 0 = 5 → 0 ≤ G'.1 1009 w 0 ∧ G'.1 1009 w 0 ≤ 5) ∧ (G'.1 1008 w 0 = 1 → 0 ≤ G'.1 1009 w 0 ∧ G'.1 1009 w 0 ≤ 23) ∧ (G'.1 1008 w 0 = 3 → 0 ≤ G'.1 1009 w 0)))))) args s 0 0 (zA Γ)) 50 [some (zr 10 w), none, none, none] [] G1 := by
    intro _u 
    refine zs_aload_n (pc := 50) C dX9_signToken_50 rfl ?_
    have J75 : ∀ (x1 : Int), (x1 = 0 ∨ G1.1 1007 w 0 < G1.1 1006 w 0) → Z p l e (zrm 0) s m args below meth c Γ 4 0 0 (MQ below (zQc Γ (zpv (fun G' => zsm [1007, 1008, 1009] G G' ∧ (G'.1 1007 w 0 ≤ G'.1 1006 w 0 ∧ G'.1 1010 w 0 < G'.1 1007 w 0 ∧ ((G'.1 1008 w 0 = 5 → 0 ≤ G'.1 1009 w 0 ∧ G'.1 1009 w 0 ≤ 5) ∧ (G'.1 1008 w 0 = 1 → 0 ≤ G'.1 1009 w 0 ∧ G'.1 1009 w 0 ≤ 23) ∧ (G'.1 1008 w 0 = 3 → 0 ≤ G'.1 1009 w 0)))))) args s 0 0 (zA Γ)) 75 [some (zr 10 w), some (zi x1), none, none] [] G1 := by
      intro x1 h75_0
      refine zs_aload_n (pc := 75) C dX9_signToken_75 rfl ?_
      have J96 : ∀ (x2 : Int), (x2 = 0 ∨ G1.1 1007 w 0 < G1.1 1006 w 0) → Z p l e (zrm 0) s m args below meth c Γ 4 0 0 (MQ below (zQc Γ (zpv (fun G' => zsm [1007, 1008, 1009] G G' ∧ (G'.1 1007 w 0 ≤ G'.1 1006 w 0 ∧ G'.1 1010 w 0 < G'.1 1007 w 0 ∧ ((G'.1 1008 w 0 = 5 → 0 ≤ G'.1 1009 w 0 ∧ G'.1 1009 w 0 ≤ 5) ∧ (G'.1 1008 w 0 = 1 → 0 ≤ G'.1 1009 w 0 ∧ G'.1 1009 w 0 ≤ 23) ∧ (G'.1 1008 w 0 = 3 → 0 ≤ G'.1 1009 w 0)))))) args s 0 0 (zA Γ)) 96 [some (zr 10 w), some (zi x1), some (zi x2), none] [] G1 := by
        intro x2 h96_0
        refine zs_aload_n (pc := 96) C dX9_signToken_96 rfl ?_
        have J117 : ∀ (x3 : Int), (x3 = 0 ∨ G1.1 1007 w 0 < G1.1 1006 w 0) → Z p l e (zrm 0) s m args below meth c Γ 4 0 0 (MQ below (zQc Γ (zpv (fun G' => zsm [1007, 1008, 1009] G G' ∧ (G'.1 1007 w 0 ≤ G'.1 1006 w 0 ∧ G'.1 1010 w 0 < G'.1 1007 w 0 ∧ ((G'.1 1008 w 0 = 5 → 0 ≤ G'.1 1009 w 0 ∧ G'.1 1009 w 0 ≤ 5) ∧ (G'.1 1008 w 0 = 1 → 0 ≤ G'.1 1009 w 0 ∧ G'.1 1009 w 0 ≤ 23) ∧ (G'.1 1008 w 0 = 3 → 0 ≤ G'.1 1009 w 0)))))) args s 0 0 (zA Γ)) 117 [some (zr 10 w), some (zi x1), some (zi x2), some (zi x3)] [] G1 := by
          intro x3 h117_0
          refine zs_iload_n (pc := 117) C dX9_signToken_117 rfl ?_
          have J135 : ∀ (G2 : zH), (zsm [1007, 1009] G G2) → (G2.1 1007 w 0 ≤ G2.1 1006 w 0 ∧ G2.1 1010 w 0 < G2.1 1007 w 0) → Z p l e (zrm 0) s m args below meth c Γ 4 0 0 (MQ below (zQc Γ (zpv (fun G' => zsm [1007, 1008, 1009] G G' ∧ (G'.1 1007 w 0 ≤ G'.1 1006 w 0 ∧ G'.1 1010 w 0 < G'.1 1007 w 0 ∧ ((G'.1 1008 w 0 = 5 → 0 ≤ G'.1 1009 w 0 ∧ G'.1 1009 w 0 ≤ 5) ∧ (G'.1 1008 w 0 = 1 → 0 ≤ G'.1 1009 w 0 ∧ G'.1 1009 w 0 ≤ 23) ∧ (G'.1 1008 w 0 = 3 → 0 ≤ G'.1 1009 w 0)))))) args s 0 0 (zA Γ)) 135 [some (zr 10 w), some (zi x1), some (zi x2), some (zi x3)] [] G2 := by
            intro G2 h135_0 h135_1
            refine zs_aload_n (pc := 135) C dX9_signToken_135 rfl ?_
            refine zs_iconst (pc := 136) C dX9_signToken_136 (by decide) ?_
            refine zs_puti (r := 1008) (pc := 137) C dX9_signToken_137 w_X9_196 f_10_8 rfl (r_1008 0) (by omega) ?_
            refine zs_aload_n (pc := 140) C dX9_signToken_140 rfl ?_
            refine zs_aload_n (pc := 141) C dX9_signToken_141 rfl ?_
            refine zs_geti (r := 1009) (pc := 142) C dX9_signToken_142 w_X9_207 f_10_9 rfl (r_1009 0) (fun v142 e142 l142 u142 => ?_)
            try simp only [zuI_1, zuI_2, zuJ_1, zuJ_2, zuJ_3, zuP_1, zuP_2, zuP_3, zuC_1, zuC_2, reduceIte, Nat.reduceEqDiff, false_and, and_false, true_and, and_true, and_self, or_true, true_or, or_false, false_or] at e142
            refine zs_bipush (pc := 145) C dX9_signToken_145 (by decide) (by decide) ?_
            refine zs_icmp_ne (tgt := 154) (pc := 147) C dX9_signToken_147 (by decide) (fun h147 => ?_) (fun h147 => ?_)
            · skip
              refine zs_aload_n (pc := 154) C dX9_signToken_154 rfl ?_
              refine zs_geti (r := 1009) (pc := 155) C dX9_signToken_155 w_X9_207 f_10_9 rfl (r_1009 0) (fun v155 e155 l155 u155 => ?_)
              try simp only [zuI_1, zuI_2, zuJ_1, zuJ_2, zuJ_3, zuP_1, zuP_2, zuP_3, zuC_1, zuC_2, reduceIte, Nat.reduceEqDiff, false_and, and_false, true_and, and_true, and_self, or_true, true_or, or_false, false_or] at e155
              refine zs_bipush (pc := 158) C dX9_signToken_158 (by decide) (by decide) ?_
              refine zs_icmp_ne (tgt := 183) (pc := 160) C dX9_signToken_160 (by decide) (fun h160 => ?_) (fun h160 => ?_)
              · skip
                refine zs_iload_n (pc := 183) C dX9_signToken_183 rfl ?_
                refine zs_if_eq (tgt := 191) (pc := 184) C dX9_signToken_184 (by decide) (fun h184 => ?_) (fun h184 => ?_)
                · skip
                  refine zs_iconst (pc := 191) C dX9_signToken_191 (by decide) ?_
                  refine zs_puti (r := 1009) (pc := 192) C dX9_signToken_192 w_X9_207 f_10_9 rfl (r_1009 0) (by omega) ?_
                  refine zs_goto (tgt := 290) (pc := 195) C dX9_signToken_195 (by decide) ?_
                  exact zs_vret (pc := 290) C hr hlk dX9_signToken_290 ⟨by repeat (first | exact zsm_rf | assumption | refine zsm_C (by decide) ?_ | refine zsm_I (by decide) ?_ | refine zsm_J ?_ | refine zsm_c (by assumption) (by decide) ?_), by first | omega | (simp only [zuI_1, zuI_2, zuJ_1, zuJ_2, zuJ_3, zuP_1, zuP_2, zuP_3, zuC_1, zuC_2, reduceIte, Nat.reduceEqDiff, false_and, and_false, true_and, and_true, and_self, or_true, true_or, or_false, false_or]; omega)⟩
                · skip
                  refine zs_iconst (pc := 187) C dX9_signToken_187 (by decide) ?_
                  refine zs_goto (tgt := 192) (pc := 188) C dX9_signToken_188 (by decide) ?_
                  refine zs_puti (r := 1009) (pc := 192) C dX9_signToken_192 w_X9_207 f_10_9 rfl (r_1009 0) (by omega) ?_
                  refine zs_goto (tgt := 290) (pc := 195) C dX9_signToken_195 (by decide) ?_
                  exact zs_vret (pc := 290) C hr hlk dX9_signToken_290 ⟨by repeat (first | exact zsm_rf | assumption | refine zsm_C (by decide) ?_ | refine zsm_I (by decide) ?_ | refine zsm_J ?_ | refine zsm_c (by assumption) (by decide) ?_), by first | omega | (simp only [zuI_1, zuI_2, zuJ_1, zuJ_2, zuJ_3, zuP_1, zuP_2, zuP_3, zuC_1, zuC_2, reduceIte, Nat.reduceEqDiff, false_and, and_false, true_and, and_true, and_self, or_true, true_or, or_false, false_or]; omega)⟩
              · skip
                refine zs_iload_n (pc := 163) C dX9_signToken_163 rfl ?_
                refine zs_if_eq (tgt := 171) (pc := 164) C dX9_signToken_164 (by decide) (fun h164 => ?_) (fun h164 => ?_)
                · skip
                  refine zs_iload_n (pc := 171) C dX9_signToken_171 rfl ?_
                  refine zs_if_eq (tgt := 179) (pc := 172) C dX9_signToken_172 (by decide) (fun h172 => ?_) (fun h172 => ?_)
                  · skip
                    refine zs_iconst (pc := 179) C dX9_signToken_179 (by decide) ?_
                    refine zs_goto (tgt := 192) (pc := 180) C dX9_signToken_180 (by decide) ?_
                    refine zs_puti (r := 1009) (pc := 192) C dX9_signToken_192 w_X9_207 f_10_9 rfl (r_1009 0) (by omega) ?_
                    refine zs_goto (tgt := 290) (pc := 195) C dX9_signToken_195 (by decide) ?_
                    exact zs_vret (pc := 290) C hr hlk dX9_signToken_290 ⟨by repeat (first | exact zsm_rf | assumption | refine zsm_C (by decide) ?_ | refine zsm_I (by decide) ?_ | refine zsm_J ?_ | refine zsm_c (by assumption) (by decide) ?_), by first | omega | (simp only [zuI_1, zuI_2, zuJ_1, zuJ_2, zuJ_3, zuP_1, zuP_2, zuP_3, zuC_1, zuC_2, reduceIte, Nat.reduceEqDiff, false_and, and_false, true_and, and_true, and_self, or_true, true_or, or_false, false_or]; omega)⟩
                  · skip
                    refine zs_iconst (pc := 175) C dX9_signToken_175 (by decide) ?_
                    refine zs_goto (tgt := 192) (pc := 176) C dX9_signToken_176 (by decide) ?_
                    refine zs_puti (r := 1009) (pc := 192) C dX9_signToken_192 w_X9_207 f_10_9 rfl (r_1009 0) (by omega) ?_
                    refine zs_goto (tgt := 290) (pc := 195) C dX9_signToken_195 (by decide) ?_
                    exact zs_vret (pc := 290) C hr hlk dX9_signToken_290 ⟨by repeat (first | exact zsm_rf | assumption | refine zsm_C (by decide) ?_ | refine zsm_I (by decide) ?_ | refine zsm_J ?_ | refine zsm_c (by assumption) (by decide) ?_), by first | omega | (simp only [zuI_1, zuI_2, zuJ_1, zuJ_2, zuJ_3, zuP_1, zuP_2, zuP_3, zuC_1, zuC_2, reduceIte, Nat.reduceEqDiff, false_and, and_false, true_and, and_true, and_self, or_true, true_or, or_false, false_or]; omega)⟩
                · skip
                  refine zs_iconst (pc := 167) C dX9_signToken_167 (by decide) ?_
                  refine zs_goto (tgt := 192) (pc := 168) C dX9_signToken_168 (by decide) ?_
                  refine zs_puti (r := 1009) (pc := 192) C dX9_signToken_192 w_X9_207 f_10_9 rfl (r_1009 0) (by omega) ?_
                  refine zs_goto (tgt := 290) (pc := 195) C dX9_signToken_195 (by decide) ?_
                  exact zs_vret (pc := 290) C hr hlk dX9_signToken_290 ⟨by repeat (first | exact zsm_rf | assumption | refine zsm_C (by decide) ?_ | refine zsm_I (by decide) ?_ | refine zsm_J ?_ | refine zsm_c (by assumption) (by decide) ?_), by first | omega | (simp only [zuI_1, zuI_2, zuJ_1, zuJ_2, zuJ_3, zuP_1, zuP_2, zuP_3, zuC_1, zuC_2, reduceIte, Nat.reduceEqDiff, false_and, and_false, true_and, and_true, and_self, or_true, true_or, or_false, false_or]; omega)⟩
            · skip
              refine zs_iconst (pc := 150) C dX9_signToken_150 (by decide) ?_
              refine zs_goto (tgt := 192) (pc := 151) C dX9_signToken_151 (by decide) ?_
              refine zs_puti (r := 1009) (pc := 192) C dX9_signToken_192 w_X9_207 f_10_9 rfl (r_1009 0) (by omega) ?_
              refine zs_goto (tgt := 290) (pc := 195) C dX9_signToken_195 (by decide) ?_
              exact zs_vret (pc := 290) C hr hlk dX9_signToken_290 ⟨by repeat (first | exact zsm_rf | assumption | refine zsm_C (by decide) ?_ | refine zsm_I (by decide) ?_ | refine zsm_J ?_ | refine zsm_c (by assumption) (by decide) ?_), by first | omega | (simp only [zuI_1, zuI_2, zuJ_1, zuJ_2, zuJ_3, zuP_1, zuP_2, zuP_3, zuC_1, zuC_2, reduceIte, Nat.reduceEqDiff, false_and, and_false, true_and, and_true, and_self, or_true, true_or, or_false, false_or]; omega)⟩
          refine zs_if_ne (tgt := 125) (pc := 118) C dX9_signToken_118 (by decide) (fun h118 => ?_) (fun h118 => ?_)
          · skip
            refine zs_aload_n (pc := 125) C dX9_signToken_125 rfl ?_
            refine zs_dupa (pc := 126) C dX9_signToken_126 ?_
            refine zs_geti (r := 1007) (pc := 127) C dX9_signToken_127 w_X9_193 f_10_7 rfl (r_1007 0) (fun v127 e127 l127 u127 => ?_)
            refine zs_iconst (pc := 130) C dX9_signToken_130 (by decide) ?_
            first | refine zs_iadd (pc := 131) C dX9_signToken_131 (by omega) ?_ | refine zs_iaddF (pc := 131) C dX9_signToken_131 (fun z131 hz1311 hz1312 => ?_)
            refine zs_puti (r := 1007) (pc := 132) C dX9_signToken_132 w_X9_193 f_10_7 rfl (r_1007 0) (by omega) ?_
            exact zs_wk (J135 _ (by repeat (first | exact zsm_rf | assumption | refine zsm_C (by decide) ?_ | refine zsm_I (by decide) ?_ | refine zsm_J ?_ | refine zsm_c (by assumption) (by decide) ?_)) (by first | omega | (simp only [zuI_1, zuI_2, zuJ_1, zuJ_2, zuJ_3, zuP_1, zuP_2, zuP_3, zuC_1, zuC_2, reduceIte, Nat.reduceEqDiff, false_and, and_false, true_and, and_true, and_self, or_true, true_or, or_false, false_or]; omega))) (zwk_s rfl (zwk_s rfl (zwk_s rfl (zwk_s rfl zwk_0))))
          · skip
            refine zs_iload_n (pc := 121) C dX9_signToken_121 rfl ?_
            refine zs_if_eq (tgt := 135) (pc := 122) C dX9_signToken_122 (by decide) (fun h122 => ?_) (fun h122 => ?_)
            · skip
              exact zs_wk (J135 _ (by repeat (first | exact zsm_rf | assumption | refine zsm_C (by decide) ?_ | refine zsm_I (by decide) ?_ | refine zsm_J ?_ | refine zsm_c (by assumption) (by decide) ?_)) (by first | omega | (simp only [zuI_1, zuI_2, zuJ_1, zuJ_2, zuJ_3, zuP_1, zuP_2, zuP_3, zuC_1, zuC_2, reduceIte, Nat.reduceEqDiff, false_and, and_false, true_and, and_true, and_self, or_true, true_or, or_false, false_or]; omega))) (zwk_s rfl (zwk_s rfl (zwk_s rfl (zwk_s rfl zwk_0))))
            · skip
              refine zs_aload_n (pc := 125) C dX9_signToken_125 rfl ?_
              refine zs_dupa (pc := 126) C dX9_signToken_126 ?_
              refine zs_geti (r := 1007) (pc := 127) C dX9_signToken_127 w_X9_193 f_10_7 rfl (r_1007 0) (fun v127 e127 l127 u127 => ?_)
              refine zs_iconst (pc := 130) C dX9_signToken_130 (by decide) ?_
              first | refine zs_iadd (pc := 131) C dX9_signToken_131 (by omega) ?_ | refine zs_iaddF (pc := 131) C dX9_signToken_131 (fun z131 hz1311 hz1312 => ?_)
              refine zs_puti (r := 1007) (pc := 132) C dX9_signToken_132 w_X9_193 f_10_7 rfl (r_1007 0) (by omega) ?_
              exact zs_wk (J135 _ (by repeat (first | exact zsm_rf | assumption | refine zsm_C (by decide) ?_ | refine zsm_I (by decide) ?_ | refine zsm_J ?_ | refine zsm_c (by assumption) (by decide) ?_)) (by first | omega | (simp only [zuI_1, zuI_2, zuJ_1, zuJ_2, zuJ_3, zuP_1, zuP_2, zuP_3, zuC_1, zuC_2, reduceIte, Nat.reduceEqDiff, false_and, and_false, true_and, and_true, and_self, or_true, true_or, or_false, false_or]; omega))) (zwk_s rfl (zwk_s rfl (zwk_s rfl (zwk_s rfl zwk_0))))
        refine zs_geti (r := 1009) (pc := 97) C dX9_signToken_97 w_X9_207 f_10_9 rfl (r_1009 0) (fun v97 e97 l97 u97 => ?_)
        refine zs_bipush (pc := 100) C dX9_signToken_100 (by decide) (by decide) ?_
        refine zs_icmp_ne (tgt := 115) (pc := 102) C dX9_signToken_102 (by decide) (fun h102 => ?_) (fun h102 => ?_)
        · skip
          refine zs_iconst (pc := 115) C dX9_signToken_115 (by decide) ?_
          refine zs_istore_n (pc := 116) C dX9_signToken_116 (by decide) ?_
          dsimp only [zset, zclr, znone]
          exact zs_wk (J117 _ (by first | omega | (simp only [zuI_1, zuI_2, zuJ_1, zuJ_2, zuJ_3, zuP_1, zuP_2, zuP_3, zuC_1, zuC_2, reduceIte, Nat.reduceEqDiff, false_and, and_false, true_and, and_true, and_self, or_true, true_or, or_false, false_or]; omega))) (zwk_s rfl (zwk_s rfl (zwk_s rfl (zwk_s rfl zwk_0))))
        · skip
          refine zs_iload_n (pc := 105) C dX9_signToken_105 rfl ?_
          refine zs_bipush (pc := 106) C dX9_signToken_106 (by decide) (by decide) ?_
          refine zs_icmp_ne (tgt := 115) (pc := 108) C dX9_signToken_108 (by decide) (fun h108 => ?_) (fun h108 => ?_)
          · skip
            refine zs_iconst (pc := 115) C dX9_signToken_115 (by decide) ?_
            refine zs_istore_n (pc := 116) C dX9_signToken_116 (by decide) ?_
            dsimp only [zset, zclr, znone]
            exact zs_wk (J117 _ (by first | omega | (simp only [zuI_1, zuI_2, zuJ_1, zuJ_2, zuJ_3, zuP_1, zuP_2, zuP_3, zuC_1, zuC_2, reduceIte, Nat.reduceEqDiff, false_and, and_false, true_and, and_true, and_self, or_true, true_or, or_false, false_or]; omega))) (zwk_s rfl (zwk_s rfl (zwk_s rfl (zwk_s rfl zwk_0))))
          · skip
            refine zs_iconst (pc := 111) C dX9_signToken_111 (by decide) ?_
            refine zs_goto (tgt := 116) (pc := 112) C dX9_signToken_112 (by decide) ?_
            refine zs_istore_n (pc := 116) C dX9_signToken_116 (by decide) ?_
            dsimp only [zset, zclr, znone]
            exact zs_wk (J117 _ (by first | omega | (simp only [zuI_1, zuI_2, zuJ_1, zuJ_2, zuJ_3, zuP_1, zuP_2, zuP_3, zuC_1, zuC_2, reduceIte, Nat.reduceEqDiff, false_and, and_false, true_and, and_true, and_self, or_true, true_or, or_false, false_or]; omega))) (zwk_s rfl (zwk_s rfl (zwk_s rfl (zwk_s rfl zwk_0))))
      refine zs_geti (r := 1009) (pc := 76) C dX9_signToken_76 w_X9_207 f_10_9 rfl (r_1009 0) (fun v76 e76 l76 u76 => ?_)
      refine zs_bipush (pc := 79) C dX9_signToken_79 (by decide) (by decide) ?_
      refine zs_icmp_eq (tgt := 94) (pc := 81) C dX9_signToken_81 (by decide) (fun h81 => ?_) (fun h81 => ?_)
      · skip
        refine zs_iconst (pc := 94) C dX9_signToken_94 (by decide) ?_
        refine zs_istore_n (pc := 95) C dX9_signToken_95 (by decide) ?_
        dsimp only [zset, zclr, znone]
        exact zs_wk (J96 _ (by first | omega | (simp only [zuI_1, zuI_2, zuJ_1, zuJ_2, zuJ_3, zuP_1, zuP_2, zuP_3, zuC_1, zuC_2, reduceIte, Nat.reduceEqDiff, false_and, and_false, true_and, and_true, and_self, or_true, true_or, or_false, false_or]; omega))) (zwk_s rfl (zwk_s rfl (zwk_s rfl (zwk_n zwk_0))))
      · skip
        refine zs_iload_n (pc := 84) C dX9_signToken_84 rfl ?_
        refine zs_bipush (pc := 85) C dX9_signToken_85 (by decide) (by decide) ?_
        refine zs_icmp_ne (tgt := 94) (pc := 87) C dX9_signToken_87 (by decide) (fun h87 => ?_) (fun h87 => ?_)
        · skip
          refine zs_iconst (pc := 94) C dX9_signToken_94 (by decide) ?_
          refine zs_istore_n (pc := 95) C dX9_signToken_95 (by decide) ?_
          dsimp only [zset, zclr, znone]
          exact zs_wk (J96 _ (by first | omega | (simp only [zuI_1, zuI_2, zuJ_1, zuJ_2, zuJ_3, zuP_1, zuP_2, zuP_3, zuC_1, zuC_2, reduceIte, Nat.reduceEqDiff, false_and, and_false, true_and, and_true, and_self, or_true, true_or, or_false, false_or]; omega))) (zwk_s rfl (zwk_s rfl (zwk_s rfl (zwk_n zwk_0))))
        · skip
          refine zs_iconst (pc := 90) C dX9_signToken_90 (by decide) ?_
          refine zs_goto (tgt := 95) (pc := 91) C dX9_signToken_91 (by decide) ?_
          refine zs_istore_n (pc := 95) C dX9_signToken_95 (by decide) ?_
          dsimp only [zset, zclr, znone]
          exact zs_wk (J96 _ (by first | omega | (simp only [zuI_1, zuI_2, zuJ_1, zuJ_2, zuJ_3, zuP_1, zuP_2, zuP_3, zuC_1, zuC_2, reduceIte, Nat.reduceEqDiff, false_and, and_false, true_and, and_true, and_self, or_true, true_or, or_false, false_or]; omega))) (zwk_s rfl (zwk_s rfl (zwk_s rfl (zwk_n zwk_0))))
    refine zs_geti (r := 1007) (pc := 51) C dX9_signToken_51 w_X9_193 f_10_7 rfl (r_1007 0) (fun v51 e51 l51 u51 => ?_)
    refine zs_aload_n (pc := 54) C dX9_signToken_54 rfl ?_
    refine zs_geti (r := 1006) (pc := 55) C dX9_signToken_55 w_X9_190 f_10_6 rfl (r_1006 0) (fun v55 e55 l55 u55 => ?_)
    refine zs_icmp_ge (tgt := 73) (pc := 58) C dX9_signToken_58 (by decide) (fun h58 => ?_) (fun h58 => ?_)
    · skip
      refine zs_iconst (pc := 73) C dX9_signToken_73 (by decide) ?_
      refine zs_istore_n (pc := 74) C dX9_signToken_74 (by decide) ?_
      dsimp only [zset, zclr, znone]
      exact zs_wk (J75 _ (by first | omega | (simp only [zuI_1, zuI_2, zuJ_1, zuJ_2, zuJ_3, zuP_1, zuP_2, zuP_3, zuC_1, zuC_2, reduceIte, Nat.reduceEqDiff, false_and, and_false, true_and, and_true, and_self, or_true, true_or, or_false, false_or]; omega))) (zwk_s rfl (zwk_s rfl (zwk_n (zwk_n zwk_0))))
    · skip
      refine zs_aload_n (pc := 61) C dX9_signToken_61 rfl ?_
      refine zs_getf (pc := 62) C dX9_signToken_62 w_X9_7 f_10_0 (by decide) ?_
      refine zs_aload_n (pc := 65) C dX9_signToken_65 rfl ?_
      refine zs_geti (r := 1007) (pc := 66) C dX9_signToken_66 w_X9_193 f_10_7 rfl (r_1007 0) (fun v66 e66 l66 u66 => ?_)
      refine zs_iald (r := 2057) (pc := 69) C dX9_signToken_69 a_57 (by decide) (by omega) rfl (r_2057 _) (fun v69 e69 l69 u69 => ?_)
      refine zs_goto (tgt := 74) (pc := 70) C dX9_signToken_70 (by decide) ?_
      refine zs_istore_n (pc := 74) C dX9_signToken_74 (by decide) ?_
      dsimp only [zset, zclr, znone]
      exact zs_wk (J75 _ (by first | omega | (simp only [zuI_1, zuI_2, zuJ_1, zuJ_2, zuJ_3, zuP_1, zuP_2, zuP_3, zuC_1, zuC_2, reduceIte, Nat.reduceEqDiff, false_and, and_false, true_and, and_true, and_self, or_true, true_or, or_false, false_or]; omega))) (zwk_s rfl (zwk_s rfl (zwk_n (zwk_n zwk_0))))
  refine zs_geti (r := 1009) (pc := 24) C dX9_signToken_24 w_X9_207 f_10_9 rfl (r_1009 0) (fun v24 e24 l24 u24 => ?_)
  try simp only [zuI_1, zuI_2, zuJ_1, zuJ_2, zuJ_3, zuP_1, zuP_2, zuP_3, zuC_1, zuC_2, reduceIte, Nat.reduceEqDiff, false_and, and_false, true_and, and_true, and_self, or_true, true_or, or_false, false_or] at e24
  refine zs_bipush (pc := 27) C dX9_signToken_27 (by decide) (by decide) ?_
  refine zs_icmp_eq (tgt := 50) (pc := 29) C dX9_signToken_29 (by decide) (fun h29 => ?_) (fun h29 => ?_)
  · skip
    exact zs_wk (J50 _ ) (zwk_s rfl (zwk_n (zwk_n (zwk_n zwk_0))))
  · skip
    refine zs_aload_n (pc := 32) C dX9_signToken_32 rfl ?_
    refine zs_geti (r := 1009) (pc := 33) C dX9_signToken_33 w_X9_207 f_10_9 rfl (r_1009 0) (fun v33 e33 l33 u33 => ?_)
    try simp only [zuI_1, zuI_2, zuJ_1, zuJ_2, zuJ_3, zuP_1, zuP_2, zuP_3, zuC_1, zuC_2, reduceIte, Nat.reduceEqDiff, false_and, and_false, true_and, and_true, and_self, or_true, true_or, or_false, false_or] at e33
    refine zs_bipush (pc := 36) C dX9_signToken_36 (by decide) (by decide) ?_
    refine zs_icmp_eq (tgt := 50) (pc := 38) C dX9_signToken_38 (by decide) (fun h38 => ?_) (fun h38 => ?_)
    · skip
      exact zs_wk (J50 _ ) (zwk_s rfl (zwk_n (zwk_n (zwk_n zwk_0))))
    · skip
      refine zs_aload_n (pc := 41) C dX9_signToken_41 rfl ?_
      refine zs_geti (r := 1009) (pc := 42) C dX9_signToken_42 w_X9_207 f_10_9 rfl (r_1009 0) (fun v42 e42 l42 u42 => ?_)
      try simp only [zuI_1, zuI_2, zuJ_1, zuJ_2, zuJ_3, zuP_1, zuP_2, zuP_3, zuC_1, zuC_2, reduceIte, Nat.reduceEqDiff, false_and, and_false, true_and, and_true, and_self, or_true, true_or, or_false, false_or] at e42
      refine zs_bipush (pc := 45) C dX9_signToken_45 (by decide) (by decide) ?_
      refine zs_icmp_ne (tgt := 198) (pc := 47) C dX9_signToken_47 (by decide) (fun h47 => ?_) (fun h47 => ?_)
      · skip
        refine zs_aload_n (pc := 198) C dX9_signToken_198 rfl ?_
        have J276 : ∀ (x1 : Int), Z p l e (zrm 0) s m args below meth c Γ 4 0 0 (MQ below (zQc Γ (zpv (fun G' => zsm [1007, 1008, 1009] G G' ∧ (G'.1 1007 w 0 ≤ G'.1 1006 w 0 ∧ G'.1 1010 w 0 < G'.1 1007 w 0 ∧ ((G'.1 1008 w 0 = 5 → 0 ≤ G'.1 1009 w 0 ∧ G'.1 1009 w 0 ≤ 5) ∧ (G'.1 1008 w 0 = 1 → 0 ≤ G'.1 1009 w 0 ∧ G'.1 1009 w 0 ≤ 23) ∧ (G'.1 1008 w 0 = 3 → 0 ≤ G'.1 1009 w 0)))))) args s 0 0 (zA Γ)) 276 [some (zr 10 w), some (zi x1), none, none] [] G1 := by
          intro x1 
          refine zs_aload_n (pc := 276) C dX9_signToken_276 rfl ?_
          refine zs_iload_n (pc := 277) C dX9_signToken_277 rfl ?_
          refine zs_if_eq (tgt := 285) (pc := 278) C dX9_signToken_278 (by decide) (fun h278 => ?_) (fun h278 => ?_)
          · skip
            refine zs_bipush (pc := 285) C dX9_signToken_285 (by decide) (by decide) ?_
            refine zs_puti (r := 1008) (pc := 287) C dX9_signToken_287 w_X9_196 f_10_8 rfl (r_1008 0) (by omega) ?_
            exact zs_vret (pc := 290) C hr hlk dX9_signToken_290 ⟨by repeat (first | exact zsm_rf | assumption | refine zsm_C (by decide) ?_ | refine zsm_I (by decide) ?_ | refine zsm_J ?_ | refine zsm_c (by assumption) (by decide) ?_), by first | omega | (simp only [zuI_1, zuI_2, zuJ_1, zuJ_2, zuJ_3, zuP_1, zuP_2, zuP_3, zuC_1, zuC_2, reduceIte, Nat.reduceEqDiff, false_and, and_false, true_and, and_true, and_self, or_true, true_or, or_false, false_or]; omega)⟩
          · skip
            refine zs_iconst (pc := 281) C dX9_signToken_281 (by decide) ?_
            refine zs_goto (tgt := 287) (pc := 282) C dX9_signToken_282 (by decide) ?_
            refine zs_puti (r := 1008) (pc := 287) C dX9_signToken_287 w_X9_196 f_10_8 rfl (r_1008 0) (by omega) ?_
            exact zs_vret (pc := 290) C hr hlk dX9_signToken_290 ⟨by repeat (first | exact zsm_rf | assumption | refine zsm_C (by decide) ?_ | refine zsm_I (by decide) ?_ | refine zsm_J ?_ | refine zsm_c (by assumption) (by decide) ?_), by first | omega | (simp only [zuI_1, zuI_2, zuJ_1, zuJ_2, zuJ_3, zuP_1, zuP_2, zuP_3, zuC_1, zuC_2, reduceIte, Nat.reduceEqDiff, false_and, and_false, true_and, and_true, and_self, or_true, true_or, or_false, false_or]; omega)⟩
        refine zs_geti (r := 1009) (pc := 199) C dX9_signToken_199 w_X9_207 f_10_9 rfl (r_1009 0) (fun v199 e199 l199 u199 => ?_)
        try simp only [zuI_1, zuI_2, zuJ_1, zuJ_2, zuJ_3, zuP_1, zuP_2, zuP_3, zuC_1, zuC_2, reduceIte, Nat.reduceEqDiff, false_and, and_false, true_and, and_true, and_self, or_true, true_or, or_false, false_or] at e199
        refine zs_bipush (pc := 202) C dX9_signToken_202 (by decide) (by decide) ?_
        refine zs_icmp_eq (tgt := 270) (pc := 204) C dX9_signToken_204 (by decide) (fun h204 => ?_) (fun h204 => ?_)
        · skip
          refine zs_iconst (pc := 270) C dX9_signToken_270 (by decide) ?_
          refine zs_goto (tgt := 275) (pc := 271) C dX9_signToken_271 (by decide) ?_
          refine zs_istore_n (pc := 275) C dX9_signToken_275 (by decide) ?_
          dsimp only [zset, zclr, znone]
          exact zs_wk (J276 _ ) (zwk_s rfl (zwk_s rfl (zwk_n (zwk_n zwk_0))))
        · skip
          refine zs_aload_n (pc := 207) C dX9_signToken_207 rfl ?_
          refine zs_geti (r := 1009) (pc := 208) C dX9_signToken_208 w_X9_207 f_10_9 rfl (r_1009 0) (fun v208 e208 l208 u208 => ?_)
          try simp only [zuI_1, zuI_2, zuJ_1, zuJ_2, zuJ_3, zuP_1, zuP_2, zuP_3, zuC_1, zuC_2, reduceIte, Nat.reduceEqDiff, false_and, and_false, true_and, and_true, and_self, or_true, true_or, or_false, false_or] at e208
          refine zs_bipush (pc := 211) C dX9_signToken_211 (by decide) (by decide) ?_
          refine zs_icmp_eq (tgt := 270) (pc := 213) C dX9_signToken_213 (by decide) (fun h213 => ?_) (fun h213 => ?_)
          · skip
            refine zs_iconst (pc := 270) C dX9_signToken_270 (by decide) ?_
            refine zs_goto (tgt := 275) (pc := 271) C dX9_signToken_271 (by decide) ?_
            refine zs_istore_n (pc := 275) C dX9_signToken_275 (by decide) ?_
            dsimp only [zset, zclr, znone]
            exact zs_wk (J276 _ ) (zwk_s rfl (zwk_s rfl (zwk_n (zwk_n zwk_0))))
          · skip
            refine zs_aload_n (pc := 216) C dX9_signToken_216 rfl ?_
            refine zs_geti (r := 1009) (pc := 217) C dX9_signToken_217 w_X9_207 f_10_9 rfl (r_1009 0) (fun v217 e217 l217 u217 => ?_)
            try simp only [zuI_1, zuI_2, zuJ_1, zuJ_2, zuJ_3, zuP_1, zuP_2, zuP_3, zuC_1, zuC_2, reduceIte, Nat.reduceEqDiff, false_and, and_false, true_and, and_true, and_self, or_true, true_or, or_false, false_or] at e217
            refine zs_bipush (pc := 220) C dX9_signToken_220 (by decide) (by decide) ?_
            refine zs_icmp_eq (tgt := 270) (pc := 222) C dX9_signToken_222 (by decide) (fun h222 => ?_) (fun h222 => ?_)
            · skip
              refine zs_iconst (pc := 270) C dX9_signToken_270 (by decide) ?_
              refine zs_goto (tgt := 275) (pc := 271) C dX9_signToken_271 (by decide) ?_
              refine zs_istore_n (pc := 275) C dX9_signToken_275 (by decide) ?_
              dsimp only [zset, zclr, znone]
              exact zs_wk (J276 _ ) (zwk_s rfl (zwk_s rfl (zwk_n (zwk_n zwk_0))))
            · skip
              refine zs_aload_n (pc := 225) C dX9_signToken_225 rfl ?_
              refine zs_geti (r := 1009) (pc := 226) C dX9_signToken_226 w_X9_207 f_10_9 rfl (r_1009 0) (fun v226 e226 l226 u226 => ?_)
              try simp only [zuI_1, zuI_2, zuJ_1, zuJ_2, zuJ_3, zuP_1, zuP_2, zuP_3, zuC_1, zuC_2, reduceIte, Nat.reduceEqDiff, false_and, and_false, true_and, and_true, and_self, or_true, true_or, or_false, false_or] at e226
              refine zs_bipush (pc := 229) C dX9_signToken_229 (by decide) (by decide) ?_
              refine zs_icmp_eq (tgt := 270) (pc := 231) C dX9_signToken_231 (by decide) (fun h231 => ?_) (fun h231 => ?_)
              · skip
                refine zs_iconst (pc := 270) C dX9_signToken_270 (by decide) ?_
                refine zs_goto (tgt := 275) (pc := 271) C dX9_signToken_271 (by decide) ?_
                refine zs_istore_n (pc := 275) C dX9_signToken_275 (by decide) ?_
                dsimp only [zset, zclr, znone]
                exact zs_wk (J276 _ ) (zwk_s rfl (zwk_s rfl (zwk_n (zwk_n zwk_0))))
              · skip
                refine zs_aload_n (pc := 234) C dX9_signToken_234 rfl ?_
                refine zs_geti (r := 1009) (pc := 235) C dX9_signToken_235 w_X9_207 f_10_9 rfl (r_1009 0) (fun v235 e235 l235 u235 => ?_)
                try simp only [zuI_1, zuI_2, zuJ_1, zuJ_2, zuJ_3, zuP_1, zuP_2, zuP_3, zuC_1, zuC_2, reduceIte, Nat.reduceEqDiff, false_and, and_false, true_and, and_true, and_self, or_true, true_or, or_false, false_or] at e235
                refine zs_bipush (pc := 238) C dX9_signToken_238 (by decide) (by decide) ?_
                refine zs_icmp_eq (tgt := 270) (pc := 240) C dX9_signToken_240 (by decide) (fun h240 => ?_) (fun h240 => ?_)
                · skip
                  refine zs_iconst (pc := 270) C dX9_signToken_270 (by decide) ?_
                  refine zs_goto (tgt := 275) (pc := 271) C dX9_signToken_271 (by decide) ?_
                  refine zs_istore_n (pc := 275) C dX9_signToken_275 (by decide) ?_
                  dsimp only [zset, zclr, znone]
                  exact zs_wk (J276 _ ) (zwk_s rfl (zwk_s rfl (zwk_n (zwk_n zwk_0))))
                · skip
                  refine zs_aload_n (pc := 243) C dX9_signToken_243 rfl ?_
                  refine zs_geti (r := 1009) (pc := 244) C dX9_signToken_244 w_X9_207 f_10_9 rfl (r_1009 0) (fun v244 e244 l244 u244 => ?_)
                  try simp only [zuI_1, zuI_2, zuJ_1, zuJ_2, zuJ_3, zuP_1, zuP_2, zuP_3, zuC_1, zuC_2, reduceIte, Nat.reduceEqDiff, false_and, and_false, true_and, and_true, and_self, or_true, true_or, or_false, false_or] at e244
                  refine zs_bipush (pc := 247) C dX9_signToken_247 (by decide) (by decide) ?_
                  refine zs_icmp_eq (tgt := 270) (pc := 249) C dX9_signToken_249 (by decide) (fun h249 => ?_) (fun h249 => ?_)
                  · skip
                    refine zs_iconst (pc := 270) C dX9_signToken_270 (by decide) ?_
                    refine zs_goto (tgt := 275) (pc := 271) C dX9_signToken_271 (by decide) ?_
                    refine zs_istore_n (pc := 275) C dX9_signToken_275 (by decide) ?_
                    dsimp only [zset, zclr, znone]
                    exact zs_wk (J276 _ ) (zwk_s rfl (zwk_s rfl (zwk_n (zwk_n zwk_0))))
                  · skip
                    refine zs_aload_n (pc := 252) C dX9_signToken_252 rfl ?_
                    refine zs_geti (r := 1009) (pc := 253) C dX9_signToken_253 w_X9_207 f_10_9 rfl (r_1009 0) (fun v253 e253 l253 u253 => ?_)
                    try simp only [zuI_1, zuI_2, zuJ_1, zuJ_2, zuJ_3, zuP_1, zuP_2, zuP_3, zuC_1, zuC_2, reduceIte, Nat.reduceEqDiff, false_and, and_false, true_and, and_true, and_self, or_true, true_or, or_false, false_or] at e253
                    refine zs_bipush (pc := 256) C dX9_signToken_256 (by decide) (by decide) ?_
                    refine zs_icmp_eq (tgt := 270) (pc := 258) C dX9_signToken_258 (by decide) (fun h258 => ?_) (fun h258 => ?_)
                    · skip
                      refine zs_iconst (pc := 270) C dX9_signToken_270 (by decide) ?_
                      refine zs_goto (tgt := 275) (pc := 271) C dX9_signToken_271 (by decide) ?_
                      refine zs_istore_n (pc := 275) C dX9_signToken_275 (by decide) ?_
                      dsimp only [zset, zclr, znone]
                      exact zs_wk (J276 _ ) (zwk_s rfl (zwk_s rfl (zwk_n (zwk_n zwk_0))))
                    · skip
                      refine zs_aload_n (pc := 261) C dX9_signToken_261 rfl ?_
                      refine zs_geti (r := 1009) (pc := 262) C dX9_signToken_262 w_X9_207 f_10_9 rfl (r_1009 0) (fun v262 e262 l262 u262 => ?_)
                      try simp only [zuI_1, zuI_2, zuJ_1, zuJ_2, zuJ_3, zuP_1, zuP_2, zuP_3, zuC_1, zuC_2, reduceIte, Nat.reduceEqDiff, false_and, and_false, true_and, and_true, and_self, or_true, true_or, or_false, false_or] at e262
                      refine zs_bipush (pc := 265) C dX9_signToken_265 (by decide) (by decide) ?_
                      refine zs_icmp_ne (tgt := 274) (pc := 267) C dX9_signToken_267 (by decide) (fun h267 => ?_) (fun h267 => ?_)
                      · skip
                        refine zs_iconst (pc := 274) C dX9_signToken_274 (by decide) ?_
                        refine zs_istore_n (pc := 275) C dX9_signToken_275 (by decide) ?_
                        dsimp only [zset, zclr, znone]
                        exact zs_wk (J276 _ ) (zwk_s rfl (zwk_s rfl (zwk_n (zwk_n zwk_0))))
                      · skip
                        refine zs_iconst (pc := 270) C dX9_signToken_270 (by decide) ?_
                        refine zs_goto (tgt := 275) (pc := 271) C dX9_signToken_271 (by decide) ?_
                        refine zs_istore_n (pc := 275) C dX9_signToken_275 (by decide) ?_
                        dsimp only [zset, zclr, znone]
                        exact zs_wk (J276 _ ) (zwk_s rfl (zwk_s rfl (zwk_n (zwk_n zwk_0))))
      · skip
        exact zs_wk (J50 _ ) (zwk_s rfl (zwk_n (zwk_n (zwk_n zwk_0))))

set_option maxHeartbeats 4000000 in
set_option maxRecDepth 100000 in
theorem c_X9_token {l : Launch} {Γ : zΓ} {G : zH} {w : Nat}  (hX : zXs Γ) (hn : G.1 1007 w 0 ≤ G.1 1006 w 0) : zMet l Γ yX9_token cX9_token 1 none 1 [zr 10 w] G (zpv (fun G' => zsm [1007, 1008, 1009, 1010] G G' ∧ ((G'.1 1007 w 0 ≤ G'.1 1006 w 0 ∧ G'.1 1010 w 0 ≤ G'.1 1007 w 0 ∧ (G'.1 1008 w 0 ≠ 0 → G'.1 1010 w 0 < G'.1 1007 w 0) ∧ ((G'.1 1008 w 0 = 5 → 0 ≤ G'.1 1009 w 0 ∧ G'.1 1009 w 0 ≤ 5) ∧ (G'.1 1008 w 0 = 1 → 0 ≤ G'.1 1009 w 0 ∧ G'.1 1009 w 0 ≤ 23) ∧ (G'.1 1008 w 0 = 3 → 0 ≤ G'.1 1009 w 0))) ∧ G.1 1007 w 0 ≤ G'.1 1010 w 0))) := by
  refine zMet_of RX9 hX (by decide) rfl (Nat.le_of_ble_eq_true rfl) ?_
  intro p e s m args below meth c C hr hlk
  show Z p l e (zrm 1) s m args below meth c Γ 1 0 0 (MQ below (zQc Γ (zpv (fun G' => zsm [1007, 1008, 1009, 1010] G G' ∧ ((G'.1 1007 w 0 ≤ G'.1 1006 w 0 ∧ G'.1 1010 w 0 ≤ G'.1 1007 w 0 ∧ (G'.1 1008 w 0 ≠ 0 → G'.1 1010 w 0 < G'.1 1007 w 0) ∧ ((G'.1 1008 w 0 = 5 → 0 ≤ G'.1 1009 w 0 ∧ G'.1 1009 w 0 ≤ 5) ∧ (G'.1 1008 w 0 = 1 → 0 ≤ G'.1 1009 w 0 ∧ G'.1 1009 w 0 ≤ 23) ∧ (G'.1 1008 w 0 = 3 → 0 ≤ G'.1 1009 w 0))) ∧ G.1 1007 w 0 ≤ G'.1 1010 w 0)))) args s 0 0 (zA Γ)) 0 [some (zr 10 w)] [] G
  have L0 : ∀ (nn : Nat) (G1 : zH), (zsm [1007] G G1) → (G1.1 1007 w 0 ≤ G1.1 1006 w 0 ∧ G.1 1007 w 0 ≤ G1.1 1007 w 0) → (700 - G1.1 1007 w 0).toNat < nn → Z p l e (zrm 1) s m args below meth c Γ 1 0 0 (MQ below (zQc Γ (zpv (fun G' => zsm [1007, 1008, 1009, 1010] G G' ∧ ((G'.1 1007 w 0 ≤ G'.1 1006 w 0 ∧ G'.1 1010 w 0 ≤ G'.1 1007 w 0 ∧ (G'.1 1008 w 0 ≠ 0 → G'.1 1010 w 0 < G'.1 1007 w 0) ∧ ((G'.1 1008 w 0 = 5 → 0 ≤ G'.1 1009 w 0 ∧ G'.1 1009 w 0 ≤ 5) ∧ (G'.1 1008 w 0 = 1 → 0 ≤ G'.1 1009 w 0 ∧ G'.1 1009 w 0 ≤ 23) ∧ (G'.1 1008 w 0 = 3 → 0 ≤ G'.1 1009 w 0))) ∧ G.1 1007 w 0 ≤ G'.1 1010 w 0)))) args s 0 0 (zA Γ)) 0 [some (zr 10 w)] [] G1 := by
    intro nn
    induction nn with
    | zero => intro G1 h0_0 h0_1 hm; exact absurd hm (Nat.not_lt_zero _)
    | succ nn ih0 =>
      intro G1 h0_0 h0_1 hm0
      refine zs_aload_n (pc := 0) C dX9_token_0 rfl ?_
      refine zs_geti (r := 1007) (pc := 1) C dX9_token_1 w_X9_193 f_10_7 rfl (r_1007 0) (fun v1 e1 l1 u1 => ?_)
      refine zs_aload_n (pc := 4) C dX9_token_4 rfl ?_
      refine zs_geti (r := 1006) (pc := 5) C dX9_token_5 w_X9_190 f_10_6 rfl (r_1006 0) (fun v5 e5 l5 u5 => ?_)
      refine zs_icmp_ge (tgt := 52) (pc := 8) C dX9_token_8 (by decide) (fun h8 => ?_) (fun h8 => ?_)
      · skip
        refine zs_aload_n (pc := 52) C dX9_token_52 rfl ?_
        refine zs_aload_n (pc := 53) C dX9_token_53 rfl ?_
        refine zs_geti (r := 1007) (pc := 54) C dX9_token_54 w_X9_193 f_10_7 rfl (r_1007 0) (fun v54 e54 l54 u54 => ?_)
        refine zs_puti (r := 1010) (pc := 57) C dX9_token_57 w_X9_187 f_10_10 rfl (r_1010 0) (by omega) ?_
        refine zs_aload_n (pc := 60) C dX9_token_60 rfl ?_
        refine zs_geti (r := 1007) (pc := 61) C dX9_token_61 w_X9_193 f_10_7 rfl (r_1007 0) (fun v61 e61 l61 u61 => ?_)
        try simp only [zuI_1, zuI_2, zuJ_1, zuJ_2, zuJ_3, zuP_1, zuP_2, zuP_3, zuC_1, zuC_2, reduceIte, Nat.reduceEqDiff, false_and, and_false, true_and, and_true, and_self, or_true, true_or, or_false, false_or] at e61
        refine zs_aload_n (pc := 64) C dX9_token_64 rfl ?_
        refine zs_geti (r := 1006) (pc := 65) C dX9_token_65 w_X9_190 f_10_6 rfl (r_1006 0) (fun v65 e65 l65 u65 => ?_)
        try simp only [zuI_1, zuI_2, zuJ_1, zuJ_2, zuJ_3, zuP_1, zuP_2, zuP_3, zuC_1, zuC_2, reduceIte, Nat.reduceEqDiff, false_and, and_false, true_and, and_true, and_self, or_true, true_or, or_false, false_or] at e65
        refine zs_icmp_ne (tgt := 79) (pc := 68) C dX9_token_68 (by decide) (fun h68 => ?_) (fun h68 => ?_)
        · skip
          refine zs_aload_n (pc := 79) C dX9_token_79 rfl ?_
          refine zs_aload_n (pc := 80) C dX9_token_80 rfl ?_
          refine zs_geti (r := 1007) (pc := 81) C dX9_token_81 w_X9_193 f_10_7 rfl (r_1007 0) (fun v81 e81 l81 u81 => ?_)
          try simp only [zuI_1, zuI_2, zuJ_1, zuJ_2, zuJ_3, zuP_1, zuP_2, zuP_3, zuC_1, zuC_2, reduceIte, Nat.reduceEqDiff, false_and, and_false, true_and, and_true, and_self, or_true, true_or, or_false, false_or] at e81
          refine zVip1 (pc := 84) C dX9_token_84 v_X9_199 (c_X9_isSmall hX (by first | omega | (simp only [zuI_1, zuI_2, zuJ_1, zuJ_2, zuJ_3, zuP_1, zuP_2, zuP_3, zuC_1, zuC_2, reduceIte, Nat.reduceEqDiff, false_and, and_false, true_and, and_true, and_self, or_true, true_or, or_false, false_or]; omega))) (by decide) (by decide) ⟨Nat.zero_le _, Nat.zero_le _⟩ (Nat.le_of_ble_eq_true rfl) (fun x84 l84 u84 hp84 => ?_)
          have hq84 := hp84
          try simp only [zuI_1, zuI_2, zuJ_1, zuJ_2, zuJ_3, zuP_1, zuP_2, zuP_3, zuC_1, zuC_2, reduceIte, Nat.reduceEqDiff, false_and, and_false, true_and, and_true, and_self, or_true, true_or, or_false, false_or] at hq84
          refine zs_if_eq (tgt := 192) (pc := 87) C dX9_token_87 (by decide) (fun h87 => ?_) (fun h87 => ?_)
          · skip
            refine zs_aload_n (pc := 192) C dX9_token_192 rfl ?_
            refine zs_aload_n (pc := 193) C dX9_token_193 rfl ?_
            refine zs_geti (r := 1007) (pc := 194) C dX9_token_194 w_X9_193 f_10_7 rfl (r_1007 0) (fun v194 e194 l194 u194 => ?_)
            try simp only [zuI_1, zuI_2, zuJ_1, zuJ_2, zuJ_3, zuP_1, zuP_2, zuP_3, zuC_1, zuC_2, reduceIte, Nat.reduceEqDiff, false_and, and_false, true_and, and_true, and_self, or_true, true_or, or_false, false_or] at e194
            refine zVip1 (pc := 197) C dX9_token_197 v_X9_213 (c_X9_isDigit hX (by first | omega | (simp only [zuI_1, zuI_2, zuJ_1, zuJ_2, zuJ_3, zuP_1, zuP_2, zuP_3, zuC_1, zuC_2, reduceIte, Nat.reduceEqDiff, false_and, and_false, true_and, and_true, and_self, or_true, true_or, or_false, false_or]; omega))) (by decide) (by decide) ⟨Nat.zero_le _, Nat.zero_le _⟩ (Nat.le_of_ble_eq_true rfl) (fun x197 l197 u197 hp197 => ?_)
            have hq197 := hp197
            try simp only [zuI_1, zuI_2, zuJ_1, zuJ_2, zuJ_3, zuP_1, zuP_2, zuP_3, zuC_1, zuC_2, reduceIte, Nat.reduceEqDiff, false_and, and_false, true_and, and_true, and_self, or_true, true_or, or_false, false_or] at hq197
            refine zs_if_eq (tgt := 277) (pc := 200) C dX9_token_200 (by decide) (fun h200 => ?_) (fun h200 => ?_)
            · skip
              refine zs_aload_n (pc := 277) C dX9_token_277 rfl ?_
              refine zVv0 (pc := 278) C dX9_token_278 v_X9_217 (c_X9_signToken hX (by first | omega | (simp only [zuI_1, zuI_2, zuJ_1, zuJ_2, zuJ_3, zuP_1, zuP_2, zuP_3, zuC_1, zuC_2, reduceIte, Nat.reduceEqDiff, false_and, and_false, true_and, and_true, and_self, or_true, true_or, or_false, false_or]; omega)) (by first | omega | (simp only [zuI_1, zuI_2, zuJ_1, zuJ_2, zuJ_3, zuP_1, zuP_2, zuP_3, zuC_1, zuC_2, reduceIte, Nat.reduceEqDiff, false_and, and_false, true_and, and_true, and_self, or_true, true_or, or_false, false_or]; omega))) (by decide) (by decide) ⟨Nat.zero_le _, Nat.zero_le _⟩ (Nat.le_of_ble_eq_true rfl) (fun G278 hp278 => ?_)
              obtain ⟨hz278, hq278⟩ := hp278
              try simp only [zuI_1, zuI_2, zuJ_1, zuJ_2, zuJ_3, zuP_1, zuP_2, zuP_3, zuC_1, zuC_2, reduceIte, Nat.reduceEqDiff, false_and, and_false, true_and, and_true, and_self, or_true, true_or, or_false, false_or] at hq278
              exact zs_vret (pc := 281) C hr hlk dX9_token_281 ⟨by repeat (first | exact zsm_rf | assumption | refine zsm_C (by decide) ?_ | refine zsm_I (by decide) ?_ | refine zsm_J ?_ | refine zsm_c (by assumption) (by decide) ?_), by first | omega | (simp only [zuI_1, zuI_2, zuJ_1, zuJ_2, zuJ_3, zuP_1, zuP_2, zuP_3, zuC_1, zuC_2, reduceIte, Nat.reduceEqDiff, false_and, and_false, true_and, and_true, and_self, or_true, true_or, or_false, false_or]; omega)⟩
            · skip
              refine zs_aload_n (pc := 203) C dX9_token_203 rfl ?_
              refine zs_iconst (pc := 204) C dX9_token_204 (by decide) ?_
              refine zs_puti (r := 1008) (pc := 205) C dX9_token_205 w_X9_196 f_10_8 rfl (r_1008 0) (by omega) ?_
              refine zs_aload_n (pc := 208) C dX9_token_208 rfl ?_
              refine zs_iconst (pc := 209) C dX9_token_209 (by decide) ?_
              refine zs_puti (r := 1009) (pc := 210) C dX9_token_210 w_X9_207 f_10_9 rfl (r_1009 0) (by omega) ?_
              have L213 : ∀ (nn : Nat) (G3 : zH), (zsm [1007, 1010, 1008, 1009] G G3) → (G3.1 1007 w 0 ≤ G3.1 1006 w 0 ∧ G.1 1007 w 0 ≤ G3.1 1010 w 0) → (G3.1 1008 w 0 = 3 ∧ 0 ≤ G3.1 1009 w 0) → (G3.1 1010 w 0 < G3.1 1007 w 0 ∨ (G3.1 1010 w 0 = G3.1 1007 w 0 ∧ G3.1 1007 w 0 < G3.1 1006 w 0 ∧ 48 ≤ G3.1 2057 (Γ.2.1 w 0) (G3.1 1007 w 0).toNat ∧ G3.1 2057 (Γ.2.1 w 0) (G3.1 1007 w 0).toNat ≤ 57)) → (700 - G3.1 1007 w 0).toNat < nn → Z p l e (zrm 1) s m args below meth c Γ 1 0 0 (MQ below (zQc Γ (zpv (fun G' => zsm [1007, 1008, 1009, 1010] G G' ∧ ((G'.1 1007 w 0 ≤ G'.1 1006 w 0 ∧ G'.1 1010 w 0 ≤ G'.1 1007 w 0 ∧ (G'.1 1008 w 0 ≠ 0 → G'.1 1010 w 0 < G'.1 1007 w 0) ∧ ((G'.1 1008 w 0 = 5 → 0 ≤ G'.1 1009 w 0 ∧ G'.1 1009 w 0 ≤ 5) ∧ (G'.1 1008 w 0 = 1 → 0 ≤ G'.1 1009 w 0 ∧ G'.1 1009 w 0 ≤ 23) ∧ (G'.1 1008 w 0 = 3 → 0 ≤ G'.1 1009 w 0))) ∧ G.1 1007 w 0 ≤ G'.1 1010 w 0)))) args s 0 0 (zA Γ)) 213 [some (zr 10 w)] [] G3 := by
                intro nn
                induction nn with
                | zero => intro G3 h213_0 h213_1 h213_2 h213_3 hm; exact absurd hm (Nat.not_lt_zero _)
                | succ nn ih213 =>
                  intro G3 h213_0 h213_1 h213_2 h213_3 hm213
                  refine zs_aload_n (pc := 213) C dX9_token_213 rfl ?_
                  refine zs_aload_n (pc := 214) C dX9_token_214 rfl ?_
                  refine zs_geti (r := 1007) (pc := 215) C dX9_token_215 w_X9_193 f_10_7 rfl (r_1007 0) (fun v215 e215 l215 u215 => ?_)
                  refine zVip1 (pc := 218) C dX9_token_218 v_X9_213 (c_X9_isDigit hX (by omega)) (by decide) (by decide) ⟨Nat.zero_le _, Nat.zero_le _⟩ (Nat.le_of_ble_eq_true rfl) (fun x218 l218 u218 hp218 => ?_)
                  have hq218 := hp218
                  refine zs_if_eq (tgt := 281) (pc := 221) C dX9_token_221 (by decide) (fun h221 => ?_) (fun h221 => ?_)
                  · skip
                    exact zs_vret (pc := 281) C hr hlk dX9_token_281 ⟨by repeat (first | exact zsm_rf | assumption | refine zsm_C (by decide) ?_ | refine zsm_I (by decide) ?_ | refine zsm_J ?_ | refine zsm_c (by assumption) (by decide) ?_), by first | omega | (simp only [zuI_1, zuI_2, zuJ_1, zuJ_2, zuJ_3, zuP_1, zuP_2, zuP_3, zuC_1, zuC_2, reduceIte, Nat.reduceEqDiff, false_and, and_false, true_and, and_true, and_self, or_true, true_or, or_false, false_or]; omega)⟩
                  · skip
                    refine zs_aload_n (pc := 224) C dX9_token_224 rfl ?_
                    refine zs_aload_n (pc := 225) C dX9_token_225 rfl ?_
                    refine zs_geti (r := 1009) (pc := 226) C dX9_token_226 w_X9_207 f_10_9 rfl (r_1009 0) (fun v226 e226 l226 u226 => ?_)
                    refine zs_ldc (n := 99999) (pc := 229) C dX9_token_229 q_X9_216 (by decide) (by decide) ?_
                    refine zs_icmp_le (tgt := 241) (pc := 231) C dX9_token_231 (by decide) (fun h231 => ?_) (fun h231 => ?_)
                    · skip
                      refine zs_bipush (pc := 241) C dX9_token_241 (by decide) (by decide) ?_
                      refine zs_aload_n (pc := 243) C dX9_token_243 rfl ?_
                      refine zs_geti (r := 1009) (pc := 244) C dX9_token_244 w_X9_207 f_10_9 rfl (r_1009 0) (fun v244 e244 l244 u244 => ?_)
                      first | refine zs_imul (pc := 247) C dX9_token_247 (by omega) ?_ | refine zs_imulF (pc := 247) C dX9_token_247 (fun z247 hz2471 hz2472 => ?_)
                      refine zs_aload_n (pc := 248) C dX9_token_248 rfl ?_
                      refine zs_getf (pc := 249) C dX9_token_249 w_X9_7 f_10_0 (by decide) ?_
                      refine zs_aload_n (pc := 252) C dX9_token_252 rfl ?_
                      refine zs_geti (r := 1007) (pc := 253) C dX9_token_253 w_X9_193 f_10_7 rfl (r_1007 0) (fun v253 e253 l253 u253 => ?_)
                      refine zs_iald (r := 2057) (pc := 256) C dX9_token_256 a_57 (by decide) (by omega) rfl (r_2057 _) (fun v256 e256 l256 u256 => ?_)
                      first | refine zs_iadd (pc := 257) C dX9_token_257 (by omega) ?_ | refine zs_iaddF (pc := 257) C dX9_token_257 (fun z257 hz2571 hz2572 => ?_)
                      refine zs_bipush (pc := 258) C dX9_token_258 (by decide) (by decide) ?_
                      first | refine zs_isub (pc := 260) C dX9_token_260 (by omega) ?_ | refine zs_isubF (pc := 260) C dX9_token_260 (fun z260 hz2601 hz2602 => ?_)
                      refine zs_puti (r := 1009) (pc := 261) C dX9_token_261 w_X9_207 f_10_9 rfl (r_1009 0) (by omega) ?_
                      refine zs_aload_n (pc := 264) C dX9_token_264 rfl ?_
                      refine zs_dupa (pc := 265) C dX9_token_265 ?_
                      refine zs_geti (r := 1007) (pc := 266) C dX9_token_266 w_X9_193 f_10_7 rfl (r_1007 0) (fun v266 e266 l266 u266 => ?_)
                      try simp only [zuI_1, zuI_2, zuJ_1, zuJ_2, zuJ_3, zuP_1, zuP_2, zuP_3, zuC_1, zuC_2, reduceIte, Nat.reduceEqDiff, false_and, and_false, true_and, and_true, and_self, or_true, true_or, or_false, false_or] at e266
                      refine zs_iconst (pc := 269) C dX9_token_269 (by decide) ?_
                      first | refine zs_iadd (pc := 270) C dX9_token_270 (by omega) ?_ | refine zs_iaddF (pc := 270) C dX9_token_270 (fun z270 hz2701 hz2702 => ?_)
                      refine zs_puti (r := 1007) (pc := 271) C dX9_token_271 w_X9_193 f_10_7 rfl (r_1007 0) (by omega) ?_
                      refine zs_goto (tgt := 213) (pc := 274) C dX9_token_274 (by decide) ?_
                      exact zs_wk (ih213 _ (by repeat (first | exact zsm_rf | assumption | refine zsm_C (by decide) ?_ | refine zsm_I (by decide) ?_ | refine zsm_J ?_ | refine zsm_c (by assumption) (by decide) ?_)) (by first | omega | (simp only [zuI_1, zuI_2, zuJ_1, zuJ_2, zuJ_3, zuP_1, zuP_2, zuP_3, zuC_1, zuC_2, reduceIte, Nat.reduceEqDiff, false_and, and_false, true_and, and_true, and_self, or_true, true_or, or_false, false_or]; omega)) (by first | omega | (simp only [zuI_1, zuI_2, zuJ_1, zuJ_2, zuJ_3, zuP_1, zuP_2, zuP_3, zuC_1, zuC_2, reduceIte, Nat.reduceEqDiff, false_and, and_false, true_and, and_true, and_self, or_true, true_or, or_false, false_or]; omega)) (by first | omega | (simp only [zuI_1, zuI_2, zuJ_1, zuJ_2, zuJ_3, zuP_1, zuP_2, zuP_3, zuC_1, zuC_2, reduceIte, Nat.reduceEqDiff, false_and, and_false, true_and, and_true, and_self, or_true, true_or, or_false, false_or]; omega)) (by first | omega | (simp only [zuI_1, zuI_2, zuJ_1, zuJ_2, zuJ_3, zuP_1, zuP_2, zuP_3, zuC_1, zuC_2, reduceIte, Nat.reduceEqDiff, false_and, and_false, true_and, and_true, and_self, or_true, true_or, or_false, false_or]; omega))) (zwk_s rfl zwk_0)
                    · skip
                      refine zs_aload_n (pc := 234) C dX9_token_234 rfl ?_
                      refine zs_geti (r := 1009) (pc := 235) C dX9_token_235 w_X9_207 f_10_9 rfl (r_1009 0) (fun v235 e235 l235 u235 => ?_)
                      refine zs_goto (tgt := 261) (pc := 238) C dX9_token_238 (by decide) ?_
                      refine zs_puti (r := 1009) (pc := 261) C dX9_token_261 w_X9_207 f_10_9 rfl (r_1009 0) (by omega) ?_
                      refine zs_aload_n (pc := 264) C dX9_token_264 rfl ?_
                      refine zs_dupa (pc := 265) C dX9_token_265 ?_
                      refine zs_geti (r := 1007) (pc := 266) C dX9_token_266 w_X9_193 f_10_7 rfl (r_1007 0) (fun v266 e266 l266 u266 => ?_)
                      try simp only [zuI_1, zuI_2, zuJ_1, zuJ_2, zuJ_3, zuP_1, zuP_2, zuP_3, zuC_1, zuC_2, reduceIte, Nat.reduceEqDiff, false_and, and_false, true_and, and_true, and_self, or_true, true_or, or_false, false_or] at e266
                      refine zs_iconst (pc := 269) C dX9_token_269 (by decide) ?_
                      first | refine zs_iadd (pc := 270) C dX9_token_270 (by omega) ?_ | refine zs_iaddF (pc := 270) C dX9_token_270 (fun z270 hz2701 hz2702 => ?_)
                      refine zs_puti (r := 1007) (pc := 271) C dX9_token_271 w_X9_193 f_10_7 rfl (r_1007 0) (by omega) ?_
                      refine zs_goto (tgt := 213) (pc := 274) C dX9_token_274 (by decide) ?_
                      exact zs_wk (ih213 _ (by repeat (first | exact zsm_rf | assumption | refine zsm_C (by decide) ?_ | refine zsm_I (by decide) ?_ | refine zsm_J ?_ | refine zsm_c (by assumption) (by decide) ?_)) (by first | omega | (simp only [zuI_1, zuI_2, zuJ_1, zuJ_2, zuJ_3, zuP_1, zuP_2, zuP_3, zuC_1, zuC_2, reduceIte, Nat.reduceEqDiff, false_and, and_false, true_and, and_true, and_self, or_true, true_or, or_false, false_or]; omega)) (by first | omega | (simp only [zuI_1, zuI_2, zuJ_1, zuJ_2, zuJ_3, zuP_1, zuP_2, zuP_3, zuC_1, zuC_2, reduceIte, Nat.reduceEqDiff, false_and, and_false, true_and, and_true, and_self, or_true, true_or, or_false, false_or]; omega)) (by first | omega | (simp only [zuI_1, zuI_2, zuJ_1, zuJ_2, zuJ_3, zuP_1, zuP_2, zuP_3, zuC_1, zuC_2, reduceIte, Nat.reduceEqDiff, false_and, and_false, true_and, and_true, and_self, or_true, true_or, or_false, false_or]; omega)) (by first | omega | (simp only [zuI_1, zuI_2, zuJ_1, zuJ_2, zuJ_3, zuP_1, zuP_2, zuP_3, zuC_1, zuC_2, reduceIte, Nat.reduceEqDiff, false_and, and_false, true_and, and_true, and_self, or_true, true_or, or_false, false_or]; omega))) (zwk_s rfl zwk_0)
              exact zs_wk (L213 _ _ (by repeat (first | exact zsm_rf | assumption | refine zsm_C (by decide) ?_ | refine zsm_I (by decide) ?_ | refine zsm_J ?_ | refine zsm_c (by assumption) (by decide) ?_)) (by first | omega | (simp only [zuI_1, zuI_2, zuJ_1, zuJ_2, zuJ_3, zuP_1, zuP_2, zuP_3, zuC_1, zuC_2, reduceIte, Nat.reduceEqDiff, false_and, and_false, true_and, and_true, and_self, or_true, true_or, or_false, false_or]; omega)) (by first | omega | (simp only [zuI_1, zuI_2, zuJ_1, zuJ_2, zuJ_3, zuP_1, zuP_2, zuP_3, zuC_1, zuC_2, reduceIte, Nat.reduceEqDiff, false_and, and_false, true_and, and_true, and_self, or_true, true_or, or_false, false_or]; omega)) (by first | omega | (simp only [zuI_1, zuI_2, zuJ_1, zuJ_2, zuJ_3, zuP_1, zuP_2, zuP_3, zuC_1, zuC_2, reduceIte, Nat.reduceEqDiff, false_and, and_false, true_and, and_true, and_self, or_true, true_or, or_false, false_or]; omega)) (Nat.lt_succ_self _)) (zwk_s rfl zwk_0)
          · skip
            have L90 : ∀ (nn : Nat) (G2 : zH), (zsm [1007, 1010] G G2) → (G2.1 1007 w 0 ≤ G2.1 1006 w 0 ∧ G.1 1007 w 0 ≤ G2.1 1010 w 0) → (G2.1 1010 w 0 < G2.1 1007 w 0 ∨ (G2.1 1010 w 0 = G2.1 1007 w 0 ∧ G2.1 1007 w 0 < G2.1 1006 w 0 ∧ 97 ≤ G2.1 2057 (Γ.2.1 w 0) (G2.1 1007 w 0).toNat ∧ G2.1 2057 (Γ.2.1 w 0) (G2.1 1007 w 0).toNat ≤ 122)) → (700 - G2.1 1007 w 0).toNat < nn → Z p l e (zrm 1) s m args below meth c Γ 1 0 0 (MQ below (zQc Γ (zpv (fun G' => zsm [1007, 1008, 1009, 1010] G G' ∧ ((G'.1 1007 w 0 ≤ G'.1 1006 w 0 ∧ G'.1 1010 w 0 ≤ G'.1 1007 w 0 ∧ (G'.1 1008 w 0 ≠ 0 → G'.1 1010 w 0 < G'.1 1007 w 0) ∧ ((G'.1 1008 w 0 = 5 → 0 ≤ G'.1 1009 w 0 ∧ G'.1 1009 w 0 ≤ 5) ∧ (G'.1 1008 w 0 = 1 → 0 ≤ G'.1 1009 w 0 ∧ G'.1 1009 w 0 ≤ 23) ∧ (G'.1 1008 w 0 = 3 → 0 ≤ G'.1 1009 w 0))) ∧ G.1 1007 w 0 ≤ G'.1 1010 w 0)))) args s 0 0 (zA Γ)) 90 [some (zr 10 w)] [] G2 := by
              intro nn
              induction nn with
              | zero => intro G2 h90_0 h90_1 h90_2 hm; exact absurd hm (Nat.not_lt_zero _)
              | succ nn ih90 =>
                intro G2 h90_0 h90_1 h90_2 hm90
                refine zs_aload_n (pc := 90) C dX9_token_90 rfl ?_
                refine zs_aload_n (pc := 91) C dX9_token_91 rfl ?_
                refine zs_geti (r := 1007) (pc := 92) C dX9_token_92 w_X9_193 f_10_7 rfl (r_1007 0) (fun v92 e92 l92 u92 => ?_)
                refine zVip1 (pc := 95) C dX9_token_95 v_X9_199 (c_X9_isSmall hX (by omega)) (by decide) (by decide) ⟨Nat.zero_le _, Nat.zero_le _⟩ (Nat.le_of_ble_eq_true rfl) (fun x95 l95 u95 hp95 => ?_)
                have hq95 := hp95
                refine zs_if_eq (tgt := 114) (pc := 98) C dX9_token_98 (by decide) (fun h98 => ?_) (fun h98 => ?_)
                · skip
                  refine zs_aload_n (pc := 114) C dX9_token_114 rfl ?_
                  refine zs_aload_n (pc := 115) C dX9_token_115 rfl ?_
                  refine zs_aload_n (pc := 116) C dX9_token_116 rfl ?_
                  refine zs_geti (r := 1010) (pc := 117) C dX9_token_117 w_X9_187 f_10_10 rfl (r_1010 0) (fun v117 e117 l117 u117 => ?_)
                  refine zs_aload_n (pc := 120) C dX9_token_120 rfl ?_
                  refine zs_geti (r := 1007) (pc := 121) C dX9_token_121 w_X9_193 f_10_7 rfl (r_1007 0) (fun v121 e121 l121 u121 => ?_)
                  refine zVip2 (pc := 124) C dX9_token_124 v_X9_203 (c_X9_wordAt hX (by omega)) (by decide) (by decide) ⟨Nat.zero_le _, Nat.zero_le _⟩ (Nat.le_of_ble_eq_true rfl) (fun x124 l124 u124 hp124 => ?_)
                  have hq124 := hp124
                  refine zs_puti (r := 1009) (pc := 127) C dX9_token_127 w_X9_207 f_10_9 rfl (r_1009 0) (by omega) ?_
                  refine zs_aload_n (pc := 130) C dX9_token_130 rfl ?_
                  refine zs_aload_n (pc := 131) C dX9_token_131 rfl ?_
                  refine zs_geti (r := 1009) (pc := 132) C dX9_token_132 w_X9_207 f_10_9 rfl (r_1009 0) (fun v132 e132 l132 u132 => ?_)
                  try simp only [zuI_1, zuI_2, zuJ_1, zuJ_2, zuJ_3, zuP_1, zuP_2, zuP_3, zuC_1, zuC_2, reduceIte, Nat.reduceEqDiff, false_and, and_false, true_and, and_true, and_self, or_true, true_or, or_false, false_or] at e132
                  refine zs_if_lt (tgt := 142) (pc := 135) C dX9_token_135 (by decide) (fun h135 => ?_) (fun h135 => ?_)
                  · skip
                    refine zs_aload_n (pc := 142) C dX9_token_142 rfl ?_
                    refine zs_geti (r := 1007) (pc := 143) C dX9_token_143 w_X9_193 f_10_7 rfl (r_1007 0) (fun v143 e143 l143 u143 => ?_)
                    try simp only [zuI_1, zuI_2, zuJ_1, zuJ_2, zuJ_3, zuP_1, zuP_2, zuP_3, zuC_1, zuC_2, reduceIte, Nat.reduceEqDiff, false_and, and_false, true_and, and_true, and_self, or_true, true_or, or_false, false_or] at e143
                    refine zs_aload_n (pc := 146) C dX9_token_146 rfl ?_
                    refine zs_geti (r := 1010) (pc := 147) C dX9_token_147 w_X9_187 f_10_10 rfl (r_1010 0) (fun v147 e147 l147 u147 => ?_)
                    try simp only [zuI_1, zuI_2, zuJ_1, zuJ_2, zuJ_3, zuP_1, zuP_2, zuP_3, zuC_1, zuC_2, reduceIte, Nat.reduceEqDiff, false_and, and_false, true_and, and_true, and_self, or_true, true_or, or_false, false_or] at e147
                    first | refine zs_isub (pc := 150) C dX9_token_150 (by omega) ?_ | refine zs_isubF (pc := 150) C dX9_token_150 (fun z150 hz1501 hz1502 => ?_)
                    refine zs_bipush (pc := 151) C dX9_token_151 (by decide) (by decide) ?_
                    refine zs_icmp_le (tgt := 161) (pc := 153) C dX9_token_153 (by decide) (fun h153 => ?_) (fun h153 => ?_)
                    · skip
                      refine zs_iconst (pc := 161) C dX9_token_161 (by decide) ?_
                      refine zs_puti (r := 1008) (pc := 162) C dX9_token_162 w_X9_196 f_10_8 rfl (r_1008 0) (by omega) ?_
                      refine zs_aload_n (pc := 165) C dX9_token_165 rfl ?_
                      refine zs_geti (r := 1008) (pc := 166) C dX9_token_166 w_X9_196 f_10_8 rfl (r_1008 0) (fun v166 e166 l166 u166 => ?_)
                      try simp only [zuI_1, zuI_2, zuJ_1, zuJ_2, zuJ_3, zuP_1, zuP_2, zuP_3, zuC_1, zuC_2, reduceIte, Nat.reduceEqDiff, false_and, and_false, true_and, and_true, and_self, or_true, true_or, or_false, false_or] at e166
                      refine zs_iconst (pc := 169) C dX9_token_169 (by decide) ?_
                      refine zs_icmp_ne (tgt := 281) (pc := 170) C dX9_token_170 (by decide) (fun h170 => ?_) (fun h170 => ?_)
                      · skip
                        exact zs_vret (pc := 281) C hr hlk dX9_token_281 ⟨by repeat (first | exact zsm_rf | assumption | refine zsm_C (by decide) ?_ | refine zsm_I (by decide) ?_ | refine zsm_J ?_ | refine zsm_c (by assumption) (by decide) ?_), by first | omega | (simp only [zuI_1, zuI_2, zuJ_1, zuJ_2, zuJ_3, zuP_1, zuP_2, zuP_3, zuC_1, zuC_2, reduceIte, Nat.reduceEqDiff, false_and, and_false, true_and, and_true, and_self, or_true, true_or, or_false, false_or]; omega)⟩
                      · skip
                        refine zs_aload_n (pc := 173) C dX9_token_173 rfl ?_
                        refine zs_aload_n (pc := 174) C dX9_token_174 rfl ?_
                        refine zs_aload_n (pc := 175) C dX9_token_175 rfl ?_
                        refine zs_geti (r := 1010) (pc := 176) C dX9_token_176 w_X9_187 f_10_10 rfl (r_1010 0) (fun v176 e176 l176 u176 => ?_)
                        try simp only [zuI_1, zuI_2, zuJ_1, zuJ_2, zuJ_3, zuP_1, zuP_2, zuP_3, zuC_1, zuC_2, reduceIte, Nat.reduceEqDiff, false_and, and_false, true_and, and_true, and_self, or_true, true_or, or_false, false_or] at e176
                        refine zs_aload_n (pc := 179) C dX9_token_179 rfl ?_
                        refine zs_geti (r := 1007) (pc := 180) C dX9_token_180 w_X9_193 f_10_7 rfl (r_1007 0) (fun v180 e180 l180 u180 => ?_)
                        try simp only [zuI_1, zuI_2, zuJ_1, zuJ_2, zuJ_3, zuP_1, zuP_2, zuP_3, zuC_1, zuC_2, reduceIte, Nat.reduceEqDiff, false_and, and_false, true_and, and_true, and_self, or_true, true_or, or_false, false_or] at e180
                        refine zVip2 (pc := 183) C dX9_token_183 v_X9_210 (c_X9_packed hX (by first | omega | (simp only [zuI_1, zuI_2, zuJ_1, zuJ_2, zuJ_3, zuP_1, zuP_2, zuP_3, zuC_1, zuC_2, reduceIte, Nat.reduceEqDiff, false_and, and_false, true_and, and_true, and_self, or_true, true_or, or_false, false_or]; omega))) (by decide) (by decide) ⟨Nat.zero_le _, Nat.zero_le _⟩ (Nat.le_of_ble_eq_true rfl) (fun x183 l183 u183 hp183 => ?_)
                        have hq183 := hp183
                        try simp only [zuI_1, zuI_2, zuJ_1, zuJ_2, zuJ_3, zuP_1, zuP_2, zuP_3, zuC_1, zuC_2, reduceIte, Nat.reduceEqDiff, false_and, and_false, true_and, and_true, and_self, or_true, true_or, or_false, false_or] at hq183
                        refine zs_puti (r := 1009) (pc := 186) C dX9_token_186 w_X9_207 f_10_9 rfl (r_1009 0) (by omega) ?_
                        refine zs_goto (tgt := 281) (pc := 189) C dX9_token_189 (by decide) ?_
                        exact zs_vret (pc := 281) C hr hlk dX9_token_281 ⟨by repeat (first | exact zsm_rf | assumption | refine zsm_C (by decide) ?_ | refine zsm_I (by decide) ?_ | refine zsm_J ?_ | refine zsm_c (by assumption) (by decide) ?_), by first | omega | (simp only [zuI_1, zuI_2, zuJ_1, zuJ_2, zuJ_3, zuP_1, zuP_2, zuP_3, zuC_1, zuC_2, reduceIte, Nat.reduceEqDiff, false_and, and_false, true_and, and_true, and_self, or_true, true_or, or_false, false_or]; omega)⟩
                    · skip
                      refine zs_bipush (pc := 156) C dX9_token_156 (by decide) (by decide) ?_
                      refine zs_goto (tgt := 162) (pc := 158) C dX9_token_158 (by decide) ?_
                      refine zs_puti (r := 1008) (pc := 162) C dX9_token_162 w_X9_196 f_10_8 rfl (r_1008 0) (by omega) ?_
                      refine zs_aload_n (pc := 165) C dX9_token_165 rfl ?_
                      refine zs_geti (r := 1008) (pc := 166) C dX9_token_166 w_X9_196 f_10_8 rfl (r_1008 0) (fun v166 e166 l166 u166 => ?_)
                      try simp only [zuI_1, zuI_2, zuJ_1, zuJ_2, zuJ_3, zuP_1, zuP_2, zuP_3, zuC_1, zuC_2, reduceIte, Nat.reduceEqDiff, false_and, and_false, true_and, and_true, and_self, or_true, true_or, or_false, false_or] at e166
                      refine zs_iconst (pc := 169) C dX9_token_169 (by decide) ?_
                      refine zs_icmp_ne (tgt := 281) (pc := 170) C dX9_token_170 (by decide) (fun h170 => ?_) (fun h170 => ?_)
                      · skip
                        exact zs_vret (pc := 281) C hr hlk dX9_token_281 ⟨by repeat (first | exact zsm_rf | assumption | refine zsm_C (by decide) ?_ | refine zsm_I (by decide) ?_ | refine zsm_J ?_ | refine zsm_c (by assumption) (by decide) ?_), by first | omega | (simp only [zuI_1, zuI_2, zuJ_1, zuJ_2, zuJ_3, zuP_1, zuP_2, zuP_3, zuC_1, zuC_2, reduceIte, Nat.reduceEqDiff, false_and, and_false, true_and, and_true, and_self, or_true, true_or, or_false, false_or]; omega)⟩
                      · skip
                        refine zs_aload_n (pc := 173) C dX9_token_173 rfl ?_
                        refine zs_aload_n (pc := 174) C dX9_token_174 rfl ?_
                        refine zs_aload_n (pc := 175) C dX9_token_175 rfl ?_
                        refine zs_geti (r := 1010) (pc := 176) C dX9_token_176 w_X9_187 f_10_10 rfl (r_1010 0) (fun v176 e176 l176 u176 => ?_)
                        try simp only [zuI_1, zuI_2, zuJ_1, zuJ_2, zuJ_3, zuP_1, zuP_2, zuP_3, zuC_1, zuC_2, reduceIte, Nat.reduceEqDiff, false_and, and_false, true_and, and_true, and_self, or_true, true_or, or_false, false_or] at e176
                        refine zs_aload_n (pc := 179) C dX9_token_179 rfl ?_
                        refine zs_geti (r := 1007) (pc := 180) C dX9_token_180 w_X9_193 f_10_7 rfl (r_1007 0) (fun v180 e180 l180 u180 => ?_)
                        try simp only [zuI_1, zuI_2, zuJ_1, zuJ_2, zuJ_3, zuP_1, zuP_2, zuP_3, zuC_1, zuC_2, reduceIte, Nat.reduceEqDiff, false_and, and_false, true_and, and_true, and_self, or_true, true_or, or_false, false_or] at e180
                        refine zVip2 (pc := 183) C dX9_token_183 v_X9_210 (c_X9_packed hX (by first | omega | (simp only [zuI_1, zuI_2, zuJ_1, zuJ_2, zuJ_3, zuP_1, zuP_2, zuP_3, zuC_1, zuC_2, reduceIte, Nat.reduceEqDiff, false_and, and_false, true_and, and_true, and_self, or_true, true_or, or_false, false_or]; omega))) (by decide) (by decide) ⟨Nat.zero_le _, Nat.zero_le _⟩ (Nat.le_of_ble_eq_true rfl) (fun x183 l183 u183 hp183 => ?_)
                        have hq183 := hp183
                        try simp only [zuI_1, zuI_2, zuJ_1, zuJ_2, zuJ_3, zuP_1, zuP_2, zuP_3, zuC_1, zuC_2, reduceIte, Nat.reduceEqDiff, false_and, and_false, true_and, and_true, and_self, or_true, true_or, or_false, false_or] at hq183
                        refine zs_puti (r := 1009) (pc := 186) C dX9_token_186 w_X9_207 f_10_9 rfl (r_1009 0) (by omega) ?_
                        refine zs_goto (tgt := 281) (pc := 189) C dX9_token_189 (by decide) ?_
                        exact zs_vret (pc := 281) C hr hlk dX9_token_281 ⟨by repeat (first | exact zsm_rf | assumption | refine zsm_C (by decide) ?_ | refine zsm_I (by decide) ?_ | refine zsm_J ?_ | refine zsm_c (by assumption) (by decide) ?_), by first | omega | (simp only [zuI_1, zuI_2, zuJ_1, zuJ_2, zuJ_3, zuP_1, zuP_2, zuP_3, zuC_1, zuC_2, reduceIte, Nat.reduceEqDiff, false_and, and_false, true_and, and_true, and_self, or_true, true_or, or_false, false_or]; omega)⟩
                  · skip
                    refine zs_iconst (pc := 138) C dX9_token_138 (by decide) ?_
                    refine zs_goto (tgt := 162) (pc := 139) C dX9_token_139 (by decide) ?_
                    refine zs_puti (r := 1008) (pc := 162) C dX9_token_162 w_X9_196 f_10_8 rfl (r_1008 0) (by omega) ?_
                    refine zs_aload_n (pc := 165) C dX9_token_165 rfl ?_
                    refine zs_geti (r := 1008) (pc := 166) C dX9_token_166 w_X9_196 f_10_8 rfl (r_1008 0) (fun v166 e166 l166 u166 => ?_)
                    try simp only [zuI_1, zuI_2, zuJ_1, zuJ_2, zuJ_3, zuP_1, zuP_2, zuP_3, zuC_1, zuC_2, reduceIte, Nat.reduceEqDiff, false_and, and_false, true_and, and_true, and_self, or_true, true_or, or_false, false_or] at e166
                    refine zs_iconst (pc := 169) C dX9_token_169 (by decide) ?_
                    refine zs_icmp_ne (tgt := 281) (pc := 170) C dX9_token_170 (by decide) (fun h170 => ?_) (fun h170 => ?_)
                    · skip
                      exact zs_vret (pc := 281) C hr hlk dX9_token_281 ⟨by repeat (first | exact zsm_rf | assumption | refine zsm_C (by decide) ?_ | refine zsm_I (by decide) ?_ | refine zsm_J ?_ | refine zsm_c (by assumption) (by decide) ?_), by first | omega | (simp only [zuI_1, zuI_2, zuJ_1, zuJ_2, zuJ_3, zuP_1, zuP_2, zuP_3, zuC_1, zuC_2, reduceIte, Nat.reduceEqDiff, false_and, and_false, true_and, and_true, and_self, or_true, true_or, or_false, false_or]; omega)⟩
                    · skip
                      refine zs_aload_n (pc := 173) C dX9_token_173 rfl ?_
                      refine zs_aload_n (pc := 174) C dX9_token_174 rfl ?_
                      refine zs_aload_n (pc := 175) C dX9_token_175 rfl ?_
                      refine zs_geti (r := 1010) (pc := 176) C dX9_token_176 w_X9_187 f_10_10 rfl (r_1010 0) (fun v176 e176 l176 u176 => ?_)
                      try simp only [zuI_1, zuI_2, zuJ_1, zuJ_2, zuJ_3, zuP_1, zuP_2, zuP_3, zuC_1, zuC_2, reduceIte, Nat.reduceEqDiff, false_and, and_false, true_and, and_true, and_self, or_true, true_or, or_false, false_or] at e176
                      refine zs_aload_n (pc := 179) C dX9_token_179 rfl ?_
                      refine zs_geti (r := 1007) (pc := 180) C dX9_token_180 w_X9_193 f_10_7 rfl (r_1007 0) (fun v180 e180 l180 u180 => ?_)
                      try simp only [zuI_1, zuI_2, zuJ_1, zuJ_2, zuJ_3, zuP_1, zuP_2, zuP_3, zuC_1, zuC_2, reduceIte, Nat.reduceEqDiff, false_and, and_false, true_and, and_true, and_self, or_true, true_or, or_false, false_or] at e180
                      refine zVip2 (pc := 183) C dX9_token_183 v_X9_210 (c_X9_packed hX (by first | omega | (simp only [zuI_1, zuI_2, zuJ_1, zuJ_2, zuJ_3, zuP_1, zuP_2, zuP_3, zuC_1, zuC_2, reduceIte, Nat.reduceEqDiff, false_and, and_false, true_and, and_true, and_self, or_true, true_or, or_false, false_or]; omega))) (by decide) (by decide) ⟨Nat.zero_le _, Nat.zero_le _⟩ (Nat.le_of_ble_eq_true rfl) (fun x183 l183 u183 hp183 => ?_)
                      have hq183 := hp183
                      try simp only [zuI_1, zuI_2, zuJ_1, zuJ_2, zuJ_3, zuP_1, zuP_2, zuP_3, zuC_1, zuC_2, reduceIte, Nat.reduceEqDiff, false_and, and_false, true_and, and_true, and_self, or_true, true_or, or_false, false_or] at hq183
                      refine zs_puti (r := 1009) (pc := 186) C dX9_token_186 w_X9_207 f_10_9 rfl (r_1009 0) (by omega) ?_
                      refine zs_goto (tgt := 281) (pc := 189) C dX9_token_189 (by decide) ?_
                      exact zs_vret (pc := 281) C hr hlk dX9_token_281 ⟨by repeat (first | exact zsm_rf | assumption | refine zsm_C (by decide) ?_ | refine zsm_I (by decide) ?_ | refine zsm_J ?_ | refine zsm_c (by assumption) (by decide) ?_), by first | omega | (simp only [zuI_1, zuI_2, zuJ_1, zuJ_2, zuJ_3, zuP_1, zuP_2, zuP_3, zuC_1, zuC_2, reduceIte, Nat.reduceEqDiff, false_and, and_false, true_and, and_true, and_self, or_true, true_or, or_false, false_or]; omega)⟩
                · skip
                  refine zs_aload_n (pc := 101) C dX9_token_101 rfl ?_
                  refine zs_dupa (pc := 102) C dX9_token_102 ?_
                  refine zs_geti (r := 1007) (pc := 103) C dX9_token_103 w_X9_193 f_10_7 rfl (r_1007 0) (fun v103 e103 l103 u103 => ?_)
                  refine zs_iconst (pc := 106) C dX9_token_106 (by decide) ?_
                  first | refine zs_iadd (pc := 107) C dX9_token_107 (by omega) ?_ | refine zs_iaddF (pc := 107) C dX9_token_107 (fun z107 hz1071 hz1072 => ?_)
                  refine zs_puti (r := 1007) (pc := 108) C dX9_token_108 w_X9_193 f_10_7 rfl (r_1007 0) (by omega) ?_
                  refine zs_goto (tgt := 90) (pc := 111) C dX9_token_111 (by decide) ?_
                  exact zs_wk (ih90 _ (by repeat (first | exact zsm_rf | assumption | refine zsm_C (by decide) ?_ | refine zsm_I (by decide) ?_ | refine zsm_J ?_ | refine zsm_c (by assumption) (by decide) ?_)) (by first | omega | (simp only [zuI_1, zuI_2, zuJ_1, zuJ_2, zuJ_3, zuP_1, zuP_2, zuP_3, zuC_1, zuC_2, reduceIte, Nat.reduceEqDiff, false_and, and_false, true_and, and_true, and_self, or_true, true_or, or_false, false_or]; omega)) (by first | omega | (simp only [zuI_1, zuI_2, zuJ_1, zuJ_2, zuJ_3, zuP_1, zuP_2, zuP_3, zuC_1, zuC_2, reduceIte, Nat.reduceEqDiff, false_and, and_false, true_and, and_true, and_self, or_true, true_or, or_false, false_or]; omega)) (by first | omega | (simp only [zuI_1, zuI_2, zuJ_1, zuJ_2, zuJ_3, zuP_1, zuP_2, zuP_3, zuC_1, zuC_2, reduceIte, Nat.reduceEqDiff, false_and, and_false, true_and, and_true, and_self, or_true, true_or, or_false, false_or]; omega))) (zwk_s rfl zwk_0)
            exact zs_wk (L90 _ _ (by repeat (first | exact zsm_rf | assumption | refine zsm_C (by decide) ?_ | refine zsm_I (by decide) ?_ | refine zsm_J ?_ | refine zsm_c (by assumption) (by decide) ?_)) (by first | omega | (simp only [zuI_1, zuI_2, zuJ_1, zuJ_2, zuJ_3, zuP_1, zuP_2, zuP_3, zuC_1, zuC_2, reduceIte, Nat.reduceEqDiff, false_and, and_false, true_and, and_true, and_self, or_true, true_or, or_false, false_or]; omega)) (by first | omega | (simp only [zuI_1, zuI_2, zuJ_1, zuJ_2, zuJ_3, zuP_1, zuP_2, zuP_3, zuC_1, zuC_2, reduceIte, Nat.reduceEqDiff, false_and, and_false, true_and, and_true, and_self, or_true, true_or, or_false, false_or]; omega)) (Nat.lt_succ_self _)) (zwk_s rfl zwk_0)
        · skip
          refine zs_aload_n (pc := 71) C dX9_token_71 rfl ?_
          refine zs_iconst (pc := 72) C dX9_token_72 (by decide) ?_
          refine zs_puti (r := 1008) (pc := 73) C dX9_token_73 w_X9_196 f_10_8 rfl (r_1008 0) (by omega) ?_
          refine zs_goto (tgt := 281) (pc := 76) C dX9_token_76 (by decide) ?_
          exact zs_vret (pc := 281) C hr hlk dX9_token_281 ⟨by repeat (first | exact zsm_rf | assumption | refine zsm_C (by decide) ?_ | refine zsm_I (by decide) ?_ | refine zsm_J ?_ | refine zsm_c (by assumption) (by decide) ?_), by first | omega | (simp only [zuI_1, zuI_2, zuJ_1, zuJ_2, zuJ_3, zuP_1, zuP_2, zuP_3, zuC_1, zuC_2, reduceIte, Nat.reduceEqDiff, false_and, and_false, true_and, and_true, and_self, or_true, true_or, or_false, false_or]; omega)⟩
      · skip
        refine zs_aload_n (pc := 11) C dX9_token_11 rfl ?_
        refine zs_getf (pc := 12) C dX9_token_12 w_X9_7 f_10_0 (by decide) ?_
        refine zs_aload_n (pc := 15) C dX9_token_15 rfl ?_
        refine zs_geti (r := 1007) (pc := 16) C dX9_token_16 w_X9_193 f_10_7 rfl (r_1007 0) (fun v16 e16 l16 u16 => ?_)
        refine zs_iald (r := 2057) (pc := 19) C dX9_token_19 a_57 (by decide) (by omega) rfl (r_2057 _) (fun v19 e19 l19 u19 => ?_)
        refine zs_bipush (pc := 20) C dX9_token_20 (by decide) (by decide) ?_
        refine zs_icmp_eq (tgt := 39) (pc := 22) C dX9_token_22 (by decide) (fun h22 => ?_) (fun h22 => ?_)
        · skip
          refine zs_aload_n (pc := 39) C dX9_token_39 rfl ?_
          refine zs_dupa (pc := 40) C dX9_token_40 ?_
          refine zs_geti (r := 1007) (pc := 41) C dX9_token_41 w_X9_193 f_10_7 rfl (r_1007 0) (fun v41 e41 l41 u41 => ?_)
          refine zs_iconst (pc := 44) C dX9_token_44 (by decide) ?_
          first | refine zs_iadd (pc := 45) C dX9_token_45 (by omega) ?_ | refine zs_iaddF (pc := 45) C dX9_token_45 (fun z45 hz451 hz452 => ?_)
          refine zs_puti (r := 1007) (pc := 46) C dX9_token_46 w_X9_193 f_10_7 rfl (r_1007 0) (by omega) ?_
          refine zs_goto (tgt := 0) (pc := 49) C dX9_token_49 (by decide) ?_
          exact zs_wk (ih0 _ (by repeat (first | exact zsm_rf | assumption | refine zsm_C (by decide) ?_ | refine zsm_I (by decide) ?_ | refine zsm_J ?_ | refine zsm_c (by assumption) (by decide) ?_)) (by first | omega | (simp only [zuI_1, zuI_2, zuJ_1, zuJ_2, zuJ_3, zuP_1, zuP_2, zuP_3, zuC_1, zuC_2, reduceIte, Nat.reduceEqDiff, false_and, and_false, true_and, and_true, and_self, or_true, true_or, or_false, false_or]; omega)) (by first | omega | (simp only [zuI_1, zuI_2, zuJ_1, zuJ_2, zuJ_3, zuP_1, zuP_2, zuP_3, zuC_1, zuC_2, reduceIte, Nat.reduceEqDiff, false_and, and_false, true_and, and_true, and_self, or_true, true_or, or_false, false_or]; omega))) (zwk_s rfl zwk_0)
        · skip
          refine zs_aload_n (pc := 25) C dX9_token_25 rfl ?_
          refine zs_getf (pc := 26) C dX9_token_26 w_X9_7 f_10_0 (by decide) ?_
          refine zs_aload_n (pc := 29) C dX9_token_29 rfl ?_
          refine zs_geti (r := 1007) (pc := 30) C dX9_token_30 w_X9_193 f_10_7 rfl (r_1007 0) (fun v30 e30 l30 u30 => ?_)
          refine zs_iald (r := 2057) (pc := 33) C dX9_token_33 a_57 (by decide) (by omega) rfl (r_2057 _) (fun v33 e33 l33 u33 => ?_)
          refine zs_bipush (pc := 34) C dX9_token_34 (by decide) (by decide) ?_
          refine zs_icmp_ne (tgt := 52) (pc := 36) C dX9_token_36 (by decide) (fun h36 => ?_) (fun h36 => ?_)
          · skip
            refine zs_aload_n (pc := 52) C dX9_token_52 rfl ?_
            refine zs_aload_n (pc := 53) C dX9_token_53 rfl ?_
            refine zs_geti (r := 1007) (pc := 54) C dX9_token_54 w_X9_193 f_10_7 rfl (r_1007 0) (fun v54 e54 l54 u54 => ?_)
            refine zs_puti (r := 1010) (pc := 57) C dX9_token_57 w_X9_187 f_10_10 rfl (r_1010 0) (by omega) ?_
            refine zs_aload_n (pc := 60) C dX9_token_60 rfl ?_
            refine zs_geti (r := 1007) (pc := 61) C dX9_token_61 w_X9_193 f_10_7 rfl (r_1007 0) (fun v61 e61 l61 u61 => ?_)
            try simp only [zuI_1, zuI_2, zuJ_1, zuJ_2, zuJ_3, zuP_1, zuP_2, zuP_3, zuC_1, zuC_2, reduceIte, Nat.reduceEqDiff, false_and, and_false, true_and, and_true, and_self, or_true, true_or, or_false, false_or] at e61
            refine zs_aload_n (pc := 64) C dX9_token_64 rfl ?_
            refine zs_geti (r := 1006) (pc := 65) C dX9_token_65 w_X9_190 f_10_6 rfl (r_1006 0) (fun v65 e65 l65 u65 => ?_)
            try simp only [zuI_1, zuI_2, zuJ_1, zuJ_2, zuJ_3, zuP_1, zuP_2, zuP_3, zuC_1, zuC_2, reduceIte, Nat.reduceEqDiff, false_and, and_false, true_and, and_true, and_self, or_true, true_or, or_false, false_or] at e65
            refine zs_icmp_ne (tgt := 79) (pc := 68) C dX9_token_68 (by decide) (fun h68 => ?_) (fun h68 => ?_)
            · skip
              refine zs_aload_n (pc := 79) C dX9_token_79 rfl ?_
              refine zs_aload_n (pc := 80) C dX9_token_80 rfl ?_
              refine zs_geti (r := 1007) (pc := 81) C dX9_token_81 w_X9_193 f_10_7 rfl (r_1007 0) (fun v81 e81 l81 u81 => ?_)
              try simp only [zuI_1, zuI_2, zuJ_1, zuJ_2, zuJ_3, zuP_1, zuP_2, zuP_3, zuC_1, zuC_2, reduceIte, Nat.reduceEqDiff, false_and, and_false, true_and, and_true, and_self, or_true, true_or, or_false, false_or] at e81
              refine zVip1 (pc := 84) C dX9_token_84 v_X9_199 (c_X9_isSmall hX (by first | omega | (simp only [zuI_1, zuI_2, zuJ_1, zuJ_2, zuJ_3, zuP_1, zuP_2, zuP_3, zuC_1, zuC_2, reduceIte, Nat.reduceEqDiff, false_and, and_false, true_and, and_true, and_self, or_true, true_or, or_false, false_or]; omega))) (by decide) (by decide) ⟨Nat.zero_le _, Nat.zero_le _⟩ (Nat.le_of_ble_eq_true rfl) (fun x84 l84 u84 hp84 => ?_)
              have hq84 := hp84
              try simp only [zuI_1, zuI_2, zuJ_1, zuJ_2, zuJ_3, zuP_1, zuP_2, zuP_3, zuC_1, zuC_2, reduceIte, Nat.reduceEqDiff, false_and, and_false, true_and, and_true, and_self, or_true, true_or, or_false, false_or] at hq84
              refine zs_if_eq (tgt := 192) (pc := 87) C dX9_token_87 (by decide) (fun h87 => ?_) (fun h87 => ?_)
              · skip
                refine zs_aload_n (pc := 192) C dX9_token_192 rfl ?_
                refine zs_aload_n (pc := 193) C dX9_token_193 rfl ?_
                refine zs_geti (r := 1007) (pc := 194) C dX9_token_194 w_X9_193 f_10_7 rfl (r_1007 0) (fun v194 e194 l194 u194 => ?_)
                try simp only [zuI_1, zuI_2, zuJ_1, zuJ_2, zuJ_3, zuP_1, zuP_2, zuP_3, zuC_1, zuC_2, reduceIte, Nat.reduceEqDiff, false_and, and_false, true_and, and_true, and_self, or_true, true_or, or_false, false_or] at e194
                refine zVip1 (pc := 197) C dX9_token_197 v_X9_213 (c_X9_isDigit hX (by first | omega | (simp only [zuI_1, zuI_2, zuJ_1, zuJ_2, zuJ_3, zuP_1, zuP_2, zuP_3, zuC_1, zuC_2, reduceIte, Nat.reduceEqDiff, false_and, and_false, true_and, and_true, and_self, or_true, true_or, or_false, false_or]; omega))) (by decide) (by decide) ⟨Nat.zero_le _, Nat.zero_le _⟩ (Nat.le_of_ble_eq_true rfl) (fun x197 l197 u197 hp197 => ?_)
                have hq197 := hp197
                try simp only [zuI_1, zuI_2, zuJ_1, zuJ_2, zuJ_3, zuP_1, zuP_2, zuP_3, zuC_1, zuC_2, reduceIte, Nat.reduceEqDiff, false_and, and_false, true_and, and_true, and_self, or_true, true_or, or_false, false_or] at hq197
                refine zs_if_eq (tgt := 277) (pc := 200) C dX9_token_200 (by decide) (fun h200 => ?_) (fun h200 => ?_)
                · skip
                  refine zs_aload_n (pc := 277) C dX9_token_277 rfl ?_
                  refine zVv0 (pc := 278) C dX9_token_278 v_X9_217 (c_X9_signToken hX (by first | omega | (simp only [zuI_1, zuI_2, zuJ_1, zuJ_2, zuJ_3, zuP_1, zuP_2, zuP_3, zuC_1, zuC_2, reduceIte, Nat.reduceEqDiff, false_and, and_false, true_and, and_true, and_self, or_true, true_or, or_false, false_or]; omega)) (by first | omega | (simp only [zuI_1, zuI_2, zuJ_1, zuJ_2, zuJ_3, zuP_1, zuP_2, zuP_3, zuC_1, zuC_2, reduceIte, Nat.reduceEqDiff, false_and, and_false, true_and, and_true, and_self, or_true, true_or, or_false, false_or]; omega))) (by decide) (by decide) ⟨Nat.zero_le _, Nat.zero_le _⟩ (Nat.le_of_ble_eq_true rfl) (fun G278 hp278 => ?_)
                  obtain ⟨hz278, hq278⟩ := hp278
                  try simp only [zuI_1, zuI_2, zuJ_1, zuJ_2, zuJ_3, zuP_1, zuP_2, zuP_3, zuC_1, zuC_2, reduceIte, Nat.reduceEqDiff, false_and, and_false, true_and, and_true, and_self, or_true, true_or, or_false, false_or] at hq278
                  exact zs_vret (pc := 281) C hr hlk dX9_token_281 ⟨by repeat (first | exact zsm_rf | assumption | refine zsm_C (by decide) ?_ | refine zsm_I (by decide) ?_ | refine zsm_J ?_ | refine zsm_c (by assumption) (by decide) ?_), by first | omega | (simp only [zuI_1, zuI_2, zuJ_1, zuJ_2, zuJ_3, zuP_1, zuP_2, zuP_3, zuC_1, zuC_2, reduceIte, Nat.reduceEqDiff, false_and, and_false, true_and, and_true, and_self, or_true, true_or, or_false, false_or]; omega)⟩
                · skip
                  refine zs_aload_n (pc := 203) C dX9_token_203 rfl ?_
                  refine zs_iconst (pc := 204) C dX9_token_204 (by decide) ?_
                  refine zs_puti (r := 1008) (pc := 205) C dX9_token_205 w_X9_196 f_10_8 rfl (r_1008 0) (by omega) ?_
                  refine zs_aload_n (pc := 208) C dX9_token_208 rfl ?_
                  refine zs_iconst (pc := 209) C dX9_token_209 (by decide) ?_
                  refine zs_puti (r := 1009) (pc := 210) C dX9_token_210 w_X9_207 f_10_9 rfl (r_1009 0) (by omega) ?_
                  have L213 : ∀ (nn : Nat) (G3 : zH), (zsm [1007, 1010, 1008, 1009] G G3) → (G3.1 1007 w 0 ≤ G3.1 1006 w 0 ∧ G.1 1007 w 0 ≤ G3.1 1010 w 0) → (G3.1 1008 w 0 = 3 ∧ 0 ≤ G3.1 1009 w 0) → (G3.1 1010 w 0 < G3.1 1007 w 0 ∨ (G3.1 1010 w 0 = G3.1 1007 w 0 ∧ G3.1 1007 w 0 < G3.1 1006 w 0 ∧ 48 ≤ G3.1 2057 (Γ.2.1 w 0) (G3.1 1007 w 0).toNat ∧ G3.1 2057 (Γ.2.1 w 0) (G3.1 1007 w 0).toNat ≤ 57)) → (700 - G3.1 1007 w 0).toNat < nn → Z p l e (zrm 1) s m args below meth c Γ 1 0 0 (MQ below (zQc Γ (zpv (fun G' => zsm [1007, 1008, 1009, 1010] G G' ∧ ((G'.1 1007 w 0 ≤ G'.1 1006 w 0 ∧ G'.1 1010 w 0 ≤ G'.1 1007 w 0 ∧ (G'.1 1008 w 0 ≠ 0 → G'.1 1010 w 0 < G'.1 1007 w 0) ∧ ((G'.1 1008 w 0 = 5 → 0 ≤ G'.1 1009 w 0 ∧ G'.1 1009 w 0 ≤ 5) ∧ (G'.1 1008 w 0 = 1 → 0 ≤ G'.1 1009 w 0 ∧ G'.1 1009 w 0 ≤ 23) ∧ (G'.1 1008 w 0 = 3 → 0 ≤ G'.1 1009 w 0))) ∧ G.1 1007 w 0 ≤ G'.1 1010 w 0)))) args s 0 0 (zA Γ)) 213 [some (zr 10 w)] [] G3 := by
                    intro nn
                    induction nn with
                    | zero => intro G3 h213_0 h213_1 h213_2 h213_3 hm; exact absurd hm (Nat.not_lt_zero _)
                    | succ nn ih213 =>
                      intro G3 h213_0 h213_1 h213_2 h213_3 hm213
                      refine zs_aload_n (pc := 213) C dX9_token_213 rfl ?_
                      refine zs_aload_n (pc := 214) C dX9_token_214 rfl ?_
                      refine zs_geti (r := 1007) (pc := 215) C dX9_token_215 w_X9_193 f_10_7 rfl (r_1007 0) (fun v215 e215 l215 u215 => ?_)
                      refine zVip1 (pc := 218) C dX9_token_218 v_X9_213 (c_X9_isDigit hX (by omega)) (by decide) (by decide) ⟨Nat.zero_le _, Nat.zero_le _⟩ (Nat.le_of_ble_eq_true rfl) (fun x218 l218 u218 hp218 => ?_)
                      have hq218 := hp218
                      refine zs_if_eq (tgt := 281) (pc := 221) C dX9_token_221 (by decide) (fun h221 => ?_) (fun h221 => ?_)
                      · skip
                        exact zs_vret (pc := 281) C hr hlk dX9_token_281 ⟨by repeat (first | exact zsm_rf | assumption | refine zsm_C (by decide) ?_ | refine zsm_I (by decide) ?_ | refine zsm_J ?_ | refine zsm_c (by assumption) (by decide) ?_), by first | omega | (simp only [zuI_1, zuI_2, zuJ_1, zuJ_2, zuJ_3, zuP_1, zuP_2, zuP_3, zuC_1, zuC_2, reduceIte, Nat.reduceEqDiff, false_and, and_false, true_and, and_true, and_self, or_true, true_or, or_false, false_or]; omega)⟩
                      · skip
                        refine zs_aload_n (pc := 224) C dX9_token_224 rfl ?_
                        refine zs_aload_n (pc := 225) C dX9_token_225 rfl ?_
                        refine zs_geti (r := 1009) (pc := 226) C dX9_token_226 w_X9_207 f_10_9 rfl (r_1009 0) (fun v226 e226 l226 u226 => ?_)
                        refine zs_ldc (n := 99999) (pc := 229) C dX9_token_229 q_X9_216 (by decide) (by decide) ?_
                        refine zs_icmp_le (tgt := 241) (pc := 231) C dX9_token_231 (by decide) (fun h231 => ?_) (fun h231 => ?_)
                        · skip
                          refine zs_bipush (pc := 241) C dX9_token_241 (by decide) (by decide) ?_
                          refine zs_aload_n (pc := 243) C dX9_token_243 rfl ?_
                          refine zs_geti (r := 1009) (pc := 244) C dX9_token_244 w_X9_207 f_10_9 rfl (r_1009 0) (fun v244 e244 l244 u244 => ?_)
                          first | refine zs_imul (pc := 247) C dX9_token_247 (by omega) ?_ | refine zs_imulF (pc := 247) C dX9_token_247 (fun z247 hz2471 hz2472 => ?_)
                          refine zs_aload_n (pc := 248) C dX9_token_248 rfl ?_
                          refine zs_getf (pc := 249) C dX9_token_249 w_X9_7 f_10_0 (by decide) ?_
                          refine zs_aload_n (pc := 252) C dX9_token_252 rfl ?_
                          refine zs_geti (r := 1007) (pc := 253) C dX9_token_253 w_X9_193 f_10_7 rfl (r_1007 0) (fun v253 e253 l253 u253 => ?_)
                          refine zs_iald (r := 2057) (pc := 256) C dX9_token_256 a_57 (by decide) (by omega) rfl (r_2057 _) (fun v256 e256 l256 u256 => ?_)
                          first | refine zs_iadd (pc := 257) C dX9_token_257 (by omega) ?_ | refine zs_iaddF (pc := 257) C dX9_token_257 (fun z257 hz2571 hz2572 => ?_)
                          refine zs_bipush (pc := 258) C dX9_token_258 (by decide) (by decide) ?_
                          first | refine zs_isub (pc := 260) C dX9_token_260 (by omega) ?_ | refine zs_isubF (pc := 260) C dX9_token_260 (fun z260 hz2601 hz2602 => ?_)
                          refine zs_puti (r := 1009) (pc := 261) C dX9_token_261 w_X9_207 f_10_9 rfl (r_1009 0) (by omega) ?_
                          refine zs_aload_n (pc := 264) C dX9_token_264 rfl ?_
                          refine zs_dupa (pc := 265) C dX9_token_265 ?_
                          refine zs_geti (r := 1007) (pc := 266) C dX9_token_266 w_X9_193 f_10_7 rfl (r_1007 0) (fun v266 e266 l266 u266 => ?_)
                          try simp only [zuI_1, zuI_2, zuJ_1, zuJ_2, zuJ_3, zuP_1, zuP_2, zuP_3, zuC_1, zuC_2, reduceIte, Nat.reduceEqDiff, false_and, and_false, true_and, and_true, and_self, or_true, true_or, or_false, false_or] at e266
                          refine zs_iconst (pc := 269) C dX9_token_269 (by decide) ?_
                          first | refine zs_iadd (pc := 270) C dX9_token_270 (by omega) ?_ | refine zs_iaddF (pc := 270) C dX9_token_270 (fun z270 hz2701 hz2702 => ?_)
                          refine zs_puti (r := 1007) (pc := 271) C dX9_token_271 w_X9_193 f_10_7 rfl (r_1007 0) (by omega) ?_
                          refine zs_goto (tgt := 213) (pc := 274) C dX9_token_274 (by decide) ?_
                          exact zs_wk (ih213 _ (by repeat (first | exact zsm_rf | assumption | refine zsm_C (by decide) ?_ | refine zsm_I (by decide) ?_ | refine zsm_J ?_ | refine zsm_c (by assumption) (by decide) ?_)) (by first | omega | (simp only [zuI_1, zuI_2, zuJ_1, zuJ_2, zuJ_3, zuP_1, zuP_2, zuP_3, zuC_1, zuC_2, reduceIte, Nat.reduceEqDiff, false_and, and_false, true_and, and_true, and_self, or_true, true_or, or_false, false_or]; omega)) (by first | omega | (simp only [zuI_1, zuI_2, zuJ_1, zuJ_2, zuJ_3, zuP_1, zuP_2, zuP_3, zuC_1, zuC_2, reduceIte, Nat.reduceEqDiff, false_and, and_false, true_and, and_true, and_self, or_true, true_or, or_false, false_or]; omega)) (by first | omega | (simp only [zuI_1, zuI_2, zuJ_1, zuJ_2, zuJ_3, zuP_1, zuP_2, zuP_3, zuC_1, zuC_2, reduceIte, Nat.reduceEqDiff, false_and, and_false, true_and, and_true, and_self, or_true, true_or, or_false, false_or]; omega)) (by first | omega | (simp only [zuI_1, zuI_2, zuJ_1, zuJ_2, zuJ_3, zuP_1, zuP_2, zuP_3, zuC_1, zuC_2, reduceIte, Nat.reduceEqDiff, false_and, and_false, true_and, and_true, and_self, or_true, true_or, or_false, false_or]; omega))) (zwk_s rfl zwk_0)
                        · skip
                          refine zs_aload_n (pc := 234) C dX9_token_234 rfl ?_
                          refine zs_geti (r := 1009) (pc := 235) C dX9_token_235 w_X9_207 f_10_9 rfl (r_1009 0) (fun v235 e235 l235 u235 => ?_)
                          refine zs_goto (tgt := 261) (pc := 238) C dX9_token_238 (by decide) ?_
                          refine zs_puti (r := 1009) (pc := 261) C dX9_token_261 w_X9_207 f_10_9 rfl (r_1009 0) (by omega) ?_
                          refine zs_aload_n (pc := 264) C dX9_token_264 rfl ?_
                          refine zs_dupa (pc := 265) C dX9_token_265 ?_
                          refine zs_geti (r := 1007) (pc := 266) C dX9_token_266 w_X9_193 f_10_7 rfl (r_1007 0) (fun v266 e266 l266 u266 => ?_)
                          try simp only [zuI_1, zuI_2, zuJ_1, zuJ_2, zuJ_3, zuP_1, zuP_2, zuP_3, zuC_1, zuC_2, reduceIte, Nat.reduceEqDiff, false_and, and_false, true_and, and_true, and_self, or_true, true_or, or_false, false_or] at e266
                          refine zs_iconst (pc := 269) C dX9_token_269 (by decide) ?_
                          first | refine zs_iadd (pc := 270) C dX9_token_270 (by omega) ?_ | refine zs_iaddF (pc := 270) C dX9_token_270 (fun z270 hz2701 hz2702 => ?_)
                          refine zs_puti (r := 1007) (pc := 271) C dX9_token_271 w_X9_193 f_10_7 rfl (r_1007 0) (by omega) ?_
                          refine zs_goto (tgt := 213) (pc := 274) C dX9_token_274 (by decide) ?_
                          exact zs_wk (ih213 _ (by repeat (first | exact zsm_rf | assumption | refine zsm_C (by decide) ?_ | refine zsm_I (by decide) ?_ | refine zsm_J ?_ | refine zsm_c (by assumption) (by decide) ?_)) (by first | omega | (simp only [zuI_1, zuI_2, zuJ_1, zuJ_2, zuJ_3, zuP_1, zuP_2, zuP_3, zuC_1, zuC_2, reduceIte, Nat.reduceEqDiff, false_and, and_false, true_and, and_true, and_self, or_true, true_or, or_false, false_or]; omega)) (by first | omega | (simp only [zuI_1, zuI_2, zuJ_1, zuJ_2, zuJ_3, zuP_1, zuP_2, zuP_3, zuC_1, zuC_2, reduceIte, Nat.reduceEqDiff, false_and, and_false, true_and, and_true, and_self, or_true, true_or, or_false, false_or]; omega)) (by first | omega | (simp only [zuI_1, zuI_2, zuJ_1, zuJ_2, zuJ_3, zuP_1, zuP_2, zuP_3, zuC_1, zuC_2, reduceIte, Nat.reduceEqDiff, false_and, and_false, true_and, and_true, and_self, or_true, true_or, or_false, false_or]; omega)) (by first | omega | (simp only [zuI_1, zuI_2, zuJ_1, zuJ_2, zuJ_3, zuP_1, zuP_2, zuP_3, zuC_1, zuC_2, reduceIte, Nat.reduceEqDiff, false_and, and_false, true_and, and_true, and_self, or_true, true_or, or_false, false_or]; omega))) (zwk_s rfl zwk_0)
                  exact zs_wk (L213 _ _ (by repeat (first | exact zsm_rf | assumption | refine zsm_C (by decide) ?_ | refine zsm_I (by decide) ?_ | refine zsm_J ?_ | refine zsm_c (by assumption) (by decide) ?_)) (by first | omega | (simp only [zuI_1, zuI_2, zuJ_1, zuJ_2, zuJ_3, zuP_1, zuP_2, zuP_3, zuC_1, zuC_2, reduceIte, Nat.reduceEqDiff, false_and, and_false, true_and, and_true, and_self, or_true, true_or, or_false, false_or]; omega)) (by first | omega | (simp only [zuI_1, zuI_2, zuJ_1, zuJ_2, zuJ_3, zuP_1, zuP_2, zuP_3, zuC_1, zuC_2, reduceIte, Nat.reduceEqDiff, false_and, and_false, true_and, and_true, and_self, or_true, true_or, or_false, false_or]; omega)) (by first | omega | (simp only [zuI_1, zuI_2, zuJ_1, zuJ_2, zuJ_3, zuP_1, zuP_2, zuP_3, zuC_1, zuC_2, reduceIte, Nat.reduceEqDiff, false_and, and_false, true_and, and_true, and_self, or_true, true_or, or_false, false_or]; omega)) (Nat.lt_succ_self _)) (zwk_s rfl zwk_0)
              · skip
                have L90 : ∀ (nn : Nat) (G2 : zH), (zsm [1007, 1010] G G2) → (G2.1 1007 w 0 ≤ G2.1 1006 w 0 ∧ G.1 1007 w 0 ≤ G2.1 1010 w 0) → (G2.1 1010 w 0 < G2.1 1007 w 0 ∨ (G2.1 1010 w 0 = G2.1 1007 w 0 ∧ G2.1 1007 w 0 < G2.1 1006 w 0 ∧ 97 ≤ G2.1 2057 (Γ.2.1 w 0) (G2.1 1007 w 0).toNat ∧ G2.1 2057 (Γ.2.1 w 0) (G2.1 1007 w 0).toNat ≤ 122)) → (700 - G2.1 1007 w 0).toNat < nn → Z p l e (zrm 1) s m args below meth c Γ 1 0 0 (MQ below (zQc Γ (zpv (fun G' => zsm [1007, 1008, 1009, 1010] G G' ∧ ((G'.1 1007 w 0 ≤ G'.1 1006 w 0 ∧ G'.1 1010 w 0 ≤ G'.1 1007 w 0 ∧ (G'.1 1008 w 0 ≠ 0 → G'.1 1010 w 0 < G'.1 1007 w 0) ∧ ((G'.1 1008 w 0 = 5 → 0 ≤ G'.1 1009 w 0 ∧ G'.1 1009 w 0 ≤ 5) ∧ (G'.1 1008 w 0 = 1 → 0 ≤ G'.1 1009 w 0 ∧ G'.1 1009 w 0 ≤ 23) ∧ (G'.1 1008 w 0 = 3 → 0 ≤ G'.1 1009 w 0))) ∧ G.1 1007 w 0 ≤ G'.1 1010 w 0)))) args s 0 0 (zA Γ)) 90 [some (zr 10 w)] [] G2 := by
                  intro nn
                  induction nn with
                  | zero => intro G2 h90_0 h90_1 h90_2 hm; exact absurd hm (Nat.not_lt_zero _)
                  | succ nn ih90 =>
                    intro G2 h90_0 h90_1 h90_2 hm90
                    refine zs_aload_n (pc := 90) C dX9_token_90 rfl ?_
                    refine zs_aload_n (pc := 91) C dX9_token_91 rfl ?_
                    refine zs_geti (r := 1007) (pc := 92) C dX9_token_92 w_X9_193 f_10_7 rfl (r_1007 0) (fun v92 e92 l92 u92 => ?_)
                    refine zVip1 (pc := 95) C dX9_token_95 v_X9_199 (c_X9_isSmall hX (by omega)) (by decide) (by decide) ⟨Nat.zero_le _, Nat.zero_le _⟩ (Nat.le_of_ble_eq_true rfl) (fun x95 l95 u95 hp95 => ?_)
                    have hq95 := hp95
                    refine zs_if_eq (tgt := 114) (pc := 98) C dX9_token_98 (by decide) (fun h98 => ?_) (fun h98 => ?_)
                    · skip
                      refine zs_aload_n (pc := 114) C dX9_token_114 rfl ?_
                      refine zs_aload_n (pc := 115) C dX9_token_115 rfl ?_
                      refine zs_aload_n (pc := 116) C dX9_token_116 rfl ?_
                      refine zs_geti (r := 1010) (pc := 117) C dX9_token_117 w_X9_187 f_10_10 rfl (r_1010 0) (fun v117 e117 l117 u117 => ?_)
                      refine zs_aload_n (pc := 120) C dX9_token_120 rfl ?_
                      refine zs_geti (r := 1007) (pc := 121) C dX9_token_121 w_X9_193 f_10_7 rfl (r_1007 0) (fun v121 e121 l121 u121 => ?_)
                      refine zVip2 (pc := 124) C dX9_token_124 v_X9_203 (c_X9_wordAt hX (by omega)) (by decide) (by decide) ⟨Nat.zero_le _, Nat.zero_le _⟩ (Nat.le_of_ble_eq_true rfl) (fun x124 l124 u124 hp124 => ?_)
                      have hq124 := hp124
                      refine zs_puti (r := 1009) (pc := 127) C dX9_token_127 w_X9_207 f_10_9 rfl (r_1009 0) (by omega) ?_
                      refine zs_aload_n (pc := 130) C dX9_token_130 rfl ?_
                      refine zs_aload_n (pc := 131) C dX9_token_131 rfl ?_
                      refine zs_geti (r := 1009) (pc := 132) C dX9_token_132 w_X9_207 f_10_9 rfl (r_1009 0) (fun v132 e132 l132 u132 => ?_)
                      try simp only [zuI_1, zuI_2, zuJ_1, zuJ_2, zuJ_3, zuP_1, zuP_2, zuP_3, zuC_1, zuC_2, reduceIte, Nat.reduceEqDiff, false_and, and_false, true_and, and_true, and_self, or_true, true_or, or_false, false_or] at e132
                      refine zs_if_lt (tgt := 142) (pc := 135) C dX9_token_135 (by decide) (fun h135 => ?_) (fun h135 => ?_)
                      · skip
                        refine zs_aload_n (pc := 142) C dX9_token_142 rfl ?_
                        refine zs_geti (r := 1007) (pc := 143) C dX9_token_143 w_X9_193 f_10_7 rfl (r_1007 0) (fun v143 e143 l143 u143 => ?_)
                        try simp only [zuI_1, zuI_2, zuJ_1, zuJ_2, zuJ_3, zuP_1, zuP_2, zuP_3, zuC_1, zuC_2, reduceIte, Nat.reduceEqDiff, false_and, and_false, true_and, and_true, and_self, or_true, true_or, or_false, false_or] at e143
                        refine zs_aload_n (pc := 146) C dX9_token_146 rfl ?_
                        refine zs_geti (r := 1010) (pc := 147) C dX9_token_147 w_X9_187 f_10_10 rfl (r_1010 0) (fun v147 e147 l147 u147 => ?_)
                        try simp only [zuI_1, zuI_2, zuJ_1, zuJ_2, zuJ_3, zuP_1, zuP_2, zuP_3, zuC_1, zuC_2, reduceIte, Nat.reduceEqDiff, false_and, and_false, true_and, and_true, and_self, or_true, true_or, or_false, false_or] at e147
                        first | refine zs_isub (pc := 150) C dX9_token_150 (by omega) ?_ | refine zs_isubF (pc := 150) C dX9_token_150 (fun z150 hz1501 hz1502 => ?_)
                        refine zs_bipush (pc := 151) C dX9_token_151 (by decide) (by decide) ?_
                        refine zs_icmp_le (tgt := 161) (pc := 153) C dX9_token_153 (by decide) (fun h153 => ?_) (fun h153 => ?_)
                        · skip
                          refine zs_iconst (pc := 161) C dX9_token_161 (by decide) ?_
                          refine zs_puti (r := 1008) (pc := 162) C dX9_token_162 w_X9_196 f_10_8 rfl (r_1008 0) (by omega) ?_
                          refine zs_aload_n (pc := 165) C dX9_token_165 rfl ?_
                          refine zs_geti (r := 1008) (pc := 166) C dX9_token_166 w_X9_196 f_10_8 rfl (r_1008 0) (fun v166 e166 l166 u166 => ?_)
                          try simp only [zuI_1, zuI_2, zuJ_1, zuJ_2, zuJ_3, zuP_1, zuP_2, zuP_3, zuC_1, zuC_2, reduceIte, Nat.reduceEqDiff, false_and, and_false, true_and, and_true, and_self, or_true, true_or, or_false, false_or] at e166
                          refine zs_iconst (pc := 169) C dX9_token_169 (by decide) ?_
                          refine zs_icmp_ne (tgt := 281) (pc := 170) C dX9_token_170 (by decide) (fun h170 => ?_) (fun h170 => ?_)
                          · skip
                            exact zs_vret (pc := 281) C hr hlk dX9_token_281 ⟨by repeat (first | exact zsm_rf | assumption | refine zsm_C (by decide) ?_ | refine zsm_I (by decide) ?_ | refine zsm_J ?_ | refine zsm_c (by assumption) (by decide) ?_), by first | omega | (simp only [zuI_1, zuI_2, zuJ_1, zuJ_2, zuJ_3, zuP_1, zuP_2, zuP_3, zuC_1, zuC_2, reduceIte, Nat.reduceEqDiff, false_and, and_false, true_and, and_true, and_self, or_true, true_or, or_false, false_or]; omega)⟩
                          · skip
                            refine zs_aload_n (pc := 173) C dX9_token_173 rfl ?_
                            refine zs_aload_n (pc := 174) C dX9_token_174 rfl ?_
                            refine zs_aload_n (pc := 175) C dX9_token_175 rfl ?_
                            refine zs_geti (r := 1010) (pc := 176) C dX9_token_176 w_X9_187 f_10_10 rfl (r_1010 0) (fun v176 e176 l176 u176 => ?_)
                            try simp only [zuI_1, zuI_2, zuJ_1, zuJ_2, zuJ_3, zuP_1, zuP_2, zuP_3, zuC_1, zuC_2, reduceIte, Nat.reduceEqDiff, false_and, and_false, true_and, and_true, and_self, or_true, true_or, or_false, false_or] at e176
                            refine zs_aload_n (pc := 179) C dX9_token_179 rfl ?_
                            refine zs_geti (r := 1007) (pc := 180) C dX9_token_180 w_X9_193 f_10_7 rfl (r_1007 0) (fun v180 e180 l180 u180 => ?_)
                            try simp only [zuI_1, zuI_2, zuJ_1, zuJ_2, zuJ_3, zuP_1, zuP_2, zuP_3, zuC_1, zuC_2, reduceIte, Nat.reduceEqDiff, false_and, and_false, true_and, and_true, and_self, or_true, true_or, or_false, false_or] at e180
                            refine zVip2 (pc := 183) C dX9_token_183 v_X9_210 (c_X9_packed hX (by first | omega | (simp only [zuI_1, zuI_2, zuJ_1, zuJ_2, zuJ_3, zuP_1, zuP_2, zuP_3, zuC_1, zuC_2, reduceIte, Nat.reduceEqDiff, false_and, and_false, true_and, and_true, and_self, or_true, true_or, or_false, false_or]; omega))) (by decide) (by decide) ⟨Nat.zero_le _, Nat.zero_le _⟩ (Nat.le_of_ble_eq_true rfl) (fun x183 l183 u183 hp183 => ?_)
                            have hq183 := hp183
                            try simp only [zuI_1, zuI_2, zuJ_1, zuJ_2, zuJ_3, zuP_1, zuP_2, zuP_3, zuC_1, zuC_2, reduceIte, Nat.reduceEqDiff, false_and, and_false, true_and, and_true, and_self, or_true, true_or, or_false, false_or] at hq183
                            refine zs_puti (r := 1009) (pc := 186) C dX9_token_186 w_X9_207 f_10_9 rfl (r_1009 0) (by omega) ?_
                            refine zs_goto (tgt := 281) (pc := 189) C dX9_token_189 (by decide) ?_
                            exact zs_vret (pc := 281) C hr hlk dX9_token_281 ⟨by repeat (first | exact zsm_rf | assumption | refine zsm_C (by decide) ?_ | refine zsm_I (by decide) ?_ | refine zsm_J ?_ | refine zsm_c (by assumption) (by decide) ?_), by first | omega | (simp only [zuI_1, zuI_2, zuJ_1, zuJ_2, zuJ_3, zuP_1, zuP_2, zuP_3, zuC_1, zuC_2, reduceIte, Nat.reduceEqDiff, false_and, and_false, true_and, and_true, and_self, or_true, true_or, or_false, false_or]; omega)⟩
                        · skip
                          refine zs_bipush (pc := 156) C dX9_token_156 (by decide) (by decide) ?_
                          refine zs_goto (tgt := 162) (pc := 158) C dX9_token_158 (by decide) ?_
                          refine zs_puti (r := 1008) (pc := 162) C dX9_token_162 w_X9_196 f_10_8 rfl (r_1008 0) (by omega) ?_
                          refine zs_aload_n (pc := 165) C dX9_token_165 rfl ?_
                          refine zs_geti (r := 1008) (pc := 166) C dX9_token_166 w_X9_196 f_10_8 rfl (r_1008 0) (fun v166 e166 l166 u166 => ?_)
                          try simp only [zuI_1, zuI_2, zuJ_1, zuJ_2, zuJ_3, zuP_1, zuP_2, zuP_3, zuC_1, zuC_2, reduceIte, Nat.reduceEqDiff, false_and, and_false, true_and, and_true, and_self, or_true, true_or, or_false, false_or] at e166
                          refine zs_iconst (pc := 169) C dX9_token_169 (by decide) ?_
                          refine zs_icmp_ne (tgt := 281) (pc := 170) C dX9_token_170 (by decide) (fun h170 => ?_) (fun h170 => ?_)
                          · skip
                            exact zs_vret (pc := 281) C hr hlk dX9_token_281 ⟨by repeat (first | exact zsm_rf | assumption | refine zsm_C (by decide) ?_ | refine zsm_I (by decide) ?_ | refine zsm_J ?_ | refine zsm_c (by assumption) (by decide) ?_), by first | omega | (simp only [zuI_1, zuI_2, zuJ_1, zuJ_2, zuJ_3, zuP_1, zuP_2, zuP_3, zuC_1, zuC_2, reduceIte, Nat.reduceEqDiff, false_and, and_false, true_and, and_true, and_self, or_true, true_or, or_false, false_or]; omega)⟩
                          · skip
                            refine zs_aload_n (pc := 173) C dX9_token_173 rfl ?_
                            refine zs_aload_n (pc := 174) C dX9_token_174 rfl ?_
                            refine zs_aload_n (pc := 175) C dX9_token_175 rfl ?_
                            refine zs_geti (r := 1010) (pc := 176) C dX9_token_176 w_X9_187 f_10_10 rfl (r_1010 0) (fun v176 e176 l176 u176 => ?_)
                            try simp only [zuI_1, zuI_2, zuJ_1, zuJ_2, zuJ_3, zuP_1, zuP_2, zuP_3, zuC_1, zuC_2, reduceIte, Nat.reduceEqDiff, false_and, and_false, true_and, and_true, and_self, or_true, true_or, or_false, false_or] at e176
                            refine zs_aload_n (pc := 179) C dX9_token_179 rfl ?_
                            refine zs_geti (r := 1007) (pc := 180) C dX9_token_180 w_X9_193 f_10_7 rfl (r_1007 0) (fun v180 e180 l180 u180 => ?_)
                            try simp only [zuI_1, zuI_2, zuJ_1, zuJ_2, zuJ_3, zuP_1, zuP_2, zuP_3, zuC_1, zuC_2, reduceIte, Nat.reduceEqDiff, false_and, and_false, true_and, and_true, and_self, or_true, true_or, or_false, false_or] at e180
                            refine zVip2 (pc := 183) C dX9_token_183 v_X9_210 (c_X9_packed hX (by first | omega | (simp only [zuI_1, zuI_2, zuJ_1, zuJ_2, zuJ_3, zuP_1, zuP_2, zuP_3, zuC_1, zuC_2, reduceIte, Nat.reduceEqDiff, false_and, and_false, true_and, and_true, and_self, or_true, true_or, or_false, false_or]; omega))) (by decide) (by decide) ⟨Nat.zero_le _, Nat.zero_le _⟩ (Nat.le_of_ble_eq_true rfl) (fun x183 l183 u183 hp183 => ?_)
                            have hq183 := hp183
                            try simp only [zuI_1, zuI_2, zuJ_1, zuJ_2, zuJ_3, zuP_1, zuP_2, zuP_3, zuC_1, zuC_2, reduceIte, Nat.reduceEqDiff, false_and, and_false, true_and, and_true, and_self, or_true, true_or, or_false, false_or] at hq183
                            refine zs_puti (r := 1009) (pc := 186) C dX9_token_186 w_X9_207 f_10_9 rfl (r_1009 0) (by omega) ?_
                            refine zs_goto (tgt := 281) (pc := 189) C dX9_token_189 (by decide) ?_
                            exact zs_vret (pc := 281) C hr hlk dX9_token_281 ⟨by repeat (first | exact zsm_rf | assumption | refine zsm_C (by decide) ?_ | refine zsm_I (by decide) ?_ | refine zsm_J ?_ | refine zsm_c (by assumption) (by decide) ?_), by first | omega | (simp only [zuI_1, zuI_2, zuJ_1, zuJ_2, zuJ_3, zuP_1, zuP_2, zuP_3, zuC_1, zuC_2, reduceIte, Nat.reduceEqDiff, false_and, and_false, true_and, and_true, and_self, or_true, true_or, or_false, false_or]; omega)⟩
                      · skip
                        refine zs_iconst (pc := 138) C dX9_token_138 (by decide) ?_
                        refine zs_goto (tgt := 162) (pc := 139) C dX9_token_139 (by decide) ?_
                        refine zs_puti (r := 1008) (pc := 162) C dX9_token_162 w_X9_196 f_10_8 rfl (r_1008 0) (by omega) ?_
                        refine zs_aload_n (pc := 165) C dX9_token_165 rfl ?_
                        refine zs_geti (r := 1008) (pc := 166) C dX9_token_166 w_X9_196 f_10_8 rfl (r_1008 0) (fun v166 e166 l166 u166 => ?_)
                        try simp only [zuI_1, zuI_2, zuJ_1, zuJ_2, zuJ_3, zuP_1, zuP_2, zuP_3, zuC_1, zuC_2, reduceIte, Nat.reduceEqDiff, false_and, and_false, true_and, and_true, and_self, or_true, true_or, or_false, false_or] at e166
                        refine zs_iconst (pc := 169) C dX9_token_169 (by decide) ?_
                        refine zs_icmp_ne (tgt := 281) (pc := 170) C dX9_token_170 (by decide) (fun h170 => ?_) (fun h170 => ?_)
                        · skip
                          exact zs_vret (pc := 281) C hr hlk dX9_token_281 ⟨by repeat (first | exact zsm_rf | assumption | refine zsm_C (by decide) ?_ | refine zsm_I (by decide) ?_ | refine zsm_J ?_ | refine zsm_c (by assumption) (by decide) ?_), by first | omega | (simp only [zuI_1, zuI_2, zuJ_1, zuJ_2, zuJ_3, zuP_1, zuP_2, zuP_3, zuC_1, zuC_2, reduceIte, Nat.reduceEqDiff, false_and, and_false, true_and, and_true, and_self, or_true, true_or, or_false, false_or]; omega)⟩
                        · skip
                          refine zs_aload_n (pc := 173) C dX9_token_173 rfl ?_
                          refine zs_aload_n (pc := 174) C dX9_token_174 rfl ?_
                          refine zs_aload_n (pc := 175) C dX9_token_175 rfl ?_
                          refine zs_geti (r := 1010) (pc := 176) C dX9_token_176 w_X9_187 f_10_10 rfl (r_1010 0) (fun v176 e176 l176 u176 => ?_)
                          try simp only [zuI_1, zuI_2, zuJ_1, zuJ_2, zuJ_3, zuP_1, zuP_2, zuP_3, zuC_1, zuC_2, reduceIte, Nat.reduceEqDiff, false_and, and_false, true_and, and_true, and_self, or_true, true_or, or_false, false_or] at e176
                          refine zs_aload_n (pc := 179) C dX9_token_179 rfl ?_
                          refine zs_geti (r := 1007) (pc := 180) C dX9_token_180 w_X9_193 f_10_7 rfl (r_1007 0) (fun v180 e180 l180 u180 => ?_)
                          try simp only [zuI_1, zuI_2, zuJ_1, zuJ_2, zuJ_3, zuP_1, zuP_2, zuP_3, zuC_1, zuC_2, reduceIte, Nat.reduceEqDiff, false_and, and_false, true_and, and_true, and_self, or_true, true_or, or_false, false_or] at e180
                          refine zVip2 (pc := 183) C dX9_token_183 v_X9_210 (c_X9_packed hX (by first | omega | (simp only [zuI_1, zuI_2, zuJ_1, zuJ_2, zuJ_3, zuP_1, zuP_2, zuP_3, zuC_1, zuC_2, reduceIte, Nat.reduceEqDiff, false_and, and_false, true_and, and_true, and_self, or_true, true_or, or_false, false_or]; omega))) (by decide) (by decide) ⟨Nat.zero_le _, Nat.zero_le _⟩ (Nat.le_of_ble_eq_true rfl) (fun x183 l183 u183 hp183 => ?_)
                          have hq183 := hp183
                          try simp only [zuI_1, zuI_2, zuJ_1, zuJ_2, zuJ_3, zuP_1, zuP_2, zuP_3, zuC_1, zuC_2, reduceIte, Nat.reduceEqDiff, false_and, and_false, true_and, and_true, and_self, or_true, true_or, or_false, false_or] at hq183
                          refine zs_puti (r := 1009) (pc := 186) C dX9_token_186 w_X9_207 f_10_9 rfl (r_1009 0) (by omega) ?_
                          refine zs_goto (tgt := 281) (pc := 189) C dX9_token_189 (by decide) ?_
                          exact zs_vret (pc := 281) C hr hlk dX9_token_281 ⟨by repeat (first | exact zsm_rf | assumption | refine zsm_C (by decide) ?_ | refine zsm_I (by decide) ?_ | refine zsm_J ?_ | refine zsm_c (by assumption) (by decide) ?_), by first | omega | (simp only [zuI_1, zuI_2, zuJ_1, zuJ_2, zuJ_3, zuP_1, zuP_2, zuP_3, zuC_1, zuC_2, reduceIte, Nat.reduceEqDiff, false_and, and_false, true_and, and_true, and_self, or_true, true_or, or_false, false_or]; omega)⟩
                    · skip
                      refine zs_aload_n (pc := 101) C dX9_token_101 rfl ?_
                      refine zs_dupa (pc := 102) C dX9_token_102 ?_
                      refine zs_geti (r := 1007) (pc := 103) C dX9_token_103 w_X9_193 f_10_7 rfl (r_1007 0) (fun v103 e103 l103 u103 => ?_)
                      refine zs_iconst (pc := 106) C dX9_token_106 (by decide) ?_
                      first | refine zs_iadd (pc := 107) C dX9_token_107 (by omega) ?_ | refine zs_iaddF (pc := 107) C dX9_token_107 (fun z107 hz1071 hz1072 => ?_)
                      refine zs_puti (r := 1007) (pc := 108) C dX9_token_108 w_X9_193 f_10_7 rfl (r_1007 0) (by omega) ?_
                      refine zs_goto (tgt := 90) (pc := 111) C dX9_token_111 (by decide) ?_
                      exact zs_wk (ih90 _ (by repeat (first | exact zsm_rf | assumption | refine zsm_C (by decide) ?_ | refine zsm_I (by decide) ?_ | refine zsm_J ?_ | refine zsm_c (by assumption) (by decide) ?_)) (by first | omega | (simp only [zuI_1, zuI_2, zuJ_1, zuJ_2, zuJ_3, zuP_1, zuP_2, zuP_3, zuC_1, zuC_2, reduceIte, Nat.reduceEqDiff, false_and, and_false, true_and, and_true, and_self, or_true, true_or, or_false, false_or]; omega)) (by first | omega | (simp only [zuI_1, zuI_2, zuJ_1, zuJ_2, zuJ_3, zuP_1, zuP_2, zuP_3, zuC_1, zuC_2, reduceIte, Nat.reduceEqDiff, false_and, and_false, true_and, and_true, and_self, or_true, true_or, or_false, false_or]; omega)) (by first | omega | (simp only [zuI_1, zuI_2, zuJ_1, zuJ_2, zuJ_3, zuP_1, zuP_2, zuP_3, zuC_1, zuC_2, reduceIte, Nat.reduceEqDiff, false_and, and_false, true_and, and_true, and_self, or_true, true_or, or_false, false_or]; omega))) (zwk_s rfl zwk_0)
                exact zs_wk (L90 _ _ (by repeat (first | exact zsm_rf | assumption | refine zsm_C (by decide) ?_ | refine zsm_I (by decide) ?_ | refine zsm_J ?_ | refine zsm_c (by assumption) (by decide) ?_)) (by first | omega | (simp only [zuI_1, zuI_2, zuJ_1, zuJ_2, zuJ_3, zuP_1, zuP_2, zuP_3, zuC_1, zuC_2, reduceIte, Nat.reduceEqDiff, false_and, and_false, true_and, and_true, and_self, or_true, true_or, or_false, false_or]; omega)) (by first | omega | (simp only [zuI_1, zuI_2, zuJ_1, zuJ_2, zuJ_3, zuP_1, zuP_2, zuP_3, zuC_1, zuC_2, reduceIte, Nat.reduceEqDiff, false_and, and_false, true_and, and_true, and_self, or_true, true_or, or_false, false_or]; omega)) (Nat.lt_succ_self _)) (zwk_s rfl zwk_0)
            · skip
              refine zs_aload_n (pc := 71) C dX9_token_71 rfl ?_
              refine zs_iconst (pc := 72) C dX9_token_72 (by decide) ?_
              refine zs_puti (r := 1008) (pc := 73) C dX9_token_73 w_X9_196 f_10_8 rfl (r_1008 0) (by omega) ?_
              refine zs_goto (tgt := 281) (pc := 76) C dX9_token_76 (by decide) ?_
              exact zs_vret (pc := 281) C hr hlk dX9_token_281 ⟨by repeat (first | exact zsm_rf | assumption | refine zsm_C (by decide) ?_ | refine zsm_I (by decide) ?_ | refine zsm_J ?_ | refine zsm_c (by assumption) (by decide) ?_), by first | omega | (simp only [zuI_1, zuI_2, zuJ_1, zuJ_2, zuJ_3, zuP_1, zuP_2, zuP_3, zuC_1, zuC_2, reduceIte, Nat.reduceEqDiff, false_and, and_false, true_and, and_true, and_self, or_true, true_or, or_false, false_or]; omega)⟩
          · skip
            refine zs_aload_n (pc := 39) C dX9_token_39 rfl ?_
            refine zs_dupa (pc := 40) C dX9_token_40 ?_
            refine zs_geti (r := 1007) (pc := 41) C dX9_token_41 w_X9_193 f_10_7 rfl (r_1007 0) (fun v41 e41 l41 u41 => ?_)
            refine zs_iconst (pc := 44) C dX9_token_44 (by decide) ?_
            first | refine zs_iadd (pc := 45) C dX9_token_45 (by omega) ?_ | refine zs_iaddF (pc := 45) C dX9_token_45 (fun z45 hz451 hz452 => ?_)
            refine zs_puti (r := 1007) (pc := 46) C dX9_token_46 w_X9_193 f_10_7 rfl (r_1007 0) (by omega) ?_
            refine zs_goto (tgt := 0) (pc := 49) C dX9_token_49 (by decide) ?_
            exact zs_wk (ih0 _ (by repeat (first | exact zsm_rf | assumption | refine zsm_C (by decide) ?_ | refine zsm_I (by decide) ?_ | refine zsm_J ?_ | refine zsm_c (by assumption) (by decide) ?_)) (by first | omega | (simp only [zuI_1, zuI_2, zuJ_1, zuJ_2, zuJ_3, zuP_1, zuP_2, zuP_3, zuC_1, zuC_2, reduceIte, Nat.reduceEqDiff, false_and, and_false, true_and, and_true, and_self, or_true, true_or, or_false, false_or]; omega)) (by first | omega | (simp only [zuI_1, zuI_2, zuJ_1, zuJ_2, zuJ_3, zuP_1, zuP_2, zuP_3, zuC_1, zuC_2, reduceIte, Nat.reduceEqDiff, false_and, and_false, true_and, and_true, and_self, or_true, true_or, or_false, false_or]; omega))) (zwk_s rfl zwk_0)
  exact zs_wk (L0 _ _ (by repeat (first | exact zsm_rf | assumption | refine zsm_C (by decide) ?_ | refine zsm_I (by decide) ?_ | refine zsm_J ?_ | refine zsm_c (by assumption) (by decide) ?_)) (by first | omega | (simp only [zuI_1, zuI_2, zuJ_1, zuJ_2, zuJ_3, zuP_1, zuP_2, zuP_3, zuC_1, zuC_2, reduceIte, Nat.reduceEqDiff, false_and, and_false, true_and, and_true, and_self, or_true, true_or, or_false, false_or]; omega)) (Nat.lt_succ_self _)) (zwk_s rfl zwk_0)

set_option maxHeartbeats 4000000 in
set_option maxRecDepth 100000 in
theorem c_X9_isKey {l : Launch} {Γ : zΓ} {G : zH} {w : Nat} {k : Int} (hX : zXs Γ)  : zMet l Γ yX9_isKey cX9_isKey 2 (some .boolean) 0 [zr 10 w, zi k] G (zpi (fun x G' => G' = G ∧ ((x = 0 ∨ x = 1) ∧ (x = 1 → G.1 1008 w 0 = 1 ∧ G.1 1009 w 0 = k)))) := by
  refine zMet_of RX9 hX (by decide) rfl (Nat.le_of_ble_eq_true rfl) ?_
  intro p e s m args below meth c C hr hlk
  show Z p l e (zrm 0) s m args below meth c Γ 2 0 0 (MQ below (zQc Γ (zpi (fun x G' => G' = G ∧ ((x = 0 ∨ x = 1) ∧ (x = 1 → G.1 1008 w 0 = 1 ∧ G.1 1009 w 0 = k))))) args s 0 0 (zA Γ)) 0 [some (zr 10 w), some (zi k)] [] G
  refine zs_loc 1 rfl (fun ha1 hb1 => ?_)
  refine zs_aload_n (pc := 0) C dX9_isKey_0 rfl ?_
  refine zs_geti (r := 1008) (pc := 1) C dX9_isKey_1 w_X9_196 f_10_8 rfl (r_1008 0) (fun v1 e1 l1 u1 => ?_)
  refine zs_iconst (pc := 4) C dX9_isKey_4 (by decide) ?_
  refine zs_icmp_ne (tgt := 20) (pc := 5) C dX9_isKey_5 (by decide) (fun h5 => ?_) (fun h5 => ?_)
  · skip
    refine zs_iconst (pc := 20) C dX9_isKey_20 (by decide) ?_
    exact zs_zret (pc := 21) C hr hlk dX9_isKey_21 (by omega) ⟨rfl, by first | omega | (simp only [zuI_1, zuI_2, zuJ_1, zuJ_2, zuJ_3, zuP_1, zuP_2, zuP_3, zuC_1, zuC_2, reduceIte, Nat.reduceEqDiff, false_and, and_false, true_and, and_true, and_self, or_true, true_or, or_false, false_or]; omega)⟩
  · skip
    refine zs_aload_n (pc := 8) C dX9_isKey_8 rfl ?_
    refine zs_geti (r := 1009) (pc := 9) C dX9_isKey_9 w_X9_207 f_10_9 rfl (r_1009 0) (fun v9 e9 l9 u9 => ?_)
    refine zs_iload_n (pc := 12) C dX9_isKey_12 rfl ?_
    refine zs_icmp_ne (tgt := 20) (pc := 13) C dX9_isKey_13 (by decide) (fun h13 => ?_) (fun h13 => ?_)
    · skip
      refine zs_iconst (pc := 20) C dX9_isKey_20 (by decide) ?_
      exact zs_zret (pc := 21) C hr hlk dX9_isKey_21 (by omega) ⟨rfl, by first | omega | (simp only [zuI_1, zuI_2, zuJ_1, zuJ_2, zuJ_3, zuP_1, zuP_2, zuP_3, zuC_1, zuC_2, reduceIte, Nat.reduceEqDiff, false_and, and_false, true_and, and_true, and_self, or_true, true_or, or_false, false_or]; omega)⟩
    · skip
      refine zs_iconst (pc := 16) C dX9_isKey_16 (by decide) ?_
      refine zs_goto (tgt := 21) (pc := 17) C dX9_isKey_17 (by decide) ?_
      exact zs_zret (pc := 21) C hr hlk dX9_isKey_21 (by omega) ⟨rfl, by first | omega | (simp only [zuI_1, zuI_2, zuJ_1, zuJ_2, zuJ_3, zuP_1, zuP_2, zuP_3, zuC_1, zuC_2, reduceIte, Nat.reduceEqDiff, false_and, and_false, true_and, and_true, and_self, or_true, true_or, or_false, false_or]; omega)⟩

set_option maxHeartbeats 4000000 in
set_option maxRecDepth 100000 in
theorem c_X9_isSign {l : Launch} {Γ : zΓ} {G : zH} {w : Nat} {k : Int} (hX : zXs Γ)  : zMet l Γ yX9_isSign cX9_isSign 2 (some .boolean) 0 [zr 10 w, zi k] G (zpi (fun x G' => G' = G ∧ ((x = 0 ∨ x = 1) ∧ (x = 1 → G.1 1008 w 0 = 4 ∧ G.1 1009 w 0 = k)))) := by
  refine zMet_of RX9 hX (by decide) rfl (Nat.le_of_ble_eq_true rfl) ?_
  intro p e s m args below meth c C hr hlk
  show Z p l e (zrm 0) s m args below meth c Γ 2 0 0 (MQ below (zQc Γ (zpi (fun x G' => G' = G ∧ ((x = 0 ∨ x = 1) ∧ (x = 1 → G.1 1008 w 0 = 4 ∧ G.1 1009 w 0 = k))))) args s 0 0 (zA Γ)) 0 [some (zr 10 w), some (zi k)] [] G
  refine zs_loc 1 rfl (fun ha1 hb1 => ?_)
  refine zs_aload_n (pc := 0) C dX9_isSign_0 rfl ?_
  refine zs_geti (r := 1008) (pc := 1) C dX9_isSign_1 w_X9_196 f_10_8 rfl (r_1008 0) (fun v1 e1 l1 u1 => ?_)
  refine zs_iconst (pc := 4) C dX9_isSign_4 (by decide) ?_
  refine zs_icmp_ne (tgt := 20) (pc := 5) C dX9_isSign_5 (by decide) (fun h5 => ?_) (fun h5 => ?_)
  · skip
    refine zs_iconst (pc := 20) C dX9_isSign_20 (by decide) ?_
    exact zs_zret (pc := 21) C hr hlk dX9_isSign_21 (by omega) ⟨rfl, by first | omega | (simp only [zuI_1, zuI_2, zuJ_1, zuJ_2, zuJ_3, zuP_1, zuP_2, zuP_3, zuC_1, zuC_2, reduceIte, Nat.reduceEqDiff, false_and, and_false, true_and, and_true, and_self, or_true, true_or, or_false, false_or]; omega)⟩
  · skip
    refine zs_aload_n (pc := 8) C dX9_isSign_8 rfl ?_
    refine zs_geti (r := 1009) (pc := 9) C dX9_isSign_9 w_X9_207 f_10_9 rfl (r_1009 0) (fun v9 e9 l9 u9 => ?_)
    refine zs_iload_n (pc := 12) C dX9_isSign_12 rfl ?_
    refine zs_icmp_ne (tgt := 20) (pc := 13) C dX9_isSign_13 (by decide) (fun h13 => ?_) (fun h13 => ?_)
    · skip
      refine zs_iconst (pc := 20) C dX9_isSign_20 (by decide) ?_
      exact zs_zret (pc := 21) C hr hlk dX9_isSign_21 (by omega) ⟨rfl, by first | omega | (simp only [zuI_1, zuI_2, zuJ_1, zuJ_2, zuJ_3, zuP_1, zuP_2, zuP_3, zuC_1, zuC_2, reduceIte, Nat.reduceEqDiff, false_and, and_false, true_and, and_true, and_self, or_true, true_or, or_false, false_or]; omega)⟩
    · skip
      refine zs_iconst (pc := 16) C dX9_isSign_16 (by decide) ?_
      refine zs_goto (tgt := 21) (pc := 17) C dX9_isSign_17 (by decide) ?_
      exact zs_zret (pc := 21) C hr hlk dX9_isSign_21 (by omega) ⟨rfl, by first | omega | (simp only [zuI_1, zuI_2, zuJ_1, zuJ_2, zuJ_3, zuP_1, zuP_2, zuP_3, zuC_1, zuC_2, reduceIte, Nat.reduceEqDiff, false_and, and_false, true_and, and_true, and_self, or_true, true_or, or_false, false_or]; omega)⟩

set_option maxHeartbeats 4000000 in
set_option maxRecDepth 100000 in
theorem c_X9_number {l : Launch} {Γ : zΓ} {G : zH} {w : Nat} {a b : Int} (hX : zXs Γ) (ht : (G.1 1007 w 0 ≤ G.1 1006 w 0 ∧ G.1 1010 w 0 ≤ G.1 1007 w 0 ∧ (G.1 1008 w 0 ≠ 0 → G.1 1010 w 0 < G.1 1007 w 0) ∧ ((G.1 1008 w 0 = 5 → 0 ≤ G.1 1009 w 0 ∧ G.1 1009 w 0 ≤ 5) ∧ (G.1 1008 w 0 = 1 → 0 ≤ G.1 1009 w 0 ∧ G.1 1009 w 0 ≤ 23) ∧ (G.1 1008 w 0 = 3 → 0 ≤ G.1 1009 w 0)))) : zMet l Γ yX9_number cX9_number 3 (some .boolean) 2 [zr 10 w, zi a, zi b] G (zpi (fun x G' => zsm [1007, 1008, 1009, 1010, 1004, 1005, 1011] G G' ∧ ((x = 0 ∨ x = 1) ∧ (x = 1 → a ≤ G'.1 1011 w 0 ∧ G'.1 1011 w 0 ≤ b ∧ (G'.1 1007 w 0 ≤ G'.1 1006 w 0 ∧ G'.1 1010 w 0 ≤ G'.1 1007 w 0 ∧ (G'.1 1008 w 0 ≠ 0 → G'.1 1010 w 0 < G'.1 1007 w 0) ∧ ((G'.1 1008 w 0 = 5 → 0 ≤ G'.1 1009 w 0 ∧ G'.1 1009 w 0 ≤ 5) ∧ (G'.1 1008 w 0 = 1 → 0 ≤ G'.1 1009 w 0 ∧ G'.1 1009 w 0 ≤ 23) ∧ (G'.1 1008 w 0 = 3 → 0 ≤ G'.1 1009 w 0))) ∧ G.1 1010 w 0 < G'.1 1010 w 0)))) := by
  refine zMet_of RX9 hX (by decide) rfl (Nat.le_of_ble_eq_true rfl) ?_
  intro p e s m args below meth c C hr hlk
  show Z p l e (zrm 2) s m args below meth c Γ 3 0 0 (MQ below (zQc Γ (zpi (fun x G' => zsm [1007, 1008, 1009, 1010, 1004, 1005, 1011] G G' ∧ ((x = 0 ∨ x = 1) ∧ (x = 1 → a ≤ G'.1 1011 w 0 ∧ G'.1 1011 w 0 ≤ b ∧ (G'.1 1007 w 0 ≤ G'.1 1006 w 0 ∧ G'.1 1010 w 0 ≤ G'.1 1007 w 0 ∧ (G'.1 1008 w 0 ≠ 0 → G'.1 1010 w 0 < G'.1 1007 w 0) ∧ ((G'.1 1008 w 0 = 5 → 0 ≤ G'.1 1009 w 0 ∧ G'.1 1009 w 0 ≤ 5) ∧ (G'.1 1008 w 0 = 1 → 0 ≤ G'.1 1009 w 0 ∧ G'.1 1009 w 0 ≤ 23) ∧ (G'.1 1008 w 0 = 3 → 0 ≤ G'.1 1009 w 0))) ∧ G.1 1010 w 0 < G'.1 1010 w 0))))) args s 0 0 (zA Γ)) 0 [some (zr 10 w), some (zi a), some (zi b)] [] G
  refine zs_loc 1 rfl (fun ha1 hb1 => ?_)
  refine zs_loc 2 rfl (fun ha2 hb2 => ?_)
  refine zs_aload_n (pc := 0) C dX9_number_0 rfl ?_
  refine zs_geti (r := 1008) (pc := 1) C dX9_number_1 w_X9_196 f_10_8 rfl (r_1008 0) (fun v1 e1 l1 u1 => ?_)
  refine zs_iconst (pc := 4) C dX9_number_4 (by decide) ?_
  refine zs_icmp_eq (tgt := 14) (pc := 5) C dX9_number_5 (by decide) (fun h5 => ?_) (fun h5 => ?_)
  · skip
    refine zs_aload_n (pc := 14) C dX9_number_14 rfl ?_
    refine zs_geti (r := 1009) (pc := 15) C dX9_number_15 w_X9_207 f_10_9 rfl (r_1009 0) (fun v15 e15 l15 u15 => ?_)
    refine zs_iload_n (pc := 18) C dX9_number_18 rfl ?_
    refine zs_iload_n (pc := 19) C dX9_number_19 rfl ?_
    refine zSip3 (pc := 20) C dX9_number_20 s_X9_223 (c_X9_isIn hX ) (by decide) ⟨Nat.zero_le _, Nat.zero_le _⟩ (Nat.le_of_ble_eq_true rfl) (fun x20 l20 u20 hp20 => ?_)
    have hq20 := hp20
    refine zs_if_ne (tgt := 32) (pc := 23) C dX9_number_23 (by decide) (fun h23 => ?_) (fun h23 => ?_)
    · skip
      refine zs_aload_n (pc := 32) C dX9_number_32 rfl ?_
      refine zs_aload_n (pc := 33) C dX9_number_33 rfl ?_
      refine zs_geti (r := 1009) (pc := 34) C dX9_number_34 w_X9_207 f_10_9 rfl (r_1009 0) (fun v34 e34 l34 u34 => ?_)
      refine zs_puti (r := 1011) (pc := 37) C dX9_number_37 w_X9_227 f_10_11 rfl (r_1011 0) (by omega) ?_
      refine zs_aload_n (pc := 40) C dX9_number_40 rfl ?_
      refine zVv0 (pc := 41) C dX9_number_41 v_X9_230 (c_X9_token hX (by first | omega | (simp only [zuI_1, zuI_2, zuJ_1, zuJ_2, zuJ_3, zuP_1, zuP_2, zuP_3, zuC_1, zuC_2, reduceIte, Nat.reduceEqDiff, false_and, and_false, true_and, and_true, and_self, or_true, true_or, or_false, false_or]; omega))) (by decide) (by decide) ⟨Nat.zero_le _, Nat.zero_le _⟩ (Nat.le_of_ble_eq_true rfl) (fun G41 hp41 => ?_)
      obtain ⟨hz41, hq41⟩ := hp41
      try simp only [zuI_1, zuI_2, zuJ_1, zuJ_2, zuJ_3, zuP_1, zuP_2, zuP_3, zuC_1, zuC_2, reduceIte, Nat.reduceEqDiff, false_and, and_false, true_and, and_true, and_self, or_true, true_or, or_false, false_or] at hq41
      have t1011 := zsm_at hz41 1011 w 0 (by decide)
      try simp only [zuI_1, zuI_2, zuJ_1, zuJ_2, zuJ_3, zuP_1, zuP_2, zuP_3, zuC_1, zuC_2, reduceIte, Nat.reduceEqDiff, false_and, and_false, true_and, and_true, and_self, or_true, true_or, or_false, false_or] at t1011
      refine zs_iconst (pc := 44) C dX9_number_44 (by decide) ?_
      exact zs_zret (pc := 45) C hr hlk dX9_number_45 (by omega) ⟨by repeat (first | exact zsm_rf | assumption | refine zsm_C (by decide) ?_ | refine zsm_I (by decide) ?_ | refine zsm_J ?_ | refine zsm_c (by assumption) (by decide) ?_), by first | omega | (simp only [zuI_1, zuI_2, zuJ_1, zuJ_2, zuJ_3, zuP_1, zuP_2, zuP_3, zuC_1, zuC_2, reduceIte, Nat.reduceEqDiff, false_and, and_false, true_and, and_true, and_self, or_true, true_or, or_false, false_or]; omega)⟩
    · skip
      refine zs_aload_n (pc := 26) C dX9_number_26 rfl ?_
      refine zs_iconst (pc := 27) C dX9_number_27 (by decide) ?_
      refine zVi1 (pc := 28) C dX9_number_28 v_X9_220 (c_X9_wrong hX ) (by decide) (by decide) ⟨Nat.zero_le _, Nat.zero_le _⟩ (Nat.le_of_ble_eq_true rfl) (fun x28 G28 l28 u28 hp28 => ?_)
      obtain ⟨hz28, hq28⟩ := hp28
      exact zs_zret (pc := 31) C hr hlk dX9_number_31 (by omega) ⟨by repeat (first | exact zsm_rf | assumption | refine zsm_C (by decide) ?_ | refine zsm_I (by decide) ?_ | refine zsm_J ?_ | refine zsm_c (by assumption) (by decide) ?_), by first | omega | (simp only [zuI_1, zuI_2, zuJ_1, zuJ_2, zuJ_3, zuP_1, zuP_2, zuP_3, zuC_1, zuC_2, reduceIte, Nat.reduceEqDiff, false_and, and_false, true_and, and_true, and_self, or_true, true_or, or_false, false_or]; omega)⟩
  · skip
    refine zs_aload_n (pc := 8) C dX9_number_8 rfl ?_
    refine zs_iconst (pc := 9) C dX9_number_9 (by decide) ?_
    refine zVi1 (pc := 10) C dX9_number_10 v_X9_220 (c_X9_wrong hX ) (by decide) (by decide) ⟨Nat.zero_le _, Nat.zero_le _⟩ (Nat.le_of_ble_eq_true rfl) (fun x10 G10 l10 u10 hp10 => ?_)
    obtain ⟨hz10, hq10⟩ := hp10
    exact zs_zret (pc := 13) C hr hlk dX9_number_13 (by omega) ⟨by repeat (first | exact zsm_rf | assumption | refine zsm_C (by decide) ?_ | refine zsm_I (by decide) ?_ | refine zsm_J ?_ | refine zsm_c (by assumption) (by decide) ?_), by first | omega | (simp only [zuI_1, zuI_2, zuJ_1, zuJ_2, zuJ_3, zuP_1, zuP_2, zuP_3, zuC_1, zuC_2, reduceIte, Nat.reduceEqDiff, false_and, and_false, true_and, and_true, and_self, or_true, true_or, or_false, false_or]; omega)⟩
