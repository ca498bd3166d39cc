def wsp : Nat → Bool := fun k => zWD.getD k 32 == 32
theorem wsp_120 : zct wsp 120 = 23 := by decide +kernel
theorem wd_120 : zWD.getD 120 32 = 32 := by decide +kernel
theorem wd_eta (i : Nat) : zrg 2058 i = ((zrg 2058 i).1, (zrg 2058 i).2) := rfl
theorem wd_at {i : Nat} {v : Int} (h1 : (zrg 2058 i).1 ≤ v) (h2 : v ≤ (zrg 2058 i).2) : v = zWD.getD i 32 := by
  have e : zrg 2058 i = zcl (zWD.getD i 32, zWD.getD i 32) := rfl
  rw [e] at h1 h2
  simp only [zcl] at h1 h2
  omega
theorem wsp_s {x3 : Int} {i : Int} {v : Int} (h : x3 = zct wsp i.toNat) (h0 : 0 ≤ i) (hv : v = zWD.getD i.toNat 32) : (v ≠ 32 → x3 = zct wsp (i + 1).toNat) ∧ (v = 32 → x3 + 1 = zct wsp (i + 1).toNat) := by
  rw [show (i + 1).toNat = i.toNat + 1 by omega, zct_s, ← h]
  unfold wsp
  rw [← hv]
  constructor
  · intro q
    rw [if_neg (by simpa using q)]
    omega
  · intro q
    rw [if_pos (by simpa using q)]
theorem wsp_b {i : Int} (h : i ≤ 120) : 0 ≤ zct wsp i.toNat ∧ zct wsp i.toNat ≤ 23 := by
  have h1 := zct_mono wsp (n := i.toNat) (m := 120) (by omega)
  rw [wsp_120] at h1
  exact ⟨(zct_le wsp _).1, h1⟩

set_option maxHeartbeats 4000000 in
set_option maxRecDepth 100000 in
theorem c_X9_wrong {l : Launch} {Γ : zΓ} {G : zH} {w : Nat} {k : Int} (hX : zXs Γ)  : zMet l Γ yX9_wrong cX9_wrong 2 (some .boolean) 0 [zr 10 w, zi k] G (zpi (fun x G' => zsm [1004, 1005] G G' ∧ (x = 0))) := by
  refine zMet_of RX9 hX (by decide) rfl (Nat.le_of_ble_eq_true rfl) ?_
  intro p e s m args below meth c C hr hlk
  show Z p l e (zrm 0) s m args below meth c Γ 2 0 0 (MQ below (zQc Γ (zpi (fun x G' => zsm [1004, 1005] G G' ∧ (x = 0)))) args s 0 0 (zA Γ)) 0 [some (zr 10 w), some (zi k)] [] G
  refine zs_loc 1 rfl (fun ha1 hb1 => ?_)
  refine zs_aload_n (pc := 0) C dX9_wrong_0 rfl ?_
  refine zs_iload_n (pc := 1) C dX9_wrong_1 rfl ?_
  refine zs_puti (r := 1004) (pc := 2) C dX9_wrong_2 w_X9_184 f_10_4 rfl (r_1004 0) (by omega) ?_
  refine zs_aload_n (pc := 5) C dX9_wrong_5 rfl ?_
  refine zs_aload_n (pc := 6) C dX9_wrong_6 rfl ?_
  refine zs_geti (r := 1010) (pc := 7) C dX9_wrong_7 w_X9_187 f_10_10 rfl (r_1010 0) (fun v7 e7 l7 u7 => ?_)
  try simp only [zuI_1, zuI_2, zuJ_1, zuJ_2, zuJ_3, zuP_1, zuP_2, zuP_3, zuC_1, zuC_2, reduceIte, Nat.reduceEqDiff, false_and, and_false, true_and, and_true, and_self, or_true, true_or, or_false, false_or] at e7
  refine zs_puti (r := 1005) (pc := 10) C dX9_wrong_10 w_X9_16 f_10_5 rfl (r_1005 0) (by omega) ?_
  refine zs_iconst (pc := 13) C dX9_wrong_13 (by decide) ?_
  exact zs_zret (pc := 14) C hr hlk dX9_wrong_14 (by omega) ⟨by repeat (first | exact zsm_rf | assumption | refine zsm_C (by decide) ?_ | refine zsm_I (by decide) ?_ | refine zsm_J ?_ | refine zsm_c (by assumption) (by decide) ?_), by first | omega | (simp only [zuI_1, zuI_2, zuJ_1, zuJ_2, zuJ_3, zuP_1, zuP_2, zuP_3, zuC_1, zuC_2, reduceIte, Nat.reduceEqDiff, false_and, and_false, true_and, and_true, and_self, or_true, true_or, or_false, false_or]; omega)⟩

set_option maxHeartbeats 4000000 in
set_option maxRecDepth 100000 in
theorem c_X9_isSmall {l : Launch} {Γ : zΓ} {G : zH} {w : Nat} {a : Int} (hX : zXs Γ) (ha : 0 ≤ a ∧ a ≤ 700) : zMet l Γ yX9_isSmall cX9_isSmall 2 (some .boolean) 0 [zr 10 w, zi a] G (zpi (fun x G' => G' = G ∧ ((x = 0 ∨ x = 1) ∧ (x = 1 ↔ a < G.1 1006 w 0 ∧ 97 ≤ G.1 2057 (Γ.2.1 w 0) a.toNat ∧ G.1 2057 (Γ.2.1 w 0) a.toNat ≤ 122)))) := by
  refine zMet_of RX9 hX (by decide) rfl (Nat.le_of_ble_eq_true rfl) ?_
  intro p e s m args below meth c C hr hlk
  show Z p l e (zrm 0) s m args below meth c Γ 2 0 0 (MQ below (zQc Γ (zpi (fun x G' => G' = G ∧ ((x = 0 ∨ x = 1) ∧ (x = 1 ↔ a < G.1 1006 w 0 ∧ 97 ≤ G.1 2057 (Γ.2.1 w 0) a.toNat ∧ G.1 2057 (Γ.2.1 w 0) a.toNat ≤ 122))))) args s 0 0 (zA Γ)) 0 [some (zr 10 w), some (zi a)] [] G
  refine zs_loc 1 rfl (fun ha1 hb1 => ?_)
  refine zs_iload_n (pc := 0) C dX9_isSmall_0 rfl ?_
  refine zs_aload_n (pc := 1) C dX9_isSmall_1 rfl ?_
  refine zs_geti (r := 1006) (pc := 2) C dX9_isSmall_2 w_X9_190 f_10_6 rfl (r_1006 0) (fun v2 e2 l2 u2 => ?_)
  refine zs_icmp_ge (tgt := 34) (pc := 5) C dX9_isSmall_5 (by decide) (fun h5 => ?_) (fun h5 => ?_)
  · skip
    refine zs_iconst (pc := 34) C dX9_isSmall_34 (by decide) ?_
    exact zs_zret (pc := 35) C hr hlk dX9_isSmall_35 (by omega) ⟨rfl, by first | omega | (simp only [zuI_1, zuI_2, zuJ_1, zuJ_2, zuJ_3, zuP_1, zuP_2, zuP_3, zuC_1, zuC_2, reduceIte, Nat.reduceEqDiff, false_and, and_false, true_and, and_true, and_self, or_true, true_or, or_false, false_or]; omega)⟩
  · skip
    refine zs_aload_n (pc := 8) C dX9_isSmall_8 rfl ?_
    refine zs_getf (pc := 9) C dX9_isSmall_9 w_X9_7 f_10_0 (by decide) ?_
    refine zs_iload_n (pc := 12) C dX9_isSmall_12 rfl ?_
    refine zs_iald (r := 2057) (pc := 13) C dX9_isSmall_13 a_57 (by decide) (by omega) rfl (r_2057 _) (fun v13 e13 l13 u13 => ?_)
    refine zs_bipush (pc := 14) C dX9_isSmall_14 (by decide) (by decide) ?_
    refine zs_icmp_lt (tgt := 34) (pc := 16) C dX9_isSmall_16 (by decide) (fun h16 => ?_) (fun h16 => ?_)
    · skip
      refine zs_iconst (pc := 34) C dX9_isSmall_34 (by decide) ?_
      exact zs_zret (pc := 35) C hr hlk dX9_isSmall_35 (by omega) ⟨rfl, by first | omega | (simp only [zuI_1, zuI_2, zuJ_1, zuJ_2, zuJ_3, zuP_1, zuP_2, zuP_3, zuC_1, zuC_2, reduceIte, Nat.reduceEqDiff, false_and, and_false, true_and, and_true, and_self, or_true, true_or, or_false, false_or]; omega)⟩
    · skip
      refine zs_aload_n (pc := 19) C dX9_isSmall_19 rfl ?_
      refine zs_getf (pc := 20) C dX9_isSmall_20 w_X9_7 f_10_0 (by decide) ?_
      refine zs_iload_n (pc := 23) C dX9_isSmall_23 rfl ?_
      refine zs_iald (r := 2057) (pc := 24) C dX9_isSmall_24 a_57 (by decide) (by omega) rfl (r_2057 _) (fun v24 e24 l24 u24 => ?_)
      refine zs_bipush (pc := 25) C dX9_isSmall_25 (by decide) (by decide) ?_
      refine zs_icmp_gt (tgt := 34) (pc := 27) C dX9_isSmall_27 (by decide) (fun h27 => ?_) (fun h27 => ?_)
      · skip
        refine zs_iconst (pc := 34) C dX9_isSmall_34 (by decide) ?_
        exact zs_zret (pc := 35) C hr hlk dX9_isSmall_35 (by omega) ⟨rfl, by first | omega | (simp only [zuI_1, zuI_2, zuJ_1, zuJ_2, zuJ_3, zuP_1, zuP_2, zuP_3, zuC_1, zuC_2, reduceIte, Nat.reduceEqDiff, false_and, and_false, true_and, and_true, and_self, or_true, true_or, or_false, false_or]; omega)⟩
      · skip
        refine zs_iconst (pc := 30) C dX9_isSmall_30 (by decide) ?_
        refine zs_goto (tgt := 35) (pc := 31) C dX9_isSmall_31 (by decide) ?_
        exact zs_zret (pc := 35) C hr hlk dX9_isSmall_35 (by omega) ⟨rfl, by first | omega | (simp only [zuI_1, zuI_2, zuJ_1, zuJ_2, zuJ_3, zuP_1, zuP_2, zuP_3, zuC_1, zuC_2, reduceIte, Nat.reduceEqDiff, false_and, and_false, true_and, and_true, and_self, or_true, true_or, or_false, false_or]; omega)⟩

set_option maxHeartbeats 4000000 in
set_option maxRecDepth 100000 in
theorem c_X9_isDigit {l : Launch} {Γ : zΓ} {G : zH} {w : Nat} {a : Int} (hX : zXs Γ) (ha : 0 ≤ a ∧ a ≤ 700) : zMet l Γ yX9_isDigit cX9_isDigit 2 (some .boolean) 0 [zr 10 w, zi a] G (zpi (fun x G' => G' = G ∧ ((x = 0 ∨ x = 1) ∧ (x = 1 ↔ a < G.1 1006 w 0 ∧ 48 ≤ G.1 2057 (Γ.2.1 w 0) a.toNat ∧ G.1 2057 (Γ.2.1 w 0) a.toNat ≤ 57)))) := by
  refine zMet_of RX9 hX (by decide) rfl (Nat.le_of_ble_eq_true rfl) ?_
  intro p e s m args below meth c C hr hlk
  show Z p l e (zrm 0) s m args below meth c Γ 2 0 0 (MQ below (zQc Γ (zpi (fun x G' => G' = G ∧ ((x = 0 ∨ x = 1) ∧ (x = 1 ↔ a < G.1 1006 w 0 ∧ 48 ≤ G.1 2057 (Γ.2.1 w 0) a.toNat ∧ G.1 2057 (Γ.2.1 w 0) a.toNat ≤ 57))))) args s 0 0 (zA Γ)) 0 [some (zr 10 w), some (zi a)] [] G
  refine zs_loc 1 rfl (fun ha1 hb1 => ?_)
  refine zs_iload_n (pc := 0) C dX9_isDigit_0 rfl ?_
  refine zs_aload_n (pc := 1) C dX9_isDigit_1 rfl ?_
  refine zs_geti (r := 1006) (pc := 2) C dX9_isDigit_2 w_X9_190 f_10_6 rfl (r_1006 0) (fun v2 e2 l2 u2 => ?_)
  refine zs_icmp_ge (tgt := 34) (pc := 5) C dX9_isDigit_5 (by decide) (fun h5 => ?_) (fun h5 => ?_)
  · skip
    refine zs_iconst (pc := 34) C dX9_isDigit_34 (by decide) ?_
    exact zs_zret (pc := 35) C hr hlk dX9_isDigit_35 (by omega) ⟨rfl, by first | omega | (simp only [zuI_1, zuI_2, zuJ_1, zuJ_2, zuJ_3, zuP_1, zuP_2, zuP_3, zuC_1, zuC_2, reduceIte, Nat.reduceEqDiff, false_and, and_false, true_and, and_true, and_self, or_true, true_or, or_false, false_or]; omega)⟩
  · skip
    refine zs_aload_n (pc := 8) C dX9_isDigit_8 rfl ?_
    refine zs_getf (pc := 9) C dX9_isDigit_9 w_X9_7 f_10_0 (by decide) ?_
    refine zs_iload_n (pc := 12) C dX9_isDigit_12 rfl ?_
    refine zs_iald (r := 2057) (pc := 13) C dX9_isDigit_13 a_57 (by decide) (by omega) rfl (r_2057 _) (fun v13 e13 l13 u13 => ?_)
    refine zs_bipush (pc := 14) C dX9_isDigit_14 (by decide) (by decide) ?_
    refine zs_icmp_lt (tgt := 34) (pc := 16) C dX9_isDigit_16 (by decide) (fun h16 => ?_) (fun h16 => ?_)
    · skip
      refine zs_iconst (pc := 34) C dX9_isDigit_34 (by decide) ?_
      exact zs_zret (pc := 35) C hr hlk dX9_isDigit_35 (by omega) ⟨rfl, by first | omega | (simp only [zuI_1, zuI_2, zuJ_1, zuJ_2, zuJ_3, zuP_1, zuP_2, zuP_3, zuC_1, zuC_2, reduceIte, Nat.reduceEqDiff, false_and, and_false, true_and, and_true, and_self, or_true, true_or, or_false, false_or]; omega)⟩
    · skip
      refine zs_aload_n (pc := 19) C dX9_isDigit_19 rfl ?_
      refine zs_getf (pc := 20) C dX9_isDigit_20 w_X9_7 f_10_0 (by decide) ?_
      refine zs_iload_n (pc := 23) C dX9_isDigit_23 rfl ?_
      refine zs_iald (r := 2057) (pc := 24) C dX9_isDigit_24 a_57 (by decide) (by omega) rfl (r_2057 _) (fun v24 e24 l24 u24 => ?_)
      refine zs_bipush (pc := 25) C dX9_isDigit_25 (by decide) (by decide) ?_
      refine zs_icmp_gt (tgt := 34) (pc := 27) C dX9_isDigit_27 (by decide) (fun h27 => ?_) (fun h27 => ?_)
      · skip
        refine zs_iconst (pc := 34) C dX9_isDigit_34 (by decide) ?_
        exact zs_zret (pc := 35) C hr hlk dX9_isDigit_35 (by omega) ⟨rfl, by first | omega | (simp only [zuI_1, zuI_2, zuJ_1, zuJ_2, zuJ_3, zuP_1, zuP_2, zuP_3, zuC_1, zuC_2, reduceIte, Nat.reduceEqDiff, false_and, and_false, true_and, and_true, and_self, or_true, true_or, or_false, false_or]; omega)⟩
      · skip
        refine zs_iconst (pc := 30) C dX9_isDigit_30 (by decide) ?_
        refine zs_goto (tgt := 35) (pc := 31) C dX9_isDigit_31 (by decide) ?_
        exact zs_zret (pc := 35) C hr hlk dX9_isDigit_35 (by omega) ⟨rfl, by first | omega | (simp only [zuI_1, zuI_2, zuJ_1, zuJ_2, zuJ_3, zuP_1, zuP_2, zuP_3, zuC_1, zuC_2, reduceIte, Nat.reduceEqDiff, false_and, and_false, true_and, and_true, and_self, or_true, true_or, or_false, false_or]; omega)⟩

set_option maxHeartbeats 4000000 in
set_option maxRecDepth 100000 in
theorem c_X9_packed {l : Launch} {Γ : zΓ} {G : zH} {w : Nat} {a b : Int} (hX : zXs Γ) (ha : 0 ≤ a ∧ a ≤ 700 ∧ b ≤ 700) : zMet l Γ yX9_packed cX9_packed 5 (some .int) 0 [zr 10 w, zi a, zi b] G (zpi (fun x G' => G' = G ∧ True)) := by
  refine zMet_of RX9 hX (by decide) rfl (Nat.le_of_ble_eq_true rfl) ?_
  intro p e s m args below meth c C hr hlk
  show Z p l e (zrm 0) s m args below meth c Γ 5 0 0 (MQ below (zQc Γ (zpi (fun x G' => G' = G ∧ True))) args s 0 0 (zA Γ)) 0 [some (zr 10 w), some (zi a), some (zi b), none, none] [] G
  refine zs_loc 1 rfl (fun ha1 hb1 => ?_)
  refine zs_loc 2 rfl (fun ha2 hb2 => ?_)
  refine zs_iconst (pc := 0) C dX9_packed_0 (by decide) ?_
  refine zs_istore_n (pc := 1) C dX9_packed_1 (by decide) ?_
  dsimp only [zset, zclr, znone]
  refine zs_iload_n (pc := 2) C dX9_packed_2 rfl ?_
  refine zs_istore (pc := 3) C dX9_packed_3 (by decide) ?_
  dsimp only [zset, zclr, znone]
  have L5 : ∀ (nn : Nat) (x3 x4 : Int), (a ≤ x4 ∧ x4 ≤ a + 6) → (a + 6 - x4).toNat < nn → Z p l e (zrm 0) s m args below meth c Γ 5 0 0 (MQ below (zQc Γ (zpi (fun x G' => G' = G ∧ True))) args s 0 0 (zA Γ)) 5 [some (zr 10 w), some (zi a), some (zi b), some (zi x3), some (zi x4)] [] G := by
    intro nn
    induction nn with
    | zero => intro x3 x4 h5_0 hm; exact absurd hm (Nat.not_lt_zero _)
    | succ nn ih5 =>
      intro x3 x4 h5_0 hm5
      refine zs_iload (pc := 5) C dX9_packed_5 rfl ?_
      refine zs_iload_n (pc := 7) C dX9_packed_7 rfl ?_
      refine zs_bipush (pc := 8) C dX9_packed_8 (by decide) (by decide) ?_
      first | refine zs_iadd (pc := 10) C dX9_packed_10 (by omega) ?_ | refine zs_iaddF (pc := 10) C dX9_packed_10 (fun z10 hz101 hz102 => ?_)
      refine zs_icmp_ge (tgt := 45) (pc := 11) C dX9_packed_11 (by decide) (fun h11 => ?_) (fun h11 => ?_)
      · skip
        refine zs_iload_n (pc := 45) C dX9_packed_45 rfl ?_
        exact zs_iret (pc := 46) C hr hlk dX9_packed_46 ⟨rfl, trivial⟩
      · skip
        refine zs_iload_n (pc := 14) C dX9_packed_14 rfl ?_
        refine zs_iconst (pc := 15) C dX9_packed_15 (by decide) ?_
        refine zs_ishlF (pc := 16) C dX9_packed_16 (fun z16 hz161 hz162 => ?_)
        refine zs_iload (pc := 17) C dX9_packed_17 rfl ?_
        refine zs_iload_n (pc := 19) C dX9_packed_19 rfl ?_
        refine zs_icmp_ge (tgt := 36) (pc := 20) C dX9_packed_20 (by decide) (fun h20 => ?_) (fun h20 => ?_)
        · skip
          refine zs_iconst (pc := 36) C dX9_packed_36 (by decide) ?_
          refine zs_iorF (pc := 37) C dX9_packed_37 (fun z37 hz371 hz372 => ?_)
          refine zs_istore_n (pc := 38) C dX9_packed_38 (by decide) ?_
          dsimp only [zset, zclr, znone]
          first | refine zs_iinc (pc := 39) C dX9_packed_39 rfl (by decide) (by omega) ?_ | refine zs_iincF (pc := 39) C dX9_packed_39 rfl (by decide) (fun z39 hz391 hz392 => ?_)
          dsimp only [zset, zclr, znone]
          refine zs_goto (tgt := 5) (pc := 42) C dX9_packed_42 (by decide) ?_
          exact zs_wk (ih5 _ _ (by first | omega | (simp only [zuI_1, zuI_2, zuJ_1, zuJ_2, zuJ_3, zuP_1, zuP_2, zuP_3, zuC_1, zuC_2, reduceIte, Nat.reduceEqDiff, false_and, and_false, true_and, and_true, and_self, or_true, true_or, or_false, false_or]; omega)) (by first | omega | (simp only [zuI_1, zuI_2, zuJ_1, zuJ_2, zuJ_3, zuP_1, zuP_2, zuP_3, zuC_1, zuC_2, reduceIte, Nat.reduceEqDiff, false_and, and_false, true_and, and_true, and_self, or_true, true_or, or_false, false_or]; omega))) (zwk_s rfl (zwk_s rfl (zwk_s rfl (zwk_s rfl (zwk_s rfl zwk_0)))))
        · skip
          refine zs_aload_n (pc := 23) C dX9_packed_23 rfl ?_
          refine zs_getf (pc := 24) C dX9_packed_24 w_X9_7 f_10_0 (by decide) ?_
          refine zs_iload (pc := 27) C dX9_packed_27 rfl ?_
          refine zs_iald (r := 2057) (pc := 29) C dX9_packed_29 a_57 (by decide) (by omega) rfl (r_2057 _) (fun v29 e29 l29 u29 => ?_)
          refine zs_bipush (pc := 30) C dX9_packed_30 (by decide) (by decide) ?_
          first | refine zs_isub (pc := 32) C dX9_packed_32 (by omega) ?_ | refine zs_isubF (pc := 32) C dX9_packed_32 (fun z32 hz321 hz322 => ?_)
          refine zs_goto (tgt := 37) (pc := 33) C dX9_packed_33 (by decide) ?_
          refine zs_iorF (pc := 37) C dX9_packed_37 (fun z37 hz371 hz372 => ?_)
          refine zs_istore_n (pc := 38) C dX9_packed_38 (by decide) ?_
          dsimp only [zset, zclr, znone]
          first | refine zs_iinc (pc := 39) C dX9_packed_39 rfl (by decide) (by omega) ?_ | refine zs_iincF (pc := 39) C dX9_packed_39 rfl (by decide) (fun z39 hz391 hz392 => ?_)
          dsimp only [zset, zclr, znone]
          refine zs_goto (tgt := 5) (pc := 42) C dX9_packed_42 (by decide) ?_
          exact zs_wk (ih5 _ _ (by first | omega | (simp only [zuI_1, zuI_2, zuJ_1, zuJ_2, zuJ_3, zuP_1, zuP_2, zuP_3, zuC_1, zuC_2, reduceIte, Nat.reduceEqDiff, false_and, and_false, true_and, and_true, and_self, or_true, true_or, or_false, false_or]; omega)) (by first | omega | (simp only [zuI_1, zuI_2, zuJ_1, zuJ_2, zuJ_3, zuP_1, zuP_2, zuP_3, zuC_1, zuC_2, reduceIte, Nat.reduceEqDiff, false_and, and_false, true_and, and_true, and_self, or_true, true_or, or_false, false_or]; omega))) (zwk_s rfl (zwk_s rfl (zwk_s rfl (zwk_s rfl (zwk_s rfl zwk_0)))))
  exact zs_wk (L5 _ _ _ (by first | omega | (simp only [zuI_1, zuI_2, zuJ_1, zuJ_2, zuJ_3, zuP_1, zuP_2, zuP_3, zuC_1, zuC_2, reduceIte, Nat.reduceEqDiff, false_and, and_false, true_and, and_true, and_self, or_true, true_or, or_false, false_or]; omega)) (Nat.lt_succ_self _)) (zwk_s rfl (zwk_s rfl (zwk_s rfl (zwk_s rfl (zwk_s rfl zwk_0)))))

set_option maxHeartbeats 4000000 in
set_option maxRecDepth 100000 in
theorem c_X9_wordAt {l : Launch} {Γ : zΓ} {G : zH} {w : Nat} {a b : Int} (hX : zXs Γ) (ha : 0 ≤ a ∧ a ≤ b ∧ b ≤ 700) : zMet l Γ yX9_wordAt cX9_wordAt 8 (some .int) 0 [zr 10 w, zi a, zi b] G (zpi (fun x G' => G' = G ∧ (-1 ≤ x ∧ x ≤ 23))) := by
  refine zMet_of RX9 hX (by decide) rfl (Nat.le_of_ble_eq_true rfl) ?_
  intro p e s m args below meth c C hr hlk
  show Z p l e (zrm 0) s m args below meth c Γ 8 0 0 (MQ below (zQc Γ (zpi (fun x G' => G' = G ∧ (-1 ≤ x ∧ x ≤ 23)))) args s 0 0 (zA Γ)) 0 [some (zr 10 w), some (zi a), some (zi b), none, none, none, none, none] [] G
  refine zs_loc 1 rfl (fun ha1 hb1 => ?_)
  refine zs_loc 2 rfl (fun ha2 hb2 => ?_)
  refine zs_iconst (pc := 0) C dX9_wordAt_0 (by decide) ?_
  refine zs_istore_n (pc := 1) C dX9_wordAt_1 (by decide) ?_
  dsimp only [zset, zclr, znone]
  refine zs_iconst (pc := 2) C dX9_wordAt_2 (by decide) ?_
  refine zs_istore (pc := 3) C dX9_wordAt_3 (by decide) ?_
  dsimp only [zset, zclr, znone]
  have L5 : ∀ (nn : Nat) (x3 x4 : Int), (0 ≤ x4 ∧ x4 ≤ 121) → (x3 = zct wsp x4.toNat) → (121 - x4).toNat < nn → Z p l e (zrm 0) s m args below meth c Γ 8 0 0 (MQ below (zQc Γ (zpi (fun x G' => G' = G ∧ (-1 ≤ x ∧ x ≤ 23)))) args s 0 0 (zA Γ)) 5 [some (zr 10 w), some (zi a), some (zi b), some (zi x3), some (zi x4), none, none, none] [] G := by
    intro nn
    induction nn with
    | zero => intro x3 x4 h5_0 h5_1 hm; exact absurd hm (Nat.not_lt_zero _)
    | succ nn ih5 =>
      intro x3 x4 h5_0 h5_1 hm5
      refine zs_iload (pc := 5) C dX9_wordAt_5 rfl ?_
      refine zs_aload_n (pc := 7) C dX9_wordAt_7 rfl ?_
      refine zs_getf (pc := 8) C dX9_wordAt_8 w_X9_13 f_10_3 (by decide) ?_
      refine zs_alen (pc := 11) C dX9_wordAt_11 a_58 (by decide) (by decide) ?_
      refine zs_icmp_ge (tgt := 126) (pc := 12) C dX9_wordAt_12 (by decide) (fun h12 => ?_) (fun h12 => ?_)
      · skip
        refine zs_iconst (pc := 126) C dX9_wordAt_126 (by decide) ?_
        exact zs_iret (pc := 127) C hr hlk dX9_wordAt_127 ⟨rfl, by first | omega | (simp only [zuI_1, zuI_2, zuJ_1, zuJ_2, zuJ_3, zuP_1, zuP_2, zuP_3, zuC_1, zuC_2, reduceIte, Nat.reduceEqDiff, false_and, and_false, true_and, and_true, and_self, or_true, true_or, or_false, false_or]; omega)⟩
      · skip
        refine zs_iconst (pc := 15) C dX9_wordAt_15 (by decide) ?_
        refine zs_istore (pc := 16) C dX9_wordAt_16 (by decide) ?_
        dsimp only [zset, zclr, znone]
        have L18 : ∀ (nn : Nat) (x5 : Int), (0 ≤ x5 ∧ x4 + x5 ≤ 120) → (x3 = zct wsp (x4 + x5).toNat) → (120 - x5).toNat < nn → Z p l e (zrm 0) s m args below meth c Γ 8 0 0 (MQ below (zQc Γ (zpi (fun x G' => G' = G ∧ (-1 ≤ x ∧ x ≤ 23)))) args s 0 0 (zA Γ)) 18 [some (zr 10 w), some (zi a), some (zi b), some (zi x3), some (zi x4), some (zi x5), none, none] [] G := by
          intro nn
          induction nn with
          | zero => intro x5 h18_0 h18_1 hm; exact absurd hm (Nat.not_lt_zero _)
          | succ nn ih18 =>
            intro x5 h18_0 h18_1 hm18
            have hwb := wsp_b (i := x4 + x5) (by omega)
            refine zs_aload_n (pc := 18) C dX9_wordAt_18 rfl ?_
            refine zs_getf (pc := 19) C dX9_wordAt_19 w_X9_13 f_10_3 (by decide) ?_
            refine zs_iload (pc := 22) C dX9_wordAt_22 rfl ?_
            refine zs_iload (pc := 24) C dX9_wordAt_24 rfl ?_
            first | refine zs_iadd (pc := 26) C dX9_wordAt_26 (by omega) ?_ | refine zs_iaddF (pc := 26) C dX9_wordAt_26 (fun z26 hz261 hz262 => ?_)
            refine zs_iald (r := 2058) (pc := 27) C dX9_wordAt_27 a_58 (by decide) (by omega) rfl (wd_eta _) (fun v27 e27 l27 u27 => ?_)
            have hwd := wd_at l27 u27
            have hws := wsp_s h18_1 (by omega) hwd
            have hw120 : x4 + x5 = 120 → v27 = 32 := fun q => by rw [hwd, show (x4 + x5).toNat = 120 by omega]; exact wd_120
            refine zs_bipush (pc := 28) C dX9_wordAt_28 (by decide) (by decide) ?_
            refine zs_icmp_eq (tgt := 39) (pc := 30) C dX9_wordAt_30 (by decide) (fun h30 => ?_) (fun h30 => ?_)
            · skip
              refine zs_iload (pc := 39) C dX9_wordAt_39 rfl ?_
              refine zs_iload_n (pc := 41) C dX9_wordAt_41 rfl ?_
              refine zs_iload_n (pc := 42) C dX9_wordAt_42 rfl ?_
              first | refine zs_isub (pc := 43) C dX9_wordAt_43 (by omega) ?_ | refine zs_isubF (pc := 43) C dX9_wordAt_43 (fun z43 hz431 hz432 => ?_)
              refine zs_icmp_ne (tgt := 51) (pc := 44) C dX9_wordAt_44 (by decide) (fun h44 => ?_) (fun h44 => ?_)
              · skip
                refine zs_iconst (pc := 51) C dX9_wordAt_51 (by decide) ?_
                refine zs_istore (pc := 52) C dX9_wordAt_52 (by decide) ?_
                dsimp only [zset, zclr, znone]
                refine zs_iconst (pc := 54) C dX9_wordAt_54 (by decide) ?_
                refine zs_istore (pc := 55) C dX9_wordAt_55 (by decide) ?_
                dsimp only [zset, zclr, znone]
                have L57 : ∀ (nn : Nat) (x6 x7 : Int), (0 ≤ x7 ∧ x7 ≤ x5) → (x6 = 0 ∨ (x6 = 1 ∧ x5 = b - a)) → (x5 - x7).toNat < nn → Z p l e (zrm 0) s m args below meth c Γ 8 0 0 (MQ below (zQc Γ (zpi (fun x G' => G' = G ∧ (-1 ≤ x ∧ x ≤ 23)))) args s 0 0 (zA Γ)) 57 [some (zr 10 w), some (zi a), some (zi b), some (zi x3), some (zi x4), some (zi x5), some (zi x6), some (zi x7)] [] G := by
                  intro nn
                  induction nn with
                  | zero => intro x6 x7 h57_0 h57_1 hm; exact absurd hm (Nat.not_lt_zero _)
                  | succ nn ih57 =>
                    intro x6 x7 h57_0 h57_1 hm57
                    refine zs_iload (pc := 57) C dX9_wordAt_57 rfl ?_
                    refine zs_iload (pc := 59) C dX9_wordAt_59 rfl ?_
                    refine zs_icmp_ge (tgt := 104) (pc := 61) C dX9_wordAt_61 (by decide) (fun h61 => ?_) (fun h61 => ?_)
                    · skip
                      refine zs_iload (pc := 104) C dX9_wordAt_104 rfl ?_
                      refine zs_if_eq (tgt := 111) (pc := 106) C dX9_wordAt_106 (by decide) (fun h106 => ?_) (fun h106 => ?_)
                      · skip
                        refine zs_iload (pc := 111) C dX9_wordAt_111 rfl ?_
                        refine zs_iload (pc := 113) C dX9_wordAt_113 rfl ?_
                        refine zs_iconst (pc := 115) C dX9_wordAt_115 (by decide) ?_
                        first | refine zs_iadd (pc := 116) C dX9_wordAt_116 (by omega) ?_ | refine zs_iaddF (pc := 116) C dX9_wordAt_116 (fun z116 hz1161 hz1162 => ?_)
                        first | refine zs_iadd (pc := 117) C dX9_wordAt_117 (by omega) ?_ | refine zs_iaddF (pc := 117) C dX9_wordAt_117 (fun z117 hz1171 hz1172 => ?_)
                        refine zs_istore (pc := 118) C dX9_wordAt_118 (by decide) ?_
                        dsimp only [zset, zclr, znone]
                        first | refine zs_iinc (pc := 120) C dX9_wordAt_120 rfl (by decide) (by omega) ?_ | refine zs_iincF (pc := 120) C dX9_wordAt_120 rfl (by decide) (fun z120 hz1201 hz1202 => ?_)
                        dsimp only [zset, zclr, znone]
                        refine zs_goto (tgt := 5) (pc := 123) C dX9_wordAt_123 (by decide) ?_
                        exact zs_wk (ih5 _ _ (by omega) (by first | exact (hws.2 (by omega)) | (rw [show x4 + (x5 + 1) = x4 + x5 + 1 by omega]; exact hws.2 (by omega))) (by first | omega | (simp only [zuI_1, zuI_2, zuJ_1, zuJ_2, zuJ_3, zuP_1, zuP_2, zuP_3, zuC_1, zuC_2, reduceIte, Nat.reduceEqDiff, false_and, and_false, true_and, and_true, and_self, or_true, true_or, or_false, false_or]; omega))) (zwk_s rfl (zwk_s rfl (zwk_s rfl (zwk_s rfl (zwk_s rfl (zwk_n (zwk_n (zwk_n zwk_0))))))))
                      · skip
                        refine zs_iload_n (pc := 109) C dX9_wordAt_109 rfl ?_
                        exact zs_iret (pc := 110) C hr hlk dX9_wordAt_110 ⟨rfl, by first | omega | (simp only [zuI_1, zuI_2, zuJ_1, zuJ_2, zuJ_3, zuP_1, zuP_2, zuP_3, zuC_1, zuC_2, reduceIte, Nat.reduceEqDiff, false_and, and_false, true_and, and_true, and_self, or_true, true_or, or_false, false_or]; omega)⟩
                    · skip
                      refine zs_iload (pc := 64) C dX9_wordAt_64 rfl ?_
                      refine zs_if_eq (tgt := 104) (pc := 66) C dX9_wordAt_66 (by decide) (fun h66 => ?_) (fun h66 => ?_)
                      · skip
                        refine zs_iload (pc := 104) C dX9_wordAt_104 rfl ?_
                        refine zs_if_eq (tgt := 111) (pc := 106) C dX9_wordAt_106 (by decide) (fun h106 => ?_) (fun h106 => ?_)
                        · skip
                          refine zs_iload (pc := 111) C dX9_wordAt_111 rfl ?_
                          refine zs_iload (pc := 113) C dX9_wordAt_113 rfl ?_
                          refine zs_iconst (pc := 115) C dX9_wordAt_115 (by decide) ?_
                          first | refine zs_iadd (pc := 116) C dX9_wordAt_116 (by omega) ?_ | refine zs_iaddF (pc := 116) C dX9_wordAt_116 (fun z116 hz1161 hz1162 => ?_)
                          first | refine zs_iadd (pc := 117) C dX9_wordAt_117 (by omega) ?_ | refine zs_iaddF (pc := 117) C dX9_wordAt_117 (fun z117 hz1171 hz1172 => ?_)
                          refine zs_istore (pc := 118) C dX9_wordAt_118 (by decide) ?_
                          dsimp only [zset, zclr, znone]
                          first | refine zs_iinc (pc := 120) C dX9_wordAt_120 rfl (by decide) (by omega) ?_ | refine zs_iincF (pc := 120) C dX9_wordAt_120 rfl (by decide) (fun z120 hz1201 hz1202 => ?_)
                          dsimp only [zset, zclr, znone]
                          refine zs_goto (tgt := 5) (pc := 123) C dX9_wordAt_123 (by decide) ?_
                          exact zs_wk (ih5 _ _ (by omega) (by first | exact (hws.2 (by omega)) | (rw [show x4 + (x5 + 1) = x4 + x5 + 1 by omega]; exact hws.2 (by omega))) (by first | omega | (simp only [zuI_1, zuI_2, zuJ_1, zuJ_2, zuJ_3, zuP_1, zuP_2, zuP_3, zuC_1, zuC_2, reduceIte, Nat.reduceEqDiff, false_and, and_false, true_and, and_true, and_self, or_true, true_or, or_false, false_or]; omega))) (zwk_s rfl (zwk_s rfl (zwk_s rfl (zwk_s rfl (zwk_s rfl (zwk_n (zwk_n (zwk_n zwk_0))))))))
                        · skip
                          refine zs_iload_n (pc := 109) C dX9_wordAt_109 rfl ?_
                          exact zs_iret (pc := 110) C hr hlk dX9_wordAt_110 ⟨rfl, by first | omega | (simp only [zuI_1, zuI_2, zuJ_1, zuJ_2, zuJ_3, zuP_1, zuP_2, zuP_3, zuC_1, zuC_2, reduceIte, Nat.reduceEqDiff, false_and, and_false, true_and, and_true, and_self, or_true, true_or, or_false, false_or]; omega)⟩
                      · skip
                        refine zs_aload_n (pc := 69) C dX9_wordAt_69 rfl ?_
                        refine zs_getf (pc := 70) C dX9_wordAt_70 w_X9_13 f_10_3 (by decide) ?_
                        refine zs_iload (pc := 73) C dX9_wordAt_73 rfl ?_
                        refine zs_iload (pc := 75) C dX9_wordAt_75 rfl ?_
                        first | refine zs_iadd (pc := 77) C dX9_wordAt_77 (by omega) ?_ | refine zs_iaddF (pc := 77) C dX9_wordAt_77 (fun z77 hz771 hz772 => ?_)
                        refine zs_iald (r := 2058) (pc := 78) C dX9_wordAt_78 a_58 (by decide) (by omega) rfl (wd_eta _) (fun v78 e78 l78 u78 => ?_)
                        refine zs_aload_n (pc := 79) C dX9_wordAt_79 rfl ?_
                        refine zs_getf (pc := 80) C dX9_wordAt_80 w_X9_7 f_10_0 (by decide) ?_
                        refine zs_iload_n (pc := 83) C dX9_wordAt_83 rfl ?_
                        refine zs_iload (pc := 84) C dX9_wordAt_84 rfl ?_
                        first | refine zs_iadd (pc := 86) C dX9_wordAt_86 (by omega) ?_ | refine zs_iaddF (pc := 86) C dX9_wordAt_86 (fun z86 hz861 hz862 => ?_)
                        refine zs_iald (r := 2057) (pc := 87) C dX9_wordAt_87 a_57 (by decide) (by omega) rfl (r_2057 _) (fun v87 e87 l87 u87 => ?_)
                        refine zs_icmp_ne (tgt := 95) (pc := 88) C dX9_wordAt_88 (by decide) (fun h88 => ?_) (fun h88 => ?_)
                        · skip
                          refine zs_iconst (pc := 95) C dX9_wordAt_95 (by decide) ?_
                          refine zs_istore (pc := 96) C dX9_wordAt_96 (by decide) ?_
                          dsimp only [zset, zclr, znone]
                          first | refine zs_iinc (pc := 98) C dX9_wordAt_98 rfl (by decide) (by omega) ?_ | refine zs_iincF (pc := 98) C dX9_wordAt_98 rfl (by decide) (fun z98 hz981 hz982 => ?_)
                          dsimp only [zset, zclr, znone]
                          refine zs_goto (tgt := 57) (pc := 101) C dX9_wordAt_101 (by decide) ?_
                          exact zs_wk (ih57 _ _ (by first | omega | (simp only [zuI_1, zuI_2, zuJ_1, zuJ_2, zuJ_3, zuP_1, zuP_2, zuP_3, zuC_1, zuC_2, reduceIte, Nat.reduceEqDiff, false_and, and_false, true_and, and_true, and_self, or_true, true_or, or_false, false_or]; omega)) (by first | omega | (simp only [zuI_1, zuI_2, zuJ_1, zuJ_2, zuJ_3, zuP_1, zuP_2, zuP_3, zuC_1, zuC_2, reduceIte, Nat.reduceEqDiff, false_and, and_false, true_and, and_true, and_self, or_true, true_or, or_false, false_or]; omega)) (by first | omega | (simp only [zuI_1, zuI_2, zuJ_1, zuJ_2, zuJ_3, zuP_1, zuP_2, zuP_3, zuC_1, zuC_2, reduceIte, Nat.reduceEqDiff, false_and, and_false, true_and, and_true, and_self, or_true, true_or, or_false, false_or]; omega))) (zwk_s rfl (zwk_s rfl (zwk_s rfl (zwk_s rfl (zwk_s rfl (zwk_s rfl (zwk_s rfl (zwk_s rfl zwk_0))))))))
                        · skip
                          refine zs_iconst (pc := 91) C dX9_wordAt_91 (by decide) ?_
                          refine zs_goto (tgt := 96) (pc := 92) C dX9_wordAt_92 (by decide) ?_
                          refine zs_istore (pc := 96) C dX9_wordAt_96 (by decide) ?_
                          dsimp only [zset, zclr, znone]
                          first | refine zs_iinc (pc := 98) C dX9_wordAt_98 rfl (by decide) (by omega) ?_ | refine zs_iincF (pc := 98) C dX9_wordAt_98 rfl (by decide) (fun z98 hz981 hz982 => ?_)
                          dsimp only [zset, zclr, znone]
                          refine zs_goto (tgt := 57) (pc := 101) C dX9_wordAt_101 (by decide) ?_
                          exact zs_wk (ih57 _ _ (by first | omega | (simp only [zuI_1, zuI_2, zuJ_1, zuJ_2, zuJ_3, zuP_1, zuP_2, zuP_3, zuC_1, zuC_2, reduceIte, Nat.reduceEqDiff, false_and, and_false, true_and, and_true, and_self, or_true, true_or, or_false, false_or]; omega)) (by first | omega | (simp only [zuI_1, zuI_2, zuJ_1, zuJ_2, zuJ_3, zuP_1, zuP_2, zuP_3, zuC_1, zuC_2, reduceIte, Nat.reduceEqDiff, false_and, and_false, true_and, and_true, and_self, or_true, true_or, or_false, false_or]; omega)) (by first | omega | (simp only [zuI_1, zuI_2, zuJ_1, zuJ_2, zuJ_3, zuP_1, zuP_2, zuP_3, zuC_1, zuC_2, reduceIte, Nat.reduceEqDiff, false_and, and_false, true_and, and_true, and_self, or_true, true_or, or_false, false_or]; omega))) (zwk_s rfl (zwk_s rfl (zwk_s rfl (zwk_s rfl (zwk_s rfl (zwk_s rfl (zwk_s rfl (zwk_s rfl zwk_0))))))))
                exact zs_wk (L57 _ _ _ (by first | omega | (simp only [zuI_1, zuI_2, zuJ_1, zuJ_2, zuJ_3, zuP_1, zuP_2, zuP_3, zuC_1, zuC_2, reduceIte, Nat.reduceEqDiff, false_and, and_false, true_and, and_true, and_self, or_true, true_or, or_false, false_or]; omega)) (by first | omega | (simp only [zuI_1, zuI_2, zuJ_1, zuJ_2, zuJ_3, zuP_1, zuP_2, zuP_3, zuC_1, zuC_2, reduceIte, Nat.reduceEqDiff, false_and, and_false, true_and, and_true, and_self, or_true, true_or, or_false, false_or]; omega)) (Nat.lt_succ_self _)) (zwk_s rfl (zwk_s rfl (zwk_s rfl (zwk_s rfl (zwk_s rfl (zwk_s rfl (zwk_s rfl (zwk_s rfl zwk_0))))))))
              · skip
                refine zs_iconst (pc := 47) C dX9_wordAt_47 (by decide) ?_
                refine zs_goto (tgt := 52) (pc := 48) C dX9_wordAt_48 (by decide) ?_
                refine zs_istore (pc := 52) C dX9_wordAt_52 (by decide) ?_
                dsimp only [zset, zclr, znone]
                refine zs_iconst (pc := 54) C dX9_wordAt_54 (by decide) ?_
                refine zs_istore (pc := 55) C dX9_wordAt_55 (by decide) ?_
                dsimp only [zset, zclr, znone]
                have L57 : ∀ (nn : Nat) (x6 x7 : Int), (0 ≤ x7 ∧ x7 ≤ x5) → (x6 = 0 ∨ (x6 = 1 ∧ x5 = b - a)) → (x5 - x7).toNat < nn → Z p l e (zrm 0) s m args below meth c Γ 8 0 0 (MQ below (zQc Γ (zpi (fun x G' => G' = G ∧ (-1 ≤ x ∧ x ≤ 23)))) args s 0 0 (zA Γ)) 57 [some (zr 10 w), some (zi a), some (zi b), some (zi x3), some (zi x4), some (zi x5), some (zi x6), some (zi x7)] [] G := by
                  intro nn
                  induction nn with
                  | zero => intro x6 x7 h57_0 h57_1 hm; exact absurd hm (Nat.not_lt_zero _)
                  | succ nn ih57 =>
                    intro x6 x7 h57_0 h57_1 hm57
                    refine zs_iload (pc := 57) C dX9_wordAt_57 rfl ?_
                    refine zs_iload (pc := 59) C dX9_wordAt_59 rfl ?_
                    refine zs_icmp_ge (tgt := 104) (pc := 61) C dX9_wordAt_61 (by decide) (fun h61 => ?_) (fun h61 => ?_)
                    · skip
                      refine zs_iload (pc := 104) C dX9_wordAt_104 rfl ?_
                      refine zs_if_eq (tgt := 111) (pc := 106) C dX9_wordAt_106 (by decide) (fun h106 => ?_) (fun h106 => ?_)
                      · skip
                        refine zs_iload (pc := 111) C dX9_wordAt_111 rfl ?_
                        refine zs_iload (pc := 113) C dX9_wordAt_113 rfl ?_
                        refine zs_iconst (pc := 115) C dX9_wordAt_115 (by decide) ?_
                        first | refine zs_iadd (pc := 116) C dX9_wordAt_116 (by omega) ?_ | refine zs_iaddF (pc := 116) C dX9_wordAt_116 (fun z116 hz1161 hz1162 => ?_)
                        first | refine zs_iadd (pc := 117) C dX9_wordAt_117 (by omega) ?_ | refine zs_iaddF (pc := 117) C dX9_wordAt_117 (fun z117 hz1171 hz1172 => ?_)
                        refine zs_istore (pc := 118) C dX9_wordAt_118 (by decide) ?_
                        dsimp only [zset, zclr, znone]
                        first | refine zs_iinc (pc := 120) C dX9_wordAt_120 rfl (by decide) (by omega) ?_ | refine zs_iincF (pc := 120) C dX9_wordAt_120 rfl (by decide) (fun z120 hz1201 hz1202 => ?_)
                        dsimp only [zset, zclr, znone]
                        refine zs_goto (tgt := 5) (pc := 123) C dX9_wordAt_123 (by decide) ?_
                        exact zs_wk (ih5 _ _ (by omega) (by first | exact (hws.2 (by omega)) | (rw [show x4 + (x5 + 1) = x4 + x5 + 1 by omega]; exact hws.2 (by omega))) (by first | omega | (simp only [zuI_1, zuI_2, zuJ_1, zuJ_2, zuJ_3, zuP_1, zuP_2, zuP_3, zuC_1, zuC_2, reduceIte, Nat.reduceEqDiff, false_and, and_false, true_and, and_true, and_self, or_true, true_or, or_false, false_or]; omega))) (zwk_s rfl (zwk_s rfl (zwk_s rfl (zwk_s rfl (zwk_s rfl (zwk_n (zwk_n (zwk_n zwk_0))))))))
                      · skip
                        refine zs_iload_n (pc := 109) C dX9_wordAt_109 rfl ?_
                        exact zs_iret (pc := 110) C hr hlk dX9_wordAt_110 ⟨rfl, by first | omega | (simp only [zuI_1, zuI_2, zuJ_1, zuJ_2, zuJ_3, zuP_1, zuP_2, zuP_3, zuC_1, zuC_2, reduceIte, Nat.reduceEqDiff, false_and, and_false, true_and, and_true, and_self, or_true, true_or, or_false, false_or]; omega)⟩
                    · skip
                      refine zs_iload (pc := 64) C dX9_wordAt_64 rfl ?_
                      refine zs_if_eq (tgt := 104) (pc := 66) C dX9_wordAt_66 (by decide) (fun h66 => ?_) (fun h66 => ?_)
                      · skip
                        refine zs_iload (pc := 104) C dX9_wordAt_104 rfl ?_
                        refine zs_if_eq (tgt := 111) (pc := 106) C dX9_wordAt_106 (by decide) (fun h106 => ?_) (fun h106 => ?_)
                        · skip
                          refine zs_iload (pc := 111) C dX9_wordAt_111 rfl ?_
                          refine zs_iload (pc := 113) C dX9_wordAt_113 rfl ?_
                          refine zs_iconst (pc := 115) C dX9_wordAt_115 (by decide) ?_
                          first | refine zs_iadd (pc := 116) C dX9_wordAt_116 (by omega) ?_ | refine zs_iaddF (pc := 116) C dX9_wordAt_116 (fun z116 hz1161 hz1162 => ?_)
                          first | refine zs_iadd (pc := 117) C dX9_wordAt_117 (by omega) ?_ | refine zs_iaddF (pc := 117) C dX9_wordAt_117 (fun z117 hz1171 hz1172 => ?_)
                          refine zs_istore (pc := 118) C dX9_wordAt_118 (by decide) ?_
                          dsimp only [zset, zclr, znone]
                          first | refine zs_iinc (pc := 120) C dX9_wordAt_120 rfl (by decide) (by omega) ?_ | refine zs_iincF (pc := 120) C dX9_wordAt_120 rfl (by decide) (fun z120 hz1201 hz1202 => ?_)
                          dsimp only [zset, zclr, znone]
                          refine zs_goto (tgt := 5) (pc := 123) C dX9_wordAt_123 (by decide) ?_
                          exact zs_wk (ih5 _ _ (by omega) (by first | exact (hws.2 (by omega)) | (rw [show x4 + (x5 + 1) = x4 + x5 + 1 by omega]; exact hws.2 (by omega))) (by first | omega | (simp only [zuI_1, zuI_2, zuJ_1, zuJ_2, zuJ_3, zuP_1, zuP_2, zuP_3, zuC_1, zuC_2, reduceIte, Nat.reduceEqDiff, false_and, and_false, true_and, and_true, and_self, or_true, true_or, or_false, false_or]; omega))) (zwk_s rfl (zwk_s rfl (zwk_s rfl (zwk_s rfl (zwk_s rfl (zwk_n (zwk_n (zwk_n zwk_0))))))))
                        · skip
                          refine zs_iload_n (pc := 109) C dX9_wordAt_109 rfl ?_
                          exact zs_iret (pc := 110) C hr hlk dX9_wordAt_110 ⟨rfl, by first | omega | (simp only [zuI_1, zuI_2, zuJ_1, zuJ_2, zuJ_3, zuP_1, zuP_2, zuP_3, zuC_1, zuC_2, reduceIte, Nat.reduceEqDiff, false_and, and_false, true_and, and_true, and_self, or_true, true_or, or_false, false_or]; omega)⟩
                      · skip
                        refine zs_aload_n (pc := 69) C dX9_wordAt_69 rfl ?_
                        refine zs_getf (pc := 70) C dX9_wordAt_70 w_X9_13 f_10_3 (by decide) ?_
                        refine zs_iload (pc := 73) C dX9_wordAt_73 rfl ?_
                        refine zs_iload (pc := 75) C dX9_wordAt_75 rfl ?_
                        first | refine zs_iadd (pc := 77) C dX9_wordAt_77 (by omega) ?_ | refine zs_iaddF (pc := 77) C dX9_wordAt_77 (fun z77 hz771 hz772 => ?_)
                        refine zs_iald (r := 2058) (pc := 78) C dX9_wordAt_78 a_58 (by decide) (by omega) rfl (wd_eta _) (fun v78 e78 l78 u78 => ?_)
                        refine zs_aload_n (pc := 79) C dX9_wordAt_79 rfl ?_
                        refine zs_getf (pc := 80) C dX9_wordAt_80 w_X9_7 f_10_0 (by decide) ?_
                        refine zs_iload_n (pc := 83) C dX9_wordAt_83 rfl ?_
                        refine zs_iload (pc := 84) C dX9_wordAt_84 rfl ?_
                        first | refine zs_iadd (pc := 86) C dX9_wordAt_86 (by omega) ?_ | refine zs_iaddF (pc := 86) C dX9_wordAt_86 (fun z86 hz861 hz862 => ?_)
                        refine zs_iald (r := 2057) (pc := 87) C dX9_wordAt_87 a_57 (by decide) (by omega) rfl (r_2057 _) (fun v87 e87 l87 u87 => ?_)
                        refine zs_icmp_ne (tgt := 95) (pc := 88) C dX9_wordAt_88 (by decide) (fun h88 => ?_) (fun h88 => ?_)
                        · skip
                          refine zs_iconst (pc := 95) C dX9_wordAt_95 (by decide) ?_
                          refine zs_istore (pc := 96) C dX9_wordAt_96 (by decide) ?_
                          dsimp only [zset, zclr, znone]
                          first | refine zs_iinc (pc := 98) C dX9_wordAt_98 rfl (by decide) (by omega) ?_ | refine zs_iincF (pc := 98) C dX9_wordAt_98 rfl (by decide) (fun z98 hz981 hz982 => ?_)
                          dsimp only [zset, zclr, znone]
                          refine zs_goto (tgt := 57) (pc := 101) C dX9_wordAt_101 (by decide) ?_
                          exact zs_wk (ih57 _ _ (by first | omega | (simp only [zuI_1, zuI_2, zuJ_1, zuJ_2, zuJ_3, zuP_1, zuP_2, zuP_3, zuC_1, zuC_2, reduceIte, Nat.reduceEqDiff, false_and, and_false, true_and, and_true, and_self, or_true, true_or, or_false, false_or]; omega)) (by first | omega | (simp only [zuI_1, zuI_2, zuJ_1, zuJ_2, zuJ_3, zuP_1, zuP_2, zuP_3, zuC_1, zuC_2, reduceIte, Nat.reduceEqDiff, false_and, and_false, true_and, and_true, and_self, or_true, true_or, or_false, false_or]; omega)) (by first | omega | (simp only [zuI_1, zuI_2, zuJ_1, zuJ_2, zuJ_3, zuP_1, zuP_2, zuP_3, zuC_1, zuC_2, reduceIte, Nat.reduceEqDiff, false_and, and_false, true_and, and_true, and_self, or_true, true_or, or_false, false_or]; omega))) (zwk_s rfl (zwk_s rfl (zwk_s rfl (zwk_s rfl (zwk_s rfl (zwk_s rfl (zwk_s rfl (zwk_s rfl zwk_0))))))))
                        · skip
                          refine zs_iconst (pc := 91) C dX9_wordAt_91 (by decide) ?_
                          refine zs_goto (tgt := 96) (pc := 92) C dX9_wordAt_92 (by decide) ?_
                          refine zs_istore (pc := 96) C dX9_wordAt_96 (by decide) ?_
                          dsimp only [zset, zclr, znone]
                          first | refine zs_iinc (pc := 98) C dX9_wordAt_98 rfl (by decide) (by omega) ?_ | refine zs_iincF (pc := 98) C dX9_wordAt_98 rfl (by decide) (fun z98 hz981 hz982 => ?_)
                          dsimp only [zset, zclr, znone]
                          refine zs_goto (tgt := 57) (pc := 101) C dX9_wordAt_101 (by decide) ?_
                          exact zs_wk (ih57 _ _ (by first | omega | (simp only [zuI_1, zuI_2, zuJ_1, zuJ_2, zuJ_3, zuP_1, zuP_2, zuP_3, zuC_1, zuC_2, reduceIte, Nat.reduceEqDiff, false_and, and_false, true_and, and_true, and_self, or_true, true_or, or_false, false_or]; omega)) (by first | omega | (simp only [zuI_1, zuI_2, zuJ_1, zuJ_2, zuJ_3, zuP_1, zuP_2, zuP_3, zuC_1, zuC_2, reduceIte, Nat.reduceEqDiff, false_and, and_false, true_and, and_true, and_self, or_true, true_or, or_false, false_or]; omega)) (by first | omega | (simp only [zuI_1, zuI_2, zuJ_1, zuJ_2, zuJ_3, zuP_1, zuP_2, zuP_3, zuC_1, zuC_2, reduceIte, Nat.reduceEqDiff, false_and, and_false, true_and, and_true, and_self, or_true, true_or, or_false, false_or]; omega))) (zwk_s rfl (zwk_s rfl (zwk_s rfl (zwk_s rfl (zwk_s rfl (zwk_s rfl (zwk_s rfl (zwk_s rfl zwk_0))))))))
                exact zs_wk (L57 _ _ _ (by first | omega | (simp only [zuI_1, zuI_2, zuJ_1, zuJ_2, zuJ_3, zuP_1, zuP_2, zuP_3, zuC_1, zuC_2, reduceIte, Nat.reduceEqDiff, false_and, and_false, true_and, and_true, and_self, or_true, true_or, or_false, false_or]; omega)) (by first | omega | (simp only [zuI_1, zuI_2, zuJ_1, zuJ_2, zuJ_3, zuP_1, zuP_2, zuP_3, zuC_1, zuC_2, reduceIte, Nat.reduceEqDiff, false_and, and_false, true_and, and_true, and_self, or_true, true_or, or_false, false_or]; omega)) (Nat.lt_succ_self _)) (zwk_s rfl (zwk_s rfl (zwk_s rfl (zwk_s rfl (zwk_s rfl (zwk_s rfl (zwk_s rfl (zwk_s rfl zwk_0))))))))
            · skip
              first | refine zs_iinc (pc := 33) C dX9_wordAt_33 rfl (by decide) (by omega) ?_ | refine zs_iincF (pc := 33) C dX9_wordAt_33 rfl (by decide) (fun z33 hz331 hz332 => ?_)
              dsimp only [zset, zclr, znone]
              refine zs_goto (tgt := 18) (pc := 36) C dX9_wordAt_36 (by decide) ?_
              exact zs_wk (ih18 _ (by omega) (by rw [show x4 + (x5 + 1) = x4 + x5 + 1 by omega]; exact hws.1 (by omega)) (by first | omega | (simp only [zuI_1, zuI_2, zuJ_1, zuJ_2, zuJ_3, zuP_1, zuP_2, zuP_3, zuC_1, zuC_2, reduceIte, Nat.reduceEqDiff, false_and, and_false, true_and, and_true, and_self, or_true, true_or, or_false, false_or]; omega))) (zwk_s rfl (zwk_s rfl (zwk_s rfl (zwk_s rfl (zwk_s rfl (zwk_s rfl (zwk_n (zwk_n zwk_0))))))))
        exact zs_wk (L18 _ _ (by omega) (by rw [show x4 + 0 = x4 by omega]; exact h5_1) (Nat.lt_succ_self _)) (zwk_s rfl (zwk_s rfl (zwk_s rfl (zwk_s rfl (zwk_s rfl (zwk_s rfl (zwk_n (zwk_n zwk_0))))))))
  exact zs_wk (L5 _ _ _ (by omega) rfl (Nat.lt_succ_self _)) (zwk_s rfl (zwk_s rfl (zwk_s rfl (zwk_s rfl (zwk_s rfl (zwk_n (zwk_n (zwk_n zwk_0))))))))

set_option maxHeartbeats 4000000 in
set_option maxRecDepth 100000 in
theorem c_X9_signToken {l : Launch} {Γ : zΓ} {G : zH} {w : Nat}  (hX : zXs Γ) (hn : G.1 1007 w 0 < G.1 1006 w 0) (ha : G.1 1010 w 0 = G.1 1007 w 0) : zMet l Γ yX9_signToken cX9_signToken 4 none 0 [zr 10 w] G (zpv (fun G' => zsm [1007, 1008, 1009] G G' ∧ (G'.1 1007 w 0 ≤ G'.1 1006 w 0 ∧ G'.1 1010 w 0 < G'.1 1007 w 0 ∧ ((G'.1 1008 w 0 = 5 → 0 ≤ G'.1 1009 w 0 ∧ G'.1 1009 w 0 ≤ 5) ∧ (G'.1 1008 w 0 = 1 → 0 ≤ G'.1 1009 w 0 ∧ G'.1 1009 w 0 ≤ 23) ∧ (G'.1 1008 w 0 = 3 → 0 ≤ G'.1 1009 w 0))))) := by
  refine zMet_of RX9 hX (by decide) rfl (Nat.le_of_ble_eq_true rfl) ?_
  intro p e s m args below meth c C hr hlk
  show Z p l e (zrm 0) s m args below meth c Γ 4 0 0 (MQ below (zQc Γ (zpv (fun G' => zsm [1007, 1008, 1009] G G' ∧ (G'.1 1007 w 0 ≤ G'.1 1006 w 0 ∧ G'.1 1010 w 0 < G'.1 1007 w 0 ∧ ((G'.1 1008 w 0 = 5 → 0 ≤ G'.1 1009 w 0 ∧ G'.1 1009 w 0 ≤ 5) ∧ (G'.1 1008 w 0 = 1 → 0 ≤ G'.1 1009 w 0 ∧ G'.1 1009 w 0 ≤ 23) ∧ (G'.1 1008 w 0 = 3 → 0 ≤ G'.1 1009 w 0)))))) args s 0 0 (zA Γ)) 0 [some (zr 10 w), none, none, none] [] G
  refine zs_good (fun hGds0 => ?_)
  have hbs0 := hGds0.1 1006 w 0
  rw [r_1006] at hbs0
  refine zs_aload_n (pc := 0) C dX9_signToken_0 rfl ?_
  refine zs_aload_n (pc := 1) C dX9_signToken_1 rfl ?_
  refine zs_getf (pc := 2) C dX9_signToken_2 w_X9_7 f_10_0 (by decide) ?_
  refine zs_aload_n (pc := 5) C dX9_signToken_5 rfl ?_
  refine zs_geti (r := 1007) (pc := 6) C dX9_signToken_6 w_X9_193 f_10_7 rfl (r_1007 0) (fun v6 e6 l6 u6 => ?_)
  refine zs_iald (r := 2057) (pc := 9) C dX9_signToken_9 a_57 (by decide) (by omega) rfl (r_2057 _) (fun v9 e9 l9 u9 => ?_)
  refine zs_puti (r := 1009) (pc := 10) C dX9_signToken_10 w_X9_207 f_10_9 rfl (r_1009 0) (by omega) ?_
  refine zs_aload_n (pc := 13) C dX9_signToken_13 rfl ?_
  refine zs_dupa (pc := 14) C dX9_signToken_14 ?_
  refine zs_geti (r := 1007) (pc := 15) C dX9_signToken_15 w_X9_193 f_10_7 rfl (r_1007 0) (fun v15 e15 l15 u15 => ?_)
  try simp only [zuI_1, zuI_2, zuJ_1, zuJ_2, zuJ_3, zuP_1, zuP_2, zuP_3, zuC_1, zuC_2, reduceIte, Nat.reduceEqDiff, false_and, and_false, true_and, and_true, and_self, or_true, true_or, or_false, false_or] at e15
  refine zs_iconst (pc := 18) C dX9_signToken_18 (by decide) ?_
  first | refine zs_iadd (pc := 19) C dX9_signToken_19 (by omega) ?_ | refine zs_iaddF (pc := 19) C dX9_signToken_19 (fun z19 hz191 hz192 => ?_)
  refine zs_puti (r := 1007) (pc := 20) C dX9_signToken_20 w_X9_193 f_10_7 rfl (r_1007 0) (by omega) ?_
  refine zs_heap (P := fun G1 => zsm [1009, 1007] G G1 ∧ G1.1 1007 w 0 = G.1 1007 w 0 + 1 ∧ G1.1 1010 w 0 = G.1 1010 w 0 ∧ G1.1 1006 w 0 = G.1 1006 w 0) ⟨(by repeat (first | exact zsm_rf | assumption | refine zsm_C (by decide) ?_ | refine zsm_I (by decide) ?_ | refine zsm_J ?_ | refine zsm_c (by assumption) (by decide) ?_)), by simp only [zuI_1, zuI_2, zuJ_1, zuJ_2, zuJ_3, zuP_1, zuP_2, zuP_3, zuC_1, zuC_2, reduceIte, Nat.reduceEqDiff, false_and, and_false, true_and, and_true, and_self, or_true, true_or, or_false, false_or]; omega, by simp only [zuI_1, zuI_2, zuJ_1, zuJ_2, zuJ_3, zuP_1, zuP_2, zuP_3, zuC_1, zuC_2, reduceIte, Nat.reduceEqDiff, false_and, and_false, true_and, and_true, and_self, or_true, true_or, or_false, false_or], by simp only [zuI_1, zuI_2, zuJ_1, zuJ_2, zuJ_3, zuP_1, zuP_2, zuP_3, zuC_1, zuC_2, reduceIte, Nat.reduceEqDiff, false_and, and_false, true_and, and_true, and_self, or_true, true_or, or_false, false_or]⟩ (fun G1 hG1 => ?_)
  obtain ⟨hh1, hh2, hh3, hh4⟩ := hG1
  refine zs_good (fun hGds1 => ?_)
  have hbs1 := hGds1.1 1006 w 0
  rw [r_1006] at hbs1
  refine zs_aload_n (pc := 23) C dX9_signToken_23 rfl ?_
  have J50 : ∀ (G0 : zH), (G0 = G1) → Z p l e (zrm 0) s m args below meth c Γ 4 0 0 (MQ below (zQc Γ (zpv (fun G' => zsm [1007, 1008, 1009] G G' ∧ (G'.1 1007 w 0 ≤ G'.1 1006 w 0 ∧ G'.1 1010 w 0 < G'.1 1007 w 0 ∧ ((G'.1 1008 w 0 = 5 → 0 ≤ G'.1 1009 w 0 ∧ G'.1 1009 w 0 ≤ 5) ∧ (G'.1 1008 w 0 = 1 → 0 ≤ G'.1 1009 w 0 ∧ G'.1 1009 w 0 ≤ 23) ∧ (G'.1 1008 w 0 = 3 → 0 ≤ G'.1 1009 w 0)))))) args s 0 0 (zA Γ)) 50 [some (zr 10 w), none, none, none] [] G0 := by
    intro G0 h50_0
    rw [h50_0]
    refine zs_aload_n (pc := 50) C dX9_signToken_50 rfl ?_
    have J75 : ∀ (x1 : Int), (x1 = 0 ∨ G1.1 1007 w 0 < G1.1 1006 w 0) → Z p l e (zrm 0) s m args below meth c Γ 4 0 0 (MQ below (zQc Γ (zpv (fun G' => zsm [1007, 1008, 1009] G G' ∧ (G'.1 1007 w 0 ≤ G'.1 1006 w 0 ∧ G'.1 1010 w 0 < G'.1 1007 w 0 ∧ ((G'.1 1008 w 0 = 5 → 0 ≤ G'.1 1009 w 0 ∧ G'.1 1009 w 0 ≤ 5) ∧ (G'.1 1008 w 0 = 1 → 0 ≤ G'.1 1009 w 0 ∧ G'.1 1009 w 0 ≤ 23) ∧ (G'.1 1008 w 0 = 3 → 0 ≤ G'.1 1009 w 0)))))) args s 0 0 (zA Γ)) 75 [some (zr 10 w), some (zi x1), none, none] [] G1 := by
      intro x1 h75_0
      refine zs_aload_n (pc := 75) C dX9_signToken_75 rfl ?_
      have J96 : ∀ (x2 : Int), (x2 = 0 ∨ G1.1 1007 w 0 < G1.1 1006 w 0) → Z p l e (zrm 0) s m args below meth c Γ 4 0 0 (MQ below (zQc Γ (zpv (fun G' => zsm [1007, 1008, 1009] G G' ∧ (G'.1 1007 w 0 ≤ G'.1 1006 w 0 ∧ G'.1 1010 w 0 < G'.1 1007 w 0 ∧ ((G'.1 1008 w 0 = 5 → 0 ≤ G'.1 1009 w 0 ∧ G'.1 1009 w 0 ≤ 5) ∧ (G'.1 1008 w 0 = 1 → 0 ≤ G'.1 1009 w 0 ∧ G'.1 1009 w 0 ≤ 23) ∧ (G'.1 1008 w 0 = 3 → 0 ≤ G'.1 1009 w 0)))))) args s 0 0 (zA Γ)) 96 [some (zr 10 w), some (zi x1), some (zi x2), none] [] G1 := by
        intro x2 h96_0
        refine zs_aload_n (pc := 96) C dX9_signToken_96 rfl ?_
        have J117 : ∀ (x3 : Int), (x3 = 0 ∨ G1.1 1007 w 0 < G1.1 1006 w 0) → Z p l e (zrm 0) s m args below meth c Γ 4 0 0 (MQ below (zQc Γ (zpv (fun G' => zsm [1007, 1008, 1009] G G' ∧ (G'.1 1007 w 0 ≤ G'.1 1006 w 0 ∧ G'.1 1010 w 0 < G'.1 1007 w 0 ∧ ((G'.1 1008 w 0 = 5 → 0 ≤ G'.1 1009 w 0 ∧ G'.1 1009 w 0 ≤ 5) ∧ (G'.1 1008 w 0 = 1 → 0 ≤ G'.1 1009 w 0 ∧ G'.1 1009 w 0 ≤ 23) ∧ (G'.1 1008 w 0 = 3 → 0 ≤ G'.1 1009 w 0)))))) args s 0 0 (zA Γ)) 117 [some (zr 10 w), some (zi x1), some (zi x2), some (zi x3)] [] G1 := by
          intro x3 h117_0
          refine zs_iload_n (pc := 117) C dX9_signToken_117 rfl ?_
          have J135 : ∀ (G2 : zH), (zsm [1007, 1009] G G2) → (G2.1 1007 w 0 ≤ G2.1 1006 w 0 ∧ G2.1 1010 w 0 < G2.1 1007 w 0) → Z p l e (zrm 0) s m args below meth c Γ 4 0 0 (MQ below (zQc Γ (zpv (fun G' => zsm [1007, 1008, 1009] G G' ∧ (G'.1 1007 w 0 ≤ G'.1 1006 w 0 ∧ G'.1 1010 w 0 < G'.1 1007 w 0 ∧ ((G'.1 1008 w 0 = 5 → 0 ≤ G'.1 1009 w 0 ∧ G'.1 1009 w 0 ≤ 5) ∧ (G'.1 1008 w 0 = 1 → 0 ≤ G'.1 1009 w 0 ∧ G'.1 1009 w 0 ≤ 23) ∧ (G'.1 1008 w 0 = 3 → 0 ≤ G'.1 1009 w 0)))))) args s 0 0 (zA Γ)) 135 [some (zr 10 w), some (zi x1), some (zi x2), some (zi x3)] [] G2 := by
            intro G2 h135_0 h135_1
            refine zs_good (fun hGds2 => ?_)
            have hbs2 := hGds2.1 1006 w 0
            rw [r_1006] at hbs2
            refine zs_aload_n (pc := 135) C dX9_signToken_135 rfl ?_
            refine zs_iconst (pc := 136) C dX9_signToken_136 (by decide) ?_
            refine zs_puti (r := 1008) (pc := 137) C dX9_signToken_137 w_X9_196 f_10_8 rfl (r_1008 0) (by omega) ?_
            refine zs_aload_n (pc := 140) C dX9_signToken_140 rfl ?_
            refine zs_aload_n (pc := 141) C dX9_signToken_141 rfl ?_
            refine zs_geti (r := 1009) (pc := 142) C dX9_signToken_142 w_X9_207 f_10_9 rfl (r_1009 0) (fun v142 e142 l142 u142 => ?_)
            try simp only [zuI_1, zuI_2, zuJ_1, zuJ_2, zuJ_3, zuP_1, zuP_2, zuP_3, zuC_1, zuC_2, reduceIte, Nat.reduceEqDiff, false_and, and_false, true_and, and_true, and_self, or_true, true_or, or_false, false_or] at e142
            refine zs_bipush (pc := 145) C dX9_signToken_145 (by decide) (by decide) ?_
            refine zs_icmp_ne (tgt := 154) (pc := 147) C dX9_signToken_147 (by decide) (fun h147 => ?_) (fun h147 => ?_)
            · skip
              refine zs_aload_n (pc := 154) C dX9_signToken_154 rfl ?_
              refine zs_geti (r := 1009) (pc := 155) C dX9_signToken_155 w_X9_207 f_10_9 rfl (r_1009 0) (fun v155 e155 l155 u155 => ?_)
              try simp only [zuI_1, zuI_2, zuJ_1, zuJ_2, zuJ_3, zuP_1, zuP_2, zuP_3, zuC_1, zuC_2, reduceIte, Nat.reduceEqDiff, false_and, and_false, true_and, and_true, and_self, or_true, true_or, or_false, false_or] at e155
              refine zs_bipush (pc := 158) C dX9_signToken_158 (by decide) (by decide) ?_
              refine zs_icmp_ne (tgt := 183) (pc := 160) C dX9_signToken_160 (by decide) (fun h160 => ?_) (fun h160 => ?_)
              · skip
                refine zs_iload_n (pc := 183) C dX9_signToken_183 rfl ?_
                refine zs_if_eq (tgt := 191) (pc := 184) C dX9_signToken_184 (by decide) (fun h184 => ?_) (fun h184 => ?_)
                · skip
                  refine zs_iconst (pc := 191) C dX9_signToken_191 (by decide) ?_
                  refine zs_puti (r := 1009) (pc := 192) C dX9_signToken_192 w_X9_207 f_10_9 rfl (r_1009 0) (by omega) ?_
                  refine zs_goto (tgt := 290) (pc := 195) C dX9_signToken_195 (by decide) ?_
                  exact zs_vret (pc := 290) C hr hlk dX9_signToken_290 ⟨by repeat (first | exact zsm_rf | assumption | refine zsm_C (by decide) ?_ | refine zsm_I (by decide) ?_ | refine zsm_J ?_ | refine zsm_c (by assumption) (by decide) ?_), ⟨(by first | omega | (simp only [zuI_1, zuI_2, zuJ_1, zuJ_2, zuJ_3, zuP_1, zuP_2, zuP_3, zuC_1, zuC_2, reduceIte, Nat.reduceEqDiff, false_and, and_false, true_and, and_true, and_self, or_true, true_or, or_false, false_or] <;> omega)), (by first | omega | (simp only [zuI_1, zuI_2, zuJ_1, zuJ_2, zuJ_3, zuP_1, zuP_2, zuP_3, zuC_1, zuC_2, reduceIte, Nat.reduceEqDiff, false_and, and_false, true_and, and_true, and_self, or_true, true_or, or_false, false_or] <;> omega)), fun q => ⟨(by first | (exfalso; simp only [zuI_1, zuI_2, zuJ_1, zuJ_2, zuJ_3, zuP_1, zuP_2, zuP_3, zuC_1, zuC_2, reduceIte, Nat.reduceEqDiff, false_and, and_false, true_and, and_true, and_self, or_true, true_or, or_false, false_or] at q; omega) | omega | (simp only [zuI_1, zuI_2, zuJ_1, zuJ_2, zuJ_3, zuP_1, zuP_2, zuP_3, zuC_1, zuC_2, reduceIte, Nat.reduceEqDiff, false_and, and_false, true_and, and_true, and_self, or_true, true_or, or_false, false_or] <;> omega)), (by first | (exfalso; simp only [zuI_1, zuI_2, zuJ_1, zuJ_2, zuJ_3, zuP_1, zuP_2, zuP_3, zuC_1, zuC_2, reduceIte, Nat.reduceEqDiff, false_and, and_false, true_and, and_true, and_self, or_true, true_or, or_false, false_or] at q; omega) | omega | (simp only [zuI_1, zuI_2, zuJ_1, zuJ_2, zuJ_3, zuP_1, zuP_2, zuP_3, zuC_1, zuC_2, reduceIte, Nat.reduceEqDiff, false_and, and_false, true_and, and_true, and_self, or_true, true_or, or_false, false_or] <;> omega))⟩, fun q => ⟨(by first | (exfalso; simp only [zuI_1, zuI_2, zuJ_1, zuJ_2, zuJ_3, zuP_1, zuP_2, zuP_3, zuC_1, zuC_2, reduceIte, Nat.reduceEqDiff, false_and, and_false, true_and, and_true, and_self, or_true, true_or, or_false, false_or] at q; omega) | omega | (simp only [zuI_1, zuI_2, zuJ_1, zuJ_2, zuJ_3, zuP_1, zuP_2, zuP_3, zuC_1, zuC_2, reduceIte, Nat.reduceEqDiff, false_and, and_false, true_and, and_true, and_self, or_true, true_or, or_false, false_or] <;> omega)), (by first | (exfalso; simp only [zuI_1, zuI_2, zuJ_1, zuJ_2, zuJ_3, zuP_1, zuP_2, zuP_3, zuC_1, zuC_2, reduceIte, Nat.reduceEqDiff, false_and, and_false, true_and, and_true, and_self, or_true, true_or, or_false, false_or] at q; omega) | omega | (simp only [zuI_1, zuI_2, zuJ_1, zuJ_2, zuJ_3, zuP_1, zuP_2, zuP_3, zuC_1, zuC_2, reduceIte, Nat.reduceEqDiff, false_and, and_false, true_and, and_true, and_self, or_true, true_or, or_false, false_or] <;> omega))⟩, fun q => (by first | (exfalso; simp only [zuI_1, zuI_2, zuJ_1, zuJ_2, zuJ_3, zuP_1, zuP_2, zuP_3, zuC_1, zuC_2, reduceIte, Nat.reduceEqDiff, false_and, and_false, true_and, and_true, and_self, or_true, true_or, or_false, false_or] at q; omega) | omega | (simp only [zuI_1, zuI_2, zuJ_1, zuJ_2, zuJ_3, zuP_1, zuP_2, zuP_3, zuC_1, zuC_2, reduceIte, Nat.reduceEqDiff, false_and, and_false, true_and, and_true, and_self, or_true, true_or, or_false, false_or] <;> omega))⟩⟩
                · skip
                  refine zs_iconst (pc := 187) C dX9_signToken_187 (by decide) ?_
                  refine zs_goto (tgt := 192) (pc := 188) C dX9_signToken_188 (by decide) ?_
                  refine zs_puti (r := 1009) (pc := 192) C dX9_signToken_192 w_X9_207 f_10_9 rfl (r_1009 0) (by omega) ?_
                  refine zs_goto (tgt := 290) (pc := 195) C dX9_signToken_195 (by decide) ?_
                  exact zs_vret (pc := 290) C hr hlk dX9_signToken_290 ⟨by repeat (first | exact zsm_rf | assumption | refine zsm_C (by decide) ?_ | refine zsm_I (by decide) ?_ | refine zsm_J ?_ | refine zsm_c (by assumption) (by decide) ?_), ⟨(by first | omega | (simp only [zuI_1, zuI_2, zuJ_1, zuJ_2, zuJ_3, zuP_1, zuP_2, zuP_3, zuC_1, zuC_2, reduceIte, Nat.reduceEqDiff, false_and, and_false, true_and, and_true, and_self, or_true, true_or, or_false, false_or] <;> omega)), (by first | omega | (simp only [zuI_1, zuI_2, zuJ_1, zuJ_2, zuJ_3, zuP_1, zuP_2, zuP_3, zuC_1, zuC_2, reduceIte, Nat.reduceEqDiff, false_and, and_false, true_and, and_true, and_self, or_true, true_or, or_false, false_or] <;> omega)), fun q => ⟨(by first | (exfalso; simp only [zuI_1, zuI_2, zuJ_1, zuJ_2, zuJ_3, zuP_1, zuP_2, zuP_3, zuC_1, zuC_2, reduceIte, Nat.reduceEqDiff, false_and, and_false, true_and, and_true, and_self, or_true, true_or, or_false, false_or] at q; omega) | omega | (simp only [zuI_1, zuI_2, zuJ_1, zuJ_2, zuJ_3, zuP_1, zuP_2, zuP_3, zuC_1, zuC_2, reduceIte, Nat.reduceEqDiff, false_and, and_false, true_and, and_true, and_self, or_true, true_or, or_false, false_or] <;> omega)), (by first | (exfalso; simp only [zuI_1, zuI_2, zuJ_1, zuJ_2, zuJ_3, zuP_1, zuP_2, zuP_3, zuC_1, zuC_2, reduceIte, Nat.reduceEqDiff, false_and, and_false, true_and, and_true, and_self, or_true, true_or, or_false, false_or] at q; omega) | omega | (simp only [zuI_1, zuI_2, zuJ_1, zuJ_2, zuJ_3, zuP_1, zuP_2, zuP_3, zuC_1, zuC_2, reduceIte, Nat.reduceEqDiff, false_and, and_false, true_and, and_true, and_self, or_true, true_or, or_false, false_or] <;> omega))⟩, fun q => ⟨(by first | (exfalso; simp only [zuI_1, zuI_2, zuJ_1, zuJ_2, zuJ_3, zuP_1, zuP_2, zuP_3, zuC_1, zuC_2, reduceIte, Nat.reduceEqDiff, false_and, and_false, true_and, and_true, and_self, or_true, true_or, or_false, false_or] at q; omega) | omega | (simp only [zuI_1, zuI_2, zuJ_1, zuJ_2, zuJ_3, zuP_1, zuP_2, zuP_3, zuC_1, zuC_2, reduceIte, Nat.reduceEqDiff, false_and, and_false, true_and, and_true, and_self, or_true, true_or, or_false, false_or] <;> omega)), (by first | (exfalso; simp only [zuI_1, zuI_2, zuJ_1, zuJ_2, zuJ_3, zuP_1, zuP_2, zuP_3, zuC_1, zuC_2, reduceIte, Nat.reduceEqDiff, false_and, and_false, true_and, and_true, and_self, or_true, true_or, or_false, false_or] at q; omega) | omega | (simp only [zuI_1, zuI_2, zuJ_1, zuJ_2, zuJ_3, zuP_1, zuP_2, zuP_3, zuC_1, zuC_2, reduceIte, Nat.reduceEqDiff, false_and, and_false, true_and, and_true, and_self, or_true, true_or, or_false, false_or] <;> omega))⟩, fun q => (by first | (exfalso; simp only [zuI_1, zuI_2, zuJ_1, zuJ_2, zuJ_3, zuP_1, zuP_2, zuP_3, zuC_1, zuC_2, reduceIte, Nat.reduceEqDiff, false_and, and_false, true_and, and_true, and_self, or_true, true_or, or_false, false_or] at q; omega) | omega | (simp only [zuI_1, zuI_2, zuJ_1, zuJ_2, zuJ_3, zuP_1, zuP_2, zuP_3, zuC_1, zuC_2, reduceIte, Nat.reduceEqDiff, false_and, and_false, true_and, and_true, and_self, or_true, true_or, or_false, false_or] <;> omega))⟩⟩
              · skip
                refine zs_iload_n (pc := 163) C dX9_signToken_163 rfl ?_
                refine zs_if_eq (tgt := 171) (pc := 164) C dX9_signToken_164 (by decide) (fun h164 => ?_) (fun h164 => ?_)
                · skip
                  refine zs_iload_n (pc := 171) C dX9_signToken_171 rfl ?_
                  refine zs_if_eq (tgt := 179) (pc := 172) C dX9_signToken_172 (by decide) (fun h172 => ?_) (fun h172 => ?_)
                  · skip
                    refine zs_iconst (pc := 179) C dX9_signToken_179 (by decide) ?_
                    refine zs_goto (tgt := 192) (pc := 180) C dX9_signToken_180 (by decide) ?_
                    refine zs_puti (r := 1009) (pc := 192) C dX9_signToken_192 w_X9_207 f_10_9 rfl (r_1009 0) (by omega) ?_
                    refine zs_goto (tgt := 290) (pc := 195) C dX9_signToken_195 (by decide) ?_
                    exact zs_vret (pc := 290) C hr hlk dX9_signToken_290 ⟨by repeat (first | exact zsm_rf | assumption | refine zsm_C (by decide) ?_ | refine zsm_I (by decide) ?_ | refine zsm_J ?_ | refine zsm_c (by assumption) (by decide) ?_), ⟨(by first | omega | (simp only [zuI_1, zuI_2, zuJ_1, zuJ_2, zuJ_3, zuP_1, zuP_2, zuP_3, zuC_1, zuC_2, reduceIte, Nat.reduceEqDiff, false_and, and_false, true_and, and_true, and_self, or_true, true_or, or_false, false_or] <;> omega)), (by first | omega | (simp only [zuI_1, zuI_2, zuJ_1, zuJ_2, zuJ_3, zuP_1, zuP_2, zuP_3, zuC_1, zuC_2, reduceIte, Nat.reduceEqDiff, false_and, and_false, true_and, and_true, and_self, or_true, true_or, or_false, false_or] <;> omega)), fun q => ⟨(by first | (exfalso; simp only [zuI_1, zuI_2, zuJ_1, zuJ_2, zuJ_3, zuP_1, zuP_2, zuP_3, zuC_1, zuC_2, reduceIte, Nat.reduceEqDiff, false_and, and_false, true_and, and_true, and_self, or_true, true_or, or_false, false_or] at q; omega) | omega | (simp only [zuI_1, zuI_2, zuJ_1, zuJ_2, zuJ_3, zuP_1, zuP_2, zuP_3, zuC_1, zuC_2, reduceIte, Nat.reduceEqDiff, false_and, and_false, true_and, and_true, and_self, or_true, true_or, or_false, false_or] <;> omega)), (by first | (exfalso; simp only [zuI_1, zuI_2, zuJ_1, zuJ_2, zuJ_3, zuP_1, zuP_2, zuP_3, zuC_1, zuC_2, reduceIte, Nat.reduceEqDiff, false_and, and_false, true_and, and_true, and_self, or_true, true_or, or_false, false_or] at q; omega) | omega | (simp only [zuI_1, zuI_2, zuJ_1, zuJ_2, zuJ_3, zuP_1, zuP_2, zuP_3, zuC_1, zuC_2, reduceIte, Nat.reduceEqDiff, false_and, and_false, true_and, and_true, and_self, or_true, true_or, or_false, false_or] <;> omega))⟩, fun q => ⟨(by first | (exfalso; simp only [zuI_1, zuI_2, zuJ_1, zuJ_2, zuJ_3, zuP_1, zuP_2, zuP_3, zuC_1, zuC_2, reduceIte, Nat.reduceEqDiff, false_and, and_false, true_and, and_true, and_self, or_true, true_or, or_false, false_or] at q; omega) | omega | (simp only [zuI_1, zuI_2, zuJ_1, zuJ_2, zuJ_3, zuP_1, zuP_2, zuP_3, zuC_1, zuC_2, reduceIte, Nat.reduceEqDiff, false_and, and_false, true_and, and_true, and_self, or_true, true_or, or_false, false_or] <;> omega)), (by first | (exfalso; simp only [zuI_1, zuI_2, zuJ_1, zuJ_2, zuJ_3, zuP_1, zuP_2, zuP_3, zuC_1, zuC_2, reduceIte, Nat.reduceEqDiff, false_and, and_false, true_and, and_true, and_self, or_true, true_or, or_false, false_or] at q; omega) | omega | (simp only [zuI_1, zuI_2, zuJ_1, zuJ_2, zuJ_3, zuP_1, zuP_2, zuP_3, zuC_1, zuC_2, reduceIte, Nat.reduceEqDiff, false_and, and_false, true_and, and_true, and_self, or_true, true_or, or_false, false_or] <;> omega))⟩, fun q => (by first | (exfalso; simp only [zuI_1, zuI_2, zuJ_1, zuJ_2, zuJ_3, zuP_1, zuP_2, zuP_3, zuC_1, zuC_2, reduceIte, Nat.reduceEqDiff, false_and, and_false, true_and, and_true, and_self, or_true, true_or, or_false, false_or] at q; omega) | omega | (simp only [zuI_1, zuI_2, zuJ_1, zuJ_2, zuJ_3, zuP_1, zuP_2, zuP_3, zuC_1, zuC_2, reduceIte, Nat.reduceEqDiff, false_and, and_false, true_and, and_true, and_self, or_true, true_or, or_false, false_or] <;> omega))⟩⟩
                  · skip
                    refine zs_iconst (pc := 175) C dX9_signToken_175 (by decide) ?_
                    refine zs_goto (tgt := 192) (pc := 176) C dX9_signToken_176 (by decide) ?_
                    refine zs_puti (r := 1009) (pc := 192) C dX9_signToken_192 w_X9_207 f_10_9 rfl (r_1009 0) (by omega) ?_
                    refine zs_goto (tgt := 290) (pc := 195) C dX9_signToken_195 (by decide) ?_
                    exact zs_vret (pc := 290) C hr hlk dX9_signToken_290 ⟨by repeat (first | exact zsm_rf | assumption | refine zsm_C (by decide) ?_ | refine zsm_I (by decide) ?_ | refine zsm_J ?_ | refine zsm_c (by assumption) (by decide) ?_), ⟨(by first | omega | (simp only [zuI_1, zuI_2, zuJ_1, zuJ_2, zuJ_3, zuP_1, zuP_2, zuP_3, zuC_1, zuC_2, reduceIte, Nat.reduceEqDiff, false_and, and_false, true_and, and_true, and_self, or_true, true_or, or_false, false_or] <;> omega)), (by first | omega | (simp only [zuI_1, zuI_2, zuJ_1, zuJ_2, zuJ_3, zuP_1, zuP_2, zuP_3, zuC_1, zuC_2, reduceIte, Nat.reduceEqDiff, false_and, and_false, true_and, and_true, and_self, or_true, true_or, or_false, false_or] <;> omega)), fun q => ⟨(by first | (exfalso; simp only [zuI_1, zuI_2, zuJ_1, zuJ_2, zuJ_3, zuP_1, zuP_2, zuP_3, zuC_1, zuC_2, reduceIte, Nat.reduceEqDiff, false_and, and_false, true_and, and_true, and_self, or_true, true_or, or_false, false_or] at q; omega) | omega | (simp only [zuI_1, zuI_2, zuJ_1, zuJ_2, zuJ_3, zuP_1, zuP_2, zuP_3, zuC_1, zuC_2, reduceIte, Nat.reduceEqDiff, false_and, and_false, true_and, and_true, and_self, or_true, true_or, or_false, false_or] <;> omega)), (by first | (exfalso; simp only [zuI_1, zuI_2, zuJ_1, zuJ_2, zuJ_3, zuP_1, zuP_2, zuP_3, zuC_1, zuC_2, reduceIte, Nat.reduceEqDiff, false_and, and_false, true_and, and_true, and_self, or_true, true_or, or_false, false_or] at q; omega) | omega | (simp only [zuI_1, zuI_2, zuJ_1, zuJ_2, zuJ_3, zuP_1, zuP_2, zuP_3, zuC_1, zuC_2, reduceIte, Nat.reduceEqDiff, false_and, and_false, true_and, and_true, and_self, or_true, true_or, or_false, false_or] <;> omega))⟩, fun q => ⟨(by first | (exfalso; simp only [zuI_1, zuI_2, zuJ_1, zuJ_2, zuJ_3, zuP_1, zuP_2, zuP_3, zuC_1, zuC_2, reduceIte, Nat.reduceEqDiff, false_and, and_false, true_and, and_true, and_self, or_true, true_or, or_false, false_or] at q; omega) | omega | (simp only [zuI_1, zuI_2, zuJ_1, zuJ_2, zuJ_3, zuP_1, zuP_2, zuP_3, zuC_1, zuC_2, reduceIte, Nat.reduceEqDiff, false_and, and_false, true_and, and_true, and_self, or_true, true_or, or_false, false_or] <;> omega)), (by first | (exfalso; simp only [zuI_1, zuI_2, zuJ_1, zuJ_2, zuJ_3, zuP_1, zuP_2, zuP_3, zuC_1, zuC_2, reduceIte, Nat.reduceEqDiff, false_and, and_false, true_and, and_true, and_self, or_true, true_or, or_false, false_or] at q; omega) | omega | (simp only [zuI_1, zuI_2, zuJ_1, zuJ_2, zuJ_3, zuP_1, zuP_2, zuP_3, zuC_1, zuC_2, reduceIte, Nat.reduceEqDiff, false_and, and_false, true_and, and_true, and_self, or_true, true_or, or_false, false_or] <;> omega))⟩, fun q => (by first | (exfalso; simp only [zuI_1, zuI_2, zuJ_1, zuJ_2, zuJ_3, zuP_1, zuP_2, zuP_3, zuC_1, zuC_2, reduceIte, Nat.reduceEqDiff, false_and, and_false, true_and, and_true, and_self, or_true, true_or, or_false, false_or] at q; omega) | omega | (simp only [zuI_1, zuI_2, zuJ_1, zuJ_2, zuJ_3, zuP_1, zuP_2, zuP_3, zuC_1, zuC_2, reduceIte, Nat.reduceEqDiff, false_and, and_false, true_and, and_true, and_self, or_true, true_or, or_false, false_or] <;> omega))⟩⟩
                · skip
                  refine zs_iconst (pc := 167) C dX9_signToken_167 (by decide) ?_
                  refine zs_goto (tgt := 192) (pc := 168) C dX9_signToken_168 (by decide) ?_
                  refine zs_puti (r := 1009) (pc := 192) C dX9_signToken_192 w_X9_207 f_10_9 rfl (r_1009 0) (by omega) ?_
                  refine zs_goto (tgt := 290) (pc := 195) C dX9_signToken_195 (by decide) ?_
                  exact zs_vret (pc := 290) C hr hlk dX9_signToken_290 ⟨by repeat (first | exact zsm_rf | assumption | refine zsm_C (by decide) ?_ | refine zsm_I (by decide) ?_ | refine zsm_J ?_ | refine zsm_c (by assumption) (by decide) ?_), ⟨(by first | omega | (simp only [zuI_1, zuI_2, zuJ_1, zuJ_2, zuJ_3, zuP_1, zuP_2, zuP_3, zuC_1, zuC_2, reduceIte, Nat.reduceEqDiff, false_and, and_false, true_and, and_true, and_self, or_true, true_or, or_false, false_or] <;> omega)), (by first | omega | (simp only [zuI_1, zuI_2, zuJ_1, zuJ_2, zuJ_3, zuP_1, zuP_2, zuP_3, zuC_1, zuC_2, reduceIte, Nat.reduceEqDiff, false_and, and_false, true_and, and_true, and_self, or_true, true_or, or_false, false_or] <;> omega)), fun q => ⟨(by first | (exfalso; simp only [zuI_1, zuI_2, zuJ_1, zuJ_2, zuJ_3, zuP_1, zuP_2, zuP_3, zuC_1, zuC_2, reduceIte, Nat.reduceEqDiff, false_and, and_false, true_and, and_true, and_self, or_true, true_or, or_false, false_or] at q; omega) | omega | (simp only [zuI_1, zuI_2, zuJ_1, zuJ_2, zuJ_3, zuP_1, zuP_2, zuP_3, zuC_1, zuC_2, reduceIte, Nat.reduceEqDiff, false_and, and_false, true_and, and_true, and_self, or_true, true_or, or_false, false_or] <;> omega)), (by first | (exfalso; simp only [zuI_1, zuI_2, zuJ_1, zuJ_2, zuJ_3, zuP_1, zuP_2, zuP_3, zuC_1, zuC_2, reduceIte, Nat.reduceEqDiff, false_and, and_false, true_and, and_true, and_self, or_true, true_or, or_false, false_or] at q; omega) | omega | (simp only [zuI_1, zuI_2, zuJ_1, zuJ_2, zuJ_3, zuP_1, zuP_2, zuP_3, zuC_1, zuC_2, reduceIte, Nat.reduceEqDiff, false_and, and_false, true_and, and_true, and_self, or_true, true_or, or_false, false_or] <;> omega))⟩, fun q => ⟨(by first | (exfalso; simp only [zuI_1, zuI_2, zuJ_1, zuJ_2, zuJ_3, zuP_1, zuP_2, zuP_3, zuC_1, zuC_2, reduceIte, Nat.reduceEqDiff, false_and, and_false, true_and, and_true, and_self, or_true, true_or, or_false, false_or] at q; omega) | omega | (simp only [zuI_1, zuI_2, zuJ_1, zuJ_2, zuJ_3, zuP_1, zuP_2, zuP_3, zuC_1, zuC_2, reduceIte, Nat.reduceEqDiff, false_and, and_false, true_and, and_true, and_self, or_true, true_or, or_false, false_or] <;> omega)), (by first | (exfalso; simp only [zuI_1, zuI_2, zuJ_1, zuJ_2, zuJ_3, zuP_1, zuP_2, zuP_3, zuC_1, zuC_2, reduceIte, Nat.reduceEqDiff, false_and, and_false, true_and, and_true, and_self, or_true, true_or, or_false, false_or] at q; omega) | omega | (simp only [zuI_1, zuI_2, zuJ_1, zuJ_2, zuJ_3, zuP_1, zuP_2, zuP_3, zuC_1, zuC_2, reduceIte, Nat.reduceEqDiff, false_and, and_false, true_and, and_true, and_self, or_true, true_or, or_false, false_or] <;> omega))⟩, fun q => (by first | (exfalso; simp only [zuI_1, zuI_2, zuJ_1, zuJ_2, zuJ_3, zuP_1, zuP_2, zuP_3, zuC_1, zuC_2, reduceIte, Nat.reduceEqDiff, false_and, and_false, true_and, and_true, and_self, or_true, true_or, or_false, false_or] at q; omega) | omega | (simp only [zuI_1, zuI_2, zuJ_1, zuJ_2, zuJ_3, zuP_1, zuP_2, zuP_3, zuC_1, zuC_2, reduceIte, Nat.reduceEqDiff, false_and, and_false, true_and, and_true, and_self, or_true, true_or, or_false, false_or] <;> omega))⟩⟩
            · skip
              refine zs_iconst (pc := 150) C dX9_signToken_150 (by decide) ?_
              refine zs_goto (tgt := 192) (pc := 151) C dX9_signToken_151 (by decide) ?_
              refine zs_puti (r := 1009) (pc := 192) C dX9_signToken_192 w_X9_207 f_10_9 rfl (r_1009 0) (by omega) ?_
              refine zs_goto (tgt := 290) (pc := 195) C dX9_signToken_195 (by decide) ?_
              exact zs_vret (pc := 290) C hr hlk dX9_signToken_290 ⟨by repeat (first | exact zsm_rf | assumption | refine zsm_C (by decide) ?_ | refine zsm_I (by decide) ?_ | refine zsm_J ?_ | refine zsm_c (by assumption) (by decide) ?_), ⟨(by first | omega | (simp only [zuI_1, zuI_2, zuJ_1, zuJ_2, zuJ_3, zuP_1, zuP_2, zuP_3, zuC_1, zuC_2, reduceIte, Nat.reduceEqDiff, false_and, and_false, true_and, and_true, and_self, or_true, true_or, or_false, false_or] <;> omega)), (by first | omega | (simp only [zuI_1, zuI_2, zuJ_1, zuJ_2, zuJ_3, zuP_1, zuP_2, zuP_3, zuC_1, zuC_2, reduceIte, Nat.reduceEqDiff, false_and, and_false, true_and, and_true, and_self, or_true, true_or, or_false, false_or] <;> omega)), fun q => ⟨(by first | (exfalso; simp only [zuI_1, zuI_2, zuJ_1, zuJ_2, zuJ_3, zuP_1, zuP_2, zuP_3, zuC_1, zuC_2, reduceIte, Nat.reduceEqDiff, false_and, and_false, true_and, and_true, and_self, or_true, true_or, or_false, false_or] at q; omega) | omega | (simp only [zuI_1, zuI_2, zuJ_1, zuJ_2, zuJ_3, zuP_1, zuP_2, zuP_3, zuC_1, zuC_2, reduceIte, Nat.reduceEqDiff, false_and, and_false, true_and, and_true, and_self, or_true, true_or, or_false, false_or] <;> omega)), (by first | (exfalso; simp only [zuI_1, zuI_2, zuJ_1, zuJ_2, zuJ_3, zuP_1, zuP_2, zuP_3, zuC_1, zuC_2, reduceIte, Nat.reduceEqDiff, false_and, and_false, true_and, and_true, and_self, or_true, true_or, or_false, false_or] at q; omega) | omega | (simp only [zuI_1, zuI_2, zuJ_1, zuJ_2, zuJ_3, zuP_1, zuP_2, zuP_3, zuC_1, zuC_2, reduceIte, Nat.reduceEqDiff, false_and, and_false, true_and, and_true, and_self, or_true, true_or, or_false, false_or] <;> omega))⟩, fun q => ⟨(by first | (exfalso; simp only [zuI_1, zuI_2, zuJ_1, zuJ_2, zuJ_3, zuP_1, zuP_2, zuP_3, zuC_1, zuC_2, reduceIte, Nat.reduceEqDiff, false_and, and_false, true_and, and_true, and_self, or_true, true_or, or_false, false_or] at q; omega) | omega | (simp only [zuI_1, zuI_2, zuJ_1, zuJ_2, zuJ_3, zuP_1, zuP_2, zuP_3, zuC_1, zuC_2, reduceIte, Nat.reduceEqDiff, false_and, and_false, true_and, and_true, and_self, or_true, true_or, or_false, false_or] <;> omega)), (by first | (exfalso; simp only [zuI_1, zuI_2, zuJ_1, zuJ_2, zuJ_3, zuP_1, zuP_2, zuP_3, zuC_1, zuC_2, reduceIte, Nat.reduceEqDiff, false_and, and_false, true_and, and_true, and_self, or_true, true_or, or_false, false_or] at q; omega) | omega | (simp only [zuI_1, zuI_2, zuJ_1, zuJ_2, zuJ_3, zuP_1, zuP_2, zuP_3, zuC_1, zuC_2, reduceIte, Nat.reduceEqDiff, false_and, and_false, true_and, and_true, and_self, or_true, true_or, or_false, false_or] <;> omega))⟩, fun q => (by first | (exfalso; simp only [zuI_1, zuI_2, zuJ_1, zuJ_2, zuJ_3, zuP_1, zuP_2, zuP_3, zuC_1, zuC_2, reduceIte, Nat.reduceEqDiff, false_and, and_false, true_and, and_true, and_self, or_true, true_or, or_false, false_or] at q; omega) | omega | (simp only [zuI_1, zuI_2, zuJ_1, zuJ_2, zuJ_3, zuP_1, zuP_2, zuP_3, zuC_1, zuC_2, reduceIte, Nat.reduceEqDiff, false_and, and_false, true_and, and_true, and_self, or_true, true_or, or_false, false_or] <;> omega))⟩⟩
          refine zs_if_ne (tgt := 125) (pc := 118) C dX9_signToken_118 (by decide) (fun h118 => ?_) (fun h118 => ?_)
          · skip
            refine zs_aload_n (pc := 125) C dX9_signToken_125 rfl ?_
            refine zs_dupa (pc := 126) C dX9_signToken_126 ?_
            refine zs_geti (r := 1007) (pc := 127) C dX9_signToken_127 w_X9_193 f_10_7 rfl (r_1007 0) (fun v127 e127 l127 u127 => ?_)
            refine zs_iconst (pc := 130) C dX9_signToken_130 (by decide) ?_
            first | refine zs_iadd (pc := 131) C dX9_signToken_131 (by omega) ?_ | refine zs_iaddF (pc := 131) C dX9_signToken_131 (fun z131 hz1311 hz1312 => ?_)
            refine zs_puti (r := 1007) (pc := 132) C dX9_signToken_132 w_X9_193 f_10_7 rfl (r_1007 0) (by omega) ?_
            exact zs_wk (J135 _ (by repeat (first | exact zsm_rf | assumption | refine zsm_C (by decide) ?_ | refine zsm_I (by decide) ?_ | refine zsm_J ?_ | refine zsm_c (by assumption) (by decide) ?_)) (by first | omega | (simp only [zuI_1, zuI_2, zuJ_1, zuJ_2, zuJ_3, zuP_1, zuP_2, zuP_3, zuC_1, zuC_2, reduceIte, Nat.reduceEqDiff, false_and, and_false, true_and, and_true, and_self, or_true, true_or, or_false, false_or]; omega))) (zwk_s rfl (zwk_s rfl (zwk_s rfl (zwk_s rfl zwk_0))))
          · skip
            refine zs_iload_n (pc := 121) C dX9_signToken_121 rfl ?_
            refine zs_if_eq (tgt := 135) (pc := 122) C dX9_signToken_122 (by decide) (fun h122 => ?_) (fun h122 => ?_)
            · skip
              exact zs_wk (J135 _ (by repeat (first | exact zsm_rf | assumption | refine zsm_C (by decide) ?_ | refine zsm_I (by decide) ?_ | refine zsm_J ?_ | refine zsm_c (by assumption) (by decide) ?_)) (by first | omega | (simp only [zuI_1, zuI_2, zuJ_1, zuJ_2, zuJ_3, zuP_1, zuP_2, zuP_3, zuC_1, zuC_2, reduceIte, Nat.reduceEqDiff, false_and, and_false, true_and, and_true, and_self, or_true, true_or, or_false, false_or]; omega))) (zwk_s rfl (zwk_s rfl (zwk_s rfl (zwk_s rfl zwk_0))))
            · skip
              refine zs_aload_n (pc := 125) C dX9_signToken_125 rfl ?_
              refine zs_dupa (pc := 126) C dX9_signToken_126 ?_
              refine zs_geti (r := 1007) (pc := 127) C dX9_signToken_127 w_X9_193 f_10_7 rfl (r_1007 0) (fun v127 e127 l127 u127 => ?_)
              refine zs_iconst (pc := 130) C dX9_signToken_130 (by decide) ?_
              first | refine zs_iadd (pc := 131) C dX9_signToken_131 (by omega) ?_ | refine zs_iaddF (pc := 131) C dX9_signToken_131 (fun z131 hz1311 hz1312 => ?_)
              refine zs_puti (r := 1007) (pc := 132) C dX9_signToken_132 w_X9_193 f_10_7 rfl (r_1007 0) (by omega) ?_
              exact zs_wk (J135 _ (by repeat (first | exact zsm_rf | assumption | refine zsm_C (by decide) ?_ | refine zsm_I (by decide) ?_ | refine zsm_J ?_ | refine zsm_c (by assumption) (by decide) ?_)) (by first | omega | (simp only [zuI_1, zuI_2, zuJ_1, zuJ_2, zuJ_3, zuP_1, zuP_2, zuP_3, zuC_1, zuC_2, reduceIte, Nat.reduceEqDiff, false_and, and_false, true_and, and_true, and_self, or_true, true_or, or_false, false_or]; omega))) (zwk_s rfl (zwk_s rfl (zwk_s rfl (zwk_s rfl zwk_0))))
        refine zs_geti (r := 1009) (pc := 97) C dX9_signToken_97 w_X9_207 f_10_9 rfl (r_1009 0) (fun v97 e97 l97 u97 => ?_)
        refine zs_bipush (pc := 100) C dX9_signToken_100 (by decide) (by decide) ?_
        refine zs_icmp_ne (tgt := 115) (pc := 102) C dX9_signToken_102 (by decide) (fun h102 => ?_) (fun h102 => ?_)
        · skip
          refine zs_iconst (pc := 115) C dX9_signToken_115 (by decide) ?_
          refine zs_istore_n (pc := 116) C dX9_signToken_116 (by decide) ?_
          dsimp only [zset, zclr, znone]
          exact zs_wk (J117 _ (by first | omega | (simp only [zuI_1, zuI_2, zuJ_1, zuJ_2, zuJ_3, zuP_1, zuP_2, zuP_3, zuC_1, zuC_2, reduceIte, Nat.reduceEqDiff, false_and, and_false, true_and, and_true, and_self, or_true, true_or, or_false, false_or]; omega))) (zwk_s rfl (zwk_s rfl (zwk_s rfl (zwk_s rfl zwk_0))))
        · skip
          refine zs_iload_n (pc := 105) C dX9_signToken_105 rfl ?_
          refine zs_bipush (pc := 106) C dX9_signToken_106 (by decide) (by decide) ?_
          refine zs_icmp_ne (tgt := 115) (pc := 108) C dX9_signToken_108 (by decide) (fun h108 => ?_) (fun h108 => ?_)
          · skip
            refine zs_iconst (pc := 115) C dX9_signToken_115 (by decide) ?_
            refine zs_istore_n (pc := 116) C dX9_signToken_116 (by decide) ?_
            dsimp only [zset, zclr, znone]
            exact zs_wk (J117 _ (by first | omega | (simp only [zuI_1, zuI_2, zuJ_1, zuJ_2, zuJ_3, zuP_1, zuP_2, zuP_3, zuC_1, zuC_2, reduceIte, Nat.reduceEqDiff, false_and, and_false, true_and, and_true, and_self, or_true, true_or, or_false, false_or]; omega))) (zwk_s rfl (zwk_s rfl (zwk_s rfl (zwk_s rfl zwk_0))))
          · skip
            refine zs_iconst (pc := 111) C dX9_signToken_111 (by decide) ?_
            refine zs_goto (tgt := 116) (pc := 112) C dX9_signToken_112 (by decide) ?_
            refine zs_istore_n (pc := 116) C dX9_signToken_116 (by decide) ?_
            dsimp only [zset, zclr, znone]
            exact zs_wk (J117 _ (by first | omega | (simp only [zuI_1, zuI_2, zuJ_1, zuJ_2, zuJ_3, zuP_1, zuP_2, zuP_3, zuC_1, zuC_2, reduceIte, Nat.reduceEqDiff, false_and, and_false, true_and, and_true, and_self, or_true, true_or, or_false, false_or]; omega))) (zwk_s rfl (zwk_s rfl (zwk_s rfl (zwk_s rfl zwk_0))))
      refine zs_geti (r := 1009) (pc := 76) C dX9_signToken_76 w_X9_207 f_10_9 rfl (r_1009 0) (fun v76 e76 l76 u76 => ?_)
      refine zs_bipush (pc := 79) C dX9_signToken_79 (by decide) (by decide) ?_
      refine zs_icmp_eq (tgt := 94) (pc := 81) C dX9_signToken_81 (by decide) (fun h81 => ?_) (fun h81 => ?_)
      · skip
        refine zs_iconst (pc := 94) C dX9_signToken_94 (by decide) ?_
        refine zs_istore_n (pc := 95) C dX9_signToken_95 (by decide) ?_
        dsimp only [zset, zclr, znone]
        exact zs_wk (J96 _ (by first | omega | (simp only [zuI_1, zuI_2, zuJ_1, zuJ_2, zuJ_3, zuP_1, zuP_2, zuP_3, zuC_1, zuC_2, reduceIte, Nat.reduceEqDiff, false_and, and_false, true_and, and_true, and_self, or_true, true_or, or_false, false_or]; omega))) (zwk_s rfl (zwk_s rfl (zwk_s rfl (zwk_n zwk_0))))
      · skip
        refine zs_iload_n (pc := 84) C dX9_signToken_84 rfl ?_
        refine zs_bipush (pc := 85) C dX9_signToken_85 (by decide) (by decide) ?_
        refine zs_icmp_ne (tgt := 94) (pc := 87) C dX9_signToken_87 (by decide) (fun h87 => ?_) (fun h87 => ?_)
        · skip
          refine zs_iconst (pc := 94) C dX9_signToken_94 (by decide) ?_
          refine zs_istore_n (pc := 95) C dX9_signToken_95 (by decide) ?_
          dsimp only [zset, zclr, znone]
          exact zs_wk (J96 _ (by first | omega | (simp only [zuI_1, zuI_2, zuJ_1, zuJ_2, zuJ_3, zuP_1, zuP_2, zuP_3, zuC_1, zuC_2, reduceIte, Nat.reduceEqDiff, false_and, and_false, true_and, and_true, and_self, or_true, true_or, or_false, false_or]; omega))) (zwk_s rfl (zwk_s rfl (zwk_s rfl (zwk_n zwk_0))))
        · skip
          refine zs_iconst (pc := 90) C dX9_signToken_90 (by decide) ?_
          refine zs_goto (tgt := 95) (pc := 91) C dX9_signToken_91 (by decide) ?_
          refine zs_istore_n (pc := 95) C dX9_signToken_95 (by decide) ?_
          dsimp only [zset, zclr, znone]
          exact zs_wk (J96 _ (by first | omega | (simp only [zuI_1, zuI_2, zuJ_1, zuJ_2, zuJ_3, zuP_1, zuP_2, zuP_3, zuC_1, zuC_2, reduceIte, Nat.reduceEqDiff, false_and, and_false, true_and, and_true, and_self, or_true, true_or, or_false, false_or]; omega))) (zwk_s rfl (zwk_s rfl (zwk_s rfl (zwk_n zwk_0))))
    refine zs_geti (r := 1007) (pc := 51) C dX9_signToken_51 w_X9_193 f_10_7 rfl (r_1007 0) (fun v51 e51 l51 u51 => ?_)
    refine zs_aload_n (pc := 54) C dX9_signToken_54 rfl ?_
    refine zs_geti (r := 1006) (pc := 55) C dX9_signToken_55 w_X9_190 f_10_6 rfl (r_1006 0) (fun v55 e55 l55 u55 => ?_)
    refine zs_icmp_ge (tgt := 73) (pc := 58) C dX9_signToken_58 (by decide) (fun h58 => ?_) (fun h58 => ?_)
    · skip
      refine zs_iconst (pc := 73) C dX9_signToken_73 (by decide) ?_
      refine zs_istore_n (pc := 74) C dX9_signToken_74 (by decide) ?_
      dsimp only [zset, zclr, znone]
      exact zs_wk (J75 _ (by first | omega | (simp only [zuI_1, zuI_2, zuJ_1, zuJ_2, zuJ_3, zuP_1, zuP_2, zuP_3, zuC_1, zuC_2, reduceIte, Nat.reduceEqDiff, false_and, and_false, true_and, and_true, and_self, or_true, true_or, or_false, false_or]; omega))) (zwk_s rfl (zwk_s rfl (zwk_n (zwk_n zwk_0))))
    · skip
      refine zs_aload_n (pc := 61) C dX9_signToken_61 rfl ?_
      refine zs_getf (pc := 62) C dX9_signToken_62 w_X9_7 f_10_0 (by decide) ?_
      refine zs_aload_n (pc := 65) C dX9_signToken_65 rfl ?_
      refine zs_geti (r := 1007) (pc := 66) C dX9_signToken_66 w_X9_193 f_10_7 rfl (r_1007 0) (fun v66 e66 l66 u66 => ?_)
      refine zs_iald (r := 2057) (pc := 69) C dX9_signToken_69 a_57 (by decide) (by omega) rfl (r_2057 _) (fun v69 e69 l69 u69 => ?_)
      refine zs_goto (tgt := 74) (pc := 70) C dX9_signToken_70 (by decide) ?_
      refine zs_istore_n (pc := 74) C dX9_signToken_74 (by decide) ?_
      dsimp only [zset, zclr, znone]
      exact zs_wk (J75 _ (by first | omega | (simp only [zuI_1, zuI_2, zuJ_1, zuJ_2, zuJ_3, zuP_1, zuP_2, zuP_3, zuC_1, zuC_2, reduceIte, Nat.reduceEqDiff, false_and, and_false, true_and, and_true, and_self, or_true, true_or, or_false, false_or]; omega))) (zwk_s rfl (zwk_s rfl (zwk_n (zwk_n zwk_0))))
  refine zs_geti (r := 1009) (pc := 24) C dX9_signToken_24 w_X9_207 f_10_9 rfl (r_1009 0) (fun v24 e24 l24 u24 => ?_)
  try simp only [zuI_1, zuI_2, zuJ_1, zuJ_2, zuJ_3, zuP_1, zuP_2, zuP_3, zuC_1, zuC_2, reduceIte, Nat.reduceEqDiff, false_and, and_false, true_and, and_true, and_self, or_true, true_or, or_false, false_or] at e24
  refine zs_bipush (pc := 27) C dX9_signToken_27 (by decide) (by decide) ?_
  refine zs_icmp_eq (tgt := 50) (pc := 29) C dX9_signToken_29 (by decide) (fun h29 => ?_) (fun h29 => ?_)
  · skip
    exact zs_wk (J50 _ rfl) (zwk_s rfl (zwk_n (zwk_n (zwk_n zwk_0))))
  · skip
    refine zs_aload_n (pc := 32) C dX9_signToken_32 rfl ?_
    refine zs_geti (r := 1009) (pc := 33) C dX9_signToken_33 w_X9_207 f_10_9 rfl (r_1009 0) (fun v33 e33 l33 u33 => ?_)
    try simp only [zuI_1, zuI_2, zuJ_1, zuJ_2, zuJ_3, zuP_1, zuP_2, zuP_3, zuC_1, zuC_2, reduceIte, Nat.reduceEqDiff, false_and, and_false, true_and, and_true, and_self, or_true, true_or, or_false, false_or] at e33
    refine zs_bipush (pc := 36) C dX9_signToken_36 (by decide) (by decide) ?_
    refine zs_icmp_eq (tgt := 50) (pc := 38) C dX9_signToken_38 (by decide) (fun h38 => ?_) (fun h38 => ?_)
    · skip
      exact zs_wk (J50 _ rfl) (zwk_s rfl (zwk_n (zwk_n (zwk_n zwk_0))))
    · skip
      refine zs_aload_n (pc := 41) C dX9_signToken_41 rfl ?_
      refine zs_geti (r := 1009) (pc := 42) C dX9_signToken_42 w_X9_207 f_10_9 rfl (r_1009 0) (fun v42 e42 l42 u42 => ?_)
      try simp only [zuI_1, zuI_2, zuJ_1, zuJ_2, zuJ_3, zuP_1, zuP_2, zuP_3, zuC_1, zuC_2, reduceIte, Nat.reduceEqDiff, false_and, and_false, true_and, and_true, and_self, or_true, true_or, or_false, false_or] at e42
      refine zs_bipush (pc := 45) C dX9_signToken_45 (by decide) (by decide) ?_
      refine zs_icmp_ne (tgt := 198) (pc := 47) C dX9_signToken_47 (by decide) (fun h47 => ?_) (fun h47 => ?_)
      · skip
        refine zs_aload_n (pc := 198) C dX9_signToken_198 rfl ?_
        have J276 : ∀ (x1 : Int), Z p l e (zrm 0) s m args below meth c Γ 4 0 0 (MQ below (zQc Γ (zpv (fun G' => zsm [1007, 1008, 1009] G G' ∧ (G'.1 1007 w 0 ≤ G'.1 1006 w 0 ∧ G'.1 1010 w 0 < G'.1 1007 w 0 ∧ ((G'.1 1008 w 0 = 5 → 0 ≤ G'.1 1009 w 0 ∧ G'.1 1009 w 0 ≤ 5) ∧ (G'.1 1008 w 0 = 1 → 0 ≤ G'.1 1009 w 0 ∧ G'.1 1009 w 0 ≤ 23) ∧ (G'.1 1008 w 0 = 3 → 0 ≤ G'.1 1009 w 0)))))) args s 0 0 (zA Γ)) 276 [some (zr 10 w), some (zi x1), none, none] [] G1 := by
          intro x1 
          refine zs_aload_n (pc := 276) C dX9_signToken_276 rfl ?_
          refine zs_iload_n (pc := 277) C dX9_signToken_277 rfl ?_
          refine zs_if_eq (tgt := 285) (pc := 278) C dX9_signToken_278 (by decide) (fun h278 => ?_) (fun h278 => ?_)
          · skip
            refine zs_bipush (pc := 285) C dX9_signToken_285 (by decide) (by decide) ?_
            refine zs_puti (r := 1008) (pc := 287) C dX9_signToken_287 w_X9_196 f_10_8 rfl (r_1008 0) (by omega) ?_
            exact zs_vret (pc := 290) C hr hlk dX9_signToken_290 ⟨by repeat (first | exact zsm_rf | assumption | refine zsm_C (by decide) ?_ | refine zsm_I (by decide) ?_ | refine zsm_J ?_ | refine zsm_c (by assumption) (by decide) ?_), ⟨(by first | omega | (simp only [zuI_1, zuI_2, zuJ_1, zuJ_2, zuJ_3, zuP_1, zuP_2, zuP_3, zuC_1, zuC_2, reduceIte, Nat.reduceEqDiff, false_and, and_false, true_and, and_true, and_self, or_true, true_or, or_false, false_or] <;> omega)), (by first | omega | (simp only [zuI_1, zuI_2, zuJ_1, zuJ_2, zuJ_3, zuP_1, zuP_2, zuP_3, zuC_1, zuC_2, reduceIte, Nat.reduceEqDiff, false_and, and_false, true_and, and_true, and_self, or_true, true_or, or_false, false_or] <;> omega)), fun q => ⟨(by first | (exfalso; simp only [zuI_1, zuI_2, zuJ_1, zuJ_2, zuJ_3, zuP_1, zuP_2, zuP_3, zuC_1, zuC_2, reduceIte, Nat.reduceEqDiff, false_and, and_false, true_and, and_true, and_self, or_true, true_or, or_false, false_or] at q; omega) | omega | (simp only [zuI_1, zuI_2, zuJ_1, zuJ_2, zuJ_3, zuP_1, zuP_2, zuP_3, zuC_1, zuC_2, reduceIte, Nat.reduceEqDiff, false_and, and_false, true_and, and_true, and_self, or_true, true_or, or_false, false_or] <;> omega)), (by first | (exfalso; simp only [zuI_1, zuI_2, zuJ_1, zuJ_2, zuJ_3, zuP_1, zuP_2, zuP_3, zuC_1, zuC_2, reduceIte, Nat.reduceEqDiff, false_and, and_false, true_and, and_true, and_self, or_true, true_or, or_false, false_or] at q; omega) | omega | (simp only [zuI_1, zuI_2, zuJ_1, zuJ_2, zuJ_3, zuP_1, zuP_2, zuP_3, zuC_1, zuC_2, reduceIte, Nat.reduceEqDiff, false_and, and_false, true_and, and_true, and_self, or_true, true_or, or_false, false_or] <;> omega))⟩, fun q => ⟨(by first | (exfalso; simp only [zuI_1, zuI_2, zuJ_1, zuJ_2, zuJ_3, zuP_1, zuP_2, zuP_3, zuC_1, zuC_2, reduceIte, Nat.reduceEqDiff, false_and, and_false, true_and, and_true, and_self, or_true, true_or, or_false, false_or] at q; omega) | omega | (simp only [zuI_1, zuI_2, zuJ_1, zuJ_2, zuJ_3, zuP_1, zuP_2, zuP_3, zuC_1, zuC_2, reduceIte, Nat.reduceEqDiff, false_and, and_false, true_and, and_true, and_self, or_true, true_or, or_false, false_or] <;> omega)), (by first | (exfalso; simp only [zuI_1, zuI_2, zuJ_1, zuJ_2, zuJ_3, zuP_1, zuP_2, zuP_3, zuC_1, zuC_2, reduceIte, Nat.reduceEqDiff, false_and, and_false, true_and, and_true, and_self, or_true, true_or, or_false, false_or] at q; omega) | omega | (simp only [zuI_1, zuI_2, zuJ_1, zuJ_2, zuJ_3, zuP_1, zuP_2, zuP_3, zuC_1, zuC_2, reduceIte, Nat.reduceEqDiff, false_and, and_false, true_and, and_true, and_self, or_true, true_or, or_false, false_or] <;> omega))⟩, fun q => (by first | (exfalso; simp only [zuI_1, zuI_2, zuJ_1, zuJ_2, zuJ_3, zuP_1, zuP_2, zuP_3, zuC_1, zuC_2, reduceIte, Nat.reduceEqDiff, false_and, and_false, true_and, and_true, and_self, or_true, true_or, or_false, false_or] at q; omega) | omega | (simp only [zuI_1, zuI_2, zuJ_1, zuJ_2, zuJ_3, zuP_1, zuP_2, zuP_3, zuC_1, zuC_2, reduceIte, Nat.reduceEqDiff, false_and, and_false, true_and, and_true, and_self, or_true, true_or, or_false, false_or] <;> omega))⟩⟩
          · skip
            refine zs_iconst (pc := 281) C dX9_signToken_281 (by decide) ?_
            refine zs_goto (tgt := 287) (pc := 282) C dX9_signToken_282 (by decide) ?_
            refine zs_puti (r := 1008) (pc := 287) C dX9_signToken_287 w_X9_196 f_10_8 rfl (r_1008 0) (by omega) ?_
            exact zs_vret (pc := 290) C hr hlk dX9_signToken_290 ⟨by repeat (first | exact zsm_rf | assumption | refine zsm_C (by decide) ?_ | refine zsm_I (by decide) ?_ | refine zsm_J ?_ | refine zsm_c (by assumption) (by decide) ?_), ⟨(by first | omega | (simp only [zuI_1, zuI_2, zuJ_1, zuJ_2, zuJ_3, zuP_1, zuP_2, zuP_3, zuC_1, zuC_2, reduceIte, Nat.reduceEqDiff, false_and, and_false, true_and, and_true, and_self, or_true, true_or, or_false, false_or] <;> omega)), (by first | omega | (simp only [zuI_1, zuI_2, zuJ_1, zuJ_2, zuJ_3, zuP_1, zuP_2, zuP_3, zuC_1, zuC_2, reduceIte, Nat.reduceEqDiff, false_and, and_false, true_and, and_true, and_self, or_true, true_or, or_false, false_or] <;> omega)), fun q => ⟨(by first | (exfalso; simp only [zuI_1, zuI_2, zuJ_1, zuJ_2, zuJ_3, zuP_1, zuP_2, zuP_3, zuC_1, zuC_2, reduceIte, Nat.reduceEqDiff, false_and, and_false, true_and, and_true, and_self, or_true, true_or, or_false, false_or] at q; omega) | omega | (simp only [zuI_1, zuI_2, zuJ_1, zuJ_2, zuJ_3, zuP_1, zuP_2, zuP_3, zuC_1, zuC_2, reduceIte, Nat.reduceEqDiff, false_and, and_false, true_and, and_true, and_self, or_true, true_or, or_false, false_or] <;> omega)), (by first | (exfalso; simp only [zuI_1, zuI_2, zuJ_1, zuJ_2, zuJ_3, zuP_1, zuP_2, zuP_3, zuC_1, zuC_2, reduceIte, Nat.reduceEqDiff, false_and, and_false, true_and, and_true, and_self, or_true, true_or, or_false, false_or] at q; omega) | omega | (simp only [zuI_1, zuI_2, zuJ_1, zuJ_2, zuJ_3, zuP_1, zuP_2, zuP_3, zuC_1, zuC_2, reduceIte, Nat.reduceEqDiff, false_and, and_false, true_and, and_true, and_self, or_true, true_or, or_false, false_or] <;> omega))⟩, fun q => ⟨(by first | (exfalso; simp only [zuI_1, zuI_2, zuJ_1, zuJ_2, zuJ_3, zuP_1, zuP_2, zuP_3, zuC_1, zuC_2, reduceIte, Nat.reduceEqDiff, false_and, and_false, true_and, and_true, and_self, or_true, true_or, or_false, false_or] at q; omega) | omega | (simp only [zuI_1, zuI_2, zuJ_1, zuJ_2, zuJ_3, zuP_1, zuP_2, zuP_3, zuC_1, zuC_2, reduceIte, Nat.reduceEqDiff, false_and, and_false, true_and, and_true, and_self, or_true, true_or, or_false, false_or] <;> omega)), (by first | (exfalso; simp only [zuI_1, zuI_2, zuJ_1, zuJ_2, zuJ_3, zuP_1, zuP_2, zuP_3, zuC_1, zuC_2, reduceIte, Nat.reduceEqDiff, false_and, and_false, true_and, and_true, and_self, or_true, true_or, or_false, false_or] at q; omega) | omega | (simp only [zuI_1, zuI_2, zuJ_1, zuJ_2, zuJ_3, zuP_1, zuP_2, zuP_3, zuC_1, zuC_2, reduceIte, Nat.reduceEqDiff, false_and, and_false, true_and, and_true, and_self, or_true, true_or, or_false, false_or] <;> omega))⟩, fun q => (by first | (exfalso; simp only [zuI_1, zuI_2, zuJ_1, zuJ_2, zuJ_3, zuP_1, zuP_2, zuP_3, zuC_1, zuC_2, reduceIte, Nat.reduceEqDiff, false_and, and_false, true_and, and_true, and_self, or_true, true_or, or_false, false_or] at q; omega) | omega | (simp only [zuI_1, zuI_2, zuJ_1, zuJ_2, zuJ_3, zuP_1, zuP_2, zuP_3, zuC_1, zuC_2, reduceIte, Nat.reduceEqDiff, false_and, and_false, true_and, and_true, and_self, or_true, true_or, or_false, false_or] <;> omega))⟩⟩
        refine zs_geti (r := 1009) (pc := 199) C dX9_signToken_199 w_X9_207 f_10_9 rfl (r_1009 0) (fun v199 e199 l199 u199 => ?_)
        try simp only [zuI_1, zuI_2, zuJ_1, zuJ_2, zuJ_3, zuP_1, zuP_2, zuP_3, zuC_1, zuC_2, reduceIte, Nat.reduceEqDiff, false_and, and_false, true_and, and_true, and_self, or_true, true_or, or_false, false_or] at e199
        refine zs_bipush (pc := 202) C dX9_signToken_202 (by decide) (by decide) ?_
        refine zs_icmp_eq (tgt := 270) (pc := 204) C dX9_signToken_204 (by decide) (fun h204 => ?_) (fun h204 => ?_)
        · skip
          refine zs_iconst (pc := 270) C dX9_signToken_270 (by decide) ?_
          refine zs_goto (tgt := 275) (pc := 271) C dX9_signToken_271 (by decide) ?_
          refine zs_istore_n (pc := 275) C dX9_signToken_275 (by decide) ?_
          dsimp only [zset, zclr, znone]
          exact zs_wk (J276 _ ) (zwk_s rfl (zwk_s rfl (zwk_n (zwk_n zwk_0))))
        · skip
          refine zs_aload_n (pc := 207) C dX9_signToken_207 rfl ?_
          refine zs_geti (r := 1009) (pc := 208) C dX9_signToken_208 w_X9_207 f_10_9 rfl (r_1009 0) (fun v208 e208 l208 u208 => ?_)
          try simp only [zuI_1, zuI_2, zuJ_1, zuJ_2, zuJ_3, zuP_1, zuP_2, zuP_3, zuC_1, zuC_2, reduceIte, Nat.reduceEqDiff, false_and, and_false, true_and, and_true, and_self, or_true, true_or, or_false, false_or] at e208
          refine zs_bipush (pc := 211) C dX9_signToken_211 (by decide) (by decide) ?_
          refine zs_icmp_eq (tgt := 270) (pc := 213) C dX9_signToken_213 (by decide) (fun h213 => ?_) (fun h213 => ?_)
          · skip
            refine zs_iconst (pc := 270) C dX9_signToken_270 (by decide) ?_
            refine zs_goto (tgt := 275) (pc := 271) C dX9_signToken_271 (by decide) ?_
            refine zs_istore_n (pc := 275) C dX9_signToken_275 (by decide) ?_
            dsimp only [zset, zclr, znone]
            exact zs_wk (J276 _ ) (zwk_s rfl (zwk_s rfl (zwk_n (zwk_n zwk_0))))
          · skip
            refine zs_aload_n (pc := 216) C dX9_signToken_216 rfl ?_
            refine zs_geti (r := 1009) (pc := 217) C dX9_signToken_217 w_X9_207 f_10_9 rfl (r_1009 0) (fun v217 e217 l217 u217 => ?_)
            try simp only [zuI_1, zuI_2, zuJ_1, zuJ_2, zuJ_3, zuP_1, zuP_2, zuP_3, zuC_1, zuC_2, reduceIte, Nat.reduceEqDiff, false_and, and_false, true_and, and_true, and_self, or_true, true_or, or_false, false_or] at e217
            refine zs_bipush (pc := 220) C dX9_signToken_220 (by decide) (by decide) ?_
            refine zs_icmp_eq (tgt := 270) (pc := 222) C dX9_signToken_222 (by decide) (fun h222 => ?_) (fun h222 => ?_)
            · skip
              refine zs_iconst (pc := 270) C dX9_signToken_270 (by decide) ?_
              refine zs_goto (tgt := 275) (pc := 271) C dX9_signToken_271 (by decide) ?_
              refine zs_istore_n (pc := 275) C dX9_signToken_275 (by decide) ?_
              dsimp only [zset, zclr, znone]
              exact zs_wk (J276 _ ) (zwk_s rfl (zwk_s rfl (zwk_n (zwk_n zwk_0))))
            · skip
              refine zs_aload_n (pc := 225) C dX9_signToken_225 rfl ?_
              refine zs_geti (r := 1009) (pc := 226) C dX9_signToken_226 w_X9_207 f_10_9 rfl (r_1009 0) (fun v226 e226 l226 u226 => ?_)
              try simp only [zuI_1, zuI_2, zuJ_1, zuJ_2, zuJ_3, zuP_1, zuP_2, zuP_3, zuC_1, zuC_2, reduceIte, Nat.reduceEqDiff, false_and, and_false, true_and, and_true, and_self, or_true, true_or, or_false, false_or] at e226
              refine zs_bipush (pc := 229) C dX9_signToken_229 (by decide) (by decide) ?_
              refine zs_icmp_eq (tgt := 270) (pc := 231) C dX9_signToken_231 (by decide) (fun h231 => ?_) (fun h231 => ?_)
              · skip
                refine zs_iconst (pc := 270) C dX9_signToken_270 (by decide) ?_
                refine zs_goto (tgt := 275) (pc := 271) C dX9_signToken_271 (by decide) ?_
                refine zs_istore_n (pc := 275) C dX9_signToken_275 (by decide) ?_
                dsimp only [zset, zclr, znone]
                exact zs_wk (J276 _ ) (zwk_s rfl (zwk_s rfl (zwk_n (zwk_n zwk_0))))
              · skip
                refine zs_aload_n (pc := 234) C dX9_signToken_234 rfl ?_
                refine zs_geti (r := 1009) (pc := 235) C dX9_signToken_235 w_X9_207 f_10_9 rfl (r_1009 0) (fun v235 e235 l235 u235 => ?_)
                try simp only [zuI_1, zuI_2, zuJ_1, zuJ_2, zuJ_3, zuP_1, zuP_2, zuP_3, zuC_1, zuC_2, reduceIte, Nat.reduceEqDiff, false_and, and_false, true_and, and_true, and_self, or_true, true_or, or_false, false_or] at e235
                refine zs_bipush (pc := 238) C dX9_signToken_238 (by decide) (by decide) ?_
                refine zs_icmp_eq (tgt := 270) (pc := 240) C dX9_signToken_240 (by decide) (fun h240 => ?_) (fun h240 => ?_)
                · skip
                  refine zs_iconst (pc := 270) C dX9_signToken_270 (by decide) ?_
                  refine zs_goto (tgt := 275) (pc := 271) C dX9_signToken_271 (by decide) ?_
                  refine zs_istore_n (pc := 275) C dX9_signToken_275 (by decide) ?_
                  dsimp only [zset, zclr, znone]
                  exact zs_wk (J276 _ ) (zwk_s rfl (zwk_s rfl (zwk_n (zwk_n zwk_0))))
                · skip
                  refine zs_aload_n (pc := 243) C dX9_signToken_243 rfl ?_
                  refine zs_geti (r := 1009) (pc := 244) C dX9_signToken_244 w_X9_207 f_10_9 rfl (r_1009 0) (fun v244 e244 l244 u244 => ?_)
                  try simp only [zuI_1, zuI_2, zuJ_1, zuJ_2, zuJ_3, zuP_1, zuP_2, zuP_3, zuC_1, zuC_2, reduceIte, Nat.reduceEqDiff, false_and, and_false, true_and, and_true, and_self, or_true, true_or, or_false, false_or] at e244
                  refine zs_bipush (pc := 247) C dX9_signToken_247 (by decide) (by decide) ?_
                  refine zs_icmp_eq (tgt := 270) (pc := 249) C dX9_signToken_249 (by decide) (fun h249 => ?_) (fun h249 => ?_)
                  · skip
                    refine zs_iconst (pc := 270) C dX9_signToken_270 (by decide) ?_
                    refine zs_goto (tgt := 275) (pc := 271) C dX9_signToken_271 (by decide) ?_
                    refine zs_istore_n (pc := 275) C dX9_signToken_275 (by decide) ?_
                    dsimp only [zset, zclr, znone]
                    exact zs_wk (J276 _ ) (zwk_s rfl (zwk_s rfl (zwk_n (zwk_n zwk_0))))
                  · skip
                    refine zs_aload_n (pc := 252) C dX9_signToken_252 rfl ?_
                    refine zs_geti (r := 1009) (pc := 253) C dX9_signToken_253 w_X9_207 f_10_9 rfl (r_1009 0) (fun v253 e253 l253 u253 => ?_)
                    try simp only [zuI_1, zuI_2, zuJ_1, zuJ_2, zuJ_3, zuP_1, zuP_2, zuP_3, zuC_1, zuC_2, reduceIte, Nat.reduceEqDiff, false_and, and_false, true_and, and_true, and_self, or_true, true_or, or_false, false_or] at e253
                    refine zs_bipush (pc := 256) C dX9_signToken_256 (by decide) (by decide) ?_
                    refine zs_icmp_eq (tgt := 270) (pc := 258) C dX9_signToken_258 (by decide) (fun h258 => ?_) (fun h258 => ?_)
                    · skip
                      refine zs_iconst (pc := 270) C dX9_signToken_270 (by decide) ?_
                      refine zs_goto (tgt := 275) (pc := 271) C dX9_signToken_271 (by decide) ?_
                      refine zs_istore_n (pc := 275) C dX9_signToken_275 (by decide) ?_
                      dsimp only [zset, zclr, znone]
                      exact zs_wk (J276 _ ) (zwk_s rfl (zwk_s rfl (zwk_n (zwk_n zwk_0))))
                    · skip
                      refine zs_aload_n (pc := 261) C dX9_signToken_261 rfl ?_
                      refine zs_geti (r := 1009) (pc := 262) C dX9_signToken_262 w_X9_207 f_10_9 rfl (r_1009 0) (fun v262 e262 l262 u262 => ?_)
                      try simp only [zuI_1, zuI_2, zuJ_1, zuJ_2, zuJ_3, zuP_1, zuP_2, zuP_3, zuC_1, zuC_2, reduceIte, Nat.reduceEqDiff, false_and, and_false, true_and, and_true, and_self, or_true, true_or, or_false, false_or] at e262
                      refine zs_bipush (pc := 265) C dX9_signToken_265 (by decide) (by decide) ?_
                      refine zs_icmp_ne (tgt := 274) (pc := 267) C dX9_signToken_267 (by decide) (fun h267 => ?_) (fun h267 => ?_)
                      · skip
                        refine zs_iconst (pc := 274) C dX9_signToken_274 (by decide) ?_
                        refine zs_istore_n (pc := 275) C dX9_signToken_275 (by decide) ?_
                        dsimp only [zset, zclr, znone]
                        exact zs_wk (J276 _ ) (zwk_s rfl (zwk_s rfl (zwk_n (zwk_n zwk_0))))
                      · skip
                        refine zs_iconst (pc := 270) C dX9_signToken_270 (by decide) ?_
                        refine zs_goto (tgt := 275) (pc := 271) C dX9_signToken_271 (by decide) ?_
                        refine zs_istore_n (pc := 275) C dX9_signToken_275 (by decide) ?_
                        dsimp only [zset, zclr, znone]
                        exact zs_wk (J276 _ ) (zwk_s rfl (zwk_s rfl (zwk_n (zwk_n zwk_0))))
      · skip
        exact zs_wk (J50 _ rfl) (zwk_s rfl (zwk_n (zwk_n (zwk_n zwk_0))))
