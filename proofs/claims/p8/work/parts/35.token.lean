def wsp : Nat → Bool := fun k => zWD.getD k 32 == 32
theorem wsp_120 : zct wsp 120 = 23 := by decide +kernel
theorem wd_120 : zWD.getD 120 32 = 32 := by decide +kernel
theorem wd_eta (i : Nat) : zrg 2058 i = ((zrg 2058 i).1, (zrg 2058 i).2) := rfl
theorem wd_at {i : Nat} {v : Int} (h1 : (zrg 2058 i).1 ≤ v) (h2 : v ≤ (zrg 2058 i).2) : v = zWD.getD i 32 := by
  have e : zrg 2058 i = zcl (zWD.getD i 32, zWD.getD i 32) := rfl
  rw [e] at h1 h2
  simp only [zcl] at h1 h2
  omega
theorem wsp_s {x3 : Int} {i : Int} {v : Int} (h : x3 = zct wsp i.toNat) (h0 : 0 ≤ i) (hv : v = zWD.getD i.toNat 32) : (v ≠ 32 → x3 = zct wsp (i + 1).toNat) ∧ (v = 32 → x3 + 1 = zct wsp (i + 1).toNat) := by
  rw [show (i + 1).toNat = i.toNat + 1 by omega, zct_s, ← h]
  unfold wsp
  rw [← hv]
  constructor
  · intro q
    rw [if_neg (by simpa using q)]
    omega
  · intro q
    rw [if_pos (by simpa using q)]
theorem wsp_b {i : Int} (h : i ≤ 120) : 0 ≤ zct wsp i.toNat ∧ zct wsp i.toNat ≤ 23 := by
  have h1 := zct_mono wsp (n := i.toNat) (m := 120) (by omega)
  rw [wsp_120] at h1
  exact ⟨(zct_le wsp _).1, h1⟩

set_option maxHeartbeats 4000000 in
set_option maxRecDepth 100000 in
theorem c_X9_isSmall {l : Launch} {Γ : zΓ} {G : zH} {w : Nat} {a : Int} (hX : zXs Γ) (ha : 0 ≤ a ∧ a ≤ 700) : zMet l Γ yX9_isSmall cX9_isSmall 2 (some .boolean) 0 [zr 10 w, zi a] G (zpi (fun x G' => G' = G ∧ ((x = 0 ∨ x = 1) ∧ (x = 1 ↔ a < G.1 1006 w 0 ∧ 97 ≤ G.1 2057 (Γ.2.1 w 0) a.toNat ∧ G.1 2057 (Γ.2.1 w 0) a.toNat ≤ 122)))) := by
  refine zMet_of RX9 hX (by decide) rfl (Nat.le_of_ble_eq_true rfl) ?_
  intro p e s m args below meth c C hr hlk
  show Z p l e (zrm 0) s m args below meth c Γ 2 0 0 (MQ below (zQc Γ (zpi (fun x G' => G' = G ∧ ((x = 0 ∨ x = 1) ∧ (x = 1 ↔ a < G.1 1006 w 0 ∧ 97 ≤ G.1 2057 (Γ.2.1 w 0) a.toNat ∧ G.1 2057 (Γ.2.1 w 0) a.toNat ≤ 122))))) args s 0 0 (zA Γ)) 0 [some (zr 10 w), some (zi a)] [] G
  refine zs_loc 1 rfl (fun ha1 hb1 => ?_)
  refine zs_iload_n (pc := 0) C dX9_isSmall_0 rfl ?_
  refine zs_aload_n (pc := 1) C dX9_isSmall_1 rfl ?_
  refine zs_geti (r := 1006) (pc := 2) C dX9_isSmall_2 w_X9_190 f_10_6 rfl (r_1006 0) (fun v2 e2 l2 u2 => ?_)
  refine zs_icmp_ge (tgt := 34) (pc := 5) C dX9_isSmall_5 (by decide) (fun h5 => ?_) (fun h5 => ?_)
  · skip
    refine zs_iconst (pc := 34) C dX9_isSmall_34 (by decide) ?_
    exact zs_zret (pc := 35) C hr hlk dX9_isSmall_35 (by omega) ⟨rfl, by first | omega | (simp only [zuI_1, zuI_2, zuJ_1, zuJ_2, zuJ_3, zuP_1, zuP_2, zuP_3, zuC_1, zuC_2, reduceIte, Nat.reduceEqDiff, false_and, and_false, true_and, and_true, and_self, or_true, true_or, or_false, false_or]; omega)⟩
  · skip
    refine zs_aload_n (pc := 8) C dX9_isSmall_8 rfl ?_
    refine zs_getf (pc := 9) C dX9_isSmall_9 w_X9_7 f_10_0 (by decide) ?_
    refine zs_iload_n (pc := 12) C dX9_isSmall_12 rfl ?_
    refine zs_iald (r := 2057) (pc := 13) C dX9_isSmall_13 a_57 (by decide) (by omega) rfl (r_2057 _) (fun v13 e13 l13 u13 => ?_)
    refine zs_bipush (pc := 14) C dX9_isSmall_14 (by decide) (by decide) ?_
    refine zs_icmp_lt (tgt := 34) (pc := 16) C dX9_isSmall_16 (by decide) (fun h16 => ?_) (fun h16 => ?_)
    · skip
      refine zs_iconst (pc := 34) C dX9_isSmall_34 (by decide) ?_
      exact zs_zret (pc := 35) C hr hlk dX9_isSmall_35 (by omega) ⟨rfl, by first | omega | (simp only [zuI_1, zuI_2, zuJ_1, zuJ_2, zuJ_3, zuP_1, zuP_2, zuP_3, zuC_1, zuC_2, reduceIte, Nat.reduceEqDiff, false_and, and_false, true_and, and_true, and_self, or_true, true_or, or_false, false_or]; omega)⟩
    · skip
      refine zs_aload_n (pc := 19) C dX9_isSmall_19 rfl ?_
      refine zs_getf (pc := 20) C dX9_isSmall_20 w_X9_7 f_10_0 (by decide) ?_
      refine zs_iload_n (pc := 23) C dX9_isSmall_23 rfl ?_
      refine zs_iald (r := 2057) (pc := 24) C dX9_isSmall_24 a_57 (by decide) (by omega) rfl (r_2057 _) (fun v24 e24 l24 u24 => ?_)
      refine zs_bipush (pc := 25) C dX9_isSmall_25 (by decide) (by decide) ?_
      refine zs_icmp_gt (tgt := 34) (pc := 27) C dX9_isSmall_27 (by decide) (fun h27 => ?_) (fun h27 => ?_)
      · skip
        refine zs_iconst (pc := 34) C dX9_isSmall_34 (by decide) ?_
        exact zs_zret (pc := 35) C hr hlk dX9_isSmall_35 (by omega) ⟨rfl, by first | omega | (simp only [zuI_1, zuI_2, zuJ_1, zuJ_2, zuJ_3, zuP_1, zuP_2, zuP_3, zuC_1, zuC_2, reduceIte, Nat.reduceEqDiff, false_and, and_false, true_and, and_true, and_self, or_true, true_or, or_false, false_or]; omega)⟩
      · skip
        refine zs_iconst (pc := 30) C dX9_isSmall_30 (by decide) ?_
        refine zs_goto (tgt := 35) (pc := 31) C dX9_isSmall_31 (by decide) ?_
        exact zs_zret (pc := 35) C hr hlk dX9_isSmall_35 (by omega) ⟨rfl, by first | omega | (simp only [zuI_1, zuI_2, zuJ_1, zuJ_2, zuJ_3, zuP_1, zuP_2, zuP_3, zuC_1, zuC_2, reduceIte, Nat.reduceEqDiff, false_and, and_false, true_and, and_true, and_self, or_true, true_or, or_false, false_or]; omega)⟩

set_option maxHeartbeats 4000000 in
set_option maxRecDepth 100000 in
theorem c_X9_isDigit {l : Launch} {Γ : zΓ} {G : zH} {w : Nat} {a : Int} (hX : zXs Γ) (ha : 0 ≤ a ∧ a ≤ 700) : zMet l Γ yX9_isDigit cX9_isDigit 2 (some .boolean) 0 [zr 10 w, zi a] G (zpi (fun x G' => G' = G ∧ ((x = 0 ∨ x = 1) ∧ (x = 1 ↔ a < G.1 1006 w 0 ∧ 48 ≤ G.1 2057 (Γ.2.1 w 0) a.toNat ∧ G.1 2057 (Γ.2.1 w 0) a.toNat ≤ 57)))) := by
  refine zMet_of RX9 hX (by decide) rfl (Nat.le_of_ble_eq_true rfl) ?_
  intro p e s m args below meth c C hr hlk
  show Z p l e (zrm 0) s m args below meth c Γ 2 0 0 (MQ below (zQc Γ (zpi (fun x G' => G' = G ∧ ((x = 0 ∨ x = 1) ∧ (x = 1 ↔ a < G.1 1006 w 0 ∧ 48 ≤ G.1 2057 (Γ.2.1 w 0) a.toNat ∧ G.1 2057 (Γ.2.1 w 0) a.toNat ≤ 57))))) args s 0 0 (zA Γ)) 0 [some (zr 10 w), some (zi a)] [] G
  refine zs_loc 1 rfl (fun ha1 hb1 => ?_)
  refine zs_iload_n (pc := 0) C dX9_isDigit_0 rfl ?_
  refine zs_aload_n (pc := 1) C dX9_isDigit_1 rfl ?_
  refine zs_geti (r := 1006) (pc := 2) C dX9_isDigit_2 w_X9_190 f_10_6 rfl (r_1006 0) (fun v2 e2 l2 u2 => ?_)
  refine zs_icmp_ge (tgt := 34) (pc := 5) C dX9_isDigit_5 (by decide) (fun h5 => ?_) (fun h5 => ?_)
  · skip
    refine zs_iconst (pc := 34) C dX9_isDigit_34 (by decide) ?_
    exact zs_zret (pc := 35) C hr hlk dX9_isDigit_35 (by omega) ⟨rfl, by first | omega | (simp only [zuI_1, zuI_2, zuJ_1, zuJ_2, zuJ_3, zuP_1, zuP_2, zuP_3, zuC_1, zuC_2, reduceIte, Nat.reduceEqDiff, false_and, and_false, true_and, and_true, and_self, or_true, true_or, or_false, false_or]; omega)⟩
  · skip
    refine zs_aload_n (pc := 8) C dX9_isDigit_8 rfl ?_
    refine zs_getf (pc := 9) C dX9_isDigit_9 w_X9_7 f_10_0 (by decide) ?_
    refine zs_iload_n (pc := 12) C dX9_isDigit_12 rfl ?_
    refine zs_iald (r := 2057) (pc := 13) C dX9_isDigit_13 a_57 (by decide) (by omega) rfl (r_2057 _) (fun v13 e13 l13 u13 => ?_)
    refine zs_bipush (pc := 14) C dX9_isDigit_14 (by decide) (by decide) ?_
    refine zs_icmp_lt (tgt := 34) (pc := 16) C dX9_isDigit_16 (by decide) (fun h16 => ?_) (fun h16 => ?_)
    · skip
      refine zs_iconst (pc := 34) C dX9_isDigit_34 (by decide) ?_
      exact zs_zret (pc := 35) C hr hlk dX9_isDigit_35 (by omega) ⟨rfl, by first | omega | (simp only [zuI_1, zuI_2, zuJ_1, zuJ_2, zuJ_3, zuP_1, zuP_2, zuP_3, zuC_1, zuC_2, reduceIte, Nat.reduceEqDiff, false_and, and_false, true_and, and_true, and_self, or_true, true_or, or_false, false_or]; omega)⟩
    · skip
      refine zs_aload_n (pc := 19) C dX9_isDigit_19 rfl ?_
      refine zs_getf (pc := 20) C dX9_isDigit_20 w_X9_7 f_10_0 (by decide) ?_
      refine zs_iload_n (pc := 23) C dX9_isDigit_23 rfl ?_
      refine zs_iald (r := 2057) (pc := 24) C dX9_isDigit_24 a_57 (by decide) (by omega) rfl (r_2057 _) (fun v24 e24 l24 u24 => ?_)
      refine zs_bipush (pc := 25) C dX9_isDigit_25 (by decide) (by decide) ?_
      refine zs_icmp_gt (tgt := 34) (pc := 27) C dX9_isDigit_27 (by decide) (fun h27 => ?_) (fun h27 => ?_)
      · skip
        refine zs_iconst (pc := 34) C dX9_isDigit_34 (by decide) ?_
        exact zs_zret (pc := 35) C hr hlk dX9_isDigit_35 (by omega) ⟨rfl, by first | omega | (simp only [zuI_1, zuI_2, zuJ_1, zuJ_2, zuJ_3, zuP_1, zuP_2, zuP_3, zuC_1, zuC_2, reduceIte, Nat.reduceEqDiff, false_and, and_false, true_and, and_true, and_self, or_true, true_or, or_false, false_or]; omega)⟩
      · skip
        refine zs_iconst (pc := 30) C dX9_isDigit_30 (by decide) ?_
        refine zs_goto (tgt := 35) (pc := 31) C dX9_isDigit_31 (by decide) ?_
        exact zs_zret (pc := 35) C hr hlk dX9_isDigit_35 (by omega) ⟨rfl, by first | omega | (simp only [zuI_1, zuI_2, zuJ_1, zuJ_2, zuJ_3, zuP_1, zuP_2, zuP_3, zuC_1, zuC_2, reduceIte, Nat.reduceEqDiff, false_and, and_false, true_and, and_true, and_self, or_true, true_or, or_false, false_or]; omega)⟩

