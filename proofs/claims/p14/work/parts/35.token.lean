section
def wsp : Nat → Bool := fun k => zWD.getD k 32 == 32
theorem wsp_120 : zct wsp 120 = 23 := by decide +kernel
theorem wd_120 : zWD.getD 120 32 = 32 := by decide +kernel
theorem wd_eta (i : Nat) : zrg 2058 i = ((zrg 2058 i).1, (zrg 2058 i).2) := rfl
theorem wd_at {i : Nat} {v : Int} (h1 : (zrg 2058 i).1 ≤ v) (h2 : v ≤ (zrg 2058 i).2) : v = zWD.getD i 32 := by
  have e : zrg 2058 i = zcl (zWD.getD i 32, zWD.getD i 32) := rfl
  rw [e] at h1 h2
  simp only [zcl] at h1 h2
  omega
theorem wsp_s {x3 : Int} {i : Int} {v : Int} (h : x3 = zct wsp i.toNat) (h0 : 0 ≤ i) (hv : v = zWD.getD i.toNat 32) : (v ≠ 32 → x3 = zct wsp (i + 1).toNat) ∧ (v = 32 → x3 + 1 = zct wsp (i + 1).toNat) := by
  rw [show (i + 1).toNat = i.toNat + 1 by omega, zct_s, ← h]
  unfold wsp
  rw [← hv]
  constructor
  · intro q
    rw [if_neg (by simpa using q)]
    omega
  · intro q
    rw [if_pos (by simpa using q)]
theorem wsp_b {i : Int} (h : i ≤ 120) : 0 ≤ zct wsp i.toNat ∧ zct wsp i.toNat ≤ 23 := by
  have h1 := zct_mono wsp (n := i.toNat) (m := 120) (by omega)
  rw [wsp_120] at h1
  exact ⟨(zct_le wsp _).1, h1⟩

set_option maxHeartbeats 4000000 in
set_option maxRecDepth 100000 in
theorem c_X9_isSmall {l : Launch} {Γ : zΓ} {G : zH} {w : Nat} {a : Int} (hX : zXs Γ) (ha : 0 ≤ a ∧ a ≤ 700) : zMet l Γ yX9_isSmall cX9_isSmall 2 (some .boolean) 0 [zr 10 w, zi a] G (zpi (fun x G' => G' = G ∧ ((x = 0 ∨ x = 1) ∧ (x = 1 ↔ a < G.1 1006 w 0 ∧ 97 ≤ G.1 2057 (Γ.2.1 w 0) a.toNat ∧ G.1 2057 (Γ.2.1 w 0) a.toNat ≤ 122)))) := by
  refine zMet_of RX9 hX (by decide) rfl (Nat.le_of_ble_eq_true rfl) ?_
  intro p e s m args below meth c C hr hlk
  show Z p l e (zrm 0) s m args below meth c Γ 2 0 0 (MQ below (zQc Γ (zpi (fun x G' => G' = G ∧ ((x = 0 ∨ x = 1) ∧ (x = 1 ↔ a < G.1 1006 w 0 ∧ 97 ≤ G.1 2057 (Γ.2.1 w 0) a.toNat ∧ G.1 2057 (Γ.2.1 w 0) a.toNat ≤ 122))))) args s 0 0 (zA Γ)) 0 [some (zr 10 w), some (zi a)] [] G
  refine zs_loc 1 rfl (fun ha1 hb1 => ?_)
  refine zs_iload_n (pc := 0) C dX9_isSmall_0 rfl ?_
  refine zs_aload_n (pc := 1) C dX9_isSmall_1 rfl ?_
  refine zs_geti (r := 1006) (pc := 2) C dX9_isSmall_2 w_X9_190 f_10_6 rfl (r_1006 0) (fun v2 e2 l2 u2 => ?_)
  refine zs_icmp_ge (tgt := 34) (pc := 5) C dX9_isSmall_5 (by decide) (fun h5 => ?_) (fun h5 => ?_)
  · skip
    refine zs_iconst (pc := 34) C dX9_isSmall_34 (by decide) ?_
    exact zs_zret (pc := 35) C hr hlk dX9_isSmall_35 (by omega) ⟨rfl, by first | omega | (simp only [zuI_1, zuI_2, zuJ_1, zuJ_2, zuJ_3, zuP_1, zuP_2, zuP_3, zuC_1, zuC_2, reduceIte, Nat.reduceEqDiff, false_and, and_false, true_and, and_true, and_self, or_true, true_or, or_false, false_or]; omega)⟩
  · skip
    refine zs_aload_n (pc := 8) C dX9_isSmall_8 rfl ?_
    refine zs_getf (pc := 9) C dX9_isSmall_9 w_X9_7 f_10_0 (by decide) ?_
    refine zs_iload_n (pc := 12) C dX9_isSmall_12 rfl ?_
    refine zs_iald (r := 2057) (pc := 13) C dX9_isSmall_13 a_57 (by decide) (by omega) rfl (r_2057 _) (fun v13 e13 l13 u13 => ?_)
    refine zs_bipush (pc := 14) C dX9_isSmall_14 (by decide) (by decide) ?_
    refine zs_icmp_lt (tgt := 34) (pc := 16) C dX9_isSmall_16 (by decide) (fun h16 => ?_) (fun h16 => ?_)
    · skip
      refine zs_iconst (pc := 34) C dX9_isSmall_34 (by decide) ?_
      exact zs_zret (pc := 35) C hr hlk dX9_isSmall_35 (by omega) ⟨rfl, by first | omega | (simp only [zuI_1, zuI_2, zuJ_1, zuJ_2, zuJ_3, zuP_1, zuP_2, zuP_3, zuC_1, zuC_2, reduceIte, Nat.reduceEqDiff, false_and, and_false, true_and, and_true, and_self, or_true, true_or, or_false, false_or]; omega)⟩
    · skip
      refine zs_aload_n (pc := 19) C dX9_isSmall_19 rfl ?_
      refine zs_getf (pc := 20) C dX9_isSmall_20 w_X9_7 f_10_0 (by decide) ?_
      refine zs_iload_n (pc := 23) C dX9_isSmall_23 rfl ?_
      refine zs_iald (r := 2057) (pc := 24) C dX9_isSmall_24 a_57 (by decide) (by omega) rfl (r_2057 _) (fun v24 e24 l24 u24 => ?_)
      refine zs_bipush (pc := 25) C dX9_isSmall_25 (by decide) (by decide) ?_
      refine zs_icmp_gt (tgt := 34) (pc := 27) C dX9_isSmall_27 (by decide) (fun h27 => ?_) (fun h27 => ?_)
      · skip
        refine zs_iconst (pc := 34) C dX9_isSmall_34 (by decide) ?_
        exact zs_zret (pc := 35) C hr hlk dX9_isSmall_35 (by omega) ⟨rfl, by first | omega | (simp only [zuI_1, zuI_2, zuJ_1, zuJ_2, zuJ_3, zuP_1, zuP_2, zuP_3, zuC_1, zuC_2, reduceIte, Nat.reduceEqDiff, false_and, and_false, true_and, and_true, and_self, or_true, true_or, or_false, false_or]; omega)⟩
      · skip
        refine zs_iconst (pc := 30) C dX9_isSmall_30 (by decide) ?_
        refine zs_goto (tgt := 35) (pc := 31) C dX9_isSmall_31 (by decide) ?_
        exact zs_zret (pc := 35) C hr hlk dX9_isSmall_35 (by omega) ⟨rfl, by first | omega | (simp only [zuI_1, zuI_2, zuJ_1, zuJ_2, zuJ_3, zuP_1, zuP_2, zuP_3, zuC_1, zuC_2, reduceIte, Nat.reduceEqDiff, false_and, and_false, true_and, and_true, and_self, or_true, true_or, or_false, false_or]; omega)⟩

set_option maxHeartbeats 4000000 in
set_option maxRecDepth 100000 in
theorem c_X9_isDigit {l : Launch} {Γ : zΓ} {G : zH} {w : Nat} {a : Int} (hX : zXs Γ) (ha : 0 ≤ a ∧ a ≤ 700) : zMet l Γ yX9_isDigit cX9_isDigit 2 (some .boolean) 0 [zr 10 w, zi a] G (zpi (fun x G' => G' = G ∧ ((x = 0 ∨ x = 1) ∧ (x = 1 ↔ a < G.1 1006 w 0 ∧ 48 ≤ G.1 2057 (Γ.2.1 w 0) a.toNat ∧ G.1 2057 (Γ.2.1 w 0) a.toNat ≤ 57)))) := by
  refine zMet_of RX9 hX (by decide) rfl (Nat.le_of_ble_eq_true rfl) ?_
  intro p e s m args below meth c C hr hlk
  show Z p l e (zrm 0) s m args below meth c Γ 2 0 0 (MQ below (zQc Γ (zpi (fun x G' => G' = G ∧ ((x = 0 ∨ x = 1) ∧ (x = 1 ↔ a < G.1 1006 w 0 ∧ 48 ≤ G.1 2057 (Γ.2.1 w 0) a.toNat ∧ G.1 2057 (Γ.2.1 w 0) a.toNat ≤ 57))))) args s 0 0 (zA Γ)) 0 [some (zr 10 w), some (zi a)] [] G
  refine zs_loc 1 rfl (fun ha1 hb1 => ?_)
  refine zs_iload_n (pc := 0) C dX9_isDigit_0 rfl ?_
  refine zs_aload_n (pc := 1) C dX9_isDigit_1 rfl ?_
  refine zs_geti (r := 1006) (pc := 2) C dX9_isDigit_2 w_X9_190 f_10_6 rfl (r_1006 0) (fun v2 e2 l2 u2 => ?_)
  refine zs_icmp_ge (tgt := 34) (pc := 5) C dX9_isDigit_5 (by decide) (fun h5 => ?_) (fun h5 => ?_)
  · skip
    refine zs_iconst (pc := 34) C dX9_isDigit_34 (by decide) ?_
    exact zs_zret (pc := 35) C hr hlk dX9_isDigit_35 (by omega) ⟨rfl, by first | omega | (simp only [zuI_1, zuI_2, zuJ_1, zuJ_2, zuJ_3, zuP_1, zuP_2, zuP_3, zuC_1, zuC_2, reduceIte, Nat.reduceEqDiff, false_and, and_false, true_and, and_true, and_self, or_true, true_or, or_false, false_or]; omega)⟩
  · skip
    refine zs_aload_n (pc := 8) C dX9_isDigit_8 rfl ?_
    refine zs_getf (pc := 9) C dX9_isDigit_9 w_X9_7 f_10_0 (by decide) ?_
    refine zs_iload_n (pc := 12) C dX9_isDigit_12 rfl ?_
    refine zs_iald (r := 2057) (pc := 13) C dX9_isDigit_13 a_57 (by decide) (by omega) rfl (r_2057 _) (fun v13 e13 l13 u13 => ?_)
    refine zs_bipush (pc := 14) C dX9_isDigit_14 (by decide) (by decide) ?_
    refine zs_icmp_lt (tgt := 34) (pc := 16) C dX9_isDigit_16 (by decide) (fun h16 => ?_) (fun h16 => ?_)
    · skip
      refine zs_iconst (pc := 34) C dX9_isDigit_34 (by decide) ?_
      exact zs_zret (pc := 35) C hr hlk dX9_isDigit_35 (by omega) ⟨rfl, by first | omega | (simp only [zuI_1, zuI_2, zuJ_1, zuJ_2, zuJ_3, zuP_1, zuP_2, zuP_3, zuC_1, zuC_2, reduceIte, Nat.reduceEqDiff, false_and, and_false, true_and, and_true, and_self, or_true, true_or, or_false, false_or]; omega)⟩
    · skip
      refine zs_aload_n (pc := 19) C dX9_isDigit_19 rfl ?_
      refine zs_getf (pc := 20) C dX9_isDigit_20 w_X9_7 f_10_0 (by decide) ?_
      refine zs_iload_n (pc := 23) C dX9_isDigit_23 rfl ?_
      refine zs_iald (r := 2057) (pc := 24) C dX9_isDigit_24 a_57 (by decide) (by omega) rfl (r_2057 _) (fun v24 e24 l24 u24 => ?_)
      refine zs_bipush (pc := 25) C dX9_isDigit_25 (by decide) (by decide) ?_
      refine zs_icmp_gt (tgt := 34) (pc := 27) C dX9_isDigit_27 (by decide) (fun h27 => ?_) (fun h27 => ?_)
      · skip
        refine zs_iconst (pc := 34) C dX9_isDigit_34 (by decide) ?_
        exact zs_zret (pc := 35) C hr hlk dX9_isDigit_35 (by omega) ⟨rfl, by first | omega | (simp only [zuI_1, zuI_2, zuJ_1, zuJ_2, zuJ_3, zuP_1, zuP_2, zuP_3, zuC_1, zuC_2, reduceIte, Nat.reduceEqDiff, false_and, and_false, true_and, and_true, and_self, or_true, true_or, or_false, false_or]; omega)⟩
      · skip
        refine zs_iconst (pc := 30) C dX9_isDigit_30 (by decide) ?_
        refine zs_goto (tgt := 35) (pc := 31) C dX9_isDigit_31 (by decide) ?_
        exact zs_zret (pc := 35) C hr hlk dX9_isDigit_35 (by omega) ⟨rfl, by first | omega | (simp only [zuI_1, zuI_2, zuJ_1, zuJ_2, zuJ_3, zuP_1, zuP_2, zuP_3, zuC_1, zuC_2, reduceIte, Nat.reduceEqDiff, false_and, and_false, true_and, and_true, and_self, or_true, true_or, or_false, false_or]; omega)⟩
end
section
/-- what holds of a token that is read -/
def TI (w : Nat) (G : zH) : Prop := (G.1 1007 w 0 ≤ G.1 1006 w 0 ∧ G.1 1010 w 0 ≤ G.1 1007 w 0 ∧ (G.1 1008 w 0 ≠ 0 → G.1 1010 w 0 < G.1 1007 w 0) ∧ ((G.1 1008 w 0 = 5 → 0 ≤ G.1 1009 w 0 ∧ G.1 1009 w 0 ≤ 5) ∧ (G.1 1008 w 0 = 1 → 0 ≤ G.1 1009 w 0 ∧ G.1 1009 w 0 ≤ 23) ∧ (G.1 1008 w 0 = 3 → 0 ≤ G.1 1009 w 0)))
theorem TI_sm {w : Nat} {G G1 : zH} {rs : List Nat} (h : zsm rs G G1) (hr : 1006 ∉ rs ∧ 1007 ∉ rs ∧ 1008 ∉ rs ∧ 1009 ∉ rs ∧ 1010 ∉ rs) (hT : TI w G) : TI w G1 := by
  obtain ⟨h1, h2, h3, h4, h5⟩ := hr
  unfold TI
  rw [h.1 _ h1, h.1 _ h2, h.1 _ h3, h.1 _ h4, h.1 _ h5]
  exact hT
theorem TI_I {w : Nat} {G : zH} {r a i : Nat} {x : Int} (hr : r ≠ 1006 ∧ r ≠ 1007 ∧ r ≠ 1008 ∧ r ≠ 1009 ∧ r ≠ 1010) (hT : TI w G) : TI w (zuI G r a i x) :=
  TI_sm (rs := [r]) (zsm_I (by simp) zsm_rf) (by simp; omega) hT
end
section
def c3 (W : Nat → Int) (n : Nat) : Int := zct (fun i => decide (3 ≤ W i)) n
def c0 (W : Nat → Int) (n : Nat) : Int := zct (fun i => decide (W i < 2)) n
theorem c3_pop {W : Nat → Int} {n : Int} (h : 1 ≤ n) : (3 ≤ W (n - 1).toNat → c3 W n.toNat = c3 W (n - 1).toNat + 1) ∧ (W (n - 1).toNat < 3 → c3 W n.toNat = c3 W (n - 1).toNat) := by
  unfold c3
  rw [show n.toNat = (n - 1).toNat + 1 by omega, zct_s]
  constructor
  · intro q
    rw [if_pos (by simpa using q)]
  · intro q
    rw [if_neg (by simp only [decide_eq_true_eq]; omega)]
    omega
theorem c0_pop {W : Nat → Int} {n : Int} (h : 1 ≤ n) : (W (n - 1).toNat < 2 → c0 W n.toNat = c0 W (n - 1).toNat + 1) ∧ (2 ≤ W (n - 1).toNat → c0 W n.toNat = c0 W (n - 1).toNat) := by
  unfold c0
  rw [show n.toNat = (n - 1).toNat + 1 by omega, zct_s]
  constructor
  · intro q
    rw [if_pos (by simpa using q)]
  · intro q
    rw [if_neg (by simp only [decide_eq_true_eq]; omega)]
    omega
theorem MI_grow {Γ : zΓ} {w : Nat} {G : zH} {i : Nat} {k a b : Int} (hM : MI Γ w G) (hk : KOK k a b) : MI Γ w (zuI (zuI (zuI G 2074 (Γ.2.1 w 37) i k) 2075 (Γ.2.1 w 38) i a) 2076 (Γ.2.1 w 39) i b) := by
  refine ⟨fun j hj => ?_, fun j hj => ?_⟩
  · simp only [zuI_1, Nat.reduceEqDiff, false_and, if_false]
    exact hM.1 j hj
  · have h1 := hM.2 j hj
    simp only [zuI_1, Nat.reduceEqDiff, false_and, if_false, true_and]
    by_cases q : j = i
    · simp only [q, if_true]
      exact hk
    · simp only [q, if_false]
      exact h1
theorem c_push {G : zH} {a : Nat} {n k : Int} (h : 0 ≤ n) : (3 ≤ k → c3 ((zuI G 2077 a n.toNat k).1 2077 a) (n + 1).toNat = c3 (G.1 2077 a) n.toNat + 1) ∧ (k < 3 → c3 ((zuI G 2077 a n.toNat k).1 2077 a) (n + 1).toNat = c3 (G.1 2077 a) n.toNat) ∧ (k < 2 → c0 ((zuI G 2077 a n.toNat k).1 2077 a) (n + 1).toNat = c0 (G.1 2077 a) n.toNat + 1) ∧ (2 ≤ k → c0 ((zuI G 2077 a n.toNat k).1 2077 a) (n + 1).toNat = c0 (G.1 2077 a) n.toNat) := by
  have e1 : ∀ i, i < n.toNat → (zuI G 2077 a n.toNat k).1 2077 a i = G.1 2077 a i := fun i hi => by
    rw [zuI_1, if_neg (fun q => by omega)]
  have e2 : (zuI G 2077 a n.toNat k).1 2077 a n.toNat = k := by
    rw [zuI_1, if_pos ⟨rfl, rfl, rfl⟩]
  unfold c3 c0
  rw [show (n + 1).toNat = n.toNat + 1 by omega, zct_s, zct_s, e2, zct_cg (f := fun i => decide (3 ≤ (zuI G 2077 a n.toNat k).1 2077 a i)) (g := fun i => decide (3 ≤ G.1 2077 a i)) n.toNat (fun i hi => by rw [e1 i hi]), zct_cg (f := fun i => decide ((zuI G 2077 a n.toNat k).1 2077 a i < 2)) (g := fun i => decide (G.1 2077 a i < 2)) n.toNat (fun i hi => by rw [e1 i hi])]
  refine ⟨fun q => ?_, fun q => ?_, fun q => ?_, fun q => ?_⟩
  · rw [if_pos (by simpa using q)]
  · rw [if_neg (by simp only [decide_eq_true_eq]; omega)]; omega
  · rw [if_pos (by simpa using q)]
  · rw [if_neg (by simp only [decide_eq_true_eq]; omega)]; omega
end
section
theorem c3_le (W : Nat → Int) (n : Nat) : 0 ≤ c3 W n ∧ c3 W n ≤ n := zct_le _ n
theorem c0_le (W : Nat → Int) (n : Nat) : 0 ≤ c0 W n ∧ c0 W n ≤ n := zct_le _ n
/-- what holds of the stack of signs -/
def PI (Γ : zΓ) (w : Nat) (G : zH) : Prop := G.1 1043 w 0 = c3 (G.1 2077 (Γ.2.1 w 40)) (G.1 1042 w 0).toNat + 1 - G.1 1046 w 0 ∧ G.1 1044 w 0 = c0 (G.1 2077 (Γ.2.1 w 40)) (G.1 1042 w 0).toNat ∧ G.1 1045 w 0 = G.1 1021 w 0 + G.1 1042 w 0 - G.1 1044 w 0 ∧ (G.1 1046 w 0 = 0 → 1 ≤ G.1 1021 w 0)
theorem PI_sm {Γ : zΓ} {w : Nat} {G G1 : zH} {rs : List Nat} (h : zsm rs G G1) (hr : 1043 ∉ rs ∧ 2077 ∉ rs ∧ 1042 ∉ rs ∧ 1046 ∉ rs ∧ 1044 ∉ rs ∧ 1045 ∉ rs ∧ 1021 ∉ rs) (hQ : PI Γ w G) : PI Γ w G1 := by
  obtain ⟨h1, h2, h3, h4, h5, h6, h7⟩ := hr
  unfold PI
  rw [h.1 _ h1, h.1 _ h2, h.1 _ h3, h.1 _ h4, h.1 _ h5, h.1 _ h6, h.1 _ h7]
  exact hQ
theorem PI_I {Γ : zΓ} {w : Nat} {G : zH} {r a i : Nat} {x : Int} (hr : r ≠ 1043 ∧ r ≠ 2077 ∧ r ≠ 1042 ∧ r ≠ 1046 ∧ r ≠ 1044 ∧ r ≠ 1045 ∧ r ≠ 1021) (hQ : PI Γ w G) : PI Γ w (zuI G r a i x) :=
  PI_sm (rs := [r]) (zsm_I (by simp) zsm_rf) (by simp; omega) hQ
theorem PI_0 {Γ : zΓ} {w : Nat} {G : zH} (h1 : G.1 1042 w 0 = 0) (h2 : G.1 1043 w 0 = 0) (h3 : G.1 1044 w 0 = 0) (h4 : G.1 1046 w 0 = 1) (h5 : G.1 1045 w 0 = G.1 1021 w 0) : PI Γ w G := by
  have k3 := c3_le (G.1 2077 (Γ.2.1 w 40)) 0
  have k0 := c0_le (G.1 2077 (Γ.2.1 w 40)) 0
  unfold PI
  rw [h1]
  refine ⟨?_, ?_, ?_, fun q => ?_⟩
  · rw [show (0 : Int).toNat = 0 from rfl]; omega
  · rw [show (0 : Int).toNat = 0 from rfl]; omega
  · omega
  · omega
end
section
/-- what holds of the laws that are being read -/
def RC (Γ : zΓ) (w : Nat) (G : zH) : Prop := G.1 1045 w 0 = G.1 1021 w 0 ∧ ∀ j : Nat, 7 ≤ j → j < 14 → G.1 2071 (Γ.2.1 w 34) j = 1 → 1 ≤ G.1 2073 (Γ.2.1 w 36) j
theorem RC_sm {Γ : zΓ} {w : Nat} {G G1 : zH} {rs : List Nat} (h : zsm rs G G1) (hr : 1045 ∉ rs ∧ 1021 ∉ rs ∧ 2071 ∉ rs ∧ 2073 ∉ rs) (hC : RC Γ w G) : RC Γ w G1 := by
  obtain ⟨h1, h2, h3, h4⟩ := hr
  unfold RC
  rw [h.1 _ h1, h.1 _ h2, h.1 _ h3, h.1 _ h4]
  exact hC
theorem RC_I {Γ : zΓ} {w : Nat} {G : zH} {r a i : Nat} {x : Int} (hr : r ≠ 1045 ∧ r ≠ 1021 ∧ r ≠ 2071 ∧ r ≠ 2073) (hC : RC Γ w G) : RC Γ w (zuI G r a i x) :=
  RC_sm (rs := [r]) (zsm_I (by simp) zsm_rf) (by simp; omega) hC
theorem MI_h71 {Γ : zΓ} {w : Nat} {G : zH} {i : Nat} {x : Int} (hi : 7 ≤ i) (hM : MI Γ w G) : MI Γ w (zuI G 2071 (Γ.2.1 w 34) i x) := by
  refine ⟨fun k hk => ?_, fun j hj => ?_⟩
  · rw [zuI_1, zuI_1, if_neg (fun q => by omega), if_neg (fun q => by omega)]
    exact hM.1 k hk
  · rw [zuI_ne (show (2074 : Nat) ≠ 2071 by decide), zuI_ne (show (2075 : Nat) ≠ 2071 by decide), zuI_ne (show (2076 : Nat) ≠ 2071 by decide)]
    exact hM.2 j hj
theorem MI_h73 {Γ : zΓ} {w : Nat} {G : zH} {i : Nat} {x : Int} (hi : 7 ≤ i) (hM : MI Γ w G) : MI Γ w (zuI G 2073 (Γ.2.1 w 36) i x) := by
  refine ⟨fun k hk => ?_, fun j hj => ?_⟩
  · rw [zuI_1, zuI_1, if_neg (fun q => by omega), if_neg (fun q => by omega)]
    exact hM.1 k hk
  · rw [zuI_ne (show (2074 : Nat) ≠ 2073 by decide), zuI_ne (show (2075 : Nat) ≠ 2073 by decide), zuI_ne (show (2076 : Nat) ≠ 2073 by decide)]
    exact hM.2 j hj
theorem RC_law {Γ : zΓ} {w : Nat} {G G1 : zH} {rs : List Nat} {b i : Nat} {v x : Int} (h : zsm rs (zuI (zuI G 2071 (Γ.2.1 w 34) i 1) 2072 b i v) G1) (hr : 2071 ∉ rs ∧ 2073 ∉ rs) (hC : RC Γ w G) (hc : G1.1 1045 w 0 = G1.1 1021 w 0) (hx : 1 ≤ x) : RC Γ w (zuI G1 2073 (Γ.2.1 w 36) i x) := by
  refine ⟨?_, fun j h1 h2 => ?_⟩
  · rw [zuI_ne (show (1045 : Nat) ≠ 2073 by decide), zuI_ne (show (1021 : Nat) ≠ 2073 by decide)]
    exact hc
  · rw [zuI_ne (show (2071 : Nat) ≠ 2073 by decide), zuI_1]
    by_cases q : j = i
    · rw [if_pos ⟨rfl, rfl, q⟩]
      exact fun _ => hx
    · rw [if_neg (fun q2 => q q2.2.2), h.1 2071 hr.1, h.1 2073 hr.2, zuI_ne (show (2071 : Nat) ≠ 2072 by decide), zuI_ne (show (2073 : Nat) ≠ 2072 by decide), zuI_ne (show (2073 : Nat) ≠ 2071 by decide), zuI_1, if_neg (fun q2 => q q2.2.2)]
      exact hC.2 j h1 h2
end
section
/-- the laws from 7 up to n are not told -/
def LZ (Γ : zΓ) (w : Nat) (G : zH) (n : Int) : Prop := ∀ j : Nat, 7 ≤ j → (j : Int) < n → G.1 2071 (Γ.2.1 w 34) j = 0
theorem LZ_0 {Γ : zΓ} {w : Nat} {G : zH} : LZ Γ w G 7 := fun j h1 h2 => absurd h2 (by omega)
theorem LZ_s {Γ : zΓ} {w : Nat} {G : zH} {n : Int} (h0 : 0 ≤ n) (h : LZ Γ w G n) : LZ Γ w (zuI G 2071 (Γ.2.1 w 34) n.toNat 0) (n + 1) := by
  intro j h1 h2
  rw [zuI_1]
  split
  · rfl
  · next q => exact h j h1 (by
      rcases Int.lt_or_le (j : Int) n with q2 | q2
      · exact q2
      · exact absurd ⟨rfl, rfl, by omega⟩ q)
theorem RC_z {Γ : zΓ} {w : Nat} {G : zH} {n : Int} (hn : 14 ≤ n) (h : LZ Γ w G n) (hc : G.1 1045 w 0 = G.1 1021 w 0) : RC Γ w G := ⟨hc, fun j h1 h2 h3 => by rw [h j h1 (by omega)] at h3; exact absurd h3 (by decide)⟩
/-- a row whose first m places are those from n on -/
def CP (f g : Nat → Int) (n : Nat) (m : Int) : Prop := ∀ k : Nat, g k = if (k : Int) < m then f (n + k) else f k
theorem CP_0 {f : Nat → Int} {n : Nat} : CP f f n 0 := fun k => by rw [if_neg (by omega)]
theorem CP_s {f : Nat → Int} {G1 : zH} {r a : Nat} {n m v : Int} (h : CP f (G1.1 r a) n.toNat m) (h0 : 0 ≤ m) (h1 : m < n) (hv : v = G1.1 r a (n + m).toNat) : CP f ((zuI G1 r a m.toNat v).1 r a) n.toNat (m + 1) := by
  intro k
  rw [zuI_1]
  by_cases q : k = m.toNat
  · rw [if_pos ⟨rfl, rfl, q⟩, if_pos (by omega), hv, h, if_neg (by omega), show n.toNat + k = (n + m).toNat by omega]
  · rw [if_neg (fun q2 => q q2.2.2), h k]
    by_cases q2 : (k : Int) < m
    · rw [if_pos q2, if_pos (by omega)]
    · rw [if_neg q2, if_neg (by omega)]
theorem MI_keep {Γ : zΓ} {w : Nat} {G G1 : zH} (hM : MI Γ w G) (hC : RC Γ w G) (h71 : CP (G.1 2071 (Γ.2.1 w 34)) (G1.1 2071 (Γ.2.1 w 34)) 7 7) (h73 : CP (G.1 2073 (Γ.2.1 w 36)) (G1.1 2073 (Γ.2.1 w 36)) 7 7)
    (h74 : CP (G.1 2074 (Γ.2.1 w 37)) (G1.1 2074 (Γ.2.1 w 37)) 64 64) (h75 : CP (G.1 2075 (Γ.2.1 w 38)) (G1.1 2075 (Γ.2.1 w 38)) 64 64) (h76 : CP (G.1 2076 (Γ.2.1 w 39)) (G1.1 2076 (Γ.2.1 w 39)) 64 64) : MI Γ w G1 := by
  refine ⟨fun k hk => ?_, fun i hi => ?_⟩
  · rw [h71 k, h73 k, if_pos (by omega), if_pos (by omega)]
    exact hC.2 (7 + k) (by omega) (by omega)
  · rw [h74 i, h75 i, h76 i]
    by_cases q : (i : Int) < 64
    · rw [if_pos q, if_pos q, if_pos q]
      exact hM.2 (64 + i) (by omega)
    · rw [if_neg q, if_neg q, if_neg q]
      exact hM.2 i hi

set_option maxHeartbeats 4000000 in
set_option maxRecDepth 100000 in
theorem c_X9_copies59 {l : Launch} {Γ : zΓ} {G : zH} {a : Nat} {n : Int} (hX : zXs Γ) (hn : n = 4) : zMet l Γ yX9_copies cX9_copies 3 none 0 [zr 59 a, zi n] G (zpv (fun G' => zsm [2059] G G' ∧ CP (G.1 2059 a) (G'.1 2059 a) n.toNat n)) := by
  refine zMet_of RX9 hX (by decide) rfl (Nat.le_of_ble_eq_true rfl) ?_
  intro p e s m args below meth c C hr hlk
  show Z p l e (zrm 0) s m args below meth c Γ 3 0 0 (MQ below (zQc Γ (zpv (fun G' => zsm [2059] G G' ∧ CP (G.1 2059 a) (G'.1 2059 a) n.toNat n))) args s 0 0 (zA Γ)) 0 [some (zr 59 a), some (zi n), none] [] G
  refine zs_loc 1 rfl (fun ha1 hb1 => ?_)
  refine zs_iconst (pc := 0) C dX9_copies_0 (by decide) ?_
  refine zs_istore_n (pc := 1) C dX9_copies_1 (by decide) ?_
  dsimp only [zset, zclr, znone]
  have L2 : ∀ (nn : Nat) (x2 : Int) (G1 : zH), (0 ≤ x2 ∧ x2 ≤ n) → (zsm [2059] G G1) → (CP (G.1 2059 a) (G1.1 2059 a) n.toNat x2) → (n - x2).toNat < nn → Z p l e (zrm 0) s m args below meth c Γ 3 0 0 (MQ below (zQc Γ (zpv (fun G' => zsm [2059] G G' ∧ CP (G.1 2059 a) (G'.1 2059 a) n.toNat n))) args s 0 0 (zA Γ)) 2 [some (zr 59 a), some (zi n), some (zi x2)] [] G1 := by
    intro nn
    induction nn with
    | zero => intro x2 G1 h2_0 h2_1 h2_2 hm; exact absurd hm (Nat.not_lt_zero _)
    | succ nn ih2 =>
      intro x2 G1 h2_0 h2_1 h2_2 hm2
      refine zs_iload_n (pc := 2) C dX9_copies_2 rfl ?_
      refine zs_iload_n (pc := 3) C dX9_copies_3 rfl ?_
      refine zs_icmp_ge (tgt := 21) (pc := 4) C dX9_copies_4 (by decide) (fun h4 => ?_) (fun h4 => ?_)
      · skip
        exact zs_vret (pc := 21) C hr hlk dX9_copies_21 ⟨by repeat (first | exact zsm_rf | assumption | refine zsm_C (by decide) ?_ | refine zsm_I (by decide) ?_ | refine zsm_J ?_ | refine zsm_c (by assumption) (by decide) ?_), by have hx2 : x2 = n := (by omega); rw [hx2] at h2_2; exact h2_2⟩
      · skip
        have hoo1 := rs_2059 (n + x2).toNat
        have hoo2 := rs_2059 x2.toNat
        refine zs_aload_n (pc := 7) C dX9_copies_7 rfl ?_
        refine zs_iload_n (pc := 8) C dX9_copies_8 rfl ?_
        refine zs_aload_n (pc := 9) C dX9_copies_9 rfl ?_
        refine zs_iload_n (pc := 10) C dX9_copies_10 rfl ?_
        refine zs_iload_n (pc := 11) C dX9_copies_11 rfl ?_
        first | refine zs_iadd (pc := 12) C dX9_copies_12 (by omega) ?_ | refine zs_iaddF (pc := 12) C dX9_copies_12 (fun z12 hz121 hz122 => ?_)
        refine zs_iald (r := 2059) (pc := 13) C dX9_copies_13 a_59 (by decide) (by omega) rfl (show zrg 2059 (n + x2).toNat = ((zrg 2059 (n + x2).toNat).1, (zrg 2059 (n + x2).toNat).2) from rfl) (fun v13 e13 l13 u13 => ?_)
        refine zs_iast (r := 2059) (pc := 14) C dX9_copies_14 a_59 (by decide) (by omega) rfl (show zrg 2059 x2.toNat = ((zrg 2059 x2.toNat).1, (zrg 2059 x2.toNat).2) from rfl) (by omega) ?_
        first | refine zs_iinc (pc := 15) C dX9_copies_15 rfl (by decide) (by omega) ?_ | refine zs_iincF (pc := 15) C dX9_copies_15 rfl (by decide) (fun z15 hz151 hz152 => ?_)
        dsimp only [zset, zclr, znone]
        refine zs_goto (tgt := 2) (pc := 18) C dX9_copies_18 (by decide) ?_
        exact zs_wk (ih2 _ _ (by omega) (by repeat (first | exact zsm_rf | assumption | refine zsm_C (by decide) ?_ | refine zsm_I (by decide) ?_ | refine zsm_J ?_ | refine zsm_c (by assumption) (by decide) ?_)) (CP_s h2_2 (by omega) (by omega) e13) (by first | omega | (simp only [zuI_1, zuI_2, zuJ_1, zuJ_2, zuJ_3, zuP_1, zuP_2, zuP_3, zuC_1, zuC_2, reduceIte, Nat.reduceEqDiff, false_and, and_false, true_and, and_true, and_self, or_true, true_or, or_false, false_or]; omega))) (zwk_s rfl (zwk_s rfl (zwk_s rfl zwk_0)))
  exact zs_wk (L2 _ _ _ (by omega) zsm_rf CP_0 (Nat.lt_succ_self _)) (zwk_s rfl (zwk_s rfl (zwk_s rfl zwk_0)))

set_option maxHeartbeats 4000000 in
set_option maxRecDepth 100000 in
theorem c_X9_copies61 {l : Launch} {Γ : zΓ} {G : zH} {a : Nat} {n : Int} (hX : zXs Γ) (hn : n = 4) : zMet l Γ yX9_copies cX9_copies 3 none 0 [zr 61 a, zi n] G (zpv (fun G' => zsm [2061] G G' ∧ CP (G.1 2061 a) (G'.1 2061 a) n.toNat n)) := by
  refine zMet_of RX9 hX (by decide) rfl (Nat.le_of_ble_eq_true rfl) ?_
  intro p e s m args below meth c C hr hlk
  show Z p l e (zrm 0) s m args below meth c Γ 3 0 0 (MQ below (zQc Γ (zpv (fun G' => zsm [2061] G G' ∧ CP (G.1 2061 a) (G'.1 2061 a) n.toNat n))) args s 0 0 (zA Γ)) 0 [some (zr 61 a), some (zi n), none] [] G
  refine zs_loc 1 rfl (fun ha1 hb1 => ?_)
  refine zs_iconst (pc := 0) C dX9_copies_0 (by decide) ?_
  refine zs_istore_n (pc := 1) C dX9_copies_1 (by decide) ?_
  dsimp only [zset, zclr, znone]
  have L2 : ∀ (nn : Nat) (x2 : Int) (G1 : zH), (0 ≤ x2 ∧ x2 ≤ n) → (zsm [2061] G G1) → (CP (G.1 2061 a) (G1.1 2061 a) n.toNat x2) → (n - x2).toNat < nn → Z p l e (zrm 0) s m args below meth c Γ 3 0 0 (MQ below (zQc Γ (zpv (fun G' => zsm [2061] G G' ∧ CP (G.1 2061 a) (G'.1 2061 a) n.toNat n))) args s 0 0 (zA Γ)) 2 [some (zr 61 a), some (zi n), some (zi x2)] [] G1 := by
    intro nn
    induction nn with
    | zero => intro x2 G1 h2_0 h2_1 h2_2 hm; exact absurd hm (Nat.not_lt_zero _)
    | succ nn ih2 =>
      intro x2 G1 h2_0 h2_1 h2_2 hm2
      refine zs_iload_n (pc := 2) C dX9_copies_2 rfl ?_
      refine zs_iload_n (pc := 3) C dX9_copies_3 rfl ?_
      refine zs_icmp_ge (tgt := 21) (pc := 4) C dX9_copies_4 (by decide) (fun h4 => ?_) (fun h4 => ?_)
      · skip
        exact zs_vret (pc := 21) C hr hlk dX9_copies_21 ⟨by repeat (first | exact zsm_rf | assumption | refine zsm_C (by decide) ?_ | refine zsm_I (by decide) ?_ | refine zsm_J ?_ | refine zsm_c (by assumption) (by decide) ?_), by have hx2 : x2 = n := (by omega); rw [hx2] at h2_2; exact h2_2⟩
      · skip
        refine zs_aload_n (pc := 7) C dX9_copies_7 rfl ?_
        refine zs_iload_n (pc := 8) C dX9_copies_8 rfl ?_
        refine zs_aload_n (pc := 9) C dX9_copies_9 rfl ?_
        refine zs_iload_n (pc := 10) C dX9_copies_10 rfl ?_
        refine zs_iload_n (pc := 11) C dX9_copies_11 rfl ?_
        first | refine zs_iadd (pc := 12) C dX9_copies_12 (by omega) ?_ | refine zs_iaddF (pc := 12) C dX9_copies_12 (fun z12 hz121 hz122 => ?_)
        refine zs_iald (r := 2061) (pc := 13) C dX9_copies_13 a_61 (by decide) (by omega) rfl (r_2061 _) (fun v13 e13 l13 u13 => ?_)
        refine zs_iast (r := 2061) (pc := 14) C dX9_copies_14 a_61 (by decide) (by omega) rfl (r_2061 _) (by omega) ?_
        first | refine zs_iinc (pc := 15) C dX9_copies_15 rfl (by decide) (by omega) ?_ | refine zs_iincF (pc := 15) C dX9_copies_15 rfl (by decide) (fun z15 hz151 hz152 => ?_)
        dsimp only [zset, zclr, znone]
        refine zs_goto (tgt := 2) (pc := 18) C dX9_copies_18 (by decide) ?_
        exact zs_wk (ih2 _ _ (by omega) (by repeat (first | exact zsm_rf | assumption | refine zsm_C (by decide) ?_ | refine zsm_I (by decide) ?_ | refine zsm_J ?_ | refine zsm_c (by assumption) (by decide) ?_)) (CP_s h2_2 (by omega) (by omega) e13) (by first | omega | (simp only [zuI_1, zuI_2, zuJ_1, zuJ_2, zuJ_3, zuP_1, zuP_2, zuP_3, zuC_1, zuC_2, reduceIte, Nat.reduceEqDiff, false_and, and_false, true_and, and_true, and_self, or_true, true_or, or_false, false_or]; omega))) (zwk_s rfl (zwk_s rfl (zwk_s rfl zwk_0)))
  exact zs_wk (L2 _ _ _ (by omega) zsm_rf CP_0 (Nat.lt_succ_self _)) (zwk_s rfl (zwk_s rfl (zwk_s rfl zwk_0)))

set_option maxHeartbeats 4000000 in
set_option maxRecDepth 100000 in
theorem c_X9_copies62 {l : Launch} {Γ : zΓ} {G : zH} {a : Nat} {n : Int} (hX : zXs Γ) (hn : n = 4) : zMet l Γ yX9_copies cX9_copies 3 none 0 [zr 62 a, zi n] G (zpv (fun G' => zsm [2062] G G' ∧ CP (G.1 2062 a) (G'.1 2062 a) n.toNat n)) := by
  refine zMet_of RX9 hX (by decide) rfl (Nat.le_of_ble_eq_true rfl) ?_
  intro p e s m args below meth c C hr hlk
  show Z p l e (zrm 0) s m args below meth c Γ 3 0 0 (MQ below (zQc Γ (zpv (fun G' => zsm [2062] G G' ∧ CP (G.1 2062 a) (G'.1 2062 a) n.toNat n))) args s 0 0 (zA Γ)) 0 [some (zr 62 a), some (zi n), none] [] G
  refine zs_loc 1 rfl (fun ha1 hb1 => ?_)
  refine zs_iconst (pc := 0) C dX9_copies_0 (by decide) ?_
  refine zs_istore_n (pc := 1) C dX9_copies_1 (by decide) ?_
  dsimp only [zset, zclr, znone]
  have L2 : ∀ (nn : Nat) (x2 : Int) (G1 : zH), (0 ≤ x2 ∧ x2 ≤ n) → (zsm [2062] G G1) → (CP (G.1 2062 a) (G1.1 2062 a) n.toNat x2) → (n - x2).toNat < nn → Z p l e (zrm 0) s m args below meth c Γ 3 0 0 (MQ below (zQc Γ (zpv (fun G' => zsm [2062] G G' ∧ CP (G.1 2062 a) (G'.1 2062 a) n.toNat n))) args s 0 0 (zA Γ)) 2 [some (zr 62 a), some (zi n), some (zi x2)] [] G1 := by
    intro nn
    induction nn with
    | zero => intro x2 G1 h2_0 h2_1 h2_2 hm; exact absurd hm (Nat.not_lt_zero _)
    | succ nn ih2 =>
      intro x2 G1 h2_0 h2_1 h2_2 hm2
      refine zs_iload_n (pc := 2) C dX9_copies_2 rfl ?_
      refine zs_iload_n (pc := 3) C dX9_copies_3 rfl ?_
      refine zs_icmp_ge (tgt := 21) (pc := 4) C dX9_copies_4 (by decide) (fun h4 => ?_) (fun h4 => ?_)
      · skip
        exact zs_vret (pc := 21) C hr hlk dX9_copies_21 ⟨by repeat (first | exact zsm_rf | assumption | refine zsm_C (by decide) ?_ | refine zsm_I (by decide) ?_ | refine zsm_J ?_ | refine zsm_c (by assumption) (by decide) ?_), by have hx2 : x2 = n := (by omega); rw [hx2] at h2_2; exact h2_2⟩
      · skip
        refine zs_aload_n (pc := 7) C dX9_copies_7 rfl ?_
        refine zs_iload_n (pc := 8) C dX9_copies_8 rfl ?_
        refine zs_aload_n (pc := 9) C dX9_copies_9 rfl ?_
        refine zs_iload_n (pc := 10) C dX9_copies_10 rfl ?_
        refine zs_iload_n (pc := 11) C dX9_copies_11 rfl ?_
        first | refine zs_iadd (pc := 12) C dX9_copies_12 (by omega) ?_ | refine zs_iaddF (pc := 12) C dX9_copies_12 (fun z12 hz121 hz122 => ?_)
        refine zs_iald (r := 2062) (pc := 13) C dX9_copies_13 a_62 (by decide) (by omega) rfl (r_2062 _) (fun v13 e13 l13 u13 => ?_)
        refine zs_iast (r := 2062) (pc := 14) C dX9_copies_14 a_62 (by decide) (by omega) rfl (r_2062 _) (by omega) ?_
        first | refine zs_iinc (pc := 15) C dX9_copies_15 rfl (by decide) (by omega) ?_ | refine zs_iincF (pc := 15) C dX9_copies_15 rfl (by decide) (fun z15 hz151 hz152 => ?_)
        dsimp only [zset, zclr, znone]
        refine zs_goto (tgt := 2) (pc := 18) C dX9_copies_18 (by decide) ?_
        exact zs_wk (ih2 _ _ (by omega) (by repeat (first | exact zsm_rf | assumption | refine zsm_C (by decide) ?_ | refine zsm_I (by decide) ?_ | refine zsm_J ?_ | refine zsm_c (by assumption) (by decide) ?_)) (CP_s h2_2 (by omega) (by omega) e13) (by first | omega | (simp only [zuI_1, zuI_2, zuJ_1, zuJ_2, zuJ_3, zuP_1, zuP_2, zuP_3, zuC_1, zuC_2, reduceIte, Nat.reduceEqDiff, false_and, and_false, true_and, and_true, and_self, or_true, true_or, or_false, false_or]; omega))) (zwk_s rfl (zwk_s rfl (zwk_s rfl zwk_0)))
  exact zs_wk (L2 _ _ _ (by omega) zsm_rf CP_0 (Nat.lt_succ_self _)) (zwk_s rfl (zwk_s rfl (zwk_s rfl zwk_0)))

set_option maxHeartbeats 4000000 in
set_option maxRecDepth 100000 in
theorem c_X9_copies63 {l : Launch} {Γ : zΓ} {G : zH} {a : Nat} {n : Int} (hX : zXs Γ) (hn : n = 5) : zMet l Γ yX9_copies cX9_copies 3 none 0 [zr 63 a, zi n] G (zpv (fun G' => zsm [2063] G G' ∧ CP (G.1 2063 a) (G'.1 2063 a) n.toNat n)) := by
  refine zMet_of RX9 hX (by decide) rfl (Nat.le_of_ble_eq_true rfl) ?_
  intro p e s m args below meth c C hr hlk
  show Z p l e (zrm 0) s m args below meth c Γ 3 0 0 (MQ below (zQc Γ (zpv (fun G' => zsm [2063] G G' ∧ CP (G.1 2063 a) (G'.1 2063 a) n.toNat n))) args s 0 0 (zA Γ)) 0 [some (zr 63 a), some (zi n), none] [] G
  refine zs_loc 1 rfl (fun ha1 hb1 => ?_)
  refine zs_iconst (pc := 0) C dX9_copies_0 (by decide) ?_
  refine zs_istore_n (pc := 1) C dX9_copies_1 (by decide) ?_
  dsimp only [zset, zclr, znone]
  have L2 : ∀ (nn : Nat) (x2 : Int) (G1 : zH), (0 ≤ x2 ∧ x2 ≤ n) → (zsm [2063] G G1) → (CP (G.1 2063 a) (G1.1 2063 a) n.toNat x2) → (n - x2).toNat < nn → Z p l e (zrm 0) s m args below meth c Γ 3 0 0 (MQ below (zQc Γ (zpv (fun G' => zsm [2063] G G' ∧ CP (G.1 2063 a) (G'.1 2063 a) n.toNat n))) args s 0 0 (zA Γ)) 2 [some (zr 63 a), some (zi n), some (zi x2)] [] G1 := by
    intro nn
    induction nn with
    | zero => intro x2 G1 h2_0 h2_1 h2_2 hm; exact absurd hm (Nat.not_lt_zero _)
    | succ nn ih2 =>
      intro x2 G1 h2_0 h2_1 h2_2 hm2
      refine zs_iload_n (pc := 2) C dX9_copies_2 rfl ?_
      refine zs_iload_n (pc := 3) C dX9_copies_3 rfl ?_
      refine zs_icmp_ge (tgt := 21) (pc := 4) C dX9_copies_4 (by decide) (fun h4 => ?_) (fun h4 => ?_)
      · skip
        exact zs_vret (pc := 21) C hr hlk dX9_copies_21 ⟨by repeat (first | exact zsm_rf | assumption | refine zsm_C (by decide) ?_ | refine zsm_I (by decide) ?_ | refine zsm_J ?_ | refine zsm_c (by assumption) (by decide) ?_), by have hx2 : x2 = n := (by omega); rw [hx2] at h2_2; exact h2_2⟩
      · skip
        refine zs_aload_n (pc := 7) C dX9_copies_7 rfl ?_
        refine zs_iload_n (pc := 8) C dX9_copies_8 rfl ?_
        refine zs_aload_n (pc := 9) C dX9_copies_9 rfl ?_
        refine zs_iload_n (pc := 10) C dX9_copies_10 rfl ?_
        refine zs_iload_n (pc := 11) C dX9_copies_11 rfl ?_
        first | refine zs_iadd (pc := 12) C dX9_copies_12 (by omega) ?_ | refine zs_iaddF (pc := 12) C dX9_copies_12 (fun z12 hz121 hz122 => ?_)
        refine zs_iald (r := 2063) (pc := 13) C dX9_copies_13 a_63 (by decide) (by omega) rfl (r_2063 _) (fun v13 e13 l13 u13 => ?_)
        refine zs_iast (r := 2063) (pc := 14) C dX9_copies_14 a_63 (by decide) (by omega) rfl (r_2063 _) (by omega) ?_
        first | refine zs_iinc (pc := 15) C dX9_copies_15 rfl (by decide) (by omega) ?_ | refine zs_iincF (pc := 15) C dX9_copies_15 rfl (by decide) (fun z15 hz151 hz152 => ?_)
        dsimp only [zset, zclr, znone]
        refine zs_goto (tgt := 2) (pc := 18) C dX9_copies_18 (by decide) ?_
        exact zs_wk (ih2 _ _ (by omega) (by repeat (first | exact zsm_rf | assumption | refine zsm_C (by decide) ?_ | refine zsm_I (by decide) ?_ | refine zsm_J ?_ | refine zsm_c (by assumption) (by decide) ?_)) (CP_s h2_2 (by omega) (by omega) e13) (by first | omega | (simp only [zuI_1, zuI_2, zuJ_1, zuJ_2, zuJ_3, zuP_1, zuP_2, zuP_3, zuC_1, zuC_2, reduceIte, Nat.reduceEqDiff, false_and, and_false, true_and, and_true, and_self, or_true, true_or, or_false, false_or]; omega))) (zwk_s rfl (zwk_s rfl (zwk_s rfl zwk_0)))
  exact zs_wk (L2 _ _ _ (by omega) zsm_rf CP_0 (Nat.lt_succ_self _)) (zwk_s rfl (zwk_s rfl (zwk_s rfl zwk_0)))

set_option maxHeartbeats 4000000 in
set_option maxRecDepth 100000 in
theorem c_X9_copies64 {l : Launch} {Γ : zΓ} {G : zH} {a : Nat} {n : Int} (hX : zXs Γ) (hn : n = 5) : zMet l Γ yX9_copies cX9_copies 3 none 0 [zr 64 a, zi n] G (zpv (fun G' => zsm [2064] G G' ∧ CP (G.1 2064 a) (G'.1 2064 a) n.toNat n)) := by
  refine zMet_of RX9 hX (by decide) rfl (Nat.le_of_ble_eq_true rfl) ?_
  intro p e s m args below meth c C hr hlk
  show Z p l e (zrm 0) s m args below meth c Γ 3 0 0 (MQ below (zQc Γ (zpv (fun G' => zsm [2064] G G' ∧ CP (G.1 2064 a) (G'.1 2064 a) n.toNat n))) args s 0 0 (zA Γ)) 0 [some (zr 64 a), some (zi n), none] [] G
  refine zs_loc 1 rfl (fun ha1 hb1 => ?_)
  refine zs_iconst (pc := 0) C dX9_copies_0 (by decide) ?_
  refine zs_istore_n (pc := 1) C dX9_copies_1 (by decide) ?_
  dsimp only [zset, zclr, znone]
  have L2 : ∀ (nn : Nat) (x2 : Int) (G1 : zH), (0 ≤ x2 ∧ x2 ≤ n) → (zsm [2064] G G1) → (CP (G.1 2064 a) (G1.1 2064 a) n.toNat x2) → (n - x2).toNat < nn → Z p l e (zrm 0) s m args below meth c Γ 3 0 0 (MQ below (zQc Γ (zpv (fun G' => zsm [2064] G G' ∧ CP (G.1 2064 a) (G'.1 2064 a) n.toNat n))) args s 0 0 (zA Γ)) 2 [some (zr 64 a), some (zi n), some (zi x2)] [] G1 := by
    intro nn
    induction nn with
    | zero => intro x2 G1 h2_0 h2_1 h2_2 hm; exact absurd hm (Nat.not_lt_zero _)
    | succ nn ih2 =>
      intro x2 G1 h2_0 h2_1 h2_2 hm2
      refine zs_iload_n (pc := 2) C dX9_copies_2 rfl ?_
      refine zs_iload_n (pc := 3) C dX9_copies_3 rfl ?_
      refine zs_icmp_ge (tgt := 21) (pc := 4) C dX9_copies_4 (by decide) (fun h4 => ?_) (fun h4 => ?_)
      · skip
        exact zs_vret (pc := 21) C hr hlk dX9_copies_21 ⟨by repeat (first | exact zsm_rf | assumption | refine zsm_C (by decide) ?_ | refine zsm_I (by decide) ?_ | refine zsm_J ?_ | refine zsm_c (by assumption) (by decide) ?_), by have hx2 : x2 = n := (by omega); rw [hx2] at h2_2; exact h2_2⟩
      · skip
        refine zs_aload_n (pc := 7) C dX9_copies_7 rfl ?_
        refine zs_iload_n (pc := 8) C dX9_copies_8 rfl ?_
        refine zs_aload_n (pc := 9) C dX9_copies_9 rfl ?_
        refine zs_iload_n (pc := 10) C dX9_copies_10 rfl ?_
        refine zs_iload_n (pc := 11) C dX9_copies_11 rfl ?_
        first | refine zs_iadd (pc := 12) C dX9_copies_12 (by omega) ?_ | refine zs_iaddF (pc := 12) C dX9_copies_12 (fun z12 hz121 hz122 => ?_)
        refine zs_iald (r := 2064) (pc := 13) C dX9_copies_13 a_64 (by decide) (by omega) rfl (r_2064 _) (fun v13 e13 l13 u13 => ?_)
        refine zs_iast (r := 2064) (pc := 14) C dX9_copies_14 a_64 (by decide) (by omega) rfl (r_2064 _) (by omega) ?_
        first | refine zs_iinc (pc := 15) C dX9_copies_15 rfl (by decide) (by omega) ?_ | refine zs_iincF (pc := 15) C dX9_copies_15 rfl (by decide) (fun z15 hz151 hz152 => ?_)
        dsimp only [zset, zclr, znone]
        refine zs_goto (tgt := 2) (pc := 18) C dX9_copies_18 (by decide) ?_
        exact zs_wk (ih2 _ _ (by omega) (by repeat (first | exact zsm_rf | assumption | refine zsm_C (by decide) ?_ | refine zsm_I (by decide) ?_ | refine zsm_J ?_ | refine zsm_c (by assumption) (by decide) ?_)) (CP_s h2_2 (by omega) (by omega) e13) (by first | omega | (simp only [zuI_1, zuI_2, zuJ_1, zuJ_2, zuJ_3, zuP_1, zuP_2, zuP_3, zuC_1, zuC_2, reduceIte, Nat.reduceEqDiff, false_and, and_false, true_and, and_true, and_self, or_true, true_or, or_false, false_or]; omega))) (zwk_s rfl (zwk_s rfl (zwk_s rfl zwk_0)))
  exact zs_wk (L2 _ _ _ (by omega) zsm_rf CP_0 (Nat.lt_succ_self _)) (zwk_s rfl (zwk_s rfl (zwk_s rfl zwk_0)))

set_option maxHeartbeats 4000000 in
set_option maxRecDepth 100000 in
theorem c_X9_copies65 {l : Launch} {Γ : zΓ} {G : zH} {a : Nat} {n : Int} (hX : zXs Γ) (hn : n = 20) : zMet l Γ yX9_copies cX9_copies 3 none 0 [zr 65 a, zi n] G (zpv (fun G' => zsm [2065] G G' ∧ CP (G.1 2065 a) (G'.1 2065 a) n.toNat n)) := by
  refine zMet_of RX9 hX (by decide) rfl (Nat.le_of_ble_eq_true rfl) ?_
  intro p e s m args below meth c C hr hlk
  show Z p l e (zrm 0) s m args below meth c Γ 3 0 0 (MQ below (zQc Γ (zpv (fun G' => zsm [2065] G G' ∧ CP (G.1 2065 a) (G'.1 2065 a) n.toNat n))) args s 0 0 (zA Γ)) 0 [some (zr 65 a), some (zi n), none] [] G
  refine zs_loc 1 rfl (fun ha1 hb1 => ?_)
  refine zs_iconst (pc := 0) C dX9_copies_0 (by decide) ?_
  refine zs_istore_n (pc := 1) C dX9_copies_1 (by decide) ?_
  dsimp only [zset, zclr, znone]
  have L2 : ∀ (nn : Nat) (x2 : Int) (G1 : zH), (0 ≤ x2 ∧ x2 ≤ n) → (zsm [2065] G G1) → (CP (G.1 2065 a) (G1.1 2065 a) n.toNat x2) → (n - x2).toNat < nn → Z p l e (zrm 0) s m args below meth c Γ 3 0 0 (MQ below (zQc Γ (zpv (fun G' => zsm [2065] G G' ∧ CP (G.1 2065 a) (G'.1 2065 a) n.toNat n))) args s 0 0 (zA Γ)) 2 [some (zr 65 a), some (zi n), some (zi x2)] [] G1 := by
    intro nn
    induction nn with
    | zero => intro x2 G1 h2_0 h2_1 h2_2 hm; exact absurd hm (Nat.not_lt_zero _)
    | succ nn ih2 =>
      intro x2 G1 h2_0 h2_1 h2_2 hm2
      refine zs_iload_n (pc := 2) C dX9_copies_2 rfl ?_
      refine zs_iload_n (pc := 3) C dX9_copies_3 rfl ?_
      refine zs_icmp_ge (tgt := 21) (pc := 4) C dX9_copies_4 (by decide) (fun h4 => ?_) (fun h4 => ?_)
      · skip
        exact zs_vret (pc := 21) C hr hlk dX9_copies_21 ⟨by repeat (first | exact zsm_rf | assumption | refine zsm_C (by decide) ?_ | refine zsm_I (by decide) ?_ | refine zsm_J ?_ | refine zsm_c (by assumption) (by decide) ?_), by have hx2 : x2 = n := (by omega); rw [hx2] at h2_2; exact h2_2⟩
      · skip
        refine zs_aload_n (pc := 7) C dX9_copies_7 rfl ?_
        refine zs_iload_n (pc := 8) C dX9_copies_8 rfl ?_
        refine zs_aload_n (pc := 9) C dX9_copies_9 rfl ?_
        refine zs_iload_n (pc := 10) C dX9_copies_10 rfl ?_
        refine zs_iload_n (pc := 11) C dX9_copies_11 rfl ?_
        first | refine zs_iadd (pc := 12) C dX9_copies_12 (by omega) ?_ | refine zs_iaddF (pc := 12) C dX9_copies_12 (fun z12 hz121 hz122 => ?_)
        refine zs_iald (r := 2065) (pc := 13) C dX9_copies_13 a_65 (by decide) (by omega) rfl (r_2065 _) (fun v13 e13 l13 u13 => ?_)
        refine zs_iast (r := 2065) (pc := 14) C dX9_copies_14 a_65 (by decide) (by omega) rfl (r_2065 _) (by omega) ?_
        first | refine zs_iinc (pc := 15) C dX9_copies_15 rfl (by decide) (by omega) ?_ | refine zs_iincF (pc := 15) C dX9_copies_15 rfl (by decide) (fun z15 hz151 hz152 => ?_)
        dsimp only [zset, zclr, znone]
        refine zs_goto (tgt := 2) (pc := 18) C dX9_copies_18 (by decide) ?_
        exact zs_wk (ih2 _ _ (by omega) (by repeat (first | exact zsm_rf | assumption | refine zsm_C (by decide) ?_ | refine zsm_I (by decide) ?_ | refine zsm_J ?_ | refine zsm_c (by assumption) (by decide) ?_)) (CP_s h2_2 (by omega) (by omega) e13) (by first | omega | (simp only [zuI_1, zuI_2, zuJ_1, zuJ_2, zuJ_3, zuP_1, zuP_2, zuP_3, zuC_1, zuC_2, reduceIte, Nat.reduceEqDiff, false_and, and_false, true_and, and_true, and_self, or_true, true_or, or_false, false_or]; omega))) (zwk_s rfl (zwk_s rfl (zwk_s rfl zwk_0)))
  exact zs_wk (L2 _ _ _ (by omega) zsm_rf CP_0 (Nat.lt_succ_self _)) (zwk_s rfl (zwk_s rfl (zwk_s rfl zwk_0)))

set_option maxHeartbeats 4000000 in
set_option maxRecDepth 100000 in
theorem c_X9_copies66 {l : Launch} {Γ : zΓ} {G : zH} {a : Nat} {n : Int} (hX : zXs Γ) (hn : n = 5) : zMet l Γ yX9_copies cX9_copies 3 none 0 [zr 66 a, zi n] G (zpv (fun G' => zsm [2066] G G' ∧ CP (G.1 2066 a) (G'.1 2066 a) n.toNat n)) := by
  refine zMet_of RX9 hX (by decide) rfl (Nat.le_of_ble_eq_true rfl) ?_
  intro p e s m args below meth c C hr hlk
  show Z p l e (zrm 0) s m args below meth c Γ 3 0 0 (MQ below (zQc Γ (zpv (fun G' => zsm [2066] G G' ∧ CP (G.1 2066 a) (G'.1 2066 a) n.toNat n))) args s 0 0 (zA Γ)) 0 [some (zr 66 a), some (zi n), none] [] G
  refine zs_loc 1 rfl (fun ha1 hb1 => ?_)
  refine zs_iconst (pc := 0) C dX9_copies_0 (by decide) ?_
  refine zs_istore_n (pc := 1) C dX9_copies_1 (by decide) ?_
  dsimp only [zset, zclr, znone]
  have L2 : ∀ (nn : Nat) (x2 : Int) (G1 : zH), (0 ≤ x2 ∧ x2 ≤ n) → (zsm [2066] G G1) → (CP (G.1 2066 a) (G1.1 2066 a) n.toNat x2) → (n - x2).toNat < nn → Z p l e (zrm 0) s m args below meth c Γ 3 0 0 (MQ below (zQc Γ (zpv (fun G' => zsm [2066] G G' ∧ CP (G.1 2066 a) (G'.1 2066 a) n.toNat n))) args s 0 0 (zA Γ)) 2 [some (zr 66 a), some (zi n), some (zi x2)] [] G1 := by
    intro nn
    induction nn with
    | zero => intro x2 G1 h2_0 h2_1 h2_2 hm; exact absurd hm (Nat.not_lt_zero _)
    | succ nn ih2 =>
      intro x2 G1 h2_0 h2_1 h2_2 hm2
      refine zs_iload_n (pc := 2) C dX9_copies_2 rfl ?_
      refine zs_iload_n (pc := 3) C dX9_copies_3 rfl ?_
      refine zs_icmp_ge (tgt := 21) (pc := 4) C dX9_copies_4 (by decide) (fun h4 => ?_) (fun h4 => ?_)
      · skip
        exact zs_vret (pc := 21) C hr hlk dX9_copies_21 ⟨by repeat (first | exact zsm_rf | assumption | refine zsm_C (by decide) ?_ | refine zsm_I (by decide) ?_ | refine zsm_J ?_ | refine zsm_c (by assumption) (by decide) ?_), by have hx2 : x2 = n := (by omega); rw [hx2] at h2_2; exact h2_2⟩
      · skip
        refine zs_aload_n (pc := 7) C dX9_copies_7 rfl ?_
        refine zs_iload_n (pc := 8) C dX9_copies_8 rfl ?_
        refine zs_aload_n (pc := 9) C dX9_copies_9 rfl ?_
        refine zs_iload_n (pc := 10) C dX9_copies_10 rfl ?_
        refine zs_iload_n (pc := 11) C dX9_copies_11 rfl ?_
        first | refine zs_iadd (pc := 12) C dX9_copies_12 (by omega) ?_ | refine zs_iaddF (pc := 12) C dX9_copies_12 (fun z12 hz121 hz122 => ?_)
        refine zs_iald (r := 2066) (pc := 13) C dX9_copies_13 a_66 (by decide) (by omega) rfl (r_2066 _) (fun v13 e13 l13 u13 => ?_)
        refine zs_iast (r := 2066) (pc := 14) C dX9_copies_14 a_66 (by decide) (by omega) rfl (r_2066 _) (by omega) ?_
        first | refine zs_iinc (pc := 15) C dX9_copies_15 rfl (by decide) (by omega) ?_ | refine zs_iincF (pc := 15) C dX9_copies_15 rfl (by decide) (fun z15 hz151 hz152 => ?_)
        dsimp only [zset, zclr, znone]
        refine zs_goto (tgt := 2) (pc := 18) C dX9_copies_18 (by decide) ?_
        exact zs_wk (ih2 _ _ (by omega) (by repeat (first | exact zsm_rf | assumption | refine zsm_C (by decide) ?_ | refine zsm_I (by decide) ?_ | refine zsm_J ?_ | refine zsm_c (by assumption) (by decide) ?_)) (CP_s h2_2 (by omega) (by omega) e13) (by first | omega | (simp only [zuI_1, zuI_2, zuJ_1, zuJ_2, zuJ_3, zuP_1, zuP_2, zuP_3, zuC_1, zuC_2, reduceIte, Nat.reduceEqDiff, false_and, and_false, true_and, and_true, and_self, or_true, true_or, or_false, false_or]; omega))) (zwk_s rfl (zwk_s rfl (zwk_s rfl zwk_0)))
  exact zs_wk (L2 _ _ _ (by omega) zsm_rf CP_0 (Nat.lt_succ_self _)) (zwk_s rfl (zwk_s rfl (zwk_s rfl zwk_0)))

set_option maxHeartbeats 4000000 in
set_option maxRecDepth 100000 in
theorem c_X9_copies67 {l : Launch} {Γ : zΓ} {G : zH} {a : Nat} {n : Int} (hX : zXs Γ) (hn : n = 5) : zMet l Γ yX9_copies cX9_copies 3 none 0 [zr 67 a, zi n] G (zpv (fun G' => zsm [2067] G G' ∧ CP (G.1 2067 a) (G'.1 2067 a) n.toNat n)) := by
  refine zMet_of RX9 hX (by decide) rfl (Nat.le_of_ble_eq_true rfl) ?_
  intro p e s m args below meth c C hr hlk
  show Z p l e (zrm 0) s m args below meth c Γ 3 0 0 (MQ below (zQc Γ (zpv (fun G' => zsm [2067] G G' ∧ CP (G.1 2067 a) (G'.1 2067 a) n.toNat n))) args s 0 0 (zA Γ)) 0 [some (zr 67 a), some (zi n), none] [] G
  refine zs_loc 1 rfl (fun ha1 hb1 => ?_)
  refine zs_iconst (pc := 0) C dX9_copies_0 (by decide) ?_
  refine zs_istore_n (pc := 1) C dX9_copies_1 (by decide) ?_
  dsimp only [zset, zclr, znone]
  have L2 : ∀ (nn : Nat) (x2 : Int) (G1 : zH), (0 ≤ x2 ∧ x2 ≤ n) → (zsm [2067] G G1) → (CP (G.1 2067 a) (G1.1 2067 a) n.toNat x2) → (n - x2).toNat < nn → Z p l e (zrm 0) s m args below meth c Γ 3 0 0 (MQ below (zQc Γ (zpv (fun G' => zsm [2067] G G' ∧ CP (G.1 2067 a) (G'.1 2067 a) n.toNat n))) args s 0 0 (zA Γ)) 2 [some (zr 67 a), some (zi n), some (zi x2)] [] G1 := by
    intro nn
    induction nn with
    | zero => intro x2 G1 h2_0 h2_1 h2_2 hm; exact absurd hm (Nat.not_lt_zero _)
    | succ nn ih2 =>
      intro x2 G1 h2_0 h2_1 h2_2 hm2
      refine zs_iload_n (pc := 2) C dX9_copies_2 rfl ?_
      refine zs_iload_n (pc := 3) C dX9_copies_3 rfl ?_
      refine zs_icmp_ge (tgt := 21) (pc := 4) C dX9_copies_4 (by decide) (fun h4 => ?_) (fun h4 => ?_)
      · skip
        exact zs_vret (pc := 21) C hr hlk dX9_copies_21 ⟨by repeat (first | exact zsm_rf | assumption | refine zsm_C (by decide) ?_ | refine zsm_I (by decide) ?_ | refine zsm_J ?_ | refine zsm_c (by assumption) (by decide) ?_), by have hx2 : x2 = n := (by omega); rw [hx2] at h2_2; exact h2_2⟩
      · skip
        refine zs_aload_n (pc := 7) C dX9_copies_7 rfl ?_
        refine zs_iload_n (pc := 8) C dX9_copies_8 rfl ?_
        refine zs_aload_n (pc := 9) C dX9_copies_9 rfl ?_
        refine zs_iload_n (pc := 10) C dX9_copies_10 rfl ?_
        refine zs_iload_n (pc := 11) C dX9_copies_11 rfl ?_
        first | refine zs_iadd (pc := 12) C dX9_copies_12 (by omega) ?_ | refine zs_iaddF (pc := 12) C dX9_copies_12 (fun z12 hz121 hz122 => ?_)
        refine zs_iald (r := 2067) (pc := 13) C dX9_copies_13 a_67 (by decide) (by omega) rfl (r_2067 _) (fun v13 e13 l13 u13 => ?_)
        refine zs_iast (r := 2067) (pc := 14) C dX9_copies_14 a_67 (by decide) (by omega) rfl (r_2067 _) (by omega) ?_
        first | refine zs_iinc (pc := 15) C dX9_copies_15 rfl (by decide) (by omega) ?_ | refine zs_iincF (pc := 15) C dX9_copies_15 rfl (by decide) (fun z15 hz151 hz152 => ?_)
        dsimp only [zset, zclr, znone]
        refine zs_goto (tgt := 2) (pc := 18) C dX9_copies_18 (by decide) ?_
        exact zs_wk (ih2 _ _ (by omega) (by repeat (first | exact zsm_rf | assumption | refine zsm_C (by decide) ?_ | refine zsm_I (by decide) ?_ | refine zsm_J ?_ | refine zsm_c (by assumption) (by decide) ?_)) (CP_s h2_2 (by omega) (by omega) e13) (by first | omega | (simp only [zuI_1, zuI_2, zuJ_1, zuJ_2, zuJ_3, zuP_1, zuP_2, zuP_3, zuC_1, zuC_2, reduceIte, Nat.reduceEqDiff, false_and, and_false, true_and, and_true, and_self, or_true, true_or, or_false, false_or]; omega))) (zwk_s rfl (zwk_s rfl (zwk_s rfl zwk_0)))
  exact zs_wk (L2 _ _ _ (by omega) zsm_rf CP_0 (Nat.lt_succ_self _)) (zwk_s rfl (zwk_s rfl (zwk_s rfl zwk_0)))

set_option maxHeartbeats 4000000 in
set_option maxRecDepth 100000 in
theorem c_X9_copies68 {l : Launch} {Γ : zΓ} {G : zH} {a : Nat} {n : Int} (hX : zXs Γ) (hn : n = 5) : zMet l Γ yX9_copies cX9_copies 3 none 0 [zr 68 a, zi n] G (zpv (fun G' => zsm [2068] G G' ∧ CP (G.1 2068 a) (G'.1 2068 a) n.toNat n)) := by
  refine zMet_of RX9 hX (by decide) rfl (Nat.le_of_ble_eq_true rfl) ?_
  intro p e s m args below meth c C hr hlk
  show Z p l e (zrm 0) s m args below meth c Γ 3 0 0 (MQ below (zQc Γ (zpv (fun G' => zsm [2068] G G' ∧ CP (G.1 2068 a) (G'.1 2068 a) n.toNat n))) args s 0 0 (zA Γ)) 0 [some (zr 68 a), some (zi n), none] [] G
  refine zs_loc 1 rfl (fun ha1 hb1 => ?_)
  refine zs_iconst (pc := 0) C dX9_copies_0 (by decide) ?_
  refine zs_istore_n (pc := 1) C dX9_copies_1 (by decide) ?_
  dsimp only [zset, zclr, znone]
  have L2 : ∀ (nn : Nat) (x2 : Int) (G1 : zH), (0 ≤ x2 ∧ x2 ≤ n) → (zsm [2068] G G1) → (CP (G.1 2068 a) (G1.1 2068 a) n.toNat x2) → (n - x2).toNat < nn → Z p l e (zrm 0) s m args below meth c Γ 3 0 0 (MQ below (zQc Γ (zpv (fun G' => zsm [2068] G G' ∧ CP (G.1 2068 a) (G'.1 2068 a) n.toNat n))) args s 0 0 (zA Γ)) 2 [some (zr 68 a), some (zi n), some (zi x2)] [] G1 := by
    intro nn
    induction nn with
    | zero => intro x2 G1 h2_0 h2_1 h2_2 hm; exact absurd hm (Nat.not_lt_zero _)
    | succ nn ih2 =>
      intro x2 G1 h2_0 h2_1 h2_2 hm2
      refine zs_iload_n (pc := 2) C dX9_copies_2 rfl ?_
      refine zs_iload_n (pc := 3) C dX9_copies_3 rfl ?_
      refine zs_icmp_ge (tgt := 21) (pc := 4) C dX9_copies_4 (by decide) (fun h4 => ?_) (fun h4 => ?_)
      · skip
        exact zs_vret (pc := 21) C hr hlk dX9_copies_21 ⟨by repeat (first | exact zsm_rf | assumption | refine zsm_C (by decide) ?_ | refine zsm_I (by decide) ?_ | refine zsm_J ?_ | refine zsm_c (by assumption) (by decide) ?_), by have hx2 : x2 = n := (by omega); rw [hx2] at h2_2; exact h2_2⟩
      · skip
        refine zs_aload_n (pc := 7) C dX9_copies_7 rfl ?_
        refine zs_iload_n (pc := 8) C dX9_copies_8 rfl ?_
        refine zs_aload_n (pc := 9) C dX9_copies_9 rfl ?_
        refine zs_iload_n (pc := 10) C dX9_copies_10 rfl ?_
        refine zs_iload_n (pc := 11) C dX9_copies_11 rfl ?_
        first | refine zs_iadd (pc := 12) C dX9_copies_12 (by omega) ?_ | refine zs_iaddF (pc := 12) C dX9_copies_12 (fun z12 hz121 hz122 => ?_)
        refine zs_iald (r := 2068) (pc := 13) C dX9_copies_13 a_68 (by decide) (by omega) rfl (r_2068 _) (fun v13 e13 l13 u13 => ?_)
        refine zs_iast (r := 2068) (pc := 14) C dX9_copies_14 a_68 (by decide) (by omega) rfl (r_2068 _) (by omega) ?_
        first | refine zs_iinc (pc := 15) C dX9_copies_15 rfl (by decide) (by omega) ?_ | refine zs_iincF (pc := 15) C dX9_copies_15 rfl (by decide) (fun z15 hz151 hz152 => ?_)
        dsimp only [zset, zclr, znone]
        refine zs_goto (tgt := 2) (pc := 18) C dX9_copies_18 (by decide) ?_
        exact zs_wk (ih2 _ _ (by omega) (by repeat (first | exact zsm_rf | assumption | refine zsm_C (by decide) ?_ | refine zsm_I (by decide) ?_ | refine zsm_J ?_ | refine zsm_c (by assumption) (by decide) ?_)) (CP_s h2_2 (by omega) (by omega) e13) (by first | omega | (simp only [zuI_1, zuI_2, zuJ_1, zuJ_2, zuJ_3, zuP_1, zuP_2, zuP_3, zuC_1, zuC_2, reduceIte, Nat.reduceEqDiff, false_and, and_false, true_and, and_true, and_self, or_true, true_or, or_false, false_or]; omega))) (zwk_s rfl (zwk_s rfl (zwk_s rfl zwk_0)))
  exact zs_wk (L2 _ _ _ (by omega) zsm_rf CP_0 (Nat.lt_succ_self _)) (zwk_s rfl (zwk_s rfl (zwk_s rfl zwk_0)))

set_option maxHeartbeats 4000000 in
set_option maxRecDepth 100000 in
theorem c_X9_copies69 {l : Launch} {Γ : zΓ} {G : zH} {a : Nat} {n : Int} (hX : zXs Γ) (hn : n = 5) : zMet l Γ yX9_copies cX9_copies 3 none 0 [zr 69 a, zi n] G (zpv (fun G' => zsm [2069] G G' ∧ CP (G.1 2069 a) (G'.1 2069 a) n.toNat n)) := by
  refine zMet_of RX9 hX (by decide) rfl (Nat.le_of_ble_eq_true rfl) ?_
  intro p e s m args below meth c C hr hlk
  show Z p l e (zrm 0) s m args below meth c Γ 3 0 0 (MQ below (zQc Γ (zpv (fun G' => zsm [2069] G G' ∧ CP (G.1 2069 a) (G'.1 2069 a) n.toNat n))) args s 0 0 (zA Γ)) 0 [some (zr 69 a), some (zi n), none] [] G
  refine zs_loc 1 rfl (fun ha1 hb1 => ?_)
  refine zs_iconst (pc := 0) C dX9_copies_0 (by decide) ?_
  refine zs_istore_n (pc := 1) C dX9_copies_1 (by decide) ?_
  dsimp only [zset, zclr, znone]
  have L2 : ∀ (nn : Nat) (x2 : Int) (G1 : zH), (0 ≤ x2 ∧ x2 ≤ n) → (zsm [2069] G G1) → (CP (G.1 2069 a) (G1.1 2069 a) n.toNat x2) → (n - x2).toNat < nn → Z p l e (zrm 0) s m args below meth c Γ 3 0 0 (MQ below (zQc Γ (zpv (fun G' => zsm [2069] G G' ∧ CP (G.1 2069 a) (G'.1 2069 a) n.toNat n))) args s 0 0 (zA Γ)) 2 [some (zr 69 a), some (zi n), some (zi x2)] [] G1 := by
    intro nn
    induction nn with
    | zero => intro x2 G1 h2_0 h2_1 h2_2 hm; exact absurd hm (Nat.not_lt_zero _)
    | succ nn ih2 =>
      intro x2 G1 h2_0 h2_1 h2_2 hm2
      refine zs_iload_n (pc := 2) C dX9_copies_2 rfl ?_
      refine zs_iload_n (pc := 3) C dX9_copies_3 rfl ?_
      refine zs_icmp_ge (tgt := 21) (pc := 4) C dX9_copies_4 (by decide) (fun h4 => ?_) (fun h4 => ?_)
      · skip
        exact zs_vret (pc := 21) C hr hlk dX9_copies_21 ⟨by repeat (first | exact zsm_rf | assumption | refine zsm_C (by decide) ?_ | refine zsm_I (by decide) ?_ | refine zsm_J ?_ | refine zsm_c (by assumption) (by decide) ?_), by have hx2 : x2 = n := (by omega); rw [hx2] at h2_2; exact h2_2⟩
      · skip
        refine zs_aload_n (pc := 7) C dX9_copies_7 rfl ?_
        refine zs_iload_n (pc := 8) C dX9_copies_8 rfl ?_
        refine zs_aload_n (pc := 9) C dX9_copies_9 rfl ?_
        refine zs_iload_n (pc := 10) C dX9_copies_10 rfl ?_
        refine zs_iload_n (pc := 11) C dX9_copies_11 rfl ?_
        first | refine zs_iadd (pc := 12) C dX9_copies_12 (by omega) ?_ | refine zs_iaddF (pc := 12) C dX9_copies_12 (fun z12 hz121 hz122 => ?_)
        refine zs_iald (r := 2069) (pc := 13) C dX9_copies_13 a_69 (by decide) (by omega) rfl (r_2069 _) (fun v13 e13 l13 u13 => ?_)
        refine zs_iast (r := 2069) (pc := 14) C dX9_copies_14 a_69 (by decide) (by omega) rfl (r_2069 _) (by omega) ?_
        first | refine zs_iinc (pc := 15) C dX9_copies_15 rfl (by decide) (by omega) ?_ | refine zs_iincF (pc := 15) C dX9_copies_15 rfl (by decide) (fun z15 hz151 hz152 => ?_)
        dsimp only [zset, zclr, znone]
        refine zs_goto (tgt := 2) (pc := 18) C dX9_copies_18 (by decide) ?_
        exact zs_wk (ih2 _ _ (by omega) (by repeat (first | exact zsm_rf | assumption | refine zsm_C (by decide) ?_ | refine zsm_I (by decide) ?_ | refine zsm_J ?_ | refine zsm_c (by assumption) (by decide) ?_)) (CP_s h2_2 (by omega) (by omega) e13) (by first | omega | (simp only [zuI_1, zuI_2, zuJ_1, zuJ_2, zuJ_3, zuP_1, zuP_2, zuP_3, zuC_1, zuC_2, reduceIte, Nat.reduceEqDiff, false_and, and_false, true_and, and_true, and_self, or_true, true_or, or_false, false_or]; omega))) (zwk_s rfl (zwk_s rfl (zwk_s rfl zwk_0)))
  exact zs_wk (L2 _ _ _ (by omega) zsm_rf CP_0 (Nat.lt_succ_self _)) (zwk_s rfl (zwk_s rfl (zwk_s rfl zwk_0)))

set_option maxHeartbeats 4000000 in
set_option maxRecDepth 100000 in
theorem c_X9_copies70 {l : Launch} {Γ : zΓ} {G : zH} {a : Nat} {n : Int} (hX : zXs Γ) (hn : n = 3) : zMet l Γ yX9_copies cX9_copies 3 none 0 [zr 70 a, zi n] G (zpv (fun G' => zsm [2070] G G' ∧ CP (G.1 2070 a) (G'.1 2070 a) n.toNat n)) := by
  refine zMet_of RX9 hX (by decide) rfl (Nat.le_of_ble_eq_true rfl) ?_
  intro p e s m args below meth c C hr hlk
  show Z p l e (zrm 0) s m args below meth c Γ 3 0 0 (MQ below (zQc Γ (zpv (fun G' => zsm [2070] G G' ∧ CP (G.1 2070 a) (G'.1 2070 a) n.toNat n))) args s 0 0 (zA Γ)) 0 [some (zr 70 a), some (zi n), none] [] G
  refine zs_loc 1 rfl (fun ha1 hb1 => ?_)
  refine zs_iconst (pc := 0) C dX9_copies_0 (by decide) ?_
  refine zs_istore_n (pc := 1) C dX9_copies_1 (by decide) ?_
  dsimp only [zset, zclr, znone]
  have L2 : ∀ (nn : Nat) (x2 : Int) (G1 : zH), (0 ≤ x2 ∧ x2 ≤ n) → (zsm [2070] G G1) → (CP (G.1 2070 a) (G1.1 2070 a) n.toNat x2) → (n - x2).toNat < nn → Z p l e (zrm 0) s m args below meth c Γ 3 0 0 (MQ below (zQc Γ (zpv (fun G' => zsm [2070] G G' ∧ CP (G.1 2070 a) (G'.1 2070 a) n.toNat n))) args s 0 0 (zA Γ)) 2 [some (zr 70 a), some (zi n), some (zi x2)] [] G1 := by
    intro nn
    induction nn with
    | zero => intro x2 G1 h2_0 h2_1 h2_2 hm; exact absurd hm (Nat.not_lt_zero _)
    | succ nn ih2 =>
      intro x2 G1 h2_0 h2_1 h2_2 hm2
      refine zs_iload_n (pc := 2) C dX9_copies_2 rfl ?_
      refine zs_iload_n (pc := 3) C dX9_copies_3 rfl ?_
      refine zs_icmp_ge (tgt := 21) (pc := 4) C dX9_copies_4 (by decide) (fun h4 => ?_) (fun h4 => ?_)
      · skip
        exact zs_vret (pc := 21) C hr hlk dX9_copies_21 ⟨by repeat (first | exact zsm_rf | assumption | refine zsm_C (by decide) ?_ | refine zsm_I (by decide) ?_ | refine zsm_J ?_ | refine zsm_c (by assumption) (by decide) ?_), by have hx2 : x2 = n := (by omega); rw [hx2] at h2_2; exact h2_2⟩
      · skip
        refine zs_aload_n (pc := 7) C dX9_copies_7 rfl ?_
        refine zs_iload_n (pc := 8) C dX9_copies_8 rfl ?_
        refine zs_aload_n (pc := 9) C dX9_copies_9 rfl ?_
        refine zs_iload_n (pc := 10) C dX9_copies_10 rfl ?_
        refine zs_iload_n (pc := 11) C dX9_copies_11 rfl ?_
        first | refine zs_iadd (pc := 12) C dX9_copies_12 (by omega) ?_ | refine zs_iaddF (pc := 12) C dX9_copies_12 (fun z12 hz121 hz122 => ?_)
        refine zs_iald (r := 2070) (pc := 13) C dX9_copies_13 a_70 (by decide) (by omega) rfl (r_2070 _) (fun v13 e13 l13 u13 => ?_)
        refine zs_iast (r := 2070) (pc := 14) C dX9_copies_14 a_70 (by decide) (by omega) rfl (r_2070 _) (by omega) ?_
        first | refine zs_iinc (pc := 15) C dX9_copies_15 rfl (by decide) (by omega) ?_ | refine zs_iincF (pc := 15) C dX9_copies_15 rfl (by decide) (fun z15 hz151 hz152 => ?_)
        dsimp only [zset, zclr, znone]
        refine zs_goto (tgt := 2) (pc := 18) C dX9_copies_18 (by decide) ?_
        exact zs_wk (ih2 _ _ (by omega) (by repeat (first | exact zsm_rf | assumption | refine zsm_C (by decide) ?_ | refine zsm_I (by decide) ?_ | refine zsm_J ?_ | refine zsm_c (by assumption) (by decide) ?_)) (CP_s h2_2 (by omega) (by omega) e13) (by first | omega | (simp only [zuI_1, zuI_2, zuJ_1, zuJ_2, zuJ_3, zuP_1, zuP_2, zuP_3, zuC_1, zuC_2, reduceIte, Nat.reduceEqDiff, false_and, and_false, true_and, and_true, and_self, or_true, true_or, or_false, false_or]; omega))) (zwk_s rfl (zwk_s rfl (zwk_s rfl zwk_0)))
  exact zs_wk (L2 _ _ _ (by omega) zsm_rf CP_0 (Nat.lt_succ_self _)) (zwk_s rfl (zwk_s rfl (zwk_s rfl zwk_0)))

set_option maxHeartbeats 4000000 in
set_option maxRecDepth 100000 in
theorem c_X9_copies72 {l : Launch} {Γ : zΓ} {G : zH} {a : Nat} {n : Int} (hX : zXs Γ) (hn : n = 7) : zMet l Γ yX9_copies cX9_copies 3 none 0 [zr 72 a, zi n] G (zpv (fun G' => zsm [2072] G G' ∧ CP (G.1 2072 a) (G'.1 2072 a) n.toNat n)) := by
  refine zMet_of RX9 hX (by decide) rfl (Nat.le_of_ble_eq_true rfl) ?_
  intro p e s m args below meth c C hr hlk
  show Z p l e (zrm 0) s m args below meth c Γ 3 0 0 (MQ below (zQc Γ (zpv (fun G' => zsm [2072] G G' ∧ CP (G.1 2072 a) (G'.1 2072 a) n.toNat n))) args s 0 0 (zA Γ)) 0 [some (zr 72 a), some (zi n), none] [] G
  refine zs_loc 1 rfl (fun ha1 hb1 => ?_)
  refine zs_iconst (pc := 0) C dX9_copies_0 (by decide) ?_
  refine zs_istore_n (pc := 1) C dX9_copies_1 (by decide) ?_
  dsimp only [zset, zclr, znone]
  have L2 : ∀ (nn : Nat) (x2 : Int) (G1 : zH), (0 ≤ x2 ∧ x2 ≤ n) → (zsm [2072] G G1) → (CP (G.1 2072 a) (G1.1 2072 a) n.toNat x2) → (n - x2).toNat < nn → Z p l e (zrm 0) s m args below meth c Γ 3 0 0 (MQ below (zQc Γ (zpv (fun G' => zsm [2072] G G' ∧ CP (G.1 2072 a) (G'.1 2072 a) n.toNat n))) args s 0 0 (zA Γ)) 2 [some (zr 72 a), some (zi n), some (zi x2)] [] G1 := by
    intro nn
    induction nn with
    | zero => intro x2 G1 h2_0 h2_1 h2_2 hm; exact absurd hm (Nat.not_lt_zero _)
    | succ nn ih2 =>
      intro x2 G1 h2_0 h2_1 h2_2 hm2
      refine zs_iload_n (pc := 2) C dX9_copies_2 rfl ?_
      refine zs_iload_n (pc := 3) C dX9_copies_3 rfl ?_
      refine zs_icmp_ge (tgt := 21) (pc := 4) C dX9_copies_4 (by decide) (fun h4 => ?_) (fun h4 => ?_)
      · skip
        exact zs_vret (pc := 21) C hr hlk dX9_copies_21 ⟨by repeat (first | exact zsm_rf | assumption | refine zsm_C (by decide) ?_ | refine zsm_I (by decide) ?_ | refine zsm_J ?_ | refine zsm_c (by assumption) (by decide) ?_), by have hx2 : x2 = n := (by omega); rw [hx2] at h2_2; exact h2_2⟩
      · skip
        refine zs_aload_n (pc := 7) C dX9_copies_7 rfl ?_
        refine zs_iload_n (pc := 8) C dX9_copies_8 rfl ?_
        refine zs_aload_n (pc := 9) C dX9_copies_9 rfl ?_
        refine zs_iload_n (pc := 10) C dX9_copies_10 rfl ?_
        refine zs_iload_n (pc := 11) C dX9_copies_11 rfl ?_
        first | refine zs_iadd (pc := 12) C dX9_copies_12 (by omega) ?_ | refine zs_iaddF (pc := 12) C dX9_copies_12 (fun z12 hz121 hz122 => ?_)
        refine zs_iald (r := 2072) (pc := 13) C dX9_copies_13 a_72 (by decide) (by omega) rfl (r_2072 _) (fun v13 e13 l13 u13 => ?_)
        refine zs_iast (r := 2072) (pc := 14) C dX9_copies_14 a_72 (by decide) (by omega) rfl (r_2072 _) (by omega) ?_
        first | refine zs_iinc (pc := 15) C dX9_copies_15 rfl (by decide) (by omega) ?_ | refine zs_iincF (pc := 15) C dX9_copies_15 rfl (by decide) (fun z15 hz151 hz152 => ?_)
        dsimp only [zset, zclr, znone]
        refine zs_goto (tgt := 2) (pc := 18) C dX9_copies_18 (by decide) ?_
        exact zs_wk (ih2 _ _ (by omega) (by repeat (first | exact zsm_rf | assumption | refine zsm_C (by decide) ?_ | refine zsm_I (by decide) ?_ | refine zsm_J ?_ | refine zsm_c (by assumption) (by decide) ?_)) (CP_s h2_2 (by omega) (by omega) e13) (by first | omega | (simp only [zuI_1, zuI_2, zuJ_1, zuJ_2, zuJ_3, zuP_1, zuP_2, zuP_3, zuC_1, zuC_2, reduceIte, Nat.reduceEqDiff, false_and, and_false, true_and, and_true, and_self, or_true, true_or, or_false, false_or]; omega))) (zwk_s rfl (zwk_s rfl (zwk_s rfl zwk_0)))
  exact zs_wk (L2 _ _ _ (by omega) zsm_rf CP_0 (Nat.lt_succ_self _)) (zwk_s rfl (zwk_s rfl (zwk_s rfl zwk_0)))

set_option maxHeartbeats 4000000 in
set_option maxRecDepth 100000 in
theorem c_X9_copies73 {l : Launch} {Γ : zΓ} {G : zH} {a : Nat} {n : Int} (hX : zXs Γ) (hn : n = 7) : zMet l Γ yX9_copies cX9_copies 3 none 0 [zr 73 a, zi n] G (zpv (fun G' => zsm [2073] G G' ∧ CP (G.1 2073 a) (G'.1 2073 a) n.toNat n)) := by
  refine zMet_of RX9 hX (by decide) rfl (Nat.le_of_ble_eq_true rfl) ?_
  intro p e s m args below meth c C hr hlk
  show Z p l e (zrm 0) s m args below meth c Γ 3 0 0 (MQ below (zQc Γ (zpv (fun G' => zsm [2073] G G' ∧ CP (G.1 2073 a) (G'.1 2073 a) n.toNat n))) args s 0 0 (zA Γ)) 0 [some (zr 73 a), some (zi n), none] [] G
  refine zs_loc 1 rfl (fun ha1 hb1 => ?_)
  refine zs_iconst (pc := 0) C dX9_copies_0 (by decide) ?_
  refine zs_istore_n (pc := 1) C dX9_copies_1 (by decide) ?_
  dsimp only [zset, zclr, znone]
  have L2 : ∀ (nn : Nat) (x2 : Int) (G1 : zH), (0 ≤ x2 ∧ x2 ≤ n) → (zsm [2073] G G1) → (CP (G.1 2073 a) (G1.1 2073 a) n.toNat x2) → (n - x2).toNat < nn → Z p l e (zrm 0) s m args below meth c Γ 3 0 0 (MQ below (zQc Γ (zpv (fun G' => zsm [2073] G G' ∧ CP (G.1 2073 a) (G'.1 2073 a) n.toNat n))) args s 0 0 (zA Γ)) 2 [some (zr 73 a), some (zi n), some (zi x2)] [] G1 := by
    intro nn
    induction nn with
    | zero => intro x2 G1 h2_0 h2_1 h2_2 hm; exact absurd hm (Nat.not_lt_zero _)
    | succ nn ih2 =>
      intro x2 G1 h2_0 h2_1 h2_2 hm2
      refine zs_iload_n (pc := 2) C dX9_copies_2 rfl ?_
      refine zs_iload_n (pc := 3) C dX9_copies_3 rfl ?_
      refine zs_icmp_ge (tgt := 21) (pc := 4) C dX9_copies_4 (by decide) (fun h4 => ?_) (fun h4 => ?_)
      · skip
        exact zs_vret (pc := 21) C hr hlk dX9_copies_21 ⟨by repeat (first | exact zsm_rf | assumption | refine zsm_C (by decide) ?_ | refine zsm_I (by decide) ?_ | refine zsm_J ?_ | refine zsm_c (by assumption) (by decide) ?_), by have hx2 : x2 = n := (by omega); rw [hx2] at h2_2; exact h2_2⟩
      · skip
        refine zs_aload_n (pc := 7) C dX9_copies_7 rfl ?_
        refine zs_iload_n (pc := 8) C dX9_copies_8 rfl ?_
        refine zs_aload_n (pc := 9) C dX9_copies_9 rfl ?_
        refine zs_iload_n (pc := 10) C dX9_copies_10 rfl ?_
        refine zs_iload_n (pc := 11) C dX9_copies_11 rfl ?_
        first | refine zs_iadd (pc := 12) C dX9_copies_12 (by omega) ?_ | refine zs_iaddF (pc := 12) C dX9_copies_12 (fun z12 hz121 hz122 => ?_)
        refine zs_iald (r := 2073) (pc := 13) C dX9_copies_13 a_73 (by decide) (by omega) rfl (r_2073 _) (fun v13 e13 l13 u13 => ?_)
        refine zs_iast (r := 2073) (pc := 14) C dX9_copies_14 a_73 (by decide) (by omega) rfl (r_2073 _) (by omega) ?_
        first | refine zs_iinc (pc := 15) C dX9_copies_15 rfl (by decide) (by omega) ?_ | refine zs_iincF (pc := 15) C dX9_copies_15 rfl (by decide) (fun z15 hz151 hz152 => ?_)
        dsimp only [zset, zclr, znone]
        refine zs_goto (tgt := 2) (pc := 18) C dX9_copies_18 (by decide) ?_
        exact zs_wk (ih2 _ _ (by omega) (by repeat (first | exact zsm_rf | assumption | refine zsm_C (by decide) ?_ | refine zsm_I (by decide) ?_ | refine zsm_J ?_ | refine zsm_c (by assumption) (by decide) ?_)) (CP_s h2_2 (by omega) (by omega) e13) (by first | omega | (simp only [zuI_1, zuI_2, zuJ_1, zuJ_2, zuJ_3, zuP_1, zuP_2, zuP_3, zuC_1, zuC_2, reduceIte, Nat.reduceEqDiff, false_and, and_false, true_and, and_true, and_self, or_true, true_or, or_false, false_or]; omega))) (zwk_s rfl (zwk_s rfl (zwk_s rfl zwk_0)))
  exact zs_wk (L2 _ _ _ (by omega) zsm_rf CP_0 (Nat.lt_succ_self _)) (zwk_s rfl (zwk_s rfl (zwk_s rfl zwk_0)))

set_option maxHeartbeats 4000000 in
set_option maxRecDepth 100000 in
theorem c_X9_copies74 {l : Launch} {Γ : zΓ} {G : zH} {a : Nat} {n : Int} (hX : zXs Γ) (hn : n = 64) : zMet l Γ yX9_copies cX9_copies 3 none 0 [zr 74 a, zi n] G (zpv (fun G' => zsm [2074] G G' ∧ CP (G.1 2074 a) (G'.1 2074 a) n.toNat n)) := by
  refine zMet_of RX9 hX (by decide) rfl (Nat.le_of_ble_eq_true rfl) ?_
  intro p e s m args below meth c C hr hlk
  show Z p l e (zrm 0) s m args below meth c Γ 3 0 0 (MQ below (zQc Γ (zpv (fun G' => zsm [2074] G G' ∧ CP (G.1 2074 a) (G'.1 2074 a) n.toNat n))) args s 0 0 (zA Γ)) 0 [some (zr 74 a), some (zi n), none] [] G
  refine zs_loc 1 rfl (fun ha1 hb1 => ?_)
  refine zs_iconst (pc := 0) C dX9_copies_0 (by decide) ?_
  refine zs_istore_n (pc := 1) C dX9_copies_1 (by decide) ?_
  dsimp only [zset, zclr, znone]
  have L2 : ∀ (nn : Nat) (x2 : Int) (G1 : zH), (0 ≤ x2 ∧ x2 ≤ n) → (zsm [2074] G G1) → (CP (G.1 2074 a) (G1.1 2074 a) n.toNat x2) → (n - x2).toNat < nn → Z p l e (zrm 0) s m args below meth c Γ 3 0 0 (MQ below (zQc Γ (zpv (fun G' => zsm [2074] G G' ∧ CP (G.1 2074 a) (G'.1 2074 a) n.toNat n))) args s 0 0 (zA Γ)) 2 [some (zr 74 a), some (zi n), some (zi x2)] [] G1 := by
    intro nn
    induction nn with
    | zero => intro x2 G1 h2_0 h2_1 h2_2 hm; exact absurd hm (Nat.not_lt_zero _)
    | succ nn ih2 =>
      intro x2 G1 h2_0 h2_1 h2_2 hm2
      refine zs_iload_n (pc := 2) C dX9_copies_2 rfl ?_
      refine zs_iload_n (pc := 3) C dX9_copies_3 rfl ?_
      refine zs_icmp_ge (tgt := 21) (pc := 4) C dX9_copies_4 (by decide) (fun h4 => ?_) (fun h4 => ?_)
      · skip
        exact zs_vret (pc := 21) C hr hlk dX9_copies_21 ⟨by repeat (first | exact zsm_rf | assumption | refine zsm_C (by decide) ?_ | refine zsm_I (by decide) ?_ | refine zsm_J ?_ | refine zsm_c (by assumption) (by decide) ?_), by have hx2 : x2 = n := (by omega); rw [hx2] at h2_2; exact h2_2⟩
      · skip
        refine zs_aload_n (pc := 7) C dX9_copies_7 rfl ?_
        refine zs_iload_n (pc := 8) C dX9_copies_8 rfl ?_
        refine zs_aload_n (pc := 9) C dX9_copies_9 rfl ?_
        refine zs_iload_n (pc := 10) C dX9_copies_10 rfl ?_
        refine zs_iload_n (pc := 11) C dX9_copies_11 rfl ?_
        first | refine zs_iadd (pc := 12) C dX9_copies_12 (by omega) ?_ | refine zs_iaddF (pc := 12) C dX9_copies_12 (fun z12 hz121 hz122 => ?_)
        refine zs_iald (r := 2074) (pc := 13) C dX9_copies_13 a_74 (by decide) (by omega) rfl (r_2074 _) (fun v13 e13 l13 u13 => ?_)
        refine zs_iast (r := 2074) (pc := 14) C dX9_copies_14 a_74 (by decide) (by omega) rfl (r_2074 _) (by omega) ?_
        first | refine zs_iinc (pc := 15) C dX9_copies_15 rfl (by decide) (by omega) ?_ | refine zs_iincF (pc := 15) C dX9_copies_15 rfl (by decide) (fun z15 hz151 hz152 => ?_)
        dsimp only [zset, zclr, znone]
        refine zs_goto (tgt := 2) (pc := 18) C dX9_copies_18 (by decide) ?_
        exact zs_wk (ih2 _ _ (by omega) (by repeat (first | exact zsm_rf | assumption | refine zsm_C (by decide) ?_ | refine zsm_I (by decide) ?_ | refine zsm_J ?_ | refine zsm_c (by assumption) (by decide) ?_)) (CP_s h2_2 (by omega) (by omega) e13) (by first | omega | (simp only [zuI_1, zuI_2, zuJ_1, zuJ_2, zuJ_3, zuP_1, zuP_2, zuP_3, zuC_1, zuC_2, reduceIte, Nat.reduceEqDiff, false_and, and_false, true_and, and_true, and_self, or_true, true_or, or_false, false_or]; omega))) (zwk_s rfl (zwk_s rfl (zwk_s rfl zwk_0)))
  exact zs_wk (L2 _ _ _ (by omega) zsm_rf CP_0 (Nat.lt_succ_self _)) (zwk_s rfl (zwk_s rfl (zwk_s rfl zwk_0)))

set_option maxHeartbeats 4000000 in
set_option maxRecDepth 100000 in
theorem c_X9_copies75 {l : Launch} {Γ : zΓ} {G : zH} {a : Nat} {n : Int} (hX : zXs Γ) (hn : n = 64) : zMet l Γ yX9_copies cX9_copies 3 none 0 [zr 75 a, zi n] G (zpv (fun G' => zsm [2075] G G' ∧ CP (G.1 2075 a) (G'.1 2075 a) n.toNat n)) := by
  refine zMet_of RX9 hX (by decide) rfl (Nat.le_of_ble_eq_true rfl) ?_
  intro p e s m args below meth c C hr hlk
  show Z p l e (zrm 0) s m args below meth c Γ 3 0 0 (MQ below (zQc Γ (zpv (fun G' => zsm [2075] G G' ∧ CP (G.1 2075 a) (G'.1 2075 a) n.toNat n))) args s 0 0 (zA Γ)) 0 [some (zr 75 a), some (zi n), none] [] G
  refine zs_loc 1 rfl (fun ha1 hb1 => ?_)
  refine zs_iconst (pc := 0) C dX9_copies_0 (by decide) ?_
  refine zs_istore_n (pc := 1) C dX9_copies_1 (by decide) ?_
  dsimp only [zset, zclr, znone]
  have L2 : ∀ (nn : Nat) (x2 : Int) (G1 : zH), (0 ≤ x2 ∧ x2 ≤ n) → (zsm [2075] G G1) → (CP (G.1 2075 a) (G1.1 2075 a) n.toNat x2) → (n - x2).toNat < nn → Z p l e (zrm 0) s m args below meth c Γ 3 0 0 (MQ below (zQc Γ (zpv (fun G' => zsm [2075] G G' ∧ CP (G.1 2075 a) (G'.1 2075 a) n.toNat n))) args s 0 0 (zA Γ)) 2 [some (zr 75 a), some (zi n), some (zi x2)] [] G1 := by
    intro nn
    induction nn with
    | zero => intro x2 G1 h2_0 h2_1 h2_2 hm; exact absurd hm (Nat.not_lt_zero _)
    | succ nn ih2 =>
      intro x2 G1 h2_0 h2_1 h2_2 hm2
      refine zs_iload_n (pc := 2) C dX9_copies_2 rfl ?_
      refine zs_iload_n (pc := 3) C dX9_copies_3 rfl ?_
      refine zs_icmp_ge (tgt := 21) (pc := 4) C dX9_copies_4 (by decide) (fun h4 => ?_) (fun h4 => ?_)
      · skip
        exact zs_vret (pc := 21) C hr hlk dX9_copies_21 ⟨by repeat (first | exact zsm_rf | assumption | refine zsm_C (by decide) ?_ | refine zsm_I (by decide) ?_ | refine zsm_J ?_ | refine zsm_c (by assumption) (by decide) ?_), by have hx2 : x2 = n := (by omega); rw [hx2] at h2_2; exact h2_2⟩
      · skip
        refine zs_aload_n (pc := 7) C dX9_copies_7 rfl ?_
        refine zs_iload_n (pc := 8) C dX9_copies_8 rfl ?_
        refine zs_aload_n (pc := 9) C dX9_copies_9 rfl ?_
        refine zs_iload_n (pc := 10) C dX9_copies_10 rfl ?_
        refine zs_iload_n (pc := 11) C dX9_copies_11 rfl ?_
        first | refine zs_iadd (pc := 12) C dX9_copies_12 (by omega) ?_ | refine zs_iaddF (pc := 12) C dX9_copies_12 (fun z12 hz121 hz122 => ?_)
        refine zs_iald (r := 2075) (pc := 13) C dX9_copies_13 a_75 (by decide) (by omega) rfl (r_2075 _) (fun v13 e13 l13 u13 => ?_)
        refine zs_iast (r := 2075) (pc := 14) C dX9_copies_14 a_75 (by decide) (by omega) rfl (r_2075 _) (by omega) ?_
        first | refine zs_iinc (pc := 15) C dX9_copies_15 rfl (by decide) (by omega) ?_ | refine zs_iincF (pc := 15) C dX9_copies_15 rfl (by decide) (fun z15 hz151 hz152 => ?_)
        dsimp only [zset, zclr, znone]
        refine zs_goto (tgt := 2) (pc := 18) C dX9_copies_18 (by decide) ?_
        exact zs_wk (ih2 _ _ (by omega) (by repeat (first | exact zsm_rf | assumption | refine zsm_C (by decide) ?_ | refine zsm_I (by decide) ?_ | refine zsm_J ?_ | refine zsm_c (by assumption) (by decide) ?_)) (CP_s h2_2 (by omega) (by omega) e13) (by first | omega | (simp only [zuI_1, zuI_2, zuJ_1, zuJ_2, zuJ_3, zuP_1, zuP_2, zuP_3, zuC_1, zuC_2, reduceIte, Nat.reduceEqDiff, false_and, and_false, true_and, and_true, and_self, or_true, true_or, or_false, false_or]; omega))) (zwk_s rfl (zwk_s rfl (zwk_s rfl zwk_0)))
  exact zs_wk (L2 _ _ _ (by omega) zsm_rf CP_0 (Nat.lt_succ_self _)) (zwk_s rfl (zwk_s rfl (zwk_s rfl zwk_0)))

set_option maxHeartbeats 4000000 in
set_option maxRecDepth 100000 in
theorem c_X9_copies76 {l : Launch} {Γ : zΓ} {G : zH} {a : Nat} {n : Int} (hX : zXs Γ) (hn : n = 64) : zMet l Γ yX9_copies cX9_copies 3 none 0 [zr 76 a, zi n] G (zpv (fun G' => zsm [2076] G G' ∧ CP (G.1 2076 a) (G'.1 2076 a) n.toNat n)) := by
  refine zMet_of RX9 hX (by decide) rfl (Nat.le_of_ble_eq_true rfl) ?_
  intro p e s m args below meth c C hr hlk
  show Z p l e (zrm 0) s m args below meth c Γ 3 0 0 (MQ below (zQc Γ (zpv (fun G' => zsm [2076] G G' ∧ CP (G.1 2076 a) (G'.1 2076 a) n.toNat n))) args s 0 0 (zA Γ)) 0 [some (zr 76 a), some (zi n), none] [] G
  refine zs_loc 1 rfl (fun ha1 hb1 => ?_)
  refine zs_iconst (pc := 0) C dX9_copies_0 (by decide) ?_
  refine zs_istore_n (pc := 1) C dX9_copies_1 (by decide) ?_
  dsimp only [zset, zclr, znone]
  have L2 : ∀ (nn : Nat) (x2 : Int) (G1 : zH), (0 ≤ x2 ∧ x2 ≤ n) → (zsm [2076] G G1) → (CP (G.1 2076 a) (G1.1 2076 a) n.toNat x2) → (n - x2).toNat < nn → Z p l e (zrm 0) s m args below meth c Γ 3 0 0 (MQ below (zQc Γ (zpv (fun G' => zsm [2076] G G' ∧ CP (G.1 2076 a) (G'.1 2076 a) n.toNat n))) args s 0 0 (zA Γ)) 2 [some (zr 76 a), some (zi n), some (zi x2)] [] G1 := by
    intro nn
    induction nn with
    | zero => intro x2 G1 h2_0 h2_1 h2_2 hm; exact absurd hm (Nat.not_lt_zero _)
    | succ nn ih2 =>
      intro x2 G1 h2_0 h2_1 h2_2 hm2
      refine zs_iload_n (pc := 2) C dX9_copies_2 rfl ?_
      refine zs_iload_n (pc := 3) C dX9_copies_3 rfl ?_
      refine zs_icmp_ge (tgt := 21) (pc := 4) C dX9_copies_4 (by decide) (fun h4 => ?_) (fun h4 => ?_)
      · skip
        exact zs_vret (pc := 21) C hr hlk dX9_copies_21 ⟨by repeat (first | exact zsm_rf | assumption | refine zsm_C (by decide) ?_ | refine zsm_I (by decide) ?_ | refine zsm_J ?_ | refine zsm_c (by assumption) (by decide) ?_), by have hx2 : x2 = n := (by omega); rw [hx2] at h2_2; exact h2_2⟩
      · skip
        refine zs_aload_n (pc := 7) C dX9_copies_7 rfl ?_
        refine zs_iload_n (pc := 8) C dX9_copies_8 rfl ?_
        refine zs_aload_n (pc := 9) C dX9_copies_9 rfl ?_
        refine zs_iload_n (pc := 10) C dX9_copies_10 rfl ?_
        refine zs_iload_n (pc := 11) C dX9_copies_11 rfl ?_
        first | refine zs_iadd (pc := 12) C dX9_copies_12 (by omega) ?_ | refine zs_iaddF (pc := 12) C dX9_copies_12 (fun z12 hz121 hz122 => ?_)
        refine zs_iald (r := 2076) (pc := 13) C dX9_copies_13 a_76 (by decide) (by omega) rfl (r_2076 _) (fun v13 e13 l13 u13 => ?_)
        refine zs_iast (r := 2076) (pc := 14) C dX9_copies_14 a_76 (by decide) (by omega) rfl (r_2076 _) (by omega) ?_
        first | refine zs_iinc (pc := 15) C dX9_copies_15 rfl (by decide) (by omega) ?_ | refine zs_iincF (pc := 15) C dX9_copies_15 rfl (by decide) (fun z15 hz151 hz152 => ?_)
        dsimp only [zset, zclr, znone]
        refine zs_goto (tgt := 2) (pc := 18) C dX9_copies_18 (by decide) ?_
        exact zs_wk (ih2 _ _ (by omega) (by repeat (first | exact zsm_rf | assumption | refine zsm_C (by decide) ?_ | refine zsm_I (by decide) ?_ | refine zsm_J ?_ | refine zsm_c (by assumption) (by decide) ?_)) (CP_s h2_2 (by omega) (by omega) e13) (by first | omega | (simp only [zuI_1, zuI_2, zuJ_1, zuJ_2, zuJ_3, zuP_1, zuP_2, zuP_3, zuC_1, zuC_2, reduceIte, Nat.reduceEqDiff, false_and, and_false, true_and, and_true, and_self, or_true, true_or, or_false, false_or]; omega))) (zwk_s rfl (zwk_s rfl (zwk_s rfl zwk_0)))
  exact zs_wk (L2 _ _ _ (by omega) zsm_rf CP_0 (Nat.lt_succ_self _)) (zwk_s rfl (zwk_s rfl (zwk_s rfl zwk_0)))
end
section
/-! making: things that are not yet whole -/
def zAb (b : Nat) : Nat → Prop := fun q => b ≤ q
def zdf (r i : Nat) : Int := if r = 2058 then zWD.getD i 32 else 0
theorem zRT_0 : ∀ q ∈ zRT, q.2.1 ≤ 0 ∧ 0 ≤ q.2.2 := by decide +kernel
theorem zlook_0 : ∀ (l : List (Nat × Int × Int)), (∀ q ∈ l, q.2.1 ≤ 0 ∧ 0 ≤ q.2.2) → ∀ r : Nat, ((l.lookup r).getD zfull).1 ≤ 0 ∧ 0 ≤ ((l.lookup r).getD zfull).2
  | [], _, r => by
    rw [List.lookup]
    exact ⟨by decide, by decide⟩
  | (k, v) :: l, h, r => by
    rw [List.lookup]
    split
    · exact h (k, v) List.mem_cons_self
    · exact zlook_0 l (fun q hq => h q (List.mem_cons_of_mem _ hq)) r
theorem zWD_0 : ∀ x ∈ zWD, 0 ≤ x ∧ x ≤ 255 := by decide +kernel
theorem zWD_in (i : Nat) : 0 ≤ zWD.getD i 32 ∧ zWD.getD i 32 ≤ 255 := by
  rw [List.getD_eq_getElem?_getD]
  cases h : zWD[i]? with
  | none => exact ⟨by decide, by decide⟩
  | some x => exact zWD_0 x (List.mem_of_getElem? h)
theorem zdf_in (r i : Nat) : (zrg r i).1 ≤ zdf r i ∧ zdf r i ≤ (zrg r i).2 := by
  have hw := zWD_in i
  have hl := zlook_0 zRT zRT_0 r
  unfold zdf zrg
  repeat' split
  all_goals first | omega | (simp only [zcl]; omega) | (simp only [zcl, zfull]; omega)
/-- outside of the addresses all is as it begins -/
def zdo (Γ : zΓ) (G : zH) : Prop := ∀ a, Γ.1 a = 0 → (∀ r i, G.1 r a i = zdf r i) ∧ ∀ r i, G.2.1 r a i = 0
def zBn (Γ : zΓ) (G : zH) : Prop := zLok Γ ∧ zG Γ G ∧ zdo Γ G
/-- more things, the same world outside -/
def zxt (Γ Γ' : zΓ) : Prop := Γ'.2.2.1 = Γ.2.2.1 ∧ Γ'.2.2.2.1 = Γ.2.2.2.1 ∧ Γ'.2.2.2.2.2 = Γ.2.2.2.2.2 ∧ ∀ a, Γ.1 a ≠ 0 → Γ'.1 a = Γ.1 a ∧ Γ'.2.1 a = Γ.2.1 a
theorem zxt_rf {Γ : zΓ} : zxt Γ Γ := ⟨rfl, rfl, rfl, fun _ _ => ⟨rfl, rfl⟩⟩
theorem zxt_tr {Γ Γ1 Γ2 : zΓ} (h1 : zxt Γ Γ1) (h2 : zxt Γ1 Γ2) : zxt Γ Γ2 := ⟨h2.1.trans h1.1, h2.2.1.trans h1.2.1, h2.2.2.1.trans h1.2.2.1, fun a h => by
  have q1 := h1.2.2.2 a h
  have q2 := h2.2.2.2 a (by rw [q1.1]; exact h)
  exact ⟨q2.1.trans q1.1, q2.2.trans q1.2⟩⟩
theorem zxt_ty {Γ Γ' : zΓ} (h : zxt Γ Γ') {a t : Nat} (ht : Γ.1 a = t) (h0 : t ≠ 0) : Γ'.1 a = t := by rw [(h.2.2.2 a (by rw [ht]; exact h0)).1, ht]
theorem zxt_0 {Γ Γ' : zΓ} (h : zxt Γ Γ') {a : Nat} (h0 : Γ'.1 a = 0) : Γ.1 a = 0 := by
  rcases Nat.decEq (Γ.1 a) 0 with q | q
  · exact absurd (h.2.2.2 a q).1 (by rw [h0]; exact fun e => q e.symm)
  · exact q
theorem zxt_Xs {Γ Γ' : zΓ} (h : zxt Γ Γ') (hX : zXs Γ) : zXs Γ' := by
  unfold zXs
  rw [h.2.2.1]
  exact hX
/-- one thing more -/
def zad (Γ : zΓ) (q t : Nat) (fr : Nat → Nat) : zΓ := (fun a => if a = q then t else Γ.1 a, fun a k => if a = q then fr k else Γ.2.1 a k, Γ.2.2.1, Γ.2.2.2.1, Γ.2.2.2.2.1 ++ [q], Γ.2.2.2.2.2)
theorem zad_1 (Γ : zΓ) (q t : Nat) (fr : Nat → Nat) (a : Nat) : (zad Γ q t fr).1 a = if a = q then t else Γ.1 a := rfl
theorem zad_2 (Γ : zΓ) (q t : Nat) (fr : Nat → Nat) (a k : Nat) : (zad Γ q t fr).2.1 a k = if a = q then fr k else Γ.2.1 a k := rfl
theorem zad_q (Γ : zΓ) (q t : Nat) (fr : Nat → Nat) : (zad Γ q t fr).1 q = t := by rw [zad_1, if_pos rfl]
theorem zad_n {Γ : zΓ} {q t : Nat} {fr : Nat → Nat} {a : Nat} (h : a ≠ q) : (zad Γ q t fr).1 a = Γ.1 a := by rw [zad_1, if_neg h]
theorem zad_xt {Γ : zΓ} {q t : Nat} {fr : Nat → Nat} (hq : Γ.1 q = 0) : zxt Γ (zad Γ q t fr) := ⟨rfl, rfl, rfl, fun a h => ⟨zad_n (fun e => h (by rw [e]; exact hq)), funext fun k => by rw [zad_2, if_neg (fun e => h (by rw [e]; exact hq))]⟩⟩
theorem zE_ad {Γ : zΓ} {G : zH} {q t : Nat} {fr : Nat → Nat} {a : Nat} (h : a ≠ q) : zE (zad Γ q t fr) G a = zE Γ G a := by
  have e1 : (zad Γ q t fr).1 a = Γ.1 a := zad_n h
  have e2 : ∀ k, (zad Γ q t fr).2.1 a k = Γ.2.1 a k := fun k => by rw [zad_2, if_neg h]
  have e3 : (zad Γ q t fr).2.2.1 = Γ.2.2.1 := rfl
  unfold zE
  rw [e1, e3]
  have e4 : ∀ k, zF (zad Γ q t fr) G (Γ.1 a) k a = zF Γ G (Γ.1 a) k a := fun k => by unfold zF; rw [e2]
  simp only [e4]
theorem zWd_ad {Γ : zΓ} {G G' : zH} {q t : Nat} {fr : Nat → Nat} (hL : zLok Γ) (hq : Γ.1 q = 0) (hE : ∀ a, a ≠ q → zE Γ G' a = zE Γ G a) : zWd (zad Γ q t fr) G' = zWd Γ G ++ [(q, zE (zad Γ q t fr) G' q)] := by
  unfold zWd va_pl
  show (Γ.2.2.2.2.1 ++ [q]).map _ = _
  rw [List.map_append]
  refine congrArg (fun l => l ++ _) (List.map_congr_left (fun a ha => ?_))
  have hne : a ≠ q := fun e => (hL.2.1 a).mp ha (by rw [e]; exact hq)
  rw [zE_ad hne, hE a hne]
set_option maxRecDepth 100000 in
theorem zfk_nz {t k : Nat} (h : (zfk t k).1 = 2 ∨ (zfk t k).1 = 3) : (zfk t k).2 ≠ 0 := by
  obtain ⟨h1, h2, h3⟩ := zfk_lt (t := t) (k := k) (by rcases h with h | h <;> rw [h] <;> decide)
  exact zt_cases (P := fun t => ∀ k, k < zN t → ((zfk t k).1 = 2 ∨ (zfk t k).1 = 3) → (zfk t k).2 ≠ 0) h1 h2 (by decide +kernel) (by decide +kernel) (by decide +kernel) (by decide +kernel) (by decide +kernel) (by decide +kernel) (by decide +kernel) (by decide +kernel) (by decide +kernel) (by decide +kernel) k h3 h
theorem zLok_ad {Γ : zΓ} {q t : Nat} {fr : Nat → Nat} (hL : zLok Γ) (hq : Γ.1 q = 0) (ht : t ≠ 0) (hf : ∀ k, (zfk t k).1 = 2 → Γ.1 (fr k) = (zfk t k).2) : zLok (zad Γ q t fr) := by
  have hqL : q ∉ Γ.2.2.2.2.1 := fun h => (hL.2.1 q).mp h hq
  refine ⟨?_, fun a => ?_, fun t' k a h1 h2 => ?_⟩
  · show (Γ.2.2.2.2.1 ++ [q]).Nodup
    rw [List.nodup_append]
    refine ⟨hL.1, by simp, fun a ha b hb => ?_⟩
    rw [List.mem_singleton] at hb
    rw [hb]
    exact fun e => hqL (e ▸ ha)
  · show a ∈ Γ.2.2.2.2.1 ++ [q] ↔ _
    rw [List.mem_append, List.mem_singleton, zad_1]
    by_cases e : a = q
    · rw [if_pos e]
      exact ⟨fun _ => ht, fun _ => Or.inr e⟩
    · rw [if_neg e, hL.2.1 a]
      exact ⟨fun h => h.resolve_right e, Or.inl⟩
  · have hz := zfk_nz (t := t') (k := k) (Or.inl h2)
    have key : ∀ x, Γ.1 x = (zfk t' k).2 → (zad Γ q t fr).1 x = (zfk t' k).2 := fun x hx => by
      rw [zad_n (fun e => hz (by rw [← hx, e]; exact hq))]
      exact hx
    rw [zad_2]
    by_cases e : a = q
    · rw [if_pos e]
      have e1 : t = t' := by rw [zad_1, if_pos e] at h1; exact h1
      subst e1
      exact key _ (hf k h2)
    · rw [if_neg e]
      rw [zad_n e] at h1
      exact key _ (hL.2.2 t' k a h1 h2)
theorem zfk_big {t k : Nat} (h : 11 ≤ t) : (zfk t k).1 = 9 := by
  rcases Nat.decEq (zfk t k).1 9 with q | q
  · have := (zfk_lt q).2.1
    omega
  · exact q
/-- an array that is new -/
theorem zBn_arr {Γ : zΓ} {G : zH} {q t : Nat} {fr : Nat → Nat} (hB : zBn Γ G) (hq : Γ.1 q = 0) (ht : 11 ≤ t) : zBn (zad Γ q t fr) G := by
  obtain ⟨hL, hG, hd⟩ := hB
  refine ⟨zLok_ad hL hq (by omega) (fun k h => by rw [zfk_big ht] at h; exact absurd h (by decide)), ⟨hG.1, hG.2.1, fun t' k a h1 h2 => ?_⟩, fun a ha => ?_⟩
  · have hz := zfk_nz (t := t') (k := k) (Or.inr h2)
    by_cases e : a = q
    · rw [e, zad_q] at h1
      rw [← h1, zfk_big ht] at h2
      exact absurd h2 (by decide)
    · rw [zad_n e] at h1
      have h3 := hG.2.2 t' k a h1 h2
      rw [zad_n (fun e2 => hz (by rw [← h3, e2]; exact hq))]
      exact h3
  · by_cases e : a = q
    · rw [e, zad_q] at ha
      omega
    · rw [zad_n e] at ha
      exact hd a ha
/-! a thing that is not yet whole: which references are there, where they lead, the numbers -/
def zFu (t : Nat) (S : Nat → Bool) (fr : Nat → Nat) (iv : Nat → Int) (k : Nat) : Value := match (zfk t k).1 with
  | 0 => .int (Int32.ofInt (iv k))
  | 4 => .int (Int32.ofInt (iv k))
  | 1 => .long (Int64.ofInt 0)
  | _ => if S k then .ref (fr k) else .null
def zOb (t : Nat) (S : Nat → Bool) (fr : Nat → Nat) (iv : Nat → Int) : va_E := .inr (t - 1, (List.range (zN t)).map (zFu t S fr iv))
def zO0 (t : Nat) : va_E := zOb t (fun _ => false) (fun _ => 0) (fun _ => 0)
def zag (G : zH) (t q : Nat) (fr : Nat → Nat) (iv : Nat → Int) : zH := (fun r a i => if a = q ∧ i = 0 ∧ 100 * t ≤ r ∧ r < 100 * t + zN t then iv (r - 100 * t) else G.1 r a i, G.2.1, fun r a => if a = q then fr (r - 100 * t) else G.2.2 r a)
theorem zag_n {G : zH} {t q : Nat} {fr : Nat → Nat} {iv : Nat → Int} {a : Nat} (h : a ≠ q) (Γ : zΓ) : zE Γ (zag G t q fr iv) a = zE Γ G a :=
  zE_same (fun r i => by show (if _ then _ else _) = _; rw [if_neg (fun e => h e.1)]) (fun _ _ => rfl) (fun r => by show (if _ then _ else _) = _; rw [if_neg h])
theorem zag_at {G : zH} {t q k : Nat} {fr : Nat → Nat} {iv : Nat → Int} (hk : k < zN t) : (zag G t q fr iv).1 (100 * t + k) q 0 = iv k := by
  show (if _ then _ else _) = _
  rw [if_pos ⟨rfl, rfl, by omega, by omega⟩, show 100 * t + k - 100 * t = k by omega]
/-- which references are there: each leads to a thing of its type -/
def zOk (Γ : zΓ) (t : Nat) (S : Nat → Bool) (fr : Nat → Nat) : Prop := ∀ k, S k = true → Γ.1 (fr k) = (zfk t k).2 ∧ (zfk t k).2 ≠ 0
theorem zOk_0 {Γ : zΓ} {t : Nat} : zOk Γ t (fun _ => false) (fun _ => 0) := fun k h => absurd h (by simp)
def zuS (S : Nat → Bool) (k : Nat) : Nat → Bool := fun j => if j = k then true else S j
def zuR (fr : Nat → Nat) (k b : Nat) : Nat → Nat := fun j => if j = k then b else fr j
def zuV (iv : Nat → Int) (k : Nat) (x : Int) : Nat → Int := fun j => if j = k then x else iv j
theorem zOk_s {Γ : zΓ} {t : Nat} {S : Nat → Bool} {fr : Nat → Nat} {k b t' : Nat} (h : zOk Γ t S fr) (hf : (zfk t k).2 = t') (h0 : t' ≠ 0) (hb : Γ.1 b = t') : zOk Γ t (zuS S k) (zuR fr k b) := by
  intro j hj
  unfold zuR
  by_cases e : j = k
  · rw [if_pos e, e, hf]
    exact ⟨hb, h0⟩
  · rw [if_neg e]
    unfold zuS at hj
    rw [if_neg e] at hj
    exact h j hj
theorem zxt_fr {Γ Γ' : zΓ} (h : zxt Γ Γ') {a : Nat} (ha : Γ.1 a ≠ 0) : Γ'.2.1 a = Γ.2.1 a := (h.2.2.2 a ha).2
theorem zOk_x {Γ Γ' : zΓ} {t : Nat} {S : Nat → Bool} {fr : Nat → Nat} (hx : zxt Γ Γ') (h : zOk Γ t S fr) : zOk Γ' t S fr := fun k hk => ⟨zxt_ty hx (h k hk).1 (h k hk).2, (h k hk).2⟩
/-- the thing is whole -/
theorem zE_ob {Γ : zΓ} {G : zH} {q t : Nat} {S : Nat → Bool} {fr : Nat → Nat} {iv : Nat → Int} (hd : zdo Γ G) (hq : Γ.1 q = 0) (h1 : 1 ≤ t) (h2 : t ≤ 10) (hS : ∀ k, k < zN t → 2 ≤ (zfk t k).1 → (zfk t k).1 ≤ 3 → S k = true) (hk : ∀ k, k < zN t → (zfk t k).1 ≤ 4) : zE (zad Γ q t fr) (zag G t q fr iv) q = zOb t S fr iv := by
  rw [zE_cls (zad_q Γ q t fr) h2]
  unfold zOb
  refine congrArg (fun l => Sum.inr (t - 1, l)) (List.map_congr_left (fun k hk2 => ?_))
  rw [List.mem_range] at hk2
  have hN := zN_100 h1 h2
  have h4 := hk k hk2
  have hs := hS k hk2
  have e1 : (zag G t q fr iv).1 (100 * t + k) q 0 = iv k := by
    show (if _ then _ else _) = _
    rw [if_pos ⟨rfl, rfl, by omega, by omega⟩, show 100 * t + k - 100 * t = k by omega]
  have e2 : (zag G t q fr iv).2.1 (100 * t + k) q 0 = 0 := (hd q hq).2 _ _
  have e3 : (zag G t q fr iv).2.2 (100 * t + k) q = fr k := by
    show (if _ then _ else _) = _
    rw [if_pos rfl, show 100 * t + k - 100 * t = k by omega]
  have e4 : (zad Γ q t fr).2.1 q k = fr k := by rw [zad_2, if_pos rfl]
  unfold zF zFu
  rw [e1, e2, e3, e4]
  revert hs h4
  generalize (zfk t k).1 = n
  intro h4 hs
  rcases (show n = 0 ∨ n = 1 ∨ n = 2 ∨ n = 3 ∨ n = 4 by omega) with rfl | rfl | rfl | rfl | rfl
  · rfl
  · rfl
  · rw [hs (by omega) (by omega)]; rfl
  · rw [hs (by omega) (by omega)]; rfl
  · rfl
theorem zWd_ob {Γ : zΓ} {G : zH} {q t : Nat} {S : Nat → Bool} {fr : Nat → Nat} {iv : Nat → Int} (hB : zBn Γ G) (hq : Γ.1 q = 0) (h1 : 1 ≤ t) (h2 : t ≤ 10) (hS : ∀ k, k < zN t → 2 ≤ (zfk t k).1 → (zfk t k).1 ≤ 3 → S k = true) (hk : ∀ k, k < zN t → (zfk t k).1 ≤ 4) : zWd (zad Γ q t fr) (zag G t q fr iv) = zWd Γ G ++ [(q, zOb t S fr iv)] := by
  rw [zWd_ad hB.1 hq (fun a ha => zag_n ha Γ), zE_ob hB.2.2 hq h1 h2 hS hk]
theorem zBn_ob {Γ : zΓ} {G : zH} {q t : Nat} {S : Nat → Bool} {fr : Nat → Nat} {iv : Nat → Int} (hB : zBn Γ G) (hq : Γ.1 q = 0) (h1 : 1 ≤ t) (h2 : t ≤ 10) (hS : ∀ k, k < zN t → 2 ≤ (zfk t k).1 → (zfk t k).1 ≤ 3 → S k = true) (hO : zOk Γ t S fr) (hiv : ∀ k, k < zN t → (zrg (100 * t + k) 0).1 ≤ iv k ∧ iv k ≤ (zrg (100 * t + k) 0).2) : zBn (zad Γ q t fr) (zag G t q fr iv) := by
  obtain ⟨hL, hG, hd⟩ := hB
  have hfr : ∀ k, (zfk t k).1 = 2 ∨ (zfk t k).1 = 3 → Γ.1 (fr k) = (zfk t k).2 := fun k h => by
    have h3 := (zfk_lt (t := t) (k := k) (by rcases h with h | h <;> rw [h] <;> decide)).2.2
    exact (hO k (hS k h3 (by rcases h with h | h <;> omega) (by rcases h with h | h <;> omega))).1
  refine ⟨zLok_ad hL hq (by omega) (fun k h => hfr k (Or.inl h)), ⟨fun r a i => ?_, hG.2.1, fun t' k a e1 e2 => ?_⟩, fun a ha => ?_⟩
  · show _ ≤ (if _ then _ else _) ∧ (if _ then _ else _) ≤ _
    split
    · next e =>
      obtain ⟨-, e2, e3, e4⟩ := e
      have e5 := hiv (r - 100 * t) (by omega)
      rw [show 100 * t + (r - 100 * t) = r by omega] at e5
      rw [e2]
      exact e5
    · exact hG.1 r a i
  · have hz := zfk_nz (t := t') (k := k) (Or.inr e2)
    have key : ∀ x, Γ.1 x = (zfk t' k).2 → (zad Γ q t fr).1 x = (zfk t' k).2 := fun x hx => by
      rw [zad_n (fun e => hz (by rw [← hx, e]; exact hq))]
      exact hx
    show (zad Γ q t fr).1 (if _ then _ else _) = _
    by_cases e : a = q
    · rw [if_pos e]
      have e9 : t = t' := by rw [zad_1, if_pos e] at e1; exact e1
      subst e9
      rw [show 100 * t + k - 100 * t = k by omega]
      exact key _ (hfr k (Or.inr e2))
    · rw [if_neg e]
      rw [zad_n e] at e1
      exact key _ (hG.2.2 t' k a e1 e2)
  · by_cases e : a = q
    · rw [e, zad_q] at ha
      omega
    · rw [zad_n e] at ha
      refine ⟨fun r i => ?_, (hd a ha).2⟩
      show (if _ then _ else _) = _
      rw [if_neg (fun q2 => e q2.1)]
      exact (hd a ha).1 r i
/-- what lies outside of the addresses is laid as it began -/
def zno (Γ : zΓ) (G : zH) : zH := (fun r a i => if Γ.1 a = 0 then zdf r i else G.1 r a i, fun r a i => if Γ.1 a = 0 then 0 else G.2.1 r a i, G.2.2)
theorem zno_1 {Γ : zΓ} {G : zH} {a : Nat} (h : Γ.1 a ≠ 0) (r i : Nat) : (zno Γ G).1 r a i = G.1 r a i := by
  show (if _ then _ else _) = _
  rw [if_neg h]
theorem zWd_no {Γ : zΓ} {G : zH} (hL : zLok Γ) : zWd Γ (zno Γ G) = zWd Γ G := by
  unfold zWd va_pl
  refine List.map_congr_left (fun a ha => ?_)
  have h := (hL.2.1 a).mp ha
  rw [zE_same (G := G) (G' := zno Γ G) (fun r i => zno_1 h r i) (fun r i => by show (if _ then _ else _) = _; rw [if_neg h]) (fun _ => rfl)]
theorem zBn_no {Γ : zΓ} {G : zH} (hL : zLok Γ) (hG : zG Γ G) : zBn Γ (zno Γ G) := by
  refine ⟨hL, ⟨fun r a i => ?_, fun r a i => ?_, hG.2.2⟩, fun a ha => ⟨fun r i => ?_, fun r i => ?_⟩⟩
  · show _ ≤ (if _ then _ else _) ∧ (if _ then _ else _) ≤ _
    split
    · exact zdf_in r i
    · exact hG.1 r a i
  · show _ ≤ (if _ then _ else _) ∧ (if _ then _ else _) ≤ _
    split
    · exact ⟨by decide, by decide⟩
    · exact hG.2.1 r a i
  · show (if _ then _ else _) = _
    rw [if_pos ha]
  · show (if _ then _ else _) = _
    rw [if_pos ha]
/-! worlds by their members -/
theorem zP_mem {D : va_G} {cl : List vw_C} {ws ws' : va_W} {H : Heap} (h : va_P D cl ws H) (hs : ∀ q ∈ ws', q ∈ ws) : va_P D cl ws' H := fun k q hk => by
  obtain ⟨i, hi⟩ := List.getElem?_of_mem (hs q (List.mem_of_getElem? hk))
  exact h i q hi
theorem zD_iff {A : Nat → Prop} {ws : va_W} : va_D A ws ↔ (ws.map (fun q => q.1)).Nodup ∧ ∀ q ∈ ws, A q.1 := by
  constructor
  · intro h
    refine ⟨?_, fun q hq => ?_⟩
    · rw [List.nodup_iff_pairwise_ne, List.pairwise_iff_getElem]
      intro i j hi hj hij he
      rw [List.length_map] at hi hj
      rw [List.getElem_map, List.getElem_map] at he
      exact absurd (h.1 i j _ _ (List.getElem?_eq_getElem hi) (List.getElem?_eq_getElem hj) he) (by omega)
    · obtain ⟨i, hi⟩ := List.getElem?_of_mem hq
      exact h.2 i q hi
  · intro h
    refine ⟨fun i j p q hi hj he => ?_, fun k q hk => h.2 q (List.mem_of_getElem? hk)⟩
    obtain ⟨i1, i2⟩ := List.getElem?_eq_some_iff.mp hi
    obtain ⟨j1, j2⟩ := List.getElem?_eq_some_iff.mp hj
    have hn := h.1
    have l1 : i < (ws.map (fun q => q.1)).length := by rw [List.length_map]; exact i1
    have l2 : j < (ws.map (fun q => q.1)).length := by rw [List.length_map]; exact j1
    refine (List.getElem_inj (h₀ := l1) (h₁ := l2) hn).mp ?_
    rw [List.getElem_map, List.getElem_map, i2, j2]
    exact he
theorem zD_perm {A : Nat → Prop} {ws ws' : va_W} (h : va_D A ws) (hp : ws'.Perm ws) : va_D A ws' := by
  rw [zD_iff] at h ⊢
  exact ⟨(hp.map (fun q => q.1)).nodup_iff.mpr h.1, fun q hq => h.2 q (hp.mem_iff.mp hq)⟩
end
section
/-! the judgement while things are made -/
/-- the arrays outside, and the texts: below b -/
def zXb (b : Nat) (o : (Nat → Nat) × (Nat → Nat) × (Nat → Nat → Int)) (U : State) (H : Heap) : Prop :=
  (va_Z "ConfessionMill" "MOST" "[I" (.ref (o.1 0)) (zAb b) U H ∧ va_Z "ConfessionMill$Reader" "BINDS" "[I" (.ref (o.1 1)) (zAb b) U H ∧
  ∀ e, e < 3 → va_T .int (o.1 e) (o.2.1 e) (fun j => .int (Int32.ofInt (o.2.2 e j))) (zAb b) U H ∧ (∀ j, -2147483648 ≤ o.2.2 e j ∧ o.2.2 e j ≤ 2147483647) ∧ o.2.1 e < 2147483648)
theorem zXb_keep {b : Nat} {o : (Nat → Nat) × (Nat → Nat) × (Nat → Nat → Int)} {U U1 : State} {H H1 : Heap} (h : zXb b o U H) (hvm : U.vm.Alike U1.vm) (hq : ∀ a : Nat, a < H.size → ¬ zAb b a → H1[a]? = H[a]?) : zXb b o U1 H1 :=
  ⟨(h.1.moved hvm).kept hq, (h.2.1.moved hvm).kept hq, fun e he => ⟨((h.2.2 e he).1.moved hvm).kept hq, (h.2.2 e he).2⟩⟩
theorem zXb_f {b : Nat} {Γ : zΓ} {U : State} {H : Heap} (h : zXb b Γ.2.2.2.2.2 U H) (hA : ∀ q, zA Γ q → zAb b q) : zXf Γ U H :=
  ⟨h.1.narrow hA, h.2.1.narrow hA, fun e he => ⟨(h.2.2 e he).1.narrow hA, (h.2.2 e he).2⟩⟩
/-- links of private constructors in the nest -/
def zNc : List (String × Nat × MethodName × String) := [(RX8, 17, yX3_init, RX8), (RX3, 20, yX5_init, RX8), (RX5, 11, yX1_init, RX8), (RX8, 24, yX5_init, RX8), (RX7, 11, yX4_init, RX8), (RX8, 55, yX0_init, RX8)]
def zNm (U : State) : Prop := ∀ q ∈ zNc, va_Nw (.methodLinkNest q.1 q.2.1 q.2.2.1 q.2.2.2) U
def zrC (lv mc ms : Nat) : Room := { frames := lv, cells := mc, slots := ms, locals := 40 * lv }
/-- what stands while a constructor goes -/
def zCv (p : Program) (s : State) (m : MethodId) (args : Array Value) (c : Code) (Γ : zΓ) (b : Nat) (cc : ByteArray) (nL : Nat) (own : String) : Prop :=
  p.tables.exec = Jvm.exec ∧ c.code = cc ∧ c.maxLocals = nL ∧ s.vm.findClass own = some m.cls ∧ (∀ w ∈ zTb, w.before args s = true) ∧ va_K Γ.2.2.2.1 vwCl (ztys Γ) s ∧ (zXb b Γ.2.2.2.2.2 s s.heap ∧ zNk s ∧ zNm s) ∧ b ≤ s.heap.size ∧ zXs Γ
def V (p : Program) (l : Launch) (e : Env) (R : Room) (s : State) (m : MethodId) (args : Array Value) (below : List Frame) (meth : Method) (c : Code) (b : Nat) (D : va_G) (nL cells slots : Nat) (Q : State → Prop) (pc : Nat) (ls : List (Option zV)) (st : List zV) (ws : va_W) : Prop :=
  ∀ (H : Heap) (locs : List Loc) (rl : Array Slot), va_P D vwCl ws H → va_D (zAb b) ws → va_S (zAb b) s.heap H locs → zL rl nL ls → W p l e R s m args below meth c H locs cells slots Q (F0 m pc rl (st.map zc))
theorem zCv_x {p : Program} {s : State} {m : MethodId} {args : Array Value} {c : Code} {Γ Γ' : zΓ} {b : Nat} {cc : ByteArray} {nL : Nat} {own : String} (C : zCv p s m args c Γ b cc nL own) (hx : zxt Γ Γ') : zCv p s m args c Γ' b cc nL own := by
  obtain ⟨h1, h2, h3, h4, h5, h6, h7, h8, h9⟩ := C
  refine ⟨h1, h2, h3, h4, h5, ?_, ?_, h8, zxt_Xs hx h9⟩
  · unfold ztys
    rw [hx.1, hx.2.1]
    exact h6
  · rw [hx.2.2.1]
    exact h7
theorem zFu_set {t k : Nat} {S S' : Nat → Bool} {fr fr' : Nat → Nat} {iv iv' : Nat → Int} {v : Value} (hv : v = zFu t S' fr' iv' k) (hn : ∀ j, j ≠ k → zFu t S' fr' iv' j = zFu t S fr iv j) : ((List.range (zN t)).map (zFu t S fr iv)).set k v = (List.range (zN t)).map (zFu t S' fr' iv') := by
  apply List.ext_getElem?
  intro j
  rw [List.getElem?_set]
  by_cases hj : j < zN t
  · by_cases hk : k = j
    · subst hk
      simp [hj, hv]
    · rw [if_neg hk]
      simp [hj, hn j (Ne.symm hk)]
  · by_cases hk : k = j
    · subst hk
      simp [hj]
    · rw [if_neg hk]
      simp [hj]
set_option maxRecDepth 100000 in
theorem zO0_ok {t : Nat} (h1 : 1 ≤ t) (h2 : t ≤ 10) : ∀ j, j < zN t → defaultValue (zty0 t j) = vp_V ((List.range (zN t)).map (zFu t (fun _ => false) (fun _ => 0) (fun _ => 0))) j :=
  zt_cases (P := fun t => ∀ j, j < zN t → defaultValue (zty0 t j) = vp_V ((List.range (zN t)).map (zFu t (fun _ => false) (fun _ => 0) (fun _ => 0))) j) h1 h2 (by decide +kernel) (by decide +kernel) (by decide +kernel) (by decide +kernel) (by decide +kernel) (by decide +kernel) (by decide +kernel) (by decide +kernel) (by decide +kernel) (by decide +kernel)
theorem zfresh {A : Nat → Prop} {Y : va_W} {Γ : zΓ} {G : zH} {q : Nat} {e : va_E} (hL : zLok Γ) (hD : va_D A ((Y ++ zWd Γ G) ++ [(q, e)])) : Γ.1 q = 0 := by
  rcases Nat.decEq (Γ.1 q) 0 with h | h
  · exfalso
    have hm : q ∈ Γ.2.2.2.2.1 := (hL.2.1 q).mpr h
    have h1 : (q, zE Γ G q) ∈ zWd Γ G := List.mem_map.mpr ⟨q, hm, rfl⟩
    obtain ⟨i, hi⟩ := List.getElem?_of_mem (List.mem_append_right Y h1)
    have hi2 := (List.getElem?_eq_some_iff.mp hi).1
    have h2 := hD.1 i (Y ++ zWd Γ G).length (q, zE Γ G q) (q, e) (by rw [List.getElem?_append_left hi2]; exact hi) (by rw [List.getElem?_append_right (Nat.le_refl _), Nat.sub_self]; rfl) rfl
    omega
  · exact h
theorem zfresh0 {A : Nat → Prop} {Y : va_W} {Γ : zΓ} {G : zH} {q : Nat} {e : va_E} (hL : zLok Γ) (hD : va_D A ((q, e) :: (Y ++ zWd Γ G))) : Γ.1 q = 0 :=
  zfresh hL (zD_perm hD (List.perm_append_singleton (q, e) (Y ++ zWd Γ G)))
section ZV
variable {p : Program} {l : Launch} {e : Env} {R : Room} {s : State} {m : MethodId} {args : Array Value} {below : List Frame} {meth : Method} {c : Code} {Γ : zΓ} {b : Nat} {cc : ByteArray} {nL : Nat} {own : String} {cells slots : Nat} {Q : State → Prop} {pc : Nat} {ls : List (Option zV)} {st : List zV} {G : zH} {ws Y : va_W} {D : va_G}
theorem v_aload_n (C : zCv p s m args c Γ b cc nL own) {k : Fin 4} {t a : Nat} (d : decode cc pc = .ok (.aload_n k, 1)) (h : ls[(k : Nat)]? = some (some (zr t a))) (kk : V p l e R s m args below meth c b D nL cells slots Q (pc + 1) ls (zr t a :: st) ws) : V p l e R s m args below meth c b D nL cells slots Q pc ls st ws := by
  intro H locs rl hP hD hS hL
  exact lv_aload_n C.1 C.2.1 d rfl (hL.2.2 _ _ h) (kk H locs rl hP hD hS hL)
theorem v_iconst (C : zCv p s m args c Γ b cc nL own) {n : Int} (d : decode cc pc = .ok (.iconst n, 1)) (kk : V p l e R s m args below meth c b D nL cells slots Q (pc + 1) ls (zi n :: st) ws) : V p l e R s m args below meth c b D nL cells slots Q pc ls st ws := by
  intro H locs rl hP hD hS hL
  exact lv_iconst C.1 C.2.1 d rfl (kk H locs rl hP hD hS hL)
theorem v_bipush (C : zCv p s m args c Γ b cc nL own) {n : Int} (d : decode cc pc = .ok (.bipush n, 2)) (hv : (Int8.ofInt n).toInt32 = Int32.ofInt n) (kk : V p l e R s m args below meth c b D nL cells slots Q (pc + 2) ls (zi n :: st) ws) : V p l e R s m args below meth c b D nL cells slots Q pc ls st ws := by
  intro H locs rl hP hD hS hL
  exact lv_bipush C.1 C.2.1 d hv (kk H locs rl hP hD hS hL)
theorem v_sipush (C : zCv p s m args c Γ b cc nL own) {n : Int} (d : decode cc pc = .ok (.sipush n, 3)) (hv : (Int16.ofInt n).toInt32 = Int32.ofInt n) (kk : V p l e R s m args below meth c b D nL cells slots Q (pc + 3) ls (zi n :: st) ws) : V p l e R s m args below meth c b D nL cells slots Q pc ls st ws := by
  intro H locs rl hP hD hS hL
  exact lv_sipush C.1 C.2.1 d hv (kk H locs rl hP hD hS hL)
theorem v_dup (C : zCv p s m args c Γ b cc nL own) {t a : Nat} (d : decode cc pc = .ok (.dup, 1)) (kk : V p l e R s m args below meth c b D nL cells slots Q (pc + 1) ls (zr t a :: zr t a :: st) ws) : V p l e R s m args below meth c b D nL cells slots Q pc ls (zr t a :: st) ws := by
  intro H locs rl hP hD hS hL
  exact lv_dup C.1 C.2.1 d rfl (kk H locs rl hP hD hS hL)
theorem v_popi (C : zCv p s m args c Γ b cc nL own) {x : Int} (d : decode cc pc = .ok (.pop, 1)) (kk : V p l e R s m args below meth c b D nL cells slots Q (pc + 1) ls st ws) : V p l e R s m args below meth c b D nL cells slots Q pc ls (zi x :: st) ws := by
  intro H locs rl hP hD hS hL
  exact lv_pop C.1 C.2.1 d rfl (kk H locs rl hP hD hS hL)
theorem v_obj (C : zCv p s m args c Γ b cc nL own) {idx t a : Nat} (d : decode cc pc = .ok (.invokespecial idx, 3)) (w1 : Cond.methodLink own idx Lib.objectInit ∈ zTb) (w2 : Cond.instanceMethod Lib.objectInit ∈ zTb) (w3 : Cond.code Lib.objectInit ⟨#[0xb1]⟩ 1 none ∈ zTb) (hR : 1 ≤ R.frames ∧ 20 ≤ R.locals) (hw : ((st.map zc).map fun v => v.category).sum ≤ 8) (kk : V p l e R s m args below meth c b D nL cells slots Q (pc + 3) ls st ws) : V p l e R s m args below meth c b D nL cells slots Q pc ls (zr t a :: st) ws := by
  intro H locs rl hP hD hS hL
  refine W.objInit C.1 C.2.1 C.2.2.2.1 (C.2.2.2.2.1 _ w1) (C.2.2.2.2.1 _ w2) (C.2.2.2.2.1 _ w3) rfl (by rw [C.2.2.1]; exact hL.1) rfl d hR.1 ?_ (kk H locs rl hP hD hS hL)
  have h9 := lv_room (m := m) (pc := pc) (ls := rl) (rest := (zr t a :: st).map zc) hw
  omega
/-- a new array of ints -/
theorem v_newi (C : zCv p s m args c Γ b cc nL own) (hB : zBn Γ G) (t : Nat) {n : Nat} (d : decode cc pc = .ok (.newarray .int, 2)) (w : Cond.arrayClass .int ∈ zTb) (hz : zat t = (0, n)) (hn : (n : Int) < 100000) (h58 : t ≠ 58) (hc : cells + 1 ≤ R.cells ∧ slots + n ≤ R.slots)
    (kk : ∀ q : Nat, Γ.1 q = 0 → zBn (zad Γ q t (fun _ => 0)) G → V p l e R s m args below meth c b Γ.2.2.2.1 nL (cells + 1) (slots + n) Q (pc + 2) ls (zr t q :: st) (Y ++ zWd (zad Γ q t (fun _ => 0)) G)) : V p l e R s m args below meth c b Γ.2.2.2.1 nL cells slots Q pc ls (zi n :: st) (Y ++ zWd Γ G) := by
  intro H locs rl hP hD hS hL
  have hK := C.2.2.2.2.2.1
  have ht : 11 ≤ t := by
    rcases Nat.lt_or_ge t 11 with q | q
    · rw [zat, if_pos q] at hz
      cases hz
    · exact q
  refine va_newa (atype := .int) (ty := .int) C.1 C.2.1 (C.2.2.2.2.1 _ w) rfl hK hP hD hS (fun q h => Nat.le_trans C.2.2.2.2.2.2.2.1 h) (N' := n) (a0 := (n, .inl (fun _ => 0))) (fun cA => rfl) (fun h => ?_) (by rw [zi_nat (by omega) (by omega)]; omega) (by show n * 4 ≤ 536870912; omega) hc.1 hc.2 d (fun q cA H1 hK1 hP1 hD1 hS1 => ?_)
  · rw [zi_0, zi_lt (by omega) (by omega)] at h
    omega
  · have hq : Γ.1 q = 0 := zfresh hB.1 hD1
    have e1 : cA = Γ.2.2.1 0 := Option.some.inj ((hK1.2 3 (cA, .int) rfl).2.symm.trans (hK.2 0 (Γ.2.2.1 0, .int) rfl).2)
    have e2 : zE (zad Γ q t (fun _ => 0)) G q = .inl (cA, n, .inl (fun _ => 0)) := by
      rw [zE_int (zad_q Γ q t _) hz, e1]
      refine congrArg (fun f => Sum.inl (Γ.2.2.1 0, n, Sum.inl f)) (funext (fun j => ?_))
      rw [(hB.2.2 q hq).1, zdf, if_neg (by omega)]
      rfl
    have e3 : Y ++ zWd (zad Γ q t (fun _ => 0)) G = (Y ++ zWd Γ G) ++ [(q, .inl (cA, n, .inl (fun _ => 0)))] := by
      rw [zWd_ad hB.1 hq (fun _ _ => rfl), e2, List.append_assoc]
    rw [← e3] at hP1 hD1
    exact kk q hq (zBn_arr hB hq ht) H1 locs rl hP1 hD1 hS1 hL
/-- a new array of longs -/
theorem v_newj (C : zCv p s m args c Γ b cc nL own) (hB : zBn Γ G) (t : Nat) {n : Nat} (d : decode cc pc = .ok (.newarray .long, 2)) (w : Cond.arrayClass .long ∈ zTb) (hz : zat t = (1, n)) (hn : (n : Int) < 100000) (hc : cells + 1 ≤ R.cells ∧ slots + n ≤ R.slots)
    (kk : ∀ q : Nat, Γ.1 q = 0 → zBn (zad Γ q t (fun _ => 0)) G → V p l e R s m args below meth c b Γ.2.2.2.1 nL (cells + 1) (slots + n) Q (pc + 2) ls (zr t q :: st) (Y ++ zWd (zad Γ q t (fun _ => 0)) G)) : V p l e R s m args below meth c b Γ.2.2.2.1 nL cells slots Q pc ls (zi n :: st) (Y ++ zWd Γ G) := by
  intro H locs rl hP hD hS hL
  have hK := C.2.2.2.2.2.1
  have ht : 11 ≤ t := by
    rcases Nat.lt_or_ge t 11 with q | q
    · rw [zat, if_pos q] at hz
      cases hz
    · exact q
  refine va_newa (atype := .long) (ty := .long) C.1 C.2.1 (C.2.2.2.2.1 _ w) rfl hK hP hD hS (fun q h => Nat.le_trans C.2.2.2.2.2.2.2.1 h) (N' := n) (a0 := (n, .inr (.inl (fun _ => 0)))) (fun cA => rfl) (fun h => ?_) (by rw [zi_nat (by omega) (by omega)]; omega) (by show n * 8 ≤ 536870912; omega) hc.1 hc.2 d (fun q cA H1 hK1 hP1 hD1 hS1 => ?_)
  · rw [zi_0, zi_lt (by omega) (by omega)] at h
    omega
  · have hq : Γ.1 q = 0 := zfresh hB.1 hD1
    have e1 : cA = Γ.2.2.1 1 := Option.some.inj ((hK1.2 3 (cA, .long) rfl).2.symm.trans (hK.2 1 (Γ.2.2.1 1, .long) rfl).2)
    have e2 : zE (zad Γ q t (fun _ => 0)) G q = .inl (cA, n, .inr (.inl (fun _ => 0))) := by
      rw [zE_long (zad_q Γ q t _) hz, e1]
      refine congrArg (fun f => Sum.inl (Γ.2.2.1 1, n, Sum.inr (Sum.inl f))) (funext (fun j => ?_))
      rw [(hB.2.2 q hq).2]
      rfl
    have e3 : Y ++ zWd (zad Γ q t (fun _ => 0)) G = (Y ++ zWd Γ G) ++ [(q, .inl (cA, n, .inr (.inl (fun _ => 0))))] := by
      rw [zWd_ad hB.1 hq (fun _ _ => rfl), e2, List.append_assoc]
    rw [← e3] at hP1 hD1
    exact kk q hq (zBn_arr hB hq ht) H1 locs rl hP1 hD1 hS1 hL
/-- a new array of booleans -/
theorem v_newz (C : zCv p s m args c Γ b cc nL own) (hB : zBn Γ G) (t : Nat) {n : Nat} (d : decode cc pc = .ok (.newarray .boolean, 2)) (w : Cond.arrayClass .boolean ∈ zTb) (hz : zat t = (2, n)) (hn : (n : Int) < 100000) (h58 : t ≠ 58) (hc : cells + 1 ≤ R.cells ∧ slots + n ≤ R.slots)
    (kk : ∀ q : Nat, Γ.1 q = 0 → zBn (zad Γ q t (fun _ => 0)) G → V p l e R s m args below meth c b Γ.2.2.2.1 nL (cells + 1) (slots + n) Q (pc + 2) ls (zr t q :: st) (Y ++ zWd (zad Γ q t (fun _ => 0)) G)) : V p l e R s m args below meth c b Γ.2.2.2.1 nL cells slots Q pc ls (zi n :: st) (Y ++ zWd Γ G) := by
  intro H locs rl hP hD hS hL
  have hK := C.2.2.2.2.2.1
  have ht : 11 ≤ t := by
    rcases Nat.lt_or_ge t 11 with q | q
    · rw [zat, if_pos q] at hz
      cases hz
    · exact q
  refine va_newa (atype := .boolean) (ty := .boolean) C.1 C.2.1 (C.2.2.2.2.1 _ w) rfl hK hP hD hS (fun q h => Nat.le_trans C.2.2.2.2.2.2.2.1 h) (N' := n) (a0 := (n, .inl (fun _ => 0))) (fun cA => rfl) (fun h => ?_) (by rw [zi_nat (by omega) (by omega)]; omega) (by show n * 1 ≤ 536870912; omega) hc.1 hc.2 d (fun q cA H1 hK1 hP1 hD1 hS1 => ?_)
  · rw [zi_0, zi_lt (by omega) (by omega)] at h
    omega
  · have hq : Γ.1 q = 0 := zfresh hB.1 hD1
    have e1 : cA = Γ.2.2.1 2 := Option.some.inj ((hK1.2 3 (cA, .boolean) rfl).2.symm.trans (hK.2 2 (Γ.2.2.1 2, .boolean) rfl).2)
    have e2 : zE (zad Γ q t (fun _ => 0)) G q = .inl (cA, n, .inl (fun _ => 0)) := by
      rw [zE_bool (zad_q Γ q t _) hz, e1]
      refine congrArg (fun f => Sum.inl (Γ.2.2.1 2, n, Sum.inl f)) (funext (fun j => ?_))
      rw [(hB.2.2 q hq).1, zdf, if_neg (by omega)]
      rfl
    have e3 : Y ++ zWd (zad Γ q t (fun _ => 0)) G = (Y ++ zWd Γ G) ++ [(q, .inl (cA, n, .inl (fun _ => 0)))] := by
      rw [zWd_ad hB.1 hq (fun _ _ => rfl), e2, List.append_assoc]
    rw [← e3] at hP1 hD1
    exact kk q hq (zBn_arr hB hq ht) H1 locs rl hP1 hD1 hS1 hL
/-- a new thing -/
theorem v_new (C : zCv p s m args c Γ b cc nL own) {idx t : Nat} (d : decode cc pc = .ok (.new idx, 3)) (ht : 1 ≤ t ∧ t ≤ 10) (w1 : Cond.classLink own idx (zCn t) ∈ zTb) (w2 : Cond.instantiable (zCn t) (zN t) ∈ zTb) (w3 : Cond.initialized (zCn t) ∈ zTb) (hc : cells + 1 ≤ R.cells ∧ slots + zN t ≤ R.slots)
    (kk : ∀ q : Nat, V p l e R s m args below meth c b Γ.2.2.2.1 nL (cells + 1) (slots + zN t) Q (pc + 3) ls (zr t q :: st) ((q, zO0 t) :: ws)) : V p l e R s m args below meth c b Γ.2.2.2.1 nL cells slots Q pc ls st ws := by
  intro H locs rl hP hD hS hL
  refine va_new C.1 C.2.1 C.2.2.2.2.1 (zcl_in ht.1 ht.2) (zty0 t) (zcl_ty ht.1 ht.2) C.2.2.2.1 (C.2.2.2.2.1 _ w1) (C.2.2.2.2.1 _ w2) (C.2.2.2.2.1 _ w3) C.2.2.2.2.2.1 hP hD hS (fun q h => Nat.le_trans C.2.2.2.2.2.2.2.1 h) (zcl_at ht.1 ht.2) (zO0_ok ht.1 ht.2) hc.1 hc.2 d (fun q H1 hP1 hD1 hS1 => ?_)
  exact kk q H1 locs rl (zP_mem hP1 (fun x hx => (List.perm_append_singleton (q, zO0 t) ws).mem_iff.mpr hx)) (zD_perm hD1 (List.perm_append_singleton (q, zO0 t) ws).symm) hS1 hL
/-- a reference is laid into the thing that is made -/
theorem v_putr (C : zCv p s m args c Γ b cc nL own) (hin : meth.name = "<init>") {t k a idx t' q : Nat} {S : Nat → Bool} {fr : Nat → Nat} {iv : Nat → Int} (d : decode cc pc = .ok (.putfield idx, 3)) (w : Cond.fieldLink own idx (zCn t) (zT t k).2.1 (zT t k).2.2.1 ∈ zTb) (ho : zCn t = own) (hf : (zfk t k).1 = 2 ∨ (zfk t k).1 = 3) (ht' : (zfk t k).2 = t')
    (kk : V p l e R s m args below meth c b Γ.2.2.2.1 nL cells slots Q (pc + 3) ls st ((a, zOb t (zuS S k) (zuR fr k q) iv) :: Y)) : V p l e R s m args below meth c b Γ.2.2.2.1 nL cells slots Q pc ls (zr t' q :: zr t a :: st) ((a, zOb t S fr iv) :: Y) := by
  intro H locs rl hP hD hS hL
  obtain ⟨t1, t2, hkn⟩ := zfk_lt (t := t) (k := k) (by rcases hf with h | h <;> rw [h] <;> decide)
  have hty := zkty_3 (ty := zty0 t k) (by
    have h9 := zcl_k t1 t2 k hkn
    rcases hf with h | h
    · rw [h] at h9; exact h9
    · rw [h] at h9; exact h9)
  have hset : ((List.range (zN t)).map (zFu t S fr iv)).set k (.ref q) = (List.range (zN t)).map (zFu t (zuS S k) (zuR fr k q) iv) := by
    refine zFu_set ?_ (fun j hj => ?_)
    · unfold zFu zuS zuR
      rcases hf with h | h <;> rw [h] <;> simp
    · unfold zFu zuS zuR
      rw [if_neg hj, if_neg hj]
  have hk2 : ∀ (H1 : Heap) (locs1 : List Loc), va_P Γ.2.2.2.1 vwCl (((a, zOb t S fr iv) :: Y).set 0 (a, .inr (t - 1, ((List.range (zN t)).map (zFu t S fr iv)).set k (.ref q)))) H1 → va_D (zAb b) (((a, zOb t S fr iv) :: Y).set 0 (a, .inr (t - 1, ((List.range (zN t)).map (zFu t S fr iv)).set k (.ref q)))) → va_S (zAb b) s.heap H1 locs1 → W p l e R s m args below meth c H1 locs1 cells slots Q (F0 m (pc + 3) rl (st.map zc)) := by
    intro H1 locs1 h1 h2 h3
    rw [hset] at h1 h2
    exact kk H1 locs1 rl h1 h2 h3 hL
  have hn : narrow (zty0 t k) (Value.ref q) = Value.ref q := by rcases hty with ⟨x, e⟩ | ⟨x, e⟩ <;> rw [e] <;> rfl
  have hft : fits (zty0 t k) (Value.ref q) = true := by rcases hty with ⟨x, e⟩ | ⟨x, e⟩ <;> rw [e] <;> rfl
  cases hfin : (zT t k).2.2.2 with
  | false => exact va_put C.1 C.2.1 C.2.2.2.2.1 (zcl_in t1 t2) (zty0 t) (zcl_ty t1 t2) (zcl_nm t1 t2) C.2.2.2.1 C.2.2.2.2.2.1 hP hD hS 0 rfl (zcl_at t1 t2) k hkn (C.2.2.2.2.1 _ w) (fun x hx => by rw [zcl_cls t1 t2 k hkn] at hx; exact hx) hfin (zcl_ty t1 t2 k hkn) hn hft (by simp [hkn]) d hk2
  | true => exact va_putF C.1 C.2.1 C.2.2.2.2.1 (zcl_in t1 t2) (zty0 t) (zcl_ty t1 t2) (zcl_nm t1 t2) C.2.2.2.1 C.2.2.2.2.2.1 hP hD hS 0 rfl (zcl_at t1 t2) k hkn (C.2.2.2.2.1 _ w) (fun x hx => by rw [zcl_cls t1 t2 k hkn] at hx; exact hx) hfin hin (by rw [zcl_cls t1 t2 k hkn]; exact ho) (zcl_ty t1 t2 k hkn) hn hft (by simp [hkn]) d hk2
/-- a number is laid into the thing that is made -/
theorem v_puti (C : zCv p s m args c Γ b cc nL own) {t k a idx : Nat} {x : Int} {S : Nat → Bool} {fr : Nat → Nat} {iv : Nat → Int} (d : decode cc pc = .ok (.putfield idx, 3)) (w : Cond.fieldLink own idx (zCn t) (zT t k).2.1 (zT t k).2.2.1 ∈ zTb) (hf : zfk t k = (0, 0))
    (kk : V p l e R s m args below meth c b Γ.2.2.2.1 nL cells slots Q (pc + 3) ls st ((a, zOb t S fr (zuV iv k x)) :: Y)) : V p l e R s m args below meth c b Γ.2.2.2.1 nL cells slots Q pc ls (zi x :: zr t a :: st) ((a, zOb t S fr iv) :: Y) := by
  intro H locs rl hP hD hS hL
  obtain ⟨t1, t2, hkn⟩ := zfk_lt (t := t) (k := k) (by rw [hf]; decide)
  have hty : zty0 t k = .int := by
    have h9 := zcl_k t1 t2 k hkn
    rw [hf] at h9
    simpa [zkty] using h9
  have hset : ((List.range (zN t)).map (zFu t S fr iv)).set k (.int (Int32.ofInt x)) = (List.range (zN t)).map (zFu t S fr (zuV iv k x)) := by
    refine zFu_set ?_ (fun j hj => ?_)
    · unfold zFu zuV
      rw [hf]
      simp
    · unfold zFu zuV
      rw [if_neg hj]
  refine va_put C.1 C.2.1 C.2.2.2.2.1 (zcl_in t1 t2) (zty0 t) (zcl_ty t1 t2) (zcl_nm t1 t2) C.2.2.2.1 C.2.2.2.2.2.1 hP hD hS 0 rfl (zcl_at t1 t2) k hkn (C.2.2.2.2.1 _ w) (fun x hx => by rw [zcl_cls t1 t2 k hkn] at hx; exact hx) (zcl_fin t1 t2 k hkn (by rw [hf]; decide)) (zcl_ty t1 t2 k hkn) (v := .int (Int32.ofInt x)) (by rw [hty]; rfl) (by rw [hty]; rfl) (by simp [hkn]) d ?_
  intro H1 locs1 h1 h2 h3
  rw [hset] at h1 h2
  exact kk H1 locs1 rl h1 h2 h3 hL
/-- a reference is read of the thing that is made -/
theorem v_getr (C : zCv p s m args c Γ b cc nL own) {t k a idx t' q : Nat} {S : Nat → Bool} {fr : Nat → Nat} {iv : Nat → Int} (d : decode cc pc = .ok (.getfield idx, 3)) (w : Cond.fieldLink own idx (zCn t) (zT t k).2.1 (zT t k).2.2.1 ∈ zTb) (hf : (zfk t k).1 = 2 ∨ (zfk t k).1 = 3) (i : Nat) (hi : ws[i]? = some (a, zOb t S fr iv)) (hS1 : S k = true) (hfr : fr k = q)
    (kk : V p l e R s m args below meth c b Γ.2.2.2.1 nL cells slots Q (pc + 3) ls (zr t' q :: st) ws) : V p l e R s m args below meth c b Γ.2.2.2.1 nL cells slots Q pc ls (zr t a :: st) ws := by
  intro H locs rl hP hD hS hL
  obtain ⟨t1, t2, hkn⟩ := zfk_lt (t := t) (k := k) (by rcases hf with h | h <;> rw [h] <;> decide)
  have hv : zFu t S fr iv k = .ref q := by
    unfold zFu
    rcases hf with h | h <;> rw [h] <;> simp [hS1, hfr]
  refine va_get C.1 C.2.1 C.2.2.2.2.1 (zcl_in t1 t2) C.2.2.2.1 C.2.2.2.2.2.1 hP i hi (zcl_at t1 t2) k hkn (C.2.2.2.2.1 _ w) (fun x hx => by rw [zcl_cls t1 t2 k hkn] at hx; exact hx) (v := .ref q) (by rw [← hv]; simp [hkn]) d (kk H locs rl hP hD hS hL)
/-- the thing is whole -/
theorem v_adopt {t q : Nat} {S : Nat → Bool} {fr : Nat → Nat} {iv : Nat → Int} (hB : zBn Γ G) (h1 : 1 ≤ t) (h2 : t ≤ 10) (hS : ∀ k, k < zN t → 2 ≤ (zfk t k).1 → (zfk t k).1 ≤ 3 → S k = true) (hk : ∀ k, k < zN t → (zfk t k).1 ≤ 4) (hO : zOk Γ t S fr) (hiv : ∀ k, k < zN t → (zrg (100 * t + k) 0).1 ≤ iv k ∧ iv k ≤ (zrg (100 * t + k) 0).2)
    (kk : Γ.1 q = 0 → zBn (zad Γ q t fr) (zag G t q fr iv) → V p l e R s m args below meth c b D nL cells slots Q pc ls st (Y ++ zWd (zad Γ q t fr) (zag G t q fr iv))) : V p l e R s m args below meth c b D nL cells slots Q pc ls st ((q, zOb t S fr iv) :: (Y ++ zWd Γ G)) := by
  intro H locs rl hP hD hS9 hL
  have hq : Γ.1 q = 0 := zfresh0 hB.1 hD
  have e1 : Y ++ zWd (zad Γ q t fr) (zag G t q fr iv) = (Y ++ zWd Γ G) ++ [(q, zOb t S fr iv)] := by
    rw [zWd_ob hB hq h1 h2 hS hk, List.append_assoc]
  have hp := List.perm_append_singleton (q, zOb t S fr iv) (Y ++ zWd Γ G)
  refine kk hq (zBn_ob hB hq h1 h2 hS hO hiv) H locs rl ?_ ?_ hS9 hL
  · rw [e1]
    exact zP_mem hP (fun x hx => hp.mem_iff.mp hx)
  · rw [e1]
    exact zD_perm hD hp
theorem v_widen {k n : Nat} (h1 : cells ≤ k) (h2 : slots ≤ n) (kk : V p l e R s m args below meth c b D nL k n Q pc ls st ws) : V p l e R s m args below meth c b D nL cells slots Q pc ls st ws := fun H locs rl hP hD hS hL => W.widen h1 h2 (kk H locs rl hP hD hS hL)
/-! the same, seen from the constructor's start -/
theorem v_newi0 {Γ0 : zΓ} {hd : Nat × va_E} {X : va_W} (C : zCv p s m args c Γ0 b cc nL own) (hx : zxt Γ0 Γ) (hB : zBn Γ G) (t : Nat) {n : Nat} {x : Int} (d : decode cc pc = .ok (.newarray .int, 2)) (w : Cond.arrayClass .int ∈ zTb) (hz : zat t = (0, n)) (hxn : x = (n : Int)) (hn : (n : Int) < 100000) (h58 : t ≠ 58) (hc : cells + 1 ≤ R.cells ∧ slots + n ≤ R.slots)
    (kk : ∀ (Γ' : zΓ) (q : Nat), Γ.1 q = 0 → zxt Γ Γ' → zBn Γ' G → Γ'.1 q = t → V p l e R s m args below meth c b Γ0.2.2.2.1 nL (cells + 1) (slots + n) Q (pc + 2) ls (zr t q :: st) (hd :: (X ++ zWd Γ' G))) : V p l e R s m args below meth c b Γ0.2.2.2.1 nL cells slots Q pc ls (zi x :: st) (hd :: (X ++ zWd Γ G)) := by
  subst hxn
  rw [← hx.2.1]
  refine v_newi (Y := hd :: X) (zCv_x C hx) hB t d w hz hn h58 hc (fun q hq hB1 => ?_)
  have h := kk (zad Γ q t (fun _ => 0)) q hq (zad_xt hq) hB1 (zad_q Γ q t _)
  rw [← hx.2.1] at h
  exact h
theorem v_newj0 {Γ0 : zΓ} {hd : Nat × va_E} {X : va_W} (C : zCv p s m args c Γ0 b cc nL own) (hx : zxt Γ0 Γ) (hB : zBn Γ G) (t : Nat) {n : Nat} {x : Int} (d : decode cc pc = .ok (.newarray .long, 2)) (w : Cond.arrayClass .long ∈ zTb) (hz : zat t = (1, n)) (hxn : x = (n : Int)) (hn : (n : Int) < 100000) (h58 : t ≠ 58) (hc : cells + 1 ≤ R.cells ∧ slots + n ≤ R.slots)
    (kk : ∀ (Γ' : zΓ) (q : Nat), Γ.1 q = 0 → zxt Γ Γ' → zBn Γ' G → Γ'.1 q = t → V p l e R s m args below meth c b Γ0.2.2.2.1 nL (cells + 1) (slots + n) Q (pc + 2) ls (zr t q :: st) (hd :: (X ++ zWd Γ' G))) : V p l e R s m args below meth c b Γ0.2.2.2.1 nL cells slots Q pc ls (zi x :: st) (hd :: (X ++ zWd Γ G)) := by
  subst hxn
  rw [← hx.2.1]
  refine v_newj (Y := hd :: X) (zCv_x C hx) hB t d w hz hn hc (fun q hq hB1 => ?_)
  have h := kk (zad Γ q t (fun _ => 0)) q hq (zad_xt hq) hB1 (zad_q Γ q t _)
  rw [← hx.2.1] at h
  exact h
theorem v_newz0 {Γ0 : zΓ} {hd : Nat × va_E} {X : va_W} (C : zCv p s m args c Γ0 b cc nL own) (hx : zxt Γ0 Γ) (hB : zBn Γ G) (t : Nat) {n : Nat} {x : Int} (d : decode cc pc = .ok (.newarray .boolean, 2)) (w : Cond.arrayClass .boolean ∈ zTb) (hz : zat t = (2, n)) (hxn : x = (n : Int)) (hn : (n : Int) < 100000) (h58 : t ≠ 58) (hc : cells + 1 ≤ R.cells ∧ slots + n ≤ R.slots)
    (kk : ∀ (Γ' : zΓ) (q : Nat), Γ.1 q = 0 → zxt Γ Γ' → zBn Γ' G → Γ'.1 q = t → V p l e R s m args below meth c b Γ0.2.2.2.1 nL (cells + 1) (slots + n) Q (pc + 2) ls (zr t q :: st) (hd :: (X ++ zWd Γ' G))) : V p l e R s m args below meth c b Γ0.2.2.2.1 nL cells slots Q pc ls (zi x :: st) (hd :: (X ++ zWd Γ G)) := by
  subst hxn
  rw [← hx.2.1]
  refine v_newz (Y := hd :: X) (zCv_x C hx) hB t d w hz hn h58 hc (fun q hq hB1 => ?_)
  have h := kk (zad Γ q t (fun _ => 0)) q hq (zad_xt hq) hB1 (zad_q Γ q t _)
  rw [← hx.2.1] at h
  exact h
theorem v_adopt0 {Γ0 : zΓ} {X : va_W} {t q : Nat} {S : Nat → Bool} {fr : Nat → Nat} {iv : Nat → Int} (hB : zBn Γ G) (h1 : 1 ≤ t) (h2 : t ≤ 10) (hS : ∀ k, k < zN t → 2 ≤ (zfk t k).1 → (zfk t k).1 ≤ 3 → S k = true) (hk : ∀ k, k < zN t → (zfk t k).1 ≤ 4) (hO : zOk Γ t S fr) (hiv : ∀ k, k < zN t → (zrg (100 * t + k) 0).1 ≤ iv k ∧ iv k ≤ (zrg (100 * t + k) 0).2)
    (kk : ∀ (Γ' : zΓ) (G' : zH), zxt Γ Γ' → zBn Γ' G' → Γ'.1 q = t → Γ' = zad Γ q t fr → G' = zag G t q fr iv → V p l e R s m args below meth c b Γ0.2.2.2.1 nL cells slots Q pc ls st (X ++ zWd Γ' G')) : V p l e R s m args below meth c b Γ0.2.2.2.1 nL cells slots Q pc ls st ((q, zOb t S fr iv) :: (X ++ zWd Γ G)) :=
  v_adopt hB h1 h2 hS hk hO hiv (fun hq hB1 => kk _ _ (zad_xt hq) hB1 (zad_q Γ q t fr) rfl rfl)
/-! the words of the reference: an array that is filled while it lies apart -/
def fW (k : Nat) : Nat → Int32 := fun j => if j < k then Int32.ofInt (zWD.getD j 32) else 0
theorem fW_s {k : Nat} : upd (fW k) k (Int32.ofInt (zWD.getD k 32)) = fW (k + 1) := by
  funext j
  unfold upd fW
  by_cases h : j = k
  · rw [if_pos h, if_pos (by omega), h]
  · rw [if_neg h]
    by_cases h2 : j < k
    · rw [if_pos h2, if_pos (by omega)]
    · rw [if_neg h2, if_neg (by omega)]
theorem v_newx (C : zCv p s m args c Γ b cc nL own) {n : Nat} {x : Int} (d : decode cc pc = .ok (.newarray .int, 2)) (w : Cond.arrayClass .int ∈ zTb) (hxn : x = (n : Int)) (hn : (n : Int) < 100000) (hc : cells + 1 ≤ R.cells ∧ slots + n ≤ R.slots)
    (kk : ∀ (q : Nat), V p l e R s m args below meth c b Γ.2.2.2.1 nL (cells + 1) (slots + n) Q (pc + 2) ls (zr 58 q :: st) ((q, .inl (Γ.2.2.1 0, n, .inl (fW 0))) :: ws)) : V p l e R s m args below meth c b Γ.2.2.2.1 nL cells slots Q pc ls (zi x :: st) ws := by
  intro H locs rl hP hD hS hL
  subst hxn
  have hK := C.2.2.2.2.2.1
  refine va_newa (atype := .int) (ty := .int) C.1 C.2.1 (C.2.2.2.2.1 _ w) rfl hK hP hD hS (fun q h => Nat.le_trans C.2.2.2.2.2.2.2.1 h) (N' := n) (a0 := (n, .inl (fW 0))) (fun cA => rfl) (fun h => ?_) (by rw [zi_nat (by omega) (by omega)]; omega) (by show n * 4 ≤ 536870912; omega) hc.1 hc.2 d (fun q cA H1 hK1 hP1 hD1 hS1 => ?_)
  · rw [zi_0, zi_lt (by omega) (by omega)] at h
    omega
  · have e1 : cA = Γ.2.2.1 0 := Option.some.inj ((hK1.2 3 (cA, .int) rfl).2.symm.trans (hK.2 0 (Γ.2.2.1 0, .int) rfl).2)
    subst e1
    have hp := List.perm_append_singleton (q, (Sum.inl (Γ.2.2.1 0, n, .inl (fW 0)) : va_E)) ws
    exact kk q H1 locs rl (zP_mem hP1 (fun x hx => hp.mem_iff.mpr hx)) (zD_perm hD1 hp.symm) hS1 hL
theorem v_word (C : zCv p s m args c Γ b cc nL own) {q k n : Nat} {i x : Int} (hi : i = (k : Int)) (hk : k < n ∧ n < 1000) (hx : x = zWD.getD k 32) (d : decode cc pc = .ok (.iastore, 1)) (kk : V p l e R s m args below meth c b Γ.2.2.2.1 nL cells slots Q (pc + 1) ls st ((q, .inl (Γ.2.2.1 0, n, .inl (fW (k + 1)))) :: Y)) : V p l e R s m args below meth c b Γ.2.2.2.1 nL cells slots Q pc ls (zi x :: zi i :: zr 58 q :: st) ((q, .inl (Γ.2.2.1 0, n, .inl (fW k))) :: Y) := by
  intro H locs rl hP hD hS hL
  subst hi
  refine va_iast C.1 C.2.1 C.2.2.2.2.2.1 hP hD hS 0 0 rfl rfl (zi_in (by omega) (by omega)) d (fun H1 locs1 h1 h2 h3 => ?_)
  rw [zi_nat (by omega) (by omega), show ((k : Int)).toNat = k by omega, hx, fW_s] at h1 h2
  exact kk H1 locs1 rl h1 h2 h3 hL
theorem v_word6 (C : zCv p s m args c Γ b cc nL own) {q k n : Nat} {i x : Int} (d1 : decode cc pc = .ok (.dup, 1)) (d2 : decode cc (pc + 1) = .ok (.bipush i, 2)) (d3 : decode cc (pc + 1 + 2) = .ok (.bipush x, 2)) (d4 : decode cc (pc + 1 + 2 + 2) = .ok (.iastore, 1)) (hi2 : (Int8.ofInt i).toInt32 = Int32.ofInt i) (hx2 : (Int8.ofInt x).toInt32 = Int32.ofInt x) (hi : i = (k : Int)) (hk : k < n ∧ n < 1000) (hx : x = zWD.getD k 32)
    (kk : V p l e R s m args below meth c b Γ.2.2.2.1 nL cells slots Q (pc + 6) ls (zr 58 q :: st) ((q, .inl (Γ.2.2.1 0, n, .inl (fW (k + 1)))) :: Y)) : V p l e R s m args below meth c b Γ.2.2.2.1 nL cells slots Q pc ls (zr 58 q :: st) ((q, .inl (Γ.2.2.1 0, n, .inl (fW k))) :: Y) :=
  v_dup C d1 (v_bipush C d2 hi2 (v_bipush C d3 hx2 (v_word C hi hk hx d4 kk)))
theorem v_word5 (C : zCv p s m args c Γ b cc nL own) {q k n : Nat} {i x : Int} (d1 : decode cc pc = .ok (.dup, 1)) (d2 : decode cc (pc + 1) = .ok (.iconst i, 1)) (d3 : decode cc (pc + 1 + 1) = .ok (.bipush x, 2)) (d4 : decode cc (pc + 1 + 1 + 2) = .ok (.iastore, 1)) (hx2 : (Int8.ofInt x).toInt32 = Int32.ofInt x) (hi : i = (k : Int)) (hk : k < n ∧ n < 1000) (hx : x = zWD.getD k 32)
    (kk : V p l e R s m args below meth c b Γ.2.2.2.1 nL cells slots Q (pc + 5) ls (zr 58 q :: st) ((q, .inl (Γ.2.2.1 0, n, .inl (fW (k + 1)))) :: Y)) : V p l e R s m args below meth c b Γ.2.2.2.1 nL cells slots Q pc ls (zr 58 q :: st) ((q, .inl (Γ.2.2.1 0, n, .inl (fW k))) :: Y) :=
  v_dup C d1 (v_iconst C d2 (v_bipush C d3 hx2 (v_word C hi hk hx d4 kk)))
theorem arrV_cg {cA : ClassId} {n : Nat} {f g : Nat → Value} (h : ∀ j, j < n → f j = g j) : arrV cA n f = arrV cA n g := by
  unfold arrV
  congr 1
  congr 1
  funext j
  exact h j.val j.isLt
/-- the words are laid: the array is one of the reference's -/
theorem v_words {Γ0 : zΓ} {hd : Nat × va_E} {X : va_W} {q : Nat} (hx : zxt Γ0 Γ) (hB : zBn Γ G)
    (kk : ∀ (Γ' : zΓ), zxt Γ Γ' → zBn Γ' G → Γ'.1 q = 58 → V p l e R s m args below meth c b Γ0.2.2.2.1 nL cells slots Q pc ls st (hd :: (X ++ zWd Γ' G))) : V p l e R s m args below meth c b Γ0.2.2.2.1 nL cells slots Q pc ls st ((q, .inl (Γ0.2.2.1 0, 121, .inl (fW 121))) :: hd :: (X ++ zWd Γ G)) := by
  intro H locs rl hP hD hS hL
  have hq : Γ.1 q = 0 := zfresh0 (Y := hd :: X) hB.1 hD
  have e2 : zE (zad Γ q 58 (fun _ => 0)) G q = .inl (Γ0.2.2.1 0, 121, .inl (fun j => Int32.ofInt (zWD.getD j 32))) := by
    rw [zE_int (zad_q Γ q 58 _) a_58, show (zad Γ q 58 (fun _ => 0)).2.2.1 = Γ0.2.2.1 from hx.1]
    refine congrArg (fun f => Sum.inl (Γ0.2.2.1 0, 121, Sum.inl f)) (funext (fun j => ?_))
    rw [(hB.2.2 q hq).1, zdf, if_pos rfl]
  have e3 : hd :: (X ++ zWd (zad Γ q 58 (fun _ => 0)) G) = (hd :: (X ++ zWd Γ G)) ++ [(q, .inl (Γ0.2.2.1 0, 121, .inl (fun j => Int32.ofInt (zWD.getD j 32))))] := by
    rw [zWd_ad hB.1 hq (fun _ _ => rfl), e2, ← List.append_assoc]
    rfl
  have h9 : va_at Γ0.2.2.2.1 vwCl (q, .inl (Γ0.2.2.1 0, 121, .inl (fun j => Int32.ofInt (zWD.getD j 32)))) H := by
    have h8 : H[q]? = some (arrV (Γ0.2.2.1 0) 121 (fun j => Value.int (fW 121 j))) := hP 0 _ rfl
    show H[q]? = some (arrV (Γ0.2.2.1 0) 121 (fun j => Value.int (Int32.ofInt (zWD.getD j 32))))
    rw [h8, arrV_cg (g := fun j => Value.int (Int32.ofInt (zWD.getD j 32))) (fun j hj => by unfold fW; rw [if_pos hj])]
  refine kk (zad Γ q 58 (fun _ => 0)) (zad_xt hq) (zBn_arr hB hq (by decide)) (zad_q Γ q 58 _) H locs rl ?_ ?_ hS hL
  · rw [e3]
    refine va_P.app (zP_mem hP (fun x hx => List.mem_cons_of_mem _ hx)) (fun k x hk => ?_)
    rw [List.mem_singleton.mp (List.mem_of_getElem? hk)]
    exact h9
  · rw [e3]
    rw [zD_iff] at hD ⊢
    have hp := (List.perm_append_singleton (q, (Sum.inl (Γ0.2.2.1 0, 121, .inl (fun j => Int32.ofInt (zWD.getD j 32))) : va_E)) (hd :: (X ++ zWd Γ G)))
    refine ⟨(hp.map (fun q => q.1)).nodup_iff.mpr hD.1, fun x hx => ?_⟩
    rcases List.mem_cons.mp (hp.mem_iff.mp hx) with h | h
    · rw [h]
      exact hD.2 (q, .inl (Γ0.2.2.1 0, 121, .inl (fW 121))) List.mem_cons_self
    · exact hD.2 x (List.mem_cons_of_mem _ h)
end ZV
end
