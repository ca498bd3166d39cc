/-! the halves of the reference's rows: below them lies what is kept -/
def hhL : List (Nat × Nat) := [(2059, 4), (2061, 4), (2062, 4), (2063, 5), (2064, 5), (2065, 20), (2066, 5), (2067, 5), (2068, 5), (2069, 5), (2070, 3), (2071, 7), (2072, 7), (2073, 7), (2074, 64), (2075, 64), (2076, 64)]
def hh (r : Nat) : Nat := (hhL.lookup r).getD 0
def LHr (G G1 : zH) : Prop := ∀ r a j : Nat, j < hh r → G1.1 r a j = G.1 r a j
theorem LHr_rf {G : zH} : LHr G G := fun _ _ _ _ => rfl
theorem LHr_c {G G1 G2 : zH} (h2 : LHr G1 G2) (h : LHr G G1) : LHr G G2 := fun r a j hj => (h2 r a j hj).trans (h r a j hj)
theorem LHr_I {G G1 : zH} {r a i h : Nat} {x : Int} (hr : hh r ≤ h) (hi : h ≤ i) (hL : LHr G G1) : LHr G (zuI G1 r a i x) := fun r' a' j hj => by
  rw [zuI_1, if_neg (fun q => by have q1 := q.1; subst q1; have q3 := q.2.2; omega)]
  exact hL r' a' j hj
theorem LHr_J {G G1 : zH} {r a i : Nat} {x : Int} (hL : LHr G G1) : LHr G (zuJ G1 r a i x) := hL
theorem hh_in : ∀ r : Nat, r ∉ [2059, 2061, 2062, 2063, 2064, 2065, 2066, 2067, 2068, 2069, 2070, 2071, 2072, 2073, 2074, 2075, 2076] → hh r = 0 := by
  intro r hr
  have e : ∀ (l : List (Nat × Nat)), (∀ q ∈ l, r ≠ q.1) → l.lookup r = none := by
    intro l
    induction l with
    | nil => intro _; rfl
    | cons q l ih =>
      intro h
      have h1 : (r == q.1) = false := beq_false_of_ne (h q List.mem_cons_self)
      rw [show q = (q.1, q.2) from rfl, List.lookup_cons, h1]
      exact ih (fun q2 h2 => h q2 (List.mem_cons_of_mem _ h2))
  unfold hh
  rw [e hhL (fun q hq he => hr (by rw [he]; exact List.mem_map.mpr ⟨q, hq, rfl⟩ : r ∈ hhL.map (fun q => q.1)))]
  rfl
theorem LHr_z {G G1 G2 : zH} {rs : List Nat} (hz : zsm rs G1 G2) (hr : ∀ r ∈ [2059, 2061, 2062, 2063, 2064, 2065, 2066, 2067, 2068, 2069, 2070, 2071, 2072, 2073, 2074, 2075, 2076], r ∉ rs) (h : LHr G G1) : LHr G G2 := fun r a j hj => by
  by_cases q : r ∈ [2059, 2061, 2062, 2063, 2064, 2065, 2066, 2067, 2068, 2069, 2070, 2071, 2072, 2073, 2074, 2075, 2076]
  · rw [hz.1 r (hr r q)]
    exact h r a j hj
  · rw [hh_in r q] at hj
    exact absurd hj (Nat.not_lt_zero _)

set_option maxHeartbeats 4000000 in
set_option maxRecDepth 100000 in
theorem c_X9_newName61L {l : Launch} {Γ : zΓ} {G : zH} {w a : Nat} {b : Nat → Int} {n : Int} {A : aS} {q k : Int} (hX : zXs Γ) (hG : gT b n Γ w A G) (hn : 0 ≤ q ∧ 0 ≤ k ∧ q + k < 8) (hq9 : 4 ≤ q) : zMet l Γ yX9_newName cX9_newName 4 (some .boolean) 2 [zr 10 w, zr 61 a, zi q, zi k] G (zpi (fun x G' => zsm [2061, 1007, 1008, 1009, 1010, 1004, 1005] G G' ∧ LHr G G' ∧ ((x = 0 ∨ x = 1) ∧ (x = 0 → G'.1 1005 w 0 = tP b n A ∧ ((tK b n A ≠ 1 ∧ G'.1 1004 w 0 = 1) ∨ (tK b n A = 1 ∧ fndn (G.1 2061 a) q (tV b n A) k.toNat 0 ≠ -1 ∧ G'.1 1004 w 0 = 3))) ∧ (x = 1 → tK b n A = 1 ∧ fndn (G.1 2061 a) q (tV b n A) k.toNat 0 = -1 ∧ (∀ j : Nat, G'.1 2061 a j = if j = (q + k).toNat then tV b n A else G.1 2061 a j) ∧ gT b n Γ w (sNext b n A) G' ∧ G'.1 1004 w 0 = G.1 1004 w 0 ∧ G'.1 1005 w 0 = G.1 1005 w 0)))) := by
  have gn := gT_name hG
  have g10 := hG.2.2.2.2.1
  refine zMet_of RX9 hX (by decide) rfl (Nat.le_of_ble_eq_true rfl) ?_
  intro p e s m args below meth c C hr hlk
  show Z p l e (zrm 2) s m args below meth c Γ 4 0 0 (MQ below (zQc Γ (zpi (fun x G' => zsm [2061, 1007, 1008, 1009, 1010, 1004, 1005] G G' ∧ LHr G G' ∧ ((x = 0 ∨ x = 1) ∧ (x = 0 → G'.1 1005 w 0 = tP b n A ∧ ((tK b n A ≠ 1 ∧ G'.1 1004 w 0 = 1) ∨ (tK b n A = 1 ∧ fndn (G.1 2061 a) q (tV b n A) k.toNat 0 ≠ -1 ∧ G'.1 1004 w 0 = 3))) ∧ (x = 1 → tK b n A = 1 ∧ fndn (G.1 2061 a) q (tV b n A) k.toNat 0 = -1 ∧ (∀ j : Nat, G'.1 2061 a j = if j = (q + k).toNat then tV b n A else G.1 2061 a j) ∧ gT b n Γ w (sNext b n A) G' ∧ G'.1 1004 w 0 = G.1 1004 w 0 ∧ G'.1 1005 w 0 = G.1 1005 w 0))))) args s 0 0 (zA Γ)) 0 [some (zr 10 w), some (zr 61 a), some (zi q), some (zi k)] [] G
  refine zs_loc 2 rfl (fun ha2 hb2 => ?_)
  refine zs_loc 3 rfl (fun ha3 hb3 => ?_)
  refine zs_aload_n (pc := 0) C dX9_newName_0 rfl ?_
  refine zs_geti (r := 1008) (pc := 1) C dX9_newName_1 w_X9_196 f_10_8 rfl (r_1008 0) (fun v1 e1 l1 u1 => ?_)
  refine zs_iconst (pc := 4) C dX9_newName_4 (by decide) ?_
  refine zs_icmp_eq (tgt := 14) (pc := 5) C dX9_newName_5 (by decide) (fun h5 => ?_) (fun h5 => ?_)
  · skip
    refine zs_aload_n (pc := 14) C dX9_newName_14 rfl ?_
    refine zs_iload_n (pc := 15) C dX9_newName_15 rfl ?_
    refine zs_iload_n (pc := 16) C dX9_newName_16 rfl ?_
    refine zs_aload_n (pc := 17) C dX9_newName_17 rfl ?_
    refine zs_geti (r := 1009) (pc := 18) C dX9_newName_18 w_X9_207 f_10_9 rfl (r_1009 0) (fun v18 e18 l18 u18 => ?_)
    have h18 : v18 = tV b n A := by omega
    subst h18
    refine zSip4 (pc := 21) C dX9_newName_21 s_X9_280 (c_X9_findG hX a_61 (by decide) (by decide) (by omega)) (by decide) ⟨Nat.zero_le _, Nat.zero_le _⟩ (Nat.le_of_ble_eq_true rfl) (fun x21 l21 u21 hp21 => ?_)
    have hq21 := hp21
    have h21 : x21 = fndn (G.1 2061 a) q (tV b n A) k.toNat 0 := hq21.1
    have h21b := hq21.2
    refine zs_if_lt (tgt := 33) (pc := 24) C dX9_newName_24 (by decide) (fun h24 => ?_) (fun h24 => ?_)
    · skip
      refine zs_aload_n (pc := 33) C dX9_newName_33 rfl ?_
      refine zs_iload_n (pc := 34) C dX9_newName_34 rfl ?_
      refine zs_iload_n (pc := 35) C dX9_newName_35 rfl ?_
      first | refine zs_iadd (pc := 36) C dX9_newName_36 (by omega) ?_ | refine zs_iaddF (pc := 36) C dX9_newName_36 (fun z36 hz361 hz362 => ?_)
      refine zs_aload_n (pc := 37) C dX9_newName_37 rfl ?_
      refine zs_geti (r := 1009) (pc := 38) C dX9_newName_38 w_X9_207 f_10_9 rfl (r_1009 0) (fun v38 e38 l38 u38 => ?_)
      have h38 : v38 = tV b n A := by omega
      subst h38
      refine zs_iast (r := 2061) (pc := 41) C dX9_newName_41 a_61 (by decide) (by omega) rfl (r_2061 _) (by omega) ?_
      refine zs_aload_n (pc := 42) C dX9_newName_42 rfl ?_
      refine zVv0 (pc := 43) C dX9_newName_43 v_X9_230 (c_X9_tokenG hX (by repeat (first | assumption | decide | apply gT_I | apply gT_sm))) (by decide) (by decide) ⟨Nat.zero_le _, Nat.zero_le _⟩ (Nat.le_of_ble_eq_true rfl) (fun G43 hp43 => ?_)
      obtain ⟨hz43, hq43⟩ := hp43
      try simp only [zuI_1, zuI_2, zuJ_1, zuJ_2, zuJ_3, zuP_1, zuP_2, zuP_3, zuC_1, zuC_2, reduceIte, Nat.reduceEqDiff, false_and, and_false, true_and, and_true, and_self, or_true, true_or, or_false, false_or] at hq43
      have t61 := hz43.1 2061 (by decide)
      have t1004 := zsm_at hz43 1004 w 0 (by decide)
      have t1005 := zsm_at hz43 1005 w 0 (by decide)
      try simp only [zuI_1, zuI_2, zuJ_1, zuJ_2, zuJ_3, zuP_1, zuP_2, zuP_3, zuC_1, zuC_2, reduceIte, Nat.reduceEqDiff, false_and, and_false, true_and, and_true, and_self, or_true, true_or, or_false, false_or] at t1004 t1005
      refine zs_iconst (pc := 46) C dX9_newName_46 (by decide) ?_
      exact zs_zret (pc := 47) C hr hlk dX9_newName_47 (by omega) ⟨by repeat (first | exact zsm_rf | assumption | refine zsm_C (by decide) ?_ | refine zsm_I (by decide) ?_ | refine zsm_J ?_ | refine zsm_c (by assumption) (by decide) ?_), (by repeat (first | exact LHr_rf | assumption | refine LHr_I (h := 0) (by decide) (Nat.zero_le _) ?_ | refine LHr_I (h := 3) (by decide) (by omega) ?_ | refine LHr_I (h := 4) (by decide) (by omega) ?_ | refine LHr_I (h := 5) (by decide) (by omega) ?_ | refine LHr_I (h := 7) (by decide) (by omega) ?_ | refine LHr_I (h := 20) (by decide) (by omega) ?_ | refine LHr_I (h := 64) (by decide) (by omega) ?_ | refine LHr_J ?_ | refine LHr_c (by assumption) ?_ | refine LHr_z (by assumption) (by decide) ?_)), ⟨by omega, fun q => by omega, fun _ => ⟨by omega, by omega, fun j => by rw [t61]; simp only [zuI_1, zuI_2, zuJ_1, zuJ_2, zuJ_3, zuP_1, zuP_2, zuP_3, zuC_1, zuC_2, reduceIte, Nat.reduceEqDiff, false_and, and_false, true_and, and_true, and_self, or_true, true_or, or_false, false_or], hq43, t1004, t1005⟩⟩⟩
    · skip
      refine zs_aload_n (pc := 27) C dX9_newName_27 rfl ?_
      refine zs_iconst (pc := 28) C dX9_newName_28 (by decide) ?_
      refine zVi1 (pc := 29) C dX9_newName_29 v_X9_220 (c_X9_wrongG hX ) (by decide) (by decide) ⟨Nat.zero_le _, Nat.zero_le _⟩ (Nat.le_of_ble_eq_true rfl) (fun x29 G29 l29 u29 hp29 => ?_)
      obtain ⟨hz29, hq29⟩ := hp29
      exact zs_zret (pc := 32) C hr hlk dX9_newName_32 (by omega) ⟨by repeat (first | exact zsm_rf | assumption | refine zsm_C (by decide) ?_ | refine zsm_I (by decide) ?_ | refine zsm_J ?_ | refine zsm_c (by assumption) (by decide) ?_), (by repeat (first | exact LHr_rf | assumption | refine LHr_I (h := 0) (by decide) (Nat.zero_le _) ?_ | refine LHr_I (h := 3) (by decide) (by omega) ?_ | refine LHr_I (h := 4) (by decide) (by omega) ?_ | refine LHr_I (h := 5) (by decide) (by omega) ?_ | refine LHr_I (h := 7) (by decide) (by omega) ?_ | refine LHr_I (h := 20) (by decide) (by omega) ?_ | refine LHr_I (h := 64) (by decide) (by omega) ?_ | refine LHr_J ?_ | refine LHr_c (by assumption) ?_ | refine LHr_z (by assumption) (by decide) ?_)), ⟨by omega, fun _ => ⟨hq29.2.2.trans g10, Or.inr ⟨by omega, by omega, hq29.2.1⟩⟩, fun q => by omega⟩⟩
  · skip
    refine zs_aload_n (pc := 8) C dX9_newName_8 rfl ?_
    refine zs_iconst (pc := 9) C dX9_newName_9 (by decide) ?_
    refine zVi1 (pc := 10) C dX9_newName_10 v_X9_220 (c_X9_wrongG hX ) (by decide) (by decide) ⟨Nat.zero_le _, Nat.zero_le _⟩ (Nat.le_of_ble_eq_true rfl) (fun x10 G10 l10 u10 hp10 => ?_)
    obtain ⟨hz10, hq10⟩ := hp10
    exact zs_zret (pc := 13) C hr hlk dX9_newName_13 (by omega) ⟨by repeat (first | exact zsm_rf | assumption | refine zsm_C (by decide) ?_ | refine zsm_I (by decide) ?_ | refine zsm_J ?_ | refine zsm_c (by assumption) (by decide) ?_), (by repeat (first | exact LHr_rf | assumption | refine LHr_I (h := 0) (by decide) (Nat.zero_le _) ?_ | refine LHr_I (h := 3) (by decide) (by omega) ?_ | refine LHr_I (h := 4) (by decide) (by omega) ?_ | refine LHr_I (h := 5) (by decide) (by omega) ?_ | refine LHr_I (h := 7) (by decide) (by omega) ?_ | refine LHr_I (h := 20) (by decide) (by omega) ?_ | refine LHr_I (h := 64) (by decide) (by omega) ?_ | refine LHr_J ?_ | refine LHr_c (by assumption) ?_ | refine LHr_z (by assumption) (by decide) ?_)), ⟨by omega, fun _ => ⟨hq10.2.2.trans g10, Or.inl ⟨by omega, hq10.2.1⟩⟩, fun q => by omega⟩⟩

set_option maxHeartbeats 4000000 in
set_option maxRecDepth 100000 in
theorem c_X9_newName63L {l : Launch} {Γ : zΓ} {G : zH} {w a : Nat} {b : Nat → Int} {n : Int} {A : aS} {q k : Int} (hX : zXs Γ) (hG : gT b n Γ w A G) (hn : 0 ≤ q ∧ 0 ≤ k ∧ q + k < 10) (hq9 : 5 ≤ q) : zMet l Γ yX9_newName cX9_newName 4 (some .boolean) 2 [zr 10 w, zr 63 a, zi q, zi k] G (zpi (fun x G' => zsm [2063, 1007, 1008, 1009, 1010, 1004, 1005] G G' ∧ LHr G G' ∧ ((x = 0 ∨ x = 1) ∧ (x = 0 → G'.1 1005 w 0 = tP b n A ∧ ((tK b n A ≠ 1 ∧ G'.1 1004 w 0 = 1) ∨ (tK b n A = 1 ∧ fndn (G.1 2063 a) q (tV b n A) k.toNat 0 ≠ -1 ∧ G'.1 1004 w 0 = 3))) ∧ (x = 1 → tK b n A = 1 ∧ fndn (G.1 2063 a) q (tV b n A) k.toNat 0 = -1 ∧ (∀ j : Nat, G'.1 2063 a j = if j = (q + k).toNat then tV b n A else G.1 2063 a j) ∧ gT b n Γ w (sNext b n A) G' ∧ G'.1 1004 w 0 = G.1 1004 w 0 ∧ G'.1 1005 w 0 = G.1 1005 w 0)))) := by
  have gn := gT_name hG
  have g10 := hG.2.2.2.2.1
  refine zMet_of RX9 hX (by decide) rfl (Nat.le_of_ble_eq_true rfl) ?_
  intro p e s m args below meth c C hr hlk
  show Z p l e (zrm 2) s m args below meth c Γ 4 0 0 (MQ below (zQc Γ (zpi (fun x G' => zsm [2063, 1007, 1008, 1009, 1010, 1004, 1005] G G' ∧ LHr G G' ∧ ((x = 0 ∨ x = 1) ∧ (x = 0 → G'.1 1005 w 0 = tP b n A ∧ ((tK b n A ≠ 1 ∧ G'.1 1004 w 0 = 1) ∨ (tK b n A = 1 ∧ fndn (G.1 2063 a) q (tV b n A) k.toNat 0 ≠ -1 ∧ G'.1 1004 w 0 = 3))) ∧ (x = 1 → tK b n A = 1 ∧ fndn (G.1 2063 a) q (tV b n A) k.toNat 0 = -1 ∧ (∀ j : Nat, G'.1 2063 a j = if j = (q + k).toNat then tV b n A else G.1 2063 a j) ∧ gT b n Γ w (sNext b n A) G' ∧ G'.1 1004 w 0 = G.1 1004 w 0 ∧ G'.1 1005 w 0 = G.1 1005 w 0))))) args s 0 0 (zA Γ)) 0 [some (zr 10 w), some (zr 63 a), some (zi q), some (zi k)] [] G
  refine zs_loc 2 rfl (fun ha2 hb2 => ?_)
  refine zs_loc 3 rfl (fun ha3 hb3 => ?_)
  refine zs_aload_n (pc := 0) C dX9_newName_0 rfl ?_
  refine zs_geti (r := 1008) (pc := 1) C dX9_newName_1 w_X9_196 f_10_8 rfl (r_1008 0) (fun v1 e1 l1 u1 => ?_)
  refine zs_iconst (pc := 4) C dX9_newName_4 (by decide) ?_
  refine zs_icmp_eq (tgt := 14) (pc := 5) C dX9_newName_5 (by decide) (fun h5 => ?_) (fun h5 => ?_)
  · skip
    refine zs_aload_n (pc := 14) C dX9_newName_14 rfl ?_
    refine zs_iload_n (pc := 15) C dX9_newName_15 rfl ?_
    refine zs_iload_n (pc := 16) C dX9_newName_16 rfl ?_
    refine zs_aload_n (pc := 17) C dX9_newName_17 rfl ?_
    refine zs_geti (r := 1009) (pc := 18) C dX9_newName_18 w_X9_207 f_10_9 rfl (r_1009 0) (fun v18 e18 l18 u18 => ?_)
    have h18 : v18 = tV b n A := by omega
    subst h18
    refine zSip4 (pc := 21) C dX9_newName_21 s_X9_280 (c_X9_findG hX a_63 (by decide) (by decide) (by omega)) (by decide) ⟨Nat.zero_le _, Nat.zero_le _⟩ (Nat.le_of_ble_eq_true rfl) (fun x21 l21 u21 hp21 => ?_)
    have hq21 := hp21
    have h21 : x21 = fndn (G.1 2063 a) q (tV b n A) k.toNat 0 := hq21.1
    have h21b := hq21.2
    refine zs_if_lt (tgt := 33) (pc := 24) C dX9_newName_24 (by decide) (fun h24 => ?_) (fun h24 => ?_)
    · skip
      refine zs_aload_n (pc := 33) C dX9_newName_33 rfl ?_
      refine zs_iload_n (pc := 34) C dX9_newName_34 rfl ?_
      refine zs_iload_n (pc := 35) C dX9_newName_35 rfl ?_
      first | refine zs_iadd (pc := 36) C dX9_newName_36 (by omega) ?_ | refine zs_iaddF (pc := 36) C dX9_newName_36 (fun z36 hz361 hz362 => ?_)
      refine zs_aload_n (pc := 37) C dX9_newName_37 rfl ?_
      refine zs_geti (r := 1009) (pc := 38) C dX9_newName_38 w_X9_207 f_10_9 rfl (r_1009 0) (fun v38 e38 l38 u38 => ?_)
      have h38 : v38 = tV b n A := by omega
      subst h38
      refine zs_iast (r := 2063) (pc := 41) C dX9_newName_41 a_63 (by decide) (by omega) rfl (r_2063 _) (by omega) ?_
      refine zs_aload_n (pc := 42) C dX9_newName_42 rfl ?_
      refine zVv0 (pc := 43) C dX9_newName_43 v_X9_230 (c_X9_tokenG hX (by repeat (first | assumption | decide | apply gT_I | apply gT_sm))) (by decide) (by decide) ⟨Nat.zero_le _, Nat.zero_le _⟩ (Nat.le_of_ble_eq_true rfl) (fun G43 hp43 => ?_)
      obtain ⟨hz43, hq43⟩ := hp43
      try simp only [zuI_1, zuI_2, zuJ_1, zuJ_2, zuJ_3, zuP_1, zuP_2, zuP_3, zuC_1, zuC_2, reduceIte, Nat.reduceEqDiff, false_and, and_false, true_and, and_true, and_self, or_true, true_or, or_false, false_or] at hq43
      have t63 := hz43.1 2063 (by decide)
      have t1004 := zsm_at hz43 1004 w 0 (by decide)
      have t1005 := zsm_at hz43 1005 w 0 (by decide)
      try simp only [zuI_1, zuI_2, zuJ_1, zuJ_2, zuJ_3, zuP_1, zuP_2, zuP_3, zuC_1, zuC_2, reduceIte, Nat.reduceEqDiff, false_and, and_false, true_and, and_true, and_self, or_true, true_or, or_false, false_or] at t1004 t1005
      refine zs_iconst (pc := 46) C dX9_newName_46 (by decide) ?_
      exact zs_zret (pc := 47) C hr hlk dX9_newName_47 (by omega) ⟨by repeat (first | exact zsm_rf | assumption | refine zsm_C (by decide) ?_ | refine zsm_I (by decide) ?_ | refine zsm_J ?_ | refine zsm_c (by assumption) (by decide) ?_), (by repeat (first | exact LHr_rf | assumption | refine LHr_I (h := 0) (by decide) (Nat.zero_le _) ?_ | refine LHr_I (h := 3) (by decide) (by omega) ?_ | refine LHr_I (h := 4) (by decide) (by omega) ?_ | refine LHr_I (h := 5) (by decide) (by omega) ?_ | refine LHr_I (h := 7) (by decide) (by omega) ?_ | refine LHr_I (h := 20) (by decide) (by omega) ?_ | refine LHr_I (h := 64) (by decide) (by omega) ?_ | refine LHr_J ?_ | refine LHr_c (by assumption) ?_ | refine LHr_z (by assumption) (by decide) ?_)), ⟨by omega, fun q => by omega, fun _ => ⟨by omega, by omega, fun j => by rw [t63]; simp only [zuI_1, zuI_2, zuJ_1, zuJ_2, zuJ_3, zuP_1, zuP_2, zuP_3, zuC_1, zuC_2, reduceIte, Nat.reduceEqDiff, false_and, and_false, true_and, and_true, and_self, or_true, true_or, or_false, false_or], hq43, t1004, t1005⟩⟩⟩
    · skip
      refine zs_aload_n (pc := 27) C dX9_newName_27 rfl ?_
      refine zs_iconst (pc := 28) C dX9_newName_28 (by decide) ?_
      refine zVi1 (pc := 29) C dX9_newName_29 v_X9_220 (c_X9_wrongG hX ) (by decide) (by decide) ⟨Nat.zero_le _, Nat.zero_le _⟩ (Nat.le_of_ble_eq_true rfl) (fun x29 G29 l29 u29 hp29 => ?_)
      obtain ⟨hz29, hq29⟩ := hp29
      exact zs_zret (pc := 32) C hr hlk dX9_newName_32 (by omega) ⟨by repeat (first | exact zsm_rf | assumption | refine zsm_C (by decide) ?_ | refine zsm_I (by decide) ?_ | refine zsm_J ?_ | refine zsm_c (by assumption) (by decide) ?_), (by repeat (first | exact LHr_rf | assumption | refine LHr_I (h := 0) (by decide) (Nat.zero_le _) ?_ | refine LHr_I (h := 3) (by decide) (by omega) ?_ | refine LHr_I (h := 4) (by decide) (by omega) ?_ | refine LHr_I (h := 5) (by decide) (by omega) ?_ | refine LHr_I (h := 7) (by decide) (by omega) ?_ | refine LHr_I (h := 20) (by decide) (by omega) ?_ | refine LHr_I (h := 64) (by decide) (by omega) ?_ | refine LHr_J ?_ | refine LHr_c (by assumption) ?_ | refine LHr_z (by assumption) (by decide) ?_)), ⟨by omega, fun _ => ⟨hq29.2.2.trans g10, Or.inr ⟨by omega, by omega, hq29.2.1⟩⟩, fun q => by omega⟩⟩
  · skip
    refine zs_aload_n (pc := 8) C dX9_newName_8 rfl ?_
    refine zs_iconst (pc := 9) C dX9_newName_9 (by decide) ?_
    refine zVi1 (pc := 10) C dX9_newName_10 v_X9_220 (c_X9_wrongG hX ) (by decide) (by decide) ⟨Nat.zero_le _, Nat.zero_le _⟩ (Nat.le_of_ble_eq_true rfl) (fun x10 G10 l10 u10 hp10 => ?_)
    obtain ⟨hz10, hq10⟩ := hp10
    exact zs_zret (pc := 13) C hr hlk dX9_newName_13 (by omega) ⟨by repeat (first | exact zsm_rf | assumption | refine zsm_C (by decide) ?_ | refine zsm_I (by decide) ?_ | refine zsm_J ?_ | refine zsm_c (by assumption) (by decide) ?_), (by repeat (first | exact LHr_rf | assumption | refine LHr_I (h := 0) (by decide) (Nat.zero_le _) ?_ | refine LHr_I (h := 3) (by decide) (by omega) ?_ | refine LHr_I (h := 4) (by decide) (by omega) ?_ | refine LHr_I (h := 5) (by decide) (by omega) ?_ | refine LHr_I (h := 7) (by decide) (by omega) ?_ | refine LHr_I (h := 20) (by decide) (by omega) ?_ | refine LHr_I (h := 64) (by decide) (by omega) ?_ | refine LHr_J ?_ | refine LHr_c (by assumption) ?_ | refine LHr_z (by assumption) (by decide) ?_)), ⟨by omega, fun _ => ⟨hq10.2.2.trans g10, Or.inl ⟨by omega, hq10.2.1⟩⟩, fun q => by omega⟩⟩

set_option maxHeartbeats 4000000 in
set_option maxRecDepth 100000 in
theorem c_X9_newName66L {l : Launch} {Γ : zΓ} {G : zH} {w a : Nat} {b : Nat → Int} {n : Int} {A : aS} {q k : Int} (hX : zXs Γ) (hG : gT b n Γ w A G) (hn : 0 ≤ q ∧ 0 ≤ k ∧ q + k < 10) (hq9 : 5 ≤ q) : zMet l Γ yX9_newName cX9_newName 4 (some .boolean) 2 [zr 10 w, zr 66 a, zi q, zi k] G (zpi (fun x G' => zsm [2066, 1007, 1008, 1009, 1010, 1004, 1005] G G' ∧ LHr G G' ∧ ((x = 0 ∨ x = 1) ∧ (x = 0 → G'.1 1005 w 0 = tP b n A ∧ ((tK b n A ≠ 1 ∧ G'.1 1004 w 0 = 1) ∨ (tK b n A = 1 ∧ fndn (G.1 2066 a) q (tV b n A) k.toNat 0 ≠ -1 ∧ G'.1 1004 w 0 = 3))) ∧ (x = 1 → tK b n A = 1 ∧ fndn (G.1 2066 a) q (tV b n A) k.toNat 0 = -1 ∧ (∀ j : Nat, G'.1 2066 a j = if j = (q + k).toNat then tV b n A else G.1 2066 a j) ∧ gT b n Γ w (sNext b n A) G' ∧ G'.1 1004 w 0 = G.1 1004 w 0 ∧ G'.1 1005 w 0 = G.1 1005 w 0)))) := by
  have gn := gT_name hG
  have g10 := hG.2.2.2.2.1
  refine zMet_of RX9 hX (by decide) rfl (Nat.le_of_ble_eq_true rfl) ?_
  intro p e s m args below meth c C hr hlk
  show Z p l e (zrm 2) s m args below meth c Γ 4 0 0 (MQ below (zQc Γ (zpi (fun x G' => zsm [2066, 1007, 1008, 1009, 1010, 1004, 1005] G G' ∧ LHr G G' ∧ ((x = 0 ∨ x = 1) ∧ (x = 0 → G'.1 1005 w 0 = tP b n A ∧ ((tK b n A ≠ 1 ∧ G'.1 1004 w 0 = 1) ∨ (tK b n A = 1 ∧ fndn (G.1 2066 a) q (tV b n A) k.toNat 0 ≠ -1 ∧ G'.1 1004 w 0 = 3))) ∧ (x = 1 → tK b n A = 1 ∧ fndn (G.1 2066 a) q (tV b n A) k.toNat 0 = -1 ∧ (∀ j : Nat, G'.1 2066 a j = if j = (q + k).toNat then tV b n A else G.1 2066 a j) ∧ gT b n Γ w (sNext b n A) G' ∧ G'.1 1004 w 0 = G.1 1004 w 0 ∧ G'.1 1005 w 0 = G.1 1005 w 0))))) args s 0 0 (zA Γ)) 0 [some (zr 10 w), some (zr 66 a), some (zi q), some (zi k)] [] G
  refine zs_loc 2 rfl (fun ha2 hb2 => ?_)
  refine zs_loc 3 rfl (fun ha3 hb3 => ?_)
  refine zs_aload_n (pc := 0) C dX9_newName_0 rfl ?_
  refine zs_geti (r := 1008) (pc := 1) C dX9_newName_1 w_X9_196 f_10_8 rfl (r_1008 0) (fun v1 e1 l1 u1 => ?_)
  refine zs_iconst (pc := 4) C dX9_newName_4 (by decide) ?_
  refine zs_icmp_eq (tgt := 14) (pc := 5) C dX9_newName_5 (by decide) (fun h5 => ?_) (fun h5 => ?_)
  · skip
    refine zs_aload_n (pc := 14) C dX9_newName_14 rfl ?_
    refine zs_iload_n (pc := 15) C dX9_newName_15 rfl ?_
    refine zs_iload_n (pc := 16) C dX9_newName_16 rfl ?_
    refine zs_aload_n (pc := 17) C dX9_newName_17 rfl ?_
    refine zs_geti (r := 1009) (pc := 18) C dX9_newName_18 w_X9_207 f_10_9 rfl (r_1009 0) (fun v18 e18 l18 u18 => ?_)
    have h18 : v18 = tV b n A := by omega
    subst h18
    refine zSip4 (pc := 21) C dX9_newName_21 s_X9_280 (c_X9_findG hX a_66 (by decide) (by decide) (by omega)) (by decide) ⟨Nat.zero_le _, Nat.zero_le _⟩ (Nat.le_of_ble_eq_true rfl) (fun x21 l21 u21 hp21 => ?_)
    have hq21 := hp21
    have h21 : x21 = fndn (G.1 2066 a) q (tV b n A) k.toNat 0 := hq21.1
    have h21b := hq21.2
    refine zs_if_lt (tgt := 33) (pc := 24) C dX9_newName_24 (by decide) (fun h24 => ?_) (fun h24 => ?_)
    · skip
      refine zs_aload_n (pc := 33) C dX9_newName_33 rfl ?_
      refine zs_iload_n (pc := 34) C dX9_newName_34 rfl ?_
      refine zs_iload_n (pc := 35) C dX9_newName_35 rfl ?_
      first | refine zs_iadd (pc := 36) C dX9_newName_36 (by omega) ?_ | refine zs_iaddF (pc := 36) C dX9_newName_36 (fun z36 hz361 hz362 => ?_)
      refine zs_aload_n (pc := 37) C dX9_newName_37 rfl ?_
      refine zs_geti (r := 1009) (pc := 38) C dX9_newName_38 w_X9_207 f_10_9 rfl (r_1009 0) (fun v38 e38 l38 u38 => ?_)
      have h38 : v38 = tV b n A := by omega
      subst h38
      refine zs_iast (r := 2066) (pc := 41) C dX9_newName_41 a_66 (by decide) (by omega) rfl (r_2066 _) (by omega) ?_
      refine zs_aload_n (pc := 42) C dX9_newName_42 rfl ?_
      refine zVv0 (pc := 43) C dX9_newName_43 v_X9_230 (c_X9_tokenG hX (by repeat (first | assumption | decide | apply gT_I | apply gT_sm))) (by decide) (by decide) ⟨Nat.zero_le _, Nat.zero_le _⟩ (Nat.le_of_ble_eq_true rfl) (fun G43 hp43 => ?_)
      obtain ⟨hz43, hq43⟩ := hp43
      try simp only [zuI_1, zuI_2, zuJ_1, zuJ_2, zuJ_3, zuP_1, zuP_2, zuP_3, zuC_1, zuC_2, reduceIte, Nat.reduceEqDiff, false_and, and_false, true_and, and_true, and_self, or_true, true_or, or_false, false_or] at hq43
      have t66 := hz43.1 2066 (by decide)
      have t1004 := zsm_at hz43 1004 w 0 (by decide)
      have t1005 := zsm_at hz43 1005 w 0 (by decide)
      try simp only [zuI_1, zuI_2, zuJ_1, zuJ_2, zuJ_3, zuP_1, zuP_2, zuP_3, zuC_1, zuC_2, reduceIte, Nat.reduceEqDiff, false_and, and_false, true_and, and_true, and_self, or_true, true_or, or_false, false_or] at t1004 t1005
      refine zs_iconst (pc := 46) C dX9_newName_46 (by decide) ?_
      exact zs_zret (pc := 47) C hr hlk dX9_newName_47 (by omega) ⟨by repeat (first | exact zsm_rf | assumption | refine zsm_C (by decide) ?_ | refine zsm_I (by decide) ?_ | refine zsm_J ?_ | refine zsm_c (by assumption) (by decide) ?_), (by repeat (first | exact LHr_rf | assumption | refine LHr_I (h := 0) (by decide) (Nat.zero_le _) ?_ | refine LHr_I (h := 3) (by decide) (by omega) ?_ | refine LHr_I (h := 4) (by decide) (by omega) ?_ | refine LHr_I (h := 5) (by decide) (by omega) ?_ | refine LHr_I (h := 7) (by decide) (by omega) ?_ | refine LHr_I (h := 20) (by decide) (by omega) ?_ | refine LHr_I (h := 64) (by decide) (by omega) ?_ | refine LHr_J ?_ | refine LHr_c (by assumption) ?_ | refine LHr_z (by assumption) (by decide) ?_)), ⟨by omega, fun q => by omega, fun _ => ⟨by omega, by omega, fun j => by rw [t66]; simp only [zuI_1, zuI_2, zuJ_1, zuJ_2, zuJ_3, zuP_1, zuP_2, zuP_3, zuC_1, zuC_2, reduceIte, Nat.reduceEqDiff, false_and, and_false, true_and, and_true, and_self, or_true, true_or, or_false, false_or], hq43, t1004, t1005⟩⟩⟩
    · skip
      refine zs_aload_n (pc := 27) C dX9_newName_27 rfl ?_
      refine zs_iconst (pc := 28) C dX9_newName_28 (by decide) ?_
      refine zVi1 (pc := 29) C dX9_newName_29 v_X9_220 (c_X9_wrongG hX ) (by decide) (by decide) ⟨Nat.zero_le _, Nat.zero_le _⟩ (Nat.le_of_ble_eq_true rfl) (fun x29 G29 l29 u29 hp29 => ?_)
      obtain ⟨hz29, hq29⟩ := hp29
      exact zs_zret (pc := 32) C hr hlk dX9_newName_32 (by omega) ⟨by repeat (first | exact zsm_rf | assumption | refine zsm_C (by decide) ?_ | refine zsm_I (by decide) ?_ | refine zsm_J ?_ | refine zsm_c (by assumption) (by decide) ?_), (by repeat (first | exact LHr_rf | assumption | refine LHr_I (h := 0) (by decide) (Nat.zero_le _) ?_ | refine LHr_I (h := 3) (by decide) (by omega) ?_ | refine LHr_I (h := 4) (by decide) (by omega) ?_ | refine LHr_I (h := 5) (by decide) (by omega) ?_ | refine LHr_I (h := 7) (by decide) (by omega) ?_ | refine LHr_I (h := 20) (by decide) (by omega) ?_ | refine LHr_I (h := 64) (by decide) (by omega) ?_ | refine LHr_J ?_ | refine LHr_c (by assumption) ?_ | refine LHr_z (by assumption) (by decide) ?_)), ⟨by omega, fun _ => ⟨hq29.2.2.trans g10, Or.inr ⟨by omega, by omega, hq29.2.1⟩⟩, fun q => by omega⟩⟩
  · skip
    refine zs_aload_n (pc := 8) C dX9_newName_8 rfl ?_
    refine zs_iconst (pc := 9) C dX9_newName_9 (by decide) ?_
    refine zVi1 (pc := 10) C dX9_newName_10 v_X9_220 (c_X9_wrongG hX ) (by decide) (by decide) ⟨Nat.zero_le _, Nat.zero_le _⟩ (Nat.le_of_ble_eq_true rfl) (fun x10 G10 l10 u10 hp10 => ?_)
    obtain ⟨hz10, hq10⟩ := hp10
    exact zs_zret (pc := 13) C hr hlk dX9_newName_13 (by omega) ⟨by repeat (first | exact zsm_rf | assumption | refine zsm_C (by decide) ?_ | refine zsm_I (by decide) ?_ | refine zsm_J ?_ | refine zsm_c (by assumption) (by decide) ?_), (by repeat (first | exact LHr_rf | assumption | refine LHr_I (h := 0) (by decide) (Nat.zero_le _) ?_ | refine LHr_I (h := 3) (by decide) (by omega) ?_ | refine LHr_I (h := 4) (by decide) (by omega) ?_ | refine LHr_I (h := 5) (by decide) (by omega) ?_ | refine LHr_I (h := 7) (by decide) (by omega) ?_ | refine LHr_I (h := 20) (by decide) (by omega) ?_ | refine LHr_I (h := 64) (by decide) (by omega) ?_ | refine LHr_J ?_ | refine LHr_c (by assumption) ?_ | refine LHr_z (by assumption) (by decide) ?_)), ⟨by omega, fun _ => ⟨hq10.2.2.trans g10, Or.inl ⟨by omega, hq10.2.1⟩⟩, fun q => by omega⟩⟩

set_option maxHeartbeats 4000000 in
set_option maxRecDepth 100000 in
theorem c_X9_newName70L {l : Launch} {Γ : zΓ} {G : zH} {w a : Nat} {b : Nat → Int} {n : Int} {A : aS} {q k : Int} (hX : zXs Γ) (hG : gT b n Γ w A G) (hn : 0 ≤ q ∧ 0 ≤ k ∧ q + k < 6) (hq9 : 3 ≤ q) : zMet l Γ yX9_newName cX9_newName 4 (some .boolean) 2 [zr 10 w, zr 70 a, zi q, zi k] G (zpi (fun x G' => zsm [2070, 1007, 1008, 1009, 1010, 1004, 1005] G G' ∧ LHr G G' ∧ ((x = 0 ∨ x = 1) ∧ (x = 0 → G'.1 1005 w 0 = tP b n A ∧ ((tK b n A ≠ 1 ∧ G'.1 1004 w 0 = 1) ∨ (tK b n A = 1 ∧ fndn (G.1 2070 a) q (tV b n A) k.toNat 0 ≠ -1 ∧ G'.1 1004 w 0 = 3))) ∧ (x = 1 → tK b n A = 1 ∧ fndn (G.1 2070 a) q (tV b n A) k.toNat 0 = -1 ∧ (∀ j : Nat, G'.1 2070 a j = if j = (q + k).toNat then tV b n A else G.1 2070 a j) ∧ gT b n Γ w (sNext b n A) G' ∧ G'.1 1004 w 0 = G.1 1004 w 0 ∧ G'.1 1005 w 0 = G.1 1005 w 0)))) := by
  have gn := gT_name hG
  have g10 := hG.2.2.2.2.1
  refine zMet_of RX9 hX (by decide) rfl (Nat.le_of_ble_eq_true rfl) ?_
  intro p e s m args below meth c C hr hlk
  show Z p l e (zrm 2) s m args below meth c Γ 4 0 0 (MQ below (zQc Γ (zpi (fun x G' => zsm [2070, 1007, 1008, 1009, 1010, 1004, 1005] G G' ∧ LHr G G' ∧ ((x = 0 ∨ x = 1) ∧ (x = 0 → G'.1 1005 w 0 = tP b n A ∧ ((tK b n A ≠ 1 ∧ G'.1 1004 w 0 = 1) ∨ (tK b n A = 1 ∧ fndn (G.1 2070 a) q (tV b n A) k.toNat 0 ≠ -1 ∧ G'.1 1004 w 0 = 3))) ∧ (x = 1 → tK b n A = 1 ∧ fndn (G.1 2070 a) q (tV b n A) k.toNat 0 = -1 ∧ (∀ j : Nat, G'.1 2070 a j = if j = (q + k).toNat then tV b n A else G.1 2070 a j) ∧ gT b n Γ w (sNext b n A) G' ∧ G'.1 1004 w 0 = G.1 1004 w 0 ∧ G'.1 1005 w 0 = G.1 1005 w 0))))) args s 0 0 (zA Γ)) 0 [some (zr 10 w), some (zr 70 a), some (zi q), some (zi k)] [] G
  refine zs_loc 2 rfl (fun ha2 hb2 => ?_)
  refine zs_loc 3 rfl (fun ha3 hb3 => ?_)
  refine zs_aload_n (pc := 0) C dX9_newName_0 rfl ?_
  refine zs_geti (r := 1008) (pc := 1) C dX9_newName_1 w_X9_196 f_10_8 rfl (r_1008 0) (fun v1 e1 l1 u1 => ?_)
  refine zs_iconst (pc := 4) C dX9_newName_4 (by decide) ?_
  refine zs_icmp_eq (tgt := 14) (pc := 5) C dX9_newName_5 (by decide) (fun h5 => ?_) (fun h5 => ?_)
  · skip
    refine zs_aload_n (pc := 14) C dX9_newName_14 rfl ?_
    refine zs_iload_n (pc := 15) C dX9_newName_15 rfl ?_
    refine zs_iload_n (pc := 16) C dX9_newName_16 rfl ?_
    refine zs_aload_n (pc := 17) C dX9_newName_17 rfl ?_
    refine zs_geti (r := 1009) (pc := 18) C dX9_newName_18 w_X9_207 f_10_9 rfl (r_1009 0) (fun v18 e18 l18 u18 => ?_)
    have h18 : v18 = tV b n A := by omega
    subst h18
    refine zSip4 (pc := 21) C dX9_newName_21 s_X9_280 (c_X9_findG hX a_70 (by decide) (by decide) (by omega)) (by decide) ⟨Nat.zero_le _, Nat.zero_le _⟩ (Nat.le_of_ble_eq_true rfl) (fun x21 l21 u21 hp21 => ?_)
    have hq21 := hp21
    have h21 : x21 = fndn (G.1 2070 a) q (tV b n A) k.toNat 0 := hq21.1
    have h21b := hq21.2
    refine zs_if_lt (tgt := 33) (pc := 24) C dX9_newName_24 (by decide) (fun h24 => ?_) (fun h24 => ?_)
    · skip
      refine zs_aload_n (pc := 33) C dX9_newName_33 rfl ?_
      refine zs_iload_n (pc := 34) C dX9_newName_34 rfl ?_
      refine zs_iload_n (pc := 35) C dX9_newName_35 rfl ?_
      first | refine zs_iadd (pc := 36) C dX9_newName_36 (by omega) ?_ | refine zs_iaddF (pc := 36) C dX9_newName_36 (fun z36 hz361 hz362 => ?_)
      refine zs_aload_n (pc := 37) C dX9_newName_37 rfl ?_
      refine zs_geti (r := 1009) (pc := 38) C dX9_newName_38 w_X9_207 f_10_9 rfl (r_1009 0) (fun v38 e38 l38 u38 => ?_)
      have h38 : v38 = tV b n A := by omega
      subst h38
      refine zs_iast (r := 2070) (pc := 41) C dX9_newName_41 a_70 (by decide) (by omega) rfl (r_2070 _) (by omega) ?_
      refine zs_aload_n (pc := 42) C dX9_newName_42 rfl ?_
      refine zVv0 (pc := 43) C dX9_newName_43 v_X9_230 (c_X9_tokenG hX (by repeat (first | assumption | decide | apply gT_I | apply gT_sm))) (by decide) (by decide) ⟨Nat.zero_le _, Nat.zero_le _⟩ (Nat.le_of_ble_eq_true rfl) (fun G43 hp43 => ?_)
      obtain ⟨hz43, hq43⟩ := hp43
      try simp only [zuI_1, zuI_2, zuJ_1, zuJ_2, zuJ_3, zuP_1, zuP_2, zuP_3, zuC_1, zuC_2, reduceIte, Nat.reduceEqDiff, false_and, and_false, true_and, and_true, and_self, or_true, true_or, or_false, false_or] at hq43
      have t70 := hz43.1 2070 (by decide)
      have t1004 := zsm_at hz43 1004 w 0 (by decide)
      have t1005 := zsm_at hz43 1005 w 0 (by decide)
      try simp only [zuI_1, zuI_2, zuJ_1, zuJ_2, zuJ_3, zuP_1, zuP_2, zuP_3, zuC_1, zuC_2, reduceIte, Nat.reduceEqDiff, false_and, and_false, true_and, and_true, and_self, or_true, true_or, or_false, false_or] at t1004 t1005
      refine zs_iconst (pc := 46) C dX9_newName_46 (by decide) ?_
      exact zs_zret (pc := 47) C hr hlk dX9_newName_47 (by omega) ⟨by repeat (first | exact zsm_rf | assumption | refine zsm_C (by decide) ?_ | refine zsm_I (by decide) ?_ | refine zsm_J ?_ | refine zsm_c (by assumption) (by decide) ?_), (by repeat (first | exact LHr_rf | assumption | refine LHr_I (h := 0) (by decide) (Nat.zero_le _) ?_ | refine LHr_I (h := 3) (by decide) (by omega) ?_ | refine LHr_I (h := 4) (by decide) (by omega) ?_ | refine LHr_I (h := 5) (by decide) (by omega) ?_ | refine LHr_I (h := 7) (by decide) (by omega) ?_ | refine LHr_I (h := 20) (by decide) (by omega) ?_ | refine LHr_I (h := 64) (by decide) (by omega) ?_ | refine LHr_J ?_ | refine LHr_c (by assumption) ?_ | refine LHr_z (by assumption) (by decide) ?_)), ⟨by omega, fun q => by omega, fun _ => ⟨by omega, by omega, fun j => by rw [t70]; simp only [zuI_1, zuI_2, zuJ_1, zuJ_2, zuJ_3, zuP_1, zuP_2, zuP_3, zuC_1, zuC_2, reduceIte, Nat.reduceEqDiff, false_and, and_false, true_and, and_true, and_self, or_true, true_or, or_false, false_or], hq43, t1004, t1005⟩⟩⟩
    · skip
      refine zs_aload_n (pc := 27) C dX9_newName_27 rfl ?_
      refine zs_iconst (pc := 28) C dX9_newName_28 (by decide) ?_
      refine zVi1 (pc := 29) C dX9_newName_29 v_X9_220 (c_X9_wrongG hX ) (by decide) (by decide) ⟨Nat.zero_le _, Nat.zero_le _⟩ (Nat.le_of_ble_eq_true rfl) (fun x29 G29 l29 u29 hp29 => ?_)
      obtain ⟨hz29, hq29⟩ := hp29
      exact zs_zret (pc := 32) C hr hlk dX9_newName_32 (by omega) ⟨by repeat (first | exact zsm_rf | assumption | refine zsm_C (by decide) ?_ | refine zsm_I (by decide) ?_ | refine zsm_J ?_ | refine zsm_c (by assumption) (by decide) ?_), (by repeat (first | exact LHr_rf | assumption | refine LHr_I (h := 0) (by decide) (Nat.zero_le _) ?_ | refine LHr_I (h := 3) (by decide) (by omega) ?_ | refine LHr_I (h := 4) (by decide) (by omega) ?_ | refine LHr_I (h := 5) (by decide) (by omega) ?_ | refine LHr_I (h := 7) (by decide) (by omega) ?_ | refine LHr_I (h := 20) (by decide) (by omega) ?_ | refine LHr_I (h := 64) (by decide) (by omega) ?_ | refine LHr_J ?_ | refine LHr_c (by assumption) ?_ | refine LHr_z (by assumption) (by decide) ?_)), ⟨by omega, fun _ => ⟨hq29.2.2.trans g10, Or.inr ⟨by omega, by omega, hq29.2.1⟩⟩, fun q => by omega⟩⟩
  · skip
    refine zs_aload_n (pc := 8) C dX9_newName_8 rfl ?_
    refine zs_iconst (pc := 9) C dX9_newName_9 (by decide) ?_
    refine zVi1 (pc := 10) C dX9_newName_10 v_X9_220 (c_X9_wrongG hX ) (by decide) (by decide) ⟨Nat.zero_le _, Nat.zero_le _⟩ (Nat.le_of_ble_eq_true rfl) (fun x10 G10 l10 u10 hp10 => ?_)
    obtain ⟨hz10, hq10⟩ := hp10
    exact zs_zret (pc := 13) C hr hlk dX9_newName_13 (by omega) ⟨by repeat (first | exact zsm_rf | assumption | refine zsm_C (by decide) ?_ | refine zsm_I (by decide) ?_ | refine zsm_J ?_ | refine zsm_c (by assumption) (by decide) ?_), (by repeat (first | exact LHr_rf | assumption | refine LHr_I (h := 0) (by decide) (Nat.zero_le _) ?_ | refine LHr_I (h := 3) (by decide) (by omega) ?_ | refine LHr_I (h := 4) (by decide) (by omega) ?_ | refine LHr_I (h := 5) (by decide) (by omega) ?_ | refine LHr_I (h := 7) (by decide) (by omega) ?_ | refine LHr_I (h := 20) (by decide) (by omega) ?_ | refine LHr_I (h := 64) (by decide) (by omega) ?_ | refine LHr_J ?_ | refine LHr_c (by assumption) ?_ | refine LHr_z (by assumption) (by decide) ?_)), ⟨by omega, fun _ => ⟨hq10.2.2.trans g10, Or.inl ⟨by omega, hq10.2.1⟩⟩, fun q => by omega⟩⟩
