/-- the laws from 7 up to n are not told -/
def LZ (Γ : zΓ) (w : Nat) (G : zH) (n : Int) : Prop := ∀ j : Nat, 7 ≤ j → (j : Int) < n → G.1 2071 (Γ.2.1 w 34) j = 0
theorem LZ_0 {Γ : zΓ} {w : Nat} {G : zH} : LZ Γ w G 7 := fun j h1 h2 => absurd h2 (by omega)
theorem LZ_s {Γ : zΓ} {w : Nat} {G : zH} {n : Int} (h0 : 0 ≤ n) (h : LZ Γ w G n) : LZ Γ w (zuI G 2071 (Γ.2.1 w 34) n.toNat 0) (n + 1) := by
  intro j h1 h2
  rw [zuI_1]
  split
  · rfl
  · next q => exact h j h1 (by
      rcases Int.lt_or_le (j : Int) n with q2 | q2
      · exact q2
      · exact absurd ⟨rfl, rfl, by omega⟩ q)
theorem RC_z {Γ : zΓ} {w : Nat} {G : zH} {n : Int} (hn : 14 ≤ n) (h : LZ Γ w G n) (hc : G.1 1045 w 0 = G.1 1021 w 0) : RC Γ w G := ⟨hc, fun j h1 h2 h3 => by rw [h j h1 (by omega)] at h3; exact absurd h3 (by decide)⟩
/-- a row whose first m places are those from n on -/
def CP (f g : Nat → Int) (n : Nat) (m : Int) : Prop := ∀ k : Nat, g k = if (k : Int) < m then f (n + k) else f k
theorem CP_0 {f : Nat → Int} {n : Nat} : CP f f n 0 := fun k => by rw [if_neg (by omega)]
theorem CP_s {f : Nat → Int} {G1 : zH} {r a : Nat} {n m v : Int} (h : CP f (G1.1 r a) n.toNat m) (h0 : 0 ≤ m) (h1 : m < n) (hv : v = G1.1 r a (n + m).toNat) : CP f ((zuI G1 r a m.toNat v).1 r a) n.toNat (m + 1) := by
  intro k
  rw [zuI_1]
  by_cases q : k = m.toNat
  · rw [if_pos ⟨rfl, rfl, q⟩, if_pos (by omega), hv, h, if_neg (by omega), show n.toNat + k = (n + m).toNat by omega]
  · rw [if_neg (fun q2 => q q2.2.2), h k]
    by_cases q2 : (k : Int) < m
    · rw [if_pos q2, if_pos (by omega)]
    · rw [if_neg q2, if_neg (by omega)]
theorem MI_keep {Γ : zΓ} {w : Nat} {G G1 : zH} (hM : MI Γ w G) (hC : RC Γ w G) (h71 : CP (G.1 2071 (Γ.2.1 w 34)) (G1.1 2071 (Γ.2.1 w 34)) 7 7) (h73 : CP (G.1 2073 (Γ.2.1 w 36)) (G1.1 2073 (Γ.2.1 w 36)) 7 7)
    (h74 : CP (G.1 2074 (Γ.2.1 w 37)) (G1.1 2074 (Γ.2.1 w 37)) 64 64) (h75 : CP (G.1 2075 (Γ.2.1 w 38)) (G1.1 2075 (Γ.2.1 w 38)) 64 64) (h76 : CP (G.1 2076 (Γ.2.1 w 39)) (G1.1 2076 (Γ.2.1 w 39)) 64 64) : MI Γ w G1 := by
  refine ⟨fun k hk => ?_, fun i hi => ?_⟩
  · rw [h71 k, h73 k, if_pos (by omega), if_pos (by omega)]
    exact hC.2 (7 + k) (by omega) (by omega)
  · rw [h74 i, h75 i, h76 i]
    by_cases q : (i : Int) < 64
    · rw [if_pos q, if_pos q, if_pos q]
      exact hM.2 (64 + i) (by omega)
    · rw [if_neg q, if_neg q, if_neg q]
      exact hM.2 i hi

set_option maxHeartbeats 4000000 in
set_option maxRecDepth 100000 in
theorem c_X9_copies59 {l : Launch} {Γ : zΓ} {G : zH} {a : Nat} {n : Int} (hX : zXs Γ) (hn : n = 4) : zMet l Γ yX9_copies cX9_copies 3 none 0 [zr 59 a, zi n] G (zpv (fun G' => zsm [2059] G G' ∧ CP (G.1 2059 a) (G'.1 2059 a) n.toNat n)) := by
  refine zMet_of RX9 hX (by decide) rfl (Nat.le_of_ble_eq_true rfl) ?_
  intro p e s m args below meth c C hr hlk
  show Z p l e (zrm 0) s m args below meth c Γ 3 0 0 (MQ below (zQc Γ (zpv (fun G' => zsm [2059] G G' ∧ CP (G.1 2059 a) (G'.1 2059 a) n.toNat n))) args s 0 0 (zA Γ)) 0 [some (zr 59 a), some (zi n), none] [] G
  refine zs_loc 1 rfl (fun ha1 hb1 => ?_)
  refine zs_iconst (pc := 0) C dX9_copies_0 (by decide) ?_
  refine zs_istore_n (pc := 1) C dX9_copies_1 (by decide) ?_
  dsimp only [zset, zclr, znone]
  have L2 : ∀ (nn : Nat) (x2 : Int) (G1 : zH), (0 ≤ x2 ∧ x2 ≤ n) → (zsm [2059] G G1) → (CP (G.1 2059 a) (G1.1 2059 a) n.toNat x2) → (n - x2).toNat < nn → Z p l e (zrm 0) s m args below meth c Γ 3 0 0 (MQ below (zQc Γ (zpv (fun G' => zsm [2059] G G' ∧ CP (G.1 2059 a) (G'.1 2059 a) n.toNat n))) args s 0 0 (zA Γ)) 2 [some (zr 59 a), some (zi n), some (zi x2)] [] G1 := by
    intro nn
    induction nn with
    | zero => intro x2 G1 h2_0 h2_1 h2_2 hm; exact absurd hm (Nat.not_lt_zero _)
    | succ nn ih2 =>
      intro x2 G1 h2_0 h2_1 h2_2 hm2
      refine zs_iload_n (pc := 2) C dX9_copies_2 rfl ?_
      refine zs_iload_n (pc := 3) C dX9_copies_3 rfl ?_
      refine zs_icmp_ge (tgt := 21) (pc := 4) C dX9_copies_4 (by decide) (fun h4 => ?_) (fun h4 => ?_)
      · skip
        exact zs_vret (pc := 21) C hr hlk dX9_copies_21 ⟨by repeat (first | exact zsm_rf | assumption | refine zsm_C (by decide) ?_ | refine zsm_I (by decide) ?_ | refine zsm_J ?_ | refine zsm_c (by assumption) (by decide) ?_), by have hx2 : x2 = n := (by omega); rw [hx2] at h2_2; exact h2_2⟩
      · skip
        have hoo1 := rs_2059 (n + x2).toNat
        have hoo2 := rs_2059 x2.toNat
        refine zs_aload_n (pc := 7) C dX9_copies_7 rfl ?_
        refine zs_iload_n (pc := 8) C dX9_copies_8 rfl ?_
        refine zs_aload_n (pc := 9) C dX9_copies_9 rfl ?_
        refine zs_iload_n (pc := 10) C dX9_copies_10 rfl ?_
        refine zs_iload_n (pc := 11) C dX9_copies_11 rfl ?_
        first | refine zs_iadd (pc := 12) C dX9_copies_12 (by omega) ?_ | refine zs_iaddF (pc := 12) C dX9_copies_12 (fun z12 hz121 hz122 => ?_)
        refine zs_iald (r := 2059) (pc := 13) C dX9_copies_13 a_59 (by decide) (by omega) rfl (show zrg 2059 (n + x2).toNat = ((zrg 2059 (n + x2).toNat).1, (zrg 2059 (n + x2).toNat).2) from rfl) (fun v13 e13 l13 u13 => ?_)
        refine zs_iast (r := 2059) (pc := 14) C dX9_copies_14 a_59 (by decide) (by omega) rfl (show zrg 2059 x2.toNat = ((zrg 2059 x2.toNat).1, (zrg 2059 x2.toNat).2) from rfl) (by omega) ?_
        first | refine zs_iinc (pc := 15) C dX9_copies_15 rfl (by decide) (by omega) ?_ | refine zs_iincF (pc := 15) C dX9_copies_15 rfl (by decide) (fun z15 hz151 hz152 => ?_)
        dsimp only [zset, zclr, znone]
        refine zs_goto (tgt := 2) (pc := 18) C dX9_copies_18 (by decide) ?_
        exact zs_wk (ih2 _ _ (by omega) (by repeat (first | exact zsm_rf | assumption | refine zsm_C (by decide) ?_ | refine zsm_I (by decide) ?_ | refine zsm_J ?_ | refine zsm_c (by assumption) (by decide) ?_)) (CP_s h2_2 (by omega) (by omega) e13) (by first | omega | (simp only [zuI_1, zuI_2, zuJ_1, zuJ_2, zuJ_3, zuP_1, zuP_2, zuP_3, zuC_1, zuC_2, reduceIte, Nat.reduceEqDiff, false_and, and_false, true_and, and_true, and_self, or_true, true_or, or_false, false_or]; omega))) (zwk_s rfl (zwk_s rfl (zwk_s rfl zwk_0)))
  exact zs_wk (L2 _ _ _ (by omega) zsm_rf CP_0 (Nat.lt_succ_self _)) (zwk_s rfl (zwk_s rfl (zwk_s rfl zwk_0)))

set_option maxHeartbeats 4000000 in
set_option maxRecDepth 100000 in
theorem c_X9_copies61 {l : Launch} {Γ : zΓ} {G : zH} {a : Nat} {n : Int} (hX : zXs Γ) (hn : n = 4) : zMet l Γ yX9_copies cX9_copies 3 none 0 [zr 61 a, zi n] G (zpv (fun G' => zsm [2061] G G' ∧ CP (G.1 2061 a) (G'.1 2061 a) n.toNat n)) := by
  refine zMet_of RX9 hX (by decide) rfl (Nat.le_of_ble_eq_true rfl) ?_
  intro p e s m args below meth c C hr hlk
  show Z p l e (zrm 0) s m args below meth c Γ 3 0 0 (MQ below (zQc Γ (zpv (fun G' => zsm [2061] G G' ∧ CP (G.1 2061 a) (G'.1 2061 a) n.toNat n))) args s 0 0 (zA Γ)) 0 [some (zr 61 a), some (zi n), none] [] G
  refine zs_loc 1 rfl (fun ha1 hb1 => ?_)
  refine zs_iconst (pc := 0) C dX9_copies_0 (by decide) ?_
  refine zs_istore_n (pc := 1) C dX9_copies_1 (by decide) ?_
  dsimp only [zset, zclr, znone]
  have L2 : ∀ (nn : Nat) (x2 : Int) (G1 : zH), (0 ≤ x2 ∧ x2 ≤ n) → (zsm [2061] G G1) → (CP (G.1 2061 a) (G1.1 2061 a) n.toNat x2) → (n - x2).toNat < nn → Z p l e (zrm 0) s m args below meth c Γ 3 0 0 (MQ below (zQc Γ (zpv (fun G' => zsm [2061] G G' ∧ CP (G.1 2061 a) (G'.1 2061 a) n.toNat n))) args s 0 0 (zA Γ)) 2 [some (zr 61 a), some (zi n), some (zi x2)] [] G1 := by
    intro nn
    induction nn with
    | zero => intro x2 G1 h2_0 h2_1 h2_2 hm; exact absurd hm (Nat.not_lt_zero _)
    | succ nn ih2 =>
      intro x2 G1 h2_0 h2_1 h2_2 hm2
      refine zs_iload_n (pc := 2) C dX9_copies_2 rfl ?_
      refine zs_iload_n (pc := 3) C dX9_copies_3 rfl ?_
      refine zs_icmp_ge (tgt := 21) (pc := 4) C dX9_copies_4 (by decide) (fun h4 => ?_) (fun h4 => ?_)
      · skip
        exact zs_vret (pc := 21) C hr hlk dX9_copies_21 ⟨by repeat (first | exact zsm_rf | assumption | refine zsm_C (by decide) ?_ | refine zsm_I (by decide) ?_ | refine zsm_J ?_ | refine zsm_c (by assumption) (by decide) ?_), by have hx2 : x2 = n := (by omega); rw [hx2] at h2_2; exact h2_2⟩
      · skip
        refine zs_aload_n (pc := 7) C dX9_copies_7 rfl ?_
        refine zs_iload_n (pc := 8) C dX9_copies_8 rfl ?_
        refine zs_aload_n (pc := 9) C dX9_copies_9 rfl ?_
        refine zs_iload_n (pc := 10) C dX9_copies_10 rfl ?_
        refine zs_iload_n (pc := 11) C dX9_copies_11 rfl ?_
        first | refine zs_iadd (pc := 12) C dX9_copies_12 (by omega) ?_ | refine zs_iaddF (pc := 12) C dX9_copies_12 (fun z12 hz121 hz122 => ?_)
        refine zs_iald (r := 2061) (pc := 13) C dX9_copies_13 a_61 (by decide) (by omega) rfl (r_2061 _) (fun v13 e13 l13 u13 => ?_)
        refine zs_iast (r := 2061) (pc := 14) C dX9_copies_14 a_61 (by decide) (by omega) rfl (r_2061 _) (by omega) ?_
        first | refine zs_iinc (pc := 15) C dX9_copies_15 rfl (by decide) (by omega) ?_ | refine zs_iincF (pc := 15) C dX9_copies_15 rfl (by decide) (fun z15 hz151 hz152 => ?_)
        dsimp only [zset, zclr, znone]
        refine zs_goto (tgt := 2) (pc := 18) C dX9_copies_18 (by decide) ?_
        exact zs_wk (ih2 _ _ (by omega) (by repeat (first | exact zsm_rf | assumption | refine zsm_C (by decide) ?_ | refine zsm_I (by decide) ?_ | refine zsm_J ?_ | refine zsm_c (by assumption) (by decide) ?_)) (CP_s h2_2 (by omega) (by omega) e13) (by first | omega | (simp only [zuI_1, zuI_2, zuJ_1, zuJ_2, zuJ_3, zuP_1, zuP_2, zuP_3, zuC_1, zuC_2, reduceIte, Nat.reduceEqDiff, false_and, and_false, true_and, and_true, and_self, or_true, true_or, or_false, false_or]; omega))) (zwk_s rfl (zwk_s rfl (zwk_s rfl zwk_0)))
  exact zs_wk (L2 _ _ _ (by omega) zsm_rf CP_0 (Nat.lt_succ_self _)) (zwk_s rfl (zwk_s rfl (zwk_s rfl zwk_0)))

set_option maxHeartbeats 4000000 in
set_option maxRecDepth 100000 in
theorem c_X9_copies62 {l : Launch} {Γ : zΓ} {G : zH} {a : Nat} {n : Int} (hX : zXs Γ) (hn : n = 4) : zMet l Γ yX9_copies cX9_copies 3 none 0 [zr 62 a, zi n] G (zpv (fun G' => zsm [2062] G G' ∧ CP (G.1 2062 a) (G'.1 2062 a) n.toNat n)) := by
  refine zMet_of RX9 hX (by decide) rfl (Nat.le_of_ble_eq_true rfl) ?_
  intro p e s m args below meth c C hr hlk
  show Z p l e (zrm 0) s m args below meth c Γ 3 0 0 (MQ below (zQc Γ (zpv (fun G' => zsm [2062] G G' ∧ CP (G.1 2062 a) (G'.1 2062 a) n.toNat n))) args s 0 0 (zA Γ)) 0 [some (zr 62 a), some (zi n), none] [] G
  refine zs_loc 1 rfl (fun ha1 hb1 => ?_)
  refine zs_iconst (pc := 0) C dX9_copies_0 (by decide) ?_
  refine zs_istore_n (pc := 1) C dX9_copies_1 (by decide) ?_
  dsimp only [zset, zclr, znone]
  have L2 : ∀ (nn : Nat) (x2 : Int) (G1 : zH), (0 ≤ x2 ∧ x2 ≤ n) → (zsm [2062] G G1) → (CP (G.1 2062 a) (G1.1 2062 a) n.toNat x2) → (n - x2).toNat < nn → Z p l e (zrm 0) s m args below meth c Γ 3 0 0 (MQ below (zQc Γ (zpv (fun G' => zsm [2062] G G' ∧ CP (G.1 2062 a) (G'.1 2062 a) n.toNat n))) args s 0 0 (zA Γ)) 2 [some (zr 62 a), some (zi n), some (zi x2)] [] G1 := by
    intro nn
    induction nn with
    | zero => intro x2 G1 h2_0 h2_1 h2_2 hm; exact absurd hm (Nat.not_lt_zero _)
    | succ nn ih2 =>
      intro x2 G1 h2_0 h2_1 h2_2 hm2
      refine zs_iload_n (pc := 2) C dX9_copies_2 rfl ?_
      refine zs_iload_n (pc := 3) C dX9_copies_3 rfl ?_
      refine zs_icmp_ge (tgt := 21) (pc := 4) C dX9_copies_4 (by decide) (fun h4 => ?_) (fun h4 => ?_)
      · skip
        exact zs_vret (pc := 21) C hr hlk dX9_copies_21 ⟨by repeat (first | exact zsm_rf | assumption | refine zsm_C (by decide) ?_ | refine zsm_I (by decide) ?_ | refine zsm_J ?_ | refine zsm_c (by assumption) (by decide) ?_), by have hx2 : x2 = n := (by omega); rw [hx2] at h2_2; exact h2_2⟩
      · skip
        refine zs_aload_n (pc := 7) C dX9_copies_7 rfl ?_
        refine zs_iload_n (pc := 8) C dX9_copies_8 rfl ?_
        refine zs_aload_n (pc := 9) C dX9_copies_9 rfl ?_
        refine zs_iload_n (pc := 10) C dX9_copies_10 rfl ?_
        refine zs_iload_n (pc := 11) C dX9_copies_11 rfl ?_
        first | refine zs_iadd (pc := 12) C dX9_copies_12 (by omega) ?_ | refine zs_iaddF (pc := 12) C dX9_copies_12 (fun z12 hz121 hz122 => ?_)
        refine zs_iald (r := 2062) (pc := 13) C dX9_copies_13 a_62 (by decide) (by omega) rfl (r_2062 _) (fun v13 e13 l13 u13 => ?_)
        refine zs_iast (r := 2062) (pc := 14) C dX9_copies_14 a_62 (by decide) (by omega) rfl (r_2062 _) (by omega) ?_
        first | refine zs_iinc (pc := 15) C dX9_copies_15 rfl (by decide) (by omega) ?_ | refine zs_iincF (pc := 15) C dX9_copies_15 rfl (by decide) (fun z15 hz151 hz152 => ?_)
        dsimp only [zset, zclr, znone]
        refine zs_goto (tgt := 2) (pc := 18) C dX9_copies_18 (by decide) ?_
        exact zs_wk (ih2 _ _ (by omega) (by repeat (first | exact zsm_rf | assumption | refine zsm_C (by decide) ?_ | refine zsm_I (by decide) ?_ | refine zsm_J ?_ | refine zsm_c (by assumption) (by decide) ?_)) (CP_s h2_2 (by omega) (by omega) e13) (by first | omega | (simp only [zuI_1, zuI_2, zuJ_1, zuJ_2, zuJ_3, zuP_1, zuP_2, zuP_3, zuC_1, zuC_2, reduceIte, Nat.reduceEqDiff, false_and, and_false, true_and, and_true, and_self, or_true, true_or, or_false, false_or]; omega))) (zwk_s rfl (zwk_s rfl (zwk_s rfl zwk_0)))
  exact zs_wk (L2 _ _ _ (by omega) zsm_rf CP_0 (Nat.lt_succ_self _)) (zwk_s rfl (zwk_s rfl (zwk_s rfl zwk_0)))

set_option maxHeartbeats 4000000 in
set_option maxRecDepth 100000 in
theorem c_X9_copies63 {l : Launch} {Γ : zΓ} {G : zH} {a : Nat} {n : Int} (hX : zXs Γ) (hn : n = 5) : zMet l Γ yX9_copies cX9_copies 3 none 0 [zr 63 a, zi n] G (zpv (fun G' => zsm [2063] G G' ∧ CP (G.1 2063 a) (G'.1 2063 a) n.toNat n)) := by
  refine zMet_of RX9 hX (by decide) rfl (Nat.le_of_ble_eq_true rfl) ?_
  intro p e s m args below meth c C hr hlk
  show Z p l e (zrm 0) s m args below meth c Γ 3 0 0 (MQ below (zQc Γ (zpv (fun G' => zsm [2063] G G' ∧ CP (G.1 2063 a) (G'.1 2063 a) n.toNat n))) args s 0 0 (zA Γ)) 0 [some (zr 63 a), some (zi n), none] [] G
  refine zs_loc 1 rfl (fun ha1 hb1 => ?_)
  refine zs_iconst (pc := 0) C dX9_copies_0 (by decide) ?_
  refine zs_istore_n (pc := 1) C dX9_copies_1 (by decide) ?_
  dsimp only [zset, zclr, znone]
  have L2 : ∀ (nn : Nat) (x2 : Int) (G1 : zH), (0 ≤ x2 ∧ x2 ≤ n) → (zsm [2063] G G1) → (CP (G.1 2063 a) (G1.1 2063 a) n.toNat x2) → (n - x2).toNat < nn → Z p l e (zrm 0) s m args below meth c Γ 3 0 0 (MQ below (zQc Γ (zpv (fun G' => zsm [2063] G G' ∧ CP (G.1 2063 a) (G'.1 2063 a) n.toNat n))) args s 0 0 (zA Γ)) 2 [some (zr 63 a), some (zi n), some (zi x2)] [] G1 := by
    intro nn
    induction nn with
    | zero => intro x2 G1 h2_0 h2_1 h2_2 hm; exact absurd hm (Nat.not_lt_zero _)
    | succ nn ih2 =>
      intro x2 G1 h2_0 h2_1 h2_2 hm2
      refine zs_iload_n (pc := 2) C dX9_copies_2 rfl ?_
      refine zs_iload_n (pc := 3) C dX9_copies_3 rfl ?_
      refine zs_icmp_ge (tgt := 21) (pc := 4) C dX9_copies_4 (by decide) (fun h4 => ?_) (fun h4 => ?_)
      · skip
        exact zs_vret (pc := 21) C hr hlk dX9_copies_21 ⟨by repeat (first | exact zsm_rf | assumption | refine zsm_C (by decide) ?_ | refine zsm_I (by decide) ?_ | refine zsm_J ?_ | refine zsm_c (by assumption) (by decide) ?_), by have hx2 : x2 = n := (by omega); rw [hx2] at h2_2; exact h2_2⟩
      · skip
        refine zs_aload_n (pc := 7) C dX9_copies_7 rfl ?_
        refine zs_iload_n (pc := 8) C dX9_copies_8 rfl ?_
        refine zs_aload_n (pc := 9) C dX9_copies_9 rfl ?_
        refine zs_iload_n (pc := 10) C dX9_copies_10 rfl ?_
        refine zs_iload_n (pc := 11) C dX9_copies_11 rfl ?_
        first | refine zs_iadd (pc := 12) C dX9_copies_12 (by omega) ?_ | refine zs_iaddF (pc := 12) C dX9_copies_12 (fun z12 hz121 hz122 => ?_)
        refine zs_iald (r := 2063) (pc := 13) C dX9_copies_13 a_63 (by decide) (by omega) rfl (r_2063 _) (fun v13 e13 l13 u13 => ?_)
        refine zs_iast (r := 2063) (pc := 14) C dX9_copies_14 a_63 (by decide) (by omega) rfl (r_2063 _) (by omega) ?_
        first | refine zs_iinc (pc := 15) C dX9_copies_15 rfl (by decide) (by omega) ?_ | refine zs_iincF (pc := 15) C dX9_copies_15 rfl (by decide) (fun z15 hz151 hz152 => ?_)
        dsimp only [zset, zclr, znone]
        refine zs_goto (tgt := 2) (pc := 18) C dX9_copies_18 (by decide) ?_
        exact zs_wk (ih2 _ _ (by omega) (by repeat (first | exact zsm_rf | assumption | refine zsm_C (by decide) ?_ | refine zsm_I (by decide) ?_ | refine zsm_J ?_ | refine zsm_c (by assumption) (by decide) ?_)) (CP_s h2_2 (by omega) (by omega) e13) (by first | omega | (simp only [zuI_1, zuI_2, zuJ_1, zuJ_2, zuJ_3, zuP_1, zuP_2, zuP_3, zuC_1, zuC_2, reduceIte, Nat.reduceEqDiff, false_and, and_false, true_and, and_true, and_self, or_true, true_or, or_false, false_or]; omega))) (zwk_s rfl (zwk_s rfl (zwk_s rfl zwk_0)))
  exact zs_wk (L2 _ _ _ (by omega) zsm_rf CP_0 (Nat.lt_succ_self _)) (zwk_s rfl (zwk_s rfl (zwk_s rfl zwk_0)))

set_option maxHeartbeats 4000000 in
set_option maxRecDepth 100000 in
theorem c_X9_copies64 {l : Launch} {Γ : zΓ} {G : zH} {a : Nat} {n : Int} (hX : zXs Γ) (hn : n = 5) : zMet l Γ yX9_copies cX9_copies 3 none 0 [zr 64 a, zi n] G (zpv (fun G' => zsm [2064] G G' ∧ CP (G.1 2064 a) (G'.1 2064 a) n.toNat n)) := by
  refine zMet_of RX9 hX (by decide) rfl (Nat.le_of_ble_eq_true rfl) ?_
  intro p e s m args below meth c C hr hlk
  show Z p l e (zrm 0) s m args below meth c Γ 3 0 0 (MQ below (zQc Γ (zpv (fun G' => zsm [2064] G G' ∧ CP (G.1 2064 a) (G'.1 2064 a) n.toNat n))) args s 0 0 (zA Γ)) 0 [some (zr 64 a), some (zi n), none] [] G
  refine zs_loc 1 rfl (fun ha1 hb1 => ?_)
  refine zs_iconst (pc := 0) C dX9_copies_0 (by decide) ?_
  refine zs_istore_n (pc := 1) C dX9_copies_1 (by decide) ?_
  dsimp only [zset, zclr, znone]
  have L2 : ∀ (nn : Nat) (x2 : Int) (G1 : zH), (0 ≤ x2 ∧ x2 ≤ n) → (zsm [2064] G G1) → (CP (G.1 2064 a) (G1.1 2064 a) n.toNat x2) → (n - x2).toNat < nn → Z p l e (zrm 0) s m args below meth c Γ 3 0 0 (MQ below (zQc Γ (zpv (fun G' => zsm [2064] G G' ∧ CP (G.1 2064 a) (G'.1 2064 a) n.toNat n))) args s 0 0 (zA Γ)) 2 [some (zr 64 a), some (zi n), some (zi x2)] [] G1 := by
    intro nn
    induction nn with
    | zero => intro x2 G1 h2_0 h2_1 h2_2 hm; exact absurd hm (Nat.not_lt_zero _)
    | succ nn ih2 =>
      intro x2 G1 h2_0 h2_1 h2_2 hm2
      refine zs_iload_n (pc := 2) C dX9_copies_2 rfl ?_
      refine zs_iload_n (pc := 3) C dX9_copies_3 rfl ?_
      refine zs_icmp_ge (tgt := 21) (pc := 4) C dX9_copies_4 (by decide) (fun h4 => ?_) (fun h4 => ?_)
      · skip
        exact zs_vret (pc := 21) C hr hlk dX9_copies_21 ⟨by repeat (first | exact zsm_rf | assumption | refine zsm_C (by decide) ?_ | refine zsm_I (by decide) ?_ | refine zsm_J ?_ | refine zsm_c (by assumption) (by decide) ?_), by have hx2 : x2 = n := (by omega); rw [hx2] at h2_2; exact h2_2⟩
      · skip
        refine zs_aload_n (pc := 7) C dX9_copies_7 rfl ?_
        refine zs_iload_n (pc := 8) C dX9_copies_8 rfl ?_
        refine zs_aload_n (pc := 9) C dX9_copies_9 rfl ?_
        refine zs_iload_n (pc := 10) C dX9_copies_10 rfl ?_
        refine zs_iload_n (pc := 11) C dX9_copies_11 rfl ?_
        first | refine zs_iadd (pc := 12) C dX9_copies_12 (by omega) ?_ | refine zs_iaddF (pc := 12) C dX9_copies_12 (fun z12 hz121 hz122 => ?_)
        refine zs_iald (r := 2064) (pc := 13) C dX9_copies_13 a_64 (by decide) (by omega) rfl (r_2064 _) (fun v13 e13 l13 u13 => ?_)
        refine zs_iast (r := 2064) (pc := 14) C dX9_copies_14 a_64 (by decide) (by omega) rfl (r_2064 _) (by omega) ?_
        first | refine zs_iinc (pc := 15) C dX9_copies_15 rfl (by decide) (by omega) ?_ | refine zs_iincF (pc := 15) C dX9_copies_15 rfl (by decide) (fun z15 hz151 hz152 => ?_)
        dsimp only [zset, zclr, znone]
        refine zs_goto (tgt := 2) (pc := 18) C dX9_copies_18 (by decide) ?_
        exact zs_wk (ih2 _ _ (by omega) (by repeat (first | exact zsm_rf | assumption | refine zsm_C (by decide) ?_ | refine zsm_I (by decide) ?_ | refine zsm_J ?_ | refine zsm_c (by assumption) (by decide) ?_)) (CP_s h2_2 (by omega) (by omega) e13) (by first | omega | (simp only [zuI_1, zuI_2, zuJ_1, zuJ_2, zuJ_3, zuP_1, zuP_2, zuP_3, zuC_1, zuC_2, reduceIte, Nat.reduceEqDiff, false_and, and_false, true_and, and_true, and_self, or_true, true_or, or_false, false_or]; omega))) (zwk_s rfl (zwk_s rfl (zwk_s rfl zwk_0)))
  exact zs_wk (L2 _ _ _ (by omega) zsm_rf CP_0 (Nat.lt_succ_self _)) (zwk_s rfl (zwk_s rfl (zwk_s rfl zwk_0)))

set_option maxHeartbeats 4000000 in
set_option maxRecDepth 100000 in
theorem c_X9_copies65 {l : Launch} {Γ : zΓ} {G : zH} {a : Nat} {n : Int} (hX : zXs Γ) (hn : n = 20) : zMet l Γ yX9_copies cX9_copies 3 none 0 [zr 65 a, zi n] G (zpv (fun G' => zsm [2065] G G' ∧ CP (G.1 2065 a) (G'.1 2065 a) n.toNat n)) := by
  refine zMet_of RX9 hX (by decide) rfl (Nat.le_of_ble_eq_true rfl) ?_
  intro p e s m args below meth c C hr hlk
  show Z p l e (zrm 0) s m args below meth c Γ 3 0 0 (MQ below (zQc Γ (zpv (fun G' => zsm [2065] G G' ∧ CP (G.1 2065 a) (G'.1 2065 a) n.toNat n))) args s 0 0 (zA Γ)) 0 [some (zr 65 a), some (zi n), none] [] G
  refine zs_loc 1 rfl (fun ha1 hb1 => ?_)
  refine zs_iconst (pc := 0) C dX9_copies_0 (by decide) ?_
  refine zs_istore_n (pc := 1) C dX9_copies_1 (by decide) ?_
  dsimp only [zset, zclr, znone]
  have L2 : ∀ (nn : Nat) (x2 : Int) (G1 : zH), (0 ≤ x2 ∧ x2 ≤ n) → (zsm [2065] G G1) → (CP (G.1 2065 a) (G1.1 2065 a) n.toNat x2) → (n - x2).toNat < nn → Z p l e (zrm 0) s m args below meth c Γ 3 0 0 (MQ below (zQc Γ (zpv (fun G' => zsm [2065] G G' ∧ CP (G.1 2065 a) (G'.1 2065 a) n.toNat n))) args s 0 0 (zA Γ)) 2 [some (zr 65 a), some (zi n), some (zi x2)] [] G1 := by
    intro nn
    induction nn with
    | zero => intro x2 G1 h2_0 h2_1 h2_2 hm; exact absurd hm (Nat.not_lt_zero _)
    | succ nn ih2 =>
      intro x2 G1 h2_0 h2_1 h2_2 hm2
      refine zs_iload_n (pc := 2) C dX9_copies_2 rfl ?_
      refine zs_iload_n (pc := 3) C dX9_copies_3 rfl ?_
      refine zs_icmp_ge (tgt := 21) (pc := 4) C dX9_copies_4 (by decide) (fun h4 => ?_) (fun h4 => ?_)
      · skip
        exact zs_vret (pc := 21) C hr hlk dX9_copies_21 ⟨by repeat (first | exact zsm_rf | assumption | refine zsm_C (by decide) ?_ | refine zsm_I (by decide) ?_ | refine zsm_J ?_ | refine zsm_c (by assumption) (by decide) ?_), by have hx2 : x2 = n := (by omega); rw [hx2] at h2_2; exact h2_2⟩
      · skip
        refine zs_aload_n (pc := 7) C dX9_copies_7 rfl ?_
        refine zs_iload_n (pc := 8) C dX9_copies_8 rfl ?_
        refine zs_aload_n (pc := 9) C dX9_copies_9 rfl ?_
        refine zs_iload_n (pc := 10) C dX9_copies_10 rfl ?_
        refine zs_iload_n (pc := 11) C dX9_copies_11 rfl ?_
        first | refine zs_iadd (pc := 12) C dX9_copies_12 (by omega) ?_ | refine zs_iaddF (pc := 12) C dX9_copies_12 (fun z12 hz121 hz122 => ?_)
        refine zs_iald (r := 2065) (pc := 13) C dX9_copies_13 a_65 (by decide) (by omega) rfl (r_2065 _) (fun v13 e13 l13 u13 => ?_)
        refine zs_iast (r := 2065) (pc := 14) C dX9_copies_14 a_65 (by decide) (by omega) rfl (r_2065 _) (by omega) ?_
        first | refine zs_iinc (pc := 15) C dX9_copies_15 rfl (by decide) (by omega) ?_ | refine zs_iincF (pc := 15) C dX9_copies_15 rfl (by decide) (fun z15 hz151 hz152 => ?_)
        dsimp only [zset, zclr, znone]
        refine zs_goto (tgt := 2) (pc := 18) C dX9_copies_18 (by decide) ?_
        exact zs_wk (ih2 _ _ (by omega) (by repeat (first | exact zsm_rf | assumption | refine zsm_C (by decide) ?_ | refine zsm_I (by decide) ?_ | refine zsm_J ?_ | refine zsm_c (by assumption) (by decide) ?_)) (CP_s h2_2 (by omega) (by omega) e13) (by first | omega | (simp only [zuI_1, zuI_2, zuJ_1, zuJ_2, zuJ_3, zuP_1, zuP_2, zuP_3, zuC_1, zuC_2, reduceIte, Nat.reduceEqDiff, false_and, and_false, true_and, and_true, and_self, or_true, true_or, or_false, false_or]; omega))) (zwk_s rfl (zwk_s rfl (zwk_s rfl zwk_0)))
  exact zs_wk (L2 _ _ _ (by omega) zsm_rf CP_0 (Nat.lt_succ_self _)) (zwk_s rfl (zwk_s rfl (zwk_s rfl zwk_0)))

set_option maxHeartbeats 4000000 in
set_option maxRecDepth 100000 in
theorem c_X9_copies66 {l : Launch} {Γ : zΓ} {G : zH} {a : Nat} {n : Int} (hX : zXs Γ) (hn : n = 5) : zMet l Γ yX9_copies cX9_copies 3 none 0 [zr 66 a, zi n] G (zpv (fun G' => zsm [2066] G G' ∧ CP (G.1 2066 a) (G'.1 2066 a) n.toNat n)) := by
  refine zMet_of RX9 hX (by decide) rfl (Nat.le_of_ble_eq_true rfl) ?_
  intro p e s m args below meth c C hr hlk
  show Z p l e (zrm 0) s m args below meth c Γ 3 0 0 (MQ below (zQc Γ (zpv (fun G' => zsm [2066] G G' ∧ CP (G.1 2066 a) (G'.1 2066 a) n.toNat n))) args s 0 0 (zA Γ)) 0 [some (zr 66 a), some (zi n), none] [] G
  refine zs_loc 1 rfl (fun ha1 hb1 => ?_)
  refine zs_iconst (pc := 0) C dX9_copies_0 (by decide) ?_
  refine zs_istore_n (pc := 1) C dX9_copies_1 (by decide) ?_
  dsimp only [zset, zclr, znone]
  have L2 : ∀ (nn : Nat) (x2 : Int) (G1 : zH), (0 ≤ x2 ∧ x2 ≤ n) → (zsm [2066] G G1) → (CP (G.1 2066 a) (G1.1 2066 a) n.toNat x2) → (n - x2).toNat < nn → Z p l e (zrm 0) s m args below meth c Γ 3 0 0 (MQ below (zQc Γ (zpv (fun G' => zsm [2066] G G' ∧ CP (G.1 2066 a) (G'.1 2066 a) n.toNat n))) args s 0 0 (zA Γ)) 2 [some (zr 66 a), some (zi n), some (zi x2)] [] G1 := by
    intro nn
    induction nn with
    | zero => intro x2 G1 h2_0 h2_1 h2_2 hm; exact absurd hm (Nat.not_lt_zero _)
    | succ nn ih2 =>
      intro x2 G1 h2_0 h2_1 h2_2 hm2
      refine zs_iload_n (pc := 2) C dX9_copies_2 rfl ?_
      refine zs_iload_n (pc := 3) C dX9_copies_3 rfl ?_
      refine zs_icmp_ge (tgt := 21) (pc := 4) C dX9_copies_4 (by decide) (fun h4 => ?_) (fun h4 => ?_)
      · skip
        exact zs_vret (pc := 21) C hr hlk dX9_copies_21 ⟨by repeat (first | exact zsm_rf | assumption | refine zsm_C (by decide) ?_ | refine zsm_I (by decide) ?_ | refine zsm_J ?_ | refine zsm_c (by assumption) (by decide) ?_), by have hx2 : x2 = n := (by omega); rw [hx2] at h2_2; exact h2_2⟩
      · skip
        refine zs_aload_n (pc := 7) C dX9_copies_7 rfl ?_
        refine zs_iload_n (pc := 8) C dX9_copies_8 rfl ?_
        refine zs_aload_n (pc := 9) C dX9_copies_9 rfl ?_
        refine zs_iload_n (pc := 10) C dX9_copies_10 rfl ?_
        refine zs_iload_n (pc := 11) C dX9_copies_11 rfl ?_
        first | refine zs_iadd (pc := 12) C dX9_copies_12 (by omega) ?_ | refine zs_iaddF (pc := 12) C dX9_copies_12 (fun z12 hz121 hz122 => ?_)
        refine zs_iald (r := 2066) (pc := 13) C dX9_copies_13 a_66 (by decide) (by omega) rfl (r_2066 _) (fun v13 e13 l13 u13 => ?_)
        refine zs_iast (r := 2066) (pc := 14) C dX9_copies_14 a_66 (by decide) (by omega) rfl (r_2066 _) (by omega) ?_
        first | refine zs_iinc (pc := 15) C dX9_copies_15 rfl (by decide) (by omega) ?_ | refine zs_iincF (pc := 15) C dX9_copies_15 rfl (by decide) (fun z15 hz151 hz152 => ?_)
        dsimp only [zset, zclr, znone]
        refine zs_goto (tgt := 2) (pc := 18) C dX9_copies_18 (by decide) ?_
        exact zs_wk (ih2 _ _ (by omega) (by repeat (first | exact zsm_rf | assumption | refine zsm_C (by decide) ?_ | refine zsm_I (by decide) ?_ | refine zsm_J ?_ | refine zsm_c (by assumption) (by decide) ?_)) (CP_s h2_2 (by omega) (by omega) e13) (by first | omega | (simp only [zuI_1, zuI_2, zuJ_1, zuJ_2, zuJ_3, zuP_1, zuP_2, zuP_3, zuC_1, zuC_2, reduceIte, Nat.reduceEqDiff, false_and, and_false, true_and, and_true, and_self, or_true, true_or, or_false, false_or]; omega))) (zwk_s rfl (zwk_s rfl (zwk_s rfl zwk_0)))
  exact zs_wk (L2 _ _ _ (by omega) zsm_rf CP_0 (Nat.lt_succ_self _)) (zwk_s rfl (zwk_s rfl (zwk_s rfl zwk_0)))

set_option maxHeartbeats 4000000 in
set_option maxRecDepth 100000 in
theorem c_X9_copies67 {l : Launch} {Γ : zΓ} {G : zH} {a : Nat} {n : Int} (hX : zXs Γ) (hn : n = 5) : zMet l Γ yX9_copies cX9_copies 3 none 0 [zr 67 a, zi n] G (zpv (fun G' => zsm [2067] G G' ∧ CP (G.1 2067 a) (G'.1 2067 a) n.toNat n)) := by
  refine zMet_of RX9 hX (by decide) rfl (Nat.le_of_ble_eq_true rfl) ?_
  intro p e s m args below meth c C hr hlk
  show Z p l e (zrm 0) s m args below meth c Γ 3 0 0 (MQ below (zQc Γ (zpv (fun G' => zsm [2067] G G' ∧ CP (G.1 2067 a) (G'.1 2067 a) n.toNat n))) args s 0 0 (zA Γ)) 0 [some (zr 67 a), some (zi n), none] [] G
  refine zs_loc 1 rfl (fun ha1 hb1 => ?_)
  refine zs_iconst (pc := 0) C dX9_copies_0 (by decide) ?_
  refine zs_istore_n (pc := 1) C dX9_copies_1 (by decide) ?_
  dsimp only [zset, zclr, znone]
  have L2 : ∀ (nn : Nat) (x2 : Int) (G1 : zH), (0 ≤ x2 ∧ x2 ≤ n) → (zsm [2067] G G1) → (CP (G.1 2067 a) (G1.1 2067 a) n.toNat x2) → (n - x2).toNat < nn → Z p l e (zrm 0) s m args below meth c Γ 3 0 0 (MQ below (zQc Γ (zpv (fun G' => zsm [2067] G G' ∧ CP (G.1 2067 a) (G'.1 2067 a) n.toNat n))) args s 0 0 (zA Γ)) 2 [some (zr 67 a), some (zi n), some (zi x2)] [] G1 := by
    intro nn
    induction nn with
    | zero => intro x2 G1 h2_0 h2_1 h2_2 hm; exact absurd hm (Nat.not_lt_zero _)
    | succ nn ih2 =>
      intro x2 G1 h2_0 h2_1 h2_2 hm2
      refine zs_iload_n (pc := 2) C dX9_copies_2 rfl ?_
      refine zs_iload_n (pc := 3) C dX9_copies_3 rfl ?_
      refine zs_icmp_ge (tgt := 21) (pc := 4) C dX9_copies_4 (by decide) (fun h4 => ?_) (fun h4 => ?_)
      · skip
        exact zs_vret (pc := 21) C hr hlk dX9_copies_21 ⟨by repeat (first | exact zsm_rf | assumption | refine zsm_C (by decide) ?_ | refine zsm_I (by decide) ?_ | refine zsm_J ?_ | refine zsm_c (by assumption) (by decide) ?_), by have hx2 : x2 = n := (by omega); rw [hx2] at h2_2; exact h2_2⟩
      · skip
        refine zs_aload_n (pc := 7) C dX9_copies_7 rfl ?_
        refine zs_iload_n (pc := 8) C dX9_copies_8 rfl ?_
        refine zs_aload_n (pc := 9) C dX9_copies_9 rfl ?_
        refine zs_iload_n (pc := 10) C dX9_copies_10 rfl ?_
        refine zs_iload_n (pc := 11) C dX9_copies_11 rfl ?_
        first | refine zs_iadd (pc := 12) C dX9_copies_12 (by omega) ?_ | refine zs_iaddF (pc := 12) C dX9_copies_12 (fun z12 hz121 hz122 => ?_)
        refine zs_iald (r := 2067) (pc := 13) C dX9_copies_13 a_67 (by decide) (by omega) rfl (r_2067 _) (fun v13 e13 l13 u13 => ?_)
        refine zs_iast (r := 2067) (pc := 14) C dX9_copies_14 a_67 (by decide) (by omega) rfl (r_2067 _) (by omega) ?_
        first | refine zs_iinc (pc := 15) C dX9_copies_15 rfl (by decide) (by omega) ?_ | refine zs_iincF (pc := 15) C dX9_copies_15 rfl (by decide) (fun z15 hz151 hz152 => ?_)
        dsimp only [zset, zclr, znone]
        refine zs_goto (tgt := 2) (pc := 18) C dX9_copies_18 (by decide) ?_
        exact zs_wk (ih2 _ _ (by omega) (by repeat (first | exact zsm_rf | assumption | refine zsm_C (by decide) ?_ | refine zsm_I (by decide) ?_ | refine zsm_J ?_ | refine zsm_c (by assumption) (by decide) ?_)) (CP_s h2_2 (by omega) (by omega) e13) (by first | omega | (simp only [zuI_1, zuI_2, zuJ_1, zuJ_2, zuJ_3, zuP_1, zuP_2, zuP_3, zuC_1, zuC_2, reduceIte, Nat.reduceEqDiff, false_and, and_false, true_and, and_true, and_self, or_true, true_or, or_false, false_or]; omega))) (zwk_s rfl (zwk_s rfl (zwk_s rfl zwk_0)))
  exact zs_wk (L2 _ _ _ (by omega) zsm_rf CP_0 (Nat.lt_succ_self _)) (zwk_s rfl (zwk_s rfl (zwk_s rfl zwk_0)))

set_option maxHeartbeats 4000000 in
set_option maxRecDepth 100000 in
theorem c_X9_copies68 {l : Launch} {Γ : zΓ} {G : zH} {a : Nat} {n : Int} (hX : zXs Γ) (hn : n = 5) : zMet l Γ yX9_copies cX9_copies 3 none 0 [zr 68 a, zi n] G (zpv (fun G' => zsm [2068] G G' ∧ CP (G.1 2068 a) (G'.1 2068 a) n.toNat n)) := by
  refine zMet_of RX9 hX (by decide) rfl (Nat.le_of_ble_eq_true rfl) ?_
  intro p e s m args below meth c C hr hlk
  show Z p l e (zrm 0) s m args below meth c Γ 3 0 0 (MQ below (zQc Γ (zpv (fun G' => zsm [2068] G G' ∧ CP (G.1 2068 a) (G'.1 2068 a) n.toNat n))) args s 0 0 (zA Γ)) 0 [some (zr 68 a), some (zi n), none] [] G
  refine zs_loc 1 rfl (fun ha1 hb1 => ?_)
  refine zs_iconst (pc := 0) C dX9_copies_0 (by decide) ?_
  refine zs_istore_n (pc := 1) C dX9_copies_1 (by decide) ?_
  dsimp only [zset, zclr, znone]
  have L2 : ∀ (nn : Nat) (x2 : Int) (G1 : zH), (0 ≤ x2 ∧ x2 ≤ n) → (zsm [2068] G G1) → (CP (G.1 2068 a) (G1.1 2068 a) n.toNat x2) → (n - x2).toNat < nn → Z p l e (zrm 0) s m args below meth c Γ 3 0 0 (MQ below (zQc Γ (zpv (fun G' => zsm [2068] G G' ∧ CP (G.1 2068 a) (G'.1 2068 a) n.toNat n))) args s 0 0 (zA Γ)) 2 [some (zr 68 a), some (zi n), some (zi x2)] [] G1 := by
    intro nn
    induction nn with
    | zero => intro x2 G1 h2_0 h2_1 h2_2 hm; exact absurd hm (Nat.not_lt_zero _)
    | succ nn ih2 =>
      intro x2 G1 h2_0 h2_1 h2_2 hm2
      refine zs_iload_n (pc := 2) C dX9_copies_2 rfl ?_
      refine zs_iload_n (pc := 3) C dX9_copies_3 rfl ?_
      refine zs_icmp_ge (tgt := 21) (pc := 4) C dX9_copies_4 (by decide) (fun h4 => ?_) (fun h4 => ?_)
      · skip
        exact zs_vret (pc := 21) C hr hlk dX9_copies_21 ⟨by repeat (first | exact zsm_rf | assumption | refine zsm_C (by decide) ?_ | refine zsm_I (by decide) ?_ | refine zsm_J ?_ | refine zsm_c (by assumption) (by decide) ?_), by have hx2 : x2 = n := (by omega); rw [hx2] at h2_2; exact h2_2⟩
      · skip
        refine zs_aload_n (pc := 7) C dX9_copies_7 rfl ?_
        refine zs_iload_n (pc := 8) C dX9_copies_8 rfl ?_
        refine zs_aload_n (pc := 9) C dX9_copies_9 rfl ?_
        refine zs_iload_n (pc := 10) C dX9_copies_10 rfl ?_
        refine zs_iload_n (pc := 11) C dX9_copies_11 rfl ?_
        first | refine zs_iadd (pc := 12) C dX9_copies_12 (by omega) ?_ | refine zs_iaddF (pc := 12) C dX9_copies_12 (fun z12 hz121 hz122 => ?_)
        refine zs_iald (r := 2068) (pc := 13) C dX9_copies_13 a_68 (by decide) (by omega) rfl (r_2068 _) (fun v13 e13 l13 u13 => ?_)
        refine zs_iast (r := 2068) (pc := 14) C dX9_copies_14 a_68 (by decide) (by omega) rfl (r_2068 _) (by omega) ?_
        first | refine zs_iinc (pc := 15) C dX9_copies_15 rfl (by decide) (by omega) ?_ | refine zs_iincF (pc := 15) C dX9_copies_15 rfl (by decide) (fun z15 hz151 hz152 => ?_)
        dsimp only [zset, zclr, znone]
        refine zs_goto (tgt := 2) (pc := 18) C dX9_copies_18 (by decide) ?_
        exact zs_wk (ih2 _ _ (by omega) (by repeat (first | exact zsm_rf | assumption | refine zsm_C (by decide) ?_ | refine zsm_I (by decide) ?_ | refine zsm_J ?_ | refine zsm_c (by assumption) (by decide) ?_)) (CP_s h2_2 (by omega) (by omega) e13) (by first | omega | (simp only [zuI_1, zuI_2, zuJ_1, zuJ_2, zuJ_3, zuP_1, zuP_2, zuP_3, zuC_1, zuC_2, reduceIte, Nat.reduceEqDiff, false_and, and_false, true_and, and_true, and_self, or_true, true_or, or_false, false_or]; omega))) (zwk_s rfl (zwk_s rfl (zwk_s rfl zwk_0)))
  exact zs_wk (L2 _ _ _ (by omega) zsm_rf CP_0 (Nat.lt_succ_self _)) (zwk_s rfl (zwk_s rfl (zwk_s rfl zwk_0)))

set_option maxHeartbeats 4000000 in
set_option maxRecDepth 100000 in
theorem c_X9_copies69 {l : Launch} {Γ : zΓ} {G : zH} {a : Nat} {n : Int} (hX : zXs Γ) (hn : n = 5) : zMet l Γ yX9_copies cX9_copies 3 none 0 [zr 69 a, zi n] G (zpv (fun G' => zsm [2069] G G' ∧ CP (G.1 2069 a) (G'.1 2069 a) n.toNat n)) := by
  refine zMet_of RX9 hX (by decide) rfl (Nat.le_of_ble_eq_true rfl) ?_
  intro p e s m args below meth c C hr hlk
  show Z p l e (zrm 0) s m args below meth c Γ 3 0 0 (MQ below (zQc Γ (zpv (fun G' => zsm [2069] G G' ∧ CP (G.1 2069 a) (G'.1 2069 a) n.toNat n))) args s 0 0 (zA Γ)) 0 [some (zr 69 a), some (zi n), none] [] G
  refine zs_loc 1 rfl (fun ha1 hb1 => ?_)
  refine zs_iconst (pc := 0) C dX9_copies_0 (by decide) ?_
  refine zs_istore_n (pc := 1) C dX9_copies_1 (by decide) ?_
  dsimp only [zset, zclr, znone]
  have L2 : ∀ (nn : Nat) (x2 : Int) (G1 : zH), (0 ≤ x2 ∧ x2 ≤ n) → (zsm [2069] G G1) → (CP (G.1 2069 a) (G1.1 2069 a) n.toNat x2) → (n - x2).toNat < nn → Z p l e (zrm 0) s m args below meth c Γ 3 0 0 (MQ below (zQc Γ (zpv (fun G' => zsm [2069] G G' ∧ CP (G.1 2069 a) (G'.1 2069 a) n.toNat n))) args s 0 0 (zA Γ)) 2 [some (zr 69 a), some (zi n), some (zi x2)] [] G1 := by
    intro nn
    induction nn with
    | zero => intro x2 G1 h2_0 h2_1 h2_2 hm; exact absurd hm (Nat.not_lt_zero _)
    | succ nn ih2 =>
      intro x2 G1 h2_0 h2_1 h2_2 hm2
      refine zs_iload_n (pc := 2) C dX9_copies_2 rfl ?_
      refine zs_iload_n (pc := 3) C dX9_copies_3 rfl ?_
      refine zs_icmp_ge (tgt := 21) (pc := 4) C dX9_copies_4 (by decide) (fun h4 => ?_) (fun h4 => ?_)
      · skip
        exact zs_vret (pc := 21) C hr hlk dX9_copies_21 ⟨by repeat (first | exact zsm_rf | assumption | refine zsm_C (by decide) ?_ | refine zsm_I (by decide) ?_ | refine zsm_J ?_ | refine zsm_c (by assumption) (by decide) ?_), by have hx2 : x2 = n := (by omega); rw [hx2] at h2_2; exact h2_2⟩
      · skip
        refine zs_aload_n (pc := 7) C dX9_copies_7 rfl ?_
        refine zs_iload_n (pc := 8) C dX9_copies_8 rfl ?_
        refine zs_aload_n (pc := 9) C dX9_copies_9 rfl ?_
        refine zs_iload_n (pc := 10) C dX9_copies_10 rfl ?_
        refine zs_iload_n (pc := 11) C dX9_copies_11 rfl ?_
        first | refine zs_iadd (pc := 12) C dX9_copies_12 (by omega) ?_ | refine zs_iaddF (pc := 12) C dX9_copies_12 (fun z12 hz121 hz122 => ?_)
        refine zs_iald (r := 2069) (pc := 13) C dX9_copies_13 a_69 (by decide) (by omega) rfl (r_2069 _) (fun v13 e13 l13 u13 => ?_)
        refine zs_iast (r := 2069) (pc := 14) C dX9_copies_14 a_69 (by decide) (by omega) rfl (r_2069 _) (by omega) ?_
        first | refine zs_iinc (pc := 15) C dX9_copies_15 rfl (by decide) (by omega) ?_ | refine zs_iincF (pc := 15) C dX9_copies_15 rfl (by decide) (fun z15 hz151 hz152 => ?_)
        dsimp only [zset, zclr, znone]
        refine zs_goto (tgt := 2) (pc := 18) C dX9_copies_18 (by decide) ?_
        exact zs_wk (ih2 _ _ (by omega) (by repeat (first | exact zsm_rf | assumption | refine zsm_C (by decide) ?_ | refine zsm_I (by decide) ?_ | refine zsm_J ?_ | refine zsm_c (by assumption) (by decide) ?_)) (CP_s h2_2 (by omega) (by omega) e13) (by first | omega | (simp only [zuI_1, zuI_2, zuJ_1, zuJ_2, zuJ_3, zuP_1, zuP_2, zuP_3, zuC_1, zuC_2, reduceIte, Nat.reduceEqDiff, false_and, and_false, true_and, and_true, and_self, or_true, true_or, or_false, false_or]; omega))) (zwk_s rfl (zwk_s rfl (zwk_s rfl zwk_0)))
  exact zs_wk (L2 _ _ _ (by omega) zsm_rf CP_0 (Nat.lt_succ_self _)) (zwk_s rfl (zwk_s rfl (zwk_s rfl zwk_0)))

set_option maxHeartbeats 4000000 in
set_option maxRecDepth 100000 in
theorem c_X9_copies70 {l : Launch} {Γ : zΓ} {G : zH} {a : Nat} {n : Int} (hX : zXs Γ) (hn : n = 3) : zMet l Γ yX9_copies cX9_copies 3 none 0 [zr 70 a, zi n] G (zpv (fun G' => zsm [2070] G G' ∧ CP (G.1 2070 a) (G'.1 2070 a) n.toNat n)) := by
  refine zMet_of RX9 hX (by decide) rfl (Nat.le_of_ble_eq_true rfl) ?_
  intro p e s m args below meth c C hr hlk
  show Z p l e (zrm 0) s m args below meth c Γ 3 0 0 (MQ below (zQc Γ (zpv (fun G' => zsm [2070] G G' ∧ CP (G.1 2070 a) (G'.1 2070 a) n.toNat n))) args s 0 0 (zA Γ)) 0 [some (zr 70 a), some (zi n), none] [] G
  refine zs_loc 1 rfl (fun ha1 hb1 => ?_)
  refine zs_iconst (pc := 0) C dX9_copies_0 (by decide) ?_
  refine zs_istore_n (pc := 1) C dX9_copies_1 (by decide) ?_
  dsimp only [zset, zclr, znone]
  have L2 : ∀ (nn : Nat) (x2 : Int) (G1 : zH), (0 ≤ x2 ∧ x2 ≤ n) → (zsm [2070] G G1) → (CP (G.1 2070 a) (G1.1 2070 a) n.toNat x2) → (n - x2).toNat < nn → Z p l e (zrm 0) s m args below meth c Γ 3 0 0 (MQ below (zQc Γ (zpv (fun G' => zsm [2070] G G' ∧ CP (G.1 2070 a) (G'.1 2070 a) n.toNat n))) args s 0 0 (zA Γ)) 2 [some (zr 70 a), some (zi n), some (zi x2)] [] G1 := by
    intro nn
    induction nn with
    | zero => intro x2 G1 h2_0 h2_1 h2_2 hm; exact absurd hm (Nat.not_lt_zero _)
    | succ nn ih2 =>
      intro x2 G1 h2_0 h2_1 h2_2 hm2
      refine zs_iload_n (pc := 2) C dX9_copies_2 rfl ?_
      refine zs_iload_n (pc := 3) C dX9_copies_3 rfl ?_
      refine zs_icmp_ge (tgt := 21) (pc := 4) C dX9_copies_4 (by decide) (fun h4 => ?_) (fun h4 => ?_)
      · skip
        exact zs_vret (pc := 21) C hr hlk dX9_copies_21 ⟨by repeat (first | exact zsm_rf | assumption | refine zsm_C (by decide) ?_ | refine zsm_I (by decide) ?_ | refine zsm_J ?_ | refine zsm_c (by assumption) (by decide) ?_), by have hx2 : x2 = n := (by omega); rw [hx2] at h2_2; exact h2_2⟩
      · skip
        refine zs_aload_n (pc := 7) C dX9_copies_7 rfl ?_
        refine zs_iload_n (pc := 8) C dX9_copies_8 rfl ?_
        refine zs_aload_n (pc := 9) C dX9_copies_9 rfl ?_
        refine zs_iload_n (pc := 10) C dX9_copies_10 rfl ?_
        refine zs_iload_n (pc := 11) C dX9_copies_11 rfl ?_
        first | refine zs_iadd (pc := 12) C dX9_copies_12 (by omega) ?_ | refine zs_iaddF (pc := 12) C dX9_copies_12 (fun z12 hz121 hz122 => ?_)
        refine zs_iald (r := 2070) (pc := 13) C dX9_copies_13 a_70 (by decide) (by omega) rfl (r_2070 _) (fun v13 e13 l13 u13 => ?_)
        refine zs_iast (r := 2070) (pc := 14) C dX9_copies_14 a_70 (by decide) (by omega) rfl (r_2070 _) (by omega) ?_
        first | refine zs_iinc (pc := 15) C dX9_copies_15 rfl (by decide) (by omega) ?_ | refine zs_iincF (pc := 15) C dX9_copies_15 rfl (by decide) (fun z15 hz151 hz152 => ?_)
        dsimp only [zset, zclr, znone]
        refine zs_goto (tgt := 2) (pc := 18) C dX9_copies_18 (by decide) ?_
        exact zs_wk (ih2 _ _ (by omega) (by repeat (first | exact zsm_rf | assumption | refine zsm_C (by decide) ?_ | refine zsm_I (by decide) ?_ | refine zsm_J ?_ | refine zsm_c (by assumption) (by decide) ?_)) (CP_s h2_2 (by omega) (by omega) e13) (by first | omega | (simp only [zuI_1, zuI_2, zuJ_1, zuJ_2, zuJ_3, zuP_1, zuP_2, zuP_3, zuC_1, zuC_2, reduceIte, Nat.reduceEqDiff, false_and, and_false, true_and, and_true, and_self, or_true, true_or, or_false, false_or]; omega))) (zwk_s rfl (zwk_s rfl (zwk_s rfl zwk_0)))
  exact zs_wk (L2 _ _ _ (by omega) zsm_rf CP_0 (Nat.lt_succ_self _)) (zwk_s rfl (zwk_s rfl (zwk_s rfl zwk_0)))

set_option maxHeartbeats 4000000 in
set_option maxRecDepth 100000 in
theorem c_X9_copies72 {l : Launch} {Γ : zΓ} {G : zH} {a : Nat} {n : Int} (hX : zXs Γ) (hn : n = 7) : zMet l Γ yX9_copies cX9_copies 3 none 0 [zr 72 a, zi n] G (zpv (fun G' => zsm [2072] G G' ∧ CP (G.1 2072 a) (G'.1 2072 a) n.toNat n)) := by
  refine zMet_of RX9 hX (by decide) rfl (Nat.le_of_ble_eq_true rfl) ?_
  intro p e s m args below meth c C hr hlk
  show Z p l e (zrm 0) s m args below meth c Γ 3 0 0 (MQ below (zQc Γ (zpv (fun G' => zsm [2072] G G' ∧ CP (G.1 2072 a) (G'.1 2072 a) n.toNat n))) args s 0 0 (zA Γ)) 0 [some (zr 72 a), some (zi n), none] [] G
  refine zs_loc 1 rfl (fun ha1 hb1 => ?_)
  refine zs_iconst (pc := 0) C dX9_copies_0 (by decide) ?_
  refine zs_istore_n (pc := 1) C dX9_copies_1 (by decide) ?_
  dsimp only [zset, zclr, znone]
  have L2 : ∀ (nn : Nat) (x2 : Int) (G1 : zH), (0 ≤ x2 ∧ x2 ≤ n) → (zsm [2072] G G1) → (CP (G.1 2072 a) (G1.1 2072 a) n.toNat x2) → (n - x2).toNat < nn → Z p l e (zrm 0) s m args below meth c Γ 3 0 0 (MQ below (zQc Γ (zpv (fun G' => zsm [2072] G G' ∧ CP (G.1 2072 a) (G'.1 2072 a) n.toNat n))) args s 0 0 (zA Γ)) 2 [some (zr 72 a), some (zi n), some (zi x2)] [] G1 := by
    intro nn
    induction nn with
    | zero => intro x2 G1 h2_0 h2_1 h2_2 hm; exact absurd hm (Nat.not_lt_zero _)
    | succ nn ih2 =>
      intro x2 G1 h2_0 h2_1 h2_2 hm2
      refine zs_iload_n (pc := 2) C dX9_copies_2 rfl ?_
      refine zs_iload_n (pc := 3) C dX9_copies_3 rfl ?_
      refine zs_icmp_ge (tgt := 21) (pc := 4) C dX9_copies_4 (by decide) (fun h4 => ?_) (fun h4 => ?_)
      · skip
        exact zs_vret (pc := 21) C hr hlk dX9_copies_21 ⟨by repeat (first | exact zsm_rf | assumption | refine zsm_C (by decide) ?_ | refine zsm_I (by decide) ?_ | refine zsm_J ?_ | refine zsm_c (by assumption) (by decide) ?_), by have hx2 : x2 = n := (by omega); rw [hx2] at h2_2; exact h2_2⟩
      · skip
        refine zs_aload_n (pc := 7) C dX9_copies_7 rfl ?_
        refine zs_iload_n (pc := 8) C dX9_copies_8 rfl ?_
        refine zs_aload_n (pc := 9) C dX9_copies_9 rfl ?_
        refine zs_iload_n (pc := 10) C dX9_copies_10 rfl ?_
        refine zs_iload_n (pc := 11) C dX9_copies_11 rfl ?_
        first | refine zs_iadd (pc := 12) C dX9_copies_12 (by omega) ?_ | refine zs_iaddF (pc := 12) C dX9_copies_12 (fun z12 hz121 hz122 => ?_)
        refine zs_iald (r := 2072) (pc := 13) C dX9_copies_13 a_72 (by decide) (by omega) rfl (r_2072 _) (fun v13 e13 l13 u13 => ?_)
        refine zs_iast (r := 2072) (pc := 14) C dX9_copies_14 a_72 (by decide) (by omega) rfl (r_2072 _) (by omega) ?_
        first | refine zs_iinc (pc := 15) C dX9_copies_15 rfl (by decide) (by omega) ?_ | refine zs_iincF (pc := 15) C dX9_copies_15 rfl (by decide) (fun z15 hz151 hz152 => ?_)
        dsimp only [zset, zclr, znone]
        refine zs_goto (tgt := 2) (pc := 18) C dX9_copies_18 (by decide) ?_
        exact zs_wk (ih2 _ _ (by omega) (by repeat (first | exact zsm_rf | assumption | refine zsm_C (by decide) ?_ | refine zsm_I (by decide) ?_ | refine zsm_J ?_ | refine zsm_c (by assumption) (by decide) ?_)) (CP_s h2_2 (by omega) (by omega) e13) (by first | omega | (simp only [zuI_1, zuI_2, zuJ_1, zuJ_2, zuJ_3, zuP_1, zuP_2, zuP_3, zuC_1, zuC_2, reduceIte, Nat.reduceEqDiff, false_and, and_false, true_and, and_true, and_self, or_true, true_or, or_false, false_or]; omega))) (zwk_s rfl (zwk_s rfl (zwk_s rfl zwk_0)))
  exact zs_wk (L2 _ _ _ (by omega) zsm_rf CP_0 (Nat.lt_succ_self _)) (zwk_s rfl (zwk_s rfl (zwk_s rfl zwk_0)))

set_option maxHeartbeats 4000000 in
set_option maxRecDepth 100000 in
theorem c_X9_copies73 {l : Launch} {Γ : zΓ} {G : zH} {a : Nat} {n : Int} (hX : zXs Γ) (hn : n = 7) : zMet l Γ yX9_copies cX9_copies 3 none 0 [zr 73 a, zi n] G (zpv (fun G' => zsm [2073] G G' ∧ CP (G.1 2073 a) (G'.1 2073 a) n.toNat n)) := by
  refine zMet_of RX9 hX (by decide) rfl (Nat.le_of_ble_eq_true rfl) ?_
  intro p e s m args below meth c C hr hlk
  show Z p l e (zrm 0) s m args below meth c Γ 3 0 0 (MQ below (zQc Γ (zpv (fun G' => zsm [2073] G G' ∧ CP (G.1 2073 a) (G'.1 2073 a) n.toNat n))) args s 0 0 (zA Γ)) 0 [some (zr 73 a), some (zi n), none] [] G
  refine zs_loc 1 rfl (fun ha1 hb1 => ?_)
  refine zs_iconst (pc := 0) C dX9_copies_0 (by decide) ?_
  refine zs_istore_n (pc := 1) C dX9_copies_1 (by decide) ?_
  dsimp only [zset, zclr, znone]
  have L2 : ∀ (nn : Nat) (x2 : Int) (G1 : zH), (0 ≤ x2 ∧ x2 ≤ n) → (zsm [2073] G G1) → (CP (G.1 2073 a) (G1.1 2073 a) n.toNat x2) → (n - x2).toNat < nn → Z p l e (zrm 0) s m args below meth c Γ 3 0 0 (MQ below (zQc Γ (zpv (fun G' => zsm [2073] G G' ∧ CP (G.1 2073 a) (G'.1 2073 a) n.toNat n))) args s 0 0 (zA Γ)) 2 [some (zr 73 a), some (zi n), some (zi x2)] [] G1 := by
    intro nn
    induction nn with
    | zero => intro x2 G1 h2_0 h2_1 h2_2 hm; exact absurd hm (Nat.not_lt_zero _)
    | succ nn ih2 =>
      intro x2 G1 h2_0 h2_1 h2_2 hm2
      refine zs_iload_n (pc := 2) C dX9_copies_2 rfl ?_
      refine zs_iload_n (pc := 3) C dX9_copies_3 rfl ?_
      refine zs_icmp_ge (tgt := 21) (pc := 4) C dX9_copies_4 (by decide) (fun h4 => ?_) (fun h4 => ?_)
      · skip
        exact zs_vret (pc := 21) C hr hlk dX9_copies_21 ⟨by repeat (first | exact zsm_rf | assumption | refine zsm_C (by decide) ?_ | refine zsm_I (by decide) ?_ | refine zsm_J ?_ | refine zsm_c (by assumption) (by decide) ?_), by have hx2 : x2 = n := (by omega); rw [hx2] at h2_2; exact h2_2⟩
      · skip
        refine zs_aload_n (pc := 7) C dX9_copies_7 rfl ?_
        refine zs_iload_n (pc := 8) C dX9_copies_8 rfl ?_
        refine zs_aload_n (pc := 9) C dX9_copies_9 rfl ?_
        refine zs_iload_n (pc := 10) C dX9_copies_10 rfl ?_
        refine zs_iload_n (pc := 11) C dX9_copies_11 rfl ?_
        first | refine zs_iadd (pc := 12) C dX9_copies_12 (by omega) ?_ | refine zs_iaddF (pc := 12) C dX9_copies_12 (fun z12 hz121 hz122 => ?_)
        refine zs_iald (r := 2073) (pc := 13) C dX9_copies_13 a_73 (by decide) (by omega) rfl (r_2073 _) (fun v13 e13 l13 u13 => ?_)
        refine zs_iast (r := 2073) (pc := 14) C dX9_copies_14 a_73 (by decide) (by omega) rfl (r_2073 _) (by omega) ?_
        first | refine zs_iinc (pc := 15) C dX9_copies_15 rfl (by decide) (by omega) ?_ | refine zs_iincF (pc := 15) C dX9_copies_15 rfl (by decide) (fun z15 hz151 hz152 => ?_)
        dsimp only [zset, zclr, znone]
        refine zs_goto (tgt := 2) (pc := 18) C dX9_copies_18 (by decide) ?_
        exact zs_wk (ih2 _ _ (by omega) (by repeat (first | exact zsm_rf | assumption | refine zsm_C (by decide) ?_ | refine zsm_I (by decide) ?_ | refine zsm_J ?_ | refine zsm_c (by assumption) (by decide) ?_)) (CP_s h2_2 (by omega) (by omega) e13) (by first | omega | (simp only [zuI_1, zuI_2, zuJ_1, zuJ_2, zuJ_3, zuP_1, zuP_2, zuP_3, zuC_1, zuC_2, reduceIte, Nat.reduceEqDiff, false_and, and_false, true_and, and_true, and_self, or_true, true_or, or_false, false_or]; omega))) (zwk_s rfl (zwk_s rfl (zwk_s rfl zwk_0)))
  exact zs_wk (L2 _ _ _ (by omega) zsm_rf CP_0 (Nat.lt_succ_self _)) (zwk_s rfl (zwk_s rfl (zwk_s rfl zwk_0)))

set_option maxHeartbeats 4000000 in
set_option maxRecDepth 100000 in
theorem c_X9_copies74 {l : Launch} {Γ : zΓ} {G : zH} {a : Nat} {n : Int} (hX : zXs Γ) (hn : n = 64) : zMet l Γ yX9_copies cX9_copies 3 none 0 [zr 74 a, zi n] G (zpv (fun G' => zsm [2074] G G' ∧ CP (G.1 2074 a) (G'.1 2074 a) n.toNat n)) := by
  refine zMet_of RX9 hX (by decide) rfl (Nat.le_of_ble_eq_true rfl) ?_
  intro p e s m args below meth c C hr hlk
  show Z p l e (zrm 0) s m args below meth c Γ 3 0 0 (MQ below (zQc Γ (zpv (fun G' => zsm [2074] G G' ∧ CP (G.1 2074 a) (G'.1 2074 a) n.toNat n))) args s 0 0 (zA Γ)) 0 [some (zr 74 a), some (zi n), none] [] G
  refine zs_loc 1 rfl (fun ha1 hb1 => ?_)
  refine zs_iconst (pc := 0) C dX9_copies_0 (by decide) ?_
  refine zs_istore_n (pc := 1) C dX9_copies_1 (by decide) ?_
  dsimp only [zset, zclr, znone]
  have L2 : ∀ (nn : Nat) (x2 : Int) (G1 : zH), (0 ≤ x2 ∧ x2 ≤ n) → (zsm [2074] G G1) → (CP (G.1 2074 a) (G1.1 2074 a) n.toNat x2) → (n - x2).toNat < nn → Z p l e (zrm 0) s m args below meth c Γ 3 0 0 (MQ below (zQc Γ (zpv (fun G' => zsm [2074] G G' ∧ CP (G.1 2074 a) (G'.1 2074 a) n.toNat n))) args s 0 0 (zA Γ)) 2 [some (zr 74 a), some (zi n), some (zi x2)] [] G1 := by
    intro nn
    induction nn with
    | zero => intro x2 G1 h2_0 h2_1 h2_2 hm; exact absurd hm (Nat.not_lt_zero _)
    | succ nn ih2 =>
      intro x2 G1 h2_0 h2_1 h2_2 hm2
      refine zs_iload_n (pc := 2) C dX9_copies_2 rfl ?_
      refine zs_iload_n (pc := 3) C dX9_copies_3 rfl ?_
      refine zs_icmp_ge (tgt := 21) (pc := 4) C dX9_copies_4 (by decide) (fun h4 => ?_) (fun h4 => ?_)
      · skip
        exact zs_vret (pc := 21) C hr hlk dX9_copies_21 ⟨by repeat (first | exact zsm_rf | assumption | refine zsm_C (by decide) ?_ | refine zsm_I (by decide) ?_ | refine zsm_J ?_ | refine zsm_c (by assumption) (by decide) ?_), by have hx2 : x2 = n := (by omega); rw [hx2] at h2_2; exact h2_2⟩
      · skip
        refine zs_aload_n (pc := 7) C dX9_copies_7 rfl ?_
        refine zs_iload_n (pc := 8) C dX9_copies_8 rfl ?_
        refine zs_aload_n (pc := 9) C dX9_copies_9 rfl ?_
        refine zs_iload_n (pc := 10) C dX9_copies_10 rfl ?_
        refine zs_iload_n (pc := 11) C dX9_copies_11 rfl ?_
        first | refine zs_iadd (pc := 12) C dX9_copies_12 (by omega) ?_ | refine zs_iaddF (pc := 12) C dX9_copies_12 (fun z12 hz121 hz122 => ?_)
        refine zs_iald (r := 2074) (pc := 13) C dX9_copies_13 a_74 (by decide) (by omega) rfl (r_2074 _) (fun v13 e13 l13 u13 => ?_)
        refine zs_iast (r := 2074) (pc := 14) C dX9_copies_14 a_74 (by decide) (by omega) rfl (r_2074 _) (by omega) ?_
        first | refine zs_iinc (pc := 15) C dX9_copies_15 rfl (by decide) (by omega) ?_ | refine zs_iincF (pc := 15) C dX9_copies_15 rfl (by decide) (fun z15 hz151 hz152 => ?_)
        dsimp only [zset, zclr, znone]
        refine zs_goto (tgt := 2) (pc := 18) C dX9_copies_18 (by decide) ?_
        exact zs_wk (ih2 _ _ (by omega) (by repeat (first | exact zsm_rf | assumption | refine zsm_C (by decide) ?_ | refine zsm_I (by decide) ?_ | refine zsm_J ?_ | refine zsm_c (by assumption) (by decide) ?_)) (CP_s h2_2 (by omega) (by omega) e13) (by first | omega | (simp only [zuI_1, zuI_2, zuJ_1, zuJ_2, zuJ_3, zuP_1, zuP_2, zuP_3, zuC_1, zuC_2, reduceIte, Nat.reduceEqDiff, false_and, and_false, true_and, and_true, and_self, or_true, true_or, or_false, false_or]; omega))) (zwk_s rfl (zwk_s rfl (zwk_s rfl zwk_0)))
  exact zs_wk (L2 _ _ _ (by omega) zsm_rf CP_0 (Nat.lt_succ_self _)) (zwk_s rfl (zwk_s rfl (zwk_s rfl zwk_0)))

set_option maxHeartbeats 4000000 in
set_option maxRecDepth 100000 in
theorem c_X9_copies75 {l : Launch} {Γ : zΓ} {G : zH} {a : Nat} {n : Int} (hX : zXs Γ) (hn : n = 64) : zMet l Γ yX9_copies cX9_copies 3 none 0 [zr 75 a, zi n] G (zpv (fun G' => zsm [2075] G G' ∧ CP (G.1 2075 a) (G'.1 2075 a) n.toNat n)) := by
  refine zMet_of RX9 hX (by decide) rfl (Nat.le_of_ble_eq_true rfl) ?_
  intro p e s m args below meth c C hr hlk
  show Z p l e (zrm 0) s m args below meth c Γ 3 0 0 (MQ below (zQc Γ (zpv (fun G' => zsm [2075] G G' ∧ CP (G.1 2075 a) (G'.1 2075 a) n.toNat n))) args s 0 0 (zA Γ)) 0 [some (zr 75 a), some (zi n), none] [] G
  refine zs_loc 1 rfl (fun ha1 hb1 => ?_)
  refine zs_iconst (pc := 0) C dX9_copies_0 (by decide) ?_
  refine zs_istore_n (pc := 1) C dX9_copies_1 (by decide) ?_
  dsimp only [zset, zclr, znone]
  have L2 : ∀ (nn : Nat) (x2 : Int) (G1 : zH), (0 ≤ x2 ∧ x2 ≤ n) → (zsm [2075] G G1) → (CP (G.1 2075 a) (G1.1 2075 a) n.toNat x2) → (n - x2).toNat < nn → Z p l e (zrm 0) s m args below meth c Γ 3 0 0 (MQ below (zQc Γ (zpv (fun G' => zsm [2075] G G' ∧ CP (G.1 2075 a) (G'.1 2075 a) n.toNat n))) args s 0 0 (zA Γ)) 2 [some (zr 75 a), some (zi n), some (zi x2)] [] G1 := by
    intro nn
    induction nn with
    | zero => intro x2 G1 h2_0 h2_1 h2_2 hm; exact absurd hm (Nat.not_lt_zero _)
    | succ nn ih2 =>
      intro x2 G1 h2_0 h2_1 h2_2 hm2
      refine zs_iload_n (pc := 2) C dX9_copies_2 rfl ?_
      refine zs_iload_n (pc := 3) C dX9_copies_3 rfl ?_
      refine zs_icmp_ge (tgt := 21) (pc := 4) C dX9_copies_4 (by decide) (fun h4 => ?_) (fun h4 => ?_)
      · skip
        exact zs_vret (pc := 21) C hr hlk dX9_copies_21 ⟨by repeat (first | exact zsm_rf | assumption | refine zsm_C (by decide) ?_ | refine zsm_I (by decide) ?_ | refine zsm_J ?_ | refine zsm_c (by assumption) (by decide) ?_), by have hx2 : x2 = n := (by omega); rw [hx2] at h2_2; exact h2_2⟩
      · skip
        refine zs_aload_n (pc := 7) C dX9_copies_7 rfl ?_
        refine zs_iload_n (pc := 8) C dX9_copies_8 rfl ?_
        refine zs_aload_n (pc := 9) C dX9_copies_9 rfl ?_
        refine zs_iload_n (pc := 10) C dX9_copies_10 rfl ?_
        refine zs_iload_n (pc := 11) C dX9_copies_11 rfl ?_
        first | refine zs_iadd (pc := 12) C dX9_copies_12 (by omega) ?_ | refine zs_iaddF (pc := 12) C dX9_copies_12 (fun z12 hz121 hz122 => ?_)
        refine zs_iald (r := 2075) (pc := 13) C dX9_copies_13 a_75 (by decide) (by omega) rfl (r_2075 _) (fun v13 e13 l13 u13 => ?_)
        refine zs_iast (r := 2075) (pc := 14) C dX9_copies_14 a_75 (by decide) (by omega) rfl (r_2075 _) (by omega) ?_
        first | refine zs_iinc (pc := 15) C dX9_copies_15 rfl (by decide) (by omega) ?_ | refine zs_iincF (pc := 15) C dX9_copies_15 rfl (by decide) (fun z15 hz151 hz152 => ?_)
        dsimp only [zset, zclr, znone]
        refine zs_goto (tgt := 2) (pc := 18) C dX9_copies_18 (by decide) ?_
        exact zs_wk (ih2 _ _ (by omega) (by repeat (first | exact zsm_rf | assumption | refine zsm_C (by decide) ?_ | refine zsm_I (by decide) ?_ | refine zsm_J ?_ | refine zsm_c (by assumption) (by decide) ?_)) (CP_s h2_2 (by omega) (by omega) e13) (by first | omega | (simp only [zuI_1, zuI_2, zuJ_1, zuJ_2, zuJ_3, zuP_1, zuP_2, zuP_3, zuC_1, zuC_2, reduceIte, Nat.reduceEqDiff, false_and, and_false, true_and, and_true, and_self, or_true, true_or, or_false, false_or]; omega))) (zwk_s rfl (zwk_s rfl (zwk_s rfl zwk_0)))
  exact zs_wk (L2 _ _ _ (by omega) zsm_rf CP_0 (Nat.lt_succ_self _)) (zwk_s rfl (zwk_s rfl (zwk_s rfl zwk_0)))

set_option maxHeartbeats 4000000 in
set_option maxRecDepth 100000 in
theorem c_X9_copies76 {l : Launch} {Γ : zΓ} {G : zH} {a : Nat} {n : Int} (hX : zXs Γ) (hn : n = 64) : zMet l Γ yX9_copies cX9_copies 3 none 0 [zr 76 a, zi n] G (zpv (fun G' => zsm [2076] G G' ∧ CP (G.1 2076 a) (G'.1 2076 a) n.toNat n)) := by
  refine zMet_of RX9 hX (by decide) rfl (Nat.le_of_ble_eq_true rfl) ?_
  intro p e s m args below meth c C hr hlk
  show Z p l e (zrm 0) s m args below meth c Γ 3 0 0 (MQ below (zQc Γ (zpv (fun G' => zsm [2076] G G' ∧ CP (G.1 2076 a) (G'.1 2076 a) n.toNat n))) args s 0 0 (zA Γ)) 0 [some (zr 76 a), some (zi n), none] [] G
  refine zs_loc 1 rfl (fun ha1 hb1 => ?_)
  refine zs_iconst (pc := 0) C dX9_copies_0 (by decide) ?_
  refine zs_istore_n (pc := 1) C dX9_copies_1 (by decide) ?_
  dsimp only [zset, zclr, znone]
  have L2 : ∀ (nn : Nat) (x2 : Int) (G1 : zH), (0 ≤ x2 ∧ x2 ≤ n) → (zsm [2076] G G1) → (CP (G.1 2076 a) (G1.1 2076 a) n.toNat x2) → (n - x2).toNat < nn → Z p l e (zrm 0) s m args below meth c Γ 3 0 0 (MQ below (zQc Γ (zpv (fun G' => zsm [2076] G G' ∧ CP (G.1 2076 a) (G'.1 2076 a) n.toNat n))) args s 0 0 (zA Γ)) 2 [some (zr 76 a), some (zi n), some (zi x2)] [] G1 := by
    intro nn
    induction nn with
    | zero => intro x2 G1 h2_0 h2_1 h2_2 hm; exact absurd hm (Nat.not_lt_zero _)
    | succ nn ih2 =>
      intro x2 G1 h2_0 h2_1 h2_2 hm2
      refine zs_iload_n (pc := 2) C dX9_copies_2 rfl ?_
      refine zs_iload_n (pc := 3) C dX9_copies_3 rfl ?_
      refine zs_icmp_ge (tgt := 21) (pc := 4) C dX9_copies_4 (by decide) (fun h4 => ?_) (fun h4 => ?_)
      · skip
        exact zs_vret (pc := 21) C hr hlk dX9_copies_21 ⟨by repeat (first | exact zsm_rf | assumption | refine zsm_C (by decide) ?_ | refine zsm_I (by decide) ?_ | refine zsm_J ?_ | refine zsm_c (by assumption) (by decide) ?_), by have hx2 : x2 = n := (by omega); rw [hx2] at h2_2; exact h2_2⟩
      · skip
        refine zs_aload_n (pc := 7) C dX9_copies_7 rfl ?_
        refine zs_iload_n (pc := 8) C dX9_copies_8 rfl ?_
        refine zs_aload_n (pc := 9) C dX9_copies_9 rfl ?_
        refine zs_iload_n (pc := 10) C dX9_copies_10 rfl ?_
        refine zs_iload_n (pc := 11) C dX9_copies_11 rfl ?_
        first | refine zs_iadd (pc := 12) C dX9_copies_12 (by omega) ?_ | refine zs_iaddF (pc := 12) C dX9_copies_12 (fun z12 hz121 hz122 => ?_)
        refine zs_iald (r := 2076) (pc := 13) C dX9_copies_13 a_76 (by decide) (by omega) rfl (r_2076 _) (fun v13 e13 l13 u13 => ?_)
        refine zs_iast (r := 2076) (pc := 14) C dX9_copies_14 a_76 (by decide) (by omega) rfl (r_2076 _) (by omega) ?_
        first | refine zs_iinc (pc := 15) C dX9_copies_15 rfl (by decide) (by omega) ?_ | refine zs_iincF (pc := 15) C dX9_copies_15 rfl (by decide) (fun z15 hz151 hz152 => ?_)
        dsimp only [zset, zclr, znone]
        refine zs_goto (tgt := 2) (pc := 18) C dX9_copies_18 (by decide) ?_
        exact zs_wk (ih2 _ _ (by omega) (by repeat (first | exact zsm_rf | assumption | refine zsm_C (by decide) ?_ | refine zsm_I (by decide) ?_ | refine zsm_J ?_ | refine zsm_c (by assumption) (by decide) ?_)) (CP_s h2_2 (by omega) (by omega) e13) (by first | omega | (simp only [zuI_1, zuI_2, zuJ_1, zuJ_2, zuJ_3, zuP_1, zuP_2, zuP_3, zuC_1, zuC_2, reduceIte, Nat.reduceEqDiff, false_and, and_false, true_and, and_true, and_self, or_true, true_or, or_false, false_or]; omega))) (zwk_s rfl (zwk_s rfl (zwk_s rfl zwk_0)))
  exact zs_wk (L2 _ _ _ (by omega) zsm_rf CP_0 (Nat.lt_succ_self _)) (zwk_s rfl (zwk_s rfl (zwk_s rfl zwk_0)))

