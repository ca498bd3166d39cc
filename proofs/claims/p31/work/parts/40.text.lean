/-- the laws from 7 up to n are not told -/
def LZ (Γ : zΓ) (w : Nat) (G : zH) (n : Int) : Prop := ∀ j : Nat, 7 ≤ j → (j : Int) < n → G.1 2071 (Γ.2.1 w 34) j = 0
theorem LZ_0 {Γ : zΓ} {w : Nat} {G : zH} : LZ Γ w G 7 := fun j h1 h2 => absurd h2 (by omega)
theorem LZ_s {Γ : zΓ} {w : Nat} {G : zH} {n : Int} (h0 : 0 ≤ n) (h : LZ Γ w G n) : LZ Γ w (zuI G 2071 (Γ.2.1 w 34) n.toNat 0) (n + 1) := by
  intro j h1 h2
  rw [zuI_1]
  split
  · rfl
  · next q => exact h j h1 (by
      rcases Int.lt_or_le (j : Int) n with q2 | q2
      · exact q2
      · exact absurd ⟨rfl, rfl, by omega⟩ q)
theorem RC_z {Γ : zΓ} {w : Nat} {G : zH} {n : Int} (hn : 14 ≤ n) (h : LZ Γ w G n) (hc : G.1 1045 w 0 = G.1 1021 w 0) : RC Γ w G := ⟨hc, fun j h1 h2 h3 => by rw [h j h1 (by omega)] at h3; exact absurd h3 (by decide)⟩
/-- a row whose first m places are those from n on -/
def CP (f g : Nat → Int) (n : Nat) (m : Int) : Prop := ∀ k : Nat, g k = if (k : Int) < m then f (n + k) else f k
theorem CP_0 {f : Nat → Int} {n : Nat} : CP f f n 0 := fun k => by rw [if_neg (by omega)]
theorem CP_s {f : Nat → Int} {G1 : zH} {r a : Nat} {n m v : Int} (h : CP f (G1.1 r a) n.toNat m) (h0 : 0 ≤ m) (h1 : m < n) (hv : v = G1.1 r a (n + m).toNat) : CP f ((zuI G1 r a m.toNat v).1 r a) n.toNat (m + 1) := by
  intro k
  rw [zuI_1]
  by_cases q : k = m.toNat
  · rw [if_pos ⟨rfl, rfl, q⟩, if_pos (by omega), hv, h, if_neg (by omega), show n.toNat + k = (n + m).toNat by omega]
  · rw [if_neg (fun q2 => q q2.2.2), h k]
    by_cases q2 : (k : Int) < m
    · rw [if_pos q2, if_pos (by omega)]
    · rw [if_neg q2, if_neg (by omega)]
theorem MI_keep {Γ : zΓ} {w : Nat} {G G1 : zH} (hM : MI Γ w G) (hC : RC Γ w G) (h71 : CP (G.1 2071 (Γ.2.1 w 34)) (G1.1 2071 (Γ.2.1 w 34)) 7 7) (h73 : CP (G.1 2073 (Γ.2.1 w 36)) (G1.1 2073 (Γ.2.1 w 36)) 7 7)
    (h74 : CP (G.1 2074 (Γ.2.1 w 37)) (G1.1 2074 (Γ.2.1 w 37)) 64 64) (h75 : CP (G.1 2075 (Γ.2.1 w 38)) (G1.1 2075 (Γ.2.1 w 38)) 64 64) (h76 : CP (G.1 2076 (Γ.2.1 w 39)) (G1.1 2076 (Γ.2.1 w 39)) 64 64) : MI Γ w G1 := by
  refine ⟨fun k hk => ?_, fun i hi => ?_⟩
  · rw [h71 k, h73 k, if_pos (by omega), if_pos (by omega)]
    exact hC.2 (7 + k) (by omega) (by omega)
  · rw [h74 i, h75 i, h76 i]
    by_cases q : (i : Int) < 64
    · rw [if_pos q, if_pos q, if_pos q]
      exact hM.2 (64 + i) (by omega)
    · rw [if_neg q, if_neg q, if_neg q]
      exact hM.2 i hi

set_option maxHeartbeats 4000000 in
set_option maxRecDepth 100000 in
theorem c_X9_plain {l : Launch} {Γ : zΓ} {G : zH} {w : Nat}  (hX : zXs Γ) (hM : MI Γ w G) : zMet l Γ yX9_plain cX9_plain 2 none 0 [zr 10 w] G (zpv (fun G' => zsm [1017, 1018, 1019, 1020, 1021, 1045, 2059, 2060, 2071] G G' ∧ (MI Γ w G' ∧ RC Γ w G'))) := by
  refine zMet_of RX9 hX (by decide) rfl (Nat.le_of_ble_eq_true rfl) ?_
  intro p e s m args below meth c C hr hlk
  show Z p l e (zrm 0) s m args below meth c Γ 2 0 0 (MQ below (zQc Γ (zpv (fun G' => zsm [1017, 1018, 1019, 1020, 1021, 1045, 2059, 2060, 2071] G G' ∧ (MI Γ w G' ∧ RC Γ w G')))) args s 0 0 (zA Γ)) 0 [some (zr 10 w), none] [] G
  have hoo4 := rs_2059 (4 : Int).toNat
  have hoo5 := rs_2059 (5 : Int).toNat
  have hoo6 := rs_2059 (6 : Int).toNat
  have hoo7 := rs_2059 (7 : Int).toNat
  refine zs_aload_n (pc := 0) C dX9_plain_0 rfl ?_
  refine zs_iconst (pc := 1) C dX9_plain_1 (by decide) ?_
  refine zs_puti (r := 1017) (pc := 2) C dX9_plain_2 w_X9_240 f_10_17 rfl (r_1017 0) (by omega) ?_
  refine zs_aload_n (pc := 5) C dX9_plain_5 rfl ?_
  refine zs_iconst (pc := 6) C dX9_plain_6 (by decide) ?_
  refine zs_puti (r := 1018) (pc := 7) C dX9_plain_7 w_X9_243 f_10_18 rfl (r_1018 0) (by omega) ?_
  refine zs_aload_n (pc := 10) C dX9_plain_10 rfl ?_
  refine zs_iconst (pc := 11) C dX9_plain_11 (by decide) ?_
  refine zs_puti (r := 1019) (pc := 12) C dX9_plain_12 w_X9_246 f_10_19 rfl (r_1019 0) (by omega) ?_
  refine zs_aload_n (pc := 15) C dX9_plain_15 rfl ?_
  refine zs_iconst (pc := 16) C dX9_plain_16 (by decide) ?_
  refine zs_puti (r := 1020) (pc := 17) C dX9_plain_17 w_X9_249 f_10_20 rfl (r_1020 0) (by omega) ?_
  refine zs_aload_n (pc := 20) C dX9_plain_20 rfl ?_
  refine zs_iconst (pc := 21) C dX9_plain_21 (by decide) ?_
  refine zs_puti (r := 1021) (pc := 22) C dX9_plain_22 w_X9_252 f_10_21 rfl (r_1021 0) (by omega) ?_
  refine zs_aload_n (pc := 25) C dX9_plain_25 rfl ?_
  refine zs_iconst (pc := 26) C dX9_plain_26 (by decide) ?_
  refine zs_puti (r := 1045) (pc := 27) C dX9_plain_27 w_X9_255 f_10_45 rfl (r_1045 0) (by omega) ?_
  refine zs_aload_n (pc := 30) C dX9_plain_30 rfl ?_
  refine zs_getf (pc := 31) C dX9_plain_31 w_X9_20 f_10_22 (by decide) ?_
  refine zs_iconst (pc := 34) C dX9_plain_34 (by decide) ?_
  refine zs_bipush (pc := 35) C dX9_plain_35 (by decide) (by decide) ?_
  refine zs_iast (r := 2059) (pc := 37) C dX9_plain_37 a_59 (by decide) (by omega) rfl (show zrg 2059 (4 : Int).toNat = ((zrg 2059 (4 : Int).toNat).1, (zrg 2059 (4 : Int).toNat).2) from rfl) (by omega) ?_
  refine zs_aload_n (pc := 38) C dX9_plain_38 rfl ?_
  refine zs_getf (pc := 39) C dX9_plain_39 w_X9_20 f_10_22 (by decide) ?_
  refine zs_iconst (pc := 42) C dX9_plain_42 (by decide) ?_
  refine zs_iconst (pc := 43) C dX9_plain_43 (by decide) ?_
  refine zs_iast (r := 2059) (pc := 44) C dX9_plain_44 a_59 (by decide) (by omega) rfl (show zrg 2059 (5 : Int).toNat = ((zrg 2059 (5 : Int).toNat).1, (zrg 2059 (5 : Int).toNat).2) from rfl) (by omega) ?_
  refine zs_aload_n (pc := 45) C dX9_plain_45 rfl ?_
  refine zs_getf (pc := 46) C dX9_plain_46 w_X9_20 f_10_22 (by decide) ?_
  refine zs_bipush (pc := 49) C dX9_plain_49 (by decide) (by decide) ?_
  refine zs_iconst (pc := 51) C dX9_plain_51 (by decide) ?_
  refine zs_iast (r := 2059) (pc := 52) C dX9_plain_52 a_59 (by decide) (by omega) rfl (show zrg 2059 (6 : Int).toNat = ((zrg 2059 (6 : Int).toNat).1, (zrg 2059 (6 : Int).toNat).2) from rfl) (by omega) ?_
  refine zs_aload_n (pc := 53) C dX9_plain_53 rfl ?_
  refine zs_getf (pc := 54) C dX9_plain_54 w_X9_20 f_10_22 (by decide) ?_
  refine zs_bipush (pc := 57) C dX9_plain_57 (by decide) (by decide) ?_
  refine zs_iconst (pc := 59) C dX9_plain_59 (by decide) ?_
  refine zs_iast (r := 2059) (pc := 60) C dX9_plain_60 a_59 (by decide) (by omega) rfl (show zrg 2059 (7 : Int).toNat = ((zrg 2059 (7 : Int).toNat).1, (zrg 2059 (7 : Int).toNat).2) from rfl) (by omega) ?_
  refine zs_heap (P := fun G1 => zsm [1017, 1018, 1019, 1020, 1021, 1045, 2059] G G1 ∧ G1.1 1045 w 0 = 0 ∧ G1.1 1021 w 0 = 0) ⟨(by repeat (first | exact zsm_rf | assumption | refine zsm_C (by decide) ?_ | refine zsm_I (by decide) ?_ | refine zsm_J ?_ | refine zsm_c (by assumption) (by decide) ?_)), by simp only [zuI_1, zuI_2, zuJ_1, zuJ_2, zuJ_3, zuP_1, zuP_2, zuP_3, zuC_1, zuC_2, reduceIte, Nat.reduceEqDiff, false_and, and_false, true_and, and_true, and_self, or_true, true_or, or_false, false_or], by simp only [zuI_1, zuI_2, zuJ_1, zuJ_2, zuJ_3, zuP_1, zuP_2, zuP_3, zuC_1, zuC_2, reduceIte, Nat.reduceEqDiff, false_and, and_false, true_and, and_true, and_self, or_true, true_or, or_false, false_or]⟩ (fun G1 hG1 => ?_)
  obtain ⟨hh1, hh2, hh3⟩ := hG1
  refine zs_iconst (pc := 61) C dX9_plain_61 (by decide) ?_
  refine zs_istore_n (pc := 62) C dX9_plain_62 (by decide) ?_
  dsimp only [zset, zclr, znone]
  have L63 : ∀ (nn : Nat) (x1 : Int) (G2 : zH), (0 ≤ x1 ∧ x1 ≤ 4) → (zsm [2060] G1 G2) → (4 - x1).toNat < nn → Z p l e (zrm 0) s m args below meth c Γ 2 0 0 (MQ below (zQc Γ (zpv (fun G' => zsm [1017, 1018, 1019, 1020, 1021, 1045, 2059, 2060, 2071] G G' ∧ (MI Γ w G' ∧ RC Γ w G')))) args s 0 0 (zA Γ)) 63 [some (zr 10 w), some (zi x1)] [] G2 := by
    intro nn
    induction nn with
    | zero => intro x1 G2 h63_0 h63_1 hm; exact absurd hm (Nat.not_lt_zero _)
    | succ nn ih63 =>
      intro x1 G2 h63_0 h63_1 hm63
      refine zs_iload_n (pc := 63) C dX9_plain_63 rfl ?_
      refine zs_iconst (pc := 64) C dX9_plain_64 (by decide) ?_
      refine zs_icmp_ge (tgt := 81) (pc := 65) C dX9_plain_65 (by decide) (fun h65 => ?_) (fun h65 => ?_)
      · skip
        refine zs_bipush (pc := 81) C dX9_plain_81 (by decide) (by decide) ?_
        refine zs_istore_n (pc := 83) C dX9_plain_83 (by decide) ?_
        dsimp only [zset, zclr, znone]
        have L84 : ∀ (nn : Nat) (x1 : Int) (G3 : zH), (7 ≤ x1 ∧ x1 ≤ 14) → (zsm [1017, 1018, 1019, 1020, 1021, 1045, 2059, 2060, 2071] G G3) → (MI Γ w G3) → (LZ Γ w G3 x1) → (G3.1 1045 w 0 = 0 ∧ G3.1 1021 w 0 = 0) → (14 - x1).toNat < nn → Z p l e (zrm 0) s m args below meth c Γ 2 0 0 (MQ below (zQc Γ (zpv (fun G' => zsm [1017, 1018, 1019, 1020, 1021, 1045, 2059, 2060, 2071] G G' ∧ (MI Γ w G' ∧ RC Γ w G')))) args s 0 0 (zA Γ)) 84 [some (zr 10 w), some (zi x1)] [] G3 := by
          intro nn
          induction nn with
          | zero => intro x1 G3 h84_0 h84_1 h84_2 h84_3 h84_4 hm; exact absurd hm (Nat.not_lt_zero _)
          | succ nn ih84 =>
            intro x1 G3 h84_0 h84_1 h84_2 h84_3 h84_4 hm84
            refine zs_iload_n (pc := 84) C dX9_plain_84 rfl ?_
            refine zs_bipush (pc := 85) C dX9_plain_85 (by decide) (by decide) ?_
            refine zs_icmp_ge (tgt := 103) (pc := 87) C dX9_plain_87 (by decide) (fun h87 => ?_) (fun h87 => ?_)
            · skip
              exact zs_vret (pc := 103) C hr hlk dX9_plain_103 ⟨by repeat (first | exact zsm_rf | assumption | refine zsm_C (by decide) ?_ | refine zsm_I (by decide) ?_ | refine zsm_J ?_ | refine zsm_c (by assumption) (by decide) ?_), ⟨h84_2, RC_z (by omega) h84_3 (by omega)⟩⟩
            · skip
              refine zs_aload_n (pc := 90) C dX9_plain_90 rfl ?_
              refine zs_getf (pc := 91) C dX9_plain_91 w_X9_57 f_10_34 (by decide) ?_
              refine zs_iload_n (pc := 94) C dX9_plain_94 rfl ?_
              refine zs_iconst (pc := 95) C dX9_plain_95 (by decide) ?_
              refine zs_zast (r := 2071) (pc := 96) C dX9_plain_96 a_71 (by decide) (by omega) rfl (r_2071 _) (by omega) (by omega) ?_
              first | refine zs_iinc (pc := 97) C dX9_plain_97 rfl (by decide) (by omega) ?_ | refine zs_iincF (pc := 97) C dX9_plain_97 rfl (by decide) (fun z97 hz971 hz972 => ?_)
              dsimp only [zset, zclr, znone]
              refine zs_goto (tgt := 84) (pc := 100) C dX9_plain_100 (by decide) ?_
              exact zs_wk (ih84 _ _ (by omega) (by repeat (first | exact zsm_rf | assumption | refine zsm_C (by decide) ?_ | refine zsm_I (by decide) ?_ | refine zsm_J ?_ | refine zsm_c (by assumption) (by decide) ?_)) (MI_h71 (by omega) h84_2) (LZ_s (by omega) h84_3) (by first | omega | (simp only [zuI_1, zuI_2, zuJ_1, zuJ_2, zuJ_3, zuP_1, zuP_2, zuP_3, zuC_1, zuC_2, reduceIte, Nat.reduceEqDiff, false_and, and_false, true_and, and_true, and_self, or_true, true_or, or_false, false_or]; omega)) (by first | omega | (simp only [zuI_1, zuI_2, zuJ_1, zuJ_2, zuJ_3, zuP_1, zuP_2, zuP_3, zuC_1, zuC_2, reduceIte, Nat.reduceEqDiff, false_and, and_false, true_and, and_true, and_self, or_true, true_or, or_false, false_or]; omega))) (zwk_s rfl (zwk_s rfl zwk_0))
        exact zs_wk (L84 _ _ _ (by omega) (by repeat (first | exact zsm_rf | assumption | refine zsm_C (by decide) ?_ | refine zsm_I (by decide) ?_ | refine zsm_J ?_ | refine zsm_c (by assumption) (by decide) ?_)) (by repeat (first | assumption | refine MI_I (by decide) ?_ | refine MI_J ?_ | refine MI_sm (by assumption) (by decide) ?_ | refine MI_sn (by assumption) (by decide) ?_)) LZ_0 (by have q1 := zsm_at h63_1 1045 w 0 (by decide); have q2 := zsm_at h63_1 1021 w 0 (by decide); omega) (Nat.lt_succ_self _)) (zwk_s rfl (zwk_s rfl zwk_0))
      · skip
        refine zs_aload_n (pc := 68) C dX9_plain_68 rfl ?_
        refine zs_getf (pc := 69) C dX9_plain_69 w_X9_23 f_10_23 (by decide) ?_
        refine zs_iload_n (pc := 72) C dX9_plain_72 rfl ?_
        refine zs_iconst (pc := 73) C dX9_plain_73 (by decide) ?_
        refine zs_zast (r := 2060) (pc := 74) C dX9_plain_74 a_60 (by decide) (by omega) rfl (r_2060 _) (by omega) (by omega) ?_
        first | refine zs_iinc (pc := 75) C dX9_plain_75 rfl (by decide) (by omega) ?_ | refine zs_iincF (pc := 75) C dX9_plain_75 rfl (by decide) (fun z75 hz751 hz752 => ?_)
        dsimp only [zset, zclr, znone]
        refine zs_goto (tgt := 63) (pc := 78) C dX9_plain_78 (by decide) ?_
        exact zs_wk (ih63 _ _ (by first | omega | (simp only [zuI_1, zuI_2, zuJ_1, zuJ_2, zuJ_3, zuP_1, zuP_2, zuP_3, zuC_1, zuC_2, reduceIte, Nat.reduceEqDiff, false_and, and_false, true_and, and_true, and_self, or_true, true_or, or_false, false_or]; omega)) (by repeat (first | exact zsm_rf | assumption | refine zsm_C (by decide) ?_ | refine zsm_I (by decide) ?_ | refine zsm_J ?_ | refine zsm_c (by assumption) (by decide) ?_)) (by first | omega | (simp only [zuI_1, zuI_2, zuJ_1, zuJ_2, zuJ_3, zuP_1, zuP_2, zuP_3, zuC_1, zuC_2, reduceIte, Nat.reduceEqDiff, false_and, and_false, true_and, and_true, and_self, or_true, true_or, or_false, false_or]; omega))) (zwk_s rfl (zwk_s rfl zwk_0))
  exact zs_wk (L63 _ _ _ (by first | omega | (simp only [zuI_1, zuI_2, zuJ_1, zuJ_2, zuJ_3, zuP_1, zuP_2, zuP_3, zuC_1, zuC_2, reduceIte, Nat.reduceEqDiff, false_and, and_false, true_and, and_true, and_self, or_true, true_or, or_false, false_or]; omega)) (by repeat (first | exact zsm_rf | assumption | refine zsm_C (by decide) ?_ | refine zsm_I (by decide) ?_ | refine zsm_J ?_ | refine zsm_c (by assumption) (by decide) ?_)) (Nat.lt_succ_self _)) (zwk_s rfl (zwk_s rfl zwk_0))

set_option maxHeartbeats 4000000 in
set_option maxRecDepth 100000 in
theorem c_X9_copies59 {l : Launch} {Γ : zΓ} {G : zH} {a : Nat} {n : Int} (hX : zXs Γ) (hn : n = 4) : zMet l Γ yX9_copies cX9_copies 3 none 0 [zr 59 a, zi n] G (zpv (fun G' => zsm [2059] G G' ∧ CP (G.1 2059 a) (G'.1 2059 a) n.toNat n)) := by
  refine zMet_of RX9 hX (by decide) rfl (Nat.le_of_ble_eq_true rfl) ?_
  intro p e s m args below meth c C hr hlk
  show Z p l e (zrm 0) s m args below meth c Γ 3 0 0 (MQ below (zQc Γ (zpv (fun G' => zsm [2059] G G' ∧ CP (G.1 2059 a) (G'.1 2059 a) n.toNat n))) args s 0 0 (zA Γ)) 0 [some (zr 59 a), some (zi n), none] [] G
  refine zs_loc 1 rfl (fun ha1 hb1 => ?_)
  refine zs_iconst (pc := 0) C dX9_copies_0 (by decide) ?_
  refine zs_istore_n (pc := 1) C dX9_copies_1 (by decide) ?_
  dsimp only [zset, zclr, znone]
  have L2 : ∀ (nn : Nat) (x2 : Int) (G1 : zH), (0 ≤ x2 ∧ x2 ≤ n) → (zsm [2059] G G1) → (CP (G.1 2059 a) (G1.1 2059 a) n.toNat x2) → (n - x2).toNat < nn → Z p l e (zrm 0) s m args below meth c Γ 3 0 0 (MQ below (zQc Γ (zpv (fun G' => zsm [2059] G G' ∧ CP (G.1 2059 a) (G'.1 2059 a) n.toNat n))) args s 0 0 (zA Γ)) 2 [some (zr 59 a), some (zi n), some (zi x2)] [] G1 := by
    intro nn
    induction nn with
    | zero => intro x2 G1 h2_0 h2_1 h2_2 hm; exact absurd hm (Nat.not_lt_zero _)
    | succ nn ih2 =>
      intro x2 G1 h2_0 h2_1 h2_2 hm2
      refine zs_iload_n (pc := 2) C dX9_copies_2 rfl ?_
      refine zs_iload_n (pc := 3) C dX9_copies_3 rfl ?_
      refine zs_icmp_ge (tgt := 21) (pc := 4) C dX9_copies_4 (by decide) (fun h4 => ?_) (fun h4 => ?_)
      · skip
        exact zs_vret (pc := 21) C hr hlk dX9_copies_21 ⟨by repeat (first | exact zsm_rf | assumption | refine zsm_C (by decide) ?_ | refine zsm_I (by decide) ?_ | refine zsm_J ?_ | refine zsm_c (by assumption) (by decide) ?_), by have hx2 : x2 = n := (by omega); rw [hx2] at h2_2; exact h2_2⟩
      · skip
        have hoo1 := rs_2059 (n + x2).toNat
        have hoo2 := rs_2059 x2.toNat
        refine zs_aload_n (pc := 7) C dX9_copies_7 rfl ?_
        refine zs_iload_n (pc := 8) C dX9_copies_8 rfl ?_
        refine zs_aload_n (pc := 9) C dX9_copies_9 rfl ?_
        refine zs_iload_n (pc := 10) C dX9_copies_10 rfl ?_
        refine zs_iload_n (pc := 11) C dX9_copies_11 rfl ?_
        first | refine zs_iadd (pc := 12) C dX9_copies_12 (by omega) ?_ | refine zs_iaddF (pc := 12) C dX9_copies_12 (fun z12 hz121 hz122 => ?_)
        refine zs_iald (r := 2059) (pc := 13) C dX9_copies_13 a_59 (by decide) (by omega) rfl (show zrg 2059 (n + x2).toNat = ((zrg 2059 (n + x2).toNat).1, (zrg 2059 (n + x2).toNat).2) from rfl) (fun v13 e13 l13 u13 => ?_)
        refine zs_iast (r := 2059) (pc := 14) C dX9_copies_14 a_59 (by decide) (by omega) rfl (show zrg 2059 x2.toNat = ((zrg 2059 x2.toNat).1, (zrg 2059 x2.toNat).2) from rfl) (by omega) ?_
        first | refine zs_iinc (pc := 15) C dX9_copies_15 rfl (by decide) (by omega) ?_ | refine zs_iincF (pc := 15) C dX9_copies_15 rfl (by decide) (fun z15 hz151 hz152 => ?_)
        dsimp only [zset, zclr, znone]
        refine zs_goto (tgt := 2) (pc := 18) C dX9_copies_18 (by decide) ?_
        exact zs_wk (ih2 _ _ (by omega) (by repeat (first | exact zsm_rf | assumption | refine zsm_C (by decide) ?_ | refine zsm_I (by decide) ?_ | refine zsm_J ?_ | refine zsm_c (by assumption) (by decide) ?_)) (CP_s h2_2 (by omega) (by omega) e13) (by first | omega | (simp only [zuI_1, zuI_2, zuJ_1, zuJ_2, zuJ_3, zuP_1, zuP_2, zuP_3, zuC_1, zuC_2, reduceIte, Nat.reduceEqDiff, false_and, and_false, true_and, and_true, and_self, or_true, true_or, or_false, false_or]; omega))) (zwk_s rfl (zwk_s rfl (zwk_s rfl zwk_0)))
  exact zs_wk (L2 _ _ _ (by omega) zsm_rf CP_0 (Nat.lt_succ_self _)) (zwk_s rfl (zwk_s rfl (zwk_s rfl zwk_0)))

set_option maxHeartbeats 4000000 in
set_option maxRecDepth 100000 in
theorem c_X9_copies61 {l : Launch} {Γ : zΓ} {G : zH} {a : Nat} {n : Int} (hX : zXs Γ) (hn : n = 4) : zMet l Γ yX9_copies cX9_copies 3 none 0 [zr 61 a, zi n] G (zpv (fun G' => zsm [2061] G G' ∧ CP (G.1 2061 a) (G'.1 2061 a) n.toNat n)) := by
  refine zMet_of RX9 hX (by decide) rfl (Nat.le_of_ble_eq_true rfl) ?_
  intro p e s m args below meth c C hr hlk
  show Z p l e (zrm 0) s m args below meth c Γ 3 0 0 (MQ below (zQc Γ (zpv (fun G' => zsm [2061] G G' ∧ CP (G.1 2061 a) (G'.1 2061 a) n.toNat n))) args s 0 0 (zA Γ)) 0 [some (zr 61 a), some (zi n), none] [] G
  refine zs_loc 1 rfl (fun ha1 hb1 => ?_)
  refine zs_iconst (pc := 0) C dX9_copies_0 (by decide) ?_
  refine zs_istore_n (pc := 1) C dX9_copies_1 (by decide) ?_
  dsimp only [zset, zclr, znone]
  have L2 : ∀ (nn : Nat) (x2 : Int) (G1 : zH), (0 ≤ x2 ∧ x2 ≤ n) → (zsm [2061] G G1) → (CP (G.1 2061 a) (G1.1 2061 a) n.toNat x2) → (n - x2).toNat < nn → Z p l e (zrm 0) s m args below meth c Γ 3 0 0 (MQ below (zQc Γ (zpv (fun G' => zsm [2061] G G' ∧ CP (G.1 2061 a) (G'.1 2061 a) n.toNat n))) args s 0 0 (zA Γ)) 2 [some (zr 61 a), some (zi n), some (zi x2)] [] G1 := by
    intro nn
    induction nn with
    | zero => intro x2 G1 h2_0 h2_1 h2_2 hm; exact absurd hm (Nat.not_lt_zero _)
    | succ nn ih2 =>
      intro x2 G1 h2_0 h2_1 h2_2 hm2
      refine zs_iload_n (pc := 2) C dX9_copies_2 rfl ?_
      refine zs_iload_n (pc := 3) C dX9_copies_3 rfl ?_
      refine zs_icmp_ge (tgt := 21) (pc := 4) C dX9_copies_4 (by decide) (fun h4 => ?_) (fun h4 => ?_)
      · skip
        exact zs_vret (pc := 21) C hr hlk dX9_copies_21 ⟨by repeat (first | exact zsm_rf | assumption | refine zsm_C (by decide) ?_ | refine zsm_I (by decide) ?_ | refine zsm_J ?_ | refine zsm_c (by assumption) (by decide) ?_), by have hx2 : x2 = n := (by omega); rw [hx2] at h2_2; exact h2_2⟩
      · skip
        refine zs_aload_n (pc := 7) C dX9_copies_7 rfl ?_
        refine zs_iload_n (pc := 8) C dX9_copies_8 rfl ?_
        refine zs_aload_n (pc := 9) C dX9_copies_9 rfl ?_
        refine zs_iload_n (pc := 10) C dX9_copies_10 rfl ?_
        refine zs_iload_n (pc := 11) C dX9_copies_11 rfl ?_
        first | refine zs_iadd (pc := 12) C dX9_copies_12 (by omega) ?_ | refine zs_iaddF (pc := 12) C dX9_copies_12 (fun z12 hz121 hz122 => ?_)
        refine zs_iald (r := 2061) (pc := 13) C dX9_copies_13 a_61 (by decide) (by omega) rfl (r_2061 _) (fun v13 e13 l13 u13 => ?_)
        refine zs_iast (r := 2061) (pc := 14) C dX9_copies_14 a_61 (by decide) (by omega) rfl (r_2061 _) (by omega) ?_
        first | refine zs_iinc (pc := 15) C dX9_copies_15 rfl (by decide) (by omega) ?_ | refine zs_iincF (pc := 15) C dX9_copies_15 rfl (by decide) (fun z15 hz151 hz152 => ?_)
        dsimp only [zset, zclr, znone]
        refine zs_goto (tgt := 2) (pc := 18) C dX9_copies_18 (by decide) ?_
        exact zs_wk (ih2 _ _ (by omega) (by repeat (first | exact zsm_rf | assumption | refine zsm_C (by decide) ?_ | refine zsm_I (by decide) ?_ | refine zsm_J ?_ | refine zsm_c (by assumption) (by decide) ?_)) (CP_s h2_2 (by omega) (by omega) e13) (by first | omega | (simp only [zuI_1, zuI_2, zuJ_1, zuJ_2, zuJ_3, zuP_1, zuP_2, zuP_3, zuC_1, zuC_2, reduceIte, Nat.reduceEqDiff, false_and, and_false, true_and, and_true, and_self, or_true, true_or, or_false, false_or]; omega))) (zwk_s rfl (zwk_s rfl (zwk_s rfl zwk_0)))
  exact zs_wk (L2 _ _ _ (by omega) zsm_rf CP_0 (Nat.lt_succ_self _)) (zwk_s rfl (zwk_s rfl (zwk_s rfl zwk_0)))

set_option maxHeartbeats 4000000 in
set_option maxRecDepth 100000 in
theorem c_X9_copies62 {l : Launch} {Γ : zΓ} {G : zH} {a : Nat} {n : Int} (hX : zXs Γ) (hn : n = 4) : zMet l Γ yX9_copies cX9_copies 3 none 0 [zr 62 a, zi n] G (zpv (fun G' => zsm [2062] G G' ∧ CP (G.1 2062 a) (G'.1 2062 a) n.toNat n)) := by
  refine zMet_of RX9 hX (by decide) rfl (Nat.le_of_ble_eq_true rfl) ?_
  intro p e s m args below meth c C hr hlk
  show Z p l e (zrm 0) s m args below meth c Γ 3 0 0 (MQ below (zQc Γ (zpv (fun G' => zsm [2062] G G' ∧ CP (G.1 2062 a) (G'.1 2062 a) n.toNat n))) args s 0 0 (zA Γ)) 0 [some (zr 62 a), some (zi n), none] [] G
  refine zs_loc 1 rfl (fun ha1 hb1 => ?_)
  refine zs_iconst (pc := 0) C dX9_copies_0 (by decide) ?_
  refine zs_istore_n (pc := 1) C dX9_copies_1 (by decide) ?_
  dsimp only [zset, zclr, znone]
  have L2 : ∀ (nn : Nat) (x2 : Int) (G1 : zH), (0 ≤ x2 ∧ x2 ≤ n) → (zsm [2062] G G1) → (CP (G.1 2062 a) (G1.1 2062 a) n.toNat x2) → (n - x2).toNat < nn → Z p l e (zrm 0) s m args below meth c Γ 3 0 0 (MQ below (zQc Γ (zpv (fun G' => zsm [2062] G G' ∧ CP (G.1 2062 a) (G'.1 2062 a) n.toNat n))) args s 0 0 (zA Γ)) 2 [some (zr 62 a), some (zi n), some (zi x2)] [] G1 := by
    intro nn
    induction nn with
    | zero => intro x2 G1 h2_0 h2_1 h2_2 hm; exact absurd hm (Nat.not_lt_zero _)
    | succ nn ih2 =>
      intro x2 G1 h2_0 h2_1 h2_2 hm2
      refine zs_iload_n (pc := 2) C dX9_copies_2 rfl ?_
      refine zs_iload_n (pc := 3) C dX9_copies_3 rfl ?_
      refine zs_icmp_ge (tgt := 21) (pc := 4) C dX9_copies_4 (by decide) (fun h4 => ?_) (fun h4 => ?_)
      · skip
        exact zs_vret (pc := 21) C hr hlk dX9_copies_21 ⟨by repeat (first | exact zsm_rf | assumption | refine zsm_C (by decide) ?_ | refine zsm_I (by decide) ?_ | refine zsm_J ?_ | refine zsm_c (by assumption) (by decide) ?_), by have hx2 : x2 = n := (by omega); rw [hx2] at h2_2; exact h2_2⟩
      · skip
        refine zs_aload_n (pc := 7) C dX9_copies_7 rfl ?_
        refine zs_iload_n (pc := 8) C dX9_copies_8 rfl ?_
        refine zs_aload_n (pc := 9) C dX9_copies_9 rfl ?_
        refine zs_iload_n (pc := 10) C dX9_copies_10 rfl ?_
        refine zs_iload_n (pc := 11) C dX9_copies_11 rfl ?_
        first | refine zs_iadd (pc := 12) C dX9_copies_12 (by omega) ?_ | refine zs_iaddF (pc := 12) C dX9_copies_12 (fun z12 hz121 hz122 => ?_)
        refine zs_iald (r := 2062) (pc := 13) C dX9_copies_13 a_62 (by decide) (by omega) rfl (r_2062 _) (fun v13 e13 l13 u13 => ?_)
        refine zs_iast (r := 2062) (pc := 14) C dX9_copies_14 a_62 (by decide) (by omega) rfl (r_2062 _) (by omega) ?_
        first | refine zs_iinc (pc := 15) C dX9_copies_15 rfl (by decide) (by omega) ?_ | refine zs_iincF (pc := 15) C dX9_copies_15 rfl (by decide) (fun z15 hz151 hz152 => ?_)
        dsimp only [zset, zclr, znone]
        refine zs_goto (tgt := 2) (pc := 18) C dX9_copies_18 (by decide) ?_
        exact zs_wk (ih2 _ _ (by omega) (by repeat (first | exact zsm_rf | assumption | refine zsm_C (by decide) ?_ | refine zsm_I (by decide) ?_ | refine zsm_J ?_ | refine zsm_c (by assumption) (by decide) ?_)) (CP_s h2_2 (by omega) (by omega) e13) (by first | omega | (simp only [zuI_1, zuI_2, zuJ_1, zuJ_2, zuJ_3, zuP_1, zuP_2, zuP_3, zuC_1, zuC_2, reduceIte, Nat.reduceEqDiff, false_and, and_false, true_and, and_true, and_self, or_true, true_or, or_false, false_or]; omega))) (zwk_s rfl (zwk_s rfl (zwk_s rfl zwk_0)))
  exact zs_wk (L2 _ _ _ (by omega) zsm_rf CP_0 (Nat.lt_succ_self _)) (zwk_s rfl (zwk_s rfl (zwk_s rfl zwk_0)))

set_option maxHeartbeats 4000000 in
set_option maxRecDepth 100000 in
theorem c_X9_copies63 {l : Launch} {Γ : zΓ} {G : zH} {a : Nat} {n : Int} (hX : zXs Γ) (hn : n = 5) : zMet l Γ yX9_copies cX9_copies 3 none 0 [zr 63 a, zi n] G (zpv (fun G' => zsm [2063] G G' ∧ CP (G.1 2063 a) (G'.1 2063 a) n.toNat n)) := by
  refine zMet_of RX9 hX (by decide) rfl (Nat.le_of_ble_eq_true rfl) ?_
  intro p e s m args below meth c C hr hlk
  show Z p l e (zrm 0) s m args below meth c Γ 3 0 0 (MQ below (zQc Γ (zpv (fun G' => zsm [2063] G G' ∧ CP (G.1 2063 a) (G'.1 2063 a) n.toNat n))) args s 0 0 (zA Γ)) 0 [some (zr 63 a), some (zi n), none] [] G
  refine zs_loc 1 rfl (fun ha1 hb1 => ?_)
  refine zs_iconst (pc := 0) C dX9_copies_0 (by decide) ?_
  refine zs_istore_n (pc := 1) C dX9_copies_1 (by decide) ?_
  dsimp only [zset, zclr, znone]
  have L2 : ∀ (nn : Nat) (x2 : Int) (G1 : zH), (0 ≤ x2 ∧ x2 ≤ n) → (zsm [2063] G G1) → (CP (G.1 2063 a) (G1.1 2063 a) n.toNat x2) → (n - x2).toNat < nn → Z p l e (zrm 0) s m args below meth c Γ 3 0 0 (MQ below (zQc Γ (zpv (fun G' => zsm [2063] G G' ∧ CP (G.1 2063 a) (G'.1 2063 a) n.toNat n))) args s 0 0 (zA Γ)) 2 [some (zr 63 a), some (zi n), some (zi x2)] [] G1 := by
    intro nn
    induction nn with
    | zero => intro x2 G1 h2_0 h2_1 h2_2 hm; exact absurd hm (Nat.not_lt_zero _)
    | succ nn ih2 =>
      intro x2 G1 h2_0 h2_1 h2_2 hm2
      refine zs_iload_n (pc := 2) C dX9_copies_2 rfl ?_
      refine zs_iload_n (pc := 3) C dX9_copies_3 rfl ?_
      refine zs_icmp_ge (tgt := 21) (pc := 4) C dX9_copies_4 (by decide) (fun h4 => ?_) (fun h4 => ?_)
      · skip
        exact zs_vret (pc := 21) C hr hlk dX9_copies_21 ⟨by repeat (first | exact zsm_rf | assumption | refine zsm_C (by decide) ?_ | refine zsm_I (by decide) ?_ | refine zsm_J ?_ | refine zsm_c (by assumption) (by decide) ?_), by have hx2 : x2 = n := (by omega); rw [hx2] at h2_2; exact h2_2⟩
      · skip
        refine zs_aload_n (pc := 7) C dX9_copies_7 rfl ?_
        refine zs_iload_n (pc := 8) C dX9_copies_8 rfl ?_
        refine zs_aload_n (pc := 9) C dX9_copies_9 rfl ?_
        refine zs_iload_n (pc := 10) C dX9_copies_10 rfl ?_
        refine zs_iload_n (pc := 11) C dX9_copies_11 rfl ?_
        first | refine zs_iadd (pc := 12) C dX9_copies_12 (by omega) ?_ | refine zs_iaddF (pc := 12) C dX9_copies_12 (fun z12 hz121 hz122 => ?_)
        refine zs_iald (r := 2063) (pc := 13) C dX9_copies_13 a_63 (by decide) (by omega) rfl (r_2063 _) (fun v13 e13 l13 u13 => ?_)
        refine zs_iast (r := 2063) (pc := 14) C dX9_copies_14 a_63 (by decide) (by omega) rfl (r_2063 _) (by omega) ?_
        first | refine zs_iinc (pc := 15) C dX9_copies_15 rfl (by decide) (by omega) ?_ | refine zs_iincF (pc := 15) C dX9_copies_15 rfl (by decide) (fun z15 hz151 hz152 => ?_)
        dsimp only [zset, zclr, znone]
        refine zs_goto (tgt := 2) (pc := 18) C dX9_copies_18 (by decide) ?_
        exact zs_wk (ih2 _ _ (by omega) (by repeat (first | exact zsm_rf | assumption | refine zsm_C (by decide) ?_ | refine zsm_I (by decide) ?_ | refine zsm_J ?_ | refine zsm_c (by assumption) (by decide) ?_)) (CP_s h2_2 (by omega) (by omega) e13) (by first | omega | (simp only [zuI_1, zuI_2, zuJ_1, zuJ_2, zuJ_3, zuP_1, zuP_2, zuP_3, zuC_1, zuC_2, reduceIte, Nat.reduceEqDiff, false_and, and_false, true_and, and_true, and_self, or_true, true_or, or_false, false_or]; omega))) (zwk_s rfl (zwk_s rfl (zwk_s rfl zwk_0)))
  exact zs_wk (L2 _ _ _ (by omega) zsm_rf CP_0 (Nat.lt_succ_self _)) (zwk_s rfl (zwk_s rfl (zwk_s rfl zwk_0)))

set_option maxHeartbeats 4000000 in
set_option maxRecDepth 100000 in
theorem c_X9_copies64 {l : Launch} {Γ : zΓ} {G : zH} {a : Nat} {n : Int} (hX : zXs Γ) (hn : n = 5) : zMet l Γ yX9_copies cX9_copies 3 none 0 [zr 64 a, zi n] G (zpv (fun G' => zsm [2064] G G' ∧ CP (G.1 2064 a) (G'.1 2064 a) n.toNat n)) := by
  refine zMet_of RX9 hX (by decide) rfl (Nat.le_of_ble_eq_true rfl) ?_
  intro p e s m args below meth c C hr hlk
  show Z p l e (zrm 0) s m args below meth c Γ 3 0 0 (MQ below (zQc Γ (zpv (fun G' => zsm [2064] G G' ∧ CP (G.1 2064 a) (G'.1 2064 a) n.toNat n))) args s 0 0 (zA Γ)) 0 [some (zr 64 a), some (zi n), none] [] G
  refine zs_loc 1 rfl (fun ha1 hb1 => ?_)
  refine zs_iconst (pc := 0) C dX9_copies_0 (by decide) ?_
  refine zs_istore_n (pc := 1) C dX9_copies_1 (by decide) ?_
  dsimp only [zset, zclr, znone]
  have L2 : ∀ (nn : Nat) (x2 : Int) (G1 : zH), (0 ≤ x2 ∧ x2 ≤ n) → (zsm [2064] G G1) → (CP (G.1 2064 a) (G1.1 2064 a) n.toNat x2) → (n - x2).toNat < nn → Z p l e (zrm 0) s m args below meth c Γ 3 0 0 (MQ below (zQc Γ (zpv (fun G' => zsm [2064] G G' ∧ CP (G.1 2064 a) (G'.1 2064 a) n.toNat n))) args s 0 0 (zA Γ)) 2 [some (zr 64 a), some (zi n), some (zi x2)] [] G1 := by
    intro nn
    induction nn with
    | zero => intro x2 G1 h2_0 h2_1 h2_2 hm; exact absurd hm (Nat.not_lt_zero _)
    | succ nn ih2 =>
      intro x2 G1 h2_0 h2_1 h2_2 hm2
      refine zs_iload_n (pc := 2) C dX9_copies_2 rfl ?_
      refine zs_iload_n (pc := 3) C dX9_copies_3 rfl ?_
      refine zs_icmp_ge (tgt := 21) (pc := 4) C dX9_copies_4 (by decide) (fun h4 => ?_) (fun h4 => ?_)
      · skip
        exact zs_vret (pc := 21) C hr hlk dX9_copies_21 ⟨by repeat (first | exact zsm_rf | assumption | refine zsm_C (by decide) ?_ | refine zsm_I (by decide) ?_ | refine zsm_J ?_ | refine zsm_c (by assumption) (by decide) ?_), by have hx2 : x2 = n := (by omega); rw [hx2] at h2_2; exact h2_2⟩
      · skip
        refine zs_aload_n (pc := 7) C dX9_copies_7 rfl ?_
        refine zs_iload_n (pc := 8) C dX9_copies_8 rfl ?_
        refine zs_aload_n (pc := 9) C dX9_copies_9 rfl ?_
        refine zs_iload_n (pc := 10) C dX9_copies_10 rfl ?_
        refine zs_iload_n (pc := 11) C dX9_copies_11 rfl ?_
        first | refine zs_iadd (pc := 12) C dX9_copies_12 (by omega) ?_ | refine zs_iaddF (pc := 12) C dX9_copies_12 (fun z12 hz121 hz122 => ?_)
        refine zs_iald (r := 2064) (pc := 13) C dX9_copies_13 a_64 (by decide) (by omega) rfl (r_2064 _) (fun v13 e13 l13 u13 => ?_)
        refine zs_iast (r := 2064) (pc := 14) C dX9_copies_14 a_64 (by decide) (by omega) rfl (r_2064 _) (by omega) ?_
        first | refine zs_iinc (pc := 15) C dX9_copies_15 rfl (by decide) (by omega) ?_ | refine zs_iincF (pc := 15) C dX9_copies_15 rfl (by decide) (fun z15 hz151 hz152 => ?_)
        dsimp only [zset, zclr, znone]
        refine zs_goto (tgt := 2) (pc := 18) C dX9_copies_18 (by decide) ?_
        exact zs_wk (ih2 _ _ (by omega) (by repeat (first | exact zsm_rf | assumption | refine zsm_C (by decide) ?_ | refine zsm_I (by decide) ?_ | refine zsm_J ?_ | refine zsm_c (by assumption) (by decide) ?_)) (CP_s h2_2 (by omega) (by omega) e13) (by first | omega | (simp only [zuI_1, zuI_2, zuJ_1, zuJ_2, zuJ_3, zuP_1, zuP_2, zuP_3, zuC_1, zuC_2, reduceIte, Nat.reduceEqDiff, false_and, and_false, true_and, and_true, and_self, or_true, true_or, or_false, false_or]; omega))) (zwk_s rfl (zwk_s rfl (zwk_s rfl zwk_0)))
  exact zs_wk (L2 _ _ _ (by omega) zsm_rf CP_0 (Nat.lt_succ_self _)) (zwk_s rfl (zwk_s rfl (zwk_s rfl zwk_0)))

set_option maxHeartbeats 4000000 in
set_option maxRecDepth 100000 in
theorem c_X9_copies65 {l : Launch} {Γ : zΓ} {G : zH} {a : Nat} {n : Int} (hX : zXs Γ) (hn : n = 20) : zMet l Γ yX9_copies cX9_copies 3 none 0 [zr 65 a, zi n] G (zpv (fun G' => zsm [2065] G G' ∧ CP (G.1 2065 a) (G'.1 2065 a) n.toNat n)) := by
  refine zMet_of RX9 hX (by decide) rfl (Nat.le_of_ble_eq_true rfl) ?_
  intro p e s m args below meth c C hr hlk
  show Z p l e (zrm 0) s m args below meth c Γ 3 0 0 (MQ below (zQc Γ (zpv (fun G' => zsm [2065] G G' ∧ CP (G.1 2065 a) (G'.1 2065 a) n.toNat n))) args s 0 0 (zA Γ)) 0 [some (zr 65 a), some (zi n), none] [] G
  refine zs_loc 1 rfl (fun ha1 hb1 => ?_)
  refine zs_iconst (pc := 0) C dX9_copies_0 (by decide) ?_
  refine zs_istore_n (pc := 1) C dX9_copies_1 (by decide) ?_
  dsimp only [zset, zclr, znone]
  have L2 : ∀ (nn : Nat) (x2 : Int) (G1 : zH), (0 ≤ x2 ∧ x2 ≤ n) → (zsm [2065] G G1) → (CP (G.1 2065 a) (G1.1 2065 a) n.toNat x2) → (n - x2).toNat < nn → Z p l e (zrm 0) s m args below meth c Γ 3 0 0 (MQ below (zQc Γ (zpv (fun G' => zsm [2065] G G' ∧ CP (G.1 2065 a) (G'.1 2065 a) n.toNat n))) args s 0 0 (zA Γ)) 2 [some (zr 65 a), some (zi n), some (zi x2)] [] G1 := by
    intro nn
    induction nn with
    | zero => intro x2 G1 h2_0 h2_1 h2_2 hm; exact absurd hm (Nat.not_lt_zero _)
    | succ nn ih2 =>
      intro x2 G1 h2_0 h2_1 h2_2 hm2
      refine zs_iload_n (pc := 2) C dX9_copies_2 rfl ?_
      refine zs_iload_n (pc := 3) C dX9_copies_3 rfl ?_
      refine zs_icmp_ge (tgt := 21) (pc := 4) C dX9_copies_4 (by decide) (fun h4 => ?_) (fun h4 => ?_)
      · skip
        exact zs_vret (pc := 21) C hr hlk dX9_copies_21 ⟨by repeat (first | exact zsm_rf | assumption | refine zsm_C (by decide) ?_ | refine zsm_I (by decide) ?_ | refine zsm_J ?_ | refine zsm_c (by assumption) (by decide) ?_), by have hx2 : x2 = n := (by omega); rw [hx2] at h2_2; exact h2_2⟩
      · skip
        refine zs_aload_n (pc := 7) C dX9_copies_7 rfl ?_
        refine zs_iload_n (pc := 8) C dX9_copies_8 rfl ?_
        refine zs_aload_n (pc := 9) C dX9_copies_9 rfl ?_
        refine zs_iload_n (pc := 10) C dX9_copies_10 rfl ?_
        refine zs_iload_n (pc := 11) C dX9_copies_11 rfl ?_
        first | refine zs_iadd (pc := 12) C dX9_copies_12 (by omega) ?_ | refine zs_iaddF (pc := 12) C dX9_copies_12 (fun z12 hz121 hz122 => ?_)
        refine zs_iald (r := 2065) (pc := 13) C dX9_copies_13 a_65 (by decide) (by omega) rfl (r_2065 _) (fun v13 e13 l13 u13 => ?_)
        refine zs_iast (r := 2065) (pc := 14) C dX9_copies_14 a_65 (by decide) (by omega) rfl (r_2065 _) (by omega) ?_
        first | refine zs_iinc (pc := 15) C dX9_copies_15 rfl (by decide) (by omega) ?_ | refine zs_iincF (pc := 15) C dX9_copies_15 rfl (by decide) (fun z15 hz151 hz152 => ?_)
        dsimp only [zset, zclr, znone]
        refine zs_goto (tgt := 2) (pc := 18) C dX9_copies_18 (by decide) ?_
        exact zs_wk (ih2 _ _ (by omega) (by repeat (first | exact zsm_rf | assumption | refine zsm_C (by decide) ?_ | refine zsm_I (by decide) ?_ | refine zsm_J ?_ | refine zsm_c (by assumption) (by decide) ?_)) (CP_s h2_2 (by omega) (by omega) e13) (by first | omega | (simp only [zuI_1, zuI_2, zuJ_1, zuJ_2, zuJ_3, zuP_1, zuP_2, zuP_3, zuC_1, zuC_2, reduceIte, Nat.reduceEqDiff, false_and, and_false, true_and, and_true, and_self, or_true, true_or, or_false, false_or]; omega))) (zwk_s rfl (zwk_s rfl (zwk_s rfl zwk_0)))
  exact zs_wk (L2 _ _ _ (by omega) zsm_rf CP_0 (Nat.lt_succ_self _)) (zwk_s rfl (zwk_s rfl (zwk_s rfl zwk_0)))

set_option maxHeartbeats 4000000 in
set_option maxRecDepth 100000 in
theorem c_X9_copies66 {l : Launch} {Γ : zΓ} {G : zH} {a : Nat} {n : Int} (hX : zXs Γ) (hn : n = 5) : zMet l Γ yX9_copies cX9_copies 3 none 0 [zr 66 a, zi n] G (zpv (fun G' => zsm [2066] G G' ∧ CP (G.1 2066 a) (G'.1 2066 a) n.toNat n)) := by
  refine zMet_of RX9 hX (by decide) rfl (Nat.le_of_ble_eq_true rfl) ?_
  intro p e s m args below meth c C hr hlk
  show Z p l e (zrm 0) s m args below meth c Γ 3 0 0 (MQ below (zQc Γ (zpv (fun G' => zsm [2066] G G' ∧ CP (G.1 2066 a) (G'.1 2066 a) n.toNat n))) args s 0 0 (zA Γ)) 0 [some (zr 66 a), some (zi n), none] [] G
  refine zs_loc 1 rfl (fun ha1 hb1 => ?_)
  refine zs_iconst (pc := 0) C dX9_copies_0 (by decide) ?_
  refine zs_istore_n (pc := 1) C dX9_copies_1 (by decide) ?_
  dsimp only [zset, zclr, znone]
  have L2 : ∀ (nn : Nat) (x2 : Int) (G1 : zH), (0 ≤ x2 ∧ x2 ≤ n) → (zsm [2066] G G1) → (CP (G.1 2066 a) (G1.1 2066 a) n.toNat x2) → (n - x2).toNat < nn → Z p l e (zrm 0) s m args below meth c Γ 3 0 0 (MQ below (zQc Γ (zpv (fun G' => zsm [2066] G G' ∧ CP (G.1 2066 a) (G'.1 2066 a) n.toNat n))) args s 0 0 (zA Γ)) 2 [some (zr 66 a), some (zi n), some (zi x2)] [] G1 := by
    intro nn
    induction nn with
    | zero => intro x2 G1 h2_0 h2_1 h2_2 hm; exact absurd hm (Nat.not_lt_zero _)
    | succ nn ih2 =>
      intro x2 G1 h2_0 h2_1 h2_2 hm2
      refine zs_iload_n (pc := 2) C dX9_copies_2 rfl ?_
      refine zs_iload_n (pc := 3) C dX9_copies_3 rfl ?_
      refine zs_icmp_ge (tgt := 21) (pc := 4) C dX9_copies_4 (by decide) (fun h4 => ?_) (fun h4 => ?_)
      · skip
        exact zs_vret (pc := 21) C hr hlk dX9_copies_21 ⟨by repeat (first | exact zsm_rf | assumption | refine zsm_C (by decide) ?_ | refine zsm_I (by decide) ?_ | refine zsm_J ?_ | refine zsm_c (by assumption) (by decide) ?_), by have hx2 : x2 = n := (by omega); rw [hx2] at h2_2; exact h2_2⟩
      · skip
        refine zs_aload_n (pc := 7) C dX9_copies_7 rfl ?_
        refine zs_iload_n (pc := 8) C dX9_copies_8 rfl ?_
        refine zs_aload_n (pc := 9) C dX9_copies_9 rfl ?_
        refine zs_iload_n (pc := 10) C dX9_copies_10 rfl ?_
        refine zs_iload_n (pc := 11) C dX9_copies_11 rfl ?_
        first | refine zs_iadd (pc := 12) C dX9_copies_12 (by omega) ?_ | refine zs_iaddF (pc := 12) C dX9_copies_12 (fun z12 hz121 hz122 => ?_)
        refine zs_iald (r := 2066) (pc := 13) C dX9_copies_13 a_66 (by decide) (by omega) rfl (r_2066 _) (fun v13 e13 l13 u13 => ?_)
        refine zs_iast (r := 2066) (pc := 14) C dX9_copies_14 a_66 (by decide) (by omega) rfl (r_2066 _) (by omega) ?_
        first | refine zs_iinc (pc := 15) C dX9_copies_15 rfl (by decide) (by omega) ?_ | refine zs_iincF (pc := 15) C dX9_copies_15 rfl (by decide) (fun z15 hz151 hz152 => ?_)
        dsimp only [zset, zclr, znone]
        refine zs_goto (tgt := 2) (pc := 18) C dX9_copies_18 (by decide) ?_
        exact zs_wk (ih2 _ _ (by omega) (by repeat (first | exact zsm_rf | assumption | refine zsm_C (by decide) ?_ | refine zsm_I (by decide) ?_ | refine zsm_J ?_ | refine zsm_c (by assumption) (by decide) ?_)) (CP_s h2_2 (by omega) (by omega) e13) (by first | omega | (simp only [zuI_1, zuI_2, zuJ_1, zuJ_2, zuJ_3, zuP_1, zuP_2, zuP_3, zuC_1, zuC_2, reduceIte, Nat.reduceEqDiff, false_and, and_false, true_and, and_true, and_self, or_true, true_or, or_false, false_or]; omega))) (zwk_s rfl (zwk_s rfl (zwk_s rfl zwk_0)))
  exact zs_wk (L2 _ _ _ (by omega) zsm_rf CP_0 (Nat.lt_succ_self _)) (zwk_s rfl (zwk_s rfl (zwk_s rfl zwk_0)))

set_option maxHeartbeats 4000000 in
set_option maxRecDepth 100000 in
theorem c_X9_copies67 {l : Launch} {Γ : zΓ} {G : zH} {a : Nat} {n : Int} (hX : zXs Γ) (hn : n = 5) : zMet l Γ yX9_copies cX9_copies 3 none 0 [zr 67 a, zi n] G (zpv (fun G' => zsm [2067] G G' ∧ CP (G.1 2067 a) (G'.1 2067 a) n.toNat n)) := by
  refine zMet_of RX9 hX (by decide) rfl (Nat.le_of_ble_eq_true rfl) ?_
  intro p e s m args below meth c C hr hlk
  show Z p l e (zrm 0) s m args below meth c Γ 3 0 0 (MQ below (zQc Γ (zpv (fun G' => zsm [2067] G G' ∧ CP (G.1 2067 a) (G'.1 2067 a) n.toNat n))) args s 0 0 (zA Γ)) 0 [some (zr 67 a), some (zi n), none] [] G
  refine zs_loc 1 rfl (fun ha1 hb1 => ?_)
  refine zs_iconst (pc := 0) C dX9_copies_0 (by decide) ?_
  refine zs_istore_n (pc := 1) C dX9_copies_1 (by decide) ?_
  dsimp only [zset, zclr, znone]
  have L2 : ∀ (nn : Nat) (x2 : Int) (G1 : zH), (0 ≤ x2 ∧ x2 ≤ n) → (zsm [2067] G G1) → (CP (G.1 2067 a) (G1.1 2067 a) n.toNat x2) → (n - x2).toNat < nn → Z p l e (zrm 0) s m args below meth c Γ 3 0 0 (MQ below (zQc Γ (zpv (fun G' => zsm [2067] G G' ∧ CP (G.1 2067 a) (G'.1 2067 a) n.toNat n))) args s 0 0 (zA Γ)) 2 [some (zr 67 a), some (zi n), some (zi x2)] [] G1 := by
    intro nn
    induction nn with
    | zero => intro x2 G1 h2_0 h2_1 h2_2 hm; exact absurd hm (Nat.not_lt_zero _)
    | succ nn ih2 =>
      intro x2 G1 h2_0 h2_1 h2_2 hm2
      refine zs_iload_n (pc := 2) C dX9_copies_2 rfl ?_
      refine zs_iload_n (pc := 3) C dX9_copies_3 rfl ?_
      refine zs_icmp_ge (tgt := 21) (pc := 4) C dX9_copies_4 (by decide) (fun h4 => ?_) (fun h4 => ?_)
      · skip
        exact zs_vret (pc := 21) C hr hlk dX9_copies_21 ⟨by repeat (first | exact zsm_rf | assumption | refine zsm_C (by decide) ?_ | refine zsm_I (by decide) ?_ | refine zsm_J ?_ | refine zsm_c (by assumption) (by decide) ?_), by have hx2 : x2 = n := (by omega); rw [hx2] at h2_2; exact h2_2⟩
      · skip
        refine zs_aload_n (pc := 7) C dX9_copies_7 rfl ?_
        refine zs_iload_n (pc := 8) C dX9_copies_8 rfl ?_
        refine zs_aload_n (pc := 9) C dX9_copies_9 rfl ?_
        refine zs_iload_n (pc := 10) C dX9_copies_10 rfl ?_
        refine zs_iload_n (pc := 11) C dX9_copies_11 rfl ?_
        first | refine zs_iadd (pc := 12) C dX9_copies_12 (by omega) ?_ | refine zs_iaddF (pc := 12) C dX9_copies_12 (fun z12 hz121 hz122 => ?_)
        refine zs_iald (r := 2067) (pc := 13) C dX9_copies_13 a_67 (by decide) (by omega) rfl (r_2067 _) (fun v13 e13 l13 u13 => ?_)
        refine zs_iast (r := 2067) (pc := 14) C dX9_copies_14 a_67 (by decide) (by omega) rfl (r_2067 _) (by omega) ?_
        first | refine zs_iinc (pc := 15) C dX9_copies_15 rfl (by decide) (by omega) ?_ | refine zs_iincF (pc := 15) C dX9_copies_15 rfl (by decide) (fun z15 hz151 hz152 => ?_)
        dsimp only [zset, zclr, znone]
        refine zs_goto (tgt := 2) (pc := 18) C dX9_copies_18 (by decide) ?_
        exact zs_wk (ih2 _ _ (by omega) (by repeat (first | exact zsm_rf | assumption | refine zsm_C (by decide) ?_ | refine zsm_I (by decide) ?_ | refine zsm_J ?_ | refine zsm_c (by assumption) (by decide) ?_)) (CP_s h2_2 (by omega) (by omega) e13) (by first | omega | (simp only [zuI_1, zuI_2, zuJ_1, zuJ_2, zuJ_3, zuP_1, zuP_2, zuP_3, zuC_1, zuC_2, reduceIte, Nat.reduceEqDiff, false_and, and_false, true_and, and_true, and_self, or_true, true_or, or_false, false_or]; omega))) (zwk_s rfl (zwk_s rfl (zwk_s rfl zwk_0)))
  exact zs_wk (L2 _ _ _ (by omega) zsm_rf CP_0 (Nat.lt_succ_self _)) (zwk_s rfl (zwk_s rfl (zwk_s rfl zwk_0)))

set_option maxHeartbeats 4000000 in
set_option maxRecDepth 100000 in
theorem c_X9_copies68 {l : Launch} {Γ : zΓ} {G : zH} {a : Nat} {n : Int} (hX : zXs Γ) (hn : n = 5) : zMet l Γ yX9_copies cX9_copies 3 none 0 [zr 68 a, zi n] G (zpv (fun G' => zsm [2068] G G' ∧ CP (G.1 2068 a) (G'.1 2068 a) n.toNat n)) := by
  refine zMet_of RX9 hX (by decide) rfl (Nat.le_of_ble_eq_true rfl) ?_
  intro p e s m args below meth c C hr hlk
  show Z p l e (zrm 0) s m args below meth c Γ 3 0 0 (MQ below (zQc Γ (zpv (fun G' => zsm [2068] G G' ∧ CP (G.1 2068 a) (G'.1 2068 a) n.toNat n))) args s 0 0 (zA Γ)) 0 [some (zr 68 a), some (zi n), none] [] G
  refine zs_loc 1 rfl (fun ha1 hb1 => ?_)
  refine zs_iconst (pc := 0) C dX9_copies_0 (by decide) ?_
  refine zs_istore_n (pc := 1) C dX9_copies_1 (by decide) ?_
  dsimp only [zset, zclr, znone]
  have L2 : ∀ (nn : Nat) (x2 : Int) (G1 : zH), (0 ≤ x2 ∧ x2 ≤ n) → (zsm [2068] G G1) → (CP (G.1 2068 a) (G1.1 2068 a) n.toNat x2) → (n - x2).toNat < nn → Z p l e (zrm 0) s m args below meth c Γ 3 0 0 (MQ below (zQc Γ (zpv (fun G' => zsm [2068] G G' ∧ CP (G.1 2068 a) (G'.1 2068 a) n.toNat n))) args s 0 0 (zA Γ)) 2 [some (zr 68 a), some (zi n), some (zi x2)] [] G1 := by
    intro nn
    induction nn with
    | zero => intro x2 G1 h2_0 h2_1 h2_2 hm; exact absurd hm (Nat.not_lt_zero _)
    | succ nn ih2 =>
      intro x2 G1 h2_0 h2_1 h2_2 hm2
      refine zs_iload_n (pc := 2) C dX9_copies_2 rfl ?_
      refine zs_iload_n (pc := 3) C dX9_copies_3 rfl ?_
      refine zs_icmp_ge (tgt := 21) (pc := 4) C dX9_copies_4 (by decide) (fun h4 => ?_) (fun h4 => ?_)
      · skip
        exact zs_vret (pc := 21) C hr hlk dX9_copies_21 ⟨by repeat (first | exact zsm_rf | assumption | refine zsm_C (by decide) ?_ | refine zsm_I (by decide) ?_ | refine zsm_J ?_ | refine zsm_c (by assumption) (by decide) ?_), by have hx2 : x2 = n := (by omega); rw [hx2] at h2_2; exact h2_2⟩
      · skip
        refine zs_aload_n (pc := 7) C dX9_copies_7 rfl ?_
        refine zs_iload_n (pc := 8) C dX9_copies_8 rfl ?_
        refine zs_aload_n (pc := 9) C dX9_copies_9 rfl ?_
        refine zs_iload_n (pc := 10) C dX9_copies_10 rfl ?_
        refine zs_iload_n (pc := 11) C dX9_copies_11 rfl ?_
        first | refine zs_iadd (pc := 12) C dX9_copies_12 (by omega) ?_ | refine zs_iaddF (pc := 12) C dX9_copies_12 (fun z12 hz121 hz122 => ?_)
        refine zs_iald (r := 2068) (pc := 13) C dX9_copies_13 a_68 (by decide) (by omega) rfl (r_2068 _) (fun v13 e13 l13 u13 => ?_)
        refine zs_iast (r := 2068) (pc := 14) C dX9_copies_14 a_68 (by decide) (by omega) rfl (r_2068 _) (by omega) ?_
        first | refine zs_iinc (pc := 15) C dX9_copies_15 rfl (by decide) (by omega) ?_ | refine zs_iincF (pc := 15) C dX9_copies_15 rfl (by decide) (fun z15 hz151 hz152 => ?_)
        dsimp only [zset, zclr, znone]
        refine zs_goto (tgt := 2) (pc := 18) C dX9_copies_18 (by decide) ?_
        exact zs_wk (ih2 _ _ (by omega) (by repeat (first | exact zsm_rf | assumption | refine zsm_C (by decide) ?_ | refine zsm_I (by decide) ?_ | refine zsm_J ?_ | refine zsm_c (by assumption) (by decide) ?_)) (CP_s h2_2 (by omega) (by omega) e13) (by first | omega | (simp only [zuI_1, zuI_2, zuJ_1, zuJ_2, zuJ_3, zuP_1, zuP_2, zuP_3, zuC_1, zuC_2, reduceIte, Nat.reduceEqDiff, false_and, and_false, true_and, and_true, and_self, or_true, true_or, or_false, false_or]; omega))) (zwk_s rfl (zwk_s rfl (zwk_s rfl zwk_0)))
  exact zs_wk (L2 _ _ _ (by omega) zsm_rf CP_0 (Nat.lt_succ_self _)) (zwk_s rfl (zwk_s rfl (zwk_s rfl zwk_0)))

set_option maxHeartbeats 4000000 in
set_option maxRecDepth 100000 in
theorem c_X9_copies69 {l : Launch} {Γ : zΓ} {G : zH} {a : Nat} {n : Int} (hX : zXs Γ) (hn : n = 5) : zMet l Γ yX9_copies cX9_copies 3 none 0 [zr 69 a, zi n] G (zpv (fun G' => zsm [2069] G G' ∧ CP (G.1 2069 a) (G'.1 2069 a) n.toNat n)) := by
  refine zMet_of RX9 hX (by decide) rfl (Nat.le_of_ble_eq_true rfl) ?_
  intro p e s m args below meth c C hr hlk
  show Z p l e (zrm 0) s m args below meth c Γ 3 0 0 (MQ below (zQc Γ (zpv (fun G' => zsm [2069] G G' ∧ CP (G.1 2069 a) (G'.1 2069 a) n.toNat n))) args s 0 0 (zA Γ)) 0 [some (zr 69 a), some (zi n), none] [] G
  refine zs_loc 1 rfl (fun ha1 hb1 => ?_)
  refine zs_iconst (pc := 0) C dX9_copies_0 (by decide) ?_
  refine zs_istore_n (pc := 1) C dX9_copies_1 (by decide) ?_
  dsimp only [zset, zclr, znone]
  have L2 : ∀ (nn : Nat) (x2 : Int) (G1 : zH), (0 ≤ x2 ∧ x2 ≤ n) → (zsm [2069] G G1) → (CP (G.1 2069 a) (G1.1 2069 a) n.toNat x2) → (n - x2).toNat < nn → Z p l e (zrm 0) s m args below meth c Γ 3 0 0 (MQ below (zQc Γ (zpv (fun G' => zsm [2069] G G' ∧ CP (G.1 2069 a) (G'.1 2069 a) n.toNat n))) args s 0 0 (zA Γ)) 2 [some (zr 69 a), some (zi n), some (zi x2)] [] G1 := by
    intro nn
    induction nn with
    | zero => intro x2 G1 h2_0 h2_1 h2_2 hm; exact absurd hm (Nat.not_lt_zero _)
    | succ nn ih2 =>
      intro x2 G1 h2_0 h2_1 h2_2 hm2
      refine zs_iload_n (pc := 2) C dX9_copies_2 rfl ?_
      refine zs_iload_n (pc := 3) C dX9_copies_3 rfl ?_
      refine zs_icmp_ge (tgt := 21) (pc := 4) C dX9_copies_4 (by decide) (fun h4 => ?_) (fun h4 => ?_)
      · skip
        exact zs_vret (pc := 21) C hr hlk dX9_copies_21 ⟨by repeat (first | exact zsm_rf | assumption | refine zsm_C (by decide) ?_ | refine zsm_I (by decide) ?_ | refine zsm_J ?_ | refine zsm_c (by assumption) (by decide) ?_), by have hx2 : x2 = n := (by omega); rw [hx2] at h2_2; exact h2_2⟩
      · skip
        refine zs_aload_n (pc := 7) C dX9_copies_7 rfl ?_
        refine zs_iload_n (pc := 8) C dX9_copies_8 rfl ?_
        refine zs_aload_n (pc := 9) C dX9_copies_9 rfl ?_
        refine zs_iload_n (pc := 10) C dX9_copies_10 rfl ?_
        refine zs_iload_n (pc := 11) C dX9_copies_11 rfl ?_
        first | refine zs_iadd (pc := 12) C dX9_copies_12 (by omega) ?_ | refine zs_iaddF (pc := 12) C dX9_copies_12 (fun z12 hz121 hz122 => ?_)
        refine zs_iald (r := 2069) (pc := 13) C dX9_copies_13 a_69 (by decide) (by omega) rfl (r_2069 _) (fun v13 e13 l13 u13 => ?_)
        refine zs_iast (r := 2069) (pc := 14) C dX9_copies_14 a_69 (by decide) (by omega) rfl (r_2069 _) (by omega) ?_
        first | refine zs_iinc (pc := 15) C dX9_copies_15 rfl (by decide) (by omega) ?_ | refine zs_iincF (pc := 15) C dX9_copies_15 rfl (by decide) (fun z15 hz151 hz152 => ?_)
        dsimp only [zset, zclr, znone]
        refine zs_goto (tgt := 2) (pc := 18) C dX9_copies_18 (by decide) ?_
        exact zs_wk (ih2 _ _ (by omega) (by repeat (first | exact zsm_rf | assumption | refine zsm_C (by decide) ?_ | refine zsm_I (by decide) ?_ | refine zsm_J ?_ | refine zsm_c (by assumption) (by decide) ?_)) (CP_s h2_2 (by omega) (by omega) e13) (by first | omega | (simp only [zuI_1, zuI_2, zuJ_1, zuJ_2, zuJ_3, zuP_1, zuP_2, zuP_3, zuC_1, zuC_2, reduceIte, Nat.reduceEqDiff, false_and, and_false, true_and, and_true, and_self, or_true, true_or, or_false, false_or]; omega))) (zwk_s rfl (zwk_s rfl (zwk_s rfl zwk_0)))
  exact zs_wk (L2 _ _ _ (by omega) zsm_rf CP_0 (Nat.lt_succ_self _)) (zwk_s rfl (zwk_s rfl (zwk_s rfl zwk_0)))

set_option maxHeartbeats 4000000 in
set_option maxRecDepth 100000 in
theorem c_X9_copies70 {l : Launch} {Γ : zΓ} {G : zH} {a : Nat} {n : Int} (hX : zXs Γ) (hn : n = 3) : zMet l Γ yX9_copies cX9_copies 3 none 0 [zr 70 a, zi n] G (zpv (fun G' => zsm [2070] G G' ∧ CP (G.1 2070 a) (G'.1 2070 a) n.toNat n)) := by
  refine zMet_of RX9 hX (by decide) rfl (Nat.le_of_ble_eq_true rfl) ?_
  intro p e s m args below meth c C hr hlk
  show Z p l e (zrm 0) s m args below meth c Γ 3 0 0 (MQ below (zQc Γ (zpv (fun G' => zsm [2070] G G' ∧ CP (G.1 2070 a) (G'.1 2070 a) n.toNat n))) args s 0 0 (zA Γ)) 0 [some (zr 70 a), some (zi n), none] [] G
  refine zs_loc 1 rfl (fun ha1 hb1 => ?_)
  refine zs_iconst (pc := 0) C dX9_copies_0 (by decide) ?_
  refine zs_istore_n (pc := 1) C dX9_copies_1 (by decide) ?_
  dsimp only [zset, zclr, znone]
  have L2 : ∀ (nn : Nat) (x2 : Int) (G1 : zH), (0 ≤ x2 ∧ x2 ≤ n) → (zsm [2070] G G1) → (CP (G.1 2070 a) (G1.1 2070 a) n.toNat x2) → (n - x2).toNat < nn → Z p l e (zrm 0) s m args below meth c Γ 3 0 0 (MQ below (zQc Γ (zpv (fun G' => zsm [2070] G G' ∧ CP (G.1 2070 a) (G'.1 2070 a) n.toNat n))) args s 0 0 (zA Γ)) 2 [some (zr 70 a), some (zi n), some (zi x2)] [] G1 := by
    intro nn
    induction nn with
    | zero => intro x2 G1 h2_0 h2_1 h2_2 hm; exact absurd hm (Nat.not_lt_zero _)
    | succ nn ih2 =>
      intro x2 G1 h2_0 h2_1 h2_2 hm2
      refine zs_iload_n (pc := 2) C dX9_copies_2 rfl ?_
      refine zs_iload_n (pc := 3) C dX9_copies_3 rfl ?_
      refine zs_icmp_ge (tgt := 21) (pc := 4) C dX9_copies_4 (by decide) (fun h4 => ?_) (fun h4 => ?_)
      · skip
        exact zs_vret (pc := 21) C hr hlk dX9_copies_21 ⟨by repeat (first | exact zsm_rf | assumption | refine zsm_C (by decide) ?_ | refine zsm_I (by decide) ?_ | refine zsm_J ?_ | refine zsm_c (by assumption) (by decide) ?_), by have hx2 : x2 = n := (by omega); rw [hx2] at h2_2; exact h2_2⟩
      · skip
        refine zs_aload_n (pc := 7) C dX9_copies_7 rfl ?_
        refine zs_iload_n (pc := 8) C dX9_copies_8 rfl ?_
        refine zs_aload_n (pc := 9) C dX9_copies_9 rfl ?_
        refine zs_iload_n (pc := 10) C dX9_copies_10 rfl ?_
        refine zs_iload_n (pc := 11) C dX9_copies_11 rfl ?_
        first | refine zs_iadd (pc := 12) C dX9_copies_12 (by omega) ?_ | refine zs_iaddF (pc := 12) C dX9_copies_12 (fun z12 hz121 hz122 => ?_)
        refine zs_iald (r := 2070) (pc := 13) C dX9_copies_13 a_70 (by decide) (by omega) rfl (r_2070 _) (fun v13 e13 l13 u13 => ?_)
        refine zs_iast (r := 2070) (pc := 14) C dX9_copies_14 a_70 (by decide) (by omega) rfl (r_2070 _) (by omega) ?_
        first | refine zs_iinc (pc := 15) C dX9_copies_15 rfl (by decide) (by omega) ?_ | refine zs_iincF (pc := 15) C dX9_copies_15 rfl (by decide) (fun z15 hz151 hz152 => ?_)
        dsimp only [zset, zclr, znone]
        refine zs_goto (tgt := 2) (pc := 18) C dX9_copies_18 (by decide) ?_
        exact zs_wk (ih2 _ _ (by omega) (by repeat (first | exact zsm_rf | assumption | refine zsm_C (by decide) ?_ | refine zsm_I (by decide) ?_ | refine zsm_J ?_ | refine zsm_c (by assumption) (by decide) ?_)) (CP_s h2_2 (by omega) (by omega) e13) (by first | omega | (simp only [zuI_1, zuI_2, zuJ_1, zuJ_2, zuJ_3, zuP_1, zuP_2, zuP_3, zuC_1, zuC_2, reduceIte, Nat.reduceEqDiff, false_and, and_false, true_and, and_true, and_self, or_true, true_or, or_false, false_or]; omega))) (zwk_s rfl (zwk_s rfl (zwk_s rfl zwk_0)))
  exact zs_wk (L2 _ _ _ (by omega) zsm_rf CP_0 (Nat.lt_succ_self _)) (zwk_s rfl (zwk_s rfl (zwk_s rfl zwk_0)))

set_option maxHeartbeats 4000000 in
set_option maxRecDepth 100000 in
theorem c_X9_copies72 {l : Launch} {Γ : zΓ} {G : zH} {a : Nat} {n : Int} (hX : zXs Γ) (hn : n = 7) : zMet l Γ yX9_copies cX9_copies 3 none 0 [zr 72 a, zi n] G (zpv (fun G' => zsm [2072] G G' ∧ CP (G.1 2072 a) (G'.1 2072 a) n.toNat n)) := by
  refine zMet_of RX9 hX (by decide) rfl (Nat.le_of_ble_eq_true rfl) ?_
  intro p e s m args below meth c C hr hlk
  show Z p l e (zrm 0) s m args below meth c Γ 3 0 0 (MQ below (zQc Γ (zpv (fun G' => zsm [2072] G G' ∧ CP (G.1 2072 a) (G'.1 2072 a) n.toNat n))) args s 0 0 (zA Γ)) 0 [some (zr 72 a), some (zi n), none] [] G
  refine zs_loc 1 rfl (fun ha1 hb1 => ?_)
  refine zs_iconst (pc := 0) C dX9_copies_0 (by decide) ?_
  refine zs_istore_n (pc := 1) C dX9_copies_1 (by decide) ?_
  dsimp only [zset, zclr, znone]
  have L2 : ∀ (nn : Nat) (x2 : Int) (G1 : zH), (0 ≤ x2 ∧ x2 ≤ n) → (zsm [2072] G G1) → (CP (G.1 2072 a) (G1.1 2072 a) n.toNat x2) → (n - x2).toNat < nn → Z p l e (zrm 0) s m args below meth c Γ 3 0 0 (MQ below (zQc Γ (zpv (fun G' => zsm [2072] G G' ∧ CP (G.1 2072 a) (G'.1 2072 a) n.toNat n))) args s 0 0 (zA Γ)) 2 [some (zr 72 a), some (zi n), some (zi x2)] [] G1 := by
    intro nn
    induction nn with
    | zero => intro x2 G1 h2_0 h2_1 h2_2 hm; exact absurd hm (Nat.not_lt_zero _)
    | succ nn ih2 =>
      intro x2 G1 h2_0 h2_1 h2_2 hm2
      refine zs_iload_n (pc := 2) C dX9_copies_2 rfl ?_
      refine zs_iload_n (pc := 3) C dX9_copies_3 rfl ?_
      refine zs_icmp_ge (tgt := 21) (pc := 4) C dX9_copies_4 (by decide) (fun h4 => ?_) (fun h4 => ?_)
      · skip
        exact zs_vret (pc := 21) C hr hlk dX9_copies_21 ⟨by repeat (first | exact zsm_rf | assumption | refine zsm_C (by decide) ?_ | refine zsm_I (by decide) ?_ | refine zsm_J ?_ | refine zsm_c (by assumption) (by decide) ?_), by have hx2 : x2 = n := (by omega); rw [hx2] at h2_2; exact h2_2⟩
      · skip
        refine zs_aload_n (pc := 7) C dX9_copies_7 rfl ?_
        refine zs_iload_n (pc := 8) C dX9_copies_8 rfl ?_
        refine zs_aload_n (pc := 9) C dX9_copies_9 rfl ?_
        refine zs_iload_n (pc := 10) C dX9_copies_10 rfl ?_
        refine zs_iload_n (pc := 11) C dX9_copies_11 rfl ?_
        first | refine zs_iadd (pc := 12) C dX9_copies_12 (by omega) ?_ | refine zs_iaddF (pc := 12) C dX9_copies_12 (fun z12 hz121 hz122 => ?_)
        refine zs_iald (r := 2072) (pc := 13) C dX9_copies_13 a_72 (by decide) (by omega) rfl (r_2072 _) (fun v13 e13 l13 u13 => ?_)
        refine zs_iast (r := 2072) (pc := 14) C dX9_copies_14 a_72 (by decide) (by omega) rfl (r_2072 _) (by omega) ?_
        first | refine zs_iinc (pc := 15) C dX9_copies_15 rfl (by decide) (by omega) ?_ | refine zs_iincF (pc := 15) C dX9_copies_15 rfl (by decide) (fun z15 hz151 hz152 => ?_)
        dsimp only [zset, zclr, znone]
        refine zs_goto (tgt := 2) (pc := 18) C dX9_copies_18 (by decide) ?_
        exact zs_wk (ih2 _ _ (by omega) (by repeat (first | exact zsm_rf | assumption | refine zsm_C (by decide) ?_ | refine zsm_I (by decide) ?_ | refine zsm_J ?_ | refine zsm_c (by assumption) (by decide) ?_)) (CP_s h2_2 (by omega) (by omega) e13) (by first | omega | (simp only [zuI_1, zuI_2, zuJ_1, zuJ_2, zuJ_3, zuP_1, zuP_2, zuP_3, zuC_1, zuC_2, reduceIte, Nat.reduceEqDiff, false_and, and_false, true_and, and_true, and_self, or_true, true_or, or_false, false_or]; omega))) (zwk_s rfl (zwk_s rfl (zwk_s rfl zwk_0)))
  exact zs_wk (L2 _ _ _ (by omega) zsm_rf CP_0 (Nat.lt_succ_self _)) (zwk_s rfl (zwk_s rfl (zwk_s rfl zwk_0)))

set_option maxHeartbeats 4000000 in
set_option maxRecDepth 100000 in
theorem c_X9_copies73 {l : Launch} {Γ : zΓ} {G : zH} {a : Nat} {n : Int} (hX : zXs Γ) (hn : n = 7) : zMet l Γ yX9_copies cX9_copies 3 none 0 [zr 73 a, zi n] G (zpv (fun G' => zsm [2073] G G' ∧ CP (G.1 2073 a) (G'.1 2073 a) n.toNat n)) := by
  refine zMet_of RX9 hX (by decide) rfl (Nat.le_of_ble_eq_true rfl) ?_
  intro p e s m args below meth c C hr hlk
  show Z p l e (zrm 0) s m args below meth c Γ 3 0 0 (MQ below (zQc Γ (zpv (fun G' => zsm [2073] G G' ∧ CP (G.1 2073 a) (G'.1 2073 a) n.toNat n))) args s 0 0 (zA Γ)) 0 [some (zr 73 a), some (zi n), none] [] G
  refine zs_loc 1 rfl (fun ha1 hb1 => ?_)
  refine zs_iconst (pc := 0) C dX9_copies_0 (by decide) ?_
  refine zs_istore_n (pc := 1) C dX9_copies_1 (by decide) ?_
  dsimp only [zset, zclr, znone]
  have L2 : ∀ (nn : Nat) (x2 : Int) (G1 : zH), (0 ≤ x2 ∧ x2 ≤ n) → (zsm [2073] G G1) → (CP (G.1 2073 a) (G1.1 2073 a) n.toNat x2) → (n - x2).toNat < nn → Z p l e (zrm 0) s m args below meth c Γ 3 0 0 (MQ below (zQc Γ (zpv (fun G' => zsm [2073] G G' ∧ CP (G.1 2073 a) (G'.1 2073 a) n.toNat n))) args s 0 0 (zA Γ)) 2 [some (zr 73 a), some (zi n), some (zi x2)] [] G1 := by
    intro nn
    induction nn with
    | zero => intro x2 G1 h2_0 h2_1 h2_2 hm; exact absurd hm (Nat.not_lt_zero _)
    | succ nn ih2 =>
      intro x2 G1 h2_0 h2_1 h2_2 hm2
      refine zs_iload_n (pc := 2) C dX9_copies_2 rfl ?_
      refine zs_iload_n (pc := 3) C dX9_copies_3 rfl ?_
      refine zs_icmp_ge (tgt := 21) (pc := 4) C dX9_copies_4 (by decide) (fun h4 => ?_) (fun h4 => ?_)
      · skip
        exact zs_vret (pc := 21) C hr hlk dX9_copies_21 ⟨by repeat (first | exact zsm_rf | assumption | refine zsm_C (by decide) ?_ | refine zsm_I (by decide) ?_ | refine zsm_J ?_ | refine zsm_c (by assumption) (by decide) ?_), by have hx2 : x2 = n := (by omega); rw [hx2] at h2_2; exact h2_2⟩
      · skip
        refine zs_aload_n (pc := 7) C dX9_copies_7 rfl ?_
        refine zs_iload_n (pc := 8) C dX9_copies_8 rfl ?_
        refine zs_aload_n (pc := 9) C dX9_copies_9 rfl ?_
        refine zs_iload_n (pc := 10) C dX9_copies_10 rfl ?_
        refine zs_iload_n (pc := 11) C dX9_copies_11 rfl ?_
        first | refine zs_iadd (pc := 12) C dX9_copies_12 (by omega) ?_ | refine zs_iaddF (pc := 12) C dX9_copies_12 (fun z12 hz121 hz122 => ?_)
        refine zs_iald (r := 2073) (pc := 13) C dX9_copies_13 a_73 (by decide) (by omega) rfl (r_2073 _) (fun v13 e13 l13 u13 => ?_)
        refine zs_iast (r := 2073) (pc := 14) C dX9_copies_14 a_73 (by decide) (by omega) rfl (r_2073 _) (by omega) ?_
        first | refine zs_iinc (pc := 15) C dX9_copies_15 rfl (by decide) (by omega) ?_ | refine zs_iincF (pc := 15) C dX9_copies_15 rfl (by decide) (fun z15 hz151 hz152 => ?_)
        dsimp only [zset, zclr, znone]
        refine zs_goto (tgt := 2) (pc := 18) C dX9_copies_18 (by decide) ?_
        exact zs_wk (ih2 _ _ (by omega) (by repeat (first | exact zsm_rf | assumption | refine zsm_C (by decide) ?_ | refine zsm_I (by decide) ?_ | refine zsm_J ?_ | refine zsm_c (by assumption) (by decide) ?_)) (CP_s h2_2 (by omega) (by omega) e13) (by first | omega | (simp only [zuI_1, zuI_2, zuJ_1, zuJ_2, zuJ_3, zuP_1, zuP_2, zuP_3, zuC_1, zuC_2, reduceIte, Nat.reduceEqDiff, false_and, and_false, true_and, and_true, and_self, or_true, true_or, or_false, false_or]; omega))) (zwk_s rfl (zwk_s rfl (zwk_s rfl zwk_0)))
  exact zs_wk (L2 _ _ _ (by omega) zsm_rf CP_0 (Nat.lt_succ_self _)) (zwk_s rfl (zwk_s rfl (zwk_s rfl zwk_0)))

set_option maxHeartbeats 4000000 in
set_option maxRecDepth 100000 in
theorem c_X9_copies74 {l : Launch} {Γ : zΓ} {G : zH} {a : Nat} {n : Int} (hX : zXs Γ) (hn : n = 64) : zMet l Γ yX9_copies cX9_copies 3 none 0 [zr 74 a, zi n] G (zpv (fun G' => zsm [2074] G G' ∧ CP (G.1 2074 a) (G'.1 2074 a) n.toNat n)) := by
  refine zMet_of RX9 hX (by decide) rfl (Nat.le_of_ble_eq_true rfl) ?_
  intro p e s m args below meth c C hr hlk
  show Z p l e (zrm 0) s m args below meth c Γ 3 0 0 (MQ below (zQc Γ (zpv (fun G' => zsm [2074] G G' ∧ CP (G.1 2074 a) (G'.1 2074 a) n.toNat n))) args s 0 0 (zA Γ)) 0 [some (zr 74 a), some (zi n), none] [] G
  refine zs_loc 1 rfl (fun ha1 hb1 => ?_)
  refine zs_iconst (pc := 0) C dX9_copies_0 (by decide) ?_
  refine zs_istore_n (pc := 1) C dX9_copies_1 (by decide) ?_
  dsimp only [zset, zclr, znone]
  have L2 : ∀ (nn : Nat) (x2 : Int) (G1 : zH), (0 ≤ x2 ∧ x2 ≤ n) → (zsm [2074] G G1) → (CP (G.1 2074 a) (G1.1 2074 a) n.toNat x2) → (n - x2).toNat < nn → Z p l e (zrm 0) s m args below meth c Γ 3 0 0 (MQ below (zQc Γ (zpv (fun G' => zsm [2074] G G' ∧ CP (G.1 2074 a) (G'.1 2074 a) n.toNat n))) args s 0 0 (zA Γ)) 2 [some (zr 74 a), some (zi n), some (zi x2)] [] G1 := by
    intro nn
    induction nn with
    | zero => intro x2 G1 h2_0 h2_1 h2_2 hm; exact absurd hm (Nat.not_lt_zero _)
    | succ nn ih2 =>
      intro x2 G1 h2_0 h2_1 h2_2 hm2
      refine zs_iload_n (pc := 2) C dX9_copies_2 rfl ?_
      refine zs_iload_n (pc := 3) C dX9_copies_3 rfl ?_
      refine zs_icmp_ge (tgt := 21) (pc := 4) C dX9_copies_4 (by decide) (fun h4 => ?_) (fun h4 => ?_)
      · skip
        exact zs_vret (pc := 21) C hr hlk dX9_copies_21 ⟨by repeat (first | exact zsm_rf | assumption | refine zsm_C (by decide) ?_ | refine zsm_I (by decide) ?_ | refine zsm_J ?_ | refine zsm_c (by assumption) (by decide) ?_), by have hx2 : x2 = n := (by omega); rw [hx2] at h2_2; exact h2_2⟩
      · skip
        refine zs_aload_n (pc := 7) C dX9_copies_7 rfl ?_
        refine zs_iload_n (pc := 8) C dX9_copies_8 rfl ?_
        refine zs_aload_n (pc := 9) C dX9_copies_9 rfl ?_
        refine zs_iload_n (pc := 10) C dX9_copies_10 rfl ?_
        refine zs_iload_n (pc := 11) C dX9_copies_11 rfl ?_
        first | refine zs_iadd (pc := 12) C dX9_copies_12 (by omega) ?_ | refine zs_iaddF (pc := 12) C dX9_copies_12 (fun z12 hz121 hz122 => ?_)
        refine zs_iald (r := 2074) (pc := 13) C dX9_copies_13 a_74 (by decide) (by omega) rfl (r_2074 _) (fun v13 e13 l13 u13 => ?_)
        refine zs_iast (r := 2074) (pc := 14) C dX9_copies_14 a_74 (by decide) (by omega) rfl (r_2074 _) (by omega) ?_
        first | refine zs_iinc (pc := 15) C dX9_copies_15 rfl (by decide) (by omega) ?_ | refine zs_iincF (pc := 15) C dX9_copies_15 rfl (by decide) (fun z15 hz151 hz152 => ?_)
        dsimp only [zset, zclr, znone]
        refine zs_goto (tgt := 2) (pc := 18) C dX9_copies_18 (by decide) ?_
        exact zs_wk (ih2 _ _ (by omega) (by repeat (first | exact zsm_rf | assumption | refine zsm_C (by decide) ?_ | refine zsm_I (by decide) ?_ | refine zsm_J ?_ | refine zsm_c (by assumption) (by decide) ?_)) (CP_s h2_2 (by omega) (by omega) e13) (by first | omega | (simp only [zuI_1, zuI_2, zuJ_1, zuJ_2, zuJ_3, zuP_1, zuP_2, zuP_3, zuC_1, zuC_2, reduceIte, Nat.reduceEqDiff, false_and, and_false, true_and, and_true, and_self, or_true, true_or, or_false, false_or]; omega))) (zwk_s rfl (zwk_s rfl (zwk_s rfl zwk_0)))
  exact zs_wk (L2 _ _ _ (by omega) zsm_rf CP_0 (Nat.lt_succ_self _)) (zwk_s rfl (zwk_s rfl (zwk_s rfl zwk_0)))

set_option maxHeartbeats 4000000 in
set_option maxRecDepth 100000 in
theorem c_X9_copies75 {l : Launch} {Γ : zΓ} {G : zH} {a : Nat} {n : Int} (hX : zXs Γ) (hn : n = 64) : zMet l Γ yX9_copies cX9_copies 3 none 0 [zr 75 a, zi n] G (zpv (fun G' => zsm [2075] G G' ∧ CP (G.1 2075 a) (G'.1 2075 a) n.toNat n)) := by
  refine zMet_of RX9 hX (by decide) rfl (Nat.le_of_ble_eq_true rfl) ?_
  intro p e s m args below meth c C hr hlk
  show Z p l e (zrm 0) s m args below meth c Γ 3 0 0 (MQ below (zQc Γ (zpv (fun G' => zsm [2075] G G' ∧ CP (G.1 2075 a) (G'.1 2075 a) n.toNat n))) args s 0 0 (zA Γ)) 0 [some (zr 75 a), some (zi n), none] [] G
  refine zs_loc 1 rfl (fun ha1 hb1 => ?_)
  refine zs_iconst (pc := 0) C dX9_copies_0 (by decide) ?_
  refine zs_istore_n (pc := 1) C dX9_copies_1 (by decide) ?_
  dsimp only [zset, zclr, znone]
  have L2 : ∀ (nn : Nat) (x2 : Int) (G1 : zH), (0 ≤ x2 ∧ x2 ≤ n) → (zsm [2075] G G1) → (CP (G.1 2075 a) (G1.1 2075 a) n.toNat x2) → (n - x2).toNat < nn → Z p l e (zrm 0) s m args below meth c Γ 3 0 0 (MQ below (zQc Γ (zpv (fun G' => zsm [2075] G G' ∧ CP (G.1 2075 a) (G'.1 2075 a) n.toNat n))) args s 0 0 (zA Γ)) 2 [some (zr 75 a), some (zi n), some (zi x2)] [] G1 := by
    intro nn
    induction nn with
    | zero => intro x2 G1 h2_0 h2_1 h2_2 hm; exact absurd hm (Nat.not_lt_zero _)
    | succ nn ih2 =>
      intro x2 G1 h2_0 h2_1 h2_2 hm2
      refine zs_iload_n (pc := 2) C dX9_copies_2 rfl ?_
      refine zs_iload_n (pc := 3) C dX9_copies_3 rfl ?_
      refine zs_icmp_ge (tgt := 21) (pc := 4) C dX9_copies_4 (by decide) (fun h4 => ?_) (fun h4 => ?_)
      · skip
        exact zs_vret (pc := 21) C hr hlk dX9_copies_21 ⟨by repeat (first | exact zsm_rf | assumption | refine zsm_C (by decide) ?_ | refine zsm_I (by decide) ?_ | refine zsm_J ?_ | refine zsm_c (by assumption) (by decide) ?_), by have hx2 : x2 = n := (by omega); rw [hx2] at h2_2; exact h2_2⟩
      · skip
        refine zs_aload_n (pc := 7) C dX9_copies_7 rfl ?_
        refine zs_iload_n (pc := 8) C dX9_copies_8 rfl ?_
        refine zs_aload_n (pc := 9) C dX9_copies_9 rfl ?_
        refine zs_iload_n (pc := 10) C dX9_copies_10 rfl ?_
        refine zs_iload_n (pc := 11) C dX9_copies_11 rfl ?_
        first | refine zs_iadd (pc := 12) C dX9_copies_12 (by omega) ?_ | refine zs_iaddF (pc := 12) C dX9_copies_12 (fun z12 hz121 hz122 => ?_)
        refine zs_iald (r := 2075) (pc := 13) C dX9_copies_13 a_75 (by decide) (by omega) rfl (r_2075 _) (fun v13 e13 l13 u13 => ?_)
        refine zs_iast (r := 2075) (pc := 14) C dX9_copies_14 a_75 (by decide) (by omega) rfl (r_2075 _) (by omega) ?_
        first | refine zs_iinc (pc := 15) C dX9_copies_15 rfl (by decide) (by omega) ?_ | refine zs_iincF (pc := 15) C dX9_copies_15 rfl (by decide) (fun z15 hz151 hz152 => ?_)
        dsimp only [zset, zclr, znone]
        refine zs_goto (tgt := 2) (pc := 18) C dX9_copies_18 (by decide) ?_
        exact zs_wk (ih2 _ _ (by omega) (by repeat (first | exact zsm_rf | assumption | refine zsm_C (by decide) ?_ | refine zsm_I (by decide) ?_ | refine zsm_J ?_ | refine zsm_c (by assumption) (by decide) ?_)) (CP_s h2_2 (by omega) (by omega) e13) (by first | omega | (simp only [zuI_1, zuI_2, zuJ_1, zuJ_2, zuJ_3, zuP_1, zuP_2, zuP_3, zuC_1, zuC_2, reduceIte, Nat.reduceEqDiff, false_and, and_false, true_and, and_true, and_self, or_true, true_or, or_false, false_or]; omega))) (zwk_s rfl (zwk_s rfl (zwk_s rfl zwk_0)))
  exact zs_wk (L2 _ _ _ (by omega) zsm_rf CP_0 (Nat.lt_succ_self _)) (zwk_s rfl (zwk_s rfl (zwk_s rfl zwk_0)))

set_option maxHeartbeats 4000000 in
set_option maxRecDepth 100000 in
theorem c_X9_copies76 {l : Launch} {Γ : zΓ} {G : zH} {a : Nat} {n : Int} (hX : zXs Γ) (hn : n = 64) : zMet l Γ yX9_copies cX9_copies 3 none 0 [zr 76 a, zi n] G (zpv (fun G' => zsm [2076] G G' ∧ CP (G.1 2076 a) (G'.1 2076 a) n.toNat n)) := by
  refine zMet_of RX9 hX (by decide) rfl (Nat.le_of_ble_eq_true rfl) ?_
  intro p e s m args below meth c C hr hlk
  show Z p l e (zrm 0) s m args below meth c Γ 3 0 0 (MQ below (zQc Γ (zpv (fun G' => zsm [2076] G G' ∧ CP (G.1 2076 a) (G'.1 2076 a) n.toNat n))) args s 0 0 (zA Γ)) 0 [some (zr 76 a), some (zi n), none] [] G
  refine zs_loc 1 rfl (fun ha1 hb1 => ?_)
  refine zs_iconst (pc := 0) C dX9_copies_0 (by decide) ?_
  refine zs_istore_n (pc := 1) C dX9_copies_1 (by decide) ?_
  dsimp only [zset, zclr, znone]
  have L2 : ∀ (nn : Nat) (x2 : Int) (G1 : zH), (0 ≤ x2 ∧ x2 ≤ n) → (zsm [2076] G G1) → (CP (G.1 2076 a) (G1.1 2076 a) n.toNat x2) → (n - x2).toNat < nn → Z p l e (zrm 0) s m args below meth c Γ 3 0 0 (MQ below (zQc Γ (zpv (fun G' => zsm [2076] G G' ∧ CP (G.1 2076 a) (G'.1 2076 a) n.toNat n))) args s 0 0 (zA Γ)) 2 [some (zr 76 a), some (zi n), some (zi x2)] [] G1 := by
    intro nn
    induction nn with
    | zero => intro x2 G1 h2_0 h2_1 h2_2 hm; exact absurd hm (Nat.not_lt_zero _)
    | succ nn ih2 =>
      intro x2 G1 h2_0 h2_1 h2_2 hm2
      refine zs_iload_n (pc := 2) C dX9_copies_2 rfl ?_
      refine zs_iload_n (pc := 3) C dX9_copies_3 rfl ?_
      refine zs_icmp_ge (tgt := 21) (pc := 4) C dX9_copies_4 (by decide) (fun h4 => ?_) (fun h4 => ?_)
      · skip
        exact zs_vret (pc := 21) C hr hlk dX9_copies_21 ⟨by repeat (first | exact zsm_rf | assumption | refine zsm_C (by decide) ?_ | refine zsm_I (by decide) ?_ | refine zsm_J ?_ | refine zsm_c (by assumption) (by decide) ?_), by have hx2 : x2 = n := (by omega); rw [hx2] at h2_2; exact h2_2⟩
      · skip
        refine zs_aload_n (pc := 7) C dX9_copies_7 rfl ?_
        refine zs_iload_n (pc := 8) C dX9_copies_8 rfl ?_
        refine zs_aload_n (pc := 9) C dX9_copies_9 rfl ?_
        refine zs_iload_n (pc := 10) C dX9_copies_10 rfl ?_
        refine zs_iload_n (pc := 11) C dX9_copies_11 rfl ?_
        first | refine zs_iadd (pc := 12) C dX9_copies_12 (by omega) ?_ | refine zs_iaddF (pc := 12) C dX9_copies_12 (fun z12 hz121 hz122 => ?_)
        refine zs_iald (r := 2076) (pc := 13) C dX9_copies_13 a_76 (by decide) (by omega) rfl (r_2076 _) (fun v13 e13 l13 u13 => ?_)
        refine zs_iast (r := 2076) (pc := 14) C dX9_copies_14 a_76 (by decide) (by omega) rfl (r_2076 _) (by omega) ?_
        first | refine zs_iinc (pc := 15) C dX9_copies_15 rfl (by decide) (by omega) ?_ | refine zs_iincF (pc := 15) C dX9_copies_15 rfl (by decide) (fun z15 hz151 hz152 => ?_)
        dsimp only [zset, zclr, znone]
        refine zs_goto (tgt := 2) (pc := 18) C dX9_copies_18 (by decide) ?_
        exact zs_wk (ih2 _ _ (by omega) (by repeat (first | exact zsm_rf | assumption | refine zsm_C (by decide) ?_ | refine zsm_I (by decide) ?_ | refine zsm_J ?_ | refine zsm_c (by assumption) (by decide) ?_)) (CP_s h2_2 (by omega) (by omega) e13) (by first | omega | (simp only [zuI_1, zuI_2, zuJ_1, zuJ_2, zuJ_3, zuP_1, zuP_2, zuP_3, zuC_1, zuC_2, reduceIte, Nat.reduceEqDiff, false_and, and_false, true_and, and_true, and_self, or_true, true_or, or_false, false_or]; omega))) (zwk_s rfl (zwk_s rfl (zwk_s rfl zwk_0)))
  exact zs_wk (L2 _ _ _ (by omega) zsm_rf CP_0 (Nat.lt_succ_self _)) (zwk_s rfl (zwk_s rfl (zwk_s rfl zwk_0)))

set_option maxHeartbeats 4000000 in
set_option maxRecDepth 100000 in
theorem c_X9_keepText {l : Launch} {Γ : zΓ} {G : zH} {w : Nat}  (hX : zXs Γ) (hM : MI Γ w G)(hC : RC Γ w G) : zMet l Γ yX9_keepText cX9_keepText 2 none 1 [zr 10 w] G (zpv (fun G' => zsm [1012, 1013, 1014, 1015, 1016, 2059, 2061, 2062, 2063, 2064, 2065, 2066, 2067, 2068, 2069, 2070, 2071, 2072, 2073, 2074, 2075, 2076, 2081, 2082, 2083, 2084, 2085, 2086, 2087, 2088, 2089, 2090, 1083, 1084, 1086] G G' ∧ (MI Γ w G'))) := by
  refine zMet_of RX9 hX (by decide) rfl (Nat.le_of_ble_eq_true rfl) ?_
  intro p e s m args below meth c C hr hlk
  show Z p l e (zrm 1) s m args below meth c Γ 2 0 0 (MQ below (zQc Γ (zpv (fun G' => zsm [1012, 1013, 1014, 1015, 1016, 2059, 2061, 2062, 2063, 2064, 2065, 2066, 2067, 2068, 2069, 2070, 2071, 2072, 2073, 2074, 2075, 2076, 2081, 2082, 2083, 2084, 2085, 2086, 2087, 2088, 2089, 2090, 1083, 1084, 1086] G G' ∧ (MI Γ w G')))) args s 0 0 (zA Γ)) 0 [some (zr 10 w), none] [] G
  refine zs_aload_n (pc := 0) C dX9_keepText_0 rfl ?_
  refine zs_aload_n (pc := 1) C dX9_keepText_1 rfl ?_
  refine zs_geti (r := 1017) (pc := 2) C dX9_keepText_2 w_X9_240 f_10_17 rfl (r_1017 0) (fun v2 e2 l2 u2 => ?_)
  refine zs_puti (r := 1012) (pc := 5) C dX9_keepText_5 w_X9_258 f_10_12 rfl (r_1012 0) (by omega) ?_
  refine zs_aload_n (pc := 8) C dX9_keepText_8 rfl ?_
  refine zs_aload_n (pc := 9) C dX9_keepText_9 rfl ?_
  refine zs_geti (r := 1018) (pc := 10) C dX9_keepText_10 w_X9_243 f_10_18 rfl (r_1018 0) (fun v10 e10 l10 u10 => ?_)
  try simp only [zuI_1, zuI_2, zuJ_1, zuJ_2, zuJ_3, zuP_1, zuP_2, zuP_3, zuC_1, zuC_2, reduceIte, Nat.reduceEqDiff, false_and, and_false, true_and, and_true, and_self, or_true, true_or, or_false, false_or] at e10
  refine zs_puti (r := 1013) (pc := 13) C dX9_keepText_13 w_X9_261 f_10_13 rfl (r_1013 0) (by omega) ?_
  refine zs_aload_n (pc := 16) C dX9_keepText_16 rfl ?_
  refine zs_aload_n (pc := 17) C dX9_keepText_17 rfl ?_
  refine zs_geti (r := 1019) (pc := 18) C dX9_keepText_18 w_X9_246 f_10_19 rfl (r_1019 0) (fun v18 e18 l18 u18 => ?_)
  try simp only [zuI_1, zuI_2, zuJ_1, zuJ_2, zuJ_3, zuP_1, zuP_2, zuP_3, zuC_1, zuC_2, reduceIte, Nat.reduceEqDiff, false_and, and_false, true_and, and_true, and_self, or_true, true_or, or_false, false_or] at e18
  refine zs_puti (r := 1014) (pc := 21) C dX9_keepText_21 w_X9_264 f_10_14 rfl (r_1014 0) (by omega) ?_
  refine zs_aload_n (pc := 24) C dX9_keepText_24 rfl ?_
  refine zs_aload_n (pc := 25) C dX9_keepText_25 rfl ?_
  refine zs_geti (r := 1020) (pc := 26) C dX9_keepText_26 w_X9_249 f_10_20 rfl (r_1020 0) (fun v26 e26 l26 u26 => ?_)
  try simp only [zuI_1, zuI_2, zuJ_1, zuJ_2, zuJ_3, zuP_1, zuP_2, zuP_3, zuC_1, zuC_2, reduceIte, Nat.reduceEqDiff, false_and, and_false, true_and, and_true, and_self, or_true, true_or, or_false, false_or] at e26
  refine zs_puti (r := 1015) (pc := 29) C dX9_keepText_29 w_X9_267 f_10_15 rfl (r_1015 0) (by omega) ?_
  refine zs_aload_n (pc := 32) C dX9_keepText_32 rfl ?_
  refine zs_aload_n (pc := 33) C dX9_keepText_33 rfl ?_
  refine zs_geti (r := 1021) (pc := 34) C dX9_keepText_34 w_X9_252 f_10_21 rfl (r_1021 0) (fun v34 e34 l34 u34 => ?_)
  try simp only [zuI_1, zuI_2, zuJ_1, zuJ_2, zuJ_3, zuP_1, zuP_2, zuP_3, zuC_1, zuC_2, reduceIte, Nat.reduceEqDiff, false_and, and_false, true_and, and_true, and_self, or_true, true_or, or_false, false_or] at e34
  refine zs_puti (r := 1016) (pc := 37) C dX9_keepText_37 w_X9_270 f_10_16 rfl (r_1016 0) (by omega) ?_
  refine zs_aload_n (pc := 40) C dX9_keepText_40 rfl ?_
  refine zs_getf (pc := 41) C dX9_keepText_41 w_X9_20 f_10_22 (by decide) ?_
  refine zs_iconst (pc := 44) C dX9_keepText_44 (by decide) ?_
  refine zSv2 (pc := 45) C dX9_keepText_45 s_X9_273 (c_X9_copies59 hX (by omega)) (by decide) ⟨Nat.zero_le _, Nat.zero_le _⟩ (Nat.le_of_ble_eq_true rfl) (fun G45 hp45 => ?_)
  obtain ⟨hz45, hq45⟩ := hp45
  try simp only [zuI_1, zuI_2, zuJ_1, zuJ_2, zuJ_3, zuP_1, zuP_2, zuP_3, zuC_1, zuC_2, reduceIte, Nat.reduceEqDiff, false_and, and_false, true_and, and_true, and_self, or_true, true_or, or_false, false_or] at hq45
  refine zs_aload_n (pc := 48) C dX9_keepText_48 rfl ?_
  refine zs_getf (pc := 49) C dX9_keepText_49 w_X9_27 f_10_24 (by decide) ?_
  refine zs_iconst (pc := 52) C dX9_keepText_52 (by decide) ?_
  refine zSv2 (pc := 53) C dX9_keepText_53 s_X9_273 (c_X9_copies61 hX (by omega)) (by decide) ⟨Nat.zero_le _, Nat.zero_le _⟩ (Nat.le_of_ble_eq_true rfl) (fun G53 hp53 => ?_)
  obtain ⟨hz53, hq53⟩ := hp53
  refine zs_aload_n (pc := 56) C dX9_keepText_56 rfl ?_
  refine zs_getf (pc := 57) C dX9_keepText_57 w_X9_30 f_10_25 (by decide) ?_
  refine zs_iconst (pc := 60) C dX9_keepText_60 (by decide) ?_
  refine zSv2 (pc := 61) C dX9_keepText_61 s_X9_273 (c_X9_copies62 hX (by omega)) (by decide) ⟨Nat.zero_le _, Nat.zero_le _⟩ (Nat.le_of_ble_eq_true rfl) (fun G61 hp61 => ?_)
  obtain ⟨hz61, hq61⟩ := hp61
  refine zs_aload_n (pc := 64) C dX9_keepText_64 rfl ?_
  refine zs_getf (pc := 65) C dX9_keepText_65 w_X9_33 f_10_26 (by decide) ?_
  refine zs_iconst (pc := 68) C dX9_keepText_68 (by decide) ?_
  refine zSv2 (pc := 69) C dX9_keepText_69 s_X9_273 (c_X9_copies63 hX (by omega)) (by decide) ⟨Nat.zero_le _, Nat.zero_le _⟩ (Nat.le_of_ble_eq_true rfl) (fun G69 hp69 => ?_)
  obtain ⟨hz69, hq69⟩ := hp69
  refine zs_aload_n (pc := 72) C dX9_keepText_72 rfl ?_
  refine zs_getf (pc := 73) C dX9_keepText_73 w_X9_36 f_10_27 (by decide) ?_
  refine zs_iconst (pc := 76) C dX9_keepText_76 (by decide) ?_
  refine zSv2 (pc := 77) C dX9_keepText_77 s_X9_273 (c_X9_copies64 hX (by omega)) (by decide) ⟨Nat.zero_le _, Nat.zero_le _⟩ (Nat.le_of_ble_eq_true rfl) (fun G77 hp77 => ?_)
  obtain ⟨hz77, hq77⟩ := hp77
  refine zs_aload_n (pc := 80) C dX9_keepText_80 rfl ?_
  refine zs_getf (pc := 81) C dX9_keepText_81 w_X9_39 f_10_28 (by decide) ?_
  refine zs_bipush (pc := 84) C dX9_keepText_84 (by decide) (by decide) ?_
  refine zSv2 (pc := 86) C dX9_keepText_86 s_X9_273 (c_X9_copies65 hX (by omega)) (by decide) ⟨Nat.zero_le _, Nat.zero_le _⟩ (Nat.le_of_ble_eq_true rfl) (fun G86 hp86 => ?_)
  obtain ⟨hz86, hq86⟩ := hp86
  refine zs_aload_n (pc := 89) C dX9_keepText_89 rfl ?_
  refine zs_getf (pc := 90) C dX9_keepText_90 w_X9_42 f_10_29 (by decide) ?_
  refine zs_iconst (pc := 93) C dX9_keepText_93 (by decide) ?_
  refine zSv2 (pc := 94) C dX9_keepText_94 s_X9_273 (c_X9_copies66 hX (by omega)) (by decide) ⟨Nat.zero_le _, Nat.zero_le _⟩ (Nat.le_of_ble_eq_true rfl) (fun G94 hp94 => ?_)
  obtain ⟨hz94, hq94⟩ := hp94
  refine zs_aload_n (pc := 97) C dX9_keepText_97 rfl ?_
  refine zs_getf (pc := 98) C dX9_keepText_98 w_X9_45 f_10_30 (by decide) ?_
  refine zs_iconst (pc := 101) C dX9_keepText_101 (by decide) ?_
  refine zSv2 (pc := 102) C dX9_keepText_102 s_X9_273 (c_X9_copies67 hX (by omega)) (by decide) ⟨Nat.zero_le _, Nat.zero_le _⟩ (Nat.le_of_ble_eq_true rfl) (fun G102 hp102 => ?_)
  obtain ⟨hz102, hq102⟩ := hp102
  refine zs_aload_n (pc := 105) C dX9_keepText_105 rfl ?_
  refine zs_getf (pc := 106) C dX9_keepText_106 w_X9_48 f_10_31 (by decide) ?_
  refine zs_iconst (pc := 109) C dX9_keepText_109 (by decide) ?_
  refine zSv2 (pc := 110) C dX9_keepText_110 s_X9_273 (c_X9_copies68 hX (by omega)) (by decide) ⟨Nat.zero_le _, Nat.zero_le _⟩ (Nat.le_of_ble_eq_true rfl) (fun G110 hp110 => ?_)
  obtain ⟨hz110, hq110⟩ := hp110
  refine zs_aload_n (pc := 113) C dX9_keepText_113 rfl ?_
  refine zs_getf (pc := 114) C dX9_keepText_114 w_X9_51 f_10_32 (by decide) ?_
  refine zs_iconst (pc := 117) C dX9_keepText_117 (by decide) ?_
  refine zSv2 (pc := 118) C dX9_keepText_118 s_X9_273 (c_X9_copies69 hX (by omega)) (by decide) ⟨Nat.zero_le _, Nat.zero_le _⟩ (Nat.le_of_ble_eq_true rfl) (fun G118 hp118 => ?_)
  obtain ⟨hz118, hq118⟩ := hp118
  refine zs_aload_n (pc := 121) C dX9_keepText_121 rfl ?_
  refine zs_getf (pc := 122) C dX9_keepText_122 w_X9_54 f_10_33 (by decide) ?_
  refine zs_iconst (pc := 125) C dX9_keepText_125 (by decide) ?_
  refine zSv2 (pc := 126) C dX9_keepText_126 s_X9_273 (c_X9_copies70 hX (by omega)) (by decide) ⟨Nat.zero_le _, Nat.zero_le _⟩ (Nat.le_of_ble_eq_true rfl) (fun G126 hp126 => ?_)
  obtain ⟨hz126, hq126⟩ := hp126
  refine zs_iconst (pc := 129) C dX9_keepText_129 (by decide) ?_
  refine zs_istore_n (pc := 130) C dX9_keepText_130 (by decide) ?_
  dsimp only [zset, zclr, znone]
  have L131 : ∀ (nn : Nat) (x1 : Int) (G1 : zH), (0 ≤ x1 ∧ x1 ≤ 7) → (zsm [1012, 1013, 1014, 1015, 1016, 2059, 2061, 2062, 2063, 2064, 2065, 2066, 2067, 2068, 2069, 2070, 2071] G G1) → (CP (G.1 2071 (Γ.2.1 w 34)) (G1.1 2071 (Γ.2.1 w 34)) (7 : Int).toNat x1) → (7 - x1).toNat < nn → Z p l e (zrm 1) s m args below meth c Γ 2 0 0 (MQ below (zQc Γ (zpv (fun G' => zsm [1012, 1013, 1014, 1015, 1016, 2059, 2061, 2062, 2063, 2064, 2065, 2066, 2067, 2068, 2069, 2070, 2071, 2072, 2073, 2074, 2075, 2076, 2081, 2082, 2083, 2084, 2085, 2086, 2087, 2088, 2089, 2090, 1083, 1084, 1086] G G' ∧ (MI Γ w G')))) args s 0 0 (zA Γ)) 131 [some (zr 10 w), some (zi x1)] [] G1 := by
    intro nn
    induction nn with
    | zero => intro x1 G1 h131_0 h131_1 h131_2 hm; exact absurd hm (Nat.not_lt_zero _)
    | succ nn ih131 =>
      intro x1 G1 h131_0 h131_1 h131_2 hm131
      refine zs_iload_n (pc := 131) C dX9_keepText_131 rfl ?_
      refine zs_bipush (pc := 132) C dX9_keepText_132 (by decide) (by decide) ?_
      refine zs_icmp_ge (tgt := 158) (pc := 134) C dX9_keepText_134 (by decide) (fun h134 => ?_) (fun h134 => ?_)
      · skip
        refine zs_aload_n (pc := 158) C dX9_keepText_158 rfl ?_
        refine zs_getf (pc := 159) C dX9_keepText_159 w_X9_60 f_10_35 (by decide) ?_
        refine zs_bipush (pc := 162) C dX9_keepText_162 (by decide) (by decide) ?_
        refine zSv2 (pc := 164) C dX9_keepText_164 s_X9_273 (c_X9_copies72 hX (by omega)) (by decide) ⟨Nat.zero_le _, Nat.zero_le _⟩ (Nat.le_of_ble_eq_true rfl) (fun G164 hp164 => ?_)
        obtain ⟨hz164, hq164⟩ := hp164
        refine zs_aload_n (pc := 167) C dX9_keepText_167 rfl ?_
        refine zs_getf (pc := 168) C dX9_keepText_168 w_X9_63 f_10_36 (by decide) ?_
        refine zs_bipush (pc := 171) C dX9_keepText_171 (by decide) (by decide) ?_
        refine zSv2 (pc := 173) C dX9_keepText_173 s_X9_273 (c_X9_copies73 hX (by omega)) (by decide) ⟨Nat.zero_le _, Nat.zero_le _⟩ (Nat.le_of_ble_eq_true rfl) (fun G173 hp173 => ?_)
        obtain ⟨hz173, hq173⟩ := hp173
        refine zs_aload_n (pc := 176) C dX9_keepText_176 rfl ?_
        refine zs_getf (pc := 177) C dX9_keepText_177 w_X9_66 f_10_37 (by decide) ?_
        refine zs_bipush (pc := 180) C dX9_keepText_180 (by decide) (by decide) ?_
        refine zSv2 (pc := 182) C dX9_keepText_182 s_X9_273 (c_X9_copies74 hX (by omega)) (by decide) ⟨Nat.zero_le _, Nat.zero_le _⟩ (Nat.le_of_ble_eq_true rfl) (fun G182 hp182 => ?_)
        obtain ⟨hz182, hq182⟩ := hp182
        refine zs_aload_n (pc := 185) C dX9_keepText_185 rfl ?_
        refine zs_getf (pc := 186) C dX9_keepText_186 w_X9_69 f_10_38 (by decide) ?_
        refine zs_bipush (pc := 189) C dX9_keepText_189 (by decide) (by decide) ?_
        refine zSv2 (pc := 191) C dX9_keepText_191 s_X9_273 (c_X9_copies75 hX (by omega)) (by decide) ⟨Nat.zero_le _, Nat.zero_le _⟩ (Nat.le_of_ble_eq_true rfl) (fun G191 hp191 => ?_)
        obtain ⟨hz191, hq191⟩ := hp191
        refine zs_aload_n (pc := 194) C dX9_keepText_194 rfl ?_
        refine zs_getf (pc := 195) C dX9_keepText_195 w_X9_72 f_10_39 (by decide) ?_
        refine zs_bipush (pc := 198) C dX9_keepText_198 (by decide) (by decide) ?_
        refine zSv2 (pc := 200) C dX9_keepText_200 s_X9_273 (c_X9_copies76 hX (by omega)) (by decide) ⟨Nat.zero_le _, Nat.zero_le _⟩ (Nat.le_of_ble_eq_true rfl) (fun G200 hp200 => ?_)
        obtain ⟨hz200, hq200⟩ := hp200
        refine zs_aload_n (pc := 203) C dX9_keepText_203 rfl ?_
        refine zVv0 (pc := 204) C dX9_keepText_204 v_X9_277 (c_X9_begin hX ) (by decide) (by decide) ⟨Nat.zero_le _, Nat.zero_le _⟩ (Nat.le_of_ble_eq_true rfl) (fun G204 hp204 => ?_)
        obtain ⟨hz204, hq204⟩ := hp204
        have e71 : G204.1 2071 = G1.1 2071 := by rw [hz204.1 2071 (by decide), hz200.1 2071 (by decide), hz191.1 2071 (by decide), hz182.1 2071 (by decide), hz173.1 2071 (by decide), hz164.1 2071 (by decide)]
        have e73 : G204.1 2073 = G173.1 2073 := by rw [hz204.1 2073 (by decide), hz200.1 2073 (by decide), hz191.1 2073 (by decide), hz182.1 2073 (by decide)]
        have e74 : G204.1 2074 = G182.1 2074 := by rw [hz204.1 2074 (by decide), hz200.1 2074 (by decide), hz191.1 2074 (by decide)]
        have e75 : G204.1 2075 = G191.1 2075 := by rw [hz204.1 2075 (by decide), hz200.1 2075 (by decide)]
        have e76 : G204.1 2076 = G200.1 2076 := by rw [hz204.1 2076 (by decide)]
        have s73 : G164.1 2073 = G.1 2073 := by rw [hz164.1 2073 (by decide), h131_1.1 2073 (by decide)]
        have s74 : G173.1 2074 = G.1 2074 := by rw [hz173.1 2074 (by decide), hz164.1 2074 (by decide), h131_1.1 2074 (by decide)]
        have s75 : G182.1 2075 = G.1 2075 := by rw [hz182.1 2075 (by decide), hz173.1 2075 (by decide), hz164.1 2075 (by decide), h131_1.1 2075 (by decide)]
        have s76 : G191.1 2076 = G.1 2076 := by rw [hz191.1 2076 (by decide), hz182.1 2076 (by decide), hz173.1 2076 (by decide), hz164.1 2076 (by decide), h131_1.1 2076 (by decide)]
        rw [s73] at hq173
        rw [s74] at hq182
        rw [s75] at hq191
        rw [s76] at hq200
        have hx1 : x1 = 7 := by omega
        rw [hx1] at h131_2
        have hMI : MI Γ w G204 := MI_keep hM hC (by rw [e71]; exact h131_2) (by rw [e73]; exact hq173) (by rw [e74]; exact hq182) (by rw [e75]; exact hq191) (by rw [e76]; exact hq200)
        exact zs_vret (pc := 207) C hr hlk dX9_keepText_207 ⟨by repeat (first | exact zsm_rf | assumption | refine zsm_C (by decide) ?_ | refine zsm_I (by decide) ?_ | refine zsm_J ?_ | refine zsm_c (by assumption) (by decide) ?_), hMI⟩
      · skip
        refine zs_aload_n (pc := 137) C dX9_keepText_137 rfl ?_
        refine zs_getf (pc := 138) C dX9_keepText_138 w_X9_57 f_10_34 (by decide) ?_
        refine zs_iload_n (pc := 141) C dX9_keepText_141 rfl ?_
        refine zs_aload_n (pc := 142) C dX9_keepText_142 rfl ?_
        refine zs_getf (pc := 143) C dX9_keepText_143 w_X9_57 f_10_34 (by decide) ?_
        refine zs_bipush (pc := 146) C dX9_keepText_146 (by decide) (by decide) ?_
        refine zs_iload_n (pc := 148) C dX9_keepText_148 rfl ?_
        first | refine zs_iadd (pc := 149) C dX9_keepText_149 (by omega) ?_ | refine zs_iaddF (pc := 149) C dX9_keepText_149 (fun z149 hz1491 hz1492 => ?_)
        refine zs_zald (r := 2071) (pc := 150) C dX9_keepText_150 a_71 (by decide) (by omega) rfl (r_2071 _) (fun v150 e150 l150 u150 => ?_)
        refine zs_zast (r := 2071) (pc := 151) C dX9_keepText_151 a_71 (by decide) (by omega) rfl (r_2071 _) (by omega) (by omega) ?_
        first | refine zs_iinc (pc := 152) C dX9_keepText_152 rfl (by decide) (by omega) ?_ | refine zs_iincF (pc := 152) C dX9_keepText_152 rfl (by decide) (fun z152 hz1521 hz1522 => ?_)
        dsimp only [zset, zclr, znone]
        refine zs_goto (tgt := 131) (pc := 155) C dX9_keepText_155 (by decide) ?_
        exact zs_wk (ih131 _ _ (by omega) (by repeat (first | exact zsm_rf | assumption | refine zsm_C (by decide) ?_ | refine zsm_I (by decide) ?_ | refine zsm_J ?_ | refine zsm_c (by assumption) (by decide) ?_)) (CP_s h131_2 (by omega) (by omega) e150) (by first | omega | (simp only [zuI_1, zuI_2, zuJ_1, zuJ_2, zuJ_3, zuP_1, zuP_2, zuP_3, zuC_1, zuC_2, reduceIte, Nat.reduceEqDiff, false_and, and_false, true_and, and_true, and_self, or_true, true_or, or_false, false_or]; omega))) (zwk_s rfl (zwk_s rfl zwk_0))
  exact zs_wk (L131 _ _ _ (by omega) (by repeat (first | exact zsm_rf | assumption | refine zsm_C (by decide) ?_ | refine zsm_I (by decide) ?_ | refine zsm_J ?_ | refine zsm_c (by assumption) (by decide) ?_)) (by rw [hz126.1 2071 (by decide), hz118.1 2071 (by decide), hz110.1 2071 (by decide), hz102.1 2071 (by decide), hz94.1 2071 (by decide), hz86.1 2071 (by decide), hz77.1 2071 (by decide), hz69.1 2071 (by decide), hz61.1 2071 (by decide), hz53.1 2071 (by decide), hz45.1 2071 (by decide), zuI_ne (show (2071 : Nat) ≠ 1016 by decide), zuI_ne (show (2071 : Nat) ≠ 1015 by decide), zuI_ne (show (2071 : Nat) ≠ 1014 by decide), zuI_ne (show (2071 : Nat) ≠ 1013 by decide), zuI_ne (show (2071 : Nat) ≠ 1012 by decide)]; exact CP_0) (Nat.lt_succ_self _)) (zwk_s rfl (zwk_s rfl zwk_0))

set_option maxHeartbeats 4000000 in
set_option maxRecDepth 100000 in
theorem c_X9_text {l : Launch} {Γ : zΓ} {G : zH} {w : Nat} {k : Int} (hX : zXs Γ) (hM : MI Γ w G) : zMet l Γ yX9_text cX9_text 3 (some .int) 6 [zr 10 w, zi k] G (zpi (fun x G' => zsm [1007, 1008, 1009, 1010, 1004, 1005, 1011, 2063, 2064, 2065, 1018, 2066, 2067, 2068, 2069, 1019, 2074, 2075, 2076, 2078, 1043, 1021, 2077, 1042, 1044, 1045, 1046, 1047, 2071, 2072, 2073, 2061, 2062, 1017, 2070, 1020, 2060, 2059, 1012, 1013, 1014, 1015, 1016, 2081, 2082, 2083, 2084, 2085, 2086, 2087, 2088, 2089, 2090, 1083, 1084, 1086, 1001, 1002, 1006] G G' ∧ (MI Γ w G' ∧ (0 ≤ k ∧ k ≤ G.1 1001 w 0 → G'.1 1001 w 0 = 0) ∧ (¬ (0 ≤ k ∧ k ≤ G.1 1001 w 0) → G'.1 1001 w 0 = G.1 1001 w 0)))) := by
  refine zMet_of RX9 hX (by decide) rfl (Nat.le_of_ble_eq_true rfl) ?_
  intro p e s m args below meth c C hr hlk
  show Z p l e (zrm 6) s m args below meth c Γ 3 0 0 (MQ below (zQc Γ (zpi (fun x G' => zsm [1007, 1008, 1009, 1010, 1004, 1005, 1011, 2063, 2064, 2065, 1018, 2066, 2067, 2068, 2069, 1019, 2074, 2075, 2076, 2078, 1043, 1021, 2077, 1042, 1044, 1045, 1046, 1047, 2071, 2072, 2073, 2061, 2062, 1017, 2070, 1020, 2060, 2059, 1012, 1013, 1014, 1015, 1016, 2081, 2082, 2083, 2084, 2085, 2086, 2087, 2088, 2089, 2090, 1083, 1084, 1086, 1001, 1002, 1006] G G' ∧ (MI Γ w G' ∧ (0 ≤ k ∧ k ≤ G.1 1001 w 0 → G'.1 1001 w 0 = 0) ∧ (¬ (0 ≤ k ∧ k ≤ G.1 1001 w 0) → G'.1 1001 w 0 = G.1 1001 w 0))))) args s 0 0 (zA Γ)) 0 [some (zr 10 w), some (zi k), none] [] G
  refine zs_loc 1 rfl (fun ha1 hb1 => ?_)
  refine zs_aload_n (pc := 0) C dX9_text_0 rfl ?_
  refine zs_iconst (pc := 1) C dX9_text_1 (by decide) ?_
  refine zs_puti (r := 1002) (pc := 2) C dX9_text_2 w_X9_178 f_10_2 rfl (r_1002 0) (by omega) ?_
  refine zs_iload_n (pc := 5) C dX9_text_5 rfl ?_
  refine zs_if_lt (tgt := 17) (pc := 6) C dX9_text_6 (by decide) (fun h6 => ?_) (fun h6 => ?_)
  · skip
    refine zs_bipush (pc := 17) C dX9_text_17 (by decide) (by decide) ?_
    exact zs_iret (pc := 19) C hr hlk dX9_text_19 ⟨by repeat (first | exact zsm_rf | assumption | refine zsm_C (by decide) ?_ | refine zsm_I (by decide) ?_ | refine zsm_J ?_ | refine zsm_c (by assumption) (by decide) ?_), ⟨(by repeat (first | assumption | refine MI_I (by decide) ?_ | refine MI_J ?_ | refine MI_sm (by assumption) (by decide) ?_ | refine MI_sn (by assumption) (by decide) ?_)), fun q => by first | omega | (simp only [zuI_1, zuI_2, zuJ_1, zuJ_2, zuJ_3, zuP_1, zuP_2, zuP_3, zuC_1, zuC_2, reduceIte, Nat.reduceEqDiff, false_and, and_false, true_and, and_true, and_self, or_true, true_or, or_false, false_or] <;> omega), fun q => by first | omega | (simp only [zuI_1, zuI_2, zuJ_1, zuJ_2, zuJ_3, zuP_1, zuP_2, zuP_3, zuC_1, zuC_2, reduceIte, Nat.reduceEqDiff, false_and, and_false, true_and, and_true, and_self, or_true, true_or, or_false, false_or] <;> omega)⟩⟩
  · skip
    refine zs_iload_n (pc := 9) C dX9_text_9 rfl ?_
    refine zs_aload_n (pc := 10) C dX9_text_10 rfl ?_
    refine zs_geti (r := 1001) (pc := 11) C dX9_text_11 w_X9_181 f_10_1 rfl (r_1001 0) (fun v11 e11 l11 u11 => ?_)
    try simp only [zuI_1, zuI_2, zuJ_1, zuJ_2, zuJ_3, zuP_1, zuP_2, zuP_3, zuC_1, zuC_2, reduceIte, Nat.reduceEqDiff, false_and, and_false, true_and, and_true, and_self, or_true, true_or, or_false, false_or] at e11
    refine zs_icmp_le (tgt := 20) (pc := 14) C dX9_text_14 (by decide) (fun h14 => ?_) (fun h14 => ?_)
    · skip
      refine zs_aload_n (pc := 20) C dX9_text_20 rfl ?_
      refine zs_iload_n (pc := 21) C dX9_text_21 rfl ?_
      refine zs_puti (r := 1006) (pc := 22) C dX9_text_22 w_X9_190 f_10_6 rfl (r_1006 0) (by omega) ?_
      refine zs_aload_n (pc := 25) C dX9_text_25 rfl ?_
      refine zs_iconst (pc := 26) C dX9_text_26 (by decide) ?_
      refine zs_puti (r := 1001) (pc := 27) C dX9_text_27 w_X9_181 f_10_1 rfl (r_1001 0) (by omega) ?_
      refine zs_aload_n (pc := 30) C dX9_text_30 rfl ?_
      refine zs_iconst (pc := 31) C dX9_text_31 (by decide) ?_
      refine zs_puti (r := 1004) (pc := 32) C dX9_text_32 w_X9_184 f_10_4 rfl (r_1004 0) (by omega) ?_
      refine zs_aload_n (pc := 35) C dX9_text_35 rfl ?_
      refine zs_iconst (pc := 36) C dX9_text_36 (by decide) ?_
      refine zs_puti (r := 1005) (pc := 37) C dX9_text_37 w_X9_16 f_10_5 rfl (r_1005 0) (by omega) ?_
      refine zs_aload_n (pc := 40) C dX9_text_40 rfl ?_
      refine zs_iconst (pc := 41) C dX9_text_41 (by decide) ?_
      refine zs_puti (r := 1007) (pc := 42) C dX9_text_42 w_X9_193 f_10_7 rfl (r_1007 0) (by omega) ?_
      refine zs_aload_n (pc := 45) C dX9_text_45 rfl ?_
      refine zVv0 (pc := 46) C dX9_text_46 v_X9_172 (c_X9_plain hX (by repeat (first | assumption | refine MI_I (by decide) ?_ | refine MI_J ?_ | refine MI_sm (by assumption) (by decide) ?_ | refine MI_sn (by assumption) (by decide) ?_))) (by decide) (by decide) ⟨Nat.zero_le _, Nat.zero_le _⟩ (Nat.le_of_ble_eq_true rfl) (fun G46 hp46 => ?_)
      obtain ⟨hz46, hq46⟩ := hp46
      try simp only [zuI_1, zuI_2, zuJ_1, zuJ_2, zuJ_3, zuP_1, zuP_2, zuP_3, zuC_1, zuC_2, reduceIte, Nat.reduceEqDiff, false_and, and_false, true_and, and_true, and_self, or_true, true_or, or_false, false_or] at hq46
      have tr46_1001 := zsm_at hz46 1001 w 0 (by decide)
      try simp only [zuI_1, zuI_2, zuJ_1, zuJ_2, zuJ_3, zuP_1, zuP_2, zuP_3, zuC_1, zuC_2, reduceIte, Nat.reduceEqDiff, false_and, and_false, true_and, and_true, and_self, or_true, true_or, or_false, false_or] at tr46_1001
      have tr46_1006 := zsm_at hz46 1006 w 0 (by decide)
      try simp only [zuI_1, zuI_2, zuJ_1, zuJ_2, zuJ_3, zuP_1, zuP_2, zuP_3, zuC_1, zuC_2, reduceIte, Nat.reduceEqDiff, false_and, and_false, true_and, and_true, and_self, or_true, true_or, or_false, false_or] at tr46_1006
      have tr46_1007 := zsm_at hz46 1007 w 0 (by decide)
      try simp only [zuI_1, zuI_2, zuJ_1, zuJ_2, zuJ_3, zuP_1, zuP_2, zuP_3, zuC_1, zuC_2, reduceIte, Nat.reduceEqDiff, false_and, and_false, true_and, and_true, and_self, or_true, true_or, or_false, false_or] at tr46_1007
      have hMI := hq46.1
      have hRC := hq46.2
      refine zs_aload_n (pc := 49) C dX9_text_49 rfl ?_
      refine zVv0 (pc := 50) C dX9_text_50 v_X9_230 (c_X9_token hX (by omega)) (by decide) (by decide) ⟨Nat.zero_le _, Nat.zero_le _⟩ (Nat.le_of_ble_eq_true rfl) (fun G50 hp50 => ?_)
      obtain ⟨hz50, hq50⟩ := hp50
      have tr50_1001 := zsm_at hz50 1001 w 0 (by decide)
      try simp only [zuI_1, zuI_2, zuJ_1, zuJ_2, zuJ_3, zuP_1, zuP_2, zuP_3, zuC_1, zuC_2, reduceIte, Nat.reduceEqDiff, false_and, and_false, true_and, and_true, and_self, or_true, true_or, or_false, false_or] at tr50_1001
      have tr50_1006 := zsm_at hz50 1006 w 0 (by decide)
      try simp only [zuI_1, zuI_2, zuJ_1, zuJ_2, zuJ_3, zuP_1, zuP_2, zuP_3, zuC_1, zuC_2, reduceIte, Nat.reduceEqDiff, false_and, and_false, true_and, and_true, and_self, or_true, true_or, or_false, false_or] at tr50_1006
      have hTI := hq50.1
      refine zs_iconst (pc := 53) C dX9_text_53 (by decide) ?_
      refine zs_istore_n (pc := 54) C dX9_text_54 (by decide) ?_
      dsimp only [zset, zclr, znone]
      have L55 : ∀ (nn : Nat) (x2 : Int) (G1 : zH), (zsm [1007, 1008, 1009, 1010, 1004, 1005, 1011, 2063, 2064, 2065, 1018, 2066, 2067, 2068, 2069, 1019, 2074, 2075, 2076, 2078, 1043, 1021, 2077, 1042, 1044, 1045, 1046, 1047, 2071, 2072, 2073, 2061, 2062, 1017, 2070, 1020, 2060, 2059, 1012, 1013, 1014, 1015, 1016, 2081, 2082, 2083, 2084, 2085, 2086, 2087, 2088, 2089, 2090, 1083, 1084, 1086, 1001, 1002, 1006] G G1) → (MI Γ w G1) → (TI w G1) → (RC Γ w G1) → (G1.1 1001 w 0 = 0) → (701 - G1.1 1010 w 0).toNat < nn → Z p l e (zrm 6) s m args below meth c Γ 3 0 0 (MQ below (zQc Γ (zpi (fun x G' => zsm [1007, 1008, 1009, 1010, 1004, 1005, 1011, 2063, 2064, 2065, 1018, 2066, 2067, 2068, 2069, 1019, 2074, 2075, 2076, 2078, 1043, 1021, 2077, 1042, 1044, 1045, 1046, 1047, 2071, 2072, 2073, 2061, 2062, 1017, 2070, 1020, 2060, 2059, 1012, 1013, 1014, 1015, 1016, 2081, 2082, 2083, 2084, 2085, 2086, 2087, 2088, 2089, 2090, 1083, 1084, 1086, 1001, 1002, 1006] G G' ∧ (MI Γ w G' ∧ (0 ≤ k ∧ k ≤ G.1 1001 w 0 → G'.1 1001 w 0 = 0) ∧ (¬ (0 ≤ k ∧ k ≤ G.1 1001 w 0) → G'.1 1001 w 0 = G.1 1001 w 0))))) args s 0 0 (zA Γ)) 55 [some (zr 10 w), some (zi k), some (zi x2)] [] G1 := by
        intro nn
        induction nn with
        | zero => intro x2 G1 h55_0 h55_1 h55_2 h55_3 h55_4 hm; exact absurd hm (Nat.not_lt_zero _)
        | succ nn ih55 =>
          intro x2 G1 h55_0 h55_1 h55_2 h55_3 h55_4 hm55
          refine zs_good (fun hGdg => ?_)
          have hbg_1010 := hGdg.1 1010 w 0
          rw [r_1010] at hbg_1010
          refine zs_aload_n (pc := 55) C dX9_text_55 rfl ?_
          refine zs_geti (r := 1008) (pc := 56) C dX9_text_56 w_X9_196 f_10_8 rfl (r_1008 0) (fun v56 e56 l56 u56 => ?_)
          refine zs_if_eq (tgt := 77) (pc := 59) C dX9_text_59 (by decide) (fun h59 => ?_) (fun h59 => ?_)
          · skip
            refine zs_aload_n (pc := 77) C dX9_text_77 rfl ?_
            refine zVv0 (pc := 78) C dX9_text_78 v_X9_175 (c_X9_keepText hX (by repeat (first | assumption | refine MI_I (by decide) ?_ | refine MI_J ?_ | refine MI_sm (by assumption) (by decide) ?_ | refine MI_sn (by assumption) (by decide) ?_)) (by repeat (first | assumption | refine RC_I (by decide) ?_ | refine RC_sm (by assumption) (by decide) ?_))) (by decide) (by decide) ⟨Nat.zero_le _, Nat.zero_le _⟩ (Nat.le_of_ble_eq_true rfl) (fun G78 hp78 => ?_)
            obtain ⟨hz78, hq78⟩ := hp78
            have tr78_1001 := zsm_at hz78 1001 w 0 (by decide)
            try simp only [zuI_1, zuI_2, zuJ_1, zuJ_2, zuJ_3, zuP_1, zuP_2, zuP_3, zuC_1, zuC_2, reduceIte, Nat.reduceEqDiff, false_and, and_false, true_and, and_true, and_self, or_true, true_or, or_false, false_or] at tr78_1001
            have tr78_1006 := zsm_at hz78 1006 w 0 (by decide)
            try simp only [zuI_1, zuI_2, zuJ_1, zuJ_2, zuJ_3, zuP_1, zuP_2, zuP_3, zuC_1, zuC_2, reduceIte, Nat.reduceEqDiff, false_and, and_false, true_and, and_true, and_self, or_true, true_or, or_false, false_or] at tr78_1006
            have tr78_1007 := zsm_at hz78 1007 w 0 (by decide)
            try simp only [zuI_1, zuI_2, zuJ_1, zuJ_2, zuJ_3, zuP_1, zuP_2, zuP_3, zuC_1, zuC_2, reduceIte, Nat.reduceEqDiff, false_and, and_false, true_and, and_true, and_self, or_true, true_or, or_false, false_or] at tr78_1007
            have hMI := hq78
            refine zs_iload_n (pc := 81) C dX9_text_81 rfl ?_
            exact zs_iret (pc := 82) C hr hlk dX9_text_82 ⟨by repeat (first | exact zsm_rf | assumption | refine zsm_C (by decide) ?_ | refine zsm_I (by decide) ?_ | refine zsm_J ?_ | refine zsm_c (by assumption) (by decide) ?_), ⟨(by repeat (first | assumption | refine MI_I (by decide) ?_ | refine MI_J ?_ | refine MI_sm (by assumption) (by decide) ?_ | refine MI_sn (by assumption) (by decide) ?_)), fun q => by first | omega | (simp only [zuI_1, zuI_2, zuJ_1, zuJ_2, zuJ_3, zuP_1, zuP_2, zuP_3, zuC_1, zuC_2, reduceIte, Nat.reduceEqDiff, false_and, and_false, true_and, and_true, and_self, or_true, true_or, or_false, false_or] <;> omega), fun q => by first | omega | (simp only [zuI_1, zuI_2, zuJ_1, zuJ_2, zuJ_3, zuP_1, zuP_2, zuP_3, zuC_1, zuC_2, reduceIte, Nat.reduceEqDiff, false_and, and_false, true_and, and_true, and_self, or_true, true_or, or_false, false_or] <;> omega)⟩⟩
          · skip
            refine zs_aload_n (pc := 62) C dX9_text_62 rfl ?_
            refine zVi0 (pc := 63) C dX9_text_63 v_X9_307 (c_X9_lineRead hX (by repeat (first | assumption | refine MI_I (by decide) ?_ | refine MI_J ?_ | refine MI_sm (by assumption) (by decide) ?_ | refine MI_sn (by assumption) (by decide) ?_)) (by repeat (first | assumption | refine TI_I (by decide) ?_ | refine TI_sm (by assumption) (by decide) ?_)) (by repeat (first | assumption | refine RC_I (by decide) ?_ | refine RC_sm (by assumption) (by decide) ?_))) (by decide) (by decide) ⟨Nat.zero_le _, Nat.zero_le _⟩ (Nat.le_of_ble_eq_true rfl) (fun x63 G63 l63 u63 hp63 => ?_)
            obtain ⟨hz63, hq63⟩ := hp63
            have tr63_1001 := zsm_at hz63 1001 w 0 (by decide)
            try simp only [zuI_1, zuI_2, zuJ_1, zuJ_2, zuJ_3, zuP_1, zuP_2, zuP_3, zuC_1, zuC_2, reduceIte, Nat.reduceEqDiff, false_and, and_false, true_and, and_true, and_self, or_true, true_or, or_false, false_or] at tr63_1001
            have tr63_1006 := zsm_at hz63 1006 w 0 (by decide)
            try simp only [zuI_1, zuI_2, zuJ_1, zuJ_2, zuJ_3, zuP_1, zuP_2, zuP_3, zuC_1, zuC_2, reduceIte, Nat.reduceEqDiff, false_and, and_false, true_and, and_true, and_self, or_true, true_or, or_false, false_or] at tr63_1006
            have hMI := hq63.2.1
            have hx := hq63.2.2
            refine zs_if_ne (tgt := 71) (pc := 66) C dX9_text_66 (by decide) (fun h66 => ?_) (fun h66 => ?_)
            · skip
              have hy := hx (by omega)
              have hTI := hy.1
              have hRC := hy.2.1
              have hat := hy.2.2
              first | refine zs_iinc (pc := 71) C dX9_text_71 rfl (by decide) (by omega) ?_ | refine zs_iincF (pc := 71) C dX9_text_71 rfl (by decide) (fun z71 hz711 hz712 => ?_)
              dsimp only [zset, zclr, znone]
              refine zs_goto (tgt := 55) (pc := 74) C dX9_text_74 (by decide) ?_
              exact zs_wk (ih55 _ _ (by repeat (first | exact zsm_rf | assumption | refine zsm_C (by decide) ?_ | refine zsm_I (by decide) ?_ | refine zsm_J ?_ | refine zsm_c (by assumption) (by decide) ?_)) (by repeat (first | assumption | refine MI_I (by decide) ?_ | refine MI_J ?_ | refine MI_sm (by assumption) (by decide) ?_ | refine MI_sn (by assumption) (by decide) ?_)) (by repeat (first | assumption | refine TI_I (by decide) ?_ | refine TI_sm (by assumption) (by decide) ?_)) (by repeat (first | assumption | refine RC_I (by decide) ?_ | refine RC_sm (by assumption) (by decide) ?_)) (by first | omega | (simp only [zuI_1, zuI_2, zuJ_1, zuJ_2, zuJ_3, zuP_1, zuP_2, zuP_3, zuC_1, zuC_2, reduceIte, Nat.reduceEqDiff, false_and, and_false, true_and, and_true, and_self, or_true, true_or, or_false, false_or]; omega)) (by first | omega | (simp only [zuI_1, zuI_2, zuJ_1, zuJ_2, zuJ_3, zuP_1, zuP_2, zuP_3, zuC_1, zuC_2, reduceIte, Nat.reduceEqDiff, false_and, and_false, true_and, and_true, and_self, or_true, true_or, or_false, false_or]; omega))) (zwk_s rfl (zwk_s rfl (zwk_s rfl zwk_0)))
            · skip
              refine zs_iconst (pc := 69) C dX9_text_69 (by decide) ?_
              exact zs_iret (pc := 70) C hr hlk dX9_text_70 ⟨by repeat (first | exact zsm_rf | assumption | refine zsm_C (by decide) ?_ | refine zsm_I (by decide) ?_ | refine zsm_J ?_ | refine zsm_c (by assumption) (by decide) ?_), ⟨(by repeat (first | assumption | refine MI_I (by decide) ?_ | refine MI_J ?_ | refine MI_sm (by assumption) (by decide) ?_ | refine MI_sn (by assumption) (by decide) ?_)), fun q => by first | omega | (simp only [zuI_1, zuI_2, zuJ_1, zuJ_2, zuJ_3, zuP_1, zuP_2, zuP_3, zuC_1, zuC_2, reduceIte, Nat.reduceEqDiff, false_and, and_false, true_and, and_true, and_self, or_true, true_or, or_false, false_or] <;> omega), fun q => by first | omega | (simp only [zuI_1, zuI_2, zuJ_1, zuJ_2, zuJ_3, zuP_1, zuP_2, zuP_3, zuC_1, zuC_2, reduceIte, Nat.reduceEqDiff, false_and, and_false, true_and, and_true, and_self, or_true, true_or, or_false, false_or] <;> omega)⟩⟩
      exact zs_wk (L55 _ _ _ (by repeat (first | exact zsm_rf | assumption | refine zsm_C (by decide) ?_ | refine zsm_I (by decide) ?_ | refine zsm_J ?_ | refine zsm_c (by assumption) (by decide) ?_)) (by repeat (first | assumption | refine MI_I (by decide) ?_ | refine MI_J ?_ | refine MI_sm (by assumption) (by decide) ?_ | refine MI_sn (by assumption) (by decide) ?_)) (by repeat (first | assumption | refine TI_I (by decide) ?_ | refine TI_sm (by assumption) (by decide) ?_)) (by repeat (first | assumption | refine RC_I (by decide) ?_ | refine RC_sm (by assumption) (by decide) ?_)) (by first | omega | (simp only [zuI_1, zuI_2, zuJ_1, zuJ_2, zuJ_3, zuP_1, zuP_2, zuP_3, zuC_1, zuC_2, reduceIte, Nat.reduceEqDiff, false_and, and_false, true_and, and_true, and_self, or_true, true_or, or_false, false_or]; omega)) (Nat.lt_succ_self _)) (zwk_s rfl (zwk_s rfl (zwk_s rfl zwk_0)))
    · skip
      refine zs_bipush (pc := 17) C dX9_text_17 (by decide) (by decide) ?_
      exact zs_iret (pc := 19) C hr hlk dX9_text_19 ⟨by repeat (first | exact zsm_rf | assumption | refine zsm_C (by decide) ?_ | refine zsm_I (by decide) ?_ | refine zsm_J ?_ | refine zsm_c (by assumption) (by decide) ?_), ⟨(by repeat (first | assumption | refine MI_I (by decide) ?_ | refine MI_J ?_ | refine MI_sm (by assumption) (by decide) ?_ | refine MI_sn (by assumption) (by decide) ?_)), fun q => by first | omega | (simp only [zuI_1, zuI_2, zuJ_1, zuJ_2, zuJ_3, zuP_1, zuP_2, zuP_3, zuC_1, zuC_2, reduceIte, Nat.reduceEqDiff, false_and, and_false, true_and, and_true, and_self, or_true, true_or, or_false, false_or] <;> omega), fun q => by first | omega | (simp only [zuI_1, zuI_2, zuJ_1, zuJ_2, zuJ_3, zuP_1, zuP_2, zuP_3, zuC_1, zuC_2, reduceIte, Nat.reduceEqDiff, false_and, and_false, true_and, and_true, and_self, or_true, true_or, or_false, false_or] <;> omega)⟩⟩
