/-- as the reference is at a text's beginning -/
def gZ (Γ : zΓ) (w : Nat) (G : zH) : Prop := G.1 1017 w 0 = 0 ∧ G.1 1018 w 0 = 0 ∧ G.1 1019 w 0 = 0 ∧ G.1 1020 w 0 = 0 ∧ G.1 1021 w 0 = 0 ∧ G.1 1045 w 0 = 0 ∧ G.1 2059 (Γ.2.1 w 22) 4 = 100 ∧ G.1 2059 (Γ.2.1 w 22) 5 = 5 ∧ G.1 2059 (Γ.2.1 w 22) 6 = 0 ∧ G.1 2059 (Γ.2.1 w 22) 7 = 0 ∧ (∀ j : Nat, j < 4 → G.1 2060 (Γ.2.1 w 23) j = 0) ∧ (∀ j : Nat, 7 ≤ j → j < 14 → G.1 2071 (Γ.2.1 w 34) j = 0)
theorem ob_0 : ∀ j : Nat, j < 4 → ob 0 j = 0 := by decide +kernel
theorem gD_0 {b : Nat → Int} {n : Int} {Γ : zΓ} {w : Nat} {A B : aS} {G : zH} (hA : sCl A) (hB : ∀ f j : Nat, f ≠ 0 → B f j = A f j) (h : gZ Γ w G) : gD Γ w B G := by
  obtain ⟨a0, a1, a2, a3, a4, a8, a16, a20, a21, a12, a13, a14, a15⟩ := hA
  obtain ⟨z1, z2, z3, z4, z5, z6, z7, z8, z9, z10, z11, z12⟩ := h
  refine ⟨?_, ?_, ?_, ?_, ?_, ?_, ?_, ?_⟩
  · unfold gS
    rw [hB 4 0 (by decide), a4 0 (by decide)]
    exact ⟨z1, by decide, by decide, fun j hj => by omega⟩
  · unfold gP
    rw [hB 4 1 (by decide), a4 1 (by decide)]
    exact ⟨z2, by decide, by decide, fun j hj => by omega, fun j hj => by omega, fun j hj hj2 => by rw [hB 8 j (by decide)]; exact a8 j hj2⟩
  · unfold gC
    rw [hB 4 2 (by decide), a4 2 (by decide)]
    exact ⟨z3, by decide, by decide, fun j hj => by omega⟩
  · unfold gM
    rw [hB 4 3 (by decide), a4 3 (by decide)]
    exact ⟨z4, by decide, by decide, fun j hj => by omega⟩
  · refine ⟨⟨0, by decide, by rw [hB 3 0 (by decide), a3]; rfl⟩, fun j hj => ⟨?_, ?_⟩⟩
    · rw [hB 3 0 (by decide), a3, ob_0 j hj]; exact z11 j hj
    · rw [hB (12 + j) 0 (by omega)]
      rcases (show j = 0 ∨ j = 1 ∨ j = 2 ∨ j = 3 by omega) with rfl | rfl | rfl | rfl
      · exact z7.trans a12.symm
      · exact z8.trans a13.symm
      · exact z9.trans a14.symm
      · exact z10.trans a15.symm
  · intro j hj
    rw [hB 16 j (by decide), hB 17 j (by decide), (a16 j hj).1, (a16 j hj).2, if_neg (by decide)]
    exact ⟨z12 (7 + j) (by omega) (by omega), fun q => absurd q (by decide)⟩
  · unfold gK
    rw [hB 20 0 (by decide), hB 21 0 (by decide), a20, a21]
    exact ⟨z5, z6, fun j hj => by omega⟩
  · rw [hB 20 0 (by decide), hB 21 0 (by decide), a20, a21]
theorem gZ_sm {Γ : zΓ} {w : Nat} {G G1 : zH} {rs : List Nat} (hs : zsm rs G G1) (hr : ∀ r ∈ [1017, 1018, 1019, 1020, 1021, 1045, 2059, 2060, 2071], r ∉ rs) (h : gZ Γ w G) : gZ Γ w G1 := by
  unfold gZ at *
  rw [hs.1 1017 (hr _ (by decide)), hs.1 1018 (hr _ (by decide)), hs.1 1019 (hr _ (by decide)), hs.1 1020 (hr _ (by decide)), hs.1 1021 (hr _ (by decide)), hs.1 1045 (hr _ (by decide)), hs.1 2059 (hr _ (by decide)), hs.1 2060 (hr _ (by decide)), hs.1 2071 (hr _ (by decide))]
  exact h
theorem gT_0 {b : Nat → Int} {n : Int} {Γ : zΓ} {w : Nat} {A : aS} {G G1 : zH} (hn : 0 ≤ n) (hA : A 0 0 = -1) (hb : G.1 2057 (Γ.2.1 w 0) = b) (h6 : G.1 1006 w 0 = n) (h7 : G.1 1007 w 0 = 0) (hs : zsm [1007, 1008, 1009, 1010] G G1) (hq : G1.1 1010 w 0 = sk (G.1 2057 (Γ.2.1 w 0)) (G.1 1006 w 0) (G.1 1007 w 0) ∧ G1.1 1007 w 0 = tkN (G.1 2057 (Γ.2.1 w 0)) (G.1 1006 w 0) (sk (G.1 2057 (Γ.2.1 w 0)) (G.1 1006 w 0) (G.1 1007 w 0)) ∧ tkM (tkK (G.1 2057 (Γ.2.1 w 0)) (G.1 1006 w 0) (sk (G.1 2057 (Γ.2.1 w 0)) (G.1 1006 w 0) (G.1 1007 w 0))) (tkV (G.1 2057 (Γ.2.1 w 0)) (G.1 1006 w 0) (sk (G.1 2057 (Γ.2.1 w 0)) (G.1 1006 w 0) (G.1 1007 w 0))) (G1.1 1008 w 0) (G1.1 1009 w 0)) : gT b n Γ w (sNext b n A) G1 := by
  have e0 : (sNext b n A) 0 0 = 0 := by
    unfold sNext
    rw [if_pos (Or.inl (by omega)), up_eq]
    omega
  have e1 : tP b n (sNext b n A) = sk b n 0 := by
    unfold tP
    rw [e0]
    rfl
  rw [hb, h6, h7, ← e1] at hq
  refine ⟨by rw [hs.1 2057 (by decide)]; exact hb, by rw [hs.1 1006 (by decide)]; exact h6, by rw [e0]; decide, ?_, hq⟩
  rw [e1]
  exact sp_le hn
theorem sLN_s {b : Nat → Int} {n : Int} {A : aS} {m : Nat} {c : Int} (h0 : A 1 0 = 0) (hk : tK b n A ≠ 0) (hm : 1 ≤ m) : sLN b n m A = sLN b n (m - 1) (sLine b n A) ∧ sLC b n m c A = sLC b n (m - 1) (c + 1) (sLine b n A) := by
  obtain ⟨k, rfl⟩ : ∃ k, m = k + 1 := ⟨m - 1, by omega⟩
  rw [sLN, sLC, if_pos ⟨h0, hk⟩, if_pos ⟨h0, hk⟩]
  exact ⟨rfl, rfl⟩

set_option maxHeartbeats 4000000 in
set_option maxRecDepth 100000 in
theorem c_X9_plainG {l : Launch} {Γ : zΓ} {G : zH} {w : Nat}  (hX : zXs Γ) (hM : MI Γ w G) : zMet l Γ yX9_plain cX9_plain 2 none 0 [zr 10 w] G (zpv (fun G' => zsm [1017, 1018, 1019, 1020, 1021, 1045, 2059, 2060, 2071] G G' ∧ (MI Γ w G' ∧ RC Γ w G' ∧ gZ Γ w G'))) := by
  refine zMet_of RX9 hX (by decide) rfl (Nat.le_of_ble_eq_true rfl) ?_
  intro p e s m args below meth c C hr hlk
  show Z p l e (zrm 0) s m args below meth c Γ 2 0 0 (MQ below (zQc Γ (zpv (fun G' => zsm [1017, 1018, 1019, 1020, 1021, 1045, 2059, 2060, 2071] G G' ∧ (MI Γ w G' ∧ RC Γ w G' ∧ gZ Γ w G')))) args s 0 0 (zA Γ)) 0 [some (zr 10 w), none] [] G
  have hoo4 := rs_2059 (4 : Int).toNat
  have hoo5 := rs_2059 (5 : Int).toNat
  have hoo6 := rs_2059 (6 : Int).toNat
  have hoo7 := rs_2059 (7 : Int).toNat
  refine zs_aload_n (pc := 0) C dX9_plain_0 rfl ?_
  refine zs_iconst (pc := 1) C dX9_plain_1 (by decide) ?_
  refine zs_puti (r := 1017) (pc := 2) C dX9_plain_2 w_X9_240 f_10_17 rfl (r_1017 0) (by omega) ?_
  refine zs_aload_n (pc := 5) C dX9_plain_5 rfl ?_
  refine zs_iconst (pc := 6) C dX9_plain_6 (by decide) ?_
  refine zs_puti (r := 1018) (pc := 7) C dX9_plain_7 w_X9_243 f_10_18 rfl (r_1018 0) (by omega) ?_
  refine zs_aload_n (pc := 10) C dX9_plain_10 rfl ?_
  refine zs_iconst (pc := 11) C dX9_plain_11 (by decide) ?_
  refine zs_puti (r := 1019) (pc := 12) C dX9_plain_12 w_X9_246 f_10_19 rfl (r_1019 0) (by omega) ?_
  refine zs_aload_n (pc := 15) C dX9_plain_15 rfl ?_
  refine zs_iconst (pc := 16) C dX9_plain_16 (by decide) ?_
  refine zs_puti (r := 1020) (pc := 17) C dX9_plain_17 w_X9_249 f_10_20 rfl (r_1020 0) (by omega) ?_
  refine zs_aload_n (pc := 20) C dX9_plain_20 rfl ?_
  refine zs_iconst (pc := 21) C dX9_plain_21 (by decide) ?_
  refine zs_puti (r := 1021) (pc := 22) C dX9_plain_22 w_X9_252 f_10_21 rfl (r_1021 0) (by omega) ?_
  refine zs_aload_n (pc := 25) C dX9_plain_25 rfl ?_
  refine zs_iconst (pc := 26) C dX9_plain_26 (by decide) ?_
  refine zs_puti (r := 1045) (pc := 27) C dX9_plain_27 w_X9_255 f_10_45 rfl (r_1045 0) (by omega) ?_
  refine zs_aload_n (pc := 30) C dX9_plain_30 rfl ?_
  refine zs_getf (pc := 31) C dX9_plain_31 w_X9_20 f_10_22 (by decide) ?_
  refine zs_iconst (pc := 34) C dX9_plain_34 (by decide) ?_
  refine zs_bipush (pc := 35) C dX9_plain_35 (by decide) (by decide) ?_
  refine zs_iast (r := 2059) (pc := 37) C dX9_plain_37 a_59 (by decide) (by omega) rfl (show zrg 2059 (4 : Int).toNat = ((zrg 2059 (4 : Int).toNat).1, (zrg 2059 (4 : Int).toNat).2) from rfl) (by omega) ?_
  refine zs_aload_n (pc := 38) C dX9_plain_38 rfl ?_
  refine zs_getf (pc := 39) C dX9_plain_39 w_X9_20 f_10_22 (by decide) ?_
  refine zs_iconst (pc := 42) C dX9_plain_42 (by decide) ?_
  refine zs_iconst (pc := 43) C dX9_plain_43 (by decide) ?_
  refine zs_iast (r := 2059) (pc := 44) C dX9_plain_44 a_59 (by decide) (by omega) rfl (show zrg 2059 (5 : Int).toNat = ((zrg 2059 (5 : Int).toNat).1, (zrg 2059 (5 : Int).toNat).2) from rfl) (by omega) ?_
  refine zs_aload_n (pc := 45) C dX9_plain_45 rfl ?_
  refine zs_getf (pc := 46) C dX9_plain_46 w_X9_20 f_10_22 (by decide) ?_
  refine zs_bipush (pc := 49) C dX9_plain_49 (by decide) (by decide) ?_
  refine zs_iconst (pc := 51) C dX9_plain_51 (by decide) ?_
  refine zs_iast (r := 2059) (pc := 52) C dX9_plain_52 a_59 (by decide) (by omega) rfl (show zrg 2059 (6 : Int).toNat = ((zrg 2059 (6 : Int).toNat).1, (zrg 2059 (6 : Int).toNat).2) from rfl) (by omega) ?_
  refine zs_aload_n (pc := 53) C dX9_plain_53 rfl ?_
  refine zs_getf (pc := 54) C dX9_plain_54 w_X9_20 f_10_22 (by decide) ?_
  refine zs_bipush (pc := 57) C dX9_plain_57 (by decide) (by decide) ?_
  refine zs_iconst (pc := 59) C dX9_plain_59 (by decide) ?_
  refine zs_iast (r := 2059) (pc := 60) C dX9_plain_60 a_59 (by decide) (by omega) rfl (show zrg 2059 (7 : Int).toNat = ((zrg 2059 (7 : Int).toNat).1, (zrg 2059 (7 : Int).toNat).2) from rfl) (by omega) ?_
  refine zs_heap (P := fun G1 => zsm [1017, 1018, 1019, 1020, 1021, 1045, 2059] G G1 ∧ G1.1 1045 w 0 = 0 ∧ G1.1 1021 w 0 = 0 ∧ (G1.1 1017 w 0 = 0 ∧ G1.1 1018 w 0 = 0 ∧ G1.1 1019 w 0 = 0 ∧ G1.1 1020 w 0 = 0 ∧ G1.1 1021 w 0 = 0 ∧ G1.1 1045 w 0 = 0 ∧ G1.1 2059 (Γ.2.1 w 22) 4 = 100 ∧ G1.1 2059 (Γ.2.1 w 22) 5 = 5 ∧ G1.1 2059 (Γ.2.1 w 22) 6 = 0 ∧ G1.1 2059 (Γ.2.1 w 22) 7 = 0)) ⟨(by repeat (first | exact zsm_rf | assumption | refine zsm_C (by decide) ?_ | refine zsm_I (by decide) ?_ | refine zsm_J ?_ | refine zsm_c (by assumption) (by decide) ?_)), by simp only [zuI_1, zuI_2, zuJ_1, zuJ_2, zuJ_3, zuP_1, zuP_2, zuP_3, zuC_1, zuC_2, reduceIte, Nat.reduceEqDiff, false_and, and_false, true_and, and_true, and_self, or_true, true_or, or_false, false_or], by simp only [zuI_1, zuI_2, zuJ_1, zuJ_2, zuJ_3, zuP_1, zuP_2, zuP_3, zuC_1, zuC_2, reduceIte, Nat.reduceEqDiff, false_and, and_false, true_and, and_true, and_self, or_true, true_or, or_false, false_or], (by refine ⟨?_, ?_, ?_, ?_, ?_, ?_, ?_, ?_, ?_, ?_⟩ <;> simp [zuI_1])⟩ (fun G1 hG1 => ?_)
  obtain ⟨hh1, hh2, hh3, hh4⟩ := hG1
  refine zs_iconst (pc := 61) C dX9_plain_61 (by decide) ?_
  refine zs_istore_n (pc := 62) C dX9_plain_62 (by decide) ?_
  dsimp only [zset, zclr, znone]
  have L63 : ∀ (nn : Nat) (x1 : Int) (G2 : zH), (0 ≤ x1 ∧ x1 ≤ 4) → (zsm [2060] G1 G2) → (∀ j : Nat, (j : Int) < x1 → G2.1 2060 (Γ.2.1 w 23) j = 0) → (4 - x1).toNat < nn → Z p l e (zrm 0) s m args below meth c Γ 2 0 0 (MQ below (zQc Γ (zpv (fun G' => zsm [1017, 1018, 1019, 1020, 1021, 1045, 2059, 2060, 2071] G G' ∧ (MI Γ w G' ∧ RC Γ w G' ∧ gZ Γ w G')))) args s 0 0 (zA Γ)) 63 [some (zr 10 w), some (zi x1)] [] G2 := by
    intro nn
    induction nn with
    | zero => intro x1 G2 h63_0 h63_1 h63_2 hm; exact absurd hm (Nat.not_lt_zero _)
    | succ nn ih63 =>
      intro x1 G2 h63_0 h63_1 h63_2 hm63
      refine zs_iload_n (pc := 63) C dX9_plain_63 rfl ?_
      refine zs_iconst (pc := 64) C dX9_plain_64 (by decide) ?_
      refine zs_icmp_ge (tgt := 81) (pc := 65) C dX9_plain_65 (by decide) (fun h65 => ?_) (fun h65 => ?_)
      · skip
        refine zs_bipush (pc := 81) C dX9_plain_81 (by decide) (by decide) ?_
        refine zs_istore_n (pc := 83) C dX9_plain_83 (by decide) ?_
        dsimp only [zset, zclr, znone]
        have L84 : ∀ (nn : Nat) (x1 : Int) (G3 : zH), (7 ≤ x1 ∧ x1 ≤ 14) → (zsm [1017, 1018, 1019, 1020, 1021, 1045, 2059, 2060, 2071] G G3) → (MI Γ w G3) → (LZ Γ w G3 x1) → (G3.1 1045 w 0 = 0 ∧ G3.1 1021 w 0 = 0) → (G3.1 1017 w 0 = 0 ∧ G3.1 1018 w 0 = 0 ∧ G3.1 1019 w 0 = 0 ∧ G3.1 1020 w 0 = 0 ∧ G3.1 1021 w 0 = 0 ∧ G3.1 1045 w 0 = 0 ∧ G3.1 2059 (Γ.2.1 w 22) 4 = 100 ∧ G3.1 2059 (Γ.2.1 w 22) 5 = 5 ∧ G3.1 2059 (Γ.2.1 w 22) 6 = 0 ∧ G3.1 2059 (Γ.2.1 w 22) 7 = 0) → (∀ j : Nat, j < 4 → G3.1 2060 (Γ.2.1 w 23) j = 0) → (14 - x1).toNat < nn → Z p l e (zrm 0) s m args below meth c Γ 2 0 0 (MQ below (zQc Γ (zpv (fun G' => zsm [1017, 1018, 1019, 1020, 1021, 1045, 2059, 2060, 2071] G G' ∧ (MI Γ w G' ∧ RC Γ w G' ∧ gZ Γ w G')))) args s 0 0 (zA Γ)) 84 [some (zr 10 w), some (zi x1)] [] G3 := by
          intro nn
          induction nn with
          | zero => intro x1 G3 h84_0 h84_1 h84_2 h84_3 h84_4 h84_5 h84_6 hm; exact absurd hm (Nat.not_lt_zero _)
          | succ nn ih84 =>
            intro x1 G3 h84_0 h84_1 h84_2 h84_3 h84_4 h84_5 h84_6 hm84
            refine zs_iload_n (pc := 84) C dX9_plain_84 rfl ?_
            refine zs_bipush (pc := 85) C dX9_plain_85 (by decide) (by decide) ?_
            refine zs_icmp_ge (tgt := 103) (pc := 87) C dX9_plain_87 (by decide) (fun h87 => ?_) (fun h87 => ?_)
            · skip
              exact zs_vret (pc := 103) C hr hlk dX9_plain_103 ⟨by repeat (first | exact zsm_rf | assumption | refine zsm_C (by decide) ?_ | refine zsm_I (by decide) ?_ | refine zsm_J ?_ | refine zsm_c (by assumption) (by decide) ?_), ⟨h84_2, RC_z (by omega) h84_3 (by omega), (by obtain ⟨q1, q2, q3, q4, q5, q6, q7, q8, q9, q10⟩ := h84_5; exact ⟨q1, q2, q3, q4, q5, q6, q7, q8, q9, q10, h84_6, fun j j1 j2 => h84_3 j j1 (by omega)⟩)⟩⟩
            · skip
              refine zs_aload_n (pc := 90) C dX9_plain_90 rfl ?_
              refine zs_getf (pc := 91) C dX9_plain_91 w_X9_57 f_10_34 (by decide) ?_
              refine zs_iload_n (pc := 94) C dX9_plain_94 rfl ?_
              refine zs_iconst (pc := 95) C dX9_plain_95 (by decide) ?_
              refine zs_zast (r := 2071) (pc := 96) C dX9_plain_96 a_71 (by decide) (by omega) rfl (r_2071 _) (by omega) (by omega) ?_
              first | refine zs_iinc (pc := 97) C dX9_plain_97 rfl (by decide) (by omega) ?_ | refine zs_iincF (pc := 97) C dX9_plain_97 rfl (by decide) (fun z97 hz971 hz972 => ?_)
              dsimp only [zset, zclr, znone]
              refine zs_goto (tgt := 84) (pc := 100) C dX9_plain_100 (by decide) ?_
              exact zs_wk (ih84 _ _ (by omega) (by repeat (first | exact zsm_rf | assumption | refine zsm_C (by decide) ?_ | refine zsm_I (by decide) ?_ | refine zsm_J ?_ | refine zsm_c (by assumption) (by decide) ?_)) (MI_h71 (by omega) h84_2) (LZ_s (by omega) h84_3) (by first | omega | (simp only [zuI_1, zuI_2, zuJ_1, zuJ_2, zuJ_3, zuP_1, zuP_2, zuP_3, zuC_1, zuC_2, reduceIte, Nat.reduceEqDiff, false_and, and_false, true_and, and_true, and_self, or_true, true_or, or_false, false_or]; omega)) (by simp (disch := decide) only [zuI_nf]; exact h84_5) (fun j hj => by rw [zuI_nf (by decide)]; exact h84_6 j hj) (by first | omega | (simp only [zuI_1, zuI_2, zuJ_1, zuJ_2, zuJ_3, zuP_1, zuP_2, zuP_3, zuC_1, zuC_2, reduceIte, Nat.reduceEqDiff, false_and, and_false, true_and, and_true, and_self, or_true, true_or, or_false, false_or]; omega))) (zwk_s rfl (zwk_s rfl zwk_0))
        exact zs_wk (L84 _ _ _ (by omega) (by repeat (first | exact zsm_rf | assumption | refine zsm_C (by decide) ?_ | refine zsm_I (by decide) ?_ | refine zsm_J ?_ | refine zsm_c (by assumption) (by decide) ?_)) (by repeat (first | assumption | refine MI_I (by decide) ?_ | refine MI_J ?_ | refine MI_sm (by assumption) (by decide) ?_ | refine MI_sn (by assumption) (by decide) ?_)) LZ_0 (by have q1 := zsm_at h63_1 1045 w 0 (by decide); have q2 := zsm_at h63_1 1021 w 0 (by decide); omega) (by rw [h63_1.1 1017 (by decide), h63_1.1 1018 (by decide), h63_1.1 1019 (by decide), h63_1.1 1020 (by decide), h63_1.1 1021 (by decide), h63_1.1 1045 (by decide), h63_1.1 2059 (by decide)]; exact hh4) (fun j hj => h63_2 j (by omega)) (Nat.lt_succ_self _)) (zwk_s rfl (zwk_s rfl zwk_0))
      · skip
        refine zs_aload_n (pc := 68) C dX9_plain_68 rfl ?_
        refine zs_getf (pc := 69) C dX9_plain_69 w_X9_23 f_10_23 (by decide) ?_
        refine zs_iload_n (pc := 72) C dX9_plain_72 rfl ?_
        refine zs_iconst (pc := 73) C dX9_plain_73 (by decide) ?_
        refine zs_zast (r := 2060) (pc := 74) C dX9_plain_74 a_60 (by decide) (by omega) rfl (r_2060 _) (by omega) (by omega) ?_
        first | refine zs_iinc (pc := 75) C dX9_plain_75 rfl (by decide) (by omega) ?_ | refine zs_iincF (pc := 75) C dX9_plain_75 rfl (by decide) (fun z75 hz751 hz752 => ?_)
        dsimp only [zset, zclr, znone]
        refine zs_goto (tgt := 63) (pc := 78) C dX9_plain_78 (by decide) ?_
        exact zs_wk (ih63 _ _ (by omega) (by repeat (first | exact zsm_rf | assumption | refine zsm_C (by decide) ?_ | refine zsm_I (by decide) ?_ | refine zsm_J ?_ | refine zsm_c (by assumption) (by decide) ?_)) (fun j hj => by simp only [zuI_1, zuI_2, zuJ_1, zuJ_2, zuJ_3, zuP_1, zuP_2, zuP_3, zuC_1, zuC_2, reduceIte, Nat.reduceEqDiff, false_and, and_false, true_and, and_true, and_self, or_true, true_or, or_false, false_or]; by_cases q : j = x1.toNat; (rw [if_pos q]); (rw [if_neg q]; exact h63_2 j (by omega))) (by first | omega | (simp only [zuI_1, zuI_2, zuJ_1, zuJ_2, zuJ_3, zuP_1, zuP_2, zuP_3, zuC_1, zuC_2, reduceIte, Nat.reduceEqDiff, false_and, and_false, true_and, and_true, and_self, or_true, true_or, or_false, false_or]; omega))) (zwk_s rfl (zwk_s rfl zwk_0))
  exact zs_wk (L63 _ _ _ (by omega) zsm_rf (fun j hj => by omega) (Nat.lt_succ_self _)) (zwk_s rfl (zwk_s rfl zwk_0))

set_option maxHeartbeats 4000000 in
set_option maxRecDepth 100000 in
theorem c_X9_textG {l : Launch} {Γ : zΓ} {G : zH} {w : Nat} {k : Int} {A : aS}  (hX : zXs Γ) (hM : MI Γ w G)(hA : sCl A) : zMet l Γ yX9_text cX9_text 3 (some .int) 6 [zr 10 w, zi k] G (zpi (fun x G' => zsm [1007, 1008, 1009, 1010, 1004, 1005, 1011, 2063, 2064, 2065, 1018, 2066, 2067, 2068, 2069, 1019, 2074, 2075, 2076, 2078, 1043, 1021, 2077, 1042, 1044, 1045, 1046, 1047, 2071, 2072, 2073, 2061, 2062, 1017, 2070, 1020, 2060, 2059, 1012, 1013, 1014, 1015, 1016, 2081, 2082, 2083, 2084, 2085, 2086, 2087, 2088, 2089, 2090, 1083, 1084, 1086, 1001, 1002, 1006] G G' ∧ (MI Γ w G' ∧ (0 ≤ k ∧ k ≤ G.1 1001 w 0 → G'.1 1001 w 0 = 0 ∧ G'.1 1004 w 0 = (sLN (G.1 2057 (Γ.2.1 w 0)) k 700 (sNext (G.1 2057 (Γ.2.1 w 0)) k A)) 1 0 ∧ G'.1 1005 w 0 = (sLN (G.1 2057 (Γ.2.1 w 0)) k 700 (sNext (G.1 2057 (Γ.2.1 w 0)) k A)) 2 0 ∧ x = (if (sLN (G.1 2057 (Γ.2.1 w 0)) k 700 (sNext (G.1 2057 (Γ.2.1 w 0)) k A)) 1 0 = 0 then sLC (G.1 2057 (Γ.2.1 w 0)) k 700 0 (sNext (G.1 2057 (Γ.2.1 w 0)) k A) else -1)) ∧ (¬ (0 ≤ k ∧ k ≤ G.1 1001 w 0) → x = -2 ∧ G'.1 1001 w 0 = G.1 1001 w 0 ∧ G'.1 1004 w 0 = G.1 1004 w 0 ∧ G'.1 1005 w 0 = G.1 1005 w 0)))) := by
  refine zMet_of RX9 hX (by decide) rfl (Nat.le_of_ble_eq_true rfl) ?_
  intro p e s m args below meth c C hr hlk
  show Z p l e (zrm 6) s m args below meth c Γ 3 0 0 (MQ below (zQc Γ (zpi (fun x G' => zsm [1007, 1008, 1009, 1010, 1004, 1005, 1011, 2063, 2064, 2065, 1018, 2066, 2067, 2068, 2069, 1019, 2074, 2075, 2076, 2078, 1043, 1021, 2077, 1042, 1044, 1045, 1046, 1047, 2071, 2072, 2073, 2061, 2062, 1017, 2070, 1020, 2060, 2059, 1012, 1013, 1014, 1015, 1016, 2081, 2082, 2083, 2084, 2085, 2086, 2087, 2088, 2089, 2090, 1083, 1084, 1086, 1001, 1002, 1006] G G' ∧ (MI Γ w G' ∧ (0 ≤ k ∧ k ≤ G.1 1001 w 0 → G'.1 1001 w 0 = 0 ∧ G'.1 1004 w 0 = (sLN (G.1 2057 (Γ.2.1 w 0)) k 700 (sNext (G.1 2057 (Γ.2.1 w 0)) k A)) 1 0 ∧ G'.1 1005 w 0 = (sLN (G.1 2057 (Γ.2.1 w 0)) k 700 (sNext (G.1 2057 (Γ.2.1 w 0)) k A)) 2 0 ∧ x = (if (sLN (G.1 2057 (Γ.2.1 w 0)) k 700 (sNext (G.1 2057 (Γ.2.1 w 0)) k A)) 1 0 = 0 then sLC (G.1 2057 (Γ.2.1 w 0)) k 700 0 (sNext (G.1 2057 (Γ.2.1 w 0)) k A) else -1)) ∧ (¬ (0 ≤ k ∧ k ≤ G.1 1001 w 0) → x = -2 ∧ G'.1 1001 w 0 = G.1 1001 w 0 ∧ G'.1 1004 w 0 = G.1 1004 w 0 ∧ G'.1 1005 w 0 = G.1 1005 w 0))))) args s 0 0 (zA Γ)) 0 [some (zr 10 w), some (zi k), none] [] G
  refine zs_loc 1 rfl (fun ha1 hb1 => ?_)
  refine zs_good (fun hGdy => ?_)
  have hby_1001 := hGdy.1 1001 w 0
  rw [r_1001] at hby_1001
  refine zs_aload_n (pc := 0) C dX9_text_0 rfl ?_
  refine zs_iconst (pc := 1) C dX9_text_1 (by decide) ?_
  refine zs_puti (r := 1002) (pc := 2) C dX9_text_2 w_X9_178 f_10_2 rfl (r_1002 0) (by omega) ?_
  refine zs_iload_n (pc := 5) C dX9_text_5 rfl ?_
  refine zs_if_lt (tgt := 17) (pc := 6) C dX9_text_6 (by decide) (fun h6 => ?_) (fun h6 => ?_)
  · skip
    refine zs_bipush (pc := 17) C dX9_text_17 (by decide) (by decide) ?_
    exact zs_iret (pc := 19) C hr hlk dX9_text_19 ⟨by repeat (first | exact zsm_rf | assumption | refine zsm_C (by decide) ?_ | refine zsm_I (by decide) ?_ | refine zsm_J ?_ | refine zsm_c (by assumption) (by decide) ?_), ⟨(by repeat (first | assumption | refine MI_I (by decide) ?_ | refine MI_J ?_ | refine MI_sm (by assumption) (by decide) ?_ | refine MI_sn (by assumption) (by decide) ?_)), fun q => by omega, fun _ => ⟨rfl, by simp only [zuI_1, zuI_2, zuJ_1, zuJ_2, zuJ_3, zuP_1, zuP_2, zuP_3, zuC_1, zuC_2, reduceIte, Nat.reduceEqDiff, false_and, and_false, true_and, and_true, and_self, or_true, true_or, or_false, false_or], by simp only [zuI_1, zuI_2, zuJ_1, zuJ_2, zuJ_3, zuP_1, zuP_2, zuP_3, zuC_1, zuC_2, reduceIte, Nat.reduceEqDiff, false_and, and_false, true_and, and_true, and_self, or_true, true_or, or_false, false_or], by simp only [zuI_1, zuI_2, zuJ_1, zuJ_2, zuJ_3, zuP_1, zuP_2, zuP_3, zuC_1, zuC_2, reduceIte, Nat.reduceEqDiff, false_and, and_false, true_and, and_true, and_self, or_true, true_or, or_false, false_or]⟩⟩⟩
  · skip
    refine zs_iload_n (pc := 9) C dX9_text_9 rfl ?_
    refine zs_aload_n (pc := 10) C dX9_text_10 rfl ?_
    refine zs_geti (r := 1001) (pc := 11) C dX9_text_11 w_X9_181 f_10_1 rfl (r_1001 0) (fun v11 e11 l11 u11 => ?_)
    try simp only [zuI_1, zuI_2, zuJ_1, zuJ_2, zuJ_3, zuP_1, zuP_2, zuP_3, zuC_1, zuC_2, reduceIte, Nat.reduceEqDiff, false_and, and_false, true_and, and_true, and_self, or_true, true_or, or_false, false_or] at e11
    refine zs_icmp_le (tgt := 20) (pc := 14) C dX9_text_14 (by decide) (fun h14 => ?_) (fun h14 => ?_)
    · skip
      refine zs_aload_n (pc := 20) C dX9_text_20 rfl ?_
      refine zs_iload_n (pc := 21) C dX9_text_21 rfl ?_
      refine zs_puti (r := 1006) (pc := 22) C dX9_text_22 w_X9_190 f_10_6 rfl (r_1006 0) (by omega) ?_
      refine zs_aload_n (pc := 25) C dX9_text_25 rfl ?_
      refine zs_iconst (pc := 26) C dX9_text_26 (by decide) ?_
      refine zs_puti (r := 1001) (pc := 27) C dX9_text_27 w_X9_181 f_10_1 rfl (r_1001 0) (by omega) ?_
      refine zs_aload_n (pc := 30) C dX9_text_30 rfl ?_
      refine zs_iconst (pc := 31) C dX9_text_31 (by decide) ?_
      refine zs_puti (r := 1004) (pc := 32) C dX9_text_32 w_X9_184 f_10_4 rfl (r_1004 0) (by omega) ?_
      refine zs_aload_n (pc := 35) C dX9_text_35 rfl ?_
      refine zs_iconst (pc := 36) C dX9_text_36 (by decide) ?_
      refine zs_puti (r := 1005) (pc := 37) C dX9_text_37 w_X9_16 f_10_5 rfl (r_1005 0) (by omega) ?_
      refine zs_aload_n (pc := 40) C dX9_text_40 rfl ?_
      refine zs_iconst (pc := 41) C dX9_text_41 (by decide) ?_
      refine zs_puti (r := 1007) (pc := 42) C dX9_text_42 w_X9_193 f_10_7 rfl (r_1007 0) (by omega) ?_
      refine zs_aload_n (pc := 45) C dX9_text_45 rfl ?_
      refine zVv0 (pc := 46) C dX9_text_46 v_X9_172 (c_X9_plainG hX (by repeat (first | assumption | refine MI_I (by decide) ?_ | refine MI_J ?_ | refine MI_sm (by assumption) (by decide) ?_ | refine MI_sn (by assumption) (by decide) ?_))) (by decide) (by decide) ⟨Nat.zero_le _, Nat.zero_le _⟩ (Nat.le_of_ble_eq_true rfl) (fun G46 hp46 => ?_)
      obtain ⟨hz46, hq46⟩ := hp46
      try simp only [zuI_1, zuI_2, zuJ_1, zuJ_2, zuJ_3, zuP_1, zuP_2, zuP_3, zuC_1, zuC_2, reduceIte, Nat.reduceEqDiff, false_and, and_false, true_and, and_true, and_self, or_true, true_or, or_false, false_or] at hq46
      have tr46_1001 := zsm_at hz46 1001 w 0 (by decide)
      try simp only [zuI_1, zuI_2, zuJ_1, zuJ_2, zuJ_3, zuP_1, zuP_2, zuP_3, zuC_1, zuC_2, reduceIte, Nat.reduceEqDiff, false_and, and_false, true_and, and_true, and_self, or_true, true_or, or_false, false_or] at tr46_1001
      refine zs_heap (P := fun G2 => zsm [1007, 1008, 1009, 1010, 1004, 1005, 1011, 2063, 2064, 2065, 1018, 2066, 2067, 2068, 2069, 1019, 2074, 2075, 2076, 2078, 1043, 1021, 2077, 1042, 1044, 1045, 1046, 1047, 2071, 2072, 2073, 2061, 2062, 1017, 2070, 1020, 2060, 2059, 1012, 1013, 1014, 1015, 1016, 2081, 2082, 2083, 2084, 2085, 2086, 2087, 2088, 2089, 2090, 1083, 1084, 1086, 1001, 1002, 1006] G G2 ∧ MI Γ w G2 ∧ RC Γ w G2 ∧ gZ Γ w G2 ∧ G2.1 1006 w 0 = k ∧ G2.1 1007 w 0 = 0 ∧ G2.1 1004 w 0 = 0 ∧ G2.1 1005 w 0 = -1 ∧ G2.1 1001 w 0 = 0) ⟨(by repeat (first | exact zsm_rf | assumption | refine zsm_C (by decide) ?_ | refine zsm_I (by decide) ?_ | refine zsm_J ?_ | refine zsm_c (by assumption) (by decide) ?_)), hq46.1, hq46.2.1, hq46.2.2, ?_, ?_, ?_, ?_, ?_⟩ (fun G2 hG2 => ?_)
      · have q := zsm_at hz46 1006 w 0 (by decide); simp only [zuI_1, zuI_2, zuJ_1, zuJ_2, zuJ_3, zuP_1, zuP_2, zuP_3, zuC_1, zuC_2, reduceIte, Nat.reduceEqDiff, false_and, and_false, true_and, and_true, and_self, or_true, true_or, or_false, false_or] at q; omega
      · have q := zsm_at hz46 1007 w 0 (by decide); simp only [zuI_1, zuI_2, zuJ_1, zuJ_2, zuJ_3, zuP_1, zuP_2, zuP_3, zuC_1, zuC_2, reduceIte, Nat.reduceEqDiff, false_and, and_false, true_and, and_true, and_self, or_true, true_or, or_false, false_or] at q; omega
      · have q := zsm_at hz46 1004 w 0 (by decide); simp only [zuI_1, zuI_2, zuJ_1, zuJ_2, zuJ_3, zuP_1, zuP_2, zuP_3, zuC_1, zuC_2, reduceIte, Nat.reduceEqDiff, false_and, and_false, true_and, and_true, and_self, or_true, true_or, or_false, false_or] at q; omega
      · have q := zsm_at hz46 1005 w 0 (by decide); simp only [zuI_1, zuI_2, zuJ_1, zuJ_2, zuJ_3, zuP_1, zuP_2, zuP_3, zuC_1, zuC_2, reduceIte, Nat.reduceEqDiff, false_and, and_false, true_and, and_true, and_self, or_true, true_or, or_false, false_or] at q; omega
      · have q := zsm_at hz46 1001 w 0 (by decide); simp only [zuI_1, zuI_2, zuJ_1, zuJ_2, zuJ_3, zuP_1, zuP_2, zuP_3, zuC_1, zuC_2, reduceIte, Nat.reduceEqDiff, false_and, and_false, true_and, and_true, and_self, or_true, true_or, or_false, false_or] at q; omega
      obtain ⟨hh1, hh2, hh3, hh4, hh5, hh6, hh7, hh8, hh9⟩ := hG2
      refine zs_aload_n (pc := 49) C dX9_text_49 rfl ?_
      refine zVv0 (pc := 50) C dX9_text_50 v_X9_230 (c_X9_tokenF hX (by omega)) (by decide) (by decide) ⟨Nat.zero_le _, Nat.zero_le _⟩ (Nat.le_of_ble_eq_true rfl) (fun G50 hp50 => ?_)
      obtain ⟨hz50, hq50⟩ := hp50
      have tr50_1001 := zsm_at hz50 1001 w 0 (by decide)
      try simp only [zuI_1, zuI_2, zuJ_1, zuJ_2, zuJ_3, zuP_1, zuP_2, zuP_3, zuC_1, zuC_2, reduceIte, Nat.reduceEqDiff, false_and, and_false, true_and, and_true, and_self, or_true, true_or, or_false, false_or] at tr50_1001
      have hb9 : G2.1 2057 (Γ.2.1 w 0) = (G.1 2057 (Γ.2.1 w 0)) := by rw [hh1.1 2057 (by decide)]
      have hg9 := gT_0 (b := (G.1 2057 (Γ.2.1 w 0))) (n := k) (A := A) (by omega) hA.1 hb9 hh5 hh6 hz50 hq50
      have hr9 : gR (G.1 2057 (Γ.2.1 w 0)) k Γ w (sNext (G.1 2057 (Γ.2.1 w 0)) k A) G50 := ⟨hg9, ⟨by rw [sNext_f (by decide)]; exact hA.2.1, by rw [hz50.1 1004 (by decide)]; exact hh7, by rw [hz50.1 1005 (by decide), sNext_f (by decide), hA.2.2.1]; exact hh8⟩, gD_0 (b := (G.1 2057 (Γ.2.1 w 0))) (n := k) hA (fun f j q => sNext_f q) (gZ_sm hz50 (by decide) hh4)⟩
      refine zs_iconst (pc := 53) C dX9_text_53 (by decide) ?_
      refine zs_istore_n (pc := 54) C dX9_text_54 (by decide) ?_
      dsimp only [zset, zclr, znone]
      have L55 : ∀ (nn : Nat) (x2 : Int) (G1 : zH) (A1 : aS) (m1 : Nat), (zsm [1007, 1008, 1009, 1010, 1004, 1005, 1011, 2063, 2064, 2065, 1018, 2066, 2067, 2068, 2069, 1019, 2074, 2075, 2076, 2078, 1043, 1021, 2077, 1042, 1044, 1045, 1046, 1047, 2071, 2072, 2073, 2061, 2062, 1017, 2070, 1020, 2060, 2059, 1012, 1013, 1014, 1015, 1016, 2081, 2082, 2083, 2084, 2085, 2086, 2087, 2088, 2089, 2090, 1083, 1084, 1086, 1001, 1002, 1006] G G1) → (MI Γ w G1) → (gR (G.1 2057 (Γ.2.1 w 0)) k Γ w A1 G1) → (RC Γ w G1) → (G1.1 1001 w 0 = 0) → (sLN (G.1 2057 (Γ.2.1 w 0)) k m1 A1 = sLN (G.1 2057 (Γ.2.1 w 0)) k 700 (sNext (G.1 2057 (Γ.2.1 w 0)) k A)) → (sLC (G.1 2057 (Γ.2.1 w 0)) k m1 x2 A1 = sLC (G.1 2057 (Γ.2.1 w 0)) k 700 0 (sNext (G.1 2057 (Γ.2.1 w 0)) k A)) → (k - tP (G.1 2057 (Γ.2.1 w 0)) k A1 ≤ m1) → (0 ≤ x2 ∧ x2 + m1 ≤ 700) → (701 - G1.1 1010 w 0).toNat < nn → Z p l e (zrm 6) s m args below meth c Γ 3 0 0 (MQ below (zQc Γ (zpi (fun x G' => zsm [1007, 1008, 1009, 1010, 1004, 1005, 1011, 2063, 2064, 2065, 1018, 2066, 2067, 2068, 2069, 1019, 2074, 2075, 2076, 2078, 1043, 1021, 2077, 1042, 1044, 1045, 1046, 1047, 2071, 2072, 2073, 2061, 2062, 1017, 2070, 1020, 2060, 2059, 1012, 1013, 1014, 1015, 1016, 2081, 2082, 2083, 2084, 2085, 2086, 2087, 2088, 2089, 2090, 1083, 1084, 1086, 1001, 1002, 1006] G G' ∧ (MI Γ w G' ∧ (0 ≤ k ∧ k ≤ G.1 1001 w 0 → G'.1 1001 w 0 = 0 ∧ G'.1 1004 w 0 = (sLN (G.1 2057 (Γ.2.1 w 0)) k 700 (sNext (G.1 2057 (Γ.2.1 w 0)) k A)) 1 0 ∧ G'.1 1005 w 0 = (sLN (G.1 2057 (Γ.2.1 w 0)) k 700 (sNext (G.1 2057 (Γ.2.1 w 0)) k A)) 2 0 ∧ x = (if (sLN (G.1 2057 (Γ.2.1 w 0)) k 700 (sNext (G.1 2057 (Γ.2.1 w 0)) k A)) 1 0 = 0 then sLC (G.1 2057 (Γ.2.1 w 0)) k 700 0 (sNext (G.1 2057 (Γ.2.1 w 0)) k A) else -1)) ∧ (¬ (0 ≤ k ∧ k ≤ G.1 1001 w 0) → x = -2 ∧ G'.1 1001 w 0 = G.1 1001 w 0 ∧ G'.1 1004 w 0 = G.1 1004 w 0 ∧ G'.1 1005 w 0 = G.1 1005 w 0))))) args s 0 0 (zA Γ)) 55 [some (zr 10 w), some (zi k), some (zi x2)] [] G1 := by
        intro nn
        induction nn with
        | zero => intro x2 G1 A1 m1 h55_0 h55_1 h55_2 h55_3 h55_4 h55_5 h55_6 h55_7 h55_8 hm; exact absurd hm (Nat.not_lt_zero _)
        | succ nn ih55 =>
          intro x2 G1 A1 m1 h55_0 h55_1 h55_2 h55_3 h55_4 h55_5 h55_6 h55_7 h55_8 hm55
          refine zs_good (fun hGdg => ?_)
          have hbg_1010 := hGdg.1 1010 w 0
          rw [r_1010] at hbg_1010
          have b10 := h55_2.1.2.2.2.2.1
          have bn := h55_2.1.2.2.2.1
          refine zs_aload_n (pc := 55) C dX9_text_55 rfl ?_
          refine zs_geti (r := 1008) (pc := 56) C dX9_text_56 w_X9_196 f_10_8 rfl (r_1008 0) (fun v56 e56 l56 u56 => ?_)
          refine zs_if_eq (tgt := 77) (pc := 59) C dX9_text_59 (by decide) (fun h59 => ?_) (fun h59 => ?_)
          · skip
            have nk : tK (G.1 2057 (Γ.2.1 w 0)) k A1 = 0 := (gT_end h55_2.1).mp (by omega)
            have hs9 := sLN_e (b := (G.1 2057 (Γ.2.1 w 0))) (n := k) (A := A1) (fun q => q.2 nk) m1 x2
            refine zs_aload_n (pc := 77) C dX9_text_77 rfl ?_
            refine zVv0 (pc := 78) C dX9_text_78 v_X9_175 (c_X9_keepText hX h55_1 h55_3) (by decide) (by decide) ⟨Nat.zero_le _, Nat.zero_le _⟩ (Nat.le_of_ble_eq_true rfl) (fun G78 hp78 => ?_)
            obtain ⟨hz78, hq78⟩ := hp78
            have tr78_1001 := zsm_at hz78 1001 w 0 (by decide)
            try simp only [zuI_1, zuI_2, zuJ_1, zuJ_2, zuJ_3, zuP_1, zuP_2, zuP_3, zuC_1, zuC_2, reduceIte, Nat.reduceEqDiff, false_and, and_false, true_and, and_true, and_self, or_true, true_or, or_false, false_or] at tr78_1001
            have hMI := hq78
            have u1 := zsm_at hz78 1001 w 0 (by decide)
            have u4 := zsm_at hz78 1004 w 0 (by decide)
            have u5 := zsm_at hz78 1005 w 0 (by decide)
            refine zs_iload_n (pc := 81) C dX9_text_81 rfl ?_
            exact zs_iret (pc := 82) C hr hlk dX9_text_82 ⟨by repeat (first | exact zsm_rf | assumption | refine zsm_C (by decide) ?_ | refine zsm_I (by decide) ?_ | refine zsm_J ?_ | refine zsm_c (by assumption) (by decide) ?_), ⟨hMI, fun _ => (by have e1 : sLN (G.1 2057 (Γ.2.1 w 0)) k 700 (sNext (G.1 2057 (Γ.2.1 w 0)) k A) = A1 := (by rw [← h55_5]; exact hs9.1); have e2 : sLC (G.1 2057 (Γ.2.1 w 0)) k 700 0 (sNext (G.1 2057 (Γ.2.1 w 0)) k A) = x2 := (by rw [← h55_6]; exact hs9.2); rw [e1, e2, if_pos h55_2.2.1.1]; have q8 := h55_2.2.1; have q1 := q8.1; have q2 := q8.2.1; have q3 := q8.2.2; exact ⟨by omega, by omega, by omega, rfl⟩), fun q => by omega⟩⟩
          · skip
            have nk : tK (G.1 2057 (Γ.2.1 w 0)) k A1 ≠ 0 := fun q => (by have q2 := (gT_end h55_2.1).mpr q; omega)
            have lt9 := tK_lt.mp nk
            have hs9 := sLN_s (c := x2) (m := m1) h55_2.2.1.1 nk (by omega)
            refine zs_aload_n (pc := 62) C dX9_text_62 rfl ?_
            refine zVi0 (pc := 63) C dX9_text_63 v_X9_307 (c_X9_lineReadG hX h55_1 h55_3 h55_2 (by omega)) (by decide) (by decide) ⟨Nat.zero_le _, Nat.zero_le _⟩ (Nat.le_of_ble_eq_true rfl) (fun x63 G63 l63 u63 hp63 => ?_)
            obtain ⟨hz63, hq63⟩ := hp63
            have tr63_1001 := zsm_at hz63 1001 w 0 (by decide)
            try simp only [zuI_1, zuI_2, zuJ_1, zuJ_2, zuJ_3, zuP_1, zuP_2, zuP_3, zuC_1, zuC_2, reduceIte, Nat.reduceEqDiff, false_and, and_false, true_and, and_true, and_self, or_true, true_or, or_false, false_or] at tr63_1001
            have hMI := hq63.2.1
            have hx := hq63.2.2.1
            have hy := hq63.2.2.2
            refine zs_if_ne (tgt := 71) (pc := 66) C dX9_text_66 (by decide) (fun h66 => ?_) (fun h66 => ?_)
            · skip
              have hy1 := hx (by omega)
              have s1 := hy1.1
              have s2 := hy1.2.1
              have s3 := hy1.2.2
              have s4 := s2.1.2.2.2.2.1
              clear hx hy hy1
              first | refine zs_iinc (pc := 71) C dX9_text_71 rfl (by decide) (by omega) ?_ | refine zs_iincF (pc := 71) C dX9_text_71 rfl (by decide) (fun z71 hz711 hz712 => ?_)
              dsimp only [zset, zclr, znone]
              refine zs_goto (tgt := 55) (pc := 74) C dX9_text_74 (by decide) ?_
              exact zs_wk (ih55 _ _ _ _ (by repeat (first | exact zsm_rf | assumption | refine zsm_C (by decide) ?_ | refine zsm_I (by decide) ?_ | refine zsm_J ?_ | refine zsm_c (by assumption) (by decide) ?_)) hMI s2 s1 (by rw [hz63.1 1001 (by decide)]; exact h55_4) (by rw [← h55_5]; exact hs9.1.symm) (by rw [← h55_6]; exact hs9.2.symm) (by omega) (by omega) (by omega)) (zwk_s rfl (zwk_s rfl (zwk_s rfl zwk_0)))
            · skip
              refine zs_iconst (pc := 69) C dX9_text_69 (by decide) ?_
              exact zs_iret (pc := 70) C hr hlk dX9_text_70 ⟨by repeat (first | exact zsm_rf | assumption | refine zsm_C (by decide) ?_ | refine zsm_I (by decide) ?_ | refine zsm_J ?_ | refine zsm_c (by assumption) (by decide) ?_), ⟨hMI, fun _ => (by have hFN := hy (by omega); have e1 : sLN (G.1 2057 (Γ.2.1 w 0)) k 700 (sNext (G.1 2057 (Γ.2.1 w 0)) k A) = sLine (G.1 2057 (Γ.2.1 w 0)) k A1 := (by rw [← h55_5, hs9.1]; exact (sLN_e (fun q => hFN.1 q.1) _ 0).1); rw [e1, if_neg hFN.1]; have q9 := zsm_at hz63 1001 w 0 (by decide); exact ⟨by omega, hFN.2.1, hFN.2.2, rfl⟩), fun q => by omega⟩⟩
      exact zs_wk (L55 _ _ _ _ _ (by repeat (first | exact zsm_rf | assumption | refine zsm_C (by decide) ?_ | refine zsm_I (by decide) ?_ | refine zsm_J ?_ | refine zsm_c (by assumption) (by decide) ?_)) (by repeat (first | assumption | refine MI_I (by decide) ?_ | refine MI_J ?_ | refine MI_sm (by assumption) (by decide) ?_ | refine MI_sn (by assumption) (by decide) ?_)) hr9 (by repeat (first | assumption | refine RC_I (by decide) ?_ | refine RC_sm (by assumption) (by decide) ?_)) (by rw [hz50.1 1001 (by decide)]; exact hh9) rfl rfl (by have q := hg9.2.2.2.2.1; have q2 := hg9.2.2.2.1; rw [(show tP (G.1 2057 (Γ.2.1 w 0)) k (sNext (G.1 2057 (Γ.2.1 w 0)) k A) = G50.1 1010 w 0 from q.symm)]; have q3 := sp_ge (f := fB) (b := G2.1 2057 (Γ.2.1 w 0)) (n := G2.1 1006 w 0) (p := G2.1 1007 w 0); have q4 := hq50.1; unfold sk at q4; omega) (by omega) (Nat.lt_succ_self _)) (zwk_s rfl (zwk_s rfl (zwk_s rfl zwk_0)))
    · skip
      refine zs_bipush (pc := 17) C dX9_text_17 (by decide) (by decide) ?_
      exact zs_iret (pc := 19) C hr hlk dX9_text_19 ⟨by repeat (first | exact zsm_rf | assumption | refine zsm_C (by decide) ?_ | refine zsm_I (by decide) ?_ | refine zsm_J ?_ | refine zsm_c (by assumption) (by decide) ?_), ⟨(by repeat (first | assumption | refine MI_I (by decide) ?_ | refine MI_J ?_ | refine MI_sm (by assumption) (by decide) ?_ | refine MI_sn (by assumption) (by decide) ?_)), fun q => by omega, fun _ => ⟨rfl, by simp only [zuI_1, zuI_2, zuJ_1, zuJ_2, zuJ_3, zuP_1, zuP_2, zuP_3, zuC_1, zuC_2, reduceIte, Nat.reduceEqDiff, false_and, and_false, true_and, and_true, and_self, or_true, true_or, or_false, false_or], by simp only [zuI_1, zuI_2, zuJ_1, zuJ_2, zuJ_3, zuP_1, zuP_2, zuP_3, zuC_1, zuC_2, reduceIte, Nat.reduceEqDiff, false_and, and_false, true_and, and_true, and_self, or_true, true_or, or_false, false_or], by simp only [zuI_1, zuI_2, zuJ_1, zuJ_2, zuJ_3, zuP_1, zuP_2, zuP_3, zuC_1, zuC_2, reduceIte, Nat.reduceEqDiff, false_and, and_false, true_and, and_true, and_self, or_true, true_or, or_false, false_or]⟩⟩⟩
