set_option maxHeartbeats 4000000 in
set_option maxRecDepth 100000 in
theorem c_X9_lawOfK {l : Launch} {Γ : zΓ} {G : zH} {w : Nat} {k : Int} {sg nb pt ot : Nat → Int} (hX : zXs Γ) (hk : 0 ≤ k ∧ k < 7) (hb : 0 ≤ (G.1 2072 (Γ.2.1 w 35) k.toNat) ∧ (G.1 2072 (Γ.2.1 w 35) k.toNat) < (G.1 2073 (Γ.2.1 w 36) k.toNat) ∧ (G.1 2073 (Γ.2.1 w 36) k.toNat) ≤ 64) (hO : smO sg nb pt ot (G.1 2072 (Γ.2.1 w 35) k.toNat).toNat ((G.1 2073 (Γ.2.1 w 36) k.toNat) - (G.1 2072 (Γ.2.1 w 35) k.toNat)).toNat) (hR : (∀ j : Nat, (G.1 2072 (Γ.2.1 w 35) k.toNat) ≤ j → j < (G.1 2073 (Γ.2.1 w 36) k.toNat) → G.1 2074 (Γ.2.1 w 37) j = rk (sg j) ∧ G.1 2075 (Γ.2.1 w 38) j = pt j ∧ G.1 2076 (Γ.2.1 w 39) j = ot j)) (hn : ∀ j : Nat, j < 7 → -2147483648 ≤ (G.2.1 2079 (Γ.2.1 w 48)) j ∧ (G.2.1 2079 (Γ.2.1 w 48)) j ≤ 2147483647) : zMet l Γ yX9_lawOf cX9_lawOf 3 (some .long) 2 [zr 10 w, zi k] G (zpj (fun x G' => zsm [1050] G G' ∧ (G'.1 1050 w 0 = (if vG sg pt ot (G.2.1 2079 (Γ.2.1 w 48)) (G.1 2072 (Γ.2.1 w 35) k.toNat).toNat ((G.1 2073 (Γ.2.1 w 36) k.toNat) - (G.1 2072 (Γ.2.1 w 35) k.toNat)).toNat = 1 then 0 else 1) ∧ x = (if vG sg pt ot (G.2.1 2079 (Γ.2.1 w 48)) (G.1 2072 (Γ.2.1 w 35) k.toNat).toNat ((G.1 2073 (Γ.2.1 w 36) k.toNat) - (G.1 2072 (Γ.2.1 w 35) k.toNat)).toNat = 1 then lV sg pt ot (G.2.1 2079 (Γ.2.1 w 48)) (G.1 2072 (Γ.2.1 w 35) k.toNat) (G.1 2073 (Γ.2.1 w 36) k.toNat) else 0) ∧ zsj [2080] G G'))) := by
  refine zMet_of RX9 hX (by decide) rfl (Nat.le_of_ble_eq_true rfl) ?_
  intro p e s m args below meth c C hr hlk
  show Z p l e (zrm 2) s m args below meth c Γ 3 0 0 (MQ below (zQc Γ (zpj (fun x G' => zsm [1050] G G' ∧ (G'.1 1050 w 0 = (if vG sg pt ot (G.2.1 2079 (Γ.2.1 w 48)) (G.1 2072 (Γ.2.1 w 35) k.toNat).toNat ((G.1 2073 (Γ.2.1 w 36) k.toNat) - (G.1 2072 (Γ.2.1 w 35) k.toNat)).toNat = 1 then 0 else 1) ∧ x = (if vG sg pt ot (G.2.1 2079 (Γ.2.1 w 48)) (G.1 2072 (Γ.2.1 w 35) k.toNat).toNat ((G.1 2073 (Γ.2.1 w 36) k.toNat) - (G.1 2072 (Γ.2.1 w 35) k.toNat)).toNat = 1 then lV sg pt ot (G.2.1 2079 (Γ.2.1 w 48)) (G.1 2072 (Γ.2.1 w 35) k.toNat) (G.1 2073 (Γ.2.1 w 36) k.toNat) else 0) ∧ zsj [2080] G G')))) args s 0 0 (zA Γ)) 0 [some (zr 10 w), some (zi k), none] [] G
  refine zs_loc 1 rfl (fun ha1 hb1 => ?_)
  refine zs_aload_n (pc := 0) C dX9_lawOf_0 rfl ?_
  refine zs_iconst (pc := 1) C dX9_lawOf_1 (by decide) ?_
  refine zs_putz (r := 1050) (pc := 2) C dX9_lawOf_2 w_X9_357 f_10_50 rfl (r_1050 0) (by omega) (by omega) ?_
  refine zs_aload_n (pc := 5) C dX9_lawOf_5 rfl ?_
  refine zs_getf (pc := 6) C dX9_lawOf_6 w_X9_60 f_10_35 (by decide) ?_
  refine zs_iload_n (pc := 9) C dX9_lawOf_9 rfl ?_
  refine zs_iald (r := 2072) (pc := 10) C dX9_lawOf_10 a_72 (by decide) (by omega) rfl (r_2072 _) (fun v10 e10 l10 u10 => ?_)
  try simp only [zuI_1, zuI_2, zuJ_1, zuJ_2, zuJ_3, zuP_1, zuP_2, zuP_3, zuC_1, zuC_2, reduceIte, Nat.reduceEqDiff, false_and, and_false, true_and, and_true, and_self, or_true, true_or, or_false, false_or] at e10
  refine zs_istore_n (pc := 11) C dX9_lawOf_11 (by decide) ?_
  dsimp only [zset, zclr, znone]
  have L12 : ∀ (nn : Nat) (x2 : Int) (G1 : zH), ((G.1 2072 (Γ.2.1 w 35) k.toNat) ≤ x2 ∧ x2 ≤ (G.1 2073 (Γ.2.1 w 36) k.toNat)) → (zsm [1050] G G1) → (RI sg pt ot (G.2.1 2079 (Γ.2.1 w 48)) (G.1 2072 (Γ.2.1 w 35) k.toNat).toNat (x2 - (G.1 2072 (Γ.2.1 w 35) k.toNat)).toNat (G1.1 1050 w 0) (G1.2.1 2080 (Γ.2.1 w 49))) → (zsj [2080] G G1) → (64 - x2).toNat < nn → Z p l e (zrm 2) s m args below meth c Γ 3 0 0 (MQ below (zQc Γ (zpj (fun x G' => zsm [1050] G G' ∧ (G'.1 1050 w 0 = (if vG sg pt ot (G.2.1 2079 (Γ.2.1 w 48)) (G.1 2072 (Γ.2.1 w 35) k.toNat).toNat ((G.1 2073 (Γ.2.1 w 36) k.toNat) - (G.1 2072 (Γ.2.1 w 35) k.toNat)).toNat = 1 then 0 else 1) ∧ x = (if vG sg pt ot (G.2.1 2079 (Γ.2.1 w 48)) (G.1 2072 (Γ.2.1 w 35) k.toNat).toNat ((G.1 2073 (Γ.2.1 w 36) k.toNat) - (G.1 2072 (Γ.2.1 w 35) k.toNat)).toNat = 1 then lV sg pt ot (G.2.1 2079 (Γ.2.1 w 48)) (G.1 2072 (Γ.2.1 w 35) k.toNat) (G.1 2073 (Γ.2.1 w 36) k.toNat) else 0) ∧ zsj [2080] G G')))) args s 0 0 (zA Γ)) 12 [some (zr 10 w), some (zi k), some (zi x2)] [] G1 := by
    intro nn
    induction nn with
    | zero => intro x2 G1 h12_0 h12_1 h12_2 h12_3 hm; exact absurd hm (Nat.not_lt_zero _)
    | succ nn ih12 =>
      intro x2 G1 h12_0 h12_1 h12_2 h12_3 hm12
      refine zs_iload_n (pc := 12) C dX9_lawOf_12 rfl ?_
      refine zs_aload_n (pc := 13) C dX9_lawOf_13 rfl ?_
      refine zs_getf (pc := 14) C dX9_lawOf_14 w_X9_63 f_10_36 (by decide) ?_
      refine zs_iload_n (pc := 17) C dX9_lawOf_17 rfl ?_
      refine zs_iald (r := 2073) (pc := 18) C dX9_lawOf_18 a_73 (by decide) (by omega) rfl (r_2073 _) (fun v18 e18 l18 u18 => ?_)
      rw [h12_1.1 2073 (by decide)] at e18
      refine zs_icmp_ge (tgt := 39) (pc := 19) C dX9_lawOf_19 (by decide) (fun h19 => ?_) (fun h19 => ?_)
      · skip
        have hx2 : x2 = (G.1 2073 (Γ.2.1 w 36) k.toNat) := by omega
        rw [hx2] at h12_2
        have hE := RI_end h12_2 hb.1 hb.2.1
        have hL9 := h12_1.1 2073 (by decide)
        refine zs_aload_n (pc := 39) C dX9_lawOf_39 rfl ?_
        refine zs_getz (r := 1050) (pc := 40) C dX9_lawOf_40 w_X9_357 f_10_50 rfl (r_1050 0) (fun v40 e40 l40 u40 => ?_)
        refine zs_if_eq (tgt := 50) (pc := 43) C dX9_lawOf_43 (by decide) (fun h43 => ?_) (fun h43 => ?_)
        · skip
          refine zs_aload_n (pc := 50) C dX9_lawOf_50 rfl ?_
          refine zs_getf (pc := 51) C dX9_lawOf_51 w_X9_85 f_10_49 (by decide) ?_
          refine zs_aload_n (pc := 54) C dX9_lawOf_54 rfl ?_
          refine zs_getf (pc := 55) C dX9_lawOf_55 w_X9_63 f_10_36 (by decide) ?_
          refine zs_iload_n (pc := 58) C dX9_lawOf_58 rfl ?_
          refine zs_iald (r := 2073) (pc := 59) C dX9_lawOf_59 a_73 (by decide) (by omega) rfl (r_2073 _) (fun v59 e59 l59 u59 => ?_)
          rw [hL9] at e59
          refine zs_iconst (pc := 60) C dX9_lawOf_60 (by decide) ?_
          first | refine zs_isub (pc := 61) C dX9_lawOf_61 (by omega) ?_ | refine zs_isubF (pc := 61) C dX9_lawOf_61 (fun z61 hz611 hz612 => ?_)
          refine zs_lald (r := 2080) (pc := 62) C dX9_lawOf_62 a_80 (by decide) (by omega) rfl (fun v62 e62 l62 u62 => ?_)
          exact zs_lret (pc := 63) C hr hlk dX9_lawOf_63 ⟨h12_1, ⟨hE.1, by first | (rw [if_neg (fun q => by have h1 := hE.1; rw [if_pos q] at h1; omega)]) | (have hg : vG sg pt ot (G.2.1 2079 (Γ.2.1 w 48)) (G.1 2072 (Γ.2.1 w 35) k.toNat).toNat ((G.1 2073 (Γ.2.1 w 36) k.toNat) - (G.1 2072 (Γ.2.1 w 35) k.toNat)).toNat = 1 := (by by_cases q : vG sg pt ot (G.2.1 2079 (Γ.2.1 w 48)) (G.1 2072 (Γ.2.1 w 35) k.toNat).toNat ((G.1 2073 (Γ.2.1 w 36) k.toNat) - (G.1 2072 (Γ.2.1 w 35) k.toNat)).toNat = 1; exact q; exfalso; have h1 := hE.1; rw [if_neg q] at h1; omega); rw [if_pos hg, e62, e59]; exact hE.2 hg), h12_3⟩⟩
        · skip
          refine zs_lconst (n := 0) (pc := 46) C dX9_lawOf_46 rfl (by decide) ?_
          refine zs_goto (tgt := 63) (pc := 47) C dX9_lawOf_47 (by decide) ?_
          exact zs_lret (pc := 63) C hr hlk dX9_lawOf_63 ⟨h12_1, ⟨hE.1, by first | (rw [if_neg (fun q => by have h1 := hE.1; rw [if_pos q] at h1; omega)]) | (have hg : vG sg pt ot (G.2.1 2079 (Γ.2.1 w 48)) (G.1 2072 (Γ.2.1 w 35) k.toNat).toNat ((G.1 2073 (Γ.2.1 w 36) k.toNat) - (G.1 2072 (Γ.2.1 w 35) k.toNat)).toNat = 1 := (by by_cases q : vG sg pt ot (G.2.1 2079 (Γ.2.1 w 48)) (G.1 2072 (Γ.2.1 w 35) k.toNat).toNat ((G.1 2073 (Γ.2.1 w 36) k.toNat) - (G.1 2072 (Γ.2.1 w 35) k.toNat)).toNat = 1; exact q; exfalso; have h1 := hE.1; rw [if_neg q] at h1; omega); rw [if_pos hg, e62, e59]; exact hE.2 hg), h12_3⟩⟩
      · skip
        have hx := RI_pre h12_2 hO (by omega) (by omega)
        have ea := VI_at hb.1 h12_0.1
        rw [ea] at hx
        obtain ⟨c0, c4, c5, c6, c7⟩ := hx
        obtain ⟨c1, c2, c3⟩ := hR x2.toNat (by omega) (by omega)
        rw [← h12_1.1 2074 (by decide)] at c1
        rw [← h12_1.1 2075 (by decide)] at c2
        rw [← h12_1.1 2076 (by decide)] at c3
        have c8 : ∀ j : Nat, j < 7 → -2147483648 ≤ (G1.2.1 2079 (Γ.2.1 w 48)) j ∧ (G1.2.1 2079 (Γ.2.1 w 48)) j ≤ 2147483647 := fun j hj => by rw [h12_3 2079 (by decide)]; exact hn j hj
        refine zs_aload_n (pc := 22) C dX9_lawOf_22 rfl ?_
        refine zs_getf (pc := 23) C dX9_lawOf_23 w_X9_85 f_10_49 (by decide) ?_
        refine zs_iload_n (pc := 26) C dX9_lawOf_26 rfl ?_
        refine zs_aload_n (pc := 27) C dX9_lawOf_27 rfl ?_
        refine zs_iload_n (pc := 28) C dX9_lawOf_28 rfl ?_
        refine zVj1 (pc := 29) C dX9_lawOf_29 v_X9_414 (c_X9_valueOfK (s := sg x2.toNat) (p := pt x2.toNat) (q := ot x2.toNat) hX (by omega) c0 c1 c2 c3 c4 c5 c6 c7 c8) (by decide) (by decide) ⟨Nat.zero_le _, Nat.zero_le _⟩ (Nat.le_of_ble_eq_true rfl) (fun x29 G29 l29 u29 hp29 => ?_)
        obtain ⟨hz29, hq29⟩ := hp29
        obtain ⟨f29, y29, i29, j29⟩ := hq29
        clear c4 c5 c6 c7
        have hnm : G1.2.1 2079 (Γ.2.1 w 48) = G.2.1 2079 (Γ.2.1 w 48) := by rw [h12_3 2079 (by decide)]
        rw [hnm] at f29 y29
        have h31 : ∀ j, (zuJ G29 2080 (Γ.2.1 w 49) x2.toNat x29).2.1 2080 (Γ.2.1 w 49) j = if j = ((G.1 2072 (Γ.2.1 w 35) k.toNat)).toNat + (x2 - (G.1 2072 (Γ.2.1 w 35) k.toNat)).toNat then x29 else G1.2.1 2080 (Γ.2.1 w 49) j := fun j => by rw [zuJ_at, j29, ea]
        have hRI := RI_s (e9 := G29.1 1050 w 0) (x := x29) (V' := (zuJ G29 2080 (Γ.2.1 w 49) x2.toNat x29).2.1 2080 (Γ.2.1 w 49)) h12_2 hO (by omega) (by rw [ea]; exact f29) (by rw [ea]; exact y29) i29 h31
        clear f29 y29
        refine zs_last (r := 2080) (pc := 32) C dX9_lawOf_32 a_80 (by decide) (by omega) rfl ?_
        first | refine zs_iinc (pc := 33) C dX9_lawOf_33 rfl (by decide) (by omega) ?_ | refine zs_iincF (pc := 33) C dX9_lawOf_33 rfl (by decide) (fun z33 hz331 hz332 => ?_)
        dsimp only [zset, zclr, znone]
        refine zs_goto (tgt := 12) (pc := 36) C dX9_lawOf_36 (by decide) ?_
        exact zs_wk (ih12 _ _ (by omega) (by repeat (first | exact zsm_rf | assumption | refine zsm_C (by decide) ?_ | refine zsm_I (by decide) ?_ | refine zsm_J ?_ | refine zsm_c (by assumption) (by decide) ?_)) (by rw [show (x2 + 1 - (G.1 2072 (Γ.2.1 w 35) k.toNat)).toNat = (x2 - (G.1 2072 (Γ.2.1 w 35) k.toNat)).toNat + 1 by omega]; exact hRI) (zsj_J (by decide) (zsj_e j29 h12_3)) (by first | omega | (simp only [zuI_1, zuI_2, zuJ_1, zuJ_2, zuJ_3, zuP_1, zuP_2, zuP_3, zuC_1, zuC_2, reduceIte, Nat.reduceEqDiff, false_and, and_false, true_and, and_true, and_self, or_true, true_or, or_false, false_or]; omega))) (zwk_s rfl (zwk_s rfl (zwk_s rfl zwk_0)))
  exact zs_wk (L12 _ _ _ (by omega) (by repeat (first | exact zsm_rf | assumption | refine zsm_C (by decide) ?_ | refine zsm_I (by decide) ?_ | refine zsm_J ?_ | refine zsm_c (by assumption) (by decide) ?_)) (by rw [zuI_1, if_pos ⟨rfl, rfl, rfl⟩]; exact RI_0 e10) zsj_rf (Nat.lt_succ_self _)) (zwk_s rfl (zwk_s rfl (zwk_s rfl zwk_0)))
