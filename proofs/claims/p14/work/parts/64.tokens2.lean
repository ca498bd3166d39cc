theorem sg_no {c d : Int} (h : c ≠ 59 ∧ c ≠ 40 ∧ c ≠ 41 ∧ c ≠ 43 ∧ c ≠ 45 ∧ c ≠ 42 ∧ c ≠ 47 ∧ c ≠ 61 ∧ c ≠ 60 ∧ c ≠ 62) : sgV c d = 0 ∧ sgW c d = 1 := by
  obtain ⟨h1, h2, h3, h4, h5, h6, h7, h8, h9, h10⟩ := h
  unfold sgV sgW
  rw [if_neg h1, if_neg h2, if_neg h3, if_neg h4, if_neg h5, if_neg h6, if_neg h7, if_neg h8, if_neg h9, if_neg h10, if_neg (by omega)]
  exact ⟨rfl, rfl⟩
theorem sg_59 {d : Int} : sgV 59 d = 17 ∧ sgW 59 d = 1 := by unfold sgV sgW; simp
theorem sg_40 {d : Int} : sgV 40 d = 15 ∧ sgW 40 d = 1 := by unfold sgV sgW; simp
theorem sg_41 {d : Int} : sgV 41 d = 16 ∧ sgW 41 d = 1 := by unfold sgV sgW; simp
theorem sg_43 {d : Int} : sgV 43 d = 11 ∧ sgW 43 d = 1 := by unfold sgV sgW; simp
theorem sg_45 {d : Int} : sgV 45 d = 12 ∧ sgW 45 d = 1 := by unfold sgV sgW; simp
theorem sg_42 {d : Int} : sgV 42 d = 13 ∧ sgW 42 d = 1 := by unfold sgV sgW; simp
theorem sg_47 {d : Int} : sgV 47 d = 14 ∧ sgW 47 d = 1 := by unfold sgV sgW; simp
theorem sg_61 {d : Int} : sgV 61 d = 7 ∧ sgW 61 d = 1 := by unfold sgV sgW; simp
theorem sg_60 {d : Int} : (d = 61 → sgV 60 d = 6 ∧ sgW 60 d = 2) ∧ (d = 62 → sgV 60 d = 8 ∧ sgW 60 d = 2) ∧ (d ≠ 61 → d ≠ 62 → sgV 60 d = 5 ∧ sgW 60 d = 1) := by
  refine ⟨fun h => ?_, fun h => ?_, fun h h2 => ?_⟩ <;> (unfold sgV sgW; simp [h]; try simp [h2])
theorem sg_62 {d : Int} : (d = 61 → sgV 62 d = 9 ∧ sgW 62 d = 2) ∧ (d ≠ 61 → sgV 62 d = 10 ∧ sgW 62 d = 1) := by
  refine ⟨fun h => ?_, fun h => ?_⟩ <;> (unfold sgV sgW; simp [h])

set_option maxHeartbeats 4000000 in
set_option maxRecDepth 100000 in
theorem c_X6_readSignF {l : Launch} {Γ : zΓ} {G : zH} {w : Nat} {a c9 : Int} (hX : zXs Γ) (hk : G.1 704 w 0 ≤ 700) (hat : G.1 706 w 0 ≤ 700) : zMet l Γ yX6_readSign cX6_readSign 3 none 1 [zr 7 w, zi a, zi c9] G (zpv (fun G' => zsm [704, 706, 2045, 2047] G G' ∧ (G'.1 704 w 0 = G.1 704 w 0 + 1 ∧ (∀ j : Nat, G'.1 2045 (Γ.2.1 w 1) j = if j = (G.1 704 w 0).toNat then (if sgV a c9 = 0 then 5 else 4) else G.1 2045 (Γ.2.1 w 1) j) ∧ (∀ j : Nat, G'.1 2047 (Γ.2.1 w 3) j = if j = (G.1 704 w 0).toNat then sgV a c9 else G.1 2047 (Γ.2.1 w 3) j) ∧ G'.1 706 w 0 = G.1 706 w 0 + sgW a c9 - 1))) := by
  refine zMet_of RX6 hX (by decide) rfl (Nat.le_of_ble_eq_true rfl) ?_
  intro p e s m args below meth c C hr hlk
  show Z p l e (zrm 1) s m args below meth c Γ 3 0 0 (MQ below (zQc Γ (zpv (fun G' => zsm [704, 706, 2045, 2047] G G' ∧ (G'.1 704 w 0 = G.1 704 w 0 + 1 ∧ (∀ j : Nat, G'.1 2045 (Γ.2.1 w 1) j = if j = (G.1 704 w 0).toNat then (if sgV a c9 = 0 then 5 else 4) else G.1 2045 (Γ.2.1 w 1) j) ∧ (∀ j : Nat, G'.1 2047 (Γ.2.1 w 3) j = if j = (G.1 704 w 0).toNat then sgV a c9 else G.1 2047 (Γ.2.1 w 3) j) ∧ G'.1 706 w 0 = G.1 706 w 0 + sgW a c9 - 1)))) args s 0 0 (zA Γ)) 0 [some (zr 7 w), some (zi a), some (zi c9)] [] G
  refine zs_loc 1 rfl (fun ha1 hb1 => ?_)
  refine zs_loc 2 rfl (fun ha2 hb2 => ?_)
  refine zs_iload_n (pc := 0) C dX6_readSign_0 rfl ?_
  refine zs_name (fun y1 ey1 => ?_)
  rcases (show y1 = 40 ∨ y1 = 41 ∨ y1 = 42 ∨ y1 = 43 ∨ y1 = 44 ∨ y1 = 45 ∨ y1 = 46 ∨ y1 = 47 ∨ y1 = 48 ∨ y1 = 49 ∨ y1 = 50 ∨ y1 = 51 ∨ y1 = 52 ∨ y1 = 53 ∨ y1 = 54 ∨ y1 = 55 ∨ y1 = 56 ∨ y1 = 57 ∨ y1 = 58 ∨ y1 = 59 ∨ y1 = 60 ∨ y1 = 61 ∨ y1 = 62 ∨ (y1 < 40 ∨ 62 < y1) by omega) with h1 | h1 | h1 | h1 | h1 | h1 | h1 | h1 | h1 | h1 | h1 | h1 | h1 | h1 | h1 | h1 | h1 | h1 | h1 | h1 | h1 | h1 | h1 | h1
  · skip
    refine zs_tabIn (pc := 1) (tgt := 118) C 40 dX6_readSign_1 h1 (by decide) rfl (by decide) ?_
    refine zs_aload_n (pc := 118) C dX6_readSign_118 rfl ?_
    refine zs_iconst (pc := 119) C dX6_readSign_119 (by decide) ?_
    refine zs_bipush (pc := 120) C dX6_readSign_120 (by decide) (by decide) ?_
    refine zVv2 (pc := 122) C dX6_readSign_122 v_X6_81 (c_X6_addF hX (by omega)) (by decide) (by decide) ⟨Nat.zero_le _, Nat.zero_le _⟩ (Nat.le_of_ble_eq_true rfl) (fun G122 hp122 => ?_)
    obtain ⟨hz122, hq122⟩ := hp122
    have hsg := sg_40 (d := c9)
    rw [← (show a = 40 by omega)] at hsg
    have hqA := hq122
    have tr6 := zsm_at hz122 706 w 0 (by decide)
    refine zs_goto (tgt := 292) (pc := 125) C dX6_readSign_125 (by decide) ?_
    exact zs_vret (pc := 292) C hr hlk dX6_readSign_292 ⟨by repeat (first | exact zsm_rf | assumption | refine zsm_C (by decide) ?_ | refine zsm_I (by decide) ?_ | refine zsm_J ?_ | refine zsm_c (by assumption) (by decide) ?_), (by rw [hsg.1, hsg.2]; first | exact ⟨hqA.1, hqA.2.1, hqA.2.2, by omega⟩ | exact ⟨by simp only [zuI_1, zuI_2, zuJ_1, zuJ_2, zuJ_3, zuP_1, zuP_2, zuP_3, zuC_1, zuC_2, reduceIte, Nat.reduceEqDiff, false_and, and_false, true_and, and_true, and_self, or_true, true_or, or_false, false_or]; exact hqA.1, fun j => by simp only [zuI_1, zuI_2, zuJ_1, zuJ_2, zuJ_3, zuP_1, zuP_2, zuP_3, zuC_1, zuC_2, reduceIte, Nat.reduceEqDiff, false_and, and_false, true_and, and_true, and_self, or_true, true_or, or_false, false_or]; exact hqA.2.1 j, fun j => by simp only [zuI_1, zuI_2, zuJ_1, zuJ_2, zuJ_3, zuP_1, zuP_2, zuP_3, zuC_1, zuC_2, reduceIte, Nat.reduceEqDiff, false_and, and_false, true_and, and_true, and_self, or_true, true_or, or_false, false_or]; exact hqA.2.2 j, by simp only [zuI_1, zuI_2, zuJ_1, zuJ_2, zuJ_3, zuP_1, zuP_2, zuP_3, zuC_1, zuC_2, reduceIte, Nat.reduceEqDiff, false_and, and_false, true_and, and_true, and_self, or_true, true_or, or_false, false_or]; omega⟩)⟩
  · skip
    refine zs_tabIn (pc := 1) (tgt := 128) C 41 dX6_readSign_1 h1 (by decide) rfl (by decide) ?_
    refine zs_aload_n (pc := 128) C dX6_readSign_128 rfl ?_
    refine zs_iconst (pc := 129) C dX6_readSign_129 (by decide) ?_
    refine zs_bipush (pc := 130) C dX6_readSign_130 (by decide) (by decide) ?_
    refine zVv2 (pc := 132) C dX6_readSign_132 v_X6_81 (c_X6_addF hX (by omega)) (by decide) (by decide) ⟨Nat.zero_le _, Nat.zero_le _⟩ (Nat.le_of_ble_eq_true rfl) (fun G132 hp132 => ?_)
    obtain ⟨hz132, hq132⟩ := hp132
    have hsg := sg_41 (d := c9)
    rw [← (show a = 41 by omega)] at hsg
    have hqA := hq132
    have tr6 := zsm_at hz132 706 w 0 (by decide)
    refine zs_goto (tgt := 292) (pc := 135) C dX6_readSign_135 (by decide) ?_
    exact zs_vret (pc := 292) C hr hlk dX6_readSign_292 ⟨by repeat (first | exact zsm_rf | assumption | refine zsm_C (by decide) ?_ | refine zsm_I (by decide) ?_ | refine zsm_J ?_ | refine zsm_c (by assumption) (by decide) ?_), (by rw [hsg.1, hsg.2]; first | exact ⟨hqA.1, hqA.2.1, hqA.2.2, by omega⟩ | exact ⟨by simp only [zuI_1, zuI_2, zuJ_1, zuJ_2, zuJ_3, zuP_1, zuP_2, zuP_3, zuC_1, zuC_2, reduceIte, Nat.reduceEqDiff, false_and, and_false, true_and, and_true, and_self, or_true, true_or, or_false, false_or]; exact hqA.1, fun j => by simp only [zuI_1, zuI_2, zuJ_1, zuJ_2, zuJ_3, zuP_1, zuP_2, zuP_3, zuC_1, zuC_2, reduceIte, Nat.reduceEqDiff, false_and, and_false, true_and, and_true, and_self, or_true, true_or, or_false, false_or]; exact hqA.2.1 j, fun j => by simp only [zuI_1, zuI_2, zuJ_1, zuJ_2, zuJ_3, zuP_1, zuP_2, zuP_3, zuC_1, zuC_2, reduceIte, Nat.reduceEqDiff, false_and, and_false, true_and, and_true, and_self, or_true, true_or, or_false, false_or]; exact hqA.2.2 j, by simp only [zuI_1, zuI_2, zuJ_1, zuJ_2, zuJ_3, zuP_1, zuP_2, zuP_3, zuC_1, zuC_2, reduceIte, Nat.reduceEqDiff, false_and, and_false, true_and, and_true, and_self, or_true, true_or, or_false, false_or]; omega⟩)⟩
  · skip
    refine zs_tabIn (pc := 1) (tgt := 158) C 42 dX6_readSign_1 h1 (by decide) rfl (by decide) ?_
    refine zs_aload_n (pc := 158) C dX6_readSign_158 rfl ?_
    refine zs_iconst (pc := 159) C dX6_readSign_159 (by decide) ?_
    refine zs_bipush (pc := 160) C dX6_readSign_160 (by decide) (by decide) ?_
    refine zVv2 (pc := 162) C dX6_readSign_162 v_X6_81 (c_X6_addF hX (by omega)) (by decide) (by decide) ⟨Nat.zero_le _, Nat.zero_le _⟩ (Nat.le_of_ble_eq_true rfl) (fun G162 hp162 => ?_)
    obtain ⟨hz162, hq162⟩ := hp162
    have hsg := sg_42 (d := c9)
    rw [← (show a = 42 by omega)] at hsg
    have hqA := hq162
    have tr6 := zsm_at hz162 706 w 0 (by decide)
    refine zs_goto (tgt := 292) (pc := 165) C dX6_readSign_165 (by decide) ?_
    exact zs_vret (pc := 292) C hr hlk dX6_readSign_292 ⟨by repeat (first | exact zsm_rf | assumption | refine zsm_C (by decide) ?_ | refine zsm_I (by decide) ?_ | refine zsm_J ?_ | refine zsm_c (by assumption) (by decide) ?_), (by rw [hsg.1, hsg.2]; first | exact ⟨hqA.1, hqA.2.1, hqA.2.2, by omega⟩ | exact ⟨by simp only [zuI_1, zuI_2, zuJ_1, zuJ_2, zuJ_3, zuP_1, zuP_2, zuP_3, zuC_1, zuC_2, reduceIte, Nat.reduceEqDiff, false_and, and_false, true_and, and_true, and_self, or_true, true_or, or_false, false_or]; exact hqA.1, fun j => by simp only [zuI_1, zuI_2, zuJ_1, zuJ_2, zuJ_3, zuP_1, zuP_2, zuP_3, zuC_1, zuC_2, reduceIte, Nat.reduceEqDiff, false_and, and_false, true_and, and_true, and_self, or_true, true_or, or_false, false_or]; exact hqA.2.1 j, fun j => by simp only [zuI_1, zuI_2, zuJ_1, zuJ_2, zuJ_3, zuP_1, zuP_2, zuP_3, zuC_1, zuC_2, reduceIte, Nat.reduceEqDiff, false_and, and_false, true_and, and_true, and_self, or_true, true_or, or_false, false_or]; exact hqA.2.2 j, by simp only [zuI_1, zuI_2, zuJ_1, zuJ_2, zuJ_3, zuP_1, zuP_2, zuP_3, zuC_1, zuC_2, reduceIte, Nat.reduceEqDiff, false_and, and_false, true_and, and_true, and_self, or_true, true_or, or_false, false_or]; omega⟩)⟩
  · skip
    refine zs_tabIn (pc := 1) (tgt := 138) C 43 dX6_readSign_1 h1 (by decide) rfl (by decide) ?_
    refine zs_aload_n (pc := 138) C dX6_readSign_138 rfl ?_
    refine zs_iconst (pc := 139) C dX6_readSign_139 (by decide) ?_
    refine zs_bipush (pc := 140) C dX6_readSign_140 (by decide) (by decide) ?_
    refine zVv2 (pc := 142) C dX6_readSign_142 v_X6_81 (c_X6_addF hX (by omega)) (by decide) (by decide) ⟨Nat.zero_le _, Nat.zero_le _⟩ (Nat.le_of_ble_eq_true rfl) (fun G142 hp142 => ?_)
    obtain ⟨hz142, hq142⟩ := hp142
    have hsg := sg_43 (d := c9)
    rw [← (show a = 43 by omega)] at hsg
    have hqA := hq142
    have tr6 := zsm_at hz142 706 w 0 (by decide)
    refine zs_goto (tgt := 292) (pc := 145) C dX6_readSign_145 (by decide) ?_
    exact zs_vret (pc := 292) C hr hlk dX6_readSign_292 ⟨by repeat (first | exact zsm_rf | assumption | refine zsm_C (by decide) ?_ | refine zsm_I (by decide) ?_ | refine zsm_J ?_ | refine zsm_c (by assumption) (by decide) ?_), (by rw [hsg.1, hsg.2]; first | exact ⟨hqA.1, hqA.2.1, hqA.2.2, by omega⟩ | exact ⟨by simp only [zuI_1, zuI_2, zuJ_1, zuJ_2, zuJ_3, zuP_1, zuP_2, zuP_3, zuC_1, zuC_2, reduceIte, Nat.reduceEqDiff, false_and, and_false, true_and, and_true, and_self, or_true, true_or, or_false, false_or]; exact hqA.1, fun j => by simp only [zuI_1, zuI_2, zuJ_1, zuJ_2, zuJ_3, zuP_1, zuP_2, zuP_3, zuC_1, zuC_2, reduceIte, Nat.reduceEqDiff, false_and, and_false, true_and, and_true, and_self, or_true, true_or, or_false, false_or]; exact hqA.2.1 j, fun j => by simp only [zuI_1, zuI_2, zuJ_1, zuJ_2, zuJ_3, zuP_1, zuP_2, zuP_3, zuC_1, zuC_2, reduceIte, Nat.reduceEqDiff, false_and, and_false, true_and, and_true, and_self, or_true, true_or, or_false, false_or]; exact hqA.2.2 j, by simp only [zuI_1, zuI_2, zuJ_1, zuJ_2, zuJ_3, zuP_1, zuP_2, zuP_3, zuC_1, zuC_2, reduceIte, Nat.reduceEqDiff, false_and, and_false, true_and, and_true, and_self, or_true, true_or, or_false, false_or]; omega⟩)⟩
  · skip
    refine zs_tabIn (pc := 1) (tgt := 286) C 44 dX6_readSign_1 h1 (by decide) rfl (by decide) ?_
    refine zs_aload_n (pc := 286) C dX6_readSign_286 rfl ?_
    refine zs_iconst (pc := 287) C dX6_readSign_287 (by decide) ?_
    refine zs_iconst (pc := 288) C dX6_readSign_288 (by decide) ?_
    refine zVv2 (pc := 289) C dX6_readSign_289 v_X6_81 (c_X6_addF hX (by omega)) (by decide) (by decide) ⟨Nat.zero_le _, Nat.zero_le _⟩ (Nat.le_of_ble_eq_true rfl) (fun G289 hp289 => ?_)
    obtain ⟨hz289, hq289⟩ := hp289
    have hsg := sg_no (c := a) (d := c9) (by omega)
    have hqA := hq289
    have tr6 := zsm_at hz289 706 w 0 (by decide)
    exact zs_vret (pc := 292) C hr hlk dX6_readSign_292 ⟨by repeat (first | exact zsm_rf | assumption | refine zsm_C (by decide) ?_ | refine zsm_I (by decide) ?_ | refine zsm_J ?_ | refine zsm_c (by assumption) (by decide) ?_), (by rw [hsg.1, hsg.2]; first | exact ⟨hqA.1, hqA.2.1, hqA.2.2, by omega⟩ | exact ⟨by simp only [zuI_1, zuI_2, zuJ_1, zuJ_2, zuJ_3, zuP_1, zuP_2, zuP_3, zuC_1, zuC_2, reduceIte, Nat.reduceEqDiff, false_and, and_false, true_and, and_true, and_self, or_true, true_or, or_false, false_or]; exact hqA.1, fun j => by simp only [zuI_1, zuI_2, zuJ_1, zuJ_2, zuJ_3, zuP_1, zuP_2, zuP_3, zuC_1, zuC_2, reduceIte, Nat.reduceEqDiff, false_and, and_false, true_and, and_true, and_self, or_true, true_or, or_false, false_or]; exact hqA.2.1 j, fun j => by simp only [zuI_1, zuI_2, zuJ_1, zuJ_2, zuJ_3, zuP_1, zuP_2, zuP_3, zuC_1, zuC_2, reduceIte, Nat.reduceEqDiff, false_and, and_false, true_and, and_true, and_self, or_true, true_or, or_false, false_or]; exact hqA.2.2 j, by simp only [zuI_1, zuI_2, zuJ_1, zuJ_2, zuJ_3, zuP_1, zuP_2, zuP_3, zuC_1, zuC_2, reduceIte, Nat.reduceEqDiff, false_and, and_false, true_and, and_true, and_self, or_true, true_or, or_false, false_or]; omega⟩)⟩
  · skip
    refine zs_tabIn (pc := 1) (tgt := 148) C 45 dX6_readSign_1 h1 (by decide) rfl (by decide) ?_
    refine zs_aload_n (pc := 148) C dX6_readSign_148 rfl ?_
    refine zs_iconst (pc := 149) C dX6_readSign_149 (by decide) ?_
    refine zs_bipush (pc := 150) C dX6_readSign_150 (by decide) (by decide) ?_
    refine zVv2 (pc := 152) C dX6_readSign_152 v_X6_81 (c_X6_addF hX (by omega)) (by decide) (by decide) ⟨Nat.zero_le _, Nat.zero_le _⟩ (Nat.le_of_ble_eq_true rfl) (fun G152 hp152 => ?_)
    obtain ⟨hz152, hq152⟩ := hp152
    have hsg := sg_45 (d := c9)
    rw [← (show a = 45 by omega)] at hsg
    have hqA := hq152
    have tr6 := zsm_at hz152 706 w 0 (by decide)
    refine zs_goto (tgt := 292) (pc := 155) C dX6_readSign_155 (by decide) ?_
    exact zs_vret (pc := 292) C hr hlk dX6_readSign_292 ⟨by repeat (first | exact zsm_rf | assumption | refine zsm_C (by decide) ?_ | refine zsm_I (by decide) ?_ | refine zsm_J ?_ | refine zsm_c (by assumption) (by decide) ?_), (by rw [hsg.1, hsg.2]; first | exact ⟨hqA.1, hqA.2.1, hqA.2.2, by omega⟩ | exact ⟨by simp only [zuI_1, zuI_2, zuJ_1, zuJ_2, zuJ_3, zuP_1, zuP_2, zuP_3, zuC_1, zuC_2, reduceIte, Nat.reduceEqDiff, false_and, and_false, true_and, and_true, and_self, or_true, true_or, or_false, false_or]; exact hqA.1, fun j => by simp only [zuI_1, zuI_2, zuJ_1, zuJ_2, zuJ_3, zuP_1, zuP_2, zuP_3, zuC_1, zuC_2, reduceIte, Nat.reduceEqDiff, false_and, and_false, true_and, and_true, and_self, or_true, true_or, or_false, false_or]; exact hqA.2.1 j, fun j => by simp only [zuI_1, zuI_2, zuJ_1, zuJ_2, zuJ_3, zuP_1, zuP_2, zuP_3, zuC_1, zuC_2, reduceIte, Nat.reduceEqDiff, false_and, and_false, true_and, and_true, and_self, or_true, true_or, or_false, false_or]; exact hqA.2.2 j, by simp only [zuI_1, zuI_2, zuJ_1, zuJ_2, zuJ_3, zuP_1, zuP_2, zuP_3, zuC_1, zuC_2, reduceIte, Nat.reduceEqDiff, false_and, and_false, true_and, and_true, and_self, or_true, true_or, or_false, false_or]; omega⟩)⟩
  · skip
    refine zs_tabIn (pc := 1) (tgt := 286) C 46 dX6_readSign_1 h1 (by decide) rfl (by decide) ?_
    refine zs_aload_n (pc := 286) C dX6_readSign_286 rfl ?_
    refine zs_iconst (pc := 287) C dX6_readSign_287 (by decide) ?_
    refine zs_iconst (pc := 288) C dX6_readSign_288 (by decide) ?_
    refine zVv2 (pc := 289) C dX6_readSign_289 v_X6_81 (c_X6_addF hX (by omega)) (by decide) (by decide) ⟨Nat.zero_le _, Nat.zero_le _⟩ (Nat.le_of_ble_eq_true rfl) (fun G289 hp289 => ?_)
    obtain ⟨hz289, hq289⟩ := hp289
    have hsg := sg_no (c := a) (d := c9) (by omega)
    have hqA := hq289
    have tr6 := zsm_at hz289 706 w 0 (by decide)
    exact zs_vret (pc := 292) C hr hlk dX6_readSign_292 ⟨by repeat (first | exact zsm_rf | assumption | refine zsm_C (by decide) ?_ | refine zsm_I (by decide) ?_ | refine zsm_J ?_ | refine zsm_c (by assumption) (by decide) ?_), (by rw [hsg.1, hsg.2]; first | exact ⟨hqA.1, hqA.2.1, hqA.2.2, by omega⟩ | exact ⟨by simp only [zuI_1, zuI_2, zuJ_1, zuJ_2, zuJ_3, zuP_1, zuP_2, zuP_3, zuC_1, zuC_2, reduceIte, Nat.reduceEqDiff, false_and, and_false, true_and, and_true, and_self, or_true, true_or, or_false, false_or]; exact hqA.1, fun j => by simp only [zuI_1, zuI_2, zuJ_1, zuJ_2, zuJ_3, zuP_1, zuP_2, zuP_3, zuC_1, zuC_2, reduceIte, Nat.reduceEqDiff, false_and, and_false, true_and, and_true, and_self, or_true, true_or, or_false, false_or]; exact hqA.2.1 j, fun j => by simp only [zuI_1, zuI_2, zuJ_1, zuJ_2, zuJ_3, zuP_1, zuP_2, zuP_3, zuC_1, zuC_2, reduceIte, Nat.reduceEqDiff, false_and, and_false, true_and, and_true, and_self, or_true, true_or, or_false, false_or]; exact hqA.2.2 j, by simp only [zuI_1, zuI_2, zuJ_1, zuJ_2, zuJ_3, zuP_1, zuP_2, zuP_3, zuC_1, zuC_2, reduceIte, Nat.reduceEqDiff, false_and, and_false, true_and, and_true, and_self, or_true, true_or, or_false, false_or]; omega⟩)⟩
  · skip
    refine zs_tabIn (pc := 1) (tgt := 168) C 47 dX6_readSign_1 h1 (by decide) rfl (by decide) ?_
    refine zs_aload_n (pc := 168) C dX6_readSign_168 rfl ?_
    refine zs_iconst (pc := 169) C dX6_readSign_169 (by decide) ?_
    refine zs_bipush (pc := 170) C dX6_readSign_170 (by decide) (by decide) ?_
    refine zVv2 (pc := 172) C dX6_readSign_172 v_X6_81 (c_X6_addF hX (by omega)) (by decide) (by decide) ⟨Nat.zero_le _, Nat.zero_le _⟩ (Nat.le_of_ble_eq_true rfl) (fun G172 hp172 => ?_)
    obtain ⟨hz172, hq172⟩ := hp172
    have hsg := sg_47 (d := c9)
    rw [← (show a = 47 by omega)] at hsg
    have hqA := hq172
    have tr6 := zsm_at hz172 706 w 0 (by decide)
    refine zs_goto (tgt := 292) (pc := 175) C dX6_readSign_175 (by decide) ?_
    exact zs_vret (pc := 292) C hr hlk dX6_readSign_292 ⟨by repeat (first | exact zsm_rf | assumption | refine zsm_C (by decide) ?_ | refine zsm_I (by decide) ?_ | refine zsm_J ?_ | refine zsm_c (by assumption) (by decide) ?_), (by rw [hsg.1, hsg.2]; first | exact ⟨hqA.1, hqA.2.1, hqA.2.2, by omega⟩ | exact ⟨by simp only [zuI_1, zuI_2, zuJ_1, zuJ_2, zuJ_3, zuP_1, zuP_2, zuP_3, zuC_1, zuC_2, reduceIte, Nat.reduceEqDiff, false_and, and_false, true_and, and_true, and_self, or_true, true_or, or_false, false_or]; exact hqA.1, fun j => by simp only [zuI_1, zuI_2, zuJ_1, zuJ_2, zuJ_3, zuP_1, zuP_2, zuP_3, zuC_1, zuC_2, reduceIte, Nat.reduceEqDiff, false_and, and_false, true_and, and_true, and_self, or_true, true_or, or_false, false_or]; exact hqA.2.1 j, fun j => by simp only [zuI_1, zuI_2, zuJ_1, zuJ_2, zuJ_3, zuP_1, zuP_2, zuP_3, zuC_1, zuC_2, reduceIte, Nat.reduceEqDiff, false_and, and_false, true_and, and_true, and_self, or_true, true_or, or_false, false_or]; exact hqA.2.2 j, by simp only [zuI_1, zuI_2, zuJ_1, zuJ_2, zuJ_3, zuP_1, zuP_2, zuP_3, zuC_1, zuC_2, reduceIte, Nat.reduceEqDiff, false_and, and_false, true_and, and_true, and_self, or_true, true_or, or_false, false_or]; omega⟩)⟩
  · skip
    refine zs_tabIn (pc := 1) (tgt := 286) C 48 dX6_readSign_1 h1 (by decide) rfl (by decide) ?_
    refine zs_aload_n (pc := 286) C dX6_readSign_286 rfl ?_
    refine zs_iconst (pc := 287) C dX6_readSign_287 (by decide) ?_
    refine zs_iconst (pc := 288) C dX6_readSign_288 (by decide) ?_
    refine zVv2 (pc := 289) C dX6_readSign_289 v_X6_81 (c_X6_addF hX (by omega)) (by decide) (by decide) ⟨Nat.zero_le _, Nat.zero_le _⟩ (Nat.le_of_ble_eq_true rfl) (fun G289 hp289 => ?_)
    obtain ⟨hz289, hq289⟩ := hp289
    have hsg := sg_no (c := a) (d := c9) (by omega)
    have hqA := hq289
    have tr6 := zsm_at hz289 706 w 0 (by decide)
    exact zs_vret (pc := 292) C hr hlk dX6_readSign_292 ⟨by repeat (first | exact zsm_rf | assumption | refine zsm_C (by decide) ?_ | refine zsm_I (by decide) ?_ | refine zsm_J ?_ | refine zsm_c (by assumption) (by decide) ?_), (by rw [hsg.1, hsg.2]; first | exact ⟨hqA.1, hqA.2.1, hqA.2.2, by omega⟩ | exact ⟨by simp only [zuI_1, zuI_2, zuJ_1, zuJ_2, zuJ_3, zuP_1, zuP_2, zuP_3, zuC_1, zuC_2, reduceIte, Nat.reduceEqDiff, false_and, and_false, true_and, and_true, and_self, or_true, true_or, or_false, false_or]; exact hqA.1, fun j => by simp only [zuI_1, zuI_2, zuJ_1, zuJ_2, zuJ_3, zuP_1, zuP_2, zuP_3, zuC_1, zuC_2, reduceIte, Nat.reduceEqDiff, false_and, and_false, true_and, and_true, and_self, or_true, true_or, or_false, false_or]; exact hqA.2.1 j, fun j => by simp only [zuI_1, zuI_2, zuJ_1, zuJ_2, zuJ_3, zuP_1, zuP_2, zuP_3, zuC_1, zuC_2, reduceIte, Nat.reduceEqDiff, false_and, and_false, true_and, and_true, and_self, or_true, true_or, or_false, false_or]; exact hqA.2.2 j, by simp only [zuI_1, zuI_2, zuJ_1, zuJ_2, zuJ_3, zuP_1, zuP_2, zuP_3, zuC_1, zuC_2, reduceIte, Nat.reduceEqDiff, false_and, and_false, true_and, and_true, and_self, or_true, true_or, or_false, false_or]; omega⟩)⟩
  · skip
    refine zs_tabIn (pc := 1) (tgt := 286) C 49 dX6_readSign_1 h1 (by decide) rfl (by decide) ?_
    refine zs_aload_n (pc := 286) C dX6_readSign_286 rfl ?_
    refine zs_iconst (pc := 287) C dX6_readSign_287 (by decide) ?_
    refine zs_iconst (pc := 288) C dX6_readSign_288 (by decide) ?_
    refine zVv2 (pc := 289) C dX6_readSign_289 v_X6_81 (c_X6_addF hX (by omega)) (by decide) (by decide) ⟨Nat.zero_le _, Nat.zero_le _⟩ (Nat.le_of_ble_eq_true rfl) (fun G289 hp289 => ?_)
    obtain ⟨hz289, hq289⟩ := hp289
    have hsg := sg_no (c := a) (d := c9) (by omega)
    have hqA := hq289
    have tr6 := zsm_at hz289 706 w 0 (by decide)
    exact zs_vret (pc := 292) C hr hlk dX6_readSign_292 ⟨by repeat (first | exact zsm_rf | assumption | refine zsm_C (by decide) ?_ | refine zsm_I (by decide) ?_ | refine zsm_J ?_ | refine zsm_c (by assumption) (by decide) ?_), (by rw [hsg.1, hsg.2]; first | exact ⟨hqA.1, hqA.2.1, hqA.2.2, by omega⟩ | exact ⟨by simp only [zuI_1, zuI_2, zuJ_1, zuJ_2, zuJ_3, zuP_1, zuP_2, zuP_3, zuC_1, zuC_2, reduceIte, Nat.reduceEqDiff, false_and, and_false, true_and, and_true, and_self, or_true, true_or, or_false, false_or]; exact hqA.1, fun j => by simp only [zuI_1, zuI_2, zuJ_1, zuJ_2, zuJ_3, zuP_1, zuP_2, zuP_3, zuC_1, zuC_2, reduceIte, Nat.reduceEqDiff, false_and, and_false, true_and, and_true, and_self, or_true, true_or, or_false, false_or]; exact hqA.2.1 j, fun j => by simp only [zuI_1, zuI_2, zuJ_1, zuJ_2, zuJ_3, zuP_1, zuP_2, zuP_3, zuC_1, zuC_2, reduceIte, Nat.reduceEqDiff, false_and, and_false, true_and, and_true, and_self, or_true, true_or, or_false, false_or]; exact hqA.2.2 j, by simp only [zuI_1, zuI_2, zuJ_1, zuJ_2, zuJ_3, zuP_1, zuP_2, zuP_3, zuC_1, zuC_2, reduceIte, Nat.reduceEqDiff, false_and, and_false, true_and, and_true, and_self, or_true, true_or, or_false, false_or]; omega⟩)⟩
  · skip
    refine zs_tabIn (pc := 1) (tgt := 286) C 50 dX6_readSign_1 h1 (by decide) rfl (by decide) ?_
    refine zs_aload_n (pc := 286) C dX6_readSign_286 rfl ?_
    refine zs_iconst (pc := 287) C dX6_readSign_287 (by decide) ?_
    refine zs_iconst (pc := 288) C dX6_readSign_288 (by decide) ?_
    refine zVv2 (pc := 289) C dX6_readSign_289 v_X6_81 (c_X6_addF hX (by omega)) (by decide) (by decide) ⟨Nat.zero_le _, Nat.zero_le _⟩ (Nat.le_of_ble_eq_true rfl) (fun G289 hp289 => ?_)
    obtain ⟨hz289, hq289⟩ := hp289
    have hsg := sg_no (c := a) (d := c9) (by omega)
    have hqA := hq289
    have tr6 := zsm_at hz289 706 w 0 (by decide)
    exact zs_vret (pc := 292) C hr hlk dX6_readSign_292 ⟨by repeat (first | exact zsm_rf | assumption | refine zsm_C (by decide) ?_ | refine zsm_I (by decide) ?_ | refine zsm_J ?_ | refine zsm_c (by assumption) (by decide) ?_), (by rw [hsg.1, hsg.2]; first | exact ⟨hqA.1, hqA.2.1, hqA.2.2, by omega⟩ | exact ⟨by simp only [zuI_1, zuI_2, zuJ_1, zuJ_2, zuJ_3, zuP_1, zuP_2, zuP_3, zuC_1, zuC_2, reduceIte, Nat.reduceEqDiff, false_and, and_false, true_and, and_true, and_self, or_true, true_or, or_false, false_or]; exact hqA.1, fun j => by simp only [zuI_1, zuI_2, zuJ_1, zuJ_2, zuJ_3, zuP_1, zuP_2, zuP_3, zuC_1, zuC_2, reduceIte, Nat.reduceEqDiff, false_and, and_false, true_and, and_true, and_self, or_true, true_or, or_false, false_or]; exact hqA.2.1 j, fun j => by simp only [zuI_1, zuI_2, zuJ_1, zuJ_2, zuJ_3, zuP_1, zuP_2, zuP_3, zuC_1, zuC_2, reduceIte, Nat.reduceEqDiff, false_and, and_false, true_and, and_true, and_self, or_true, true_or, or_false, false_or]; exact hqA.2.2 j, by simp only [zuI_1, zuI_2, zuJ_1, zuJ_2, zuJ_3, zuP_1, zuP_2, zuP_3, zuC_1, zuC_2, reduceIte, Nat.reduceEqDiff, false_and, and_false, true_and, and_true, and_self, or_true, true_or, or_false, false_or]; omega⟩)⟩
  · skip
    refine zs_tabIn (pc := 1) (tgt := 286) C 51 dX6_readSign_1 h1 (by decide) rfl (by decide) ?_
    refine zs_aload_n (pc := 286) C dX6_readSign_286 rfl ?_
    refine zs_iconst (pc := 287) C dX6_readSign_287 (by decide) ?_
    refine zs_iconst (pc := 288) C dX6_readSign_288 (by decide) ?_
    refine zVv2 (pc := 289) C dX6_readSign_289 v_X6_81 (c_X6_addF hX (by omega)) (by decide) (by decide) ⟨Nat.zero_le _, Nat.zero_le _⟩ (Nat.le_of_ble_eq_true rfl) (fun G289 hp289 => ?_)
    obtain ⟨hz289, hq289⟩ := hp289
    have hsg := sg_no (c := a) (d := c9) (by omega)
    have hqA := hq289
    have tr6 := zsm_at hz289 706 w 0 (by decide)
    exact zs_vret (pc := 292) C hr hlk dX6_readSign_292 ⟨by repeat (first | exact zsm_rf | assumption | refine zsm_C (by decide) ?_ | refine zsm_I (by decide) ?_ | refine zsm_J ?_ | refine zsm_c (by assumption) (by decide) ?_), (by rw [hsg.1, hsg.2]; first | exact ⟨hqA.1, hqA.2.1, hqA.2.2, by omega⟩ | exact ⟨by simp only [zuI_1, zuI_2, zuJ_1, zuJ_2, zuJ_3, zuP_1, zuP_2, zuP_3, zuC_1, zuC_2, reduceIte, Nat.reduceEqDiff, false_and, and_false, true_and, and_true, and_self, or_true, true_or, or_false, false_or]; exact hqA.1, fun j => by simp only [zuI_1, zuI_2, zuJ_1, zuJ_2, zuJ_3, zuP_1, zuP_2, zuP_3, zuC_1, zuC_2, reduceIte, Nat.reduceEqDiff, false_and, and_false, true_and, and_true, and_self, or_true, true_or, or_false, false_or]; exact hqA.2.1 j, fun j => by simp only [zuI_1, zuI_2, zuJ_1, zuJ_2, zuJ_3, zuP_1, zuP_2, zuP_3, zuC_1, zuC_2, reduceIte, Nat.reduceEqDiff, false_and, and_false, true_and, and_true, and_self, or_true, true_or, or_false, false_or]; exact hqA.2.2 j, by simp only [zuI_1, zuI_2, zuJ_1, zuJ_2, zuJ_3, zuP_1, zuP_2, zuP_3, zuC_1, zuC_2, reduceIte, Nat.reduceEqDiff, false_and, and_false, true_and, and_true, and_self, or_true, true_or, or_false, false_or]; omega⟩)⟩
  · skip
    refine zs_tabIn (pc := 1) (tgt := 286) C 52 dX6_readSign_1 h1 (by decide) rfl (by decide) ?_
    refine zs_aload_n (pc := 286) C dX6_readSign_286 rfl ?_
    refine zs_iconst (pc := 287) C dX6_readSign_287 (by decide) ?_
    refine zs_iconst (pc := 288) C dX6_readSign_288 (by decide) ?_
    refine zVv2 (pc := 289) C dX6_readSign_289 v_X6_81 (c_X6_addF hX (by omega)) (by decide) (by decide) ⟨Nat.zero_le _, Nat.zero_le _⟩ (Nat.le_of_ble_eq_true rfl) (fun G289 hp289 => ?_)
    obtain ⟨hz289, hq289⟩ := hp289
    have hsg := sg_no (c := a) (d := c9) (by omega)
    have hqA := hq289
    have tr6 := zsm_at hz289 706 w 0 (by decide)
    exact zs_vret (pc := 292) C hr hlk dX6_readSign_292 ⟨by repeat (first | exact zsm_rf | assumption | refine zsm_C (by decide) ?_ | refine zsm_I (by decide) ?_ | refine zsm_J ?_ | refine zsm_c (by assumption) (by decide) ?_), (by rw [hsg.1, hsg.2]; first | exact ⟨hqA.1, hqA.2.1, hqA.2.2, by omega⟩ | exact ⟨by simp only [zuI_1, zuI_2, zuJ_1, zuJ_2, zuJ_3, zuP_1, zuP_2, zuP_3, zuC_1, zuC_2, reduceIte, Nat.reduceEqDiff, false_and, and_false, true_and, and_true, and_self, or_true, true_or, or_false, false_or]; exact hqA.1, fun j => by simp only [zuI_1, zuI_2, zuJ_1, zuJ_2, zuJ_3, zuP_1, zuP_2, zuP_3, zuC_1, zuC_2, reduceIte, Nat.reduceEqDiff, false_and, and_false, true_and, and_true, and_self, or_true, true_or, or_false, false_or]; exact hqA.2.1 j, fun j => by simp only [zuI_1, zuI_2, zuJ_1, zuJ_2, zuJ_3, zuP_1, zuP_2, zuP_3, zuC_1, zuC_2, reduceIte, Nat.reduceEqDiff, false_and, and_false, true_and, and_true, and_self, or_true, true_or, or_false, false_or]; exact hqA.2.2 j, by simp only [zuI_1, zuI_2, zuJ_1, zuJ_2, zuJ_3, zuP_1, zuP_2, zuP_3, zuC_1, zuC_2, reduceIte, Nat.reduceEqDiff, false_and, and_false, true_and, and_true, and_self, or_true, true_or, or_false, false_or]; omega⟩)⟩
  · skip
    refine zs_tabIn (pc := 1) (tgt := 286) C 53 dX6_readSign_1 h1 (by decide) rfl (by decide) ?_
    refine zs_aload_n (pc := 286) C dX6_readSign_286 rfl ?_
    refine zs_iconst (pc := 287) C dX6_readSign_287 (by decide) ?_
    refine zs_iconst (pc := 288) C dX6_readSign_288 (by decide) ?_
    refine zVv2 (pc := 289) C dX6_readSign_289 v_X6_81 (c_X6_addF hX (by omega)) (by decide) (by decide) ⟨Nat.zero_le _, Nat.zero_le _⟩ (Nat.le_of_ble_eq_true rfl) (fun G289 hp289 => ?_)
    obtain ⟨hz289, hq289⟩ := hp289
    have hsg := sg_no (c := a) (d := c9) (by omega)
    have hqA := hq289
    have tr6 := zsm_at hz289 706 w 0 (by decide)
    exact zs_vret (pc := 292) C hr hlk dX6_readSign_292 ⟨by repeat (first | exact zsm_rf | assumption | refine zsm_C (by decide) ?_ | refine zsm_I (by decide) ?_ | refine zsm_J ?_ | refine zsm_c (by assumption) (by decide) ?_), (by rw [hsg.1, hsg.2]; first | exact ⟨hqA.1, hqA.2.1, hqA.2.2, by omega⟩ | exact ⟨by simp only [zuI_1, zuI_2, zuJ_1, zuJ_2, zuJ_3, zuP_1, zuP_2, zuP_3, zuC_1, zuC_2, reduceIte, Nat.reduceEqDiff, false_and, and_false, true_and, and_true, and_self, or_true, true_or, or_false, false_or]; exact hqA.1, fun j => by simp only [zuI_1, zuI_2, zuJ_1, zuJ_2, zuJ_3, zuP_1, zuP_2, zuP_3, zuC_1, zuC_2, reduceIte, Nat.reduceEqDiff, false_and, and_false, true_and, and_true, and_self, or_true, true_or, or_false, false_or]; exact hqA.2.1 j, fun j => by simp only [zuI_1, zuI_2, zuJ_1, zuJ_2, zuJ_3, zuP_1, zuP_2, zuP_3, zuC_1, zuC_2, reduceIte, Nat.reduceEqDiff, false_and, and_false, true_and, and_true, and_self, or_true, true_or, or_false, false_or]; exact hqA.2.2 j, by simp only [zuI_1, zuI_2, zuJ_1, zuJ_2, zuJ_3, zuP_1, zuP_2, zuP_3, zuC_1, zuC_2, reduceIte, Nat.reduceEqDiff, false_and, and_false, true_and, and_true, and_self, or_true, true_or, or_false, false_or]; omega⟩)⟩
  · skip
    refine zs_tabIn (pc := 1) (tgt := 286) C 54 dX6_readSign_1 h1 (by decide) rfl (by decide) ?_
    refine zs_aload_n (pc := 286) C dX6_readSign_286 rfl ?_
    refine zs_iconst (pc := 287) C dX6_readSign_287 (by decide) ?_
    refine zs_iconst (pc := 288) C dX6_readSign_288 (by decide) ?_
    refine zVv2 (pc := 289) C dX6_readSign_289 v_X6_81 (c_X6_addF hX (by omega)) (by decide) (by decide) ⟨Nat.zero_le _, Nat.zero_le _⟩ (Nat.le_of_ble_eq_true rfl) (fun G289 hp289 => ?_)
    obtain ⟨hz289, hq289⟩ := hp289
    have hsg := sg_no (c := a) (d := c9) (by omega)
    have hqA := hq289
    have tr6 := zsm_at hz289 706 w 0 (by decide)
    exact zs_vret (pc := 292) C hr hlk dX6_readSign_292 ⟨by repeat (first | exact zsm_rf | assumption | refine zsm_C (by decide) ?_ | refine zsm_I (by decide) ?_ | refine zsm_J ?_ | refine zsm_c (by assumption) (by decide) ?_), (by rw [hsg.1, hsg.2]; first | exact ⟨hqA.1, hqA.2.1, hqA.2.2, by omega⟩ | exact ⟨by simp only [zuI_1, zuI_2, zuJ_1, zuJ_2, zuJ_3, zuP_1, zuP_2, zuP_3, zuC_1, zuC_2, reduceIte, Nat.reduceEqDiff, false_and, and_false, true_and, and_true, and_self, or_true, true_or, or_false, false_or]; exact hqA.1, fun j => by simp only [zuI_1, zuI_2, zuJ_1, zuJ_2, zuJ_3, zuP_1, zuP_2, zuP_3, zuC_1, zuC_2, reduceIte, Nat.reduceEqDiff, false_and, and_false, true_and, and_true, and_self, or_true, true_or, or_false, false_or]; exact hqA.2.1 j, fun j => by simp only [zuI_1, zuI_2, zuJ_1, zuJ_2, zuJ_3, zuP_1, zuP_2, zuP_3, zuC_1, zuC_2, reduceIte, Nat.reduceEqDiff, false_and, and_false, true_and, and_true, and_self, or_true, true_or, or_false, false_or]; exact hqA.2.2 j, by simp only [zuI_1, zuI_2, zuJ_1, zuJ_2, zuJ_3, zuP_1, zuP_2, zuP_3, zuC_1, zuC_2, reduceIte, Nat.reduceEqDiff, false_and, and_false, true_and, and_true, and_self, or_true, true_or, or_false, false_or]; omega⟩)⟩
  · skip
    refine zs_tabIn (pc := 1) (tgt := 286) C 55 dX6_readSign_1 h1 (by decide) rfl (by decide) ?_
    refine zs_aload_n (pc := 286) C dX6_readSign_286 rfl ?_
    refine zs_iconst (pc := 287) C dX6_readSign_287 (by decide) ?_
    refine zs_iconst (pc := 288) C dX6_readSign_288 (by decide) ?_
    refine zVv2 (pc := 289) C dX6_readSign_289 v_X6_81 (c_X6_addF hX (by omega)) (by decide) (by decide) ⟨Nat.zero_le _, Nat.zero_le _⟩ (Nat.le_of_ble_eq_true rfl) (fun G289 hp289 => ?_)
    obtain ⟨hz289, hq289⟩ := hp289
    have hsg := sg_no (c := a) (d := c9) (by omega)
    have hqA := hq289
    have tr6 := zsm_at hz289 706 w 0 (by decide)
    exact zs_vret (pc := 292) C hr hlk dX6_readSign_292 ⟨by repeat (first | exact zsm_rf | assumption | refine zsm_C (by decide) ?_ | refine zsm_I (by decide) ?_ | refine zsm_J ?_ | refine zsm_c (by assumption) (by decide) ?_), (by rw [hsg.1, hsg.2]; first | exact ⟨hqA.1, hqA.2.1, hqA.2.2, by omega⟩ | exact ⟨by simp only [zuI_1, zuI_2, zuJ_1, zuJ_2, zuJ_3, zuP_1, zuP_2, zuP_3, zuC_1, zuC_2, reduceIte, Nat.reduceEqDiff, false_and, and_false, true_and, and_true, and_self, or_true, true_or, or_false, false_or]; exact hqA.1, fun j => by simp only [zuI_1, zuI_2, zuJ_1, zuJ_2, zuJ_3, zuP_1, zuP_2, zuP_3, zuC_1, zuC_2, reduceIte, Nat.reduceEqDiff, false_and, and_false, true_and, and_true, and_self, or_true, true_or, or_false, false_or]; exact hqA.2.1 j, fun j => by simp only [zuI_1, zuI_2, zuJ_1, zuJ_2, zuJ_3, zuP_1, zuP_2, zuP_3, zuC_1, zuC_2, reduceIte, Nat.reduceEqDiff, false_and, and_false, true_and, and_true, and_self, or_true, true_or, or_false, false_or]; exact hqA.2.2 j, by simp only [zuI_1, zuI_2, zuJ_1, zuJ_2, zuJ_3, zuP_1, zuP_2, zuP_3, zuC_1, zuC_2, reduceIte, Nat.reduceEqDiff, false_and, and_false, true_and, and_true, and_self, or_true, true_or, or_false, false_or]; omega⟩)⟩
  · skip
    refine zs_tabIn (pc := 1) (tgt := 286) C 56 dX6_readSign_1 h1 (by decide) rfl (by decide) ?_
    refine zs_aload_n (pc := 286) C dX6_readSign_286 rfl ?_
    refine zs_iconst (pc := 287) C dX6_readSign_287 (by decide) ?_
    refine zs_iconst (pc := 288) C dX6_readSign_288 (by decide) ?_
    refine zVv2 (pc := 289) C dX6_readSign_289 v_X6_81 (c_X6_addF hX (by omega)) (by decide) (by decide) ⟨Nat.zero_le _, Nat.zero_le _⟩ (Nat.le_of_ble_eq_true rfl) (fun G289 hp289 => ?_)
    obtain ⟨hz289, hq289⟩ := hp289
    have hsg := sg_no (c := a) (d := c9) (by omega)
    have hqA := hq289
    have tr6 := zsm_at hz289 706 w 0 (by decide)
    exact zs_vret (pc := 292) C hr hlk dX6_readSign_292 ⟨by repeat (first | exact zsm_rf | assumption | refine zsm_C (by decide) ?_ | refine zsm_I (by decide) ?_ | refine zsm_J ?_ | refine zsm_c (by assumption) (by decide) ?_), (by rw [hsg.1, hsg.2]; first | exact ⟨hqA.1, hqA.2.1, hqA.2.2, by omega⟩ | exact ⟨by simp only [zuI_1, zuI_2, zuJ_1, zuJ_2, zuJ_3, zuP_1, zuP_2, zuP_3, zuC_1, zuC_2, reduceIte, Nat.reduceEqDiff, false_and, and_false, true_and, and_true, and_self, or_true, true_or, or_false, false_or]; exact hqA.1, fun j => by simp only [zuI_1, zuI_2, zuJ_1, zuJ_2, zuJ_3, zuP_1, zuP_2, zuP_3, zuC_1, zuC_2, reduceIte, Nat.reduceEqDiff, false_and, and_false, true_and, and_true, and_self, or_true, true_or, or_false, false_or]; exact hqA.2.1 j, fun j => by simp only [zuI_1, zuI_2, zuJ_1, zuJ_2, zuJ_3, zuP_1, zuP_2, zuP_3, zuC_1, zuC_2, reduceIte, Nat.reduceEqDiff, false_and, and_false, true_and, and_true, and_self, or_true, true_or, or_false, false_or]; exact hqA.2.2 j, by simp only [zuI_1, zuI_2, zuJ_1, zuJ_2, zuJ_3, zuP_1, zuP_2, zuP_3, zuC_1, zuC_2, reduceIte, Nat.reduceEqDiff, false_and, and_false, true_and, and_true, and_self, or_true, true_or, or_false, false_or]; omega⟩)⟩
  · skip
    refine zs_tabIn (pc := 1) (tgt := 286) C 57 dX6_readSign_1 h1 (by decide) rfl (by decide) ?_
    refine zs_aload_n (pc := 286) C dX6_readSign_286 rfl ?_
    refine zs_iconst (pc := 287) C dX6_readSign_287 (by decide) ?_
    refine zs_iconst (pc := 288) C dX6_readSign_288 (by decide) ?_
    refine zVv2 (pc := 289) C dX6_readSign_289 v_X6_81 (c_X6_addF hX (by omega)) (by decide) (by decide) ⟨Nat.zero_le _, Nat.zero_le _⟩ (Nat.le_of_ble_eq_true rfl) (fun G289 hp289 => ?_)
    obtain ⟨hz289, hq289⟩ := hp289
    have hsg := sg_no (c := a) (d := c9) (by omega)
    have hqA := hq289
    have tr6 := zsm_at hz289 706 w 0 (by decide)
    exact zs_vret (pc := 292) C hr hlk dX6_readSign_292 ⟨by repeat (first | exact zsm_rf | assumption | refine zsm_C (by decide) ?_ | refine zsm_I (by decide) ?_ | refine zsm_J ?_ | refine zsm_c (by assumption) (by decide) ?_), (by rw [hsg.1, hsg.2]; first | exact ⟨hqA.1, hqA.2.1, hqA.2.2, by omega⟩ | exact ⟨by simp only [zuI_1, zuI_2, zuJ_1, zuJ_2, zuJ_3, zuP_1, zuP_2, zuP_3, zuC_1, zuC_2, reduceIte, Nat.reduceEqDiff, false_and, and_false, true_and, and_true, and_self, or_true, true_or, or_false, false_or]; exact hqA.1, fun j => by simp only [zuI_1, zuI_2, zuJ_1, zuJ_2, zuJ_3, zuP_1, zuP_2, zuP_3, zuC_1, zuC_2, reduceIte, Nat.reduceEqDiff, false_and, and_false, true_and, and_true, and_self, or_true, true_or, or_false, false_or]; exact hqA.2.1 j, fun j => by simp only [zuI_1, zuI_2, zuJ_1, zuJ_2, zuJ_3, zuP_1, zuP_2, zuP_3, zuC_1, zuC_2, reduceIte, Nat.reduceEqDiff, false_and, and_false, true_and, and_true, and_self, or_true, true_or, or_false, false_or]; exact hqA.2.2 j, by simp only [zuI_1, zuI_2, zuJ_1, zuJ_2, zuJ_3, zuP_1, zuP_2, zuP_3, zuC_1, zuC_2, reduceIte, Nat.reduceEqDiff, false_and, and_false, true_and, and_true, and_self, or_true, true_or, or_false, false_or]; omega⟩)⟩
  · skip
    refine zs_tabIn (pc := 1) (tgt := 286) C 58 dX6_readSign_1 h1 (by decide) rfl (by decide) ?_
    refine zs_aload_n (pc := 286) C dX6_readSign_286 rfl ?_
    refine zs_iconst (pc := 287) C dX6_readSign_287 (by decide) ?_
    refine zs_iconst (pc := 288) C dX6_readSign_288 (by decide) ?_
    refine zVv2 (pc := 289) C dX6_readSign_289 v_X6_81 (c_X6_addF hX (by omega)) (by decide) (by decide) ⟨Nat.zero_le _, Nat.zero_le _⟩ (Nat.le_of_ble_eq_true rfl) (fun G289 hp289 => ?_)
    obtain ⟨hz289, hq289⟩ := hp289
    have hsg := sg_no (c := a) (d := c9) (by omega)
    have hqA := hq289
    have tr6 := zsm_at hz289 706 w 0 (by decide)
    exact zs_vret (pc := 292) C hr hlk dX6_readSign_292 ⟨by repeat (first | exact zsm_rf | assumption | refine zsm_C (by decide) ?_ | refine zsm_I (by decide) ?_ | refine zsm_J ?_ | refine zsm_c (by assumption) (by decide) ?_), (by rw [hsg.1, hsg.2]; first | exact ⟨hqA.1, hqA.2.1, hqA.2.2, by omega⟩ | exact ⟨by simp only [zuI_1, zuI_2, zuJ_1, zuJ_2, zuJ_3, zuP_1, zuP_2, zuP_3, zuC_1, zuC_2, reduceIte, Nat.reduceEqDiff, false_and, and_false, true_and, and_true, and_self, or_true, true_or, or_false, false_or]; exact hqA.1, fun j => by simp only [zuI_1, zuI_2, zuJ_1, zuJ_2, zuJ_3, zuP_1, zuP_2, zuP_3, zuC_1, zuC_2, reduceIte, Nat.reduceEqDiff, false_and, and_false, true_and, and_true, and_self, or_true, true_or, or_false, false_or]; exact hqA.2.1 j, fun j => by simp only [zuI_1, zuI_2, zuJ_1, zuJ_2, zuJ_3, zuP_1, zuP_2, zuP_3, zuC_1, zuC_2, reduceIte, Nat.reduceEqDiff, false_and, and_false, true_and, and_true, and_self, or_true, true_or, or_false, false_or]; exact hqA.2.2 j, by simp only [zuI_1, zuI_2, zuJ_1, zuJ_2, zuJ_3, zuP_1, zuP_2, zuP_3, zuC_1, zuC_2, reduceIte, Nat.reduceEqDiff, false_and, and_false, true_and, and_true, and_self, or_true, true_or, or_false, false_or]; omega⟩)⟩
  · skip
    refine zs_tabIn (pc := 1) (tgt := 108) C 59 dX6_readSign_1 h1 (by decide) rfl (by decide) ?_
    refine zs_aload_n (pc := 108) C dX6_readSign_108 rfl ?_
    refine zs_iconst (pc := 109) C dX6_readSign_109 (by decide) ?_
    refine zs_bipush (pc := 110) C dX6_readSign_110 (by decide) (by decide) ?_
    refine zVv2 (pc := 112) C dX6_readSign_112 v_X6_81 (c_X6_addF hX (by omega)) (by decide) (by decide) ⟨Nat.zero_le _, Nat.zero_le _⟩ (Nat.le_of_ble_eq_true rfl) (fun G112 hp112 => ?_)
    obtain ⟨hz112, hq112⟩ := hp112
    have hsg := sg_59 (d := c9)
    rw [← (show a = 59 by omega)] at hsg
    have hqA := hq112
    have tr6 := zsm_at hz112 706 w 0 (by decide)
    refine zs_goto (tgt := 292) (pc := 115) C dX6_readSign_115 (by decide) ?_
    exact zs_vret (pc := 292) C hr hlk dX6_readSign_292 ⟨by repeat (first | exact zsm_rf | assumption | refine zsm_C (by decide) ?_ | refine zsm_I (by decide) ?_ | refine zsm_J ?_ | refine zsm_c (by assumption) (by decide) ?_), (by rw [hsg.1, hsg.2]; first | exact ⟨hqA.1, hqA.2.1, hqA.2.2, by omega⟩ | exact ⟨by simp only [zuI_1, zuI_2, zuJ_1, zuJ_2, zuJ_3, zuP_1, zuP_2, zuP_3, zuC_1, zuC_2, reduceIte, Nat.reduceEqDiff, false_and, and_false, true_and, and_true, and_self, or_true, true_or, or_false, false_or]; exact hqA.1, fun j => by simp only [zuI_1, zuI_2, zuJ_1, zuJ_2, zuJ_3, zuP_1, zuP_2, zuP_3, zuC_1, zuC_2, reduceIte, Nat.reduceEqDiff, false_and, and_false, true_and, and_true, and_self, or_true, true_or, or_false, false_or]; exact hqA.2.1 j, fun j => by simp only [zuI_1, zuI_2, zuJ_1, zuJ_2, zuJ_3, zuP_1, zuP_2, zuP_3, zuC_1, zuC_2, reduceIte, Nat.reduceEqDiff, false_and, and_false, true_and, and_true, and_self, or_true, true_or, or_false, false_or]; exact hqA.2.2 j, by simp only [zuI_1, zuI_2, zuJ_1, zuJ_2, zuJ_3, zuP_1, zuP_2, zuP_3, zuC_1, zuC_2, reduceIte, Nat.reduceEqDiff, false_and, and_false, true_and, and_true, and_self, or_true, true_or, or_false, false_or]; omega⟩)⟩
  · skip
    refine zs_tabIn (pc := 1) (tgt := 188) C 60 dX6_readSign_1 h1 (by decide) rfl (by decide) ?_
    refine zs_aload_n (pc := 188) C dX6_readSign_188 rfl ?_
    refine zs_iconst (pc := 189) C dX6_readSign_189 (by decide) ?_
    refine zs_iload_n (pc := 190) C dX6_readSign_190 rfl ?_
    refine zs_bipush (pc := 191) C dX6_readSign_191 (by decide) (by decide) ?_
    refine zs_icmp_ne (tgt := 201) (pc := 193) C dX6_readSign_193 (by decide) (fun h193 => ?_) (fun h193 => ?_)
    · skip
      refine zs_iload_n (pc := 201) C dX6_readSign_201 rfl ?_
      refine zs_bipush (pc := 202) C dX6_readSign_202 (by decide) (by decide) ?_
      refine zs_icmp_ne (tgt := 212) (pc := 204) C dX6_readSign_204 (by decide) (fun h204 => ?_) (fun h204 => ?_)
      · skip
        refine zs_iconst (pc := 212) C dX6_readSign_212 (by decide) ?_
        refine zVv2 (pc := 213) C dX6_readSign_213 v_X6_81 (c_X6_addF hX (by omega)) (by decide) (by decide) ⟨Nat.zero_le _, Nat.zero_le _⟩ (Nat.le_of_ble_eq_true rfl) (fun G213 hp213 => ?_)
        obtain ⟨hz213, hq213⟩ := hp213
        have hsg0 := sg_60 (d := c9)
        rw [← (show a = 60 by omega)] at hsg0
        first | have hsg := hsg0.1 (by omega) | have hsg := hsg0.2.1 (by omega) | have hsg := hsg0.2.2 (by omega) (by omega)
        have hqA := hq213
        have tr6 := zsm_at hz213 706 w 0 (by decide)
        refine zs_aload_n (pc := 216) C dX6_readSign_216 rfl ?_
        refine zs_dupa (pc := 217) C dX6_readSign_217 ?_
        refine zs_geti (r := 706) (pc := 218) C dX6_readSign_218 w_X6_60 f_7_6 rfl (r_706 0) (fun v218 e218 l218 u218 => ?_)
        refine zs_iload_n (pc := 221) C dX6_readSign_221 rfl ?_
        refine zs_bipush (pc := 222) C dX6_readSign_222 (by decide) (by decide) ?_
        refine zs_icmp_eq (tgt := 233) (pc := 224) C dX6_readSign_224 (by decide) (fun h224 => ?_) (fun h224 => ?_)
        · skip
          refine zs_iconst (pc := 233) C dX6_readSign_233 (by decide) ?_
          refine zs_goto (tgt := 238) (pc := 234) C dX6_readSign_234 (by decide) ?_
          first | refine zs_iadd (pc := 238) C dX6_readSign_238 (by omega) ?_ | refine zs_iaddF (pc := 238) C dX6_readSign_238 (fun z238 hz2381 hz2382 => ?_)
          refine zs_puti (r := 706) (pc := 239) C dX6_readSign_239 w_X6_60 f_7_6 rfl (r_706 0) (by omega) ?_
          refine zs_goto (tgt := 292) (pc := 242) C dX6_readSign_242 (by decide) ?_
          exact zs_vret (pc := 292) C hr hlk dX6_readSign_292 ⟨by repeat (first | exact zsm_rf | assumption | refine zsm_C (by decide) ?_ | refine zsm_I (by decide) ?_ | refine zsm_J ?_ | refine zsm_c (by assumption) (by decide) ?_), (by rw [hsg.1, hsg.2]; first | exact ⟨hqA.1, hqA.2.1, hqA.2.2, by omega⟩ | exact ⟨by simp only [zuI_1, zuI_2, zuJ_1, zuJ_2, zuJ_3, zuP_1, zuP_2, zuP_3, zuC_1, zuC_2, reduceIte, Nat.reduceEqDiff, false_and, and_false, true_and, and_true, and_self, or_true, true_or, or_false, false_or]; exact hqA.1, fun j => by simp only [zuI_1, zuI_2, zuJ_1, zuJ_2, zuJ_3, zuP_1, zuP_2, zuP_3, zuC_1, zuC_2, reduceIte, Nat.reduceEqDiff, false_and, and_false, true_and, and_true, and_self, or_true, true_or, or_false, false_or]; exact hqA.2.1 j, fun j => by simp only [zuI_1, zuI_2, zuJ_1, zuJ_2, zuJ_3, zuP_1, zuP_2, zuP_3, zuC_1, zuC_2, reduceIte, Nat.reduceEqDiff, false_and, and_false, true_and, and_true, and_self, or_true, true_or, or_false, false_or]; exact hqA.2.2 j, by simp only [zuI_1, zuI_2, zuJ_1, zuJ_2, zuJ_3, zuP_1, zuP_2, zuP_3, zuC_1, zuC_2, reduceIte, Nat.reduceEqDiff, false_and, and_false, true_and, and_true, and_self, or_true, true_or, or_false, false_or]; omega⟩)⟩
        · skip
          refine zs_iload_n (pc := 227) C dX6_readSign_227 rfl ?_
          refine zs_bipush (pc := 228) C dX6_readSign_228 (by decide) (by decide) ?_
          refine zs_icmp_ne (tgt := 237) (pc := 230) C dX6_readSign_230 (by decide) (fun h230 => ?_) (fun h230 => ?_)
          · skip
            refine zs_iconst (pc := 237) C dX6_readSign_237 (by decide) ?_
            first | refine zs_iadd (pc := 238) C dX6_readSign_238 (by omega) ?_ | refine zs_iaddF (pc := 238) C dX6_readSign_238 (fun z238 hz2381 hz2382 => ?_)
            refine zs_puti (r := 706) (pc := 239) C dX6_readSign_239 w_X6_60 f_7_6 rfl (r_706 0) (by omega) ?_
            refine zs_goto (tgt := 292) (pc := 242) C dX6_readSign_242 (by decide) ?_
            exact zs_vret (pc := 292) C hr hlk dX6_readSign_292 ⟨by repeat (first | exact zsm_rf | assumption | refine zsm_C (by decide) ?_ | refine zsm_I (by decide) ?_ | refine zsm_J ?_ | refine zsm_c (by assumption) (by decide) ?_), (by rw [hsg.1, hsg.2]; first | exact ⟨hqA.1, hqA.2.1, hqA.2.2, by omega⟩ | exact ⟨by simp only [zuI_1, zuI_2, zuJ_1, zuJ_2, zuJ_3, zuP_1, zuP_2, zuP_3, zuC_1, zuC_2, reduceIte, Nat.reduceEqDiff, false_and, and_false, true_and, and_true, and_self, or_true, true_or, or_false, false_or]; exact hqA.1, fun j => by simp only [zuI_1, zuI_2, zuJ_1, zuJ_2, zuJ_3, zuP_1, zuP_2, zuP_3, zuC_1, zuC_2, reduceIte, Nat.reduceEqDiff, false_and, and_false, true_and, and_true, and_self, or_true, true_or, or_false, false_or]; exact hqA.2.1 j, fun j => by simp only [zuI_1, zuI_2, zuJ_1, zuJ_2, zuJ_3, zuP_1, zuP_2, zuP_3, zuC_1, zuC_2, reduceIte, Nat.reduceEqDiff, false_and, and_false, true_and, and_true, and_self, or_true, true_or, or_false, false_or]; exact hqA.2.2 j, by simp only [zuI_1, zuI_2, zuJ_1, zuJ_2, zuJ_3, zuP_1, zuP_2, zuP_3, zuC_1, zuC_2, reduceIte, Nat.reduceEqDiff, false_and, and_false, true_and, and_true, and_self, or_true, true_or, or_false, false_or]; omega⟩)⟩
          · skip
            refine zs_iconst (pc := 233) C dX6_readSign_233 (by decide) ?_
            refine zs_goto (tgt := 238) (pc := 234) C dX6_readSign_234 (by decide) ?_
            first | refine zs_iadd (pc := 238) C dX6_readSign_238 (by omega) ?_ | refine zs_iaddF (pc := 238) C dX6_readSign_238 (fun z238 hz2381 hz2382 => ?_)
            refine zs_puti (r := 706) (pc := 239) C dX6_readSign_239 w_X6_60 f_7_6 rfl (r_706 0) (by omega) ?_
            refine zs_goto (tgt := 292) (pc := 242) C dX6_readSign_242 (by decide) ?_
            exact zs_vret (pc := 292) C hr hlk dX6_readSign_292 ⟨by repeat (first | exact zsm_rf | assumption | refine zsm_C (by decide) ?_ | refine zsm_I (by decide) ?_ | refine zsm_J ?_ | refine zsm_c (by assumption) (by decide) ?_), (by rw [hsg.1, hsg.2]; first | exact ⟨hqA.1, hqA.2.1, hqA.2.2, by omega⟩ | exact ⟨by simp only [zuI_1, zuI_2, zuJ_1, zuJ_2, zuJ_3, zuP_1, zuP_2, zuP_3, zuC_1, zuC_2, reduceIte, Nat.reduceEqDiff, false_and, and_false, true_and, and_true, and_self, or_true, true_or, or_false, false_or]; exact hqA.1, fun j => by simp only [zuI_1, zuI_2, zuJ_1, zuJ_2, zuJ_3, zuP_1, zuP_2, zuP_3, zuC_1, zuC_2, reduceIte, Nat.reduceEqDiff, false_and, and_false, true_and, and_true, and_self, or_true, true_or, or_false, false_or]; exact hqA.2.1 j, fun j => by simp only [zuI_1, zuI_2, zuJ_1, zuJ_2, zuJ_3, zuP_1, zuP_2, zuP_3, zuC_1, zuC_2, reduceIte, Nat.reduceEqDiff, false_and, and_false, true_and, and_true, and_self, or_true, true_or, or_false, false_or]; exact hqA.2.2 j, by simp only [zuI_1, zuI_2, zuJ_1, zuJ_2, zuJ_3, zuP_1, zuP_2, zuP_3, zuC_1, zuC_2, reduceIte, Nat.reduceEqDiff, false_and, and_false, true_and, and_true, and_self, or_true, true_or, or_false, false_or]; omega⟩)⟩
      · skip
        refine zs_bipush (pc := 207) C dX6_readSign_207 (by decide) (by decide) ?_
        refine zs_goto (tgt := 213) (pc := 209) C dX6_readSign_209 (by decide) ?_
        refine zVv2 (pc := 213) C dX6_readSign_213 v_X6_81 (c_X6_addF hX (by omega)) (by decide) (by decide) ⟨Nat.zero_le _, Nat.zero_le _⟩ (Nat.le_of_ble_eq_true rfl) (fun G213 hp213 => ?_)
        obtain ⟨hz213, hq213⟩ := hp213
        have hsg0 := sg_60 (d := c9)
        rw [← (show a = 60 by omega)] at hsg0
        first | have hsg := hsg0.1 (by omega) | have hsg := hsg0.2.1 (by omega) | have hsg := hsg0.2.2 (by omega) (by omega)
        have hqA := hq213
        have tr6 := zsm_at hz213 706 w 0 (by decide)
        refine zs_aload_n (pc := 216) C dX6_readSign_216 rfl ?_
        refine zs_dupa (pc := 217) C dX6_readSign_217 ?_
        refine zs_geti (r := 706) (pc := 218) C dX6_readSign_218 w_X6_60 f_7_6 rfl (r_706 0) (fun v218 e218 l218 u218 => ?_)
        refine zs_iload_n (pc := 221) C dX6_readSign_221 rfl ?_
        refine zs_bipush (pc := 222) C dX6_readSign_222 (by decide) (by decide) ?_
        refine zs_icmp_eq (tgt := 233) (pc := 224) C dX6_readSign_224 (by decide) (fun h224 => ?_) (fun h224 => ?_)
        · skip
          refine zs_iconst (pc := 233) C dX6_readSign_233 (by decide) ?_
          refine zs_goto (tgt := 238) (pc := 234) C dX6_readSign_234 (by decide) ?_
          first | refine zs_iadd (pc := 238) C dX6_readSign_238 (by omega) ?_ | refine zs_iaddF (pc := 238) C dX6_readSign_238 (fun z238 hz2381 hz2382 => ?_)
          refine zs_puti (r := 706) (pc := 239) C dX6_readSign_239 w_X6_60 f_7_6 rfl (r_706 0) (by omega) ?_
          refine zs_goto (tgt := 292) (pc := 242) C dX6_readSign_242 (by decide) ?_
          exact zs_vret (pc := 292) C hr hlk dX6_readSign_292 ⟨by repeat (first | exact zsm_rf | assumption | refine zsm_C (by decide) ?_ | refine zsm_I (by decide) ?_ | refine zsm_J ?_ | refine zsm_c (by assumption) (by decide) ?_), (by rw [hsg.1, hsg.2]; first | exact ⟨hqA.1, hqA.2.1, hqA.2.2, by omega⟩ | exact ⟨by simp only [zuI_1, zuI_2, zuJ_1, zuJ_2, zuJ_3, zuP_1, zuP_2, zuP_3, zuC_1, zuC_2, reduceIte, Nat.reduceEqDiff, false_and, and_false, true_and, and_true, and_self, or_true, true_or, or_false, false_or]; exact hqA.1, fun j => by simp only [zuI_1, zuI_2, zuJ_1, zuJ_2, zuJ_3, zuP_1, zuP_2, zuP_3, zuC_1, zuC_2, reduceIte, Nat.reduceEqDiff, false_and, and_false, true_and, and_true, and_self, or_true, true_or, or_false, false_or]; exact hqA.2.1 j, fun j => by simp only [zuI_1, zuI_2, zuJ_1, zuJ_2, zuJ_3, zuP_1, zuP_2, zuP_3, zuC_1, zuC_2, reduceIte, Nat.reduceEqDiff, false_and, and_false, true_and, and_true, and_self, or_true, true_or, or_false, false_or]; exact hqA.2.2 j, by simp only [zuI_1, zuI_2, zuJ_1, zuJ_2, zuJ_3, zuP_1, zuP_2, zuP_3, zuC_1, zuC_2, reduceIte, Nat.reduceEqDiff, false_and, and_false, true_and, and_true, and_self, or_true, true_or, or_false, false_or]; omega⟩)⟩
        · skip
          refine zs_iload_n (pc := 227) C dX6_readSign_227 rfl ?_
          refine zs_bipush (pc := 228) C dX6_readSign_228 (by decide) (by decide) ?_
          refine zs_icmp_ne (tgt := 237) (pc := 230) C dX6_readSign_230 (by decide) (fun h230 => ?_) (fun h230 => ?_)
          · skip
            refine zs_iconst (pc := 237) C dX6_readSign_237 (by decide) ?_
            first | refine zs_iadd (pc := 238) C dX6_readSign_238 (by omega) ?_ | refine zs_iaddF (pc := 238) C dX6_readSign_238 (fun z238 hz2381 hz2382 => ?_)
            refine zs_puti (r := 706) (pc := 239) C dX6_readSign_239 w_X6_60 f_7_6 rfl (r_706 0) (by omega) ?_
            refine zs_goto (tgt := 292) (pc := 242) C dX6_readSign_242 (by decide) ?_
            exact zs_vret (pc := 292) C hr hlk dX6_readSign_292 ⟨by repeat (first | exact zsm_rf | assumption | refine zsm_C (by decide) ?_ | refine zsm_I (by decide) ?_ | refine zsm_J ?_ | refine zsm_c (by assumption) (by decide) ?_), (by rw [hsg.1, hsg.2]; first | exact ⟨hqA.1, hqA.2.1, hqA.2.2, by omega⟩ | exact ⟨by simp only [zuI_1, zuI_2, zuJ_1, zuJ_2, zuJ_3, zuP_1, zuP_2, zuP_3, zuC_1, zuC_2, reduceIte, Nat.reduceEqDiff, false_and, and_false, true_and, and_true, and_self, or_true, true_or, or_false, false_or]; exact hqA.1, fun j => by simp only [zuI_1, zuI_2, zuJ_1, zuJ_2, zuJ_3, zuP_1, zuP_2, zuP_3, zuC_1, zuC_2, reduceIte, Nat.reduceEqDiff, false_and, and_false, true_and, and_true, and_self, or_true, true_or, or_false, false_or]; exact hqA.2.1 j, fun j => by simp only [zuI_1, zuI_2, zuJ_1, zuJ_2, zuJ_3, zuP_1, zuP_2, zuP_3, zuC_1, zuC_2, reduceIte, Nat.reduceEqDiff, false_and, and_false, true_and, and_true, and_self, or_true, true_or, or_false, false_or]; exact hqA.2.2 j, by simp only [zuI_1, zuI_2, zuJ_1, zuJ_2, zuJ_3, zuP_1, zuP_2, zuP_3, zuC_1, zuC_2, reduceIte, Nat.reduceEqDiff, false_and, and_false, true_and, and_true, and_self, or_true, true_or, or_false, false_or]; omega⟩)⟩
          · skip
            refine zs_iconst (pc := 233) C dX6_readSign_233 (by decide) ?_
            refine zs_goto (tgt := 238) (pc := 234) C dX6_readSign_234 (by decide) ?_
            first | refine zs_iadd (pc := 238) C dX6_readSign_238 (by omega) ?_ | refine zs_iaddF (pc := 238) C dX6_readSign_238 (fun z238 hz2381 hz2382 => ?_)
            refine zs_puti (r := 706) (pc := 239) C dX6_readSign_239 w_X6_60 f_7_6 rfl (r_706 0) (by omega) ?_
            refine zs_goto (tgt := 292) (pc := 242) C dX6_readSign_242 (by decide) ?_
            exact zs_vret (pc := 292) C hr hlk dX6_readSign_292 ⟨by repeat (first | exact zsm_rf | assumption | refine zsm_C (by decide) ?_ | refine zsm_I (by decide) ?_ | refine zsm_J ?_ | refine zsm_c (by assumption) (by decide) ?_), (by rw [hsg.1, hsg.2]; first | exact ⟨hqA.1, hqA.2.1, hqA.2.2, by omega⟩ | exact ⟨by simp only [zuI_1, zuI_2, zuJ_1, zuJ_2, zuJ_3, zuP_1, zuP_2, zuP_3, zuC_1, zuC_2, reduceIte, Nat.reduceEqDiff, false_and, and_false, true_and, and_true, and_self, or_true, true_or, or_false, false_or]; exact hqA.1, fun j => by simp only [zuI_1, zuI_2, zuJ_1, zuJ_2, zuJ_3, zuP_1, zuP_2, zuP_3, zuC_1, zuC_2, reduceIte, Nat.reduceEqDiff, false_and, and_false, true_and, and_true, and_self, or_true, true_or, or_false, false_or]; exact hqA.2.1 j, fun j => by simp only [zuI_1, zuI_2, zuJ_1, zuJ_2, zuJ_3, zuP_1, zuP_2, zuP_3, zuC_1, zuC_2, reduceIte, Nat.reduceEqDiff, false_and, and_false, true_and, and_true, and_self, or_true, true_or, or_false, false_or]; exact hqA.2.2 j, by simp only [zuI_1, zuI_2, zuJ_1, zuJ_2, zuJ_3, zuP_1, zuP_2, zuP_3, zuC_1, zuC_2, reduceIte, Nat.reduceEqDiff, false_and, and_false, true_and, and_true, and_self, or_true, true_or, or_false, false_or]; omega⟩)⟩
    · skip
      refine zs_bipush (pc := 196) C dX6_readSign_196 (by decide) (by decide) ?_
      refine zs_goto (tgt := 213) (pc := 198) C dX6_readSign_198 (by decide) ?_
      refine zVv2 (pc := 213) C dX6_readSign_213 v_X6_81 (c_X6_addF hX (by omega)) (by decide) (by decide) ⟨Nat.zero_le _, Nat.zero_le _⟩ (Nat.le_of_ble_eq_true rfl) (fun G213 hp213 => ?_)
      obtain ⟨hz213, hq213⟩ := hp213
      have hsg0 := sg_60 (d := c9)
      rw [← (show a = 60 by omega)] at hsg0
      first | have hsg := hsg0.1 (by omega) | have hsg := hsg0.2.1 (by omega) | have hsg := hsg0.2.2 (by omega) (by omega)
      have hqA := hq213
      have tr6 := zsm_at hz213 706 w 0 (by decide)
      refine zs_aload_n (pc := 216) C dX6_readSign_216 rfl ?_
      refine zs_dupa (pc := 217) C dX6_readSign_217 ?_
      refine zs_geti (r := 706) (pc := 218) C dX6_readSign_218 w_X6_60 f_7_6 rfl (r_706 0) (fun v218 e218 l218 u218 => ?_)
      refine zs_iload_n (pc := 221) C dX6_readSign_221 rfl ?_
      refine zs_bipush (pc := 222) C dX6_readSign_222 (by decide) (by decide) ?_
      refine zs_icmp_eq (tgt := 233) (pc := 224) C dX6_readSign_224 (by decide) (fun h224 => ?_) (fun h224 => ?_)
      · skip
        refine zs_iconst (pc := 233) C dX6_readSign_233 (by decide) ?_
        refine zs_goto (tgt := 238) (pc := 234) C dX6_readSign_234 (by decide) ?_
        first | refine zs_iadd (pc := 238) C dX6_readSign_238 (by omega) ?_ | refine zs_iaddF (pc := 238) C dX6_readSign_238 (fun z238 hz2381 hz2382 => ?_)
        refine zs_puti (r := 706) (pc := 239) C dX6_readSign_239 w_X6_60 f_7_6 rfl (r_706 0) (by omega) ?_
        refine zs_goto (tgt := 292) (pc := 242) C dX6_readSign_242 (by decide) ?_
        exact zs_vret (pc := 292) C hr hlk dX6_readSign_292 ⟨by repeat (first | exact zsm_rf | assumption | refine zsm_C (by decide) ?_ | refine zsm_I (by decide) ?_ | refine zsm_J ?_ | refine zsm_c (by assumption) (by decide) ?_), (by rw [hsg.1, hsg.2]; first | exact ⟨hqA.1, hqA.2.1, hqA.2.2, by omega⟩ | exact ⟨by simp only [zuI_1, zuI_2, zuJ_1, zuJ_2, zuJ_3, zuP_1, zuP_2, zuP_3, zuC_1, zuC_2, reduceIte, Nat.reduceEqDiff, false_and, and_false, true_and, and_true, and_self, or_true, true_or, or_false, false_or]; exact hqA.1, fun j => by simp only [zuI_1, zuI_2, zuJ_1, zuJ_2, zuJ_3, zuP_1, zuP_2, zuP_3, zuC_1, zuC_2, reduceIte, Nat.reduceEqDiff, false_and, and_false, true_and, and_true, and_self, or_true, true_or, or_false, false_or]; exact hqA.2.1 j, fun j => by simp only [zuI_1, zuI_2, zuJ_1, zuJ_2, zuJ_3, zuP_1, zuP_2, zuP_3, zuC_1, zuC_2, reduceIte, Nat.reduceEqDiff, false_and, and_false, true_and, and_true, and_self, or_true, true_or, or_false, false_or]; exact hqA.2.2 j, by simp only [zuI_1, zuI_2, zuJ_1, zuJ_2, zuJ_3, zuP_1, zuP_2, zuP_3, zuC_1, zuC_2, reduceIte, Nat.reduceEqDiff, false_and, and_false, true_and, and_true, and_self, or_true, true_or, or_false, false_or]; omega⟩)⟩
      · skip
        refine zs_iload_n (pc := 227) C dX6_readSign_227 rfl ?_
        refine zs_bipush (pc := 228) C dX6_readSign_228 (by decide) (by decide) ?_
        refine zs_icmp_ne (tgt := 237) (pc := 230) C dX6_readSign_230 (by decide) (fun h230 => ?_) (fun h230 => ?_)
        · skip
          refine zs_iconst (pc := 237) C dX6_readSign_237 (by decide) ?_
          first | refine zs_iadd (pc := 238) C dX6_readSign_238 (by omega) ?_ | refine zs_iaddF (pc := 238) C dX6_readSign_238 (fun z238 hz2381 hz2382 => ?_)
          refine zs_puti (r := 706) (pc := 239) C dX6_readSign_239 w_X6_60 f_7_6 rfl (r_706 0) (by omega) ?_
          refine zs_goto (tgt := 292) (pc := 242) C dX6_readSign_242 (by decide) ?_
          exact zs_vret (pc := 292) C hr hlk dX6_readSign_292 ⟨by repeat (first | exact zsm_rf | assumption | refine zsm_C (by decide) ?_ | refine zsm_I (by decide) ?_ | refine zsm_J ?_ | refine zsm_c (by assumption) (by decide) ?_), (by rw [hsg.1, hsg.2]; first | exact ⟨hqA.1, hqA.2.1, hqA.2.2, by omega⟩ | exact ⟨by simp only [zuI_1, zuI_2, zuJ_1, zuJ_2, zuJ_3, zuP_1, zuP_2, zuP_3, zuC_1, zuC_2, reduceIte, Nat.reduceEqDiff, false_and, and_false, true_and, and_true, and_self, or_true, true_or, or_false, false_or]; exact hqA.1, fun j => by simp only [zuI_1, zuI_2, zuJ_1, zuJ_2, zuJ_3, zuP_1, zuP_2, zuP_3, zuC_1, zuC_2, reduceIte, Nat.reduceEqDiff, false_and, and_false, true_and, and_true, and_self, or_true, true_or, or_false, false_or]; exact hqA.2.1 j, fun j => by simp only [zuI_1, zuI_2, zuJ_1, zuJ_2, zuJ_3, zuP_1, zuP_2, zuP_3, zuC_1, zuC_2, reduceIte, Nat.reduceEqDiff, false_and, and_false, true_and, and_true, and_self, or_true, true_or, or_false, false_or]; exact hqA.2.2 j, by simp only [zuI_1, zuI_2, zuJ_1, zuJ_2, zuJ_3, zuP_1, zuP_2, zuP_3, zuC_1, zuC_2, reduceIte, Nat.reduceEqDiff, false_and, and_false, true_and, and_true, and_self, or_true, true_or, or_false, false_or]; omega⟩)⟩
        · skip
          refine zs_iconst (pc := 233) C dX6_readSign_233 (by decide) ?_
          refine zs_goto (tgt := 238) (pc := 234) C dX6_readSign_234 (by decide) ?_
          first | refine zs_iadd (pc := 238) C dX6_readSign_238 (by omega) ?_ | refine zs_iaddF (pc := 238) C dX6_readSign_238 (fun z238 hz2381 hz2382 => ?_)
          refine zs_puti (r := 706) (pc := 239) C dX6_readSign_239 w_X6_60 f_7_6 rfl (r_706 0) (by omega) ?_
          refine zs_goto (tgt := 292) (pc := 242) C dX6_readSign_242 (by decide) ?_
          exact zs_vret (pc := 292) C hr hlk dX6_readSign_292 ⟨by repeat (first | exact zsm_rf | assumption | refine zsm_C (by decide) ?_ | refine zsm_I (by decide) ?_ | refine zsm_J ?_ | refine zsm_c (by assumption) (by decide) ?_), (by rw [hsg.1, hsg.2]; first | exact ⟨hqA.1, hqA.2.1, hqA.2.2, by omega⟩ | exact ⟨by simp only [zuI_1, zuI_2, zuJ_1, zuJ_2, zuJ_3, zuP_1, zuP_2, zuP_3, zuC_1, zuC_2, reduceIte, Nat.reduceEqDiff, false_and, and_false, true_and, and_true, and_self, or_true, true_or, or_false, false_or]; exact hqA.1, fun j => by simp only [zuI_1, zuI_2, zuJ_1, zuJ_2, zuJ_3, zuP_1, zuP_2, zuP_3, zuC_1, zuC_2, reduceIte, Nat.reduceEqDiff, false_and, and_false, true_and, and_true, and_self, or_true, true_or, or_false, false_or]; exact hqA.2.1 j, fun j => by simp only [zuI_1, zuI_2, zuJ_1, zuJ_2, zuJ_3, zuP_1, zuP_2, zuP_3, zuC_1, zuC_2, reduceIte, Nat.reduceEqDiff, false_and, and_false, true_and, and_true, and_self, or_true, true_or, or_false, false_or]; exact hqA.2.2 j, by simp only [zuI_1, zuI_2, zuJ_1, zuJ_2, zuJ_3, zuP_1, zuP_2, zuP_3, zuC_1, zuC_2, reduceIte, Nat.reduceEqDiff, false_and, and_false, true_and, and_true, and_self, or_true, true_or, or_false, false_or]; omega⟩)⟩
  · skip
    refine zs_tabIn (pc := 1) (tgt := 178) C 61 dX6_readSign_1 h1 (by decide) rfl (by decide) ?_
    refine zs_aload_n (pc := 178) C dX6_readSign_178 rfl ?_
    refine zs_iconst (pc := 179) C dX6_readSign_179 (by decide) ?_
    refine zs_bipush (pc := 180) C dX6_readSign_180 (by decide) (by decide) ?_
    refine zVv2 (pc := 182) C dX6_readSign_182 v_X6_81 (c_X6_addF hX (by omega)) (by decide) (by decide) ⟨Nat.zero_le _, Nat.zero_le _⟩ (Nat.le_of_ble_eq_true rfl) (fun G182 hp182 => ?_)
    obtain ⟨hz182, hq182⟩ := hp182
    have hsg := sg_61 (d := c9)
    rw [← (show a = 61 by omega)] at hsg
    have hqA := hq182
    have tr6 := zsm_at hz182 706 w 0 (by decide)
    refine zs_goto (tgt := 292) (pc := 185) C dX6_readSign_185 (by decide) ?_
    exact zs_vret (pc := 292) C hr hlk dX6_readSign_292 ⟨by repeat (first | exact zsm_rf | assumption | refine zsm_C (by decide) ?_ | refine zsm_I (by decide) ?_ | refine zsm_J ?_ | refine zsm_c (by assumption) (by decide) ?_), (by rw [hsg.1, hsg.2]; first | exact ⟨hqA.1, hqA.2.1, hqA.2.2, by omega⟩ | exact ⟨by simp only [zuI_1, zuI_2, zuJ_1, zuJ_2, zuJ_3, zuP_1, zuP_2, zuP_3, zuC_1, zuC_2, reduceIte, Nat.reduceEqDiff, false_and, and_false, true_and, and_true, and_self, or_true, true_or, or_false, false_or]; exact hqA.1, fun j => by simp only [zuI_1, zuI_2, zuJ_1, zuJ_2, zuJ_3, zuP_1, zuP_2, zuP_3, zuC_1, zuC_2, reduceIte, Nat.reduceEqDiff, false_and, and_false, true_and, and_true, and_self, or_true, true_or, or_false, false_or]; exact hqA.2.1 j, fun j => by simp only [zuI_1, zuI_2, zuJ_1, zuJ_2, zuJ_3, zuP_1, zuP_2, zuP_3, zuC_1, zuC_2, reduceIte, Nat.reduceEqDiff, false_and, and_false, true_and, and_true, and_self, or_true, true_or, or_false, false_or]; exact hqA.2.2 j, by simp only [zuI_1, zuI_2, zuJ_1, zuJ_2, zuJ_3, zuP_1, zuP_2, zuP_3, zuC_1, zuC_2, reduceIte, Nat.reduceEqDiff, false_and, and_false, true_and, and_true, and_self, or_true, true_or, or_false, false_or]; omega⟩)⟩
  · skip
    refine zs_tabIn (pc := 1) (tgt := 245) C 62 dX6_readSign_1 h1 (by decide) rfl (by decide) ?_
    refine zs_aload_n (pc := 245) C dX6_readSign_245 rfl ?_
    refine zs_iconst (pc := 246) C dX6_readSign_246 (by decide) ?_
    refine zs_iload_n (pc := 247) C dX6_readSign_247 rfl ?_
    refine zs_bipush (pc := 248) C dX6_readSign_248 (by decide) (by decide) ?_
    refine zs_icmp_ne (tgt := 258) (pc := 250) C dX6_readSign_250 (by decide) (fun h250 => ?_) (fun h250 => ?_)
    · skip
      refine zs_bipush (pc := 258) C dX6_readSign_258 (by decide) (by decide) ?_
      refine zVv2 (pc := 260) C dX6_readSign_260 v_X6_81 (c_X6_addF hX (by omega)) (by decide) (by decide) ⟨Nat.zero_le _, Nat.zero_le _⟩ (Nat.le_of_ble_eq_true rfl) (fun G260 hp260 => ?_)
      obtain ⟨hz260, hq260⟩ := hp260
      have hsg0 := sg_62 (d := c9)
      rw [← (show a = 62 by omega)] at hsg0
      first | have hsg := hsg0.1 (by omega) | have hsg := hsg0.2 (by omega)
      have hqA := hq260
      have tr6 := zsm_at hz260 706 w 0 (by decide)
      refine zs_aload_n (pc := 263) C dX6_readSign_263 rfl ?_
      refine zs_dupa (pc := 264) C dX6_readSign_264 ?_
      refine zs_geti (r := 706) (pc := 265) C dX6_readSign_265 w_X6_60 f_7_6 rfl (r_706 0) (fun v265 e265 l265 u265 => ?_)
      refine zs_iload_n (pc := 268) C dX6_readSign_268 rfl ?_
      refine zs_bipush (pc := 269) C dX6_readSign_269 (by decide) (by decide) ?_
      refine zs_icmp_ne (tgt := 278) (pc := 271) C dX6_readSign_271 (by decide) (fun h271 => ?_) (fun h271 => ?_)
      · skip
        refine zs_iconst (pc := 278) C dX6_readSign_278 (by decide) ?_
        first | refine zs_iadd (pc := 279) C dX6_readSign_279 (by omega) ?_ | refine zs_iaddF (pc := 279) C dX6_readSign_279 (fun z279 hz2791 hz2792 => ?_)
        refine zs_puti (r := 706) (pc := 280) C dX6_readSign_280 w_X6_60 f_7_6 rfl (r_706 0) (by omega) ?_
        refine zs_goto (tgt := 292) (pc := 283) C dX6_readSign_283 (by decide) ?_
        exact zs_vret (pc := 292) C hr hlk dX6_readSign_292 ⟨by repeat (first | exact zsm_rf | assumption | refine zsm_C (by decide) ?_ | refine zsm_I (by decide) ?_ | refine zsm_J ?_ | refine zsm_c (by assumption) (by decide) ?_), (by rw [hsg.1, hsg.2]; first | exact ⟨hqA.1, hqA.2.1, hqA.2.2, by omega⟩ | exact ⟨by simp only [zuI_1, zuI_2, zuJ_1, zuJ_2, zuJ_3, zuP_1, zuP_2, zuP_3, zuC_1, zuC_2, reduceIte, Nat.reduceEqDiff, false_and, and_false, true_and, and_true, and_self, or_true, true_or, or_false, false_or]; exact hqA.1, fun j => by simp only [zuI_1, zuI_2, zuJ_1, zuJ_2, zuJ_3, zuP_1, zuP_2, zuP_3, zuC_1, zuC_2, reduceIte, Nat.reduceEqDiff, false_and, and_false, true_and, and_true, and_self, or_true, true_or, or_false, false_or]; exact hqA.2.1 j, fun j => by simp only [zuI_1, zuI_2, zuJ_1, zuJ_2, zuJ_3, zuP_1, zuP_2, zuP_3, zuC_1, zuC_2, reduceIte, Nat.reduceEqDiff, false_and, and_false, true_and, and_true, and_self, or_true, true_or, or_false, false_or]; exact hqA.2.2 j, by simp only [zuI_1, zuI_2, zuJ_1, zuJ_2, zuJ_3, zuP_1, zuP_2, zuP_3, zuC_1, zuC_2, reduceIte, Nat.reduceEqDiff, false_and, and_false, true_and, and_true, and_self, or_true, true_or, or_false, false_or]; omega⟩)⟩
      · skip
        refine zs_iconst (pc := 274) C dX6_readSign_274 (by decide) ?_
        refine zs_goto (tgt := 279) (pc := 275) C dX6_readSign_275 (by decide) ?_
        first | refine zs_iadd (pc := 279) C dX6_readSign_279 (by omega) ?_ | refine zs_iaddF (pc := 279) C dX6_readSign_279 (fun z279 hz2791 hz2792 => ?_)
        refine zs_puti (r := 706) (pc := 280) C dX6_readSign_280 w_X6_60 f_7_6 rfl (r_706 0) (by omega) ?_
        refine zs_goto (tgt := 292) (pc := 283) C dX6_readSign_283 (by decide) ?_
        exact zs_vret (pc := 292) C hr hlk dX6_readSign_292 ⟨by repeat (first | exact zsm_rf | assumption | refine zsm_C (by decide) ?_ | refine zsm_I (by decide) ?_ | refine zsm_J ?_ | refine zsm_c (by assumption) (by decide) ?_), (by rw [hsg.1, hsg.2]; first | exact ⟨hqA.1, hqA.2.1, hqA.2.2, by omega⟩ | exact ⟨by simp only [zuI_1, zuI_2, zuJ_1, zuJ_2, zuJ_3, zuP_1, zuP_2, zuP_3, zuC_1, zuC_2, reduceIte, Nat.reduceEqDiff, false_and, and_false, true_and, and_true, and_self, or_true, true_or, or_false, false_or]; exact hqA.1, fun j => by simp only [zuI_1, zuI_2, zuJ_1, zuJ_2, zuJ_3, zuP_1, zuP_2, zuP_3, zuC_1, zuC_2, reduceIte, Nat.reduceEqDiff, false_and, and_false, true_and, and_true, and_self, or_true, true_or, or_false, false_or]; exact hqA.2.1 j, fun j => by simp only [zuI_1, zuI_2, zuJ_1, zuJ_2, zuJ_3, zuP_1, zuP_2, zuP_3, zuC_1, zuC_2, reduceIte, Nat.reduceEqDiff, false_and, and_false, true_and, and_true, and_self, or_true, true_or, or_false, false_or]; exact hqA.2.2 j, by simp only [zuI_1, zuI_2, zuJ_1, zuJ_2, zuJ_3, zuP_1, zuP_2, zuP_3, zuC_1, zuC_2, reduceIte, Nat.reduceEqDiff, false_and, and_false, true_and, and_true, and_self, or_true, true_or, or_false, false_or]; omega⟩)⟩
    · skip
      refine zs_bipush (pc := 253) C dX6_readSign_253 (by decide) (by decide) ?_
      refine zs_goto (tgt := 260) (pc := 255) C dX6_readSign_255 (by decide) ?_
      refine zVv2 (pc := 260) C dX6_readSign_260 v_X6_81 (c_X6_addF hX (by omega)) (by decide) (by decide) ⟨Nat.zero_le _, Nat.zero_le _⟩ (Nat.le_of_ble_eq_true rfl) (fun G260 hp260 => ?_)
      obtain ⟨hz260, hq260⟩ := hp260
      have hsg0 := sg_62 (d := c9)
      rw [← (show a = 62 by omega)] at hsg0
      first | have hsg := hsg0.1 (by omega) | have hsg := hsg0.2 (by omega)
      have hqA := hq260
      have tr6 := zsm_at hz260 706 w 0 (by decide)
      refine zs_aload_n (pc := 263) C dX6_readSign_263 rfl ?_
      refine zs_dupa (pc := 264) C dX6_readSign_264 ?_
      refine zs_geti (r := 706) (pc := 265) C dX6_readSign_265 w_X6_60 f_7_6 rfl (r_706 0) (fun v265 e265 l265 u265 => ?_)
      refine zs_iload_n (pc := 268) C dX6_readSign_268 rfl ?_
      refine zs_bipush (pc := 269) C dX6_readSign_269 (by decide) (by decide) ?_
      refine zs_icmp_ne (tgt := 278) (pc := 271) C dX6_readSign_271 (by decide) (fun h271 => ?_) (fun h271 => ?_)
      · skip
        refine zs_iconst (pc := 278) C dX6_readSign_278 (by decide) ?_
        first | refine zs_iadd (pc := 279) C dX6_readSign_279 (by omega) ?_ | refine zs_iaddF (pc := 279) C dX6_readSign_279 (fun z279 hz2791 hz2792 => ?_)
        refine zs_puti (r := 706) (pc := 280) C dX6_readSign_280 w_X6_60 f_7_6 rfl (r_706 0) (by omega) ?_
        refine zs_goto (tgt := 292) (pc := 283) C dX6_readSign_283 (by decide) ?_
        exact zs_vret (pc := 292) C hr hlk dX6_readSign_292 ⟨by repeat (first | exact zsm_rf | assumption | refine zsm_C (by decide) ?_ | refine zsm_I (by decide) ?_ | refine zsm_J ?_ | refine zsm_c (by assumption) (by decide) ?_), (by rw [hsg.1, hsg.2]; first | exact ⟨hqA.1, hqA.2.1, hqA.2.2, by omega⟩ | exact ⟨by simp only [zuI_1, zuI_2, zuJ_1, zuJ_2, zuJ_3, zuP_1, zuP_2, zuP_3, zuC_1, zuC_2, reduceIte, Nat.reduceEqDiff, false_and, and_false, true_and, and_true, and_self, or_true, true_or, or_false, false_or]; exact hqA.1, fun j => by simp only [zuI_1, zuI_2, zuJ_1, zuJ_2, zuJ_3, zuP_1, zuP_2, zuP_3, zuC_1, zuC_2, reduceIte, Nat.reduceEqDiff, false_and, and_false, true_and, and_true, and_self, or_true, true_or, or_false, false_or]; exact hqA.2.1 j, fun j => by simp only [zuI_1, zuI_2, zuJ_1, zuJ_2, zuJ_3, zuP_1, zuP_2, zuP_3, zuC_1, zuC_2, reduceIte, Nat.reduceEqDiff, false_and, and_false, true_and, and_true, and_self, or_true, true_or, or_false, false_or]; exact hqA.2.2 j, by simp only [zuI_1, zuI_2, zuJ_1, zuJ_2, zuJ_3, zuP_1, zuP_2, zuP_3, zuC_1, zuC_2, reduceIte, Nat.reduceEqDiff, false_and, and_false, true_and, and_true, and_self, or_true, true_or, or_false, false_or]; omega⟩)⟩
      · skip
        refine zs_iconst (pc := 274) C dX6_readSign_274 (by decide) ?_
        refine zs_goto (tgt := 279) (pc := 275) C dX6_readSign_275 (by decide) ?_
        first | refine zs_iadd (pc := 279) C dX6_readSign_279 (by omega) ?_ | refine zs_iaddF (pc := 279) C dX6_readSign_279 (fun z279 hz2791 hz2792 => ?_)
        refine zs_puti (r := 706) (pc := 280) C dX6_readSign_280 w_X6_60 f_7_6 rfl (r_706 0) (by omega) ?_
        refine zs_goto (tgt := 292) (pc := 283) C dX6_readSign_283 (by decide) ?_
        exact zs_vret (pc := 292) C hr hlk dX6_readSign_292 ⟨by repeat (first | exact zsm_rf | assumption | refine zsm_C (by decide) ?_ | refine zsm_I (by decide) ?_ | refine zsm_J ?_ | refine zsm_c (by assumption) (by decide) ?_), (by rw [hsg.1, hsg.2]; first | exact ⟨hqA.1, hqA.2.1, hqA.2.2, by omega⟩ | exact ⟨by simp only [zuI_1, zuI_2, zuJ_1, zuJ_2, zuJ_3, zuP_1, zuP_2, zuP_3, zuC_1, zuC_2, reduceIte, Nat.reduceEqDiff, false_and, and_false, true_and, and_true, and_self, or_true, true_or, or_false, false_or]; exact hqA.1, fun j => by simp only [zuI_1, zuI_2, zuJ_1, zuJ_2, zuJ_3, zuP_1, zuP_2, zuP_3, zuC_1, zuC_2, reduceIte, Nat.reduceEqDiff, false_and, and_false, true_and, and_true, and_self, or_true, true_or, or_false, false_or]; exact hqA.2.1 j, fun j => by simp only [zuI_1, zuI_2, zuJ_1, zuJ_2, zuJ_3, zuP_1, zuP_2, zuP_3, zuC_1, zuC_2, reduceIte, Nat.reduceEqDiff, false_and, and_false, true_and, and_true, and_self, or_true, true_or, or_false, false_or]; exact hqA.2.2 j, by simp only [zuI_1, zuI_2, zuJ_1, zuJ_2, zuJ_3, zuP_1, zuP_2, zuP_3, zuC_1, zuC_2, reduceIte, Nat.reduceEqDiff, false_and, and_false, true_and, and_true, and_self, or_true, true_or, or_false, false_or]; omega⟩)⟩
  · skip
    refine zs_tabOut (tgt := 286) (pc := 1) C dX6_readSign_1 h1 (by decide) ?_
    refine zs_aload_n (pc := 286) C dX6_readSign_286 rfl ?_
    refine zs_iconst (pc := 287) C dX6_readSign_287 (by decide) ?_
    refine zs_iconst (pc := 288) C dX6_readSign_288 (by decide) ?_
    refine zVv2 (pc := 289) C dX6_readSign_289 v_X6_81 (c_X6_addF hX (by omega)) (by decide) (by decide) ⟨Nat.zero_le _, Nat.zero_le _⟩ (Nat.le_of_ble_eq_true rfl) (fun G289 hp289 => ?_)
    obtain ⟨hz289, hq289⟩ := hp289
    have hsg := sg_no (c := a) (d := c9) (by omega)
    have hqA := hq289
    have tr6 := zsm_at hz289 706 w 0 (by decide)
    exact zs_vret (pc := 292) C hr hlk dX6_readSign_292 ⟨by repeat (first | exact zsm_rf | assumption | refine zsm_C (by decide) ?_ | refine zsm_I (by decide) ?_ | refine zsm_J ?_ | refine zsm_c (by assumption) (by decide) ?_), (by rw [hsg.1, hsg.2]; first | exact ⟨hqA.1, hqA.2.1, hqA.2.2, by omega⟩ | exact ⟨by simp only [zuI_1, zuI_2, zuJ_1, zuJ_2, zuJ_3, zuP_1, zuP_2, zuP_3, zuC_1, zuC_2, reduceIte, Nat.reduceEqDiff, false_and, and_false, true_and, and_true, and_self, or_true, true_or, or_false, false_or]; exact hqA.1, fun j => by simp only [zuI_1, zuI_2, zuJ_1, zuJ_2, zuJ_3, zuP_1, zuP_2, zuP_3, zuC_1, zuC_2, reduceIte, Nat.reduceEqDiff, false_and, and_false, true_and, and_true, and_self, or_true, true_or, or_false, false_or]; exact hqA.2.1 j, fun j => by simp only [zuI_1, zuI_2, zuJ_1, zuJ_2, zuJ_3, zuP_1, zuP_2, zuP_3, zuC_1, zuC_2, reduceIte, Nat.reduceEqDiff, false_and, and_false, true_and, and_true, and_self, or_true, true_or, or_false, false_or]; exact hqA.2.2 j, by simp only [zuI_1, zuI_2, zuJ_1, zuJ_2, zuJ_3, zuP_1, zuP_2, zuP_3, zuC_1, zuC_2, reduceIte, Nat.reduceEqDiff, false_and, and_false, true_and, and_true, and_self, or_true, true_or, or_false, false_or]; omega⟩)⟩

theorem zuI_nf {G : zH} {r r' a i : Nat} {x : Int} (h : r' ≠ r) : (zuI G r a i x).1 r' = G.1 r' := by
  funext a' i'
  show (if r' = r ∧ a' = a ∧ i' = i then x else G.1 r' a' i') = G.1 r' a' i'
  rw [if_neg (fun h9 => h h9.1)]
/-- the first N tokens, as they lie in the class's three rows -/
def TKS (b : Nat → Int) (n : Int) (N ka pa va : Nat) (G : zH) : Prop := ∀ i : Nat, i < N → stn b n i < n ∧ G.1 2046 pa i = stn b n i ∧ G.1 2045 ka i = tkK b n (stn b n i) ∧ tkR (tkK b n (stn b n i)) (tkV b n (stn b n i)) (G.1 2047 va i)
theorem TKS_bl {b : Nat → Int} {n : Int} {N N' ka pa va : Nat} {G G' : zH} (h : TKS b n N ka pa va G) (hN : N' = N) (hs : ∀ i : Nat, i < N → G'.1 2046 pa i = G.1 2046 pa i ∧ G'.1 2045 ka i = G.1 2045 ka i ∧ G'.1 2047 va i = G.1 2047 va i) : TKS b n N' ka pa va G' := by
  subst hN
  intro i hi
  obtain ⟨h1, h2, h3⟩ := hs i hi
  rw [h1, h2, h3]
  exact h i hi
theorem TKS_add {b : Nat → Int} {n A v : Int} {N N' ka pa va : Nat} {G G' : zH} (h : TKS b n N ka pa va G) (hN : N' = N + 1) (hA : stn b n N = A) (hlt : A < n) (hp : ∀ j : Nat, G'.1 2046 pa j = if j = N then A else G.1 2046 pa j) (hk : ∀ j : Nat, G'.1 2045 ka j = if j = N then tkK b n A else G.1 2045 ka j) (hv : ∀ j : Nat, G'.1 2047 va j = if j = N then v else G.1 2047 va j) (hr : tkR (tkK b n A) (tkV b n A) v) : TKS b n N' ka pa va G' := by
  subst hN
  intro i hi
  rcases Nat.lt_succ_iff_lt_or_eq.mp hi with h1 | h1
  · rw [hp, hk, hv, if_neg (by omega), if_neg (by omega), if_neg (by omega)]
    exact h i h1
  · subst h1
    rw [hp, hk, hv, if_pos rfl, if_pos rfl, if_pos rfl, hA]
    exact ⟨hlt, rfl, rfl, hr⟩

set_option maxHeartbeats 4000000 in
set_option maxRecDepth 100000 in
theorem c_X6_readAllF {l : Launch} {Γ : zΓ} {G : zH} {w b : Nat} {k : Int} (hX : zXs Γ) (hk : 0 ≤ k ∧ k ≤ 700) (hw : ∀ q9 : Nat, q9 < 24 → G.1 2044 (Γ.2.1 w 0) q9 = wl.getD q9 0) : zMet l Γ yX6_readAll cX6_readAll 5 none 2 [zr 7 w, zr 55 b, zi k] G (zpv (fun G' => zsm [704, 705, 706, 2045, 2046, 2047] G G' ∧ (G'.1 705 w 0 = k ∧ ∃ N : Nat, G'.1 704 w 0 = (N : Int) + 1 ∧ N ≤ 700 ∧ stn (G.1 2055 b) k N = k ∧ TKS (G.1 2055 b) k (N) (Γ.2.1 w 1) (Γ.2.1 w 2) (Γ.2.1 w 3) G' ∧ G'.1 2046 (Γ.2.1 w 2) N = k ∧ G'.1 2045 (Γ.2.1 w 1) N = 0 ∧ G'.1 2047 (Γ.2.1 w 3) N = 0))) := by
  refine zMet_of RX6 hX (by decide) rfl (Nat.le_of_ble_eq_true rfl) ?_
  intro p e s m args below meth c C hr hlk
  show Z p l e (zrm 2) s m args below meth c Γ 5 0 0 (MQ below (zQc Γ (zpv (fun G' => zsm [704, 705, 706, 2045, 2046, 2047] G G' ∧ (G'.1 705 w 0 = k ∧ ∃ N : Nat, G'.1 704 w 0 = (N : Int) + 1 ∧ N ≤ 700 ∧ stn (G.1 2055 b) k N = k ∧ TKS (G.1 2055 b) k (N) (Γ.2.1 w 1) (Γ.2.1 w 2) (Γ.2.1 w 3) G' ∧ G'.1 2046 (Γ.2.1 w 2) N = k ∧ G'.1 2045 (Γ.2.1 w 1) N = 0 ∧ G'.1 2047 (Γ.2.1 w 3) N = 0)))) args s 0 0 (zA Γ)) 0 [some (zr 7 w), some (zr 55 b), some (zi k), none, none] [] G
  refine zs_loc 2 rfl (fun ha2 hb2 => ?_)
  refine zs_aload_n (pc := 0) C dX6_readAll_0 rfl ?_
  refine zs_iconst (pc := 1) C dX6_readAll_1 (by decide) ?_
  refine zs_sipush (pc := 2) C dX6_readAll_2 (by decide) (by decide) ?_
  refine zs_iload_n (pc := 5) C dX6_readAll_5 rfl ?_
  refine zs_aload_n (pc := 6) C dX6_readAll_6 rfl ?_
  refine zs_alen (pc := 7) C dX6_readAll_7 a_55 (by decide) (by decide) ?_
  refine zs_minI (pc := 8) C dX6_readAll_8 s_X6_46 (by decide) (Nat.le_of_ble_eq_true rfl) ⟨Nat.zero_le _, Nat.zero_le _⟩ (fun z8 hz8 => ?_)
  refine zs_minI (pc := 11) C dX6_readAll_11 s_X6_46 (by decide) (Nat.le_of_ble_eq_true rfl) ⟨Nat.zero_le _, Nat.zero_le _⟩ (fun z11 hz11 => ?_)
  refine zs_maxI (pc := 14) C dX6_readAll_14 s_X6_51 (by decide) (Nat.le_of_ble_eq_true rfl) ⟨Nat.zero_le _, Nat.zero_le _⟩ (fun z14 hz14 => ?_)
  refine zs_puti (r := 705) (pc := 17) C dX6_readAll_17 w_X6_54 f_7_5 rfl (r_705 0) (by omega) ?_
  refine zs_aload_n (pc := 20) C dX6_readAll_20 rfl ?_
  refine zs_iconst (pc := 21) C dX6_readAll_21 (by decide) ?_
  refine zs_puti (r := 704) (pc := 22) C dX6_readAll_22 w_X6_57 f_7_4 rfl (r_704 0) (by omega) ?_
  refine zs_aload_n (pc := 25) C dX6_readAll_25 rfl ?_
  refine zs_iconst (pc := 26) C dX6_readAll_26 (by decide) ?_
  refine zs_puti (r := 706) (pc := 27) C dX6_readAll_27 w_X6_60 f_7_6 rfl (r_706 0) (by omega) ?_
  refine zs_iconst (pc := 30) C dX6_readAll_30 (by decide) ?_
  refine zs_istore_n (pc := 31) C dX6_readAll_31 (by decide) ?_
  dsimp only [zset, zclr, znone]
  have L32 : ∀ (nn : Nat) (x3 : Int) (G1 : zH), (0 ≤ x3 ∧ x3 ≤ 700) → (G1.1 705 w 0 = k) → (G1.1 704 w 0 ≤ x3 ∧ x3 ≤ G1.1 706 w 0 ∧ G1.1 706 w 0 ≤ k) → (TKS (G.1 2055 b) k ((G1.1 704 w 0).toNat) (Γ.2.1 w 1) (Γ.2.1 w 2) (Γ.2.1 w 3) G1) → (sk (G.1 2055 b) k (G1.1 706 w 0) = stn (G.1 2055 b) k (G1.1 704 w 0).toNat) → (zsm [704, 705, 706, 2045, 2046, 2047] G G1) → (700 - x3).toNat < nn → Z p l e (zrm 2) s m args below meth c Γ 5 0 0 (MQ below (zQc Γ (zpv (fun G' => zsm [704, 705, 706, 2045, 2046, 2047] G G' ∧ (G'.1 705 w 0 = k ∧ ∃ N : Nat, G'.1 704 w 0 = (N : Int) + 1 ∧ N ≤ 700 ∧ stn (G.1 2055 b) k N = k ∧ TKS (G.1 2055 b) k (N) (Γ.2.1 w 1) (Γ.2.1 w 2) (Γ.2.1 w 3) G' ∧ G'.1 2046 (Γ.2.1 w 2) N = k ∧ G'.1 2045 (Γ.2.1 w 1) N = 0 ∧ G'.1 2047 (Γ.2.1 w 3) N = 0)))) args s 0 0 (zA Γ)) 32 [some (zr 7 w), some (zr 55 b), some (zi k), some (zi x3), none] [] G1 := by
    intro nn
    induction nn with
    | zero => intro x3 G1 h32_0 h32_1 h32_2 h32_3 h32_4 h32_5 hm; exact absurd hm (Nat.not_lt_zero _)
    | succ nn ih32 =>
      intro x3 G1 h32_0 h32_1 h32_2 h32_3 h32_4 h32_5 hm32
      refine zs_iload_n (pc := 32) C dX6_readAll_32 rfl ?_
      refine zs_sipush (pc := 33) C dX6_readAll_33 (by decide) (by decide) ?_
      refine zs_icmp_ge (tgt := 173) (pc := 36) C dX6_readAll_36 (by decide) (fun h36 => ?_) (fun h36 => ?_)
      · skip
        refine zs_aload_n (pc := 173) C dX6_readAll_173 rfl ?_
        refine zs_getf (pc := 174) C dX6_readAll_174 w_X6_18 f_7_2 (by decide) ?_
        refine zs_aload_n (pc := 177) C dX6_readAll_177 rfl ?_
        refine zs_geti (r := 704) (pc := 178) C dX6_readAll_178 w_X6_57 f_7_4 rfl (r_704 0) (fun v178 e178 l178 u178 => ?_)
        refine zs_aload_n (pc := 181) C dX6_readAll_181 rfl ?_
        refine zs_geti (r := 705) (pc := 182) C dX6_readAll_182 w_X6_54 f_7_5 rfl (r_705 0) (fun v182 e182 l182 u182 => ?_)
        refine zs_iast (r := 2046) (pc := 185) C dX6_readAll_185 a_46 (by decide) (by omega) rfl (r_2046 _) (by omega) ?_
        refine zs_aload_n (pc := 186) C dX6_readAll_186 rfl ?_
        refine zs_iconst (pc := 187) C dX6_readAll_187 (by decide) ?_
        refine zs_iconst (pc := 188) C dX6_readAll_188 (by decide) ?_
        refine zVv2 (pc := 189) C dX6_readAll_189 v_X6_81 (c_X6_addF hX (by first | omega | (simp only [zuI_1, zuI_2, zuJ_1, zuJ_2, zuJ_3, zuP_1, zuP_2, zuP_3, zuC_1, zuC_2, reduceIte, Nat.reduceEqDiff, false_and, and_false, true_and, and_true, and_self, or_true, true_or, or_false, false_or]; omega))) (by decide) (by decide) ⟨Nat.zero_le _, Nat.zero_le _⟩ (Nat.le_of_ble_eq_true rfl) (fun G189 hp189 => ?_)
        obtain ⟨hz189, hq189⟩ := hp189
        try simp only [zuI_1, zuI_2, zuJ_1, zuJ_2, zuJ_3, zuP_1, zuP_2, zuP_3, zuC_1, zuC_2, reduceIte, Nat.reduceEqDiff, false_and, and_false, true_and, and_true, and_self, or_true, true_or, or_false, false_or] at hq189
        have tr189_705 := zsm_at hz189 705 w 0 (by decide)
        try simp only [zuI_1, zuI_2, zuJ_1, zuJ_2, zuJ_3, zuP_1, zuP_2, zuP_3, zuC_1, zuC_2, reduceIte, Nat.reduceEqDiff, false_and, and_false, true_and, and_true, and_self, or_true, true_or, or_false, false_or] at tr189_705
        exact zs_vret (pc := 192) C hr hlk dX6_readAll_192 ⟨by repeat (first | exact zsm_rf | assumption | refine zsm_C (by decide) ?_ | refine zsm_I (by decide) ?_ | refine zsm_J ?_ | refine zsm_c (by assumption) (by decide) ?_), (by
              have hAk : G1.1 706 w 0 = k := by omega
              have hst : stn (G.1 2055 b) k (G1.1 704 w 0).toNat = k := by rw [← h32_4, hAk, sk, sp_e (by omega)]
              have trp := hz189.1 2046 (by decide)
              refine ⟨by omega, (G1.1 704 w 0).toNat, by omega, by omega, hst, TKS_bl h32_3 rfl (fun i hi => ⟨by rw [trp]; simp only [zuI_1, zuI_2, zuJ_1, zuJ_2, zuJ_3, zuP_1, zuP_2, zuP_3, zuC_1, zuC_2, reduceIte, Nat.reduceEqDiff, false_and, and_false, true_and, and_true, and_self, or_true, true_or, or_false, false_or]; rw [if_neg (by omega)], by rw [hq189.2.1, if_neg (by omega)], by rw [hq189.2.2, if_neg (by omega)]⟩), by rw [trp]; simp only [zuI_1, zuI_2, zuJ_1, zuJ_2, zuJ_3, zuP_1, zuP_2, zuP_3, zuC_1, zuC_2, reduceIte, Nat.reduceEqDiff, false_and, and_false, true_and, and_true, and_self, or_true, true_or, or_false, false_or]; rw [if_pos (by rw [e178])]; omega, by rw [hq189.2.1, if_pos rfl], by rw [hq189.2.2, if_pos rfl]⟩)⟩
      · skip
        refine zs_aload_n (pc := 39) C dX6_readAll_39 rfl ?_
        refine zs_geti (r := 706) (pc := 40) C dX6_readAll_40 w_X6_60 f_7_6 rfl (r_706 0) (fun v40 e40 l40 u40 => ?_)
        refine zs_aload_n (pc := 43) C dX6_readAll_43 rfl ?_
        refine zs_geti (r := 705) (pc := 44) C dX6_readAll_44 w_X6_54 f_7_5 rfl (r_705 0) (fun v44 e44 l44 u44 => ?_)
        refine zs_icmp_ge (tgt := 173) (pc := 47) C dX6_readAll_47 (by decide) (fun h47 => ?_) (fun h47 => ?_)
        · skip
          refine zs_aload_n (pc := 173) C dX6_readAll_173 rfl ?_
          refine zs_getf (pc := 174) C dX6_readAll_174 w_X6_18 f_7_2 (by decide) ?_
          refine zs_aload_n (pc := 177) C dX6_readAll_177 rfl ?_
          refine zs_geti (r := 704) (pc := 178) C dX6_readAll_178 w_X6_57 f_7_4 rfl (r_704 0) (fun v178 e178 l178 u178 => ?_)
          refine zs_aload_n (pc := 181) C dX6_readAll_181 rfl ?_
          refine zs_geti (r := 705) (pc := 182) C dX6_readAll_182 w_X6_54 f_7_5 rfl (r_705 0) (fun v182 e182 l182 u182 => ?_)
          refine zs_iast (r := 2046) (pc := 185) C dX6_readAll_185 a_46 (by decide) (by omega) rfl (r_2046 _) (by omega) ?_
          refine zs_aload_n (pc := 186) C dX6_readAll_186 rfl ?_
          refine zs_iconst (pc := 187) C dX6_readAll_187 (by decide) ?_
          refine zs_iconst (pc := 188) C dX6_readAll_188 (by decide) ?_
          refine zVv2 (pc := 189) C dX6_readAll_189 v_X6_81 (c_X6_addF hX (by first | omega | (simp only [zuI_1, zuI_2, zuJ_1, zuJ_2, zuJ_3, zuP_1, zuP_2, zuP_3, zuC_1, zuC_2, reduceIte, Nat.reduceEqDiff, false_and, and_false, true_and, and_true, and_self, or_true, true_or, or_false, false_or]; omega))) (by decide) (by decide) ⟨Nat.zero_le _, Nat.zero_le _⟩ (Nat.le_of_ble_eq_true rfl) (fun G189 hp189 => ?_)
          obtain ⟨hz189, hq189⟩ := hp189
          try simp only [zuI_1, zuI_2, zuJ_1, zuJ_2, zuJ_3, zuP_1, zuP_2, zuP_3, zuC_1, zuC_2, reduceIte, Nat.reduceEqDiff, false_and, and_false, true_and, and_true, and_self, or_true, true_or, or_false, false_or] at hq189
          have tr189_705 := zsm_at hz189 705 w 0 (by decide)
          try simp only [zuI_1, zuI_2, zuJ_1, zuJ_2, zuJ_3, zuP_1, zuP_2, zuP_3, zuC_1, zuC_2, reduceIte, Nat.reduceEqDiff, false_and, and_false, true_and, and_true, and_self, or_true, true_or, or_false, false_or] at tr189_705
          exact zs_vret (pc := 192) C hr hlk dX6_readAll_192 ⟨by repeat (first | exact zsm_rf | assumption | refine zsm_C (by decide) ?_ | refine zsm_I (by decide) ?_ | refine zsm_J ?_ | refine zsm_c (by assumption) (by decide) ?_), (by
                have hAk : G1.1 706 w 0 = k := by omega
                have hst : stn (G.1 2055 b) k (G1.1 704 w 0).toNat = k := by rw [← h32_4, hAk, sk, sp_e (by omega)]
                have trp := hz189.1 2046 (by decide)
                refine ⟨by omega, (G1.1 704 w 0).toNat, by omega, by omega, hst, TKS_bl h32_3 rfl (fun i hi => ⟨by rw [trp]; simp only [zuI_1, zuI_2, zuJ_1, zuJ_2, zuJ_3, zuP_1, zuP_2, zuP_3, zuC_1, zuC_2, reduceIte, Nat.reduceEqDiff, false_and, and_false, true_and, and_true, and_self, or_true, true_or, or_false, false_or]; rw [if_neg (by omega)], by rw [hq189.2.1, if_neg (by omega)], by rw [hq189.2.2, if_neg (by omega)]⟩), by rw [trp]; simp only [zuI_1, zuI_2, zuJ_1, zuJ_2, zuJ_3, zuP_1, zuP_2, zuP_3, zuC_1, zuC_2, reduceIte, Nat.reduceEqDiff, false_and, and_false, true_and, and_true, and_self, or_true, true_or, or_false, false_or]; rw [if_pos (by rw [e178])]; omega, by rw [hq189.2.1, if_pos rfl], by rw [hq189.2.2, if_pos rfl]⟩)⟩
        · skip
          refine zs_aload_n (pc := 50) C dX6_readAll_50 rfl ?_
          refine zs_aload_n (pc := 51) C dX6_readAll_51 rfl ?_
          refine zs_geti (r := 706) (pc := 52) C dX6_readAll_52 w_X6_60 f_7_6 rfl (r_706 0) (fun v52 e52 l52 u52 => ?_)
          refine zs_iald (r := 2055) (pc := 55) C dX6_readAll_55 a_55 (by decide) (by omega) rfl (r_2055 _) (fun v55 e55 l55 u55 => ?_)
          refine zs_istore (pc := 56) C dX6_readAll_56 (by decide) ?_
          dsimp only [zset, zclr, znone]
          refine zs_aload_n (pc := 58) C dX6_readAll_58 rfl ?_
          refine zs_getf (pc := 59) C dX6_readAll_59 w_X6_18 f_7_2 (by decide) ?_
          refine zs_aload_n (pc := 62) C dX6_readAll_62 rfl ?_
          refine zs_geti (r := 704) (pc := 63) C dX6_readAll_63 w_X6_57 f_7_4 rfl (r_704 0) (fun v63 e63 l63 u63 => ?_)
          refine zs_aload_n (pc := 66) C dX6_readAll_66 rfl ?_
          refine zs_geti (r := 706) (pc := 67) C dX6_readAll_67 w_X6_60 f_7_6 rfl (r_706 0) (fun v67 e67 l67 u67 => ?_)
          refine zs_iast (r := 2046) (pc := 70) C dX6_readAll_70 a_46 (by decide) (by omega) rfl (r_2046 _) (by omega) ?_
          refine zs_iload (pc := 71) C dX6_readAll_71 rfl ?_
          refine zs_bipush (pc := 73) C dX6_readAll_73 (by decide) (by decide) ?_
          refine zs_icmp_eq (tgt := 85) (pc := 75) C dX6_readAll_75 (by decide) (fun h75 => ?_) (fun h75 => ?_)
          · skip
            have hBl : fB ((G.1 2055 b) (G1.1 706 w 0).toNat) = true := by rw [fB_i, ← h32_5.1 2055 (by decide), ← e52, ← e55]; omega
            refine zs_aload_n (pc := 85) C dX6_readAll_85 rfl ?_
            refine zs_dupa (pc := 86) C dX6_readAll_86 ?_
            refine zs_geti (r := 706) (pc := 87) C dX6_readAll_87 w_X6_60 f_7_6 rfl (r_706 0) (fun v87 e87 l87 u87 => ?_)
            try simp only [zuI_1, zuI_2, zuJ_1, zuJ_2, zuJ_3, zuP_1, zuP_2, zuP_3, zuC_1, zuC_2, reduceIte, Nat.reduceEqDiff, false_and, and_false, true_and, and_true, and_self, or_true, true_or, or_false, false_or] at e87
            refine zs_iconst (pc := 90) C dX6_readAll_90 (by decide) ?_
            first | refine zs_iadd (pc := 91) C dX6_readAll_91 (by omega) ?_ | refine zs_iaddF (pc := 91) C dX6_readAll_91 (fun z91 hz911 hz912 => ?_)
            refine zs_puti (r := 706) (pc := 92) C dX6_readAll_92 w_X6_60 f_7_6 rfl (r_706 0) (by omega) ?_
            refine zs_goto (tgt := 167) (pc := 95) C dX6_readAll_95 (by decide) ?_
            first | refine zs_iinc (pc := 167) C dX6_readAll_167 rfl (by decide) (by omega) ?_ | refine zs_iincF (pc := 167) C dX6_readAll_167 rfl (by decide) (fun z167 hz1671 hz1672 => ?_)
            dsimp only [zset, zclr, znone]
            refine zs_goto (tgt := 32) (pc := 170) C dX6_readAll_170 (by decide) ?_
            exact zs_wk (ih32 _ _ (by omega) (by first | omega | (simp only [zuI_1, zuI_2, zuJ_1, zuJ_2, zuJ_3, zuP_1, zuP_2, zuP_3, zuC_1, zuC_2, reduceIte, Nat.reduceEqDiff, false_and, and_false, true_and, and_true, and_self, or_true, true_or, or_false, false_or]; omega)) (by first | omega | (simp only [zuI_1, zuI_2, zuJ_1, zuJ_2, zuJ_3, zuP_1, zuP_2, zuP_3, zuC_1, zuC_2, reduceIte, Nat.reduceEqDiff, false_and, and_false, true_and, and_true, and_self, or_true, true_or, or_false, false_or]; omega)) (by first | exact jT | exact TKS_bl h32_3 (by simp only [zuI_1, zuI_2, zuJ_1, zuJ_2, zuJ_3, zuP_1, zuP_2, zuP_3, zuC_1, zuC_2, reduceIte, Nat.reduceEqDiff, false_and, and_false, true_and, and_true, and_self, or_true, true_or, or_false, false_or]) (fun i hi => ⟨by simp only [zuI_1, zuI_2, zuJ_1, zuJ_2, zuJ_3, zuP_1, zuP_2, zuP_3, zuC_1, zuC_2, reduceIte, Nat.reduceEqDiff, false_and, and_false, true_and, and_true, and_self, or_true, true_or, or_false, false_or]; rw [if_neg (by omega)], by simp only [zuI_1, zuI_2, zuJ_1, zuJ_2, zuJ_3, zuP_1, zuP_2, zuP_3, zuC_1, zuC_2, reduceIte, Nat.reduceEqDiff, false_and, and_false, true_and, and_true, and_self, or_true, true_or, or_false, false_or], by simp only [zuI_1, zuI_2, zuJ_1, zuJ_2, zuJ_3, zuP_1, zuP_2, zuP_3, zuC_1, zuC_2, reduceIte, Nat.reduceEqDiff, false_and, and_false, true_and, and_true, and_self, or_true, true_or, or_false, false_or]⟩)) (by first | exact jS | (simp only [zuI_1, zuI_2, zuJ_1, zuJ_2, zuJ_3, zuP_1, zuP_2, zuP_3, zuC_1, zuC_2, reduceIte, Nat.reduceEqDiff, false_and, and_false, true_and, and_true, and_self, or_true, true_or, or_false, false_or]; rw [← h32_4, sk, sk, show v87 + 1 = G1.1 706 w 0 + 1 by omega]; exact (sp_s (by omega) hBl).symm)) (by repeat (first | exact zsm_rf | assumption | refine zsm_C (by decide) ?_ | refine zsm_I (by decide) ?_ | refine zsm_J ?_ | refine zsm_c (by assumption) (by decide) ?_)) (by first | omega | (simp only [zuI_1, zuI_2, zuJ_1, zuJ_2, zuJ_3, zuP_1, zuP_2, zuP_3, zuC_1, zuC_2, reduceIte, Nat.reduceEqDiff, false_and, and_false, true_and, and_true, and_self, or_true, true_or, or_false, false_or]; omega))) (zwk_s rfl (zwk_s rfl (zwk_s rfl (zwk_s rfl (zwk_n zwk_0)))))
          · skip
            refine zs_iload (pc := 78) C dX6_readAll_78 rfl ?_
            refine zs_bipush (pc := 80) C dX6_readAll_80 (by decide) (by decide) ?_
            refine zs_icmp_ne (tgt := 98) (pc := 82) C dX6_readAll_82 (by decide) (fun h82 => ?_) (fun h82 => ?_)
            · skip
              refine zs_iload (pc := 98) C dX6_readAll_98 rfl ?_
              refine zSip1 (pc := 100) C dX6_readAll_100 s_X6_63 (c_X6_isLetterF hX ) (by decide) ⟨Nat.zero_le _, Nat.zero_le _⟩ (Nat.le_of_ble_eq_true rfl) (fun x100 l100 u100 hp100 => ?_)
              have hq100 := hp100
              try simp only [zuI_1, zuI_2, zuJ_1, zuJ_2, zuJ_3, zuP_1, zuP_2, zuP_3, zuC_1, zuC_2, reduceIte, Nat.reduceEqDiff, false_and, and_false, true_and, and_true, and_self, or_true, true_or, or_false, false_or] at hq100
              refine zs_if_eq (tgt := 114) (pc := 103) C dX6_readAll_103 (by decide) (fun h103 => ?_) (fun h103 => ?_)
              · skip
                refine zs_iload (pc := 114) C dX6_readAll_114 rfl ?_
                refine zSip1 (pc := 116) C dX6_readAll_116 s_X6_71 (c_X6_isDigitF hX ) (by decide) ⟨Nat.zero_le _, Nat.zero_le _⟩ (Nat.le_of_ble_eq_true rfl) (fun x116 l116 u116 hp116 => ?_)
                have hq116 := hp116
                try simp only [zuI_1, zuI_2, zuJ_1, zuJ_2, zuJ_3, zuP_1, zuP_2, zuP_3, zuC_1, zuC_2, reduceIte, Nat.reduceEqDiff, false_and, and_false, true_and, and_true, and_self, or_true, true_or, or_false, false_or] at hq116
                refine zs_if_eq (tgt := 130) (pc := 119) C dX6_readAll_119 (by decide) (fun h119 => ?_) (fun h119 => ?_)
                · skip
                  refine zs_aload_n (pc := 130) C dX6_readAll_130 rfl ?_
                  refine zs_dupa (pc := 131) C dX6_readAll_131 ?_
                  refine zs_geti (r := 706) (pc := 132) C dX6_readAll_132 w_X6_60 f_7_6 rfl (r_706 0) (fun v132 e132 l132 u132 => ?_)
                  try simp only [zuI_1, zuI_2, zuJ_1, zuJ_2, zuJ_3, zuP_1, zuP_2, zuP_3, zuC_1, zuC_2, reduceIte, Nat.reduceEqDiff, false_and, and_false, true_and, and_true, and_self, or_true, true_or, or_false, false_or] at e132
                  refine zs_iconst (pc := 135) C dX6_readAll_135 (by decide) ?_
                  first | refine zs_iadd (pc := 136) C dX6_readAll_136 (by omega) ?_ | refine zs_iaddF (pc := 136) C dX6_readAll_136 (fun z136 hz1361 hz1362 => ?_)
                  refine zs_puti (r := 706) (pc := 137) C dX6_readAll_137 w_X6_60 f_7_6 rfl (r_706 0) (by omega) ?_
                  refine zs_aload_n (pc := 140) C dX6_readAll_140 rfl ?_
                  refine zs_iload (pc := 141) C dX6_readAll_141 rfl ?_
                  refine zs_aload_n (pc := 143) C dX6_readAll_143 rfl ?_
                  refine zs_geti (r := 706) (pc := 144) C dX6_readAll_144 w_X6_60 f_7_6 rfl (r_706 0) (fun v144 e144 l144 u144 => ?_)
                  try simp only [zuI_1, zuI_2, zuJ_1, zuJ_2, zuJ_3, zuP_1, zuP_2, zuP_3, zuC_1, zuC_2, reduceIte, Nat.reduceEqDiff, false_and, and_false, true_and, and_true, and_self, or_true, true_or, or_false, false_or] at e144
                  refine zs_aload_n (pc := 147) C dX6_readAll_147 rfl ?_
                  refine zs_geti (r := 705) (pc := 148) C dX6_readAll_148 w_X6_54 f_7_5 rfl (r_705 0) (fun v148 e148 l148 u148 => ?_)
                  try simp only [zuI_1, zuI_2, zuJ_1, zuJ_2, zuJ_3, zuP_1, zuP_2, zuP_3, zuC_1, zuC_2, reduceIte, Nat.reduceEqDiff, false_and, and_false, true_and, and_true, and_self, or_true, true_or, or_false, false_or] at e148
                  refine zs_icmp_ge (tgt := 163) (pc := 151) C dX6_readAll_151 (by decide) (fun h151 => ?_) (fun h151 => ?_)
                  · skip
                    refine zs_iconst (pc := 163) C dX6_readAll_163 (by decide) ?_
                    refine zVv2 (pc := 164) C dX6_readAll_164 v_X6_77 (c_X6_readSignF hX (by first | omega | (simp only [zuI_1, zuI_2, zuJ_1, zuJ_2, zuJ_3, zuP_1, zuP_2, zuP_3, zuC_1, zuC_2, reduceIte, Nat.reduceEqDiff, false_and, and_false, true_and, and_true, and_self, or_true, true_or, or_false, false_or]; omega)) (by first | omega | (simp only [zuI_1, zuI_2, zuJ_1, zuJ_2, zuJ_3, zuP_1, zuP_2, zuP_3, zuC_1, zuC_2, reduceIte, Nat.reduceEqDiff, false_and, and_false, true_and, and_true, and_self, or_true, true_or, or_false, false_or]; omega))) (by decide) (by decide) ⟨Nat.zero_le _, Nat.zero_le _⟩ (Nat.le_of_ble_eq_true rfl) (fun G164 hp164 => ?_)
                    obtain ⟨hz164, hq164⟩ := hp164
                    try simp only [zuI_1, zuI_2, zuJ_1, zuJ_2, zuJ_3, zuP_1, zuP_2, zuP_3, zuC_1, zuC_2, reduceIte, Nat.reduceEqDiff, false_and, and_false, true_and, and_true, and_self, or_true, true_or, or_false, false_or] at hq164
                    have tr164_705 := zsm_at hz164 705 w 0 (by decide)
                    try simp only [zuI_1, zuI_2, zuJ_1, zuJ_2, zuJ_3, zuP_1, zuP_2, zuP_3, zuC_1, zuC_2, reduceIte, Nat.reduceEqDiff, false_and, and_false, true_and, and_true, and_self, or_true, true_or, or_false, false_or] at tr164_705
                    have hA : stn (G.1 2055 b) k (G1.1 704 w 0).toNat = G1.1 706 w 0 := by
                      rw [← h32_4, sk, sp_e]
                      rw [← h32_5.1 2055 (by decide), ← e52, ← e55, fB_i]
                      omega
                    have h55 : v55 = (G.1 2055 b) (G1.1 706 w 0).toNat := by rw [e55, e52, h32_5.1 2055 (by decide)]
                    have hnl : ¬ fL ((G.1 2055 b) (G1.1 706 w 0).toNat) = true := by rw [← h55]; intro h9; have h8 := hq100.2.mpr h9; omega
                    have hnd : ¬ fD ((G.1 2055 b) (G1.1 706 w 0).toNat) = true := by rw [← h55]; intro h9; have h8 := hq116.2.mpr h9; omega
                    have hts := tk_s (show G1.1 706 w 0 < k by omega) hnl hnd
                    have hgt := tkN_gt (b := (G.1 2055 b)) (n := k) (p := G1.1 706 w 0) (by omega)
                    rw [hts.2.2] at hgt
                    have trp := hz164.1 2046 (by decide)
                    first | have hbv : bh (G.1 2055 b) k (G1.1 706 w 0) = v159 := (by unfold bh; rw [if_pos (by omega), e159, h32_5.1 2055 (by decide), show v156 = G1.1 706 w 0 + 1 by omega]) | have hbv : bh (G.1 2055 b) k (G1.1 706 w 0) = 0 := (by unfold bh; rw [if_neg (by omega)])
                    rw [← h55, hbv] at hts hgt
                    have jT : TKS (G.1 2055 b) k (G164.1 704 w 0).toNat (Γ.2.1 w 1) (Γ.2.1 w 2) (Γ.2.1 w 3) G164 := TKS_add h32_3 (by rw [hq164.1]; omega) hA (by omega) (fun j => by rw [trp]; simp only [zuI_1, zuI_2, zuJ_1, zuJ_2, zuJ_3, zuP_1, zuP_2, zuP_3, zuC_1, zuC_2, reduceIte, Nat.reduceEqDiff, false_and, and_false, true_and, and_true, and_self, or_true, true_or, or_false, false_or]; rw [show v63.toNat = (G1.1 704 w 0).toNat by rw [e63], show v67 = G1.1 706 w 0 from e67]) (by rw [hts.1]; exact hq164.2.1) hq164.2.2.1 ⟨fun q => by rw [hts.1] at q; split at q <;> exact absurd q (by decide), fun q => hts.2.1.symm⟩
                    have jS : sk (G.1 2055 b) k (G164.1 706 w 0) = stn (G.1 2055 b) k (G164.1 704 w 0).toNat := by
                      rw [show (G164.1 704 w 0).toNat = (G1.1 704 w 0).toNat + 1 by rw [hq164.1]; omega, stn_s (by rw [hA]; omega), hA, hts.2.2]
                      congr 1
                      omega
                    first | refine zs_iinc (pc := 167) C dX6_readAll_167 rfl (by decide) (by omega) ?_ | refine zs_iincF (pc := 167) C dX6_readAll_167 rfl (by decide) (fun z167 hz1671 hz1672 => ?_)
                    dsimp only [zset, zclr, znone]
                    refine zs_goto (tgt := 32) (pc := 170) C dX6_readAll_170 (by decide) ?_
                    exact zs_wk (ih32 _ _ (by omega) (by first | omega | (simp only [zuI_1, zuI_2, zuJ_1, zuJ_2, zuJ_3, zuP_1, zuP_2, zuP_3, zuC_1, zuC_2, reduceIte, Nat.reduceEqDiff, false_and, and_false, true_and, and_true, and_self, or_true, true_or, or_false, false_or]; omega)) (by first | omega | (simp only [zuI_1, zuI_2, zuJ_1, zuJ_2, zuJ_3, zuP_1, zuP_2, zuP_3, zuC_1, zuC_2, reduceIte, Nat.reduceEqDiff, false_and, and_false, true_and, and_true, and_self, or_true, true_or, or_false, false_or]; omega)) (by first | exact jT | exact TKS_bl h32_3 (by simp only [zuI_1, zuI_2, zuJ_1, zuJ_2, zuJ_3, zuP_1, zuP_2, zuP_3, zuC_1, zuC_2, reduceIte, Nat.reduceEqDiff, false_and, and_false, true_and, and_true, and_self, or_true, true_or, or_false, false_or]) (fun i hi => ⟨by simp only [zuI_1, zuI_2, zuJ_1, zuJ_2, zuJ_3, zuP_1, zuP_2, zuP_3, zuC_1, zuC_2, reduceIte, Nat.reduceEqDiff, false_and, and_false, true_and, and_true, and_self, or_true, true_or, or_false, false_or]; rw [if_neg (by omega)], by simp only [zuI_1, zuI_2, zuJ_1, zuJ_2, zuJ_3, zuP_1, zuP_2, zuP_3, zuC_1, zuC_2, reduceIte, Nat.reduceEqDiff, false_and, and_false, true_and, and_true, and_self, or_true, true_or, or_false, false_or], by simp only [zuI_1, zuI_2, zuJ_1, zuJ_2, zuJ_3, zuP_1, zuP_2, zuP_3, zuC_1, zuC_2, reduceIte, Nat.reduceEqDiff, false_and, and_false, true_and, and_true, and_self, or_true, true_or, or_false, false_or]⟩)) (by first | exact jS | (simp only [zuI_1, zuI_2, zuJ_1, zuJ_2, zuJ_3, zuP_1, zuP_2, zuP_3, zuC_1, zuC_2, reduceIte, Nat.reduceEqDiff, false_and, and_false, true_and, and_true, and_self, or_true, true_or, or_false, false_or]; rw [← h32_4, sk, sk, show v87 + 1 = G1.1 706 w 0 + 1 by omega]; exact (sp_s (by omega) hBl).symm)) (by repeat (first | exact zsm_rf | assumption | refine zsm_C (by decide) ?_ | refine zsm_I (by decide) ?_ | refine zsm_J ?_ | refine zsm_c (by assumption) (by decide) ?_)) (by first | omega | (simp only [zuI_1, zuI_2, zuJ_1, zuJ_2, zuJ_3, zuP_1, zuP_2, zuP_3, zuC_1, zuC_2, reduceIte, Nat.reduceEqDiff, false_and, and_false, true_and, and_true, and_self, or_true, true_or, or_false, false_or]; omega))) (zwk_s rfl (zwk_s rfl (zwk_s rfl (zwk_s rfl (zwk_n zwk_0)))))
                  · skip
                    refine zs_aload_n (pc := 154) C dX6_readAll_154 rfl ?_
                    refine zs_aload_n (pc := 155) C dX6_readAll_155 rfl ?_
                    refine zs_geti (r := 706) (pc := 156) C dX6_readAll_156 w_X6_60 f_7_6 rfl (r_706 0) (fun v156 e156 l156 u156 => ?_)
                    try simp only [zuI_1, zuI_2, zuJ_1, zuJ_2, zuJ_3, zuP_1, zuP_2, zuP_3, zuC_1, zuC_2, reduceIte, Nat.reduceEqDiff, false_and, and_false, true_and, and_true, and_self, or_true, true_or, or_false, false_or] at e156
                    refine zs_iald (r := 2055) (pc := 159) C dX6_readAll_159 a_55 (by decide) (by omega) rfl (r_2055 _) (fun v159 e159 l159 u159 => ?_)
                    try simp only [zuI_1, zuI_2, zuJ_1, zuJ_2, zuJ_3, zuP_1, zuP_2, zuP_3, zuC_1, zuC_2, reduceIte, Nat.reduceEqDiff, false_and, and_false, true_and, and_true, and_self, or_true, true_or, or_false, false_or] at e159
                    refine zs_goto (tgt := 164) (pc := 160) C dX6_readAll_160 (by decide) ?_
                    refine zVv2 (pc := 164) C dX6_readAll_164 v_X6_77 (c_X6_readSignF hX (by first | omega | (simp only [zuI_1, zuI_2, zuJ_1, zuJ_2, zuJ_3, zuP_1, zuP_2, zuP_3, zuC_1, zuC_2, reduceIte, Nat.reduceEqDiff, false_and, and_false, true_and, and_true, and_self, or_true, true_or, or_false, false_or]; omega)) (by first | omega | (simp only [zuI_1, zuI_2, zuJ_1, zuJ_2, zuJ_3, zuP_1, zuP_2, zuP_3, zuC_1, zuC_2, reduceIte, Nat.reduceEqDiff, false_and, and_false, true_and, and_true, and_self, or_true, true_or, or_false, false_or]; omega))) (by decide) (by decide) ⟨Nat.zero_le _, Nat.zero_le _⟩ (Nat.le_of_ble_eq_true rfl) (fun G164 hp164 => ?_)
                    obtain ⟨hz164, hq164⟩ := hp164
                    try simp only [zuI_1, zuI_2, zuJ_1, zuJ_2, zuJ_3, zuP_1, zuP_2, zuP_3, zuC_1, zuC_2, reduceIte, Nat.reduceEqDiff, false_and, and_false, true_and, and_true, and_self, or_true, true_or, or_false, false_or] at hq164
                    have tr164_705 := zsm_at hz164 705 w 0 (by decide)
                    try simp only [zuI_1, zuI_2, zuJ_1, zuJ_2, zuJ_3, zuP_1, zuP_2, zuP_3, zuC_1, zuC_2, reduceIte, Nat.reduceEqDiff, false_and, and_false, true_and, and_true, and_self, or_true, true_or, or_false, false_or] at tr164_705
                    have hA : stn (G.1 2055 b) k (G1.1 704 w 0).toNat = G1.1 706 w 0 := by
                      rw [← h32_4, sk, sp_e]
                      rw [← h32_5.1 2055 (by decide), ← e52, ← e55, fB_i]
                      omega
                    have h55 : v55 = (G.1 2055 b) (G1.1 706 w 0).toNat := by rw [e55, e52, h32_5.1 2055 (by decide)]
                    have hnl : ¬ fL ((G.1 2055 b) (G1.1 706 w 0).toNat) = true := by rw [← h55]; intro h9; have h8 := hq100.2.mpr h9; omega
                    have hnd : ¬ fD ((G.1 2055 b) (G1.1 706 w 0).toNat) = true := by rw [← h55]; intro h9; have h8 := hq116.2.mpr h9; omega
                    have hts := tk_s (show G1.1 706 w 0 < k by omega) hnl hnd
                    have hgt := tkN_gt (b := (G.1 2055 b)) (n := k) (p := G1.1 706 w 0) (by omega)
                    rw [hts.2.2] at hgt
                    have trp := hz164.1 2046 (by decide)
                    first | have hbv : bh (G.1 2055 b) k (G1.1 706 w 0) = v159 := (by unfold bh; rw [if_pos (by omega), e159, h32_5.1 2055 (by decide), show v156 = G1.1 706 w 0 + 1 by omega]) | have hbv : bh (G.1 2055 b) k (G1.1 706 w 0) = 0 := (by unfold bh; rw [if_neg (by omega)])
                    rw [← h55, hbv] at hts hgt
                    have jT : TKS (G.1 2055 b) k (G164.1 704 w 0).toNat (Γ.2.1 w 1) (Γ.2.1 w 2) (Γ.2.1 w 3) G164 := TKS_add h32_3 (by rw [hq164.1]; omega) hA (by omega) (fun j => by rw [trp]; simp only [zuI_1, zuI_2, zuJ_1, zuJ_2, zuJ_3, zuP_1, zuP_2, zuP_3, zuC_1, zuC_2, reduceIte, Nat.reduceEqDiff, false_and, and_false, true_and, and_true, and_self, or_true, true_or, or_false, false_or]; rw [show v63.toNat = (G1.1 704 w 0).toNat by rw [e63], show v67 = G1.1 706 w 0 from e67]) (by rw [hts.1]; exact hq164.2.1) hq164.2.2.1 ⟨fun q => by rw [hts.1] at q; split at q <;> exact absurd q (by decide), fun q => hts.2.1.symm⟩
                    have jS : sk (G.1 2055 b) k (G164.1 706 w 0) = stn (G.1 2055 b) k (G164.1 704 w 0).toNat := by
                      rw [show (G164.1 704 w 0).toNat = (G1.1 704 w 0).toNat + 1 by rw [hq164.1]; omega, stn_s (by rw [hA]; omega), hA, hts.2.2]
                      congr 1
                      omega
                    first | refine zs_iinc (pc := 167) C dX6_readAll_167 rfl (by decide) (by omega) ?_ | refine zs_iincF (pc := 167) C dX6_readAll_167 rfl (by decide) (fun z167 hz1671 hz1672 => ?_)
                    dsimp only [zset, zclr, znone]
                    refine zs_goto (tgt := 32) (pc := 170) C dX6_readAll_170 (by decide) ?_
                    exact zs_wk (ih32 _ _ (by omega) (by first | omega | (simp only [zuI_1, zuI_2, zuJ_1, zuJ_2, zuJ_3, zuP_1, zuP_2, zuP_3, zuC_1, zuC_2, reduceIte, Nat.reduceEqDiff, false_and, and_false, true_and, and_true, and_self, or_true, true_or, or_false, false_or]; omega)) (by first | omega | (simp only [zuI_1, zuI_2, zuJ_1, zuJ_2, zuJ_3, zuP_1, zuP_2, zuP_3, zuC_1, zuC_2, reduceIte, Nat.reduceEqDiff, false_and, and_false, true_and, and_true, and_self, or_true, true_or, or_false, false_or]; omega)) (by first | exact jT | exact TKS_bl h32_3 (by simp only [zuI_1, zuI_2, zuJ_1, zuJ_2, zuJ_3, zuP_1, zuP_2, zuP_3, zuC_1, zuC_2, reduceIte, Nat.reduceEqDiff, false_and, and_false, true_and, and_true, and_self, or_true, true_or, or_false, false_or]) (fun i hi => ⟨by simp only [zuI_1, zuI_2, zuJ_1, zuJ_2, zuJ_3, zuP_1, zuP_2, zuP_3, zuC_1, zuC_2, reduceIte, Nat.reduceEqDiff, false_and, and_false, true_and, and_true, and_self, or_true, true_or, or_false, false_or]; rw [if_neg (by omega)], by simp only [zuI_1, zuI_2, zuJ_1, zuJ_2, zuJ_3, zuP_1, zuP_2, zuP_3, zuC_1, zuC_2, reduceIte, Nat.reduceEqDiff, false_and, and_false, true_and, and_true, and_self, or_true, true_or, or_false, false_or], by simp only [zuI_1, zuI_2, zuJ_1, zuJ_2, zuJ_3, zuP_1, zuP_2, zuP_3, zuC_1, zuC_2, reduceIte, Nat.reduceEqDiff, false_and, and_false, true_and, and_true, and_self, or_true, true_or, or_false, false_or]⟩)) (by first | exact jS | (simp only [zuI_1, zuI_2, zuJ_1, zuJ_2, zuJ_3, zuP_1, zuP_2, zuP_3, zuC_1, zuC_2, reduceIte, Nat.reduceEqDiff, false_and, and_false, true_and, and_true, and_self, or_true, true_or, or_false, false_or]; rw [← h32_4, sk, sk, show v87 + 1 = G1.1 706 w 0 + 1 by omega]; exact (sp_s (by omega) hBl).symm)) (by repeat (first | exact zsm_rf | assumption | refine zsm_C (by decide) ?_ | refine zsm_I (by decide) ?_ | refine zsm_J ?_ | refine zsm_c (by assumption) (by decide) ?_)) (by first | omega | (simp only [zuI_1, zuI_2, zuJ_1, zuJ_2, zuJ_3, zuP_1, zuP_2, zuP_3, zuC_1, zuC_2, reduceIte, Nat.reduceEqDiff, false_and, and_false, true_and, and_true, and_self, or_true, true_or, or_false, false_or]; omega))) (zwk_s rfl (zwk_s rfl (zwk_s rfl (zwk_s rfl (zwk_n zwk_0)))))
                · skip
                  refine zs_aload_n (pc := 122) C dX6_readAll_122 rfl ?_
                  refine zs_aload_n (pc := 123) C dX6_readAll_123 rfl ?_
                  refine zVv1 (pc := 124) C dX6_readAll_124 v_X6_74 (c_X6_readDigitsF hX (by simp only [zuI_1, zuI_2, zuJ_1, zuJ_2, zuJ_3, zuP_1, zuP_2, zuP_3, zuC_1, zuC_2, reduceIte, Nat.reduceEqDiff, false_and, and_false, true_and, and_true, and_self, or_true, true_or, or_false, false_or]; omega) (by simp only [zuI_1, zuI_2, zuJ_1, zuJ_2, zuJ_3, zuP_1, zuP_2, zuP_3, zuC_1, zuC_2, reduceIte, Nat.reduceEqDiff, false_and, and_false, true_and, and_true, and_self, or_true, true_or, or_false, false_or]; omega) (by simp only [zuI_1, zuI_2, zuJ_1, zuJ_2, zuJ_3, zuP_1, zuP_2, zuP_3, zuC_1, zuC_2, reduceIte, Nat.reduceEqDiff, false_and, and_false, true_and, and_true, and_self, or_true, true_or, or_false, false_or]; rw [← e52, ← e55]; intro h9; have h8 := hq100.2.mpr h9; omega) (by simp only [zuI_1, zuI_2, zuJ_1, zuJ_2, zuJ_3, zuP_1, zuP_2, zuP_3, zuC_1, zuC_2, reduceIte, Nat.reduceEqDiff, false_and, and_false, true_and, and_true, and_self, or_true, true_or, or_false, false_or]; rw [← e52, ← e55]; exact hq116.2.mp (by omega))) (by decide) (by decide) ⟨Nat.zero_le _, Nat.zero_le _⟩ (Nat.le_of_ble_eq_true rfl) (fun G124 hp124 => ?_)
                  obtain ⟨hz124, hq124⟩ := hp124
                  try simp only [zuI_1, zuI_2, zuJ_1, zuJ_2, zuJ_3, zuP_1, zuP_2, zuP_3, zuC_1, zuC_2, reduceIte, Nat.reduceEqDiff, false_and, and_false, true_and, and_true, and_self, or_true, true_or, or_false, false_or] at hq124
                  have tr124_705 := zsm_at hz124 705 w 0 (by decide)
                  try simp only [zuI_1, zuI_2, zuJ_1, zuJ_2, zuJ_3, zuP_1, zuP_2, zuP_3, zuC_1, zuC_2, reduceIte, Nat.reduceEqDiff, false_and, and_false, true_and, and_true, and_self, or_true, true_or, or_false, false_or] at tr124_705
                  simp (disch := decide) only [zuI_nf] at hq124
                  rw [h32_5.1 2055 (by decide), h32_1] at hq124
                  have hA : stn (G.1 2055 b) k (G1.1 704 w 0).toNat = G1.1 706 w 0 := by
                    rw [← h32_4, sk, sp_e]
                    rw [← h32_5.1 2055 (by decide), ← e52, ← e55, fB_i]
                    omega
                  have hgt := tkN_gt (b := (G.1 2055 b)) (n := k) (p := G1.1 706 w 0) (by omega)
                  have trp := hz124.1 2046 (by decide)
                  have jT : TKS (G.1 2055 b) k (G124.1 704 w 0).toNat (Γ.2.1 w 1) (Γ.2.1 w 2) (Γ.2.1 w 3) G124 := by
                    obtain ⟨v9, hr9, hv9⟩ := hq124.2.2.1
                    exact TKS_add h32_3 (by rw [hq124.1]; omega) hA (by omega) (fun j => by rw [trp]; simp only [zuI_1, zuI_2, zuJ_1, zuJ_2, zuJ_3, zuP_1, zuP_2, zuP_3, zuC_1, zuC_2, reduceIte, Nat.reduceEqDiff, false_and, and_false, true_and, and_true, and_self, or_true, true_or, or_false, false_or]; rw [show v63.toNat = (G1.1 704 w 0).toNat by rw [e63], show v67 = G1.1 706 w 0 from e67]) hq124.2.1 hv9 hr9
                  have jS : sk (G.1 2055 b) k (G124.1 706 w 0) = stn (G.1 2055 b) k (G124.1 704 w 0).toNat := by rw [hq124.2.2.2, show (G124.1 704 w 0).toNat = (G1.1 704 w 0).toNat + 1 by rw [hq124.1]; omega, stn_s (by rw [hA]; omega), hA]
                  refine zs_goto (tgt := 167) (pc := 127) C dX6_readAll_127 (by decide) ?_
                  first | refine zs_iinc (pc := 167) C dX6_readAll_167 rfl (by decide) (by omega) ?_ | refine zs_iincF (pc := 167) C dX6_readAll_167 rfl (by decide) (fun z167 hz1671 hz1672 => ?_)
                  dsimp only [zset, zclr, znone]
                  refine zs_goto (tgt := 32) (pc := 170) C dX6_readAll_170 (by decide) ?_
                  exact zs_wk (ih32 _ _ (by omega) (by first | omega | (simp only [zuI_1, zuI_2, zuJ_1, zuJ_2, zuJ_3, zuP_1, zuP_2, zuP_3, zuC_1, zuC_2, reduceIte, Nat.reduceEqDiff, false_and, and_false, true_and, and_true, and_self, or_true, true_or, or_false, false_or]; omega)) (by first | omega | (simp only [zuI_1, zuI_2, zuJ_1, zuJ_2, zuJ_3, zuP_1, zuP_2, zuP_3, zuC_1, zuC_2, reduceIte, Nat.reduceEqDiff, false_and, and_false, true_and, and_true, and_self, or_true, true_or, or_false, false_or]; omega)) (by first | exact jT | exact TKS_bl h32_3 (by simp only [zuI_1, zuI_2, zuJ_1, zuJ_2, zuJ_3, zuP_1, zuP_2, zuP_3, zuC_1, zuC_2, reduceIte, Nat.reduceEqDiff, false_and, and_false, true_and, and_true, and_self, or_true, true_or, or_false, false_or]) (fun i hi => ⟨by simp only [zuI_1, zuI_2, zuJ_1, zuJ_2, zuJ_3, zuP_1, zuP_2, zuP_3, zuC_1, zuC_2, reduceIte, Nat.reduceEqDiff, false_and, and_false, true_and, and_true, and_self, or_true, true_or, or_false, false_or]; rw [if_neg (by omega)], by simp only [zuI_1, zuI_2, zuJ_1, zuJ_2, zuJ_3, zuP_1, zuP_2, zuP_3, zuC_1, zuC_2, reduceIte, Nat.reduceEqDiff, false_and, and_false, true_and, and_true, and_self, or_true, true_or, or_false, false_or], by simp only [zuI_1, zuI_2, zuJ_1, zuJ_2, zuJ_3, zuP_1, zuP_2, zuP_3, zuC_1, zuC_2, reduceIte, Nat.reduceEqDiff, false_and, and_false, true_and, and_true, and_self, or_true, true_or, or_false, false_or]⟩)) (by first | exact jS | (simp only [zuI_1, zuI_2, zuJ_1, zuJ_2, zuJ_3, zuP_1, zuP_2, zuP_3, zuC_1, zuC_2, reduceIte, Nat.reduceEqDiff, false_and, and_false, true_and, and_true, and_self, or_true, true_or, or_false, false_or]; rw [← h32_4, sk, sk, show v87 + 1 = G1.1 706 w 0 + 1 by omega]; exact (sp_s (by omega) hBl).symm)) (by repeat (first | exact zsm_rf | assumption | refine zsm_C (by decide) ?_ | refine zsm_I (by decide) ?_ | refine zsm_J ?_ | refine zsm_c (by assumption) (by decide) ?_)) (by first | omega | (simp only [zuI_1, zuI_2, zuJ_1, zuJ_2, zuJ_3, zuP_1, zuP_2, zuP_3, zuC_1, zuC_2, reduceIte, Nat.reduceEqDiff, false_and, and_false, true_and, and_true, and_self, or_true, true_or, or_false, false_or]; omega))) (zwk_s rfl (zwk_s rfl (zwk_s rfl (zwk_s rfl (zwk_n zwk_0)))))
              · skip
                refine zs_aload_n (pc := 106) C dX6_readAll_106 rfl ?_
                refine zs_aload_n (pc := 107) C dX6_readAll_107 rfl ?_
                refine zVv1 (pc := 108) C dX6_readAll_108 v_X6_67 (c_X6_readWordF hX (by simp only [zuI_1, zuI_2, zuJ_1, zuJ_2, zuJ_3, zuP_1, zuP_2, zuP_3, zuC_1, zuC_2, reduceIte, Nat.reduceEqDiff, false_and, and_false, true_and, and_true, and_self, or_true, true_or, or_false, false_or]; omega) (by simp only [zuI_1, zuI_2, zuJ_1, zuJ_2, zuJ_3, zuP_1, zuP_2, zuP_3, zuC_1, zuC_2, reduceIte, Nat.reduceEqDiff, false_and, and_false, true_and, and_true, and_self, or_true, true_or, or_false, false_or]; omega) (by simp only [zuI_1, zuI_2, zuJ_1, zuJ_2, zuJ_3, zuP_1, zuP_2, zuP_3, zuC_1, zuC_2, reduceIte, Nat.reduceEqDiff, false_and, and_false, true_and, and_true, and_self, or_true, true_or, or_false, false_or]; rw [← e52, ← e55]; exact hq100.2.mp (by omega)) (fun q9 hq9 => by simp only [zuI_1, zuI_2, zuJ_1, zuJ_2, zuJ_3, zuP_1, zuP_2, zuP_3, zuC_1, zuC_2, reduceIte, Nat.reduceEqDiff, false_and, and_false, true_and, and_true, and_self, or_true, true_or, or_false, false_or]; rw [h32_5.1 2044 (by decide)]; exact hw q9 hq9)) (by decide) (by decide) ⟨Nat.zero_le _, Nat.zero_le _⟩ (Nat.le_of_ble_eq_true rfl) (fun G108 hp108 => ?_)
                obtain ⟨hz108, hq108⟩ := hp108
                try simp only [zuI_1, zuI_2, zuJ_1, zuJ_2, zuJ_3, zuP_1, zuP_2, zuP_3, zuC_1, zuC_2, reduceIte, Nat.reduceEqDiff, false_and, and_false, true_and, and_true, and_self, or_true, true_or, or_false, false_or] at hq108
                have tr108_705 := zsm_at hz108 705 w 0 (by decide)
                try simp only [zuI_1, zuI_2, zuJ_1, zuJ_2, zuJ_3, zuP_1, zuP_2, zuP_3, zuC_1, zuC_2, reduceIte, Nat.reduceEqDiff, false_and, and_false, true_and, and_true, and_self, or_true, true_or, or_false, false_or] at tr108_705
                simp (disch := decide) only [zuI_nf] at hq108
                rw [h32_5.1 2055 (by decide), h32_1] at hq108
                have hA : stn (G.1 2055 b) k (G1.1 704 w 0).toNat = G1.1 706 w 0 := by
                  rw [← h32_4, sk, sp_e]
                  rw [← h32_5.1 2055 (by decide), ← e52, ← e55, fB_i]
                  omega
                have hgt := tkN_gt (b := (G.1 2055 b)) (n := k) (p := G1.1 706 w 0) (by omega)
                have trp := hz108.1 2046 (by decide)
                have jT : TKS (G.1 2055 b) k (G108.1 704 w 0).toNat (Γ.2.1 w 1) (Γ.2.1 w 2) (Γ.2.1 w 3) G108 := by
                  obtain ⟨v9, hr9, hv9⟩ := hq108.2.2.1
                  exact TKS_add h32_3 (by rw [hq108.1]; omega) hA (by omega) (fun j => by rw [trp]; simp only [zuI_1, zuI_2, zuJ_1, zuJ_2, zuJ_3, zuP_1, zuP_2, zuP_3, zuC_1, zuC_2, reduceIte, Nat.reduceEqDiff, false_and, and_false, true_and, and_true, and_self, or_true, true_or, or_false, false_or]; rw [show v63.toNat = (G1.1 704 w 0).toNat by rw [e63], show v67 = G1.1 706 w 0 from e67]) hq108.2.1 hv9 hr9
                have jS : sk (G.1 2055 b) k (G108.1 706 w 0) = stn (G.1 2055 b) k (G108.1 704 w 0).toNat := by rw [hq108.2.2.2, show (G108.1 704 w 0).toNat = (G1.1 704 w 0).toNat + 1 by rw [hq108.1]; omega, stn_s (by rw [hA]; omega), hA]
                refine zs_goto (tgt := 167) (pc := 111) C dX6_readAll_111 (by decide) ?_
                first | refine zs_iinc (pc := 167) C dX6_readAll_167 rfl (by decide) (by omega) ?_ | refine zs_iincF (pc := 167) C dX6_readAll_167 rfl (by decide) (fun z167 hz1671 hz1672 => ?_)
                dsimp only [zset, zclr, znone]
                refine zs_goto (tgt := 32) (pc := 170) C dX6_readAll_170 (by decide) ?_
                exact zs_wk (ih32 _ _ (by omega) (by first | omega | (simp only [zuI_1, zuI_2, zuJ_1, zuJ_2, zuJ_3, zuP_1, zuP_2, zuP_3, zuC_1, zuC_2, reduceIte, Nat.reduceEqDiff, false_and, and_false, true_and, and_true, and_self, or_true, true_or, or_false, false_or]; omega)) (by first | omega | (simp only [zuI_1, zuI_2, zuJ_1, zuJ_2, zuJ_3, zuP_1, zuP_2, zuP_3, zuC_1, zuC_2, reduceIte, Nat.reduceEqDiff, false_and, and_false, true_and, and_true, and_self, or_true, true_or, or_false, false_or]; omega)) (by first | exact jT | exact TKS_bl h32_3 (by simp only [zuI_1, zuI_2, zuJ_1, zuJ_2, zuJ_3, zuP_1, zuP_2, zuP_3, zuC_1, zuC_2, reduceIte, Nat.reduceEqDiff, false_and, and_false, true_and, and_true, and_self, or_true, true_or, or_false, false_or]) (fun i hi => ⟨by simp only [zuI_1, zuI_2, zuJ_1, zuJ_2, zuJ_3, zuP_1, zuP_2, zuP_3, zuC_1, zuC_2, reduceIte, Nat.reduceEqDiff, false_and, and_false, true_and, and_true, and_self, or_true, true_or, or_false, false_or]; rw [if_neg (by omega)], by simp only [zuI_1, zuI_2, zuJ_1, zuJ_2, zuJ_3, zuP_1, zuP_2, zuP_3, zuC_1, zuC_2, reduceIte, Nat.reduceEqDiff, false_and, and_false, true_and, and_true, and_self, or_true, true_or, or_false, false_or], by simp only [zuI_1, zuI_2, zuJ_1, zuJ_2, zuJ_3, zuP_1, zuP_2, zuP_3, zuC_1, zuC_2, reduceIte, Nat.reduceEqDiff, false_and, and_false, true_and, and_true, and_self, or_true, true_or, or_false, false_or]⟩)) (by first | exact jS | (simp only [zuI_1, zuI_2, zuJ_1, zuJ_2, zuJ_3, zuP_1, zuP_2, zuP_3, zuC_1, zuC_2, reduceIte, Nat.reduceEqDiff, false_and, and_false, true_and, and_true, and_self, or_true, true_or, or_false, false_or]; rw [← h32_4, sk, sk, show v87 + 1 = G1.1 706 w 0 + 1 by omega]; exact (sp_s (by omega) hBl).symm)) (by repeat (first | exact zsm_rf | assumption | refine zsm_C (by decide) ?_ | refine zsm_I (by decide) ?_ | refine zsm_J ?_ | refine zsm_c (by assumption) (by decide) ?_)) (by first | omega | (simp only [zuI_1, zuI_2, zuJ_1, zuJ_2, zuJ_3, zuP_1, zuP_2, zuP_3, zuC_1, zuC_2, reduceIte, Nat.reduceEqDiff, false_and, and_false, true_and, and_true, and_self, or_true, true_or, or_false, false_or]; omega))) (zwk_s rfl (zwk_s rfl (zwk_s rfl (zwk_s rfl (zwk_n zwk_0)))))
            · skip
              have hBl : fB ((G.1 2055 b) (G1.1 706 w 0).toNat) = true := by rw [fB_i, ← h32_5.1 2055 (by decide), ← e52, ← e55]; omega
              refine zs_aload_n (pc := 85) C dX6_readAll_85 rfl ?_
              refine zs_dupa (pc := 86) C dX6_readAll_86 ?_
              refine zs_geti (r := 706) (pc := 87) C dX6_readAll_87 w_X6_60 f_7_6 rfl (r_706 0) (fun v87 e87 l87 u87 => ?_)
              try simp only [zuI_1, zuI_2, zuJ_1, zuJ_2, zuJ_3, zuP_1, zuP_2, zuP_3, zuC_1, zuC_2, reduceIte, Nat.reduceEqDiff, false_and, and_false, true_and, and_true, and_self, or_true, true_or, or_false, false_or] at e87
              refine zs_iconst (pc := 90) C dX6_readAll_90 (by decide) ?_
              first | refine zs_iadd (pc := 91) C dX6_readAll_91 (by omega) ?_ | refine zs_iaddF (pc := 91) C dX6_readAll_91 (fun z91 hz911 hz912 => ?_)
              refine zs_puti (r := 706) (pc := 92) C dX6_readAll_92 w_X6_60 f_7_6 rfl (r_706 0) (by omega) ?_
              refine zs_goto (tgt := 167) (pc := 95) C dX6_readAll_95 (by decide) ?_
              first | refine zs_iinc (pc := 167) C dX6_readAll_167 rfl (by decide) (by omega) ?_ | refine zs_iincF (pc := 167) C dX6_readAll_167 rfl (by decide) (fun z167 hz1671 hz1672 => ?_)
              dsimp only [zset, zclr, znone]
              refine zs_goto (tgt := 32) (pc := 170) C dX6_readAll_170 (by decide) ?_
              exact zs_wk (ih32 _ _ (by omega) (by first | omega | (simp only [zuI_1, zuI_2, zuJ_1, zuJ_2, zuJ_3, zuP_1, zuP_2, zuP_3, zuC_1, zuC_2, reduceIte, Nat.reduceEqDiff, false_and, and_false, true_and, and_true, and_self, or_true, true_or, or_false, false_or]; omega)) (by first | omega | (simp only [zuI_1, zuI_2, zuJ_1, zuJ_2, zuJ_3, zuP_1, zuP_2, zuP_3, zuC_1, zuC_2, reduceIte, Nat.reduceEqDiff, false_and, and_false, true_and, and_true, and_self, or_true, true_or, or_false, false_or]; omega)) (by first | exact jT | exact TKS_bl h32_3 (by simp only [zuI_1, zuI_2, zuJ_1, zuJ_2, zuJ_3, zuP_1, zuP_2, zuP_3, zuC_1, zuC_2, reduceIte, Nat.reduceEqDiff, false_and, and_false, true_and, and_true, and_self, or_true, true_or, or_false, false_or]) (fun i hi => ⟨by simp only [zuI_1, zuI_2, zuJ_1, zuJ_2, zuJ_3, zuP_1, zuP_2, zuP_3, zuC_1, zuC_2, reduceIte, Nat.reduceEqDiff, false_and, and_false, true_and, and_true, and_self, or_true, true_or, or_false, false_or]; rw [if_neg (by omega)], by simp only [zuI_1, zuI_2, zuJ_1, zuJ_2, zuJ_3, zuP_1, zuP_2, zuP_3, zuC_1, zuC_2, reduceIte, Nat.reduceEqDiff, false_and, and_false, true_and, and_true, and_self, or_true, true_or, or_false, false_or], by simp only [zuI_1, zuI_2, zuJ_1, zuJ_2, zuJ_3, zuP_1, zuP_2, zuP_3, zuC_1, zuC_2, reduceIte, Nat.reduceEqDiff, false_and, and_false, true_and, and_true, and_self, or_true, true_or, or_false, false_or]⟩)) (by first | exact jS | (simp only [zuI_1, zuI_2, zuJ_1, zuJ_2, zuJ_3, zuP_1, zuP_2, zuP_3, zuC_1, zuC_2, reduceIte, Nat.reduceEqDiff, false_and, and_false, true_and, and_true, and_self, or_true, true_or, or_false, false_or]; rw [← h32_4, sk, sk, show v87 + 1 = G1.1 706 w 0 + 1 by omega]; exact (sp_s (by omega) hBl).symm)) (by repeat (first | exact zsm_rf | assumption | refine zsm_C (by decide) ?_ | refine zsm_I (by decide) ?_ | refine zsm_J ?_ | refine zsm_c (by assumption) (by decide) ?_)) (by first | omega | (simp only [zuI_1, zuI_2, zuJ_1, zuJ_2, zuJ_3, zuP_1, zuP_2, zuP_3, zuC_1, zuC_2, reduceIte, Nat.reduceEqDiff, false_and, and_false, true_and, and_true, and_self, or_true, true_or, or_false, false_or]; omega))) (zwk_s rfl (zwk_s rfl (zwk_s rfl (zwk_s rfl (zwk_n zwk_0)))))
  exact zs_wk (L32 _ _ _ (by omega) (by simp only [zuI_1, zuI_2, zuJ_1, zuJ_2, zuJ_3, zuP_1, zuP_2, zuP_3, zuC_1, zuC_2, reduceIte, Nat.reduceEqDiff, false_and, and_false, true_and, and_true, and_self, or_true, true_or, or_false, false_or]; omega) (by simp only [zuI_1, zuI_2, zuJ_1, zuJ_2, zuJ_3, zuP_1, zuP_2, zuP_3, zuC_1, zuC_2, reduceIte, Nat.reduceEqDiff, false_and, and_false, true_and, and_true, and_self, or_true, true_or, or_false, false_or]; omega) (fun i hi => absurd hi (by simp only [zuI_1, zuI_2, zuJ_1, zuJ_2, zuJ_3, zuP_1, zuP_2, zuP_3, zuC_1, zuC_2, reduceIte, Nat.reduceEqDiff, false_and, and_false, true_and, and_true, and_self, or_true, true_or, or_false, false_or]; exact Nat.not_lt_zero _)) (by simp only [zuI_1, zuI_2, zuJ_1, zuJ_2, zuJ_3, zuP_1, zuP_2, zuP_3, zuC_1, zuC_2, reduceIte, Nat.reduceEqDiff, false_and, and_false, true_and, and_true, and_self, or_true, true_or, or_false, false_or]; rfl) (by repeat (first | exact zsm_rf | assumption | refine zsm_C (by decide) ?_ | refine zsm_I (by decide) ?_ | refine zsm_J ?_ | refine zsm_c (by assumption) (by decide) ?_)) (Nat.lt_succ_self _)) (zwk_s rfl (zwk_s rfl (zwk_s rfl (zwk_s rfl (zwk_n zwk_0)))))
