/-- all works but those at w stay, and all changing references but their telling -/
def TO (Γ : zΓ) (w : Nat) (G G1 : zH) : Prop := OW Γ w G G1 ∧ ∀ r a9 : Nat, (r = 800 ∧ a9 = w) ∨ G1.2.2 r a9 = G.2.2 r a9
theorem TO_rf {Γ : zΓ} {w : Nat} {G : zH} : TO Γ w G G := ⟨OW_rf, fun _ _ => Or.inr rfl⟩
theorem TO_t {Γ : zΓ} {w : Nat} {G G1 G2 : zH} (h2 : TO Γ w G1 G2) (h : TO Γ w G G1) : TO Γ w G G2 := ⟨OW_t h2.1 h.1, fun r a => by
  rcases h2.2 r a with q | q
  · exact Or.inl q
  · rcases h.2 r a with q2 | q2
    · exact Or.inl q2
    · exact Or.inr (q.trans q2)⟩
theorem TO_J {Γ : zΓ} {w : Nat} {G G1 : zH} {r a i : Nat} {x : Int} (h : TO Γ w G G1) : TO Γ w G (zuJ G1 r a i x) := h
theorem TO_o {Γ : zΓ} {w : Nat} {G G1 : zH} {r a i : Nat} {x : Int} (hr : r ∉ wLs) (h : TO Γ w G G1) : TO Γ w G (zuI G1 r a i x) := ⟨OW_n (rs := [r]) (zsn_I (by simp) zsn_rf) (fun r' h1 h2 => hr (by simp at h2; rw [← h2]; exact h1)) h.1, h.2⟩
theorem TO_C {Γ : zΓ} {w : Nat} {G G1 : zH} {r a : Nat} {f : Nat → Int} (hr : r ∉ wLs) (h : TO Γ w G G1) : TO Γ w G (zuC G1 r a f) := ⟨OW_n (rs := [r]) (zsn_C (by simp) zsn_rf) (fun r' h1 h2 => hr (by simp at h2; rw [← h2]; exact h1)) h.1, h.2⟩
theorem TO_m {Γ : zΓ} {w : Nat} {G G1 G2 : zH} {rs : List Nat} (hs : zsm rs G1 G2) (hr : ∀ r ∈ wLs, r ∉ rs) (h : TO Γ w G G1) : TO Γ w G G2 := ⟨OW_n hs.1 hr h.1, fun r a => by rw [hs.2]; exact h.2 r a⟩
theorem TO_cp {Γ : zΓ} {w t : Nat} {G G1 G2 : zH} (h2 : G2.2.2 = (zuP G1 800 w t).2.2) (ho : OW Γ w G1 G2) (h : TO Γ w G G1) : TO Γ w G G2 := ⟨OW_t ho h.1, fun r a => by
  by_cases q : r = 800 ∧ a = w
  · exact Or.inl q
  · rcases h.2 r a with q2 | q2
    · exact Or.inl q2
    · refine Or.inr ?_
      rw [h2, zuP_3, if_neg q]
      exact q2⟩
theorem TOw_510 {Γ : zΓ} {w i : Nat} {v : Int} {G G1 : zH} (h : TO Γ w G G1) : TO Γ w G (zuI G1 510 (Γ.2.1 w 1) i v) := ⟨OWw_510 h.1, h.2⟩
theorem TOw_2026 {Γ : zΓ} {w i : Nat} {v : Int} {G G1 : zH} (h : TO Γ w G G1) : TO Γ w G (zuI G1 2026 (Γ.2.1 (Γ.2.1 w 1) 0) i v) := ⟨OWw_2026 h.1, h.2⟩
theorem TOw_2027 {Γ : zΓ} {w i : Nat} {v : Int} {G G1 : zH} (h : TO Γ w G G1) : TO Γ w G (zuI G1 2027 (Γ.2.1 (Γ.2.1 w 1) 1) i v) := ⟨OWw_2027 h.1, h.2⟩
theorem TOw_2028 {Γ : zΓ} {w i : Nat} {v : Int} {G G1 : zH} (h : TO Γ w G G1) : TO Γ w G (zuI G1 2028 (Γ.2.1 (Γ.2.1 w 1) 2) i v) := ⟨OWw_2028 h.1, h.2⟩
theorem TOw_2029 {Γ : zΓ} {w i : Nat} {v : Int} {G G1 : zH} (h : TO Γ w G G1) : TO Γ w G (zuI G1 2029 (Γ.2.1 (Γ.2.1 w 1) 3) i v) := ⟨OWw_2029 h.1, h.2⟩
theorem TOw_2030 {Γ : zΓ} {w i : Nat} {v : Int} {G G1 : zH} (h : TO Γ w G G1) : TO Γ w G (zuI G1 2030 (Γ.2.1 (Γ.2.1 w 1) 4) i v) := ⟨OWw_2030 h.1, h.2⟩
theorem TOw_2031 {Γ : zΓ} {w i : Nat} {v : Int} {G G1 : zH} (h : TO Γ w G G1) : TO Γ w G (zuI G1 2031 (Γ.2.1 (Γ.2.1 w 1) 5) i v) := ⟨OWw_2031 h.1, h.2⟩
theorem TOw_2032 {Γ : zΓ} {w i : Nat} {v : Int} {G G1 : zH} (h : TO Γ w G G1) : TO Γ w G (zuI G1 2032 (Γ.2.1 (Γ.2.1 w 1) 6) i v) := ⟨OWw_2032 h.1, h.2⟩
theorem TOw_2033 {Γ : zΓ} {w i : Nat} {v : Int} {G G1 : zH} (h : TO Γ w G G1) : TO Γ w G (zuI G1 2033 (Γ.2.1 (Γ.2.1 w 1) 7) i v) := ⟨OWw_2033 h.1, h.2⟩
theorem TOw_2034 {Γ : zΓ} {w i : Nat} {v : Int} {G G1 : zH} (h : TO Γ w G G1) : TO Γ w G (zuI G1 2034 (Γ.2.1 (Γ.2.1 w 1) 8) i v) := ⟨OWw_2034 h.1, h.2⟩
theorem TOw_2035 {Γ : zΓ} {w i : Nat} {v : Int} {G G1 : zH} (h : TO Γ w G G1) : TO Γ w G (zuI G1 2035 (Γ.2.1 (Γ.2.1 w 1) 9) i v) := ⟨OWw_2035 h.1, h.2⟩
theorem TOw_2048 {Γ : zΓ} {w i : Nat} {v : Int} {G G1 : zH} (h : TO Γ w G G1) : TO Γ w G (zuI G1 2048 (Γ.2.1 w 2) i v) := ⟨OWw_2048 h.1, h.2⟩
theorem TOw_2049 {Γ : zΓ} {w i : Nat} {v : Int} {G G1 : zH} (h : TO Γ w G G1) : TO Γ w G (zuI G1 2049 (Γ.2.1 w 3) i v) := ⟨OWw_2049 h.1, h.2⟩
theorem TOw_2050 {Γ : zΓ} {w i : Nat} {v : Int} {G G1 : zH} (h : TO Γ w G G1) : TO Γ w G (zuI G1 2050 (Γ.2.1 w 4) i v) := ⟨OWw_2050 h.1, h.2⟩
theorem TOw_2051 {Γ : zΓ} {w i : Nat} {v : Int} {G G1 : zH} (h : TO Γ w G G1) : TO Γ w G (zuI G1 2051 (Γ.2.1 w 5) i v) := ⟨OWw_2051 h.1, h.2⟩
theorem TOw_2052 {Γ : zΓ} {w i : Nat} {v : Int} {G G1 : zH} (h : TO Γ w G G1) : TO Γ w G (zuI G1 2052 (Γ.2.1 w 6) i v) := ⟨OWw_2052 h.1, h.2⟩
theorem TOw_2053 {Γ : zΓ} {w i : Nat} {v : Int} {G G1 : zH} (h : TO Γ w G G1) : TO Γ w G (zuI G1 2053 (Γ.2.1 w 7) i v) := ⟨OWw_2053 h.1, h.2⟩
theorem TOw_2054 {Γ : zΓ} {w i : Nat} {v : Int} {G G1 : zH} (h : TO Γ w G G1) : TO Γ w G (zuI G1 2054 (Γ.2.1 w 8) i v) := ⟨OWw_2054 h.1, h.2⟩
theorem TOw_809 {Γ : zΓ} {w i : Nat} {v : Int} {G G1 : zH} (h : TO Γ w G G1) : TO Γ w G (zuI G1 809 w i v) := ⟨OWw_809 h.1, h.2⟩
theorem TOw_810 {Γ : zΓ} {w i : Nat} {v : Int} {G G1 : zH} (h : TO Γ w G G1) : TO Γ w G (zuI G1 810 w i v) := ⟨OWw_810 h.1, h.2⟩
theorem TOw_811 {Γ : zΓ} {w i : Nat} {v : Int} {G G1 : zH} (h : TO Γ w G G1) : TO Γ w G (zuI G1 811 w i v) := ⟨OWw_811 h.1, h.2⟩
theorem TOw_812 {Γ : zΓ} {w i : Nat} {v : Int} {G G1 : zH} (h : TO Γ w G G1) : TO Γ w G (zuI G1 812 w i v) := ⟨OWw_812 h.1, h.2⟩
theorem TOw_813 {Γ : zΓ} {w i : Nat} {v : Int} {G G1 : zH} (h : TO Γ w G G1) : TO Γ w G (zuI G1 813 w i v) := ⟨OWw_813 h.1, h.2⟩

set_option maxHeartbeats 4000000 in
set_option maxRecDepth 100000 in
theorem c_X7_grindOneU {l : Launch} {Γ : zΓ} {G : zH} {w : Nat} {p0 s0 k : Int} (hX : zXs Γ) (hp : 0 ≤ p0 ∧ p0 ≤ 4)(hs : 0 ≤ s0 ∧ s0 ≤ 3) : zMet l Γ yX7_grindOne cX7_grindOne 5 none 3 [zr 8 w, zi p0, zi s0, zi k] G (zpv (fun G' => zsm [510, 2026, 2027, 2028, 2029, 2030, 2031, 2032, 2033, 2034, 2035, 810, 811, 2049, 2050, 2051] G G' ∧ TO Γ w G G' ∧ True)) := by
  refine zMet_of RX7 hX (by decide) rfl (Nat.le_of_ble_eq_true rfl) ?_
  intro p e s m args below meth c C hr hlk
  show Z p l e (zrm 3) s m args below meth c Γ 5 0 0 (MQ below (zQc Γ (zpv (fun G' => zsm [510, 2026, 2027, 2028, 2029, 2030, 2031, 2032, 2033, 2034, 2035, 810, 811, 2049, 2050, 2051] G G' ∧ TO Γ w G G' ∧ True))) args s 0 0 (zA Γ)) 0 [some (zr 8 w), some (zi p0), some (zi s0), some (zi k), none] [] G
  refine zs_loc 1 rfl (fun ha1 hb1 => ?_)
  refine zs_loc 2 rfl (fun ha2 hb2 => ?_)
  refine zs_loc 3 rfl (fun ha3 hb3 => ?_)
  refine zs_aload_n (pc := 0) C dX7_grindOne_0 rfl ?_
  refine zVip0 (pc := 1) C dX7_grindOne_1 v_X7_171 (c_X7_canGrind hX ) (by decide) (by decide) ⟨Nat.zero_le _, Nat.zero_le _⟩ (Nat.le_of_ble_eq_true rfl) (fun x1 l1 u1 hp1 => ?_)
  have hq1 := hp1
  refine zs_if_ne (tgt := 8) (pc := 4) C dX7_grindOne_4 (by decide) (fun h4 => ?_) (fun h4 => ?_)
  · skip
    refine zs_aload_n (pc := 8) C dX7_grindOne_8 rfl ?_
    refine zs_getf (pc := 9) C dX7_grindOne_9 w_X7_12 f_8_1 (by decide) ?_
    refine zs_geti (r := 510) (pc := 12) C dX7_grindOne_12 w_X7_48 f_5_10 rfl (r_510 0) (fun v12 e12 l12 u12 => ?_)
    refine zs_istore (pc := 15) C dX7_grindOne_15 (by decide) ?_
    dsimp only [zset, zclr, znone]
    refine zs_aload_n (pc := 17) C dX7_grindOne_17 rfl ?_
    refine zs_iload_n (pc := 18) C dX7_grindOne_18 rfl ?_
    refine zs_iload_n (pc := 19) C dX7_grindOne_19 rfl ?_
    refine zVv2 (pc := 20) C dX7_grindOne_20 v_X7_122 (c_X7_setNames hX (by omega) (by omega)) (by decide) (by decide) ⟨Nat.zero_le _, Nat.zero_le _⟩ (Nat.le_of_ble_eq_true rfl) (fun G20 hp20 => ?_)
    obtain ⟨hz20, hq20⟩ := hp20
    have tr20_510 := zsm_at hz20 510 (Γ.2.1 w 1) 0 (by decide)
    try simp only [zuI_1, zuI_2, zuJ_1, zuJ_2, zuJ_3, zuP_1, zuP_2, zuP_3, zuC_1, zuC_2, reduceIte, Nat.reduceEqDiff, false_and, and_false, true_and, and_true, and_self, or_true, true_or, or_false, false_or] at tr20_510
    refine zs_aload_n (pc := 23) C dX7_grindOne_23 rfl ?_
    refine zs_getf (pc := 24) C dX7_grindOne_24 w_X7_12 f_8_1 (by decide) ?_
    refine zs_getf (pc := 27) C dX7_grindOne_27 w_X7_144 f_5_0 (by decide) ?_
    refine zs_iload (pc := 30) C dX7_grindOne_30 rfl ?_
    refine zs_iload_n (pc := 32) C dX7_grindOne_32 rfl ?_
    refine zs_iast (r := 2026) (pc := 33) C dX7_grindOne_33 a_26 (by decide) (by omega) rfl (r_2026 _) (by omega) ?_
    refine zs_aload_n (pc := 34) C dX7_grindOne_34 rfl ?_
    refine zs_getf (pc := 35) C dX7_grindOne_35 w_X7_12 f_8_1 (by decide) ?_
    refine zs_getf (pc := 38) C dX7_grindOne_38 w_X7_154 f_5_1 (by decide) ?_
    refine zs_iload (pc := 41) C dX7_grindOne_41 rfl ?_
    refine zs_iload_n (pc := 43) C dX7_grindOne_43 rfl ?_
    refine zs_iast (r := 2027) (pc := 44) C dX7_grindOne_44 a_27 (by decide) (by omega) rfl (r_2027 _) (by omega) ?_
    refine zs_aload_n (pc := 45) C dX7_grindOne_45 rfl ?_
    refine zs_getf (pc := 46) C dX7_grindOne_46 w_X7_12 f_8_1 (by decide) ?_
    refine zs_getf (pc := 49) C dX7_grindOne_49 w_X7_161 f_5_2 (by decide) ?_
    refine zs_iload (pc := 52) C dX7_grindOne_52 rfl ?_
    refine zs_aload_n (pc := 54) C dX7_grindOne_54 rfl ?_
    refine zs_getd (r := 800) (pc := 55) C dX7_grindOne_55 w_X7_40 f_8_0 (by decide) rfl (fun v55 e55 t55 => ?_)
    try simp only [hz20.2, zuI_1, zuI_2, zuJ_1, zuJ_2, zuJ_3, zuP_1, zuP_2, zuP_3, zuC_1, zuC_2, reduceIte, Nat.reduceEqDiff, false_and, and_false, true_and, and_true, and_self, or_true, true_or, or_false, false_or] at e55
    subst e55
    refine zs_iconst (pc := 58) C dX7_grindOne_58 (by decide) ?_
    refine zs_iload_n (pc := 59) C dX7_grindOne_59 rfl ?_
    refine zVi2 (pc := 60) C dX7_grindOne_60 v_X7_132 (c_X5_fineness hX (by first | omega | (simp only [zuI_1, zuI_2, zuJ_1, zuJ_2, zuJ_3, zuP_1, zuP_2, zuP_3, zuC_1, zuC_2, reduceIte, Nat.reduceEqDiff, false_and, and_false, true_and, and_true, and_self, or_true, true_or, or_false, false_or]; omega))) (by decide) (by decide) ⟨Nat.zero_le _, Nat.zero_le _⟩ (Nat.le_of_ble_eq_true rfl) (fun x60 G60 l60 u60 hp60 => ?_)
    obtain ⟨hz60, hq60⟩ := hp60
    try simp only [zuI_1, zuI_2, zuJ_1, zuJ_2, zuJ_3, zuP_1, zuP_2, zuP_3, zuC_1, zuC_2, reduceIte, Nat.reduceEqDiff, false_and, and_false, true_and, and_true, and_self, or_true, true_or, or_false, false_or] at hq60
    have tr60_510 := zsm_at hz60 510 (Γ.2.1 w 1) 0 (by decide)
    try simp only [zuI_1, zuI_2, zuJ_1, zuJ_2, zuJ_3, zuP_1, zuP_2, zuP_3, zuC_1, zuC_2, reduceIte, Nat.reduceEqDiff, false_and, and_false, true_and, and_true, and_self, or_true, true_or, or_false, false_or] at tr60_510
    refine zs_iast (r := 2028) (pc := 63) C dX7_grindOne_63 a_28 (by decide) (by omega) rfl (r_2028 _) (by omega) ?_
    refine zs_aload_n (pc := 64) C dX7_grindOne_64 rfl ?_
    refine zs_getf (pc := 65) C dX7_grindOne_65 w_X7_12 f_8_1 (by decide) ?_
    refine zs_getf (pc := 68) C dX7_grindOne_68 w_X7_174 f_5_3 (by decide) ?_
    refine zs_iload (pc := 71) C dX7_grindOne_71 rfl ?_
    refine zs_aload_n (pc := 73) C dX7_grindOne_73 rfl ?_
    refine zVip0 (pc := 74) C dX7_grindOne_74 v_X7_177 (c_X7_portion hX ) (by decide) (by decide) ⟨Nat.zero_le _, Nat.zero_le _⟩ (Nat.le_of_ble_eq_true rfl) (fun x74 l74 u74 hp74 => ?_)
    have hq74 := hp74
    try simp only [zuI_1, zuI_2, zuJ_1, zuJ_2, zuJ_3, zuP_1, zuP_2, zuP_3, zuC_1, zuC_2, reduceIte, Nat.reduceEqDiff, false_and, and_false, true_and, and_true, and_self, or_true, true_or, or_false, false_or] at hq74
    refine zs_iast (r := 2029) (pc := 77) C dX7_grindOne_77 a_29 (by decide) (by omega) rfl (r_2029 _) (by omega) ?_
    refine zs_aload_n (pc := 78) C dX7_grindOne_78 rfl ?_
    refine zs_getf (pc := 79) C dX7_grindOne_79 w_X7_12 f_8_1 (by decide) ?_
    refine zs_getf (pc := 82) C dX7_grindOne_82 w_X7_181 f_5_4 (by decide) ?_
    refine zs_iload (pc := 85) C dX7_grindOne_85 rfl ?_
    refine zs_aload_n (pc := 87) C dX7_grindOne_87 rfl ?_
    refine zVip0 (pc := 88) C dX7_grindOne_88 v_X7_177 (c_X7_portion hX ) (by decide) (by decide) ⟨Nat.zero_le _, Nat.zero_le _⟩ (Nat.le_of_ble_eq_true rfl) (fun x88 l88 u88 hp88 => ?_)
    have hq88 := hp88
    try simp only [zuI_1, zuI_2, zuJ_1, zuJ_2, zuJ_3, zuP_1, zuP_2, zuP_3, zuC_1, zuC_2, reduceIte, Nat.reduceEqDiff, false_and, and_false, true_and, and_true, and_self, or_true, true_or, or_false, false_or] at hq88
    refine zs_iast (r := 2030) (pc := 91) C dX7_grindOne_91 a_30 (by decide) (by omega) rfl (r_2030 _) (by omega) ?_
    refine zs_aload_n (pc := 92) C dX7_grindOne_92 rfl ?_
    refine zs_getf (pc := 93) C dX7_grindOne_93 w_X7_12 f_8_1 (by decide) ?_
    refine zs_getf (pc := 96) C dX7_grindOne_96 w_X7_135 f_5_5 (by decide) ?_
    refine zs_iload (pc := 99) C dX7_grindOne_99 rfl ?_
    refine zs_aload_n (pc := 101) C dX7_grindOne_101 rfl ?_
    refine zs_getf (pc := 102) C dX7_grindOne_102 w_X7_25 f_8_4 (by decide) ?_
    refine zs_iload_n (pc := 105) C dX7_grindOne_105 rfl ?_
    refine zs_iald (r := 2050) (pc := 106) C dX7_grindOne_106 a_50 (by decide) (by omega) rfl (r_2050 _) (fun v106 e106 l106 u106 => ?_)
    try simp only [zuI_1, zuI_2, zuJ_1, zuJ_2, zuJ_3, zuP_1, zuP_2, zuP_3, zuC_1, zuC_2, reduceIte, Nat.reduceEqDiff, false_and, and_false, true_and, and_true, and_self, or_true, true_or, or_false, false_or] at e106
    refine zs_iast (r := 2031) (pc := 107) C dX7_grindOne_107 a_31 (by decide) (by omega) rfl (r_2031 _) (by omega) ?_
    refine zs_aload_n (pc := 108) C dX7_grindOne_108 rfl ?_
    refine zs_getf (pc := 109) C dX7_grindOne_109 w_X7_12 f_8_1 (by decide) ?_
    refine zs_getf (pc := 112) C dX7_grindOne_112 w_X7_136 f_5_6 (by decide) ?_
    refine zs_iload (pc := 115) C dX7_grindOne_115 rfl ?_
    refine zs_aload_n (pc := 117) C dX7_grindOne_117 rfl ?_
    refine zs_geti (r := 811) (pc := 118) C dX7_grindOne_118 w_X7_79 f_8_11 rfl (r_811 0) (fun v118 e118 l118 u118 => ?_)
    try simp only [zuI_1, zuI_2, zuJ_1, zuJ_2, zuJ_3, zuP_1, zuP_2, zuP_3, zuC_1, zuC_2, reduceIte, Nat.reduceEqDiff, false_and, and_false, true_and, and_true, and_self, or_true, true_or, or_false, false_or] at e118
    refine zs_iast (r := 2032) (pc := 121) C dX7_grindOne_121 a_32 (by decide) (by omega) rfl (r_2032 _) (by omega) ?_
    refine zs_aload_n (pc := 122) C dX7_grindOne_122 rfl ?_
    refine zs_getf (pc := 123) C dX7_grindOne_123 w_X7_12 f_8_1 (by decide) ?_
    refine zs_getf (pc := 126) C dX7_grindOne_126 w_X7_138 f_5_7 (by decide) ?_
    refine zs_iload (pc := 129) C dX7_grindOne_129 rfl ?_
    refine zs_aload_n (pc := 131) C dX7_grindOne_131 rfl ?_
    refine zs_iload_n (pc := 132) C dX7_grindOne_132 rfl ?_
    refine zVip1 (pc := 133) C dX7_grindOne_133 v_X7_109 (c_X7_prideOf hX (by first | omega | (simp only [zuI_1, zuI_2, zuJ_1, zuJ_2, zuJ_3, zuP_1, zuP_2, zuP_3, zuC_1, zuC_2, reduceIte, Nat.reduceEqDiff, false_and, and_false, true_and, and_true, and_self, or_true, true_or, or_false, false_or]; omega))) (by decide) (by decide) ⟨Nat.zero_le _, Nat.zero_le _⟩ (Nat.le_of_ble_eq_true rfl) (fun x133 l133 u133 hp133 => ?_)
    have hq133 := hp133
    try simp only [zuI_1, zuI_2, zuJ_1, zuJ_2, zuJ_3, zuP_1, zuP_2, zuP_3, zuC_1, zuC_2, reduceIte, Nat.reduceEqDiff, false_and, and_false, true_and, and_true, and_self, or_true, true_or, or_false, false_or] at hq133
    refine zs_iast (r := 2033) (pc := 136) C dX7_grindOne_136 a_33 (by decide) (by omega) rfl (r_2033 _) (by omega) ?_
    refine zs_aload_n (pc := 137) C dX7_grindOne_137 rfl ?_
    refine zs_getf (pc := 138) C dX7_grindOne_138 w_X7_12 f_8_1 (by decide) ?_
    refine zs_getf (pc := 141) C dX7_grindOne_141 w_X7_147 f_5_8 (by decide) ?_
    refine zs_iload (pc := 144) C dX7_grindOne_144 rfl ?_
    refine zs_aload_n (pc := 146) C dX7_grindOne_146 rfl ?_
    refine zs_geti (r := 809) (pc := 147) C dX7_grindOne_147 w_X7_69 f_8_9 rfl (r_809 0) (fun v147 e147 l147 u147 => ?_)
    try simp only [zuI_1, zuI_2, zuJ_1, zuJ_2, zuJ_3, zuP_1, zuP_2, zuP_3, zuC_1, zuC_2, reduceIte, Nat.reduceEqDiff, false_and, and_false, true_and, and_true, and_self, or_true, true_or, or_false, false_or] at e147
    refine zs_iast (r := 2034) (pc := 150) C dX7_grindOne_150 a_34 (by decide) (by omega) rfl (r_2034 _) (by omega) ?_
    refine zs_aload_n (pc := 151) C dX7_grindOne_151 rfl ?_
    refine zs_getf (pc := 152) C dX7_grindOne_152 w_X7_12 f_8_1 (by decide) ?_
    refine zs_getf (pc := 155) C dX7_grindOne_155 w_X7_184 f_5_9 (by decide) ?_
    refine zs_iload (pc := 158) C dX7_grindOne_158 rfl ?_
    refine zs_aload_n (pc := 160) C dX7_grindOne_160 rfl ?_
    refine zs_iload_n (pc := 161) C dX7_grindOne_161 rfl ?_
    refine zVip1 (pc := 162) C dX7_grindOne_162 v_X7_187 (c_X7_leftBitsOf hX (by first | omega | (simp only [zuI_1, zuI_2, zuJ_1, zuJ_2, zuJ_3, zuP_1, zuP_2, zuP_3, zuC_1, zuC_2, reduceIte, Nat.reduceEqDiff, false_and, and_false, true_and, and_true, and_self, or_true, true_or, or_false, false_or]; omega))) (by decide) (by decide) ⟨Nat.zero_le _, Nat.zero_le _⟩ (Nat.le_of_ble_eq_true rfl) (fun x162 l162 u162 hp162 => ?_)
    have hq162 := hp162
    try simp only [zuI_1, zuI_2, zuJ_1, zuJ_2, zuJ_3, zuP_1, zuP_2, zuP_3, zuC_1, zuC_2, reduceIte, Nat.reduceEqDiff, false_and, and_false, true_and, and_true, and_self, or_true, true_or, or_false, false_or] at hq162
    refine zs_iast (r := 2035) (pc := 165) C dX7_grindOne_165 a_35 (by decide) (by omega) rfl (r_2035 _) (by omega) ?_
    refine zs_aload_n (pc := 166) C dX7_grindOne_166 rfl ?_
    refine zs_getf (pc := 167) C dX7_grindOne_167 w_X7_12 f_8_1 (by decide) ?_
    refine zs_dupa (pc := 170) C dX7_grindOne_170 ?_
    refine zs_geti (r := 510) (pc := 171) C dX7_grindOne_171 w_X7_48 f_5_10 rfl (r_510 0) (fun v171 e171 l171 u171 => ?_)
    try simp only [zuI_1, zuI_2, zuJ_1, zuJ_2, zuJ_3, zuP_1, zuP_2, zuP_3, zuC_1, zuC_2, reduceIte, Nat.reduceEqDiff, false_and, and_false, true_and, and_true, and_self, or_true, true_or, or_false, false_or] at e171
    refine zs_iconst (pc := 174) C dX7_grindOne_174 (by decide) ?_
    first | refine zs_iadd (pc := 175) C dX7_grindOne_175 (by omega) ?_ | refine zs_iaddF (pc := 175) C dX7_grindOne_175 (fun z175 hz1751 hz1752 => ?_)
    refine zs_puti (r := 510) (pc := 176) C dX7_grindOne_176 w_X7_48 f_5_10 rfl (r_510 0) (by omega) ?_
    refine zs_aload_n (pc := 179) C dX7_grindOne_179 rfl ?_
    refine zs_dupa (pc := 180) C dX7_grindOne_180 ?_
    refine zs_geti (r := 810) (pc := 181) C dX7_grindOne_181 w_X7_75 f_8_10 rfl (r_810 0) (fun v181 e181 l181 u181 => ?_)
    try simp only [zuI_1, zuI_2, zuJ_1, zuJ_2, zuJ_3, zuP_1, zuP_2, zuP_3, zuC_1, zuC_2, reduceIte, Nat.reduceEqDiff, false_and, and_false, true_and, and_true, and_self, or_true, true_or, or_false, false_or] at e181
    refine zs_aload_n (pc := 184) C dX7_grindOne_184 rfl ?_
    refine zVip0 (pc := 185) C dX7_grindOne_185 v_X7_177 (c_X7_portion hX ) (by decide) (by decide) ⟨Nat.zero_le _, Nat.zero_le _⟩ (Nat.le_of_ble_eq_true rfl) (fun x185 l185 u185 hp185 => ?_)
    have hq185 := hp185
    try simp only [zuI_1, zuI_2, zuJ_1, zuJ_2, zuJ_3, zuP_1, zuP_2, zuP_3, zuC_1, zuC_2, reduceIte, Nat.reduceEqDiff, false_and, and_false, true_and, and_true, and_self, or_true, true_or, or_false, false_or] at hq185
    first | refine zs_isub (pc := 188) C dX7_grindOne_188 (by omega) ?_ | refine zs_isubF (pc := 188) C dX7_grindOne_188 (fun z188 hz1881 hz1882 => ?_)
    refine zs_puti (r := 810) (pc := 189) C dX7_grindOne_189 w_X7_75 f_8_10 rfl (r_810 0) (by omega) ?_
    refine zs_aload_n (pc := 192) C dX7_grindOne_192 rfl ?_
    refine zs_iload_n (pc := 193) C dX7_grindOne_193 rfl ?_
    refine zs_if_eq (tgt := 214) (pc := 194) C dX7_grindOne_194 (by decide) (fun h194 => ?_) (fun h194 => ?_)
    · skip
      refine zs_aload_n (pc := 214) C dX7_grindOne_214 rfl ?_
      refine zs_geti (r := 811) (pc := 215) C dX7_grindOne_215 w_X7_79 f_8_11 rfl (r_811 0) (fun v215 e215 l215 u215 => ?_)
      try simp only [zuI_1, zuI_2, zuJ_1, zuJ_2, zuJ_3, zuP_1, zuP_2, zuP_3, zuC_1, zuC_2, reduceIte, Nat.reduceEqDiff, false_and, and_false, true_and, and_true, and_self, or_true, true_or, or_false, false_or] at e215
      refine zs_puti (r := 811) (pc := 218) C dX7_grindOne_218 w_X7_79 f_8_11 rfl (r_811 0) (by omega) ?_
      refine zs_aload_n (pc := 221) C dX7_grindOne_221 rfl ?_
      refine zs_getf (pc := 222) C dX7_grindOne_222 w_X7_25 f_8_4 (by decide) ?_
      refine zs_iload_n (pc := 225) C dX7_grindOne_225 rfl ?_
      refine zs_dup2 (pc := 226) C dX7_grindOne_226 ?_
      refine zs_iald (r := 2050) (pc := 227) C dX7_grindOne_227 a_50 (by decide) (by omega) rfl (r_2050 _) (fun v227 e227 l227 u227 => ?_)
      try simp only [zuI_1, zuI_2, zuJ_1, zuJ_2, zuJ_3, zuP_1, zuP_2, zuP_3, zuC_1, zuC_2, reduceIte, Nat.reduceEqDiff, false_and, and_false, true_and, and_true, and_self, or_true, true_or, or_false, false_or] at e227
      refine zs_iconst (pc := 228) C dX7_grindOne_228 (by decide) ?_
      first | refine zs_iadd (pc := 229) C dX7_grindOne_229 (by omega) ?_ | refine zs_iaddF (pc := 229) C dX7_grindOne_229 (fun z229 hz2291 hz2292 => ?_)
      refine zs_iast (r := 2050) (pc := 230) C dX7_grindOne_230 a_50 (by decide) (by omega) rfl (r_2050 _) (by omega) ?_
      refine zs_aload_n (pc := 231) C dX7_grindOne_231 rfl ?_
      refine zs_getf (pc := 232) C dX7_grindOne_232 w_X7_12 f_8_1 (by decide) ?_
      refine zs_iload (pc := 235) C dX7_grindOne_235 rfl ?_
      refine zs_iload_n (pc := 237) C dX7_grindOne_237 rfl ?_
      refine zVip2 (pc := 238) C dX7_grindOne_238 v_X7_141 (c_X4_lieBy hX (by first | omega | (simp only [zuI_1, zuI_2, zuJ_1, zuJ_2, zuJ_3, zuP_1, zuP_2, zuP_3, zuC_1, zuC_2, reduceIte, Nat.reduceEqDiff, false_and, and_false, true_and, and_true, and_self, or_true, true_or, or_false, false_or]; omega))) (by decide) (by decide) ⟨Nat.zero_le _, Nat.zero_le _⟩ (Nat.le_of_ble_eq_true rfl) (fun x238 l238 u238 hp238 => ?_)
      have hq238 := hp238
      try simp only [zuI_1, zuI_2, zuJ_1, zuJ_2, zuJ_3, zuP_1, zuP_2, zuP_3, zuC_1, zuC_2, reduceIte, Nat.reduceEqDiff, false_and, and_false, true_and, and_true, and_self, or_true, true_or, or_false, false_or] at hq238
      refine zs_if_ne (tgt := 261) (pc := 241) C dX7_grindOne_241 (by decide) (fun h241 => ?_) (fun h241 => ?_)
      · skip
        refine zs_aload_n (pc := 261) C dX7_grindOne_261 rfl ?_
        refine zs_getf (pc := 262) C dX7_grindOne_262 w_X7_28 f_8_5 (by decide) ?_
        refine zs_iload_n (pc := 265) C dX7_grindOne_265 rfl ?_
        refine zs_dup2 (pc := 266) C dX7_grindOne_266 ?_
        refine zs_iald (r := 2051) (pc := 267) C dX7_grindOne_267 a_51 (by decide) (by omega) rfl (r_2051 _) (fun v267 e267 l267 u267 => ?_)
        try simp only [zuI_1, zuI_2, zuJ_1, zuJ_2, zuJ_3, zuP_1, zuP_2, zuP_3, zuC_1, zuC_2, reduceIte, Nat.reduceEqDiff, false_and, and_false, true_and, and_true, and_self, or_true, true_or, or_false, false_or] at e267
        refine zs_iconst (pc := 268) C dX7_grindOne_268 (by decide) ?_
        first | refine zs_iadd (pc := 269) C dX7_grindOne_269 (by omega) ?_ | refine zs_iaddF (pc := 269) C dX7_grindOne_269 (fun z269 hz2691 hz2692 => ?_)
        refine zs_iast (r := 2051) (pc := 270) C dX7_grindOne_270 a_51 (by decide) (by omega) rfl (r_2051 _) (by omega) ?_
        exact zs_vret (pc := 271) C hr hlk dX7_grindOne_271 ⟨by repeat (first | exact zsm_rf | assumption | refine zsm_C (by decide) ?_ | refine zsm_I (by decide) ?_ | refine zsm_J ?_ | refine zsm_c (by assumption) (by decide) ?_), (by with_reducible repeat (first | exact TO_rf | assumption | refine TO_o (by decide) ?_ | refine TO_C (by decide) ?_ | refine TO_t (by assumption) ?_ | apply TOw_510 | apply TOw_2026 | apply TOw_2027 | apply TOw_2028 | apply TOw_2029 | apply TOw_2030 | apply TOw_2031 | apply TOw_2032 | apply TOw_2033 | apply TOw_2034 | apply TOw_2035 | apply TOw_2048 | apply TOw_2049 | apply TOw_2050 | apply TOw_2051 | apply TOw_2052 | apply TOw_2053 | apply TOw_2054 | apply TOw_809 | apply TOw_810 | apply TOw_811 | apply TOw_812 | apply TOw_813 | apply TO_J | refine TO_m (by assumption) (by decide) ?_)), trivial⟩
      · skip
        refine zs_aload_n (pc := 244) C dX7_grindOne_244 rfl ?_
        refine zs_getf (pc := 245) C dX7_grindOne_245 w_X7_22 f_8_3 (by decide) ?_
        refine zs_iload_n (pc := 248) C dX7_grindOne_248 rfl ?_
        refine zs_iconst (pc := 249) C dX7_grindOne_249 (by decide) ?_
        first | refine zs_imul (pc := 250) C dX7_grindOne_250 (by omega) ?_ | refine zs_imulF (pc := 250) C dX7_grindOne_250 (fun z250 hz2501 hz2502 => ?_)
        refine zs_iload_n (pc := 251) C dX7_grindOne_251 rfl ?_
        first | refine zs_iadd (pc := 252) C dX7_grindOne_252 (by omega) ?_ | refine zs_iaddF (pc := 252) C dX7_grindOne_252 (fun z252 hz2521 hz2522 => ?_)
        refine zs_dup2 (pc := 253) C dX7_grindOne_253 ?_
        refine zs_iald (r := 2049) (pc := 254) C dX7_grindOne_254 a_49 (by decide) (by omega) rfl (r_2049 _) (fun v254 e254 l254 u254 => ?_)
        try simp only [zuI_1, zuI_2, zuJ_1, zuJ_2, zuJ_3, zuP_1, zuP_2, zuP_3, zuC_1, zuC_2, reduceIte, Nat.reduceEqDiff, false_and, and_false, true_and, and_true, and_self, or_true, true_or, or_false, false_or] at e254
        refine zs_iconst (pc := 255) C dX7_grindOne_255 (by decide) ?_
        first | refine zs_isub (pc := 256) C dX7_grindOne_256 (by omega) ?_ | refine zs_isubF (pc := 256) C dX7_grindOne_256 (fun z256 hz2561 hz2562 => ?_)
        refine zs_iast (r := 2049) (pc := 257) C dX7_grindOne_257 a_49 (by decide) (by omega) rfl (r_2049 _) (by omega) ?_
        refine zs_goto (tgt := 271) (pc := 258) C dX7_grindOne_258 (by decide) ?_
        exact zs_vret (pc := 271) C hr hlk dX7_grindOne_271 ⟨by repeat (first | exact zsm_rf | assumption | refine zsm_C (by decide) ?_ | refine zsm_I (by decide) ?_ | refine zsm_J ?_ | refine zsm_c (by assumption) (by decide) ?_), (by with_reducible repeat (first | exact TO_rf | assumption | refine TO_o (by decide) ?_ | refine TO_C (by decide) ?_ | refine TO_t (by assumption) ?_ | apply TOw_510 | apply TOw_2026 | apply TOw_2027 | apply TOw_2028 | apply TOw_2029 | apply TOw_2030 | apply TOw_2031 | apply TOw_2032 | apply TOw_2033 | apply TOw_2034 | apply TOw_2035 | apply TOw_2048 | apply TOw_2049 | apply TOw_2050 | apply TOw_2051 | apply TOw_2052 | apply TOw_2053 | apply TOw_2054 | apply TOw_809 | apply TOw_810 | apply TOw_811 | apply TOw_812 | apply TOw_813 | apply TO_J | refine TO_m (by assumption) (by decide) ?_)), trivial⟩
    · skip
      refine zs_ldc (n := 99999) (pc := 197) C dX7_grindOne_197 q_X7_190 (by decide) (by decide) ?_
      refine zs_aload_n (pc := 199) C dX7_grindOne_199 rfl ?_
      refine zs_geti (r := 811) (pc := 200) C dX7_grindOne_200 w_X7_79 f_8_11 rfl (r_811 0) (fun v200 e200 l200 u200 => ?_)
      try simp only [zuI_1, zuI_2, zuJ_1, zuJ_2, zuJ_3, zuP_1, zuP_2, zuP_3, zuC_1, zuC_2, reduceIte, Nat.reduceEqDiff, false_and, and_false, true_and, and_true, and_self, or_true, true_or, or_false, false_or] at e200
      refine zs_aload_n (pc := 203) C dX7_grindOne_203 rfl ?_
      refine zVi0 (pc := 204) C dX7_grindOne_204 v_X7_191 (c_X7_wearHere hX ) (by decide) (by decide) ⟨Nat.zero_le _, Nat.zero_le _⟩ (Nat.le_of_ble_eq_true rfl) (fun x204 G204 l204 u204 hp204 => ?_)
      obtain ⟨hz204, hq204⟩ := hp204
      try simp only [zuI_1, zuI_2, zuJ_1, zuJ_2, zuJ_3, zuP_1, zuP_2, zuP_3, zuC_1, zuC_2, reduceIte, Nat.reduceEqDiff, false_and, and_false, true_and, and_true, and_self, or_true, true_or, or_false, false_or] at hq204
      have tr204_510 := zsm_at hz204 510 (Γ.2.1 w 1) 0 (by decide)
      try simp only [zuI_1, zuI_2, zuJ_1, zuJ_2, zuJ_3, zuP_1, zuP_2, zuP_3, zuC_1, zuC_2, reduceIte, Nat.reduceEqDiff, false_and, and_false, true_and, and_true, and_self, or_true, true_or, or_false, false_or] at tr204_510
      first | refine zs_iadd (pc := 207) C dX7_grindOne_207 (by omega) ?_ | refine zs_iaddF (pc := 207) C dX7_grindOne_207 (fun z207 hz2071 hz2072 => ?_)
      refine zs_minI (pc := 208) C dX7_grindOne_208 s_X7_149 (by decide) (Nat.le_of_ble_eq_true rfl) ⟨Nat.zero_le _, Nat.zero_le _⟩ (fun z208 hz208 => ?_)
      refine zs_goto (tgt := 218) (pc := 211) C dX7_grindOne_211 (by decide) ?_
      refine zs_puti (r := 811) (pc := 218) C dX7_grindOne_218 w_X7_79 f_8_11 rfl (r_811 0) (by omega) ?_
      refine zs_aload_n (pc := 221) C dX7_grindOne_221 rfl ?_
      refine zs_getf (pc := 222) C dX7_grindOne_222 w_X7_25 f_8_4 (by decide) ?_
      refine zs_iload_n (pc := 225) C dX7_grindOne_225 rfl ?_
      refine zs_dup2 (pc := 226) C dX7_grindOne_226 ?_
      refine zs_iald (r := 2050) (pc := 227) C dX7_grindOne_227 a_50 (by decide) (by omega) rfl (r_2050 _) (fun v227 e227 l227 u227 => ?_)
      try simp only [zuI_1, zuI_2, zuJ_1, zuJ_2, zuJ_3, zuP_1, zuP_2, zuP_3, zuC_1, zuC_2, reduceIte, Nat.reduceEqDiff, false_and, and_false, true_and, and_true, and_self, or_true, true_or, or_false, false_or] at e227
      refine zs_iconst (pc := 228) C dX7_grindOne_228 (by decide) ?_
      first | refine zs_iadd (pc := 229) C dX7_grindOne_229 (by omega) ?_ | refine zs_iaddF (pc := 229) C dX7_grindOne_229 (fun z229 hz2291 hz2292 => ?_)
      refine zs_iast (r := 2050) (pc := 230) C dX7_grindOne_230 a_50 (by decide) (by omega) rfl (r_2050 _) (by omega) ?_
      refine zs_aload_n (pc := 231) C dX7_grindOne_231 rfl ?_
      refine zs_getf (pc := 232) C dX7_grindOne_232 w_X7_12 f_8_1 (by decide) ?_
      refine zs_iload (pc := 235) C dX7_grindOne_235 rfl ?_
      refine zs_iload_n (pc := 237) C dX7_grindOne_237 rfl ?_
      refine zVip2 (pc := 238) C dX7_grindOne_238 v_X7_141 (c_X4_lieBy hX (by first | omega | (simp only [zuI_1, zuI_2, zuJ_1, zuJ_2, zuJ_3, zuP_1, zuP_2, zuP_3, zuC_1, zuC_2, reduceIte, Nat.reduceEqDiff, false_and, and_false, true_and, and_true, and_self, or_true, true_or, or_false, false_or]; omega))) (by decide) (by decide) ⟨Nat.zero_le _, Nat.zero_le _⟩ (Nat.le_of_ble_eq_true rfl) (fun x238 l238 u238 hp238 => ?_)
      have hq238 := hp238
      try simp only [zuI_1, zuI_2, zuJ_1, zuJ_2, zuJ_3, zuP_1, zuP_2, zuP_3, zuC_1, zuC_2, reduceIte, Nat.reduceEqDiff, false_and, and_false, true_and, and_true, and_self, or_true, true_or, or_false, false_or] at hq238
      refine zs_if_ne (tgt := 261) (pc := 241) C dX7_grindOne_241 (by decide) (fun h241 => ?_) (fun h241 => ?_)
      · skip
        refine zs_aload_n (pc := 261) C dX7_grindOne_261 rfl ?_
        refine zs_getf (pc := 262) C dX7_grindOne_262 w_X7_28 f_8_5 (by decide) ?_
        refine zs_iload_n (pc := 265) C dX7_grindOne_265 rfl ?_
        refine zs_dup2 (pc := 266) C dX7_grindOne_266 ?_
        refine zs_iald (r := 2051) (pc := 267) C dX7_grindOne_267 a_51 (by decide) (by omega) rfl (r_2051 _) (fun v267 e267 l267 u267 => ?_)
        try simp only [zuI_1, zuI_2, zuJ_1, zuJ_2, zuJ_3, zuP_1, zuP_2, zuP_3, zuC_1, zuC_2, reduceIte, Nat.reduceEqDiff, false_and, and_false, true_and, and_true, and_self, or_true, true_or, or_false, false_or] at e267
        refine zs_iconst (pc := 268) C dX7_grindOne_268 (by decide) ?_
        first | refine zs_iadd (pc := 269) C dX7_grindOne_269 (by omega) ?_ | refine zs_iaddF (pc := 269) C dX7_grindOne_269 (fun z269 hz2691 hz2692 => ?_)
        refine zs_iast (r := 2051) (pc := 270) C dX7_grindOne_270 a_51 (by decide) (by omega) rfl (r_2051 _) (by omega) ?_
        exact zs_vret (pc := 271) C hr hlk dX7_grindOne_271 ⟨by repeat (first | exact zsm_rf | assumption | refine zsm_C (by decide) ?_ | refine zsm_I (by decide) ?_ | refine zsm_J ?_ | refine zsm_c (by assumption) (by decide) ?_), (by with_reducible repeat (first | exact TO_rf | assumption | refine TO_o (by decide) ?_ | refine TO_C (by decide) ?_ | refine TO_t (by assumption) ?_ | apply TOw_510 | apply TOw_2026 | apply TOw_2027 | apply TOw_2028 | apply TOw_2029 | apply TOw_2030 | apply TOw_2031 | apply TOw_2032 | apply TOw_2033 | apply TOw_2034 | apply TOw_2035 | apply TOw_2048 | apply TOw_2049 | apply TOw_2050 | apply TOw_2051 | apply TOw_2052 | apply TOw_2053 | apply TOw_2054 | apply TOw_809 | apply TOw_810 | apply TOw_811 | apply TOw_812 | apply TOw_813 | apply TO_J | refine TO_m (by assumption) (by decide) ?_)), trivial⟩
      · skip
        refine zs_aload_n (pc := 244) C dX7_grindOne_244 rfl ?_
        refine zs_getf (pc := 245) C dX7_grindOne_245 w_X7_22 f_8_3 (by decide) ?_
        refine zs_iload_n (pc := 248) C dX7_grindOne_248 rfl ?_
        refine zs_iconst (pc := 249) C dX7_grindOne_249 (by decide) ?_
        first | refine zs_imul (pc := 250) C dX7_grindOne_250 (by omega) ?_ | refine zs_imulF (pc := 250) C dX7_grindOne_250 (fun z250 hz2501 hz2502 => ?_)
        refine zs_iload_n (pc := 251) C dX7_grindOne_251 rfl ?_
        first | refine zs_iadd (pc := 252) C dX7_grindOne_252 (by omega) ?_ | refine zs_iaddF (pc := 252) C dX7_grindOne_252 (fun z252 hz2521 hz2522 => ?_)
        refine zs_dup2 (pc := 253) C dX7_grindOne_253 ?_
        refine zs_iald (r := 2049) (pc := 254) C dX7_grindOne_254 a_49 (by decide) (by omega) rfl (r_2049 _) (fun v254 e254 l254 u254 => ?_)
        try simp only [zuI_1, zuI_2, zuJ_1, zuJ_2, zuJ_3, zuP_1, zuP_2, zuP_3, zuC_1, zuC_2, reduceIte, Nat.reduceEqDiff, false_and, and_false, true_and, and_true, and_self, or_true, true_or, or_false, false_or] at e254
        refine zs_iconst (pc := 255) C dX7_grindOne_255 (by decide) ?_
        first | refine zs_isub (pc := 256) C dX7_grindOne_256 (by omega) ?_ | refine zs_isubF (pc := 256) C dX7_grindOne_256 (fun z256 hz2561 hz2562 => ?_)
        refine zs_iast (r := 2049) (pc := 257) C dX7_grindOne_257 a_49 (by decide) (by omega) rfl (r_2049 _) (by omega) ?_
        refine zs_goto (tgt := 271) (pc := 258) C dX7_grindOne_258 (by decide) ?_
        exact zs_vret (pc := 271) C hr hlk dX7_grindOne_271 ⟨by repeat (first | exact zsm_rf | assumption | refine zsm_C (by decide) ?_ | refine zsm_I (by decide) ?_ | refine zsm_J ?_ | refine zsm_c (by assumption) (by decide) ?_), (by with_reducible repeat (first | exact TO_rf | assumption | refine TO_o (by decide) ?_ | refine TO_C (by decide) ?_ | refine TO_t (by assumption) ?_ | apply TOw_510 | apply TOw_2026 | apply TOw_2027 | apply TOw_2028 | apply TOw_2029 | apply TOw_2030 | apply TOw_2031 | apply TOw_2032 | apply TOw_2033 | apply TOw_2034 | apply TOw_2035 | apply TOw_2048 | apply TOw_2049 | apply TOw_2050 | apply TOw_2051 | apply TOw_2052 | apply TOw_2053 | apply TOw_2054 | apply TOw_809 | apply TOw_810 | apply TOw_811 | apply TOw_812 | apply TOw_813 | apply TO_J | refine TO_m (by assumption) (by decide) ?_)), trivial⟩
  · skip
    exact zs_vret (pc := 7) C hr hlk dX7_grindOne_7 ⟨by repeat (first | exact zsm_rf | assumption | refine zsm_C (by decide) ?_ | refine zsm_I (by decide) ?_ | refine zsm_J ?_ | refine zsm_c (by assumption) (by decide) ?_), (by with_reducible repeat (first | exact TO_rf | assumption | refine TO_o (by decide) ?_ | refine TO_C (by decide) ?_ | refine TO_t (by assumption) ?_ | apply TOw_510 | apply TOw_2026 | apply TOw_2027 | apply TOw_2028 | apply TOw_2029 | apply TOw_2030 | apply TOw_2031 | apply TOw_2032 | apply TOw_2033 | apply TOw_2034 | apply TOw_2035 | apply TOw_2048 | apply TOw_2049 | apply TOw_2050 | apply TOw_2051 | apply TOw_2052 | apply TOw_2053 | apply TOw_2054 | apply TOw_809 | apply TOw_810 | apply TOw_811 | apply TOw_812 | apply TOw_813 | apply TO_J | refine TO_m (by assumption) (by decide) ?_)), trivial⟩

set_option maxHeartbeats 4000000 in
set_option maxRecDepth 100000 in
theorem c_X7_ungrindU {l : Launch} {Γ : zΓ} {G : zH} {w : Nat}  (hX : zXs Γ)  : zMet l Γ yX7_ungrind cX7_ungrind 4 none 1 [zr 8 w] G (zpv (fun G' => zsm [510, 2026, 2027, 2028, 2029, 2030, 2031, 2032, 2033, 2034, 2035, 810, 811, 2049, 2050, 2051] G G' ∧ TO Γ w G G' ∧ True)) := by
  refine zMet_of RX7 hX (by decide) rfl (Nat.le_of_ble_eq_true rfl) ?_
  intro p e s m args below meth c C hr hlk
  show Z p l e (zrm 1) s m args below meth c Γ 4 0 0 (MQ below (zQc Γ (zpv (fun G' => zsm [510, 2026, 2027, 2028, 2029, 2030, 2031, 2032, 2033, 2034, 2035, 810, 811, 2049, 2050, 2051] G G' ∧ TO Γ w G G' ∧ True))) args s 0 0 (zA Γ)) 0 [some (zr 8 w), none, none, none] [] G
  refine zs_aload_n (pc := 0) C dX7_ungrind_0 rfl ?_
  refine zs_getf (pc := 1) C dX7_ungrind_1 w_X7_12 f_8_1 (by decide) ?_
  refine zs_geti (r := 510) (pc := 4) C dX7_ungrind_4 w_X7_48 f_5_10 rfl (r_510 0) (fun v4 e4 l4 u4 => ?_)
  refine zs_if_gt (tgt := 11) (pc := 7) C dX7_ungrind_7 (by decide) (fun h7 => ?_) (fun h7 => ?_)
  · skip
    refine zs_aload_n (pc := 11) C dX7_ungrind_11 rfl ?_
    refine zs_getf (pc := 12) C dX7_ungrind_12 w_X7_12 f_8_1 (by decide) ?_
    refine zs_dupa (pc := 15) C dX7_ungrind_15 ?_
    refine zs_geti (r := 510) (pc := 16) C dX7_ungrind_16 w_X7_48 f_5_10 rfl (r_510 0) (fun v16 e16 l16 u16 => ?_)
    refine zs_iconst (pc := 19) C dX7_ungrind_19 (by decide) ?_
    first | refine zs_isub (pc := 20) C dX7_ungrind_20 (by omega) ?_ | refine zs_isubF (pc := 20) C dX7_ungrind_20 (fun z20 hz201 hz202 => ?_)
    refine zs_puti (r := 510) (pc := 21) C dX7_ungrind_21 w_X7_48 f_5_10 rfl (r_510 0) (by omega) ?_
    refine zs_aload_n (pc := 24) C dX7_ungrind_24 rfl ?_
    refine zs_getf (pc := 25) C dX7_ungrind_25 w_X7_12 f_8_1 (by decide) ?_
    refine zs_geti (r := 510) (pc := 28) C dX7_ungrind_28 w_X7_48 f_5_10 rfl (r_510 0) (fun v28 e28 l28 u28 => ?_)
    try simp only [zuI_1, zuI_2, zuJ_1, zuJ_2, zuJ_3, zuP_1, zuP_2, zuP_3, zuC_1, zuC_2, reduceIte, Nat.reduceEqDiff, false_and, and_false, true_and, and_true, and_self, or_true, true_or, or_false, false_or] at e28
    refine zs_istore_n (pc := 31) C dX7_ungrind_31 (by decide) ?_
    dsimp only [zset, zclr, znone]
    refine zs_aload_n (pc := 32) C dX7_ungrind_32 rfl ?_
    refine zs_getf (pc := 33) C dX7_ungrind_33 w_X7_12 f_8_1 (by decide) ?_
    refine zs_getf (pc := 36) C dX7_ungrind_36 w_X7_144 f_5_0 (by decide) ?_
    refine zs_iload_n (pc := 39) C dX7_ungrind_39 rfl ?_
    refine zs_iald (r := 2026) (pc := 40) C dX7_ungrind_40 a_26 (by decide) (by omega) rfl (r_2026 _) (fun v40 e40 l40 u40 => ?_)
    try simp only [zuI_1, zuI_2, zuJ_1, zuJ_2, zuJ_3, zuP_1, zuP_2, zuP_3, zuC_1, zuC_2, reduceIte, Nat.reduceEqDiff, false_and, and_false, true_and, and_true, and_self, or_true, true_or, or_false, false_or] at e40
    refine zs_istore_n (pc := 41) C dX7_ungrind_41 (by decide) ?_
    dsimp only [zset, zclr, znone]
    refine zs_aload_n (pc := 42) C dX7_ungrind_42 rfl ?_
    refine zs_getf (pc := 43) C dX7_ungrind_43 w_X7_12 f_8_1 (by decide) ?_
    refine zs_getf (pc := 46) C dX7_ungrind_46 w_X7_154 f_5_1 (by decide) ?_
    refine zs_iload_n (pc := 49) C dX7_ungrind_49 rfl ?_
    refine zs_iald (r := 2027) (pc := 50) C dX7_ungrind_50 a_27 (by decide) (by omega) rfl (r_2027 _) (fun v50 e50 l50 u50 => ?_)
    try simp only [zuI_1, zuI_2, zuJ_1, zuJ_2, zuJ_3, zuP_1, zuP_2, zuP_3, zuC_1, zuC_2, reduceIte, Nat.reduceEqDiff, false_and, and_false, true_and, and_true, and_self, or_true, true_or, or_false, false_or] at e50
    refine zs_istore_n (pc := 51) C dX7_ungrind_51 (by decide) ?_
    dsimp only [zset, zclr, znone]
    refine zs_aload_n (pc := 52) C dX7_ungrind_52 rfl ?_
    refine zs_dupa (pc := 53) C dX7_ungrind_53 ?_
    refine zs_geti (r := 810) (pc := 54) C dX7_ungrind_54 w_X7_75 f_8_10 rfl (r_810 0) (fun v54 e54 l54 u54 => ?_)
    try simp only [zuI_1, zuI_2, zuJ_1, zuJ_2, zuJ_3, zuP_1, zuP_2, zuP_3, zuC_1, zuC_2, reduceIte, Nat.reduceEqDiff, false_and, and_false, true_and, and_true, and_self, or_true, true_or, or_false, false_or] at e54
    refine zs_aload_n (pc := 57) C dX7_ungrind_57 rfl ?_
    refine zs_getf (pc := 58) C dX7_ungrind_58 w_X7_12 f_8_1 (by decide) ?_
    refine zs_getf (pc := 61) C dX7_ungrind_61 w_X7_174 f_5_3 (by decide) ?_
    refine zs_iload_n (pc := 64) C dX7_ungrind_64 rfl ?_
    refine zs_iald (r := 2029) (pc := 65) C dX7_ungrind_65 a_29 (by decide) (by omega) rfl (r_2029 _) (fun v65 e65 l65 u65 => ?_)
    try simp only [zuI_1, zuI_2, zuJ_1, zuJ_2, zuJ_3, zuP_1, zuP_2, zuP_3, zuC_1, zuC_2, reduceIte, Nat.reduceEqDiff, false_and, and_false, true_and, and_true, and_self, or_true, true_or, or_false, false_or] at e65
    first | refine zs_iadd (pc := 66) C dX7_ungrind_66 (by omega) ?_ | refine zs_iaddF (pc := 66) C dX7_ungrind_66 (fun z66 hz661 hz662 => ?_)
    refine zs_puti (r := 810) (pc := 67) C dX7_ungrind_67 w_X7_75 f_8_10 rfl (r_810 0) (by omega) ?_
    refine zs_aload_n (pc := 70) C dX7_ungrind_70 rfl ?_
    refine zs_aload_n (pc := 71) C dX7_ungrind_71 rfl ?_
    refine zs_getf (pc := 72) C dX7_ungrind_72 w_X7_12 f_8_1 (by decide) ?_
    refine zs_getf (pc := 75) C dX7_ungrind_75 w_X7_136 f_5_6 (by decide) ?_
    refine zs_iload_n (pc := 78) C dX7_ungrind_78 rfl ?_
    refine zs_iald (r := 2032) (pc := 79) C dX7_ungrind_79 a_32 (by decide) (by omega) rfl (r_2032 _) (fun v79 e79 l79 u79 => ?_)
    try simp only [zuI_1, zuI_2, zuJ_1, zuJ_2, zuJ_3, zuP_1, zuP_2, zuP_3, zuC_1, zuC_2, reduceIte, Nat.reduceEqDiff, false_and, and_false, true_and, and_true, and_self, or_true, true_or, or_false, false_or] at e79
    refine zs_puti (r := 811) (pc := 80) C dX7_ungrind_80 w_X7_79 f_8_11 rfl (r_811 0) (by omega) ?_
    refine zs_aload_n (pc := 83) C dX7_ungrind_83 rfl ?_
    refine zs_getf (pc := 84) C dX7_ungrind_84 w_X7_25 f_8_4 (by decide) ?_
    refine zs_iload_n (pc := 87) C dX7_ungrind_87 rfl ?_
    refine zs_aload_n (pc := 88) C dX7_ungrind_88 rfl ?_
    refine zs_getf (pc := 89) C dX7_ungrind_89 w_X7_12 f_8_1 (by decide) ?_
    refine zs_getf (pc := 92) C dX7_ungrind_92 w_X7_135 f_5_5 (by decide) ?_
    refine zs_iload_n (pc := 95) C dX7_ungrind_95 rfl ?_
    refine zs_iald (r := 2031) (pc := 96) C dX7_ungrind_96 a_31 (by decide) (by omega) rfl (r_2031 _) (fun v96 e96 l96 u96 => ?_)
    try simp only [zuI_1, zuI_2, zuJ_1, zuJ_2, zuJ_3, zuP_1, zuP_2, zuP_3, zuC_1, zuC_2, reduceIte, Nat.reduceEqDiff, false_and, and_false, true_and, and_true, and_self, or_true, true_or, or_false, false_or] at e96
    refine zs_iast (r := 2050) (pc := 97) C dX7_ungrind_97 a_50 (by decide) (by omega) rfl (r_2050 _) (by omega) ?_
    refine zs_aload_n (pc := 98) C dX7_ungrind_98 rfl ?_
    refine zs_getf (pc := 99) C dX7_ungrind_99 w_X7_12 f_8_1 (by decide) ?_
    refine zs_iload_n (pc := 102) C dX7_ungrind_102 rfl ?_
    refine zs_iload_n (pc := 103) C dX7_ungrind_103 rfl ?_
    refine zVip2 (pc := 104) C dX7_ungrind_104 v_X7_141 (c_X4_lieBy hX (by first | omega | (simp only [zuI_1, zuI_2, zuJ_1, zuJ_2, zuJ_3, zuP_1, zuP_2, zuP_3, zuC_1, zuC_2, reduceIte, Nat.reduceEqDiff, false_and, and_false, true_and, and_true, and_self, or_true, true_or, or_false, false_or]; omega))) (by decide) (by decide) ⟨Nat.zero_le _, Nat.zero_le _⟩ (Nat.le_of_ble_eq_true rfl) (fun x104 l104 u104 hp104 => ?_)
    have hq104 := hp104
    try simp only [zuI_1, zuI_2, zuJ_1, zuJ_2, zuJ_3, zuP_1, zuP_2, zuP_3, zuC_1, zuC_2, reduceIte, Nat.reduceEqDiff, false_and, and_false, true_and, and_true, and_self, or_true, true_or, or_false, false_or] at hq104
    refine zs_if_ne (tgt := 127) (pc := 107) C dX7_ungrind_107 (by decide) (fun h107 => ?_) (fun h107 => ?_)
    · skip
      refine zs_aload_n (pc := 127) C dX7_ungrind_127 rfl ?_
      refine zs_getf (pc := 128) C dX7_ungrind_128 w_X7_28 f_8_5 (by decide) ?_
      refine zs_iload_n (pc := 131) C dX7_ungrind_131 rfl ?_
      refine zs_dup2 (pc := 132) C dX7_ungrind_132 ?_
      refine zs_iald (r := 2051) (pc := 133) C dX7_ungrind_133 a_51 (by decide) (by omega) rfl (r_2051 _) (fun v133 e133 l133 u133 => ?_)
      try simp only [zuI_1, zuI_2, zuJ_1, zuJ_2, zuJ_3, zuP_1, zuP_2, zuP_3, zuC_1, zuC_2, reduceIte, Nat.reduceEqDiff, false_and, and_false, true_and, and_true, and_self, or_true, true_or, or_false, false_or] at e133
      refine zs_iconst (pc := 134) C dX7_ungrind_134 (by decide) ?_
      first | refine zs_isub (pc := 135) C dX7_ungrind_135 (by omega) ?_ | refine zs_isubF (pc := 135) C dX7_ungrind_135 (fun z135 hz1351 hz1352 => ?_)
      refine zs_iast (r := 2051) (pc := 136) C dX7_ungrind_136 a_51 (by decide) (by omega) rfl (r_2051 _) (by omega) ?_
      exact zs_vret (pc := 137) C hr hlk dX7_ungrind_137 ⟨by repeat (first | exact zsm_rf | assumption | refine zsm_C (by decide) ?_ | refine zsm_I (by decide) ?_ | refine zsm_J ?_ | refine zsm_c (by assumption) (by decide) ?_), (by with_reducible repeat (first | exact TO_rf | assumption | refine TO_o (by decide) ?_ | refine TO_C (by decide) ?_ | refine TO_t (by assumption) ?_ | apply TOw_510 | apply TOw_2026 | apply TOw_2027 | apply TOw_2028 | apply TOw_2029 | apply TOw_2030 | apply TOw_2031 | apply TOw_2032 | apply TOw_2033 | apply TOw_2034 | apply TOw_2035 | apply TOw_2048 | apply TOw_2049 | apply TOw_2050 | apply TOw_2051 | apply TOw_2052 | apply TOw_2053 | apply TOw_2054 | apply TOw_809 | apply TOw_810 | apply TOw_811 | apply TOw_812 | apply TOw_813 | apply TO_J | refine TO_m (by assumption) (by decide) ?_)), trivial⟩
    · skip
      refine zs_aload_n (pc := 110) C dX7_ungrind_110 rfl ?_
      refine zs_getf (pc := 111) C dX7_ungrind_111 w_X7_22 f_8_3 (by decide) ?_
      refine zs_iload_n (pc := 114) C dX7_ungrind_114 rfl ?_
      refine zs_iconst (pc := 115) C dX7_ungrind_115 (by decide) ?_
      first | refine zs_imul (pc := 116) C dX7_ungrind_116 (by omega) ?_ | refine zs_imulF (pc := 116) C dX7_ungrind_116 (fun z116 hz1161 hz1162 => ?_)
      refine zs_iload_n (pc := 117) C dX7_ungrind_117 rfl ?_
      first | refine zs_iadd (pc := 118) C dX7_ungrind_118 (by omega) ?_ | refine zs_iaddF (pc := 118) C dX7_ungrind_118 (fun z118 hz1181 hz1182 => ?_)
      refine zs_dup2 (pc := 119) C dX7_ungrind_119 ?_
      refine zs_iald (r := 2049) (pc := 120) C dX7_ungrind_120 a_49 (by decide) (by omega) rfl (r_2049 _) (fun v120 e120 l120 u120 => ?_)
      try simp only [zuI_1, zuI_2, zuJ_1, zuJ_2, zuJ_3, zuP_1, zuP_2, zuP_3, zuC_1, zuC_2, reduceIte, Nat.reduceEqDiff, false_and, and_false, true_and, and_true, and_self, or_true, true_or, or_false, false_or] at e120
      refine zs_iconst (pc := 121) C dX7_ungrind_121 (by decide) ?_
      first | refine zs_iadd (pc := 122) C dX7_ungrind_122 (by omega) ?_ | refine zs_iaddF (pc := 122) C dX7_ungrind_122 (fun z122 hz1221 hz1222 => ?_)
      refine zs_iast (r := 2049) (pc := 123) C dX7_ungrind_123 a_49 (by decide) (by omega) rfl (r_2049 _) (by omega) ?_
      refine zs_goto (tgt := 137) (pc := 124) C dX7_ungrind_124 (by decide) ?_
      exact zs_vret (pc := 137) C hr hlk dX7_ungrind_137 ⟨by repeat (first | exact zsm_rf | assumption | refine zsm_C (by decide) ?_ | refine zsm_I (by decide) ?_ | refine zsm_J ?_ | refine zsm_c (by assumption) (by decide) ?_), (by with_reducible repeat (first | exact TO_rf | assumption | refine TO_o (by decide) ?_ | refine TO_C (by decide) ?_ | refine TO_t (by assumption) ?_ | apply TOw_510 | apply TOw_2026 | apply TOw_2027 | apply TOw_2028 | apply TOw_2029 | apply TOw_2030 | apply TOw_2031 | apply TOw_2032 | apply TOw_2033 | apply TOw_2034 | apply TOw_2035 | apply TOw_2048 | apply TOw_2049 | apply TOw_2050 | apply TOw_2051 | apply TOw_2052 | apply TOw_2053 | apply TOw_2054 | apply TOw_809 | apply TOw_810 | apply TOw_811 | apply TOw_812 | apply TOw_813 | apply TO_J | refine TO_m (by assumption) (by decide) ?_)), trivial⟩
  · skip
    exact zs_vret (pc := 10) C hr hlk dX7_ungrind_10 ⟨by repeat (first | exact zsm_rf | assumption | refine zsm_C (by decide) ?_ | refine zsm_I (by decide) ?_ | refine zsm_J ?_ | refine zsm_c (by assumption) (by decide) ?_), (by with_reducible repeat (first | exact TO_rf | assumption | refine TO_o (by decide) ?_ | refine TO_C (by decide) ?_ | refine TO_t (by assumption) ?_ | apply TOw_510 | apply TOw_2026 | apply TOw_2027 | apply TOw_2028 | apply TOw_2029 | apply TOw_2030 | apply TOw_2031 | apply TOw_2032 | apply TOw_2033 | apply TOw_2034 | apply TOw_2035 | apply TOw_2048 | apply TOw_2049 | apply TOw_2050 | apply TOw_2051 | apply TOw_2052 | apply TOw_2053 | apply TOw_2054 | apply TOw_809 | apply TOw_810 | apply TOw_811 | apply TOw_812 | apply TOw_813 | apply TO_J | refine TO_m (by assumption) (by decide) ?_)), trivial⟩

set_option maxHeartbeats 4000000 in
set_option maxRecDepth 100000 in
theorem c_X7_fallOnceU {l : Launch} {Γ : zΓ} {G : zH} {w : Nat} {p0 s0 : Int} (hX : zXs Γ) (hp : 0 ≤ p0 ∧ p0 ≤ 4)(hs : 0 ≤ s0 ∧ s0 ≤ 3) : zMet l Γ yX7_fallOnce cX7_fallOnce 3 none 0 [zr 8 w, zi p0, zi s0] G (zpv (fun G' => zsm [2048, 2049, 2052] G G' ∧ TO Γ w G G' ∧ True)) := by
  refine zMet_of RX7 hX (by decide) rfl (Nat.le_of_ble_eq_true rfl) ?_
  intro p e s m args below meth c C hr hlk
  show Z p l e (zrm 0) s m args below meth c Γ 3 0 0 (MQ below (zQc Γ (zpv (fun G' => zsm [2048, 2049, 2052] G G' ∧ TO Γ w G G' ∧ True))) args s 0 0 (zA Γ)) 0 [some (zr 8 w), some (zi p0), some (zi s0)] [] G
  refine zs_loc 1 rfl (fun ha1 hb1 => ?_)
  refine zs_loc 2 rfl (fun ha2 hb2 => ?_)
  refine zs_aload_n (pc := 0) C dX7_fallOnce_0 rfl ?_
  refine zs_getf (pc := 1) C dX7_fallOnce_1 w_X7_18 f_8_2 (by decide) ?_
  refine zs_iload_n (pc := 4) C dX7_fallOnce_4 rfl ?_
  refine zs_iconst (pc := 5) C dX7_fallOnce_5 (by decide) ?_
  first | refine zs_imul (pc := 6) C dX7_fallOnce_6 (by omega) ?_ | refine zs_imulF (pc := 6) C dX7_fallOnce_6 (fun z6 hz61 hz62 => ?_)
  refine zs_iload_n (pc := 7) C dX7_fallOnce_7 rfl ?_
  first | refine zs_iadd (pc := 8) C dX7_fallOnce_8 (by omega) ?_ | refine zs_iaddF (pc := 8) C dX7_fallOnce_8 (fun z8 hz81 hz82 => ?_)
  refine zs_dup2 (pc := 9) C dX7_fallOnce_9 ?_
  refine zs_iald (r := 2048) (pc := 10) C dX7_fallOnce_10 a_48 (by decide) (by omega) rfl (r_2048 _) (fun v10 e10 l10 u10 => ?_)
  refine zs_iconst (pc := 11) C dX7_fallOnce_11 (by decide) ?_
  first | refine zs_iadd (pc := 12) C dX7_fallOnce_12 (by omega) ?_ | refine zs_iaddF (pc := 12) C dX7_fallOnce_12 (fun z12 hz121 hz122 => ?_)
  refine zs_iast (r := 2048) (pc := 13) C dX7_fallOnce_13 a_48 (by decide) (by omega) rfl (r_2048 _) (by omega) ?_
  refine zs_aload_n (pc := 14) C dX7_fallOnce_14 rfl ?_
  refine zs_getf (pc := 15) C dX7_fallOnce_15 w_X7_22 f_8_3 (by decide) ?_
  refine zs_iload_n (pc := 18) C dX7_fallOnce_18 rfl ?_
  refine zs_iconst (pc := 19) C dX7_fallOnce_19 (by decide) ?_
  first | refine zs_imul (pc := 20) C dX7_fallOnce_20 (by omega) ?_ | refine zs_imulF (pc := 20) C dX7_fallOnce_20 (fun z20 hz201 hz202 => ?_)
  refine zs_iload_n (pc := 21) C dX7_fallOnce_21 rfl ?_
  first | refine zs_iadd (pc := 22) C dX7_fallOnce_22 (by omega) ?_ | refine zs_iaddF (pc := 22) C dX7_fallOnce_22 (fun z22 hz221 hz222 => ?_)
  refine zs_dup2 (pc := 23) C dX7_fallOnce_23 ?_
  refine zs_iald (r := 2049) (pc := 24) C dX7_fallOnce_24 a_49 (by decide) (by omega) rfl (r_2049 _) (fun v24 e24 l24 u24 => ?_)
  try simp only [zuI_1, zuI_2, zuJ_1, zuJ_2, zuJ_3, zuP_1, zuP_2, zuP_3, zuC_1, zuC_2, reduceIte, Nat.reduceEqDiff, false_and, and_false, true_and, and_true, and_self, or_true, true_or, or_false, false_or] at e24
  refine zs_iconst (pc := 25) C dX7_fallOnce_25 (by decide) ?_
  first | refine zs_iadd (pc := 26) C dX7_fallOnce_26 (by omega) ?_ | refine zs_iaddF (pc := 26) C dX7_fallOnce_26 (fun z26 hz261 hz262 => ?_)
  refine zs_iast (r := 2049) (pc := 27) C dX7_fallOnce_27 a_49 (by decide) (by omega) rfl (r_2049 _) (by omega) ?_
  refine zs_aload_n (pc := 28) C dX7_fallOnce_28 rfl ?_
  refine zs_getf (pc := 29) C dX7_fallOnce_29 w_X7_31 f_8_6 (by decide) ?_
  refine zs_iload_n (pc := 32) C dX7_fallOnce_32 rfl ?_
  refine zs_dup2 (pc := 33) C dX7_fallOnce_33 ?_
  refine zs_iald (r := 2052) (pc := 34) C dX7_fallOnce_34 a_52 (by decide) (by omega) rfl (r_2052 _) (fun v34 e34 l34 u34 => ?_)
  try simp only [zuI_1, zuI_2, zuJ_1, zuJ_2, zuJ_3, zuP_1, zuP_2, zuP_3, zuC_1, zuC_2, reduceIte, Nat.reduceEqDiff, false_and, and_false, true_and, and_true, and_self, or_true, true_or, or_false, false_or] at e34
  refine zs_iconst (pc := 35) C dX7_fallOnce_35 (by decide) ?_
  first | refine zs_iadd (pc := 36) C dX7_fallOnce_36 (by omega) ?_ | refine zs_iaddF (pc := 36) C dX7_fallOnce_36 (fun z36 hz361 hz362 => ?_)
  refine zs_iast (r := 2052) (pc := 37) C dX7_fallOnce_37 a_52 (by decide) (by omega) rfl (r_2052 _) (by omega) ?_
  exact zs_vret (pc := 38) C hr hlk dX7_fallOnce_38 ⟨by repeat (first | exact zsm_rf | assumption | refine zsm_C (by decide) ?_ | refine zsm_I (by decide) ?_ | refine zsm_J ?_ | refine zsm_c (by assumption) (by decide) ?_), (by with_reducible repeat (first | exact TO_rf | assumption | refine TO_o (by decide) ?_ | refine TO_C (by decide) ?_ | refine TO_t (by assumption) ?_ | apply TOw_510 | apply TOw_2026 | apply TOw_2027 | apply TOw_2028 | apply TOw_2029 | apply TOw_2030 | apply TOw_2031 | apply TOw_2032 | apply TOw_2033 | apply TOw_2034 | apply TOw_2035 | apply TOw_2048 | apply TOw_2049 | apply TOw_2050 | apply TOw_2051 | apply TOw_2052 | apply TOw_2053 | apply TOw_2054 | apply TOw_809 | apply TOw_810 | apply TOw_811 | apply TOw_812 | apply TOw_813 | apply TO_J | refine TO_m (by assumption) (by decide) ?_)), trivial⟩

set_option maxHeartbeats 4000000 in
set_option maxRecDepth 100000 in
theorem c_X7_unfallU {l : Launch} {Γ : zΓ} {G : zH} {w : Nat} {p0 s0 : Int} (hX : zXs Γ) (hp : 0 ≤ p0 ∧ p0 ≤ 4)(hs : 0 ≤ s0 ∧ s0 ≤ 3) : zMet l Γ yX7_unfall cX7_unfall 3 none 0 [zr 8 w, zi p0, zi s0] G (zpv (fun G' => zsm [2048, 2049, 2052] G G' ∧ TO Γ w G G' ∧ True)) := by
  refine zMet_of RX7 hX (by decide) rfl (Nat.le_of_ble_eq_true rfl) ?_
  intro p e s m args below meth c C hr hlk
  show Z p l e (zrm 0) s m args below meth c Γ 3 0 0 (MQ below (zQc Γ (zpv (fun G' => zsm [2048, 2049, 2052] G G' ∧ TO Γ w G G' ∧ True))) args s 0 0 (zA Γ)) 0 [some (zr 8 w), some (zi p0), some (zi s0)] [] G
  refine zs_loc 1 rfl (fun ha1 hb1 => ?_)
  refine zs_loc 2 rfl (fun ha2 hb2 => ?_)
  refine zs_aload_n (pc := 0) C dX7_unfall_0 rfl ?_
  refine zs_getf (pc := 1) C dX7_unfall_1 w_X7_18 f_8_2 (by decide) ?_
  refine zs_iload_n (pc := 4) C dX7_unfall_4 rfl ?_
  refine zs_iconst (pc := 5) C dX7_unfall_5 (by decide) ?_
  first | refine zs_imul (pc := 6) C dX7_unfall_6 (by omega) ?_ | refine zs_imulF (pc := 6) C dX7_unfall_6 (fun z6 hz61 hz62 => ?_)
  refine zs_iload_n (pc := 7) C dX7_unfall_7 rfl ?_
  first | refine zs_iadd (pc := 8) C dX7_unfall_8 (by omega) ?_ | refine zs_iaddF (pc := 8) C dX7_unfall_8 (fun z8 hz81 hz82 => ?_)
  refine zs_dup2 (pc := 9) C dX7_unfall_9 ?_
  refine zs_iald (r := 2048) (pc := 10) C dX7_unfall_10 a_48 (by decide) (by omega) rfl (r_2048 _) (fun v10 e10 l10 u10 => ?_)
  refine zs_iconst (pc := 11) C dX7_unfall_11 (by decide) ?_
  first | refine zs_isub (pc := 12) C dX7_unfall_12 (by omega) ?_ | refine zs_isubF (pc := 12) C dX7_unfall_12 (fun z12 hz121 hz122 => ?_)
  refine zs_iast (r := 2048) (pc := 13) C dX7_unfall_13 a_48 (by decide) (by omega) rfl (r_2048 _) (by omega) ?_
  refine zs_aload_n (pc := 14) C dX7_unfall_14 rfl ?_
  refine zs_getf (pc := 15) C dX7_unfall_15 w_X7_22 f_8_3 (by decide) ?_
  refine zs_iload_n (pc := 18) C dX7_unfall_18 rfl ?_
  refine zs_iconst (pc := 19) C dX7_unfall_19 (by decide) ?_
  first | refine zs_imul (pc := 20) C dX7_unfall_20 (by omega) ?_ | refine zs_imulF (pc := 20) C dX7_unfall_20 (fun z20 hz201 hz202 => ?_)
  refine zs_iload_n (pc := 21) C dX7_unfall_21 rfl ?_
  first | refine zs_iadd (pc := 22) C dX7_unfall_22 (by omega) ?_ | refine zs_iaddF (pc := 22) C dX7_unfall_22 (fun z22 hz221 hz222 => ?_)
  refine zs_dup2 (pc := 23) C dX7_unfall_23 ?_
  refine zs_iald (r := 2049) (pc := 24) C dX7_unfall_24 a_49 (by decide) (by omega) rfl (r_2049 _) (fun v24 e24 l24 u24 => ?_)
  try simp only [zuI_1, zuI_2, zuJ_1, zuJ_2, zuJ_3, zuP_1, zuP_2, zuP_3, zuC_1, zuC_2, reduceIte, Nat.reduceEqDiff, false_and, and_false, true_and, and_true, and_self, or_true, true_or, or_false, false_or] at e24
  refine zs_iconst (pc := 25) C dX7_unfall_25 (by decide) ?_
  first | refine zs_isub (pc := 26) C dX7_unfall_26 (by omega) ?_ | refine zs_isubF (pc := 26) C dX7_unfall_26 (fun z26 hz261 hz262 => ?_)
  refine zs_iast (r := 2049) (pc := 27) C dX7_unfall_27 a_49 (by decide) (by omega) rfl (r_2049 _) (by omega) ?_
  refine zs_aload_n (pc := 28) C dX7_unfall_28 rfl ?_
  refine zs_getf (pc := 29) C dX7_unfall_29 w_X7_31 f_8_6 (by decide) ?_
  refine zs_iload_n (pc := 32) C dX7_unfall_32 rfl ?_
  refine zs_dup2 (pc := 33) C dX7_unfall_33 ?_
  refine zs_iald (r := 2052) (pc := 34) C dX7_unfall_34 a_52 (by decide) (by omega) rfl (r_2052 _) (fun v34 e34 l34 u34 => ?_)
  try simp only [zuI_1, zuI_2, zuJ_1, zuJ_2, zuJ_3, zuP_1, zuP_2, zuP_3, zuC_1, zuC_2, reduceIte, Nat.reduceEqDiff, false_and, and_false, true_and, and_true, and_self, or_true, true_or, or_false, false_or] at e34
  refine zs_iconst (pc := 35) C dX7_unfall_35 (by decide) ?_
  first | refine zs_isub (pc := 36) C dX7_unfall_36 (by omega) ?_ | refine zs_isubF (pc := 36) C dX7_unfall_36 (fun z36 hz361 hz362 => ?_)
  refine zs_iast (r := 2052) (pc := 37) C dX7_unfall_37 a_52 (by decide) (by omega) rfl (r_2052 _) (by omega) ?_
  exact zs_vret (pc := 38) C hr hlk dX7_unfall_38 ⟨by repeat (first | exact zsm_rf | assumption | refine zsm_C (by decide) ?_ | refine zsm_I (by decide) ?_ | refine zsm_J ?_ | refine zsm_c (by assumption) (by decide) ?_), (by with_reducible repeat (first | exact TO_rf | assumption | refine TO_o (by decide) ?_ | refine TO_C (by decide) ?_ | refine TO_t (by assumption) ?_ | apply TOw_510 | apply TOw_2026 | apply TOw_2027 | apply TOw_2028 | apply TOw_2029 | apply TOw_2030 | apply TOw_2031 | apply TOw_2032 | apply TOw_2033 | apply TOw_2034 | apply TOw_2035 | apply TOw_2048 | apply TOw_2049 | apply TOw_2050 | apply TOw_2051 | apply TOw_2052 | apply TOw_2053 | apply TOw_2054 | apply TOw_809 | apply TOw_810 | apply TOw_811 | apply TOw_812 | apply TOw_813 | apply TO_J | refine TO_m (by assumption) (by decide) ?_)), trivial⟩

set_option maxHeartbeats 4000000 in
set_option maxRecDepth 100000 in
theorem c_X2_takeU {l : Launch} {Γ : zΓ} {G : zH} {w : Nat} {a b : Int} (hX : zXs Γ)  : zMet l Γ yX2_take cX2_take 3 none 1 [zr 3 w, zi a, zi b] G (zpv (fun G' => zsm [2021, 2022, 2023] G G' ∧ TO Γ (Γ.2.1 w 0) G G' ∧ True)) := by
  refine zMet_of RX2 hX (by decide) rfl (Nat.le_of_ble_eq_true rfl) ?_
  intro p e s m args below meth c C hr hlk
  show Z p l e (zrm 1) s m args below meth c Γ 3 0 0 (MQ below (zQc Γ (zpv (fun G' => zsm [2021, 2022, 2023] G G' ∧ TO Γ (Γ.2.1 w 0) G G' ∧ True))) args s 0 0 (zA Γ)) 0 [some (zr 3 w), some (zi a), some (zi b)] [] G
  refine zs_loc 1 rfl (fun ha1 hb1 => ?_)
  refine zs_loc 2 rfl (fun ha2 hb2 => ?_)
  refine zs_aload_n (pc := 0) C dX2_take_0 rfl ?_
  refine zs_getf (pc := 1) C dX2_take_1 w_X2_15 f_3_2 (by decide) ?_
  refine zs_aload_n (pc := 4) C dX2_take_4 rfl ?_
  refine zs_geti (r := 306) (pc := 5) C dX2_take_5 w_X2_37 f_3_6 rfl (r_306 0) (fun v5 e5 l5 u5 => ?_)
  refine zs_iload_n (pc := 8) C dX2_take_8 rfl ?_
  refine zs_iast (r := 2021) (pc := 9) C dX2_take_9 a_21 (by decide) (by omega) rfl (r_2021 _) (by omega) ?_
  refine zs_aload_n (pc := 10) C dX2_take_10 rfl ?_
  refine zs_getf (pc := 11) C dX2_take_11 w_X2_18 f_3_3 (by decide) ?_
  refine zs_aload_n (pc := 14) C dX2_take_14 rfl ?_
  refine zs_geti (r := 306) (pc := 15) C dX2_take_15 w_X2_37 f_3_6 rfl (r_306 0) (fun v15 e15 l15 u15 => ?_)
  try simp only [zuI_1, zuI_2, zuJ_1, zuJ_2, zuJ_3, zuP_1, zuP_2, zuP_3, zuC_1, zuC_2, reduceIte, Nat.reduceEqDiff, false_and, and_false, true_and, and_true, and_self, or_true, true_or, or_false, false_or] at e15
  refine zs_iload_n (pc := 18) C dX2_take_18 rfl ?_
  refine zs_iast (r := 2022) (pc := 19) C dX2_take_19 a_22 (by decide) (by omega) rfl (r_2022 _) (by omega) ?_
  refine zs_aload_n (pc := 20) C dX2_take_20 rfl ?_
  refine zs_getf (pc := 21) C dX2_take_21 w_X2_24 f_3_5 (by decide) ?_
  refine zs_iconst (pc := 24) C dX2_take_24 (by decide) ?_
  refine zs_aload_n (pc := 25) C dX2_take_25 rfl ?_
  refine zs_getf (pc := 26) C dX2_take_26 w_X2_21 f_3_4 (by decide) ?_
  refine zs_aload_n (pc := 29) C dX2_take_29 rfl ?_
  refine zs_geti (r := 306) (pc := 30) C dX2_take_30 w_X2_37 f_3_6 rfl (r_306 0) (fun v30 e30 l30 u30 => ?_)
  try simp only [zuI_1, zuI_2, zuJ_1, zuJ_2, zuJ_3, zuP_1, zuP_2, zuP_3, zuC_1, zuC_2, reduceIte, Nat.reduceEqDiff, false_and, and_false, true_and, and_true, and_self, or_true, true_or, or_false, false_or] at e30
  refine zs_iconst (pc := 33) C dX2_take_33 (by decide) ?_
  first | refine zs_imul (pc := 34) C dX2_take_34 (by omega) ?_ | refine zs_imulF (pc := 34) C dX2_take_34 (fun z34 hz341 hz342 => ?_)
  refine zs_iconst (pc := 35) C dX2_take_35 (by decide) ?_
  refine zs_acopy (r0 := 2024) (r1 := 2023) (pc := 36) C dX2_take_36 ac_X2_136 a_24 a_23 (by decide) (by decide) (by omega) (by omega) (by omega) (by omega) (by omega) rfl rfl (fun i j => Or.inl (by rw [r_2024, r_2023]; decide)) (by decide) (Nat.le_of_ble_eq_true rfl) ?_
  exact zs_vret (pc := 39) C hr hlk dX2_take_39 ⟨by repeat (first | exact zsm_rf | assumption | refine zsm_C (by decide) ?_ | refine zsm_I (by decide) ?_ | refine zsm_J ?_ | refine zsm_c (by assumption) (by decide) ?_), (by with_reducible repeat (first | exact TO_rf | assumption | refine TO_o (by decide) ?_ | refine TO_C (by decide) ?_ | refine TO_t (by assumption) ?_ | apply TOw_510 | apply TOw_2026 | apply TOw_2027 | apply TOw_2028 | apply TOw_2029 | apply TOw_2030 | apply TOw_2031 | apply TOw_2032 | apply TOw_2033 | apply TOw_2034 | apply TOw_2035 | apply TOw_2048 | apply TOw_2049 | apply TOw_2050 | apply TOw_2051 | apply TOw_2052 | apply TOw_2053 | apply TOw_2054 | apply TOw_809 | apply TOw_810 | apply TOw_811 | apply TOw_812 | apply TOw_813 | apply TO_J | refine TO_m (by assumption) (by decide) ?_)), trivial⟩

set_option maxHeartbeats 4000000 in
set_option maxRecDepth 100000 in
theorem c_X2_stepU_s {l : Launch} {Γ : zΓ} {G : zH} {w : Nat} {a b q : Int} (d : Nat) (hX : zXs Γ) (hih : ∀ {G : zH} {w : Nat} {a b q : Int}, (0 ≤ a ∧ a ≤ 4 ∧ 4 < a + d) → zMet l Γ yX2_seek cX2_seek 6 none (7 + 2 * d) [zr 3 w, zi a, zi b, zi q] G (zpv (fun G' => zsm [510, 810, 811, 2021, 2022, 2023, 2024, 2026, 2027, 2028, 2029, 2030, 2031, 2032, 2033, 2034, 2035, 2048, 2049, 2050, 2051, 2052] G G' ∧ TO Γ (Γ.2.1 w 0) G G' ∧ True))) (hp : 0 ≤ a ∧ a ≤ 3 ∧ 3 < a + d) : zMet l Γ yX2_step cX2_step 8 none (7 + 2 * d + 1) [zr 3 w, zi a, zi b, zi q] G (zpv (fun G' => zsm [510, 810, 811, 2021, 2022, 2023, 2024, 2026, 2027, 2028, 2029, 2030, 2031, 2032, 2033, 2034, 2035, 2048, 2049, 2050, 2051, 2052] G G' ∧ TO Γ (Γ.2.1 w 0) G G' ∧ True)) := by
  refine zMet_of RX2 hX (by decide) rfl (Nat.le_of_ble_eq_true rfl) ?_
  intro p e s m args below meth c C hr hlk
  show Z p l e (zrm (7 + 2 * d + 1)) s m args below meth c Γ 8 0 0 (MQ below (zQc Γ (zpv (fun G' => zsm [510, 810, 811, 2021, 2022, 2023, 2024, 2026, 2027, 2028, 2029, 2030, 2031, 2032, 2033, 2034, 2035, 2048, 2049, 2050, 2051, 2052] G G' ∧ TO Γ (Γ.2.1 w 0) G G' ∧ True))) args s 0 0 (zA Γ)) 0 [some (zr 3 w), some (zi a), some (zi b), some (zi q), none, none, none, none] [] G
  refine zs_loc 1 rfl (fun ha1 hb1 => ?_)
  refine zs_loc 2 rfl (fun ha2 hb2 => ?_)
  refine zs_loc 3 rfl (fun ha3 hb3 => ?_)
  refine zs_aload_n (pc := 0) C dX2_step_0 rfl ?_
  refine zs_getf (pc := 1) C dX2_step_1 w_X2_24 f_3_5 (by decide) ?_
  refine zs_iload_n (pc := 4) C dX2_step_4 rfl ?_
  refine zs_iald (r := 2024) (pc := 5) C dX2_step_5 a_24 (by decide) (by omega) rfl (r_2024 _) (fun v5 e5 l5 u5 => ?_)
  refine zs_iconst (pc := 6) C dX2_step_6 (by decide) ?_
  first | refine zs_idiv (pc := 7) C dX2_step_7 (by omega) (by omega) (fun hz71 hz72 => ?_) | refine zs_idivF (pc := 7) C dX2_step_7 (by omega) (fun z7 hz71 hz72 => ?_)
  refine zs_istore (pc := 8) C dX2_step_8 (by decide) ?_
  dsimp only [zset, zclr, znone]
  refine zs_aload_n (pc := 10) C dX2_step_10 rfl ?_
  refine zs_getf (pc := 11) C dX2_step_11 w_X2_24 f_3_5 (by decide) ?_
  refine zs_iload_n (pc := 14) C dX2_step_14 rfl ?_
  refine zs_iald (r := 2024) (pc := 15) C dX2_step_15 a_24 (by decide) (by omega) rfl (r_2024 _) (fun v15 e15 l15 u15 => ?_)
  refine zs_iconst (pc := 16) C dX2_step_16 (by decide) ?_
  first | refine zs_irem (pc := 17) C dX2_step_17 (by omega) (by omega) (fun hz171 hz172 => ?_) | refine zs_iremF (pc := 17) C dX2_step_17 (by omega) (fun z17 hz171 hz172 => ?_)
  refine zs_istore (pc := 18) C dX2_step_18 (by decide) ?_
  dsimp only [zset, zclr, znone]
  refine zs_aload_n (pc := 20) C dX2_step_20 rfl ?_
  refine zs_getf (pc := 21) C dX2_step_21 w_X2_27 f_3_0 (by decide) ?_
  refine zVip0 (pc := 24) C dX2_step_24 v_X2_107 (c_X7_portion hX ) (by decide) (by simp only [zrm]; omega) ⟨Nat.zero_le _, Nat.zero_le _⟩ (Nat.le_of_ble_eq_true rfl) (fun x24 l24 u24 hp24 => ?_)
  have hq24 := hp24
  refine zs_istore (pc := 27) C dX2_step_27 (by decide) ?_
  dsimp only [zset, zclr, znone]
  refine zs_aload_n (pc := 29) C dX2_step_29 rfl ?_
  refine zs_getf (pc := 30) C dX2_step_30 w_X2_27 f_3_0 (by decide) ?_
  refine zVip0 (pc := 33) C dX2_step_33 v_X2_111 (c_X7_canGrind hX ) (by decide) (by simp only [zrm]; omega) ⟨Nat.zero_le _, Nat.zero_le _⟩ (Nat.le_of_ble_eq_true rfl) (fun x33 l33 u33 hp33 => ?_)
  have hq33 := hp33
  refine zs_if_eq (tgt := 50) (pc := 36) C dX2_step_36 (by decide) (fun h36 => ?_) (fun h36 => ?_)
  · skip
    exact zs_vret (pc := 50) C hr hlk dX2_step_50 ⟨by repeat (first | exact zsm_rf | assumption | refine zsm_C (by decide) ?_ | refine zsm_I (by decide) ?_ | refine zsm_J ?_ | refine zsm_c (by assumption) (by decide) ?_), (by with_reducible repeat (first | exact TO_rf | assumption | refine TO_o (by decide) ?_ | refine TO_C (by decide) ?_ | refine TO_t (by assumption) ?_ | apply TOw_510 | apply TOw_2026 | apply TOw_2027 | apply TOw_2028 | apply TOw_2029 | apply TOw_2030 | apply TOw_2031 | apply TOw_2032 | apply TOw_2033 | apply TOw_2034 | apply TOw_2035 | apply TOw_2048 | apply TOw_2049 | apply TOw_2050 | apply TOw_2051 | apply TOw_2052 | apply TOw_2053 | apply TOw_2054 | apply TOw_809 | apply TOw_810 | apply TOw_811 | apply TOw_812 | apply TOw_813 | apply TO_J | refine TO_m (by assumption) (by decide) ?_)), trivial⟩
  · skip
    refine zs_aload_n (pc := 39) C dX2_step_39 rfl ?_
    refine zs_iload_n (pc := 40) C dX2_step_40 rfl ?_
    refine zs_iload_n (pc := 41) C dX2_step_41 rfl ?_
    refine zs_iconst (pc := 42) C dX2_step_42 (by decide) ?_
    first | refine zs_iadd (pc := 43) C dX2_step_43 (by omega) ?_ | refine zs_iaddF (pc := 43) C dX2_step_43 (fun z43 hz431 hz432 => ?_)
    refine zVip2 (pc := 44) C dX2_step_44 v_X2_98 (c_X2_isBetter hX ) (by decide) (by simp only [zrm]; omega) ⟨Nat.zero_le _, Nat.zero_le _⟩ (Nat.le_of_ble_eq_true rfl) (fun x44 l44 u44 hp44 => ?_)
    have hq44 := hp44
    refine zs_if_ne (tgt := 51) (pc := 47) C dX2_step_47 (by decide) (fun h47 => ?_) (fun h47 => ?_)
    · skip
      refine zs_aload_n (pc := 51) C dX2_step_51 rfl ?_
      refine zs_getf (pc := 52) C dX2_step_52 w_X2_27 f_3_0 (by decide) ?_
      refine zs_iload (pc := 55) C dX2_step_55 rfl ?_
      refine zs_iload (pc := 57) C dX2_step_57 rfl ?_
      refine zVi2 (pc := 59) C dX2_step_59 v_X2_115 (c_X7_fineOf hX (by omega) (by omega)) (by decide) (by simp only [zrm]; omega) ⟨Nat.zero_le _, Nat.zero_le _⟩ (Nat.le_of_ble_eq_true rfl) (fun x59 G59 l59 u59 hp59 => ?_)
      obtain ⟨hz59, hq59⟩ := hp59
      refine zs_aload_n (pc := 62) C dX2_step_62 rfl ?_
      refine zs_geti (r := 307) (pc := 63) C dX2_step_63 w_X2_56 f_3_7 rfl (r_307 0) (fun v63 e63 l63 u63 => ?_)
      refine zs_icmp_lt (tgt := 76) (pc := 66) C dX2_step_66 (by decide) (fun h66 => ?_) (fun h66 => ?_)
      · skip
        refine zs_iload_n (pc := 76) C dX2_step_76 rfl ?_
        refine zs_istore (pc := 77) C dX2_step_77 (by decide) ?_
        dsimp only [zset, zclr, znone]
        refine zs_iload (pc := 79) C dX2_step_79 rfl ?_
        refine zs_if_gt (tgt := 95) (pc := 81) C dX2_step_81 (by decide) (fun h81 => ?_) (fun h81 => ?_)
        · skip
          refine zs_aload_n (pc := 95) C dX2_step_95 rfl ?_
          refine zs_getf (pc := 96) C dX2_step_96 w_X2_27 f_3_0 (by decide) ?_
          refine zs_geti (r := 810) (pc := 99) C dX2_step_99 w_X2_118 f_8_10 rfl (r_810 0) (fun v99 e99 l99 u99 => ?_)
          refine zs_iload (pc := 102) C dX2_step_102 rfl ?_
          first | refine zs_isub (pc := 104) C dX2_step_104 (by omega) ?_ | refine zs_isubF (pc := 104) C dX2_step_104 (fun z104 hz1041 hz1042 => ?_)
          refine zs_iload (pc := 105) C dX2_step_105 rfl ?_
          refine zs_icmp_lt (tgt := 152) (pc := 107) C dX2_step_107 (by decide) (fun h107 => ?_) (fun h107 => ?_)
          · skip
            exact zs_vret (pc := 152) C hr hlk dX2_step_152 ⟨by repeat (first | exact zsm_rf | assumption | refine zsm_C (by decide) ?_ | refine zsm_I (by decide) ?_ | refine zsm_J ?_ | refine zsm_c (by assumption) (by decide) ?_), (by with_reducible repeat (first | exact TO_rf | assumption | refine TO_o (by decide) ?_ | refine TO_C (by decide) ?_ | refine TO_t (by assumption) ?_ | apply TOw_510 | apply TOw_2026 | apply TOw_2027 | apply TOw_2028 | apply TOw_2029 | apply TOw_2030 | apply TOw_2031 | apply TOw_2032 | apply TOw_2033 | apply TOw_2034 | apply TOw_2035 | apply TOw_2048 | apply TOw_2049 | apply TOw_2050 | apply TOw_2051 | apply TOw_2052 | apply TOw_2053 | apply TOw_2054 | apply TOw_809 | apply TOw_810 | apply TOw_811 | apply TOw_812 | apply TOw_813 | apply TO_J | refine TO_m (by assumption) (by decide) ?_)), trivial⟩
          · skip
            refine zs_aload_n (pc := 110) C dX2_step_110 rfl ?_
            refine zs_iload_n (pc := 111) C dX2_step_111 rfl ?_
            refine zs_iconst (pc := 112) C dX2_step_112 (by decide) ?_
            first | refine zs_iadd (pc := 113) C dX2_step_113 (by omega) ?_ | refine zs_iaddF (pc := 113) C dX2_step_113 (fun z113 hz1131 hz1132 => ?_)
            refine zs_iload_n (pc := 114) C dX2_step_114 rfl ?_
            refine zs_iload (pc := 115) C dX2_step_115 rfl ?_
            refine zVip3 (pc := 117) C dX2_step_117 v_X2_76 (c_X2_isHopeful hX ) (by decide) (by simp only [zrm]; omega) ⟨Nat.zero_le _, Nat.zero_le _⟩ (Nat.le_of_ble_eq_true rfl) (fun x117 l117 u117 hp117 => ?_)
            have hq117 := hp117
            refine zs_if_eq (tgt := 152) (pc := 120) C dX2_step_120 (by decide) (fun h120 => ?_) (fun h120 => ?_)
            · skip
              exact zs_vret (pc := 152) C hr hlk dX2_step_152 ⟨by repeat (first | exact zsm_rf | assumption | refine zsm_C (by decide) ?_ | refine zsm_I (by decide) ?_ | refine zsm_J ?_ | refine zsm_c (by assumption) (by decide) ?_), (by with_reducible repeat (first | exact TO_rf | assumption | refine TO_o (by decide) ?_ | refine TO_C (by decide) ?_ | refine TO_t (by assumption) ?_ | apply TOw_510 | apply TOw_2026 | apply TOw_2027 | apply TOw_2028 | apply TOw_2029 | apply TOw_2030 | apply TOw_2031 | apply TOw_2032 | apply TOw_2033 | apply TOw_2034 | apply TOw_2035 | apply TOw_2048 | apply TOw_2049 | apply TOw_2050 | apply TOw_2051 | apply TOw_2052 | apply TOw_2053 | apply TOw_2054 | apply TOw_809 | apply TOw_810 | apply TOw_811 | apply TOw_812 | apply TOw_813 | apply TO_J | refine TO_m (by assumption) (by decide) ?_)), trivial⟩
            · skip
              refine zs_aload_n (pc := 123) C dX2_step_123 rfl ?_
              refine zs_getf (pc := 124) C dX2_step_124 w_X2_27 f_3_0 (by decide) ?_
              refine zs_iload (pc := 127) C dX2_step_127 rfl ?_
              refine zs_iload (pc := 129) C dX2_step_129 rfl ?_
              refine zs_iconst (pc := 131) C dX2_step_131 (by decide) ?_
              refine zVv3 (pc := 132) C dX2_step_132 v_X2_121 (c_X7_grindOneU hX (by omega) (by omega)) (by decide) (by simp only [zrm]; omega) ⟨Nat.zero_le _, Nat.zero_le _⟩ (Nat.le_of_ble_eq_true rfl) (fun G132 hp132 => ?_)
              obtain ⟨hz132, lo132, hq132⟩ := hp132
              refine zs_aload_n (pc := 135) C dX2_step_135 rfl ?_
              refine zs_iload_n (pc := 136) C dX2_step_136 rfl ?_
              refine zs_iconst (pc := 137) C dX2_step_137 (by decide) ?_
              first | refine zs_iadd (pc := 138) C dX2_step_138 (by omega) ?_ | refine zs_iaddF (pc := 138) C dX2_step_138 (fun z138 hz1381 hz1382 => ?_)
              refine zs_iload_n (pc := 139) C dX2_step_139 rfl ?_
              refine zs_iload (pc := 140) C dX2_step_140 rfl ?_
              refine zVv3 (pc := 142) C dX2_step_142 v_X2_80 (hih (by omega)) (by decide) (by simp only [zrm]; omega) ⟨Nat.zero_le _, Nat.zero_le _⟩ (Nat.le_of_ble_eq_true rfl) (fun G142 hp142 => ?_)
              obtain ⟨hz142, lo142, hq142⟩ := hp142
              refine zs_aload_n (pc := 145) C dX2_step_145 rfl ?_
              refine zs_getf (pc := 146) C dX2_step_146 w_X2_27 f_3_0 (by decide) ?_
              refine zVv0 (pc := 149) C dX2_step_149 v_X2_125 (c_X7_ungrindU hX ) (by decide) (by simp only [zrm]; omega) ⟨Nat.zero_le _, Nat.zero_le _⟩ (Nat.le_of_ble_eq_true rfl) (fun G149 hp149 => ?_)
              obtain ⟨hz149, lo149, hq149⟩ := hp149
              exact zs_vret (pc := 152) C hr hlk dX2_step_152 ⟨by repeat (first | exact zsm_rf | assumption | refine zsm_C (by decide) ?_ | refine zsm_I (by decide) ?_ | refine zsm_J ?_ | refine zsm_c (by assumption) (by decide) ?_), (by with_reducible repeat (first | exact TO_rf | assumption | refine TO_o (by decide) ?_ | refine TO_C (by decide) ?_ | refine TO_t (by assumption) ?_ | apply TOw_510 | apply TOw_2026 | apply TOw_2027 | apply TOw_2028 | apply TOw_2029 | apply TOw_2030 | apply TOw_2031 | apply TOw_2032 | apply TOw_2033 | apply TOw_2034 | apply TOw_2035 | apply TOw_2048 | apply TOw_2049 | apply TOw_2050 | apply TOw_2051 | apply TOw_2052 | apply TOw_2053 | apply TOw_2054 | apply TOw_809 | apply TOw_810 | apply TOw_811 | apply TOw_812 | apply TOw_813 | apply TO_J | refine TO_m (by assumption) (by decide) ?_)), trivial⟩
        · skip
          refine zs_aload_n (pc := 84) C dX2_step_84 rfl ?_
          refine zs_iload_n (pc := 85) C dX2_step_85 rfl ?_
          refine zs_iconst (pc := 86) C dX2_step_86 (by decide) ?_
          first | refine zs_iadd (pc := 87) C dX2_step_87 (by omega) ?_ | refine zs_iaddF (pc := 87) C dX2_step_87 (fun z87 hz871 hz872 => ?_)
          refine zs_iload_n (pc := 88) C dX2_step_88 rfl ?_
          refine zVv2 (pc := 89) C dX2_step_89 v_X2_72 (c_X2_takeU hX ) (by decide) (by simp only [zrm]; omega) ⟨Nat.zero_le _, Nat.zero_le _⟩ (Nat.le_of_ble_eq_true rfl) (fun G89 hp89 => ?_)
          obtain ⟨hz89, lo89, hq89⟩ := hp89
          refine zs_goto (tgt := 152) (pc := 92) C dX2_step_92 (by decide) ?_
          exact zs_vret (pc := 152) C hr hlk dX2_step_152 ⟨by repeat (first | exact zsm_rf | assumption | refine zsm_C (by decide) ?_ | refine zsm_I (by decide) ?_ | refine zsm_J ?_ | refine zsm_c (by assumption) (by decide) ?_), (by with_reducible repeat (first | exact TO_rf | assumption | refine TO_o (by decide) ?_ | refine TO_C (by decide) ?_ | refine TO_t (by assumption) ?_ | apply TOw_510 | apply TOw_2026 | apply TOw_2027 | apply TOw_2028 | apply TOw_2029 | apply TOw_2030 | apply TOw_2031 | apply TOw_2032 | apply TOw_2033 | apply TOw_2034 | apply TOw_2035 | apply TOw_2048 | apply TOw_2049 | apply TOw_2050 | apply TOw_2051 | apply TOw_2052 | apply TOw_2053 | apply TOw_2054 | apply TOw_809 | apply TOw_810 | apply TOw_811 | apply TOw_812 | apply TOw_813 | apply TO_J | refine TO_m (by assumption) (by decide) ?_)), trivial⟩
      · skip
        refine zs_iload_n (pc := 69) C dX2_step_69 rfl ?_
        refine zs_iload (pc := 70) C dX2_step_70 rfl ?_
        first | refine zs_isub (pc := 72) C dX2_step_72 (by omega) ?_ | refine zs_isubF (pc := 72) C dX2_step_72 (fun z72 hz721 hz722 => ?_)
        refine zs_goto (tgt := 77) (pc := 73) C dX2_step_73 (by decide) ?_
        refine zs_istore (pc := 77) C dX2_step_77 (by decide) ?_
        dsimp only [zset, zclr, znone]
        refine zs_iload (pc := 79) C dX2_step_79 rfl ?_
        refine zs_if_gt (tgt := 95) (pc := 81) C dX2_step_81 (by decide) (fun h81 => ?_) (fun h81 => ?_)
        · skip
          refine zs_aload_n (pc := 95) C dX2_step_95 rfl ?_
          refine zs_getf (pc := 96) C dX2_step_96 w_X2_27 f_3_0 (by decide) ?_
          refine zs_geti (r := 810) (pc := 99) C dX2_step_99 w_X2_118 f_8_10 rfl (r_810 0) (fun v99 e99 l99 u99 => ?_)
          refine zs_iload (pc := 102) C dX2_step_102 rfl ?_
          first | refine zs_isub (pc := 104) C dX2_step_104 (by omega) ?_ | refine zs_isubF (pc := 104) C dX2_step_104 (fun z104 hz1041 hz1042 => ?_)
          refine zs_iload (pc := 105) C dX2_step_105 rfl ?_
          refine zs_icmp_lt (tgt := 152) (pc := 107) C dX2_step_107 (by decide) (fun h107 => ?_) (fun h107 => ?_)
          · skip
            exact zs_vret (pc := 152) C hr hlk dX2_step_152 ⟨by repeat (first | exact zsm_rf | assumption | refine zsm_C (by decide) ?_ | refine zsm_I (by decide) ?_ | refine zsm_J ?_ | refine zsm_c (by assumption) (by decide) ?_), (by with_reducible repeat (first | exact TO_rf | assumption | refine TO_o (by decide) ?_ | refine TO_C (by decide) ?_ | refine TO_t (by assumption) ?_ | apply TOw_510 | apply TOw_2026 | apply TOw_2027 | apply TOw_2028 | apply TOw_2029 | apply TOw_2030 | apply TOw_2031 | apply TOw_2032 | apply TOw_2033 | apply TOw_2034 | apply TOw_2035 | apply TOw_2048 | apply TOw_2049 | apply TOw_2050 | apply TOw_2051 | apply TOw_2052 | apply TOw_2053 | apply TOw_2054 | apply TOw_809 | apply TOw_810 | apply TOw_811 | apply TOw_812 | apply TOw_813 | apply TO_J | refine TO_m (by assumption) (by decide) ?_)), trivial⟩
          · skip
            refine zs_aload_n (pc := 110) C dX2_step_110 rfl ?_
            refine zs_iload_n (pc := 111) C dX2_step_111 rfl ?_
            refine zs_iconst (pc := 112) C dX2_step_112 (by decide) ?_
            first | refine zs_iadd (pc := 113) C dX2_step_113 (by omega) ?_ | refine zs_iaddF (pc := 113) C dX2_step_113 (fun z113 hz1131 hz1132 => ?_)
            refine zs_iload_n (pc := 114) C dX2_step_114 rfl ?_
            refine zs_iload (pc := 115) C dX2_step_115 rfl ?_
            refine zVip3 (pc := 117) C dX2_step_117 v_X2_76 (c_X2_isHopeful hX ) (by decide) (by simp only [zrm]; omega) ⟨Nat.zero_le _, Nat.zero_le _⟩ (Nat.le_of_ble_eq_true rfl) (fun x117 l117 u117 hp117 => ?_)
            have hq117 := hp117
            refine zs_if_eq (tgt := 152) (pc := 120) C dX2_step_120 (by decide) (fun h120 => ?_) (fun h120 => ?_)
            · skip
              exact zs_vret (pc := 152) C hr hlk dX2_step_152 ⟨by repeat (first | exact zsm_rf | assumption | refine zsm_C (by decide) ?_ | refine zsm_I (by decide) ?_ | refine zsm_J ?_ | refine zsm_c (by assumption) (by decide) ?_), (by with_reducible repeat (first | exact TO_rf | assumption | refine TO_o (by decide) ?_ | refine TO_C (by decide) ?_ | refine TO_t (by assumption) ?_ | apply TOw_510 | apply TOw_2026 | apply TOw_2027 | apply TOw_2028 | apply TOw_2029 | apply TOw_2030 | apply TOw_2031 | apply TOw_2032 | apply TOw_2033 | apply TOw_2034 | apply TOw_2035 | apply TOw_2048 | apply TOw_2049 | apply TOw_2050 | apply TOw_2051 | apply TOw_2052 | apply TOw_2053 | apply TOw_2054 | apply TOw_809 | apply TOw_810 | apply TOw_811 | apply TOw_812 | apply TOw_813 | apply TO_J | refine TO_m (by assumption) (by decide) ?_)), trivial⟩
            · skip
              refine zs_aload_n (pc := 123) C dX2_step_123 rfl ?_
              refine zs_getf (pc := 124) C dX2_step_124 w_X2_27 f_3_0 (by decide) ?_
              refine zs_iload (pc := 127) C dX2_step_127 rfl ?_
              refine zs_iload (pc := 129) C dX2_step_129 rfl ?_
              refine zs_iconst (pc := 131) C dX2_step_131 (by decide) ?_
              refine zVv3 (pc := 132) C dX2_step_132 v_X2_121 (c_X7_grindOneU hX (by omega) (by omega)) (by decide) (by simp only [zrm]; omega) ⟨Nat.zero_le _, Nat.zero_le _⟩ (Nat.le_of_ble_eq_true rfl) (fun G132 hp132 => ?_)
              obtain ⟨hz132, lo132, hq132⟩ := hp132
              refine zs_aload_n (pc := 135) C dX2_step_135 rfl ?_
              refine zs_iload_n (pc := 136) C dX2_step_136 rfl ?_
              refine zs_iconst (pc := 137) C dX2_step_137 (by decide) ?_
              first | refine zs_iadd (pc := 138) C dX2_step_138 (by omega) ?_ | refine zs_iaddF (pc := 138) C dX2_step_138 (fun z138 hz1381 hz1382 => ?_)
              refine zs_iload_n (pc := 139) C dX2_step_139 rfl ?_
              refine zs_iload (pc := 140) C dX2_step_140 rfl ?_
              refine zVv3 (pc := 142) C dX2_step_142 v_X2_80 (hih (by omega)) (by decide) (by simp only [zrm]; omega) ⟨Nat.zero_le _, Nat.zero_le _⟩ (Nat.le_of_ble_eq_true rfl) (fun G142 hp142 => ?_)
              obtain ⟨hz142, lo142, hq142⟩ := hp142
              refine zs_aload_n (pc := 145) C dX2_step_145 rfl ?_
              refine zs_getf (pc := 146) C dX2_step_146 w_X2_27 f_3_0 (by decide) ?_
              refine zVv0 (pc := 149) C dX2_step_149 v_X2_125 (c_X7_ungrindU hX ) (by decide) (by simp only [zrm]; omega) ⟨Nat.zero_le _, Nat.zero_le _⟩ (Nat.le_of_ble_eq_true rfl) (fun G149 hp149 => ?_)
              obtain ⟨hz149, lo149, hq149⟩ := hp149
              exact zs_vret (pc := 152) C hr hlk dX2_step_152 ⟨by repeat (first | exact zsm_rf | assumption | refine zsm_C (by decide) ?_ | refine zsm_I (by decide) ?_ | refine zsm_J ?_ | refine zsm_c (by assumption) (by decide) ?_), (by with_reducible repeat (first | exact TO_rf | assumption | refine TO_o (by decide) ?_ | refine TO_C (by decide) ?_ | refine TO_t (by assumption) ?_ | apply TOw_510 | apply TOw_2026 | apply TOw_2027 | apply TOw_2028 | apply TOw_2029 | apply TOw_2030 | apply TOw_2031 | apply TOw_2032 | apply TOw_2033 | apply TOw_2034 | apply TOw_2035 | apply TOw_2048 | apply TOw_2049 | apply TOw_2050 | apply TOw_2051 | apply TOw_2052 | apply TOw_2053 | apply TOw_2054 | apply TOw_809 | apply TOw_810 | apply TOw_811 | apply TOw_812 | apply TOw_813 | apply TO_J | refine TO_m (by assumption) (by decide) ?_)), trivial⟩
        · skip
          refine zs_aload_n (pc := 84) C dX2_step_84 rfl ?_
          refine zs_iload_n (pc := 85) C dX2_step_85 rfl ?_
          refine zs_iconst (pc := 86) C dX2_step_86 (by decide) ?_
          first | refine zs_iadd (pc := 87) C dX2_step_87 (by omega) ?_ | refine zs_iaddF (pc := 87) C dX2_step_87 (fun z87 hz871 hz872 => ?_)
          refine zs_iload_n (pc := 88) C dX2_step_88 rfl ?_
          refine zVv2 (pc := 89) C dX2_step_89 v_X2_72 (c_X2_takeU hX ) (by decide) (by simp only [zrm]; omega) ⟨Nat.zero_le _, Nat.zero_le _⟩ (Nat.le_of_ble_eq_true rfl) (fun G89 hp89 => ?_)
          obtain ⟨hz89, lo89, hq89⟩ := hp89
          refine zs_goto (tgt := 152) (pc := 92) C dX2_step_92 (by decide) ?_
          exact zs_vret (pc := 152) C hr hlk dX2_step_152 ⟨by repeat (first | exact zsm_rf | assumption | refine zsm_C (by decide) ?_ | refine zsm_I (by decide) ?_ | refine zsm_J ?_ | refine zsm_c (by assumption) (by decide) ?_), (by with_reducible repeat (first | exact TO_rf | assumption | refine TO_o (by decide) ?_ | refine TO_C (by decide) ?_ | refine TO_t (by assumption) ?_ | apply TOw_510 | apply TOw_2026 | apply TOw_2027 | apply TOw_2028 | apply TOw_2029 | apply TOw_2030 | apply TOw_2031 | apply TOw_2032 | apply TOw_2033 | apply TOw_2034 | apply TOw_2035 | apply TOw_2048 | apply TOw_2049 | apply TOw_2050 | apply TOw_2051 | apply TOw_2052 | apply TOw_2053 | apply TOw_2054 | apply TOw_809 | apply TOw_810 | apply TOw_811 | apply TOw_812 | apply TOw_813 | apply TO_J | refine TO_m (by assumption) (by decide) ?_)), trivial⟩
    · skip
      exact zs_vret (pc := 50) C hr hlk dX2_step_50 ⟨by repeat (first | exact zsm_rf | assumption | refine zsm_C (by decide) ?_ | refine zsm_I (by decide) ?_ | refine zsm_J ?_ | refine zsm_c (by assumption) (by decide) ?_), (by with_reducible repeat (first | exact TO_rf | assumption | refine TO_o (by decide) ?_ | refine TO_C (by decide) ?_ | refine TO_t (by assumption) ?_ | apply TOw_510 | apply TOw_2026 | apply TOw_2027 | apply TOw_2028 | apply TOw_2029 | apply TOw_2030 | apply TOw_2031 | apply TOw_2032 | apply TOw_2033 | apply TOw_2034 | apply TOw_2035 | apply TOw_2048 | apply TOw_2049 | apply TOw_2050 | apply TOw_2051 | apply TOw_2052 | apply TOw_2053 | apply TOw_2054 | apply TOw_809 | apply TOw_810 | apply TOw_811 | apply TOw_812 | apply TOw_813 | apply TO_J | refine TO_m (by assumption) (by decide) ?_)), trivial⟩

set_option maxHeartbeats 4000000 in
set_option maxRecDepth 100000 in
theorem c_X2_seekU_s {l : Launch} {Γ : zΓ} {G : zH} {w : Nat} {a b q : Int} (d : Nat) (hX : zXs Γ) (hih : ∀ {G : zH} {w : Nat} {a b q : Int}, (0 ≤ a ∧ a ≤ 3 ∧ 3 < a + d) → zMet l Γ yX2_step cX2_step 8 none (7 + 2 * d + 1) [zr 3 w, zi a, zi b, zi q] G (zpv (fun G' => zsm [510, 810, 811, 2021, 2022, 2023, 2024, 2026, 2027, 2028, 2029, 2030, 2031, 2032, 2033, 2034, 2035, 2048, 2049, 2050, 2051, 2052] G G' ∧ TO Γ (Γ.2.1 w 0) G G' ∧ True))) (hp : 0 ≤ a ∧ a ≤ 4 ∧ 4 < a + (d + 1)) : zMet l Γ yX2_seek cX2_seek 6 none (7 + 2 * (d + 1)) [zr 3 w, zi a, zi b, zi q] G (zpv (fun G' => zsm [510, 810, 811, 2021, 2022, 2023, 2024, 2026, 2027, 2028, 2029, 2030, 2031, 2032, 2033, 2034, 2035, 2048, 2049, 2050, 2051, 2052] G G' ∧ TO Γ (Γ.2.1 w 0) G G' ∧ True)) := by
  refine zMet_of RX2 hX (by decide) rfl (Nat.le_of_ble_eq_true rfl) ?_
  intro p e s m args below meth c C hr hlk
  show Z p l e (zrm (7 + 2 * (d + 1))) s m args below meth c Γ 6 0 0 (MQ below (zQc Γ (zpv (fun G' => zsm [510, 810, 811, 2021, 2022, 2023, 2024, 2026, 2027, 2028, 2029, 2030, 2031, 2032, 2033, 2034, 2035, 2048, 2049, 2050, 2051, 2052] G G' ∧ TO Γ (Γ.2.1 w 0) G G' ∧ True))) args s 0 0 (zA Γ)) 0 [some (zr 3 w), some (zi a), some (zi b), some (zi q), none, none] [] G
  refine zs_loc 1 rfl (fun ha1 hb1 => ?_)
  refine zs_loc 2 rfl (fun ha2 hb2 => ?_)
  refine zs_loc 3 rfl (fun ha3 hb3 => ?_)
  refine zs_iload_n (pc := 0) C dX2_seek_0 rfl ?_
  refine zs_iconst (pc := 1) C dX2_seek_1 (by decide) ?_
  refine zs_icmp_lt (tgt := 6) (pc := 2) C dX2_seek_2 (by decide) (fun h2 => ?_) (fun h2 => ?_)
  · skip
    refine zs_iconst (pc := 6) C dX2_seek_6 (by decide) ?_
    refine zs_istore (pc := 7) C dX2_seek_7 (by decide) ?_
    dsimp only [zset, zclr, znone]
    have L9 : ∀ (nn : Nat) (x4 : Int) (G1 : zH), (0 ≤ x4 ∧ x4 ≤ 5) → (zsm [510, 810, 811, 2021, 2022, 2023, 2024, 2026, 2027, 2028, 2029, 2030, 2031, 2032, 2033, 2034, 2035, 2048, 2049, 2050, 2051, 2052] G G1) → (TO Γ (Γ.2.1 w 0) G G1) → (5 - x4).toNat < nn → Z p l e (zrm (7 + 2 * (d + 1))) s m args below meth c Γ 6 0 0 (MQ below (zQc Γ (zpv (fun G' => zsm [510, 810, 811, 2021, 2022, 2023, 2024, 2026, 2027, 2028, 2029, 2030, 2031, 2032, 2033, 2034, 2035, 2048, 2049, 2050, 2051, 2052] G G' ∧ TO Γ (Γ.2.1 w 0) G G' ∧ True))) args s 0 0 (zA Γ)) 9 [some (zr 3 w), some (zi a), some (zi b), some (zi q), some (zi x4), none] [] G1 := by
      intro nn
      induction nn with
      | zero => intro x4 G1 h9_0 h9_1 h9_2 hm; exact absurd hm (Nat.not_lt_zero _)
      | succ nn ih9 =>
        intro x4 G1 h9_0 h9_1 h9_2 hm9
        refine zs_iload (pc := 9) C dX2_seek_9 rfl ?_
        refine zs_aload_n (pc := 11) C dX2_seek_11 rfl ?_
        refine zs_getf (pc := 12) C dX2_seek_12 w_X2_27 f_3_0 (by decide) ?_
        refine zs_getd (r := 800) (pc := 15) C dX2_seek_15 w_X2_47 f_8_0 (by decide) rfl (fun v15 e15 t15 => ?_)
        try simp only [h9_1.2, zuI_1, zuI_2, zuJ_1, zuJ_2, zuJ_3, zuP_1, zuP_2, zuP_3, zuC_1, zuC_2, reduceIte, Nat.reduceEqDiff, false_and, and_false, true_and, and_true, and_self, or_true, true_or, or_false, false_or] at e15
        subst e15
        refine zs_getf (pc := 18) C dX2_seek_18 w_X2_84 f_6_2 (by decide) ?_
        refine zs_iconst (pc := 21) C dX2_seek_21 (by decide) ?_
        refine zs_iald (r := 2037) (pc := 22) C dX2_seek_22 a_37 (by decide) (by omega) rfl rfl (fun v22 e22 l22 u22 => ?_)
        have hsz := rs_2037 (1 : Int).toNat
        refine zs_icmp_ge (tgt := 153) (pc := 23) C dX2_seek_23 (by decide) (fun h23 => ?_) (fun h23 => ?_)
        · skip
          exact zs_vret (pc := 153) C hr hlk dX2_seek_153 ⟨by repeat (first | exact zsm_rf | assumption | refine zsm_C (by decide) ?_ | refine zsm_I (by decide) ?_ | refine zsm_J ?_ | refine zsm_c (by assumption) (by decide) ?_), (by with_reducible repeat (first | exact TO_rf | assumption | refine TO_o (by decide) ?_ | refine TO_C (by decide) ?_ | refine TO_t (by assumption) ?_ | apply TOw_510 | apply TOw_2026 | apply TOw_2027 | apply TOw_2028 | apply TOw_2029 | apply TOw_2030 | apply TOw_2031 | apply TOw_2032 | apply TOw_2033 | apply TOw_2034 | apply TOw_2035 | apply TOw_2048 | apply TOw_2049 | apply TOw_2050 | apply TOw_2051 | apply TOw_2052 | apply TOw_2053 | apply TOw_2054 | apply TOw_809 | apply TOw_810 | apply TOw_811 | apply TOw_812 | apply TOw_813 | apply TO_J | refine TO_m (by assumption) (by decide) ?_)), trivial⟩
        · skip
          refine zs_iconst (pc := 26) C dX2_seek_26 (by decide) ?_
          refine zs_istore (pc := 27) C dX2_seek_27 (by decide) ?_
          dsimp only [zset, zclr, znone]
          have L29 : ∀ (nn : Nat) (x5 : Int) (G2 : zH), (0 ≤ x5 ∧ x5 ≤ 4) → (zsm [510, 810, 811, 2021, 2022, 2023, 2024, 2026, 2027, 2028, 2029, 2030, 2031, 2032, 2033, 2034, 2035, 2048, 2049, 2050, 2051, 2052] G G2) → (TO Γ (Γ.2.1 w 0) G G2) → (4 - x5).toNat < nn → Z p l e (zrm (7 + 2 * (d + 1))) s m args below meth c Γ 6 0 0 (MQ below (zQc Γ (zpv (fun G' => zsm [510, 810, 811, 2021, 2022, 2023, 2024, 2026, 2027, 2028, 2029, 2030, 2031, 2032, 2033, 2034, 2035, 2048, 2049, 2050, 2051, 2052] G G' ∧ TO Γ (Γ.2.1 w 0) G G' ∧ True))) args s 0 0 (zA Γ)) 29 [some (zr 3 w), some (zi a), some (zi b), some (zi q), some (zi x4), some (zi x5)] [] G2 := by
            intro nn
            induction nn with
            | zero => intro x5 G2 h29_0 h29_1 h29_2 hm; exact absurd hm (Nat.not_lt_zero _)
            | succ nn ih29 =>
              intro x5 G2 h29_0 h29_1 h29_2 hm29
              refine zs_iload (pc := 29) C dX2_seek_29 rfl ?_
              refine zs_aload_n (pc := 31) C dX2_seek_31 rfl ?_
              refine zs_getf (pc := 32) C dX2_seek_32 w_X2_27 f_3_0 (by decide) ?_
              refine zs_getd (r := 800) (pc := 35) C dX2_seek_35 w_X2_47 f_8_0 (by decide) rfl (fun v35 e35 t35 => ?_)
              try simp only [h29_1.2, zuI_1, zuI_2, zuJ_1, zuJ_2, zuJ_3, zuP_1, zuP_2, zuP_3, zuC_1, zuC_2, reduceIte, Nat.reduceEqDiff, false_and, and_false, true_and, and_true, and_self, or_true, true_or, or_false, false_or] at e35
              subst e35
              refine zs_getf (pc := 38) C dX2_seek_38 w_X2_84 f_6_2 (by decide) ?_
              refine zs_iconst (pc := 41) C dX2_seek_41 (by decide) ?_
              refine zs_iald (r := 2037) (pc := 42) C dX2_seek_42 a_37 (by decide) (by omega) rfl rfl (fun v42 e42 l42 u42 => ?_)
              have hsz := rs_2037 (0 : Int).toNat
              refine zs_icmp_ge (tgt := 147) (pc := 43) C dX2_seek_43 (by decide) (fun h43 => ?_) (fun h43 => ?_)
              · skip
                first | refine zs_iinc (pc := 147) C dX2_seek_147 rfl (by decide) (by omega) ?_ | refine zs_iincF (pc := 147) C dX2_seek_147 rfl (by decide) (fun z147 hz1471 hz1472 => ?_)
                dsimp only [zset, zclr, znone]
                refine zs_goto (tgt := 9) (pc := 150) C dX2_seek_150 (by decide) ?_
                exact zs_wk (ih9 _ _ (by first | omega | (simp only [zuI_1, zuI_2, zuJ_1, zuJ_2, zuJ_3, zuP_1, zuP_2, zuP_3, zuC_1, zuC_2, reduceIte, Nat.reduceEqDiff, false_and, and_false, true_and, and_true, and_self, or_true, true_or, or_false, false_or]; omega)) (by repeat (first | exact zsm_rf | assumption | refine zsm_C (by decide) ?_ | refine zsm_I (by decide) ?_ | refine zsm_J ?_ | refine zsm_c (by assumption) (by decide) ?_)) (by with_reducible repeat (first | exact TO_rf | assumption | refine TO_o (by decide) ?_ | refine TO_C (by decide) ?_ | refine TO_t (by assumption) ?_ | apply TOw_510 | apply TOw_2026 | apply TOw_2027 | apply TOw_2028 | apply TOw_2029 | apply TOw_2030 | apply TOw_2031 | apply TOw_2032 | apply TOw_2033 | apply TOw_2034 | apply TOw_2035 | apply TOw_2048 | apply TOw_2049 | apply TOw_2050 | apply TOw_2051 | apply TOw_2052 | apply TOw_2053 | apply TOw_2054 | apply TOw_809 | apply TOw_810 | apply TOw_811 | apply TOw_812 | apply TOw_813 | apply TO_J | refine TO_m (by assumption) (by decide) ?_)) (by first | omega | (simp only [zuI_1, zuI_2, zuJ_1, zuJ_2, zuJ_3, zuP_1, zuP_2, zuP_3, zuC_1, zuC_2, reduceIte, Nat.reduceEqDiff, false_and, and_false, true_and, and_true, and_self, or_true, true_or, or_false, false_or]; omega))) (zwk_s rfl (zwk_s rfl (zwk_s rfl (zwk_s rfl (zwk_s rfl (zwk_n zwk_0))))))
              · skip
                refine zs_aload_n (pc := 46) C dX2_seek_46 rfl ?_
                refine zs_getf (pc := 47) C dX2_seek_47 w_X2_24 f_3_5 (by decide) ?_
                refine zs_iload_n (pc := 50) C dX2_seek_50 rfl ?_
                refine zs_iload (pc := 51) C dX2_seek_51 rfl ?_
                refine zs_iconst (pc := 53) C dX2_seek_53 (by decide) ?_
                first | refine zs_imul (pc := 54) C dX2_seek_54 (by omega) ?_ | refine zs_imulF (pc := 54) C dX2_seek_54 (fun z54 hz541 hz542 => ?_)
                refine zs_iload (pc := 55) C dX2_seek_55 rfl ?_
                first | refine zs_iadd (pc := 57) C dX2_seek_57 (by omega) ?_ | refine zs_iaddF (pc := 57) C dX2_seek_57 (fun z57 hz571 hz572 => ?_)
                refine zs_iast (r := 2024) (pc := 58) C dX2_seek_58 a_24 (by decide) (by omega) rfl (r_2024 _) (by omega) ?_
                refine zs_aload_n (pc := 59) C dX2_seek_59 rfl ?_
                refine zs_getf (pc := 60) C dX2_seek_60 w_X2_27 f_3_0 (by decide) ?_
                refine zs_iload (pc := 63) C dX2_seek_63 rfl ?_
                refine zs_iload (pc := 65) C dX2_seek_65 rfl ?_
                refine zVip2 (pc := 67) C dX2_seek_67 v_X2_87 (c_X7_leftOf hX (by first | omega | (simp only [zuI_1, zuI_2, zuJ_1, zuJ_2, zuJ_3, zuP_1, zuP_2, zuP_3, zuC_1, zuC_2, reduceIte, Nat.reduceEqDiff, false_and, and_false, true_and, and_true, and_self, or_true, true_or, or_false, false_or]; omega)) (by first | omega | (simp only [zuI_1, zuI_2, zuJ_1, zuJ_2, zuJ_3, zuP_1, zuP_2, zuP_3, zuC_1, zuC_2, reduceIte, Nat.reduceEqDiff, false_and, and_false, true_and, and_true, and_self, or_true, true_or, or_false, false_or]; omega))) (by decide) (by simp only [zrm]; omega) ⟨Nat.zero_le _, Nat.zero_le _⟩ (Nat.le_of_ble_eq_true rfl) (fun x67 l67 u67 hp67 => ?_)
                have hq67 := hp67
                try simp only [zuI_1, zuI_2, zuJ_1, zuJ_2, zuJ_3, zuP_1, zuP_2, zuP_3, zuC_1, zuC_2, reduceIte, Nat.reduceEqDiff, false_and, and_false, true_and, and_true, and_self, or_true, true_or, or_false, false_or] at hq67
                refine zs_if_le (tgt := 83) (pc := 70) C dX2_seek_70 (by decide) (fun h70 => ?_) (fun h70 => ?_)
                · skip
                  refine zs_aload_n (pc := 83) C dX2_seek_83 rfl ?_
                  refine zs_getf (pc := 84) C dX2_seek_84 w_X2_27 f_3_0 (by decide) ?_
                  refine zs_iload (pc := 87) C dX2_seek_87 rfl ?_
                  refine zs_iload (pc := 89) C dX2_seek_89 rfl ?_
                  refine zVip2 (pc := 91) C dX2_seek_91 v_X2_94 (c_X7_canFall hX (by first | omega | (simp only [zuI_1, zuI_2, zuJ_1, zuJ_2, zuJ_3, zuP_1, zuP_2, zuP_3, zuC_1, zuC_2, reduceIte, Nat.reduceEqDiff, false_and, and_false, true_and, and_true, and_self, or_true, true_or, or_false, false_or]; omega)) (by first | omega | (simp only [zuI_1, zuI_2, zuJ_1, zuJ_2, zuJ_3, zuP_1, zuP_2, zuP_3, zuC_1, zuC_2, reduceIte, Nat.reduceEqDiff, false_and, and_false, true_and, and_true, and_self, or_true, true_or, or_false, false_or]; omega))) (by decide) (by simp only [zrm]; omega) ⟨Nat.zero_le _, Nat.zero_le _⟩ (Nat.le_of_ble_eq_true rfl) (fun x91 l91 u91 hp91 => ?_)
                  have hq91 := hp91
                  try simp only [zuI_1, zuI_2, zuJ_1, zuJ_2, zuJ_3, zuP_1, zuP_2, zuP_3, zuC_1, zuC_2, reduceIte, Nat.reduceEqDiff, false_and, and_false, true_and, and_true, and_self, or_true, true_or, or_false, false_or] at hq91
                  refine zs_if_eq (tgt := 141) (pc := 94) C dX2_seek_94 (by decide) (fun h94 => ?_) (fun h94 => ?_)
                  · skip
                    first | refine zs_iinc (pc := 141) C dX2_seek_141 rfl (by decide) (by omega) ?_ | refine zs_iincF (pc := 141) C dX2_seek_141 rfl (by decide) (fun z141 hz1411 hz1412 => ?_)
                    dsimp only [zset, zclr, znone]
                    refine zs_goto (tgt := 29) (pc := 144) C dX2_seek_144 (by decide) ?_
                    exact zs_wk (ih29 _ _ (by first | omega | (simp only [zuI_1, zuI_2, zuJ_1, zuJ_2, zuJ_3, zuP_1, zuP_2, zuP_3, zuC_1, zuC_2, reduceIte, Nat.reduceEqDiff, false_and, and_false, true_and, and_true, and_self, or_true, true_or, or_false, false_or]; omega)) (by repeat (first | exact zsm_rf | assumption | refine zsm_C (by decide) ?_ | refine zsm_I (by decide) ?_ | refine zsm_J ?_ | refine zsm_c (by assumption) (by decide) ?_)) (by with_reducible repeat (first | exact TO_rf | assumption | refine TO_o (by decide) ?_ | refine TO_C (by decide) ?_ | refine TO_t (by assumption) ?_ | apply TOw_510 | apply TOw_2026 | apply TOw_2027 | apply TOw_2028 | apply TOw_2029 | apply TOw_2030 | apply TOw_2031 | apply TOw_2032 | apply TOw_2033 | apply TOw_2034 | apply TOw_2035 | apply TOw_2048 | apply TOw_2049 | apply TOw_2050 | apply TOw_2051 | apply TOw_2052 | apply TOw_2053 | apply TOw_2054 | apply TOw_809 | apply TOw_810 | apply TOw_811 | apply TOw_812 | apply TOw_813 | apply TO_J | refine TO_m (by assumption) (by decide) ?_)) (by first | omega | (simp only [zuI_1, zuI_2, zuJ_1, zuJ_2, zuJ_3, zuP_1, zuP_2, zuP_3, zuC_1, zuC_2, reduceIte, Nat.reduceEqDiff, false_and, and_false, true_and, and_true, and_self, or_true, true_or, or_false, false_or]; omega))) (zwk_s rfl (zwk_s rfl (zwk_s rfl (zwk_s rfl (zwk_s rfl (zwk_s rfl zwk_0))))))
                  · skip
                    refine zs_aload_n (pc := 97) C dX2_seek_97 rfl ?_
                    refine zs_iload_n (pc := 98) C dX2_seek_98 rfl ?_
                    refine zs_iconst (pc := 99) C dX2_seek_99 (by decide) ?_
                    first | refine zs_iadd (pc := 100) C dX2_seek_100 (by omega) ?_ | refine zs_iaddF (pc := 100) C dX2_seek_100 (fun z100 hz1001 hz1002 => ?_)
                    refine zs_iload_n (pc := 101) C dX2_seek_101 rfl ?_
                    refine zs_iconst (pc := 102) C dX2_seek_102 (by decide) ?_
                    first | refine zs_iadd (pc := 103) C dX2_seek_103 (by omega) ?_ | refine zs_iaddF (pc := 103) C dX2_seek_103 (fun z103 hz1031 hz1032 => ?_)
                    refine zVip2 (pc := 104) C dX2_seek_104 v_X2_98 (c_X2_isBetter hX ) (by decide) (by simp only [zrm]; omega) ⟨Nat.zero_le _, Nat.zero_le _⟩ (Nat.le_of_ble_eq_true rfl) (fun x104 l104 u104 hp104 => ?_)
                    have hq104 := hp104
                    try simp only [zuI_1, zuI_2, zuJ_1, zuJ_2, zuJ_3, zuP_1, zuP_2, zuP_3, zuC_1, zuC_2, reduceIte, Nat.reduceEqDiff, false_and, and_false, true_and, and_true, and_self, or_true, true_or, or_false, false_or] at hq104
                    refine zs_if_eq (tgt := 141) (pc := 107) C dX2_seek_107 (by decide) (fun h107 => ?_) (fun h107 => ?_)
                    · skip
                      first | refine zs_iinc (pc := 141) C dX2_seek_141 rfl (by decide) (by omega) ?_ | refine zs_iincF (pc := 141) C dX2_seek_141 rfl (by decide) (fun z141 hz1411 hz1412 => ?_)
                      dsimp only [zset, zclr, znone]
                      refine zs_goto (tgt := 29) (pc := 144) C dX2_seek_144 (by decide) ?_
                      exact zs_wk (ih29 _ _ (by first | omega | (simp only [zuI_1, zuI_2, zuJ_1, zuJ_2, zuJ_3, zuP_1, zuP_2, zuP_3, zuC_1, zuC_2, reduceIte, Nat.reduceEqDiff, false_and, and_false, true_and, and_true, and_self, or_true, true_or, or_false, false_or]; omega)) (by repeat (first | exact zsm_rf | assumption | refine zsm_C (by decide) ?_ | refine zsm_I (by decide) ?_ | refine zsm_J ?_ | refine zsm_c (by assumption) (by decide) ?_)) (by with_reducible repeat (first | exact TO_rf | assumption | refine TO_o (by decide) ?_ | refine TO_C (by decide) ?_ | refine TO_t (by assumption) ?_ | apply TOw_510 | apply TOw_2026 | apply TOw_2027 | apply TOw_2028 | apply TOw_2029 | apply TOw_2030 | apply TOw_2031 | apply TOw_2032 | apply TOw_2033 | apply TOw_2034 | apply TOw_2035 | apply TOw_2048 | apply TOw_2049 | apply TOw_2050 | apply TOw_2051 | apply TOw_2052 | apply TOw_2053 | apply TOw_2054 | apply TOw_809 | apply TOw_810 | apply TOw_811 | apply TOw_812 | apply TOw_813 | apply TO_J | refine TO_m (by assumption) (by decide) ?_)) (by first | omega | (simp only [zuI_1, zuI_2, zuJ_1, zuJ_2, zuJ_3, zuP_1, zuP_2, zuP_3, zuC_1, zuC_2, reduceIte, Nat.reduceEqDiff, false_and, and_false, true_and, and_true, and_self, or_true, true_or, or_false, false_or]; omega))) (zwk_s rfl (zwk_s rfl (zwk_s rfl (zwk_s rfl (zwk_s rfl (zwk_s rfl zwk_0))))))
                    · skip
                      refine zs_aload_n (pc := 110) C dX2_seek_110 rfl ?_
                      refine zs_getf (pc := 111) C dX2_seek_111 w_X2_27 f_3_0 (by decide) ?_
                      refine zs_iload (pc := 114) C dX2_seek_114 rfl ?_
                      refine zs_iload (pc := 116) C dX2_seek_116 rfl ?_
                      refine zVv2 (pc := 118) C dX2_seek_118 v_X2_101 (c_X7_fallOnceU hX (by first | omega | (simp only [zuI_1, zuI_2, zuJ_1, zuJ_2, zuJ_3, zuP_1, zuP_2, zuP_3, zuC_1, zuC_2, reduceIte, Nat.reduceEqDiff, false_and, and_false, true_and, and_true, and_self, or_true, true_or, or_false, false_or]; omega)) (by first | omega | (simp only [zuI_1, zuI_2, zuJ_1, zuJ_2, zuJ_3, zuP_1, zuP_2, zuP_3, zuC_1, zuC_2, reduceIte, Nat.reduceEqDiff, false_and, and_false, true_and, and_true, and_self, or_true, true_or, or_false, false_or]; omega))) (by decide) (by simp only [zrm]; omega) ⟨Nat.zero_le _, Nat.zero_le _⟩ (Nat.le_of_ble_eq_true rfl) (fun G118 hp118 => ?_)
                      obtain ⟨hz118, lo118, hq118⟩ := hp118
                      try simp only [zuI_1, zuI_2, zuJ_1, zuJ_2, zuJ_3, zuP_1, zuP_2, zuP_3, zuC_1, zuC_2, reduceIte, Nat.reduceEqDiff, false_and, and_false, true_and, and_true, and_self, or_true, true_or, or_false, false_or] at hq118
                      refine zs_aload_n (pc := 121) C dX2_seek_121 rfl ?_
                      refine zs_iload_n (pc := 122) C dX2_seek_122 rfl ?_
                      refine zs_iload_n (pc := 123) C dX2_seek_123 rfl ?_
                      refine zs_iconst (pc := 124) C dX2_seek_124 (by decide) ?_
                      first | refine zs_iadd (pc := 125) C dX2_seek_125 (by omega) ?_ | refine zs_iaddF (pc := 125) C dX2_seek_125 (fun z125 hz1251 hz1252 => ?_)
                      refine zs_iload_n (pc := 126) C dX2_seek_126 rfl ?_
                      refine zVv3 (pc := 127) C dX2_seek_127 v_X2_91 (hih (by omega)) (by decide) (by simp only [zrm]; omega) ⟨Nat.zero_le _, Nat.zero_le _⟩ (Nat.le_of_ble_eq_true rfl) (fun G127 hp127 => ?_)
                      obtain ⟨hz127, lo127, hq127⟩ := hp127
                      refine zs_aload_n (pc := 130) C dX2_seek_130 rfl ?_
                      refine zs_getf (pc := 131) C dX2_seek_131 w_X2_27 f_3_0 (by decide) ?_
                      refine zs_iload (pc := 134) C dX2_seek_134 rfl ?_
                      refine zs_iload (pc := 136) C dX2_seek_136 rfl ?_
                      refine zVv2 (pc := 138) C dX2_seek_138 v_X2_104 (c_X7_unfallU hX (by omega) (by omega)) (by decide) (by simp only [zrm]; omega) ⟨Nat.zero_le _, Nat.zero_le _⟩ (Nat.le_of_ble_eq_true rfl) (fun G138 hp138 => ?_)
                      obtain ⟨hz138, lo138, hq138⟩ := hp138
                      first | refine zs_iinc (pc := 141) C dX2_seek_141 rfl (by decide) (by omega) ?_ | refine zs_iincF (pc := 141) C dX2_seek_141 rfl (by decide) (fun z141 hz1411 hz1412 => ?_)
                      dsimp only [zset, zclr, znone]
                      refine zs_goto (tgt := 29) (pc := 144) C dX2_seek_144 (by decide) ?_
                      exact zs_wk (ih29 _ _ (by first | omega | (simp only [zuI_1, zuI_2, zuJ_1, zuJ_2, zuJ_3, zuP_1, zuP_2, zuP_3, zuC_1, zuC_2, reduceIte, Nat.reduceEqDiff, false_and, and_false, true_and, and_true, and_self, or_true, true_or, or_false, false_or]; omega)) (by repeat (first | exact zsm_rf | assumption | refine zsm_C (by decide) ?_ | refine zsm_I (by decide) ?_ | refine zsm_J ?_ | refine zsm_c (by assumption) (by decide) ?_)) (by with_reducible repeat (first | exact TO_rf | assumption | refine TO_o (by decide) ?_ | refine TO_C (by decide) ?_ | refine TO_t (by assumption) ?_ | apply TOw_510 | apply TOw_2026 | apply TOw_2027 | apply TOw_2028 | apply TOw_2029 | apply TOw_2030 | apply TOw_2031 | apply TOw_2032 | apply TOw_2033 | apply TOw_2034 | apply TOw_2035 | apply TOw_2048 | apply TOw_2049 | apply TOw_2050 | apply TOw_2051 | apply TOw_2052 | apply TOw_2053 | apply TOw_2054 | apply TOw_809 | apply TOw_810 | apply TOw_811 | apply TOw_812 | apply TOw_813 | apply TO_J | refine TO_m (by assumption) (by decide) ?_)) (by first | omega | (simp only [zuI_1, zuI_2, zuJ_1, zuJ_2, zuJ_3, zuP_1, zuP_2, zuP_3, zuC_1, zuC_2, reduceIte, Nat.reduceEqDiff, false_and, and_false, true_and, and_true, and_self, or_true, true_or, or_false, false_or]; omega))) (zwk_s rfl (zwk_s rfl (zwk_s rfl (zwk_s rfl (zwk_s rfl (zwk_s rfl zwk_0))))))
                · skip
                  refine zs_aload_n (pc := 73) C dX2_seek_73 rfl ?_
                  refine zs_iload_n (pc := 74) C dX2_seek_74 rfl ?_
                  refine zs_iload_n (pc := 75) C dX2_seek_75 rfl ?_
                  refine zs_iload_n (pc := 76) C dX2_seek_76 rfl ?_
                  refine zVv3 (pc := 77) C dX2_seek_77 v_X2_91 (hih (by omega)) (by decide) (by simp only [zrm]; omega) ⟨Nat.zero_le _, Nat.zero_le _⟩ (Nat.le_of_ble_eq_true rfl) (fun G77 hp77 => ?_)
                  obtain ⟨hz77, lo77, hq77⟩ := hp77
                  try simp only [zuI_1, zuI_2, zuJ_1, zuJ_2, zuJ_3, zuP_1, zuP_2, zuP_3, zuC_1, zuC_2, reduceIte, Nat.reduceEqDiff, false_and, and_false, true_and, and_true, and_self, or_true, true_or, or_false, false_or] at hq77
                  refine zs_goto (tgt := 141) (pc := 80) C dX2_seek_80 (by decide) ?_
                  first | refine zs_iinc (pc := 141) C dX2_seek_141 rfl (by decide) (by omega) ?_ | refine zs_iincF (pc := 141) C dX2_seek_141 rfl (by decide) (fun z141 hz1411 hz1412 => ?_)
                  dsimp only [zset, zclr, znone]
                  refine zs_goto (tgt := 29) (pc := 144) C dX2_seek_144 (by decide) ?_
                  exact zs_wk (ih29 _ _ (by first | omega | (simp only [zuI_1, zuI_2, zuJ_1, zuJ_2, zuJ_3, zuP_1, zuP_2, zuP_3, zuC_1, zuC_2, reduceIte, Nat.reduceEqDiff, false_and, and_false, true_and, and_true, and_self, or_true, true_or, or_false, false_or]; omega)) (by repeat (first | exact zsm_rf | assumption | refine zsm_C (by decide) ?_ | refine zsm_I (by decide) ?_ | refine zsm_J ?_ | refine zsm_c (by assumption) (by decide) ?_)) (by with_reducible repeat (first | exact TO_rf | assumption | refine TO_o (by decide) ?_ | refine TO_C (by decide) ?_ | refine TO_t (by assumption) ?_ | apply TOw_510 | apply TOw_2026 | apply TOw_2027 | apply TOw_2028 | apply TOw_2029 | apply TOw_2030 | apply TOw_2031 | apply TOw_2032 | apply TOw_2033 | apply TOw_2034 | apply TOw_2035 | apply TOw_2048 | apply TOw_2049 | apply TOw_2050 | apply TOw_2051 | apply TOw_2052 | apply TOw_2053 | apply TOw_2054 | apply TOw_809 | apply TOw_810 | apply TOw_811 | apply TOw_812 | apply TOw_813 | apply TO_J | refine TO_m (by assumption) (by decide) ?_)) (by first | omega | (simp only [zuI_1, zuI_2, zuJ_1, zuJ_2, zuJ_3, zuP_1, zuP_2, zuP_3, zuC_1, zuC_2, reduceIte, Nat.reduceEqDiff, false_and, and_false, true_and, and_true, and_self, or_true, true_or, or_false, false_or]; omega))) (zwk_s rfl (zwk_s rfl (zwk_s rfl (zwk_s rfl (zwk_s rfl (zwk_s rfl zwk_0))))))
          exact zs_wk (L29 _ _ _ (by first | omega | (simp only [zuI_1, zuI_2, zuJ_1, zuJ_2, zuJ_3, zuP_1, zuP_2, zuP_3, zuC_1, zuC_2, reduceIte, Nat.reduceEqDiff, false_and, and_false, true_and, and_true, and_self, or_true, true_or, or_false, false_or]; omega)) (by repeat (first | exact zsm_rf | assumption | refine zsm_C (by decide) ?_ | refine zsm_I (by decide) ?_ | refine zsm_J ?_ | refine zsm_c (by assumption) (by decide) ?_)) (by with_reducible repeat (first | exact TO_rf | assumption | refine TO_o (by decide) ?_ | refine TO_C (by decide) ?_ | refine TO_t (by assumption) ?_ | apply TOw_510 | apply TOw_2026 | apply TOw_2027 | apply TOw_2028 | apply TOw_2029 | apply TOw_2030 | apply TOw_2031 | apply TOw_2032 | apply TOw_2033 | apply TOw_2034 | apply TOw_2035 | apply TOw_2048 | apply TOw_2049 | apply TOw_2050 | apply TOw_2051 | apply TOw_2052 | apply TOw_2053 | apply TOw_2054 | apply TOw_809 | apply TOw_810 | apply TOw_811 | apply TOw_812 | apply TOw_813 | apply TO_J | refine TO_m (by assumption) (by decide) ?_)) (Nat.lt_succ_self _)) (zwk_s rfl (zwk_s rfl (zwk_s rfl (zwk_s rfl (zwk_s rfl (zwk_s rfl zwk_0))))))
    exact zs_wk (L9 _ _ _ (by first | omega | (simp only [zuI_1, zuI_2, zuJ_1, zuJ_2, zuJ_3, zuP_1, zuP_2, zuP_3, zuC_1, zuC_2, reduceIte, Nat.reduceEqDiff, false_and, and_false, true_and, and_true, and_self, or_true, true_or, or_false, false_or]; omega)) (by repeat (first | exact zsm_rf | assumption | refine zsm_C (by decide) ?_ | refine zsm_I (by decide) ?_ | refine zsm_J ?_ | refine zsm_c (by assumption) (by decide) ?_)) (by with_reducible repeat (first | exact TO_rf | assumption | refine TO_o (by decide) ?_ | refine TO_C (by decide) ?_ | refine TO_t (by assumption) ?_ | apply TOw_510 | apply TOw_2026 | apply TOw_2027 | apply TOw_2028 | apply TOw_2029 | apply TOw_2030 | apply TOw_2031 | apply TOw_2032 | apply TOw_2033 | apply TOw_2034 | apply TOw_2035 | apply TOw_2048 | apply TOw_2049 | apply TOw_2050 | apply TOw_2051 | apply TOw_2052 | apply TOw_2053 | apply TOw_2054 | apply TOw_809 | apply TOw_810 | apply TOw_811 | apply TOw_812 | apply TOw_813 | apply TO_J | refine TO_m (by assumption) (by decide) ?_)) (Nat.lt_succ_self _)) (zwk_s rfl (zwk_s rfl (zwk_s rfl (zwk_s rfl (zwk_s rfl (zwk_n zwk_0))))))
  · skip
    exact zs_vret (pc := 5) C hr hlk dX2_seek_5 ⟨by repeat (first | exact zsm_rf | assumption | refine zsm_C (by decide) ?_ | refine zsm_I (by decide) ?_ | refine zsm_J ?_ | refine zsm_c (by assumption) (by decide) ?_), (by with_reducible repeat (first | exact TO_rf | assumption | refine TO_o (by decide) ?_ | refine TO_C (by decide) ?_ | refine TO_t (by assumption) ?_ | apply TOw_510 | apply TOw_2026 | apply TOw_2027 | apply TOw_2028 | apply TOw_2029 | apply TOw_2030 | apply TOw_2031 | apply TOw_2032 | apply TOw_2033 | apply TOw_2034 | apply TOw_2035 | apply TOw_2048 | apply TOw_2049 | apply TOw_2050 | apply TOw_2051 | apply TOw_2052 | apply TOw_2053 | apply TOw_2054 | apply TOw_809 | apply TOw_810 | apply TOw_811 | apply TOw_812 | apply TOw_813 | apply TO_J | refine TO_m (by assumption) (by decide) ?_)), trivial⟩

theorem c_X2_seekU_all {l : Launch} {Γ : zΓ} (hX : zXs Γ) : ∀ (d : Nat) {G : zH} {w : Nat} {a b q : Int}, (0 ≤ a ∧ a ≤ 4 ∧ 4 < a + d) → zMet l Γ yX2_seek cX2_seek 6 none (7 + 2 * d) [zr 3 w, zi a, zi b, zi q] G (zpv (fun G' => zsm [510, 810, 811, 2021, 2022, 2023, 2024, 2026, 2027, 2028, 2029, 2030, 2031, 2032, 2033, 2034, 2035, 2048, 2049, 2050, 2051, 2052] G G' ∧ TO Γ (Γ.2.1 w 0) G G' ∧ True))
  | 0, G, w, a, b, q, h => absurd h (by omega)
  | d + 1, G, w, a, b, q, h => c_X2_seekU_s d hX (fun h2 => c_X2_stepU_s d hX (fun h => c_X2_seekU_all hX d h) h2) (by omega)
theorem c_X2_seekU {l : Launch} {Γ : zΓ} {G : zH} {w : Nat} {a b q : Int} (hX : zXs Γ) (h : 0 ≤ a ∧ a ≤ 4) : zMet l Γ yX2_seek cX2_seek 6 none 17 [zr 3 w, zi a, zi b, zi q] G (zpv (fun G' => zsm [510, 810, 811, 2021, 2022, 2023, 2024, 2026, 2027, 2028, 2029, 2030, 2031, 2032, 2033, 2034, 2035, 2048, 2049, 2050, 2051, 2052] G G' ∧ TO Γ (Γ.2.1 w 0) G G' ∧ True)) := c_X2_seekU_all hX 5 (by omega)

set_option maxHeartbeats 4000000 in
set_option maxRecDepth 100000 in
theorem c_X2_planForU {l : Launch} {Γ : zΓ} {G : zH} {w b : Nat} {k : Int} (hX : zXs Γ) (hc : 0 ≤ k ∧ k ≤ 4) : zMet l Γ yX2_planFor cX2_planFor 4 none 18 [zr 3 w, zr 8 b, zi k] G (zpv (fun G' => zsn [306, 307, 510, 809, 810, 811, 812, 813, 2020, 2021, 2022, 2023, 2024, 2026, 2027, 2028, 2029, 2030, 2031, 2032, 2033, 2034, 2035, 2048, 2049, 2050, 2051, 2052, 2053] G G' ∧ TO Γ (Γ.2.1 w 0) G G' ∧ True)) := by
  refine zMet_of RX2 hX (by decide) rfl (Nat.le_of_ble_eq_true rfl) ?_
  intro p e s m args below meth c C hr hlk
  show Z p l e (zrm 18) s m args below meth c Γ 4 0 0 (MQ below (zQc Γ (zpv (fun G' => zsn [306, 307, 510, 809, 810, 811, 812, 813, 2020, 2021, 2022, 2023, 2024, 2026, 2027, 2028, 2029, 2030, 2031, 2032, 2033, 2034, 2035, 2048, 2049, 2050, 2051, 2052, 2053] G G' ∧ TO Γ (Γ.2.1 w 0) G G' ∧ True))) args s 0 0 (zA Γ)) 0 [some (zr 3 w), some (zr 8 b), some (zi k), none] [] G
  refine zs_loc 2 rfl (fun ha2 hb2 => ?_)
  refine zs_aload_n (pc := 0) C dX2_planFor_0 rfl ?_
  refine zs_getf (pc := 1) C dX2_planFor_1 w_X2_9 f_3_1 (by decide) ?_
  refine zs_iload_n (pc := 4) C dX2_planFor_4 rfl ?_
  refine zs_iald (r := 2020) (pc := 5) C dX2_planFor_5 a_20 (by decide) (by omega) rfl (r_2020 _) (fun v5 e5 l5 u5 => ?_)
  refine zs_if_eq (tgt := 10) (pc := 6) C dX2_planFor_6 (by decide) (fun h6 => ?_) (fun h6 => ?_)
  · skip
    refine zs_aload_n (pc := 10) C dX2_planFor_10 rfl ?_
    refine zs_getf (pc := 11) C dX2_planFor_11 w_X2_9 f_3_1 (by decide) ?_
    refine zs_iload_n (pc := 14) C dX2_planFor_14 rfl ?_
    refine zs_iconst (pc := 15) C dX2_planFor_15 (by decide) ?_
    refine zs_iast (r := 2020) (pc := 16) C dX2_planFor_16 a_20 (by decide) (by omega) rfl (r_2020 _) (by omega) ?_
    refine zs_aload_n (pc := 17) C dX2_planFor_17 rfl ?_
    refine zs_iload_n (pc := 18) C dX2_planFor_18 rfl ?_
    refine zs_puti (r := 306) (pc := 19) C dX2_planFor_19 w_X2_37 f_3_6 rfl (r_306 0) (by omega) ?_
    refine zs_aload_n (pc := 22) C dX2_planFor_22 rfl ?_
    refine zs_getf (pc := 23) C dX2_planFor_23 w_X2_15 f_3_2 (by decide) ?_
    refine zs_aload_n (pc := 26) C dX2_planFor_26 rfl ?_
    refine zs_geti (r := 306) (pc := 27) C dX2_planFor_27 w_X2_37 f_3_6 rfl (r_306 0) (fun v27 e27 l27 u27 => ?_)
    try simp only [zuI_1, zuI_2, zuJ_1, zuJ_2, zuJ_3, zuP_1, zuP_2, zuP_3, zuC_1, zuC_2, reduceIte, Nat.reduceEqDiff, false_and, and_false, true_and, and_true, and_self, or_true, true_or, or_false, false_or] at e27
    refine zs_iconst (pc := 30) C dX2_planFor_30 (by decide) ?_
    refine zs_iast (r := 2021) (pc := 31) C dX2_planFor_31 a_21 (by decide) (by omega) rfl (r_2021 _) (by omega) ?_
    refine zs_aload_n (pc := 32) C dX2_planFor_32 rfl ?_
    refine zs_getf (pc := 33) C dX2_planFor_33 w_X2_18 f_3_3 (by decide) ?_
    refine zs_aload_n (pc := 36) C dX2_planFor_36 rfl ?_
    refine zs_geti (r := 306) (pc := 37) C dX2_planFor_37 w_X2_37 f_3_6 rfl (r_306 0) (fun v37 e37 l37 u37 => ?_)
    try simp only [zuI_1, zuI_2, zuJ_1, zuJ_2, zuJ_3, zuP_1, zuP_2, zuP_3, zuC_1, zuC_2, reduceIte, Nat.reduceEqDiff, false_and, and_false, true_and, and_true, and_self, or_true, true_or, or_false, false_or] at e37
    refine zs_iconst (pc := 40) C dX2_planFor_40 (by decide) ?_
    refine zs_iast (r := 2022) (pc := 41) C dX2_planFor_41 a_22 (by decide) (by omega) rfl (r_2022 _) (by omega) ?_
    refine zs_aload_n (pc := 42) C dX2_planFor_42 rfl ?_
    refine zs_getf (pc := 43) C dX2_planFor_43 w_X2_27 f_3_0 (by decide) ?_
    refine zs_aload_n (pc := 46) C dX2_planFor_46 rfl ?_
    refine zVv1 (pc := 47) C dX2_planFor_47 v_X2_41 (c_X7_copyFromK (t := G.2.2 800 b) hX rfl) (by decide) (by decide) ⟨Nat.zero_le _, Nat.zero_le _⟩ (Nat.le_of_ble_eq_true rfl) (fun G47 hp47 => ?_)
    obtain ⟨hz47, hq47⟩ := hp47
    try simp only [zuI_1, zuI_2, zuJ_1, zuJ_2, zuJ_3, zuP_1, zuP_2, zuP_3, zuC_1, zuC_2, reduceIte, Nat.reduceEqDiff, false_and, and_false, true_and, and_true, and_self, or_true, true_or, or_false, false_or] at hq47
    have to47 : TO Γ (Γ.2.1 w 0) G G47 := TO_cp hq47.1 hq47.2.1 (by with_reducible repeat (first | exact TO_rf | assumption | refine TO_o (by decide) ?_ | refine TO_C (by decide) ?_ | refine TO_t (by assumption) ?_ | apply TOw_510 | apply TOw_2026 | apply TOw_2027 | apply TOw_2028 | apply TOw_2029 | apply TOw_2030 | apply TOw_2031 | apply TOw_2032 | apply TOw_2033 | apply TOw_2034 | apply TOw_2035 | apply TOw_2048 | apply TOw_2049 | apply TOw_2050 | apply TOw_2051 | apply TOw_2052 | apply TOw_2053 | apply TOw_2054 | apply TOw_809 | apply TOw_810 | apply TOw_811 | apply TOw_812 | apply TOw_813 | apply TO_J | refine TO_m (by assumption) (by decide) ?_))
    refine zs_aload_n (pc := 50) C dX2_planFor_50 rfl ?_
    refine zs_aload_n (pc := 51) C dX2_planFor_51 rfl ?_
    refine zs_getd (r := 800) (pc := 52) C dX2_planFor_52 w_X2_47 f_8_0 (by decide) rfl (fun v52 e52 t52 => ?_)
    refine zs_getf (pc := 55) C dX2_planFor_55 w_X2_51 f_6_6 (by decide) ?_
    refine zs_aload_n (pc := 58) C dX2_planFor_58 rfl ?_
    refine zs_geti (r := 306) (pc := 59) C dX2_planFor_59 w_X2_37 f_3_6 rfl (r_306 0) (fun v59 e59 l59 u59 => ?_)
    refine zs_iald (r := 2041) (pc := 62) C dX2_planFor_62 a_41 (by decide) (by omega) rfl (r_2041 _) (fun v62 e62 l62 u62 => ?_)
    refine zs_puti (r := 307) (pc := 63) C dX2_planFor_63 w_X2_56 f_3_7 rfl (r_307 0) (by omega) ?_
    refine zs_aload_n (pc := 66) C dX2_planFor_66 rfl ?_
    refine zs_getd (r := 800) (pc := 67) C dX2_planFor_67 w_X2_47 f_8_0 (by decide) rfl (fun v67 e67 t67 => ?_)
    try simp only [zuI_1, zuI_2, zuJ_1, zuJ_2, zuJ_3, zuP_1, zuP_2, zuP_3, zuC_1, zuC_2, reduceIte, Nat.reduceEqDiff, false_and, and_false, true_and, and_true, and_self, or_true, true_or, or_false, false_or] at e67
    refine zs_getf (pc := 70) C dX2_planFor_70 w_X2_59 f_6_7 (by decide) ?_
    refine zs_aload_n (pc := 73) C dX2_planFor_73 rfl ?_
    refine zs_geti (r := 306) (pc := 74) C dX2_planFor_74 w_X2_37 f_3_6 rfl (r_306 0) (fun v74 e74 l74 u74 => ?_)
    try simp only [zuI_1, zuI_2, zuJ_1, zuJ_2, zuJ_3, zuP_1, zuP_2, zuP_3, zuC_1, zuC_2, reduceIte, Nat.reduceEqDiff, false_and, and_false, true_and, and_true, and_self, or_true, true_or, or_false, false_or] at e74
    refine zs_iald (r := 2042) (pc := 77) C dX2_planFor_77 a_42 (by decide) (by omega) rfl (r_2042 _) (fun v77 e77 l77 u77 => ?_)
    try simp only [zuI_1, zuI_2, zuJ_1, zuJ_2, zuJ_3, zuP_1, zuP_2, zuP_3, zuC_1, zuC_2, reduceIte, Nat.reduceEqDiff, false_and, and_false, true_and, and_true, and_self, or_true, true_or, or_false, false_or] at e77
    refine zs_aload_n (pc := 78) C dX2_planFor_78 rfl ?_
    refine zs_getf (pc := 79) C dX2_planFor_79 w_X2_62 f_8_1 (by decide) ?_
    refine zs_aload_n (pc := 82) C dX2_planFor_82 rfl ?_
    refine zs_geti (r := 307) (pc := 83) C dX2_planFor_83 w_X2_56 f_3_7 rfl (r_307 0) (fun v83 e83 l83 u83 => ?_)
    try simp only [zuI_1, zuI_2, zuJ_1, zuJ_2, zuJ_3, zuP_1, zuP_2, zuP_3, zuC_1, zuC_2, reduceIte, Nat.reduceEqDiff, false_and, and_false, true_and, and_true, and_self, or_true, true_or, or_false, false_or] at e83
    refine zVip1 (pc := 86) C dX2_planFor_86 v_X2_66 (c_X4_flourFrom hX ) (by decide) (by decide) ⟨Nat.zero_le _, Nat.zero_le _⟩ (Nat.le_of_ble_eq_true rfl) (fun x86 l86 u86 hp86 => ?_)
    have hq86 := hp86
    try simp only [zuI_1, zuI_2, zuJ_1, zuJ_2, zuJ_3, zuP_1, zuP_2, zuP_3, zuC_1, zuC_2, reduceIte, Nat.reduceEqDiff, false_and, and_false, true_and, and_true, and_self, or_true, true_or, or_false, false_or] at hq86
    first | refine zs_isub (pc := 89) C dX2_planFor_89 (by omega) ?_ | refine zs_isubF (pc := 89) C dX2_planFor_89 (fun z89 hz891 hz892 => ?_)
    refine zs_istore_n (pc := 90) C dX2_planFor_90 (by decide) ?_
    dsimp only [zset, zclr, znone]
    refine zs_iload_n (pc := 91) C dX2_planFor_91 rfl ?_
    refine zs_if_gt (tgt := 104) (pc := 92) C dX2_planFor_92 (by decide) (fun h92 => ?_) (fun h92 => ?_)
    · skip
      refine zs_aload_n (pc := 104) C dX2_planFor_104 rfl ?_
      refine zs_iconst (pc := 105) C dX2_planFor_105 (by decide) ?_
      refine zs_iconst (pc := 106) C dX2_planFor_106 (by decide) ?_
      refine zs_iload_n (pc := 107) C dX2_planFor_107 rfl ?_
      refine zVip3 (pc := 108) C dX2_planFor_108 v_X2_76 (c_X2_isHopeful hX ) (by decide) (by decide) ⟨Nat.zero_le _, Nat.zero_le _⟩ (Nat.le_of_ble_eq_true rfl) (fun x108 l108 u108 hp108 => ?_)
      have hq108 := hp108
      try simp only [zuI_1, zuI_2, zuJ_1, zuJ_2, zuJ_3, zuP_1, zuP_2, zuP_3, zuC_1, zuC_2, reduceIte, Nat.reduceEqDiff, false_and, and_false, true_and, and_true, and_self, or_true, true_or, or_false, false_or] at hq108
      refine zs_if_eq (tgt := 121) (pc := 111) C dX2_planFor_111 (by decide) (fun h111 => ?_) (fun h111 => ?_)
      · skip
        exact zs_vret (pc := 121) C hr hlk dX2_planFor_121 ⟨by repeat (first | exact zsn_rf | assumption | refine zsn_C (by decide) ?_ | refine zsn_I (by decide) ?_ | refine zsn_J ?_ | refine zsn_P ?_ | refine zsn_m (by assumption) (by decide) ?_ | refine zsn_c (by assumption) (by decide) ?_), (by with_reducible repeat (first | exact TO_rf | assumption | refine TO_o (by decide) ?_ | refine TO_C (by decide) ?_ | refine TO_t (by assumption) ?_ | apply TOw_510 | apply TOw_2026 | apply TOw_2027 | apply TOw_2028 | apply TOw_2029 | apply TOw_2030 | apply TOw_2031 | apply TOw_2032 | apply TOw_2033 | apply TOw_2034 | apply TOw_2035 | apply TOw_2048 | apply TOw_2049 | apply TOw_2050 | apply TOw_2051 | apply TOw_2052 | apply TOw_2053 | apply TOw_2054 | apply TOw_809 | apply TOw_810 | apply TOw_811 | apply TOw_812 | apply TOw_813 | apply TO_J | refine TO_m (by assumption) (by decide) ?_)), trivial⟩
      · skip
        refine zs_aload_n (pc := 114) C dX2_planFor_114 rfl ?_
        refine zs_iconst (pc := 115) C dX2_planFor_115 (by decide) ?_
        refine zs_iconst (pc := 116) C dX2_planFor_116 (by decide) ?_
        refine zs_iload_n (pc := 117) C dX2_planFor_117 rfl ?_
        refine zVv3 (pc := 118) C dX2_planFor_118 v_X2_80 (c_X2_seekU hX (by first | omega | (simp only [zuI_1, zuI_2, zuJ_1, zuJ_2, zuJ_3, zuP_1, zuP_2, zuP_3, zuC_1, zuC_2, reduceIte, Nat.reduceEqDiff, false_and, and_false, true_and, and_true, and_self, or_true, true_or, or_false, false_or]; omega))) (by decide) (by decide) ⟨Nat.zero_le _, Nat.zero_le _⟩ (Nat.le_of_ble_eq_true rfl) (fun G118 hp118 => ?_)
        obtain ⟨hz118, lo118, hq118⟩ := hp118
        try simp only [zuI_1, zuI_2, zuJ_1, zuJ_2, zuJ_3, zuP_1, zuP_2, zuP_3, zuC_1, zuC_2, reduceIte, Nat.reduceEqDiff, false_and, and_false, true_and, and_true, and_self, or_true, true_or, or_false, false_or] at hq118
        exact zs_vret (pc := 121) C hr hlk dX2_planFor_121 ⟨by repeat (first | exact zsn_rf | assumption | refine zsn_C (by decide) ?_ | refine zsn_I (by decide) ?_ | refine zsn_J ?_ | refine zsn_P ?_ | refine zsn_m (by assumption) (by decide) ?_ | refine zsn_c (by assumption) (by decide) ?_), (by with_reducible repeat (first | exact TO_rf | assumption | refine TO_o (by decide) ?_ | refine TO_C (by decide) ?_ | refine TO_t (by assumption) ?_ | apply TOw_510 | apply TOw_2026 | apply TOw_2027 | apply TOw_2028 | apply TOw_2029 | apply TOw_2030 | apply TOw_2031 | apply TOw_2032 | apply TOw_2033 | apply TOw_2034 | apply TOw_2035 | apply TOw_2048 | apply TOw_2049 | apply TOw_2050 | apply TOw_2051 | apply TOw_2052 | apply TOw_2053 | apply TOw_2054 | apply TOw_809 | apply TOw_810 | apply TOw_811 | apply TOw_812 | apply TOw_813 | apply TO_J | refine TO_m (by assumption) (by decide) ?_)), trivial⟩
    · skip
      refine zs_aload_n (pc := 95) C dX2_planFor_95 rfl ?_
      refine zs_iconst (pc := 96) C dX2_planFor_96 (by decide) ?_
      refine zs_iconst (pc := 97) C dX2_planFor_97 (by decide) ?_
      refine zVv2 (pc := 98) C dX2_planFor_98 v_X2_72 (c_X2_takeU hX ) (by decide) (by decide) ⟨Nat.zero_le _, Nat.zero_le _⟩ (Nat.le_of_ble_eq_true rfl) (fun G98 hp98 => ?_)
      obtain ⟨hz98, lo98, hq98⟩ := hp98
      try simp only [zuI_1, zuI_2, zuJ_1, zuJ_2, zuJ_3, zuP_1, zuP_2, zuP_3, zuC_1, zuC_2, reduceIte, Nat.reduceEqDiff, false_and, and_false, true_and, and_true, and_self, or_true, true_or, or_false, false_or] at hq98
      refine zs_goto (tgt := 121) (pc := 101) C dX2_planFor_101 (by decide) ?_
      exact zs_vret (pc := 121) C hr hlk dX2_planFor_121 ⟨by repeat (first | exact zsn_rf | assumption | refine zsn_C (by decide) ?_ | refine zsn_I (by decide) ?_ | refine zsn_J ?_ | refine zsn_P ?_ | refine zsn_m (by assumption) (by decide) ?_ | refine zsn_c (by assumption) (by decide) ?_), (by with_reducible repeat (first | exact TO_rf | assumption | refine TO_o (by decide) ?_ | refine TO_C (by decide) ?_ | refine TO_t (by assumption) ?_ | apply TOw_510 | apply TOw_2026 | apply TOw_2027 | apply TOw_2028 | apply TOw_2029 | apply TOw_2030 | apply TOw_2031 | apply TOw_2032 | apply TOw_2033 | apply TOw_2034 | apply TOw_2035 | apply TOw_2048 | apply TOw_2049 | apply TOw_2050 | apply TOw_2051 | apply TOw_2052 | apply TOw_2053 | apply TOw_2054 | apply TOw_809 | apply TOw_810 | apply TOw_811 | apply TOw_812 | apply TOw_813 | apply TO_J | refine TO_m (by assumption) (by decide) ?_)), trivial⟩
  · skip
    exact zs_vret (pc := 9) C hr hlk dX2_planFor_9 ⟨by repeat (first | exact zsn_rf | assumption | refine zsn_C (by decide) ?_ | refine zsn_I (by decide) ?_ | refine zsn_J ?_ | refine zsn_P ?_ | refine zsn_m (by assumption) (by decide) ?_ | refine zsn_c (by assumption) (by decide) ?_), (by with_reducible repeat (first | exact TO_rf | assumption | refine TO_o (by decide) ?_ | refine TO_C (by decide) ?_ | refine TO_t (by assumption) ?_ | apply TOw_510 | apply TOw_2026 | apply TOw_2027 | apply TOw_2028 | apply TOw_2029 | apply TOw_2030 | apply TOw_2031 | apply TOw_2032 | apply TOw_2033 | apply TOw_2034 | apply TOw_2035 | apply TOw_2048 | apply TOw_2049 | apply TOw_2050 | apply TOw_2051 | apply TOw_2052 | apply TOw_2053 | apply TOw_2054 | apply TOw_809 | apply TOw_810 | apply TOw_811 | apply TOw_812 | apply TOw_813 | apply TO_J | refine TO_m (by assumption) (by decide) ?_)), trivial⟩

set_option maxHeartbeats 4000000 in
set_option maxRecDepth 100000 in
theorem c_X8_planU {l : Launch} {Γ : zΓ} {G : zH} {w : Nat} {p0 k : Int} (hX : zXs Γ)  : zMet l Γ yX8_plan cX8_plan 3 (some .int) 19 [zr 9 w, zi p0, zi k] G (zpi (fun x G' => zsn [306, 307, 510, 809, 810, 811, 812, 813, 2020, 2021, 2022, 2023, 2024, 2026, 2027, 2028, 2029, 2030, 2031, 2032, 2033, 2034, 2035, 2048, 2049, 2050, 2051, 2052, 2053] G G' ∧ TO Γ (Γ.2.1 (Γ.2.1 w 7) 0) G G' ∧ True)) := by
  refine zMet_of RX8 hX (by decide) rfl (Nat.le_of_ble_eq_true rfl) ?_
  intro p e s m args below meth c C hr hlk
  show Z p l e (zrm 19) s m args below meth c Γ 3 0 0 (MQ below (zQc Γ (zpi (fun x G' => zsn [306, 307, 510, 809, 810, 811, 812, 813, 2020, 2021, 2022, 2023, 2024, 2026, 2027, 2028, 2029, 2030, 2031, 2032, 2033, 2034, 2035, 2048, 2049, 2050, 2051, 2052, 2053] G G' ∧ TO Γ (Γ.2.1 (Γ.2.1 w 7) 0) G G' ∧ True))) args s 0 0 (zA Γ)) 0 [some (zr 9 w), some (zi p0), some (zi k)] [] G
  refine zs_loc 1 rfl (fun ha1 hb1 => ?_)
  refine zs_loc 2 rfl (fun ha2 hb2 => ?_)
  refine zs_aload_n (pc := 0) C dX8_plan_0 rfl ?_
  refine zs_iload_n (pc := 1) C dX8_plan_1 rfl ?_
  refine zVip1 (pc := 2) C dX8_plan_2 v_X8_245 (c_X8_isOpen hX ) (by decide) (by decide) ⟨Nat.zero_le _, Nat.zero_le _⟩ (Nat.le_of_ble_eq_true rfl) (fun x2 l2 u2 hp2 => ?_)
  have hq2 := hp2
  refine zs_if_eq (tgt := 17) (pc := 5) C dX8_plan_5 (by decide) (fun h5 => ?_) (fun h5 => ?_)
  · skip
    refine zs_iconst (pc := 17) C dX8_plan_17 (by decide) ?_
    exact zs_iret (pc := 18) C hr hlk dX8_plan_18 ⟨by repeat (first | exact zsn_rf | assumption | refine zsn_C (by decide) ?_ | refine zsn_I (by decide) ?_ | refine zsn_J ?_ | refine zsn_P ?_ | refine zsn_m (by assumption) (by decide) ?_ | refine zsn_c (by assumption) (by decide) ?_), (by with_reducible repeat (first | exact TO_rf | assumption | refine TO_o (by decide) ?_ | refine TO_C (by decide) ?_ | refine TO_t (by assumption) ?_ | apply TOw_510 | apply TOw_2026 | apply TOw_2027 | apply TOw_2028 | apply TOw_2029 | apply TOw_2030 | apply TOw_2031 | apply TOw_2032 | apply TOw_2033 | apply TOw_2034 | apply TOw_2035 | apply TOw_2048 | apply TOw_2049 | apply TOw_2050 | apply TOw_2051 | apply TOw_2052 | apply TOw_2053 | apply TOw_2054 | apply TOw_809 | apply TOw_810 | apply TOw_811 | apply TOw_812 | apply TOw_813 | apply TO_J | refine TO_m (by assumption) (by decide) ?_)), trivial⟩
  · skip
    refine zs_iload_n (pc := 8) C dX8_plan_8 rfl ?_
    refine zs_if_lt (tgt := 17) (pc := 9) C dX8_plan_9 (by decide) (fun h9 => ?_) (fun h9 => ?_)
    · skip
      refine zs_iconst (pc := 17) C dX8_plan_17 (by decide) ?_
      exact zs_iret (pc := 18) C hr hlk dX8_plan_18 ⟨by repeat (first | exact zsn_rf | assumption | refine zsn_C (by decide) ?_ | refine zsn_I (by decide) ?_ | refine zsn_J ?_ | refine zsn_P ?_ | refine zsn_m (by assumption) (by decide) ?_ | refine zsn_c (by assumption) (by decide) ?_), (by with_reducible repeat (first | exact TO_rf | assumption | refine TO_o (by decide) ?_ | refine TO_C (by decide) ?_ | refine TO_t (by assumption) ?_ | apply TOw_510 | apply TOw_2026 | apply TOw_2027 | apply TOw_2028 | apply TOw_2029 | apply TOw_2030 | apply TOw_2031 | apply TOw_2032 | apply TOw_2033 | apply TOw_2034 | apply TOw_2035 | apply TOw_2048 | apply TOw_2049 | apply TOw_2050 | apply TOw_2051 | apply TOw_2052 | apply TOw_2053 | apply TOw_2054 | apply TOw_809 | apply TOw_810 | apply TOw_811 | apply TOw_812 | apply TOw_813 | apply TO_J | refine TO_m (by assumption) (by decide) ?_)), trivial⟩
    · skip
      refine zs_iload_n (pc := 12) C dX8_plan_12 rfl ?_
      refine zs_iconst (pc := 13) C dX8_plan_13 (by decide) ?_
      refine zs_icmp_le (tgt := 19) (pc := 14) C dX8_plan_14 (by decide) (fun h14 => ?_) (fun h14 => ?_)
      · skip
        refine zs_aload_n (pc := 19) C dX8_plan_19 rfl ?_
        refine zs_getf (pc := 20) C dX8_plan_20 w_X8_49 f_9_7 (by decide) ?_
        refine zs_aload_n (pc := 23) C dX8_plan_23 rfl ?_
        refine zs_getf (pc := 24) C dX8_plan_24 w_X8_34 f_9_4 (by decide) ?_
        refine zs_iload_n (pc := 27) C dX8_plan_27 rfl ?_
        refine zVv2 (pc := 28) C dX8_plan_28 v_X8_248 (c_X2_planForU hX (by omega)) (by decide) (by decide) ⟨Nat.zero_le _, Nat.zero_le _⟩ (Nat.le_of_ble_eq_true rfl) (fun G28 hp28 => ?_)
        obtain ⟨hz28, lo28, hq28⟩ := hp28
        refine zs_aload_n (pc := 31) C dX8_plan_31 rfl ?_
        refine zs_getf (pc := 32) C dX8_plan_32 w_X8_49 f_9_7 (by decide) ?_
        refine zs_iload_n (pc := 35) C dX8_plan_35 rfl ?_
        refine zVip1 (pc := 36) C dX8_plan_36 v_X8_252 (c_X2_isThere hX (by omega)) (by decide) (by decide) ⟨Nat.zero_le _, Nat.zero_le _⟩ (Nat.le_of_ble_eq_true rfl) (fun x36 l36 u36 hp36 => ?_)
        have hq36 := hp36
        refine zs_if_ne (tgt := 45) (pc := 39) C dX8_plan_39 (by decide) (fun h39 => ?_) (fun h39 => ?_)
        · skip
          refine zs_iload_n (pc := 45) C dX8_plan_45 rfl ?_
          refine zs_if_ne (tgt := 61) (pc := 46) C dX8_plan_46 (by decide) (fun h46 => ?_) (fun h46 => ?_)
          · skip
            refine zs_aload_n (pc := 61) C dX8_plan_61 rfl ?_
            refine zs_getf (pc := 62) C dX8_plan_62 w_X8_49 f_9_7 (by decide) ?_
            refine zs_getf (pc := 65) C dX8_plan_65 w_X8_256 f_3_3 (by decide) ?_
            refine zs_iload_n (pc := 68) C dX8_plan_68 rfl ?_
            refine zs_iald (r := 2022) (pc := 69) C dX8_plan_69 a_22 (by decide) (by omega) rfl (r_2022 _) (fun v69 e69 l69 u69 => ?_)
            exact zs_iret (pc := 70) C hr hlk dX8_plan_70 ⟨by repeat (first | exact zsn_rf | assumption | refine zsn_C (by decide) ?_ | refine zsn_I (by decide) ?_ | refine zsn_J ?_ | refine zsn_P ?_ | refine zsn_m (by assumption) (by decide) ?_ | refine zsn_c (by assumption) (by decide) ?_), (by with_reducible repeat (first | exact TO_rf | assumption | refine TO_o (by decide) ?_ | refine TO_C (by decide) ?_ | refine TO_t (by assumption) ?_ | apply TOw_510 | apply TOw_2026 | apply TOw_2027 | apply TOw_2028 | apply TOw_2029 | apply TOw_2030 | apply TOw_2031 | apply TOw_2032 | apply TOw_2033 | apply TOw_2034 | apply TOw_2035 | apply TOw_2048 | apply TOw_2049 | apply TOw_2050 | apply TOw_2051 | apply TOw_2052 | apply TOw_2053 | apply TOw_2054 | apply TOw_809 | apply TOw_810 | apply TOw_811 | apply TOw_812 | apply TOw_813 | apply TO_J | refine TO_m (by assumption) (by decide) ?_)), trivial⟩
          · skip
            refine zs_aload_n (pc := 49) C dX8_plan_49 rfl ?_
            refine zs_getf (pc := 50) C dX8_plan_50 w_X8_49 f_9_7 (by decide) ?_
            refine zs_getf (pc := 53) C dX8_plan_53 w_X8_255 f_3_2 (by decide) ?_
            refine zs_iload_n (pc := 56) C dX8_plan_56 rfl ?_
            refine zs_iald (r := 2021) (pc := 57) C dX8_plan_57 a_21 (by decide) (by omega) rfl (r_2021 _) (fun v57 e57 l57 u57 => ?_)
            refine zs_goto (tgt := 70) (pc := 58) C dX8_plan_58 (by decide) ?_
            exact zs_iret (pc := 70) C hr hlk dX8_plan_70 ⟨by repeat (first | exact zsn_rf | assumption | refine zsn_C (by decide) ?_ | refine zsn_I (by decide) ?_ | refine zsn_J ?_ | refine zsn_P ?_ | refine zsn_m (by assumption) (by decide) ?_ | refine zsn_c (by assumption) (by decide) ?_), (by with_reducible repeat (first | exact TO_rf | assumption | refine TO_o (by decide) ?_ | refine TO_C (by decide) ?_ | refine TO_t (by assumption) ?_ | apply TOw_510 | apply TOw_2026 | apply TOw_2027 | apply TOw_2028 | apply TOw_2029 | apply TOw_2030 | apply TOw_2031 | apply TOw_2032 | apply TOw_2033 | apply TOw_2034 | apply TOw_2035 | apply TOw_2048 | apply TOw_2049 | apply TOw_2050 | apply TOw_2051 | apply TOw_2052 | apply TOw_2053 | apply TOw_2054 | apply TOw_809 | apply TOw_810 | apply TOw_811 | apply TOw_812 | apply TOw_813 | apply TO_J | refine TO_m (by assumption) (by decide) ?_)), trivial⟩
        · skip
          refine zs_bipush (pc := 42) C dX8_plan_42 (by decide) (by decide) ?_
          exact zs_iret (pc := 44) C hr hlk dX8_plan_44 ⟨by repeat (first | exact zsn_rf | assumption | refine zsn_C (by decide) ?_ | refine zsn_I (by decide) ?_ | refine zsn_J ?_ | refine zsn_P ?_ | refine zsn_m (by assumption) (by decide) ?_ | refine zsn_c (by assumption) (by decide) ?_), (by with_reducible repeat (first | exact TO_rf | assumption | refine TO_o (by decide) ?_ | refine TO_C (by decide) ?_ | refine TO_t (by assumption) ?_ | apply TOw_510 | apply TOw_2026 | apply TOw_2027 | apply TOw_2028 | apply TOw_2029 | apply TOw_2030 | apply TOw_2031 | apply TOw_2032 | apply TOw_2033 | apply TOw_2034 | apply TOw_2035 | apply TOw_2048 | apply TOw_2049 | apply TOw_2050 | apply TOw_2051 | apply TOw_2052 | apply TOw_2053 | apply TOw_2054 | apply TOw_809 | apply TOw_810 | apply TOw_811 | apply TOw_812 | apply TOw_813 | apply TO_J | refine TO_m (by assumption) (by decide) ?_)), trivial⟩
      · skip
        refine zs_iconst (pc := 17) C dX8_plan_17 (by decide) ?_
        exact zs_iret (pc := 18) C hr hlk dX8_plan_18 ⟨by repeat (first | exact zsn_rf | assumption | refine zsn_C (by decide) ?_ | refine zsn_I (by decide) ?_ | refine zsn_J ?_ | refine zsn_P ?_ | refine zsn_m (by assumption) (by decide) ?_ | refine zsn_c (by assumption) (by decide) ?_), (by with_reducible repeat (first | exact TO_rf | assumption | refine TO_o (by decide) ?_ | refine TO_C (by decide) ?_ | refine TO_t (by assumption) ?_ | apply TOw_510 | apply TOw_2026 | apply TOw_2027 | apply TOw_2028 | apply TOw_2029 | apply TOw_2030 | apply TOw_2031 | apply TOw_2032 | apply TOw_2033 | apply TOw_2034 | apply TOw_2035 | apply TOw_2048 | apply TOw_2049 | apply TOw_2050 | apply TOw_2051 | apply TOw_2052 | apply TOw_2053 | apply TOw_2054 | apply TOw_809 | apply TOw_810 | apply TOw_811 | apply TOw_812 | apply TOw_813 | apply TO_J | refine TO_m (by assumption) (by decide) ?_)), trivial⟩

set_option maxHeartbeats 4000000 in
set_option maxRecDepth 100000 in
theorem c_X8_plannedU {l : Launch} {Γ : zΓ} {G : zH} {w : Nat} {p0 i0 k : Int} (hX : zXs Γ)  : zMet l Γ yX8_planned cX8_planned 5 (some .int) 19 [zr 9 w, zi p0, zi i0, zi k] G (zpi (fun x G' => zsn [306, 307, 510, 809, 810, 811, 812, 813, 2020, 2021, 2022, 2023, 2024, 2026, 2027, 2028, 2029, 2030, 2031, 2032, 2033, 2034, 2035, 2048, 2049, 2050, 2051, 2052, 2053] G G' ∧ TO Γ (Γ.2.1 (Γ.2.1 w 7) 0) G G' ∧ True)) := by
  refine zMet_of RX8 hX (by decide) rfl (Nat.le_of_ble_eq_true rfl) ?_
  intro p e s m args below meth c C hr hlk
  show Z p l e (zrm 19) s m args below meth c Γ 5 0 0 (MQ below (zQc Γ (zpi (fun x G' => zsn [306, 307, 510, 809, 810, 811, 812, 813, 2020, 2021, 2022, 2023, 2024, 2026, 2027, 2028, 2029, 2030, 2031, 2032, 2033, 2034, 2035, 2048, 2049, 2050, 2051, 2052, 2053] G G' ∧ TO Γ (Γ.2.1 (Γ.2.1 w 7) 0) G G' ∧ True))) args s 0 0 (zA Γ)) 0 [some (zr 9 w), some (zi p0), some (zi i0), some (zi k), none] [] G
  refine zs_loc 1 rfl (fun ha1 hb1 => ?_)
  refine zs_loc 2 rfl (fun ha2 hb2 => ?_)
  refine zs_loc 3 rfl (fun ha3 hb3 => ?_)
  refine zs_aload_n (pc := 0) C dX8_planned_0 rfl ?_
  refine zs_iload_n (pc := 1) C dX8_planned_1 rfl ?_
  refine zVip1 (pc := 2) C dX8_planned_2 v_X8_245 (c_X8_isOpen hX ) (by decide) (by decide) ⟨Nat.zero_le _, Nat.zero_le _⟩ (Nat.le_of_ble_eq_true rfl) (fun x2 l2 u2 hp2 => ?_)
  have hq2 := hp2
  refine zs_if_eq (tgt := 21) (pc := 5) C dX8_planned_5 (by decide) (fun h5 => ?_) (fun h5 => ?_)
  · skip
    refine zs_iconst (pc := 21) C dX8_planned_21 (by decide) ?_
    exact zs_iret (pc := 22) C hr hlk dX8_planned_22 ⟨by repeat (first | exact zsn_rf | assumption | refine zsn_C (by decide) ?_ | refine zsn_I (by decide) ?_ | refine zsn_J ?_ | refine zsn_P ?_ | refine zsn_m (by assumption) (by decide) ?_ | refine zsn_c (by assumption) (by decide) ?_), (by with_reducible repeat (first | exact TO_rf | assumption | refine TO_o (by decide) ?_ | refine TO_C (by decide) ?_ | refine TO_t (by assumption) ?_ | apply TOw_510 | apply TOw_2026 | apply TOw_2027 | apply TOw_2028 | apply TOw_2029 | apply TOw_2030 | apply TOw_2031 | apply TOw_2032 | apply TOw_2033 | apply TOw_2034 | apply TOw_2035 | apply TOw_2048 | apply TOw_2049 | apply TOw_2050 | apply TOw_2051 | apply TOw_2052 | apply TOw_2053 | apply TOw_2054 | apply TOw_809 | apply TOw_810 | apply TOw_811 | apply TOw_812 | apply TOw_813 | apply TO_J | refine TO_m (by assumption) (by decide) ?_)), trivial⟩
  · skip
    refine zs_iload_n (pc := 8) C dX8_planned_8 rfl ?_
    refine zs_if_lt (tgt := 21) (pc := 9) C dX8_planned_9 (by decide) (fun h9 => ?_) (fun h9 => ?_)
    · skip
      refine zs_iconst (pc := 21) C dX8_planned_21 (by decide) ?_
      exact zs_iret (pc := 22) C hr hlk dX8_planned_22 ⟨by repeat (first | exact zsn_rf | assumption | refine zsn_C (by decide) ?_ | refine zsn_I (by decide) ?_ | refine zsn_J ?_ | refine zsn_P ?_ | refine zsn_m (by assumption) (by decide) ?_ | refine zsn_c (by assumption) (by decide) ?_), (by with_reducible repeat (first | exact TO_rf | assumption | refine TO_o (by decide) ?_ | refine TO_C (by decide) ?_ | refine TO_t (by assumption) ?_ | apply TOw_510 | apply TOw_2026 | apply TOw_2027 | apply TOw_2028 | apply TOw_2029 | apply TOw_2030 | apply TOw_2031 | apply TOw_2032 | apply TOw_2033 | apply TOw_2034 | apply TOw_2035 | apply TOw_2048 | apply TOw_2049 | apply TOw_2050 | apply TOw_2051 | apply TOw_2052 | apply TOw_2053 | apply TOw_2054 | apply TOw_809 | apply TOw_810 | apply TOw_811 | apply TOw_812 | apply TOw_813 | apply TO_J | refine TO_m (by assumption) (by decide) ?_)), trivial⟩
    · skip
      refine zs_iload_n (pc := 12) C dX8_planned_12 rfl ?_
      refine zs_if_lt (tgt := 21) (pc := 13) C dX8_planned_13 (by decide) (fun h13 => ?_) (fun h13 => ?_)
      · skip
        refine zs_iconst (pc := 21) C dX8_planned_21 (by decide) ?_
        exact zs_iret (pc := 22) C hr hlk dX8_planned_22 ⟨by repeat (first | exact zsn_rf | assumption | refine zsn_C (by decide) ?_ | refine zsn_I (by decide) ?_ | refine zsn_J ?_ | refine zsn_P ?_ | refine zsn_m (by assumption) (by decide) ?_ | refine zsn_c (by assumption) (by decide) ?_), (by with_reducible repeat (first | exact TO_rf | assumption | refine TO_o (by decide) ?_ | refine TO_C (by decide) ?_ | refine TO_t (by assumption) ?_ | apply TOw_510 | apply TOw_2026 | apply TOw_2027 | apply TOw_2028 | apply TOw_2029 | apply TOw_2030 | apply TOw_2031 | apply TOw_2032 | apply TOw_2033 | apply TOw_2034 | apply TOw_2035 | apply TOw_2048 | apply TOw_2049 | apply TOw_2050 | apply TOw_2051 | apply TOw_2052 | apply TOw_2053 | apply TOw_2054 | apply TOw_809 | apply TOw_810 | apply TOw_811 | apply TOw_812 | apply TOw_813 | apply TO_J | refine TO_m (by assumption) (by decide) ?_)), trivial⟩
      · skip
        refine zs_iload_n (pc := 16) C dX8_planned_16 rfl ?_
        refine zs_iconst (pc := 17) C dX8_planned_17 (by decide) ?_
        refine zs_icmp_le (tgt := 23) (pc := 18) C dX8_planned_18 (by decide) (fun h18 => ?_) (fun h18 => ?_)
        · skip
          refine zs_aload_n (pc := 23) C dX8_planned_23 rfl ?_
          refine zs_getf (pc := 24) C dX8_planned_24 w_X8_49 f_9_7 (by decide) ?_
          refine zs_aload_n (pc := 27) C dX8_planned_27 rfl ?_
          refine zs_getf (pc := 28) C dX8_planned_28 w_X8_34 f_9_4 (by decide) ?_
          refine zs_iload_n (pc := 31) C dX8_planned_31 rfl ?_
          refine zVv2 (pc := 32) C dX8_planned_32 v_X8_248 (c_X2_planForU hX (by omega)) (by decide) (by decide) ⟨Nat.zero_le _, Nat.zero_le _⟩ (Nat.le_of_ble_eq_true rfl) (fun G32 hp32 => ?_)
          obtain ⟨hz32, lo32, hq32⟩ := hp32
          refine zs_aload_n (pc := 35) C dX8_planned_35 rfl ?_
          refine zs_getf (pc := 36) C dX8_planned_36 w_X8_49 f_9_7 (by decide) ?_
          refine zs_iload_n (pc := 39) C dX8_planned_39 rfl ?_
          refine zVip1 (pc := 40) C dX8_planned_40 v_X8_252 (c_X2_isThere hX (by omega)) (by decide) (by decide) ⟨Nat.zero_le _, Nat.zero_le _⟩ (Nat.le_of_ble_eq_true rfl) (fun x40 l40 u40 hp40 => ?_)
          have hq40 := hp40
          refine zs_if_eq (tgt := 59) (pc := 43) C dX8_planned_43 (by decide) (fun h43 => ?_) (fun h43 => ?_)
          · skip
            refine zs_bipush (pc := 59) C dX8_planned_59 (by decide) (by decide) ?_
            exact zs_iret (pc := 61) C hr hlk dX8_planned_61 ⟨by repeat (first | exact zsn_rf | assumption | refine zsn_C (by decide) ?_ | refine zsn_I (by decide) ?_ | refine zsn_J ?_ | refine zsn_P ?_ | refine zsn_m (by assumption) (by decide) ?_ | refine zsn_c (by assumption) (by decide) ?_), (by with_reducible repeat (first | exact TO_rf | assumption | refine TO_o (by decide) ?_ | refine TO_C (by decide) ?_ | refine TO_t (by assumption) ?_ | apply TOw_510 | apply TOw_2026 | apply TOw_2027 | apply TOw_2028 | apply TOw_2029 | apply TOw_2030 | apply TOw_2031 | apply TOw_2032 | apply TOw_2033 | apply TOw_2034 | apply TOw_2035 | apply TOw_2048 | apply TOw_2049 | apply TOw_2050 | apply TOw_2051 | apply TOw_2052 | apply TOw_2053 | apply TOw_2054 | apply TOw_809 | apply TOw_810 | apply TOw_811 | apply TOw_812 | apply TOw_813 | apply TO_J | refine TO_m (by assumption) (by decide) ?_)), trivial⟩
          · skip
            refine zs_iload_n (pc := 46) C dX8_planned_46 rfl ?_
            refine zs_aload_n (pc := 47) C dX8_planned_47 rfl ?_
            refine zs_getf (pc := 48) C dX8_planned_48 w_X8_49 f_9_7 (by decide) ?_
            refine zs_getf (pc := 51) C dX8_planned_51 w_X8_256 f_3_3 (by decide) ?_
            refine zs_iload_n (pc := 54) C dX8_planned_54 rfl ?_
            refine zs_iald (r := 2022) (pc := 55) C dX8_planned_55 a_22 (by decide) (by omega) rfl (r_2022 _) (fun v55 e55 l55 u55 => ?_)
            refine zs_icmp_lt (tgt := 62) (pc := 56) C dX8_planned_56 (by decide) (fun h56 => ?_) (fun h56 => ?_)
            · skip
              refine zs_aload_n (pc := 62) C dX8_planned_62 rfl ?_
              refine zs_getf (pc := 63) C dX8_planned_63 w_X8_49 f_9_7 (by decide) ?_
              refine zs_iload_n (pc := 66) C dX8_planned_66 rfl ?_
              refine zs_iload_n (pc := 67) C dX8_planned_67 rfl ?_
              refine zVip2 (pc := 68) C dX8_planned_68 v_X8_259 (c_X2_stepOf hX (by omega)) (by decide) (by decide) ⟨Nat.zero_le _, Nat.zero_le _⟩ (Nat.le_of_ble_eq_true rfl) (fun x68 l68 u68 hp68 => ?_)
              have hq68 := hp68
              refine zs_istore (pc := 71) C dX8_planned_71 (by decide) ?_
              dsimp only [zset, zclr, znone]
              refine zs_iload_n (pc := 73) C dX8_planned_73 rfl ?_
              refine zs_if_ne (tgt := 84) (pc := 74) C dX8_planned_74 (by decide) (fun h74 => ?_) (fun h74 => ?_)
              · skip
                refine zs_iload (pc := 84) C dX8_planned_84 rfl ?_
                refine zs_iconst (pc := 86) C dX8_planned_86 (by decide) ?_
                first | refine zs_irem (pc := 87) C dX8_planned_87 (by omega) (by omega) (fun hz871 hz872 => ?_) | refine zs_iremF (pc := 87) C dX8_planned_87 (by omega) (fun z87 hz871 hz872 => ?_)
                exact zs_iret (pc := 88) C hr hlk dX8_planned_88 ⟨by repeat (first | exact zsn_rf | assumption | refine zsn_C (by decide) ?_ | refine zsn_I (by decide) ?_ | refine zsn_J ?_ | refine zsn_P ?_ | refine zsn_m (by assumption) (by decide) ?_ | refine zsn_c (by assumption) (by decide) ?_), (by with_reducible repeat (first | exact TO_rf | assumption | refine TO_o (by decide) ?_ | refine TO_C (by decide) ?_ | refine TO_t (by assumption) ?_ | apply TOw_510 | apply TOw_2026 | apply TOw_2027 | apply TOw_2028 | apply TOw_2029 | apply TOw_2030 | apply TOw_2031 | apply TOw_2032 | apply TOw_2033 | apply TOw_2034 | apply TOw_2035 | apply TOw_2048 | apply TOw_2049 | apply TOw_2050 | apply TOw_2051 | apply TOw_2052 | apply TOw_2053 | apply TOw_2054 | apply TOw_809 | apply TOw_810 | apply TOw_811 | apply TOw_812 | apply TOw_813 | apply TO_J | refine TO_m (by assumption) (by decide) ?_)), trivial⟩
              · skip
                refine zs_iload (pc := 77) C dX8_planned_77 rfl ?_
                refine zs_iconst (pc := 79) C dX8_planned_79 (by decide) ?_
                first | refine zs_idiv (pc := 80) C dX8_planned_80 (by omega) (by omega) (fun hz801 hz802 => ?_) | refine zs_idivF (pc := 80) C dX8_planned_80 (by omega) (fun z80 hz801 hz802 => ?_)
                refine zs_goto (tgt := 88) (pc := 81) C dX8_planned_81 (by decide) ?_
                exact zs_iret (pc := 88) C hr hlk dX8_planned_88 ⟨by repeat (first | exact zsn_rf | assumption | refine zsn_C (by decide) ?_ | refine zsn_I (by decide) ?_ | refine zsn_J ?_ | refine zsn_P ?_ | refine zsn_m (by assumption) (by decide) ?_ | refine zsn_c (by assumption) (by decide) ?_), (by with_reducible repeat (first | exact TO_rf | assumption | refine TO_o (by decide) ?_ | refine TO_C (by decide) ?_ | refine TO_t (by assumption) ?_ | apply TOw_510 | apply TOw_2026 | apply TOw_2027 | apply TOw_2028 | apply TOw_2029 | apply TOw_2030 | apply TOw_2031 | apply TOw_2032 | apply TOw_2033 | apply TOw_2034 | apply TOw_2035 | apply TOw_2048 | apply TOw_2049 | apply TOw_2050 | apply TOw_2051 | apply TOw_2052 | apply TOw_2053 | apply TOw_2054 | apply TOw_809 | apply TOw_810 | apply TOw_811 | apply TOw_812 | apply TOw_813 | apply TO_J | refine TO_m (by assumption) (by decide) ?_)), trivial⟩
            · skip
              refine zs_bipush (pc := 59) C dX8_planned_59 (by decide) (by decide) ?_
              exact zs_iret (pc := 61) C hr hlk dX8_planned_61 ⟨by repeat (first | exact zsn_rf | assumption | refine zsn_C (by decide) ?_ | refine zsn_I (by decide) ?_ | refine zsn_J ?_ | refine zsn_P ?_ | refine zsn_m (by assumption) (by decide) ?_ | refine zsn_c (by assumption) (by decide) ?_), (by with_reducible repeat (first | exact TO_rf | assumption | refine TO_o (by decide) ?_ | refine TO_C (by decide) ?_ | refine TO_t (by assumption) ?_ | apply TOw_510 | apply TOw_2026 | apply TOw_2027 | apply TOw_2028 | apply TOw_2029 | apply TOw_2030 | apply TOw_2031 | apply TOw_2032 | apply TOw_2033 | apply TOw_2034 | apply TOw_2035 | apply TOw_2048 | apply TOw_2049 | apply TOw_2050 | apply TOw_2051 | apply TOw_2052 | apply TOw_2053 | apply TOw_2054 | apply TOw_809 | apply TOw_810 | apply TOw_811 | apply TOw_812 | apply TOw_813 | apply TO_J | refine TO_m (by assumption) (by decide) ?_)), trivial⟩
        · skip
          refine zs_iconst (pc := 21) C dX8_planned_21 (by decide) ?_
          exact zs_iret (pc := 22) C hr hlk dX8_planned_22 ⟨by repeat (first | exact zsn_rf | assumption | refine zsn_C (by decide) ?_ | refine zsn_I (by decide) ?_ | refine zsn_J ?_ | refine zsn_P ?_ | refine zsn_m (by assumption) (by decide) ?_ | refine zsn_c (by assumption) (by decide) ?_), (by with_reducible repeat (first | exact TO_rf | assumption | refine TO_o (by decide) ?_ | refine TO_C (by decide) ?_ | refine TO_t (by assumption) ?_ | apply TOw_510 | apply TOw_2026 | apply TOw_2027 | apply TOw_2028 | apply TOw_2029 | apply TOw_2030 | apply TOw_2031 | apply TOw_2032 | apply TOw_2033 | apply TOw_2034 | apply TOw_2035 | apply TOw_2048 | apply TOw_2049 | apply TOw_2050 | apply TOw_2051 | apply TOw_2052 | apply TOw_2053 | apply TOw_2054 | apply TOw_809 | apply TOw_810 | apply TOw_811 | apply TOw_812 | apply TOw_813 | apply TO_J | refine TO_m (by assumption) (by decide) ?_)), trivial⟩
