def lyA (Γ : zΓ) (w : Nat) (n : Int) (G G' : zH) : Prop := ∀ j : Nat, j < 20 → (j : Int) < n → G'.1 2081 (Γ.2.1 w 51) (20 + j) = G.1 2081 (Γ.2.1 w 51) j ∧ G'.1 2082 (Γ.2.1 w 52) (20 + j) = G.1 2082 (Γ.2.1 w 52) j
def lyB (Γ : zΓ) (w : Nat) (n : Int) (G G' : zH) : Prop := ∀ j : Nat, j < 5 → (j : Int) < n → G'.1 2083 (Γ.2.1 w 53) (5 + j) = G.1 2083 (Γ.2.1 w 53) j ∧ G'.1 2084 (Γ.2.1 w 54) (5 + j) = G.1 2084 (Γ.2.1 w 54) j ∧ G'.1 2085 (Γ.2.1 w 55) (5 + j) = G.1 2085 (Γ.2.1 w 55) j ∧ G'.1 2086 (Γ.2.1 w 56) (5 + j) = G.1 2086 (Γ.2.1 w 56) j
def lyS (Γ : zΓ) (w : Nat) (G G' : zH) : Prop := G'.1 2087 (Γ.2.1 w 57) 1 = G.1 2087 (Γ.2.1 w 57) 0 ∧ G'.1 2088 (Γ.2.1 w 58) 1 = G.1 2088 (Γ.2.1 w 58) 0 ∧ G'.1 2089 (Γ.2.1 w 59) 1 = G.1 2089 (Γ.2.1 w 59) 0 ∧ G'.1 2090 (Γ.2.1 w 60) 1 = G.1 2090 (Γ.2.1 w 60) 0
def lyK (Γ : zΓ) (w : Nat) (n : Int) (G G' : zH) : Prop := ∀ k : Nat, (k : Int) < n → G'.1 2093 (Γ.2.1 w 64) (60 + k) = G.1 2093 (Γ.2.1 w 64) k ∧ G'.1 2094 (Γ.2.1 w 65) (60 + k) = G.1 2094 (Γ.2.1 w 65) k
theorem lyA_I {Γ : zΓ} {w : Nat} {n : Int} {G G' : zH} {r a i : Nat} {x : Int} (hr : 2081 ≠ r ∧ 2082 ≠ r) (h : lyA Γ w n G G') : lyA Γ w n G (zuI G' r a i x) := fun j hj hn => by
  rw [zuI_1, if_neg (fun q => hr.1 q.1), zuI_1, if_neg (fun q => hr.2 q.1)]
  exact h j hj hn
theorem lyB_I {Γ : zΓ} {w : Nat} {n : Int} {G G' : zH} {r a i : Nat} {x : Int} (hr : 2083 ≠ r ∧ 2084 ≠ r ∧ 2085 ≠ r ∧ 2086 ≠ r) (h : lyB Γ w n G G') : lyB Γ w n G (zuI G' r a i x) := fun j hj hn => by
  rw [zuI_1, if_neg (fun q => hr.1 q.1), zuI_1, if_neg (fun q => hr.2.1 q.1), zuI_1, if_neg (fun q => hr.2.2.1 q.1), zuI_1, if_neg (fun q => hr.2.2.2 q.1)]
  exact h j hj hn
theorem lyS_I {Γ : zΓ} {w : Nat} {G G' : zH} {r a i : Nat} {x : Int} (hr : 2087 ≠ r ∧ 2088 ≠ r ∧ 2089 ≠ r ∧ 2090 ≠ r) (h : lyS Γ w G G') : lyS Γ w G (zuI G' r a i x) := by
  unfold lyS
  rw [zuI_1, if_neg (fun q => hr.1 q.1), zuI_1, if_neg (fun q => hr.2.1 q.1), zuI_1, if_neg (fun q => hr.2.2.1 q.1), zuI_1, if_neg (fun q => hr.2.2.2 q.1)]
  exact h
theorem lyK_I {Γ : zΓ} {w : Nat} {n : Int} {G G' : zH} {r a i : Nat} {x : Int} (hr : 2093 ≠ r ∧ 2094 ≠ r) (h : lyK Γ w n G G') : lyK Γ w n G (zuI G' r a i x) := fun j hn => by
  rw [zuI_1, if_neg (fun q => hr.1 q.1), zuI_1, if_neg (fun q => hr.2 q.1)]
  exact h j hn
theorem ly_at {G : zH} {r a i i' : Nat} {x y : Int} (e : y = x) (hi : i' = i) : (zuI G r a i x).1 r a i' = y := by
  rw [zuI_1, if_pos ⟨rfl, rfl, hi⟩, e]
theorem ly_ne {G : zH} {r a r' a' i i' : Nat} {x y : Int} (h : r' ≠ r ∨ i' ≠ i) (e : G.1 r' a' i' = y) : (zuI G r a i x).1 r' a' i' = y := by
  rw [zuI_1, if_neg (fun q => by rcases h with h | h; exact h q.1; exact h q.2.2)]
  exact e
theorem lyA_s {Γ : zΓ} {w : Nat} {n u v : Int} {G G' : zH} (hn : 0 ≤ n) (h : lyA Γ w n G G') (eu : u = G.1 2081 (Γ.2.1 w 51) n.toNat) (ev : v = G.1 2082 (Γ.2.1 w 52) n.toNat) : lyA Γ w (n + 1) G (zuI (zuI G' 2081 (Γ.2.1 w 51) (20 + n).toNat u) 2082 (Γ.2.1 w 52) (20 + n).toNat v) := fun j hj hjn => by
  by_cases q : (j : Int) = n
  · have e : j = n.toNat := by omega
    exact ⟨ly_ne (Or.inl (by decide)) (ly_at (by rw [e, eu]) (by omega)), ly_at (by rw [e, ev]) (by omega)⟩
  · have z := h j hj (by omega)
    exact ⟨ly_ne (Or.inl (by decide)) (ly_ne (Or.inr (by omega)) z.1), ly_ne (Or.inr (by omega)) (ly_ne (Or.inl (by decide)) z.2)⟩
theorem lyB_s {Γ : zΓ} {w : Nat} {n u v x y : Int} {G G' : zH} (hn : 0 ≤ n) (h : lyB Γ w n G G') (eu : u = G.1 2083 (Γ.2.1 w 53) n.toNat) (ev : v = G.1 2084 (Γ.2.1 w 54) n.toNat) (ex : x = G.1 2085 (Γ.2.1 w 55) n.toNat) (ey : y = G.1 2086 (Γ.2.1 w 56) n.toNat) : lyB Γ w (n + 1) G (zuI (zuI (zuI (zuI G' 2083 (Γ.2.1 w 53) (5 + n).toNat u) 2084 (Γ.2.1 w 54) (5 + n).toNat v) 2085 (Γ.2.1 w 55) (5 + n).toNat x) 2086 (Γ.2.1 w 56) (5 + n).toNat y) := fun j hj hjn => by
  by_cases q : (j : Int) = n
  · have e : j = n.toNat := by omega
    exact ⟨ly_ne (Or.inl (by decide)) (ly_ne (Or.inl (by decide)) (ly_ne (Or.inl (by decide)) (ly_at (by rw [e, eu]) (by omega)))), ly_ne (Or.inl (by decide)) (ly_ne (Or.inl (by decide)) (ly_at (by rw [e, ev]) (by omega))), ly_ne (Or.inl (by decide)) (ly_at (by rw [e, ex]) (by omega)), ly_at (by rw [e, ey]) (by omega)⟩
  · obtain ⟨z1, z2, z3, z4⟩ := h j hj (by omega)
    have ni : 5 + j ≠ (5 + n).toNat := by omega
    exact ⟨ly_ne (Or.inr ni) (ly_ne (Or.inr ni) (ly_ne (Or.inr ni) (ly_ne (Or.inr ni) z1))), ly_ne (Or.inr ni) (ly_ne (Or.inr ni) (ly_ne (Or.inr ni) (ly_ne (Or.inr ni) z2))), ly_ne (Or.inr ni) (ly_ne (Or.inr ni) (ly_ne (Or.inr ni) (ly_ne (Or.inr ni) z3))), ly_ne (Or.inr ni) (ly_ne (Or.inr ni) (ly_ne (Or.inr ni) (ly_ne (Or.inr ni) z4)))⟩
theorem lyK_s {Γ : zΓ} {w : Nat} {n u v : Int} {G G' : zH} (hn : 0 ≤ n) (h : lyK Γ w n G G') (eu : u = G.1 2093 (Γ.2.1 w 64) n.toNat) (ev : v = G.1 2094 (Γ.2.1 w 65) n.toNat) : lyK Γ w (n + 1) G (zuI (zuI G' 2093 (Γ.2.1 w 64) (60 + n).toNat u) 2094 (Γ.2.1 w 65) (60 + n).toNat v) := fun j hjn => by
  by_cases q : (j : Int) = n
  · have e : j = n.toNat := by omega
    exact ⟨ly_ne (Or.inl (by decide)) (ly_at (by rw [e, eu]) (by omega)), ly_at (by rw [e, ev]) (by omega)⟩
  · have z := h j (by omega)
    exact ⟨ly_ne (Or.inl (by decide)) (ly_ne (Or.inr (by omega)) z.1), ly_ne (Or.inr (by omega)) (ly_ne (Or.inl (by decide)) z.2)⟩
theorem rLy_of {Γ : zΓ} {w : Nat} {G G' : zH} (h1 : lyA Γ w 20 G G') (h2 : lyB Γ w 5 G G') (h3 : lyS Γ w G G') (h4 : lyK Γ w (G.1 2087 (Γ.2.1 w 57) 0) G G') : rLy Γ w G G' := ⟨fun j hj => h1 j hj (by omega), fun j hj => h2 j hj (by omega), h3, fun k hk => h4 k hk⟩
theorem wSm_rf {V : aS} : wSm V V := ⟨rfl, fun _ _ => rfl, fun _ _ => rfl, rfl, rfl, rfl⟩
theorem wTry_cp {A U W : aS} {t i a : Int} (hT : TA A) (hW : WI A W) (h : wCp U W) {m : Nat} (hm : W 18 0 + m ≤ 100) : wFlour (wTry A t i m U) a = wFlour (wTry A t i m W) a := by
  have h60 := hW.1.2
  have hs := wSm_cp h
  have q1 := wGos_try (t := t) (i := i) (a := a) hT hW (U := U) ⟨hs.1.symm, fun j hj => (hs.2.1 j hj).symm, fun j hj => (hs.2.2.1 j hj).symm, hs.2.2.2.1.symm, hs.2.2.2.2.1.symm, hs.2.2.2.2.2.symm⟩ (wFlour_cp h h60 a).symm m hm
  have q2 := wGos_try (t := t) (i := i) (a := a) hT hW wSm_rf rfl m hm
  omega

set_option maxHeartbeats 4000000 in
set_option maxRecDepth 100000 in
theorem c_X9_layTriedW {l : Launch} {Γ : zΓ} {G : zH} {w : Nat} {A W : aS}  (hX : zXs Γ) (hR : rW Γ w 0 W G) (hW : WI A W)  : zMet l Γ yX9_layTried cX9_layTried 2 none 0 [zr 10 w] G (zpv (fun G' => zsm [2081, 2082, 2083, 2084, 2085, 2086, 2087, 2088, 2089, 2090, 2093, 2094, 1072, 1073, 1074] G G' ∧ (rW Γ w 1 W G' ∧ LO G G' ∧ G'.1 1073 w 0 = 0 ∧ G'.1 1074 w 0 = -1 ∧ G'.2.1 = G.2.1))) := by
  refine zMet_of RX9 hX (by decide) rfl (Nat.le_of_ble_eq_true rfl) ?_
  intro p e s m args below meth c C hr hlk
  show Z p l e (zrm 0) s m args below meth c Γ 2 0 0 (MQ below (zQc Γ (zpv (fun G' => zsm [2081, 2082, 2083, 2084, 2085, 2086, 2087, 2088, 2089, 2090, 2093, 2094, 1072, 1073, 1074] G G' ∧ (rW Γ w 1 W G' ∧ LO G G' ∧ G'.1 1073 w 0 = 0 ∧ G'.1 1074 w 0 = -1 ∧ G'.2.1 = G.2.1)))) args s 0 0 (zA Γ)) 0 [some (zr 10 w), none] [] G
  obtain ⟨rA, rB, ⟨r1, r2, r3, r4⟩, rC⟩ := id hR
  have h00 := hW.1
  refine zs_iconst (pc := 0) C dX9_layTried_0 (by decide) ?_
  refine zs_istore_n (pc := 1) C dX9_layTried_1 (by decide) ?_
  dsimp only [zset, zclr, znone]
  have L2 : ∀ (nn : Nat) (x1 : Int) (G1 : zH), (0 ≤ x1 ∧ x1 ≤ 20) → (zsm [2081, 2082, 2083, 2084, 2085, 2086, 2087, 2088, 2089, 2090, 2093, 2094, 1072, 1073, 1074] G G1) → (LO G G1) → (lyA Γ w x1 G G1) → (G1.2.1 = G.2.1) → (20 - x1).toNat < nn → Z p l e (zrm 0) s m args below meth c Γ 2 0 0 (MQ below (zQc Γ (zpv (fun G' => zsm [2081, 2082, 2083, 2084, 2085, 2086, 2087, 2088, 2089, 2090, 2093, 2094, 1072, 1073, 1074] G G' ∧ (rW Γ w 1 W G' ∧ LO G G' ∧ G'.1 1073 w 0 = 0 ∧ G'.1 1074 w 0 = -1 ∧ G'.2.1 = G.2.1)))) args s 0 0 (zA Γ)) 2 [some (zr 10 w), some (zi x1)] [] G1 := by
    intro nn
    induction nn with
    | zero => intro x1 G1 h2_0 h2_1 h2_2 h2_3 h2_4 hm; exact absurd hm (Nat.not_lt_zero _)
    | succ nn ih2 =>
      intro x1 G1 h2_0 h2_1 h2_2 h2_3 h2_4 hm2
      refine zs_iload_n (pc := 2) C dX9_layTried_2 rfl ?_
      refine zs_bipush (pc := 3) C dX9_layTried_3 (by decide) (by decide) ?_
      refine zs_icmp_ge (tgt := 44) (pc := 5) C dX9_layTried_5 (by decide) (fun h5 => ?_) (fun h5 => ?_)
      · skip
        have hx20 : x1 = 20 := by omega
        rw [hx20] at h2_3
        refine zs_iconst (pc := 44) C dX9_layTried_44 (by decide) ?_
        refine zs_istore_n (pc := 45) C dX9_layTried_45 (by decide) ?_
        dsimp only [zset, zclr, znone]
        have L46 : ∀ (nn : Nat) (x1 : Int) (G2 : zH), (0 ≤ x1 ∧ x1 ≤ 5) → (zsm [2081, 2082, 2083, 2084, 2085, 2086, 2087, 2088, 2089, 2090, 2093, 2094, 1072, 1073, 1074] G G2) → (LO G G2) → (lyA Γ w 20 G G2) → (lyB Γ w x1 G G2) → (G2.2.1 = G.2.1) → (5 - x1).toNat < nn → Z p l e (zrm 0) s m args below meth c Γ 2 0 0 (MQ below (zQc Γ (zpv (fun G' => zsm [2081, 2082, 2083, 2084, 2085, 2086, 2087, 2088, 2089, 2090, 2093, 2094, 1072, 1073, 1074] G G' ∧ (rW Γ w 1 W G' ∧ LO G G' ∧ G'.1 1073 w 0 = 0 ∧ G'.1 1074 w 0 = -1 ∧ G'.2.1 = G.2.1)))) args s 0 0 (zA Γ)) 46 [some (zr 10 w), some (zi x1)] [] G2 := by
          intro nn
          induction nn with
          | zero => intro x1 G2 h46_0 h46_1 h46_2 h46_3 h46_4 h46_5 hm; exact absurd hm (Nat.not_lt_zero _)
          | succ nn ih46 =>
            intro x1 G2 h46_0 h46_1 h46_2 h46_3 h46_4 h46_5 hm46
            refine zs_iload_n (pc := 46) C dX9_layTried_46 rfl ?_
            refine zs_iconst (pc := 47) C dX9_layTried_47 (by decide) ?_
            refine zs_icmp_ge (tgt := 113) (pc := 48) C dX9_layTried_48 (by decide) (fun h48 => ?_) (fun h48 => ?_)
            · skip
              have hx5 : x1 = 5 := by omega
              rw [hx5] at h46_4
              refine zs_aload_n (pc := 113) C dX9_layTried_113 rfl ?_
              refine zs_getf (pc := 114) C dX9_layTried_114 w_X9_106 f_10_57 (by decide) ?_
              refine zs_iconst (pc := 117) C dX9_layTried_117 (by decide) ?_
              refine zs_aload_n (pc := 118) C dX9_layTried_118 rfl ?_
              refine zs_getf (pc := 119) C dX9_layTried_119 w_X9_106 f_10_57 (by decide) ?_
              refine zs_iconst (pc := 122) C dX9_layTried_122 (by decide) ?_
              refine zs_iald (r := 2087) (pc := 123) C dX9_layTried_123 a_87 (by decide) (by omega) rfl (r_2087 _) (fun v123 e123 l123 u123 => ?_)
              have y123 : v123 = G.1 2087 (Γ.2.1 w 57) 0 := e123.trans (h46_2 2087 _ _ (by show _ < 1; decide))
              refine zs_iast (r := 2087) (pc := 124) C dX9_layTried_124 a_87 (by decide) (by omega) rfl (r_2087 _) (by omega) ?_
              refine zs_aload_n (pc := 125) C dX9_layTried_125 rfl ?_
              refine zs_getf (pc := 126) C dX9_layTried_126 w_X9_109 f_10_58 (by decide) ?_
              refine zs_iconst (pc := 129) C dX9_layTried_129 (by decide) ?_
              refine zs_aload_n (pc := 130) C dX9_layTried_130 rfl ?_
              refine zs_getf (pc := 131) C dX9_layTried_131 w_X9_109 f_10_58 (by decide) ?_
              refine zs_iconst (pc := 134) C dX9_layTried_134 (by decide) ?_
              refine zs_iald (r := 2088) (pc := 135) C dX9_layTried_135 a_88 (by decide) (by omega) rfl (r_2088 _) (fun v135 e135 l135 u135 => ?_)
              try simp only [zuI_1, zuI_2, zuJ_1, zuJ_2, zuJ_3, zuP_1, zuP_2, zuP_3, zuC_1, zuC_2, reduceIte, Nat.reduceEqDiff, false_and, and_false, true_and, and_true, and_self, or_true, true_or, or_false, false_or] at e135
              have y135 : v135 = G.1 2088 (Γ.2.1 w 58) 0 := e135.trans (h46_2 2088 _ _ (by show _ < 1; decide))
              refine zs_iast (r := 2088) (pc := 136) C dX9_layTried_136 a_88 (by decide) (by omega) rfl (r_2088 _) (by omega) ?_
              refine zs_aload_n (pc := 137) C dX9_layTried_137 rfl ?_
              refine zs_getf (pc := 138) C dX9_layTried_138 w_X9_112 f_10_59 (by decide) ?_
              refine zs_iconst (pc := 141) C dX9_layTried_141 (by decide) ?_
              refine zs_aload_n (pc := 142) C dX9_layTried_142 rfl ?_
              refine zs_getf (pc := 143) C dX9_layTried_143 w_X9_112 f_10_59 (by decide) ?_
              refine zs_iconst (pc := 146) C dX9_layTried_146 (by decide) ?_
              refine zs_iald (r := 2089) (pc := 147) C dX9_layTried_147 a_89 (by decide) (by omega) rfl (r_2089 _) (fun v147 e147 l147 u147 => ?_)
              try simp only [zuI_1, zuI_2, zuJ_1, zuJ_2, zuJ_3, zuP_1, zuP_2, zuP_3, zuC_1, zuC_2, reduceIte, Nat.reduceEqDiff, false_and, and_false, true_and, and_true, and_self, or_true, true_or, or_false, false_or] at e147
              have y147 : v147 = G.1 2089 (Γ.2.1 w 59) 0 := e147.trans (h46_2 2089 _ _ (by show _ < 1; decide))
              refine zs_iast (r := 2089) (pc := 148) C dX9_layTried_148 a_89 (by decide) (by omega) rfl (r_2089 _) (by omega) ?_
              refine zs_aload_n (pc := 149) C dX9_layTried_149 rfl ?_
              refine zs_getf (pc := 150) C dX9_layTried_150 w_X9_115 f_10_60 (by decide) ?_
              refine zs_iconst (pc := 153) C dX9_layTried_153 (by decide) ?_
              refine zs_aload_n (pc := 154) C dX9_layTried_154 rfl ?_
              refine zs_getf (pc := 155) C dX9_layTried_155 w_X9_115 f_10_60 (by decide) ?_
              refine zs_iconst (pc := 158) C dX9_layTried_158 (by decide) ?_
              refine zs_iald (r := 2090) (pc := 159) C dX9_layTried_159 a_90 (by decide) (by omega) rfl (r_2090 _) (fun v159 e159 l159 u159 => ?_)
              try simp only [zuI_1, zuI_2, zuJ_1, zuJ_2, zuJ_3, zuP_1, zuP_2, zuP_3, zuC_1, zuC_2, reduceIte, Nat.reduceEqDiff, false_and, and_false, true_and, and_true, and_self, or_true, true_or, or_false, false_or] at e159
              have y159 : v159 = G.1 2090 (Γ.2.1 w 60) 0 := e159.trans (h46_2 2090 _ _ (by show _ < 1; decide))
              refine zs_iast (r := 2090) (pc := 160) C dX9_layTried_160 a_90 (by decide) (by omega) rfl (r_2090 _) (by omega) ?_
              refine zs_iconst (pc := 161) C dX9_layTried_161 (by decide) ?_
              refine zs_istore_n (pc := 162) C dX9_layTried_162 (by decide) ?_
              dsimp only [zset, zclr, znone]
              have L163 : ∀ (nn : Nat) (x1 : Int) (G3 : zH), (0 ≤ x1 ∧ x1 ≤ W 0 0) → (zsm [2081, 2082, 2083, 2084, 2085, 2086, 2087, 2088, 2089, 2090, 2093, 2094, 1072, 1073, 1074] G G3) → (LO G G3) → (lyA Γ w 20 G G3) → (lyB Γ w 5 G G3) → (lyS Γ w G G3) → (lyK Γ w x1 G G3) → (G3.2.1 = G.2.1) → (60 - x1).toNat < nn → Z p l e (zrm 0) s m args below meth c Γ 2 0 0 (MQ below (zQc Γ (zpv (fun G' => zsm [2081, 2082, 2083, 2084, 2085, 2086, 2087, 2088, 2089, 2090, 2093, 2094, 1072, 1073, 1074] G G' ∧ (rW Γ w 1 W G' ∧ LO G G' ∧ G'.1 1073 w 0 = 0 ∧ G'.1 1074 w 0 = -1 ∧ G'.2.1 = G.2.1)))) args s 0 0 (zA Γ)) 163 [some (zr 10 w), some (zi x1)] [] G3 := by
                intro nn
                induction nn with
                | zero => intro x1 G3 h163_0 h163_1 h163_2 h163_3 h163_4 h163_5 h163_6 h163_7 hm; exact absurd hm (Nat.not_lt_zero _)
                | succ nn ih163 =>
                  intro x1 G3 h163_0 h163_1 h163_2 h163_3 h163_4 h163_5 h163_6 h163_7 hm163
                  refine zs_iload_n (pc := 163) C dX9_layTried_163 rfl ?_
                  refine zs_aload_n (pc := 164) C dX9_layTried_164 rfl ?_
                  refine zs_getf (pc := 165) C dX9_layTried_165 w_X9_106 f_10_57 (by decide) ?_
                  refine zs_iconst (pc := 168) C dX9_layTried_168 (by decide) ?_
                  refine zs_iald (r := 2087) (pc := 169) C dX9_layTried_169 a_87 (by decide) (by omega) rfl (r_2087 _) (fun v169 e169 l169 u169 => ?_)
                  have y169 : v169 = W 0 0 := (e169.trans (h163_2 2087 _ _ (by show _ < 1; decide))).trans r1
                  refine zs_icmp_ge (tgt := 209) (pc := 170) C dX9_layTried_170 (by decide) (fun h170 => ?_) (fun h170 => ?_)
                  · skip
                    have hx0 : x1 = W 0 0 := by omega
                    have hx9 : G.1 2087 (Γ.2.1 w 57) 0 = W 0 0 := r1
                    rw [hx0, ← hx9] at h163_6
                    refine zs_aload_n (pc := 209) C dX9_layTried_209 rfl ?_
                    refine zs_iconst (pc := 210) C dX9_layTried_210 (by decide) ?_
                    refine zs_puti (r := 1073) (pc := 211) C dX9_layTried_211 w_X9_388 f_10_73 rfl (r_1073 0) (by omega) ?_
                    refine zs_aload_n (pc := 214) C dX9_layTried_214 rfl ?_
                    refine zs_iconst (pc := 215) C dX9_layTried_215 (by decide) ?_
                    refine zs_puti (r := 1072) (pc := 216) C dX9_layTried_216 w_X9_391 f_10_72 rfl (r_1072 0) (by omega) ?_
                    refine zs_aload_n (pc := 219) C dX9_layTried_219 rfl ?_
                    refine zs_iconst (pc := 220) C dX9_layTried_220 (by decide) ?_
                    refine zs_puti (r := 1074) (pc := 221) C dX9_layTried_221 w_X9_148 f_10_74 rfl (r_1074 0) (by omega) ?_
                    exact zs_vret (pc := 224) C hr hlk dX9_layTried_224 ⟨by repeat (first | exact zsm_rf | assumption | refine zsm_C (by decide) ?_ | refine zsm_I (by decide) ?_ | refine zsm_J ?_ | refine zsm_c (by assumption) (by decide) ?_), ⟨rW_ly (rLy_of (by repeat (first | assumption | refine lyA_I (by decide) ?_ | refine lyB_I (by decide) ?_ | refine lyS_I (by decide) ?_ | refine lyK_I (by decide) ?_)) (by repeat (first | assumption | refine lyA_I (by decide) ?_ | refine lyB_I (by decide) ?_ | refine lyS_I (by decide) ?_ | refine lyK_I (by decide) ?_)) (by repeat (first | assumption | refine lyA_I (by decide) ?_ | refine lyB_I (by decide) ?_ | refine lyS_I (by decide) ?_ | refine lyK_I (by decide) ?_)) (by repeat (first | assumption | refine lyA_I (by decide) ?_ | refine lyB_I (by decide) ?_ | refine lyS_I (by decide) ?_ | refine lyK_I (by decide) ?_))) hR, (by repeat (first | exact LO_rf | assumption | refine LO_I (by first | exact Nat.zero_le _ | (show 20 ≤ _; omega) | (show 5 ≤ _; omega) | (show 60 ≤ _; omega) | (show 1 ≤ _; decide)) ?_ | refine LO_J ?_)), (by simp only [zuI_1, zuI_2, zuJ_1, zuJ_2, zuJ_3, zuP_1, zuP_2, zuP_3, zuC_1, zuC_2, reduceIte, Nat.reduceEqDiff, false_and, and_false, true_and, and_true, and_self, or_true, true_or, or_false, false_or]), (by simp only [zuI_1, zuI_2, zuJ_1, zuJ_2, zuJ_3, zuP_1, zuP_2, zuP_3, zuC_1, zuC_2, reduceIte, Nat.reduceEqDiff, false_and, and_false, true_and, and_true, and_self, or_true, true_or, or_false, false_or]), h163_7⟩⟩
                  · skip
                    refine zs_aload_n (pc := 173) C dX9_layTried_173 rfl ?_
                    refine zs_getf (pc := 174) C dX9_layTried_174 w_X9_124 f_10_64 (by decide) ?_
                    refine zs_bipush (pc := 177) C dX9_layTried_177 (by decide) (by decide) ?_
                    refine zs_iload_n (pc := 179) C dX9_layTried_179 rfl ?_
                    first | refine zs_iadd (pc := 180) C dX9_layTried_180 (by omega) ?_ | refine zs_iaddF (pc := 180) C dX9_layTried_180 (fun z180 hz1801 hz1802 => ?_)
                    refine zs_aload_n (pc := 181) C dX9_layTried_181 rfl ?_
                    refine zs_getf (pc := 182) C dX9_layTried_182 w_X9_124 f_10_64 (by decide) ?_
                    refine zs_iload_n (pc := 185) C dX9_layTried_185 rfl ?_
                    refine zs_iald (r := 2093) (pc := 186) C dX9_layTried_186 a_93 (by decide) (by omega) rfl (r_2093 _) (fun v186 e186 l186 u186 => ?_)
                    have y186 : v186 = G.1 2093 (Γ.2.1 w 64) x1.toNat := e186.trans (h163_2 2093 _ _ (by show _ < 60; omega))
                    refine zs_iast (r := 2093) (pc := 187) C dX9_layTried_187 a_93 (by decide) (by omega) rfl (r_2093 _) (by omega) ?_
                    refine zs_aload_n (pc := 188) C dX9_layTried_188 rfl ?_
                    refine zs_getf (pc := 189) C dX9_layTried_189 w_X9_127 f_10_65 (by decide) ?_
                    refine zs_bipush (pc := 192) C dX9_layTried_192 (by decide) (by decide) ?_
                    refine zs_iload_n (pc := 194) C dX9_layTried_194 rfl ?_
                    first | refine zs_iadd (pc := 195) C dX9_layTried_195 (by omega) ?_ | refine zs_iaddF (pc := 195) C dX9_layTried_195 (fun z195 hz1951 hz1952 => ?_)
                    refine zs_aload_n (pc := 196) C dX9_layTried_196 rfl ?_
                    refine zs_getf (pc := 197) C dX9_layTried_197 w_X9_127 f_10_65 (by decide) ?_
                    refine zs_iload_n (pc := 200) C dX9_layTried_200 rfl ?_
                    refine zs_iald (r := 2094) (pc := 201) C dX9_layTried_201 a_94 (by decide) (by omega) rfl (r_2094 _) (fun v201 e201 l201 u201 => ?_)
                    try simp only [zuI_1, zuI_2, zuJ_1, zuJ_2, zuJ_3, zuP_1, zuP_2, zuP_3, zuC_1, zuC_2, reduceIte, Nat.reduceEqDiff, false_and, and_false, true_and, and_true, and_self, or_true, true_or, or_false, false_or] at e201
                    have y201 : v201 = G.1 2094 (Γ.2.1 w 65) x1.toNat := e201.trans (h163_2 2094 _ _ (by show _ < 60; omega))
                    refine zs_iast (r := 2094) (pc := 202) C dX9_layTried_202 a_94 (by decide) (by omega) rfl (r_2094 _) (by omega) ?_
                    first | refine zs_iinc (pc := 203) C dX9_layTried_203 rfl (by decide) (by omega) ?_ | refine zs_iincF (pc := 203) C dX9_layTried_203 rfl (by decide) (fun z203 hz2031 hz2032 => ?_)
                    dsimp only [zset, zclr, znone]
                    refine zs_goto (tgt := 163) (pc := 206) C dX9_layTried_206 (by decide) ?_
                    exact zs_wk (ih163 _ _ (by omega) (by repeat (first | exact zsm_rf | assumption | refine zsm_C (by decide) ?_ | refine zsm_I (by decide) ?_ | refine zsm_J ?_ | refine zsm_c (by assumption) (by decide) ?_)) (by repeat (first | exact LO_rf | assumption | refine LO_I (by first | exact Nat.zero_le _ | (show 20 ≤ _; omega) | (show 5 ≤ _; omega) | (show 60 ≤ _; omega) | (show 1 ≤ _; decide)) ?_ | refine LO_J ?_)) (by repeat (first | assumption | refine lyA_I (by decide) ?_ | refine lyB_I (by decide) ?_ | refine lyS_I (by decide) ?_ | refine lyK_I (by decide) ?_)) (by repeat (first | assumption | refine lyA_I (by decide) ?_ | refine lyB_I (by decide) ?_ | refine lyS_I (by decide) ?_ | refine lyK_I (by decide) ?_)) (by repeat (first | assumption | refine lyA_I (by decide) ?_ | refine lyB_I (by decide) ?_ | refine lyS_I (by decide) ?_ | refine lyK_I (by decide) ?_)) (lyK_s (by omega) h163_6 y186 y201) h163_7 (by first | omega | (simp only [zuI_1, zuI_2, zuJ_1, zuJ_2, zuJ_3, zuP_1, zuP_2, zuP_3, zuC_1, zuC_2, reduceIte, Nat.reduceEqDiff, false_and, and_false, true_and, and_true, and_self, or_true, true_or, or_false, false_or]; omega))) (zwk_s rfl (zwk_s rfl zwk_0))
              exact zs_wk (L163 _ _ _ (by omega) (by repeat (first | exact zsm_rf | assumption | refine zsm_C (by decide) ?_ | refine zsm_I (by decide) ?_ | refine zsm_J ?_ | refine zsm_c (by assumption) (by decide) ?_)) (by repeat (first | exact LO_rf | assumption | refine LO_I (by first | exact Nat.zero_le _ | (show 20 ≤ _; omega) | (show 5 ≤ _; omega) | (show 60 ≤ _; omega) | (show 1 ≤ _; decide)) ?_ | refine LO_J ?_)) (by repeat (first | assumption | refine lyA_I (by decide) ?_ | refine lyB_I (by decide) ?_ | refine lyS_I (by decide) ?_ | refine lyK_I (by decide) ?_)) (by repeat (first | assumption | refine lyA_I (by decide) ?_ | refine lyB_I (by decide) ?_ | refine lyS_I (by decide) ?_ | refine lyK_I (by decide) ?_)) ⟨by simp only [zuI_1, zuI_2, zuJ_1, zuJ_2, zuJ_3, zuP_1, zuP_2, zuP_3, zuC_1, zuC_2, reduceIte, Nat.reduceEqDiff, false_and, and_false, true_and, and_true, and_self, or_true, true_or, or_false, false_or]; first | exact y123 | done, by simp only [zuI_1, zuI_2, zuJ_1, zuJ_2, zuJ_3, zuP_1, zuP_2, zuP_3, zuC_1, zuC_2, reduceIte, Nat.reduceEqDiff, false_and, and_false, true_and, and_true, and_self, or_true, true_or, or_false, false_or]; first | exact y135 | done, by simp only [zuI_1, zuI_2, zuJ_1, zuJ_2, zuJ_3, zuP_1, zuP_2, zuP_3, zuC_1, zuC_2, reduceIte, Nat.reduceEqDiff, false_and, and_false, true_and, and_true, and_self, or_true, true_or, or_false, false_or]; first | exact y147 | done, by simp only [zuI_1, zuI_2, zuJ_1, zuJ_2, zuJ_3, zuP_1, zuP_2, zuP_3, zuC_1, zuC_2, reduceIte, Nat.reduceEqDiff, false_and, and_false, true_and, and_true, and_self, or_true, true_or, or_false, false_or]; first | exact y159 | done⟩ (fun j hn => by omega) h46_5 (Nat.lt_succ_self _)) (zwk_s rfl (zwk_s rfl zwk_0))
            · skip
              refine zs_aload_n (pc := 51) C dX9_layTried_51 rfl ?_
              refine zs_getf (pc := 52) C dX9_layTried_52 w_X9_94 f_10_53 (by decide) ?_
              refine zs_iconst (pc := 55) C dX9_layTried_55 (by decide) ?_
              refine zs_iload_n (pc := 56) C dX9_layTried_56 rfl ?_
              first | refine zs_iadd (pc := 57) C dX9_layTried_57 (by omega) ?_ | refine zs_iaddF (pc := 57) C dX9_layTried_57 (fun z57 hz571 hz572 => ?_)
              refine zs_aload_n (pc := 58) C dX9_layTried_58 rfl ?_
              refine zs_getf (pc := 59) C dX9_layTried_59 w_X9_94 f_10_53 (by decide) ?_
              refine zs_iload_n (pc := 62) C dX9_layTried_62 rfl ?_
              refine zs_iald (r := 2083) (pc := 63) C dX9_layTried_63 a_83 (by decide) (by omega) rfl (r_2083 _) (fun v63 e63 l63 u63 => ?_)
              have y63 : v63 = G.1 2083 (Γ.2.1 w 53) x1.toNat := e63.trans (h46_2 2083 _ _ (by show _ < 5; omega))
              refine zs_iast (r := 2083) (pc := 64) C dX9_layTried_64 a_83 (by decide) (by omega) rfl (r_2083 _) (by omega) ?_
              refine zs_aload_n (pc := 65) C dX9_layTried_65 rfl ?_
              refine zs_getf (pc := 66) C dX9_layTried_66 w_X9_97 f_10_54 (by decide) ?_
              refine zs_iconst (pc := 69) C dX9_layTried_69 (by decide) ?_
              refine zs_iload_n (pc := 70) C dX9_layTried_70 rfl ?_
              first | refine zs_iadd (pc := 71) C dX9_layTried_71 (by omega) ?_ | refine zs_iaddF (pc := 71) C dX9_layTried_71 (fun z71 hz711 hz712 => ?_)
              refine zs_aload_n (pc := 72) C dX9_layTried_72 rfl ?_
              refine zs_getf (pc := 73) C dX9_layTried_73 w_X9_97 f_10_54 (by decide) ?_
              refine zs_iload_n (pc := 76) C dX9_layTried_76 rfl ?_
              refine zs_iald (r := 2084) (pc := 77) C dX9_layTried_77 a_84 (by decide) (by omega) rfl (r_2084 _) (fun v77 e77 l77 u77 => ?_)
              try simp only [zuI_1, zuI_2, zuJ_1, zuJ_2, zuJ_3, zuP_1, zuP_2, zuP_3, zuC_1, zuC_2, reduceIte, Nat.reduceEqDiff, false_and, and_false, true_and, and_true, and_self, or_true, true_or, or_false, false_or] at e77
              have y77 : v77 = G.1 2084 (Γ.2.1 w 54) x1.toNat := e77.trans (h46_2 2084 _ _ (by show _ < 5; omega))
              refine zs_iast (r := 2084) (pc := 78) C dX9_layTried_78 a_84 (by decide) (by omega) rfl (r_2084 _) (by omega) ?_
              refine zs_aload_n (pc := 79) C dX9_layTried_79 rfl ?_
              refine zs_getf (pc := 80) C dX9_layTried_80 w_X9_100 f_10_55 (by decide) ?_
              refine zs_iconst (pc := 83) C dX9_layTried_83 (by decide) ?_
              refine zs_iload_n (pc := 84) C dX9_layTried_84 rfl ?_
              first | refine zs_iadd (pc := 85) C dX9_layTried_85 (by omega) ?_ | refine zs_iaddF (pc := 85) C dX9_layTried_85 (fun z85 hz851 hz852 => ?_)
              refine zs_aload_n (pc := 86) C dX9_layTried_86 rfl ?_
              refine zs_getf (pc := 87) C dX9_layTried_87 w_X9_100 f_10_55 (by decide) ?_
              refine zs_iload_n (pc := 90) C dX9_layTried_90 rfl ?_
              refine zs_iald (r := 2085) (pc := 91) C dX9_layTried_91 a_85 (by decide) (by omega) rfl (r_2085 _) (fun v91 e91 l91 u91 => ?_)
              try simp only [zuI_1, zuI_2, zuJ_1, zuJ_2, zuJ_3, zuP_1, zuP_2, zuP_3, zuC_1, zuC_2, reduceIte, Nat.reduceEqDiff, false_and, and_false, true_and, and_true, and_self, or_true, true_or, or_false, false_or] at e91
              have y91 : v91 = G.1 2085 (Γ.2.1 w 55) x1.toNat := e91.trans (h46_2 2085 _ _ (by show _ < 5; omega))
              refine zs_iast (r := 2085) (pc := 92) C dX9_layTried_92 a_85 (by decide) (by omega) rfl (r_2085 _) (by omega) ?_
              refine zs_aload_n (pc := 93) C dX9_layTried_93 rfl ?_
              refine zs_getf (pc := 94) C dX9_layTried_94 w_X9_103 f_10_56 (by decide) ?_
              refine zs_iconst (pc := 97) C dX9_layTried_97 (by decide) ?_
              refine zs_iload_n (pc := 98) C dX9_layTried_98 rfl ?_
              first | refine zs_iadd (pc := 99) C dX9_layTried_99 (by omega) ?_ | refine zs_iaddF (pc := 99) C dX9_layTried_99 (fun z99 hz991 hz992 => ?_)
              refine zs_aload_n (pc := 100) C dX9_layTried_100 rfl ?_
              refine zs_getf (pc := 101) C dX9_layTried_101 w_X9_103 f_10_56 (by decide) ?_
              refine zs_iload_n (pc := 104) C dX9_layTried_104 rfl ?_
              refine zs_iald (r := 2086) (pc := 105) C dX9_layTried_105 a_86 (by decide) (by omega) rfl (r_2086 _) (fun v105 e105 l105 u105 => ?_)
              try simp only [zuI_1, zuI_2, zuJ_1, zuJ_2, zuJ_3, zuP_1, zuP_2, zuP_3, zuC_1, zuC_2, reduceIte, Nat.reduceEqDiff, false_and, and_false, true_and, and_true, and_self, or_true, true_or, or_false, false_or] at e105
              have y105 : v105 = G.1 2086 (Γ.2.1 w 56) x1.toNat := e105.trans (h46_2 2086 _ _ (by show _ < 5; omega))
              refine zs_iast (r := 2086) (pc := 106) C dX9_layTried_106 a_86 (by decide) (by omega) rfl (r_2086 _) (by omega) ?_
              first | refine zs_iinc (pc := 107) C dX9_layTried_107 rfl (by decide) (by omega) ?_ | refine zs_iincF (pc := 107) C dX9_layTried_107 rfl (by decide) (fun z107 hz1071 hz1072 => ?_)
              dsimp only [zset, zclr, znone]
              refine zs_goto (tgt := 46) (pc := 110) C dX9_layTried_110 (by decide) ?_
              exact zs_wk (ih46 _ _ (by omega) (by repeat (first | exact zsm_rf | assumption | refine zsm_C (by decide) ?_ | refine zsm_I (by decide) ?_ | refine zsm_J ?_ | refine zsm_c (by assumption) (by decide) ?_)) (by repeat (first | exact LO_rf | assumption | refine LO_I (by first | exact Nat.zero_le _ | (show 20 ≤ _; omega) | (show 5 ≤ _; omega) | (show 60 ≤ _; omega) | (show 1 ≤ _; decide)) ?_ | refine LO_J ?_)) (by repeat (first | assumption | refine lyA_I (by decide) ?_ | refine lyB_I (by decide) ?_ | refine lyS_I (by decide) ?_ | refine lyK_I (by decide) ?_)) (lyB_s (by omega) h46_4 y63 y77 y91 y105) h46_5 (by first | omega | (simp only [zuI_1, zuI_2, zuJ_1, zuJ_2, zuJ_3, zuP_1, zuP_2, zuP_3, zuC_1, zuC_2, reduceIte, Nat.reduceEqDiff, false_and, and_false, true_and, and_true, and_self, or_true, true_or, or_false, false_or]; omega))) (zwk_s rfl (zwk_s rfl zwk_0))
        exact zs_wk (L46 _ _ _ (by omega) h2_1 h2_2 h2_3 (fun j hj hn => by omega) h2_4 (Nat.lt_succ_self _)) (zwk_s rfl (zwk_s rfl zwk_0))
      · skip
        refine zs_aload_n (pc := 8) C dX9_layTried_8 rfl ?_
        refine zs_getf (pc := 9) C dX9_layTried_9 w_X9_88 f_10_51 (by decide) ?_
        refine zs_bipush (pc := 12) C dX9_layTried_12 (by decide) (by decide) ?_
        refine zs_iload_n (pc := 14) C dX9_layTried_14 rfl ?_
        first | refine zs_iadd (pc := 15) C dX9_layTried_15 (by omega) ?_ | refine zs_iaddF (pc := 15) C dX9_layTried_15 (fun z15 hz151 hz152 => ?_)
        refine zs_aload_n (pc := 16) C dX9_layTried_16 rfl ?_
        refine zs_getf (pc := 17) C dX9_layTried_17 w_X9_88 f_10_51 (by decide) ?_
        refine zs_iload_n (pc := 20) C dX9_layTried_20 rfl ?_
        refine zs_iald (r := 2081) (pc := 21) C dX9_layTried_21 a_81 (by decide) (by omega) rfl (r_2081 _) (fun v21 e21 l21 u21 => ?_)
        have y21 : v21 = G.1 2081 (Γ.2.1 w 51) x1.toNat := e21.trans (h2_2 2081 _ _ (by show _ < 20; omega))
        refine zs_iast (r := 2081) (pc := 22) C dX9_layTried_22 a_81 (by decide) (by omega) rfl (r_2081 _) (by omega) ?_
        refine zs_aload_n (pc := 23) C dX9_layTried_23 rfl ?_
        refine zs_getf (pc := 24) C dX9_layTried_24 w_X9_91 f_10_52 (by decide) ?_
        refine zs_bipush (pc := 27) C dX9_layTried_27 (by decide) (by decide) ?_
        refine zs_iload_n (pc := 29) C dX9_layTried_29 rfl ?_
        first | refine zs_iadd (pc := 30) C dX9_layTried_30 (by omega) ?_ | refine zs_iaddF (pc := 30) C dX9_layTried_30 (fun z30 hz301 hz302 => ?_)
        refine zs_aload_n (pc := 31) C dX9_layTried_31 rfl ?_
        refine zs_getf (pc := 32) C dX9_layTried_32 w_X9_91 f_10_52 (by decide) ?_
        refine zs_iload_n (pc := 35) C dX9_layTried_35 rfl ?_
        refine zs_iald (r := 2082) (pc := 36) C dX9_layTried_36 a_82 (by decide) (by omega) rfl (r_2082 _) (fun v36 e36 l36 u36 => ?_)
        try simp only [zuI_1, zuI_2, zuJ_1, zuJ_2, zuJ_3, zuP_1, zuP_2, zuP_3, zuC_1, zuC_2, reduceIte, Nat.reduceEqDiff, false_and, and_false, true_and, and_true, and_self, or_true, true_or, or_false, false_or] at e36
        have y36 : v36 = G.1 2082 (Γ.2.1 w 52) x1.toNat := e36.trans (h2_2 2082 _ _ (by show _ < 20; omega))
        refine zs_iast (r := 2082) (pc := 37) C dX9_layTried_37 a_82 (by decide) (by omega) rfl (r_2082 _) (by omega) ?_
        first | refine zs_iinc (pc := 38) C dX9_layTried_38 rfl (by decide) (by omega) ?_ | refine zs_iincF (pc := 38) C dX9_layTried_38 rfl (by decide) (fun z38 hz381 hz382 => ?_)
        dsimp only [zset, zclr, znone]
        refine zs_goto (tgt := 2) (pc := 41) C dX9_layTried_41 (by decide) ?_
        exact zs_wk (ih2 _ _ (by omega) (by repeat (first | exact zsm_rf | assumption | refine zsm_C (by decide) ?_ | refine zsm_I (by decide) ?_ | refine zsm_J ?_ | refine zsm_c (by assumption) (by decide) ?_)) (by repeat (first | exact LO_rf | assumption | refine LO_I (by first | exact Nat.zero_le _ | (show 20 ≤ _; omega) | (show 5 ≤ _; omega) | (show 60 ≤ _; omega) | (show 1 ≤ _; decide)) ?_ | refine LO_J ?_)) (lyA_s (by omega) h2_3 y21 y36) h2_4 (by first | omega | (simp only [zuI_1, zuI_2, zuJ_1, zuJ_2, zuJ_3, zuP_1, zuP_2, zuP_3, zuC_1, zuC_2, reduceIte, Nat.reduceEqDiff, false_and, and_false, true_and, and_true, and_self, or_true, true_or, or_false, false_or]; omega))) (zwk_s rfl (zwk_s rfl zwk_0))
  exact zs_wk (L2 _ _ _ (by omega) zsm_rf LO_rf (fun j hj hn => by omega) rfl (Nat.lt_succ_self _)) (zwk_s rfl (zwk_s rfl zwk_0))

set_option maxHeartbeats 4000000 in
set_option maxRecDepth 100000 in
theorem c_X9_runsW {l : Launch} {Γ : zΓ} {G : zH} {w : Nat} {a q t i : Int} {A W : aS}  (hX : zXs Γ) (hR : rW Γ w 1 W G) (hK : kR Γ w A G) (hW : WI A W) (hT : TA A) (ha : 0 ≤ a ∧ W 18 0 + a ≤ 100) (hway : G.1 1074 w 0 = t) (hone : t = 1 ∨ t = 2 → G.1 1075 w 0 = i) (h73 : G.1 1073 w 0 = 0)  : zMet l Γ yX9_runs cX9_runs 4 (some .int) 7 [zr 10 w, zi a, zi q] G (zpi (fun x G' => zsm [1050, 2091, 2092, 2093, 2094, 2095, 2088, 2087, 2082, 2084, 2083, 2089, 2086, 1073, 2090, 1072, 1074] G G' ∧ (x = wFlour (wTry A t i a.toNat W) q ∧ LO G G' ∧ zsj [2079, 2080] G G'))) := by
  refine zMet_of RX9 hX (by decide) rfl (Nat.le_of_ble_eq_true rfl) ?_
  intro p e s m args below meth c C hr hlk
  show Z p l e (zrm 7) s m args below meth c Γ 4 0 0 (MQ below (zQc Γ (zpi (fun x G' => zsm [1050, 2091, 2092, 2093, 2094, 2095, 2088, 2087, 2082, 2084, 2083, 2089, 2086, 1073, 2090, 1072, 1074] G G' ∧ (x = wFlour (wTry A t i a.toNat W) q ∧ LO G G' ∧ zsj [2079, 2080] G G')))) args s 0 0 (zA Γ)) 0 [some (zr 10 w), some (zi a), some (zi q), none] [] G
  refine zs_loc 1 rfl (fun ha1 hb1 => ?_)
  refine zs_loc 2 rfl (fun ha2 hb2 => ?_)
  have h18 := hW.2.2.2.2.2.1
  refine zs_aload_n (pc := 0) C dX9_runs_0 rfl ?_
  refine zs_iload_n (pc := 1) C dX9_runs_1 rfl ?_
  refine zs_puti (r := 1072) (pc := 2) C dX9_runs_2 w_X9_391 f_10_72 rfl (r_1072 0) (by omega) ?_
  refine zs_iconst (pc := 5) C dX9_runs_5 (by decide) ?_
  refine zs_istore_n (pc := 6) C dX9_runs_6 (by decide) ?_
  dsimp only [zset, zclr, znone]
  have L7 : ∀ (nn : Nat) (x3 : Int) (G1 : zH), (0 ≤ x3 ∧ x3 ≤ a) → (zsm [1050, 2091, 2092, 2093, 2094, 2095, 2088, 2087, 2082, 2084, 2083, 2089, 2086, 1073, 2090, 1072, 1074] G G1) → (rW Γ w 1 (wGos A t i x3.toNat W) G1) → (LO G G1) → (G1.1 1072 w 0 = q) → (G1.1 1074 w 0 = t) → (G1.1 1073 w 0 = wTal A t i q x3.toNat W) → (zsj [2079, 2080] G G1) → (a - x3).toNat < nn → Z p l e (zrm 7) s m args below meth c Γ 4 0 0 (MQ below (zQc Γ (zpi (fun x G' => zsm [1050, 2091, 2092, 2093, 2094, 2095, 2088, 2087, 2082, 2084, 2083, 2089, 2086, 1073, 2090, 1072, 1074] G G' ∧ (x = wFlour (wTry A t i a.toNat W) q ∧ LO G G' ∧ zsj [2079, 2080] G G')))) args s 0 0 (zA Γ)) 7 [some (zr 10 w), some (zi a), some (zi q), some (zi x3)] [] G1 := by
    intro nn
    induction nn with
    | zero => intro x3 G1 h7_0 h7_1 h7_2 h7_3 h7_4 h7_5 h7_6 h7_7 hm; exact absurd hm (Nat.not_lt_zero _)
    | succ nn ih7 =>
      intro x3 G1 h7_0 h7_1 h7_2 h7_3 h7_4 h7_5 h7_6 h7_7 hm7
      refine zs_iload_n (pc := 7) C dX9_runs_7 rfl ?_
      refine zs_iload_n (pc := 8) C dX9_runs_8 rfl ?_
      refine zs_icmp_ge (tgt := 23) (pc := 9) C dX9_runs_9 (by decide) (fun h9 => ?_) (fun h9 => ?_)
      · skip
        have hx3 : x3 = a := by omega
        rw [hx3] at h7_2 h7_6
        have hWe := WI_gos (t := t) (i := i) hT hW a.toNat (by omega)
        have hgt := wGos_try (t := t) (i := i) (a := q) hT hW wSm_rf rfl a.toNat (by omega)
        have hfi := wFlour_in (WI_try (t := t) (i := i) hT hW a.toNat (by omega)).1 q
        have hfg := wFlour_in hWe.1 q
        refine zs_aload_n (pc := 23) C dX9_runs_23 rfl ?_
        refine zs_iconst (pc := 24) C dX9_runs_24 (by decide) ?_
        refine zs_puti (r := 1074) (pc := 25) C dX9_runs_25 w_X9_148 f_10_74 rfl (r_1074 0) (by omega) ?_
        refine zs_aload_n (pc := 28) C dX9_runs_28 rfl ?_
        refine zs_iconst (pc := 29) C dX9_runs_29 (by decide) ?_
        refine zs_iload_n (pc := 30) C dX9_runs_30 rfl ?_
        refine zVip2 (pc := 31) C dX9_runs_31 v_X9_468 (c_X9_flourOfW hX (Or.inr rfl) (by repeat (first | assumption | refine rW_sm (by assumption) (by decide) ?_ | refine rW_I (by decide) ?_ | refine rW_J ?_)) hWe.1) (by decide) (by decide) ⟨Nat.zero_le _, Nat.zero_le _⟩ (Nat.le_of_ble_eq_true rfl) (fun x31 l31 u31 hp31 => ?_)
        have hq31 := hp31
        try simp only [zuI_1, zuI_2, zuJ_1, zuJ_2, zuJ_3, zuP_1, zuP_2, zuP_3, zuC_1, zuC_2, reduceIte, Nat.reduceEqDiff, false_and, and_false, true_and, and_true, and_self, or_true, true_or, or_false, false_or] at hq31
        refine zs_aload_n (pc := 34) C dX9_runs_34 rfl ?_
        refine zs_geti (r := 1073) (pc := 35) C dX9_runs_35 w_X9_388 f_10_73 rfl (r_1073 0) (fun v35 e35 l35 u35 => ?_)
        try simp only [zuI_1, zuI_2, zuJ_1, zuJ_2, zuJ_3, zuP_1, zuP_2, zuP_3, zuC_1, zuC_2, reduceIte, Nat.reduceEqDiff, false_and, and_false, true_and, and_true, and_self, or_true, true_or, or_false, false_or] at e35
        have y35 : v35 = wTal A t i q a.toNat W := by first | (exact e35.trans h7_6) | (rw [e35, zuI_1, if_neg (fun z => absurd z.1 (by decide))]; exact h7_6)
        first | refine zs_iadd (pc := 38) C dX9_runs_38 (by omega) ?_ | refine zs_iaddF (pc := 38) C dX9_runs_38 (fun z38 hz381 hz382 => ?_)
        exact zs_iret (pc := 39) C hr hlk dX9_runs_39 ⟨by repeat (first | exact zsm_rf | assumption | refine zsm_C (by decide) ?_ | refine zsm_I (by decide) ?_ | refine zsm_J ?_ | refine zsm_c (by assumption) (by decide) ?_), ⟨by omega, (by repeat (first | exact LO_rf | assumption | refine LO_I (by first | exact Nat.zero_le _ | (show 20 ≤ _; omega) | (show 5 ≤ _; omega) | (show 60 ≤ _; omega) | (show 1 ≤ _; decide)) ?_ | refine LO_J ?_)), (by repeat (first | exact zsj_rf | assumption | refine zsj_I ?_ | refine zsj_J (by decide) ?_ | refine zsj_e (by assumption) ?_ | refine zsj_c (by assumption) (by decide) ?_))⟩⟩
      · skip
        have hWg := WI_gos (t := t) (i := i) hT hW x3.toNat (by omega)
        have hgt := wGos_try (t := t) (i := i) (a := q) hT hW wSm_rf rfl x3.toNat (by omega)
        have hfi := wFlour_in (WI_try (t := t) (i := i) hT hW x3.toNat (by omega)).1 q
        have hfg := wFlour_in hWg.1 q
        refine zs_aload_n (pc := 12) C dX9_runs_12 rfl ?_
        refine zs_iconst (pc := 13) C dX9_runs_13 (by decide) ?_
        refine zVv1 (pc := 14) C dX9_runs_14 v_X9_489 (c_X9_goesByW1 (t := t) (i := i) hX h7_2 (kR_sm h7_1 (by decide) hK) hWg.1 hT h7_5 (fun z => by rw [h7_1.1 1075 (by decide)]; exact hone z) (by omega) (by omega)) (by decide) (by decide) ⟨Nat.zero_le _, Nat.zero_le _⟩ (Nat.le_of_ble_eq_true rfl) (fun G14 hp14 => ?_)
        obtain ⟨hz14, hq14⟩ := hp14
        have hRn := hq14.1
        have hj14 := hq14.2.2.2
        have hO14 : LO G G14 := LO_t hq14.2.2.1 h7_3
        have hT14 := hq14.2.1
        rw [h7_4, h7_6] at hT14
        first | refine zs_iinc (pc := 17) C dX9_runs_17 rfl (by decide) (by omega) ?_ | refine zs_iincF (pc := 17) C dX9_runs_17 rfl (by decide) (fun z17 hz171 hz172 => ?_)
        dsimp only [zset, zclr, znone]
        refine zs_goto (tgt := 7) (pc := 20) C dX9_runs_20 (by decide) ?_
        exact zs_wk (ih7 _ _ (by omega) (by repeat (first | exact zsm_rf | assumption | refine zsm_C (by decide) ?_ | refine zsm_I (by decide) ?_ | refine zsm_J ?_ | refine zsm_c (by assumption) (by decide) ?_)) (by rw [wGos_s (by omega)]; exact hRn) hO14 (by rw [hz14.1 1072 (by decide)]; exact h7_4) (by rw [hz14.1 1074 (by decide)]; exact h7_5) (by rw [wTal_s (by omega)]; exact hT14) (by repeat (first | exact zsj_rf | assumption | refine zsj_I ?_ | refine zsj_J (by decide) ?_ | refine zsj_e (by assumption) ?_ | refine zsj_c (by assumption) (by decide) ?_)) (by first | omega | (simp only [zuI_1, zuI_2, zuJ_1, zuJ_2, zuJ_3, zuP_1, zuP_2, zuP_3, zuC_1, zuC_2, reduceIte, Nat.reduceEqDiff, false_and, and_false, true_and, and_true, and_self, or_true, true_or, or_false, false_or]; omega))) (zwk_s rfl (zwk_s rfl (zwk_s rfl (zwk_s rfl zwk_0))))
  exact zs_wk (L7 _ _ _ (by omega) (by repeat (first | exact zsm_rf | assumption | refine zsm_C (by decide) ?_ | refine zsm_I (by decide) ?_ | refine zsm_J ?_ | refine zsm_c (by assumption) (by decide) ?_)) (by repeat (first | assumption | refine rW_sm (by assumption) (by decide) ?_ | refine rW_I (by decide) ?_ | refine rW_J ?_)) (by repeat (first | exact LO_rf | assumption | refine LO_I (by first | exact Nat.zero_le _ | (show 20 ≤ _; omega) | (show 5 ≤ _; omega) | (show 60 ≤ _; omega) | (show 1 ≤ _; decide)) ?_ | refine LO_J ?_)) (by simp only [zuI_1, zuI_2, zuJ_1, zuJ_2, zuJ_3, zuP_1, zuP_2, zuP_3, zuC_1, zuC_2, reduceIte, Nat.reduceEqDiff, false_and, and_false, true_and, and_true, and_self, or_true, true_or, or_false, false_or]) (by simp only [zuI_1, zuI_2, zuJ_1, zuJ_2, zuJ_3, zuP_1, zuP_2, zuP_3, zuC_1, zuC_2, reduceIte, Nat.reduceEqDiff, false_and, and_false, true_and, and_true, and_self, or_true, true_or, or_false, false_or]; exact hway) (by simp only [zuI_1, zuI_2, zuJ_1, zuJ_2, zuJ_3, zuP_1, zuP_2, zuP_3, zuC_1, zuC_2, reduceIte, Nat.reduceEqDiff, false_and, and_false, true_and, and_true, and_self, or_true, true_or, or_false, false_or]; exact h73) zsj_rf (Nat.lt_succ_self _)) (zwk_s rfl (zwk_s rfl (zwk_s rfl (zwk_s rfl zwk_0))))

set_option maxHeartbeats 4000000 in
set_option maxRecDepth 100000 in
theorem c_X9_isFineW {l : Launch} {Γ : zΓ} {G : zH} {a : Int} (hX : zXs Γ)  : zMet l Γ yX9_isFine cX9_isFine 1 (some .boolean) 1 [zi a] G (zpi (fun x G' => G' = G ∧ ((x = 0 ∨ x = 1) ∧ (x = 1 ↔ 0 ≤ a ∧ a ≤ 999)))) := by
  refine zMet_of RX9 hX (by decide) rfl (Nat.le_of_ble_eq_true rfl) ?_
  intro p e s m args below meth c C hr hlk
  show Z p l e (zrm 1) s m args below meth c Γ 1 0 0 (MQ below (zQc Γ (zpi (fun x G' => G' = G ∧ ((x = 0 ∨ x = 1) ∧ (x = 1 ↔ 0 ≤ a ∧ a ≤ 999))))) args s 0 0 (zA Γ)) 0 [some (zi a)] [] G
  refine zs_loc 0 rfl (fun ha0 hb0 => ?_)
  refine zs_iload_n (pc := 0) C dX9_isFine_0 rfl ?_
  refine zs_iconst (pc := 1) C dX9_isFine_1 (by decide) ?_
  refine zs_sipush (pc := 2) C dX9_isFine_2 (by decide) (by decide) ?_
  refine zSip3 (pc := 5) C dX9_isFine_5 s_X9_223 (c_X9_isIn hX ) (by decide) ⟨Nat.zero_le _, Nat.zero_le _⟩ (Nat.le_of_ble_eq_true rfl) (fun x5 l5 u5 hp5 => ?_)
  have hq5 := hp5
  exact zs_zret (pc := 8) C hr hlk dX9_isFine_8 (by omega) ⟨rfl, (by refine ⟨by omega, ?_⟩; constructor <;> intro hq <;> omega)⟩

set_option maxHeartbeats 4000000 in
set_option maxRecDepth 100000 in
theorem c_X9_runW {l : Launch} {Γ : zΓ} {G : zH} {w : Nat} {a q : Int} {A W : aS}  (hX : zXs Γ) (hR : rW Γ w 0 W G) (hK : kR Γ w A G) (hW : WI A W) (hT : TA A) (hS : rS Γ w W G)  : zMet l Γ yX9_run cX9_run 3 (some .int) 8 [zr 10 w, zi a, zi q] G (zpi (fun x G' => zsm [1050, 2091, 2092, 2093, 2094, 2095, 2088, 2087, 2082, 2084, 2083, 2089, 2086, 1073, 2090, 2081, 2085, 1072, 1074, 1075, 1002] G G' ∧ (x = (if (0 ≤ a ∧ W 18 0 + a ≤ 100) ∧ 0 ≤ q ∧ q ≤ 999 then wFlour (wTry A (-1) 0 a.toNat W) q else -1) ∧ rW Γ w 0 W G' ∧ rS Γ w W G' ∧ zsj [2079, 2080] G G'))) := by
  refine zMet_of RX9 hX (by decide) rfl (Nat.le_of_ble_eq_true rfl) ?_
  intro p e s m args below meth c C hr hlk
  show Z p l e (zrm 8) s m args below meth c Γ 3 0 0 (MQ below (zQc Γ (zpi (fun x G' => zsm [1050, 2091, 2092, 2093, 2094, 2095, 2088, 2087, 2082, 2084, 2083, 2089, 2086, 1073, 2090, 2081, 2085, 1072, 1074, 1075, 1002] G G' ∧ (x = (if (0 ≤ a ∧ W 18 0 + a ≤ 100) ∧ 0 ≤ q ∧ q ≤ 999 then wFlour (wTry A (-1) 0 a.toNat W) q else -1) ∧ rW Γ w 0 W G' ∧ rS Γ w W G' ∧ zsj [2079, 2080] G G')))) args s 0 0 (zA Γ)) 0 [some (zr 10 w), some (zi a), some (zi q)] [] G
  refine zs_loc 1 rfl (fun ha1 hb1 => ?_)
  refine zs_loc 2 rfl (fun ha2 hb2 => ?_)
  refine zs_aload_n (pc := 0) C dX9_run_0 rfl ?_
  refine zs_iconst (pc := 1) C dX9_run_1 (by decide) ?_
  refine zs_puti (r := 1002) (pc := 2) C dX9_run_2 w_X9_178 f_10_2 rfl (r_1002 0) (by omega) ?_
  refine zs_aload_n (pc := 5) C dX9_run_5 rfl ?_
  refine zs_iload_n (pc := 6) C dX9_run_6 rfl ?_
  refine zVip1 (pc := 7) C dX9_run_7 v_X9_492 (c_X9_isRunW hX (by repeat (first | assumption | refine rW_sm (by assumption) (by decide) ?_ | refine rW_I (by decide) ?_ | refine rW_J ?_)) hW) (by decide) (by decide) ⟨Nat.zero_le _, Nat.zero_le _⟩ (Nat.le_of_ble_eq_true rfl) (fun x7 l7 u7 hp7 => ?_)
  have hq7 := hp7
  try simp only [zuI_1, zuI_2, zuJ_1, zuJ_2, zuJ_3, zuP_1, zuP_2, zuP_3, zuC_1, zuC_2, reduceIte, Nat.reduceEqDiff, false_and, and_false, true_and, and_true, and_self, or_true, true_or, or_false, false_or] at hq7
  refine zs_if_eq (tgt := 20) (pc := 10) C dX9_run_10 (by decide) (fun h10 => ?_) (fun h10 => ?_)
  · skip
    have hno : ¬ ((0 ≤ a ∧ W 18 0 + a ≤ 100) ∧ 0 ≤ q ∧ q ≤ 999) := fun z => by have q1 := hq7.2.mpr z.1; first | omega | (have q2 := hq14.2.mpr z.2; omega)
    refine zs_iconst (pc := 20) C dX9_run_20 (by decide) ?_
    exact zs_iret (pc := 21) C hr hlk dX9_run_21 ⟨by repeat (first | exact zsm_rf | assumption | refine zsm_C (by decide) ?_ | refine zsm_I (by decide) ?_ | refine zsm_J ?_ | refine zsm_c (by assumption) (by decide) ?_), ⟨by rw [if_neg hno], (by repeat (first | assumption | refine rW_sm (by assumption) (by decide) ?_ | refine rW_I (by decide) ?_ | refine rW_J ?_)), (rS_sm (rs := [1002]) (zsm_I (by simp) zsm_rf) (by decide) hS), zsj_rf⟩⟩
  · skip
    refine zs_iload_n (pc := 13) C dX9_run_13 rfl ?_
    refine zSip1 (pc := 14) C dX9_run_14 s_X9_465 (c_X9_isFineW hX ) (by decide) ⟨Nat.zero_le _, Nat.zero_le _⟩ (Nat.le_of_ble_eq_true rfl) (fun x14 l14 u14 hp14 => ?_)
    have hq14 := hp14
    try simp only [zuI_1, zuI_2, zuJ_1, zuJ_2, zuJ_3, zuP_1, zuP_2, zuP_3, zuC_1, zuC_2, reduceIte, Nat.reduceEqDiff, false_and, and_false, true_and, and_true, and_self, or_true, true_or, or_false, false_or] at hq14
    refine zs_if_ne (tgt := 22) (pc := 17) C dX9_run_17 (by decide) (fun h17 => ?_) (fun h17 => ?_)
    · skip
      have hok : (0 ≤ a ∧ W 18 0 + a ≤ 100) ∧ 0 ≤ q ∧ q ≤ 999 := ⟨hq7.2.mp (by omega), hq14.2.mp (by omega)⟩
      refine zs_aload_n (pc := 22) C dX9_run_22 rfl ?_
      refine zVv0 (pc := 23) C dX9_run_23 v_X9_495 (c_X9_layTriedW (A := A) hX (by repeat (first | assumption | refine rW_sm (by assumption) (by decide) ?_ | refine rW_I (by decide) ?_ | refine rW_J ?_)) hW) (by decide) (by decide) ⟨Nat.zero_le _, Nat.zero_le _⟩ (Nat.le_of_ble_eq_true rfl) (fun G23 hp23 => ?_)
      obtain ⟨hz23, hq23⟩ := hp23
      try simp only [zuI_1, zuI_2, zuJ_1, zuJ_2, zuJ_3, zuP_1, zuP_2, zuP_3, zuC_1, zuC_2, reduceIte, Nat.reduceEqDiff, false_and, and_false, true_and, and_true, and_self, or_true, true_or, or_false, false_or] at hq23
      refine zs_aload_n (pc := 26) C dX9_run_26 rfl ?_
      refine zs_iload_n (pc := 27) C dX9_run_27 rfl ?_
      refine zs_iload_n (pc := 28) C dX9_run_28 rfl ?_
      refine zVi2 (pc := 29) C dX9_run_29 v_X9_498 (c_X9_runsW (t := -1) (i := 0) hX hq23.1 (by repeat (first | assumption | refine kR_sm (by assumption) (by decide) ?_ | refine kR_I (by decide) ?_ | refine kR_J ?_)) hW hT hok.1 hq23.2.2.2.1 (fun z => by omega) hq23.2.2.1) (by decide) (by decide) ⟨Nat.zero_le _, Nat.zero_le _⟩ (Nat.le_of_ble_eq_true rfl) (fun x29 G29 l29 u29 hp29 => ?_)
      obtain ⟨hz29, hq29⟩ := hp29
      have hO29 : LO G G29 := LO_t hq29.2.1 (LO_t hq23.2.1 (LO_I (Nat.zero_le _) LO_rf))
      have hj29 := hq29.2.2
      exact zs_iret (pc := 32) C hr hlk dX9_run_32 (by
          have hzz : zsm [1050, 2091, 2092, 2093, 2094, 2095, 2088, 2087, 2082, 2084, 2083, 2089, 2086, 1073, 2090, 2081, 2085, 1072, 1074, 1075, 1002] G G29 := (by repeat (first | exact zsm_rf | assumption | refine zsm_C (by decide) ?_ | refine zsm_I (by decide) ?_ | refine zsm_J ?_ | refine zsm_c (by assumption) (by decide) ?_))
          exact ⟨hzz, ⟨by rw [if_pos hok]; exact hq29.1, rW_lo hW.1.2 hO29 hR, rS_lo hW.1.2 hzz (by decide) hO29 hS, zsj_c hj29 (by decide) (zsj_e (G1 := G) hq23.2.2.2.2 zsj_rf)⟩⟩)
    · skip
      have hno : ¬ ((0 ≤ a ∧ W 18 0 + a ≤ 100) ∧ 0 ≤ q ∧ q ≤ 999) := fun z => by have q1 := hq7.2.mpr z.1; first | omega | (have q2 := hq14.2.mpr z.2; omega)
      refine zs_iconst (pc := 20) C dX9_run_20 (by decide) ?_
      exact zs_iret (pc := 21) C hr hlk dX9_run_21 ⟨by repeat (first | exact zsm_rf | assumption | refine zsm_C (by decide) ?_ | refine zsm_I (by decide) ?_ | refine zsm_J ?_ | refine zsm_c (by assumption) (by decide) ?_), ⟨by rw [if_neg hno], (by repeat (first | assumption | refine rW_sm (by assumption) (by decide) ?_ | refine rW_I (by decide) ?_ | refine rW_J ?_)), (rS_sm (rs := [1002]) (zsm_I (by simp) zsm_rf) (by decide) hS), zsj_rf⟩⟩

set_option maxHeartbeats 4000000 in
set_option maxRecDepth 100000 in
theorem c_X9_triedW {l : Launch} {Γ : zΓ} {G : zH} {w : Nat} {k i a q : Int} {A W : aS}  (hX : zXs Γ) (hR : rW Γ w 0 W G) (hK : kR Γ w A G) (hW : WI A W) (hT : TA A) (hS : rS Γ w W G)  : zMet l Γ yX9_tried cX9_tried 5 (some .int) 8 [zr 10 w, zi k, zi i, zi a, zi q] G (zpi (fun x G' => zsm [1050, 2091, 2092, 2093, 2094, 2095, 2088, 2087, 2082, 2084, 2083, 2089, 2086, 1073, 2090, 2081, 2085, 1072, 1074, 1075, 1002] G G' ∧ (x = (if ((0 ≤ a ∧ W 18 0 + a ≤ 100) ∧ 0 ≤ q ∧ q ≤ 999) ∧ ((k = 1 ∧ 0 ≤ i ∧ i < A 4 1) ∨ (k = 2 ∧ 0 ≤ i ∧ i < A 4 0) ∨ ((k = 0 ∨ k = 3 ∨ k = 4) ∧ i = 0)) then wFlour (wTry A k i a.toNat W) q else -1) ∧ rW Γ w 0 W G' ∧ rS Γ w W G' ∧ zsj [2079, 2080] G G'))) := by
  refine zMet_of RX9 hX (by decide) rfl (Nat.le_of_ble_eq_true rfl) ?_
  intro p e s m args below meth c C hr hlk
  show Z p l e (zrm 8) s m args below meth c Γ 5 0 0 (MQ below (zQc Γ (zpi (fun x G' => zsm [1050, 2091, 2092, 2093, 2094, 2095, 2088, 2087, 2082, 2084, 2083, 2089, 2086, 1073, 2090, 2081, 2085, 1072, 1074, 1075, 1002] G G' ∧ (x = (if ((0 ≤ a ∧ W 18 0 + a ≤ 100) ∧ 0 ≤ q ∧ q ≤ 999) ∧ ((k = 1 ∧ 0 ≤ i ∧ i < A 4 1) ∨ (k = 2 ∧ 0 ≤ i ∧ i < A 4 0) ∨ ((k = 0 ∨ k = 3 ∨ k = 4) ∧ i = 0)) then wFlour (wTry A k i a.toNat W) q else -1) ∧ rW Γ w 0 W G' ∧ rS Γ w W G' ∧ zsj [2079, 2080] G G')))) args s 0 0 (zA Γ)) 0 [some (zr 10 w), some (zi k), some (zi i), some (zi a), some (zi q)] [] G
  refine zs_loc 1 rfl (fun ha1 hb1 => ?_)
  refine zs_loc 2 rfl (fun ha2 hb2 => ?_)
  refine zs_loc 3 rfl (fun ha3 hb3 => ?_)
  refine zs_loc 4 rfl (fun ha4 hb4 => ?_)
  refine zs_aload_n (pc := 0) C dX9_tried_0 rfl ?_
  refine zs_iconst (pc := 1) C dX9_tried_1 (by decide) ?_
  refine zs_puti (r := 1002) (pc := 2) C dX9_tried_2 w_X9_178 f_10_2 rfl (r_1002 0) (by omega) ?_
  refine zs_iload_n (pc := 5) C dX9_tried_5 rfl ?_
  refine zs_iconst (pc := 6) C dX9_tried_6 (by decide) ?_
  refine zs_iconst (pc := 7) C dX9_tried_7 (by decide) ?_
  refine zSip3 (pc := 8) C dX9_tried_8 s_X9_223 (c_X9_isIn hX ) (by decide) ⟨Nat.zero_le _, Nat.zero_le _⟩ (Nat.le_of_ble_eq_true rfl) (fun x8 l8 u8 hp8 => ?_)
  have hq8 := hp8
  try simp only [zuI_1, zuI_2, zuJ_1, zuJ_2, zuJ_3, zuP_1, zuP_2, zuP_3, zuC_1, zuC_2, reduceIte, Nat.reduceEqDiff, false_and, and_false, true_and, and_true, and_self, or_true, true_or, or_false, false_or] at hq8
  refine zs_if_eq (tgt := 30) (pc := 11) C dX9_tried_11 (by decide) (fun h11 => ?_) (fun h11 => ?_)
  · skip
    have hno : ¬ (((0 ≤ a ∧ W 18 0 + a ≤ 100) ∧ 0 ≤ q ∧ q ≤ 999) ∧ ((k = 1 ∧ 0 ≤ i ∧ i < A 4 1) ∨ (k = 2 ∧ 0 ≤ i ∧ i < A 4 0) ∨ ((k = 0 ∨ k = 3 ∨ k = 4) ∧ i = 0))) := fun z => by first | (have := z.2; omega) | (have q1 := hq16.2.mpr z.1.1; first | omega | (have q2 := hq24.2.mpr z.1.2; omega))
    refine zs_iconst (pc := 30) C dX9_tried_30 (by decide) ?_
    exact zs_iret (pc := 31) C hr hlk dX9_tried_31 ⟨by repeat (first | exact zsm_rf | assumption | refine zsm_C (by decide) ?_ | refine zsm_I (by decide) ?_ | refine zsm_J ?_ | refine zsm_c (by assumption) (by decide) ?_), ⟨by rw [if_neg hno], (by repeat (first | assumption | refine rW_sm (by assumption) (by decide) ?_ | refine rW_I (by decide) ?_ | refine rW_J ?_)), (rS_sm (rs := [1002]) (zsm_I (by simp) zsm_rf) (by decide) hS), zsj_rf⟩⟩
  · skip
    refine zs_aload_n (pc := 14) C dX9_tried_14 rfl ?_
    refine zs_iload_n (pc := 15) C dX9_tried_15 rfl ?_
    refine zVip1 (pc := 16) C dX9_tried_16 v_X9_492 (c_X9_isRunW hX (by repeat (first | assumption | refine rW_sm (by assumption) (by decide) ?_ | refine rW_I (by decide) ?_ | refine rW_J ?_)) hW) (by decide) (by decide) ⟨Nat.zero_le _, Nat.zero_le _⟩ (Nat.le_of_ble_eq_true rfl) (fun x16 l16 u16 hp16 => ?_)
    have hq16 := hp16
    try simp only [zuI_1, zuI_2, zuJ_1, zuJ_2, zuJ_3, zuP_1, zuP_2, zuP_3, zuC_1, zuC_2, reduceIte, Nat.reduceEqDiff, false_and, and_false, true_and, and_true, and_self, or_true, true_or, or_false, false_or] at hq16
    refine zs_if_eq (tgt := 30) (pc := 19) C dX9_tried_19 (by decide) (fun h19 => ?_) (fun h19 => ?_)
    · skip
      have hno : ¬ (((0 ≤ a ∧ W 18 0 + a ≤ 100) ∧ 0 ≤ q ∧ q ≤ 999) ∧ ((k = 1 ∧ 0 ≤ i ∧ i < A 4 1) ∨ (k = 2 ∧ 0 ≤ i ∧ i < A 4 0) ∨ ((k = 0 ∨ k = 3 ∨ k = 4) ∧ i = 0))) := fun z => by first | (have := z.2; omega) | (have q1 := hq16.2.mpr z.1.1; first | omega | (have q2 := hq24.2.mpr z.1.2; omega))
      refine zs_iconst (pc := 30) C dX9_tried_30 (by decide) ?_
      exact zs_iret (pc := 31) C hr hlk dX9_tried_31 ⟨by repeat (first | exact zsm_rf | assumption | refine zsm_C (by decide) ?_ | refine zsm_I (by decide) ?_ | refine zsm_J ?_ | refine zsm_c (by assumption) (by decide) ?_), ⟨by rw [if_neg hno], (by repeat (first | assumption | refine rW_sm (by assumption) (by decide) ?_ | refine rW_I (by decide) ?_ | refine rW_J ?_)), (rS_sm (rs := [1002]) (zsm_I (by simp) zsm_rf) (by decide) hS), zsj_rf⟩⟩
    · skip
      refine zs_iload (pc := 22) C dX9_tried_22 rfl ?_
      refine zSip1 (pc := 24) C dX9_tried_24 s_X9_465 (c_X9_isFineW hX ) (by decide) ⟨Nat.zero_le _, Nat.zero_le _⟩ (Nat.le_of_ble_eq_true rfl) (fun x24 l24 u24 hp24 => ?_)
      have hq24 := hp24
      try simp only [zuI_1, zuI_2, zuJ_1, zuJ_2, zuJ_3, zuP_1, zuP_2, zuP_3, zuC_1, zuC_2, reduceIte, Nat.reduceEqDiff, false_and, and_false, true_and, and_true, and_self, or_true, true_or, or_false, false_or] at hq24
      refine zs_if_ne (tgt := 32) (pc := 27) C dX9_tried_27 (by decide) (fun h27 => ?_) (fun h27 => ?_)
      · skip
        refine zs_iload_n (pc := 32) C dX9_tried_32 rfl ?_
        refine zs_iconst (pc := 33) C dX9_tried_33 (by decide) ?_
        refine zs_icmp_ne (tgt := 48) (pc := 34) C dX9_tried_34 (by decide) (fun h34 => ?_) (fun h34 => ?_)
        · skip
          refine zs_iload_n (pc := 48) C dX9_tried_48 rfl ?_
          refine zs_iconst (pc := 49) C dX9_tried_49 (by decide) ?_
          refine zs_icmp_ne (tgt := 64) (pc := 50) C dX9_tried_50 (by decide) (fun h50 => ?_) (fun h50 => ?_)
          · skip
            refine zs_iload_n (pc := 64) C dX9_tried_64 rfl ?_
            refine zs_if_eq (tgt := 70) (pc := 65) C dX9_tried_65 (by decide) (fun h65 => ?_) (fun h65 => ?_)
            · skip
              have hok : ((0 ≤ a ∧ W 18 0 + a ≤ 100) ∧ 0 ≤ q ∧ q ≤ 999) ∧ ((k = 1 ∧ 0 ≤ i ∧ i < A 4 1) ∨ (k = 2 ∧ 0 ≤ i ∧ i < A 4 0) ∨ ((k = 0 ∨ k = 3 ∨ k = 4) ∧ i = 0)) := ⟨⟨hq16.2.mp (by omega), hq24.2.mp (by omega)⟩, by first | omega | (have q1 := hq39.2.mp (by omega); omega) | (have q1 := hq55.2.mp (by omega); omega)⟩
              refine zs_aload_n (pc := 70) C dX9_tried_70 rfl ?_
              refine zVv0 (pc := 71) C dX9_tried_71 v_X9_495 (c_X9_layTriedW (A := A) hX (by repeat (first | assumption | refine rW_sm (by assumption) (by decide) ?_ | refine rW_I (by decide) ?_ | refine rW_J ?_)) hW) (by decide) (by decide) ⟨Nat.zero_le _, Nat.zero_le _⟩ (Nat.le_of_ble_eq_true rfl) (fun G71 hp71 => ?_)
              obtain ⟨hz71, hq71⟩ := hp71
              try simp only [zuI_1, zuI_2, zuJ_1, zuJ_2, zuJ_3, zuP_1, zuP_2, zuP_3, zuC_1, zuC_2, reduceIte, Nat.reduceEqDiff, false_and, and_false, true_and, and_true, and_self, or_true, true_or, or_false, false_or] at hq71
              have hR71 := hq71.1
              refine zs_aload_n (pc := 74) C dX9_tried_74 rfl ?_
              refine zs_iload_n (pc := 75) C dX9_tried_75 rfl ?_
              refine zs_puti (r := 1074) (pc := 76) C dX9_tried_76 w_X9_148 f_10_74 rfl (r_1074 0) (by omega) ?_
              refine zs_aload_n (pc := 79) C dX9_tried_79 rfl ?_
              refine zs_iload_n (pc := 80) C dX9_tried_80 rfl ?_
              refine zs_puti (r := 1075) (pc := 81) C dX9_tried_81 w_X9_482 f_10_75 rfl (r_1075 0) (by omega) ?_
              refine zs_aload_n (pc := 84) C dX9_tried_84 rfl ?_
              refine zs_iload_n (pc := 85) C dX9_tried_85 rfl ?_
              refine zs_iload (pc := 86) C dX9_tried_86 rfl ?_
              refine zVi2 (pc := 88) C dX9_tried_88 v_X9_498 (c_X9_runsW (t := k) (i := i) hX (by repeat (first | assumption | refine rW_sm (by assumption) (by decide) ?_ | refine rW_I (by decide) ?_ | refine rW_J ?_)) (by repeat (first | assumption | refine kR_sm (by assumption) (by decide) ?_ | refine kR_I (by decide) ?_ | refine kR_J ?_)) hW hT hok.1.1 (by simp only [zuI_1, zuI_2, zuJ_1, zuJ_2, zuJ_3, zuP_1, zuP_2, zuP_3, zuC_1, zuC_2, reduceIte, Nat.reduceEqDiff, false_and, and_false, true_and, and_true, and_self, or_true, true_or, or_false, false_or]) (fun z => by simp only [zuI_1, zuI_2, zuJ_1, zuJ_2, zuJ_3, zuP_1, zuP_2, zuP_3, zuC_1, zuC_2, reduceIte, Nat.reduceEqDiff, false_and, and_false, true_and, and_true, and_self, or_true, true_or, or_false, false_or]) (by simp only [zuI_1, zuI_2, zuJ_1, zuJ_2, zuJ_3, zuP_1, zuP_2, zuP_3, zuC_1, zuC_2, reduceIte, Nat.reduceEqDiff, false_and, and_false, true_and, and_true, and_self, or_true, true_or, or_false, false_or]; exact hq71.2.2.1)) (by decide) (by decide) ⟨Nat.zero_le _, Nat.zero_le _⟩ (Nat.le_of_ble_eq_true rfl) (fun x88 G88 l88 u88 hp88 => ?_)
              obtain ⟨hz88, hq88⟩ := hp88
              try simp only [zuI_1, zuI_2, zuJ_1, zuJ_2, zuJ_3, zuP_1, zuP_2, zuP_3, zuC_1, zuC_2, reduceIte, Nat.reduceEqDiff, false_and, and_false, true_and, and_true, and_self, or_true, true_or, or_false, false_or] at hq88
              have hO88 : LO G G88 := LO_t hq88.2.1 (LO_I (Nat.zero_le _) (LO_I (Nat.zero_le _) (LO_t hq71.2.1 (LO_I (Nat.zero_le _) LO_rf))))
              have hj88 := hq88.2.2
              exact zs_iret (pc := 91) C hr hlk dX9_tried_91 (by
                  have hzz : zsm [1050, 2091, 2092, 2093, 2094, 2095, 2088, 2087, 2082, 2084, 2083, 2089, 2086, 1073, 2090, 2081, 2085, 1072, 1074, 1075, 1002] G G88 := (by repeat (first | exact zsm_rf | assumption | refine zsm_C (by decide) ?_ | refine zsm_I (by decide) ?_ | refine zsm_J ?_ | refine zsm_c (by assumption) (by decide) ?_))
                  exact ⟨hzz, ⟨by rw [if_pos hok]; exact hq88.1, rW_lo hW.1.2 hO88 hR, rS_lo hW.1.2 hzz (by decide) hO88 hS, zsj_c hj88 (by decide) (zsj_e (G1 := G) hq71.2.2.2.2 zsj_rf)⟩⟩)
            · skip
              have hno : ¬ (((0 ≤ a ∧ W 18 0 + a ≤ 100) ∧ 0 ≤ q ∧ q ≤ 999) ∧ ((k = 1 ∧ 0 ≤ i ∧ i < A 4 1) ∨ (k = 2 ∧ 0 ≤ i ∧ i < A 4 0) ∨ ((k = 0 ∨ k = 3 ∨ k = 4) ∧ i = 0))) := fun z => by have q0 := z.2; first | omega | (have q1 := hq39.2.mpr (by omega); omega) | (have q1 := hq55.2.mpr (by omega); omega)
              refine zs_iconst (pc := 68) C dX9_tried_68 (by decide) ?_
              exact zs_iret (pc := 69) C hr hlk dX9_tried_69 ⟨by repeat (first | exact zsm_rf | assumption | refine zsm_C (by decide) ?_ | refine zsm_I (by decide) ?_ | refine zsm_J ?_ | refine zsm_c (by assumption) (by decide) ?_), ⟨by rw [if_neg hno], (by repeat (first | assumption | refine rW_sm (by assumption) (by decide) ?_ | refine rW_I (by decide) ?_ | refine rW_J ?_)), (rS_sm (rs := [1002]) (zsm_I (by simp) zsm_rf) (by decide) hS), zsj_rf⟩⟩
          · skip
            refine zs_aload_n (pc := 53) C dX9_tried_53 rfl ?_
            refine zs_iload_n (pc := 54) C dX9_tried_54 rfl ?_
            refine zVip1 (pc := 55) C dX9_tried_55 v_X9_407 (c_X9_isSinW (A := A) hX (by repeat (first | assumption | refine kR_sm (by assumption) (by decide) ?_ | refine kR_I (by decide) ?_ | refine kR_J ?_))) (by decide) (by decide) ⟨Nat.zero_le _, Nat.zero_le _⟩ (Nat.le_of_ble_eq_true rfl) (fun x55 l55 u55 hp55 => ?_)
            have hq55 := hp55
            try simp only [zuI_1, zuI_2, zuJ_1, zuJ_2, zuJ_3, zuP_1, zuP_2, zuP_3, zuC_1, zuC_2, reduceIte, Nat.reduceEqDiff, false_and, and_false, true_and, and_true, and_self, or_true, true_or, or_false, false_or] at hq55
            refine zs_if_ne (tgt := 70) (pc := 58) C dX9_tried_58 (by decide) (fun h58 => ?_) (fun h58 => ?_)
            · skip
              have hok : ((0 ≤ a ∧ W 18 0 + a ≤ 100) ∧ 0 ≤ q ∧ q ≤ 999) ∧ ((k = 1 ∧ 0 ≤ i ∧ i < A 4 1) ∨ (k = 2 ∧ 0 ≤ i ∧ i < A 4 0) ∨ ((k = 0 ∨ k = 3 ∨ k = 4) ∧ i = 0)) := ⟨⟨hq16.2.mp (by omega), hq24.2.mp (by omega)⟩, by first | omega | (have q1 := hq39.2.mp (by omega); omega) | (have q1 := hq55.2.mp (by omega); omega)⟩
              refine zs_aload_n (pc := 70) C dX9_tried_70 rfl ?_
              refine zVv0 (pc := 71) C dX9_tried_71 v_X9_495 (c_X9_layTriedW (A := A) hX (by repeat (first | assumption | refine rW_sm (by assumption) (by decide) ?_ | refine rW_I (by decide) ?_ | refine rW_J ?_)) hW) (by decide) (by decide) ⟨Nat.zero_le _, Nat.zero_le _⟩ (Nat.le_of_ble_eq_true rfl) (fun G71 hp71 => ?_)
              obtain ⟨hz71, hq71⟩ := hp71
              try simp only [zuI_1, zuI_2, zuJ_1, zuJ_2, zuJ_3, zuP_1, zuP_2, zuP_3, zuC_1, zuC_2, reduceIte, Nat.reduceEqDiff, false_and, and_false, true_and, and_true, and_self, or_true, true_or, or_false, false_or] at hq71
              have hR71 := hq71.1
              refine zs_aload_n (pc := 74) C dX9_tried_74 rfl ?_
              refine zs_iload_n (pc := 75) C dX9_tried_75 rfl ?_
              refine zs_puti (r := 1074) (pc := 76) C dX9_tried_76 w_X9_148 f_10_74 rfl (r_1074 0) (by omega) ?_
              refine zs_aload_n (pc := 79) C dX9_tried_79 rfl ?_
              refine zs_iload_n (pc := 80) C dX9_tried_80 rfl ?_
              refine zs_puti (r := 1075) (pc := 81) C dX9_tried_81 w_X9_482 f_10_75 rfl (r_1075 0) (by omega) ?_
              refine zs_aload_n (pc := 84) C dX9_tried_84 rfl ?_
              refine zs_iload_n (pc := 85) C dX9_tried_85 rfl ?_
              refine zs_iload (pc := 86) C dX9_tried_86 rfl ?_
              refine zVi2 (pc := 88) C dX9_tried_88 v_X9_498 (c_X9_runsW (t := k) (i := i) hX (by repeat (first | assumption | refine rW_sm (by assumption) (by decide) ?_ | refine rW_I (by decide) ?_ | refine rW_J ?_)) (by repeat (first | assumption | refine kR_sm (by assumption) (by decide) ?_ | refine kR_I (by decide) ?_ | refine kR_J ?_)) hW hT hok.1.1 (by simp only [zuI_1, zuI_2, zuJ_1, zuJ_2, zuJ_3, zuP_1, zuP_2, zuP_3, zuC_1, zuC_2, reduceIte, Nat.reduceEqDiff, false_and, and_false, true_and, and_true, and_self, or_true, true_or, or_false, false_or]) (fun z => by simp only [zuI_1, zuI_2, zuJ_1, zuJ_2, zuJ_3, zuP_1, zuP_2, zuP_3, zuC_1, zuC_2, reduceIte, Nat.reduceEqDiff, false_and, and_false, true_and, and_true, and_self, or_true, true_or, or_false, false_or]) (by simp only [zuI_1, zuI_2, zuJ_1, zuJ_2, zuJ_3, zuP_1, zuP_2, zuP_3, zuC_1, zuC_2, reduceIte, Nat.reduceEqDiff, false_and, and_false, true_and, and_true, and_self, or_true, true_or, or_false, false_or]; exact hq71.2.2.1)) (by decide) (by decide) ⟨Nat.zero_le _, Nat.zero_le _⟩ (Nat.le_of_ble_eq_true rfl) (fun x88 G88 l88 u88 hp88 => ?_)
              obtain ⟨hz88, hq88⟩ := hp88
              try simp only [zuI_1, zuI_2, zuJ_1, zuJ_2, zuJ_3, zuP_1, zuP_2, zuP_3, zuC_1, zuC_2, reduceIte, Nat.reduceEqDiff, false_and, and_false, true_and, and_true, and_self, or_true, true_or, or_false, false_or] at hq88
              have hO88 : LO G G88 := LO_t hq88.2.1 (LO_I (Nat.zero_le _) (LO_I (Nat.zero_le _) (LO_t hq71.2.1 (LO_I (Nat.zero_le _) LO_rf))))
              have hj88 := hq88.2.2
              exact zs_iret (pc := 91) C hr hlk dX9_tried_91 (by
                  have hzz : zsm [1050, 2091, 2092, 2093, 2094, 2095, 2088, 2087, 2082, 2084, 2083, 2089, 2086, 1073, 2090, 2081, 2085, 1072, 1074, 1075, 1002] G G88 := (by repeat (first | exact zsm_rf | assumption | refine zsm_C (by decide) ?_ | refine zsm_I (by decide) ?_ | refine zsm_J ?_ | refine zsm_c (by assumption) (by decide) ?_))
                  exact ⟨hzz, ⟨by rw [if_pos hok]; exact hq88.1, rW_lo hW.1.2 hO88 hR, rS_lo hW.1.2 hzz (by decide) hO88 hS, zsj_c hj88 (by decide) (zsj_e (G1 := G) hq71.2.2.2.2 zsj_rf)⟩⟩)
            · skip
              refine zs_goto (tgt := 68) (pc := 61) C dX9_tried_61 (by decide) ?_
              have hno : ¬ (((0 ≤ a ∧ W 18 0 + a ≤ 100) ∧ 0 ≤ q ∧ q ≤ 999) ∧ ((k = 1 ∧ 0 ≤ i ∧ i < A 4 1) ∨ (k = 2 ∧ 0 ≤ i ∧ i < A 4 0) ∨ ((k = 0 ∨ k = 3 ∨ k = 4) ∧ i = 0))) := fun z => by have q0 := z.2; first | omega | (have q1 := hq39.2.mpr (by omega); omega) | (have q1 := hq55.2.mpr (by omega); omega)
              refine zs_iconst (pc := 68) C dX9_tried_68 (by decide) ?_
              exact zs_iret (pc := 69) C hr hlk dX9_tried_69 ⟨by repeat (first | exact zsm_rf | assumption | refine zsm_C (by decide) ?_ | refine zsm_I (by decide) ?_ | refine zsm_J ?_ | refine zsm_c (by assumption) (by decide) ?_), ⟨by rw [if_neg hno], (by repeat (first | assumption | refine rW_sm (by assumption) (by decide) ?_ | refine rW_I (by decide) ?_ | refine rW_J ?_)), (rS_sm (rs := [1002]) (zsm_I (by simp) zsm_rf) (by decide) hS), zsj_rf⟩⟩
        · skip
          refine zs_aload_n (pc := 37) C dX9_tried_37 rfl ?_
          refine zs_iload_n (pc := 38) C dX9_tried_38 rfl ?_
          refine zVip1 (pc := 39) C dX9_tried_39 v_X9_398 (c_X9_isPersonW (A := A) hX (by repeat (first | assumption | refine kR_sm (by assumption) (by decide) ?_ | refine kR_I (by decide) ?_ | refine kR_J ?_))) (by decide) (by decide) ⟨Nat.zero_le _, Nat.zero_le _⟩ (Nat.le_of_ble_eq_true rfl) (fun x39 l39 u39 hp39 => ?_)
          have hq39 := hp39
          try simp only [zuI_1, zuI_2, zuJ_1, zuJ_2, zuJ_3, zuP_1, zuP_2, zuP_3, zuC_1, zuC_2, reduceIte, Nat.reduceEqDiff, false_and, and_false, true_and, and_true, and_self, or_true, true_or, or_false, false_or] at hq39
          refine zs_if_ne (tgt := 70) (pc := 42) C dX9_tried_42 (by decide) (fun h42 => ?_) (fun h42 => ?_)
          · skip
            have hok : ((0 ≤ a ∧ W 18 0 + a ≤ 100) ∧ 0 ≤ q ∧ q ≤ 999) ∧ ((k = 1 ∧ 0 ≤ i ∧ i < A 4 1) ∨ (k = 2 ∧ 0 ≤ i ∧ i < A 4 0) ∨ ((k = 0 ∨ k = 3 ∨ k = 4) ∧ i = 0)) := ⟨⟨hq16.2.mp (by omega), hq24.2.mp (by omega)⟩, by first | omega | (have q1 := hq39.2.mp (by omega); omega) | (have q1 := hq55.2.mp (by omega); omega)⟩
            refine zs_aload_n (pc := 70) C dX9_tried_70 rfl ?_
            refine zVv0 (pc := 71) C dX9_tried_71 v_X9_495 (c_X9_layTriedW (A := A) hX (by repeat (first | assumption | refine rW_sm (by assumption) (by decide) ?_ | refine rW_I (by decide) ?_ | refine rW_J ?_)) hW) (by decide) (by decide) ⟨Nat.zero_le _, Nat.zero_le _⟩ (Nat.le_of_ble_eq_true rfl) (fun G71 hp71 => ?_)
            obtain ⟨hz71, hq71⟩ := hp71
            try simp only [zuI_1, zuI_2, zuJ_1, zuJ_2, zuJ_3, zuP_1, zuP_2, zuP_3, zuC_1, zuC_2, reduceIte, Nat.reduceEqDiff, false_and, and_false, true_and, and_true, and_self, or_true, true_or, or_false, false_or] at hq71
            have hR71 := hq71.1
            refine zs_aload_n (pc := 74) C dX9_tried_74 rfl ?_
            refine zs_iload_n (pc := 75) C dX9_tried_75 rfl ?_
            refine zs_puti (r := 1074) (pc := 76) C dX9_tried_76 w_X9_148 f_10_74 rfl (r_1074 0) (by omega) ?_
            refine zs_aload_n (pc := 79) C dX9_tried_79 rfl ?_
            refine zs_iload_n (pc := 80) C dX9_tried_80 rfl ?_
            refine zs_puti (r := 1075) (pc := 81) C dX9_tried_81 w_X9_482 f_10_75 rfl (r_1075 0) (by omega) ?_
            refine zs_aload_n (pc := 84) C dX9_tried_84 rfl ?_
            refine zs_iload_n (pc := 85) C dX9_tried_85 rfl ?_
            refine zs_iload (pc := 86) C dX9_tried_86 rfl ?_
            refine zVi2 (pc := 88) C dX9_tried_88 v_X9_498 (c_X9_runsW (t := k) (i := i) hX (by repeat (first | assumption | refine rW_sm (by assumption) (by decide) ?_ | refine rW_I (by decide) ?_ | refine rW_J ?_)) (by repeat (first | assumption | refine kR_sm (by assumption) (by decide) ?_ | refine kR_I (by decide) ?_ | refine kR_J ?_)) hW hT hok.1.1 (by simp only [zuI_1, zuI_2, zuJ_1, zuJ_2, zuJ_3, zuP_1, zuP_2, zuP_3, zuC_1, zuC_2, reduceIte, Nat.reduceEqDiff, false_and, and_false, true_and, and_true, and_self, or_true, true_or, or_false, false_or]) (fun z => by simp only [zuI_1, zuI_2, zuJ_1, zuJ_2, zuJ_3, zuP_1, zuP_2, zuP_3, zuC_1, zuC_2, reduceIte, Nat.reduceEqDiff, false_and, and_false, true_and, and_true, and_self, or_true, true_or, or_false, false_or]) (by simp only [zuI_1, zuI_2, zuJ_1, zuJ_2, zuJ_3, zuP_1, zuP_2, zuP_3, zuC_1, zuC_2, reduceIte, Nat.reduceEqDiff, false_and, and_false, true_and, and_true, and_self, or_true, true_or, or_false, false_or]; exact hq71.2.2.1)) (by decide) (by decide) ⟨Nat.zero_le _, Nat.zero_le _⟩ (Nat.le_of_ble_eq_true rfl) (fun x88 G88 l88 u88 hp88 => ?_)
            obtain ⟨hz88, hq88⟩ := hp88
            try simp only [zuI_1, zuI_2, zuJ_1, zuJ_2, zuJ_3, zuP_1, zuP_2, zuP_3, zuC_1, zuC_2, reduceIte, Nat.reduceEqDiff, false_and, and_false, true_and, and_true, and_self, or_true, true_or, or_false, false_or] at hq88
            have hO88 : LO G G88 := LO_t hq88.2.1 (LO_I (Nat.zero_le _) (LO_I (Nat.zero_le _) (LO_t hq71.2.1 (LO_I (Nat.zero_le _) LO_rf))))
            have hj88 := hq88.2.2
            exact zs_iret (pc := 91) C hr hlk dX9_tried_91 (by
                have hzz : zsm [1050, 2091, 2092, 2093, 2094, 2095, 2088, 2087, 2082, 2084, 2083, 2089, 2086, 1073, 2090, 2081, 2085, 1072, 1074, 1075, 1002] G G88 := (by repeat (first | exact zsm_rf | assumption | refine zsm_C (by decide) ?_ | refine zsm_I (by decide) ?_ | refine zsm_J ?_ | refine zsm_c (by assumption) (by decide) ?_))
                exact ⟨hzz, ⟨by rw [if_pos hok]; exact hq88.1, rW_lo hW.1.2 hO88 hR, rS_lo hW.1.2 hzz (by decide) hO88 hS, zsj_c hj88 (by decide) (zsj_e (G1 := G) hq71.2.2.2.2 zsj_rf)⟩⟩)
          · skip
            refine zs_goto (tgt := 68) (pc := 45) C dX9_tried_45 (by decide) ?_
            have hno : ¬ (((0 ≤ a ∧ W 18 0 + a ≤ 100) ∧ 0 ≤ q ∧ q ≤ 999) ∧ ((k = 1 ∧ 0 ≤ i ∧ i < A 4 1) ∨ (k = 2 ∧ 0 ≤ i ∧ i < A 4 0) ∨ ((k = 0 ∨ k = 3 ∨ k = 4) ∧ i = 0))) := fun z => by have q0 := z.2; first | omega | (have q1 := hq39.2.mpr (by omega); omega) | (have q1 := hq55.2.mpr (by omega); omega)
            refine zs_iconst (pc := 68) C dX9_tried_68 (by decide) ?_
            exact zs_iret (pc := 69) C hr hlk dX9_tried_69 ⟨by repeat (first | exact zsm_rf | assumption | refine zsm_C (by decide) ?_ | refine zsm_I (by decide) ?_ | refine zsm_J ?_ | refine zsm_c (by assumption) (by decide) ?_), ⟨by rw [if_neg hno], (by repeat (first | assumption | refine rW_sm (by assumption) (by decide) ?_ | refine rW_I (by decide) ?_ | refine rW_J ?_)), (rS_sm (rs := [1002]) (zsm_I (by simp) zsm_rf) (by decide) hS), zsj_rf⟩⟩
      · skip
        have hno : ¬ (((0 ≤ a ∧ W 18 0 + a ≤ 100) ∧ 0 ≤ q ∧ q ≤ 999) ∧ ((k = 1 ∧ 0 ≤ i ∧ i < A 4 1) ∨ (k = 2 ∧ 0 ≤ i ∧ i < A 4 0) ∨ ((k = 0 ∨ k = 3 ∨ k = 4) ∧ i = 0))) := fun z => by first | (have := z.2; omega) | (have q1 := hq16.2.mpr z.1.1; first | omega | (have q2 := hq24.2.mpr z.1.2; omega))
        refine zs_iconst (pc := 30) C dX9_tried_30 (by decide) ?_
        exact zs_iret (pc := 31) C hr hlk dX9_tried_31 ⟨by repeat (first | exact zsm_rf | assumption | refine zsm_C (by decide) ?_ | refine zsm_I (by decide) ?_ | refine zsm_J ?_ | refine zsm_c (by assumption) (by decide) ?_), ⟨by rw [if_neg hno], (by repeat (first | assumption | refine rW_sm (by assumption) (by decide) ?_ | refine rW_I (by decide) ?_ | refine rW_J ?_)), (rS_sm (rs := [1002]) (zsm_I (by simp) zsm_rf) (by decide) hS), zsj_rf⟩⟩
