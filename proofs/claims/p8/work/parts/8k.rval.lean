/-- longs of all other regions stay -/
def zsj (rs : List Nat) (G G' : zH) : Prop := ∀ r : Nat, r ∉ rs → G'.2.1 r = G.2.1 r
theorem zsj_rf {rs : List Nat} {G : zH} : zsj rs G G := fun _ _ => rfl
theorem zsj_e {rs : List Nat} {G G1 G2 : zH} (h2 : G2.2.1 = G1.2.1) (h : zsj rs G G1) : zsj rs G G2 := fun r hr => by rw [h2]; exact h r hr
theorem zsj_I {rs : List Nat} {G G1 : zH} {r a i : Nat} {x : Int} (h : zsj rs G G1) : zsj rs G (zuI G1 r a i x) := h
theorem zsj_J {rs : List Nat} {G G1 : zH} {r a i : Nat} {x : Int} (hr : r ∈ rs) (h : zsj rs G G1) : zsj rs G (zuJ G1 r a i x) := fun r' hr' => by
  funext a' i'
  rw [zuJ_2, if_neg (fun q => hr' (by rw [q.1]; exact hr))]
  rw [h r' hr']
theorem zsj_c {rs rs' : List Nat} {G G1 G2 : zH} (h2 : zsj rs' G1 G2) (hs : ∀ r ∈ rs', r ∈ rs) (h1 : zsj rs G G1) : zsj rs G G2 := fun r hr => (h2 r (fun q => hr (hs r q))).trans (h1 r hr)
theorem rk_q {s : Int} (h : 0 ≤ s ∧ s ≤ 14) : (rk s = 0 ↔ s = 0) ∧ (rk s = 1 ↔ s = 1) ∧ (rk s = 2 ↔ s = 4) ∧ (rk s = 3 ↔ s = 3) ∧ (rk s = 4 ↔ s = 2) ∧ (5 ≤ rk s → rk s = s) ∧ (5 ≤ s → rk s = s) ∧ 0 ≤ rk s ∧ rk s ≤ 14 := by
  unfold rk
  rcases (show s = 0 ∨ s = 1 ∨ s = 2 ∨ s = 3 ∨ s = 4 ∨ s = 5 ∨ s = 6 ∨ s = 7 ∨ s = 8 ∨ s = 9 ∨ s = 10 ∨ s = 11 ∨ s = 12 ∨ s = 13 ∨ s = 14 by omega) with rfl | rfl | rfl | rfl | rfl | rfl | rfl | rfl | rfl | rfl | rfl | rfl | rfl | rfl | rfl <;> decide
theorem zuI_eq {G : zH} {r a i : Nat} {x : Int} : (zuI G r a i x).1 r a i = x := if_pos ⟨rfl, rfl, rfl⟩
theorem kb_1 {e x y v : Int} {P Q : Prop} [Decidable P] (hg : e = 0 ∧ P) (hx : x = 0) (hy : y = v) (hQ : Q) : (x = if e = 0 ∧ P then 0 else 1) ∧ y = (if e = 0 ∧ P then v else 0) ∧ Q := ⟨by rw [if_pos hg]; exact hx, by rw [if_pos hg]; exact hy, hQ⟩
theorem kb_2 {e x y v : Int} {P Q : Prop} [Decidable P] (hg : ¬ (e = 0 ∧ P)) (hx : x = 1) (hy : y = 0) (hQ : Q) : (x = if e = 0 ∧ P then 0 else 1) ∧ y = (if e = 0 ∧ P then v else 0) ∧ Q := ⟨by rw [if_neg hg]; exact hx, by rw [if_neg hg]; exact hy, hQ⟩
theorem kf_1 {e x : Int} {P : Prop} [Decidable P] (he : e = 0) (hP : P) (hx : x = 0) : x = if e = 0 ∧ P then 0 else 1 := by rw [if_pos ⟨he, hP⟩, hx]
theorem kf_2 {e x : Int} {P : Prop} [Decidable P] (h : e ≠ 0 ∨ ¬ P) (hx : x = 1) : x = if e = 0 ∧ P then 0 else 1 := by rw [if_neg (fun q => h.elim (fun z => z q.1) (fun z => z q.2)), hx]

set_option maxHeartbeats 4000000 in
set_option maxRecDepth 100000 in
theorem c_X9_boundedK {l : Launch} {Γ : zΓ} {G : zH} {w : Nat} {a : Int} (hX : zXs Γ)  : zMet l Γ yX9_bounded cX9_bounded 3 (some .long) 0 [zr 10 w, zj a] G (zpj (fun x G' => zsm [1050] G G' ∧ ((G'.1 1050 w 0 = if G.1 1050 w 0 = 0 ∧ inb a then 0 else 1) ∧ x = (if G.1 1050 w 0 = 0 ∧ inb a then a else 0) ∧ G'.2.1 = G.2.1))) := by
  refine zMet_of RX9 hX (by decide) rfl (Nat.le_of_ble_eq_true rfl) ?_
  intro p e s m args below meth c C hr hlk
  show Z p l e (zrm 0) s m args below meth c Γ 3 0 0 (MQ below (zQc Γ (zpj (fun x G' => zsm [1050] G G' ∧ ((G'.1 1050 w 0 = if G.1 1050 w 0 = 0 ∧ inb a then 0 else 1) ∧ x = (if G.1 1050 w 0 = 0 ∧ inb a then a else 0) ∧ G'.2.1 = G.2.1)))) args s 0 0 (zA Γ)) 0 [some (zr 10 w), some (zj a), none] [] G
  refine zs_aload_n (pc := 0) C dX9_bounded_0 rfl ?_
  refine zs_aload_n (pc := 1) C dX9_bounded_1 rfl ?_
  refine zs_getz (r := 1050) (pc := 2) C dX9_bounded_2 w_X9_357 f_10_50 rfl (r_1050 0) (fun v2 e2 l2 u2 => ?_)
  refine zs_if_ne (tgt := 24) (pc := 5) C dX9_bounded_5 (by decide) (fun h5 => ?_) (fun h5 => ?_)
  · skip
    have hg : ¬ (G.1 1050 w 0 = 0 ∧ inb a) := fun q => by have q1 := q.1; have q2 := q.2; unfold inb at q2; omega
    refine zs_iconst (pc := 24) C dX9_bounded_24 (by decide) ?_
    refine zs_goto (tgt := 29) (pc := 25) C dX9_bounded_25 (by decide) ?_
    refine zs_putz (r := 1050) (pc := 29) C dX9_bounded_29 w_X9_357 f_10_50 rfl (r_1050 0) (by omega) (by omega) ?_
    refine zs_aload_n (pc := 32) C dX9_bounded_32 rfl ?_
    refine zs_getz (r := 1050) (pc := 33) C dX9_bounded_33 w_X9_357 f_10_50 rfl (r_1050 0) (fun v33 e33 l33 u33 => ?_)
    try simp only [zuI_1, zuI_2, zuJ_1, zuJ_2, zuJ_3, zuP_1, zuP_2, zuP_3, zuC_1, zuC_2, reduceIte, Nat.reduceEqDiff, false_and, and_false, true_and, and_true, and_self, or_true, true_or, or_false, false_or] at e33
    refine zs_if_eq (tgt := 43) (pc := 36) C dX9_bounded_36 (by decide) (fun h36 => ?_) (fun h36 => ?_)
    · skip
      refine zs_lload_n (pc := 43) C dX9_bounded_43 rfl ?_
      exact zs_lret (pc := 44) C hr hlk dX9_bounded_44 (by first | (exfalso; omega) | exact ⟨by repeat (first | exact zsm_rf | assumption | refine zsm_C (by decide) ?_ | refine zsm_I (by decide) ?_ | refine zsm_J ?_ | refine zsm_c (by assumption) (by decide) ?_), (by first | exact kb_1 hg zuI_eq rfl rfl | exact kb_2 hg zuI_eq rfl rfl)⟩)
    · skip
      refine zs_lconst (n := 0) (pc := 39) C dX9_bounded_39 rfl (by decide) ?_
      refine zs_goto (tgt := 44) (pc := 40) C dX9_bounded_40 (by decide) ?_
      exact zs_lret (pc := 44) C hr hlk dX9_bounded_44 (by first | (exfalso; omega) | exact ⟨by repeat (first | exact zsm_rf | assumption | refine zsm_C (by decide) ?_ | refine zsm_I (by decide) ?_ | refine zsm_J ?_ | refine zsm_c (by assumption) (by decide) ?_), (by first | exact kb_1 hg zuI_eq rfl rfl | exact kb_2 hg zuI_eq rfl rfl)⟩)
  · skip
    refine zs_lload_n (pc := 8) C dX9_bounded_8 rfl ?_
    refine zs_ldc2 (n := 1000000000000) (pc := 9) C dX9_bounded_9 q_X9_360 (by decide) (by decide) ?_
    refine zs_lcmp (pc := 12) C dX9_bounded_12 (fun z12 hz12 => ?_)
    refine zs_if_gt (tgt := 24) (pc := 13) C dX9_bounded_13 (by decide) (fun h13 => ?_) (fun h13 => ?_)
    · skip
      have hg : ¬ (G.1 1050 w 0 = 0 ∧ inb a) := fun q => by have q1 := q.1; have q2 := q.2; unfold inb at q2; omega
      refine zs_iconst (pc := 24) C dX9_bounded_24 (by decide) ?_
      refine zs_goto (tgt := 29) (pc := 25) C dX9_bounded_25 (by decide) ?_
      refine zs_putz (r := 1050) (pc := 29) C dX9_bounded_29 w_X9_357 f_10_50 rfl (r_1050 0) (by omega) (by omega) ?_
      refine zs_aload_n (pc := 32) C dX9_bounded_32 rfl ?_
      refine zs_getz (r := 1050) (pc := 33) C dX9_bounded_33 w_X9_357 f_10_50 rfl (r_1050 0) (fun v33 e33 l33 u33 => ?_)
      try simp only [zuI_1, zuI_2, zuJ_1, zuJ_2, zuJ_3, zuP_1, zuP_2, zuP_3, zuC_1, zuC_2, reduceIte, Nat.reduceEqDiff, false_and, and_false, true_and, and_true, and_self, or_true, true_or, or_false, false_or] at e33
      refine zs_if_eq (tgt := 43) (pc := 36) C dX9_bounded_36 (by decide) (fun h36 => ?_) (fun h36 => ?_)
      · skip
        refine zs_lload_n (pc := 43) C dX9_bounded_43 rfl ?_
        exact zs_lret (pc := 44) C hr hlk dX9_bounded_44 (by first | (exfalso; omega) | exact ⟨by repeat (first | exact zsm_rf | assumption | refine zsm_C (by decide) ?_ | refine zsm_I (by decide) ?_ | refine zsm_J ?_ | refine zsm_c (by assumption) (by decide) ?_), (by first | exact kb_1 hg zuI_eq rfl rfl | exact kb_2 hg zuI_eq rfl rfl)⟩)
      · skip
        refine zs_lconst (n := 0) (pc := 39) C dX9_bounded_39 rfl (by decide) ?_
        refine zs_goto (tgt := 44) (pc := 40) C dX9_bounded_40 (by decide) ?_
        exact zs_lret (pc := 44) C hr hlk dX9_bounded_44 (by first | (exfalso; omega) | exact ⟨by repeat (first | exact zsm_rf | assumption | refine zsm_C (by decide) ?_ | refine zsm_I (by decide) ?_ | refine zsm_J ?_ | refine zsm_c (by assumption) (by decide) ?_), (by first | exact kb_1 hg zuI_eq rfl rfl | exact kb_2 hg zuI_eq rfl rfl)⟩)
    · skip
      refine zs_lload_n (pc := 16) C dX9_bounded_16 rfl ?_
      refine zs_ldc2 (n := -1000000000000) (pc := 17) C dX9_bounded_17 q_X9_362 (by decide) (by decide) ?_
      refine zs_lcmp (pc := 20) C dX9_bounded_20 (fun z20 hz20 => ?_)
      refine zs_if_ge (tgt := 28) (pc := 21) C dX9_bounded_21 (by decide) (fun h21 => ?_) (fun h21 => ?_)
      · skip
        have hg : G.1 1050 w 0 = 0 ∧ inb a := ⟨by omega, by unfold inb; omega⟩
        refine zs_iconst (pc := 28) C dX9_bounded_28 (by decide) ?_
        refine zs_putz (r := 1050) (pc := 29) C dX9_bounded_29 w_X9_357 f_10_50 rfl (r_1050 0) (by omega) (by omega) ?_
        refine zs_aload_n (pc := 32) C dX9_bounded_32 rfl ?_
        refine zs_getz (r := 1050) (pc := 33) C dX9_bounded_33 w_X9_357 f_10_50 rfl (r_1050 0) (fun v33 e33 l33 u33 => ?_)
        try simp only [zuI_1, zuI_2, zuJ_1, zuJ_2, zuJ_3, zuP_1, zuP_2, zuP_3, zuC_1, zuC_2, reduceIte, Nat.reduceEqDiff, false_and, and_false, true_and, and_true, and_self, or_true, true_or, or_false, false_or] at e33
        refine zs_if_eq (tgt := 43) (pc := 36) C dX9_bounded_36 (by decide) (fun h36 => ?_) (fun h36 => ?_)
        · skip
          refine zs_lload_n (pc := 43) C dX9_bounded_43 rfl ?_
          exact zs_lret (pc := 44) C hr hlk dX9_bounded_44 (by first | (exfalso; omega) | exact ⟨by repeat (first | exact zsm_rf | assumption | refine zsm_C (by decide) ?_ | refine zsm_I (by decide) ?_ | refine zsm_J ?_ | refine zsm_c (by assumption) (by decide) ?_), (by first | exact kb_1 hg zuI_eq rfl rfl | exact kb_2 hg zuI_eq rfl rfl)⟩)
        · skip
          refine zs_lconst (n := 0) (pc := 39) C dX9_bounded_39 rfl (by decide) ?_
          refine zs_goto (tgt := 44) (pc := 40) C dX9_bounded_40 (by decide) ?_
          exact zs_lret (pc := 44) C hr hlk dX9_bounded_44 (by first | (exfalso; omega) | exact ⟨by repeat (first | exact zsm_rf | assumption | refine zsm_C (by decide) ?_ | refine zsm_I (by decide) ?_ | refine zsm_J ?_ | refine zsm_c (by assumption) (by decide) ?_), (by first | exact kb_1 hg zuI_eq rfl rfl | exact kb_2 hg zuI_eq rfl rfl)⟩)
      · skip
        have hg : ¬ (G.1 1050 w 0 = 0 ∧ inb a) := fun q => by have q1 := q.1; have q2 := q.2; unfold inb at q2; omega
        refine zs_iconst (pc := 24) C dX9_bounded_24 (by decide) ?_
        refine zs_goto (tgt := 29) (pc := 25) C dX9_bounded_25 (by decide) ?_
        refine zs_putz (r := 1050) (pc := 29) C dX9_bounded_29 w_X9_357 f_10_50 rfl (r_1050 0) (by omega) (by omega) ?_
        refine zs_aload_n (pc := 32) C dX9_bounded_32 rfl ?_
        refine zs_getz (r := 1050) (pc := 33) C dX9_bounded_33 w_X9_357 f_10_50 rfl (r_1050 0) (fun v33 e33 l33 u33 => ?_)
        try simp only [zuI_1, zuI_2, zuJ_1, zuJ_2, zuJ_3, zuP_1, zuP_2, zuP_3, zuC_1, zuC_2, reduceIte, Nat.reduceEqDiff, false_and, and_false, true_and, and_true, and_self, or_true, true_or, or_false, false_or] at e33
        refine zs_if_eq (tgt := 43) (pc := 36) C dX9_bounded_36 (by decide) (fun h36 => ?_) (fun h36 => ?_)
        · skip
          refine zs_lload_n (pc := 43) C dX9_bounded_43 rfl ?_
          exact zs_lret (pc := 44) C hr hlk dX9_bounded_44 (by first | (exfalso; omega) | exact ⟨by repeat (first | exact zsm_rf | assumption | refine zsm_C (by decide) ?_ | refine zsm_I (by decide) ?_ | refine zsm_J ?_ | refine zsm_c (by assumption) (by decide) ?_), (by first | exact kb_1 hg zuI_eq rfl rfl | exact kb_2 hg zuI_eq rfl rfl)⟩)
        · skip
          refine zs_lconst (n := 0) (pc := 39) C dX9_bounded_39 rfl (by decide) ?_
          refine zs_goto (tgt := 44) (pc := 40) C dX9_bounded_40 (by decide) ?_
          exact zs_lret (pc := 44) C hr hlk dX9_bounded_44 (by first | (exfalso; omega) | exact ⟨by repeat (first | exact zsm_rf | assumption | refine zsm_C (by decide) ?_ | refine zsm_I (by decide) ?_ | refine zsm_J ?_ | refine zsm_c (by assumption) (by decide) ?_), (by first | exact kb_1 hg zuI_eq rfl rfl | exact kb_2 hg zuI_eq rfl rfl)⟩)

set_option maxHeartbeats 4000000 in
set_option maxRecDepth 100000 in
theorem c_X9_timesK {l : Launch} {Γ : zΓ} {G : zH} {w : Nat} {a b : Int} (hX : zXs Γ) (h1 : -1000000000000 ≤ a ∧ a ≤ 1000000000000) (h2 : -1000000000000 ≤ b ∧ b ≤ 1000000000000) : zMet l Γ yX9_times cX9_times 6 (some .long) 0 [zr 10 w, zj a, zj b] G (zpj (fun x G' => zsm [1050] G G' ∧ ((G'.1 1050 w 0 = if G.1 1050 w 0 = 0 ∧ inb (a * b) then 0 else 1) ∧ x = (if G.1 1050 w 0 = 0 ∧ inb (a * b) then a * b else 0) ∧ G'.2.1 = G.2.1))) := by
  refine zMet_of RX9 hX (by decide) rfl (Nat.le_of_ble_eq_true rfl) ?_
  intro p e s m args below meth c C hr hlk
  show Z p l e (zrm 0) s m args below meth c Γ 6 0 0 (MQ below (zQc Γ (zpj (fun x G' => zsm [1050] G G' ∧ ((G'.1 1050 w 0 = if G.1 1050 w 0 = 0 ∧ inb (a * b) then 0 else 1) ∧ x = (if G.1 1050 w 0 = 0 ∧ inb (a * b) then a * b else 0) ∧ G'.2.1 = G.2.1)))) args s 0 0 (zA Γ)) 0 [some (zr 10 w), some (zj a), none, some (zj b), none, none] [] G
  refine zs_lload_n (pc := 0) C dX9_times_0 rfl ?_
  refine zs_lconst (n := 0) (pc := 1) C dX9_times_1 rfl (by decide) ?_
  refine zs_lcmp (pc := 2) C dX9_times_2 (fun z2 hz2 => ?_)
  have J49 : ∀ (y5 : Int), ((y5 = 0 ∧ inb (a * b)) ∨ (y5 = 1 ∧ ¬ inb (a * b))) → Z p l e (zrm 0) s m args below meth c Γ 6 0 0 (MQ below (zQc Γ (zpj (fun x G' => zsm [1050] G G' ∧ ((G'.1 1050 w 0 = if G.1 1050 w 0 = 0 ∧ inb (a * b) then 0 else 1) ∧ x = (if G.1 1050 w 0 = 0 ∧ inb (a * b) then a * b else 0) ∧ G'.2.1 = G.2.1)))) args s 0 0 (zA Γ)) 49 [some (zr 10 w), some (zj a), none, some (zj b), none, none] [zi y5] G := by
    intro y5 h49_0
    refine zs_istore (pc := 49) C dX9_times_49 (by decide) ?_
    dsimp only [zset, zclr, znone]
    refine zs_aload_n (pc := 51) C dX9_times_51 rfl ?_
    refine zs_aload_n (pc := 52) C dX9_times_52 rfl ?_
    refine zs_getz (r := 1050) (pc := 53) C dX9_times_53 w_X9_357 f_10_50 rfl (r_1050 0) (fun v53 e53 l53 u53 => ?_)
    refine zs_if_ne (tgt := 64) (pc := 56) C dX9_times_56 (by decide) (fun h56 => ?_) (fun h56 => ?_)
    · skip
      have hg : ¬ (G.1 1050 w 0 = 0 ∧ inb (a * b)) := fun q => h49_0.elim (fun z => by have := q.1; omega) (fun z => z.2 q.2)
      refine zs_iconst (pc := 64) C dX9_times_64 (by decide) ?_
      refine zs_goto (tgt := 69) (pc := 65) C dX9_times_65 (by decide) ?_
      refine zs_putz (r := 1050) (pc := 69) C dX9_times_69 w_X9_357 f_10_50 rfl (r_1050 0) (by omega) (by omega) ?_
      refine zs_aload_n (pc := 72) C dX9_times_72 rfl ?_
      refine zs_getz (r := 1050) (pc := 73) C dX9_times_73 w_X9_357 f_10_50 rfl (r_1050 0) (fun v73 e73 l73 u73 => ?_)
      try simp only [zuI_1, zuI_2, zuJ_1, zuJ_2, zuJ_3, zuP_1, zuP_2, zuP_3, zuC_1, zuC_2, reduceIte, Nat.reduceEqDiff, false_and, and_false, true_and, and_true, and_self, or_true, true_or, or_false, false_or] at e73
      refine zs_if_eq (tgt := 83) (pc := 76) C dX9_times_76 (by decide) (fun h76 => ?_) (fun h76 => ?_)
      · skip
        have hmj : -1000000000000 ≤ a * b ∧ a * b ≤ 1000000000000 := by first | exact hg.2 | (exfalso; omega)
        refine zs_lload_n (pc := 83) C dX9_times_83 rfl ?_
        refine zs_lload_n (pc := 84) C dX9_times_84 rfl ?_
        refine zs_lmulE (pc := 85) C dX9_times_85 (by omega) ?_
        exact zs_lret (pc := 86) C hr hlk dX9_times_86 (by first | (exfalso; omega) | exact ⟨by repeat (first | exact zsm_rf | assumption | refine zsm_C (by decide) ?_ | refine zsm_I (by decide) ?_ | refine zsm_J ?_ | refine zsm_c (by assumption) (by decide) ?_), (by first | exact kb_1 hg zuI_eq rfl rfl | exact kb_2 hg zuI_eq rfl rfl)⟩)
      · skip
        refine zs_lconst (n := 0) (pc := 79) C dX9_times_79 rfl (by decide) ?_
        refine zs_goto (tgt := 86) (pc := 80) C dX9_times_80 (by decide) ?_
        exact zs_lret (pc := 86) C hr hlk dX9_times_86 (by first | (exfalso; omega) | exact ⟨by repeat (first | exact zsm_rf | assumption | refine zsm_C (by decide) ?_ | refine zsm_I (by decide) ?_ | refine zsm_J ?_ | refine zsm_c (by assumption) (by decide) ?_), (by first | exact kb_1 hg zuI_eq rfl rfl | exact kb_2 hg zuI_eq rfl rfl)⟩)
    · skip
      refine zs_iload (pc := 59) C dX9_times_59 rfl ?_
      refine zs_if_eq (tgt := 68) (pc := 61) C dX9_times_61 (by decide) (fun h61 => ?_) (fun h61 => ?_)
      · skip
        have hg : G.1 1050 w 0 = 0 ∧ inb (a * b) := h49_0.elim (fun z => ⟨by omega, z.2⟩) (fun z => by exfalso; omega)
        refine zs_iconst (pc := 68) C dX9_times_68 (by decide) ?_
        refine zs_putz (r := 1050) (pc := 69) C dX9_times_69 w_X9_357 f_10_50 rfl (r_1050 0) (by omega) (by omega) ?_
        refine zs_aload_n (pc := 72) C dX9_times_72 rfl ?_
        refine zs_getz (r := 1050) (pc := 73) C dX9_times_73 w_X9_357 f_10_50 rfl (r_1050 0) (fun v73 e73 l73 u73 => ?_)
        try simp only [zuI_1, zuI_2, zuJ_1, zuJ_2, zuJ_3, zuP_1, zuP_2, zuP_3, zuC_1, zuC_2, reduceIte, Nat.reduceEqDiff, false_and, and_false, true_and, and_true, and_self, or_true, true_or, or_false, false_or] at e73
        refine zs_if_eq (tgt := 83) (pc := 76) C dX9_times_76 (by decide) (fun h76 => ?_) (fun h76 => ?_)
        · skip
          have hmj : -1000000000000 ≤ a * b ∧ a * b ≤ 1000000000000 := by first | exact hg.2 | (exfalso; omega)
          refine zs_lload_n (pc := 83) C dX9_times_83 rfl ?_
          refine zs_lload_n (pc := 84) C dX9_times_84 rfl ?_
          refine zs_lmulE (pc := 85) C dX9_times_85 (by omega) ?_
          exact zs_lret (pc := 86) C hr hlk dX9_times_86 (by first | (exfalso; omega) | exact ⟨by repeat (first | exact zsm_rf | assumption | refine zsm_C (by decide) ?_ | refine zsm_I (by decide) ?_ | refine zsm_J ?_ | refine zsm_c (by assumption) (by decide) ?_), (by first | exact kb_1 hg zuI_eq rfl rfl | exact kb_2 hg zuI_eq rfl rfl)⟩)
        · skip
          refine zs_lconst (n := 0) (pc := 79) C dX9_times_79 rfl (by decide) ?_
          refine zs_goto (tgt := 86) (pc := 80) C dX9_times_80 (by decide) ?_
          exact zs_lret (pc := 86) C hr hlk dX9_times_86 (by first | (exfalso; omega) | exact ⟨by repeat (first | exact zsm_rf | assumption | refine zsm_C (by decide) ?_ | refine zsm_I (by decide) ?_ | refine zsm_J ?_ | refine zsm_c (by assumption) (by decide) ?_), (by first | exact kb_1 hg zuI_eq rfl rfl | exact kb_2 hg zuI_eq rfl rfl)⟩)
      · skip
        have hg : ¬ (G.1 1050 w 0 = 0 ∧ inb (a * b)) := fun q => h49_0.elim (fun z => by have := q.1; omega) (fun z => z.2 q.2)
        refine zs_iconst (pc := 64) C dX9_times_64 (by decide) ?_
        refine zs_goto (tgt := 69) (pc := 65) C dX9_times_65 (by decide) ?_
        refine zs_putz (r := 1050) (pc := 69) C dX9_times_69 w_X9_357 f_10_50 rfl (r_1050 0) (by omega) (by omega) ?_
        refine zs_aload_n (pc := 72) C dX9_times_72 rfl ?_
        refine zs_getz (r := 1050) (pc := 73) C dX9_times_73 w_X9_357 f_10_50 rfl (r_1050 0) (fun v73 e73 l73 u73 => ?_)
        try simp only [zuI_1, zuI_2, zuJ_1, zuJ_2, zuJ_3, zuP_1, zuP_2, zuP_3, zuC_1, zuC_2, reduceIte, Nat.reduceEqDiff, false_and, and_false, true_and, and_true, and_self, or_true, true_or, or_false, false_or] at e73
        refine zs_if_eq (tgt := 83) (pc := 76) C dX9_times_76 (by decide) (fun h76 => ?_) (fun h76 => ?_)
        · skip
          have hmj : -1000000000000 ≤ a * b ∧ a * b ≤ 1000000000000 := by first | exact hg.2 | (exfalso; omega)
          refine zs_lload_n (pc := 83) C dX9_times_83 rfl ?_
          refine zs_lload_n (pc := 84) C dX9_times_84 rfl ?_
          refine zs_lmulE (pc := 85) C dX9_times_85 (by omega) ?_
          exact zs_lret (pc := 86) C hr hlk dX9_times_86 (by first | (exfalso; omega) | exact ⟨by repeat (first | exact zsm_rf | assumption | refine zsm_C (by decide) ?_ | refine zsm_I (by decide) ?_ | refine zsm_J ?_ | refine zsm_c (by assumption) (by decide) ?_), (by first | exact kb_1 hg zuI_eq rfl rfl | exact kb_2 hg zuI_eq rfl rfl)⟩)
        · skip
          refine zs_lconst (n := 0) (pc := 79) C dX9_times_79 rfl (by decide) ?_
          refine zs_goto (tgt := 86) (pc := 80) C dX9_times_80 (by decide) ?_
          exact zs_lret (pc := 86) C hr hlk dX9_times_86 (by first | (exfalso; omega) | exact ⟨by repeat (first | exact zsm_rf | assumption | refine zsm_C (by decide) ?_ | refine zsm_I (by decide) ?_ | refine zsm_J ?_ | refine zsm_c (by assumption) (by decide) ?_), (by first | exact kb_1 hg zuI_eq rfl rfl | exact kb_2 hg zuI_eq rfl rfl)⟩)
  refine zs_if_eq (tgt := 48) (pc := 3) C dX9_times_3 (by decide) (fun h3 => ?_) (fun h3 => ?_)
  · skip
    have hm0 : ((0 : Int) = 0 ∧ inb (a * b)) ∨ ((0 : Int) = 1 ∧ ¬ inb (a * b)) := Or.inl ⟨rfl, by first | (rw [show a = 0 by omega, Int.zero_mul]; decide) | (rw [show b = 0 by omega, Int.mul_zero]; decide) | exact hmb.mp (by omega)⟩
    refine zs_iconst (pc := 48) C dX9_times_48 (by decide) ?_
    exact zs_wk (J49 _ hm0) (zwk_s rfl (zwk_s rfl (zwk_n (zwk_s rfl (zwk_n (zwk_n zwk_0))))))
  · skip
    refine zs_lload_n (pc := 6) C dX9_times_6 rfl ?_
    refine zs_lconst (n := 0) (pc := 7) C dX9_times_7 rfl (by decide) ?_
    refine zs_lcmp (pc := 8) C dX9_times_8 (fun z8 hz8 => ?_)
    refine zs_if_eq (tgt := 48) (pc := 9) C dX9_times_9 (by decide) (fun h9 => ?_) (fun h9 => ?_)
    · skip
      have hm0 : ((0 : Int) = 0 ∧ inb (a * b)) ∨ ((0 : Int) = 1 ∧ ¬ inb (a * b)) := Or.inl ⟨rfl, by first | (rw [show a = 0 by omega, Int.zero_mul]; decide) | (rw [show b = 0 by omega, Int.mul_zero]; decide) | exact hmb.mp (by omega)⟩
      refine zs_iconst (pc := 48) C dX9_times_48 (by decide) ?_
      exact zs_wk (J49 _ hm0) (zwk_s rfl (zwk_s rfl (zwk_n (zwk_s rfl (zwk_n (zwk_n zwk_0))))))
    · skip
      refine zs_lload_n (pc := 12) C dX9_times_12 rfl ?_
      refine zs_lconst (n := 0) (pc := 13) C dX9_times_13 rfl (by decide) ?_
      refine zs_lcmp (pc := 14) C dX9_times_14 (fun z14 hz14 => ?_)
      refine zs_if_ge (tgt := 23) (pc := 15) C dX9_times_15 (by decide) (fun h15 => ?_) (fun h15 => ?_)
      · skip
        refine zs_lload_n (pc := 23) C dX9_times_23 rfl ?_
        refine zs_ldc2 (n := 1000000000000) (pc := 24) C dX9_times_24 q_X9_360 (by decide) (by decide) ?_
        refine zs_lload_n (pc := 27) C dX9_times_27 rfl ?_
        refine zs_lconst (n := 0) (pc := 28) C dX9_times_28 rfl (by decide) ?_
        refine zs_lcmp (pc := 29) C dX9_times_29 (fun z29 hz29 => ?_)
        refine zs_if_ge (tgt := 38) (pc := 30) C dX9_times_30 (by decide) (fun h30 => ?_) (fun h30 => ?_)
        · skip
          refine zs_lload_n (pc := 38) C dX9_times_38 rfl ?_
          refine zs_ldivP (pc := 39) C dX9_times_39 (by omega) (by omega) (fun hz391 hz392 => ?_)
          have hmb := pr_ab (a := a) (b := b) (by omega)
          first | rw [if_pos (show b < 0 by omega)] at hmb | rw [if_neg (show ¬ b < 0 by omega)] at hmb
          first | rw [if_pos (show a < 0 by omega)] at hmb | rw [if_neg (show ¬ a < 0 by omega)] at hmb
          refine zs_lcmp (pc := 40) C dX9_times_40 (fun z40 hz40 => ?_)
          refine zs_if_le (tgt := 48) (pc := 41) C dX9_times_41 (by decide) (fun h41 => ?_) (fun h41 => ?_)
          · skip
            have hm0 : ((0 : Int) = 0 ∧ inb (a * b)) ∨ ((0 : Int) = 1 ∧ ¬ inb (a * b)) := Or.inl ⟨rfl, by first | (rw [show a = 0 by omega, Int.zero_mul]; decide) | (rw [show b = 0 by omega, Int.mul_zero]; decide) | exact hmb.mp (by omega)⟩
            refine zs_iconst (pc := 48) C dX9_times_48 (by decide) ?_
            exact zs_wk (J49 _ hm0) (zwk_s rfl (zwk_s rfl (zwk_n (zwk_s rfl (zwk_n (zwk_n zwk_0))))))
          · skip
            have hm0 : ((1 : Int) = 0 ∧ inb (a * b)) ∨ ((1 : Int) = 1 ∧ ¬ inb (a * b)) := Or.inr ⟨rfl, fun q => by have := hmb.mpr q; omega⟩
            refine zs_iconst (pc := 44) C dX9_times_44 (by decide) ?_
            refine zs_goto (tgt := 49) (pc := 45) C dX9_times_45 (by decide) ?_
            exact zs_wk (J49 _ hm0) (zwk_s rfl (zwk_s rfl (zwk_n (zwk_s rfl (zwk_n (zwk_n zwk_0))))))
        · skip
          refine zs_lload_n (pc := 33) C dX9_times_33 rfl ?_
          refine zs_lnegE (pc := 34) C dX9_times_34 (by omega) ?_
          refine zs_goto (tgt := 39) (pc := 35) C dX9_times_35 (by decide) ?_
          refine zs_ldivP (pc := 39) C dX9_times_39 (by omega) (by omega) (fun hz391 hz392 => ?_)
          have hmb := pr_ab (a := a) (b := b) (by omega)
          first | rw [if_pos (show b < 0 by omega)] at hmb | rw [if_neg (show ¬ b < 0 by omega)] at hmb
          first | rw [if_pos (show a < 0 by omega)] at hmb | rw [if_neg (show ¬ a < 0 by omega)] at hmb
          refine zs_lcmp (pc := 40) C dX9_times_40 (fun z40 hz40 => ?_)
          refine zs_if_le (tgt := 48) (pc := 41) C dX9_times_41 (by decide) (fun h41 => ?_) (fun h41 => ?_)
          · skip
            have hm0 : ((0 : Int) = 0 ∧ inb (a * b)) ∨ ((0 : Int) = 1 ∧ ¬ inb (a * b)) := Or.inl ⟨rfl, by first | (rw [show a = 0 by omega, Int.zero_mul]; decide) | (rw [show b = 0 by omega, Int.mul_zero]; decide) | exact hmb.mp (by omega)⟩
            refine zs_iconst (pc := 48) C dX9_times_48 (by decide) ?_
            exact zs_wk (J49 _ hm0) (zwk_s rfl (zwk_s rfl (zwk_n (zwk_s rfl (zwk_n (zwk_n zwk_0))))))
          · skip
            have hm0 : ((1 : Int) = 0 ∧ inb (a * b)) ∨ ((1 : Int) = 1 ∧ ¬ inb (a * b)) := Or.inr ⟨rfl, fun q => by have := hmb.mpr q; omega⟩
            refine zs_iconst (pc := 44) C dX9_times_44 (by decide) ?_
            refine zs_goto (tgt := 49) (pc := 45) C dX9_times_45 (by decide) ?_
            exact zs_wk (J49 _ hm0) (zwk_s rfl (zwk_s rfl (zwk_n (zwk_s rfl (zwk_n (zwk_n zwk_0))))))
      · skip
        refine zs_lload_n (pc := 18) C dX9_times_18 rfl ?_
        refine zs_lnegE (pc := 19) C dX9_times_19 (by omega) ?_
        refine zs_goto (tgt := 24) (pc := 20) C dX9_times_20 (by decide) ?_
        refine zs_ldc2 (n := 1000000000000) (pc := 24) C dX9_times_24 q_X9_360 (by decide) (by decide) ?_
        refine zs_lload_n (pc := 27) C dX9_times_27 rfl ?_
        refine zs_lconst (n := 0) (pc := 28) C dX9_times_28 rfl (by decide) ?_
        refine zs_lcmp (pc := 29) C dX9_times_29 (fun z29 hz29 => ?_)
        refine zs_if_ge (tgt := 38) (pc := 30) C dX9_times_30 (by decide) (fun h30 => ?_) (fun h30 => ?_)
        · skip
          refine zs_lload_n (pc := 38) C dX9_times_38 rfl ?_
          refine zs_ldivP (pc := 39) C dX9_times_39 (by omega) (by omega) (fun hz391 hz392 => ?_)
          have hmb := pr_ab (a := a) (b := b) (by omega)
          first | rw [if_pos (show b < 0 by omega)] at hmb | rw [if_neg (show ¬ b < 0 by omega)] at hmb
          first | rw [if_pos (show a < 0 by omega)] at hmb | rw [if_neg (show ¬ a < 0 by omega)] at hmb
          refine zs_lcmp (pc := 40) C dX9_times_40 (fun z40 hz40 => ?_)
          refine zs_if_le (tgt := 48) (pc := 41) C dX9_times_41 (by decide) (fun h41 => ?_) (fun h41 => ?_)
          · skip
            have hm0 : ((0 : Int) = 0 ∧ inb (a * b)) ∨ ((0 : Int) = 1 ∧ ¬ inb (a * b)) := Or.inl ⟨rfl, by first | (rw [show a = 0 by omega, Int.zero_mul]; decide) | (rw [show b = 0 by omega, Int.mul_zero]; decide) | exact hmb.mp (by omega)⟩
            refine zs_iconst (pc := 48) C dX9_times_48 (by decide) ?_
            exact zs_wk (J49 _ hm0) (zwk_s rfl (zwk_s rfl (zwk_n (zwk_s rfl (zwk_n (zwk_n zwk_0))))))
          · skip
            have hm0 : ((1 : Int) = 0 ∧ inb (a * b)) ∨ ((1 : Int) = 1 ∧ ¬ inb (a * b)) := Or.inr ⟨rfl, fun q => by have := hmb.mpr q; omega⟩
            refine zs_iconst (pc := 44) C dX9_times_44 (by decide) ?_
            refine zs_goto (tgt := 49) (pc := 45) C dX9_times_45 (by decide) ?_
            exact zs_wk (J49 _ hm0) (zwk_s rfl (zwk_s rfl (zwk_n (zwk_s rfl (zwk_n (zwk_n zwk_0))))))
        · skip
          refine zs_lload_n (pc := 33) C dX9_times_33 rfl ?_
          refine zs_lnegE (pc := 34) C dX9_times_34 (by omega) ?_
          refine zs_goto (tgt := 39) (pc := 35) C dX9_times_35 (by decide) ?_
          refine zs_ldivP (pc := 39) C dX9_times_39 (by omega) (by omega) (fun hz391 hz392 => ?_)
          have hmb := pr_ab (a := a) (b := b) (by omega)
          first | rw [if_pos (show b < 0 by omega)] at hmb | rw [if_neg (show ¬ b < 0 by omega)] at hmb
          first | rw [if_pos (show a < 0 by omega)] at hmb | rw [if_neg (show ¬ a < 0 by omega)] at hmb
          refine zs_lcmp (pc := 40) C dX9_times_40 (fun z40 hz40 => ?_)
          refine zs_if_le (tgt := 48) (pc := 41) C dX9_times_41 (by decide) (fun h41 => ?_) (fun h41 => ?_)
          · skip
            have hm0 : ((0 : Int) = 0 ∧ inb (a * b)) ∨ ((0 : Int) = 1 ∧ ¬ inb (a * b)) := Or.inl ⟨rfl, by first | (rw [show a = 0 by omega, Int.zero_mul]; decide) | (rw [show b = 0 by omega, Int.mul_zero]; decide) | exact hmb.mp (by omega)⟩
            refine zs_iconst (pc := 48) C dX9_times_48 (by decide) ?_
            exact zs_wk (J49 _ hm0) (zwk_s rfl (zwk_s rfl (zwk_n (zwk_s rfl (zwk_n (zwk_n zwk_0))))))
          · skip
            have hm0 : ((1 : Int) = 0 ∧ inb (a * b)) ∨ ((1 : Int) = 1 ∧ ¬ inb (a * b)) := Or.inr ⟨rfl, fun q => by have := hmb.mpr q; omega⟩
            refine zs_iconst (pc := 44) C dX9_times_44 (by decide) ?_
            refine zs_goto (tgt := 49) (pc := 45) C dX9_times_45 (by decide) ?_
            exact zs_wk (J49 _ hm0) (zwk_s rfl (zwk_s rfl (zwk_n (zwk_s rfl (zwk_n (zwk_n zwk_0))))))

set_option maxHeartbeats 4000000 in
set_option maxRecDepth 100000 in
theorem c_X9_comparesK {l : Launch} {Γ : zΓ} {G : zH} {k a b : Int} (hX : zXs Γ) (hk : 5 ≤ k ∧ k ≤ 10) : zMet l Γ yX9_compares cX9_compares 5 (some .boolean) 0 [zi k, zj a, zj b] G (zpi (fun x G' => G' = G ∧ ((x = 0 ∨ x = 1) ∧ (x = 1 ↔ jV k a b ≠ 0)))) := by
  refine zMet_of RX9 hX (by decide) rfl (Nat.le_of_ble_eq_true rfl) ?_
  intro p e s m args below meth c C hr hlk
  show Z p l e (zrm 0) s m args below meth c Γ 5 0 0 (MQ below (zQc Γ (zpi (fun x G' => G' = G ∧ ((x = 0 ∨ x = 1) ∧ (x = 1 ↔ jV k a b ≠ 0))))) args s 0 0 (zA Γ)) 0 [some (zi k), some (zj a), none, some (zj b), none] [] G
  refine zs_loc 0 rfl (fun ha0 hb0 => ?_)
  refine zs_iload_n (pc := 0) C dX9_compares_0 rfl ?_
  refine zs_name (fun y1 ey1 => ?_)
  rcases (show y1 = 5 ∨ y1 = 6 ∨ y1 = 7 ∨ y1 = 8 ∨ y1 = 9 ∨ (y1 < 5 ∨ 9 < y1) by omega) with h1 | h1 | h1 | h1 | h1 | h1
  · skip
    refine zs_tabIn (pc := 1) (tgt := 36) C 5 dX9_compares_1 h1 (by decide) rfl (by decide) ?_
    refine zs_lload_n (pc := 36) C dX9_compares_36 rfl ?_
    refine zs_lload_n (pc := 37) C dX9_compares_37 rfl ?_
    refine zs_lcmp (pc := 38) C dX9_compares_38 (fun z38 hz38 => ?_)
    refine zs_if_ge (tgt := 46) (pc := 39) C dX9_compares_39 (by decide) (fun h39 => ?_) (fun h39 => ?_)
    · skip
      refine zs_iconst (pc := 46) C dX9_compares_46 (by decide) ?_
      exact zs_zret (pc := 47) C hr hlk dX9_compares_47 (by omega) ⟨rfl, ⟨by omega, by rw [show k = 5 by omega, jV_5]; first | (rw [if_pos (by omega)]; decide) | (rw [if_neg (by omega)]; decide)⟩⟩
    · skip
      refine zs_iconst (pc := 42) C dX9_compares_42 (by decide) ?_
      refine zs_goto (tgt := 47) (pc := 43) C dX9_compares_43 (by decide) ?_
      exact zs_zret (pc := 47) C hr hlk dX9_compares_47 (by omega) ⟨rfl, ⟨by omega, by rw [show k = 5 by omega, jV_5]; first | (rw [if_pos (by omega)]; decide) | (rw [if_neg (by omega)]; decide)⟩⟩
  · skip
    refine zs_tabIn (pc := 1) (tgt := 48) C 6 dX9_compares_1 h1 (by decide) rfl (by decide) ?_
    refine zs_lload_n (pc := 48) C dX9_compares_48 rfl ?_
    refine zs_lload_n (pc := 49) C dX9_compares_49 rfl ?_
    refine zs_lcmp (pc := 50) C dX9_compares_50 (fun z50 hz50 => ?_)
    refine zs_if_gt (tgt := 58) (pc := 51) C dX9_compares_51 (by decide) (fun h51 => ?_) (fun h51 => ?_)
    · skip
      refine zs_iconst (pc := 58) C dX9_compares_58 (by decide) ?_
      exact zs_zret (pc := 59) C hr hlk dX9_compares_59 (by omega) ⟨rfl, ⟨by omega, by rw [show k = 6 by omega, jV_6]; first | (rw [if_pos (by omega)]; decide) | (rw [if_neg (by omega)]; decide)⟩⟩
    · skip
      refine zs_iconst (pc := 54) C dX9_compares_54 (by decide) ?_
      refine zs_goto (tgt := 59) (pc := 55) C dX9_compares_55 (by decide) ?_
      exact zs_zret (pc := 59) C hr hlk dX9_compares_59 (by omega) ⟨rfl, ⟨by omega, by rw [show k = 6 by omega, jV_6]; first | (rw [if_pos (by omega)]; decide) | (rw [if_neg (by omega)]; decide)⟩⟩
  · skip
    refine zs_tabIn (pc := 1) (tgt := 60) C 7 dX9_compares_1 h1 (by decide) rfl (by decide) ?_
    refine zs_lload_n (pc := 60) C dX9_compares_60 rfl ?_
    refine zs_lload_n (pc := 61) C dX9_compares_61 rfl ?_
    refine zs_lcmp (pc := 62) C dX9_compares_62 (fun z62 hz62 => ?_)
    refine zs_if_ne (tgt := 70) (pc := 63) C dX9_compares_63 (by decide) (fun h63 => ?_) (fun h63 => ?_)
    · skip
      refine zs_iconst (pc := 70) C dX9_compares_70 (by decide) ?_
      exact zs_zret (pc := 71) C hr hlk dX9_compares_71 (by omega) ⟨rfl, ⟨by omega, by rw [show k = 7 by omega, jV_7]; first | (rw [if_pos (by omega)]; decide) | (rw [if_neg (by omega)]; decide)⟩⟩
    · skip
      refine zs_iconst (pc := 66) C dX9_compares_66 (by decide) ?_
      refine zs_goto (tgt := 71) (pc := 67) C dX9_compares_67 (by decide) ?_
      exact zs_zret (pc := 71) C hr hlk dX9_compares_71 (by omega) ⟨rfl, ⟨by omega, by rw [show k = 7 by omega, jV_7]; first | (rw [if_pos (by omega)]; decide) | (rw [if_neg (by omega)]; decide)⟩⟩
  · skip
    refine zs_tabIn (pc := 1) (tgt := 72) C 8 dX9_compares_1 h1 (by decide) rfl (by decide) ?_
    refine zs_lload_n (pc := 72) C dX9_compares_72 rfl ?_
    refine zs_lload_n (pc := 73) C dX9_compares_73 rfl ?_
    refine zs_lcmp (pc := 74) C dX9_compares_74 (fun z74 hz74 => ?_)
    refine zs_if_eq (tgt := 82) (pc := 75) C dX9_compares_75 (by decide) (fun h75 => ?_) (fun h75 => ?_)
    · skip
      refine zs_iconst (pc := 82) C dX9_compares_82 (by decide) ?_
      exact zs_zret (pc := 83) C hr hlk dX9_compares_83 (by omega) ⟨rfl, ⟨by omega, by rw [show k = 8 by omega, jV_8]; first | (rw [if_pos (by omega)]; decide) | (rw [if_neg (by omega)]; decide)⟩⟩
    · skip
      refine zs_iconst (pc := 78) C dX9_compares_78 (by decide) ?_
      refine zs_goto (tgt := 83) (pc := 79) C dX9_compares_79 (by decide) ?_
      exact zs_zret (pc := 83) C hr hlk dX9_compares_83 (by omega) ⟨rfl, ⟨by omega, by rw [show k = 8 by omega, jV_8]; first | (rw [if_pos (by omega)]; decide) | (rw [if_neg (by omega)]; decide)⟩⟩
  · skip
    refine zs_tabIn (pc := 1) (tgt := 84) C 9 dX9_compares_1 h1 (by decide) rfl (by decide) ?_
    refine zs_lload_n (pc := 84) C dX9_compares_84 rfl ?_
    refine zs_lload_n (pc := 85) C dX9_compares_85 rfl ?_
    refine zs_lcmp (pc := 86) C dX9_compares_86 (fun z86 hz86 => ?_)
    refine zs_if_lt (tgt := 94) (pc := 87) C dX9_compares_87 (by decide) (fun h87 => ?_) (fun h87 => ?_)
    · skip
      refine zs_iconst (pc := 94) C dX9_compares_94 (by decide) ?_
      exact zs_zret (pc := 95) C hr hlk dX9_compares_95 (by omega) ⟨rfl, ⟨by omega, by rw [show k = 9 by omega, jV_9]; first | (rw [if_pos (by omega)]; decide) | (rw [if_neg (by omega)]; decide)⟩⟩
    · skip
      refine zs_iconst (pc := 90) C dX9_compares_90 (by decide) ?_
      refine zs_goto (tgt := 95) (pc := 91) C dX9_compares_91 (by decide) ?_
      exact zs_zret (pc := 95) C hr hlk dX9_compares_95 (by omega) ⟨rfl, ⟨by omega, by rw [show k = 9 by omega, jV_9]; first | (rw [if_pos (by omega)]; decide) | (rw [if_neg (by omega)]; decide)⟩⟩
  · skip
    refine zs_tabOut (tgt := 96) (pc := 1) C dX9_compares_1 h1 (by decide) ?_
    refine zs_lload_n (pc := 96) C dX9_compares_96 rfl ?_
    refine zs_lload_n (pc := 97) C dX9_compares_97 rfl ?_
    refine zs_lcmp (pc := 98) C dX9_compares_98 (fun z98 hz98 => ?_)
    refine zs_if_le (tgt := 106) (pc := 99) C dX9_compares_99 (by decide) (fun h99 => ?_) (fun h99 => ?_)
    · skip
      refine zs_iconst (pc := 106) C dX9_compares_106 (by decide) ?_
      exact zs_zret (pc := 107) C hr hlk dX9_compares_107 (by omega) ⟨rfl, ⟨by omega, by rw [show k = 10 by omega, jV_10]; first | (rw [if_pos (by omega)]; decide) | (rw [if_neg (by omega)]; decide)⟩⟩
    · skip
      refine zs_iconst (pc := 102) C dX9_compares_102 (by decide) ?_
      refine zs_goto (tgt := 107) (pc := 103) C dX9_compares_103 (by decide) ?_
      exact zs_zret (pc := 107) C hr hlk dX9_compares_107 (by omega) ⟨rfl, ⟨by omega, by rw [show k = 10 by omega, jV_10]; first | (rw [if_pos (by omega)]; decide) | (rw [if_neg (by omega)]; decide)⟩⟩
