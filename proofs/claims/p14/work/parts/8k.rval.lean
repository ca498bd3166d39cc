section
/-- longs of all other regions stay -/
def zsj (rs : List Nat) (G G' : zH) : Prop := ∀ r : Nat, r ∉ rs → G'.2.1 r = G.2.1 r
theorem zsj_rf {rs : List Nat} {G : zH} : zsj rs G G := fun _ _ => rfl
theorem zsj_e {rs : List Nat} {G G1 G2 : zH} (h2 : G2.2.1 = G1.2.1) (h : zsj rs G G1) : zsj rs G G2 := fun r hr => by rw [h2]; exact h r hr
theorem zsj_I {rs : List Nat} {G G1 : zH} {r a i : Nat} {x : Int} (h : zsj rs G G1) : zsj rs G (zuI G1 r a i x) := h
theorem zsj_J {rs : List Nat} {G G1 : zH} {r a i : Nat} {x : Int} (hr : r ∈ rs) (h : zsj rs G G1) : zsj rs G (zuJ G1 r a i x) := fun r' hr' => by
  funext a' i'
  rw [zuJ_2, if_neg (fun q => hr' (by rw [q.1]; exact hr))]
  rw [h r' hr']
theorem zsj_c {rs rs' : List Nat} {G G1 G2 : zH} (h2 : zsj rs' G1 G2) (hs : ∀ r ∈ rs', r ∈ rs) (h1 : zsj rs G G1) : zsj rs G G2 := fun r hr => (h2 r (fun q => hr (hs r q))).trans (h1 r hr)
theorem rk_q {s : Int} (h : 0 ≤ s ∧ s ≤ 14) : (rk s = 0 ↔ s = 0) ∧ (rk s = 1 ↔ s = 1) ∧ (rk s = 2 ↔ s = 4) ∧ (rk s = 3 ↔ s = 3) ∧ (rk s = 4 ↔ s = 2) ∧ (5 ≤ rk s → rk s = s) ∧ (5 ≤ s → rk s = s) ∧ 0 ≤ rk s ∧ rk s ≤ 14 := by
  unfold rk
  rcases (show s = 0 ∨ s = 1 ∨ s = 2 ∨ s = 3 ∨ s = 4 ∨ s = 5 ∨ s = 6 ∨ s = 7 ∨ s = 8 ∨ s = 9 ∨ s = 10 ∨ s = 11 ∨ s = 12 ∨ s = 13 ∨ s = 14 by omega) with rfl | rfl | rfl | rfl | rfl | rfl | rfl | rfl | rfl | rfl | rfl | rfl | rfl | rfl | rfl <;> decide
theorem zuI_eq {G : zH} {r a i : Nat} {x : Int} : (zuI G r a i x).1 r a i = x := if_pos ⟨rfl, rfl, rfl⟩
theorem kb_1 {e x y v : Int} {P Q : Prop} [Decidable P] (hg : e = 0 ∧ P) (hx : x = 0) (hy : y = v) (hQ : Q) : (x = if e = 0 ∧ P then 0 else 1) ∧ y = (if e = 0 ∧ P then v else 0) ∧ Q := ⟨by rw [if_pos hg]; exact hx, by rw [if_pos hg]; exact hy, hQ⟩
theorem kb_2 {e x y v : Int} {P Q : Prop} [Decidable P] (hg : ¬ (e = 0 ∧ P)) (hx : x = 1) (hy : y = 0) (hQ : Q) : (x = if e = 0 ∧ P then 0 else 1) ∧ y = (if e = 0 ∧ P then v else 0) ∧ Q := ⟨by rw [if_neg hg]; exact hx, by rw [if_neg hg]; exact hy, hQ⟩
theorem kf_1 {e x : Int} {P : Prop} [Decidable P] (he : e = 0) (hP : P) (hx : x = 0) : x = if e = 0 ∧ P then 0 else 1 := by rw [if_pos ⟨he, hP⟩, hx]
theorem kf_2 {e x : Int} {P : Prop} [Decidable P] (h : e ≠ 0 ∨ ¬ P) (hx : x = 1) : x = if e = 0 ∧ P then 0 else 1 := by rw [if_neg (fun q => h.elim (fun z => z q.1) (fun z => z q.2)), hx]

set_option maxHeartbeats 4000000 in
set_option maxRecDepth 100000 in
theorem c_X9_boundedK {l : Launch} {Γ : zΓ} {G : zH} {w : Nat} {a : Int} (hX : zXs Γ)  : zMet l Γ yX9_bounded cX9_bounded 3 (some .long) 0 [zr 10 w, zj a] G (zpj (fun x G' => zsm [1050] G G' ∧ ((G'.1 1050 w 0 = if G.1 1050 w 0 = 0 ∧ inb a then 0 else 1) ∧ x = (if G.1 1050 w 0 = 0 ∧ inb a then a else 0) ∧ G'.2.1 = G.2.1))) := by
  refine zMet_of RX9 hX (by decide) rfl (Nat.le_of_ble_eq_true rfl) ?_
  intro p e s m args below meth c C hr hlk
  show Z p l e (zrm 0) s m args below meth c Γ 3 0 0 (MQ below (zQc Γ (zpj (fun x G' => zsm [1050] G G' ∧ ((G'.1 1050 w 0 = if G.1 1050 w 0 = 0 ∧ inb a then 0 else 1) ∧ x = (if G.1 1050 w 0 = 0 ∧ inb a then a else 0) ∧ G'.2.1 = G.2.1)))) args s 0 0 (zA Γ)) 0 [some (zr 10 w), some (zj a), none] [] G
  refine zs_aload_n (pc := 0) C dX9_bounded_0 rfl ?_
  refine zs_aload_n (pc := 1) C dX9_bounded_1 rfl ?_
  refine zs_getz (r := 1050) (pc := 2) C dX9_bounded_2 w_X9_357 f_10_50 rfl (r_1050 0) (fun v2 e2 l2 u2 => ?_)
  refine zs_if_ne (tgt := 24) (pc := 5) C dX9_bounded_5 (by decide) (fun h5 => ?_) (fun h5 => ?_)
  · skip
    have hg : ¬ (G.1 1050 w 0 = 0 ∧ inb a) := fun q => by have q1 := q.1; have q2 := q.2; unfold inb at q2; omega
    refine zs_iconst (pc := 24) C dX9_bounded_24 (by decide) ?_
    refine zs_goto (tgt := 29) (pc := 25) C dX9_bounded_25 (by decide) ?_
    refine zs_putz (r := 1050) (pc := 29) C dX9_bounded_29 w_X9_357 f_10_50 rfl (r_1050 0) (by omega) (by omega) ?_
    refine zs_aload_n (pc := 32) C dX9_bounded_32 rfl ?_
    refine zs_getz (r := 1050) (pc := 33) C dX9_bounded_33 w_X9_357 f_10_50 rfl (r_1050 0) (fun v33 e33 l33 u33 => ?_)
    try simp only [zuI_1, zuI_2, zuJ_1, zuJ_2, zuJ_3, zuP_1, zuP_2, zuP_3, zuC_1, zuC_2, reduceIte, Nat.reduceEqDiff, false_and, and_false, true_and, and_true, and_self, or_true, true_or, or_false, false_or] at e33
    refine zs_if_eq (tgt := 43) (pc := 36) C dX9_bounded_36 (by decide) (fun h36 => ?_) (fun h36 => ?_)
    · skip
      refine zs_lload_n (pc := 43) C dX9_bounded_43 rfl ?_
      exact zs_lret (pc := 44) C hr hlk dX9_bounded_44 (by first | (exfalso; omega) | exact ⟨by repeat (first | exact zsm_rf | assumption | refine zsm_C (by decide) ?_ | refine zsm_I (by decide) ?_ | refine zsm_J ?_ | refine zsm_c (by assumption) (by decide) ?_), (by first | exact kb_1 hg zuI_eq rfl rfl | exact kb_2 hg zuI_eq rfl rfl)⟩)
    · skip
      refine zs_lconst (n := 0) (pc := 39) C dX9_bounded_39 rfl (by decide) ?_
      refine zs_goto (tgt := 44) (pc := 40) C dX9_bounded_40 (by decide) ?_
      exact zs_lret (pc := 44) C hr hlk dX9_bounded_44 (by first | (exfalso; omega) | exact ⟨by repeat (first | exact zsm_rf | assumption | refine zsm_C (by decide) ?_ | refine zsm_I (by decide) ?_ | refine zsm_J ?_ | refine zsm_c (by assumption) (by decide) ?_), (by first | exact kb_1 hg zuI_eq rfl rfl | exact kb_2 hg zuI_eq rfl rfl)⟩)
  · skip
    refine zs_lload_n (pc := 8) C dX9_bounded_8 rfl ?_
    refine zs_ldc2 (n := 1000000000000) (pc := 9) C dX9_bounded_9 q_X9_360 (by decide) (by decide) ?_
    refine zs_lcmp (pc := 12) C dX9_bounded_12 (fun z12 hz12 => ?_)
    refine zs_if_gt (tgt := 24) (pc := 13) C dX9_bounded_13 (by decide) (fun h13 => ?_) (fun h13 => ?_)
    · skip
      have hg : ¬ (G.1 1050 w 0 = 0 ∧ inb a) := fun q => by have q1 := q.1; have q2 := q.2; unfold inb at q2; omega
      refine zs_iconst (pc := 24) C dX9_bounded_24 (by decide) ?_
      refine zs_goto (tgt := 29) (pc := 25) C dX9_bounded_25 (by decide) ?_
      refine zs_putz (r := 1050) (pc := 29) C dX9_bounded_29 w_X9_357 f_10_50 rfl (r_1050 0) (by omega) (by omega) ?_
      refine zs_aload_n (pc := 32) C dX9_bounded_32 rfl ?_
      refine zs_getz (r := 1050) (pc := 33) C dX9_bounded_33 w_X9_357 f_10_50 rfl (r_1050 0) (fun v33 e33 l33 u33 => ?_)
      try simp only [zuI_1, zuI_2, zuJ_1, zuJ_2, zuJ_3, zuP_1, zuP_2, zuP_3, zuC_1, zuC_2, reduceIte, Nat.reduceEqDiff, false_and, and_false, true_and, and_true, and_self, or_true, true_or, or_false, false_or] at e33
      refine zs_if_eq (tgt := 43) (pc := 36) C dX9_bounded_36 (by decide) (fun h36 => ?_) (fun h36 => ?_)
      · skip
        refine zs_lload_n (pc := 43) C dX9_bounded_43 rfl ?_
        exact zs_lret (pc := 44) C hr hlk dX9_bounded_44 (by first | (exfalso; omega) | exact ⟨by repeat (first | exact zsm_rf | assumption | refine zsm_C (by decide) ?_ | refine zsm_I (by decide) ?_ | refine zsm_J ?_ | refine zsm_c (by assumption) (by decide) ?_), (by first | exact kb_1 hg zuI_eq rfl rfl | exact kb_2 hg zuI_eq rfl rfl)⟩)
      · skip
        refine zs_lconst (n := 0) (pc := 39) C dX9_bounded_39 rfl (by decide) ?_
        refine zs_goto (tgt := 44) (pc := 40) C dX9_bounded_40 (by decide) ?_
        exact zs_lret (pc := 44) C hr hlk dX9_bounded_44 (by first | (exfalso; omega) | exact ⟨by repeat (first | exact zsm_rf | assumption | refine zsm_C (by decide) ?_ | refine zsm_I (by decide) ?_ | refine zsm_J ?_ | refine zsm_c (by assumption) (by decide) ?_), (by first | exact kb_1 hg zuI_eq rfl rfl | exact kb_2 hg zuI_eq rfl rfl)⟩)
    · skip
      refine zs_lload_n (pc := 16) C dX9_bounded_16 rfl ?_
      refine zs_ldc2 (n := -1000000000000) (pc := 17) C dX9_bounded_17 q_X9_362 (by decide) (by decide) ?_
      refine zs_lcmp (pc := 20) C dX9_bounded_20 (fun z20 hz20 => ?_)
      refine zs_if_ge (tgt := 28) (pc := 21) C dX9_bounded_21 (by decide) (fun h21 => ?_) (fun h21 => ?_)
      · skip
        have hg : G.1 1050 w 0 = 0 ∧ inb a := ⟨by omega, by unfold inb; omega⟩
        refine zs_iconst (pc := 28) C dX9_bounded_28 (by decide) ?_
        refine zs_putz (r := 1050) (pc := 29) C dX9_bounded_29 w_X9_357 f_10_50 rfl (r_1050 0) (by omega) (by omega) ?_
        refine zs_aload_n (pc := 32) C dX9_bounded_32 rfl ?_
        refine zs_getz (r := 1050) (pc := 33) C dX9_bounded_33 w_X9_357 f_10_50 rfl (r_1050 0) (fun v33 e33 l33 u33 => ?_)
        try simp only [zuI_1, zuI_2, zuJ_1, zuJ_2, zuJ_3, zuP_1, zuP_2, zuP_3, zuC_1, zuC_2, reduceIte, Nat.reduceEqDiff, false_and, and_false, true_and, and_true, and_self, or_true, true_or, or_false, false_or] at e33
        refine zs_if_eq (tgt := 43) (pc := 36) C dX9_bounded_36 (by decide) (fun h36 => ?_) (fun h36 => ?_)
        · skip
          refine zs_lload_n (pc := 43) C dX9_bounded_43 rfl ?_
          exact zs_lret (pc := 44) C hr hlk dX9_bounded_44 (by first | (exfalso; omega) | exact ⟨by repeat (first | exact zsm_rf | assumption | refine zsm_C (by decide) ?_ | refine zsm_I (by decide) ?_ | refine zsm_J ?_ | refine zsm_c (by assumption) (by decide) ?_), (by first | exact kb_1 hg zuI_eq rfl rfl | exact kb_2 hg zuI_eq rfl rfl)⟩)
        · skip
          refine zs_lconst (n := 0) (pc := 39) C dX9_bounded_39 rfl (by decide) ?_
          refine zs_goto (tgt := 44) (pc := 40) C dX9_bounded_40 (by decide) ?_
          exact zs_lret (pc := 44) C hr hlk dX9_bounded_44 (by first | (exfalso; omega) | exact ⟨by repeat (first | exact zsm_rf | assumption | refine zsm_C (by decide) ?_ | refine zsm_I (by decide) ?_ | refine zsm_J ?_ | refine zsm_c (by assumption) (by decide) ?_), (by first | exact kb_1 hg zuI_eq rfl rfl | exact kb_2 hg zuI_eq rfl rfl)⟩)
      · skip
        have hg : ¬ (G.1 1050 w 0 = 0 ∧ inb a) := fun q => by have q1 := q.1; have q2 := q.2; unfold inb at q2; omega
        refine zs_iconst (pc := 24) C dX9_bounded_24 (by decide) ?_
        refine zs_goto (tgt := 29) (pc := 25) C dX9_bounded_25 (by decide) ?_
        refine zs_putz (r := 1050) (pc := 29) C dX9_bounded_29 w_X9_357 f_10_50 rfl (r_1050 0) (by omega) (by omega) ?_
        refine zs_aload_n (pc := 32) C dX9_bounded_32 rfl ?_
        refine zs_getz (r := 1050) (pc := 33) C dX9_bounded_33 w_X9_357 f_10_50 rfl (r_1050 0) (fun v33 e33 l33 u33 => ?_)
        try simp only [zuI_1, zuI_2, zuJ_1, zuJ_2, zuJ_3, zuP_1, zuP_2, zuP_3, zuC_1, zuC_2, reduceIte, Nat.reduceEqDiff, false_and, and_false, true_and, and_true, and_self, or_true, true_or, or_false, false_or] at e33
        refine zs_if_eq (tgt := 43) (pc := 36) C dX9_bounded_36 (by decide) (fun h36 => ?_) (fun h36 => ?_)
        · skip
          refine zs_lload_n (pc := 43) C dX9_bounded_43 rfl ?_
          exact zs_lret (pc := 44) C hr hlk dX9_bounded_44 (by first | (exfalso; omega) | exact ⟨by repeat (first | exact zsm_rf | assumption | refine zsm_C (by decide) ?_ | refine zsm_I (by decide) ?_ | refine zsm_J ?_ | refine zsm_c (by assumption) (by decide) ?_), (by first | exact kb_1 hg zuI_eq rfl rfl | exact kb_2 hg zuI_eq rfl rfl)⟩)
        · skip
          refine zs_lconst (n := 0) (pc := 39) C dX9_bounded_39 rfl (by decide) ?_
          refine zs_goto (tgt := 44) (pc := 40) C dX9_bounded_40 (by decide) ?_
          exact zs_lret (pc := 44) C hr hlk dX9_bounded_44 (by first | (exfalso; omega) | exact ⟨by repeat (first | exact zsm_rf | assumption | refine zsm_C (by decide) ?_ | refine zsm_I (by decide) ?_ | refine zsm_J ?_ | refine zsm_c (by assumption) (by decide) ?_), (by first | exact kb_1 hg zuI_eq rfl rfl | exact kb_2 hg zuI_eq rfl rfl)⟩)

set_option maxHeartbeats 4000000 in
set_option maxRecDepth 100000 in
theorem c_X9_timesK {l : Launch} {Γ : zΓ} {G : zH} {w : Nat} {a b : Int} (hX : zXs Γ) (h1 : -1000000000000 ≤ a ∧ a ≤ 1000000000000) (h2 : -1000000000000 ≤ b ∧ b ≤ 1000000000000) : zMet l Γ yX9_times cX9_times 6 (some .long) 0 [zr 10 w, zj a, zj b] G (zpj (fun x G' => zsm [1050] G G' ∧ ((G'.1 1050 w 0 = if G.1 1050 w 0 = 0 ∧ inb (a * b) then 0 else 1) ∧ x = (if G.1 1050 w 0 = 0 ∧ inb (a * b) then a * b else 0) ∧ G'.2.1 = G.2.1))) := by
  refine zMet_of RX9 hX (by decide) rfl (Nat.le_of_ble_eq_true rfl) ?_
  intro p e s m args below meth c C hr hlk
  show Z p l e (zrm 0) s m args below meth c Γ 6 0 0 (MQ below (zQc Γ (zpj (fun x G' => zsm [1050] G G' ∧ ((G'.1 1050 w 0 = if G.1 1050 w 0 = 0 ∧ inb (a * b) then 0 else 1) ∧ x = (if G.1 1050 w 0 = 0 ∧ inb (a * b) then a * b else 0) ∧ G'.2.1 = G.2.1)))) args s 0 0 (zA Γ)) 0 [some (zr 10 w), some (zj a), none, some (zj b), none, none] [] G
  refine zs_lload_n (pc := 0) C dX9_times_0 rfl ?_
  refine zs_lconst (n := 0) (pc := 1) C dX9_times_1 rfl (by decide) ?_
  refine zs_lcmp (pc := 2) C dX9_times_2 (fun z2 hz2 => ?_)
  have J49 : ∀ (y5 : Int), ((y5 = 0 ∧ inb (a * b)) ∨ (y5 = 1 ∧ ¬ inb (a * b))) → Z p l e (zrm 0) s m args below meth c Γ 6 0 0 (MQ below (zQc Γ (zpj (fun x G' => zsm [1050] G G' ∧ ((G'.1 1050 w 0 = if G.1 1050 w 0 = 0 ∧ inb (a * b) then 0 else 1) ∧ x = (if G.1 1050 w 0 = 0 ∧ inb (a * b) then a * b else 0) ∧ G'.2.1 = G.2.1)))) args s 0 0 (zA Γ)) 49 [some (zr 10 w), some (zj a), none, some (zj b), none, none] [zi y5] G := by
    intro y5 h49_0
    refine zs_istore (pc := 49) C dX9_times_49 (by decide) ?_
    dsimp only [zset, zclr, znone]
    refine zs_aload_n (pc := 51) C dX9_times_51 rfl ?_
    refine zs_aload_n (pc := 52) C dX9_times_52 rfl ?_
    refine zs_getz (r := 1050) (pc := 53) C dX9_times_53 w_X9_357 f_10_50 rfl (r_1050 0) (fun v53 e53 l53 u53 => ?_)
    refine zs_if_ne (tgt := 64) (pc := 56) C dX9_times_56 (by decide) (fun h56 => ?_) (fun h56 => ?_)
    · skip
      have hg : ¬ (G.1 1050 w 0 = 0 ∧ inb (a * b)) := fun q => h49_0.elim (fun z => by have := q.1; omega) (fun z => z.2 q.2)
      refine zs_iconst (pc := 64) C dX9_times_64 (by decide) ?_
      refine zs_goto (tgt := 69) (pc := 65) C dX9_times_65 (by decide) ?_
      refine zs_putz (r := 1050) (pc := 69) C dX9_times_69 w_X9_357 f_10_50 rfl (r_1050 0) (by omega) (by omega) ?_
      refine zs_aload_n (pc := 72) C dX9_times_72 rfl ?_
      refine zs_getz (r := 1050) (pc := 73) C dX9_times_73 w_X9_357 f_10_50 rfl (r_1050 0) (fun v73 e73 l73 u73 => ?_)
      try simp only [zuI_1, zuI_2, zuJ_1, zuJ_2, zuJ_3, zuP_1, zuP_2, zuP_3, zuC_1, zuC_2, reduceIte, Nat.reduceEqDiff, false_and, and_false, true_and, and_true, and_self, or_true, true_or, or_false, false_or] at e73
      refine zs_if_eq (tgt := 83) (pc := 76) C dX9_times_76 (by decide) (fun h76 => ?_) (fun h76 => ?_)
      · skip
        have hmj : -1000000000000 ≤ a * b ∧ a * b ≤ 1000000000000 := by first | exact hg.2 | (exfalso; omega)
        refine zs_lload_n (pc := 83) C dX9_times_83 rfl ?_
        refine zs_lload_n (pc := 84) C dX9_times_84 rfl ?_
        refine zs_lmulE (pc := 85) C dX9_times_85 (by omega) ?_
        exact zs_lret (pc := 86) C hr hlk dX9_times_86 (by first | (exfalso; omega) | exact ⟨by repeat (first | exact zsm_rf | assumption | refine zsm_C (by decide) ?_ | refine zsm_I (by decide) ?_ | refine zsm_J ?_ | refine zsm_c (by assumption) (by decide) ?_), (by first | exact kb_1 hg zuI_eq rfl rfl | exact kb_2 hg zuI_eq rfl rfl)⟩)
      · skip
        refine zs_lconst (n := 0) (pc := 79) C dX9_times_79 rfl (by decide) ?_
        refine zs_goto (tgt := 86) (pc := 80) C dX9_times_80 (by decide) ?_
        exact zs_lret (pc := 86) C hr hlk dX9_times_86 (by first | (exfalso; omega) | exact ⟨by repeat (first | exact zsm_rf | assumption | refine zsm_C (by decide) ?_ | refine zsm_I (by decide) ?_ | refine zsm_J ?_ | refine zsm_c (by assumption) (by decide) ?_), (by first | exact kb_1 hg zuI_eq rfl rfl | exact kb_2 hg zuI_eq rfl rfl)⟩)
    · skip
      refine zs_iload (pc := 59) C dX9_times_59 rfl ?_
      refine zs_if_eq (tgt := 68) (pc := 61) C dX9_times_61 (by decide) (fun h61 => ?_) (fun h61 => ?_)
      · skip
        have hg : G.1 1050 w 0 = 0 ∧ inb (a * b) := h49_0.elim (fun z => ⟨by omega, z.2⟩) (fun z => by exfalso; omega)
        refine zs_iconst (pc := 68) C dX9_times_68 (by decide) ?_
        refine zs_putz (r := 1050) (pc := 69) C dX9_times_69 w_X9_357 f_10_50 rfl (r_1050 0) (by omega) (by omega) ?_
        refine zs_aload_n (pc := 72) C dX9_times_72 rfl ?_
        refine zs_getz (r := 1050) (pc := 73) C dX9_times_73 w_X9_357 f_10_50 rfl (r_1050 0) (fun v73 e73 l73 u73 => ?_)
        try simp only [zuI_1, zuI_2, zuJ_1, zuJ_2, zuJ_3, zuP_1, zuP_2, zuP_3, zuC_1, zuC_2, reduceIte, Nat.reduceEqDiff, false_and, and_false, true_and, and_true, and_self, or_true, true_or, or_false, false_or] at e73
        refine zs_if_eq (tgt := 83) (pc := 76) C dX9_times_76 (by decide) (fun h76 => ?_) (fun h76 => ?_)
        · skip
          have hmj : -1000000000000 ≤ a * b ∧ a * b ≤ 1000000000000 := by first | exact hg.2 | (exfalso; omega)
          refine zs_lload_n (pc := 83) C dX9_times_83 rfl ?_
          refine zs_lload_n (pc := 84) C dX9_times_84 rfl ?_
          refine zs_lmulE (pc := 85) C dX9_times_85 (by omega) ?_
          exact zs_lret (pc := 86) C hr hlk dX9_times_86 (by first | (exfalso; omega) | exact ⟨by repeat (first | exact zsm_rf | assumption | refine zsm_C (by decide) ?_ | refine zsm_I (by decide) ?_ | refine zsm_J ?_ | refine zsm_c (by assumption) (by decide) ?_), (by first | exact kb_1 hg zuI_eq rfl rfl | exact kb_2 hg zuI_eq rfl rfl)⟩)
        · skip
          refine zs_lconst (n := 0) (pc := 79) C dX9_times_79 rfl (by decide) ?_
          refine zs_goto (tgt := 86) (pc := 80) C dX9_times_80 (by decide) ?_
          exact zs_lret (pc := 86) C hr hlk dX9_times_86 (by first | (exfalso; omega) | exact ⟨by repeat (first | exact zsm_rf | assumption | refine zsm_C (by decide) ?_ | refine zsm_I (by decide) ?_ | refine zsm_J ?_ | refine zsm_c (by assumption) (by decide) ?_), (by first | exact kb_1 hg zuI_eq rfl rfl | exact kb_2 hg zuI_eq rfl rfl)⟩)
      · skip
        have hg : ¬ (G.1 1050 w 0 = 0 ∧ inb (a * b)) := fun q => h49_0.elim (fun z => by have := q.1; omega) (fun z => z.2 q.2)
        refine zs_iconst (pc := 64) C dX9_times_64 (by decide) ?_
        refine zs_goto (tgt := 69) (pc := 65) C dX9_times_65 (by decide) ?_
        refine zs_putz (r := 1050) (pc := 69) C dX9_times_69 w_X9_357 f_10_50 rfl (r_1050 0) (by omega) (by omega) ?_
        refine zs_aload_n (pc := 72) C dX9_times_72 rfl ?_
        refine zs_getz (r := 1050) (pc := 73) C dX9_times_73 w_X9_357 f_10_50 rfl (r_1050 0) (fun v73 e73 l73 u73 => ?_)
        try simp only [zuI_1, zuI_2, zuJ_1, zuJ_2, zuJ_3, zuP_1, zuP_2, zuP_3, zuC_1, zuC_2, reduceIte, Nat.reduceEqDiff, false_and, and_false, true_and, and_true, and_self, or_true, true_or, or_false, false_or] at e73
        refine zs_if_eq (tgt := 83) (pc := 76) C dX9_times_76 (by decide) (fun h76 => ?_) (fun h76 => ?_)
        · skip
          have hmj : -1000000000000 ≤ a * b ∧ a * b ≤ 1000000000000 := by first | exact hg.2 | (exfalso; omega)
          refine zs_lload_n (pc := 83) C dX9_times_83 rfl ?_
          refine zs_lload_n (pc := 84) C dX9_times_84 rfl ?_
          refine zs_lmulE (pc := 85) C dX9_times_85 (by omega) ?_
          exact zs_lret (pc := 86) C hr hlk dX9_times_86 (by first | (exfalso; omega) | exact ⟨by repeat (first | exact zsm_rf | assumption | refine zsm_C (by decide) ?_ | refine zsm_I (by decide) ?_ | refine zsm_J ?_ | refine zsm_c (by assumption) (by decide) ?_), (by first | exact kb_1 hg zuI_eq rfl rfl | exact kb_2 hg zuI_eq rfl rfl)⟩)
        · skip
          refine zs_lconst (n := 0) (pc := 79) C dX9_times_79 rfl (by decide) ?_
          refine zs_goto (tgt := 86) (pc := 80) C dX9_times_80 (by decide) ?_
          exact zs_lret (pc := 86) C hr hlk dX9_times_86 (by first | (exfalso; omega) | exact ⟨by repeat (first | exact zsm_rf | assumption | refine zsm_C (by decide) ?_ | refine zsm_I (by decide) ?_ | refine zsm_J ?_ | refine zsm_c (by assumption) (by decide) ?_), (by first | exact kb_1 hg zuI_eq rfl rfl | exact kb_2 hg zuI_eq rfl rfl)⟩)
  refine zs_if_eq (tgt := 48) (pc := 3) C dX9_times_3 (by decide) (fun h3 => ?_) (fun h3 => ?_)
  · skip
    have hm0 : ((0 : Int) = 0 ∧ inb (a * b)) ∨ ((0 : Int) = 1 ∧ ¬ inb (a * b)) := Or.inl ⟨rfl, by first | (rw [show a = 0 by omega, Int.zero_mul]; decide) | (rw [show b = 0 by omega, Int.mul_zero]; decide) | exact hmb.mp (by omega)⟩
    refine zs_iconst (pc := 48) C dX9_times_48 (by decide) ?_
    exact zs_wk (J49 _ hm0) (zwk_s rfl (zwk_s rfl (zwk_n (zwk_s rfl (zwk_n (zwk_n zwk_0))))))
  · skip
    refine zs_lload_n (pc := 6) C dX9_times_6 rfl ?_
    refine zs_lconst (n := 0) (pc := 7) C dX9_times_7 rfl (by decide) ?_
    refine zs_lcmp (pc := 8) C dX9_times_8 (fun z8 hz8 => ?_)
    refine zs_if_eq (tgt := 48) (pc := 9) C dX9_times_9 (by decide) (fun h9 => ?_) (fun h9 => ?_)
    · skip
      have hm0 : ((0 : Int) = 0 ∧ inb (a * b)) ∨ ((0 : Int) = 1 ∧ ¬ inb (a * b)) := Or.inl ⟨rfl, by first | (rw [show a = 0 by omega, Int.zero_mul]; decide) | (rw [show b = 0 by omega, Int.mul_zero]; decide) | exact hmb.mp (by omega)⟩
      refine zs_iconst (pc := 48) C dX9_times_48 (by decide) ?_
      exact zs_wk (J49 _ hm0) (zwk_s rfl (zwk_s rfl (zwk_n (zwk_s rfl (zwk_n (zwk_n zwk_0))))))
    · skip
      refine zs_lload_n (pc := 12) C dX9_times_12 rfl ?_
      refine zs_lconst (n := 0) (pc := 13) C dX9_times_13 rfl (by decide) ?_
      refine zs_lcmp (pc := 14) C dX9_times_14 (fun z14 hz14 => ?_)
      refine zs_if_ge (tgt := 23) (pc := 15) C dX9_times_15 (by decide) (fun h15 => ?_) (fun h15 => ?_)
      · skip
        refine zs_lload_n (pc := 23) C dX9_times_23 rfl ?_
        refine zs_ldc2 (n := 1000000000000) (pc := 24) C dX9_times_24 q_X9_360 (by decide) (by decide) ?_
        refine zs_lload_n (pc := 27) C dX9_times_27 rfl ?_
        refine zs_lconst (n := 0) (pc := 28) C dX9_times_28 rfl (by decide) ?_
        refine zs_lcmp (pc := 29) C dX9_times_29 (fun z29 hz29 => ?_)
        refine zs_if_ge (tgt := 38) (pc := 30) C dX9_times_30 (by decide) (fun h30 => ?_) (fun h30 => ?_)
        · skip
          refine zs_lload_n (pc := 38) C dX9_times_38 rfl ?_
          refine zs_ldivP (pc := 39) C dX9_times_39 (by omega) (by omega) (fun hz391 hz392 => ?_)
          have hmb := pr_ab (a := a) (b := b) (by omega)
          first | rw [if_pos (show b < 0 by omega)] at hmb | rw [if_neg (show ¬ b < 0 by omega)] at hmb
          first | rw [if_pos (show a < 0 by omega)] at hmb | rw [if_neg (show ¬ a < 0 by omega)] at hmb
          refine zs_lcmp (pc := 40) C dX9_times_40 (fun z40 hz40 => ?_)
          refine zs_if_le (tgt := 48) (pc := 41) C dX9_times_41 (by decide) (fun h41 => ?_) (fun h41 => ?_)
          · skip
            have hm0 : ((0 : Int) = 0 ∧ inb (a * b)) ∨ ((0 : Int) = 1 ∧ ¬ inb (a * b)) := Or.inl ⟨rfl, by first | (rw [show a = 0 by omega, Int.zero_mul]; decide) | (rw [show b = 0 by omega, Int.mul_zero]; decide) | exact hmb.mp (by omega)⟩
            refine zs_iconst (pc := 48) C dX9_times_48 (by decide) ?_
            exact zs_wk (J49 _ hm0) (zwk_s rfl (zwk_s rfl (zwk_n (zwk_s rfl (zwk_n (zwk_n zwk_0))))))
          · skip
            have hm0 : ((1 : Int) = 0 ∧ inb (a * b)) ∨ ((1 : Int) = 1 ∧ ¬ inb (a * b)) := Or.inr ⟨rfl, fun q => by have := hmb.mpr q; omega⟩
            refine zs_iconst (pc := 44) C dX9_times_44 (by decide) ?_
            refine zs_goto (tgt := 49) (pc := 45) C dX9_times_45 (by decide) ?_
            exact zs_wk (J49 _ hm0) (zwk_s rfl (zwk_s rfl (zwk_n (zwk_s rfl (zwk_n (zwk_n zwk_0))))))
        · skip
          refine zs_lload_n (pc := 33) C dX9_times_33 rfl ?_
          refine zs_lnegE (pc := 34) C dX9_times_34 (by omega) ?_
          refine zs_goto (tgt := 39) (pc := 35) C dX9_times_35 (by decide) ?_
          refine zs_ldivP (pc := 39) C dX9_times_39 (by omega) (by omega) (fun hz391 hz392 => ?_)
          have hmb := pr_ab (a := a) (b := b) (by omega)
          first | rw [if_pos (show b < 0 by omega)] at hmb | rw [if_neg (show ¬ b < 0 by omega)] at hmb
          first | rw [if_pos (show a < 0 by omega)] at hmb | rw [if_neg (show ¬ a < 0 by omega)] at hmb
          refine zs_lcmp (pc := 40) C dX9_times_40 (fun z40 hz40 => ?_)
          refine zs_if_le (tgt := 48) (pc := 41) C dX9_times_41 (by decide) (fun h41 => ?_) (fun h41 => ?_)
          · skip
            have hm0 : ((0 : Int) = 0 ∧ inb (a * b)) ∨ ((0 : Int) = 1 ∧ ¬ inb (a * b)) := Or.inl ⟨rfl, by first | (rw [show a = 0 by omega, Int.zero_mul]; decide) | (rw [show b = 0 by omega, Int.mul_zero]; decide) | exact hmb.mp (by omega)⟩
            refine zs_iconst (pc := 48) C dX9_times_48 (by decide) ?_
            exact zs_wk (J49 _ hm0) (zwk_s rfl (zwk_s rfl (zwk_n (zwk_s rfl (zwk_n (zwk_n zwk_0))))))
          · skip
            have hm0 : ((1 : Int) = 0 ∧ inb (a * b)) ∨ ((1 : Int) = 1 ∧ ¬ inb (a * b)) := Or.inr ⟨rfl, fun q => by have := hmb.mpr q; omega⟩
            refine zs_iconst (pc := 44) C dX9_times_44 (by decide) ?_
            refine zs_goto (tgt := 49) (pc := 45) C dX9_times_45 (by decide) ?_
            exact zs_wk (J49 _ hm0) (zwk_s rfl (zwk_s rfl (zwk_n (zwk_s rfl (zwk_n (zwk_n zwk_0))))))
      · skip
        refine zs_lload_n (pc := 18) C dX9_times_18 rfl ?_
        refine zs_lnegE (pc := 19) C dX9_times_19 (by omega) ?_
        refine zs_goto (tgt := 24) (pc := 20) C dX9_times_20 (by decide) ?_
        refine zs_ldc2 (n := 1000000000000) (pc := 24) C dX9_times_24 q_X9_360 (by decide) (by decide) ?_
        refine zs_lload_n (pc := 27) C dX9_times_27 rfl ?_
        refine zs_lconst (n := 0) (pc := 28) C dX9_times_28 rfl (by decide) ?_
        refine zs_lcmp (pc := 29) C dX9_times_29 (fun z29 hz29 => ?_)
        refine zs_if_ge (tgt := 38) (pc := 30) C dX9_times_30 (by decide) (fun h30 => ?_) (fun h30 => ?_)
        · skip
          refine zs_lload_n (pc := 38) C dX9_times_38 rfl ?_
          refine zs_ldivP (pc := 39) C dX9_times_39 (by omega) (by omega) (fun hz391 hz392 => ?_)
          have hmb := pr_ab (a := a) (b := b) (by omega)
          first | rw [if_pos (show b < 0 by omega)] at hmb | rw [if_neg (show ¬ b < 0 by omega)] at hmb
          first | rw [if_pos (show a < 0 by omega)] at hmb | rw [if_neg (show ¬ a < 0 by omega)] at hmb
          refine zs_lcmp (pc := 40) C dX9_times_40 (fun z40 hz40 => ?_)
          refine zs_if_le (tgt := 48) (pc := 41) C dX9_times_41 (by decide) (fun h41 => ?_) (fun h41 => ?_)
          · skip
            have hm0 : ((0 : Int) = 0 ∧ inb (a * b)) ∨ ((0 : Int) = 1 ∧ ¬ inb (a * b)) := Or.inl ⟨rfl, by first | (rw [show a = 0 by omega, Int.zero_mul]; decide) | (rw [show b = 0 by omega, Int.mul_zero]; decide) | exact hmb.mp (by omega)⟩
            refine zs_iconst (pc := 48) C dX9_times_48 (by decide) ?_
            exact zs_wk (J49 _ hm0) (zwk_s rfl (zwk_s rfl (zwk_n (zwk_s rfl (zwk_n (zwk_n zwk_0))))))
          · skip
            have hm0 : ((1 : Int) = 0 ∧ inb (a * b)) ∨ ((1 : Int) = 1 ∧ ¬ inb (a * b)) := Or.inr ⟨rfl, fun q => by have := hmb.mpr q; omega⟩
            refine zs_iconst (pc := 44) C dX9_times_44 (by decide) ?_
            refine zs_goto (tgt := 49) (pc := 45) C dX9_times_45 (by decide) ?_
            exact zs_wk (J49 _ hm0) (zwk_s rfl (zwk_s rfl (zwk_n (zwk_s rfl (zwk_n (zwk_n zwk_0))))))
        · skip
          refine zs_lload_n (pc := 33) C dX9_times_33 rfl ?_
          refine zs_lnegE (pc := 34) C dX9_times_34 (by omega) ?_
          refine zs_goto (tgt := 39) (pc := 35) C dX9_times_35 (by decide) ?_
          refine zs_ldivP (pc := 39) C dX9_times_39 (by omega) (by omega) (fun hz391 hz392 => ?_)
          have hmb := pr_ab (a := a) (b := b) (by omega)
          first | rw [if_pos (show b < 0 by omega)] at hmb | rw [if_neg (show ¬ b < 0 by omega)] at hmb
          first | rw [if_pos (show a < 0 by omega)] at hmb | rw [if_neg (show ¬ a < 0 by omega)] at hmb
          refine zs_lcmp (pc := 40) C dX9_times_40 (fun z40 hz40 => ?_)
          refine zs_if_le (tgt := 48) (pc := 41) C dX9_times_41 (by decide) (fun h41 => ?_) (fun h41 => ?_)
          · skip
            have hm0 : ((0 : Int) = 0 ∧ inb (a * b)) ∨ ((0 : Int) = 1 ∧ ¬ inb (a * b)) := Or.inl ⟨rfl, by first | (rw [show a = 0 by omega, Int.zero_mul]; decide) | (rw [show b = 0 by omega, Int.mul_zero]; decide) | exact hmb.mp (by omega)⟩
            refine zs_iconst (pc := 48) C dX9_times_48 (by decide) ?_
            exact zs_wk (J49 _ hm0) (zwk_s rfl (zwk_s rfl (zwk_n (zwk_s rfl (zwk_n (zwk_n zwk_0))))))
          · skip
            have hm0 : ((1 : Int) = 0 ∧ inb (a * b)) ∨ ((1 : Int) = 1 ∧ ¬ inb (a * b)) := Or.inr ⟨rfl, fun q => by have := hmb.mpr q; omega⟩
            refine zs_iconst (pc := 44) C dX9_times_44 (by decide) ?_
            refine zs_goto (tgt := 49) (pc := 45) C dX9_times_45 (by decide) ?_
            exact zs_wk (J49 _ hm0) (zwk_s rfl (zwk_s rfl (zwk_n (zwk_s rfl (zwk_n (zwk_n zwk_0))))))

set_option maxHeartbeats 4000000 in
set_option maxRecDepth 100000 in
theorem c_X9_comparesK {l : Launch} {Γ : zΓ} {G : zH} {k a b : Int} (hX : zXs Γ) (hk : 5 ≤ k ∧ k ≤ 10) : zMet l Γ yX9_compares cX9_compares 5 (some .boolean) 0 [zi k, zj a, zj b] G (zpi (fun x G' => G' = G ∧ ((x = 0 ∨ x = 1) ∧ (x = 1 ↔ jV k a b ≠ 0)))) := by
  refine zMet_of RX9 hX (by decide) rfl (Nat.le_of_ble_eq_true rfl) ?_
  intro p e s m args below meth c C hr hlk
  show Z p l e (zrm 0) s m args below meth c Γ 5 0 0 (MQ below (zQc Γ (zpi (fun x G' => G' = G ∧ ((x = 0 ∨ x = 1) ∧ (x = 1 ↔ jV k a b ≠ 0))))) args s 0 0 (zA Γ)) 0 [some (zi k), some (zj a), none, some (zj b), none] [] G
  refine zs_loc 0 rfl (fun ha0 hb0 => ?_)
  refine zs_iload_n (pc := 0) C dX9_compares_0 rfl ?_
  refine zs_name (fun y1 ey1 => ?_)
  rcases (show y1 = 5 ∨ y1 = 6 ∨ y1 = 7 ∨ y1 = 8 ∨ y1 = 9 ∨ (y1 < 5 ∨ 9 < y1) by omega) with h1 | h1 | h1 | h1 | h1 | h1
  · skip
    refine zs_tabIn (pc := 1) (tgt := 36) C 5 dX9_compares_1 h1 (by decide) rfl (by decide) ?_
    refine zs_lload_n (pc := 36) C dX9_compares_36 rfl ?_
    refine zs_lload_n (pc := 37) C dX9_compares_37 rfl ?_
    refine zs_lcmp (pc := 38) C dX9_compares_38 (fun z38 hz38 => ?_)
    refine zs_if_ge (tgt := 46) (pc := 39) C dX9_compares_39 (by decide) (fun h39 => ?_) (fun h39 => ?_)
    · skip
      refine zs_iconst (pc := 46) C dX9_compares_46 (by decide) ?_
      exact zs_zret (pc := 47) C hr hlk dX9_compares_47 (by omega) ⟨rfl, ⟨by omega, by rw [show k = 5 by omega, jV_5]; first | (rw [if_pos (by omega)]; decide) | (rw [if_neg (by omega)]; decide)⟩⟩
    · skip
      refine zs_iconst (pc := 42) C dX9_compares_42 (by decide) ?_
      refine zs_goto (tgt := 47) (pc := 43) C dX9_compares_43 (by decide) ?_
      exact zs_zret (pc := 47) C hr hlk dX9_compares_47 (by omega) ⟨rfl, ⟨by omega, by rw [show k = 5 by omega, jV_5]; first | (rw [if_pos (by omega)]; decide) | (rw [if_neg (by omega)]; decide)⟩⟩
  · skip
    refine zs_tabIn (pc := 1) (tgt := 48) C 6 dX9_compares_1 h1 (by decide) rfl (by decide) ?_
    refine zs_lload_n (pc := 48) C dX9_compares_48 rfl ?_
    refine zs_lload_n (pc := 49) C dX9_compares_49 rfl ?_
    refine zs_lcmp (pc := 50) C dX9_compares_50 (fun z50 hz50 => ?_)
    refine zs_if_gt (tgt := 58) (pc := 51) C dX9_compares_51 (by decide) (fun h51 => ?_) (fun h51 => ?_)
    · skip
      refine zs_iconst (pc := 58) C dX9_compares_58 (by decide) ?_
      exact zs_zret (pc := 59) C hr hlk dX9_compares_59 (by omega) ⟨rfl, ⟨by omega, by rw [show k = 6 by omega, jV_6]; first | (rw [if_pos (by omega)]; decide) | (rw [if_neg (by omega)]; decide)⟩⟩
    · skip
      refine zs_iconst (pc := 54) C dX9_compares_54 (by decide) ?_
      refine zs_goto (tgt := 59) (pc := 55) C dX9_compares_55 (by decide) ?_
      exact zs_zret (pc := 59) C hr hlk dX9_compares_59 (by omega) ⟨rfl, ⟨by omega, by rw [show k = 6 by omega, jV_6]; first | (rw [if_pos (by omega)]; decide) | (rw [if_neg (by omega)]; decide)⟩⟩
  · skip
    refine zs_tabIn (pc := 1) (tgt := 60) C 7 dX9_compares_1 h1 (by decide) rfl (by decide) ?_
    refine zs_lload_n (pc := 60) C dX9_compares_60 rfl ?_
    refine zs_lload_n (pc := 61) C dX9_compares_61 rfl ?_
    refine zs_lcmp (pc := 62) C dX9_compares_62 (fun z62 hz62 => ?_)
    refine zs_if_ne (tgt := 70) (pc := 63) C dX9_compares_63 (by decide) (fun h63 => ?_) (fun h63 => ?_)
    · skip
      refine zs_iconst (pc := 70) C dX9_compares_70 (by decide) ?_
      exact zs_zret (pc := 71) C hr hlk dX9_compares_71 (by omega) ⟨rfl, ⟨by omega, by rw [show k = 7 by omega, jV_7]; first | (rw [if_pos (by omega)]; decide) | (rw [if_neg (by omega)]; decide)⟩⟩
    · skip
      refine zs_iconst (pc := 66) C dX9_compares_66 (by decide) ?_
      refine zs_goto (tgt := 71) (pc := 67) C dX9_compares_67 (by decide) ?_
      exact zs_zret (pc := 71) C hr hlk dX9_compares_71 (by omega) ⟨rfl, ⟨by omega, by rw [show k = 7 by omega, jV_7]; first | (rw [if_pos (by omega)]; decide) | (rw [if_neg (by omega)]; decide)⟩⟩
  · skip
    refine zs_tabIn (pc := 1) (tgt := 72) C 8 dX9_compares_1 h1 (by decide) rfl (by decide) ?_
    refine zs_lload_n (pc := 72) C dX9_compares_72 rfl ?_
    refine zs_lload_n (pc := 73) C dX9_compares_73 rfl ?_
    refine zs_lcmp (pc := 74) C dX9_compares_74 (fun z74 hz74 => ?_)
    refine zs_if_eq (tgt := 82) (pc := 75) C dX9_compares_75 (by decide) (fun h75 => ?_) (fun h75 => ?_)
    · skip
      refine zs_iconst (pc := 82) C dX9_compares_82 (by decide) ?_
      exact zs_zret (pc := 83) C hr hlk dX9_compares_83 (by omega) ⟨rfl, ⟨by omega, by rw [show k = 8 by omega, jV_8]; first | (rw [if_pos (by omega)]; decide) | (rw [if_neg (by omega)]; decide)⟩⟩
    · skip
      refine zs_iconst (pc := 78) C dX9_compares_78 (by decide) ?_
      refine zs_goto (tgt := 83) (pc := 79) C dX9_compares_79 (by decide) ?_
      exact zs_zret (pc := 83) C hr hlk dX9_compares_83 (by omega) ⟨rfl, ⟨by omega, by rw [show k = 8 by omega, jV_8]; first | (rw [if_pos (by omega)]; decide) | (rw [if_neg (by omega)]; decide)⟩⟩
  · skip
    refine zs_tabIn (pc := 1) (tgt := 84) C 9 dX9_compares_1 h1 (by decide) rfl (by decide) ?_
    refine zs_lload_n (pc := 84) C dX9_compares_84 rfl ?_
    refine zs_lload_n (pc := 85) C dX9_compares_85 rfl ?_
    refine zs_lcmp (pc := 86) C dX9_compares_86 (fun z86 hz86 => ?_)
    refine zs_if_lt (tgt := 94) (pc := 87) C dX9_compares_87 (by decide) (fun h87 => ?_) (fun h87 => ?_)
    · skip
      refine zs_iconst (pc := 94) C dX9_compares_94 (by decide) ?_
      exact zs_zret (pc := 95) C hr hlk dX9_compares_95 (by omega) ⟨rfl, ⟨by omega, by rw [show k = 9 by omega, jV_9]; first | (rw [if_pos (by omega)]; decide) | (rw [if_neg (by omega)]; decide)⟩⟩
    · skip
      refine zs_iconst (pc := 90) C dX9_compares_90 (by decide) ?_
      refine zs_goto (tgt := 95) (pc := 91) C dX9_compares_91 (by decide) ?_
      exact zs_zret (pc := 95) C hr hlk dX9_compares_95 (by omega) ⟨rfl, ⟨by omega, by rw [show k = 9 by omega, jV_9]; first | (rw [if_pos (by omega)]; decide) | (rw [if_neg (by omega)]; decide)⟩⟩
  · skip
    refine zs_tabOut (tgt := 96) (pc := 1) C dX9_compares_1 h1 (by decide) ?_
    refine zs_lload_n (pc := 96) C dX9_compares_96 rfl ?_
    refine zs_lload_n (pc := 97) C dX9_compares_97 rfl ?_
    refine zs_lcmp (pc := 98) C dX9_compares_98 (fun z98 hz98 => ?_)
    refine zs_if_le (tgt := 106) (pc := 99) C dX9_compares_99 (by decide) (fun h99 => ?_) (fun h99 => ?_)
    · skip
      refine zs_iconst (pc := 106) C dX9_compares_106 (by decide) ?_
      exact zs_zret (pc := 107) C hr hlk dX9_compares_107 (by omega) ⟨rfl, ⟨by omega, by rw [show k = 10 by omega, jV_10]; first | (rw [if_pos (by omega)]; decide) | (rw [if_neg (by omega)]; decide)⟩⟩
    · skip
      refine zs_iconst (pc := 102) C dX9_compares_102 (by decide) ?_
      refine zs_goto (tgt := 107) (pc := 103) C dX9_compares_103 (by decide) ?_
      exact zs_zret (pc := 107) C hr hlk dX9_compares_107 (by omega) ⟨rfl, ⟨by omega, by rw [show k = 10 by omega, jV_10]; first | (rw [if_pos (by omega)]; decide) | (rw [if_neg (by omega)]; decide)⟩⟩
end
section
/-! one knot of the reference, all its knots in turn -/
def kW (nm V : Nat → Int) (s p q : Int) : Int := if s = 0 then p else if s = 1 then nm p.toNat else if s = 4 then (if V p.toNat = 0 then 1 else 0) else jV s (V p.toNat) (V q.toNat)
theorem kW_0 {nm V : Nat → Int} {s p q : Int} (h : s = 0) : kW nm V s p q = p := by unfold kW; rw [if_pos h]
theorem kW_1 {nm V : Nat → Int} {s p q : Int} (h : s = 1) : kW nm V s p q = nm p.toNat := by unfold kW; rw [if_neg (by omega), if_pos h]
theorem kW_4 {nm V : Nat → Int} {s p q : Int} (h : s = 4) : kW nm V s p q = (if V p.toNat = 0 then 1 else 0) := by unfold kW; rw [if_neg (by omega), if_neg (by omega), if_pos h]
theorem kW_j {nm V : Nat → Int} {s p q : Int} (h : 2 ≤ s) (h4 : s ≠ 4) : kW nm V s p q = jV s (V p.toNat) (V q.toNat) := by unfold kW; rw [if_neg (by omega), if_neg (by omega), if_neg h4]
theorem rk_2 {s : Int} (h : 2 ≤ s ∧ s ≤ 14) (h4 : s ≠ 4) : (s = 3 ∧ rk s = 3) ∨ (s = 2 ∧ rk s = 4) ∨ (5 ≤ s ∧ rk s = s) := by
  have q := rk_q (s := s) (by omega)
  rcases (show s = 3 ∨ s = 2 ∨ 5 ≤ s by omega) with z | z | z
  · exact Or.inl ⟨z, q.2.2.2.1.mpr z⟩
  · exact Or.inr (Or.inl ⟨z, q.2.2.2.2.1.mpr z⟩)
  · exact Or.inr (Or.inr ⟨z, q.2.2.2.2.2.2.1 z⟩)
theorem vK_ok {G : zH} {w : Nat} {kv x : Int} (hr : 0 ≤ G.1 1050 w 0 ∧ G.1 1050 w 0 ≤ 1) (hx : x = kv) (hi : inb kv) : (G.1 1050 w 0 = if G.1 1050 w 0 = 0 ∧ inb kv then 0 else 1) ∧ (G.1 1050 w 0 = 0 → inb kv → x = kv) ∧ inb x ∧ G.2.1 = G.2.1 := by
  refine ⟨?_, fun _ _ => hx, by rw [hx]; exact hi, rfl⟩
  by_cases z : G.1 1050 w 0 = 0
  · rw [if_pos ⟨z, hi⟩]; exact z
  · rw [if_neg (fun q => z q.1)]; omega
theorem vK_b {e e9 kv v x : Int} {P : Prop} (h : e9 = if e = 0 ∧ inb v then 0 else 1) (hx : x = if e = 0 ∧ inb v then v else 0) (hv : kv = v) (hP : P) : (e9 = if e = 0 ∧ inb kv then 0 else 1) ∧ (e = 0 → inb kv → x = kv) ∧ inb x ∧ P := by
  subst hv
  refine ⟨h, fun a b => by rw [hx, if_pos ⟨a, b⟩], ?_, hP⟩
  rw [hx]
  split
  · rename_i q; exact q.2
  · decide
theorem vK_d {e e9 kv x a b : Int} {P : Prop} (ha : -1000000000000 ≤ a ∧ a ≤ 1000000000000) (hv : kv = jV 14 a b) (h : (e = 0 ∧ b ≠ 0 ∧ e9 = 0 ∧ x = Int.tdiv a b) ∨ ((e ≠ 0 ∨ b = 0) ∧ e9 = 1 ∧ x = 0)) (hP : P) : (e9 = if e = 0 ∧ inb kv then 0 else 1) ∧ (e = 0 → inb kv → x = kv) ∧ inb x ∧ P := by
  rcases h with ⟨h1, h2, h3, h4⟩ | ⟨h1, h3, h4⟩
  · have hk : kv = Int.tdiv a b := by rw [hv, jV_14, if_neg h2]
    have hi : inb (Int.tdiv a b) := td_in ha
    rw [hk, h4]
    exact ⟨by rw [if_pos ⟨h1, hi⟩]; exact h3, fun _ _ => rfl, hi, hP⟩
  · have hn : ¬ (e = 0 ∧ inb kv) := fun q => h1.elim (fun z => z q.1) (fun z => jV_n14 (a := a) z (by rw [← hv]; exact q.2))
    exact ⟨by rw [if_neg hn]; exact h3, fun q1 q2 => absurd ⟨q1, q2⟩ hn, by rw [h4]; decide, hP⟩
theorem jV_01 {k a b : Int} (h : 5 ≤ k ∧ k ≤ 10) : jV k a b = 0 ∨ jV k a b = 1 := by
  rcases (show k = 5 ∨ k = 6 ∨ k = 7 ∨ k = 8 ∨ k = 9 ∨ k = 10 by omega) with rfl | rfl | rfl | rfl | rfl | rfl
  · rw [jV_5]; split <;> omega
  · rw [jV_6]; split <;> omega
  · rw [jV_7]; split <;> omega
  · rw [jV_8]; split <;> omega
  · rw [jV_9]; split <;> omega
  · rw [jV_10]; split <;> omega
theorem jV_01i {k a b : Int} (h : 5 ≤ k ∧ k ≤ 10) : inb (jV k a b) := by
  have := jV_01 (a := a) (b := b) h
  unfold inb
  omega
def RI (sg pt ot nm : Nat → Int) (s0 m : Nat) (e : Int) (V : Nat → Int) : Prop := (e = if vG sg pt ot nm s0 m = 1 then 0 else 1) ∧ (vG sg pt ot nm s0 m = 1 → ∀ j, s0 ≤ j → j < s0 + m → V j = vN sg pt ot nm s0 m j) ∧ ∀ j, s0 ≤ j → j < s0 + m → inb (V j)
theorem RI_0 {sg pt ot nm : Nat → Int} {s0 : Nat} {V : Nat → Int} {x f : Int} (h : x = f := by rfl) : RI sg pt ot nm s0 (x - f).toNat 0 V := by
  rw [show (x - f).toNat = 0 by omega]
  exact ⟨rfl, fun _ j h1 h2 => absurd h2 (by omega), fun j h1 h2 => absurd h2 (by omega)⟩
theorem sm_p {sg nb pt ot : Nat → Int} {s0 n m : Nat} (hO : smO sg nb pt ot s0 n) (hm : m < n) : (2 ≤ sg (s0 + m) → (s0 : Int) ≤ pt (s0 + m) ∧ pt (s0 + m) < s0 + m) ∧ (2 ≤ sg (s0 + m) → sg (s0 + m) ≠ 4 → (s0 : Int) ≤ ot (s0 + m) ∧ ot (s0 + m) < s0 + m) := by
  obtain ⟨h1, h2, h3⟩ := sm_in hO m (by omega)
  obtain ⟨k1, k2, k3⟩ := hO m hm
  refine ⟨fun q => ?_, fun q q4 => ?_⟩
  · by_cases q4 : sg (s0 + m) = 4
    · obtain ⟨c1, c2⟩ := k2 q4
      rw [c2]; exact h3 _ (by omega)
    · obtain ⟨c0, c1, c2, c3⟩ := k3 (by omega) q4
      rw [c2]; exact h3 _ (by omega)
  · obtain ⟨c0, c1, c2, c3⟩ := k3 (by omega) q4
    rw [c3]; exact h3 _ (by omega)
theorem RI_pre {sg nb pt ot nm : Nat → Int} {s0 n m : Nat} {e : Int} {V : Nat → Int} (h : RI sg pt ot nm s0 m e V) (hO : smO sg nb pt ot s0 n) (hm : m < n) (hl : s0 + m ≤ 64) : (0 ≤ sg (s0 + m) ∧ sg (s0 + m) ≤ 14) ∧ (sg (s0 + m) = 0 → 0 ≤ pt (s0 + m) ∧ pt (s0 + m) ≤ 9999) ∧ (sg (s0 + m) = 1 → 0 ≤ pt (s0 + m) ∧ pt (s0 + m) ≤ 6) ∧ (2 ≤ sg (s0 + m) → 0 ≤ pt (s0 + m) ∧ pt (s0 + m) < 64 ∧ inb (V (pt (s0 + m)).toNat)) ∧ (2 ≤ sg (s0 + m) → sg (s0 + m) ≠ 4 → 0 ≤ ot (s0 + m) ∧ ot (s0 + m) < 64 ∧ inb (V (ot (s0 + m)).toNat)) := by
  obtain ⟨p1, p2⟩ := sm_p hO hm
  obtain ⟨k1, k2, k3⟩ := hO m hm
  refine ⟨?_, fun q => ?_, fun q => ?_, fun q => ?_, fun q q4 => ?_⟩
  · by_cases q : sg (s0 + m) ≤ 1
    · have := (k1 q).1; omega
    · by_cases q4 : sg (s0 + m) = 4
      · omega
      · have := (k3 (by omega) q4).1; omega
  · obtain ⟨c1, c2, c3, c4, c5⟩ := k1 (by omega)
    omega
  · obtain ⟨c1, c2, c3, c4, c5⟩ := k1 (by omega)
    have := c5 q
    omega
  · have := p1 q
    exact ⟨by omega, by omega, h.2.2 _ (by omega) (by omega)⟩
  · have := p2 q q4
    exact ⟨by omega, by omega, h.2.2 _ (by omega) (by omega)⟩
theorem RI_kW {sg nb pt ot nm : Nat → Int} {s0 n m : Nat} {e : Int} {V : Nat → Int} (h : RI sg pt ot nm s0 m e V) (hO : smO sg nb pt ot s0 n) (hm : m < n) (hg : vG sg pt ot nm s0 m = 1) : kW nm V (sg (s0 + m)) (pt (s0 + m)) (ot (s0 + m)) = kV sg pt ot nm (vN sg pt ot nm s0 m) (s0 + m) := by
  obtain ⟨p1, p2⟩ := sm_p hO hm
  have hv := h.2.1 hg
  have h0 : 0 ≤ sg (s0 + m) := by
    obtain ⟨k1, -, -⟩ := hO m hm
    by_cases q : sg (s0 + m) ≤ 1
    · exact (k1 q).1
    · omega
  unfold kW kV
  by_cases q0 : sg (s0 + m) = 0
  · rw [if_pos q0, if_pos q0]
  rw [if_neg q0, if_neg q0]
  by_cases q1 : sg (s0 + m) = 1
  · rw [if_pos q1, if_pos q1]
  rw [if_neg q1, if_neg q1]
  have z1 := p1 (by omega)
  by_cases q4 : sg (s0 + m) = 4
  · rw [if_pos q4, if_pos q4, hv _ (by omega) (by omega)]
  rw [if_neg q4, if_neg q4]
  have z2 := p2 (by omega) q4
  rw [hv _ (by omega) (by omega), hv _ (by omega) (by omega)]
theorem RI_s {sg nb pt ot nm : Nat → Int} {s0 n m : Nat} {e e9 x : Int} {V V' : Nat → Int} (h : RI sg pt ot nm s0 m e V) (hO : smO sg nb pt ot s0 n) (hm : m < n) (he : e9 = if e = 0 ∧ inb (kW nm V (sg (s0 + m)) (pt (s0 + m)) (ot (s0 + m))) then 0 else 1) (hx : e = 0 → inb (kW nm V (sg (s0 + m)) (pt (s0 + m)) (ot (s0 + m))) → x = kW nm V (sg (s0 + m)) (pt (s0 + m)) (ot (s0 + m))) (hi : inb x) (hV : ∀ j, V' j = if j = s0 + m then x else V j) : RI sg pt ot nm s0 (m + 1) e9 V' := by
  have h9 := h
  obtain ⟨h1, h2, h3⟩ := h
  have eg : vG sg pt ot nm s0 (m + 1) = if vG sg pt ot nm s0 m = 1 ∧ inb (kV sg pt ot nm (vN sg pt ot nm s0 m) (s0 + m)) then 1 else 0 := rfl
  refine ⟨?_, fun hg j hj hj2 => ?_, fun j hj hj2 => ?_⟩
  · by_cases q : vG sg pt ot nm s0 m = 1
    · rw [if_pos q] at h1
      have ek := RI_kW h9 hO hm q
      rw [ek] at he
      rw [eg, he]
      by_cases z : inb (kV sg pt ot nm (vN sg pt ot nm s0 m) (s0 + m))
      · have p1 : e = 0 ∧ inb (kV sg pt ot nm (vN sg pt ot nm s0 m) (s0 + m)) := ⟨h1, z⟩
        have p2 : vG sg pt ot nm s0 m = 1 ∧ inb (kV sg pt ot nm (vN sg pt ot nm s0 m) (s0 + m)) := ⟨q, z⟩
        rw [if_pos p1, if_pos p2]; rfl
      · have p1 : ¬ (e = 0 ∧ inb (kV sg pt ot nm (vN sg pt ot nm s0 m) (s0 + m))) := fun y => z y.2
        have p2 : ¬ (vG sg pt ot nm s0 m = 1 ∧ inb (kV sg pt ot nm (vN sg pt ot nm s0 m) (s0 + m))) := fun y => z y.2
        rw [if_neg p1, if_neg p2]; rfl
    · rw [if_neg q] at h1
      have p1 : ¬ (e = 0 ∧ inb (kW nm V (sg (s0 + m)) (pt (s0 + m)) (ot (s0 + m)))) := fun y => by have := y.1; omega
      have p2 : ¬ (vG sg pt ot nm s0 m = 1 ∧ inb (kV sg pt ot nm (vN sg pt ot nm s0 m) (s0 + m))) := fun y => q y.1
      rw [eg, he, if_neg p1, if_neg p2]
      rfl
  · have q : vG sg pt ot nm s0 m = 1 ∧ inb (kV sg pt ot nm (vN sg pt ot nm s0 m) (s0 + m)) := by
      by_cases q : vG sg pt ot nm s0 m = 1 ∧ inb (kV sg pt ot nm (vN sg pt ot nm s0 m) (s0 + m))
      · exact q
      · rw [eg, if_neg q] at hg
        exact absurd hg (by decide)
    rw [if_pos q.1] at h1
    have ek := RI_kW h9 hO hm q.1
    rw [hV]
    show _ = (if j = s0 + m then _ else _)
    by_cases z : j = s0 + m
    · rw [if_pos z, if_pos z, ← ek]
      exact hx h1 (by rw [ek]; exact q.2)
    · rw [if_neg z, if_neg z]
      exact h2 q.1 j hj (by omega)
  · rw [hV]
    by_cases z : j = s0 + m
    · rw [if_pos z]; exact hi
    · rw [if_neg z]; exact h3 j hj (by omega)
theorem RI_end {sg pt ot nm : Nat → Int} {f b e : Int} {V : Nat → Int} (h : RI sg pt ot nm f.toNat (b - f).toNat e V) (hf : 0 ≤ f) (hx : f < b) : (e = if vG sg pt ot nm f.toNat (b - f).toNat = 1 then 0 else 1) ∧ (vG sg pt ot nm f.toNat (b - f).toNat = 1 → V (b - 1).toNat = lV sg pt ot nm f b) := by
  refine ⟨h.1, fun q => ?_⟩
  unfold lV
  rw [if_pos ⟨hx, q⟩]
  exact h.2.1 q _ (by omega) (by omega)

set_option maxHeartbeats 4000000 in
set_option maxRecDepth 100000 in
theorem c_X9_valueOfK {l : Launch} {Γ : zΓ} {G : zH} {w : Nat} {k s p q : Int} (hX : zXs Γ) (hk : 0 ≤ k ∧ k < 64) (hs : 0 ≤ s ∧ s ≤ 14) (hks : G.1 2074 (Γ.2.1 w 37) k.toNat = rk s) (hkp : G.1 2075 (Γ.2.1 w 38) k.toNat = p) (hkq : G.1 2076 (Γ.2.1 w 39) k.toNat = q) (h0 : s = 0 → 0 ≤ p ∧ p ≤ 9999) (h1 : s = 1 → 0 ≤ p ∧ p ≤ 6) (h2 : 2 ≤ s → 0 ≤ p ∧ p < 64 ∧ inb ((G.2.1 2080 (Γ.2.1 w 49)) p.toNat)) (h3 : 2 ≤ s → s ≠ 4 → 0 ≤ q ∧ q < 64 ∧ inb ((G.2.1 2080 (Γ.2.1 w 49)) q.toNat)) (hn : ∀ j : Nat, j < 7 → -2147483648 ≤ (G.2.1 2079 (Γ.2.1 w 48)) j ∧ (G.2.1 2079 (Γ.2.1 w 48)) j ≤ 2147483647) : zMet l Γ yX9_valueOf cX9_valueOf 6 (some .long) 1 [zr 10 w, zi k] G (zpj (fun x G' => zsm [1050] G G' ∧ ((G'.1 1050 w 0 = if G.1 1050 w 0 = 0 ∧ inb (kW (G.2.1 2079 (Γ.2.1 w 48)) (G.2.1 2080 (Γ.2.1 w 49)) s p q) then 0 else 1) ∧ (G.1 1050 w 0 = 0 → inb (kW (G.2.1 2079 (Γ.2.1 w 48)) (G.2.1 2080 (Γ.2.1 w 49)) s p q) → x = (kW (G.2.1 2079 (Γ.2.1 w 48)) (G.2.1 2080 (Γ.2.1 w 49)) s p q)) ∧ inb x ∧ G'.2.1 = G.2.1))) := by
  refine zMet_of RX9 hX (by decide) rfl (Nat.le_of_ble_eq_true rfl) ?_
  intro px9 e sx9 m args below meth c C hr hlk
  show Z px9 l e (zrm 1) sx9 m args below meth c Γ 6 0 0 (MQ below (zQc Γ (zpj (fun x G' => zsm [1050] G G' ∧ ((G'.1 1050 w 0 = if G.1 1050 w 0 = 0 ∧ inb (kW (G.2.1 2079 (Γ.2.1 w 48)) (G.2.1 2080 (Γ.2.1 w 49)) s p q) then 0 else 1) ∧ (G.1 1050 w 0 = 0 → inb (kW (G.2.1 2079 (Γ.2.1 w 48)) (G.2.1 2080 (Γ.2.1 w 49)) s p q) → x = (kW (G.2.1 2079 (Γ.2.1 w 48)) (G.2.1 2080 (Γ.2.1 w 49)) s p q)) ∧ inb x ∧ G'.2.1 = G.2.1)))) args sx9 0 0 (zA Γ)) 0 [some (zr 10 w), some (zi k), none, none, none, none] [] G
  refine zs_loc 1 rfl (fun ha1 hb1 => ?_)
  refine zs_good (fun hGd => ?_)
  have hrz := hGd.1 1050 w 0
  rw [r_1050] at hrz
  refine zs_aload_n (pc := 0) C dX9_valueOf_0 rfl ?_
  refine zs_getf (pc := 1) C dX9_valueOf_1 w_X9_66 f_10_37 (by decide) ?_
  refine zs_iload_n (pc := 4) C dX9_valueOf_4 rfl ?_
  refine zs_iald (r := 2074) (pc := 5) C dX9_valueOf_5 a_74 (by decide) (by omega) rfl (r_2074 _) (fun v5 e5 l5 u5 => ?_)
  rw [hks] at e5
  refine zs_if_ne (tgt := 17) (pc := 6) C dX9_valueOf_6 (by decide) (fun h6 => ?_) (fun h6 => ?_)
  · skip
    have s0 : s ≠ 0 := fun z => by have := (rk_q hs).1.mpr z; omega
    refine zs_aload_n (pc := 17) C dX9_valueOf_17 rfl ?_
    refine zs_getf (pc := 18) C dX9_valueOf_18 w_X9_66 f_10_37 (by decide) ?_
    refine zs_iload_n (pc := 21) C dX9_valueOf_21 rfl ?_
    refine zs_iald (r := 2074) (pc := 22) C dX9_valueOf_22 a_74 (by decide) (by omega) rfl (r_2074 _) (fun v22 e22 l22 u22 => ?_)
    rw [hks] at e22
    refine zs_iconst (pc := 23) C dX9_valueOf_23 (by decide) ?_
    refine zs_icmp_ne (tgt := 39) (pc := 24) C dX9_valueOf_24 (by decide) (fun h24 => ?_) (fun h24 => ?_)
    · skip
      have s1 : s ≠ 1 := fun z => by have := (rk_q hs).2.1.mpr z; omega
      obtain ⟨p0, p64, pi⟩ := h2 (by omega)
      refine zs_aload_n (pc := 39) C dX9_valueOf_39 rfl ?_
      refine zs_getf (pc := 40) C dX9_valueOf_40 w_X9_85 f_10_49 (by decide) ?_
      refine zs_aload_n (pc := 43) C dX9_valueOf_43 rfl ?_
      refine zs_getf (pc := 44) C dX9_valueOf_44 w_X9_69 f_10_38 (by decide) ?_
      refine zs_iload_n (pc := 47) C dX9_valueOf_47 rfl ?_
      refine zs_iald (r := 2075) (pc := 48) C dX9_valueOf_48 a_75 (by decide) (by omega) rfl (r_2075 _) (fun v48 e48 l48 u48 => ?_)
      rw [hkp] at e48
      refine zs_lald (r := 2080) (pc := 49) C dX9_valueOf_49 a_80 (by decide) (by omega) rfl (fun v49 e49 l49 u49 => ?_)
      rw [e48] at e49
      rw [← e49] at pi
      unfold inb at pi
      refine zs_lstore_n (pc := 50) C dX9_valueOf_50 (by decide) ?_
      dsimp only [zset, zclr, znone]
      refine zs_aload_n (pc := 51) C dX9_valueOf_51 rfl ?_
      refine zs_getf (pc := 52) C dX9_valueOf_52 w_X9_66 f_10_37 (by decide) ?_
      refine zs_iload_n (pc := 55) C dX9_valueOf_55 rfl ?_
      refine zs_iald (r := 2074) (pc := 56) C dX9_valueOf_56 a_74 (by decide) (by omega) rfl (r_2074 _) (fun v56 e56 l56 u56 => ?_)
      rw [hks] at e56
      refine zs_iconst (pc := 57) C dX9_valueOf_57 (by decide) ?_
      refine zs_icmp_ne (tgt := 73) (pc := 58) C dX9_valueOf_58 (by decide) (fun h58 => ?_) (fun h58 => ?_)
      · skip
        have s4 : s ≠ 4 := fun z => by have := (rk_q hs).2.2.1.mpr z; omega
        obtain ⟨q0, q64, qi⟩ := h3 (by omega) s4
        refine zs_aload_n (pc := 73) C dX9_valueOf_73 rfl ?_
        refine zs_getf (pc := 74) C dX9_valueOf_74 w_X9_85 f_10_49 (by decide) ?_
        refine zs_aload_n (pc := 77) C dX9_valueOf_77 rfl ?_
        refine zs_getf (pc := 78) C dX9_valueOf_78 w_X9_72 f_10_39 (by decide) ?_
        refine zs_iload_n (pc := 81) C dX9_valueOf_81 rfl ?_
        refine zs_iald (r := 2076) (pc := 82) C dX9_valueOf_82 a_76 (by decide) (by omega) rfl (r_2076 _) (fun v82 e82 l82 u82 => ?_)
        rw [hkq] at e82
        refine zs_lald (r := 2080) (pc := 83) C dX9_valueOf_83 a_80 (by decide) (by omega) rfl (fun v83 e83 l83 u83 => ?_)
        rw [e82] at e83
        rw [← e83] at qi
        unfold inb at qi
        refine zs_lstore (pc := 84) C dX9_valueOf_84 (by decide) ?_
        dsimp only [zset, zclr, znone]
        refine zs_aload_n (pc := 86) C dX9_valueOf_86 rfl ?_
        refine zs_getf (pc := 87) C dX9_valueOf_87 w_X9_66 f_10_37 (by decide) ?_
        refine zs_iload_n (pc := 90) C dX9_valueOf_90 rfl ?_
        refine zs_iald (r := 2074) (pc := 91) C dX9_valueOf_91 a_74 (by decide) (by omega) rfl (r_2074 _) (fun v91 e91 l91 u91 => ?_)
        rw [hks] at e91
        have hkr := rk_2 (s := s) (by omega) s4
        refine zs_name (fun y92 ey92 => ?_)
        rcases (show y92 = 3 ∨ y92 = 4 ∨ y92 = 5 ∨ y92 = 6 ∨ y92 = 7 ∨ y92 = 8 ∨ y92 = 9 ∨ y92 = 10 ∨ y92 = 11 ∨ y92 = 12 ∨ y92 = 13 ∨ y92 = 14 ∨ (y92 < 3 ∨ 14 < y92) by omega) with h92 | h92 | h92 | h92 | h92 | h92 | h92 | h92 | h92 | h92 | h92 | h92 | h92
        · skip
          refine zs_tabIn (pc := 92) (tgt := 156) C 3 dX9_valueOf_92 h92 (by decide) rfl (by decide) ?_
          have s3 : s = 3 := by omega
          refine zs_lload_n (pc := 156) C dX9_valueOf_156 rfl ?_
          refine zs_lconst (n := 0) (pc := 157) C dX9_valueOf_157 rfl (by decide) ?_
          refine zs_lcmp (pc := 158) C dX9_valueOf_158 (fun z158 hz158 => ?_)
          refine zs_if_eq (tgt := 173) (pc := 159) C dX9_valueOf_159 (by decide) (fun h159 => ?_) (fun h159 => ?_)
          · skip
            refine zs_lconst (n := 0) (pc := 173) C dX9_valueOf_173 rfl (by decide) ?_
            exact zs_lret (pc := 174) C hr hlk dX9_valueOf_174 (by first | (exfalso; omega) | exact ⟨zsm_rf, vK_ok hrz (by rw [kW_j (by omega) s4, s3, jV_3, ← e49, ← e83]; first | rw [if_pos (by omega)] | rw [if_neg (by omega)]) (by rw [kW_j (by omega) s4, s3, jV_3]; exact inb_1)⟩)
          · skip
            refine zs_lload (pc := 162) C dX9_valueOf_162 rfl ?_
            refine zs_lconst (n := 0) (pc := 164) C dX9_valueOf_164 rfl (by decide) ?_
            refine zs_lcmp (pc := 165) C dX9_valueOf_165 (fun z165 hz165 => ?_)
            refine zs_if_eq (tgt := 173) (pc := 166) C dX9_valueOf_166 (by decide) (fun h166 => ?_) (fun h166 => ?_)
            · skip
              refine zs_lconst (n := 0) (pc := 173) C dX9_valueOf_173 rfl (by decide) ?_
              exact zs_lret (pc := 174) C hr hlk dX9_valueOf_174 (by first | (exfalso; omega) | exact ⟨zsm_rf, vK_ok hrz (by rw [kW_j (by omega) s4, s3, jV_3, ← e49, ← e83]; first | rw [if_pos (by omega)] | rw [if_neg (by omega)]) (by rw [kW_j (by omega) s4, s3, jV_3]; exact inb_1)⟩)
            · skip
              refine zs_lconst (n := 1) (pc := 169) C dX9_valueOf_169 rfl (by decide) ?_
              refine zs_goto (tgt := 174) (pc := 170) C dX9_valueOf_170 (by decide) ?_
              exact zs_lret (pc := 174) C hr hlk dX9_valueOf_174 (by first | (exfalso; omega) | exact ⟨zsm_rf, vK_ok hrz (by rw [kW_j (by omega) s4, s3, jV_3, ← e49, ← e83]; first | rw [if_pos (by omega)] | rw [if_neg (by omega)]) (by rw [kW_j (by omega) s4, s3, jV_3]; exact inb_1)⟩)
        · skip
          refine zs_tabIn (pc := 92) (tgt := 175) C 4 dX9_valueOf_92 h92 (by decide) rfl (by decide) ?_
          have s3 : s = 2 := by omega
          refine zs_lload_n (pc := 175) C dX9_valueOf_175 rfl ?_
          refine zs_lconst (n := 0) (pc := 176) C dX9_valueOf_176 rfl (by decide) ?_
          refine zs_lcmp (pc := 177) C dX9_valueOf_177 (fun z177 hz177 => ?_)
          refine zs_if_ne (tgt := 188) (pc := 178) C dX9_valueOf_178 (by decide) (fun h178 => ?_) (fun h178 => ?_)
          · skip
            refine zs_lconst (n := 1) (pc := 188) C dX9_valueOf_188 rfl (by decide) ?_
            refine zs_goto (tgt := 193) (pc := 189) C dX9_valueOf_189 (by decide) ?_
            exact zs_lret (pc := 193) C hr hlk dX9_valueOf_193 (by first | (exfalso; omega) | exact ⟨zsm_rf, vK_ok hrz (by rw [kW_j (by omega) s4, s3, jV_2, ← e49, ← e83]; first | rw [if_pos (by omega)] | rw [if_neg (by omega)]) (by rw [kW_j (by omega) s4, s3, jV_2]; exact inb_1)⟩)
          · skip
            refine zs_lload (pc := 181) C dX9_valueOf_181 rfl ?_
            refine zs_lconst (n := 0) (pc := 183) C dX9_valueOf_183 rfl (by decide) ?_
            refine zs_lcmp (pc := 184) C dX9_valueOf_184 (fun z184 hz184 => ?_)
            refine zs_if_eq (tgt := 192) (pc := 185) C dX9_valueOf_185 (by decide) (fun h185 => ?_) (fun h185 => ?_)
            · skip
              refine zs_lconst (n := 0) (pc := 192) C dX9_valueOf_192 rfl (by decide) ?_
              exact zs_lret (pc := 193) C hr hlk dX9_valueOf_193 (by first | (exfalso; omega) | exact ⟨zsm_rf, vK_ok hrz (by rw [kW_j (by omega) s4, s3, jV_2, ← e49, ← e83]; first | rw [if_pos (by omega)] | rw [if_neg (by omega)]) (by rw [kW_j (by omega) s4, s3, jV_2]; exact inb_1)⟩)
            · skip
              refine zs_lconst (n := 1) (pc := 188) C dX9_valueOf_188 rfl (by decide) ?_
              refine zs_goto (tgt := 193) (pc := 189) C dX9_valueOf_189 (by decide) ?_
              exact zs_lret (pc := 193) C hr hlk dX9_valueOf_193 (by first | (exfalso; omega) | exact ⟨zsm_rf, vK_ok hrz (by rw [kW_j (by omega) s4, s3, jV_2, ← e49, ← e83]; first | rw [if_pos (by omega)] | rw [if_neg (by omega)]) (by rw [kW_j (by omega) s4, s3, jV_2]; exact inb_1)⟩)
        · skip
          refine zs_tabIn (pc := 92) (tgt := 259) C 5 dX9_valueOf_92 h92 (by decide) rfl (by decide) ?_
          have s3 : 5 ≤ s ∧ s ≤ 10 := by omega
          refine zs_aload_n (pc := 259) C dX9_valueOf_259 rfl ?_
          refine zs_getf (pc := 260) C dX9_valueOf_260 w_X9_66 f_10_37 (by decide) ?_
          refine zs_iload_n (pc := 263) C dX9_valueOf_263 rfl ?_
          refine zs_iald (r := 2074) (pc := 264) C dX9_valueOf_264 a_74 (by decide) (by omega) rfl (r_2074 _) (fun v264 e264 l264 u264 => ?_)
          rw [hks] at e264
          have e264s : v264 = s := by omega
          refine zs_lload_n (pc := 265) C dX9_valueOf_265 rfl ?_
          refine zs_lload (pc := 266) C dX9_valueOf_266 rfl ?_
          refine zSip3 (pc := 268) C dX9_valueOf_268 s_X9_371 (c_X9_comparesK hX (by omega)) (by decide) ⟨Nat.zero_le _, Nat.zero_le _⟩ (Nat.le_of_ble_eq_true rfl) (fun x268 l268 u268 hp268 => ?_)
          have hq268 := hp268
          refine zs_if_eq (tgt := 278) (pc := 271) C dX9_valueOf_271 (by decide) (fun h271 => ?_) (fun h271 => ?_)
          · skip
            refine zs_lconst (n := 0) (pc := 278) C dX9_valueOf_278 rfl (by decide) ?_
            exact zs_lret (pc := 279) C hr hlk dX9_valueOf_279 (by first | (exfalso; omega) | exact ⟨zsm_rf, vK_ok hrz (by rw [kW_j (by omega) s4, ← e49, ← e83]; have j9 := jV_01 (a := v49) (b := v83) s3; rw [e264s] at hq268; omega) (by rw [kW_j (by omega) s4]; exact jV_01i s3)⟩)
          · skip
            refine zs_lconst (n := 1) (pc := 274) C dX9_valueOf_274 rfl (by decide) ?_
            refine zs_goto (tgt := 279) (pc := 275) C dX9_valueOf_275 (by decide) ?_
            exact zs_lret (pc := 279) C hr hlk dX9_valueOf_279 (by first | (exfalso; omega) | exact ⟨zsm_rf, vK_ok hrz (by rw [kW_j (by omega) s4, ← e49, ← e83]; have j9 := jV_01 (a := v49) (b := v83) s3; rw [e264s] at hq268; omega) (by rw [kW_j (by omega) s4]; exact jV_01i s3)⟩)
        · skip
          refine zs_tabIn (pc := 92) (tgt := 259) C 6 dX9_valueOf_92 h92 (by decide) rfl (by decide) ?_
          have s3 : 5 ≤ s ∧ s ≤ 10 := by omega
          refine zs_aload_n (pc := 259) C dX9_valueOf_259 rfl ?_
          refine zs_getf (pc := 260) C dX9_valueOf_260 w_X9_66 f_10_37 (by decide) ?_
          refine zs_iload_n (pc := 263) C dX9_valueOf_263 rfl ?_
          refine zs_iald (r := 2074) (pc := 264) C dX9_valueOf_264 a_74 (by decide) (by omega) rfl (r_2074 _) (fun v264 e264 l264 u264 => ?_)
          rw [hks] at e264
          have e264s : v264 = s := by omega
          refine zs_lload_n (pc := 265) C dX9_valueOf_265 rfl ?_
          refine zs_lload (pc := 266) C dX9_valueOf_266 rfl ?_
          refine zSip3 (pc := 268) C dX9_valueOf_268 s_X9_371 (c_X9_comparesK hX (by omega)) (by decide) ⟨Nat.zero_le _, Nat.zero_le _⟩ (Nat.le_of_ble_eq_true rfl) (fun x268 l268 u268 hp268 => ?_)
          have hq268 := hp268
          refine zs_if_eq (tgt := 278) (pc := 271) C dX9_valueOf_271 (by decide) (fun h271 => ?_) (fun h271 => ?_)
          · skip
            refine zs_lconst (n := 0) (pc := 278) C dX9_valueOf_278 rfl (by decide) ?_
            exact zs_lret (pc := 279) C hr hlk dX9_valueOf_279 (by first | (exfalso; omega) | exact ⟨zsm_rf, vK_ok hrz (by rw [kW_j (by omega) s4, ← e49, ← e83]; have j9 := jV_01 (a := v49) (b := v83) s3; rw [e264s] at hq268; omega) (by rw [kW_j (by omega) s4]; exact jV_01i s3)⟩)
          · skip
            refine zs_lconst (n := 1) (pc := 274) C dX9_valueOf_274 rfl (by decide) ?_
            refine zs_goto (tgt := 279) (pc := 275) C dX9_valueOf_275 (by decide) ?_
            exact zs_lret (pc := 279) C hr hlk dX9_valueOf_279 (by first | (exfalso; omega) | exact ⟨zsm_rf, vK_ok hrz (by rw [kW_j (by omega) s4, ← e49, ← e83]; have j9 := jV_01 (a := v49) (b := v83) s3; rw [e264s] at hq268; omega) (by rw [kW_j (by omega) s4]; exact jV_01i s3)⟩)
        · skip
          refine zs_tabIn (pc := 92) (tgt := 259) C 7 dX9_valueOf_92 h92 (by decide) rfl (by decide) ?_
          have s3 : 5 ≤ s ∧ s ≤ 10 := by omega
          refine zs_aload_n (pc := 259) C dX9_valueOf_259 rfl ?_
          refine zs_getf (pc := 260) C dX9_valueOf_260 w_X9_66 f_10_37 (by decide) ?_
          refine zs_iload_n (pc := 263) C dX9_valueOf_263 rfl ?_
          refine zs_iald (r := 2074) (pc := 264) C dX9_valueOf_264 a_74 (by decide) (by omega) rfl (r_2074 _) (fun v264 e264 l264 u264 => ?_)
          rw [hks] at e264
          have e264s : v264 = s := by omega
          refine zs_lload_n (pc := 265) C dX9_valueOf_265 rfl ?_
          refine zs_lload (pc := 266) C dX9_valueOf_266 rfl ?_
          refine zSip3 (pc := 268) C dX9_valueOf_268 s_X9_371 (c_X9_comparesK hX (by omega)) (by decide) ⟨Nat.zero_le _, Nat.zero_le _⟩ (Nat.le_of_ble_eq_true rfl) (fun x268 l268 u268 hp268 => ?_)
          have hq268 := hp268
          refine zs_if_eq (tgt := 278) (pc := 271) C dX9_valueOf_271 (by decide) (fun h271 => ?_) (fun h271 => ?_)
          · skip
            refine zs_lconst (n := 0) (pc := 278) C dX9_valueOf_278 rfl (by decide) ?_
            exact zs_lret (pc := 279) C hr hlk dX9_valueOf_279 (by first | (exfalso; omega) | exact ⟨zsm_rf, vK_ok hrz (by rw [kW_j (by omega) s4, ← e49, ← e83]; have j9 := jV_01 (a := v49) (b := v83) s3; rw [e264s] at hq268; omega) (by rw [kW_j (by omega) s4]; exact jV_01i s3)⟩)
          · skip
            refine zs_lconst (n := 1) (pc := 274) C dX9_valueOf_274 rfl (by decide) ?_
            refine zs_goto (tgt := 279) (pc := 275) C dX9_valueOf_275 (by decide) ?_
            exact zs_lret (pc := 279) C hr hlk dX9_valueOf_279 (by first | (exfalso; omega) | exact ⟨zsm_rf, vK_ok hrz (by rw [kW_j (by omega) s4, ← e49, ← e83]; have j9 := jV_01 (a := v49) (b := v83) s3; rw [e264s] at hq268; omega) (by rw [kW_j (by omega) s4]; exact jV_01i s3)⟩)
        · skip
          refine zs_tabIn (pc := 92) (tgt := 259) C 8 dX9_valueOf_92 h92 (by decide) rfl (by decide) ?_
          have s3 : 5 ≤ s ∧ s ≤ 10 := by omega
          refine zs_aload_n (pc := 259) C dX9_valueOf_259 rfl ?_
          refine zs_getf (pc := 260) C dX9_valueOf_260 w_X9_66 f_10_37 (by decide) ?_
          refine zs_iload_n (pc := 263) C dX9_valueOf_263 rfl ?_
          refine zs_iald (r := 2074) (pc := 264) C dX9_valueOf_264 a_74 (by decide) (by omega) rfl (r_2074 _) (fun v264 e264 l264 u264 => ?_)
          rw [hks] at e264
          have e264s : v264 = s := by omega
          refine zs_lload_n (pc := 265) C dX9_valueOf_265 rfl ?_
          refine zs_lload (pc := 266) C dX9_valueOf_266 rfl ?_
          refine zSip3 (pc := 268) C dX9_valueOf_268 s_X9_371 (c_X9_comparesK hX (by omega)) (by decide) ⟨Nat.zero_le _, Nat.zero_le _⟩ (Nat.le_of_ble_eq_true rfl) (fun x268 l268 u268 hp268 => ?_)
          have hq268 := hp268
          refine zs_if_eq (tgt := 278) (pc := 271) C dX9_valueOf_271 (by decide) (fun h271 => ?_) (fun h271 => ?_)
          · skip
            refine zs_lconst (n := 0) (pc := 278) C dX9_valueOf_278 rfl (by decide) ?_
            exact zs_lret (pc := 279) C hr hlk dX9_valueOf_279 (by first | (exfalso; omega) | exact ⟨zsm_rf, vK_ok hrz (by rw [kW_j (by omega) s4, ← e49, ← e83]; have j9 := jV_01 (a := v49) (b := v83) s3; rw [e264s] at hq268; omega) (by rw [kW_j (by omega) s4]; exact jV_01i s3)⟩)
          · skip
            refine zs_lconst (n := 1) (pc := 274) C dX9_valueOf_274 rfl (by decide) ?_
            refine zs_goto (tgt := 279) (pc := 275) C dX9_valueOf_275 (by decide) ?_
            exact zs_lret (pc := 279) C hr hlk dX9_valueOf_279 (by first | (exfalso; omega) | exact ⟨zsm_rf, vK_ok hrz (by rw [kW_j (by omega) s4, ← e49, ← e83]; have j9 := jV_01 (a := v49) (b := v83) s3; rw [e264s] at hq268; omega) (by rw [kW_j (by omega) s4]; exact jV_01i s3)⟩)
        · skip
          refine zs_tabIn (pc := 92) (tgt := 259) C 9 dX9_valueOf_92 h92 (by decide) rfl (by decide) ?_
          have s3 : 5 ≤ s ∧ s ≤ 10 := by omega
          refine zs_aload_n (pc := 259) C dX9_valueOf_259 rfl ?_
          refine zs_getf (pc := 260) C dX9_valueOf_260 w_X9_66 f_10_37 (by decide) ?_
          refine zs_iload_n (pc := 263) C dX9_valueOf_263 rfl ?_
          refine zs_iald (r := 2074) (pc := 264) C dX9_valueOf_264 a_74 (by decide) (by omega) rfl (r_2074 _) (fun v264 e264 l264 u264 => ?_)
          rw [hks] at e264
          have e264s : v264 = s := by omega
          refine zs_lload_n (pc := 265) C dX9_valueOf_265 rfl ?_
          refine zs_lload (pc := 266) C dX9_valueOf_266 rfl ?_
          refine zSip3 (pc := 268) C dX9_valueOf_268 s_X9_371 (c_X9_comparesK hX (by omega)) (by decide) ⟨Nat.zero_le _, Nat.zero_le _⟩ (Nat.le_of_ble_eq_true rfl) (fun x268 l268 u268 hp268 => ?_)
          have hq268 := hp268
          refine zs_if_eq (tgt := 278) (pc := 271) C dX9_valueOf_271 (by decide) (fun h271 => ?_) (fun h271 => ?_)
          · skip
            refine zs_lconst (n := 0) (pc := 278) C dX9_valueOf_278 rfl (by decide) ?_
            exact zs_lret (pc := 279) C hr hlk dX9_valueOf_279 (by first | (exfalso; omega) | exact ⟨zsm_rf, vK_ok hrz (by rw [kW_j (by omega) s4, ← e49, ← e83]; have j9 := jV_01 (a := v49) (b := v83) s3; rw [e264s] at hq268; omega) (by rw [kW_j (by omega) s4]; exact jV_01i s3)⟩)
          · skip
            refine zs_lconst (n := 1) (pc := 274) C dX9_valueOf_274 rfl (by decide) ?_
            refine zs_goto (tgt := 279) (pc := 275) C dX9_valueOf_275 (by decide) ?_
            exact zs_lret (pc := 279) C hr hlk dX9_valueOf_279 (by first | (exfalso; omega) | exact ⟨zsm_rf, vK_ok hrz (by rw [kW_j (by omega) s4, ← e49, ← e83]; have j9 := jV_01 (a := v49) (b := v83) s3; rw [e264s] at hq268; omega) (by rw [kW_j (by omega) s4]; exact jV_01i s3)⟩)
        · skip
          refine zs_tabIn (pc := 92) (tgt := 259) C 10 dX9_valueOf_92 h92 (by decide) rfl (by decide) ?_
          have s3 : 5 ≤ s ∧ s ≤ 10 := by omega
          refine zs_aload_n (pc := 259) C dX9_valueOf_259 rfl ?_
          refine zs_getf (pc := 260) C dX9_valueOf_260 w_X9_66 f_10_37 (by decide) ?_
          refine zs_iload_n (pc := 263) C dX9_valueOf_263 rfl ?_
          refine zs_iald (r := 2074) (pc := 264) C dX9_valueOf_264 a_74 (by decide) (by omega) rfl (r_2074 _) (fun v264 e264 l264 u264 => ?_)
          rw [hks] at e264
          have e264s : v264 = s := by omega
          refine zs_lload_n (pc := 265) C dX9_valueOf_265 rfl ?_
          refine zs_lload (pc := 266) C dX9_valueOf_266 rfl ?_
          refine zSip3 (pc := 268) C dX9_valueOf_268 s_X9_371 (c_X9_comparesK hX (by omega)) (by decide) ⟨Nat.zero_le _, Nat.zero_le _⟩ (Nat.le_of_ble_eq_true rfl) (fun x268 l268 u268 hp268 => ?_)
          have hq268 := hp268
          refine zs_if_eq (tgt := 278) (pc := 271) C dX9_valueOf_271 (by decide) (fun h271 => ?_) (fun h271 => ?_)
          · skip
            refine zs_lconst (n := 0) (pc := 278) C dX9_valueOf_278 rfl (by decide) ?_
            exact zs_lret (pc := 279) C hr hlk dX9_valueOf_279 (by first | (exfalso; omega) | exact ⟨zsm_rf, vK_ok hrz (by rw [kW_j (by omega) s4, ← e49, ← e83]; have j9 := jV_01 (a := v49) (b := v83) s3; rw [e264s] at hq268; omega) (by rw [kW_j (by omega) s4]; exact jV_01i s3)⟩)
          · skip
            refine zs_lconst (n := 1) (pc := 274) C dX9_valueOf_274 rfl (by decide) ?_
            refine zs_goto (tgt := 279) (pc := 275) C dX9_valueOf_275 (by decide) ?_
            exact zs_lret (pc := 279) C hr hlk dX9_valueOf_279 (by first | (exfalso; omega) | exact ⟨zsm_rf, vK_ok hrz (by rw [kW_j (by omega) s4, ← e49, ← e83]; have j9 := jV_01 (a := v49) (b := v83) s3; rw [e264s] at hq268; omega) (by rw [kW_j (by omega) s4]; exact jV_01i s3)⟩)
        · skip
          refine zs_tabIn (pc := 92) (tgt := 194) C 11 dX9_valueOf_92 h92 (by decide) rfl (by decide) ?_
          have s3 : s = 11 := by omega
          refine zs_aload_n (pc := 194) C dX9_valueOf_194 rfl ?_
          refine zs_lload_n (pc := 195) C dX9_valueOf_195 rfl ?_
          refine zs_lload (pc := 196) C dX9_valueOf_196 rfl ?_
          refine zs_laddE (pc := 198) C dX9_valueOf_198 (by omega) ?_
          refine zVj1 (pc := 199) C dX9_valueOf_199 v_X9_364 (c_X9_boundedK hX ) (by decide) (by decide) ⟨Nat.zero_le _, Nat.zero_le _⟩ (Nat.le_of_ble_eq_true rfl) (fun x199 G199 l199 u199 hp199 => ?_)
          obtain ⟨hz199, hq199⟩ := hp199
          exact zs_lret (pc := 202) C hr hlk dX9_valueOf_202 (by first | (exfalso; omega) | exact ⟨hz199, vK_b hq199.1 hq199.2.1 (by rw [kW_j (by omega) s4, s3, jV_11, ← e49, ← e83]) hq199.2.2⟩)
        · skip
          refine zs_tabIn (pc := 92) (tgt := 203) C 12 dX9_valueOf_92 h92 (by decide) rfl (by decide) ?_
          have s3 : s = 12 := by omega
          refine zs_aload_n (pc := 203) C dX9_valueOf_203 rfl ?_
          refine zs_lload_n (pc := 204) C dX9_valueOf_204 rfl ?_
          refine zs_lload (pc := 205) C dX9_valueOf_205 rfl ?_
          refine zs_lsubE (pc := 207) C dX9_valueOf_207 (by omega) ?_
          refine zVj1 (pc := 208) C dX9_valueOf_208 v_X9_364 (c_X9_boundedK hX ) (by decide) (by decide) ⟨Nat.zero_le _, Nat.zero_le _⟩ (Nat.le_of_ble_eq_true rfl) (fun x208 G208 l208 u208 hp208 => ?_)
          obtain ⟨hz208, hq208⟩ := hp208
          exact zs_lret (pc := 211) C hr hlk dX9_valueOf_211 (by first | (exfalso; omega) | exact ⟨hz208, vK_b hq208.1 hq208.2.1 (by rw [kW_j (by omega) s4, s3, jV_12, ← e49, ← e83]) hq208.2.2⟩)
        · skip
          refine zs_tabIn (pc := 92) (tgt := 212) C 13 dX9_valueOf_92 h92 (by decide) rfl (by decide) ?_
          have s3 : s = 13 := by omega
          refine zs_aload_n (pc := 212) C dX9_valueOf_212 rfl ?_
          refine zs_lload_n (pc := 213) C dX9_valueOf_213 rfl ?_
          refine zs_lload (pc := 214) C dX9_valueOf_214 rfl ?_
          refine zVj2 (pc := 216) C dX9_valueOf_216 v_X9_368 (c_X9_timesK hX (by omega) (by omega)) (by decide) (by decide) ⟨Nat.zero_le _, Nat.zero_le _⟩ (Nat.le_of_ble_eq_true rfl) (fun x216 G216 l216 u216 hp216 => ?_)
          obtain ⟨hz216, hq216⟩ := hp216
          exact zs_lret (pc := 219) C hr hlk dX9_valueOf_219 (by first | (exfalso; omega) | exact ⟨hz216, vK_b hq216.1 hq216.2.1 (by rw [kW_j (by omega) s4, jV_13 s3, ← e49, ← e83]) hq216.2.2⟩)
        · skip
          refine zs_tabIn (pc := 92) (tgt := 220) C 14 dX9_valueOf_92 h92 (by decide) rfl (by decide) ?_
          have s3 : s = 14 := by omega
          refine zs_aload_n (pc := 220) C dX9_valueOf_220 rfl ?_
          refine zs_aload_n (pc := 221) C dX9_valueOf_221 rfl ?_
          refine zs_getz (r := 1050) (pc := 222) C dX9_valueOf_222 w_X9_357 f_10_50 rfl (r_1050 0) (fun v222 e222 l222 u222 => ?_)
          refine zs_if_ne (tgt := 235) (pc := 225) C dX9_valueOf_225 (by decide) (fun h225 => ?_) (fun h225 => ?_)
          · skip
            refine zs_iconst (pc := 235) C dX9_valueOf_235 (by decide) ?_
            refine zs_goto (tgt := 240) (pc := 236) C dX9_valueOf_236 (by decide) ?_
            refine zs_putz (r := 1050) (pc := 240) C dX9_valueOf_240 w_X9_357 f_10_50 rfl (r_1050 0) (by omega) (by omega) ?_
            refine zs_aload_n (pc := 243) C dX9_valueOf_243 rfl ?_
            refine zs_getz (r := 1050) (pc := 244) C dX9_valueOf_244 w_X9_357 f_10_50 rfl (r_1050 0) (fun v244 e244 l244 u244 => ?_)
            try simp only [zuI_1, zuI_2, zuJ_1, zuJ_2, zuJ_3, zuP_1, zuP_2, zuP_3, zuC_1, zuC_2, reduceIte, Nat.reduceEqDiff, false_and, and_false, true_and, and_true, and_self, or_true, true_or, or_false, false_or] at e244
            refine zs_if_eq (tgt := 254) (pc := 247) C dX9_valueOf_247 (by decide) (fun h247 => ?_) (fun h247 => ?_)
            · skip
              refine zs_lload_n (pc := 254) C dX9_valueOf_254 rfl ?_
              refine zs_lload (pc := 255) C dX9_valueOf_255 rfl ?_
              refine zs_ldivT (pc := 257) C dX9_valueOf_257 (by omega) (by omega) ?_
              exact zs_lret (pc := 258) C hr hlk dX9_valueOf_258 (by first | (exfalso; omega) | exact ⟨by repeat (first | exact zsm_rf | assumption | refine zsm_C (by decide) ?_ | refine zsm_I (by decide) ?_ | refine zsm_J ?_ | refine zsm_c (by assumption) (by decide) ?_), vK_d (a := v49) (b := v83) (by omega) (by rw [kW_j (by omega) s4, s3, ← e49, ← e83]) (by rw [zuI_1, if_pos (⟨rfl, rfl, rfl⟩ : _ ∧ _ ∧ _)]; first | exact Or.inl ⟨by omega, by omega, rfl, rfl⟩ | exact Or.inr ⟨by omega, rfl, rfl⟩) rfl⟩)
            · skip
              refine zs_lconst (n := 0) (pc := 250) C dX9_valueOf_250 rfl (by decide) ?_
              refine zs_goto (tgt := 258) (pc := 251) C dX9_valueOf_251 (by decide) ?_
              exact zs_lret (pc := 258) C hr hlk dX9_valueOf_258 (by first | (exfalso; omega) | exact ⟨by repeat (first | exact zsm_rf | assumption | refine zsm_C (by decide) ?_ | refine zsm_I (by decide) ?_ | refine zsm_J ?_ | refine zsm_c (by assumption) (by decide) ?_), vK_d (a := v49) (b := v83) (by omega) (by rw [kW_j (by omega) s4, s3, ← e49, ← e83]) (by rw [zuI_1, if_pos (⟨rfl, rfl, rfl⟩ : _ ∧ _ ∧ _)]; first | exact Or.inl ⟨by omega, by omega, rfl, rfl⟩ | exact Or.inr ⟨by omega, rfl, rfl⟩) rfl⟩)
          · skip
            refine zs_lload (pc := 228) C dX9_valueOf_228 rfl ?_
            refine zs_lconst (n := 0) (pc := 230) C dX9_valueOf_230 rfl (by decide) ?_
            refine zs_lcmp (pc := 231) C dX9_valueOf_231 (fun z231 hz231 => ?_)
            refine zs_if_ne (tgt := 239) (pc := 232) C dX9_valueOf_232 (by decide) (fun h232 => ?_) (fun h232 => ?_)
            · skip
              refine zs_iconst (pc := 239) C dX9_valueOf_239 (by decide) ?_
              refine zs_putz (r := 1050) (pc := 240) C dX9_valueOf_240 w_X9_357 f_10_50 rfl (r_1050 0) (by omega) (by omega) ?_
              refine zs_aload_n (pc := 243) C dX9_valueOf_243 rfl ?_
              refine zs_getz (r := 1050) (pc := 244) C dX9_valueOf_244 w_X9_357 f_10_50 rfl (r_1050 0) (fun v244 e244 l244 u244 => ?_)
              try simp only [zuI_1, zuI_2, zuJ_1, zuJ_2, zuJ_3, zuP_1, zuP_2, zuP_3, zuC_1, zuC_2, reduceIte, Nat.reduceEqDiff, false_and, and_false, true_and, and_true, and_self, or_true, true_or, or_false, false_or] at e244
              refine zs_if_eq (tgt := 254) (pc := 247) C dX9_valueOf_247 (by decide) (fun h247 => ?_) (fun h247 => ?_)
              · skip
                refine zs_lload_n (pc := 254) C dX9_valueOf_254 rfl ?_
                refine zs_lload (pc := 255) C dX9_valueOf_255 rfl ?_
                refine zs_ldivT (pc := 257) C dX9_valueOf_257 (by omega) (by omega) ?_
                exact zs_lret (pc := 258) C hr hlk dX9_valueOf_258 (by first | (exfalso; omega) | exact ⟨by repeat (first | exact zsm_rf | assumption | refine zsm_C (by decide) ?_ | refine zsm_I (by decide) ?_ | refine zsm_J ?_ | refine zsm_c (by assumption) (by decide) ?_), vK_d (a := v49) (b := v83) (by omega) (by rw [kW_j (by omega) s4, s3, ← e49, ← e83]) (by rw [zuI_1, if_pos (⟨rfl, rfl, rfl⟩ : _ ∧ _ ∧ _)]; first | exact Or.inl ⟨by omega, by omega, rfl, rfl⟩ | exact Or.inr ⟨by omega, rfl, rfl⟩) rfl⟩)
              · skip
                refine zs_lconst (n := 0) (pc := 250) C dX9_valueOf_250 rfl (by decide) ?_
                refine zs_goto (tgt := 258) (pc := 251) C dX9_valueOf_251 (by decide) ?_
                exact zs_lret (pc := 258) C hr hlk dX9_valueOf_258 (by first | (exfalso; omega) | exact ⟨by repeat (first | exact zsm_rf | assumption | refine zsm_C (by decide) ?_ | refine zsm_I (by decide) ?_ | refine zsm_J ?_ | refine zsm_c (by assumption) (by decide) ?_), vK_d (a := v49) (b := v83) (by omega) (by rw [kW_j (by omega) s4, s3, ← e49, ← e83]) (by rw [zuI_1, if_pos (⟨rfl, rfl, rfl⟩ : _ ∧ _ ∧ _)]; first | exact Or.inl ⟨by omega, by omega, rfl, rfl⟩ | exact Or.inr ⟨by omega, rfl, rfl⟩) rfl⟩)
            · skip
              refine zs_iconst (pc := 235) C dX9_valueOf_235 (by decide) ?_
              refine zs_goto (tgt := 240) (pc := 236) C dX9_valueOf_236 (by decide) ?_
              refine zs_putz (r := 1050) (pc := 240) C dX9_valueOf_240 w_X9_357 f_10_50 rfl (r_1050 0) (by omega) (by omega) ?_
              refine zs_aload_n (pc := 243) C dX9_valueOf_243 rfl ?_
              refine zs_getz (r := 1050) (pc := 244) C dX9_valueOf_244 w_X9_357 f_10_50 rfl (r_1050 0) (fun v244 e244 l244 u244 => ?_)
              try simp only [zuI_1, zuI_2, zuJ_1, zuJ_2, zuJ_3, zuP_1, zuP_2, zuP_3, zuC_1, zuC_2, reduceIte, Nat.reduceEqDiff, false_and, and_false, true_and, and_true, and_self, or_true, true_or, or_false, false_or] at e244
              refine zs_if_eq (tgt := 254) (pc := 247) C dX9_valueOf_247 (by decide) (fun h247 => ?_) (fun h247 => ?_)
              · skip
                refine zs_lload_n (pc := 254) C dX9_valueOf_254 rfl ?_
                refine zs_lload (pc := 255) C dX9_valueOf_255 rfl ?_
                refine zs_ldivT (pc := 257) C dX9_valueOf_257 (by omega) (by omega) ?_
                exact zs_lret (pc := 258) C hr hlk dX9_valueOf_258 (by first | (exfalso; omega) | exact ⟨by repeat (first | exact zsm_rf | assumption | refine zsm_C (by decide) ?_ | refine zsm_I (by decide) ?_ | refine zsm_J ?_ | refine zsm_c (by assumption) (by decide) ?_), vK_d (a := v49) (b := v83) (by omega) (by rw [kW_j (by omega) s4, s3, ← e49, ← e83]) (by rw [zuI_1, if_pos (⟨rfl, rfl, rfl⟩ : _ ∧ _ ∧ _)]; first | exact Or.inl ⟨by omega, by omega, rfl, rfl⟩ | exact Or.inr ⟨by omega, rfl, rfl⟩) rfl⟩)
              · skip
                refine zs_lconst (n := 0) (pc := 250) C dX9_valueOf_250 rfl (by decide) ?_
                refine zs_goto (tgt := 258) (pc := 251) C dX9_valueOf_251 (by decide) ?_
                exact zs_lret (pc := 258) C hr hlk dX9_valueOf_258 (by first | (exfalso; omega) | exact ⟨by repeat (first | exact zsm_rf | assumption | refine zsm_C (by decide) ?_ | refine zsm_I (by decide) ?_ | refine zsm_J ?_ | refine zsm_c (by assumption) (by decide) ?_), vK_d (a := v49) (b := v83) (by omega) (by rw [kW_j (by omega) s4, s3, ← e49, ← e83]) (by rw [zuI_1, if_pos (⟨rfl, rfl, rfl⟩ : _ ∧ _ ∧ _)]; first | exact Or.inl ⟨by omega, by omega, rfl, rfl⟩ | exact Or.inr ⟨by omega, rfl, rfl⟩) rfl⟩)
        · skip
          refine zs_tabOut (tgt := 259) (pc := 92) C dX9_valueOf_92 h92 (by decide) ?_
          have s3 : 5 ≤ s ∧ s ≤ 10 := by omega
          refine zs_aload_n (pc := 259) C dX9_valueOf_259 rfl ?_
          refine zs_getf (pc := 260) C dX9_valueOf_260 w_X9_66 f_10_37 (by decide) ?_
          refine zs_iload_n (pc := 263) C dX9_valueOf_263 rfl ?_
          refine zs_iald (r := 2074) (pc := 264) C dX9_valueOf_264 a_74 (by decide) (by omega) rfl (r_2074 _) (fun v264 e264 l264 u264 => ?_)
          rw [hks] at e264
          have e264s : v264 = s := by omega
          refine zs_lload_n (pc := 265) C dX9_valueOf_265 rfl ?_
          refine zs_lload (pc := 266) C dX9_valueOf_266 rfl ?_
          refine zSip3 (pc := 268) C dX9_valueOf_268 s_X9_371 (c_X9_comparesK hX (by omega)) (by decide) ⟨Nat.zero_le _, Nat.zero_le _⟩ (Nat.le_of_ble_eq_true rfl) (fun x268 l268 u268 hp268 => ?_)
          have hq268 := hp268
          refine zs_if_eq (tgt := 278) (pc := 271) C dX9_valueOf_271 (by decide) (fun h271 => ?_) (fun h271 => ?_)
          · skip
            refine zs_lconst (n := 0) (pc := 278) C dX9_valueOf_278 rfl (by decide) ?_
            exact zs_lret (pc := 279) C hr hlk dX9_valueOf_279 (by first | (exfalso; omega) | exact ⟨zsm_rf, vK_ok hrz (by rw [kW_j (by omega) s4, ← e49, ← e83]; have j9 := jV_01 (a := v49) (b := v83) s3; rw [e264s] at hq268; omega) (by rw [kW_j (by omega) s4]; exact jV_01i s3)⟩)
          · skip
            refine zs_lconst (n := 1) (pc := 274) C dX9_valueOf_274 rfl (by decide) ?_
            refine zs_goto (tgt := 279) (pc := 275) C dX9_valueOf_275 (by decide) ?_
            exact zs_lret (pc := 279) C hr hlk dX9_valueOf_279 (by first | (exfalso; omega) | exact ⟨zsm_rf, vK_ok hrz (by rw [kW_j (by omega) s4, ← e49, ← e83]; have j9 := jV_01 (a := v49) (b := v83) s3; rw [e264s] at hq268; omega) (by rw [kW_j (by omega) s4]; exact jV_01i s3)⟩)
      · skip
        have s4 : s = 4 := (rk_q hs).2.2.1.mp (by omega)
        refine zs_lload_n (pc := 61) C dX9_valueOf_61 rfl ?_
        refine zs_lconst (n := 0) (pc := 62) C dX9_valueOf_62 rfl (by decide) ?_
        refine zs_lcmp (pc := 63) C dX9_valueOf_63 (fun z63 hz63 => ?_)
        refine zs_if_ne (tgt := 71) (pc := 64) C dX9_valueOf_64 (by decide) (fun h64 => ?_) (fun h64 => ?_)
        · skip
          refine zs_lconst (n := 0) (pc := 71) C dX9_valueOf_71 rfl (by decide) ?_
          exact zs_lret (pc := 72) C hr hlk dX9_valueOf_72 (by first | (exfalso; omega) | exact ⟨zsm_rf, vK_ok hrz (by rw [kW_4 s4, ← e49]; first | rw [if_pos (show v49 = 0 by omega)] | rw [if_neg (show ¬ v49 = 0 by omega)]) (by rw [kW_4 s4]; exact inb_1)⟩)
        · skip
          refine zs_lconst (n := 1) (pc := 67) C dX9_valueOf_67 rfl (by decide) ?_
          refine zs_goto (tgt := 72) (pc := 68) C dX9_valueOf_68 (by decide) ?_
          exact zs_lret (pc := 72) C hr hlk dX9_valueOf_72 (by first | (exfalso; omega) | exact ⟨zsm_rf, vK_ok hrz (by rw [kW_4 s4, ← e49]; first | rw [if_pos (show v49 = 0 by omega)] | rw [if_neg (show ¬ v49 = 0 by omega)]) (by rw [kW_4 s4]; exact inb_1)⟩)
    · skip
      have s1 : s = 1 := (rk_q hs).2.1.mp (by omega)
      have p01 := h1 s1
      refine zs_aload_n (pc := 27) C dX9_valueOf_27 rfl ?_
      refine zs_getf (pc := 28) C dX9_valueOf_28 w_X9_81 f_10_48 (by decide) ?_
      refine zs_aload_n (pc := 31) C dX9_valueOf_31 rfl ?_
      refine zs_getf (pc := 32) C dX9_valueOf_32 w_X9_69 f_10_38 (by decide) ?_
      refine zs_iload_n (pc := 35) C dX9_valueOf_35 rfl ?_
      refine zs_iald (r := 2075) (pc := 36) C dX9_valueOf_36 a_75 (by decide) (by omega) rfl (r_2075 _) (fun v36 e36 l36 u36 => ?_)
      rw [hkp] at e36
      refine zs_lald (r := 2079) (pc := 37) C dX9_valueOf_37 a_79 (by decide) (by omega) rfl (fun v37 e37 l37 u37 => ?_)
      exact zs_lret (pc := 38) C hr hlk dX9_valueOf_38 (by first | (exfalso; omega) | exact ⟨zsm_rf, vK_ok hrz (by rw [kW_1 s1, e37, e36]) (by rw [kW_1 s1]; have := hn p.toNat (by omega); unfold inb; omega)⟩)
  · skip
    have s0 : s = 0 := (rk_q hs).1.mp (by omega)
    have p00 := h0 s0
    refine zs_aload_n (pc := 9) C dX9_valueOf_9 rfl ?_
    refine zs_getf (pc := 10) C dX9_valueOf_10 w_X9_69 f_10_38 (by decide) ?_
    refine zs_iload_n (pc := 13) C dX9_valueOf_13 rfl ?_
    refine zs_iald (r := 2075) (pc := 14) C dX9_valueOf_14 a_75 (by decide) (by omega) rfl (r_2075 _) (fun v14 e14 l14 u14 => ?_)
    refine zs_i2l (pc := 15) C dX9_valueOf_15 ?_
    rw [hkp] at e14
    exact zs_lret (pc := 16) C hr hlk dX9_valueOf_16 (by first | (exfalso; omega) | exact ⟨zsm_rf, vK_ok hrz (by rw [kW_0 s0]; omega) (by rw [kW_0 s0]; unfold inb; omega)⟩)
end
