set_option maxHeartbeats 4000000 in
set_option maxRecDepth 100000 in
theorem c_X8_faultF {l : Launch} {Γ : zΓ} {G : zH} {w : Nat} {k : Int} (hX : zXs Γ)  : zMet l Γ yX8_fault cX8_fault 2 (some .int) 0 [zr 9 w, zi k] G (zpi (fun x G' => G' = G ∧ ((k = 0 → x = G.1 912 w 0) ∧ (k = 1 → x = G.1 913 w 0) ∧ (k ≠ 0 → k ≠ 1 → x = -1)))) := by
  refine zMet_of RX8 hX (by decide) rfl (Nat.le_of_ble_eq_true rfl) ?_
  intro p e s m args below meth c C hr hlk
  show Z p l e (zrm 0) s m args below meth c Γ 2 0 0 (MQ below (zQc Γ (zpi (fun x G' => G' = G ∧ ((k = 0 → x = G.1 912 w 0) ∧ (k = 1 → x = G.1 913 w 0) ∧ (k ≠ 0 → k ≠ 1 → x = -1))))) args s 0 0 (zA Γ)) 0 [some (zr 9 w), some (zi k)] [] G
  refine zs_loc 1 rfl (fun ha1 hb1 => ?_)
  refine zs_iload_n (pc := 0) C dX8_fault_0 rfl ?_
  refine zs_name (fun y1 ey1 => ?_)
  rcases (show y1 = 0 ∨ y1 = 1 ∨ (y1 ≠ 0 ∧ y1 ≠ 1) by omega) with h1 | h1 | h1
  · skip
    refine zs_look (tgt := 28) (pc := 1) C dX8_fault_1 (by decide) (by first | (rw [h1]; done) | (rw [h1]; rfl)) (by decide) ?_
    refine zs_aload_n (pc := 28) C dX8_fault_28 rfl ?_
    refine zs_geti (r := 912) (pc := 29) C dX8_fault_29 w_X8_81 f_9_12 rfl (r_912 0) (fun v29 e29 l29 u29 => ?_)
    exact zs_iret (pc := 32) C hr hlk dX8_fault_32 ⟨rfl, by first | omega | (simp only [zuI_1, zuI_2, zuJ_1, zuJ_2, zuJ_3, zuP_1, zuP_2, zuP_3, zuC_1, zuC_2, reduceIte, Nat.reduceEqDiff, false_and, and_false, true_and, and_true, and_self, or_true, true_or, or_false, false_or]; omega)⟩
  · skip
    refine zs_look (tgt := 33) (pc := 1) C dX8_fault_1 (by decide) (by first | (rw [h1]; done) | (rw [h1]; rfl)) (by decide) ?_
    refine zs_aload_n (pc := 33) C dX8_fault_33 rfl ?_
    refine zs_geti (r := 913) (pc := 34) C dX8_fault_34 w_X8_63 f_9_13 rfl (r_913 0) (fun v34 e34 l34 u34 => ?_)
    exact zs_iret (pc := 37) C hr hlk dX8_fault_37 ⟨rfl, by first | omega | (simp only [zuI_1, zuI_2, zuJ_1, zuJ_2, zuJ_3, zuP_1, zuP_2, zuP_3, zuC_1, zuC_2, reduceIte, Nat.reduceEqDiff, false_and, and_false, true_and, and_true, and_self, or_true, true_or, or_false, false_or]; omega)⟩
  · skip
    refine zs_look (off := 37) (tgt := 38) (pc := 1) C dX8_fault_1 (by decide) (by have h9 := h1; simp [Op.lookupswitch.offset]; omega) (by decide) ?_
    refine zs_iconst (pc := 38) C dX8_fault_38 (by decide) ?_
    exact zs_iret (pc := 39) C hr hlk dX8_fault_39 ⟨rfl, by first | omega | (simp only [zuI_1, zuI_2, zuJ_1, zuJ_2, zuJ_3, zuP_1, zuP_2, zuP_3, zuC_1, zuC_2, reduceIte, Nat.reduceEqDiff, false_and, and_false, true_and, and_true, and_self, or_true, true_or, or_false, false_or]; omega)⟩

