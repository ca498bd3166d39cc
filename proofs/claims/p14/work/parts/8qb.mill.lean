theorem wDays_s {A W : aS} {k : Int} (h : 0 ≤ k) : wDays A (k + 1).toNat W = wDay A (wDays A k.toNat W) := by
  rw [show (k + 1).toNat = k.toNat + 1 by omega, wDays]
theorem wTry_s {A W : aS} {t i k : Int} (h : 0 ≤ k) : wTry A t i (k + 1).toNat W = up (wCod A (wTry A t i k.toNat W) t i) 18 0 ((wTry A t i k.toNat W) 18 0 + 1) := by
  rw [show (k + 1).toNat = k.toNat + 1 by omega, wTry]
theorem WI_cp {A U V : aS} (h : wCp U V) (hV : WI A V) : WI A U := by
  obtain ⟨c0, c1, c2, c3, c4⟩ := h
  obtain ⟨a0, a1, a2, a3, a4, a5, a6, a7, a8, a9⟩ := hV
  refine ⟨by rw [c0]; exact a0, fun k hk => ?_, fun j hj => ?_, fun i r hi hr => ?_, fun j hj => ?_, ?_, ?_, ?_, ?_, ?_⟩
  · have hk6 : k < 60 := by omega
    rw [c1 1 k (by decide) (by decide) hk6, c1 2 k (by decide) (by decide) hk6, c1 3 k (by decide) (by decide) hk6, c1 4 k (by decide) (by decide) hk6, c1 5 k (by decide) (by decide) hk6, c1 6 k (by decide) (by decide) hk6, c1 7 k (by decide) (by decide) hk6, c1 8 k (by decide) (by decide) hk6, c1 9 k (by decide) (by decide) hk6, c1 10 k (by decide) (by decide) hk6]
    exact a1 k (by rw [← c0]; exact hk)
  · rw [(c2 j hj).1, (c2 j hj).2]; exact a2 j hj
  · rw [(c2 (i * 4 + r) (by omega)).1]; exact a3 i r hi hr
  · rw [c3 14 j (by decide) (by decide) hj, c3 13 j (by decide) (by decide) hj, c0, c3 15 j (by decide) (by decide) hj, (c2 (j * 4) (by omega)).1, (c2 (j * 4 + 1) (by omega)).1, (c2 (j * 4 + 2) (by omega)).1, (c2 (j * 4 + 3) (by omega)).1, c3 16 j (by decide) (by decide) hj]; exact a4 j hj
  · rw [c4 18 (by decide) (by decide)]; exact a5
  · rw [c4 19 (by decide) (by decide)]; exact a6
  · rw [c4 20 (by decide) (by decide)]; exact a7
  · rw [c4 21 (by decide) (by decide)]; exact a8
  · rw [c4 22 (by decide) (by decide)]; exact a9
/-- how many lies among so many asked -/
def wLies (A : aS) (p : Int) : Nat → aS → Int × aS
  | 0, W => (0, W)
  | m + 1, W => ((wLies A p m W).1 + (if wAskV A (wLies A p m W).2 p ≠ -1 ∧ wL (wLies A p m W).2 p (wAskV A (wLies A p m W).2 p) = 0 then 1 else 0), wAsk A (wLies A p m W).2 p)
theorem wLies_s {A W : aS} {p k : Int} (h : 0 ≤ k) : wLies A p (k + 1).toNat W = ((wLies A p k.toNat W).1 + (if wAskV A (wLies A p k.toNat W).2 p ≠ -1 ∧ wL (wLies A p k.toNat W).2 p (wAskV A (wLies A p k.toNat W).2 p) = 0 then 1 else 0), wAsk A (wLies A p k.toNat W).2 p) := by
  rw [show (k + 1).toNat = k.toNat + 1 by omega, wLies]
theorem WI_lies {A W : aS} {p : Int} (h : WI A W) : ∀ m : Nat, WI A (wLies A p m W).2
  | 0 => h
  | m + 1 => WI_ask (WI_lies h m)
theorem wLies_in {A W : aS} {p : Int} : ∀ m : Nat, 0 ≤ (wLies A p m W).1 ∧ (wLies A p m W).1 ≤ m
  | 0 => ⟨Int.le_refl 0, Int.le_refl 0⟩
  | m + 1 => by
    have h := wLies_in (A := A) (W := W) (p := p) m
    show 0 ≤ (wLies A p m W).1 + (if _ then (1 : Int) else 0) ∧ (wLies A p m W).1 + (if _ then (1 : Int) else 0) ≤ _
    split <;> omega
theorem wGh_lies {A W : aS} {p : Int} : ∀ m : Nat, wGh (wLies A p m W).2 W
  | 0 => wGh_rf
  | m + 1 => wGh_t wGh_ask (wGh_lies m)
/-- SINS by which a sack's FINE would have been the same: truly, invented -/
def wCt (A W : aS) (k : Int) : Nat → Int
  | 0 => 0
  | m + 1 => wCt A W k m + (if wThen A W k 0 m = W 3 k.toNat ∧ wLie W k m = 0 then p2 m else 0)
def wCi (A W : aS) (k : Int) : Nat → Int
  | 0 => 0
  | m + 1 => wCi A W k m + (if wThen A W k 0 m = W 3 k.toNat ∧ wLie W k m ≠ 0 then p2 m else 0)
def wEu : Nat → Int → Int → Int
  | 0, a, _ => a
  | m + 1, a, b => if b = 0 then a else wEu m b (a % b)
def wOdds (A W : aS) (k : Int) : Int × Int := (pc4 (wCi A W k (A 4 0).toNat) * (100 - A 7 (W 1 k.toNat).toNat), pc4 (wCi A W k (A 4 0).toNat) * (100 - A 7 (W 1 k.toNat).toNat) + pc4 (wCt A W k (A 4 0).toNat) * A 7 (W 1 k.toNat).toNat)
def wOdd (x : Int × Int) (q : Int) : Int := if x.2 = 0 then (if q = 2 then 0 else 1) else (if q = 2 then x.1 else x.2) / wEu 64 x.1 x.2
/-- laws that may be instead, as bits -/
def wBi (P : Nat → Int) : Nat → Int
  | 0 => 0
  | m + 1 => wBi P m + (if P m = 1 then p2 m else 0)

set_option maxHeartbeats 4000000 in
set_option maxRecDepth 100000 in
theorem c_X8_areDaysK {l : Launch} {Γ : zΓ} {G : zH} {w t : Nat} {A W : aS} {k : Int} (hX : zXs Γ) (hZ : QQ Γ (Γ.2.1 w 4) t A W G) (hI : G.2.2 903 w = t) (hW : WI A W)  : zMet l Γ yX8_areDays cX8_areDays 2 (some .boolean) 0 [zr 9 w, zi k] G (zpi (fun x G' => G' = G ∧ ((x = 0 ∨ x = 1) ∧ (x = 1 ↔ (0 ≤ k ∧ W 18 0 + k ≤ 100))))) := by
  refine zMet_of RX8 hX (by decide) rfl (Nat.le_of_ble_eq_true rfl) ?_
  intro p e s m args below meth c C hr hlk
  show Z p l e (zrm 0) s m args below meth c Γ 2 0 0 (MQ below (zQc Γ (zpi (fun x G' => G' = G ∧ ((x = 0 ∨ x = 1) ∧ (x = 1 ↔ (0 ≤ k ∧ W 18 0 + k ≤ 100)))))) args s 0 0 (zA Γ)) 0 [some (zr 9 w), some (zi k)] [] G
  refine zs_loc 1 rfl (fun ha1 hb1 => ?_)
  have h18 := hW.2.2.2.2.2.1
  refine zs_iload_n (pc := 0) C dX8_areDays_0 rfl ?_
  refine zs_if_lt (tgt := 22) (pc := 1) C dX8_areDays_1 (by decide) (fun h1 => ?_) (fun h1 => ?_)
  · skip
    refine zs_iconst (pc := 22) C dX8_areDays_22 (by decide) ?_
    exact zs_zret (pc := 23) C hr hlk dX8_areDays_23 (by omega) ⟨rfl, (by refine ⟨by omega, ?_⟩; constructor <;> intro hq <;> omega)⟩
  · skip
    refine zs_iload_n (pc := 4) C dX8_areDays_4 rfl ?_
    refine zs_bipush (pc := 5) C dX8_areDays_5 (by decide) (by decide) ?_
    refine zs_aload_n (pc := 7) C dX8_areDays_7 rfl ?_
    refine zs_getf (pc := 8) C dX8_areDays_8 w_X8_34 f_9_4 (by decide) ?_
    refine zs_geti (r := 809) (pc := 11) C dX8_areDays_11 w_X8_221 f_8_9 rfl (r_809 0) (fun v11 e11 l11 u11 => ?_)
    try simp only [QQ_809 hZ] at e11
    try subst v11
    first | refine zs_isub (pc := 14) C dX8_areDays_14 (by omega) ?_ | refine zs_isubF (pc := 14) C dX8_areDays_14 (fun z14 hz141 hz142 => ?_)
    refine zs_icmp_gt (tgt := 22) (pc := 15) C dX8_areDays_15 (by decide) (fun h15 => ?_) (fun h15 => ?_)
    · skip
      refine zs_iconst (pc := 22) C dX8_areDays_22 (by decide) ?_
      exact zs_zret (pc := 23) C hr hlk dX8_areDays_23 (by omega) ⟨rfl, (by refine ⟨by omega, ?_⟩; constructor <;> intro hq <;> omega)⟩
    · skip
      refine zs_iconst (pc := 18) C dX8_areDays_18 (by decide) ?_
      refine zs_goto (tgt := 23) (pc := 19) C dX8_areDays_19 (by decide) ?_
      exact zs_zret (pc := 23) C hr hlk dX8_areDays_23 (by omega) ⟨rfl, (by refine ⟨by omega, ?_⟩; constructor <;> intro hq <;> omega)⟩

set_option maxHeartbeats 4000000 in
set_option maxRecDepth 100000 in
theorem c_X8_daysK {l : Launch} {Γ : zΓ} {G : zH} {w t : Nat} {A W : aS} {k : Int} (hX : zXs Γ) (hZ : QQ Γ (Γ.2.1 w 4) t A W G) (hI : G.2.2 903 w = t) (hW : WI A W) (hT : TA A)  : zMet l Γ yX8_days cX8_days 3 (some .int) 5 [zr 9 w, zi k] G (zpi (fun x G' => zsm [510, 2026, 2027, 2028, 2029, 2030, 2031, 2032, 2033, 2034, 2035, 810, 811, 2049, 2050, 2051, 2054, 2053, 809, 910, 2020] G G' ∧ ((x = if (0 ≤ k ∧ W 18 0 + k ≤ 100) then W 18 0 + k else -1) ∧ QQ Γ (Γ.2.1 w 4) t A (if (0 ≤ k ∧ W 18 0 + k ≤ 100) then wDays A k.toNat W else W) G' ∧ ((0 ≤ k ∧ W 18 0 + k ≤ 100) ∧ 0 < k → G'.1 910 w 0 = 0) ∧ (¬ ((0 ≤ k ∧ W 18 0 + k ≤ 100) ∧ 0 < k) → rmN w (G.1 2056 (Γ.2.1 w 9)) (G'.1 2056 (Γ.2.1 w 9)) G G')))) := by
  refine zMet_of RX8 hX (by decide) rfl (Nat.le_of_ble_eq_true rfl) ?_
  intro p e s m args below meth c C hr hlk
  show Z p l e (zrm 5) s m args below meth c Γ 3 0 0 (MQ below (zQc Γ (zpi (fun x G' => zsm [510, 2026, 2027, 2028, 2029, 2030, 2031, 2032, 2033, 2034, 2035, 810, 811, 2049, 2050, 2051, 2054, 2053, 809, 910, 2020] G G' ∧ ((x = if (0 ≤ k ∧ W 18 0 + k ≤ 100) then W 18 0 + k else -1) ∧ QQ Γ (Γ.2.1 w 4) t A (if (0 ≤ k ∧ W 18 0 + k ≤ 100) then wDays A k.toNat W else W) G' ∧ ((0 ≤ k ∧ W 18 0 + k ≤ 100) ∧ 0 < k → G'.1 910 w 0 = 0) ∧ (¬ ((0 ≤ k ∧ W 18 0 + k ≤ 100) ∧ 0 < k) → rmN w (G.1 2056 (Γ.2.1 w 9)) (G'.1 2056 (Γ.2.1 w 9)) G G'))))) args s 0 0 (zA Γ)) 0 [some (zr 9 w), some (zi k), none] [] G
  refine zs_loc 1 rfl (fun ha1 hb1 => ?_)
  have hT0 := hT.1
  refine zs_aload_n (pc := 0) C dX8_days_0 rfl ?_
  refine zs_iload_n (pc := 1) C dX8_days_1 rfl ?_
  refine zVip1 (pc := 2) C dX8_days_2 v_X8_236 (c_X8_areDaysK hX hZ hI hW) (by decide) (by decide) ⟨Nat.zero_le _, Nat.zero_le _⟩ (Nat.le_of_ble_eq_true rfl) (fun x2 l2 u2 hp2 => ?_)
  have hq2 := hp2
  have hb2 := hq2.2
  have hc2 := hq2.1
  refine zs_if_ne (tgt := 10) (pc := 5) C dX8_days_5 (by decide) (fun h5 => ?_) (fun h5 => ?_)
  · skip
    refine zs_iconst (pc := 10) C dX8_days_10 (by decide) ?_
    refine zs_istore_n (pc := 11) C dX8_days_11 (by decide) ?_
    dsimp only [zset, zclr, znone]
    have L12 : ∀ (nn : Nat) (x2 : Int) (G1 : zH), (0 ≤ x2 ∧ x2 ≤ k) → (zsm [510, 2026, 2027, 2028, 2029, 2030, 2031, 2032, 2033, 2034, 2035, 810, 811, 2049, 2050, 2051, 2054, 2053, 809, 910, 2020] G G1) → (QQ Γ (Γ.2.1 w 4) t A (wDays A x2.toNat W) G1) → (rmN w (G.1 2056 (Γ.2.1 w 9)) (G1.1 2056 (Γ.2.1 w 9)) G G1) → (k - x2).toNat < nn → Z p l e (zrm 5) s m args below meth c Γ 3 0 0 (MQ below (zQc Γ (zpi (fun x G' => zsm [510, 2026, 2027, 2028, 2029, 2030, 2031, 2032, 2033, 2034, 2035, 810, 811, 2049, 2050, 2051, 2054, 2053, 809, 910, 2020] G G' ∧ ((x = if (0 ≤ k ∧ W 18 0 + k ≤ 100) then W 18 0 + k else -1) ∧ QQ Γ (Γ.2.1 w 4) t A (if (0 ≤ k ∧ W 18 0 + k ≤ 100) then wDays A k.toNat W else W) G' ∧ ((0 ≤ k ∧ W 18 0 + k ≤ 100) ∧ 0 < k → G'.1 910 w 0 = 0) ∧ (¬ ((0 ≤ k ∧ W 18 0 + k ≤ 100) ∧ 0 < k) → rmN w (G.1 2056 (Γ.2.1 w 9)) (G'.1 2056 (Γ.2.1 w 9)) G G'))))) args s 0 0 (zA Γ)) 12 [some (zr 9 w), some (zi k), some (zi x2)] [] G1 := by
      intro nn
      induction nn with
      | zero => intro x2 G1 h12_0 h12_1 h12_2 h12_3 hm; exact absurd hm (Nat.not_lt_zero _)
      | succ nn ih12 =>
        intro x2 G1 h12_0 h12_1 h12_2 h12_3 hm12
        refine zs_iload_n (pc := 12) C dX8_days_12 rfl ?_
        refine zs_iload_n (pc := 13) C dX8_days_13 rfl ?_
        refine zs_icmp_ge (tgt := 52) (pc := 14) C dX8_days_14 (by decide) (fun h14 => ?_) (fun h14 => ?_)
        · skip
          have hok : (0 ≤ k ∧ W 18 0 + k ≤ 100) := hb2.mp (by omega)
          have hx2 : x2 = k := by omega
          rw [hx2] at h12_2
          have hWk := WI_days hT hW k.toNat (by omega)
          refine zs_iload_n (pc := 52) C dX8_days_52 rfl ?_
          refine zs_if_le (tgt := 68) (pc := 53) C dX8_days_53 (by decide) (fun h53 => ?_) (fun h53 => ?_)
          · skip
            refine zs_aload_n (pc := 68) C dX8_days_68 rfl ?_
            refine zs_getf (pc := 69) C dX8_days_69 w_X8_34 f_9_4 (by decide) ?_
            refine zs_geti (r := 809) (pc := 72) C dX8_days_72 w_X8_221 f_8_9 rfl (r_809 0) (fun v72 e72 l72 u72 => ?_)
            try simp only [QQ_809 h12_2] at e72
            try subst v72
            exact zs_iret (pc := 75) C hr hlk dX8_days_75 (by
                have hfz : QQ Γ (Γ.2.1 w 4) t A (wDays A k.toNat W) _ := (by first | exact QQ_sm hz65 (by decide) (by decide +kernel) (by first | exact h12_2 | exact QQ_910 h12_2) | exact h12_2)
                exact ⟨by repeat (first | exact zsm_rf | assumption | refine zsm_C (by decide) ?_ | refine zsm_I (by decide) ?_ | refine zsm_J ?_ | refine zsm_c (by assumption) (by decide) ?_), ⟨by rw [if_pos hok]; first | (have q := hWk.2; omega) | (rw [QQ_809 hfz]; have q := hWk.2; omega), by rw [if_pos hok]; exact hfz, fun q => (by first | (exfalso; omega) | (rw [hz65.1 910 (by decide)]; simp only [zuI_1, zuI_2, zuJ_1, zuJ_2, zuJ_3, zuP_1, zuP_2, zuP_3, zuC_1, zuC_2, reduceIte, Nat.reduceEqDiff, false_and, and_false, true_and, and_true, and_self, or_true, true_or, or_false, false_or])), fun q => (by first | exact ⟨h12_3.1, h12_3.2⟩ | exact absurd ⟨hok, by omega⟩ q)⟩⟩)
          · skip
            refine zs_aload_n (pc := 56) C dX8_days_56 rfl ?_
            refine zs_iconst (pc := 57) C dX8_days_57 (by decide) ?_
            refine zs_puti (r := 910) (pc := 58) C dX8_days_58 w_X8_94 f_9_10 rfl (r_910 0) (by omega) ?_
            refine zs_aload_n (pc := 61) C dX8_days_61 rfl ?_
            refine zs_getf (pc := 62) C dX8_days_62 w_X8_49 f_9_7 (by decide) ?_
            refine zVv0 (pc := 65) C dX8_days_65 v_X8_97 (c_X2_forget hX ) (by decide) (by decide) ⟨Nat.zero_le _, Nat.zero_le _⟩ (Nat.le_of_ble_eq_true rfl) (fun G65 hp65 => ?_)
            obtain ⟨hz65, hq65⟩ := hp65
            try simp only [zuI_1, zuI_2, zuJ_1, zuJ_2, zuJ_3, zuP_1, zuP_2, zuP_3, zuC_1, zuC_2, reduceIte, Nat.reduceEqDiff, false_and, and_false, true_and, and_true, and_self, or_true, true_or, or_false, false_or] at hq65
            refine zs_aload_n (pc := 68) C dX8_days_68 rfl ?_
            refine zs_getf (pc := 69) C dX8_days_69 w_X8_34 f_9_4 (by decide) ?_
            refine zs_geti (r := 809) (pc := 72) C dX8_days_72 w_X8_221 f_8_9 rfl (r_809 0) (fun v72 e72 l72 u72 => ?_)
            try simp only [QQ_809 h12_2] at e72
            try subst v72
            exact zs_iret (pc := 75) C hr hlk dX8_days_75 (by
                have hfz : QQ Γ (Γ.2.1 w 4) t A (wDays A k.toNat W) _ := (by first | exact QQ_sm hz65 (by decide) (by decide +kernel) (by first | exact h12_2 | exact QQ_910 h12_2) | exact h12_2)
                exact ⟨by repeat (first | exact zsm_rf | assumption | refine zsm_C (by decide) ?_ | refine zsm_I (by decide) ?_ | refine zsm_J ?_ | refine zsm_c (by assumption) (by decide) ?_), ⟨by rw [if_pos hok]; first | (have q := hWk.2; omega) | (rw [QQ_809 hfz]; have q := hWk.2; omega), by rw [if_pos hok]; exact hfz, fun q => (by first | (exfalso; omega) | (rw [hz65.1 910 (by decide)]; simp only [zuI_1, zuI_2, zuJ_1, zuJ_2, zuJ_3, zuP_1, zuP_2, zuP_3, zuC_1, zuC_2, reduceIte, Nat.reduceEqDiff, false_and, and_false, true_and, and_true, and_self, or_true, true_or, or_false, false_or])), fun q => (by first | exact ⟨h12_3.1, h12_3.2⟩ | exact absurd ⟨hok, by omega⟩ q)⟩⟩)
        · skip
          have hok : (0 ≤ k ∧ W 18 0 + k ≤ 100) := hb2.mp (by omega)
          have hWd := WI_days hT hW x2.toNat (by omega)
          have hWc := WI_cod (t := -1) (i := 0) hT hWd.1
          have hWb := WI_bd hT hWc.1 (A 4 2).toNat (by omega)
          refine zs_aload_n (pc := 17) C dX8_days_17 rfl ?_
          refine zs_getf (pc := 18) C dX8_days_18 w_X8_34 f_9_4 (by decide) ?_
          refine zs_iconst (pc := 21) C dX8_days_21 (by decide) ?_
          refine zs_iconst (pc := 22) C dX8_days_22 (by decide) ?_
          refine zVv2 (pc := 23) C dX8_days_23 v_X8_239 (c_X7_confessOfDayK hX h12_2 hWd.1 hT) (by decide) (by decide) ⟨Nat.zero_le _, Nat.zero_le _⟩ (Nat.le_of_ble_eq_true rfl) (fun G23 hp23 => ?_)
          obtain ⟨hz23, hq23⟩ := hp23
          have hZ23 := hq23
          refine zs_aload_n (pc := 26) C dX8_days_26 rfl ?_
          refine zs_getf (pc := 27) C dX8_days_27 w_X8_34 f_9_4 (by decide) ?_
          refine zVv0 (pc := 30) C dX8_days_30 v_X8_242 (c_X7_bakeOfDayK hX hZ23 hWc.1 hT) (by decide) (by decide) ⟨Nat.zero_le _, Nat.zero_le _⟩ (Nat.le_of_ble_eq_true rfl) (fun G30 hp30 => ?_)
          obtain ⟨hz30, hq30⟩ := hp30
          have hZ30 := hq30
          refine zs_aload_n (pc := 33) C dX8_days_33 rfl ?_
          refine zs_getf (pc := 34) C dX8_days_34 w_X8_34 f_9_4 (by decide) ?_
          refine zs_dupa (pc := 37) C dX8_days_37 ?_
          refine zs_geti (r := 809) (pc := 38) C dX8_days_38 w_X8_221 f_8_9 rfl (r_809 0) (fun v38 e38 l38 u38 => ?_)
          try simp only [QQ_809 hZ30, QQ_809 hZ23, QQ_809 h12_2] at e38
          try subst v38
          have y38 : (wBd A (A 4 2).toNat (wCod A (wDays A x2.toNat W) (-1) 0)) 18 0 = (wDays A x2.toNat W) 18 0 := hWb.2.trans hWc.2
          have h18 := hW.2.2.2.2.2.1
          refine zs_iconst (pc := 41) C dX8_days_41 (by decide) ?_
          first | refine zs_iadd (pc := 42) C dX8_days_42 (by omega) ?_ | refine zs_iaddF (pc := 42) C dX8_days_42 (fun z42 hz421 hz422 => ?_)
          refine zs_puti (r := 809) (pc := 43) C dX8_days_43 w_X8_221 f_8_9 rfl (r_809 0) (by omega) ?_
          first | refine zs_iinc (pc := 46) C dX8_days_46 rfl (by decide) (by omega) ?_ | refine zs_iincF (pc := 46) C dX8_days_46 rfl (by decide) (fun z46 hz461 hz462 => ?_)
          dsimp only [zset, zclr, znone]
          refine zs_goto (tgt := 12) (pc := 49) C dX8_days_49 (by decide) ?_
          exact zs_wk (ih12 _ _ (by omega) (by repeat (first | exact zsm_rf | assumption | refine zsm_C (by decide) ?_ | refine zsm_I (by decide) ?_ | refine zsm_J ?_ | refine zsm_c (by assumption) (by decide) ?_)) (by rw [wDays_s (by omega)]; unfold wDay; rw [← y38]; exact QQw_809 hZ30) (rmN_o (rs := [809]) (rmN_o (rmN_o h12_3 hz23 (by decide)) hz30 (by decide)) (zsm_I (by simp) zsm_rf) (by decide)) (by first | omega | (simp only [zuI_1, zuI_2, zuJ_1, zuJ_2, zuJ_3, zuP_1, zuP_2, zuP_3, zuC_1, zuC_2, reduceIte, Nat.reduceEqDiff, false_and, and_false, true_and, and_true, and_self, or_true, true_or, or_false, false_or]; omega))) (zwk_s rfl (zwk_s rfl (zwk_s rfl zwk_0)))
    exact zs_wk (L12 _ _ _ (by have := hb2.mp (by omega); omega) zsm_rf (by exact hZ) rmN_rf (Nat.lt_succ_self _)) (zwk_s rfl (zwk_s rfl (zwk_s rfl zwk_0)))
  · skip
    refine zs_iconst (pc := 8) C dX8_days_8 (by decide) ?_
    exact zs_iret (pc := 9) C hr hlk dX8_days_9 (by
        have hno : ¬ (0 ≤ k ∧ W 18 0 + k ≤ 100) := fun q => by have := hb2.mpr q; omega
        exact ⟨by repeat (first | exact zsm_rf | assumption | refine zsm_C (by decide) ?_ | refine zsm_I (by decide) ?_ | refine zsm_J ?_ | refine zsm_c (by assumption) (by decide) ?_), ⟨by rw [if_neg hno], by rw [if_neg hno]; exact hZ, fun q => absurd q.1 hno, fun _ => rmN_rf⟩⟩)

set_option maxHeartbeats 4000000 in
set_option maxRecDepth 100000 in
theorem c_X8_flourOfRunK {l : Launch} {Γ : zΓ} {G : zH} {w t : Nat} {A W : aS} {k i a b : Int} (hX : zXs Γ) (hZ : QQ Γ (Γ.2.1 w 4) t A W G) (hI : G.2.2 903 w = t) (hW : WI A W) (hT : TA A) (ha : (0 ≤ a ∧ W 18 0 + a ≤ 100))  : zMet l Γ yX8_flourOfRun cX8_flourOfRun 6 (some .int) 5 [zr 9 w, zi k, zi i, zi a, zi b] G (zpi (fun x G' => zsn [510, 2026, 2027, 2028, 2029, 2030, 2031, 2032, 2033, 2034, 2035, 2048, 2049, 2050, 2051, 2052, 2053, 809, 810, 811, 812, 813] G G' ∧ (OW Γ (Γ.2.1 w 6) G G' ∧ (∀ r a9 : Nat, (r = 800 ∧ a9 = (Γ.2.1 w 6)) ∨ G'.2.2 r a9 = G.2.2 r a9) ∧ ∃ U : aS, wCp U W ∧ x = wFlour (wTry A k i a.toNat U) b))) := by
  refine zMet_of RX8 hX (by decide) rfl (Nat.le_of_ble_eq_true rfl) ?_
  intro p e s m args below meth c C hr hlk
  show Z p l e (zrm 5) s m args below meth c Γ 6 0 0 (MQ below (zQc Γ (zpi (fun x G' => zsn [510, 2026, 2027, 2028, 2029, 2030, 2031, 2032, 2033, 2034, 2035, 2048, 2049, 2050, 2051, 2052, 2053, 809, 810, 811, 812, 813] G G' ∧ (OW Γ (Γ.2.1 w 6) G G' ∧ (∀ r a9 : Nat, (r = 800 ∧ a9 = (Γ.2.1 w 6)) ∨ G'.2.2 r a9 = G.2.2 r a9) ∧ ∃ U : aS, wCp U W ∧ x = wFlour (wTry A k i a.toNat U) b)))) args s 0 0 (zA Γ)) 0 [some (zr 9 w), some (zi k), some (zi i), some (zi a), some (zi b), none] [] G
  refine zs_loc 1 rfl (fun ha1 hb1 => ?_)
  refine zs_loc 2 rfl (fun ha2 hb2 => ?_)
  refine zs_loc 3 rfl (fun ha3 hb3 => ?_)
  refine zs_loc 4 rfl (fun ha4 hb4 => ?_)
  have hT0 := hT.1
  refine zs_aload_n (pc := 0) C dX8_flourOfRun_0 rfl ?_
  refine zs_getf (pc := 1) C dX8_flourOfRun_1 w_X8_41 f_9_6 (by decide) ?_
  refine zs_aload_n (pc := 4) C dX8_flourOfRun_4 rfl ?_
  refine zs_getf (pc := 5) C dX8_flourOfRun_5 w_X8_34 f_9_4 (by decide) ?_
  refine zVv1 (pc := 8) C dX8_flourOfRun_8 v_X8_288 (c_X7_copyFromK (t := t) hX (QQ_t hZ)) (by decide) (by decide) ⟨Nat.zero_le _, Nat.zero_le _⟩ (Nat.le_of_ble_eq_true rfl) (fun G8 hp8 => ?_)
  obtain ⟨hz8, hq8⟩ := hp8
  obtain ⟨W0, hW0⟩ := QW_is (Γ := Γ) (w := Γ.2.1 w 6) (G := G)
  obtain ⟨U, hU, hUc, hUg, hU7⟩ := QQ_cp hz8 (by decide +kernel) hW0 hZ (by rw [hq8.1, zuP_3, if_pos ⟨rfl, rfl⟩]) hq8.2.1 hq8.2.2
  have hUW := WI_cp hUc hW
  have hr8 : ∀ r a9 : Nat, (r = 800 ∧ a9 = Γ.2.1 w 6) ∨ G8.2.2 r a9 = G.2.2 r a9 := fun r a9 => by
    by_cases q : r = 800 ∧ a9 = Γ.2.1 w 6
    · exact Or.inl q
    · exact Or.inr (by rw [hq8.1, zuP_3, if_neg q])
  refine zs_iconst (pc := 11) C dX8_flourOfRun_11 (by decide) ?_
  refine zs_istore (pc := 12) C dX8_flourOfRun_12 (by decide) ?_
  dsimp only [zset, zclr, znone]
  have L14 : ∀ (nn : Nat) (x5 : Int) (G1 : zH), (0 ≤ x5 ∧ x5 ≤ a) → (zsn [510, 2026, 2027, 2028, 2029, 2030, 2031, 2032, 2033, 2034, 2035, 2048, 2049, 2050, 2051, 2052, 2053, 809, 810, 811, 812, 813] G G1) → (QQ Γ (Γ.2.1 w 6) t A (wTry A k i x5.toNat U) G1) → (OW Γ (Γ.2.1 w 6) G G1) → (∀ r a9 : Nat, (r = 800 ∧ a9 = (Γ.2.1 w 6)) ∨ G1.2.2 r a9 = G.2.2 r a9) → (a - x5).toNat < nn → Z p l e (zrm 5) s m args below meth c Γ 6 0 0 (MQ below (zQc Γ (zpi (fun x G' => zsn [510, 2026, 2027, 2028, 2029, 2030, 2031, 2032, 2033, 2034, 2035, 2048, 2049, 2050, 2051, 2052, 2053, 809, 810, 811, 812, 813] G G' ∧ (OW Γ (Γ.2.1 w 6) G G' ∧ (∀ r a9 : Nat, (r = 800 ∧ a9 = (Γ.2.1 w 6)) ∨ G'.2.2 r a9 = G.2.2 r a9) ∧ ∃ U : aS, wCp U W ∧ x = wFlour (wTry A k i a.toNat U) b)))) args s 0 0 (zA Γ)) 14 [some (zr 9 w), some (zi k), some (zi i), some (zi a), some (zi b), some (zi x5)] [] G1 := by
    intro nn
    induction nn with
    | zero => intro x5 G1 h14_0 h14_1 h14_2 h14_3 h14_4 hm; exact absurd hm (Nat.not_lt_zero _)
    | succ nn ih14 =>
      intro x5 G1 h14_0 h14_1 h14_2 h14_3 h14_4 hm14
      refine zs_iload (pc := 14) C dX8_flourOfRun_14 rfl ?_
      refine zs_iload_n (pc := 16) C dX8_flourOfRun_16 rfl ?_
      refine zs_icmp_ge (tgt := 48) (pc := 17) C dX8_flourOfRun_17 (by decide) (fun h17 => ?_) (fun h17 => ?_)
      · skip
        have hx5 : x5 = a := by omega
        rw [hx5] at h14_2
        have hWe := WI_try (t := k) (i := i) hT hUW a.toNat (by have := hUc.2.2.2.2 18 (by decide) (by decide); omega)
        refine zs_aload_n (pc := 48) C dX8_flourOfRun_48 rfl ?_
        refine zs_getf (pc := 49) C dX8_flourOfRun_49 w_X8_41 f_9_6 (by decide) ?_
        refine zs_getf (pc := 52) C dX8_flourOfRun_52 w_X8_172 f_8_1 (by decide) ?_
        refine zs_iload (pc := 55) C dX8_flourOfRun_55 rfl ?_
        refine zVip1 (pc := 57) C dX8_flourOfRun_57 v_X8_218 (c_X4_flourFromK hX h14_2 hWe.1) (by decide) (by decide) ⟨Nat.zero_le _, Nat.zero_le _⟩ (Nat.le_of_ble_eq_true rfl) (fun x57 l57 u57 hp57 => ?_)
        have hq57 := hp57
        exact zs_iret (pc := 60) C hr hlk dX8_flourOfRun_60 ⟨h14_1, ⟨h14_3, h14_4, U, hUc, hq57⟩⟩
      · skip
        have hWt := WI_try (t := k) (i := i) hT hUW x5.toNat (by have := hUc.2.2.2.2 18 (by decide) (by decide); omega)
        have hWc := WI_cod (t := k) (i := i) hT hWt.1
        refine zs_aload_n (pc := 20) C dX8_flourOfRun_20 rfl ?_
        refine zs_getf (pc := 21) C dX8_flourOfRun_21 w_X8_41 f_9_6 (by decide) ?_
        refine zs_iload_n (pc := 24) C dX8_flourOfRun_24 rfl ?_
        refine zs_iload_n (pc := 25) C dX8_flourOfRun_25 rfl ?_
        refine zVv2 (pc := 26) C dX8_flourOfRun_26 v_X8_239 (c_X7_confessOfDayK hX h14_2 hWt.1 hT) (by decide) (by decide) ⟨Nat.zero_le _, Nat.zero_le _⟩ (Nat.le_of_ble_eq_true rfl) (fun G26 hp26 => ?_)
        obtain ⟨hz26, hq26⟩ := hp26
        have hZ26 := hq26
        refine zs_aload_n (pc := 29) C dX8_flourOfRun_29 rfl ?_
        refine zs_getf (pc := 30) C dX8_flourOfRun_30 w_X8_41 f_9_6 (by decide) ?_
        refine zs_dupa (pc := 33) C dX8_flourOfRun_33 ?_
        refine zs_geti (r := 809) (pc := 34) C dX8_flourOfRun_34 w_X8_221 f_8_9 rfl (r_809 0) (fun v34 e34 l34 u34 => ?_)
        try simp only [QQ_809 hZ26, QQ_809 h14_2] at e34
        try subst v34
        have y34 : (wCod A (wTry A k i x5.toNat U) k i) 18 0 = (wTry A k i x5.toNat U) 18 0 := hWc.2
        have h18 := hWt.1.2.2.2.2.2.1
        refine zs_iconst (pc := 37) C dX8_flourOfRun_37 (by decide) ?_
        first | refine zs_iadd (pc := 38) C dX8_flourOfRun_38 (by omega) ?_ | refine zs_iaddF (pc := 38) C dX8_flourOfRun_38 (fun z38 hz381 hz382 => ?_)
        refine zs_puti (r := 809) (pc := 39) C dX8_flourOfRun_39 w_X8_221 f_8_9 rfl (r_809 0) (by omega) ?_
        first | refine zs_iinc (pc := 42) C dX8_flourOfRun_42 rfl (by decide) (by omega) ?_ | refine zs_iincF (pc := 42) C dX8_flourOfRun_42 rfl (by decide) (fun z42 hz421 hz422 => ?_)
        dsimp only [zset, zclr, znone]
        refine zs_goto (tgt := 14) (pc := 45) C dX8_flourOfRun_45 (by decide) ?_
        exact zs_wk (ih14 _ _ (by omega) (by repeat (first | exact zsn_rf | assumption | refine zsn_C (by decide) ?_ | refine zsn_I (by decide) ?_ | refine zsn_J ?_ | refine zsn_P ?_ | refine zsn_m (by assumption) (by decide) ?_ | refine zsn_c (by assumption) (by decide) ?_)) (by rw [wTry_s (by omega), ← y34]; exact QQw_809 hZ26) (OW_t (OW_gh h14_2.1 (QQw_809 hZ26).1 (wGh_u (by decide) wGh_cod)) h14_3) (fun r a9 => by have q := h14_4 r a9; rcases q with q | q; exact Or.inl q; exact Or.inr (by show G26.2.2 r a9 = _; rw [hz26.2]; exact q)) (by first | omega | (simp only [zuI_1, zuI_2, zuJ_1, zuJ_2, zuJ_3, zuP_1, zuP_2, zuP_3, zuC_1, zuC_2, reduceIte, Nat.reduceEqDiff, false_and, and_false, true_and, and_true, and_self, or_true, true_or, or_false, false_or]; omega))) (zwk_s rfl (zwk_s rfl (zwk_s rfl (zwk_s rfl (zwk_s rfl (zwk_s rfl zwk_0))))))
  exact zs_wk (L14 _ _ _ (by omega) (by repeat (first | exact zsn_rf | assumption | refine zsn_C (by decide) ?_ | refine zsn_I (by decide) ?_ | refine zsn_J ?_ | refine zsn_P ?_ | refine zsn_m (by assumption) (by decide) ?_ | refine zsn_c (by assumption) (by decide) ?_)) (by exact hU) hq8.2.1 hr8 (Nat.lt_succ_self _)) (zwk_s rfl (zwk_s rfl (zwk_s rfl (zwk_s rfl (zwk_s rfl (zwk_s rfl zwk_0))))))

set_option maxHeartbeats 4000000 in
set_option maxRecDepth 100000 in
theorem c_X8_runK {l : Launch} {Γ : zΓ} {G : zH} {w t : Nat} {A W : aS} {a b : Int} (hX : zXs Γ) (hZ : QQ Γ (Γ.2.1 w 4) t A W G) (hI : G.2.2 903 w = t) (hW : WI A W) (hT : TA A)  : zMet l Γ yX8_run cX8_run 3 (some .int) 6 [zr 9 w, zi a, zi b] G (zpi (fun x G' => zsn [510, 2026, 2027, 2028, 2029, 2030, 2031, 2032, 2033, 2034, 2035, 2048, 2049, 2050, 2051, 2052, 2053, 809, 810, 811, 812, 813] G G' ∧ ((((0 ≤ a ∧ W 18 0 + a ≤ 100) ∧ 0 ≤ b ∧ b ≤ 999) → ∃ U : aS, wCp U W ∧ x = wFlour (wTry A (-1) 0 a.toNat U) b) ∧ (¬ ((0 ≤ a ∧ W 18 0 + a ≤ 100) ∧ 0 ≤ b ∧ b ≤ 999) → x = -1) ∧ OW Γ (Γ.2.1 w 6) G G' ∧ (∀ r a9 : Nat, (r = 800 ∧ a9 = (Γ.2.1 w 6)) ∨ G'.2.2 r a9 = G.2.2 r a9)))) := by
  refine zMet_of RX8 hX (by decide) rfl (Nat.le_of_ble_eq_true rfl) ?_
  intro p e s m args below meth c C hr hlk
  show Z p l e (zrm 6) s m args below meth c Γ 3 0 0 (MQ below (zQc Γ (zpi (fun x G' => zsn [510, 2026, 2027, 2028, 2029, 2030, 2031, 2032, 2033, 2034, 2035, 2048, 2049, 2050, 2051, 2052, 2053, 809, 810, 811, 812, 813] G G' ∧ ((((0 ≤ a ∧ W 18 0 + a ≤ 100) ∧ 0 ≤ b ∧ b ≤ 999) → ∃ U : aS, wCp U W ∧ x = wFlour (wTry A (-1) 0 a.toNat U) b) ∧ (¬ ((0 ≤ a ∧ W 18 0 + a ≤ 100) ∧ 0 ≤ b ∧ b ≤ 999) → x = -1) ∧ OW Γ (Γ.2.1 w 6) G G' ∧ (∀ r a9 : Nat, (r = 800 ∧ a9 = (Γ.2.1 w 6)) ∨ G'.2.2 r a9 = G.2.2 r a9))))) args s 0 0 (zA Γ)) 0 [some (zr 9 w), some (zi a), some (zi b)] [] G
  refine zs_loc 1 rfl (fun ha1 hb1 => ?_)
  refine zs_loc 2 rfl (fun ha2 hb2 => ?_)
  refine zs_aload_n (pc := 0) C dX8_run_0 rfl ?_
  refine zs_iload_n (pc := 1) C dX8_run_1 rfl ?_
  refine zVip1 (pc := 2) C dX8_run_2 v_X8_236 (c_X8_areDaysK hX hZ hI hW) (by decide) (by decide) ⟨Nat.zero_le _, Nat.zero_le _⟩ (Nat.le_of_ble_eq_true rfl) (fun x2 l2 u2 hp2 => ?_)
  have hq2 := hp2
  have hb2 := hq2.2
  have hc2 := hq2.1
  refine zs_if_eq (tgt := 26) (pc := 5) C dX8_run_5 (by decide) (fun h5 => ?_) (fun h5 => ?_)
  · skip
    have hno : ¬ ((0 ≤ a ∧ W 18 0 + a ≤ 100) ∧ 0 ≤ b ∧ b ≤ 999) := fun q => by have q1 := hb2.mpr q.1; first | omega | (have q2 := hb9.mpr q.2; omega)
    refine zs_iconst (pc := 26) C dX8_run_26 (by decide) ?_
    exact zs_iret (pc := 27) C hr hlk dX8_run_27 (by first | exact ⟨hz20, ⟨fun _ => hq20.2.2, fun q => absurd hok q, hq20.1, hq20.2.1⟩⟩ | exact ⟨by repeat (first | exact zsn_rf | assumption | refine zsn_C (by decide) ?_ | refine zsn_I (by decide) ?_ | refine zsn_J ?_ | refine zsn_P ?_ | refine zsn_m (by assumption) (by decide) ?_ | refine zsn_c (by assumption) (by decide) ?_), ⟨fun q => absurd q hno, fun _ => rfl, OW_rf, fun _ _ => Or.inr rfl⟩⟩)
  · skip
    refine zs_iload_n (pc := 8) C dX8_run_8 rfl ?_
    refine zSip1 (pc := 9) C dX8_run_9 s_X8_215 (c_X8_isFineK hX ) (by decide) ⟨Nat.zero_le _, Nat.zero_le _⟩ (Nat.le_of_ble_eq_true rfl) (fun x9 l9 u9 hp9 => ?_)
    have hq9 := hp9
    have hb9 := hq9.2
    have hc9 := hq9.1
    refine zs_if_eq (tgt := 26) (pc := 12) C dX8_run_12 (by decide) (fun h12 => ?_) (fun h12 => ?_)
    · skip
      have hno : ¬ ((0 ≤ a ∧ W 18 0 + a ≤ 100) ∧ 0 ≤ b ∧ b ≤ 999) := fun q => by have q1 := hb2.mpr q.1; first | omega | (have q2 := hb9.mpr q.2; omega)
      refine zs_iconst (pc := 26) C dX8_run_26 (by decide) ?_
      exact zs_iret (pc := 27) C hr hlk dX8_run_27 (by first | exact ⟨hz20, ⟨fun _ => hq20.2.2, fun q => absurd hok q, hq20.1, hq20.2.1⟩⟩ | exact ⟨by repeat (first | exact zsn_rf | assumption | refine zsn_C (by decide) ?_ | refine zsn_I (by decide) ?_ | refine zsn_J ?_ | refine zsn_P ?_ | refine zsn_m (by assumption) (by decide) ?_ | refine zsn_c (by assumption) (by decide) ?_), ⟨fun q => absurd q hno, fun _ => rfl, OW_rf, fun _ _ => Or.inr rfl⟩⟩)
    · skip
      have hok : (0 ≤ a ∧ W 18 0 + a ≤ 100) ∧ 0 ≤ b ∧ b ≤ 999 := ⟨hb2.mp (by omega), hb9.mp (by omega)⟩
      refine zs_aload_n (pc := 15) C dX8_run_15 rfl ?_
      refine zs_iconst (pc := 16) C dX8_run_16 (by decide) ?_
      refine zs_iconst (pc := 17) C dX8_run_17 (by decide) ?_
      refine zs_iload_n (pc := 18) C dX8_run_18 rfl ?_
      refine zs_iload_n (pc := 19) C dX8_run_19 rfl ?_
      refine zVi4 (pc := 20) C dX8_run_20 v_X8_281 (c_X8_flourOfRunK hX hZ hI hW hT (hb2.mp (by omega))) (by decide) (by decide) ⟨Nat.zero_le _, Nat.zero_le _⟩ (Nat.le_of_ble_eq_true rfl) (fun x20 G20 l20 u20 hp20 => ?_)
      obtain ⟨hz20, hq20⟩ := hp20
      refine zs_goto (tgt := 27) (pc := 23) C dX8_run_23 (by decide) ?_
      exact zs_iret (pc := 27) C hr hlk dX8_run_27 (by first | exact ⟨hz20, ⟨fun _ => hq20.2.2, fun q => absurd hok q, hq20.1, hq20.2.1⟩⟩ | exact ⟨by repeat (first | exact zsn_rf | assumption | refine zsn_C (by decide) ?_ | refine zsn_I (by decide) ?_ | refine zsn_J ?_ | refine zsn_P ?_ | refine zsn_m (by assumption) (by decide) ?_ | refine zsn_c (by assumption) (by decide) ?_), ⟨fun q => absurd q hno, fun _ => rfl, OW_rf, fun _ _ => Or.inr rfl⟩⟩)

set_option maxHeartbeats 4000000 in
set_option maxRecDepth 100000 in
theorem c_X8_isTrialK {l : Launch} {Γ : zΓ} {G : zH} {w t : Nat} {A W : aS} {k i : Int} (hX : zXs Γ) (hZ : QQ Γ (Γ.2.1 w 4) t A W G) (hI : G.2.2 903 w = t)  : zMet l Γ yX8_isTrial cX8_isTrial 3 (some .boolean) 1 [zr 9 w, zi k, zi i] G (zpi (fun x G' => G' = G ∧ ((x = 0 ∨ x = 1) ∧ (x = 1 ↔ ((k = 1 ∧ 0 ≤ i ∧ i < A 4 1) ∨ (k = 2 ∧ 0 ≤ i ∧ i < A 4 0) ∨ ((k = 0 ∨ k = 3 ∨ k = 4) ∧ i = 0)))))) := by
  refine zMet_of RX8 hX (by decide) rfl (Nat.le_of_ble_eq_true rfl) ?_
  intro p e s m args below meth c C hr hlk
  show Z p l e (zrm 1) s m args below meth c Γ 3 0 0 (MQ below (zQc Γ (zpi (fun x G' => G' = G ∧ ((x = 0 ∨ x = 1) ∧ (x = 1 ↔ ((k = 1 ∧ 0 ≤ i ∧ i < A 4 1) ∨ (k = 2 ∧ 0 ≤ i ∧ i < A 4 0) ∨ ((k = 0 ∨ k = 3 ∨ k = 4) ∧ i = 0))))))) args s 0 0 (zA Γ)) 0 [some (zr 9 w), some (zi k), some (zi i)] [] G
  refine zs_loc 1 rfl (fun ha1 hb1 => ?_)
  refine zs_loc 2 rfl (fun ha2 hb2 => ?_)
  refine zs_iload_n (pc := 0) C dX8_isTrial_0 rfl ?_
  refine zs_name (fun y1 ey1 => ?_)
  rcases (show y1 = 0 ∨ y1 = 1 ∨ y1 = 2 ∨ y1 = 3 ∨ y1 = 4 ∨ (y1 < 0 ∨ 4 < y1) by omega) with h1 | h1 | h1 | h1 | h1 | h1
  · skip
    refine zs_tabIn (pc := 1) (tgt := 36) C 0 dX8_isTrial_1 h1 (by decide) rfl (by decide) ?_
    refine zs_iload_n (pc := 36) C dX8_isTrial_36 rfl ?_
    refine zs_if_ne (tgt := 44) (pc := 37) C dX8_isTrial_37 (by decide) (fun h37 => ?_) (fun h37 => ?_)
    · skip
      refine zs_iconst (pc := 44) C dX8_isTrial_44 (by decide) ?_
      exact zs_zret (pc := 45) C hr hlk dX8_isTrial_45 (by omega) ⟨rfl, (by refine ⟨by omega, ?_⟩; constructor <;> intro hq <;> omega)⟩
    · skip
      refine zs_iconst (pc := 40) C dX8_isTrial_40 (by decide) ?_
      refine zs_goto (tgt := 45) (pc := 41) C dX8_isTrial_41 (by decide) ?_
      exact zs_zret (pc := 45) C hr hlk dX8_isTrial_45 (by omega) ⟨rfl, (by refine ⟨by omega, ?_⟩; constructor <;> intro hq <;> omega)⟩
  · skip
    refine zs_tabIn (pc := 1) (tgt := 46) C 1 dX8_isTrial_1 h1 (by decide) rfl (by decide) ?_
    refine zs_aload_n (pc := 46) C dX8_isTrial_46 rfl ?_
    refine zs_getd (r := 903) (pc := 47) C dX8_isTrial_47 w_X8_25 f_9_3 (by decide) rfl (fun v47 e47 t47 => ?_)
    rw [hI] at e47
    subst v47
    refine zs_iconst (pc := 50) C dX8_isTrial_50 (by decide) ?_
    refine zs_iload_n (pc := 51) C dX8_isTrial_51 rfl ?_
    refine zVip2 (pc := 52) C dX8_isTrial_52 v_X8_104 (c_X5_hasT hX hZ.2.1 (by omega)) (by decide) (by decide) ⟨Nat.zero_le _, Nat.zero_le _⟩ (Nat.le_of_ble_eq_true rfl) (fun x52 l52 u52 hp52 => ?_)
    have hq52 := hp52
    have hb52 : x52 = 1 ↔ 0 ≤ i ∧ i < A 4 1 := hq52.2
    have hc52 := hq52.1
    exact zs_zret (pc := 55) C hr hlk dX8_isTrial_55 (by omega) ⟨rfl, (by refine ⟨by omega, ?_⟩; constructor <;> intro hq <;> omega)⟩
  · skip
    refine zs_tabIn (pc := 1) (tgt := 56) C 2 dX8_isTrial_1 h1 (by decide) rfl (by decide) ?_
    refine zs_aload_n (pc := 56) C dX8_isTrial_56 rfl ?_
    refine zs_getd (r := 903) (pc := 57) C dX8_isTrial_57 w_X8_25 f_9_3 (by decide) rfl (fun v57 e57 t57 => ?_)
    rw [hI] at e57
    subst v57
    refine zs_iconst (pc := 60) C dX8_isTrial_60 (by decide) ?_
    refine zs_iload_n (pc := 61) C dX8_isTrial_61 rfl ?_
    refine zVip2 (pc := 62) C dX8_isTrial_62 v_X8_104 (c_X5_hasT hX hZ.2.1 (by omega)) (by decide) (by decide) ⟨Nat.zero_le _, Nat.zero_le _⟩ (Nat.le_of_ble_eq_true rfl) (fun x62 l62 u62 hp62 => ?_)
    have hq62 := hp62
    have hb62 : x62 = 1 ↔ 0 ≤ i ∧ i < A 4 0 := hq62.2
    have hc62 := hq62.1
    exact zs_zret (pc := 65) C hr hlk dX8_isTrial_65 (by omega) ⟨rfl, (by refine ⟨by omega, ?_⟩; constructor <;> intro hq <;> omega)⟩
  · skip
    refine zs_tabIn (pc := 1) (tgt := 36) C 3 dX8_isTrial_1 h1 (by decide) rfl (by decide) ?_
    refine zs_iload_n (pc := 36) C dX8_isTrial_36 rfl ?_
    refine zs_if_ne (tgt := 44) (pc := 37) C dX8_isTrial_37 (by decide) (fun h37 => ?_) (fun h37 => ?_)
    · skip
      refine zs_iconst (pc := 44) C dX8_isTrial_44 (by decide) ?_
      exact zs_zret (pc := 45) C hr hlk dX8_isTrial_45 (by omega) ⟨rfl, (by refine ⟨by omega, ?_⟩; constructor <;> intro hq <;> omega)⟩
    · skip
      refine zs_iconst (pc := 40) C dX8_isTrial_40 (by decide) ?_
      refine zs_goto (tgt := 45) (pc := 41) C dX8_isTrial_41 (by decide) ?_
      exact zs_zret (pc := 45) C hr hlk dX8_isTrial_45 (by omega) ⟨rfl, (by refine ⟨by omega, ?_⟩; constructor <;> intro hq <;> omega)⟩
  · skip
    refine zs_tabIn (pc := 1) (tgt := 36) C 4 dX8_isTrial_1 h1 (by decide) rfl (by decide) ?_
    refine zs_iload_n (pc := 36) C dX8_isTrial_36 rfl ?_
    refine zs_if_ne (tgt := 44) (pc := 37) C dX8_isTrial_37 (by decide) (fun h37 => ?_) (fun h37 => ?_)
    · skip
      refine zs_iconst (pc := 44) C dX8_isTrial_44 (by decide) ?_
      exact zs_zret (pc := 45) C hr hlk dX8_isTrial_45 (by omega) ⟨rfl, (by refine ⟨by omega, ?_⟩; constructor <;> intro hq <;> omega)⟩
    · skip
      refine zs_iconst (pc := 40) C dX8_isTrial_40 (by decide) ?_
      refine zs_goto (tgt := 45) (pc := 41) C dX8_isTrial_41 (by decide) ?_
      exact zs_zret (pc := 45) C hr hlk dX8_isTrial_45 (by omega) ⟨rfl, (by refine ⟨by omega, ?_⟩; constructor <;> intro hq <;> omega)⟩
  · skip
    refine zs_tabOut (tgt := 66) (pc := 1) C dX8_isTrial_1 h1 (by decide) ?_
    refine zs_iconst (pc := 66) C dX8_isTrial_66 (by decide) ?_
    exact zs_zret (pc := 67) C hr hlk dX8_isTrial_67 (by omega) ⟨rfl, (by refine ⟨by omega, ?_⟩; constructor <;> intro hq <;> omega)⟩

set_option maxHeartbeats 4000000 in
set_option maxRecDepth 100000 in
theorem c_X8_triedK {l : Launch} {Γ : zΓ} {G : zH} {w t : Nat} {A W : aS} {k i a b : Int} (hX : zXs Γ) (hZ : QQ Γ (Γ.2.1 w 4) t A W G) (hI : G.2.2 903 w = t) (hW : WI A W) (hT : TA A)  : zMet l Γ yX8_tried cX8_tried 5 (some .int) 6 [zr 9 w, zi k, zi i, zi a, zi b] G (zpi (fun x G' => zsn [510, 2026, 2027, 2028, 2029, 2030, 2031, 2032, 2033, 2034, 2035, 2048, 2049, 2050, 2051, 2052, 2053, 809, 810, 811, 812, 813] G G' ∧ (((((0 ≤ a ∧ W 18 0 + a ≤ 100) ∧ 0 ≤ b ∧ b ≤ 999) ∧ ((k = 1 ∧ 0 ≤ i ∧ i < A 4 1) ∨ (k = 2 ∧ 0 ≤ i ∧ i < A 4 0) ∨ ((k = 0 ∨ k = 3 ∨ k = 4) ∧ i = 0))) → ∃ U : aS, wCp U W ∧ x = wFlour (wTry A k i a.toNat U) b) ∧ (¬ (((0 ≤ a ∧ W 18 0 + a ≤ 100) ∧ 0 ≤ b ∧ b ≤ 999) ∧ ((k = 1 ∧ 0 ≤ i ∧ i < A 4 1) ∨ (k = 2 ∧ 0 ≤ i ∧ i < A 4 0) ∨ ((k = 0 ∨ k = 3 ∨ k = 4) ∧ i = 0))) → x = -1) ∧ OW Γ (Γ.2.1 w 6) G G' ∧ (∀ r a9 : Nat, (r = 800 ∧ a9 = (Γ.2.1 w 6)) ∨ G'.2.2 r a9 = G.2.2 r a9)))) := by
  refine zMet_of RX8 hX (by decide) rfl (Nat.le_of_ble_eq_true rfl) ?_
  intro p e s m args below meth c C hr hlk
  show Z p l e (zrm 6) s m args below meth c Γ 5 0 0 (MQ below (zQc Γ (zpi (fun x G' => zsn [510, 2026, 2027, 2028, 2029, 2030, 2031, 2032, 2033, 2034, 2035, 2048, 2049, 2050, 2051, 2052, 2053, 809, 810, 811, 812, 813] G G' ∧ (((((0 ≤ a ∧ W 18 0 + a ≤ 100) ∧ 0 ≤ b ∧ b ≤ 999) ∧ ((k = 1 ∧ 0 ≤ i ∧ i < A 4 1) ∨ (k = 2 ∧ 0 ≤ i ∧ i < A 4 0) ∨ ((k = 0 ∨ k = 3 ∨ k = 4) ∧ i = 0))) → ∃ U : aS, wCp U W ∧ x = wFlour (wTry A k i a.toNat U) b) ∧ (¬ (((0 ≤ a ∧ W 18 0 + a ≤ 100) ∧ 0 ≤ b ∧ b ≤ 999) ∧ ((k = 1 ∧ 0 ≤ i ∧ i < A 4 1) ∨ (k = 2 ∧ 0 ≤ i ∧ i < A 4 0) ∨ ((k = 0 ∨ k = 3 ∨ k = 4) ∧ i = 0))) → x = -1) ∧ OW Γ (Γ.2.1 w 6) G G' ∧ (∀ r a9 : Nat, (r = 800 ∧ a9 = (Γ.2.1 w 6)) ∨ G'.2.2 r a9 = G.2.2 r a9))))) args s 0 0 (zA Γ)) 0 [some (zr 9 w), some (zi k), some (zi i), some (zi a), some (zi b)] [] G
  refine zs_loc 1 rfl (fun ha1 hb1 => ?_)
  refine zs_loc 2 rfl (fun ha2 hb2 => ?_)
  refine zs_loc 3 rfl (fun ha3 hb3 => ?_)
  refine zs_loc 4 rfl (fun ha4 hb4 => ?_)
  refine zs_aload_n (pc := 0) C dX8_tried_0 rfl ?_
  refine zs_iload_n (pc := 1) C dX8_tried_1 rfl ?_
  refine zVip1 (pc := 2) C dX8_tried_2 v_X8_236 (c_X8_areDaysK hX hZ hI hW) (by decide) (by decide) ⟨Nat.zero_le _, Nat.zero_le _⟩ (Nat.le_of_ble_eq_true rfl) (fun x2 l2 u2 hp2 => ?_)
  have hq2 := hp2
  have hb2 := hq2.2
  have hc2 := hq2.1
  refine zs_if_eq (tgt := 25) (pc := 5) C dX8_tried_5 (by decide) (fun h5 => ?_) (fun h5 => ?_)
  · skip
    have hno : ¬ (((0 ≤ a ∧ W 18 0 + a ≤ 100) ∧ 0 ≤ b ∧ b ≤ 999) ∧ ((k = 1 ∧ 0 ≤ i ∧ i < A 4 1) ∨ (k = 2 ∧ 0 ≤ i ∧ i < A 4 0) ∨ ((k = 0 ∨ k = 3 ∨ k = 4) ∧ i = 0))) := fun q => by have q1 := hb2.mpr q.1.1; first | omega | (have q2 := hb10.mpr q.1.2; first | omega | (have q3 := hb19.mpr q.2; omega))
    refine zs_iconst (pc := 25) C dX8_tried_25 (by decide) ?_
    exact zs_iret (pc := 26) C hr hlk dX8_tried_26 ⟨by repeat (first | exact zsn_rf | assumption | refine zsn_C (by decide) ?_ | refine zsn_I (by decide) ?_ | refine zsn_J ?_ | refine zsn_P ?_ | refine zsn_m (by assumption) (by decide) ?_ | refine zsn_c (by assumption) (by decide) ?_), ⟨fun q => absurd q hno, fun _ => rfl, OW_rf, fun _ _ => Or.inr rfl⟩⟩
  · skip
    refine zs_iload (pc := 8) C dX8_tried_8 rfl ?_
    refine zSip1 (pc := 10) C dX8_tried_10 s_X8_215 (c_X8_isFineK hX ) (by decide) ⟨Nat.zero_le _, Nat.zero_le _⟩ (Nat.le_of_ble_eq_true rfl) (fun x10 l10 u10 hp10 => ?_)
    have hq10 := hp10
    have hb10 := hq10.2
    have hc10 := hq10.1
    refine zs_if_eq (tgt := 25) (pc := 13) C dX8_tried_13 (by decide) (fun h13 => ?_) (fun h13 => ?_)
    · skip
      have hno : ¬ (((0 ≤ a ∧ W 18 0 + a ≤ 100) ∧ 0 ≤ b ∧ b ≤ 999) ∧ ((k = 1 ∧ 0 ≤ i ∧ i < A 4 1) ∨ (k = 2 ∧ 0 ≤ i ∧ i < A 4 0) ∨ ((k = 0 ∨ k = 3 ∨ k = 4) ∧ i = 0))) := fun q => by have q1 := hb2.mpr q.1.1; first | omega | (have q2 := hb10.mpr q.1.2; first | omega | (have q3 := hb19.mpr q.2; omega))
      refine zs_iconst (pc := 25) C dX8_tried_25 (by decide) ?_
      exact zs_iret (pc := 26) C hr hlk dX8_tried_26 ⟨by repeat (first | exact zsn_rf | assumption | refine zsn_C (by decide) ?_ | refine zsn_I (by decide) ?_ | refine zsn_J ?_ | refine zsn_P ?_ | refine zsn_m (by assumption) (by decide) ?_ | refine zsn_c (by assumption) (by decide) ?_), ⟨fun q => absurd q hno, fun _ => rfl, OW_rf, fun _ _ => Or.inr rfl⟩⟩
    · skip
      refine zs_aload_n (pc := 16) C dX8_tried_16 rfl ?_
      refine zs_iload_n (pc := 17) C dX8_tried_17 rfl ?_
      refine zs_iload_n (pc := 18) C dX8_tried_18 rfl ?_
      refine zVip2 (pc := 19) C dX8_tried_19 v_X8_285 (c_X8_isTrialK hX hZ hI) (by decide) (by decide) ⟨Nat.zero_le _, Nat.zero_le _⟩ (Nat.le_of_ble_eq_true rfl) (fun x19 l19 u19 hp19 => ?_)
      have hq19 := hp19
      have hb19 := hq19.2
      have hc19 := hq19.1
      refine zs_if_ne (tgt := 27) (pc := 22) C dX8_tried_22 (by decide) (fun h22 => ?_) (fun h22 => ?_)
      · skip
        have hok : ((0 ≤ a ∧ W 18 0 + a ≤ 100) ∧ 0 ≤ b ∧ b ≤ 999) ∧ ((k = 1 ∧ 0 ≤ i ∧ i < A 4 1) ∨ (k = 2 ∧ 0 ≤ i ∧ i < A 4 0) ∨ ((k = 0 ∨ k = 3 ∨ k = 4) ∧ i = 0)) := ⟨⟨hb2.mp (by omega), hb10.mp (by omega)⟩, hb19.mp (by omega)⟩
        refine zs_aload_n (pc := 27) C dX8_tried_27 rfl ?_
        refine zs_iload_n (pc := 28) C dX8_tried_28 rfl ?_
        refine zs_iload_n (pc := 29) C dX8_tried_29 rfl ?_
        refine zs_iload_n (pc := 30) C dX8_tried_30 rfl ?_
        refine zs_iload (pc := 31) C dX8_tried_31 rfl ?_
        refine zVi4 (pc := 33) C dX8_tried_33 v_X8_281 (c_X8_flourOfRunK hX hZ hI hW hT (hb2.mp (by omega))) (by decide) (by decide) ⟨Nat.zero_le _, Nat.zero_le _⟩ (Nat.le_of_ble_eq_true rfl) (fun x33 G33 l33 u33 hp33 => ?_)
        obtain ⟨hz33, hq33⟩ := hp33
        exact zs_iret (pc := 36) C hr hlk dX8_tried_36 ⟨hz33, ⟨fun _ => hq33.2.2, fun q => absurd hok q, hq33.1, hq33.2.1⟩⟩
      · skip
        have hno : ¬ (((0 ≤ a ∧ W 18 0 + a ≤ 100) ∧ 0 ≤ b ∧ b ≤ 999) ∧ ((k = 1 ∧ 0 ≤ i ∧ i < A 4 1) ∨ (k = 2 ∧ 0 ≤ i ∧ i < A 4 0) ∨ ((k = 0 ∨ k = 3 ∨ k = 4) ∧ i = 0))) := fun q => by have q1 := hb2.mpr q.1.1; first | omega | (have q2 := hb10.mpr q.1.2; first | omega | (have q3 := hb19.mpr q.2; omega))
        refine zs_iconst (pc := 25) C dX8_tried_25 (by decide) ?_
        exact zs_iret (pc := 26) C hr hlk dX8_tried_26 ⟨by repeat (first | exact zsn_rf | assumption | refine zsn_C (by decide) ?_ | refine zsn_I (by decide) ?_ | refine zsn_J ?_ | refine zsn_P ?_ | refine zsn_m (by assumption) (by decide) ?_ | refine zsn_c (by assumption) (by decide) ?_), ⟨fun q => absurd q hno, fun _ => rfl, OW_rf, fun _ _ => Or.inr rfl⟩⟩

set_option maxHeartbeats 4000000 in
set_option maxRecDepth 100000 in
theorem c_X8_liesK {l : Launch} {Γ : zΓ} {G : zH} {w t : Nat} {A W : aS} {a p k : Int} (hX : zXs Γ) (hZ : QQ Γ (Γ.2.1 w 4) t A W G) (hI : G.2.2 903 w = t) (hW : WI A W) (hT : TA A)  : zMet l Γ yX8_lies cX8_lies 7 (some .int) 3 [zr 9 w, zi a, zi p, zi k] G (zpi (fun x G' => zsn [510, 2026, 2027, 2028, 2029, 2030, 2031, 2032, 2033, 2034, 2035, 2048, 2049, 2050, 2051, 2052, 2053, 809, 810, 811, 812, 813] G G' ∧ (((0 ≤ a ∧ (0 ≤ p ∧ p < A 4 1) ∧ 1 ≤ k ∧ k ≤ 40) → ∃ U : aS, wCp U W ∧ x = (wLies A p k.toNat (up U 21 0 a)).1) ∧ (¬ (0 ≤ a ∧ (0 ≤ p ∧ p < A 4 1) ∧ 1 ≤ k ∧ k ≤ 40) → x = -1) ∧ OW Γ (Γ.2.1 w 6) G G' ∧ (∀ r a9 : Nat, (r = 800 ∧ a9 = (Γ.2.1 w 6)) ∨ G'.2.2 r a9 = G.2.2 r a9)))) := by
  refine zMet_of RX8 hX (by decide) rfl (Nat.le_of_ble_eq_true rfl) ?_
  intro px9 e s m args below meth c C hr hlk
  show Z px9 l e (zrm 3) s m args below meth c Γ 7 0 0 (MQ below (zQc Γ (zpi (fun x G' => zsn [510, 2026, 2027, 2028, 2029, 2030, 2031, 2032, 2033, 2034, 2035, 2048, 2049, 2050, 2051, 2052, 2053, 809, 810, 811, 812, 813] G G' ∧ (((0 ≤ a ∧ (0 ≤ p ∧ p < A 4 1) ∧ 1 ≤ k ∧ k ≤ 40) → ∃ U : aS, wCp U W ∧ x = (wLies A p k.toNat (up U 21 0 a)).1) ∧ (¬ (0 ≤ a ∧ (0 ≤ p ∧ p < A 4 1) ∧ 1 ≤ k ∧ k ≤ 40) → x = -1) ∧ OW Γ (Γ.2.1 w 6) G G' ∧ (∀ r a9 : Nat, (r = 800 ∧ a9 = (Γ.2.1 w 6)) ∨ G'.2.2 r a9 = G.2.2 r a9))))) args s 0 0 (zA Γ)) 0 [some (zr 9 w), some (zi a), some (zi p), some (zi k), none, none, none] [] G
  refine zs_loc 1 rfl (fun ha1 hb1 => ?_)
  refine zs_loc 2 rfl (fun ha2 hb2 => ?_)
  refine zs_loc 3 rfl (fun ha3 hb3 => ?_)
  have hT0 := hT.1
  refine zs_iload_n (pc := 0) C dX8_lies_0 rfl ?_
  refine zs_if_lt (tgt := 27) (pc := 1) C dX8_lies_1 (by decide) (fun h1 => ?_) (fun h1 => ?_)
  · skip
    have hno : ¬ (0 ≤ a ∧ (0 ≤ p ∧ p < A 4 1) ∧ 1 ≤ k ∧ k ≤ 40) := fun q => by first | omega | (have q1 := hb10.mpr q.2.1; omega)
    refine zs_iconst (pc := 27) C dX8_lies_27 (by decide) ?_
    exact zs_iret (pc := 28) C hr hlk dX8_lies_28 ⟨by repeat (first | exact zsn_rf | assumption | refine zsn_C (by decide) ?_ | refine zsn_I (by decide) ?_ | refine zsn_J ?_ | refine zsn_P ?_ | refine zsn_m (by assumption) (by decide) ?_ | refine zsn_c (by assumption) (by decide) ?_), ⟨fun q => absurd q hno, fun _ => rfl, OW_rf, fun _ _ => Or.inr rfl⟩⟩
  · skip
    refine zs_aload_n (pc := 4) C dX8_lies_4 rfl ?_
    refine zs_getd (r := 903) (pc := 5) C dX8_lies_5 w_X8_25 f_9_3 (by decide) rfl (fun v5 e5 t5 => ?_)
    rw [hI] at e5
    subst v5
    refine zs_iconst (pc := 8) C dX8_lies_8 (by decide) ?_
    refine zs_iload_n (pc := 9) C dX8_lies_9 rfl ?_
    refine zVip2 (pc := 10) C dX8_lies_10 v_X8_104 (c_X5_hasT hX hZ.2.1 (by omega)) (by decide) (by decide) ⟨Nat.zero_le _, Nat.zero_le _⟩ (Nat.le_of_ble_eq_true rfl) (fun x10 l10 u10 hp10 => ?_)
    have hq10 := hp10
    have hb10 : x10 = 1 ↔ 0 ≤ p ∧ p < A 4 1 := hq10.2
    have hc10 := hq10.1
    refine zs_if_eq (tgt := 27) (pc := 13) C dX8_lies_13 (by decide) (fun h13 => ?_) (fun h13 => ?_)
    · skip
      have hno : ¬ (0 ≤ a ∧ (0 ≤ p ∧ p < A 4 1) ∧ 1 ≤ k ∧ k ≤ 40) := fun q => by first | omega | (have q1 := hb10.mpr q.2.1; omega)
      refine zs_iconst (pc := 27) C dX8_lies_27 (by decide) ?_
      exact zs_iret (pc := 28) C hr hlk dX8_lies_28 ⟨by repeat (first | exact zsn_rf | assumption | refine zsn_C (by decide) ?_ | refine zsn_I (by decide) ?_ | refine zsn_J ?_ | refine zsn_P ?_ | refine zsn_m (by assumption) (by decide) ?_ | refine zsn_c (by assumption) (by decide) ?_), ⟨fun q => absurd q hno, fun _ => rfl, OW_rf, fun _ _ => Or.inr rfl⟩⟩
    · skip
      refine zs_iload_n (pc := 16) C dX8_lies_16 rfl ?_
      refine zs_iconst (pc := 17) C dX8_lies_17 (by decide) ?_
      refine zs_icmp_lt (tgt := 27) (pc := 18) C dX8_lies_18 (by decide) (fun h18 => ?_) (fun h18 => ?_)
      · skip
        have hno : ¬ (0 ≤ a ∧ (0 ≤ p ∧ p < A 4 1) ∧ 1 ≤ k ∧ k ≤ 40) := fun q => by first | omega | (have q1 := hb10.mpr q.2.1; omega)
        refine zs_iconst (pc := 27) C dX8_lies_27 (by decide) ?_
        exact zs_iret (pc := 28) C hr hlk dX8_lies_28 ⟨by repeat (first | exact zsn_rf | assumption | refine zsn_C (by decide) ?_ | refine zsn_I (by decide) ?_ | refine zsn_J ?_ | refine zsn_P ?_ | refine zsn_m (by assumption) (by decide) ?_ | refine zsn_c (by assumption) (by decide) ?_), ⟨fun q => absurd q hno, fun _ => rfl, OW_rf, fun _ _ => Or.inr rfl⟩⟩
      · skip
        refine zs_iload_n (pc := 21) C dX8_lies_21 rfl ?_
        refine zs_bipush (pc := 22) C dX8_lies_22 (by decide) (by decide) ?_
        refine zs_icmp_le (tgt := 29) (pc := 24) C dX8_lies_24 (by decide) (fun h24 => ?_) (fun h24 => ?_)
        · skip
          have hok : 0 ≤ a ∧ (0 ≤ p ∧ p < A 4 1) ∧ 1 ≤ k ∧ k ≤ 40 := ⟨by omega, hb10.mp (by omega), by omega, by omega⟩
          refine zs_aload_n (pc := 29) C dX8_lies_29 rfl ?_
          refine zs_getf (pc := 30) C dX8_lies_30 w_X8_41 f_9_6 (by decide) ?_
          refine zs_aload_n (pc := 33) C dX8_lies_33 rfl ?_
          refine zs_getf (pc := 34) C dX8_lies_34 w_X8_34 f_9_4 (by decide) ?_
          refine zVv1 (pc := 37) C dX8_lies_37 v_X8_288 (c_X7_copyFromK (t := t) hX (QQ_t hZ)) (by decide) (by decide) ⟨Nat.zero_le _, Nat.zero_le _⟩ (Nat.le_of_ble_eq_true rfl) (fun G37 hp37 => ?_)
          obtain ⟨hz37, hq37⟩ := hp37
          obtain ⟨W0, hW0⟩ := QW_is (Γ := Γ) (w := Γ.2.1 w 6) (G := G)
          obtain ⟨U, hU, hUc, hUg, hU7⟩ := QQ_cp hz37 (by decide +kernel) hW0 hZ (by rw [hq37.1, zuP_3, if_pos ⟨rfl, rfl⟩]) hq37.2.1 hq37.2.2
          have hUW := WI_cp hUc hW
          have hr8 : ∀ r a9 : Nat, (r = 800 ∧ a9 = Γ.2.1 w 6) ∨ G37.2.2 r a9 = G.2.2 r a9 := fun r a9 => by
            by_cases q : r = 800 ∧ a9 = Γ.2.1 w 6
            · exact Or.inl q
            · exact Or.inr (by rw [hq37.1, zuP_3, if_neg q])
          refine zs_aload_n (pc := 40) C dX8_lies_40 rfl ?_
          refine zs_getf (pc := 41) C dX8_lies_41 w_X8_41 f_9_6 (by decide) ?_
          refine zs_iload_n (pc := 44) C dX8_lies_44 rfl ?_
          refine zs_puti (r := 812) (pc := 45) C dX8_lies_45 w_X8_316 f_8_12 rfl (r_812 0) (by omega) ?_
          refine zs_iconst (pc := 48) C dX8_lies_48 (by decide) ?_
          refine zs_istore (pc := 49) C dX8_lies_49 (by decide) ?_
          dsimp only [zset, zclr, znone]
          refine zs_iconst (pc := 51) C dX8_lies_51 (by decide) ?_
          refine zs_istore (pc := 52) C dX8_lies_52 (by decide) ?_
          dsimp only [zset, zclr, znone]
          have L54 : ∀ (nn : Nat) (x4 x5 : Int) (G1 : zH), (0 ≤ x5 ∧ x5 ≤ k) → (zsn [510, 2026, 2027, 2028, 2029, 2030, 2031, 2032, 2033, 2034, 2035, 2048, 2049, 2050, 2051, 2052, 2053, 809, 810, 811, 812, 813] G G1) → (QQ Γ (Γ.2.1 w 6) t A (wLies A p x5.toNat (up U 21 0 a)).2 G1) → (x4 = (wLies A p x5.toNat (up U 21 0 a)).1) → (OW Γ (Γ.2.1 w 6) G G1) → (∀ r a9 : Nat, (r = 800 ∧ a9 = (Γ.2.1 w 6)) ∨ G1.2.2 r a9 = G.2.2 r a9) → (40 - x5).toNat < nn → Z px9 l e (zrm 3) s m args below meth c Γ 7 0 0 (MQ below (zQc Γ (zpi (fun x G' => zsn [510, 2026, 2027, 2028, 2029, 2030, 2031, 2032, 2033, 2034, 2035, 2048, 2049, 2050, 2051, 2052, 2053, 809, 810, 811, 812, 813] G G' ∧ (((0 ≤ a ∧ (0 ≤ p ∧ p < A 4 1) ∧ 1 ≤ k ∧ k ≤ 40) → ∃ U : aS, wCp U W ∧ x = (wLies A p k.toNat (up U 21 0 a)).1) ∧ (¬ (0 ≤ a ∧ (0 ≤ p ∧ p < A 4 1) ∧ 1 ≤ k ∧ k ≤ 40) → x = -1) ∧ OW Γ (Γ.2.1 w 6) G G' ∧ (∀ r a9 : Nat, (r = 800 ∧ a9 = (Γ.2.1 w 6)) ∨ G'.2.2 r a9 = G.2.2 r a9))))) args s 0 0 (zA Γ)) 54 [some (zr 9 w), some (zi a), some (zi p), some (zi k), some (zi x4), some (zi x5), none] [] G1 := by
            intro nn
            induction nn with
            | zero => intro x4 x5 G1 h54_0 h54_1 h54_2 h54_3 h54_4 h54_5 hm; exact absurd hm (Nat.not_lt_zero _)
            | succ nn ih54 =>
              intro x4 x5 G1 h54_0 h54_1 h54_2 h54_3 h54_4 h54_5 hm54
              refine zs_iload (pc := 54) C dX8_lies_54 rfl ?_
              refine zs_iload_n (pc := 56) C dX8_lies_56 rfl ?_
              refine zs_icmp_ge (tgt := 105) (pc := 57) C dX8_lies_57 (by decide) (fun h57 => ?_) (fun h57 => ?_)
              · skip
                have hx5 : x5 = k := by omega
                rw [hx5] at h54_3
                refine zs_iload (pc := 105) C dX8_lies_105 rfl ?_
                exact zs_iret (pc := 107) C hr hlk dX8_lies_107 ⟨h54_1, ⟨fun _ => ⟨U, hUc, h54_3⟩, fun q => absurd hok q, h54_4, h54_5⟩⟩
              · skip
                have hWl := WI_lies (p := p) (WI_dr (Or.inl rfl) hUW ⟨fun _ => ⟨hok.1, by omega⟩, fun q => absurd q (by decide)⟩ : WI A (up U 21 0 a)) x5.toNat
                have hls := wLies_s (A := A) (W := up U 21 0 a) (p := p) (k := x5) (by omega)
                have hli := wLies_in (A := A) (W := up U 21 0 a) (p := p) x5.toNat
                refine zs_aload_n (pc := 60) C dX8_lies_60 rfl ?_
                refine zs_getf (pc := 61) C dX8_lies_61 w_X8_41 f_9_6 (by decide) ?_
                refine zs_iload_n (pc := 64) C dX8_lies_64 rfl ?_
                refine zVi1 (pc := 65) C dX8_lies_65 v_X8_181 (c_X7_sinByChanceK hX h54_2 hWl hT (by omega) (by omega)) (by decide) (by decide) ⟨Nat.zero_le _, Nat.zero_le _⟩ (Nat.le_of_ble_eq_true rfl) (fun x65 G65 l65 u65 hp65 => ?_)
                obtain ⟨hz65, hq65⟩ := hp65
                have hZ65 := hq65.1
                have hX65 := hq65.2
                have hx65 := hX65.1
                have hav := wAskV_in (A := A) (W := (wLies A p x5.toNat (up U 21 0 a)).2) (p := p) (by omega)
                subst hx65
                refine zs_istore (pc := 68) C dX8_lies_68 (by decide) ?_
                dsimp only [zset, zclr, znone]
                refine zs_aload_n (pc := 70) C dX8_lies_70 rfl ?_
                refine zs_getd (r := 903) (pc := 71) C dX8_lies_71 w_X8_25 f_9_3 (by decide) rfl (fun v71 e71 t71 => ?_)
                try simp only [hz65.2, zuI_1, zuI_2, zuJ_1, zuJ_2, zuJ_3, zuP_1, zuP_2, zuP_3, zuC_1, zuC_2, reduceIte, Nat.reduceEqDiff, false_and, and_false, true_and, and_true, and_self, or_true, true_or, or_false, false_or] at e71
                rw [show G1.2.2 903 w = t from ((h54_5 903 w).resolve_left (fun q => absurd q.1 (by decide))).trans hI] at e71
                subst v71
                refine zs_iconst (pc := 74) C dX8_lies_74 (by decide) ?_
                refine zs_iload (pc := 75) C dX8_lies_75 rfl ?_
                refine zVip2 (pc := 77) C dX8_lies_77 v_X8_104 (c_X5_hasT hX hZ65.2.1 (by omega)) (by decide) (by decide) ⟨Nat.zero_le _, Nat.zero_le _⟩ (Nat.le_of_ble_eq_true rfl) (fun x77 l77 u77 hp77 => ?_)
                have hq77 := hp77
                have hb77 : x77 = 1 ↔ (0 : Int) ≤ wAskV A (wLies A p x5.toNat (up U 21 0 a)).2 p ∧ wAskV A (wLies A p x5.toNat (up U 21 0 a)).2 p < A 4 0 := hq77.2
                have hc77 := hq77.1
                have J99 : ∀ (y4 : Int), (y4 = (wLies A p (x5 + 1).toNat (up U 21 0 a)).1) → Z px9 l e (zrm 3) s m args below meth c Γ 7 0 0 (MQ below (zQc Γ (zpi (fun x G' => zsn [510, 2026, 2027, 2028, 2029, 2030, 2031, 2032, 2033, 2034, 2035, 2048, 2049, 2050, 2051, 2052, 2053, 809, 810, 811, 812, 813] G G' ∧ (((0 ≤ a ∧ (0 ≤ p ∧ p < A 4 1) ∧ 1 ≤ k ∧ k ≤ 40) → ∃ U : aS, wCp U W ∧ x = (wLies A p k.toNat (up U 21 0 a)).1) ∧ (¬ (0 ≤ a ∧ (0 ≤ p ∧ p < A 4 1) ∧ 1 ≤ k ∧ k ≤ 40) → x = -1) ∧ OW Γ (Γ.2.1 w 6) G G' ∧ (∀ r a9 : Nat, (r = 800 ∧ a9 = (Γ.2.1 w 6)) ∨ G'.2.2 r a9 = G.2.2 r a9))))) args s 0 0 (zA Γ)) 99 [some (zr 9 w), some (zi a), some (zi p), some (zi k), some (zi y4), some (zi x5), none] [] G65 := by
                  intro y4 h99_0
                  first | refine zs_iinc (pc := 99) C dX8_lies_99 rfl (by decide) (by omega) ?_ | refine zs_iincF (pc := 99) C dX8_lies_99 rfl (by decide) (fun z99 hz991 hz992 => ?_)
                  dsimp only [zset, zclr, znone]
                  refine zs_goto (tgt := 54) (pc := 102) C dX8_lies_102 (by decide) ?_
                  exact zs_wk (ih54 _ _ _ (by omega) (by repeat (first | exact zsn_rf | assumption | refine zsn_C (by decide) ?_ | refine zsn_I (by decide) ?_ | refine zsn_J ?_ | refine zsn_P ?_ | refine zsn_m (by assumption) (by decide) ?_ | refine zsn_c (by assumption) (by decide) ?_)) (by rw [wLies_s (by omega)]; exact hZ65) h99_0 (OW_t (OW_gh h54_2.1 hZ65.1 wGh_ask) h54_4) (fun r a9 => by have q := h54_5 r a9; rcases q with q | q; exact Or.inl q; exact Or.inr (by show G65.2.2 r a9 = _; rw [hz65.2]; exact q)) (by first | omega | (simp only [zuI_1, zuI_2, zuJ_1, zuJ_2, zuJ_3, zuP_1, zuP_2, zuP_3, zuC_1, zuC_2, reduceIte, Nat.reduceEqDiff, false_and, and_false, true_and, and_true, and_self, or_true, true_or, or_false, false_or]; omega))) (zwk_s rfl (zwk_s rfl (zwk_s rfl (zwk_s rfl (zwk_s rfl (zwk_s rfl (zwk_n zwk_0)))))))
                refine zs_if_eq (tgt := 99) (pc := 80) C dX8_lies_80 (by decide) (fun h80 => ?_) (fun h80 => ?_)
                · skip
                  exact zs_wk (J99 _ (by first | (rw [hls]; omega) | (rw [hls, if_neg (by rintro ⟨q1, q2⟩; first | omega | (have := hb77.mpr (by omega); omega))]; omega))) (zwk_s rfl (zwk_s rfl (zwk_s rfl (zwk_s rfl (zwk_s rfl (zwk_s rfl (zwk_n zwk_0)))))))
                · skip
                  refine zs_aload_n (pc := 83) C dX8_lies_83 rfl ?_
                  refine zs_getf (pc := 84) C dX8_lies_84 w_X8_41 f_9_6 (by decide) ?_
                  refine zs_iload_n (pc := 87) C dX8_lies_87 rfl ?_
                  refine zs_iload (pc := 88) C dX8_lies_88 rfl ?_
                  refine zVip2 (pc := 90) C dX8_lies_90 v_X8_142 (c_X7_leftOfK hX hZ65 (by omega) (by omega)) (by decide) (by decide) ⟨Nat.zero_le _, Nat.zero_le _⟩ (Nat.le_of_ble_eq_true rfl) (fun x90 l90 u90 hp90 => ?_)
                  have hq90 := hp90
                  have hq90b : x90 = wL (wLies A p x5.toNat (up U 21 0 a)).2 p (wAskV A (wLies A p x5.toNat (up U 21 0 a)).2 p) := hq90.trans (wAsk_0 (f := 12) (by decide))
                  refine zs_if_ne (tgt := 99) (pc := 93) C dX8_lies_93 (by decide) (fun h93 => ?_) (fun h93 => ?_)
                  · skip
                    exact zs_wk (J99 _ (by first | (rw [hls]; omega) | (rw [hls, if_neg (by rintro ⟨q1, q2⟩; first | omega | (have := hb77.mpr (by omega); omega))]; omega))) (zwk_s rfl (zwk_s rfl (zwk_s rfl (zwk_s rfl (zwk_s rfl (zwk_s rfl (zwk_n zwk_0)))))))
                  · skip
                    rw [if_pos ⟨by omega, by omega⟩] at hls
                    first | refine zs_iinc (pc := 96) C dX8_lies_96 rfl (by decide) (by omega) ?_ | refine zs_iincF (pc := 96) C dX8_lies_96 rfl (by decide) (fun z96 hz961 hz962 => ?_)
                    dsimp only [zset, zclr, znone]
                    exact zs_wk (J99 _ (by first | (rw [hls]; omega) | (rw [hls, if_neg (by rintro ⟨q1, q2⟩; first | omega | (have := hb77.mpr (by omega); omega))]; omega))) (zwk_s rfl (zwk_s rfl (zwk_s rfl (zwk_s rfl (zwk_s rfl (zwk_s rfl (zwk_n zwk_0)))))))
          exact zs_wk (L54 _ _ _ _ (by omega) (by repeat (first | exact zsn_rf | assumption | refine zsn_C (by decide) ?_ | refine zsn_I (by decide) ?_ | refine zsn_J ?_ | refine zsn_P ?_ | refine zsn_m (by assumption) (by decide) ?_ | refine zsn_c (by assumption) (by decide) ?_)) (by exact QQw_812 hU) rfl (OWw_812 hq37.2.1) hr8 (Nat.lt_succ_self _)) (zwk_s rfl (zwk_s rfl (zwk_s rfl (zwk_s rfl (zwk_s rfl (zwk_s rfl (zwk_n zwk_0)))))))
        · skip
          have hno : ¬ (0 ≤ a ∧ (0 ≤ p ∧ p < A 4 1) ∧ 1 ≤ k ∧ k ≤ 40) := fun q => by first | omega | (have q1 := hb10.mpr q.2.1; omega)
          refine zs_iconst (pc := 27) C dX8_lies_27 (by decide) ?_
          exact zs_iret (pc := 28) C hr hlk dX8_lies_28 ⟨by repeat (first | exact zsn_rf | assumption | refine zsn_C (by decide) ?_ | refine zsn_I (by decide) ?_ | refine zsn_J ?_ | refine zsn_P ?_ | refine zsn_m (by assumption) (by decide) ?_ | refine zsn_c (by assumption) (by decide) ?_), ⟨fun q => absurd q hno, fun _ => rfl, OW_rf, fun _ _ => Or.inr rfl⟩⟩

set_option maxHeartbeats 4000000 in
set_option maxRecDepth 100000 in
theorem c_X8_knownK {l : Launch} {Γ : zΓ} {G : zH} {w t : Nat} {A W : aS} {k : Int} (hX : zXs Γ) (hZ : QQ Γ (Γ.2.1 w 4) t A W G) (hI : G.2.2 903 w = t)  : zMet l Γ yX8_known cX8_known 2 (some .boolean) 0 [zr 9 w, zi k] G (zpi (fun x G' => zsm [813] G G' ∧ ((x = 0 ∨ x = 1) ∧ (x = 1 ↔ -1 ≤ k ∧ k ≤ W 0 0) ∧ QQ Γ (Γ.2.1 w 4) t A (if -1 ≤ k ∧ k ≤ W 0 0 then up W 22 0 k else W) G'))) := by
  refine zMet_of RX8 hX (by decide) rfl (Nat.le_of_ble_eq_true rfl) ?_
  intro p e s m args below meth c C hr hlk
  show Z p l e (zrm 0) s m args below meth c Γ 2 0 0 (MQ below (zQc Γ (zpi (fun x G' => zsm [813] G G' ∧ ((x = 0 ∨ x = 1) ∧ (x = 1 ↔ -1 ≤ k ∧ k ≤ W 0 0) ∧ QQ Γ (Γ.2.1 w 4) t A (if -1 ≤ k ∧ k ≤ W 0 0 then up W 22 0 k else W) G')))) args s 0 0 (zA Γ)) 0 [some (zr 9 w), some (zi k)] [] G
  refine zs_loc 1 rfl (fun ha1 hb1 => ?_)
  refine zs_iload_n (pc := 0) C dX8_known_0 rfl ?_
  refine zs_iconst (pc := 1) C dX8_known_1 (by decide) ?_
  refine zs_icmp_lt (tgt := 19) (pc := 2) C dX8_known_2 (by decide) (fun h2 => ?_) (fun h2 => ?_)
  · skip
    refine zs_iconst (pc := 19) C dX8_known_19 (by decide) ?_
    exact zs_zret (pc := 20) C hr hlk dX8_known_20 (by omega) ⟨by repeat (first | exact zsm_rf | assumption | refine zsm_C (by decide) ?_ | refine zsm_I (by decide) ?_ | refine zsm_J ?_ | refine zsm_c (by assumption) (by decide) ?_), ⟨Or.inl rfl, ⟨fun q => absurd q (by decide), fun q => by omega⟩, by rw [if_neg (by omega)]; exact hZ⟩⟩
  · skip
    refine zs_iload_n (pc := 5) C dX8_known_5 rfl ?_
    refine zs_aload_n (pc := 6) C dX8_known_6 rfl ?_
    refine zs_getf (pc := 7) C dX8_known_7 w_X8_34 f_9_4 (by decide) ?_
    refine zs_getf (pc := 10) C dX8_known_10 w_X8_172 f_8_1 (by decide) ?_
    refine zs_geti (r := 510) (pc := 13) C dX8_known_13 w_X8_176 f_5_10 rfl (r_510 0) (fun v13 e13 l13 u13 => ?_)
    try simp only [QQ_510 hZ] at e13
    try subst v13
    refine zs_icmp_le (tgt := 21) (pc := 16) C dX8_known_16 (by decide) (fun h16 => ?_) (fun h16 => ?_)
    · skip
      refine zs_aload_n (pc := 21) C dX8_known_21 rfl ?_
      refine zs_getf (pc := 22) C dX8_known_22 w_X8_34 f_9_4 (by decide) ?_
      refine zs_iload_n (pc := 25) C dX8_known_25 rfl ?_
      refine zs_puti (r := 813) (pc := 26) C dX8_known_26 w_X8_319 f_8_13 rfl (r_813 0) (by omega) ?_
      refine zs_iconst (pc := 29) C dX8_known_29 (by decide) ?_
      exact zs_zret (pc := 30) C hr hlk dX8_known_30 (by omega) ⟨by repeat (first | exact zsm_rf | assumption | refine zsm_C (by decide) ?_ | refine zsm_I (by decide) ?_ | refine zsm_J ?_ | refine zsm_c (by assumption) (by decide) ?_), ⟨Or.inr rfl, ⟨fun _ => by omega, fun _ => rfl⟩, by rw [if_pos (by omega)]; exact QQw_813 hZ⟩⟩
    · skip
      refine zs_iconst (pc := 19) C dX8_known_19 (by decide) ?_
      exact zs_zret (pc := 20) C hr hlk dX8_known_20 (by omega) ⟨by repeat (first | exact zsm_rf | assumption | refine zsm_C (by decide) ?_ | refine zsm_I (by decide) ?_ | refine zsm_J ?_ | refine zsm_c (by assumption) (by decide) ?_), ⟨Or.inl rfl, ⟨fun q => absurd q (by decide), fun q => by omega⟩, by rw [if_neg (by omega)]; exact hZ⟩⟩
