/-! two mills -/
theorem band_3 (x : Int) : 0 ≤ band x 3 ∧ band x 3 ≤ 3 := by
  unfold band
  obtain ⟨j, hj, ej⟩ := pk_andE (Int32.ofInt x) (m := Int32.ofInt 3) 2 (by decide)
  rw [ej, nI_toInt (by omega)]
  omega
theorem band_1 (x : Int) : 0 ≤ band x 1 ∧ band x 1 ≤ 1 := by
  unfold band
  obtain ⟨j, hj, ej⟩ := pk_andE (Int32.ofInt x) (m := Int32.ofInt 1) 1 (by decide)
  rw [ej, nI_toInt (by omega)]
  omega
def mdg (row k : Int) : Int := band (bshr row (2 * k)) 3
def mbt (q k : Int) : Int := band (bshr q k) 1
theorem mdg_in (row k : Int) : 0 ≤ mdg row k ∧ mdg row k ≤ 3 := band_3 _
theorem mbt_in (q k : Int) : 0 ≤ mbt q k ∧ mbt q k ≤ 1 := band_1 _
def msF (W : Nat → Int) (row q : Int) : Nat → Int
  | 0 => 0
  | k + 1 => msF W row q k + (if mbt q k = 0 then W (mdg row k).toNat else 0)
def msS (W : Nat → Int) (row q : Int) : Nat → Int
  | 0 => 0
  | k + 1 => msS W row q k + (if mbt q k = 0 then 0 else W (mdg row k).toNat)
def msA (W : Nat → Int) (row : Int) : Nat → Int
  | 0 => 0
  | k + 1 => msA W row k + W (mdg row k).toNat
theorem msF_s {W : Nat → Int} {row q k : Int} (h : 0 ≤ k) : msF W row q (k + 1).toNat = msF W row q k.toNat + (if mbt q k = 0 then W (mdg row k).toNat else 0) := by
  rw [show (k + 1).toNat = k.toNat + 1 by omega, msF, show ((k.toNat : Nat) : Int) = k by omega]
theorem msS_s {W : Nat → Int} {row q k : Int} (h : 0 ≤ k) : msS W row q (k + 1).toNat = msS W row q k.toNat + (if mbt q k = 0 then 0 else W (mdg row k).toNat) := by
  rw [show (k + 1).toNat = k.toNat + 1 by omega, msS, show ((k.toNat : Nat) : Int) = k by omega]
theorem msA_s {W : Nat → Int} {row k : Int} (h : 0 ≤ k) : msA W row (k + 1).toNat = msA W row k.toNat + W (mdg row k).toNat := by
  rw [show (k + 1).toNat = k.toNat + 1 by omega, msA, show ((k.toNat : Nat) : Int) = k by omega]
theorem msAFS (W : Nat → Int) (row q : Int) : ∀ k : Nat, msA W row k = msF W row q k + msS W row q k
  | 0 => rfl
  | k + 1 => by
    rw [msA, msF, msS, msAFS W row q k]
    by_cases h : mbt q k = 0
    · rw [if_pos h, if_pos h]; omega
    · rw [if_neg h, if_neg h]; omega
theorem msFS_in {W : Nat → Int} {row q : Int} : ∀ k : Nat, (∀ j : Nat, j < k → 0 ≤ W (mdg row j).toNat ∧ W (mdg row j).toNat ≤ 99) → (0 ≤ msF W row q k ∧ msF W row q k ≤ 99 * k) ∧ 0 ≤ msS W row q k ∧ msS W row q k ≤ 99 * k
  | 0, _ => by simp [msF, msS]
  | k + 1, h => by
    have h1 := msFS_in (q := q) k (fun j hj => h j (by omega))
    have h2 := h k (by omega)
    rw [msF, msS]
    by_cases hb : mbt q k = 0
    · rw [if_pos hb, if_pos hb]; omega
    · rw [if_neg hb, if_neg hb]; omega
def mmn (f : Nat → Int) : Nat → Int × Int
  | 0 => (2147483647, 0)
  | k + 1 => if f k < (mmn f k).1 then (f k, (k : Int)) else mmn f k
theorem mmn_s {f : Nat → Int} {k : Int} (h : 0 ≤ k) : mmn f (k + 1).toNat = if f k.toNat < (mmn f k.toNat).1 then (f k.toNat, k) else mmn f k.toNat := by
  rw [show (k + 1).toNat = k.toNat + 1 by omega, mmn, show ((k.toNat : Nat) : Int) = k by omega]
def mfn (W : Nat → Int) (row n : Int) : Nat → Int := fun m => max (msF W row m n.toNat) (msS W row m n.toNat)
theorem mfn_at {W : Nat → Int} {row n k : Int} (h : 0 ≤ k) : mfn W row n k.toNat = max (msF W row k n.toNat) (msS W row k n.toNat) := by
  unfold mfn
  rw [show ((k.toNat : Nat) : Int) = k by omega]
theorem bsh1 : ∀ k : Nat, k < 11 → 1 ≤ bshl 1 k ∧ bshl 1 k ≤ 1024 := by decide +kernel
theorem bsh1_i {k : Int} (h : 1 ≤ k ∧ k ≤ 10) : 1 ≤ bshl 1 k ∧ bshl 1 k ≤ 1024 := by
  have q := bsh1 k.toNat (by omega)
  rwa [show ((k.toNat : Nat) : Int) = k by omega] at q
/-- what two mills are worth: a row of n, what is asked -/
def mV (W : Nat → Int) (n row k : Int) : Int := if k = 0 then (mmn (mfn W row n) (bshl 1 n).toNat).1 else (mmn (mfn W row n) (bshl 1 n).toNat).2
def mOK (S n row k : Int) : Prop := (1 ≤ n ∧ n ≤ 10 ∧ 0 ≤ k ∧ k ≤ 1) ∧ ∀ j : Nat, (j : Int) < n → mdg row j < S
theorem msFS_cg {W V : Nat → Int} {row q : Int} : ∀ k : Nat, (∀ j : Nat, j < k → W (mdg row j).toNat = V (mdg row j).toNat) → msF W row q k = msF V row q k ∧ msS W row q k = msS V row q k
  | 0, _ => ⟨rfl, rfl⟩
  | k + 1, h => by
    have h1 := msFS_cg (q := q) k (fun j hj => h j (by omega))
    rw [msF, msS, msF, msS, h1.1, h1.2, h k (by omega)]
    exact ⟨rfl, rfl⟩
theorem mmn_cg {f g : Nat → Int} (h : ∀ m, f m = g m) : ∀ k, mmn f k = mmn g k
  | 0 => rfl
  | k + 1 => by rw [mmn, mmn, mmn_cg h k, h k]
theorem mV_cg {W V : Nat → Int} {n row k : Int} (h : ∀ j : Nat, (j : Int) < n → W (mdg row j).toNat = V (mdg row j).toNat) : mV W n row k = mV V n row k := by
  have e : ∀ m, mfn W row n m = mfn V row n m := fun m => by
    have q := msFS_cg (W := W) (V := V) (row := row) (q := m) n.toNat (fun j hj => h j (by omega))
    unfold mfn
    rw [q.1, q.2]
  unfold mV
  rw [mmn_cg e]

set_option maxHeartbeats 4000000 in
set_option maxRecDepth 100000 in
theorem c_X5_hasK {l : Launch} {Γ : zΓ} {G : zH} {w : Nat} {kd k : Int} (hX : zXs Γ) (hk : 0 ≤ kd ∧ kd ≤ 3) : zMet l Γ yX5_has cX5_has 3 (some .boolean) 0 [zr 6 w, zi kd, zi k] G (zpi (fun x G' => G' = G ∧ ((x = 0 ∨ x = 1) ∧ (x = 1 ↔ 0 ≤ k ∧ k < G.1 2037 (Γ.2.1 w 2) kd.toNat)))) := by
  refine zMet_of RX5 hX (by decide) rfl (Nat.le_of_ble_eq_true rfl) ?_
  intro p e s m args below meth c C hr hlk
  show Z p l e (zrm 0) s m args below meth c Γ 3 0 0 (MQ below (zQc Γ (zpi (fun x G' => G' = G ∧ ((x = 0 ∨ x = 1) ∧ (x = 1 ↔ 0 ≤ k ∧ k < G.1 2037 (Γ.2.1 w 2) kd.toNat))))) args s 0 0 (zA Γ)) 0 [some (zr 6 w), some (zi kd), some (zi k)] [] G
  refine zs_loc 1 rfl (fun ha1 hb1 => ?_)
  refine zs_loc 2 rfl (fun ha2 hb2 => ?_)
  refine zs_iload_n (pc := 0) C dX5_has_0 rfl ?_
  refine zs_if_lt (tgt := 18) (pc := 1) C dX5_has_1 (by decide) (fun h1 => ?_) (fun h1 => ?_)
  · skip
    refine zs_iconst (pc := 18) C dX5_has_18 (by decide) ?_
    exact zs_zret (pc := 19) C hr hlk dX5_has_19 (by omega) ⟨rfl, (by refine ⟨by omega, ?_⟩; constructor <;> intro hq <;> omega)⟩
  · skip
    refine zs_iload_n (pc := 4) C dX5_has_4 rfl ?_
    refine zs_aload_n (pc := 5) C dX5_has_5 rfl ?_
    refine zs_getf (pc := 6) C dX5_has_6 w_X5_22 f_6_2 (by decide) ?_
    refine zs_iload_n (pc := 9) C dX5_has_9 rfl ?_
    refine zs_iald (r := 2037) (pc := 10) C dX5_has_10 a_37 (by decide) (by omega) rfl rfl (fun v10 e10 l10 u10 => ?_)
    have hs := rs_2037 kd.toNat
    refine zs_icmp_ge (tgt := 18) (pc := 11) C dX5_has_11 (by decide) (fun h11 => ?_) (fun h11 => ?_)
    · skip
      refine zs_iconst (pc := 18) C dX5_has_18 (by decide) ?_
      exact zs_zret (pc := 19) C hr hlk dX5_has_19 (by omega) ⟨rfl, (by refine ⟨by omega, ?_⟩; constructor <;> intro hq <;> omega)⟩
    · skip
      refine zs_iconst (pc := 14) C dX5_has_14 (by decide) ?_
      refine zs_goto (tgt := 19) (pc := 15) C dX5_has_15 (by decide) ?_
      exact zs_zret (pc := 19) C hr hlk dX5_has_19 (by omega) ⟨rfl, (by refine ⟨by omega, ?_⟩; constructor <;> intro hq <;> omega)⟩

set_option maxHeartbeats 4000000 in
set_option maxRecDepth 100000 in
theorem c_X8_isRowK {l : Launch} {Γ : zΓ} {G : zH} {w : Nat} {a b : Int} (hX : zXs Γ) (ha : 1 ≤ a ∧ a ≤ 10) : zMet l Γ yX8_isRow cX8_isRow 4 (some .boolean) 1 [zr 9 w, zi a, zi b] G (zpi (fun x G' => G' = G ∧ ((x = 0 ∨ x = 1) ∧ (x = 1 ↔ ∀ j : Nat, (j : Int) < a → mdg b j < (G.1 2037 (Γ.2.1 (G.2.2 903 w) 2) 0))))) := by
  refine zMet_of RX8 hX (by decide) rfl (Nat.le_of_ble_eq_true rfl) ?_
  intro p e s m args below meth c C hr hlk
  show Z p l e (zrm 1) s m args below meth c Γ 4 0 0 (MQ below (zQc Γ (zpi (fun x G' => G' = G ∧ ((x = 0 ∨ x = 1) ∧ (x = 1 ↔ ∀ j : Nat, (j : Int) < a → mdg b j < (G.1 2037 (Γ.2.1 (G.2.2 903 w) 2) 0)))))) args s 0 0 (zA Γ)) 0 [some (zr 9 w), some (zi a), some (zi b), none] [] G
  refine zs_loc 1 rfl (fun ha1 hb1 => ?_)
  refine zs_loc 2 rfl (fun ha2 hb2 => ?_)
  refine zs_iconst (pc := 0) C dX8_isRow_0 (by decide) ?_
  refine zs_istore_n (pc := 1) C dX8_isRow_1 (by decide) ?_
  dsimp only [zset, zclr, znone]
  have L2 : ∀ (nn : Nat) (x3 : Int), (0 ≤ x3 ∧ x3 ≤ 10) → (∀ j : Nat, (j : Int) < x3 → mdg b j < (G.1 2037 (Γ.2.1 (G.2.2 903 w) 2) 0)) → (10 - x3).toNat < nn → Z p l e (zrm 1) s m args below meth c Γ 4 0 0 (MQ below (zQc Γ (zpi (fun x G' => G' = G ∧ ((x = 0 ∨ x = 1) ∧ (x = 1 ↔ ∀ j : Nat, (j : Int) < a → mdg b j < (G.1 2037 (Γ.2.1 (G.2.2 903 w) 2) 0)))))) args s 0 0 (zA Γ)) 2 [some (zr 9 w), some (zi a), some (zi b), some (zi x3)] [] G := by
    intro nn
    induction nn with
    | zero => intro x3 h2_0 h2_1 hm; exact absurd hm (Nat.not_lt_zero _)
    | succ nn ih2 =>
      intro x3 h2_0 h2_1 hm2
      refine zs_iload_n (pc := 2) C dX8_isRow_2 rfl ?_
      refine zs_iload_n (pc := 3) C dX8_isRow_3 rfl ?_
      refine zs_icmp_ge (tgt := 33) (pc := 4) C dX8_isRow_4 (by decide) (fun h4 => ?_) (fun h4 => ?_)
      · skip
        refine zs_iconst (pc := 33) C dX8_isRow_33 (by decide) ?_
        exact zs_zret (pc := 34) C hr hlk dX8_isRow_34 (by omega) ⟨rfl, ⟨Or.inr rfl, ⟨fun _ j hj => h2_1 j (by omega), fun _ => rfl⟩⟩⟩
      · skip
        refine zs_aload_n (pc := 7) C dX8_isRow_7 rfl ?_
        refine zs_getd (r := 903) (pc := 8) C dX8_isRow_8 w_X8_25 f_9_3 (by decide) rfl (fun v8 e8 t8 => ?_)
        subst e8
        refine zs_iconst (pc := 11) C dX8_isRow_11 (by decide) ?_
        refine zs_iload_n (pc := 12) C dX8_isRow_12 rfl ?_
        refine zs_iconst (pc := 13) C dX8_isRow_13 (by decide) ?_
        refine zs_iload_n (pc := 14) C dX8_isRow_14 rfl ?_
        first | refine zs_imul (pc := 15) C dX8_isRow_15 (by omega) ?_ | refine zs_imulF (pc := 15) C dX8_isRow_15 (fun z15 hz151 hz152 => ?_)
        refine zs_ishrX (pc := 16) C dX8_isRow_16 (fun z16 ez16 hz161 hz162 => ?_)
        refine zs_iconst (pc := 17) C dX8_isRow_17 (by decide) ?_
        refine zs_iandX (pc := 18) C dX8_isRow_18 (fun z18 ez18 hz181 hz182 => ?_)
        refine zVip2 (pc := 19) C dX8_isRow_19 v_X8_104 (c_X5_hasK hX (by omega)) (by decide) (by decide) ⟨Nat.zero_le _, Nat.zero_le _⟩ (Nat.le_of_ble_eq_true rfl) (fun x19 l19 u19 hp19 => ?_)
        have hq19 := hp19
        have hd : z18 = mdg b x3 := by rw [ez18, ez16]; rfl
        have hd2 := mdg_in b x3
        rw [hd] at hq19
        refine zs_if_ne (tgt := 27) (pc := 22) C dX8_isRow_22 (by decide) (fun h22 => ?_) (fun h22 => ?_)
        · skip
          first | refine zs_iinc (pc := 27) C dX8_isRow_27 rfl (by decide) (by omega) ?_ | refine zs_iincF (pc := 27) C dX8_isRow_27 rfl (by decide) (fun z27 hz271 hz272 => ?_)
          dsimp only [zset, zclr, znone]
          refine zs_goto (tgt := 2) (pc := 30) C dX8_isRow_30 (by decide) ?_
          exact zs_wk (ih2 _ (by omega) (fun j hj => by by_cases q : (j : Int) = x3; (rw [q]; exact (hq19.2.mp (by omega)).2); exact h2_1 j (by omega)) (by first | omega | (simp only [zuI_1, zuI_2, zuJ_1, zuJ_2, zuJ_3, zuP_1, zuP_2, zuP_3, zuC_1, zuC_2, reduceIte, Nat.reduceEqDiff, false_and, and_false, true_and, and_true, and_self, or_true, true_or, or_false, false_or]; omega))) (zwk_s rfl (zwk_s rfl (zwk_s rfl (zwk_s rfl zwk_0))))
        · skip
          refine zs_iconst (pc := 25) C dX8_isRow_25 (by decide) ?_
          exact zs_zret (pc := 26) C hr hlk dX8_isRow_26 (by omega) ⟨rfl, ⟨Or.inl rfl, ⟨fun q => absurd q (by decide), fun q => by have q2 := q x3.toNat (by omega); rw [show ((x3.toNat : Nat) : Int) = x3 by omega] at q2; have q3 := hq19.2.mpr ⟨hd2.1, q2⟩; omega⟩⟩⟩
  exact zs_wk (L2 _ _ (by omega) (fun j hj => by omega) (Nat.lt_succ_self _)) (zwk_s rfl (zwk_s rfl (zwk_s rfl (zwk_s rfl zwk_0))))

set_option maxHeartbeats 4000000 in
set_option maxRecDepth 100000 in
theorem c_X8_greaterSumK {l : Launch} {Γ : zΓ} {G : zH} {w : Nat} {a b q : Int} (hX : zXs Γ) (ha : 1 ≤ a ∧ a ≤ 10) (hw : ∀ j : Nat, (j : Int) < (G.1 2037 (Γ.2.1 (G.2.2 903 w) 2) 0) → 0 ≤ (G.1 2038 (Γ.2.1 (G.2.2 903 w) 3)) j ∧ (G.1 2038 (Γ.2.1 (G.2.2 903 w) 3)) j ≤ 99) (hR9 : ∀ j : Nat, (j : Int) < a → mdg b j < (G.1 2037 (Γ.2.1 (G.2.2 903 w) 2) 0)) : zMet l Γ yX8_greaterSum cX8_greaterSum 8 (some .int) 1 [zr 9 w, zi a, zi b, zi q] G (zpi (fun x G' => G' = G ∧ (x = max (msF (G.1 2038 (Γ.2.1 (G.2.2 903 w) 3)) b q a.toNat) (msS (G.1 2038 (Γ.2.1 (G.2.2 903 w) 3)) b q a.toNat)))) := by
  refine zMet_of RX8 hX (by decide) rfl (Nat.le_of_ble_eq_true rfl) ?_
  intro p e s m args below meth c C hr hlk
  show Z p l e (zrm 1) s m args below meth c Γ 8 0 0 (MQ below (zQc Γ (zpi (fun x G' => G' = G ∧ (x = max (msF (G.1 2038 (Γ.2.1 (G.2.2 903 w) 3)) b q a.toNat) (msS (G.1 2038 (Γ.2.1 (G.2.2 903 w) 3)) b q a.toNat))))) args s 0 0 (zA Γ)) 0 [some (zr 9 w), some (zi a), some (zi b), some (zi q), none, none, none, none] [] G
  refine zs_loc 1 rfl (fun ha1 hb1 => ?_)
  refine zs_loc 2 rfl (fun ha2 hb2 => ?_)
  refine zs_loc 3 rfl (fun ha3 hb3 => ?_)
  refine zs_iconst (pc := 0) C dX8_greaterSum_0 (by decide) ?_
  refine zs_istore (pc := 1) C dX8_greaterSum_1 (by decide) ?_
  dsimp only [zset, zclr, znone]
  refine zs_iconst (pc := 3) C dX8_greaterSum_3 (by decide) ?_
  refine zs_istore (pc := 4) C dX8_greaterSum_4 (by decide) ?_
  dsimp only [zset, zclr, znone]
  refine zs_iconst (pc := 6) C dX8_greaterSum_6 (by decide) ?_
  refine zs_istore (pc := 7) C dX8_greaterSum_7 (by decide) ?_
  dsimp only [zset, zclr, znone]
  have L9 : ∀ (nn : Nat) (x4 x5 x6 : Int), (0 ≤ x6 ∧ x6 ≤ a) → (x4 = msF (G.1 2038 (Γ.2.1 (G.2.2 903 w) 3)) b q x6.toNat) → (x5 = msS (G.1 2038 (Γ.2.1 (G.2.2 903 w) 3)) b q x6.toNat) → (0 ≤ x4 ∧ x4 ≤ 99 * x6 ∧ 0 ≤ x5 ∧ x5 ≤ 99 * x6) → (10 - x6).toNat < nn → Z p l e (zrm 1) s m args below meth c Γ 8 0 0 (MQ below (zQc Γ (zpi (fun x G' => G' = G ∧ (x = max (msF (G.1 2038 (Γ.2.1 (G.2.2 903 w) 3)) b q a.toNat) (msS (G.1 2038 (Γ.2.1 (G.2.2 903 w) 3)) b q a.toNat))))) args s 0 0 (zA Γ)) 9 [some (zr 9 w), some (zi a), some (zi b), some (zi q), some (zi x4), some (zi x5), some (zi x6), none] [] G := by
    intro nn
    induction nn with
    | zero => intro x4 x5 x6 h9_0 h9_1 h9_2 h9_3 hm; exact absurd hm (Nat.not_lt_zero _)
    | succ nn ih9 =>
      intro x4 x5 x6 h9_0 h9_1 h9_2 h9_3 hm9
      refine zs_iload (pc := 9) C dX8_greaterSum_9 rfl ?_
      refine zs_iload_n (pc := 11) C dX8_greaterSum_11 rfl ?_
      refine zs_icmp_ge (tgt := 65) (pc := 12) C dX8_greaterSum_12 (by decide) (fun h12 => ?_) (fun h12 => ?_)
      · skip
        have hx6 : x6 = a := by omega
        rw [hx6] at h9_1 h9_2
        refine zs_iload (pc := 65) C dX8_greaterSum_65 rfl ?_
        refine zs_iload (pc := 67) C dX8_greaterSum_67 rfl ?_
        refine zs_maxI (pc := 69) C dX8_greaterSum_69 s_X8_301 (by decide) (Nat.le_of_ble_eq_true rfl) ⟨Nat.zero_le _, Nat.zero_le _⟩ (fun z69 hz69 => ?_)
        exact zs_iret (pc := 72) C hr hlk dX8_greaterSum_72 ⟨rfl, by first | omega | (simp only [zuI_1, zuI_2, zuJ_1, zuJ_2, zuJ_3, zuP_1, zuP_2, zuP_3, zuC_1, zuC_2, reduceIte, Nat.reduceEqDiff, false_and, and_false, true_and, and_true, and_self, or_true, true_or, or_false, false_or]; omega)⟩
      · skip
        refine zs_aload_n (pc := 15) C dX8_greaterSum_15 rfl ?_
        refine zs_getd (r := 903) (pc := 16) C dX8_greaterSum_16 w_X8_25 f_9_3 (by decide) rfl (fun v16 e16 t16 => ?_)
        subst e16
        refine zs_getf (pc := 19) C dX8_greaterSum_19 w_X8_298 f_6_3 (by decide) ?_
        refine zs_iload_n (pc := 22) C dX8_greaterSum_22 rfl ?_
        refine zs_iconst (pc := 23) C dX8_greaterSum_23 (by decide) ?_
        refine zs_iload (pc := 24) C dX8_greaterSum_24 rfl ?_
        first | refine zs_imul (pc := 26) C dX8_greaterSum_26 (by omega) ?_ | refine zs_imulF (pc := 26) C dX8_greaterSum_26 (fun z26 hz261 hz262 => ?_)
        refine zs_ishrX (pc := 27) C dX8_greaterSum_27 (fun z27 ez27 hz271 hz272 => ?_)
        refine zs_iconst (pc := 28) C dX8_greaterSum_28 (by decide) ?_
        refine zs_iandX (pc := 29) C dX8_greaterSum_29 (fun z29 ez29 hz291 hz292 => ?_)
        have hd : z29 = mdg b x6 := by rw [ez29, ez27]; rfl
        have hd2 := mdg_in b x6
        refine zs_iald (r := 2038) (pc := 30) C dX8_greaterSum_30 a_38 (by decide) (by omega) rfl (r_2038 _) (fun v30 e30 l30 u30 => ?_)
        have hr6 := hR9 x6.toNat (by omega)
        rw [show ((x6.toNat : Nat) : Int) = x6 by omega] at hr6
        have hw6 := hw (mdg b x6).toNat (by omega)
        rw [hd] at e30
        rw [← e30] at hw6
        have s1 := msF_s (W := (G.1 2038 (Γ.2.1 (G.2.2 903 w) 3))) (row := b) (q := q) (k := x6) (by omega)
        have s2 := msS_s (W := (G.1 2038 (Γ.2.1 (G.2.2 903 w) 3))) (row := b) (q := q) (k := x6) (by omega)
        rw [← e30] at s1 s2
        refine zs_istore (pc := 31) C dX8_greaterSum_31 (by decide) ?_
        dsimp only [zset, zclr, znone]
        refine zs_iload_n (pc := 33) C dX8_greaterSum_33 rfl ?_
        refine zs_iload (pc := 34) C dX8_greaterSum_34 rfl ?_
        refine zs_ishrX (pc := 36) C dX8_greaterSum_36 (fun z36 ez36 hz361 hz362 => ?_)
        refine zs_iconst (pc := 37) C dX8_greaterSum_37 (by decide) ?_
        refine zs_iandX (pc := 38) C dX8_greaterSum_38 (fun z38 ez38 hz381 hz382 => ?_)
        have hbt : z38 = mbt q x6 := by rw [ez38, ez36]; rfl
        refine zs_if_ne (tgt := 52) (pc := 39) C dX8_greaterSum_39 (by decide) (fun h39 => ?_) (fun h39 => ?_)
        · skip
          rw [if_neg (by omega)] at s1 s2
          refine zs_iload (pc := 52) C dX8_greaterSum_52 rfl ?_
          refine zs_iload (pc := 54) C dX8_greaterSum_54 rfl ?_
          first | refine zs_iadd (pc := 56) C dX8_greaterSum_56 (by omega) ?_ | refine zs_iaddF (pc := 56) C dX8_greaterSum_56 (fun z56 hz561 hz562 => ?_)
          refine zs_istore (pc := 57) C dX8_greaterSum_57 (by decide) ?_
          dsimp only [zset, zclr, znone]
          first | refine zs_iinc (pc := 59) C dX8_greaterSum_59 rfl (by decide) (by omega) ?_ | refine zs_iincF (pc := 59) C dX8_greaterSum_59 rfl (by decide) (fun z59 hz591 hz592 => ?_)
          dsimp only [zset, zclr, znone]
          refine zs_goto (tgt := 9) (pc := 62) C dX8_greaterSum_62 (by decide) ?_
          exact zs_wk (ih9 _ _ _ (by first | omega | (simp only [zuI_1, zuI_2, zuJ_1, zuJ_2, zuJ_3, zuP_1, zuP_2, zuP_3, zuC_1, zuC_2, reduceIte, Nat.reduceEqDiff, false_and, and_false, true_and, and_true, and_self, or_true, true_or, or_false, false_or]; omega)) (by first | omega | (simp only [zuI_1, zuI_2, zuJ_1, zuJ_2, zuJ_3, zuP_1, zuP_2, zuP_3, zuC_1, zuC_2, reduceIte, Nat.reduceEqDiff, false_and, and_false, true_and, and_true, and_self, or_true, true_or, or_false, false_or]; omega)) (by first | omega | (simp only [zuI_1, zuI_2, zuJ_1, zuJ_2, zuJ_3, zuP_1, zuP_2, zuP_3, zuC_1, zuC_2, reduceIte, Nat.reduceEqDiff, false_and, and_false, true_and, and_true, and_self, or_true, true_or, or_false, false_or]; omega)) (by first | omega | (simp only [zuI_1, zuI_2, zuJ_1, zuJ_2, zuJ_3, zuP_1, zuP_2, zuP_3, zuC_1, zuC_2, reduceIte, Nat.reduceEqDiff, false_and, and_false, true_and, and_true, and_self, or_true, true_or, or_false, false_or]; omega)) (by first | omega | (simp only [zuI_1, zuI_2, zuJ_1, zuJ_2, zuJ_3, zuP_1, zuP_2, zuP_3, zuC_1, zuC_2, reduceIte, Nat.reduceEqDiff, false_and, and_false, true_and, and_true, and_self, or_true, true_or, or_false, false_or]; omega))) (zwk_s rfl (zwk_s rfl (zwk_s rfl (zwk_s rfl (zwk_s rfl (zwk_s rfl (zwk_s rfl (zwk_n zwk_0))))))))
        · skip
          rw [if_pos (by omega)] at s1 s2
          refine zs_iload (pc := 42) C dX8_greaterSum_42 rfl ?_
          refine zs_iload (pc := 44) C dX8_greaterSum_44 rfl ?_
          first | refine zs_iadd (pc := 46) C dX8_greaterSum_46 (by omega) ?_ | refine zs_iaddF (pc := 46) C dX8_greaterSum_46 (fun z46 hz461 hz462 => ?_)
          refine zs_istore (pc := 47) C dX8_greaterSum_47 (by decide) ?_
          dsimp only [zset, zclr, znone]
          refine zs_goto (tgt := 59) (pc := 49) C dX8_greaterSum_49 (by decide) ?_
          first | refine zs_iinc (pc := 59) C dX8_greaterSum_59 rfl (by decide) (by omega) ?_ | refine zs_iincF (pc := 59) C dX8_greaterSum_59 rfl (by decide) (fun z59 hz591 hz592 => ?_)
          dsimp only [zset, zclr, znone]
          refine zs_goto (tgt := 9) (pc := 62) C dX8_greaterSum_62 (by decide) ?_
          exact zs_wk (ih9 _ _ _ (by first | omega | (simp only [zuI_1, zuI_2, zuJ_1, zuJ_2, zuJ_3, zuP_1, zuP_2, zuP_3, zuC_1, zuC_2, reduceIte, Nat.reduceEqDiff, false_and, and_false, true_and, and_true, and_self, or_true, true_or, or_false, false_or]; omega)) (by first | omega | (simp only [zuI_1, zuI_2, zuJ_1, zuJ_2, zuJ_3, zuP_1, zuP_2, zuP_3, zuC_1, zuC_2, reduceIte, Nat.reduceEqDiff, false_and, and_false, true_and, and_true, and_self, or_true, true_or, or_false, false_or]; omega)) (by first | omega | (simp only [zuI_1, zuI_2, zuJ_1, zuJ_2, zuJ_3, zuP_1, zuP_2, zuP_3, zuC_1, zuC_2, reduceIte, Nat.reduceEqDiff, false_and, and_false, true_and, and_true, and_self, or_true, true_or, or_false, false_or]; omega)) (by first | omega | (simp only [zuI_1, zuI_2, zuJ_1, zuJ_2, zuJ_3, zuP_1, zuP_2, zuP_3, zuC_1, zuC_2, reduceIte, Nat.reduceEqDiff, false_and, and_false, true_and, and_true, and_self, or_true, true_or, or_false, false_or]; omega)) (by first | omega | (simp only [zuI_1, zuI_2, zuJ_1, zuJ_2, zuJ_3, zuP_1, zuP_2, zuP_3, zuC_1, zuC_2, reduceIte, Nat.reduceEqDiff, false_and, and_false, true_and, and_true, and_self, or_true, true_or, or_false, false_or]; omega))) (zwk_s rfl (zwk_s rfl (zwk_s rfl (zwk_s rfl (zwk_s rfl (zwk_s rfl (zwk_s rfl (zwk_n zwk_0))))))))
  exact zs_wk (L9 _ _ _ _ (by omega) (show (0 : Int) = _ from rfl) (show (0 : Int) = _ from rfl) (by omega) (Nat.lt_succ_self _)) (zwk_s rfl (zwk_s rfl (zwk_s rfl (zwk_s rfl (zwk_s rfl (zwk_s rfl (zwk_s rfl (zwk_n zwk_0))))))))

set_option maxHeartbeats 4000000 in
set_option maxRecDepth 100000 in
theorem c_X8_millsK {l : Launch} {Γ : zΓ} {G : zH} {w : Nat} {a b k : Int} (hX : zXs Γ) (hw : ∀ j : Nat, (j : Int) < (G.1 2037 (Γ.2.1 (G.2.2 903 w) 2) 0) → 0 ≤ (G.1 2038 (Γ.2.1 (G.2.2 903 w) 3)) j ∧ (G.1 2038 (Γ.2.1 (G.2.2 903 w) 3)) j ≤ 99) : zMet l Γ yX8_mills cX8_mills 8 (some .int) 2 [zr 9 w, zi a, zi b, zi k] G (zpi (fun x G' => G' = G ∧ ((mOK (G.1 2037 (Γ.2.1 (G.2.2 903 w) 2) 0) a b k → x = mV (G.1 2038 (Γ.2.1 (G.2.2 903 w) 3)) a b k) ∧ (¬ mOK (G.1 2037 (Γ.2.1 (G.2.2 903 w) 2) 0) a b k → x = -1)))) := by
  refine zMet_of RX8 hX (by decide) rfl (Nat.le_of_ble_eq_true rfl) ?_
  intro p e s m args below meth c C hr hlk
  show Z p l e (zrm 2) s m args below meth c Γ 8 0 0 (MQ below (zQc Γ (zpi (fun x G' => G' = G ∧ ((mOK (G.1 2037 (Γ.2.1 (G.2.2 903 w) 2) 0) a b k → x = mV (G.1 2038 (Γ.2.1 (G.2.2 903 w) 3)) a b k) ∧ (¬ mOK (G.1 2037 (Γ.2.1 (G.2.2 903 w) 2) 0) a b k → x = -1))))) args s 0 0 (zA Γ)) 0 [some (zr 9 w), some (zi a), some (zi b), some (zi k), none, none, none, none] [] G
  refine zs_loc 1 rfl (fun ha1 hb1 => ?_)
  refine zs_loc 2 rfl (fun ha2 hb2 => ?_)
  refine zs_loc 3 rfl (fun ha3 hb3 => ?_)
  refine zs_iload_n (pc := 0) C dX8_mills_0 rfl ?_
  refine zs_iconst (pc := 1) C dX8_mills_1 (by decide) ?_
  refine zs_icmp_lt (tgt := 29) (pc := 2) C dX8_mills_2 (by decide) (fun h2 => ?_) (fun h2 => ?_)
  · skip
    refine zs_iconst (pc := 29) C dX8_mills_29 (by decide) ?_
    exact zs_iret (pc := 30) C hr hlk dX8_mills_30 ⟨rfl, ⟨fun q => absurd q (by first | (rintro ⟨q, -⟩; omega) | (rintro ⟨-, q⟩; have q2 := hq23.2.mpr q; omega)), fun _ => rfl⟩⟩
  · skip
    refine zs_iload_n (pc := 5) C dX8_mills_5 rfl ?_
    refine zs_bipush (pc := 6) C dX8_mills_6 (by decide) (by decide) ?_
    refine zs_icmp_gt (tgt := 29) (pc := 8) C dX8_mills_8 (by decide) (fun h8 => ?_) (fun h8 => ?_)
    · skip
      refine zs_iconst (pc := 29) C dX8_mills_29 (by decide) ?_
      exact zs_iret (pc := 30) C hr hlk dX8_mills_30 ⟨rfl, ⟨fun q => absurd q (by first | (rintro ⟨q, -⟩; omega) | (rintro ⟨-, q⟩; have q2 := hq23.2.mpr q; omega)), fun _ => rfl⟩⟩
    · skip
      refine zs_iload_n (pc := 11) C dX8_mills_11 rfl ?_
      refine zs_if_lt (tgt := 29) (pc := 12) C dX8_mills_12 (by decide) (fun h12 => ?_) (fun h12 => ?_)
      · skip
        refine zs_iconst (pc := 29) C dX8_mills_29 (by decide) ?_
        exact zs_iret (pc := 30) C hr hlk dX8_mills_30 ⟨rfl, ⟨fun q => absurd q (by first | (rintro ⟨q, -⟩; omega) | (rintro ⟨-, q⟩; have q2 := hq23.2.mpr q; omega)), fun _ => rfl⟩⟩
      · skip
        refine zs_iload_n (pc := 15) C dX8_mills_15 rfl ?_
        refine zs_iconst (pc := 16) C dX8_mills_16 (by decide) ?_
        refine zs_icmp_gt (tgt := 29) (pc := 17) C dX8_mills_17 (by decide) (fun h17 => ?_) (fun h17 => ?_)
        · skip
          refine zs_iconst (pc := 29) C dX8_mills_29 (by decide) ?_
          exact zs_iret (pc := 30) C hr hlk dX8_mills_30 ⟨rfl, ⟨fun q => absurd q (by first | (rintro ⟨q, -⟩; omega) | (rintro ⟨-, q⟩; have q2 := hq23.2.mpr q; omega)), fun _ => rfl⟩⟩
        · skip
          refine zs_aload_n (pc := 20) C dX8_mills_20 rfl ?_
          refine zs_iload_n (pc := 21) C dX8_mills_21 rfl ?_
          refine zs_iload_n (pc := 22) C dX8_mills_22 rfl ?_
          refine zVip2 (pc := 23) C dX8_mills_23 v_X8_291 (c_X8_isRowK hX (by omega)) (by decide) (by decide) ⟨Nat.zero_le _, Nat.zero_le _⟩ (Nat.le_of_ble_eq_true rfl) (fun x23 l23 u23 hp23 => ?_)
          have hq23 := hp23
          refine zs_if_ne (tgt := 31) (pc := 26) C dX8_mills_26 (by decide) (fun h26 => ?_) (fun h26 => ?_)
          · skip
            have hrow := hq23.2.mp (by omega)
            have hb1 := bsh1_i (k := a) (by omega)
            refine zs_ldcw (n := 2147483647) (pc := 31) C dX8_mills_31 q_X8_294 (by decide) (by decide) ?_
            refine zs_istore (pc := 34) C dX8_mills_34 (by decide) ?_
            dsimp only [zset, zclr, znone]
            refine zs_iconst (pc := 36) C dX8_mills_36 (by decide) ?_
            refine zs_istore (pc := 37) C dX8_mills_37 (by decide) ?_
            dsimp only [zset, zclr, znone]
            refine zs_iconst (pc := 39) C dX8_mills_39 (by decide) ?_
            refine zs_istore (pc := 40) C dX8_mills_40 (by decide) ?_
            dsimp only [zset, zclr, znone]
            have L42 : ∀ (nn : Nat) (x4 x5 x6 : Int), (0 ≤ x6 ∧ x6 ≤ bshl 1 a) → (x4 = (mmn (mfn (G.1 2038 (Γ.2.1 (G.2.2 903 w) 3)) b a) x6.toNat).1) → (x5 = (mmn (mfn (G.1 2038 (Γ.2.1 (G.2.2 903 w) 3)) b a) x6.toNat).2) → (bshl 1 a - x6).toNat < nn → Z p l e (zrm 2) s m args below meth c Γ 8 0 0 (MQ below (zQc Γ (zpi (fun x G' => G' = G ∧ ((mOK (G.1 2037 (Γ.2.1 (G.2.2 903 w) 2) 0) a b k → x = mV (G.1 2038 (Γ.2.1 (G.2.2 903 w) 3)) a b k) ∧ (¬ mOK (G.1 2037 (Γ.2.1 (G.2.2 903 w) 2) 0) a b k → x = -1))))) args s 0 0 (zA Γ)) 42 [some (zr 9 w), some (zi a), some (zi b), some (zi k), some (zi x4), some (zi x5), some (zi x6), none] [] G := by
              intro nn
              induction nn with
              | zero => intro x4 x5 x6 h42_0 h42_1 h42_2 hm; exact absurd hm (Nat.not_lt_zero _)
              | succ nn ih42 =>
                intro x4 x5 x6 h42_0 h42_1 h42_2 hm42
                refine zs_iload (pc := 42) C dX8_mills_42 rfl ?_
                refine zs_iconst (pc := 44) C dX8_mills_44 (by decide) ?_
                refine zs_iload_n (pc := 45) C dX8_mills_45 rfl ?_
                refine zs_ishlX (pc := 46) C dX8_mills_46 (fun z46 ez46 hz461 hz462 => ?_)
                have ez : z46 = bshl 1 a := ez46
                refine zs_icmp_ge (tgt := 81) (pc := 47) C dX8_mills_47 (by decide) (fun h47 => ?_) (fun h47 => ?_)
                · skip
                  have hx6 : x6 = bshl 1 a := by omega
                  rw [hx6] at h42_1 h42_2
                  have hok : mOK (G.1 2037 (Γ.2.1 (G.2.2 903 w) 2) 0) a b k := ⟨by omega, hrow⟩
                  refine zs_iload_n (pc := 81) C dX8_mills_81 rfl ?_
                  refine zs_if_ne (tgt := 90) (pc := 82) C dX8_mills_82 (by decide) (fun h82 => ?_) (fun h82 => ?_)
                  · skip
                    refine zs_iload (pc := 90) C dX8_mills_90 rfl ?_
                    exact zs_iret (pc := 92) C hr hlk dX8_mills_92 ⟨rfl, ⟨fun _ => (by unfold mV; first | (rw [if_pos (by omega)]; exact h42_1) | (rw [if_neg (by omega)]; exact h42_2)), fun q => absurd hok q⟩⟩
                  · skip
                    refine zs_iload (pc := 85) C dX8_mills_85 rfl ?_
                    refine zs_goto (tgt := 92) (pc := 87) C dX8_mills_87 (by decide) ?_
                    exact zs_iret (pc := 92) C hr hlk dX8_mills_92 ⟨rfl, ⟨fun _ => (by unfold mV; first | (rw [if_pos (by omega)]; exact h42_1) | (rw [if_neg (by omega)]; exact h42_2)), fun q => absurd hok q⟩⟩
                · skip
                  refine zs_aload_n (pc := 50) C dX8_mills_50 rfl ?_
                  refine zs_iload_n (pc := 51) C dX8_mills_51 rfl ?_
                  refine zs_iload_n (pc := 52) C dX8_mills_52 rfl ?_
                  refine zs_iload (pc := 53) C dX8_mills_53 rfl ?_
                  refine zVip3 (pc := 55) C dX8_mills_55 v_X8_295 (c_X8_greaterSumK hX (by omega) hw hrow) (by decide) (by decide) ⟨Nat.zero_le _, Nat.zero_le _⟩ (Nat.le_of_ble_eq_true rfl) (fun x55 l55 u55 hp55 => ?_)
                  have hq55 := hp55
                  have m1 := mmn_s (f := mfn (G.1 2038 (Γ.2.1 (G.2.2 903 w) 3)) b a) (k := x6) (by omega)
                  have m2 := mfn_at (W := (G.1 2038 (Γ.2.1 (G.2.2 903 w) 3))) (row := b) (n := a) (k := x6) (by omega)
                  rw [m2, ← hq55] at m1
                  refine zs_istore (pc := 58) C dX8_mills_58 (by decide) ?_
                  dsimp only [zset, zclr, znone]
                  refine zs_iload (pc := 60) C dX8_mills_60 rfl ?_
                  refine zs_iload (pc := 62) C dX8_mills_62 rfl ?_
                  refine zs_icmp_ge (tgt := 75) (pc := 64) C dX8_mills_64 (by decide) (fun h64 => ?_) (fun h64 => ?_)
                  · skip
                    rw [if_neg (by omega)] at m1
                    first | refine zs_iinc (pc := 75) C dX8_mills_75 rfl (by decide) (by omega) ?_ | refine zs_iincF (pc := 75) C dX8_mills_75 rfl (by decide) (fun z75 hz751 hz752 => ?_)
                    dsimp only [zset, zclr, znone]
                    refine zs_goto (tgt := 42) (pc := 78) C dX8_mills_78 (by decide) ?_
                    exact zs_wk (ih42 _ _ _ (by omega) (by rw [m1] <;> first | rfl | exact h42_1) (by rw [m1] <;> first | rfl | exact h42_2) (by first | omega | (simp only [zuI_1, zuI_2, zuJ_1, zuJ_2, zuJ_3, zuP_1, zuP_2, zuP_3, zuC_1, zuC_2, reduceIte, Nat.reduceEqDiff, false_and, and_false, true_and, and_true, and_self, or_true, true_or, or_false, false_or]; omega))) (zwk_s rfl (zwk_s rfl (zwk_s rfl (zwk_s rfl (zwk_s rfl (zwk_s rfl (zwk_s rfl (zwk_n zwk_0))))))))
                  · skip
                    rw [if_pos (by omega)] at m1
                    refine zs_iload (pc := 67) C dX8_mills_67 rfl ?_
                    refine zs_istore (pc := 69) C dX8_mills_69 (by decide) ?_
                    dsimp only [zset, zclr, znone]
                    refine zs_iload (pc := 71) C dX8_mills_71 rfl ?_
                    refine zs_istore (pc := 73) C dX8_mills_73 (by decide) ?_
                    dsimp only [zset, zclr, znone]
                    first | refine zs_iinc (pc := 75) C dX8_mills_75 rfl (by decide) (by omega) ?_ | refine zs_iincF (pc := 75) C dX8_mills_75 rfl (by decide) (fun z75 hz751 hz752 => ?_)
                    dsimp only [zset, zclr, znone]
                    refine zs_goto (tgt := 42) (pc := 78) C dX8_mills_78 (by decide) ?_
                    exact zs_wk (ih42 _ _ _ (by omega) (by rw [m1] <;> first | rfl | exact h42_1) (by rw [m1] <;> first | rfl | exact h42_2) (by first | omega | (simp only [zuI_1, zuI_2, zuJ_1, zuJ_2, zuJ_3, zuP_1, zuP_2, zuP_3, zuC_1, zuC_2, reduceIte, Nat.reduceEqDiff, false_and, and_false, true_and, and_true, and_self, or_true, true_or, or_false, false_or]; omega))) (zwk_s rfl (zwk_s rfl (zwk_s rfl (zwk_s rfl (zwk_s rfl (zwk_s rfl (zwk_s rfl (zwk_n zwk_0))))))))
            exact zs_wk (L42 _ _ _ _ (by omega) rfl rfl (Nat.lt_succ_self _)) (zwk_s rfl (zwk_s rfl (zwk_s rfl (zwk_s rfl (zwk_s rfl (zwk_s rfl (zwk_s rfl (zwk_n zwk_0))))))))
          · skip
            refine zs_iconst (pc := 29) C dX8_mills_29 (by decide) ?_
            exact zs_iret (pc := 30) C hr hlk dX8_mills_30 ⟨rfl, ⟨fun q => absurd q (by first | (rintro ⟨q, -⟩; omega) | (rintro ⟨-, q⟩; have q2 := hq23.2.mpr q; omega)), fun _ => rfl⟩⟩

set_option maxHeartbeats 4000000 in
set_option maxRecDepth 100000 in
theorem c_X9_isSinK {l : Launch} {Γ : zΓ} {G : zH} {w : Nat} {p0 : Int} (hX : zXs Γ)  : zMet l Γ yX9_isSin cX9_isSin 2 (some .boolean) 0 [zr 10 w, zi p0] G (zpi (fun x G' => G' = G ∧ ((x = 0 ∨ x = 1) ∧ (x = 1 ↔ 0 ≤ p0 ∧ p0 < G.1 1012 w 0)))) := by
  refine zMet_of RX9 hX (by decide) rfl (Nat.le_of_ble_eq_true rfl) ?_
  intro p e s m args below meth c C hr hlk
  show Z p l e (zrm 0) s m args below meth c Γ 2 0 0 (MQ below (zQc Γ (zpi (fun x G' => G' = G ∧ ((x = 0 ∨ x = 1) ∧ (x = 1 ↔ 0 ≤ p0 ∧ p0 < G.1 1012 w 0))))) args s 0 0 (zA Γ)) 0 [some (zr 10 w), some (zi p0)] [] G
  refine zs_loc 1 rfl (fun ha1 hb1 => ?_)
  refine zs_iload_n (pc := 0) C dX9_isSin_0 rfl ?_
  refine zs_if_lt (tgt := 16) (pc := 1) C dX9_isSin_1 (by decide) (fun h1 => ?_) (fun h1 => ?_)
  · skip
    refine zs_iconst (pc := 16) C dX9_isSin_16 (by decide) ?_
    exact zs_zret (pc := 17) C hr hlk dX9_isSin_17 (by omega) ⟨rfl, (by refine ⟨by omega, ?_⟩; constructor <;> intro hq <;> omega)⟩
  · skip
    refine zs_iload_n (pc := 4) C dX9_isSin_4 rfl ?_
    refine zs_aload_n (pc := 5) C dX9_isSin_5 rfl ?_
    refine zs_geti (r := 1012) (pc := 6) C dX9_isSin_6 w_X9_258 f_10_12 rfl (r_1012 0) (fun v6 e6 l6 u6 => ?_)
    refine zs_icmp_ge (tgt := 16) (pc := 9) C dX9_isSin_9 (by decide) (fun h9 => ?_) (fun h9 => ?_)
    · skip
      refine zs_iconst (pc := 16) C dX9_isSin_16 (by decide) ?_
      exact zs_zret (pc := 17) C hr hlk dX9_isSin_17 (by omega) ⟨rfl, (by refine ⟨by omega, ?_⟩; constructor <;> intro hq <;> omega)⟩
    · skip
      refine zs_iconst (pc := 12) C dX9_isSin_12 (by decide) ?_
      refine zs_goto (tgt := 17) (pc := 13) C dX9_isSin_13 (by decide) ?_
      exact zs_zret (pc := 17) C hr hlk dX9_isSin_17 (by omega) ⟨rfl, (by refine ⟨by omega, ?_⟩; constructor <;> intro hq <;> omega)⟩

set_option maxHeartbeats 4000000 in
set_option maxRecDepth 100000 in
theorem c_X9_isOfK {l : Launch} {Γ : zΓ} {G : zH} {a b : Int} (hX : zXs Γ)  : zMet l Γ yX9_isOf cX9_isOf 2 (some .boolean) 0 [zi a, zi b] G (zpi (fun x G' => G' = G ∧ ((x = 0 ∨ x = 1) ∧ (x = 1 ↔ mbt a b = 1)))) := by
  refine zMet_of RX9 hX (by decide) rfl (Nat.le_of_ble_eq_true rfl) ?_
  intro p e s m args below meth c C hr hlk
  show Z p l e (zrm 0) s m args below meth c Γ 2 0 0 (MQ below (zQc Γ (zpi (fun x G' => G' = G ∧ ((x = 0 ∨ x = 1) ∧ (x = 1 ↔ mbt a b = 1))))) args s 0 0 (zA Γ)) 0 [some (zi a), some (zi b)] [] G
  refine zs_loc 0 rfl (fun ha0 hb0 => ?_)
  refine zs_loc 1 rfl (fun ha1 hb1 => ?_)
  refine zs_iload_n (pc := 0) C dX9_isOf_0 rfl ?_
  refine zs_iload_n (pc := 1) C dX9_isOf_1 rfl ?_
  refine zs_ishrX (pc := 2) C dX9_isOf_2 (fun z2 ez2 hz21 hz22 => ?_)
  refine zs_iconst (pc := 3) C dX9_isOf_3 (by decide) ?_
  refine zs_iandX (pc := 4) C dX9_isOf_4 (fun z4 ez4 hz41 hz42 => ?_)
  have hbt : z4 = mbt a b := by rw [ez4, ez2]; rfl
  refine zs_iconst (pc := 5) C dX9_isOf_5 (by decide) ?_
  refine zs_icmp_ne (tgt := 13) (pc := 6) C dX9_isOf_6 (by decide) (fun h6 => ?_) (fun h6 => ?_)
  · skip
    refine zs_iconst (pc := 13) C dX9_isOf_13 (by decide) ?_
    exact zs_zret (pc := 14) C hr hlk dX9_isOf_14 (by omega) ⟨rfl, (by refine ⟨by omega, ?_⟩; constructor <;> intro hq <;> omega)⟩
  · skip
    refine zs_iconst (pc := 9) C dX9_isOf_9 (by decide) ?_
    refine zs_goto (tgt := 14) (pc := 10) C dX9_isOf_10 (by decide) ?_
    exact zs_zret (pc := 14) C hr hlk dX9_isOf_14 (by omega) ⟨rfl, (by refine ⟨by omega, ?_⟩; constructor <;> intro hq <;> omega)⟩

set_option maxHeartbeats 4000000 in
set_option maxRecDepth 100000 in
theorem c_X9_millsK {l : Launch} {Γ : zΓ} {G : zH} {w : Nat} {a b k : Int} (hX : zXs Γ)  : zMet l Γ yX9_mills cX9_mills 10 (some .int) 1 [zr 10 w, zi a, zi b, zi k] G (zpi (fun x G' => zsm [1002] G G' ∧ ((mOK (G.1 1012 w 0) a b k → x = mV (G.1 2062 (Γ.2.1 w 25)) a b k) ∧ (¬ mOK (G.1 1012 w 0) a b k → x = -1)))) := by
  refine zMet_of RX9 hX (by decide) rfl (Nat.le_of_ble_eq_true rfl) ?_
  intro p e s m args below meth c C hr hlk
  show Z p l e (zrm 1) s m args below meth c Γ 10 0 0 (MQ below (zQc Γ (zpi (fun x G' => zsm [1002] G G' ∧ ((mOK (G.1 1012 w 0) a b k → x = mV (G.1 2062 (Γ.2.1 w 25)) a b k) ∧ (¬ mOK (G.1 1012 w 0) a b k → x = -1))))) args s 0 0 (zA Γ)) 0 [some (zr 10 w), some (zi a), some (zi b), some (zi k), none, none, none, none, none, none] [] G
  refine zs_loc 1 rfl (fun ha1 hb1 => ?_)
  refine zs_loc 2 rfl (fun ha2 hb2 => ?_)
  refine zs_loc 3 rfl (fun ha3 hb3 => ?_)
  refine zs_good (fun hGd => ?_)
  have hT : ∀ i, 0 ≤ (G.1 2062 (Γ.2.1 w 25)) i ∧ (G.1 2062 (Γ.2.1 w 25)) i ≤ 99 := fun i => by have := hGd.1 2062 (Γ.2.1 w 25) i; rw [r_2062] at this; exact this
  refine zs_aload_n (pc := 0) C dX9_mills_0 rfl ?_
  refine zs_iconst (pc := 1) C dX9_mills_1 (by decide) ?_
  refine zs_puti (r := 1002) (pc := 2) C dX9_mills_2 w_X9_178 f_10_2 rfl (r_1002 0) (by omega) ?_
  refine zs_iload_n (pc := 5) C dX9_mills_5 rfl ?_
  refine zs_iconst (pc := 6) C dX9_mills_6 (by decide) ?_
  refine zs_bipush (pc := 7) C dX9_mills_7 (by decide) (by decide) ?_
  refine zSip3 (pc := 9) C dX9_mills_9 s_X9_223 (c_X9_isIn hX ) (by decide) ⟨Nat.zero_le _, Nat.zero_le _⟩ (Nat.le_of_ble_eq_true rfl) (fun x9 l9 u9 hp9 => ?_)
  have hq9 := hp9
  try simp only [zuI_1, zuI_2, zuJ_1, zuJ_2, zuJ_3, zuP_1, zuP_2, zuP_3, zuC_1, zuC_2, reduceIte, Nat.reduceEqDiff, false_and, and_false, true_and, and_true, and_self, or_true, true_or, or_false, false_or] at hq9
  refine zs_if_eq (tgt := 24) (pc := 12) C dX9_mills_12 (by decide) (fun h12 => ?_) (fun h12 => ?_)
  · skip
    refine zs_iconst (pc := 24) C dX9_mills_24 (by decide) ?_
    exact zs_iret (pc := 25) C hr hlk dX9_mills_25 ⟨by repeat (first | exact zsm_rf | assumption | refine zsm_C (by decide) ?_ | refine zsm_I (by decide) ?_ | refine zsm_J ?_ | refine zsm_c (by assumption) (by decide) ?_), ⟨fun q => absurd q (by rintro ⟨q, -⟩; omega), fun _ => rfl⟩⟩
  · skip
    refine zs_iload_n (pc := 15) C dX9_mills_15 rfl ?_
    refine zs_iconst (pc := 16) C dX9_mills_16 (by decide) ?_
    refine zs_iconst (pc := 17) C dX9_mills_17 (by decide) ?_
    refine zSip3 (pc := 18) C dX9_mills_18 s_X9_223 (c_X9_isIn hX ) (by decide) ⟨Nat.zero_le _, Nat.zero_le _⟩ (Nat.le_of_ble_eq_true rfl) (fun x18 l18 u18 hp18 => ?_)
    have hq18 := hp18
    try simp only [zuI_1, zuI_2, zuJ_1, zuJ_2, zuJ_3, zuP_1, zuP_2, zuP_3, zuC_1, zuC_2, reduceIte, Nat.reduceEqDiff, false_and, and_false, true_and, and_true, and_self, or_true, true_or, or_false, false_or] at hq18
    refine zs_if_ne (tgt := 26) (pc := 21) C dX9_mills_21 (by decide) (fun h21 => ?_) (fun h21 => ?_)
    · skip
      refine zs_iconst (pc := 26) C dX9_mills_26 (by decide) ?_
      refine zs_istore (pc := 27) C dX9_mills_27 (by decide) ?_
      dsimp only [zset, zclr, znone]
      refine zs_iconst (pc := 29) C dX9_mills_29 (by decide) ?_
      refine zs_istore (pc := 30) C dX9_mills_30 (by decide) ?_
      dsimp only [zset, zclr, znone]
      have L32 : ∀ (nn : Nat) (x4 x5 : Int), (0 ≤ x5 ∧ x5 ≤ a) → (x4 = msA (G.1 2062 (Γ.2.1 w 25)) b x5.toNat) → (0 ≤ x4 ∧ x4 ≤ 99 * x5) → (∀ j : Nat, (j : Int) < x5 → mdg b j < G.1 1012 w 0) → (a - x5).toNat < nn → Z p l e (zrm 1) s m args below meth c Γ 10 0 0 (MQ below (zQc Γ (zpi (fun x G' => zsm [1002] G G' ∧ ((mOK (G.1 1012 w 0) a b k → x = mV (G.1 2062 (Γ.2.1 w 25)) a b k) ∧ (¬ mOK (G.1 1012 w 0) a b k → x = -1))))) args s 0 0 (zA Γ)) 32 [some (zr 10 w), some (zi a), some (zi b), some (zi k), some (zi x4), some (zi x5), none, none, none, none] [] (zuI G 1002 w 0 0) := by
        intro nn
        induction nn with
        | zero => intro x4 x5 h32_0 h32_1 h32_2 h32_3 hm; exact absurd hm (Nat.not_lt_zero _)
        | succ nn ih32 =>
          intro x4 x5 h32_0 h32_1 h32_2 h32_3 hm32
          refine zs_iload (pc := 32) C dX9_mills_32 rfl ?_
          refine zs_iload_n (pc := 34) C dX9_mills_34 rfl ?_
          refine zs_icmp_ge (tgt := 79) (pc := 35) C dX9_mills_35 (by decide) (fun h35 => ?_) (fun h35 => ?_)
          · skip
            refine zs_iconst (pc := 79) C dX9_mills_79 (by decide) ?_
            refine zs_istore (pc := 80) C dX9_mills_80 (by decide) ?_
            dsimp only [zset, zclr, znone]
            have hx5 : x5 = a := by omega
            rw [hx5] at h32_1 h32_3
            have hb1 := bsh1_i (k := a) (by omega)
            have hok : mOK (G.1 1012 w 0) a b k := ⟨by omega, h32_3⟩
            refine zs_iconst (pc := 82) C dX9_mills_82 (by decide) ?_
            refine zs_istore (pc := 83) C dX9_mills_83 (by decide) ?_
            dsimp only [zset, zclr, znone]
            refine zs_iconst (pc := 85) C dX9_mills_85 (by decide) ?_
            refine zs_istore (pc := 86) C dX9_mills_86 (by decide) ?_
            dsimp only [zset, zclr, znone]
            have L88 : ∀ (nn : Nat) (x5 x6 x7 : Int), (0 ≤ x7 ∧ x7 ≤ bshl 1 a) → (x7 = 0 → x5 = -1) → (0 < x7 → x5 = (mmn (mfn (G.1 2062 (Γ.2.1 w 25)) b a) x7.toNat).2 ∧ x6 = (mmn (mfn (G.1 2062 (Γ.2.1 w 25)) b a) x7.toNat).1 ∧ 0 ≤ x5) → (bshl 1 a - x7).toNat < nn → Z p l e (zrm 1) s m args below meth c Γ 10 0 0 (MQ below (zQc Γ (zpi (fun x G' => zsm [1002] G G' ∧ ((mOK (G.1 1012 w 0) a b k → x = mV (G.1 2062 (Γ.2.1 w 25)) a b k) ∧ (¬ mOK (G.1 1012 w 0) a b k → x = -1))))) args s 0 0 (zA Γ)) 88 [some (zr 10 w), some (zi a), some (zi b), some (zi k), some (zi x4), some (zi x5), some (zi x6), some (zi x7), none, none] [] (zuI G 1002 w 0 0) := by
              intro nn
              induction nn with
              | zero => intro x5 x6 x7 h88_0 h88_1 h88_2 hm; exact absurd hm (Nat.not_lt_zero _)
              | succ nn ih88 =>
                intro x5 x6 x7 h88_0 h88_1 h88_2 hm88
                refine zs_iload (pc := 88) C dX9_mills_88 rfl ?_
                refine zs_iconst (pc := 90) C dX9_mills_90 (by decide) ?_
                refine zs_iload_n (pc := 91) C dX9_mills_91 rfl ?_
                refine zs_ishlX (pc := 92) C dX9_mills_92 (fun z92 ez92 hz921 hz922 => ?_)
                have ez : z92 = bshl 1 a := ez92
                refine zs_icmp_ge (tgt := 197) (pc := 93) C dX9_mills_93 (by decide) (fun h93 => ?_) (fun h93 => ?_)
                · skip
                  refine zs_iload_n (pc := 197) C dX9_mills_197 rfl ?_
                  refine zs_if_ne (tgt := 206) (pc := 198) C dX9_mills_198 (by decide) (fun h198 => ?_) (fun h198 => ?_)
                  · skip
                    refine zs_iload (pc := 206) C dX9_mills_206 rfl ?_
                    exact zs_iret (pc := 208) C hr hlk dX9_mills_208 ⟨by repeat (first | exact zsm_rf | assumption | refine zsm_C (by decide) ?_ | refine zsm_I (by decide) ?_ | refine zsm_J ?_ | refine zsm_c (by assumption) (by decide) ?_), ⟨fun _ => (by have q8 := h88_2 (by omega); have hx7 : x7 = bshl 1 a := (by omega); rw [hx7] at q8; unfold mV; first | (rw [if_pos (by omega)]; exact q8.2.1) | (rw [if_neg (by omega)]; exact q8.1)), fun q => absurd hok q⟩⟩
                  · skip
                    refine zs_iload (pc := 201) C dX9_mills_201 rfl ?_
                    refine zs_goto (tgt := 208) (pc := 203) C dX9_mills_203 (by decide) ?_
                    exact zs_iret (pc := 208) C hr hlk dX9_mills_208 ⟨by repeat (first | exact zsm_rf | assumption | refine zsm_C (by decide) ?_ | refine zsm_I (by decide) ?_ | refine zsm_J ?_ | refine zsm_c (by assumption) (by decide) ?_), ⟨fun _ => (by have q8 := h88_2 (by omega); have hx7 : x7 = bshl 1 a := (by omega); rw [hx7] at q8; unfold mV; first | (rw [if_pos (by omega)]; exact q8.2.1) | (rw [if_neg (by omega)]; exact q8.1)), fun q => absurd hok q⟩⟩
                · skip
                  refine zs_iconst (pc := 96) C dX9_mills_96 (by decide) ?_
                  refine zs_istore (pc := 97) C dX9_mills_97 (by decide) ?_
                  dsimp only [zset, zclr, znone]
                  refine zs_iconst (pc := 99) C dX9_mills_99 (by decide) ?_
                  refine zs_istore (pc := 100) C dX9_mills_100 (by decide) ?_
                  dsimp only [zset, zclr, znone]
                  have L102 : ∀ (nn : Nat) (x8 x9 : Int), (0 ≤ x9 ∧ x9 ≤ a) → (x8 = msS (G.1 2062 (Γ.2.1 w 25)) b x7 x9.toNat) → (0 ≤ x8 ∧ x8 ≤ 99 * x9) → (a - x9).toNat < nn → Z p l e (zrm 1) s m args below meth c Γ 10 0 0 (MQ below (zQc Γ (zpi (fun x G' => zsm [1002] G G' ∧ ((mOK (G.1 1012 w 0) a b k → x = mV (G.1 2062 (Γ.2.1 w 25)) a b k) ∧ (¬ mOK (G.1 1012 w 0) a b k → x = -1))))) args s 0 0 (zA Γ)) 102 [some (zr 10 w), some (zi a), some (zi b), some (zi k), some (zi x4), some (zi x5), some (zi x6), some (zi x7), some (zi x8), some (zi x9)] [] (zuI G 1002 w 0 0) := by
                    intro nn
                    induction nn with
                    | zero => intro x8 x9 h102_0 h102_1 h102_2 hm; exact absurd hm (Nat.not_lt_zero _)
                    | succ nn ih102 =>
                      intro x8 x9 h102_0 h102_1 h102_2 hm102
                      refine zs_iload (pc := 102) C dX9_mills_102 rfl ?_
                      refine zs_iload_n (pc := 104) C dX9_mills_104 rfl ?_
                      refine zs_icmp_ge (tgt := 146) (pc := 105) C dX9_mills_105 (by decide) (fun h105 => ?_) (fun h105 => ?_)
                      · skip
                        have hx9 : x9 = a := by omega
                        rw [hx9] at h102_1
                        have hAF := msAFS (G.1 2062 (Γ.2.1 w 25)) b x7 a.toNat
                        have m1 := mmn_s (f := mfn (G.1 2062 (Γ.2.1 w 25)) b a) (k := x7) (by omega)
                        have m2 := mfn_at (W := (G.1 2062 (Γ.2.1 w 25))) (row := b) (n := a) (k := x7) (by omega)
                        rw [m2] at m1
                        have hin := msFS_in (W := (G.1 2062 (Γ.2.1 w 25))) (row := b) (q := x7) a.toNat (fun j _ => hT _)
                        refine zs_iload (pc := 146) C dX9_mills_146 rfl ?_
                        refine zs_iload (pc := 148) C dX9_mills_148 rfl ?_
                        refine zs_iload (pc := 150) C dX9_mills_150 rfl ?_
                        first | refine zs_isub (pc := 152) C dX9_mills_152 (by omega) ?_ | refine zs_isubF (pc := 152) C dX9_mills_152 (fun z152 hz1521 hz1522 => ?_)
                        have J166 : ∀ (y1 : Int), (y1 = max (msF (G.1 2062 (Γ.2.1 w 25)) b x7 a.toNat) (msS (G.1 2062 (Γ.2.1 w 25)) b x7 a.toNat)) → Z p l e (zrm 1) s m args below meth c Γ 10 0 0 (MQ below (zQc Γ (zpi (fun x G' => zsm [1002] G G' ∧ ((mOK (G.1 1012 w 0) a b k → x = mV (G.1 2062 (Γ.2.1 w 25)) a b k) ∧ (¬ mOK (G.1 1012 w 0) a b k → x = -1))))) args s 0 0 (zA Γ)) 166 [some (zr 10 w), some (zi a), some (zi b), some (zi k), some (zi x4), some (zi x5), some (zi x6), some (zi x7), some (zi x8), none] [zi y1] (zuI G 1002 w 0 0) := by
                          intro y1 h166_0
                          refine zs_istore (pc := 166) C dX9_mills_166 (by decide) ?_
                          dsimp only [zset, zclr, znone]
                          refine zs_iload (pc := 168) C dX9_mills_168 rfl ?_
                          have J191 : ∀ (y5 y6 : Int), (y5 = (mmn (mfn (G.1 2062 (Γ.2.1 w 25)) b a) (x7 + 1).toNat).2 ∧ y6 = (mmn (mfn (G.1 2062 (Γ.2.1 w 25)) b a) (x7 + 1).toNat).1 ∧ 0 ≤ y5) → Z p l e (zrm 1) s m args below meth c Γ 10 0 0 (MQ below (zQc Γ (zpi (fun x G' => zsm [1002] G G' ∧ ((mOK (G.1 1012 w 0) a b k → x = mV (G.1 2062 (Γ.2.1 w 25)) a b k) ∧ (¬ mOK (G.1 1012 w 0) a b k → x = -1))))) args s 0 0 (zA Γ)) 191 [some (zr 10 w), some (zi a), some (zi b), some (zi k), some (zi x4), some (zi y5), some (zi y6), some (zi x7), none, none] [] (zuI G 1002 w 0 0) := by
                            intro y5 y6 h191_0
                            first | refine zs_iinc (pc := 191) C dX9_mills_191 rfl (by decide) (by omega) ?_ | refine zs_iincF (pc := 191) C dX9_mills_191 rfl (by decide) (fun z191 hz1911 hz1912 => ?_)
                            dsimp only [zset, zclr, znone]
                            refine zs_goto (tgt := 88) (pc := 194) C dX9_mills_194 (by decide) ?_
                            exact zs_wk (ih88 _ _ _ (by omega) (fun q => by omega) (fun _ => h191_0) (by first | omega | (simp only [zuI_1, zuI_2, zuJ_1, zuJ_2, zuJ_3, zuP_1, zuP_2, zuP_3, zuC_1, zuC_2, reduceIte, Nat.reduceEqDiff, false_and, and_false, true_and, and_true, and_self, or_true, true_or, or_false, false_or]; omega))) (zwk_s rfl (zwk_s rfl (zwk_s rfl (zwk_s rfl (zwk_s rfl (zwk_s rfl (zwk_s rfl (zwk_s rfl (zwk_n (zwk_n zwk_0))))))))))
                          refine zs_if_lt (tgt := 183) (pc := 170) C dX9_mills_170 (by decide) (fun h170 => ?_) (fun h170 => ?_)
                          · skip
                            refine zs_iload (pc := 183) C dX9_mills_183 rfl ?_
                            refine zs_istore (pc := 185) C dX9_mills_185 (by decide) ?_
                            dsimp only [zset, zclr, znone]
                            refine zs_iload (pc := 187) C dX9_mills_187 rfl ?_
                            refine zs_istore (pc := 189) C dX9_mills_189 (by decide) ?_
                            dsimp only [zset, zclr, znone]
                            exact zs_wk (J191 _ _ (by rw [m1]; by_cases q7 : x7 = 0; (have hx5 := h88_1 q7; have q8 : (mmn (mfn (G.1 2062 (Γ.2.1 w 25)) b a) x7.toNat).1 = 2147483647 := (by rw [q7]; rfl); first | (exfalso; omega) | (rw [if_pos (by omega)]; exact ⟨rfl, h166_0, by omega⟩)); (have q8 := h88_2 (by omega); first | (rw [if_pos (by omega)]; exact ⟨rfl, h166_0, by omega⟩) | (rw [if_neg (by omega)]; exact ⟨q8.1, q8.2.1, q8.2.2⟩)))) (zwk_s rfl (zwk_s rfl (zwk_s rfl (zwk_s rfl (zwk_s rfl (zwk_s rfl (zwk_s rfl (zwk_s rfl (zwk_n (zwk_n zwk_0))))))))))
                          · skip
                            refine zs_iload (pc := 173) C dX9_mills_173 rfl ?_
                            refine zs_iload (pc := 175) C dX9_mills_175 rfl ?_
                            refine zs_icmp_lt (tgt := 183) (pc := 177) C dX9_mills_177 (by decide) (fun h177 => ?_) (fun h177 => ?_)
                            · skip
                              refine zs_iload (pc := 183) C dX9_mills_183 rfl ?_
                              refine zs_istore (pc := 185) C dX9_mills_185 (by decide) ?_
                              dsimp only [zset, zclr, znone]
                              refine zs_iload (pc := 187) C dX9_mills_187 rfl ?_
                              refine zs_istore (pc := 189) C dX9_mills_189 (by decide) ?_
                              dsimp only [zset, zclr, znone]
                              exact zs_wk (J191 _ _ (by rw [m1]; by_cases q7 : x7 = 0; (have hx5 := h88_1 q7; have q8 : (mmn (mfn (G.1 2062 (Γ.2.1 w 25)) b a) x7.toNat).1 = 2147483647 := (by rw [q7]; rfl); first | (exfalso; omega) | (rw [if_pos (by omega)]; exact ⟨rfl, h166_0, by omega⟩)); (have q8 := h88_2 (by omega); first | (rw [if_pos (by omega)]; exact ⟨rfl, h166_0, by omega⟩) | (rw [if_neg (by omega)]; exact ⟨q8.1, q8.2.1, q8.2.2⟩)))) (zwk_s rfl (zwk_s rfl (zwk_s rfl (zwk_s rfl (zwk_s rfl (zwk_s rfl (zwk_s rfl (zwk_s rfl (zwk_n (zwk_n zwk_0))))))))))
                            · skip
                              refine zs_goto (tgt := 191) (pc := 180) C dX9_mills_180 (by decide) ?_
                              exact zs_wk (J191 _ _ (by rw [m1]; by_cases q7 : x7 = 0; (have hx5 := h88_1 q7; have q8 : (mmn (mfn (G.1 2062 (Γ.2.1 w 25)) b a) x7.toNat).1 = 2147483647 := (by rw [q7]; rfl); first | (exfalso; omega) | (rw [if_pos (by omega)]; exact ⟨rfl, h166_0, by omega⟩)); (have q8 := h88_2 (by omega); first | (rw [if_pos (by omega)]; exact ⟨rfl, h166_0, by omega⟩) | (rw [if_neg (by omega)]; exact ⟨q8.1, q8.2.1, q8.2.2⟩)))) (zwk_s rfl (zwk_s rfl (zwk_s rfl (zwk_s rfl (zwk_s rfl (zwk_s rfl (zwk_s rfl (zwk_s rfl (zwk_n (zwk_n zwk_0))))))))))
                        refine zs_icmp_le (tgt := 161) (pc := 153) C dX9_mills_153 (by decide) (fun h153 => ?_) (fun h153 => ?_)
                        · skip
                          refine zs_iload (pc := 161) C dX9_mills_161 rfl ?_
                          refine zs_iload (pc := 163) C dX9_mills_163 rfl ?_
                          first | refine zs_isub (pc := 165) C dX9_mills_165 (by omega) ?_ | refine zs_isubF (pc := 165) C dX9_mills_165 (fun z165 hz1651 hz1652 => ?_)
                          exact zs_wk (J166 _ (by first | omega | (simp only [zuI_1, zuI_2, zuJ_1, zuJ_2, zuJ_3, zuP_1, zuP_2, zuP_3, zuC_1, zuC_2, reduceIte, Nat.reduceEqDiff, false_and, and_false, true_and, and_true, and_self, or_true, true_or, or_false, false_or]; omega))) (zwk_s rfl (zwk_s rfl (zwk_s rfl (zwk_s rfl (zwk_s rfl (zwk_s rfl (zwk_s rfl (zwk_s rfl (zwk_s rfl (zwk_n zwk_0))))))))))
                        · skip
                          refine zs_iload (pc := 156) C dX9_mills_156 rfl ?_
                          refine zs_goto (tgt := 166) (pc := 158) C dX9_mills_158 (by decide) ?_
                          exact zs_wk (J166 _ (by first | omega | (simp only [zuI_1, zuI_2, zuJ_1, zuJ_2, zuJ_3, zuP_1, zuP_2, zuP_3, zuC_1, zuC_2, reduceIte, Nat.reduceEqDiff, false_and, and_false, true_and, and_true, and_self, or_true, true_or, or_false, false_or]; omega))) (zwk_s rfl (zwk_s rfl (zwk_s rfl (zwk_s rfl (zwk_s rfl (zwk_s rfl (zwk_s rfl (zwk_s rfl (zwk_s rfl (zwk_n zwk_0))))))))))
                      · skip
                        refine zs_iload (pc := 108) C dX9_mills_108 rfl ?_
                        refine zs_iload (pc := 110) C dX9_mills_110 rfl ?_
                        refine zs_iload (pc := 112) C dX9_mills_112 rfl ?_
                        refine zSip2 (pc := 114) C dX9_mills_114 s_X9_516 (c_X9_isOfK hX ) (by decide) ⟨Nat.zero_le _, Nat.zero_le _⟩ (Nat.le_of_ble_eq_true rfl) (fun x114 l114 u114 hp114 => ?_)
                        have hq114 := hp114
                        have hb9 := mbt_in x7 x9
                        have s2 := msS_s (W := (G.1 2062 (Γ.2.1 w 25))) (row := b) (q := x7) (k := x9) (by omega)
                        have J137 : ∀ (y1 : Int), (msS (G.1 2062 (Γ.2.1 w 25)) b x7 (x9 + 1).toNat = msS (G.1 2062 (Γ.2.1 w 25)) b x7 x9.toNat + y1 ∧ 0 ≤ y1 ∧ y1 ≤ 99) → Z p l e (zrm 1) s m args below meth c Γ 10 0 0 (MQ below (zQc Γ (zpi (fun x G' => zsm [1002] G G' ∧ ((mOK (G.1 1012 w 0) a b k → x = mV (G.1 2062 (Γ.2.1 w 25)) a b k) ∧ (¬ mOK (G.1 1012 w 0) a b k → x = -1))))) args s 0 0 (zA Γ)) 137 [some (zr 10 w), some (zi a), some (zi b), some (zi k), some (zi x4), some (zi x5), some (zi x6), some (zi x7), some (zi x8), some (zi x9)] [zi y1, zi x8] (zuI G 1002 w 0 0) := by
                          intro y1 h137_0
                          first | refine zs_iadd (pc := 137) C dX9_mills_137 (by omega) ?_ | refine zs_iaddF (pc := 137) C dX9_mills_137 (fun z137 hz1371 hz1372 => ?_)
                          refine zs_istore (pc := 138) C dX9_mills_138 (by decide) ?_
                          dsimp only [zset, zclr, znone]
                          first | refine zs_iinc (pc := 140) C dX9_mills_140 rfl (by decide) (by omega) ?_ | refine zs_iincF (pc := 140) C dX9_mills_140 rfl (by decide) (fun z140 hz1401 hz1402 => ?_)
                          dsimp only [zset, zclr, znone]
                          refine zs_goto (tgt := 102) (pc := 143) C dX9_mills_143 (by decide) ?_
                          exact zs_wk (ih102 _ _ (by first | omega | (simp only [zuI_1, zuI_2, zuJ_1, zuJ_2, zuJ_3, zuP_1, zuP_2, zuP_3, zuC_1, zuC_2, reduceIte, Nat.reduceEqDiff, false_and, and_false, true_and, and_true, and_self, or_true, true_or, or_false, false_or]; omega)) (by first | omega | (simp only [zuI_1, zuI_2, zuJ_1, zuJ_2, zuJ_3, zuP_1, zuP_2, zuP_3, zuC_1, zuC_2, reduceIte, Nat.reduceEqDiff, false_and, and_false, true_and, and_true, and_self, or_true, true_or, or_false, false_or]; omega)) (by first | omega | (simp only [zuI_1, zuI_2, zuJ_1, zuJ_2, zuJ_3, zuP_1, zuP_2, zuP_3, zuC_1, zuC_2, reduceIte, Nat.reduceEqDiff, false_and, and_false, true_and, and_true, and_self, or_true, true_or, or_false, false_or]; omega)) (by first | omega | (simp only [zuI_1, zuI_2, zuJ_1, zuJ_2, zuJ_3, zuP_1, zuP_2, zuP_3, zuC_1, zuC_2, reduceIte, Nat.reduceEqDiff, false_and, and_false, true_and, and_true, and_self, or_true, true_or, or_false, false_or]; omega))) (zwk_s rfl (zwk_s rfl (zwk_s rfl (zwk_s rfl (zwk_s rfl (zwk_s rfl (zwk_s rfl (zwk_s rfl (zwk_s rfl (zwk_s rfl zwk_0))))))))))
                        refine zs_if_eq (tgt := 136) (pc := 117) C dX9_mills_117 (by decide) (fun h117 => ?_) (fun h117 => ?_)
                        · skip
                          rw [if_pos (by omega)] at s2
                          refine zs_iconst (pc := 136) C dX9_mills_136 (by decide) ?_
                          exact zs_wk (J137 _ (by first | omega | (simp only [zuI_1, zuI_2, zuJ_1, zuJ_2, zuJ_3, zuP_1, zuP_2, zuP_3, zuC_1, zuC_2, reduceIte, Nat.reduceEqDiff, false_and, and_false, true_and, and_true, and_self, or_true, true_or, or_false, false_or]; omega))) (zwk_s rfl (zwk_s rfl (zwk_s rfl (zwk_s rfl (zwk_s rfl (zwk_s rfl (zwk_s rfl (zwk_s rfl (zwk_s rfl (zwk_s rfl zwk_0))))))))))
                        · skip
                          refine zs_aload_n (pc := 120) C dX9_mills_120 rfl ?_
                          refine zs_getf (pc := 121) C dX9_mills_121 w_X9_30 f_10_25 (by decide) ?_
                          refine zs_iload_n (pc := 124) C dX9_mills_124 rfl ?_
                          refine zs_iconst (pc := 125) C dX9_mills_125 (by decide) ?_
                          refine zs_iload (pc := 126) C dX9_mills_126 rfl ?_
                          first | refine zs_imul (pc := 128) C dX9_mills_128 (by omega) ?_ | refine zs_imulF (pc := 128) C dX9_mills_128 (fun z128 hz1281 hz1282 => ?_)
                          refine zs_ishrX (pc := 129) C dX9_mills_129 (fun z129 ez129 hz1291 hz1292 => ?_)
                          refine zs_iconst (pc := 130) C dX9_mills_130 (by decide) ?_
                          refine zs_iandX (pc := 131) C dX9_mills_131 (fun z131 ez131 hz1311 hz1312 => ?_)
                          have he : z131 = mdg b x9 := by rw [ez131, ez129]; rfl
                          have hd2 := mdg_in b x9
                          refine zs_iald (r := 2062) (pc := 132) C dX9_mills_132 a_62 (by decide) (by omega) rfl (r_2062 _) (fun v132 e132 l132 u132 => ?_)
                          rw [he] at e132
                          have hw9 := hT (mdg b x9).toNat
                          have e132b : v132 = (G.1 2062 (Γ.2.1 w 25)) (mdg b x9).toNat := e132
                          rw [← e132b] at hw9 s2
                          rw [if_neg (by omega)] at s2
                          refine zs_goto (tgt := 137) (pc := 133) C dX9_mills_133 (by decide) ?_
                          exact zs_wk (J137 _ (by first | omega | (simp only [zuI_1, zuI_2, zuJ_1, zuJ_2, zuJ_3, zuP_1, zuP_2, zuP_3, zuC_1, zuC_2, reduceIte, Nat.reduceEqDiff, false_and, and_false, true_and, and_true, and_self, or_true, true_or, or_false, false_or]; omega))) (zwk_s rfl (zwk_s rfl (zwk_s rfl (zwk_s rfl (zwk_s rfl (zwk_s rfl (zwk_s rfl (zwk_s rfl (zwk_s rfl (zwk_s rfl zwk_0))))))))))
                  exact zs_wk (L102 _ _ _ (by omega) (show (0 : Int) = _ from rfl) (by omega) (Nat.lt_succ_self _)) (zwk_s rfl (zwk_s rfl (zwk_s rfl (zwk_s rfl (zwk_s rfl (zwk_s rfl (zwk_s rfl (zwk_s rfl (zwk_s rfl (zwk_s rfl zwk_0))))))))))
            exact zs_wk (L88 _ _ _ _ (by omega) (fun _ => rfl) (fun q => by omega) (Nat.lt_succ_self _)) (zwk_s rfl (zwk_s rfl (zwk_s rfl (zwk_s rfl (zwk_s rfl (zwk_s rfl (zwk_s rfl (zwk_s rfl (zwk_n (zwk_n zwk_0))))))))))
          · skip
            refine zs_aload_n (pc := 38) C dX9_mills_38 rfl ?_
            refine zs_iload_n (pc := 39) C dX9_mills_39 rfl ?_
            refine zs_iconst (pc := 40) C dX9_mills_40 (by decide) ?_
            refine zs_iload (pc := 41) C dX9_mills_41 rfl ?_
            first | refine zs_imul (pc := 43) C dX9_mills_43 (by omega) ?_ | refine zs_imulF (pc := 43) C dX9_mills_43 (fun z43 hz431 hz432 => ?_)
            refine zs_ishrX (pc := 44) C dX9_mills_44 (fun z44 ez44 hz441 hz442 => ?_)
            refine zs_iconst (pc := 45) C dX9_mills_45 (by decide) ?_
            refine zs_iandX (pc := 46) C dX9_mills_46 (fun z46 ez46 hz461 hz462 => ?_)
            have hd : z46 = mdg b x5 := by rw [ez46, ez44]; rfl
            have hd2 := mdg_in b x5
            refine zVip1 (pc := 47) C dX9_mills_47 v_X9_407 (c_X9_isSinK hX ) (by decide) (by decide) ⟨Nat.zero_le _, Nat.zero_le _⟩ (Nat.le_of_ble_eq_true rfl) (fun x47 l47 u47 hp47 => ?_)
            have hq47 := hp47
            rw [hd] at hq47
            simp (disch := decide) only [zuI_nf] at hq47
            refine zs_if_ne (tgt := 55) (pc := 50) C dX9_mills_50 (by decide) (fun h50 => ?_) (fun h50 => ?_)
            · skip
              refine zs_iload (pc := 55) C dX9_mills_55 rfl ?_
              refine zs_aload_n (pc := 57) C dX9_mills_57 rfl ?_
              refine zs_getf (pc := 58) C dX9_mills_58 w_X9_30 f_10_25 (by decide) ?_
              refine zs_iload_n (pc := 61) C dX9_mills_61 rfl ?_
              refine zs_iconst (pc := 62) C dX9_mills_62 (by decide) ?_
              refine zs_iload (pc := 63) C dX9_mills_63 rfl ?_
              first | refine zs_imul (pc := 65) C dX9_mills_65 (by omega) ?_ | refine zs_imulF (pc := 65) C dX9_mills_65 (fun z65 hz651 hz652 => ?_)
              refine zs_ishrX (pc := 66) C dX9_mills_66 (fun z66 ez66 hz661 hz662 => ?_)
              refine zs_iconst (pc := 67) C dX9_mills_67 (by decide) ?_
              refine zs_iandX (pc := 68) C dX9_mills_68 (fun z68 ez68 hz681 hz682 => ?_)
              have he : z68 = mdg b x5 := by rw [ez68, ez66]; rfl
              refine zs_iald (r := 2062) (pc := 69) C dX9_mills_69 a_62 (by decide) (by omega) rfl (r_2062 _) (fun v69 e69 l69 u69 => ?_)
              rw [he] at e69
              have hw5 := hT (mdg b x5).toNat
              have e69b : v69 = (G.1 2062 (Γ.2.1 w 25)) (mdg b x5).toNat := e69
              rw [← e69b] at hw5
              have s3 := msA_s (W := (G.1 2062 (Γ.2.1 w 25))) (row := b) (k := x5) (by omega)
              rw [← e69b] at s3
              first | refine zs_iadd (pc := 70) C dX9_mills_70 (by omega) ?_ | refine zs_iaddF (pc := 70) C dX9_mills_70 (fun z70 hz701 hz702 => ?_)
              refine zs_istore (pc := 71) C dX9_mills_71 (by decide) ?_
              dsimp only [zset, zclr, znone]
              first | refine zs_iinc (pc := 73) C dX9_mills_73 rfl (by decide) (by omega) ?_ | refine zs_iincF (pc := 73) C dX9_mills_73 rfl (by decide) (fun z73 hz731 hz732 => ?_)
              dsimp only [zset, zclr, znone]
              refine zs_goto (tgt := 32) (pc := 76) C dX9_mills_76 (by decide) ?_
              exact zs_wk (ih32 _ _ (by omega) (by omega) (by omega) (fun j hj => by by_cases q : (j : Int) = x5; (rw [q]; have q2 := (hq47.2.mp (by omega)).2; omega); exact h32_3 j (by omega)) (by first | omega | (simp only [zuI_1, zuI_2, zuJ_1, zuJ_2, zuJ_3, zuP_1, zuP_2, zuP_3, zuC_1, zuC_2, reduceIte, Nat.reduceEqDiff, false_and, and_false, true_and, and_true, and_self, or_true, true_or, or_false, false_or]; omega))) (zwk_s rfl (zwk_s rfl (zwk_s rfl (zwk_s rfl (zwk_s rfl (zwk_s rfl (zwk_n (zwk_n (zwk_n (zwk_n zwk_0))))))))))
            · skip
              refine zs_iconst (pc := 53) C dX9_mills_53 (by decide) ?_
              exact zs_iret (pc := 54) C hr hlk dX9_mills_54 ⟨by repeat (first | exact zsm_rf | assumption | refine zsm_C (by decide) ?_ | refine zsm_I (by decide) ?_ | refine zsm_J ?_ | refine zsm_c (by assumption) (by decide) ?_), ⟨fun q => absurd q (by rintro ⟨-, q⟩; have q2 := q x5.toNat (by omega); rw [show ((x5.toNat : Nat) : Int) = x5 by omega] at q2; have q3 := hq47.2.mpr ⟨hd2.1, by omega⟩; omega), fun _ => rfl⟩⟩
      exact zs_wk (L32 _ _ _ (by omega) (show (0 : Int) = _ from rfl) (by omega) (fun j hj => by omega) (Nat.lt_succ_self _)) (zwk_s rfl (zwk_s rfl (zwk_s rfl (zwk_s rfl (zwk_s rfl (zwk_s rfl (zwk_n (zwk_n (zwk_n (zwk_n zwk_0))))))))))
    · skip
      refine zs_iconst (pc := 24) C dX9_mills_24 (by decide) ?_
      exact zs_iret (pc := 25) C hr hlk dX9_mills_25 ⟨by repeat (first | exact zsm_rf | assumption | refine zsm_C (by decide) ?_ | refine zsm_I (by decide) ?_ | refine zsm_J ?_ | refine zsm_c (by assumption) (by decide) ?_), ⟨fun q => absurd q (by rintro ⟨q, -⟩; omega), fun _ => rfl⟩⟩
