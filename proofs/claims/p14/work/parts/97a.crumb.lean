/-! what a crumb tells -/
theorem wEu_0 : ∀ (m : Nat) (a : Int), wEu m a 0 = a
  | 0, _ => rfl
  | m + 1, a => (show (if (0 : Int) = 0 then a else wEu m 0 (a % 0)) = a from if_pos rfl)
theorem wEu_1 {m : Nat} {a b : Int} (h : b ≠ 0) : wEu (m + 1) a b = wEu m b (a % b) := (show (if b = 0 then a else wEu m b (a % b)) = _ from if_neg h)
theorem wEu_s {k x y : Int} (hk : 0 ≤ k ∧ k < 64) (hy : y ≠ 0) : wEu (64 - k).toNat x y = wEu (64 - (k + 1)).toNat y (x % y) := by
  rw [show (64 - k).toNat = (64 - (k + 1)).toNat + 1 by omega, wEu_1 hy]
theorem emod_half {b r : Int} (hr : 0 < r) (hb : r < b) : 0 ≤ b % r ∧ 2 * (b % r) < b := by
  have h1 := Int.emod_nonneg b (show r ≠ 0 by omega)
  have h2 := Int.emod_lt_of_pos b hr
  have h3 := Int.mul_ediv_add_emod b r
  have h4 : 1 ≤ b / r := Int.le_ediv_of_mul_le hr (by omega)
  have h5 := Int.mul_le_mul_of_nonneg_left h4 (show 0 ≤ r by omega)
  rw [Int.mul_one] at h5
  generalize r * (b / r) = q at *
  generalize b % r = z at *
  omega
theorem wEu_st : ∀ (j : Nat) (a b : Int) (m : Nat), 0 ≤ a → 0 ≤ b → b < 2 ^ j → 2 * j ≤ m → wEu m a b = wEu (m + 1) a b ∧ ((a ≠ 0 ∨ b ≠ 0) → wEu m a b ≠ 0)
  | 0, a, b, m, ha, hb, h, _ => by
    have e : b = 0 := by
      have : (2 : Int) ^ 0 = 1 := rfl
      omega
    rw [e, wEu_0, wEu_0]
    exact ⟨rfl, fun q => q.resolve_right (fun z => z rfl)⟩
  | j + 1, a, b, m, ha, hb, h, hm => by
    by_cases e : b = 0
    · rw [e, wEu_0, wEu_0]
      exact ⟨rfl, fun q => q.resolve_right (fun z => z rfl)⟩
    · obtain ⟨n, rfl⟩ : ∃ n : Nat, m = n + 2 := ⟨m - 2, by omega⟩
      have hr := Int.emod_nonneg a e
      have hr2 := Int.emod_lt_of_pos a (show 0 < b by omega)
      rw [wEu_1 e, wEu_1 e]
      by_cases f : a % b = 0
      · rw [f, wEu_0, wEu_0]
        exact ⟨rfl, fun _ => e⟩
      · have hh := emod_half (b := b) (r := a % b) (by omega) hr2
        have hp : (2 : Int) ^ (j + 1) = 2 ^ j * 2 := Int.pow_succ 2 j
        rw [hp] at h
        have ih := wEu_st j (a % b) (b % (a % b)) n hr hh.1 (by omega) (by omega)
        rw [wEu_1 f, wEu_1 f]
        exact ⟨ih.1, fun _ => ih.2 (Or.inl f)⟩
theorem wEu_i {a b : Int} (ha : 0 ≤ a) (hb : 0 ≤ b ∧ b < 512) (h : b ≠ 0) : wEu 64 a b = wEu 64 b (a % b) := by
  have h1 := Int.emod_nonneg a h
  have h2 := Int.emod_lt_of_pos a (show 0 < b by omega)
  have h9 : (2 : Int) ^ 9 = 512 := by decide
  have q := (wEu_st 9 b (a % b) 63 hb.1 h1 (by omega) (by decide)).1
  exact (wEu_1 h).trans q
theorem wEu_ne {a b : Int} (ha : 0 ≤ a) (hb : 0 ≤ b ∧ b < 512) (h : b ≠ 0) : wEu 64 a b ≠ 0 := by
  have h9 : (2 : Int) ^ 9 = 512 := by decide
  exact (wEu_st 9 a b 64 ha hb.1 (by omega) (by decide)).2 (Or.inr h)
theorem wEu_nn : ∀ (m : Nat) {a b : Int}, 0 ≤ a → 0 ≤ b → 0 ≤ wEu m a b
  | 0, _, _, ha, _ => ha
  | m + 1, a, b, ha, hb => by
    by_cases h : b = 0
    · rw [h, wEu_0]; exact ha
    · rw [wEu_1 h]
      exact wEu_nn m hb (Int.emod_nonneg a h)
theorem mul_in {p h : Int} (hp : 0 ≤ p ∧ p ≤ 4) (hh : 0 ≤ h ∧ h ≤ 100) : 0 ≤ p * h ∧ p * h ≤ 400 := by
  rcases (show p = 0 ∨ p = 1 ∨ p = 2 ∨ p = 3 ∨ p = 4 by omega) with rfl | rfl | rfl | rfl | rfl <;> omega
def oL (h i : Int) : Int := pc4 i * (100 - h)
def oA (h t i : Int) : Int := oL h i + pc4 t * h
def oV (h t i q : Int) : Int := if oA h t i = 0 then (if q = 2 then 0 else 1) else (if q = 2 then oL h i else oA h t i) / wEu 64 (oL h i) (oA h t i)
def crT (A W : aS) (k : Int) : Nat → Int := fun j => if wThen A W k 0 j = W 3 k.toNat ∧ wLie W k j = 0 then 1 else 0
def crI (A W : aS) (k : Int) : Nat → Int := fun j => if wThen A W k 0 j = W 3 k.toNat ∧ ¬ wLie W k j = 0 then 1 else 0
def crV (A W : aS) (k q : Int) : Int := if q = 0 then wBi (crT A W k) (A 4 0).toNat else if q = 1 then wBi (crI A W k) (A 4 0).toNat else oV (A 7 (W 1 k.toNat).toNat) (wBi (crT A W k) (A 4 0).toNat) (wBi (crI A W k) (A 4 0).toNat) q
theorem crT_s {A W : aS} {k x : Int} (h : 0 ≤ x) : wBi (crT A W k) (x + 1).toNat = wBi (crT A W k) x.toNat + (if wThen A W k 0 x = W 3 k.toNat ∧ wLie W k x = 0 then p2 x.toNat else 0) := by
  rw [wBi_s h]
  unfold crT
  rw [show ((x.toNat : Nat) : Int) = x by omega]
  by_cases q : wThen A W k 0 x = W 3 k.toNat ∧ wLie W k x = 0
  · rw [if_pos q, if_pos rfl, if_pos q]
  · rw [if_neg q, if_neg (show ¬ (0 : Int) = 1 by decide), if_neg q]
theorem crI_s {A W : aS} {k x : Int} (h : 0 ≤ x) : wBi (crI A W k) (x + 1).toNat = wBi (crI A W k) x.toNat + (if wThen A W k 0 x = W 3 k.toNat ∧ ¬ wLie W k x = 0 then p2 x.toNat else 0) := by
  rw [wBi_s h]
  unfold crI
  rw [show ((x.toNat : Nat) : Int) = x by omega]
  by_cases q : wThen A W k 0 x = W 3 k.toNat ∧ ¬ wLie W k x = 0
  · rw [if_pos q, if_pos rfl, if_pos q]
  · rw [if_neg q, if_neg (show ¬ (0 : Int) = 1 by decide), if_neg q]
theorem wBi_15 {P : Nat → Int} {m : Nat} (h : m ≤ 4) : 0 ≤ wBi P m ∧ wBi P m ≤ 15 := by
  by_cases q : m < 4
  · have h1 := wBi_in (P := P) m q
    have h2 : p2 m ≤ 8 := (show ∀ k : Nat, k < 4 → p2 k ≤ 8 by decide) m q
    omega
  · have e : m = 4 := by omega
    subst e
    have h1 := wBi_in (P := P) 3 (by decide)
    have h2 : p2 3 = 8 := rfl
    rw [wBi]
    split <;> omega
theorem pc4_s : ∀ j : Nat, j < 4 → ∀ x : Nat, x < 8 → (x : Int) < p2 j → pc4 (x + p2 j) = pc4 x + 1 := by decide +kernel
theorem pc4_m {x H : Int} {j : Nat} (hj : j < 4) (hx : 0 ≤ x ∧ x < p2 j) : pc4 (x + p2 j) * H = pc4 x * H + H := by
  have h2 : p2 j ≤ 8 := (show ∀ k : Nat, k < 4 → p2 k ≤ 8 by decide) j hj
  have q := pc4_s j hj x.toNat (by omega) (by omega)
  rw [show ((x.toNat : Nat) : Int) = x by omega] at q
  rw [q, Int.add_mul, Int.one_mul]
theorem oA_in {h t i : Int} (hh : 0 ≤ h ∧ h ≤ 100) (ht : 0 ≤ t ∧ t ≤ 15) (hi : 0 ≤ i ∧ i ≤ 15) : 0 ≤ oL h i ∧ oL h i ≤ oA h t i ∧ oA h t i < 512 ∧ 0 ≤ pc4 i * (100 - h) ∧ pc4 i * (100 - h) ≤ 400 ∧ 0 ≤ pc4 t * h ∧ pc4 t * h ≤ 400 := by
  have a1 := pc4_in ht
  have a2 := pc4_in hi
  have m1 := mul_in (p := pc4 i) (h := 100 - h) a2 (by omega)
  have m2 := mul_in (p := pc4 t) (h := h) a1 hh
  have m3 : pc4 t + pc4 i ≤ 8 := by omega
  unfold oA oL
  refine ⟨m1.1, by omega, ?_, m1.1, m1.2, m2.1, m2.2⟩
  have z : pc4 i * (100 - h) + pc4 t * h ≤ 800 := by omega
  rcases (show pc4 i = 0 ∨ pc4 i = 1 ∨ pc4 i = 2 ∨ pc4 i = 3 ∨ pc4 i = 4 by omega) with e | e | e | e | e <;> rcases (show pc4 t = 0 ∨ pc4 t = 1 ∨ pc4 t = 2 ∨ pc4 t = 3 ∨ pc4 t = 4 by omega) with f | f | f | f | f <;> rw [e, f] <;> omega
theorem oA_0 {h t i : Int} (hh : 0 ≤ h ∧ h ≤ 100) (ht : 0 ≤ t ∧ t ≤ 15) (hi : 0 ≤ i ∧ i ≤ 15) : wEu 64 (oL h i) (oA h t i) = 0 ↔ oA h t i = 0 := by
  have q := oA_in hh ht hi
  refine ⟨fun z => Decidable.byContradiction (fun y => wEu_ne q.1 ⟨by omega, q.2.2.1⟩ y z), fun z => ?_⟩
  have e : oL h i = 0 := by omega
  rw [z, e]
  rfl

set_option maxHeartbeats 4000000 in
set_option maxRecDepth 100000 in
theorem c_X8_commonDivisorK {l : Launch} {Γ : zΓ} {G : zH} {a b : Int} (hX : zXs Γ) (h : 0 ≤ a ∧ 0 ≤ b) : zMet l Γ yX8_commonDivisor cX8_commonDivisor 6 (some .int) 0 [zi a, zi b] G (zpi (fun x G' => G' = G ∧ (x = wEu 64 a b))) := by
  refine zMet_of RX8 hX (by decide) rfl (Nat.le_of_ble_eq_true rfl) ?_
  intro p e s m args below meth c C hr hlk
  show Z p l e (zrm 0) s m args below meth c Γ 6 0 0 (MQ below (zQc Γ (zpi (fun x G' => G' = G ∧ (x = wEu 64 a b)))) args s 0 0 (zA Γ)) 0 [some (zi a), some (zi b), none, none, none, none] [] G
  refine zs_loc 0 rfl (fun ha0 hb0 => ?_)
  refine zs_loc 1 rfl (fun ha1 hb1 => ?_)
  refine zs_iload_n (pc := 0) C dX8_commonDivisor_0 rfl ?_
  refine zs_istore_n (pc := 1) C dX8_commonDivisor_1 (by decide) ?_
  dsimp only [zset, zclr, znone]
  refine zs_iload_n (pc := 2) C dX8_commonDivisor_2 rfl ?_
  refine zs_istore_n (pc := 3) C dX8_commonDivisor_3 (by decide) ?_
  dsimp only [zset, zclr, znone]
  refine zs_iconst (pc := 4) C dX8_commonDivisor_4 (by decide) ?_
  refine zs_istore (pc := 5) C dX8_commonDivisor_5 (by decide) ?_
  dsimp only [zset, zclr, znone]
  have L7 : ∀ (nn : Nat) (x2 x3 x4 : Int), (0 ≤ x4 ∧ x4 ≤ 64) → (0 ≤ x2 ∧ 0 ≤ x3) → (wEu (64 - x4).toNat x2 x3 = wEu 64 a b) → (64 - x4).toNat < nn → Z p l e (zrm 0) s m args below meth c Γ 6 0 0 (MQ below (zQc Γ (zpi (fun x G' => G' = G ∧ (x = wEu 64 a b)))) args s 0 0 (zA Γ)) 7 [some (zi a), some (zi b), some (zi x2), some (zi x3), some (zi x4), none] [] G := by
    intro nn
    induction nn with
    | zero => intro x2 x3 x4 h7_0 h7_1 h7_2 hm; exact absurd hm (Nat.not_lt_zero _)
    | succ nn ih7 =>
      intro x2 x3 x4 h7_0 h7_1 h7_2 hm7
      refine zs_iload (pc := 7) C dX8_commonDivisor_7 rfl ?_
      refine zs_bipush (pc := 9) C dX8_commonDivisor_9 (by decide) (by decide) ?_
      refine zs_icmp_ge (tgt := 34) (pc := 11) C dX8_commonDivisor_11 (by decide) (fun h11 => ?_) (fun h11 => ?_)
      · skip
        have e4 : x4 = 64 := by omega
        rw [e4] at h7_2
        refine zs_iload_n (pc := 34) C dX8_commonDivisor_34 rfl ?_
        exact zs_iret (pc := 35) C hr hlk dX8_commonDivisor_35 ⟨rfl, (by first | exact h7_2 | (rw [← h7_2]; rfl))⟩
      · skip
        refine zs_iload_n (pc := 14) C dX8_commonDivisor_14 rfl ?_
        refine zs_if_le (tgt := 34) (pc := 15) C dX8_commonDivisor_15 (by decide) (fun h15 => ?_) (fun h15 => ?_)
        · skip
          have e3 : x3 = 0 := by omega
          rw [e3, wEu_0] at h7_2
          refine zs_iload_n (pc := 34) C dX8_commonDivisor_34 rfl ?_
          exact zs_iret (pc := 35) C hr hlk dX8_commonDivisor_35 ⟨rfl, (by first | exact h7_2 | (rw [← h7_2]; rfl))⟩
        · skip
          refine zs_iload_n (pc := 18) C dX8_commonDivisor_18 rfl ?_
          refine zs_iload_n (pc := 19) C dX8_commonDivisor_19 rfl ?_
          first | refine zs_irem (pc := 20) C dX8_commonDivisor_20 (by omega) (by omega) (fun hz201 hz202 => ?_) | refine zs_iremF (pc := 20) C dX8_commonDivisor_20 (by omega) (fun z20 hz201 hz202 => ?_)
          refine zs_istore (pc := 21) C dX8_commonDivisor_21 (by decide) ?_
          dsimp only [zset, zclr, znone]
          refine zs_iload_n (pc := 23) C dX8_commonDivisor_23 rfl ?_
          refine zs_istore_n (pc := 24) C dX8_commonDivisor_24 (by decide) ?_
          dsimp only [zset, zclr, znone]
          refine zs_iload (pc := 25) C dX8_commonDivisor_25 rfl ?_
          refine zs_istore_n (pc := 27) C dX8_commonDivisor_27 (by decide) ?_
          dsimp only [zset, zclr, znone]
          first | refine zs_iinc (pc := 28) C dX8_commonDivisor_28 rfl (by decide) (by omega) ?_ | refine zs_iincF (pc := 28) C dX8_commonDivisor_28 rfl (by decide) (fun z28 hz281 hz282 => ?_)
          dsimp only [zset, zclr, znone]
          refine zs_goto (tgt := 7) (pc := 31) C dX8_commonDivisor_31 (by decide) ?_
          exact zs_wk (ih7 _ _ _ (by omega) (by omega) (by rw [← h7_2]; exact (wEu_s (by omega) (by omega)).symm) (by first | omega | (simp only [zuI_1, zuI_2, zuJ_1, zuJ_2, zuJ_3, zuP_1, zuP_2, zuP_3, zuC_1, zuC_2, reduceIte, Nat.reduceEqDiff, false_and, and_false, true_and, and_true, and_self, or_true, true_or, or_false, false_or]; omega))) (zwk_s rfl (zwk_s rfl (zwk_s rfl (zwk_s rfl (zwk_s rfl (zwk_n zwk_0))))))
  exact zs_wk (L7 _ _ _ _ (by omega) (by omega) rfl (Nat.lt_succ_self _)) (zwk_s rfl (zwk_s rfl (zwk_s rfl (zwk_s rfl (zwk_s rfl (zwk_n zwk_0))))))

set_option maxHeartbeats 4000000 in
set_option maxRecDepth 100000 in
theorem c_X8_oddsOfLieK {l : Launch} {Γ : zΓ} {G : zH} {w t : Nat} {A W : aS} {a b q k : Int} (hX : zXs Γ) (hZ : QQ Γ (Γ.2.1 w 4) t A W G) (hI : G.2.2 903 w = t) (hW : WI A W) (hT : TA A) (ha : 0 ≤ a ∧ a < W 0 0) (hb : 0 ≤ b ∧ b ≤ 15) (hq : 0 ≤ q ∧ q ≤ 15)  : zMet l Γ yX8_oddsOfLie cX8_oddsOfLie 9 (some .int) 1 [zr 9 w, zi a, zi b, zi q, zi k] G (zpi (fun x G' => G' = G ∧ (x = (if k ≠ 0 then oV (A 7 (W 1 a.toNat).toNat) b q 2 else oV (A 7 (W 1 a.toNat).toNat) b q 3)))) := by
  refine zMet_of RX8 hX (by decide) rfl (Nat.le_of_ble_eq_true rfl) ?_
  intro p e s m args below meth c C hr hlk
  show Z p l e (zrm 1) s m args below meth c Γ 9 0 0 (MQ below (zQc Γ (zpi (fun x G' => G' = G ∧ (x = (if k ≠ 0 then oV (A 7 (W 1 a.toNat).toNat) b q 2 else oV (A 7 (W 1 a.toNat).toNat) b q 3))))) args s 0 0 (zA Γ)) 0 [some (zr 9 w), some (zi a), some (zi b), some (zi q), some (zi k), none, none, none, none] [] G
  refine zs_loc 1 rfl (fun ha1 hb1 => ?_)
  refine zs_loc 2 rfl (fun ha2 hb2 => ?_)
  refine zs_loc 3 rfl (fun ha3 hb3 => ?_)
  refine zs_loc 4 rfl (fun ha4 hb4 => ?_)
  have hT0 := hT.1
  have h00 := hW.1
  have hk1 := (hW.2.1 a.toNat (by omega)).1
  have hh := hT.2.2.1 (W 1 a.toNat).toNat (by omega)
  have hO := oA_in hh hb hq
  have hO0 := oA_0 hh hb hq
  refine zs_aload_n (pc := 0) C dX8_oddsOfLie_0 rfl ?_
  refine zs_getd (r := 903) (pc := 1) C dX8_oddsOfLie_1 w_X8_25 f_9_3 (by decide) rfl (fun v1 e1 t1 => ?_)
  rw [hI] at e1
  subst v1
  refine zs_getf (pc := 4) C dX8_oddsOfLie_4 w_X8_115 f_6_4 (by decide) ?_
  refine zs_aload_n (pc := 7) C dX8_oddsOfLie_7 rfl ?_
  refine zs_getf (pc := 8) C dX8_oddsOfLie_8 w_X8_34 f_9_4 (by decide) ?_
  refine zs_getf (pc := 11) C dX8_oddsOfLie_11 w_X8_172 f_8_1 (by decide) ?_
  refine zs_getf (pc := 14) C dX8_oddsOfLie_14 w_X8_200 f_5_0 (by decide) ?_
  refine zs_iload_n (pc := 17) C dX8_oddsOfLie_17 rfl ?_
  refine zs_iald (r := 2026) (pc := 18) C dX8_oddsOfLie_18 a_26 (by decide) (by omega) rfl (r_2026 _) (fun v18 e18 l18 u18 => ?_)
  try simp only [QQ_2026 hZ] at e18
  try subst v18
  refine zs_iald (r := 2039) (pc := 19) C dX8_oddsOfLie_19 a_39 (by decide) (by omega) rfl (r_2039 _) (fun v19 e19 l19 u19 => ?_)
  try simp only [QQ_2039 hZ] at e19
  try subst v19
  refine zs_istore (pc := 20) C dX8_oddsOfLie_20 (by decide) ?_
  dsimp only [zset, zclr, znone]
  refine zs_iload_n (pc := 22) C dX8_oddsOfLie_22 rfl ?_
  refine zSip1 (pc := 23) C dX8_oddsOfLie_23 s_X8_273 (c_J6_bitCount_0f7a4K hX (by omega)) (by decide) ⟨Nat.zero_le _, Nat.zero_le _⟩ (Nat.le_of_ble_eq_true rfl) (fun x23 l23 u23 hp23 => ?_)
  have hq23 := hp23
  have hb23 : x23 = pc4 q := hq23
  subst hb23
  refine zs_bipush (pc := 26) C dX8_oddsOfLie_26 (by decide) (by decide) ?_
  refine zs_iload (pc := 28) C dX8_oddsOfLie_28 rfl ?_
  first | refine zs_isub (pc := 30) C dX8_oddsOfLie_30 (by omega) ?_ | refine zs_isubF (pc := 30) C dX8_oddsOfLie_30 (fun z30 hz301 hz302 => ?_)
  first | refine zs_imul (pc := 31) C dX8_oddsOfLie_31 (by omega) ?_ | refine zs_imulF (pc := 31) C dX8_oddsOfLie_31 (fun z31 hz311 hz312 => ?_)
  refine zs_istore (pc := 32) C dX8_oddsOfLie_32 (by decide) ?_
  dsimp only [zset, zclr, znone]
  refine zs_iload (pc := 34) C dX8_oddsOfLie_34 rfl ?_
  refine zs_iload_n (pc := 36) C dX8_oddsOfLie_36 rfl ?_
  refine zSip1 (pc := 37) C dX8_oddsOfLie_37 s_X8_273 (c_J6_bitCount_0f7a4K hX (by omega)) (by decide) ⟨Nat.zero_le _, Nat.zero_le _⟩ (Nat.le_of_ble_eq_true rfl) (fun x37 l37 u37 hp37 => ?_)
  have hq37 := hp37
  have hb37 : x37 = pc4 b := hq37
  subst hb37
  refine zs_iload (pc := 40) C dX8_oddsOfLie_40 rfl ?_
  first | refine zs_imul (pc := 42) C dX8_oddsOfLie_42 (by omega) ?_ | refine zs_imulF (pc := 42) C dX8_oddsOfLie_42 (fun z42 hz421 hz422 => ?_)
  first | refine zs_iadd (pc := 43) C dX8_oddsOfLie_43 (by omega) ?_ | refine zs_iaddF (pc := 43) C dX8_oddsOfLie_43 (fun z43 hz431 hz432 => ?_)
  refine zs_istore (pc := 44) C dX8_oddsOfLie_44 (by decide) ?_
  dsimp only [zset, zclr, znone]
  refine zs_iload (pc := 46) C dX8_oddsOfLie_46 rfl ?_
  refine zs_iload (pc := 48) C dX8_oddsOfLie_48 rfl ?_
  refine zSip2 (pc := 50) C dX8_oddsOfLie_50 s_X8_278 (c_X8_commonDivisorK hX ⟨by omega, by omega⟩) (by decide) ⟨Nat.zero_le _, Nat.zero_le _⟩ (Nat.le_of_ble_eq_true rfl) (fun x50 l50 u50 hp50 => ?_)
  have hq50 := hp50
  have hb50 : x50 = wEu 64 (oL (A 7 (W 1 a.toNat).toNat) q) (oA (A 7 (W 1 a.toNat).toNat) b q) := hq50
  have hn50 : 0 ≤ x50 := by rw [hb50]; exact wEu_nn 64 hO.1 (by omega)
  rw [← hb50] at hO0
  refine zs_istore (pc := 53) C dX8_oddsOfLie_53 (by decide) ?_
  dsimp only [zset, zclr, znone]
  refine zs_iload (pc := 55) C dX8_oddsOfLie_55 rfl ?_
  refine zs_if_ne (tgt := 71) (pc := 57) C dX8_oddsOfLie_57 (by decide) (fun h57 => ?_) (fun h57 => ?_)
  · skip
    have hz : ¬ oA (A 7 (W 1 a.toNat).toNat) b q = 0 := fun z => by have := hO0.mpr z; omega
    refine zs_iload (pc := 71) C dX8_oddsOfLie_71 rfl ?_
    refine zs_if_eq (tgt := 81) (pc := 73) C dX8_oddsOfLie_73 (by decide) (fun h73 => ?_) (fun h73 => ?_)
    · skip
      have hv : (if k ≠ 0 then oV (A 7 (W 1 a.toNat).toNat) b q 2 else oV (A 7 (W 1 a.toNat).toNat) b q 3) = oA (A 7 (W 1 a.toNat).toNat) b q / x50 := by rw [if_neg (by omega)]; unfold oV; rw [if_neg hz, if_neg (by decide), hb50]
      refine zs_iload (pc := 81) C dX8_oddsOfLie_81 rfl ?_
      refine zs_iload (pc := 83) C dX8_oddsOfLie_83 rfl ?_
      first | refine zs_idiv (pc := 85) C dX8_oddsOfLie_85 (by omega) (by omega) (fun hz851 hz852 => ?_) | refine zs_idivF (pc := 85) C dX8_oddsOfLie_85 (by omega) (fun z85 hz851 hz852 => ?_)
      exact zs_iret (pc := 86) C hr hlk dX8_oddsOfLie_86 ⟨rfl, hv.symm⟩
    · skip
      have hv : (if k ≠ 0 then oV (A 7 (W 1 a.toNat).toNat) b q 2 else oV (A 7 (W 1 a.toNat).toNat) b q 3) = oL (A 7 (W 1 a.toNat).toNat) q / x50 := by rw [if_pos (by omega)]; unfold oV; rw [if_neg hz, if_pos rfl, hb50]
      refine zs_iload (pc := 76) C dX8_oddsOfLie_76 rfl ?_
      refine zs_goto (tgt := 83) (pc := 78) C dX8_oddsOfLie_78 (by decide) ?_
      refine zs_iload (pc := 83) C dX8_oddsOfLie_83 rfl ?_
      first | refine zs_idiv (pc := 85) C dX8_oddsOfLie_85 (by omega) (by omega) (fun hz851 hz852 => ?_) | refine zs_idivF (pc := 85) C dX8_oddsOfLie_85 (by omega) (fun z85 hz851 hz852 => ?_)
      exact zs_iret (pc := 86) C hr hlk dX8_oddsOfLie_86 ⟨rfl, hv.symm⟩
  · skip
    have hz : oA (A 7 (W 1 a.toNat).toNat) b q = 0 := hO0.mp (by omega)
    refine zs_iload (pc := 60) C dX8_oddsOfLie_60 rfl ?_
    refine zs_if_eq (tgt := 69) (pc := 62) C dX8_oddsOfLie_62 (by decide) (fun h62 => ?_) (fun h62 => ?_)
    · skip
      have hv : (if k ≠ 0 then oV (A 7 (W 1 a.toNat).toNat) b q 2 else oV (A 7 (W 1 a.toNat).toNat) b q 3) = 1 := by rw [if_neg (by omega)]; unfold oV; rw [if_pos hz, if_neg (by decide)]
      refine zs_iconst (pc := 69) C dX8_oddsOfLie_69 (by decide) ?_
      exact zs_iret (pc := 70) C hr hlk dX8_oddsOfLie_70 ⟨rfl, hv.symm⟩
    · skip
      have hv : (if k ≠ 0 then oV (A 7 (W 1 a.toNat).toNat) b q 2 else oV (A 7 (W 1 a.toNat).toNat) b q 3) = 0 := by rw [if_pos (by omega)]; unfold oV; rw [if_pos hz, if_pos rfl]
      refine zs_iconst (pc := 65) C dX8_oddsOfLie_65 (by decide) ?_
      refine zs_goto (tgt := 70) (pc := 66) C dX8_oddsOfLie_66 (by decide) ?_
      exact zs_iret (pc := 70) C hr hlk dX8_oddsOfLie_70 ⟨rfl, hv.symm⟩

set_option maxHeartbeats 4000000 in
set_option maxRecDepth 100000 in
theorem c_X8_crumbK {l : Launch} {Γ : zΓ} {G : zH} {w t : Nat} {A W : aS} {a k : Int} (hX : zXs Γ) (hZ : QQ Γ (Γ.2.1 w 4) t A W G) (hI : G.2.2 903 w = t) (hW : WI A W) (hT : TA A)  : zMet l Γ yX8_crumb cX8_crumb 6 (some .int) 4 [zr 9 w, zi a, zi k] G (zpi (fun x G' => zsm [] G G' ∧ (x = (if (0 ≤ a ∧ a < W 0 0) ∧ 0 ≤ k ∧ k ≤ 3 then crV A W a k else -1)))) := by
  refine zMet_of RX8 hX (by decide) rfl (Nat.le_of_ble_eq_true rfl) ?_
  intro p e s m args below meth c C hr hlk
  show Z p l e (zrm 4) s m args below meth c Γ 6 0 0 (MQ below (zQc Γ (zpi (fun x G' => zsm [] G G' ∧ (x = (if (0 ≤ a ∧ a < W 0 0) ∧ 0 ≤ k ∧ k ≤ 3 then crV A W a k else -1))))) args s 0 0 (zA Γ)) 0 [some (zr 9 w), some (zi a), some (zi k), none, none, none] [] G
  refine zs_loc 1 rfl (fun ha1 hb1 => ?_)
  refine zs_loc 2 rfl (fun ha2 hb2 => ?_)
  have hT0 := hT.1
  have h00 := hW.1
  refine zs_aload_n (pc := 0) C dX8_crumb_0 rfl ?_
  refine zs_getf (pc := 1) C dX8_crumb_1 w_X8_34 f_9_4 (by decide) ?_
  refine zs_getf (pc := 4) C dX8_crumb_4 w_X8_172 f_8_1 (by decide) ?_
  refine zs_iload_n (pc := 7) C dX8_crumb_7 rfl ?_
  refine zVip1 (pc := 8) C dX8_crumb_8 v_X8_197 (c_X4_hasK hX hZ) (by decide) (by decide) ⟨Nat.zero_le _, Nat.zero_le _⟩ (Nat.le_of_ble_eq_true rfl) (fun x8 l8 u8 hp8 => ?_)
  have hq8 := hp8
  have hb8 := hq8.2
  have hc8 := hq8.1
  refine zs_if_eq (tgt := 23) (pc := 11) C dX8_crumb_11 (by decide) (fun h11 => ?_) (fun h11 => ?_)
  · skip
    refine zs_iconst (pc := 23) C dX8_crumb_23 (by decide) ?_
    exact zs_iret (pc := 24) C hr hlk dX8_crumb_24 ⟨by repeat (first | exact zsm_rf | assumption | refine zsm_C (by decide) ?_ | refine zsm_I (by decide) ?_ | refine zsm_J ?_ | refine zsm_c (by assumption) (by decide) ?_), (by refine (if_neg ?_).symm; intro z; first | omega | (have y := hb8.mpr z.1; omega))⟩
  · skip
    refine zs_iload_n (pc := 14) C dX8_crumb_14 rfl ?_
    refine zs_if_lt (tgt := 23) (pc := 15) C dX8_crumb_15 (by decide) (fun h15 => ?_) (fun h15 => ?_)
    · skip
      refine zs_iconst (pc := 23) C dX8_crumb_23 (by decide) ?_
      exact zs_iret (pc := 24) C hr hlk dX8_crumb_24 ⟨by repeat (first | exact zsm_rf | assumption | refine zsm_C (by decide) ?_ | refine zsm_I (by decide) ?_ | refine zsm_J ?_ | refine zsm_c (by assumption) (by decide) ?_), (by refine (if_neg ?_).symm; intro z; first | omega | (have y := hb8.mpr z.1; omega))⟩
    · skip
      refine zs_iload_n (pc := 18) C dX8_crumb_18 rfl ?_
      refine zs_iconst (pc := 19) C dX8_crumb_19 (by decide) ?_
      refine zs_icmp_le (tgt := 25) (pc := 20) C dX8_crumb_20 (by decide) (fun h20 => ?_) (fun h20 => ?_)
      · skip
        have hok : (0 ≤ a ∧ a < W 0 0) ∧ 0 ≤ k ∧ k ≤ 3 := ⟨hb8.mp (by omega), by omega⟩
        have hcr := fun (v : Int) (h : crV A W a k = v) => (show v = (if (0 ≤ a ∧ a < W 0 0) ∧ 0 ≤ k ∧ k ≤ 3 then crV A W a k else -1) from by rw [if_pos hok]; exact h.symm)
        refine zs_iconst (pc := 25) C dX8_crumb_25 (by decide) ?_
        refine zs_istore_n (pc := 26) C dX8_crumb_26 (by decide) ?_
        dsimp only [zset, zclr, znone]
        refine zs_iconst (pc := 27) C dX8_crumb_27 (by decide) ?_
        refine zs_istore (pc := 28) C dX8_crumb_28 (by decide) ?_
        dsimp only [zset, zclr, znone]
        refine zs_iconst (pc := 30) C dX8_crumb_30 (by decide) ?_
        refine zs_istore (pc := 31) C dX8_crumb_31 (by decide) ?_
        dsimp only [zset, zclr, znone]
        have L33 : ∀ (nn : Nat) (x3 x4 x5 : Int) (G1 : zH), (0 ≤ x5 ∧ x5 ≤ A 4 0) → (x3 = wBi (crT A W a) x5.toNat) → (x4 = wBi (crI A W a) x5.toNat) → (zsm [] G G1) → (4 - x5).toNat < nn → Z p l e (zrm 4) s m args below meth c Γ 6 0 0 (MQ below (zQc Γ (zpi (fun x G' => zsm [] G G' ∧ (x = (if (0 ≤ a ∧ a < W 0 0) ∧ 0 ≤ k ∧ k ≤ 3 then crV A W a k else -1))))) args s 0 0 (zA Γ)) 33 [some (zr 9 w), some (zi a), some (zi k), some (zi x3), some (zi x4), some (zi x5)] [] G1 := by
          intro nn
          induction nn with
          | zero => intro x3 x4 x5 G1 h33_0 h33_1 h33_2 h33_3 hm; exact absurd hm (Nat.not_lt_zero _)
          | succ nn ih33 =>
            intro x3 x4 x5 G1 h33_0 h33_1 h33_2 h33_3 hm33
            have hZ1 := QQ_n h33_3 hZ
            refine zs_iload (pc := 33) C dX8_crumb_33 rfl ?_
            refine zs_aload_n (pc := 35) C dX8_crumb_35 rfl ?_
            refine zs_getd (r := 903) (pc := 36) C dX8_crumb_36 w_X8_25 f_9_3 (by decide) rfl (fun v36 e36 t36 => ?_)
            try simp only [h33_3.2, zuI_1, zuI_2, zuJ_1, zuJ_2, zuJ_3, zuP_1, zuP_2, zuP_3, zuC_1, zuC_2, reduceIte, Nat.reduceEqDiff, false_and, and_false, true_and, and_true, and_self, or_true, true_or, or_false, false_or] at e36
            rw [hI] at e36
            subst v36
            refine zs_getf (pc := 39) C dX8_crumb_39 w_X8_262 f_6_2 (by decide) ?_
            refine zs_iconst (pc := 42) C dX8_crumb_42 (by decide) ?_
            refine zs_iald (r := 2037) (pc := 43) C dX8_crumb_43 a_37 (by decide) (by omega) rfl rfl (fun v43 e43 l43 u43 => ?_)
            try simp only [QQ_2037 hZ1, Int.reduceToNat] at e43
            try subst v43
            refine zs_icmp_ge (tgt := 117) (pc := 44) C dX8_crumb_44 (by decide) (fun h44 => ?_) (fun h44 => ?_)
            · skip
              have hx5 : x5 = A 4 0 := by omega
              rw [hx5] at h33_1 h33_2
              have hb3 := wBi_15 (P := (crT A W a)) (m := (A 4 0).toNat) (by omega)
              have hb4 := wBi_15 (P := (crI A W a)) (m := (A 4 0).toNat) (by omega)
              rw [← h33_1] at hb3
              rw [← h33_2] at hb4
              refine zs_iload_n (pc := 117) C dX8_crumb_117 rfl ?_
              refine zs_name (fun y118 ey118 => ?_)
              rcases (show y118 = 0 ∨ y118 = 1 ∨ (y118 ≠ 0 ∧ y118 ≠ 1) by omega) with h118 | h118 | h118
              · skip
                refine zs_look (tgt := 144) (pc := 118) C dX8_crumb_118 (by decide) (by first | (rw [h118]; done) | (rw [h118]; rfl)) (by decide) ?_
                have hv : crV A W a k = x3 := by unfold crV; rw [if_pos (by omega), h33_1]
                refine zs_iload_n (pc := 144) C dX8_crumb_144 rfl ?_
                exact zs_iret (pc := 145) C hr hlk dX8_crumb_145 ⟨by repeat (first | exact zsm_rf | assumption | refine zsm_C (by decide) ?_ | refine zsm_I (by decide) ?_ | refine zsm_J ?_ | refine zsm_c (by assumption) (by decide) ?_), hcr _ hv⟩
              · skip
                refine zs_look (tgt := 146) (pc := 118) C dX8_crumb_118 (by decide) (by first | (rw [h118]; done) | (rw [h118]; rfl)) (by decide) ?_
                have hv : crV A W a k = x4 := by unfold crV; rw [if_neg (by omega), if_pos (by omega), h33_2]
                refine zs_iload (pc := 146) C dX8_crumb_146 rfl ?_
                exact zs_iret (pc := 148) C hr hlk dX8_crumb_148 ⟨by repeat (first | exact zsm_rf | assumption | refine zsm_C (by decide) ?_ | refine zsm_I (by decide) ?_ | refine zsm_J ?_ | refine zsm_c (by assumption) (by decide) ?_), hcr _ hv⟩
              · skip
                refine zs_look (off := 31) (tgt := 149) (pc := 118) C dX8_crumb_118 (by decide) (by have h9 := h118; simp [Op.lookupswitch.offset]; omega) (by decide) ?_
                refine zs_aload_n (pc := 149) C dX8_crumb_149 rfl ?_
                refine zs_iload_n (pc := 150) C dX8_crumb_150 rfl ?_
                refine zs_iload_n (pc := 151) C dX8_crumb_151 rfl ?_
                refine zs_iload (pc := 152) C dX8_crumb_152 rfl ?_
                refine zs_iload_n (pc := 154) C dX8_crumb_154 rfl ?_
                refine zs_iconst (pc := 155) C dX8_crumb_155 (by decide) ?_
                refine zs_icmp_ne (tgt := 163) (pc := 156) C dX8_crumb_156 (by decide) (fun h156 => ?_) (fun h156 => ?_)
                · skip
                  have hk3 : k = 3 := by omega
                  refine zs_iconst (pc := 163) C dX8_crumb_163 (by decide) ?_
                  refine zVip4 (pc := 164) C dX8_crumb_164 v_X8_269 (c_X8_oddsOfLieK hX hZ1 (rf_m h33_3 hI) hW hT (by omega) hb3 hb4) (by decide) (by decide) ⟨Nat.zero_le _, Nat.zero_le _⟩ (Nat.le_of_ble_eq_true rfl) (fun x164 l164 u164 hp164 => ?_)
                  have hq164 := hp164
                  have hv : crV A W a k = x164 := by unfold crV; rw [if_neg (by omega), if_neg (by omega), ← h33_1, ← h33_2, hq164]; first | (rw [hk2, if_pos (by decide)]; done) | (rw [hk3, if_neg (by decide)]; done)
                  exact zs_iret (pc := 167) C hr hlk dX8_crumb_167 ⟨by repeat (first | exact zsm_rf | assumption | refine zsm_C (by decide) ?_ | refine zsm_I (by decide) ?_ | refine zsm_J ?_ | refine zsm_c (by assumption) (by decide) ?_), hcr _ hv⟩
                · skip
                  have hk2 : k = 2 := by omega
                  refine zs_iconst (pc := 159) C dX8_crumb_159 (by decide) ?_
                  refine zs_goto (tgt := 164) (pc := 160) C dX8_crumb_160 (by decide) ?_
                  refine zVip4 (pc := 164) C dX8_crumb_164 v_X8_269 (c_X8_oddsOfLieK hX hZ1 (rf_m h33_3 hI) hW hT (by omega) hb3 hb4) (by decide) (by decide) ⟨Nat.zero_le _, Nat.zero_le _⟩ (Nat.le_of_ble_eq_true rfl) (fun x164 l164 u164 hp164 => ?_)
                  have hq164 := hp164
                  have hv : crV A W a k = x164 := by unfold crV; rw [if_neg (by omega), if_neg (by omega), ← h33_1, ← h33_2, hq164]; first | (rw [hk2, if_pos (by decide)]; done) | (rw [hk3, if_neg (by decide)]; done)
                  exact zs_iret (pc := 167) C hr hlk dX8_crumb_167 ⟨by repeat (first | exact zsm_rf | assumption | refine zsm_C (by decide) ?_ | refine zsm_I (by decide) ?_ | refine zsm_J ?_ | refine zsm_c (by assumption) (by decide) ?_), hcr _ hv⟩
            · skip
              refine zs_aload_n (pc := 47) C dX8_crumb_47 rfl ?_
              refine zs_getf (pc := 48) C dX8_crumb_48 w_X8_34 f_9_4 (by decide) ?_
              refine zs_iload_n (pc := 51) C dX8_crumb_51 rfl ?_
              refine zs_iconst (pc := 52) C dX8_crumb_52 (by decide) ?_
              refine zs_iload (pc := 53) C dX8_crumb_53 rfl ?_
              refine zVi3 (pc := 55) C dX8_crumb_55 v_X8_265 (c_X7_fineThenK hX hZ1 hW hT (by omega) (by omega) (by omega) (by decide)) (by decide) (by decide) ⟨Nat.zero_le _, Nat.zero_le _⟩ (Nat.le_of_ble_eq_true rfl) (fun x55 G55 l55 u55 hp55 => ?_)
              obtain ⟨hz55, hq55⟩ := hp55
              first | have hZ55 := QQ_n hz55 hZ | have hZ55 := QQ_n hz55 hZ1
              have hx55 : x55 = wThen A W a 0 x5 := hq55
              have hs3 := crT_s (A := A) (W := W) (k := a) (x := x5) (by omega)
              have hs4 := crI_s (A := A) (W := W) (k := a) (x := x5) (by omega)
              have hi3 := wBi_in (P := (crT A W a)) x5.toNat (by omega)
              have hi4 := wBi_in (P := (crI A W a)) x5.toNat (by omega)
              have hb3 := bor_i (k := x5) (x := x3) (by omega) (by rw [h33_1]; exact hi3)
              have hb4 := bor_i (k := x5) (x := x4) (by omega) (by rw [h33_2]; exact hi4)
              refine zs_aload_n (pc := 58) C dX8_crumb_58 rfl ?_
              refine zs_getf (pc := 59) C dX8_crumb_59 w_X8_34 f_9_4 (by decide) ?_
              refine zs_getf (pc := 62) C dX8_crumb_62 w_X8_172 f_8_1 (by decide) ?_
              refine zs_getf (pc := 65) C dX8_crumb_65 w_X8_206 f_5_2 (by decide) ?_
              refine zs_iload_n (pc := 68) C dX8_crumb_68 rfl ?_
              refine zs_iald (r := 2028) (pc := 69) C dX8_crumb_69 a_28 (by decide) (by omega) rfl (r_2028 _) (fun v69 e69 l69 u69 => ?_)
              try simp only [QQ_2028 hZ55, QQ_2028 hZ1] at e69
              try subst v69
              refine zs_icmp_eq (tgt := 76) (pc := 70) C dX8_crumb_70 (by decide) (fun h70 => ?_) (fun h70 => ?_)
              · skip
                have hal : wThen A W a 0 x5 = W 3 a.toNat := hx55.symm.trans h70
                refine zs_aload_n (pc := 76) C dX8_crumb_76 rfl ?_
                refine zs_getf (pc := 77) C dX8_crumb_77 w_X8_34 f_9_4 (by decide) ?_
                refine zs_getf (pc := 80) C dX8_crumb_80 w_X8_172 f_8_1 (by decide) ?_
                refine zs_iload_n (pc := 83) C dX8_crumb_83 rfl ?_
                refine zs_iload (pc := 84) C dX8_crumb_84 rfl ?_
                refine zVip2 (pc := 86) C dX8_crumb_86 v_X8_212 (c_X4_lieByK hX hZ55 (by omega)) (by decide) (by decide) ⟨Nat.zero_le _, Nat.zero_le _⟩ (Nat.le_of_ble_eq_true rfl) (fun x86 l86 u86 hp86 => ?_)
                have hq86 := hp86
                have hx86 : x86 = wLie W a x5 := hq86
                refine zs_if_ne (tgt := 102) (pc := 89) C dX8_crumb_89 (by decide) (fun h89 => ?_) (fun h89 => ?_)
                · skip
                  have hl : ¬ wLie W a x5 = 0 := by omega
                  rw [if_pos ⟨hal, hl⟩] at hs4
                  rw [if_neg (fun z => hl z.2)] at hs3
                  refine zs_iload (pc := 102) C dX8_crumb_102 rfl ?_
                  refine zs_iconst (pc := 104) C dX8_crumb_104 (by decide) ?_
                  refine zs_iload (pc := 105) C dX8_crumb_105 rfl ?_
                  refine zs_ishlX (pc := 107) C dX8_crumb_107 (fun z107 ez107 hz1071 hz1072 => ?_)
                  refine zs_iorX (pc := 108) C dX8_crumb_108 (fun z108 ez108 hz1081 hz1082 => ?_)
                  have st4 : z108 = wBi (crI A W a) (x5 + 1).toNat := by rw [ez108, ez107, hb4.1, hs4, h33_2]
                  have st3 : x3 = wBi (crT A W a) (x5 + 1).toNat := by omega
                  refine zs_istore (pc := 109) C dX8_crumb_109 (by decide) ?_
                  dsimp only [zset, zclr, znone]
                  first | refine zs_iinc (pc := 111) C dX8_crumb_111 rfl (by decide) (by omega) ?_ | refine zs_iincF (pc := 111) C dX8_crumb_111 rfl (by decide) (fun z111 hz1111 hz1112 => ?_)
                  dsimp only [zset, zclr, znone]
                  refine zs_goto (tgt := 33) (pc := 114) C dX8_crumb_114 (by decide) ?_
                  exact zs_wk (ih33 _ _ _ _ (by omega) st3 st4 (by repeat (first | exact zsm_rf | assumption | refine zsm_C (by decide) ?_ | refine zsm_I (by decide) ?_ | refine zsm_J ?_ | refine zsm_c (by assumption) (by decide) ?_)) (by first | omega | (simp only [zuI_1, zuI_2, zuJ_1, zuJ_2, zuJ_3, zuP_1, zuP_2, zuP_3, zuC_1, zuC_2, reduceIte, Nat.reduceEqDiff, false_and, and_false, true_and, and_true, and_self, or_true, true_or, or_false, false_or]; omega))) (zwk_s rfl (zwk_s rfl (zwk_s rfl (zwk_s rfl (zwk_s rfl (zwk_s rfl zwk_0))))))
                · skip
                  have hl : wLie W a x5 = 0 := by omega
                  rw [if_pos ⟨hal, hl⟩] at hs3
                  rw [if_neg (fun z => z.2 hl)] at hs4
                  refine zs_iload_n (pc := 92) C dX8_crumb_92 rfl ?_
                  refine zs_iconst (pc := 93) C dX8_crumb_93 (by decide) ?_
                  refine zs_iload (pc := 94) C dX8_crumb_94 rfl ?_
                  refine zs_ishlX (pc := 96) C dX8_crumb_96 (fun z96 ez96 hz961 hz962 => ?_)
                  refine zs_iorX (pc := 97) C dX8_crumb_97 (fun z97 ez97 hz971 hz972 => ?_)
                  have st3 : z97 = wBi (crT A W a) (x5 + 1).toNat := by rw [ez97, ez96, hb3.1, hs3, h33_1]
                  have st4 : x4 = wBi (crI A W a) (x5 + 1).toNat := by omega
                  refine zs_istore_n (pc := 98) C dX8_crumb_98 (by decide) ?_
                  dsimp only [zset, zclr, znone]
                  refine zs_goto (tgt := 111) (pc := 99) C dX8_crumb_99 (by decide) ?_
                  first | refine zs_iinc (pc := 111) C dX8_crumb_111 rfl (by decide) (by omega) ?_ | refine zs_iincF (pc := 111) C dX8_crumb_111 rfl (by decide) (fun z111 hz1111 hz1112 => ?_)
                  dsimp only [zset, zclr, znone]
                  refine zs_goto (tgt := 33) (pc := 114) C dX8_crumb_114 (by decide) ?_
                  exact zs_wk (ih33 _ _ _ _ (by omega) st3 st4 (by repeat (first | exact zsm_rf | assumption | refine zsm_C (by decide) ?_ | refine zsm_I (by decide) ?_ | refine zsm_J ?_ | refine zsm_c (by assumption) (by decide) ?_)) (by first | omega | (simp only [zuI_1, zuI_2, zuJ_1, zuJ_2, zuJ_3, zuP_1, zuP_2, zuP_3, zuC_1, zuC_2, reduceIte, Nat.reduceEqDiff, false_and, and_false, true_and, and_true, and_self, or_true, true_or, or_false, false_or]; omega))) (zwk_s rfl (zwk_s rfl (zwk_s rfl (zwk_s rfl (zwk_s rfl (zwk_s rfl zwk_0))))))
              · skip
                rw [if_neg (fun z => h70 (hx55.trans z.1))] at hs3 hs4
                have st3 : x3 = wBi (crT A W a) (x5 + 1).toNat := by omega
                have st4 : x4 = wBi (crI A W a) (x5 + 1).toNat := by omega
                refine zs_goto (tgt := 111) (pc := 73) C dX8_crumb_73 (by decide) ?_
                first | refine zs_iinc (pc := 111) C dX8_crumb_111 rfl (by decide) (by omega) ?_ | refine zs_iincF (pc := 111) C dX8_crumb_111 rfl (by decide) (fun z111 hz1111 hz1112 => ?_)
                dsimp only [zset, zclr, znone]
                refine zs_goto (tgt := 33) (pc := 114) C dX8_crumb_114 (by decide) ?_
                exact zs_wk (ih33 _ _ _ _ (by omega) st3 st4 (by repeat (first | exact zsm_rf | assumption | refine zsm_C (by decide) ?_ | refine zsm_I (by decide) ?_ | refine zsm_J ?_ | refine zsm_c (by assumption) (by decide) ?_)) (by first | omega | (simp only [zuI_1, zuI_2, zuJ_1, zuJ_2, zuJ_3, zuP_1, zuP_2, zuP_3, zuC_1, zuC_2, reduceIte, Nat.reduceEqDiff, false_and, and_false, true_and, and_true, and_self, or_true, true_or, or_false, false_or]; omega))) (zwk_s rfl (zwk_s rfl (zwk_s rfl (zwk_s rfl (zwk_s rfl (zwk_s rfl zwk_0))))))
        exact zs_wk (L33 _ _ _ _ _ (by omega) rfl rfl zsm_rf (Nat.lt_succ_self _)) (zwk_s rfl (zwk_s rfl (zwk_s rfl (zwk_s rfl (zwk_s rfl (zwk_s rfl zwk_0))))))
      · skip
        refine zs_iconst (pc := 23) C dX8_crumb_23 (by decide) ?_
        exact zs_iret (pc := 24) C hr hlk dX8_crumb_24 ⟨by repeat (first | exact zsm_rf | assumption | refine zsm_C (by decide) ?_ | refine zsm_I (by decide) ?_ | refine zsm_J ?_ | refine zsm_c (by assumption) (by decide) ?_), (by refine (if_neg ?_).symm; intro z; first | omega | (have y := hb8.mpr z.1; omega))⟩

set_option maxHeartbeats 4000000 in
set_option maxRecDepth 100000 in
theorem c_X9_commonW {l : Launch} {Γ : zΓ} {G : zH} {a b : Int} (hX : zXs Γ) (h : 0 ≤ a ∧ 0 < b ∧ b < 512) : zMet l Γ yX9_common cX9_common 5 (some .int) 0 [zi a, zi b] G (zpi (fun x G' => G' = G ∧ (x = wEu 64 a b ∧ x ≠ 0))) := by
  refine zMet_of RX9 hX (by decide) rfl (Nat.le_of_ble_eq_true rfl) ?_
  intro p e s m args below meth c C hr hlk
  show Z p l e (zrm 0) s m args below meth c Γ 5 0 0 (MQ below (zQc Γ (zpi (fun x G' => G' = G ∧ (x = wEu 64 a b ∧ x ≠ 0)))) args s 0 0 (zA Γ)) 0 [some (zi a), some (zi b), none, none, none] [] G
  refine zs_loc 0 rfl (fun ha0 hb0 => ?_)
  refine zs_loc 1 rfl (fun ha1 hb1 => ?_)
  refine zs_iload_n (pc := 0) C dX9_common_0 rfl ?_
  refine zs_istore_n (pc := 1) C dX9_common_1 (by decide) ?_
  dsimp only [zset, zclr, znone]
  refine zs_iload_n (pc := 2) C dX9_common_2 rfl ?_
  refine zs_istore_n (pc := 3) C dX9_common_3 (by decide) ?_
  dsimp only [zset, zclr, znone]
  have L4 : ∀ (nn : Nat) (x2 x3 : Int), (0 ≤ x2 ∧ 0 ≤ x3 ∧ x3 < 512) → (wEu 64 x2 x3 = wEu 64 a b) → x3.toNat < nn → Z p l e (zrm 0) s m args below meth c Γ 5 0 0 (MQ below (zQc Γ (zpi (fun x G' => G' = G ∧ (x = wEu 64 a b ∧ x ≠ 0)))) args s 0 0 (zA Γ)) 4 [some (zi a), some (zi b), some (zi x2), some (zi x3), none] [] G := by
    intro nn
    induction nn with
    | zero => intro x2 x3 h4_0 h4_1 hm; exact absurd hm (Nat.not_lt_zero _)
    | succ nn ih4 =>
      intro x2 x3 h4_0 h4_1 hm4
      refine zs_iload_n (pc := 4) C dX9_common_4 rfl ?_
      refine zs_if_eq (tgt := 21) (pc := 5) C dX9_common_5 (by decide) (fun h5 => ?_) (fun h5 => ?_)
      · skip
        refine zs_iload_n (pc := 21) C dX9_common_21 rfl ?_
        exact zs_iret (pc := 22) C hr hlk dX9_common_22 ⟨rfl, by have e : x3 = 0 := (by omega); have hv : x2 = wEu 64 a b := (by rw [← h4_1, e, wEu_0]); exact ⟨hv, by rw [hv]; exact wEu_ne (by omega) (by omega) (by omega)⟩⟩
      · skip
        refine zs_iload_n (pc := 8) C dX9_common_8 rfl ?_
        refine zs_iload_n (pc := 9) C dX9_common_9 rfl ?_
        first | refine zs_irem (pc := 10) C dX9_common_10 (by omega) (by omega) (fun hz101 hz102 => ?_) | refine zs_iremF (pc := 10) C dX9_common_10 (by omega) (fun z10 hz101 hz102 => ?_)
        refine zs_istore (pc := 11) C dX9_common_11 (by decide) ?_
        dsimp only [zset, zclr, znone]
        refine zs_iload_n (pc := 13) C dX9_common_13 rfl ?_
        refine zs_istore_n (pc := 14) C dX9_common_14 (by decide) ?_
        dsimp only [zset, zclr, znone]
        refine zs_iload (pc := 15) C dX9_common_15 rfl ?_
        refine zs_istore_n (pc := 17) C dX9_common_17 (by decide) ?_
        dsimp only [zset, zclr, znone]
        refine zs_goto (tgt := 4) (pc := 18) C dX9_common_18 (by decide) ?_
        exact zs_wk (ih4 _ _ (by omega) (by rw [← h4_1]; exact (wEu_i h4_0.1 h4_0.2 (by omega)).symm) (by first | omega | (simp only [zuI_1, zuI_2, zuJ_1, zuJ_2, zuJ_3, zuP_1, zuP_2, zuP_3, zuC_1, zuC_2, reduceIte, Nat.reduceEqDiff, false_and, and_false, true_and, and_true, and_self, or_true, true_or, or_false, false_or]; omega))) (zwk_s rfl (zwk_s rfl (zwk_s rfl (zwk_s rfl (zwk_n zwk_0)))))
  exact zs_wk (L4 _ _ _ (by omega) rfl (Nat.lt_succ_self _)) (zwk_s rfl (zwk_s rfl (zwk_s rfl (zwk_s rfl (zwk_n zwk_0)))))

set_option maxHeartbeats 4000000 in
set_option maxRecDepth 100000 in
theorem c_X9_crumbW {l : Launch} {Γ : zΓ} {G : zH} {w : Nat} {a b : Int} {A W : aS}  (hX : zXs Γ) (hR : rW Γ w 0 W G) (hK : kR Γ w A G) (hW : WI A W) (hT : TA A) (hS : rS Γ w W G)  : zMet l Γ yX9_crumb cX9_crumb 9 (some .int) 4 [zr 10 w, zi a, zi b] G (zpi (fun x G' => zsm [1002, 1050] G G' ∧ (x = (if (0 ≤ a ∧ a < W 0 0) ∧ 0 ≤ b ∧ b ≤ 3 then crV A W a b else -1) ∧ zsj [2079, 2080] G G'))) := by
  refine zMet_of RX9 hX (by decide) rfl (Nat.le_of_ble_eq_true rfl) ?_
  intro p e s m args below meth c C hr hlk
  show Z p l e (zrm 4) s m args below meth c Γ 9 0 0 (MQ below (zQc Γ (zpi (fun x G' => zsm [1002, 1050] G G' ∧ (x = (if (0 ≤ a ∧ a < W 0 0) ∧ 0 ≤ b ∧ b ≤ 3 then crV A W a b else -1) ∧ zsj [2079, 2080] G G')))) args s 0 0 (zA Γ)) 0 [some (zr 10 w), some (zi a), some (zi b), none, none, none, none, none, none] [] G
  refine zs_loc 1 rfl (fun ha1 hb1 => ?_)
  refine zs_loc 2 rfl (fun ha2 hb2 => ?_)
  have hT0 := hT.1
  have h00 := hW.1
  have r1 := hR.2.2.1.1
  have k12 := hK.1.1
  refine zs_aload_n (pc := 0) C dX9_crumb_0 rfl ?_
  refine zs_iconst (pc := 1) C dX9_crumb_1 (by decide) ?_
  refine zs_puti (r := 1002) (pc := 2) C dX9_crumb_2 w_X9_178 f_10_2 rfl (r_1002 0) (by omega) ?_
  refine zs_iload_n (pc := 5) C dX9_crumb_5 rfl ?_
  refine zs_if_lt (tgt := 28) (pc := 6) C dX9_crumb_6 (by decide) (fun h6 => ?_) (fun h6 => ?_)
  · skip
    refine zs_iconst (pc := 28) C dX9_crumb_28 (by decide) ?_
    exact zs_iret (pc := 29) C hr hlk dX9_crumb_29 ⟨by repeat (first | exact zsm_rf | assumption | refine zsm_C (by decide) ?_ | refine zsm_I (by decide) ?_ | refine zsm_J ?_ | refine zsm_c (by assumption) (by decide) ?_), ⟨(by refine (if_neg ?_).symm; intro z; first | omega | (have y := hq22.2.mpr z.2; omega)), (by repeat (first | exact zsj_rf | assumption | refine zsj_I ?_ | refine zsj_J (by decide) ?_ | refine zsj_e (by assumption) ?_ | refine zsj_c (by assumption) (by decide) ?_))⟩⟩
  · skip
    refine zs_iload_n (pc := 9) C dX9_crumb_9 rfl ?_
    refine zs_aload_n (pc := 10) C dX9_crumb_10 rfl ?_
    refine zs_getf (pc := 11) C dX9_crumb_11 w_X9_106 f_10_57 (by decide) ?_
    refine zs_iconst (pc := 14) C dX9_crumb_14 (by decide) ?_
    refine zs_iald (r := 2087) (pc := 15) C dX9_crumb_15 a_87 (by decide) (by omega) rfl (r_2087 _) (fun v15 e15 l15 u15 => ?_)
    try simp only [zuI_1, zuI_2, zuJ_1, zuJ_2, zuJ_3, zuP_1, zuP_2, zuP_3, zuC_1, zuC_2, reduceIte, Nat.reduceEqDiff, false_and, and_false, true_and, and_true, and_self, or_true, true_or, or_false, false_or] at e15
    have y15 : v15 = W 0 0 := e15.trans r1
    refine zs_icmp_ge (tgt := 28) (pc := 16) C dX9_crumb_16 (by decide) (fun h16 => ?_) (fun h16 => ?_)
    · skip
      refine zs_iconst (pc := 28) C dX9_crumb_28 (by decide) ?_
      exact zs_iret (pc := 29) C hr hlk dX9_crumb_29 ⟨by repeat (first | exact zsm_rf | assumption | refine zsm_C (by decide) ?_ | refine zsm_I (by decide) ?_ | refine zsm_J ?_ | refine zsm_c (by assumption) (by decide) ?_), ⟨(by refine (if_neg ?_).symm; intro z; first | omega | (have y := hq22.2.mpr z.2; omega)), (by repeat (first | exact zsj_rf | assumption | refine zsj_I ?_ | refine zsj_J (by decide) ?_ | refine zsj_e (by assumption) ?_ | refine zsj_c (by assumption) (by decide) ?_))⟩⟩
    · skip
      refine zs_iload_n (pc := 19) C dX9_crumb_19 rfl ?_
      refine zs_iconst (pc := 20) C dX9_crumb_20 (by decide) ?_
      refine zs_iconst (pc := 21) C dX9_crumb_21 (by decide) ?_
      refine zSip3 (pc := 22) C dX9_crumb_22 s_X9_223 (c_X9_isIn hX ) (by decide) ⟨Nat.zero_le _, Nat.zero_le _⟩ (Nat.le_of_ble_eq_true rfl) (fun x22 l22 u22 hp22 => ?_)
      have hq22 := hp22
      try simp only [zuI_1, zuI_2, zuJ_1, zuJ_2, zuJ_3, zuP_1, zuP_2, zuP_3, zuC_1, zuC_2, reduceIte, Nat.reduceEqDiff, false_and, and_false, true_and, and_true, and_self, or_true, true_or, or_false, false_or] at hq22
      refine zs_if_ne (tgt := 30) (pc := 25) C dX9_crumb_25 (by decide) (fun h25 => ?_) (fun h25 => ?_)
      · skip
        have hok : (0 ≤ a ∧ a < W 0 0) ∧ 0 ≤ b ∧ b ≤ 3 := ⟨by omega, hq22.2.mp (by omega)⟩
        have hcr := fun (v : Int) (h : crV A W a b = v) => (show v = (if (0 ≤ a ∧ a < W 0 0) ∧ 0 ≤ b ∧ b ≤ 3 then crV A W a b else -1) from by rw [if_pos hok]; exact h.symm)
        have hk1 := (hW.2.1 a.toNat (by omega)).1
        have hk10 := (hW.2.1 a.toNat (by omega)).2.2.2.2.2.2.2.2.2
        obtain ⟨s1, s2, s3, s4, s5, s6, s7, s8⟩ := hS.1 a.toNat (by omega)
        have hh := hT.2.2.1 (W 1 a.toNat).toNat (by omega)
        refine zs_iconst (pc := 30) C dX9_crumb_30 (by decide) ?_
        refine zs_istore_n (pc := 31) C dX9_crumb_31 (by decide) ?_
        dsimp only [zset, zclr, znone]
        refine zs_iconst (pc := 32) C dX9_crumb_32 (by decide) ?_
        refine zs_istore (pc := 33) C dX9_crumb_33 (by decide) ?_
        dsimp only [zset, zclr, znone]
        refine zs_iconst (pc := 35) C dX9_crumb_35 (by decide) ?_
        refine zs_istore (pc := 36) C dX9_crumb_36 (by decide) ?_
        dsimp only [zset, zclr, znone]
        refine zs_iconst (pc := 38) C dX9_crumb_38 (by decide) ?_
        refine zs_istore (pc := 39) C dX9_crumb_39 (by decide) ?_
        dsimp only [zset, zclr, znone]
        refine zs_aload_n (pc := 41) C dX9_crumb_41 rfl ?_
        refine zs_getf (pc := 42) C dX9_crumb_42 w_X9_36 f_10_27 (by decide) ?_
        refine zs_aload_n (pc := 45) C dX9_crumb_45 rfl ?_
        refine zs_getf (pc := 46) C dX9_crumb_46 w_X9_118 f_10_62 (by decide) ?_
        refine zs_iload_n (pc := 49) C dX9_crumb_49 rfl ?_
        refine zs_iald (r := 2091) (pc := 50) C dX9_crumb_50 a_91 (by decide) (by omega) rfl (r_2091 _) (fun v50 e50 l50 u50 => ?_)
        try simp only [zuI_1, zuI_2, zuJ_1, zuJ_2, zuJ_3, zuP_1, zuP_2, zuP_3, zuC_1, zuC_2, reduceIte, Nat.reduceEqDiff, false_and, and_false, true_and, and_true, and_self, or_true, true_or, or_false, false_or] at e50
        have y50 : v50 = W 1 a.toNat := e50.trans s1
        subst y50
        refine zs_iald (r := 2064) (pc := 51) C dX9_crumb_51 a_64 (by decide) (by omega) rfl (r_2064 _) (fun v51 e51 l51 u51 => ?_)
        try simp only [zuI_1, zuI_2, zuJ_1, zuJ_2, zuJ_3, zuP_1, zuP_2, zuP_3, zuC_1, zuC_2, reduceIte, Nat.reduceEqDiff, false_and, and_false, true_and, and_true, and_self, or_true, true_or, or_false, false_or] at e51
        have y51 : v51 = (A 7 (W 1 a.toNat).toNat) := e51.trans (hK.2.2.2.1 (W 1 a.toNat).toNat (by omega)).2
        subst y51
        refine zs_istore (pc := 52) C dX9_crumb_52 (by decide) ?_
        dsimp only [zset, zclr, znone]
        refine zs_iconst (pc := 54) C dX9_crumb_54 (by decide) ?_
        refine zs_istore (pc := 55) C dX9_crumb_55 (by decide) ?_
        dsimp only [zset, zclr, znone]
        have L57 : ∀ (nn : Nat) (x3 x4 x5 x6 x8 : Int) (G1 : zH), (0 ≤ x8 ∧ x8 ≤ A 4 0) → (x3 = wBi (crT A W a) x8.toNat ∧ x4 = wBi (crI A W a) x8.toNat) → (x6 = pc4 (wBi (crI A W a) x8.toNat) * (100 - (A 7 (W 1 a.toNat).toNat))) → (x5 = x6 + pc4 (wBi (crT A W a) x8.toNat) * (A 7 (W 1 a.toNat).toNat)) → (0 ≤ x6 ∧ x6 ≤ x5 ∧ x5 ≤ 100 * x8) → (zsm [1002, 1050] G G1) → (zsj [2079, 2080] G G1) → (4 - x8).toNat < nn → Z p l e (zrm 4) s m args below meth c Γ 9 0 0 (MQ below (zQc Γ (zpi (fun x G' => zsm [1002, 1050] G G' ∧ (x = (if (0 ≤ a ∧ a < W 0 0) ∧ 0 ≤ b ∧ b ≤ 3 then crV A W a b else -1) ∧ zsj [2079, 2080] G G')))) args s 0 0 (zA Γ)) 57 [some (zr 10 w), some (zi a), some (zi b), some (zi x3), some (zi x4), some (zi x5), some (zi x6), some (zi (A 7 (W 1 a.toNat).toNat)), some (zi x8)] [] G1 := by
          intro nn
          induction nn with
          | zero => intro x3 x4 x5 x6 x8 G1 h57_0 h57_1 h57_2 h57_3 h57_4 h57_5 h57_6 hm; exact absurd hm (Nat.not_lt_zero _)
          | succ nn ih57 =>
            intro x3 x4 x5 x6 x8 G1 h57_0 h57_1 h57_2 h57_3 h57_4 h57_5 h57_6 hm57
            refine zs_iload (pc := 57) C dX9_crumb_57 rfl ?_
            refine zs_aload_n (pc := 59) C dX9_crumb_59 rfl ?_
            refine zs_geti (r := 1012) (pc := 60) C dX9_crumb_60 w_X9_258 f_10_12 rfl (r_1012 0) (fun v60 e60 l60 u60 => ?_)
            have y60 : v60 = A 4 0 := e60.trans (by rw [h57_5.1 1012 (by decide)]; exact k12)
            subst y60
            refine zs_icmp_ge (tgt := 166) (pc := 63) C dX9_crumb_63 (by decide) (fun h63 => ?_) (fun h63 => ?_)
            · skip
              have hx8 : x8 = A 4 0 := by omega
              have hb3 := wBi_15 (P := (crT A W a)) (m := (A 4 0).toNat) (by omega)
              have hb4 := wBi_15 (P := (crI A W a)) (m := (A 4 0).toNat) (by omega)
              rw [hx8] at h57_1 h57_2 h57_3
              have hL : x6 = oL (A 7 (W 1 a.toNat).toNat) (wBi (crI A W a) (A 4 0).toNat) := h57_2
              have hA : x5 = oA (A 7 (W 1 a.toNat).toNat) (wBi (crT A W a) (A 4 0).toNat) (wBi (crI A W a) (A 4 0).toNat) := by rw [h57_3, h57_2]; rfl
              refine zs_iload_n (pc := 166) C dX9_crumb_166 rfl ?_
              refine zs_iconst (pc := 167) C dX9_crumb_167 (by decide) ?_
              refine zs_icmp_ge (tgt := 182) (pc := 168) C dX9_crumb_168 (by decide) (fun h168 => ?_) (fun h168 => ?_)
              · skip
                have hv9 : crV A W a b = (if x5 = 0 then (if b = 2 then 0 else 1) else (if b = 2 then x6 else x5) / wEu 64 x6 x5) := by unfold crV; rw [if_neg (by omega), if_neg (by omega), hA, hL]; rfl
                refine zs_iload (pc := 182) C dX9_crumb_182 rfl ?_
                refine zs_if_ne (tgt := 198) (pc := 184) C dX9_crumb_184 (by decide) (fun h184 => ?_) (fun h184 => ?_)
                · skip
                  rw [if_neg (by omega)] at hv9
                  refine zs_iload_n (pc := 198) C dX9_crumb_198 rfl ?_
                  refine zs_iconst (pc := 199) C dX9_crumb_199 (by decide) ?_
                  refine zs_icmp_ne (tgt := 208) (pc := 200) C dX9_crumb_200 (by decide) (fun h200 => ?_) (fun h200 => ?_)
                  · skip
                    rw [if_neg (by omega)] at hv9
                    refine zs_iload (pc := 208) C dX9_crumb_208 rfl ?_
                    refine zs_iload (pc := 210) C dX9_crumb_210 rfl ?_
                    refine zs_iload (pc := 212) C dX9_crumb_212 rfl ?_
                    refine zSip2 (pc := 214) C dX9_crumb_214 s_X9_522 (c_X9_commonW hX ⟨by omega, by omega, by omega⟩) (by decide) ⟨Nat.zero_le _, Nat.zero_le _⟩ (Nat.le_of_ble_eq_true rfl) (fun x214 l214 u214 hp214 => ?_)
                    have hq214 := hp214
                    have hw9 := wEu_nn (a := x6) (b := x5) 64 (by omega) (by omega)
                    have hn := hq214.1
                    have hn2 := hq214.2
                    rw [← hn] at hv9
                    have h214 : 0 < x214 := by omega
                    first | refine zs_idiv (pc := 217) C dX9_crumb_217 (by omega) (by omega) (fun hz2171 hz2172 => ?_) | refine zs_idivF (pc := 217) C dX9_crumb_217 (by omega) (fun z217 hz2171 hz2172 => ?_)
                    exact zs_iret (pc := 218) C hr hlk dX9_crumb_218 ⟨by repeat (first | exact zsm_rf | assumption | refine zsm_C (by decide) ?_ | refine zsm_I (by decide) ?_ | refine zsm_J ?_ | refine zsm_c (by assumption) (by decide) ?_), ⟨hcr _ hv9, h57_6⟩⟩
                  · skip
                    rw [if_pos (by omega)] at hv9
                    refine zs_iload (pc := 203) C dX9_crumb_203 rfl ?_
                    refine zs_goto (tgt := 210) (pc := 205) C dX9_crumb_205 (by decide) ?_
                    refine zs_iload (pc := 210) C dX9_crumb_210 rfl ?_
                    refine zs_iload (pc := 212) C dX9_crumb_212 rfl ?_
                    refine zSip2 (pc := 214) C dX9_crumb_214 s_X9_522 (c_X9_commonW hX ⟨by omega, by omega, by omega⟩) (by decide) ⟨Nat.zero_le _, Nat.zero_le _⟩ (Nat.le_of_ble_eq_true rfl) (fun x214 l214 u214 hp214 => ?_)
                    have hq214 := hp214
                    have hw9 := wEu_nn (a := x6) (b := x5) 64 (by omega) (by omega)
                    have hn := hq214.1
                    have hn2 := hq214.2
                    rw [← hn] at hv9
                    have h214 : 0 < x214 := by omega
                    first | refine zs_idiv (pc := 217) C dX9_crumb_217 (by omega) (by omega) (fun hz2171 hz2172 => ?_) | refine zs_idivF (pc := 217) C dX9_crumb_217 (by omega) (fun z217 hz2171 hz2172 => ?_)
                    exact zs_iret (pc := 218) C hr hlk dX9_crumb_218 ⟨by repeat (first | exact zsm_rf | assumption | refine zsm_C (by decide) ?_ | refine zsm_I (by decide) ?_ | refine zsm_J ?_ | refine zsm_c (by assumption) (by decide) ?_), ⟨hcr _ hv9, h57_6⟩⟩
                · skip
                  rw [if_pos (by omega)] at hv9
                  refine zs_iload_n (pc := 187) C dX9_crumb_187 rfl ?_
                  refine zs_iconst (pc := 188) C dX9_crumb_188 (by decide) ?_
                  refine zs_icmp_ne (tgt := 196) (pc := 189) C dX9_crumb_189 (by decide) (fun h189 => ?_) (fun h189 => ?_)
                  · skip
                    rw [if_neg (by omega)] at hv9
                    refine zs_iconst (pc := 196) C dX9_crumb_196 (by decide) ?_
                    exact zs_iret (pc := 197) C hr hlk dX9_crumb_197 ⟨by repeat (first | exact zsm_rf | assumption | refine zsm_C (by decide) ?_ | refine zsm_I (by decide) ?_ | refine zsm_J ?_ | refine zsm_c (by assumption) (by decide) ?_), ⟨hcr _ hv9, h57_6⟩⟩
                  · skip
                    rw [if_pos (by omega)] at hv9
                    refine zs_iconst (pc := 192) C dX9_crumb_192 (by decide) ?_
                    refine zs_goto (tgt := 197) (pc := 193) C dX9_crumb_193 (by decide) ?_
                    exact zs_iret (pc := 197) C hr hlk dX9_crumb_197 ⟨by repeat (first | exact zsm_rf | assumption | refine zsm_C (by decide) ?_ | refine zsm_I (by decide) ?_ | refine zsm_J ?_ | refine zsm_c (by assumption) (by decide) ?_), ⟨hcr _ hv9, h57_6⟩⟩
              · skip
                refine zs_iload_n (pc := 171) C dX9_crumb_171 rfl ?_
                refine zs_if_ne (tgt := 179) (pc := 172) C dX9_crumb_172 (by decide) (fun h172 => ?_) (fun h172 => ?_)
                · skip
                  have hv : crV A W a b = x4 := by unfold crV; rw [if_neg (by omega), if_pos (by omega), h57_1.2]
                  refine zs_iload (pc := 179) C dX9_crumb_179 rfl ?_
                  exact zs_iret (pc := 181) C hr hlk dX9_crumb_181 ⟨by repeat (first | exact zsm_rf | assumption | refine zsm_C (by decide) ?_ | refine zsm_I (by decide) ?_ | refine zsm_J ?_ | refine zsm_c (by assumption) (by decide) ?_), ⟨hcr _ hv, h57_6⟩⟩
                · skip
                  have hv : crV A W a b = x3 := by unfold crV; rw [if_pos (by omega), h57_1.1]
                  refine zs_iload_n (pc := 175) C dX9_crumb_175 rfl ?_
                  refine zs_goto (tgt := 181) (pc := 176) C dX9_crumb_176 (by decide) ?_
                  exact zs_iret (pc := 181) C hr hlk dX9_crumb_181 ⟨by repeat (first | exact zsm_rf | assumption | refine zsm_C (by decide) ?_ | refine zsm_I (by decide) ?_ | refine zsm_J ?_ | refine zsm_c (by assumption) (by decide) ?_), ⟨hcr _ hv, h57_6⟩⟩
            · skip
              refine zs_aload_n (pc := 66) C dX9_crumb_66 rfl ?_
              refine zs_iload_n (pc := 67) C dX9_crumb_67 rfl ?_
              refine zs_iload (pc := 68) C dX9_crumb_68 rfl ?_
              refine zVv2 (pc := 70) C dX9_crumb_70 v_X9_519 (c_X9_laySackW (A := A) (W := W) hX (kR_sm h57_5 (by decide) hK) hW hT (rS_sm h57_5 (by decide) hS) (by omega) (by omega)) (by decide) (by decide) ⟨Nat.zero_le _, Nat.zero_le _⟩ (Nat.le_of_ble_eq_true rfl) (fun G70 hp70 => ?_)
              obtain ⟨hz70, hq70⟩ := hp70
              have hj70 := hq70.2
              refine zs_aload_n (pc := 73) C dX9_crumb_73 rfl ?_
              refine zs_iconst (pc := 74) C dX9_crumb_74 (by decide) ?_
              refine zs_aload_n (pc := 75) C dX9_crumb_75 rfl ?_
              refine zs_getf (pc := 76) C dX9_crumb_76 w_X9_30 f_10_25 (by decide) ?_
              refine zs_iload (pc := 79) C dX9_crumb_79 rfl ?_
              refine zs_iald (r := 2062) (pc := 81) C dX9_crumb_81 a_62 (by decide) (by omega) rfl (r_2062 _) (fun v81 e81 l81 u81 => ?_)
              have y81 : v81 = A 6 x8.toNat := e81.trans (by rw [hz70.1 2062 (by decide), h57_5.1 2062 (by decide)]; exact (hK.2.2.1 x8.toNat (by omega)).2)
              subst y81
              refine zs_sipush (pc := 82) C dX9_crumb_82 (by decide) (by decide) ?_
              refine zVi3 (pc := 85) C dX9_crumb_85 v_X9_424 (c_X9_boundLawW (nm := wNs A W a x8) hX (kR_sm hz70 (by decide) (kR_sm h57_5 (by decide) hK)) hT.2.2.2.2.2.2 (by decide) hq70.1 (wNs_in hT hW (by omega) (by omega) (by omega))) (by decide) (by decide) ⟨Nat.zero_le _, Nat.zero_le _⟩ (Nat.le_of_ble_eq_true rfl) (fun x85 G85 l85 u85 hp85 => ?_)
              obtain ⟨hz85, hq85⟩ := hp85
              have hj85 := hq85.2
              have hx85 : x85 = wThen A W a 0 x8 := hq85.1
              have hs3 := crT_s (A := A) (W := W) (k := a) (x := x8) (by omega)
              have hs4 := crI_s (A := A) (W := W) (k := a) (x := x8) (by omega)
              have hi3 := wBi_in (P := (crT A W a)) x8.toNat (by omega)
              have hi4 := wBi_in (P := (crI A W a)) x8.toNat (by omega)
              have hb3 := bor_i (k := x8) (x := x3) (by omega) (by rw [h57_1.1]; exact hi3)
              have hb4 := bor_i (k := x8) (x := x4) (by omega) (by rw [h57_1.2]; exact hi4)
              have hp3 := pc4_m (H := (A 7 (W 1 a.toNat).toNat)) (j := x8.toNat) (by omega) hi3
              have hp4 := pc4_m (H := 100 - (A 7 (W 1 a.toNat).toNat)) (j := x8.toNat) (by omega) hi4
              refine zs_aload_n (pc := 88) C dX9_crumb_88 rfl ?_
              refine zs_getf (pc := 89) C dX9_crumb_89 w_X9_124 f_10_64 (by decide) ?_
              refine zs_iload_n (pc := 92) C dX9_crumb_92 rfl ?_
              refine zs_iald (r := 2093) (pc := 93) C dX9_crumb_93 a_93 (by decide) (by omega) rfl (r_2093 _) (fun v93 e93 l93 u93 => ?_)
              have y93 : v93 = W 3 a.toNat := e93.trans (by rw [hz85.1 2093 (by decide), hz70.1 2093 (by decide), h57_5.1 2093 (by decide)]; have q := (hR.2.2.2 a.toNat (by omega)).1; rw [show (60 * (0 : Int) + (a.toNat : Int)).toNat = a.toNat by omega] at q; exact q)
              subst y93
              refine zs_icmp_eq (tgt := 100) (pc := 94) C dX9_crumb_94 (by decide) (fun h94 => ?_) (fun h94 => ?_)
              · skip
                have hal : wThen A W a 0 x8 = W 3 a.toNat := hx85.symm.trans h94
                refine zs_aload_n (pc := 100) C dX9_crumb_100 rfl ?_
                refine zs_getf (pc := 101) C dX9_crumb_101 w_X9_145 f_10_71 (by decide) ?_
                refine zs_iload_n (pc := 104) C dX9_crumb_104 rfl ?_
                refine zs_iald (r := 2100) (pc := 105) C dX9_crumb_105 a_100 (by decide) (by omega) rfl (r_2100 _) (fun v105 e105 l105 u105 => ?_)
                have y105 : v105 = W 10 a.toNat := e105.trans (by rw [hz85.1 2100 (by decide), hz70.1 2100 (by decide), h57_5.1 2100 (by decide)]; exact s8)
                subst y105
                refine zs_iload (pc := 106) C dX9_crumb_106 rfl ?_
                refine zSip2 (pc := 108) C dX9_crumb_108 s_X9_516 (c_X9_isOfW hX (by omega)) (by decide) ⟨Nat.zero_le _, Nat.zero_le _⟩ (Nat.le_of_ble_eq_true rfl) (fun x108 l108 u108 hp108 => ?_)
                have hq108 := hp108
                have hl8 : x108 = 1 ↔ wLie W a x8 = 0 := by
                  unfold wLie
                  rcases b1_i (v := W 10 a.toNat) (s := x8) hk10 (by omega) with z | z
                  · rw [if_pos z]
                    exact ⟨fun q => by have := hq108.2.mp q; omega, fun q => absurd q (by decide)⟩
                  · rw [if_neg (by omega)]
                    exact ⟨fun _ => rfl, fun _ => hq108.2.mpr z⟩
                have hl9 := hq108.1
                refine zs_if_eq (tgt := 131) (pc := 111) C dX9_crumb_111 (by decide) (fun h111 => ?_) (fun h111 => ?_)
                · skip
                  have hl : ¬ wLie W a x8 = 0 := fun z => by have := hl8.mpr z; omega
                  rw [if_pos ⟨hal, hl⟩] at hs4
                  rw [if_neg (fun z => hl z.2)] at hs3
                  refine zs_iload (pc := 131) C dX9_crumb_131 rfl ?_
                  refine zs_iconst (pc := 133) C dX9_crumb_133 (by decide) ?_
                  refine zs_iload (pc := 134) C dX9_crumb_134 rfl ?_
                  refine zs_ishlX (pc := 136) C dX9_crumb_136 (fun z136 ez136 hz1361 hz1362 => ?_)
                  refine zs_iorX (pc := 137) C dX9_crumb_137 (fun z137 ez137 hz1371 hz1372 => ?_)
                  have st4 : z137 = wBi (crI A W a) (x8 + 1).toNat := by rw [ez137, ez136, hb4.1, hs4, h57_1.2]
                  have st3 : x3 = wBi (crT A W a) (x8 + 1).toNat := by omega
                  have st6 : x6 + (100 - (A 7 (W 1 a.toNat).toNat)) = pc4 (wBi (crI A W a) (x8 + 1).toNat) * (100 - (A 7 (W 1 a.toNat).toNat)) := by rw [hs4, hp4]; omega
                  have st5 : x5 + (100 - (A 7 (W 1 a.toNat).toNat)) = x6 + (100 - (A 7 (W 1 a.toNat).toNat)) + pc4 (wBi (crT A W a) (x8 + 1).toNat) * (A 7 (W 1 a.toNat).toNat) := by rw [hs3, Int.add_zero]; omega
                  refine zs_istore (pc := 138) C dX9_crumb_138 (by decide) ?_
                  dsimp only [zset, zclr, znone]
                  refine zs_iload (pc := 140) C dX9_crumb_140 rfl ?_
                  refine zs_bipush (pc := 142) C dX9_crumb_142 (by decide) (by decide) ?_
                  refine zs_iload (pc := 144) C dX9_crumb_144 rfl ?_
                  first | refine zs_isub (pc := 146) C dX9_crumb_146 (by omega) ?_ | refine zs_isubF (pc := 146) C dX9_crumb_146 (fun z146 hz1461 hz1462 => ?_)
                  first | refine zs_iadd (pc := 147) C dX9_crumb_147 (by omega) ?_ | refine zs_iaddF (pc := 147) C dX9_crumb_147 (fun z147 hz1471 hz1472 => ?_)
                  refine zs_istore (pc := 148) C dX9_crumb_148 (by decide) ?_
                  dsimp only [zset, zclr, znone]
                  refine zs_iload (pc := 150) C dX9_crumb_150 rfl ?_
                  refine zs_bipush (pc := 152) C dX9_crumb_152 (by decide) (by decide) ?_
                  refine zs_iload (pc := 154) C dX9_crumb_154 rfl ?_
                  first | refine zs_isub (pc := 156) C dX9_crumb_156 (by omega) ?_ | refine zs_isubF (pc := 156) C dX9_crumb_156 (fun z156 hz1561 hz1562 => ?_)
                  first | refine zs_iadd (pc := 157) C dX9_crumb_157 (by omega) ?_ | refine zs_iaddF (pc := 157) C dX9_crumb_157 (fun z157 hz1571 hz1572 => ?_)
                  refine zs_istore (pc := 158) C dX9_crumb_158 (by decide) ?_
                  dsimp only [zset, zclr, znone]
                  first | refine zs_iinc (pc := 160) C dX9_crumb_160 rfl (by decide) (by omega) ?_ | refine zs_iincF (pc := 160) C dX9_crumb_160 rfl (by decide) (fun z160 hz1601 hz1602 => ?_)
                  dsimp only [zset, zclr, znone]
                  refine zs_goto (tgt := 57) (pc := 163) C dX9_crumb_163 (by decide) ?_
                  exact zs_wk (ih57 _ _ _ _ _ _ (by omega) ⟨st3, st4⟩ st6 st5 (by omega) (by repeat (first | exact zsm_rf | assumption | refine zsm_C (by decide) ?_ | refine zsm_I (by decide) ?_ | refine zsm_J ?_ | refine zsm_c (by assumption) (by decide) ?_)) (by repeat (first | exact zsj_rf | assumption | refine zsj_I ?_ | refine zsj_J (by decide) ?_ | refine zsj_e (by assumption) ?_ | refine zsj_c (by assumption) (by decide) ?_)) (by first | omega | (simp only [zuI_1, zuI_2, zuJ_1, zuJ_2, zuJ_3, zuP_1, zuP_2, zuP_3, zuC_1, zuC_2, reduceIte, Nat.reduceEqDiff, false_and, and_false, true_and, and_true, and_self, or_true, true_or, or_false, false_or]; omega))) (zwk_s rfl (zwk_s rfl (zwk_s rfl (zwk_s rfl (zwk_s rfl (zwk_s rfl (zwk_s rfl (zwk_s rfl (zwk_s rfl zwk_0)))))))))
                · skip
                  have hl : wLie W a x8 = 0 := hl8.mp (by omega)
                  rw [if_pos ⟨hal, hl⟩] at hs3
                  rw [if_neg (fun z => z.2 hl)] at hs4
                  refine zs_iload_n (pc := 114) C dX9_crumb_114 rfl ?_
                  refine zs_iconst (pc := 115) C dX9_crumb_115 (by decide) ?_
                  refine zs_iload (pc := 116) C dX9_crumb_116 rfl ?_
                  refine zs_ishlX (pc := 118) C dX9_crumb_118 (fun z118 ez118 hz1181 hz1182 => ?_)
                  refine zs_iorX (pc := 119) C dX9_crumb_119 (fun z119 ez119 hz1191 hz1192 => ?_)
                  have st3 : z119 = wBi (crT A W a) (x8 + 1).toNat := by rw [ez119, ez118, hb3.1, hs3, h57_1.1]
                  have st4 : x4 = wBi (crI A W a) (x8 + 1).toNat := by omega
                  have st6 : x6 = pc4 (wBi (crI A W a) (x8 + 1).toNat) * (100 - (A 7 (W 1 a.toNat).toNat)) := by rw [hs4, Int.add_zero]; exact h57_2
                  have st5 : x5 + (A 7 (W 1 a.toNat).toNat) = x6 + pc4 (wBi (crT A W a) (x8 + 1).toNat) * (A 7 (W 1 a.toNat).toNat) := by rw [hs3, hp3]; omega
                  refine zs_istore_n (pc := 120) C dX9_crumb_120 (by decide) ?_
                  dsimp only [zset, zclr, znone]
                  refine zs_iload (pc := 121) C dX9_crumb_121 rfl ?_
                  refine zs_iload (pc := 123) C dX9_crumb_123 rfl ?_
                  first | refine zs_iadd (pc := 125) C dX9_crumb_125 (by omega) ?_ | refine zs_iaddF (pc := 125) C dX9_crumb_125 (fun z125 hz1251 hz1252 => ?_)
                  refine zs_istore (pc := 126) C dX9_crumb_126 (by decide) ?_
                  dsimp only [zset, zclr, znone]
                  refine zs_goto (tgt := 160) (pc := 128) C dX9_crumb_128 (by decide) ?_
                  first | refine zs_iinc (pc := 160) C dX9_crumb_160 rfl (by decide) (by omega) ?_ | refine zs_iincF (pc := 160) C dX9_crumb_160 rfl (by decide) (fun z160 hz1601 hz1602 => ?_)
                  dsimp only [zset, zclr, znone]
                  refine zs_goto (tgt := 57) (pc := 163) C dX9_crumb_163 (by decide) ?_
                  exact zs_wk (ih57 _ _ _ _ _ _ (by omega) ⟨st3, st4⟩ st6 st5 (by omega) (by repeat (first | exact zsm_rf | assumption | refine zsm_C (by decide) ?_ | refine zsm_I (by decide) ?_ | refine zsm_J ?_ | refine zsm_c (by assumption) (by decide) ?_)) (by repeat (first | exact zsj_rf | assumption | refine zsj_I ?_ | refine zsj_J (by decide) ?_ | refine zsj_e (by assumption) ?_ | refine zsj_c (by assumption) (by decide) ?_)) (by first | omega | (simp only [zuI_1, zuI_2, zuJ_1, zuJ_2, zuJ_3, zuP_1, zuP_2, zuP_3, zuC_1, zuC_2, reduceIte, Nat.reduceEqDiff, false_and, and_false, true_and, and_true, and_self, or_true, true_or, or_false, false_or]; omega))) (zwk_s rfl (zwk_s rfl (zwk_s rfl (zwk_s rfl (zwk_s rfl (zwk_s rfl (zwk_s rfl (zwk_s rfl (zwk_s rfl zwk_0)))))))))
              · skip
                rw [if_neg (fun z => h94 (hx85.trans z.1))] at hs3 hs4
                have st3 : x3 = wBi (crT A W a) (x8 + 1).toNat := by omega
                have st4 : x4 = wBi (crI A W a) (x8 + 1).toNat := by omega
                have st6 : x6 = pc4 (wBi (crI A W a) (x8 + 1).toNat) * (100 - (A 7 (W 1 a.toNat).toNat)) := by rw [hs4, Int.add_zero]; exact h57_2
                have st5 : x5 = x6 + pc4 (wBi (crT A W a) (x8 + 1).toNat) * (A 7 (W 1 a.toNat).toNat) := by rw [hs3, Int.add_zero]; exact h57_3
                refine zs_goto (tgt := 160) (pc := 97) C dX9_crumb_97 (by decide) ?_
                first | refine zs_iinc (pc := 160) C dX9_crumb_160 rfl (by decide) (by omega) ?_ | refine zs_iincF (pc := 160) C dX9_crumb_160 rfl (by decide) (fun z160 hz1601 hz1602 => ?_)
                dsimp only [zset, zclr, znone]
                refine zs_goto (tgt := 57) (pc := 163) C dX9_crumb_163 (by decide) ?_
                exact zs_wk (ih57 _ _ _ _ _ _ (by omega) ⟨st3, st4⟩ st6 st5 (by omega) (by repeat (first | exact zsm_rf | assumption | refine zsm_C (by decide) ?_ | refine zsm_I (by decide) ?_ | refine zsm_J ?_ | refine zsm_c (by assumption) (by decide) ?_)) (by repeat (first | exact zsj_rf | assumption | refine zsj_I ?_ | refine zsj_J (by decide) ?_ | refine zsj_e (by assumption) ?_ | refine zsj_c (by assumption) (by decide) ?_)) (by first | omega | (simp only [zuI_1, zuI_2, zuJ_1, zuJ_2, zuJ_3, zuP_1, zuP_2, zuP_3, zuC_1, zuC_2, reduceIte, Nat.reduceEqDiff, false_and, and_false, true_and, and_true, and_self, or_true, true_or, or_false, false_or]; omega))) (zwk_s rfl (zwk_s rfl (zwk_s rfl (zwk_s rfl (zwk_s rfl (zwk_s rfl (zwk_s rfl (zwk_s rfl (zwk_s rfl zwk_0)))))))))
        exact zs_wk (L57 _ _ _ _ _ _ _ (by omega) ⟨rfl, rfl⟩ (by show (0 : Int) = pc4 0 * _; rw [show pc4 0 = 0 from rfl, Int.zero_mul]) (by show (0 : Int) = 0 + pc4 0 * _; rw [show pc4 0 = 0 from rfl, Int.zero_mul]; rfl) (by omega) (by repeat (first | exact zsm_rf | assumption | refine zsm_C (by decide) ?_ | refine zsm_I (by decide) ?_ | refine zsm_J ?_ | refine zsm_c (by assumption) (by decide) ?_)) (by repeat (first | exact zsj_rf | assumption | refine zsj_I ?_ | refine zsj_J (by decide) ?_ | refine zsj_e (by assumption) ?_ | refine zsj_c (by assumption) (by decide) ?_)) (Nat.lt_succ_self _)) (zwk_s rfl (zwk_s rfl (zwk_s rfl (zwk_s rfl (zwk_s rfl (zwk_s rfl (zwk_s rfl (zwk_s rfl (zwk_s rfl zwk_0)))))))))
      · skip
        refine zs_iconst (pc := 28) C dX9_crumb_28 (by decide) ?_
        exact zs_iret (pc := 29) C hr hlk dX9_crumb_29 ⟨by repeat (first | exact zsm_rf | assumption | refine zsm_C (by decide) ?_ | refine zsm_I (by decide) ?_ | refine zsm_J ?_ | refine zsm_c (by assumption) (by decide) ?_), ⟨(by refine (if_neg ?_).symm; intro z; first | omega | (have y := hq22.2.mpr z.2; omega)), (by repeat (first | exact zsj_rf | assumption | refine zsj_I ?_ | refine zsj_J (by decide) ?_ | refine zsj_e (by assumption) ?_ | refine zsj_c (by assumption) (by decide) ?_))⟩⟩
