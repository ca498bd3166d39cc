def pkc (a b : Int) : Int := if b = 0 then (a - 96) * 33554432 else if b = 1 then (a - 96) * 1048576 else if b = 2 then (a - 96) * 32768 else if b = 3 then (a - 96) * 1024 else if b = 4 then (a - 96) * 32 else if b = 5 then a - 96 else 0
theorem pkc_shl {a b : Int} (ha : 97 ≤ a ∧ a ≤ 122) (hb : 0 ≤ b ∧ b < 6) : bshl (a - 97 + 1) (25 - 5 * b) = pkc a b := by
  have h := bshl_5 (a - 96).toNat (by omega)
  rw [show ((a - 96).toNat : Int) = a - 97 + 1 by omega] at h
  unfold pkc
  rcases (show b = 0 ∨ b = 1 ∨ b = 2 ∨ b = 3 ∨ b = 4 ∨ b = 5 by omega) with rfl | rfl | rfl | rfl | rfl | rfl
  · rw [if_pos rfl, show (25 - 5 * 0 : Int) = 25 by decide, h.1]; omega
  · rw [if_neg (by decide), if_pos rfl, show (25 - 5 * 1 : Int) = 20 by decide, h.2.1]; omega
  · rw [if_neg (by decide), if_neg (by decide), if_pos rfl, show (25 - 5 * 2 : Int) = 15 by decide, h.2.2.1]; omega
  · rw [if_neg (by decide), if_neg (by decide), if_neg (by decide), if_pos rfl, show (25 - 5 * 3 : Int) = 10 by decide, h.2.2.2.1]; omega
  · rw [if_neg (by decide), if_neg (by decide), if_neg (by decide), if_neg (by decide), if_pos rfl, show (25 - 5 * 4 : Int) = 5 by decide, h.2.2.2.2.1]; omega
  · rw [if_neg (by decide), if_neg (by decide), if_neg (by decide), if_neg (by decide), if_neg (by decide), if_pos rfl, show (25 - 5 * 5 : Int) = 0 by decide, h.2.2.2.2.2]; omega
theorem cdd_1 {b : Nat → Int} {p q i : Int} (h : p + i < q) : cdd b p q i = b (p + i).toNat - 96 := if_pos h
theorem cdd_0 {b : Nat → Int} {p q i : Int} (h : ¬ p + i < q) : cdd b p q i = 0 := if_neg h
theorem cdd_in {b : Nat → Int} {p q : Int} (hall : ∀ i : Int, p ≤ i → i < q → fL (b i.toNat) = true) {i : Int} (hi : 0 ≤ i) : 0 ≤ cdd b p q i ∧ cdd b p q i ≤ 26 := by
  unfold cdd
  split
  · rename_i h
    have h1 := fL_i.mp (hall (p + i) (by omega) h)
    omega
  · omega
theorem cdd_st {b : Nat → Int} {p q i : Int} (h : p + i ≠ q) : cdd b p (q + 1) i = cdd b p q i := by
  unfold cdd
  by_cases h1 : p + i < q
  · rw [if_pos h1, if_pos (by omega)]
  · rw [if_neg h1, if_neg (by omega)]
theorem cdd_sm {b : Nat → Int} {p q i : Int} (h : p + i = q) : cdd b p (q + 1) i = b q.toNat - 96 ∧ cdd b p q i = 0 := by
  unfold cdd
  rw [if_pos (by omega), if_neg (by omega), h]
  exact ⟨rfl, rfl⟩
theorem cd_step {b : Nat → Int} {p q : Int} (hp : p ≤ q) (hall : ∀ i : Int, p ≤ i → i < q → fL (b i.toNat) = true) (hc : fL (b q.toNat) = true) : bor (cd b p q) (pkc (b q.toNat) (q - p)) = cd b p (q + 1) := by
  have hc := fL_i.mp hc
  have a0 := cdd_in hall (i := 0) (by decide)
  have a1 := cdd_in hall (i := 1) (by decide)
  have a2 := cdd_in hall (i := 2) (by decide)
  have a3 := cdd_in hall (i := 3) (by decide)
  have a4 := cdd_in hall (i := 4) (by decide)
  have a5 := cdd_in hall (i := 5) (by decide)
  rcases (show q - p = 0 ∨ q - p = 1 ∨ q - p = 2 ∨ q - p = 3 ∨ q - p = 4 ∨ q - p = 5 ∨ 6 ≤ q - p by omega) with h | h | h | h | h | h | h
  · obtain ⟨s1, s2⟩ := cdd_sm (b := b) (p := p) (q := q) (i := 0) (by omega)
    have t1 := cdd_st (b := b) (p := p) (q := q) (i := 1) (by omega)
    have t2 := cdd_st (b := b) (p := p) (q := q) (i := 2) (by omega)
    have t3 := cdd_st (b := b) (p := p) (q := q) (i := 3) (by omega)
    have t4 := cdd_st (b := b) (p := p) (q := q) (i := 4) (by omega)
    have t5 := cdd_st (b := b) (p := p) (q := q) (i := 5) (by omega)
    have z1 := cdd_0 (b := b) (p := p) (q := q) (i := 1) (by omega)
    have z2 := cdd_0 (b := b) (p := p) (q := q) (i := 2) (by omega)
    have z3 := cdd_0 (b := b) (p := p) (q := q) (i := 3) (by omega)
    have z4 := cdd_0 (b := b) (p := p) (q := q) (i := 4) (by omega)
    have z5 := cdd_0 (b := b) (p := p) (q := q) (i := 5) (by omega)
    have e : pkc (b q.toNat) (q - p) = (b q.toNat - 96) * 33554432 := by rw [h]; unfold pkc; simp
    rw [e, bor_add 30 ?_ ?_ ?_ ?_ ?_]
    all_goals ((try unfold cd); omega)
  · obtain ⟨s1, s2⟩ := cdd_sm (b := b) (p := p) (q := q) (i := 1) (by omega)
    have t0 := cdd_st (b := b) (p := p) (q := q) (i := 0) (by omega)
    have t2 := cdd_st (b := b) (p := p) (q := q) (i := 2) (by omega)
    have t3 := cdd_st (b := b) (p := p) (q := q) (i := 3) (by omega)
    have t4 := cdd_st (b := b) (p := p) (q := q) (i := 4) (by omega)
    have t5 := cdd_st (b := b) (p := p) (q := q) (i := 5) (by omega)
    have z2 := cdd_0 (b := b) (p := p) (q := q) (i := 2) (by omega)
    have z3 := cdd_0 (b := b) (p := p) (q := q) (i := 3) (by omega)
    have z4 := cdd_0 (b := b) (p := p) (q := q) (i := 4) (by omega)
    have z5 := cdd_0 (b := b) (p := p) (q := q) (i := 5) (by omega)
    have e : pkc (b q.toNat) (q - p) = (b q.toNat - 96) * 1048576 := by rw [h]; unfold pkc; simp
    rw [e, bor_add 25 ?_ ?_ ?_ ?_ ?_]
    all_goals ((try unfold cd); omega)
  · obtain ⟨s1, s2⟩ := cdd_sm (b := b) (p := p) (q := q) (i := 2) (by omega)
    have t0 := cdd_st (b := b) (p := p) (q := q) (i := 0) (by omega)
    have t1 := cdd_st (b := b) (p := p) (q := q) (i := 1) (by omega)
    have t3 := cdd_st (b := b) (p := p) (q := q) (i := 3) (by omega)
    have t4 := cdd_st (b := b) (p := p) (q := q) (i := 4) (by omega)
    have t5 := cdd_st (b := b) (p := p) (q := q) (i := 5) (by omega)
    have z3 := cdd_0 (b := b) (p := p) (q := q) (i := 3) (by omega)
    have z4 := cdd_0 (b := b) (p := p) (q := q) (i := 4) (by omega)
    have z5 := cdd_0 (b := b) (p := p) (q := q) (i := 5) (by omega)
    have e : pkc (b q.toNat) (q - p) = (b q.toNat - 96) * 32768 := by rw [h]; unfold pkc; simp
    rw [e, bor_add 20 ?_ ?_ ?_ ?_ ?_]
    all_goals ((try unfold cd); omega)
  · obtain ⟨s1, s2⟩ := cdd_sm (b := b) (p := p) (q := q) (i := 3) (by omega)
    have t0 := cdd_st (b := b) (p := p) (q := q) (i := 0) (by omega)
    have t1 := cdd_st (b := b) (p := p) (q := q) (i := 1) (by omega)
    have t2 := cdd_st (b := b) (p := p) (q := q) (i := 2) (by omega)
    have t4 := cdd_st (b := b) (p := p) (q := q) (i := 4) (by omega)
    have t5 := cdd_st (b := b) (p := p) (q := q) (i := 5) (by omega)
    have z4 := cdd_0 (b := b) (p := p) (q := q) (i := 4) (by omega)
    have z5 := cdd_0 (b := b) (p := p) (q := q) (i := 5) (by omega)
    have e : pkc (b q.toNat) (q - p) = (b q.toNat - 96) * 1024 := by rw [h]; unfold pkc; simp
    rw [e, bor_add 15 ?_ ?_ ?_ ?_ ?_]
    all_goals ((try unfold cd); omega)
  · obtain ⟨s1, s2⟩ := cdd_sm (b := b) (p := p) (q := q) (i := 4) (by omega)
    have t0 := cdd_st (b := b) (p := p) (q := q) (i := 0) (by omega)
    have t1 := cdd_st (b := b) (p := p) (q := q) (i := 1) (by omega)
    have t2 := cdd_st (b := b) (p := p) (q := q) (i := 2) (by omega)
    have t3 := cdd_st (b := b) (p := p) (q := q) (i := 3) (by omega)
    have t5 := cdd_st (b := b) (p := p) (q := q) (i := 5) (by omega)
    have z5 := cdd_0 (b := b) (p := p) (q := q) (i := 5) (by omega)
    have e : pkc (b q.toNat) (q - p) = (b q.toNat - 96) * 32 := by rw [h]; unfold pkc; simp
    rw [e, bor_add 10 ?_ ?_ ?_ ?_ ?_]
    all_goals ((try unfold cd); omega)
  · obtain ⟨s1, s2⟩ := cdd_sm (b := b) (p := p) (q := q) (i := 5) (by omega)
    have t0 := cdd_st (b := b) (p := p) (q := q) (i := 0) (by omega)
    have t1 := cdd_st (b := b) (p := p) (q := q) (i := 1) (by omega)
    have t2 := cdd_st (b := b) (p := p) (q := q) (i := 2) (by omega)
    have t3 := cdd_st (b := b) (p := p) (q := q) (i := 3) (by omega)
    have t4 := cdd_st (b := b) (p := p) (q := q) (i := 4) (by omega)
    have e : pkc (b q.toNat) (q - p) = (b q.toNat - 96) * 1 := by rw [h]; unfold pkc; simp
    rw [e, bor_add 5 ?_ ?_ ?_ ?_ ?_]
    all_goals ((try unfold cd); omega)
  · have e : pkc (b q.toNat) (q - p) = 0 := by unfold pkc; repeat (first | rw [if_neg (by omega)] | rfl)
    rw [e, bor_add 0 ?_ ?_ ?_ ?_ ?_]
    all_goals (try unfold cd)
    · rw [cdd_st (by omega), cdd_st (by omega), cdd_st (by omega), cdd_st (by omega), cdd_st (by omega), cdd_st (by omega)]; omega
    all_goals omega
theorem tk_0 {b : Nat → Int} {n p : Int} (h : ¬ p < n) : tkK b n p = 0 ∧ tkV b n p = 0 := by unfold tkK tkV; rw [if_pos h, if_pos h]; exact ⟨rfl, rfl⟩
theorem tk_w5 {b : Nat → Int} {n p : Int} (h : p < n) (hl : fL (b p.toNat) = true) (h6 : 6 < sp fL b n p - p) : tkK b n p = 5 ∧ tkV b n p = 0 ∧ tkN b n p = sp fL b n p := by
  have hn : ¬ ¬ p < n := by omega
  unfold tkK tkV tkN
  rw [if_neg hn, if_neg hn, if_neg hn, if_pos hl, if_pos hl, if_pos hl, if_pos h6, if_pos h6]
  exact ⟨rfl, rfl, rfl⟩
theorem tk_w2 {b : Nat → Int} {n p k : Int} (h : p < n) (hl : fL (b p.toNat) = true) (h6 : ¬ 6 < sp fL b n p - p) (hk : lw (cd b p (sp fL b n p)) = k) (h0 : 0 ≤ k) : tkK b n p = 2 ∧ tkV b n p = k ∧ tkN b n p = sp fL b n p := by
  have hn : ¬ ¬ p < n := by omega
  unfold tkK tkV tkN
  rw [if_neg hn, if_neg hn, if_neg hn, if_pos hl, if_pos hl, if_pos hl, if_neg h6, if_neg h6, hk, if_pos h0, if_pos h0]
  exact ⟨rfl, rfl, rfl⟩
theorem tk_w1 {b : Nat → Int} {n p : Int} (h : p < n) (hl : fL (b p.toNat) = true) (h6 : ¬ 6 < sp fL b n p - p) (hk : lw (cd b p (sp fL b n p)) = -1) : tkK b n p = 1 ∧ tkV b n p = cd b p (sp fL b n p) ∧ tkN b n p = sp fL b n p := by
  have hn : ¬ ¬ p < n := by omega
  unfold tkK tkV tkN
  rw [if_neg hn, if_neg hn, if_neg hn, if_pos hl, if_pos hl, if_pos hl, if_neg h6, if_neg h6, hk, if_neg (by decide), if_neg (by decide)]
  exact ⟨rfl, rfl, rfl⟩
theorem tk_d {b : Nat → Int} {n p : Int} (h : p < n) (hl : ¬ fL (b p.toNat) = true) (hd : fD (b p.toNat) = true) : tkK b n p = 3 ∧ tkV b n p = dg b n p 0 ∧ tkN b n p = sp fD b n p := by
  have hn : ¬ ¬ p < n := by omega
  unfold tkK tkV tkN
  rw [if_neg hn, if_neg hn, if_neg hn, if_neg hl, if_neg hl, if_neg hl, if_pos hd, if_pos hd, if_pos hd]
  exact ⟨rfl, rfl, rfl⟩
theorem tk_s {b : Nat → Int} {n p : Int} (h : p < n) (hl : ¬ fL (b p.toNat) = true) (hd : ¬ fD (b p.toNat) = true) : tkK b n p = (if sgV (b p.toNat) (bh b n p) = 0 then 5 else 4) ∧ tkV b n p = sgV (b p.toNat) (bh b n p) ∧ tkN b n p = p + sgW (b p.toNat) (bh b n p) := by
  have hn : ¬ ¬ p < n := by omega
  unfold tkK tkV tkN
  rw [if_neg hn, if_neg hn, if_neg hn, if_neg hl, if_neg hl, if_neg hl, if_neg hd, if_neg hd, if_neg hd]
  exact ⟨rfl, rfl, rfl⟩
theorem wl_24 : wl.length = 24 := rfl
theorem lwn_s {k : Int} {c x : Int} (h0 : 0 ≤ k) (h : k < 24) (hx : x = wl.getD k.toNat 0) : lwn (wl.drop k.toNat) c k = if x = c then k else lwn (wl.drop (k + 1).toNat) c (k + 1) := by
  have hl : k.toNat < wl.length := by rw [wl_24]; omega
  rw [List.drop_eq_getElem_cons hl, lwn, hx, List.getD_eq_getElem?_getD, List.getElem?_eq_getElem hl, show (k + 1).toNat = k.toNat + 1 by omega]
  rfl
theorem lwn_e {c k : Int} (h : k = 24) : lwn (wl.drop k.toNat) c k = -1 := by
  subst h
  rfl

/-- a number of more than five digits is as good as another one -/
def tkR (K V v : Int) : Prop := (K = 3 → 0 ≤ v ∧ min v 100000 = V) ∧ (K ≠ 3 → v = V)

set_option maxHeartbeats 4000000 in
set_option maxRecDepth 100000 in
theorem c_X6_packedF {l : Launch} {Γ : zΓ} {G : zH} {a b : Int} (hX : zXs Γ) (ha : 97 ≤ a ∧ a ≤ 122 ∧ 0 ≤ b ∧ b ≤ 701) : zMet l Γ yX6_packed cX6_packed 2 (some .int) 0 [zi a, zi b] G (zpi (fun x G' => G' = G ∧ (x = pkc a b))) := by
  refine zMet_of RX6 hX (by decide) rfl (Nat.le_of_ble_eq_true rfl) ?_
  intro p e s m args below meth c C hr hlk
  show Z p l e (zrm 0) s m args below meth c Γ 2 0 0 (MQ below (zQc Γ (zpi (fun x G' => G' = G ∧ (x = pkc a b)))) args s 0 0 (zA Γ)) 0 [some (zi a), some (zi b)] [] G
  refine zs_loc 0 rfl (fun ha0 hb0 => ?_)
  refine zs_loc 1 rfl (fun ha1 hb1 => ?_)
  refine zs_iload_n (pc := 0) C dX6_packed_0 rfl ?_
  refine zs_bipush (pc := 1) C dX6_packed_1 (by decide) (by decide) ?_
  refine zs_icmp_ge (tgt := 22) (pc := 3) C dX6_packed_3 (by decide) (fun h3 => ?_) (fun h3 => ?_)
  · skip
    refine zs_iconst (pc := 22) C dX6_packed_22 (by decide) ?_
    exact zs_iret (pc := 23) C hr hlk dX6_packed_23 ⟨rfl, (by first | (rw [ez18]; exact pkc_shl (by omega) (by omega)) | (unfold pkc; repeat (first | rw [if_neg (by omega)] | rfl)))⟩
  · skip
    refine zs_iload_n (pc := 6) C dX6_packed_6 rfl ?_
    refine zs_bipush (pc := 7) C dX6_packed_7 (by decide) (by decide) ?_
    first | refine zs_isub (pc := 9) C dX6_packed_9 (by omega) ?_ | refine zs_isubF (pc := 9) C dX6_packed_9 (fun z9 hz91 hz92 => ?_)
    refine zs_iconst (pc := 10) C dX6_packed_10 (by decide) ?_
    first | refine zs_iadd (pc := 11) C dX6_packed_11 (by omega) ?_ | refine zs_iaddF (pc := 11) C dX6_packed_11 (fun z11 hz111 hz112 => ?_)
    refine zs_bipush (pc := 12) C dX6_packed_12 (by decide) (by decide) ?_
    refine zs_iconst (pc := 14) C dX6_packed_14 (by decide) ?_
    refine zs_iload_n (pc := 15) C dX6_packed_15 rfl ?_
    first | refine zs_imul (pc := 16) C dX6_packed_16 (by omega) ?_ | refine zs_imulF (pc := 16) C dX6_packed_16 (fun z16 hz161 hz162 => ?_)
    first | refine zs_isub (pc := 17) C dX6_packed_17 (by omega) ?_ | refine zs_isubF (pc := 17) C dX6_packed_17 (fun z17 hz171 hz172 => ?_)
    refine zs_ishlX (pc := 18) C dX6_packed_18 (fun z18 ez18 hz181 hz182 => ?_)
    refine zs_goto (tgt := 23) (pc := 19) C dX6_packed_19 (by decide) ?_
    exact zs_iret (pc := 23) C hr hlk dX6_packed_23 ⟨rfl, (by first | (rw [ez18]; exact pkc_shl (by omega) (by omega)) | (unfold pkc; repeat (first | rw [if_neg (by omega)] | rfl)))⟩

set_option maxHeartbeats 4000000 in
set_option maxRecDepth 100000 in
theorem c_X6_isLetterF {l : Launch} {Γ : zΓ} {G : zH} {a : Int} (hX : zXs Γ)  : zMet l Γ yX6_isLetter cX6_isLetter 1 (some .boolean) 0 [zi a] G (zpi (fun x G' => G' = G ∧ ((x = 0 ∨ x = 1) ∧ (x = 1 ↔ fL a = true)))) := by
  refine zMet_of RX6 hX (by decide) rfl (Nat.le_of_ble_eq_true rfl) ?_
  intro p e s m args below meth c C hr hlk
  show Z p l e (zrm 0) s m args below meth c Γ 1 0 0 (MQ below (zQc Γ (zpi (fun x G' => G' = G ∧ ((x = 0 ∨ x = 1) ∧ (x = 1 ↔ fL a = true))))) args s 0 0 (zA Γ)) 0 [some (zi a)] [] G
  refine zs_loc 0 rfl (fun ha0 hb0 => ?_)
  refine zs_iload_n (pc := 0) C dX6_isLetter_0 rfl ?_
  refine zs_bipush (pc := 1) C dX6_isLetter_1 (by decide) (by decide) ?_
  refine zs_icmp_lt (tgt := 16) (pc := 3) C dX6_isLetter_3 (by decide) (fun h3 => ?_) (fun h3 => ?_)
  · skip
    refine zs_iconst (pc := 16) C dX6_isLetter_16 (by decide) ?_
    exact zs_zret (pc := 17) C hr hlk dX6_isLetter_17 (by omega) ⟨rfl, (by rw [fL_i]; omega)⟩
  · skip
    refine zs_iload_n (pc := 6) C dX6_isLetter_6 rfl ?_
    refine zs_bipush (pc := 7) C dX6_isLetter_7 (by decide) (by decide) ?_
    refine zs_icmp_gt (tgt := 16) (pc := 9) C dX6_isLetter_9 (by decide) (fun h9 => ?_) (fun h9 => ?_)
    · skip
      refine zs_iconst (pc := 16) C dX6_isLetter_16 (by decide) ?_
      exact zs_zret (pc := 17) C hr hlk dX6_isLetter_17 (by omega) ⟨rfl, (by rw [fL_i]; omega)⟩
    · skip
      refine zs_iconst (pc := 12) C dX6_isLetter_12 (by decide) ?_
      refine zs_goto (tgt := 17) (pc := 13) C dX6_isLetter_13 (by decide) ?_
      exact zs_zret (pc := 17) C hr hlk dX6_isLetter_17 (by omega) ⟨rfl, (by rw [fL_i]; omega)⟩

set_option maxHeartbeats 4000000 in
set_option maxRecDepth 100000 in
theorem c_X6_isDigitF {l : Launch} {Γ : zΓ} {G : zH} {a : Int} (hX : zXs Γ)  : zMet l Γ yX6_isDigit cX6_isDigit 1 (some .boolean) 0 [zi a] G (zpi (fun x G' => G' = G ∧ ((x = 0 ∨ x = 1) ∧ (x = 1 ↔ fD a = true)))) := by
  refine zMet_of RX6 hX (by decide) rfl (Nat.le_of_ble_eq_true rfl) ?_
  intro p e s m args below meth c C hr hlk
  show Z p l e (zrm 0) s m args below meth c Γ 1 0 0 (MQ below (zQc Γ (zpi (fun x G' => G' = G ∧ ((x = 0 ∨ x = 1) ∧ (x = 1 ↔ fD a = true))))) args s 0 0 (zA Γ)) 0 [some (zi a)] [] G
  refine zs_loc 0 rfl (fun ha0 hb0 => ?_)
  refine zs_iload_n (pc := 0) C dX6_isDigit_0 rfl ?_
  refine zs_bipush (pc := 1) C dX6_isDigit_1 (by decide) (by decide) ?_
  refine zs_icmp_lt (tgt := 16) (pc := 3) C dX6_isDigit_3 (by decide) (fun h3 => ?_) (fun h3 => ?_)
  · skip
    refine zs_iconst (pc := 16) C dX6_isDigit_16 (by decide) ?_
    exact zs_zret (pc := 17) C hr hlk dX6_isDigit_17 (by omega) ⟨rfl, (by rw [fD_i]; omega)⟩
  · skip
    refine zs_iload_n (pc := 6) C dX6_isDigit_6 rfl ?_
    refine zs_bipush (pc := 7) C dX6_isDigit_7 (by decide) (by decide) ?_
    refine zs_icmp_gt (tgt := 16) (pc := 9) C dX6_isDigit_9 (by decide) (fun h9 => ?_) (fun h9 => ?_)
    · skip
      refine zs_iconst (pc := 16) C dX6_isDigit_16 (by decide) ?_
      exact zs_zret (pc := 17) C hr hlk dX6_isDigit_17 (by omega) ⟨rfl, (by rw [fD_i]; omega)⟩
    · skip
      refine zs_iconst (pc := 12) C dX6_isDigit_12 (by decide) ?_
      refine zs_goto (tgt := 17) (pc := 13) C dX6_isDigit_13 (by decide) ?_
      exact zs_zret (pc := 17) C hr hlk dX6_isDigit_17 (by omega) ⟨rfl, (by rw [fD_i]; omega)⟩

set_option maxHeartbeats 4000000 in
set_option maxRecDepth 100000 in
theorem c_X6_addF {l : Launch} {Γ : zΓ} {G : zH} {w : Nat} {k1 k2 : Int} (hX : zXs Γ) (hk : G.1 704 w 0 ≤ 700) : zMet l Γ yX6_add cX6_add 3 none 0 [zr 7 w, zi k1, zi k2] G (zpv (fun G' => zsm [704, 2045, 2047] G G' ∧ (G'.1 704 w 0 = G.1 704 w 0 + 1 ∧ (∀ j : Nat, G'.1 2045 (Γ.2.1 w 1) j = if j = (G.1 704 w 0).toNat then k1 else G.1 2045 (Γ.2.1 w 1) j) ∧ (∀ j : Nat, G'.1 2047 (Γ.2.1 w 3) j = if j = (G.1 704 w 0).toNat then k2 else G.1 2047 (Γ.2.1 w 3) j)))) := by
  refine zMet_of RX6 hX (by decide) rfl (Nat.le_of_ble_eq_true rfl) ?_
  intro p e s m args below meth c C hr hlk
  show Z p l e (zrm 0) s m args below meth c Γ 3 0 0 (MQ below (zQc Γ (zpv (fun G' => zsm [704, 2045, 2047] G G' ∧ (G'.1 704 w 0 = G.1 704 w 0 + 1 ∧ (∀ j : Nat, G'.1 2045 (Γ.2.1 w 1) j = if j = (G.1 704 w 0).toNat then k1 else G.1 2045 (Γ.2.1 w 1) j) ∧ (∀ j : Nat, G'.1 2047 (Γ.2.1 w 3) j = if j = (G.1 704 w 0).toNat then k2 else G.1 2047 (Γ.2.1 w 3) j))))) args s 0 0 (zA Γ)) 0 [some (zr 7 w), some (zi k1), some (zi k2)] [] G
  refine zs_loc 1 rfl (fun ha1 hb1 => ?_)
  refine zs_loc 2 rfl (fun ha2 hb2 => ?_)
  refine zs_aload_n (pc := 0) C dX6_add_0 rfl ?_
  refine zs_geti (r := 704) (pc := 1) C dX6_add_1 w_X6_57 f_7_4 rfl (r_704 0) (fun v1 e1 l1 u1 => ?_)
  refine zs_sipush (pc := 4) C dX6_add_4 (by decide) (by decide) ?_
  refine zs_icmp_gt (tgt := 40) (pc := 7) C dX6_add_7 (by decide) (fun h7 => ?_) (fun h7 => ?_)
  · skip
    exact zs_vret (pc := 40) C hr hlk dX6_add_40 ⟨by repeat (first | exact zsm_rf | assumption | refine zsm_C (by decide) ?_ | refine zsm_I (by decide) ?_ | refine zsm_J ?_ | refine zsm_c (by assumption) (by decide) ?_), (by first | (exfalso; omega) | (refine ⟨by simp only [zuI_1, zuI_2, zuJ_1, zuJ_2, zuJ_3, zuP_1, zuP_2, zuP_3, zuC_1, zuC_2, reduceIte, Nat.reduceEqDiff, false_and, and_false, true_and, and_true, and_self, or_true, true_or, or_false, false_or]; omega, fun j => ?_, fun j => ?_⟩ <;> simp only [zuI_1, zuI_2, zuJ_1, zuJ_2, zuJ_3, zuP_1, zuP_2, zuP_3, zuC_1, zuC_2, reduceIte, Nat.reduceEqDiff, false_and, and_false, true_and, and_true, and_self, or_true, true_or, or_false, false_or, e15, e25]))⟩
  · skip
    refine zs_aload_n (pc := 10) C dX6_add_10 rfl ?_
    refine zs_getf (pc := 11) C dX6_add_11 w_X6_15 f_7_1 (by decide) ?_
    refine zs_aload_n (pc := 14) C dX6_add_14 rfl ?_
    refine zs_geti (r := 704) (pc := 15) C dX6_add_15 w_X6_57 f_7_4 rfl (r_704 0) (fun v15 e15 l15 u15 => ?_)
    refine zs_iload_n (pc := 18) C dX6_add_18 rfl ?_
    refine zs_iast (r := 2045) (pc := 19) C dX6_add_19 a_45 (by decide) (by omega) rfl (r_2045 _) (by omega) ?_
    refine zs_aload_n (pc := 20) C dX6_add_20 rfl ?_
    refine zs_getf (pc := 21) C dX6_add_21 w_X6_21 f_7_3 (by decide) ?_
    refine zs_aload_n (pc := 24) C dX6_add_24 rfl ?_
    refine zs_geti (r := 704) (pc := 25) C dX6_add_25 w_X6_57 f_7_4 rfl (r_704 0) (fun v25 e25 l25 u25 => ?_)
    try simp only [zuI_1, zuI_2, zuJ_1, zuJ_2, zuJ_3, zuP_1, zuP_2, zuP_3, zuC_1, zuC_2, reduceIte, Nat.reduceEqDiff, false_and, and_false, true_and, and_true, and_self, or_true, true_or, or_false, false_or] at e25
    refine zs_iload_n (pc := 28) C dX6_add_28 rfl ?_
    refine zs_iast (r := 2047) (pc := 29) C dX6_add_29 a_47 (by decide) (by omega) rfl (r_2047 _) (by omega) ?_
    refine zs_aload_n (pc := 30) C dX6_add_30 rfl ?_
    refine zs_dupa (pc := 31) C dX6_add_31 ?_
    refine zs_geti (r := 704) (pc := 32) C dX6_add_32 w_X6_57 f_7_4 rfl (r_704 0) (fun v32 e32 l32 u32 => ?_)
    try simp only [zuI_1, zuI_2, zuJ_1, zuJ_2, zuJ_3, zuP_1, zuP_2, zuP_3, zuC_1, zuC_2, reduceIte, Nat.reduceEqDiff, false_and, and_false, true_and, and_true, and_self, or_true, true_or, or_false, false_or] at e32
    refine zs_iconst (pc := 35) C dX6_add_35 (by decide) ?_
    first | refine zs_iadd (pc := 36) C dX6_add_36 (by omega) ?_ | refine zs_iaddF (pc := 36) C dX6_add_36 (fun z36 hz361 hz362 => ?_)
    refine zs_puti (r := 704) (pc := 37) C dX6_add_37 w_X6_57 f_7_4 rfl (r_704 0) (by omega) ?_
    exact zs_vret (pc := 40) C hr hlk dX6_add_40 ⟨by repeat (first | exact zsm_rf | assumption | refine zsm_C (by decide) ?_ | refine zsm_I (by decide) ?_ | refine zsm_J ?_ | refine zsm_c (by assumption) (by decide) ?_), (by first | (exfalso; omega) | (refine ⟨by simp only [zuI_1, zuI_2, zuJ_1, zuJ_2, zuJ_3, zuP_1, zuP_2, zuP_3, zuC_1, zuC_2, reduceIte, Nat.reduceEqDiff, false_and, and_false, true_and, and_true, and_self, or_true, true_or, or_false, false_or]; omega, fun j => ?_, fun j => ?_⟩ <;> simp only [zuI_1, zuI_2, zuJ_1, zuJ_2, zuJ_3, zuP_1, zuP_2, zuP_3, zuC_1, zuC_2, reduceIte, Nat.reduceEqDiff, false_and, and_false, true_and, and_true, and_self, or_true, true_or, or_false, false_or, e15, e25]))⟩

set_option maxHeartbeats 4000000 in
set_option maxRecDepth 100000 in
theorem c_X6_readWordF {l : Launch} {Γ : zΓ} {G : zH} {w b : Nat} (hX : zXs Γ) (hk : G.1 704 w 0 ≤ 700) (hp : G.1 706 w 0 < G.1 705 w 0) (hl : fL ((G.1 2055 b) (G.1 706 w 0).toNat) = true) (hw : ∀ k : Nat, k < 24 → G.1 2044 (Γ.2.1 w 0) k = wl.getD k 0) : zMet l Γ yX6_readWord cX6_readWord 5 none 1 [zr 7 w, zr 55 b] G (zpv (fun G' => zsm [704, 706, 2045, 2047] G G' ∧ (G'.1 704 w 0 = G.1 704 w 0 + 1 ∧ (∀ j : Nat, G'.1 2045 (Γ.2.1 w 1) j = if j = (G.1 704 w 0).toNat then tkK (G.1 2055 b) (G.1 705 w 0) (G.1 706 w 0) else G.1 2045 (Γ.2.1 w 1) j) ∧ (∃ v : Int, tkR (tkK (G.1 2055 b) (G.1 705 w 0) (G.1 706 w 0)) (tkV (G.1 2055 b) (G.1 705 w 0) (G.1 706 w 0)) v ∧ ∀ j : Nat, G'.1 2047 (Γ.2.1 w 3) j = if j = (G.1 704 w 0).toNat then v else G.1 2047 (Γ.2.1 w 3) j) ∧ G'.1 706 w 0 = tkN (G.1 2055 b) (G.1 705 w 0) (G.1 706 w 0)))) := by
  refine zMet_of RX6 hX (by decide) rfl (Nat.le_of_ble_eq_true rfl) ?_
  intro p e s m args below meth c C hr hlk
  show Z p l e (zrm 1) s m args below meth c Γ 5 0 0 (MQ below (zQc Γ (zpv (fun G' => zsm [704, 706, 2045, 2047] G G' ∧ (G'.1 704 w 0 = G.1 704 w 0 + 1 ∧ (∀ j : Nat, G'.1 2045 (Γ.2.1 w 1) j = if j = (G.1 704 w 0).toNat then tkK (G.1 2055 b) (G.1 705 w 0) (G.1 706 w 0) else G.1 2045 (Γ.2.1 w 1) j) ∧ (∃ v : Int, tkR (tkK (G.1 2055 b) (G.1 705 w 0) (G.1 706 w 0)) (tkV (G.1 2055 b) (G.1 705 w 0) (G.1 706 w 0)) v ∧ ∀ j : Nat, G'.1 2047 (Γ.2.1 w 3) j = if j = (G.1 704 w 0).toNat then v else G.1 2047 (Γ.2.1 w 3) j) ∧ G'.1 706 w 0 = tkN (G.1 2055 b) (G.1 705 w 0) (G.1 706 w 0))))) args s 0 0 (zA Γ)) 0 [some (zr 7 w), some (zr 55 b), none, none, none] [] G
  refine zs_aload_n (pc := 0) C dX6_readWord_0 rfl ?_
  refine zs_geti (r := 706) (pc := 1) C dX6_readWord_1 w_X6_60 f_7_6 rfl (r_706 0) (fun v1 e1 l1 u1 => ?_)
  refine zs_istore_n (pc := 4) C dX6_readWord_4 (by decide) ?_
  dsimp only [zset, zclr, znone]
  refine zs_iconst (pc := 5) C dX6_readWord_5 (by decide) ?_
  refine zs_istore_n (pc := 6) C dX6_readWord_6 (by decide) ?_
  dsimp only [zset, zclr, znone]
  have L7 : ∀ (nn : Nat) (x2 x3 : Int) (G1 : zH), (x2 = G.1 706 w 0 ∧ x2 ≤ G1.1 706 w 0 ∧ G1.1 706 w 0 ≤ G.1 705 w 0) → (sp fL (G.1 2055 b) (G.1 705 w 0) (G1.1 706 w 0) = sp fL (G.1 2055 b) (G.1 705 w 0) (G.1 706 w 0)) → (x3 = cd (G.1 2055 b) (G.1 706 w 0) (G1.1 706 w 0)) → (zsm [706] G G1) → (701 - G1.1 706 w 0).toNat < nn → Z p l e (zrm 1) s m args below meth c Γ 5 0 0 (MQ below (zQc Γ (zpv (fun G' => zsm [704, 706, 2045, 2047] G G' ∧ (G'.1 704 w 0 = G.1 704 w 0 + 1 ∧ (∀ j : Nat, G'.1 2045 (Γ.2.1 w 1) j = if j = (G.1 704 w 0).toNat then tkK (G.1 2055 b) (G.1 705 w 0) (G.1 706 w 0) else G.1 2045 (Γ.2.1 w 1) j) ∧ (∃ v : Int, tkR (tkK (G.1 2055 b) (G.1 705 w 0) (G.1 706 w 0)) (tkV (G.1 2055 b) (G.1 705 w 0) (G.1 706 w 0)) v ∧ ∀ j : Nat, G'.1 2047 (Γ.2.1 w 3) j = if j = (G.1 704 w 0).toNat then v else G.1 2047 (Γ.2.1 w 3) j) ∧ G'.1 706 w 0 = tkN (G.1 2055 b) (G.1 705 w 0) (G.1 706 w 0))))) args s 0 0 (zA Γ)) 7 [some (zr 7 w), some (zr 55 b), some (zi x2), some (zi x3), none] [] G1 := by
    intro nn
    induction nn with
    | zero => intro x2 x3 G1 h7_0 h7_1 h7_2 h7_3 hm; exact absurd hm (Nat.not_lt_zero _)
    | succ nn ih7 =>
      intro x2 x3 G1 h7_0 h7_1 h7_2 h7_3 hm7
      refine zs_aload_n (pc := 7) C dX6_readWord_7 rfl ?_
      refine zs_geti (r := 706) (pc := 8) C dX6_readWord_8 w_X6_60 f_7_6 rfl (r_706 0) (fun v8 e8 l8 u8 => ?_)
      refine zs_aload_n (pc := 11) C dX6_readWord_11 rfl ?_
      refine zs_geti (r := 705) (pc := 12) C dX6_readWord_12 w_X6_54 f_7_5 rfl (r_705 0) (fun v12 e12 l12 u12 => ?_)
      refine zs_icmp_ge (tgt := 61) (pc := 15) C dX6_readWord_15 (by decide) (fun h15 => ?_) (fun h15 => ?_)
      · skip
        have e05 := zsm_at h7_3 705 w 0 (by decide)
        have e04a := zsm_at h7_3 704 w 0 (by decide)
        have e55 := h7_3.1 2055 (by decide)
        have hsp : G1.1 706 w 0 = sp fL (G.1 2055 b) (G.1 705 w 0) (G.1 706 w 0) := by
          rw [← h7_1, sp_e]
          intro h9
          first | omega | (have h8 := hq24.2.mpr (by rw [e23, e20, e55]; exact h9.2); omega)
        refine zs_aload_n (pc := 61) C dX6_readWord_61 rfl ?_
        refine zs_geti (r := 706) (pc := 62) C dX6_readWord_62 w_X6_60 f_7_6 rfl (r_706 0) (fun v62 e62 l62 u62 => ?_)
        refine zs_iload_n (pc := 65) C dX6_readWord_65 rfl ?_
        first | refine zs_isub (pc := 66) C dX6_readWord_66 (by omega) ?_ | refine zs_isubF (pc := 66) C dX6_readWord_66 (fun z66 hz661 hz662 => ?_)
        refine zs_bipush (pc := 67) C dX6_readWord_67 (by decide) (by decide) ?_
        refine zs_icmp_le (tgt := 79) (pc := 69) C dX6_readWord_69 (by decide) (fun h69 => ?_) (fun h69 => ?_)
        · skip
          refine zs_iconst (pc := 79) C dX6_readWord_79 (by decide) ?_
          refine zs_istore (pc := 80) C dX6_readWord_80 (by decide) ?_
          dsimp only [zset, zclr, znone]
          have L82 : ∀ (nn : Nat) (x4 : Int), (0 ≤ x4 ∧ x4 ≤ 24) → (lw x3 = lwn (wl.drop x4.toNat) x3 x4) → (24 - x4).toNat < nn → Z p l e (zrm 1) s m args below meth c Γ 5 0 0 (MQ below (zQc Γ (zpv (fun G' => zsm [704, 706, 2045, 2047] G G' ∧ (G'.1 704 w 0 = G.1 704 w 0 + 1 ∧ (∀ j : Nat, G'.1 2045 (Γ.2.1 w 1) j = if j = (G.1 704 w 0).toNat then tkK (G.1 2055 b) (G.1 705 w 0) (G.1 706 w 0) else G.1 2045 (Γ.2.1 w 1) j) ∧ (∃ v : Int, tkR (tkK (G.1 2055 b) (G.1 705 w 0) (G.1 706 w 0)) (tkV (G.1 2055 b) (G.1 705 w 0) (G.1 706 w 0)) v ∧ ∀ j : Nat, G'.1 2047 (Γ.2.1 w 3) j = if j = (G.1 704 w 0).toNat then v else G.1 2047 (Γ.2.1 w 3) j) ∧ G'.1 706 w 0 = tkN (G.1 2055 b) (G.1 705 w 0) (G.1 706 w 0))))) args s 0 0 (zA Γ)) 82 [some (zr 7 w), some (zr 55 b), some (zi x2), some (zi x3), some (zi x4)] [] G1 := by
            intro nn
            induction nn with
            | zero => intro x4 h82_0 h82_1 hm; exact absurd hm (Nat.not_lt_zero _)
            | succ nn ih82 =>
              intro x4 h82_0 h82_1 hm82
              refine zs_iload (pc := 82) C dX6_readWord_82 rfl ?_
              refine zs_bipush (pc := 84) C dX6_readWord_84 (by decide) (by decide) ?_
              refine zs_icmp_ge (tgt := 114) (pc := 86) C dX6_readWord_86 (by decide) (fun h86 => ?_) (fun h86 => ?_)
              · skip
                refine zs_aload_n (pc := 114) C dX6_readWord_114 rfl ?_
                refine zs_iconst (pc := 115) C dX6_readWord_115 (by decide) ?_
                refine zs_iload_n (pc := 116) C dX6_readWord_116 rfl ?_
                refine zVv2 (pc := 117) C dX6_readWord_117 v_X6_81 (c_X6_addF hX (by omega)) (by decide) (by decide) ⟨Nat.zero_le _, Nat.zero_le _⟩ (Nat.le_of_ble_eq_true rfl) (fun G117 hp117 => ?_)
                obtain ⟨hz117, hq117⟩ := hp117
                exact zs_vret (pc := 120) C hr hlk dX6_readWord_120 ⟨by repeat (first | exact zsm_rf | assumption | refine zsm_C (by decide) ?_ | refine zsm_I (by decide) ?_ | refine zsm_J ?_ | refine zsm_c (by assumption) (by decide) ?_), (by
                          have e45 := h7_3.1 2045 (by decide)
                          have e47 := h7_3.1 2047 (by decide)
                          have e04 := h7_3.1 704 (by decide)
                          have q1 := tk_w1 hp hl (by omega) (by rw [← hsp, ← h7_2, h82_1]; exact lwn_e (by omega))
                          have tr := zsm_at hz117 706 w 0 (by decide)
                          rw [e45, e47, e04] at hq117
                          rw [q1.1, q1.2.1, q1.2.2, ← hsp]
                          exact ⟨hq117.1, hq117.2.1, ⟨_, ⟨fun q => by first | (exact absurd q (by decide)) | (exact h7_2), fun q => by first | rfl | (exact absurd rfl q) | (exact h7_2)⟩, hq117.2.2⟩, by omega⟩)⟩
              · skip
                refine zs_aload_n (pc := 89) C dX6_readWord_89 rfl ?_
                refine zs_getf (pc := 90) C dX6_readWord_90 w_X6_11 f_7_0 (by decide) ?_
                refine zs_iload (pc := 93) C dX6_readWord_93 rfl ?_
                refine zs_iald (r := 2044) (pc := 95) C dX6_readWord_95 a_44 (by decide) (by omega) rfl (r_2044 _) (fun v95 e95 l95 u95 => ?_)
                have hv95 : v95 = wl.getD x4.toNat 0 := by rw [e95, h7_3.1 2044 (by decide)]; exact hw _ (by omega)
                have hlw := h82_1.trans (lwn_s (by omega) (by omega) hv95)
                refine zs_iload_n (pc := 96) C dX6_readWord_96 rfl ?_
                refine zs_icmp_ne (tgt := 108) (pc := 97) C dX6_readWord_97 (by decide) (fun h97 => ?_) (fun h97 => ?_)
                · skip
                  first | refine zs_iinc (pc := 108) C dX6_readWord_108 rfl (by decide) (by omega) ?_ | refine zs_iincF (pc := 108) C dX6_readWord_108 rfl (by decide) (fun z108 hz1081 hz1082 => ?_)
                  dsimp only [zset, zclr, znone]
                  refine zs_goto (tgt := 82) (pc := 111) C dX6_readWord_111 (by decide) ?_
                  exact zs_wk (ih82 _ (by omega) (by rw [hlw, if_neg (by omega)]) (by first | omega | (simp only [zuI_1, zuI_2, zuJ_1, zuJ_2, zuJ_3, zuP_1, zuP_2, zuP_3, zuC_1, zuC_2, reduceIte, Nat.reduceEqDiff, false_and, and_false, true_and, and_true, and_self, or_true, true_or, or_false, false_or]; omega))) (zwk_s rfl (zwk_s rfl (zwk_s rfl (zwk_s rfl (zwk_s rfl zwk_0)))))
                · skip
                  refine zs_aload_n (pc := 100) C dX6_readWord_100 rfl ?_
                  refine zs_iconst (pc := 101) C dX6_readWord_101 (by decide) ?_
                  refine zs_iload (pc := 102) C dX6_readWord_102 rfl ?_
                  refine zVv2 (pc := 104) C dX6_readWord_104 v_X6_81 (c_X6_addF hX (by omega)) (by decide) (by decide) ⟨Nat.zero_le _, Nat.zero_le _⟩ (Nat.le_of_ble_eq_true rfl) (fun G104 hp104 => ?_)
                  obtain ⟨hz104, hq104⟩ := hp104
                  exact zs_vret (pc := 107) C hr hlk dX6_readWord_107 ⟨by repeat (first | exact zsm_rf | assumption | refine zsm_C (by decide) ?_ | refine zsm_I (by decide) ?_ | refine zsm_J ?_ | refine zsm_c (by assumption) (by decide) ?_), (by
                            have e45 := h7_3.1 2045 (by decide)
                            have e47 := h7_3.1 2047 (by decide)
                            have e04 := h7_3.1 704 (by decide)
                            have q1 := tk_w2 hp hl (by omega) (k := x4) (by rw [← hsp, ← h7_2, hlw, if_pos (by omega)]) (by omega)
                            have tr := zsm_at hz104 706 w 0 (by decide)
                            rw [e45, e47, e04] at hq104
                            rw [q1.1, q1.2.1, q1.2.2, ← hsp]
                            exact ⟨hq104.1, hq104.2.1, ⟨_, ⟨fun q => by first | (exact absurd q (by decide)) | (exact rfl), fun q => by first | rfl | (exact absurd rfl q) | (exact rfl)⟩, hq104.2.2⟩, by omega⟩)⟩
          exact zs_wk (L82 _ _ (by omega) rfl (Nat.lt_succ_self _)) (zwk_s rfl (zwk_s rfl (zwk_s rfl (zwk_s rfl (zwk_s rfl zwk_0)))))
        · skip
          refine zs_aload_n (pc := 72) C dX6_readWord_72 rfl ?_
          refine zs_iconst (pc := 73) C dX6_readWord_73 (by decide) ?_
          refine zs_iconst (pc := 74) C dX6_readWord_74 (by decide) ?_
          refine zVv2 (pc := 75) C dX6_readWord_75 v_X6_81 (c_X6_addF hX (by omega)) (by decide) (by decide) ⟨Nat.zero_le _, Nat.zero_le _⟩ (Nat.le_of_ble_eq_true rfl) (fun G75 hp75 => ?_)
          obtain ⟨hz75, hq75⟩ := hp75
          exact zs_vret (pc := 78) C hr hlk dX6_readWord_78 ⟨by repeat (first | exact zsm_rf | assumption | refine zsm_C (by decide) ?_ | refine zsm_I (by decide) ?_ | refine zsm_J ?_ | refine zsm_c (by assumption) (by decide) ?_), (by
                    have e45 := h7_3.1 2045 (by decide)
                    have e47 := h7_3.1 2047 (by decide)
                    have e04 := h7_3.1 704 (by decide)
                    have q1 := tk_w5 hp hl (by omega)
                    have tr := zsm_at hz75 706 w 0 (by decide)
                    rw [e45, e47, e04] at hq75
                    rw [q1.1, q1.2.1, q1.2.2, ← hsp]
                    exact ⟨hq75.1, hq75.2.1, ⟨_, ⟨fun q => by first | (exact absurd q (by decide)) | (exact rfl), fun q => by first | rfl | (exact absurd rfl q) | (exact rfl)⟩, hq75.2.2⟩, by omega⟩)⟩
      · skip
        refine zs_aload_n (pc := 18) C dX6_readWord_18 rfl ?_
        refine zs_aload_n (pc := 19) C dX6_readWord_19 rfl ?_
        refine zs_geti (r := 706) (pc := 20) C dX6_readWord_20 w_X6_60 f_7_6 rfl (r_706 0) (fun v20 e20 l20 u20 => ?_)
        refine zs_iald (r := 2055) (pc := 23) C dX6_readWord_23 a_55 (by decide) (by omega) rfl (r_2055 _) (fun v23 e23 l23 u23 => ?_)
        refine zSip1 (pc := 24) C dX6_readWord_24 s_X6_63 (c_X6_isLetterF hX ) (by decide) ⟨Nat.zero_le _, Nat.zero_le _⟩ (Nat.le_of_ble_eq_true rfl) (fun x24 l24 u24 hp24 => ?_)
        have hq24 := hp24
        refine zs_if_eq (tgt := 61) (pc := 27) C dX6_readWord_27 (by decide) (fun h27 => ?_) (fun h27 => ?_)
        · skip
          have e05 := zsm_at h7_3 705 w 0 (by decide)
          have e04a := zsm_at h7_3 704 w 0 (by decide)
          have e55 := h7_3.1 2055 (by decide)
          have hsp : G1.1 706 w 0 = sp fL (G.1 2055 b) (G.1 705 w 0) (G.1 706 w 0) := by
            rw [← h7_1, sp_e]
            intro h9
            first | omega | (have h8 := hq24.2.mpr (by rw [e23, e20, e55]; exact h9.2); omega)
          refine zs_aload_n (pc := 61) C dX6_readWord_61 rfl ?_
          refine zs_geti (r := 706) (pc := 62) C dX6_readWord_62 w_X6_60 f_7_6 rfl (r_706 0) (fun v62 e62 l62 u62 => ?_)
          refine zs_iload_n (pc := 65) C dX6_readWord_65 rfl ?_
          first | refine zs_isub (pc := 66) C dX6_readWord_66 (by omega) ?_ | refine zs_isubF (pc := 66) C dX6_readWord_66 (fun z66 hz661 hz662 => ?_)
          refine zs_bipush (pc := 67) C dX6_readWord_67 (by decide) (by decide) ?_
          refine zs_icmp_le (tgt := 79) (pc := 69) C dX6_readWord_69 (by decide) (fun h69 => ?_) (fun h69 => ?_)
          · skip
            refine zs_iconst (pc := 79) C dX6_readWord_79 (by decide) ?_
            refine zs_istore (pc := 80) C dX6_readWord_80 (by decide) ?_
            dsimp only [zset, zclr, znone]
            have L82 : ∀ (nn : Nat) (x4 : Int), (0 ≤ x4 ∧ x4 ≤ 24) → (lw x3 = lwn (wl.drop x4.toNat) x3 x4) → (24 - x4).toNat < nn → Z p l e (zrm 1) s m args below meth c Γ 5 0 0 (MQ below (zQc Γ (zpv (fun G' => zsm [704, 706, 2045, 2047] G G' ∧ (G'.1 704 w 0 = G.1 704 w 0 + 1 ∧ (∀ j : Nat, G'.1 2045 (Γ.2.1 w 1) j = if j = (G.1 704 w 0).toNat then tkK (G.1 2055 b) (G.1 705 w 0) (G.1 706 w 0) else G.1 2045 (Γ.2.1 w 1) j) ∧ (∃ v : Int, tkR (tkK (G.1 2055 b) (G.1 705 w 0) (G.1 706 w 0)) (tkV (G.1 2055 b) (G.1 705 w 0) (G.1 706 w 0)) v ∧ ∀ j : Nat, G'.1 2047 (Γ.2.1 w 3) j = if j = (G.1 704 w 0).toNat then v else G.1 2047 (Γ.2.1 w 3) j) ∧ G'.1 706 w 0 = tkN (G.1 2055 b) (G.1 705 w 0) (G.1 706 w 0))))) args s 0 0 (zA Γ)) 82 [some (zr 7 w), some (zr 55 b), some (zi x2), some (zi x3), some (zi x4)] [] G1 := by
              intro nn
              induction nn with
              | zero => intro x4 h82_0 h82_1 hm; exact absurd hm (Nat.not_lt_zero _)
              | succ nn ih82 =>
                intro x4 h82_0 h82_1 hm82
                refine zs_iload (pc := 82) C dX6_readWord_82 rfl ?_
                refine zs_bipush (pc := 84) C dX6_readWord_84 (by decide) (by decide) ?_
                refine zs_icmp_ge (tgt := 114) (pc := 86) C dX6_readWord_86 (by decide) (fun h86 => ?_) (fun h86 => ?_)
                · skip
                  refine zs_aload_n (pc := 114) C dX6_readWord_114 rfl ?_
                  refine zs_iconst (pc := 115) C dX6_readWord_115 (by decide) ?_
                  refine zs_iload_n (pc := 116) C dX6_readWord_116 rfl ?_
                  refine zVv2 (pc := 117) C dX6_readWord_117 v_X6_81 (c_X6_addF hX (by omega)) (by decide) (by decide) ⟨Nat.zero_le _, Nat.zero_le _⟩ (Nat.le_of_ble_eq_true rfl) (fun G117 hp117 => ?_)
                  obtain ⟨hz117, hq117⟩ := hp117
                  exact zs_vret (pc := 120) C hr hlk dX6_readWord_120 ⟨by repeat (first | exact zsm_rf | assumption | refine zsm_C (by decide) ?_ | refine zsm_I (by decide) ?_ | refine zsm_J ?_ | refine zsm_c (by assumption) (by decide) ?_), (by
                            have e45 := h7_3.1 2045 (by decide)
                            have e47 := h7_3.1 2047 (by decide)
                            have e04 := h7_3.1 704 (by decide)
                            have q1 := tk_w1 hp hl (by omega) (by rw [← hsp, ← h7_2, h82_1]; exact lwn_e (by omega))
                            have tr := zsm_at hz117 706 w 0 (by decide)
                            rw [e45, e47, e04] at hq117
                            rw [q1.1, q1.2.1, q1.2.2, ← hsp]
                            exact ⟨hq117.1, hq117.2.1, ⟨_, ⟨fun q => by first | (exact absurd q (by decide)) | (exact h7_2), fun q => by first | rfl | (exact absurd rfl q) | (exact h7_2)⟩, hq117.2.2⟩, by omega⟩)⟩
                · skip
                  refine zs_aload_n (pc := 89) C dX6_readWord_89 rfl ?_
                  refine zs_getf (pc := 90) C dX6_readWord_90 w_X6_11 f_7_0 (by decide) ?_
                  refine zs_iload (pc := 93) C dX6_readWord_93 rfl ?_
                  refine zs_iald (r := 2044) (pc := 95) C dX6_readWord_95 a_44 (by decide) (by omega) rfl (r_2044 _) (fun v95 e95 l95 u95 => ?_)
                  have hv95 : v95 = wl.getD x4.toNat 0 := by rw [e95, h7_3.1 2044 (by decide)]; exact hw _ (by omega)
                  have hlw := h82_1.trans (lwn_s (by omega) (by omega) hv95)
                  refine zs_iload_n (pc := 96) C dX6_readWord_96 rfl ?_
                  refine zs_icmp_ne (tgt := 108) (pc := 97) C dX6_readWord_97 (by decide) (fun h97 => ?_) (fun h97 => ?_)
                  · skip
                    first | refine zs_iinc (pc := 108) C dX6_readWord_108 rfl (by decide) (by omega) ?_ | refine zs_iincF (pc := 108) C dX6_readWord_108 rfl (by decide) (fun z108 hz1081 hz1082 => ?_)
                    dsimp only [zset, zclr, znone]
                    refine zs_goto (tgt := 82) (pc := 111) C dX6_readWord_111 (by decide) ?_
                    exact zs_wk (ih82 _ (by omega) (by rw [hlw, if_neg (by omega)]) (by first | omega | (simp only [zuI_1, zuI_2, zuJ_1, zuJ_2, zuJ_3, zuP_1, zuP_2, zuP_3, zuC_1, zuC_2, reduceIte, Nat.reduceEqDiff, false_and, and_false, true_and, and_true, and_self, or_true, true_or, or_false, false_or]; omega))) (zwk_s rfl (zwk_s rfl (zwk_s rfl (zwk_s rfl (zwk_s rfl zwk_0)))))
                  · skip
                    refine zs_aload_n (pc := 100) C dX6_readWord_100 rfl ?_
                    refine zs_iconst (pc := 101) C dX6_readWord_101 (by decide) ?_
                    refine zs_iload (pc := 102) C dX6_readWord_102 rfl ?_
                    refine zVv2 (pc := 104) C dX6_readWord_104 v_X6_81 (c_X6_addF hX (by omega)) (by decide) (by decide) ⟨Nat.zero_le _, Nat.zero_le _⟩ (Nat.le_of_ble_eq_true rfl) (fun G104 hp104 => ?_)
                    obtain ⟨hz104, hq104⟩ := hp104
                    exact zs_vret (pc := 107) C hr hlk dX6_readWord_107 ⟨by repeat (first | exact zsm_rf | assumption | refine zsm_C (by decide) ?_ | refine zsm_I (by decide) ?_ | refine zsm_J ?_ | refine zsm_c (by assumption) (by decide) ?_), (by
                              have e45 := h7_3.1 2045 (by decide)
                              have e47 := h7_3.1 2047 (by decide)
                              have e04 := h7_3.1 704 (by decide)
                              have q1 := tk_w2 hp hl (by omega) (k := x4) (by rw [← hsp, ← h7_2, hlw, if_pos (by omega)]) (by omega)
                              have tr := zsm_at hz104 706 w 0 (by decide)
                              rw [e45, e47, e04] at hq104
                              rw [q1.1, q1.2.1, q1.2.2, ← hsp]
                              exact ⟨hq104.1, hq104.2.1, ⟨_, ⟨fun q => by first | (exact absurd q (by decide)) | (exact rfl), fun q => by first | rfl | (exact absurd rfl q) | (exact rfl)⟩, hq104.2.2⟩, by omega⟩)⟩
            exact zs_wk (L82 _ _ (by omega) rfl (Nat.lt_succ_self _)) (zwk_s rfl (zwk_s rfl (zwk_s rfl (zwk_s rfl (zwk_s rfl zwk_0)))))
          · skip
            refine zs_aload_n (pc := 72) C dX6_readWord_72 rfl ?_
            refine zs_iconst (pc := 73) C dX6_readWord_73 (by decide) ?_
            refine zs_iconst (pc := 74) C dX6_readWord_74 (by decide) ?_
            refine zVv2 (pc := 75) C dX6_readWord_75 v_X6_81 (c_X6_addF hX (by omega)) (by decide) (by decide) ⟨Nat.zero_le _, Nat.zero_le _⟩ (Nat.le_of_ble_eq_true rfl) (fun G75 hp75 => ?_)
            obtain ⟨hz75, hq75⟩ := hp75
            exact zs_vret (pc := 78) C hr hlk dX6_readWord_78 ⟨by repeat (first | exact zsm_rf | assumption | refine zsm_C (by decide) ?_ | refine zsm_I (by decide) ?_ | refine zsm_J ?_ | refine zsm_c (by assumption) (by decide) ?_), (by
                      have e45 := h7_3.1 2045 (by decide)
                      have e47 := h7_3.1 2047 (by decide)
                      have e04 := h7_3.1 704 (by decide)
                      have q1 := tk_w5 hp hl (by omega)
                      have tr := zsm_at hz75 706 w 0 (by decide)
                      rw [e45, e47, e04] at hq75
                      rw [q1.1, q1.2.1, q1.2.2, ← hsp]
                      exact ⟨hq75.1, hq75.2.1, ⟨_, ⟨fun q => by first | (exact absurd q (by decide)) | (exact rfl), fun q => by first | rfl | (exact absurd rfl q) | (exact rfl)⟩, hq75.2.2⟩, by omega⟩)⟩
        · skip
          have hL : fL v23 = true := hq24.2.mp (by omega)
          have hL9 := fL_i.mp hL
          have e05 := zsm_at h7_3 705 w 0 (by decide)
          have e55 := h7_3.1 2055 (by decide)
          have hLb : fL ((G.1 2055 b) (G1.1 706 w 0).toNat) = true := by rw [← e55, ← e20, ← e23]; exact hL
          have hall : ∀ i : Int, G.1 706 w 0 ≤ i → i < G1.1 706 w 0 → fL ((G.1 2055 b) i.toNat) = true := fun i i1 i2 => sp_all (n := G.1 705 w 0) i1 (Int.lt_of_lt_of_le i2 (by rw [← h7_1]; exact sp_ge))
          refine zs_iload_n (pc := 30) C dX6_readWord_30 rfl ?_
          refine zs_aload_n (pc := 31) C dX6_readWord_31 rfl ?_
          refine zs_aload_n (pc := 32) C dX6_readWord_32 rfl ?_
          refine zs_geti (r := 706) (pc := 33) C dX6_readWord_33 w_X6_60 f_7_6 rfl (r_706 0) (fun v33 e33 l33 u33 => ?_)
          refine zs_iald (r := 2055) (pc := 36) C dX6_readWord_36 a_55 (by decide) (by omega) rfl (r_2055 _) (fun v36 e36 l36 u36 => ?_)
          have h36 : v36 = v23 := by rw [e36, e23, e33, e20]
          refine zs_aload_n (pc := 37) C dX6_readWord_37 rfl ?_
          refine zs_geti (r := 706) (pc := 38) C dX6_readWord_38 w_X6_60 f_7_6 rfl (r_706 0) (fun v38 e38 l38 u38 => ?_)
          refine zs_iload_n (pc := 41) C dX6_readWord_41 rfl ?_
          first | refine zs_isub (pc := 42) C dX6_readWord_42 (by omega) ?_ | refine zs_isubF (pc := 42) C dX6_readWord_42 (fun z42 hz421 hz422 => ?_)
          refine zSip2 (pc := 43) C dX6_readWord_43 s_X6_42 (c_X6_packedF hX (by omega)) (by decide) ⟨Nat.zero_le _, Nat.zero_le _⟩ (Nat.le_of_ble_eq_true rfl) (fun x43 l43 u43 hp43 => ?_)
          have hq43 := hp43
          refine zs_iorX (pc := 46) C dX6_readWord_46 (fun z46 ez46 hz461 hz462 => ?_)
          refine zs_istore_n (pc := 47) C dX6_readWord_47 (by decide) ?_
          dsimp only [zset, zclr, znone]
          refine zs_aload_n (pc := 48) C dX6_readWord_48 rfl ?_
          refine zs_dupa (pc := 49) C dX6_readWord_49 ?_
          refine zs_geti (r := 706) (pc := 50) C dX6_readWord_50 w_X6_60 f_7_6 rfl (r_706 0) (fun v50 e50 l50 u50 => ?_)
          refine zs_iconst (pc := 53) C dX6_readWord_53 (by decide) ?_
          first | refine zs_iadd (pc := 54) C dX6_readWord_54 (by omega) ?_ | refine zs_iaddF (pc := 54) C dX6_readWord_54 (fun z54 hz541 hz542 => ?_)
          refine zs_puti (r := 706) (pc := 55) C dX6_readWord_55 w_X6_60 f_7_6 rfl (r_706 0) (by omega) ?_
          refine zs_goto (tgt := 7) (pc := 58) C dX6_readWord_58 (by decide) ?_
          exact zs_wk (ih7 _ _ _ (by first | omega | (simp only [zuI_1, zuI_2, zuJ_1, zuJ_2, zuJ_3, zuP_1, zuP_2, zuP_3, zuC_1, zuC_2, reduceIte, Nat.reduceEqDiff, false_and, and_false, true_and, and_true, and_self, or_true, true_or, or_false, false_or]; omega)) (by simp only [zuI_1, zuI_2, zuJ_1, zuJ_2, zuJ_3, zuP_1, zuP_2, zuP_3, zuC_1, zuC_2, reduceIte, Nat.reduceEqDiff, false_and, and_false, true_and, and_true, and_self, or_true, true_or, or_false, false_or]; rw [← h7_1, show v50 + 1 = G1.1 706 w 0 + 1 by omega]; exact (sp_s (by omega) hLb).symm) (by simp only [zuI_1, zuI_2, zuJ_1, zuJ_2, zuJ_3, zuP_1, zuP_2, zuP_3, zuC_1, zuC_2, reduceIte, Nat.reduceEqDiff, false_and, and_false, true_and, and_true, and_self, or_true, true_or, or_false, false_or]; rw [ez46, hq43, h7_2, show v36 = (G.1 2055 b) (G1.1 706 w 0).toNat by rw [e36, e33, e55], show v38 - x2 = G1.1 706 w 0 - G.1 706 w 0 by omega, show v50 + 1 = G1.1 706 w 0 + 1 by omega]; exact cd_step (by omega) hall hLb) (by repeat (first | exact zsm_rf | assumption | refine zsm_C (by decide) ?_ | refine zsm_I (by decide) ?_ | refine zsm_J ?_ | refine zsm_c (by assumption) (by decide) ?_)) (by first | omega | (simp only [zuI_1, zuI_2, zuJ_1, zuJ_2, zuJ_3, zuP_1, zuP_2, zuP_3, zuC_1, zuC_2, reduceIte, Nat.reduceEqDiff, false_and, and_false, true_and, and_true, and_self, or_true, true_or, or_false, false_or]; omega))) (zwk_s rfl (zwk_s rfl (zwk_s rfl (zwk_s rfl (zwk_n zwk_0)))))
  exact zs_wk (L7 _ _ _ _ (by omega) rfl (by unfold cd; rw [cdd_0 (by omega), cdd_0 (by omega), cdd_0 (by omega), cdd_0 (by omega), cdd_0 (by omega), cdd_0 (by omega)]; rfl) zsm_rf (Nat.lt_succ_self _)) (zwk_s rfl (zwk_s rfl (zwk_s rfl (zwk_s rfl (zwk_n zwk_0)))))

set_option maxHeartbeats 4000000 in
set_option maxRecDepth 100000 in
theorem c_X6_readDigitsF {l : Launch} {Γ : zΓ} {G : zH} {w b : Nat} (hX : zXs Γ) (hk : G.1 704 w 0 ≤ 700) (hp : G.1 706 w 0 < G.1 705 w 0) (hl : ¬ fL ((G.1 2055 b) (G.1 706 w 0).toNat) = true) (hd : fD ((G.1 2055 b) (G.1 706 w 0).toNat) = true) : zMet l Γ yX6_readDigits cX6_readDigits 3 none 1 [zr 7 w, zr 55 b] G (zpv (fun G' => zsm [704, 706, 2045, 2047] G G' ∧ (G'.1 704 w 0 = G.1 704 w 0 + 1 ∧ (∀ j : Nat, G'.1 2045 (Γ.2.1 w 1) j = if j = (G.1 704 w 0).toNat then tkK (G.1 2055 b) (G.1 705 w 0) (G.1 706 w 0) else G.1 2045 (Γ.2.1 w 1) j) ∧ (∃ v : Int, tkR (tkK (G.1 2055 b) (G.1 705 w 0) (G.1 706 w 0)) (tkV (G.1 2055 b) (G.1 705 w 0) (G.1 706 w 0)) v ∧ ∀ j : Nat, G'.1 2047 (Γ.2.1 w 3) j = if j = (G.1 704 w 0).toNat then v else G.1 2047 (Γ.2.1 w 3) j) ∧ G'.1 706 w 0 = tkN (G.1 2055 b) (G.1 705 w 0) (G.1 706 w 0)))) := by
  refine zMet_of RX6 hX (by decide) rfl (Nat.le_of_ble_eq_true rfl) ?_
  intro p e s m args below meth c C hr hlk
  show Z p l e (zrm 1) s m args below meth c Γ 3 0 0 (MQ below (zQc Γ (zpv (fun G' => zsm [704, 706, 2045, 2047] G G' ∧ (G'.1 704 w 0 = G.1 704 w 0 + 1 ∧ (∀ j : Nat, G'.1 2045 (Γ.2.1 w 1) j = if j = (G.1 704 w 0).toNat then tkK (G.1 2055 b) (G.1 705 w 0) (G.1 706 w 0) else G.1 2045 (Γ.2.1 w 1) j) ∧ (∃ v : Int, tkR (tkK (G.1 2055 b) (G.1 705 w 0) (G.1 706 w 0)) (tkV (G.1 2055 b) (G.1 705 w 0) (G.1 706 w 0)) v ∧ ∀ j : Nat, G'.1 2047 (Γ.2.1 w 3) j = if j = (G.1 704 w 0).toNat then v else G.1 2047 (Γ.2.1 w 3) j) ∧ G'.1 706 w 0 = tkN (G.1 2055 b) (G.1 705 w 0) (G.1 706 w 0))))) args s 0 0 (zA Γ)) 0 [some (zr 7 w), some (zr 55 b), none] [] G
  refine zs_iconst (pc := 0) C dX6_readDigits_0 (by decide) ?_
  refine zs_istore_n (pc := 1) C dX6_readDigits_1 (by decide) ?_
  dsimp only [zset, zclr, znone]
  have L2 : ∀ (nn : Nat) (x2 : Int) (G1 : zH), ((0 ≤ x2 ∧ x2 ≤ 1000000) ∧ G.1 706 w 0 ≤ G1.1 706 w 0 ∧ G1.1 706 w 0 ≤ G.1 705 w 0) → (sp fD (G.1 2055 b) (G.1 705 w 0) (G1.1 706 w 0) = sp fD (G.1 2055 b) (G.1 705 w 0) (G.1 706 w 0)) → (dg (G.1 2055 b) (G.1 705 w 0) (G1.1 706 w 0) (min x2 100000) = dg (G.1 2055 b) (G.1 705 w 0) (G.1 706 w 0) 0) → (zsm [706] G G1) → (701 - G1.1 706 w 0).toNat < nn → Z p l e (zrm 1) s m args below meth c Γ 3 0 0 (MQ below (zQc Γ (zpv (fun G' => zsm [704, 706, 2045, 2047] G G' ∧ (G'.1 704 w 0 = G.1 704 w 0 + 1 ∧ (∀ j : Nat, G'.1 2045 (Γ.2.1 w 1) j = if j = (G.1 704 w 0).toNat then tkK (G.1 2055 b) (G.1 705 w 0) (G.1 706 w 0) else G.1 2045 (Γ.2.1 w 1) j) ∧ (∃ v : Int, tkR (tkK (G.1 2055 b) (G.1 705 w 0) (G.1 706 w 0)) (tkV (G.1 2055 b) (G.1 705 w 0) (G.1 706 w 0)) v ∧ ∀ j : Nat, G'.1 2047 (Γ.2.1 w 3) j = if j = (G.1 704 w 0).toNat then v else G.1 2047 (Γ.2.1 w 3) j) ∧ G'.1 706 w 0 = tkN (G.1 2055 b) (G.1 705 w 0) (G.1 706 w 0))))) args s 0 0 (zA Γ)) 2 [some (zr 7 w), some (zr 55 b), some (zi x2)] [] G1 := by
    intro nn
    induction nn with
    | zero => intro x2 G1 h2_0 h2_1 h2_2 h2_3 hm; exact absurd hm (Nat.not_lt_zero _)
    | succ nn ih2 =>
      intro x2 G1 h2_0 h2_1 h2_2 h2_3 hm2
      refine zs_aload_n (pc := 2) C dX6_readDigits_2 rfl ?_
      refine zs_geti (r := 706) (pc := 3) C dX6_readDigits_3 w_X6_60 f_7_6 rfl (r_706 0) (fun v3 e3 l3 u3 => ?_)
      refine zs_aload_n (pc := 6) C dX6_readDigits_6 rfl ?_
      refine zs_geti (r := 705) (pc := 7) C dX6_readDigits_7 w_X6_54 f_7_5 rfl (r_705 0) (fun v7 e7 l7 u7 => ?_)
      refine zs_icmp_ge (tgt := 58) (pc := 10) C dX6_readDigits_10 (by decide) (fun h10 => ?_) (fun h10 => ?_)
      · skip
        have e05 := zsm_at h2_3 705 w 0 (by decide)
        have e04a := zsm_at h2_3 704 w 0 (by decide)
        have e55 := h2_3.1 2055 (by decide)
        have hne : ¬ (G1.1 706 w 0 < G.1 705 w 0 ∧ fD ((G.1 2055 b) (G1.1 706 w 0).toNat) = true) := by
          intro h9
          first | omega | (have h8 := hq19.2.mpr (by rw [e18, e15, e55]; exact h9.2); omega)
        have hsp : G1.1 706 w 0 = sp fD (G.1 2055 b) (G.1 705 w 0) (G.1 706 w 0) := by rw [← h2_1, sp_e hne]
        have hdg : dg (G.1 2055 b) (G.1 705 w 0) (G.1 706 w 0) 0 = min x2 100000 := by rw [← h2_2, dg_e hne]
        refine zs_aload_n (pc := 58) C dX6_readDigits_58 rfl ?_
        refine zs_iconst (pc := 59) C dX6_readDigits_59 (by decide) ?_
        refine zs_iload_n (pc := 60) C dX6_readDigits_60 rfl ?_
        refine zVv2 (pc := 61) C dX6_readDigits_61 v_X6_81 (c_X6_addF hX (by omega)) (by decide) (by decide) ⟨Nat.zero_le _, Nat.zero_le _⟩ (Nat.le_of_ble_eq_true rfl) (fun G61 hp61 => ?_)
        obtain ⟨hz61, hq61⟩ := hp61
        exact zs_vret (pc := 64) C hr hlk dX6_readDigits_64 ⟨by repeat (first | exact zsm_rf | assumption | refine zsm_C (by decide) ?_ | refine zsm_I (by decide) ?_ | refine zsm_J ?_ | refine zsm_c (by assumption) (by decide) ?_), (by
                  have e45 := h2_3.1 2045 (by decide)
                  have e47 := h2_3.1 2047 (by decide)
                  have e04 := h2_3.1 704 (by decide)
                  have q1 := tk_d hp hl hd
                  have tr := zsm_at hz61 706 w 0 (by decide)
                  rw [e45, e47, e04] at hq61
                  rw [q1.1, q1.2.1, q1.2.2, ← hsp]
                  exact ⟨hq61.1, hq61.2.1, ⟨_, ⟨fun q => by first | (exact absurd q (by decide)) | (exact ⟨by omega, hdg.symm⟩), fun q => by first | rfl | (exact absurd rfl q) | (exact ⟨by omega, hdg.symm⟩)⟩, hq61.2.2⟩, by omega⟩)⟩
      · skip
        refine zs_aload_n (pc := 13) C dX6_readDigits_13 rfl ?_
        refine zs_aload_n (pc := 14) C dX6_readDigits_14 rfl ?_
        refine zs_geti (r := 706) (pc := 15) C dX6_readDigits_15 w_X6_60 f_7_6 rfl (r_706 0) (fun v15 e15 l15 u15 => ?_)
        refine zs_iald (r := 2055) (pc := 18) C dX6_readDigits_18 a_55 (by decide) (by omega) rfl (r_2055 _) (fun v18 e18 l18 u18 => ?_)
        refine zSip1 (pc := 19) C dX6_readDigits_19 s_X6_71 (c_X6_isDigitF hX ) (by decide) ⟨Nat.zero_le _, Nat.zero_le _⟩ (Nat.le_of_ble_eq_true rfl) (fun x19 l19 u19 hp19 => ?_)
        have hq19 := hp19
        refine zs_if_eq (tgt := 58) (pc := 22) C dX6_readDigits_22 (by decide) (fun h22 => ?_) (fun h22 => ?_)
        · skip
          have e05 := zsm_at h2_3 705 w 0 (by decide)
          have e04a := zsm_at h2_3 704 w 0 (by decide)
          have e55 := h2_3.1 2055 (by decide)
          have hne : ¬ (G1.1 706 w 0 < G.1 705 w 0 ∧ fD ((G.1 2055 b) (G1.1 706 w 0).toNat) = true) := by
            intro h9
            first | omega | (have h8 := hq19.2.mpr (by rw [e18, e15, e55]; exact h9.2); omega)
          have hsp : G1.1 706 w 0 = sp fD (G.1 2055 b) (G.1 705 w 0) (G.1 706 w 0) := by rw [← h2_1, sp_e hne]
          have hdg : dg (G.1 2055 b) (G.1 705 w 0) (G.1 706 w 0) 0 = min x2 100000 := by rw [← h2_2, dg_e hne]
          refine zs_aload_n (pc := 58) C dX6_readDigits_58 rfl ?_
          refine zs_iconst (pc := 59) C dX6_readDigits_59 (by decide) ?_
          refine zs_iload_n (pc := 60) C dX6_readDigits_60 rfl ?_
          refine zVv2 (pc := 61) C dX6_readDigits_61 v_X6_81 (c_X6_addF hX (by omega)) (by decide) (by decide) ⟨Nat.zero_le _, Nat.zero_le _⟩ (Nat.le_of_ble_eq_true rfl) (fun G61 hp61 => ?_)
          obtain ⟨hz61, hq61⟩ := hp61
          exact zs_vret (pc := 64) C hr hlk dX6_readDigits_64 ⟨by repeat (first | exact zsm_rf | assumption | refine zsm_C (by decide) ?_ | refine zsm_I (by decide) ?_ | refine zsm_J ?_ | refine zsm_c (by assumption) (by decide) ?_), (by
                    have e45 := h2_3.1 2045 (by decide)
                    have e47 := h2_3.1 2047 (by decide)
                    have e04 := h2_3.1 704 (by decide)
                    have q1 := tk_d hp hl hd
                    have tr := zsm_at hz61 706 w 0 (by decide)
                    rw [e45, e47, e04] at hq61
                    rw [q1.1, q1.2.1, q1.2.2, ← hsp]
                    exact ⟨hq61.1, hq61.2.1, ⟨_, ⟨fun q => by first | (exact absurd q (by decide)) | (exact ⟨by omega, hdg.symm⟩), fun q => by first | rfl | (exact absurd rfl q) | (exact ⟨by omega, hdg.symm⟩)⟩, hq61.2.2⟩, by omega⟩)⟩
        · skip
          have hL : fD v18 = true := hq19.2.mp (by omega)
          have hL9 := fD_i.mp hL
          have e05 := zsm_at h2_3 705 w 0 (by decide)
          have e55 := h2_3.1 2055 (by decide)
          have hLb : fD ((G.1 2055 b) (G1.1 706 w 0).toNat) = true := by rw [← e55, ← e15, ← e18]; exact hL
          refine zs_ldc (n := 1000000) (pc := 25) C dX6_readDigits_25 q_X6_84 (by decide) (by decide) ?_
          refine zs_iload_n (pc := 27) C dX6_readDigits_27 rfl ?_
          refine zs_bipush (pc := 28) C dX6_readDigits_28 (by decide) (by decide) ?_
          first | refine zs_imul (pc := 30) C dX6_readDigits_30 (by omega) ?_ | refine zs_imulF (pc := 30) C dX6_readDigits_30 (fun z30 hz301 hz302 => ?_)
          refine zs_aload_n (pc := 31) C dX6_readDigits_31 rfl ?_
          refine zs_aload_n (pc := 32) C dX6_readDigits_32 rfl ?_
          refine zs_geti (r := 706) (pc := 33) C dX6_readDigits_33 w_X6_60 f_7_6 rfl (r_706 0) (fun v33 e33 l33 u33 => ?_)
          refine zs_iald (r := 2055) (pc := 36) C dX6_readDigits_36 a_55 (by decide) (by omega) rfl (r_2055 _) (fun v36 e36 l36 u36 => ?_)
          have h36 : v36 = v18 := by rw [e36, e18, e33, e15]
          first | refine zs_iadd (pc := 37) C dX6_readDigits_37 (by omega) ?_ | refine zs_iaddF (pc := 37) C dX6_readDigits_37 (fun z37 hz371 hz372 => ?_)
          refine zs_bipush (pc := 38) C dX6_readDigits_38 (by decide) (by decide) ?_
          first | refine zs_isub (pc := 40) C dX6_readDigits_40 (by omega) ?_ | refine zs_isubF (pc := 40) C dX6_readDigits_40 (fun z40 hz401 hz402 => ?_)
          refine zs_minI (pc := 41) C dX6_readDigits_41 s_X6_46 (by decide) (Nat.le_of_ble_eq_true rfl) ⟨Nat.zero_le _, Nat.zero_le _⟩ (fun z41 hz41 => ?_)
          refine zs_istore_n (pc := 44) C dX6_readDigits_44 (by decide) ?_
          dsimp only [zset, zclr, znone]
          refine zs_aload_n (pc := 45) C dX6_readDigits_45 rfl ?_
          refine zs_dupa (pc := 46) C dX6_readDigits_46 ?_
          refine zs_geti (r := 706) (pc := 47) C dX6_readDigits_47 w_X6_60 f_7_6 rfl (r_706 0) (fun v47 e47 l47 u47 => ?_)
          refine zs_iconst (pc := 50) C dX6_readDigits_50 (by decide) ?_
          first | refine zs_iadd (pc := 51) C dX6_readDigits_51 (by omega) ?_ | refine zs_iaddF (pc := 51) C dX6_readDigits_51 (fun z51 hz511 hz512 => ?_)
          refine zs_puti (r := 706) (pc := 52) C dX6_readDigits_52 w_X6_60 f_7_6 rfl (r_706 0) (by omega) ?_
          refine zs_goto (tgt := 2) (pc := 55) C dX6_readDigits_55 (by decide) ?_
          exact zs_wk (ih2 _ _ (by first | omega | (simp only [zuI_1, zuI_2, zuJ_1, zuJ_2, zuJ_3, zuP_1, zuP_2, zuP_3, zuC_1, zuC_2, reduceIte, Nat.reduceEqDiff, false_and, and_false, true_and, and_true, and_self, or_true, true_or, or_false, false_or]; omega)) (by simp only [zuI_1, zuI_2, zuJ_1, zuJ_2, zuJ_3, zuP_1, zuP_2, zuP_3, zuC_1, zuC_2, reduceIte, Nat.reduceEqDiff, false_and, and_false, true_and, and_true, and_self, or_true, true_or, or_false, false_or]; rw [← h2_1, show v47 + 1 = G1.1 706 w 0 + 1 by omega]; exact (sp_s (by omega) hLb).symm) (by simp only [zuI_1, zuI_2, zuJ_1, zuJ_2, zuJ_3, zuP_1, zuP_2, zuP_3, zuC_1, zuC_2, reduceIte, Nat.reduceEqDiff, false_and, and_false, true_and, and_true, and_self, or_true, true_or, or_false, false_or]; rw [← h2_2, dg_s (p := G1.1 706 w 0) (by omega) hLb, show v47 + 1 = G1.1 706 w 0 + 1 by omega]; congr 1; have h37 : v36 = (G.1 2055 b) (G1.1 706 w 0).toNat := (by rw [e36, e33, e55]); omega) (by repeat (first | exact zsm_rf | assumption | refine zsm_C (by decide) ?_ | refine zsm_I (by decide) ?_ | refine zsm_J ?_ | refine zsm_c (by assumption) (by decide) ?_)) (by first | omega | (simp only [zuI_1, zuI_2, zuJ_1, zuJ_2, zuJ_3, zuP_1, zuP_2, zuP_3, zuC_1, zuC_2, reduceIte, Nat.reduceEqDiff, false_and, and_false, true_and, and_true, and_self, or_true, true_or, or_false, false_or]; omega))) (zwk_s rfl (zwk_s rfl (zwk_s rfl zwk_0)))
  exact zs_wk (L2 _ _ _ (by omega) rfl rfl zsm_rf (Nat.lt_succ_self _)) (zwk_s rfl (zwk_s rfl (zwk_s rfl zwk_0)))
