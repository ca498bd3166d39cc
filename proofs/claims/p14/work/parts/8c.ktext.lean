section
/-- what is kept: the first half of each row as the second was -/
def KPT (Γ : zΓ) (w : Nat) (G G1 : zH) : Prop := G1.1 1012 w 0 = G.1 1017 w 0 ∧ G1.1 1013 w 0 = G.1 1018 w 0 ∧ G1.1 1014 w 0 = G.1 1019 w 0 ∧ G1.1 1015 w 0 = G.1 1020 w 0 ∧ G1.1 1016 w 0 = G.1 1021 w 0 ∧ (∀ j : Nat, j < 4 → G1.1 2059 (Γ.2.1 w 22) j = G.1 2059 (Γ.2.1 w 22) (4 + j)) ∧ (∀ j : Nat, j < 4 → G1.1 2061 (Γ.2.1 w 24) j = G.1 2061 (Γ.2.1 w 24) (4 + j)) ∧ (∀ j : Nat, j < 4 → G1.1 2062 (Γ.2.1 w 25) j = G.1 2062 (Γ.2.1 w 25) (4 + j)) ∧ (∀ j : Nat, j < 5 → G1.1 2063 (Γ.2.1 w 26) j = G.1 2063 (Γ.2.1 w 26) (5 + j)) ∧ (∀ j : Nat, j < 5 → G1.1 2064 (Γ.2.1 w 27) j = G.1 2064 (Γ.2.1 w 27) (5 + j)) ∧ (∀ j : Nat, j < 20 → G1.1 2065 (Γ.2.1 w 28) j = G.1 2065 (Γ.2.1 w 28) (20 + j)) ∧ (∀ j : Nat, j < 5 → G1.1 2066 (Γ.2.1 w 29) j = G.1 2066 (Γ.2.1 w 29) (5 + j)) ∧ (∀ j : Nat, j < 5 → G1.1 2067 (Γ.2.1 w 30) j = G.1 2067 (Γ.2.1 w 30) (5 + j)) ∧ (∀ j : Nat, j < 5 → G1.1 2068 (Γ.2.1 w 31) j = G.1 2068 (Γ.2.1 w 31) (5 + j)) ∧ (∀ j : Nat, j < 5 → G1.1 2069 (Γ.2.1 w 32) j = G.1 2069 (Γ.2.1 w 32) (5 + j)) ∧ (∀ j : Nat, j < 3 → G1.1 2070 (Γ.2.1 w 33) j = G.1 2070 (Γ.2.1 w 33) (3 + j)) ∧ (∀ j : Nat, j < 7 → G1.1 2071 (Γ.2.1 w 34) j = G.1 2071 (Γ.2.1 w 34) (7 + j)) ∧ (∀ j : Nat, j < 7 → G1.1 2072 (Γ.2.1 w 35) j = G.1 2072 (Γ.2.1 w 35) (7 + j)) ∧ (∀ j : Nat, j < 7 → G1.1 2073 (Γ.2.1 w 36) j = G.1 2073 (Γ.2.1 w 36) (7 + j)) ∧ (∀ j : Nat, j < 64 → G1.1 2074 (Γ.2.1 w 37) j = G.1 2074 (Γ.2.1 w 37) (64 + j)) ∧ (∀ j : Nat, j < 64 → G1.1 2075 (Γ.2.1 w 38) j = G.1 2075 (Γ.2.1 w 38) (64 + j)) ∧ (∀ j : Nat, j < 64 → G1.1 2076 (Γ.2.1 w 39) j = G.1 2076 (Γ.2.1 w 39) (64 + j))
theorem CP_at {f g : Nat → Int} {n : Nat} (h : CP f g n n) {j : Nat} (hj : j < n) : g j = f (n + j) := by rw [h j, if_pos (by omega)]
/-- the kept half holds a telling -/
def kR (Γ : zΓ) (w : Nat) (A : aS) (G : zH) : Prop := (G.1 1012 w 0 = A 4 0 ∧ G.1 1013 w 0 = A 4 1 ∧ G.1 1014 w 0 = A 4 2 ∧ G.1 1015 w 0 = A 4 3 ∧ G.1 1016 w 0 = A 20 0) ∧ (0 ≤ A 4 0 ∧ A 4 0 ≤ 4 ∧ 0 ≤ A 4 1 ∧ A 4 1 ≤ 5 ∧ 0 ≤ A 4 2 ∧ A 4 2 ≤ 5 ∧ 0 ≤ A 4 3 ∧ A 4 3 ≤ 3)
  ∧ (∀ j : Nat, (j : Int) < A 4 0 → G.1 2061 (Γ.2.1 w 24) j = A 5 j ∧ G.1 2062 (Γ.2.1 w 25) j = A 6 j)
  ∧ (∀ j : Nat, (j : Int) < A 4 1 → G.1 2063 (Γ.2.1 w 26) j = A 5 (5 + j) ∧ G.1 2064 (Γ.2.1 w 27) j = A 7 j) ∧ (∀ j : Nat, (j : Int) < 4 * A 4 1 → G.1 2065 (Γ.2.1 w 28) j = A 8 j) ∧ (∀ j : Nat, 4 * A 4 1 ≤ j → j < 20 → A 8 j = 0)
  ∧ (∀ j : Nat, (j : Int) < A 4 2 → G.1 2066 (Γ.2.1 w 29) j = A 5 (10 + j) ∧ G.1 2067 (Γ.2.1 w 30) j = A 9 j ∧ G.1 2068 (Γ.2.1 w 31) j = A 10 j ∧ G.1 2069 (Γ.2.1 w 32) j = A 11 j)
  ∧ (∀ j : Nat, (j : Int) < A 4 3 → G.1 2070 (Γ.2.1 w 33) j = A 5 (15 + j)) ∧ (∀ j : Nat, j < 4 → G.1 2059 (Γ.2.1 w 22) j = A (12 + j) 0)
  ∧ (∀ j : Nat, j < 7 → G.1 2071 (Γ.2.1 w 34) j = (if A 16 j < A 17 j then 1 else 0) ∧ (A 16 j < A 17 j → G.1 2072 (Γ.2.1 w 35) j = A 16 j ∧ G.1 2073 (Γ.2.1 w 36) j = A 17 j))
  ∧ ∀ j : Nat, (j : Int) < A 20 0 → j < 64 → G.1 2074 (Γ.2.1 w 37) j = rk (A 18 j) ∧ G.1 2075 (Γ.2.1 w 38) j = A 27 j ∧ G.1 2076 (Γ.2.1 w 39) j = A 28 j
theorem kR_of {Γ : zΓ} {w : Nat} {A : aS} {G G1 : zH} (h : gD Γ w A G) (hk : KPT Γ w G G1) : kR Γ w A G1 := by
  obtain ⟨⟨a1, a2, a3, a4⟩, ⟨b1, b2, b3, b4, b5, b6⟩, ⟨c1, c2, c3, c4⟩, ⟨d1, d2, d3, d4⟩, ⟨-, e2⟩, hl, ⟨f1, f2, f3⟩, -⟩ := h
  obtain ⟨k12, k13, k14, k15, k16, k59, k61, k62, k63, k64, k65, k66, k67, k68, k69, k70, k71, k72, k73, k74, k75, k76⟩ := hk
  refine ⟨⟨k12.trans a1, k13.trans b1, k14.trans c1, k15.trans d1, k16.trans f1⟩, ⟨a2, a3, b2, b3, c2, c3, d2, d3⟩, fun j hj => ?_, fun j hj => ?_, fun j hj => ?_, b6, fun j hj => ?_, fun j hj => ?_, fun j hj => ?_, fun j hj => ?_, fun j hj hj2 => ?_⟩
  · rw [k61 j (by omega), k62 j (by omega)]; exact a4 j hj
  · rw [k63 j (by omega), k64 j (by omega)]; exact b4 j hj
  · rw [k65 j (by omega)]; exact b5 j hj
  · rw [k66 j (by omega), k67 j (by omega), k68 j (by omega), k69 j (by omega)]; exact c4 j hj
  · rw [k70 j (by omega)]; exact d4 j hj
  · rw [k59 j hj]; exact (e2 j hj).2
  · rw [k71 j hj, k72 j hj, k73 j hj]; exact hl j hj
  · rw [k74 j hj2, k75 j hj2, k76 j hj2]; exact f3 j hj
/-- the kept half stays -/
def kS (w : Nat) (G G1 : zH) : Prop := LHr G G1 ∧ G1.1 1012 w 0 = G.1 1012 w 0 ∧ G1.1 1013 w 0 = G.1 1013 w 0 ∧ G1.1 1014 w 0 = G.1 1014 w 0 ∧ G1.1 1015 w 0 = G.1 1015 w 0 ∧ G1.1 1016 w 0 = G.1 1016 w 0
theorem kR_S {Γ : zΓ} {w : Nat} {A : aS} {G G1 : zH} (h : kR Γ w A G) (hk : kS w G G1) : kR Γ w A G1 := by
  obtain ⟨⟨a1, a2, a3, a4, a5⟩, b, c1, c2, c3, c4, c5, c6, c7, c8, c9⟩ := h
  obtain ⟨hl, k1, k2, k3, k4, k5⟩ := hk
  have e : ∀ r a j n : Nat, n ≤ hh r → j < n → G1.1 r a j = G.1 r a j := fun r a j n hn hj => hl r a j (Nat.lt_of_lt_of_le hj hn)
  refine ⟨⟨k1.trans a1, k2.trans a2, k3.trans a3, k4.trans a4, k5.trans a5⟩, b, fun j hj => ?_, fun j hj => ?_, fun j hj => ?_, c4, fun j hj => ?_, fun j hj => ?_, fun j hj => ?_, fun j hj => ?_, fun j hj hj2 => ?_⟩
  · rw [e 2061 _ j 4 (by decide) (by omega), e 2062 _ j 4 (by decide) (by omega)]; exact c1 j hj
  · rw [e 2063 _ j 5 (by decide) (by omega), e 2064 _ j 5 (by decide) (by omega)]; exact c2 j hj
  · rw [e 2065 _ j 20 (by decide) (by omega)]; exact c3 j hj
  · rw [e 2066 _ j 5 (by decide) (by omega), e 2067 _ j 5 (by decide) (by omega), e 2068 _ j 5 (by decide) (by omega), e 2069 _ j 5 (by decide) (by omega)]; exact c5 j hj
  · rw [e 2070 _ j 3 (by decide) (by omega)]; exact c6 j hj
  · rw [e 2059 _ j 4 (by decide) hj]; exact c7 j hj
  · rw [e 2071 _ j 7 (by decide) hj, e 2072 _ j 7 (by decide) hj, e 2073 _ j 7 (by decide) hj]; exact c8 j hj
  · rw [e 2074 _ j 64 (by decide) hj2, e 2075 _ j 64 (by decide) hj2, e 2076 _ j 64 (by decide) hj2]; exact c9 j hj hj2
end
section
/-- the changing references stay, but those of works to a telling -/
def RF (G G1 : zH) : Prop := ∀ r a : Nat, r ≠ 800 → G1.2.2 r a = G.2.2 r a
theorem RF_rf {G : zH} : RF G G := fun _ _ _ => rfl
theorem RF_c {G G1 G2 : zH} (h2 : RF G1 G2) (h : RF G G1) : RF G G2 := fun r a hr => (h2 r a hr).trans (h r a hr)
theorem RF_m {G G1 G2 : zH} {rs : List Nat} (h2 : zsm rs G1 G2) (h : RF G G1) : RF G G2 := fun r a hr => by rw [h2.2]; exact h r a hr
theorem RF_I {G G1 : zH} {r a i : Nat} {x : Int} (h : RF G G1) : RF G (zuI G1 r a i x) := h
theorem RF_J {G G1 : zH} {r a i : Nat} {x : Int} (h : RF G G1) : RF G (zuJ G1 r a i x) := h
theorem RF_C {G G1 : zH} {r a : Nat} {f : Nat → Int} (h : RF G G1) : RF G (zuC G1 r a f) := h
theorem RF_P {G G1 : zH} {a b : Nat} (h : RF G G1) : RF G (zuP G1 800 a b) := fun r a' hr => by
  rw [zuP_3, if_neg (fun q => hr q.1)]
  exact h r a' hr
end
section
/-- a telling at t holds A -/
def TV (Γ : zΓ) (t : Nat) (A : aS) (G : zH) : Prop := ∀ f j : Nat, 4 ≤ f → f < 22 → G.1 (creg f) (cad Γ 0 t f) j = A f j
theorem cad_w {Γ : zΓ} {w t f : Nat} (h4 : 4 ≤ f) (hf : f < 22) : cad Γ w t f = cad Γ 0 t f := by
  rcases (show f = 4 ∨ f = 5 ∨ f = 6 ∨ f = 7 ∨ f = 8 ∨ f = 9 ∨ f = 10 ∨ f = 11 ∨ f = 12 ∨ f = 13 ∨ f = 14 ∨ f = 15 ∨ f = 16 ∨ f = 17 ∨ f = 18 ∨ f = 19 ∨ f = 20 ∨ f = 21 by omega) with rfl | rfl | rfl | rfl | rfl | rfl | rfl | rfl | rfl | rfl | rfl | rfl | rfl | rfl | rfl | rfl | rfl | rfl <;> rfl
theorem TV_QC {b : Nat → Int} {n : Int} {N : Nat} {Γ : zΓ} {w t : Nat} {A : aS} {G : zH} (h : QC b n N Γ w t A G) : TV Γ t A G := fun f j h4 hf => by
  rw [← cad_w (w := w) h4 hf]
  exact h.1.2 f j (by omega)
theorem TV_n {Γ : zΓ} {t : Nat} {A : aS} {G G1 : zH} {rs : List Nat} (hs : zsn rs G G1) (hr : ∀ f : Nat, f < 22 → 4 ≤ f → creg f ∉ rs) (h : TV Γ t A G) : TV Γ t A G1 := fun f j h4 hf => by
  rw [hs _ (hr f hf h4)]
  exact h f j h4 hf
/-- two tellings have no row in common -/
def AP (Γ : zΓ) (t u : Nat) : Prop := ∀ f : Nat, 4 ≤ f → f < 22 → cad Γ 0 t f ≠ cad Γ 0 u f
theorem AP_s {Γ : zΓ} {t u : Nat} (h : AP Γ t u) : AP Γ u t := fun f h4 hf q => h f h4 hf q.symm
theorem TV_OF {Γ : zΓ} {w t u : Nat} {A : aS} {G G1 : zH} (hO : OF Γ w t G G1) (ha : AP Γ t u) (h : TV Γ u A G) : TV Γ u A G1 := fun f j h4 hf => by
  rw [hO f _ j h4 hf (fun q => ha f h4 hf (by rw [← cad_w (w := w) h4 hf]; exact q.symm))]
  exact h f j h4 hf
theorem OF_n {Γ : zΓ} {w t : Nat} {G G1 G2 : zH} {rs : List Nat} (hs : zsn rs G1 G2) (hr : ∀ f : Nat, f < 22 → 4 ≤ f → creg f ∉ rs) (h : OF Γ w t G G1) : OF Γ w t G G2 := fun f a j h4 hf ha => by
  rw [hs _ (hr f hf h4)]
  exact h f a j h4 hf ha
theorem OF_b {Γ : zΓ} {w t : Nat} {G0 G G1 : zH} {rs : List Nat} (hs : zsn rs G0 G) (hr : ∀ f : Nat, f < 22 → 4 ≤ f → creg f ∉ rs) (h : OF Γ w t G G1) : OF Γ w t G0 G1 := fun f a j h4 hf ha => by
  rw [h f a j h4 hf ha, hs _ (hr f hf h4)]

set_option maxHeartbeats 4000000 in
set_option maxRecDepth 100000 in
theorem c_X3_handOverK {l : Launch} {Γ : zΓ} {G : zH} {w b : Nat} (hX : zXs Γ)  : zMet l Γ yX3_handOver cX3_handOver 3 (some (.object "ConfessionMill$Telling")) 0 [zr 4 w, zr 6 b] G (zpa 6 (fun x G' => zsn [] G G' ∧ (x = G.2.2 401 w ∧ G' = zuP G 401 w b))) := by
  refine zMet_of RX3 hX (by decide) rfl (Nat.le_of_ble_eq_true rfl) ?_
  intro p e s m args below meth c C hr hlk
  show Z p l e (zrm 0) s m args below meth c Γ 3 0 0 (MQ below (zQc Γ (zpa 6 (fun x G' => zsn [] G G' ∧ (x = G.2.2 401 w ∧ G' = zuP G 401 w b)))) args s 0 0 (zA Γ)) 0 [some (zr 4 w), some (zr 6 b), none] [] G
  refine zs_aload_n (pc := 0) C dX3_handOver_0 rfl ?_
  refine zs_getd (r := 401) (pc := 1) C dX3_handOver_1 w_X3_21 f_4_1 (by decide) rfl (fun v1 e1 t1 => ?_)
  refine zs_astore_n (pc := 4) C dX3_handOver_4 (by decide) ?_
  dsimp only [zset, zclr, znone]
  refine zs_aload_n (pc := 5) C dX3_handOver_5 rfl ?_
  refine zs_aload_n (pc := 6) C dX3_handOver_6 rfl ?_
  refine zs_putd (r := 401) (pc := 7) C dX3_handOver_7 w_X3_21 f_4_1 (by decide) rfl ?_
  refine zs_aload_n (pc := 10) C dX3_handOver_10 rfl ?_
  exact zs_aret (pc := 11) C hr hlk dX3_handOver_11 ⟨by repeat (first | exact zsn_rf | assumption | refine zsn_C (by decide) ?_ | refine zsn_I (by decide) ?_ | refine zsn_J ?_ | refine zsn_P ?_ | refine zsn_m (by assumption) (by decide) ?_ | refine zsn_c (by assumption) (by decide) ?_), ⟨e1, rfl⟩⟩

set_option maxHeartbeats 4000000 in
set_option maxRecDepth 100000 in
theorem c_X5_findK {l : Launch} {Γ : zΓ} {G : zH} {w : Nat} {kd k : Int} (hX : zXs Γ) (hk : 0 ≤ kd ∧ kd ≤ 3) : zMet l Γ yX5_find cX5_find 4 (some .int) 0 [zr 6 w, zi kd, zi k] G (zpi (fun x G' => G' = G ∧ (x = fndn (G.1 2036 (Γ.2.1 w 1)) (kd * 5) k (G.1 2037 (Γ.2.1 w 2) kd.toNat).toNat 0))) := by
  refine zMet_of RX5 hX (by decide) rfl (Nat.le_of_ble_eq_true rfl) ?_
  intro p e s m args below meth c C hr hlk
  show Z p l e (zrm 0) s m args below meth c Γ 4 0 0 (MQ below (zQc Γ (zpi (fun x G' => G' = G ∧ (x = fndn (G.1 2036 (Γ.2.1 w 1)) (kd * 5) k (G.1 2037 (Γ.2.1 w 2) kd.toNat).toNat 0)))) args s 0 0 (zA Γ)) 0 [some (zr 6 w), some (zi kd), some (zi k), none] [] G
  refine zs_loc 1 rfl (fun ha1 hb1 => ?_)
  refine zs_loc 2 rfl (fun ha2 hb2 => ?_)
  refine zs_iconst (pc := 0) C dX5_find_0 (by decide) ?_
  refine zs_istore_n (pc := 1) C dX5_find_1 (by decide) ?_
  dsimp only [zset, zclr, znone]
  have L2 : ∀ (nn : Nat) (x3 : Int), (0 ≤ x3 ∧ x3 ≤ 5) → (fndn (G.1 2036 (Γ.2.1 w 1)) (kd * 5) k (G.1 2037 (Γ.2.1 w 2) kd.toNat - x3).toNat x3 = fndn (G.1 2036 (Γ.2.1 w 1)) (kd * 5) k (G.1 2037 (Γ.2.1 w 2) kd.toNat).toNat 0) → (5 - x3).toNat < nn → Z p l e (zrm 0) s m args below meth c Γ 4 0 0 (MQ below (zQc Γ (zpi (fun x G' => G' = G ∧ (x = fndn (G.1 2036 (Γ.2.1 w 1)) (kd * 5) k (G.1 2037 (Γ.2.1 w 2) kd.toNat).toNat 0)))) args s 0 0 (zA Γ)) 2 [some (zr 6 w), some (zi kd), some (zi k), some (zi x3)] [] G := by
    intro nn
    induction nn with
    | zero => intro x3 h2_0 h2_1 hm; exact absurd hm (Nat.not_lt_zero _)
    | succ nn ih2 =>
      intro x3 h2_0 h2_1 hm2
      refine zs_iload_n (pc := 2) C dX5_find_2 rfl ?_
      refine zs_aload_n (pc := 3) C dX5_find_3 rfl ?_
      refine zs_getf (pc := 4) C dX5_find_4 w_X5_22 f_6_2 (by decide) ?_
      refine zs_iload_n (pc := 7) C dX5_find_7 rfl ?_
      refine zs_iald (r := 2037) (pc := 8) C dX5_find_8 a_37 (by decide) (by omega) rfl rfl (fun v8 e8 l8 u8 => ?_)
      have hs := rs_2037 kd.toNat
      refine zs_icmp_ge (tgt := 34) (pc := 9) C dX5_find_9 (by decide) (fun h9 => ?_) (fun h9 => ?_)
      · skip
        refine zs_iconst (pc := 34) C dX5_find_34 (by decide) ?_
        exact zs_iret (pc := 35) C hr hlk dX5_find_35 ⟨rfl, by rw [← h2_1, fnd_e (by omega)]⟩
      · skip
        refine zs_aload_n (pc := 12) C dX5_find_12 rfl ?_
        refine zs_getf (pc := 13) C dX5_find_13 w_X5_18 f_6_1 (by decide) ?_
        refine zs_iload_n (pc := 16) C dX5_find_16 rfl ?_
        refine zs_iconst (pc := 17) C dX5_find_17 (by decide) ?_
        first | refine zs_imul (pc := 18) C dX5_find_18 (by omega) ?_ | refine zs_imulF (pc := 18) C dX5_find_18 (fun z18 hz181 hz182 => ?_)
        refine zs_iload_n (pc := 19) C dX5_find_19 rfl ?_
        first | refine zs_iadd (pc := 20) C dX5_find_20 (by omega) ?_ | refine zs_iaddF (pc := 20) C dX5_find_20 (fun z20 hz201 hz202 => ?_)
        refine zs_iald (r := 2036) (pc := 21) C dX5_find_21 a_36 (by decide) (by omega) rfl (r_2036 _) (fun v21 e21 l21 u21 => ?_)
        refine zs_iload_n (pc := 22) C dX5_find_22 rfl ?_
        refine zs_icmp_ne (tgt := 28) (pc := 23) C dX5_find_23 (by decide) (fun h23 => ?_) (fun h23 => ?_)
        · skip
          first | refine zs_iinc (pc := 28) C dX5_find_28 rfl (by decide) (by omega) ?_ | refine zs_iincF (pc := 28) C dX5_find_28 rfl (by decide) (fun z28 hz281 hz282 => ?_)
          dsimp only [zset, zclr, znone]
          refine zs_goto (tgt := 2) (pc := 31) C dX5_find_31 (by decide) ?_
          exact zs_wk (ih2 _ (by omega) (by have q := h2_1; rw [fnd_s (by omega), if_neg (by omega)] at q; exact q) (by first | omega | (simp only [zuI_1, zuI_2, zuJ_1, zuJ_2, zuJ_3, zuP_1, zuP_2, zuP_3, zuC_1, zuC_2, reduceIte, Nat.reduceEqDiff, false_and, and_false, true_and, and_true, and_self, or_true, true_or, or_false, false_or]; omega))) (zwk_s rfl (zwk_s rfl (zwk_s rfl (zwk_s rfl zwk_0))))
        · skip
          refine zs_iload_n (pc := 26) C dX5_find_26 rfl ?_
          exact zs_iret (pc := 27) C hr hlk dX5_find_27 ⟨rfl, by rw [← h2_1, fnd_s (by omega), if_pos (by omega)]⟩
  exact zs_wk (L2 _ _ (by omega) (by rw [Int.sub_zero]) (Nat.lt_succ_self _)) (zwk_s rfl (zwk_s rfl (zwk_s rfl (zwk_s rfl zwk_0))))

set_option maxHeartbeats 4000000 in
set_option maxRecDepth 100000 in
theorem c_X8_namedK {l : Launch} {Γ : zΓ} {G : zH} {w : Nat} {a b : Int} (hX : zXs Γ)  : zMet l Γ yX8_named cX8_named 3 (some .int) 1 [zr 9 w, zi a, zi b] G (zpi (fun x G' => G' = G ∧ ((0 ≤ a ∧ a ≤ 3 → x = fndn (G.1 2036 (Γ.2.1 (G.2.2 903 w) 1)) (a * 5) b (G.1 2037 (Γ.2.1 (G.2.2 903 w) 2) a.toNat).toNat 0) ∧ (¬ (0 ≤ a ∧ a ≤ 3) → x = -1)))) := by
  refine zMet_of RX8 hX (by decide) rfl (Nat.le_of_ble_eq_true rfl) ?_
  intro p e s m args below meth c C hr hlk
  show Z p l e (zrm 1) s m args below meth c Γ 3 0 0 (MQ below (zQc Γ (zpi (fun x G' => G' = G ∧ ((0 ≤ a ∧ a ≤ 3 → x = fndn (G.1 2036 (Γ.2.1 (G.2.2 903 w) 1)) (a * 5) b (G.1 2037 (Γ.2.1 (G.2.2 903 w) 2) a.toNat).toNat 0) ∧ (¬ (0 ≤ a ∧ a ≤ 3) → x = -1))))) args s 0 0 (zA Γ)) 0 [some (zr 9 w), some (zi a), some (zi b)] [] G
  refine zs_loc 1 rfl (fun ha1 hb1 => ?_)
  refine zs_loc 2 rfl (fun ha2 hb2 => ?_)
  refine zs_iload_n (pc := 0) C dX8_named_0 rfl ?_
  refine zs_if_lt (tgt := 9) (pc := 1) C dX8_named_1 (by decide) (fun h1 => ?_) (fun h1 => ?_)
  · skip
    refine zs_iconst (pc := 9) C dX8_named_9 (by decide) ?_
    refine zs_goto (tgt := 22) (pc := 10) C dX8_named_10 (by decide) ?_
    exact zs_iret (pc := 22) C hr hlk dX8_named_22 ⟨rfl, (by first | exact ⟨fun q => by omega, fun _ => rfl⟩ | exact ⟨fun _ => hq19, fun q => absurd ⟨by omega, by omega⟩ q⟩)⟩
  · skip
    refine zs_iload_n (pc := 4) C dX8_named_4 rfl ?_
    refine zs_iconst (pc := 5) C dX8_named_5 (by decide) ?_
    refine zs_icmp_lt (tgt := 13) (pc := 6) C dX8_named_6 (by decide) (fun h6 => ?_) (fun h6 => ?_)
    · skip
      refine zs_aload_n (pc := 13) C dX8_named_13 rfl ?_
      refine zs_getd (r := 903) (pc := 14) C dX8_named_14 w_X8_25 f_9_3 (by decide) rfl (fun v14 e14 t14 => ?_)
      subst e14
      refine zs_iload_n (pc := 17) C dX8_named_17 rfl ?_
      refine zs_iload_n (pc := 18) C dX8_named_18 rfl ?_
      refine zVip2 (pc := 19) C dX8_named_19 v_X8_100 (c_X5_findK hX (by omega)) (by decide) (by decide) ⟨Nat.zero_le _, Nat.zero_le _⟩ (Nat.le_of_ble_eq_true rfl) (fun x19 l19 u19 hp19 => ?_)
      have hq19 := hp19
      exact zs_iret (pc := 22) C hr hlk dX8_named_22 ⟨rfl, (by first | exact ⟨fun q => by omega, fun _ => rfl⟩ | exact ⟨fun _ => hq19, fun q => absurd ⟨by omega, by omega⟩ q⟩)⟩
    · skip
      refine zs_iconst (pc := 9) C dX8_named_9 (by decide) ?_
      refine zs_goto (tgt := 22) (pc := 10) C dX8_named_10 (by decide) ?_
      exact zs_iret (pc := 22) C hr hlk dX8_named_22 ⟨rfl, (by first | exact ⟨fun q => by omega, fun _ => rfl⟩ | exact ⟨fun _ => hq19, fun q => absurd ⟨by omega, by omega⟩ q⟩)⟩
end
section
/-- the changing references of all that lay there stay (but works' tellings) -/
def zpq (Γ : zΓ) (G G1 : zH) : Prop := ∀ r a : Nat, Γ.1 a ≠ 0 → r ≠ 800 → G1.2.2 r a = G.2.2 r a
def zpz (rs : List Nat) (Γ : zΓ) (G G1 : zH) : Prop := zpr rs Γ G G1 ∧ zpq Γ G G1
theorem zpz_rf {rs : List Nat} {Γ : zΓ} {G : zH} : zpz rs Γ G G := ⟨zpr_rf, fun _ _ _ _ => rfl⟩
theorem zag_q {G : zH} {t q r a i : Nat} {fr : Nat → Nat} {iv : Nat → Int} (ha : a ≠ q) : (zag G t q fr iv).1 r a i = G.1 r a i := by
  show (if _ then _ else _) = _
  rw [if_neg (fun h => ha h.1)]
theorem zpz_ag {rs : List Nat} {Γ : zΓ} {G G1 : zH} {t q : Nat} {fr : Nat → Nat} {iv : Nat → Int} (h : zpz rs Γ G G1) (_ : True) (hq : Γ.1 q = 0) : zpz rs Γ G (zag G1 t q fr iv) := ⟨fun r hr a ha i => (zag_q (fun e => ha (by rw [e]; exact hq))).trans (h.1 r hr a ha i), fun r a ha h8 => by
  show (if a = q then _ else _) = _
  rw [if_neg (fun e => ha (by rw [e]; exact hq))]
  exact h.2 r a ha h8⟩
theorem zpz_tr {rs rs' : List Nat} {Γ Γ1 : zΓ} {G G1 G2 : zH} (h1 : zpz rs Γ G G1) (hx : zxt Γ Γ1) (h2 : zpz rs' Γ1 G1 G2) (hs : ∀ r ∈ rs, r ∈ rs') : zpz rs Γ G G2 := ⟨zpr_tr h1.1 hx h2.1 hs, fun r a ha h8 => (h2.2 r a (by rw [(hx.2.2.2 a ha).1]; exact ha) h8).trans (h1.2 r a ha h8)⟩
theorem zpz_no {rs ms : List Nat} {Γ Γ1 : zΓ} {G G1 G2 : zH} (h1 : zpz rs Γ G G1) (hx : zxt Γ Γ1) (hz : zsm ms G1 G2) (hr : ∀ r ∈ rs, r ∉ ms) : zpz rs Γ G (zno Γ1 G2) := ⟨zpr_no h1.1 hx hz hr, fun r a ha h8 => by
  show G2.2.2 r a = _
  rw [hz.2]
  exact h1.2 r a ha h8⟩
theorem zpz_nr {rs ms : List Nat} {Γ Γ1 : zΓ} {G G1 G2 : zH} (h1 : zpz rs Γ G G1) (hx : zxt Γ Γ1) (hz : zsn ms G1 G2) (hq : RF G1 G2) (hr : ∀ r ∈ rs, r ∉ ms) : zpz rs Γ G (zno Γ1 G2) := ⟨zpr_nn h1.1 hx hz hr, fun r a ha h8 => by
  show G2.2.2 r a = _
  rw [hq r a h8]
  exact h1.2 r a ha h8⟩
theorem cad_ok {Γ : zΓ} {t : Nat} (hL : zLok Γ) (ht : Γ.1 t = 6) : ∀ f : Nat, 4 ≤ f → f < 22 → Γ.1 (cad Γ 0 t f) ≠ 0 := by
  have e : ∀ k, k < 9 → (zfk 6 k).1 = 2 := by decide
  have l0 := hL.2.2 6 0 t ht (e 0 (by decide))
  intro f h4 hf
  rcases (show f = 4 ∨ f = 5 ∨ f = 6 ∨ f = 7 ∨ f = 8 ∨ f = 9 ∨ f = 10 ∨ f = 11 ∨ f = 12 ∨ f = 13 ∨ f = 14 ∨ f = 15 ∨ f = 16 ∨ f = 17 ∨ f = 18 ∨ f = 19 ∨ f = 20 ∨ f = 21 by omega) with rfl | rfl | rfl | rfl | rfl | rfl | rfl | rfl | rfl | rfl | rfl | rfl | rfl | rfl | rfl | rfl | rfl | rfl
  · show Γ.1 (Γ.2.1 t 2) ≠ 0; rw [hL.2.2 6 2 t ht (e 2 (by decide))]; decide
  · show Γ.1 (Γ.2.1 t 1) ≠ 0; rw [hL.2.2 6 1 t ht (e 1 (by decide))]; decide
  · show Γ.1 (Γ.2.1 t 3) ≠ 0; rw [hL.2.2 6 3 t ht (e 3 (by decide))]; decide
  · show Γ.1 (Γ.2.1 t 4) ≠ 0; rw [hL.2.2 6 4 t ht (e 4 (by decide))]; decide
  · show Γ.1 (Γ.2.1 t 5) ≠ 0; rw [hL.2.2 6 5 t ht (e 5 (by decide))]; decide
  · show Γ.1 (Γ.2.1 t 6) ≠ 0; rw [hL.2.2 6 6 t ht (e 6 (by decide))]; decide
  · show Γ.1 (Γ.2.1 t 7) ≠ 0; rw [hL.2.2 6 7 t ht (e 7 (by decide))]; decide
  · show Γ.1 (Γ.2.1 t 8) ≠ 0; rw [hL.2.2 6 8 t ht (e 8 (by decide))]; decide
  · show Γ.1 t ≠ 0; rw [ht]; decide
  · show Γ.1 t ≠ 0; rw [ht]; decide
  · show Γ.1 t ≠ 0; rw [ht]; decide
  · show Γ.1 t ≠ 0; rw [ht]; decide
  · show Γ.1 (Γ.2.1 (Γ.2.1 t 0) 2) ≠ 0; rw [hL.2.2 2 2 _ l0 (by decide)]; decide
  · show Γ.1 (Γ.2.1 (Γ.2.1 t 0) 3) ≠ 0; rw [hL.2.2 2 3 _ l0 (by decide)]; decide
  · show Γ.1 (Γ.2.1 (Γ.2.1 t 0) 0) ≠ 0; rw [hL.2.2 2 0 _ l0 (by decide)]; decide
  · show Γ.1 (Γ.2.1 (Γ.2.1 t 0) 1) ≠ 0; rw [hL.2.2 2 1 _ l0 (by decide)]; decide
  · show Γ.1 (Γ.2.1 t 0) ≠ 0; rw [l0]; decide
  · show Γ.1 (Γ.2.1 t 0) ≠ 0; rw [l0]; decide
theorem cad_x {Γ Γ' : zΓ} {t : Nat} (hL : zLok Γ) (hx : zxt Γ Γ') (ht : Γ.1 t = 6) : ∀ f : Nat, 4 ≤ f → f < 22 → cad Γ' 0 t f = cad Γ 0 t f := by
  have e : ∀ k, k < 9 → (zfk 6 k).1 = 2 := by decide
  have l0 := hL.2.2 6 0 t ht (e 0 (by decide))
  have e1 : Γ'.2.1 t = Γ.2.1 t := zxt_fr hx (by rw [ht]; decide)
  have e2 : Γ'.2.1 (Γ.2.1 t 0) = Γ.2.1 (Γ.2.1 t 0) := zxt_fr hx (by rw [l0]; decide)
  intro f h4 hf
  rcases (show f = 4 ∨ f = 5 ∨ f = 6 ∨ f = 7 ∨ f = 8 ∨ f = 9 ∨ f = 10 ∨ f = 11 ∨ f = 12 ∨ f = 13 ∨ f = 14 ∨ f = 15 ∨ f = 16 ∨ f = 17 ∨ f = 18 ∨ f = 19 ∨ f = 20 ∨ f = 21 by omega) with rfl | rfl | rfl | rfl | rfl | rfl | rfl | rfl | rfl | rfl | rfl | rfl | rfl | rfl | rfl | rfl | rfl | rfl
  all_goals first
    | rfl
    | (show Γ'.2.1 t _ = Γ.2.1 t _; rw [e1])
    | (show Γ'.2.1 (Γ'.2.1 t 0) _ = Γ.2.1 (Γ.2.1 t 0) _; rw [e1, e2])
/-- a telling as it is made -/
def sZ (A : aS) : Prop := (∀ j, A 4 j = 0) ∧ (∀ j, A 8 j = 0) ∧ (∀ j, A 16 j = 0 ∧ A 17 j = 0) ∧ A 20 0 = 0 ∧ A 21 0 = 0 ∧ A 12 0 = 100 ∧ A 13 0 = 5 ∧ A 14 0 = 0 ∧ A 15 0 = 0
def TZ (Γ : zΓ) (t : Nat) (G : zH) : Prop := ∃ A : aS, sZ A ∧ TV Γ t A G
theorem TZ_mk {Γ : zΓ} {t : Nat} {G : zH} (h1 : ∀ j, G.1 2037 (Γ.2.1 t 2) j = 0) (h2 : ∀ j, G.1 2040 (Γ.2.1 t 5) j = 0) (h3 : ∀ j, G.1 2016 (Γ.2.1 (Γ.2.1 t 0) 2) j = 0 ∧ G.1 2017 (Γ.2.1 (Γ.2.1 t 0) 3) j = 0) (h4 : G.1 206 (Γ.2.1 t 0) 0 = 0) (h5 : G.1 207 (Γ.2.1 t 0) 0 = 0) (h6 : G.1 609 t 0 = 100) (h7 : G.1 610 t 0 = 5) (h8 : G.1 611 t 0 = 0) (h9 : G.1 612 t 0 = 0) : TZ Γ t G :=
  ⟨fun f j => G.1 (creg f) (cad Γ 0 t f) j, ⟨h1, h2, h3, h4, h5, h6, h7, h8, h9⟩, fun _ _ _ _ => rfl⟩
theorem creg_T : ∀ f : Nat, f < 22 → 4 ≤ f → creg f ∈ [2037, 2036, 2038, 2039, 2040, 2041, 2042, 2043, 609, 610, 611, 612, 2016, 2017, 2014, 2015, 206, 207] := by decide +kernel
theorem TZ_x {Γ Γ' : zΓ} {t : Nat} {G G' : zH} (hL : zLok Γ) (hx : zxt Γ Γ') (ht : Γ.1 t = 6) (hp : zpr [2037, 2036, 2038, 2039, 2040, 2041, 2042, 2043, 609, 610, 611, 612, 2016, 2017, 2014, 2015, 206, 207] Γ G G') (h : TZ Γ t G) : TZ Γ' t G' := by
  obtain ⟨A, hA, hT⟩ := h
  refine ⟨A, hA, fun f j h4 hf => ?_⟩
  rw [cad_x hL hx ht f h4 hf, hp (creg f) (creg_T f hf h4) _ (cad_ok hL ht f h4 hf) j]
  exact hT f j h4 hf
section ZYD
variable {p : Program} {l : Launch} {e : Env} {R : Room} {s : State} {m : MethodId} {args : Array Value} {below : List Frame} {meth : Method} {c : Code} {Γ : zΓ} {b : Nat} {nL : Nat} {cells slots : Nat} {Q : State → Prop} {pc : Nat} {ls : List (Option zV)} {st : List zV} {G : zH} {X : va_W} {D : va_G}
theorem v_fresh {q : Nat} {E : va_E} (hB : zBn Γ G) (kk : Γ.1 q = 0 → V p l e R s m args below meth c b D nL cells slots Q pc ls st ((q, E) :: (X ++ zWd Γ G))) : V p l e R s m args below meth c b D nL cells slots Q pc ls st ((q, E) :: (X ++ zWd Γ G)) := fun H locs rl hP hD hS hL => kk (zfresh0 hB.1 hD) H locs rl hP hD hS hL
theorem v_fresh2 {q : Nat} {E : va_E} {hd : Nat × va_E} (hB : zBn Γ G) (kk : Γ.1 q = 0 → V p l e R s m args below meth c b D nL cells slots Q pc ls st ((q, E) :: hd :: (X ++ zWd Γ G))) : V p l e R s m args below meth c b D nL cells slots Q pc ls st ((q, E) :: hd :: (X ++ zWd Γ G)) := fun H locs rl hP hD hS hL => kk (zfresh0 (Y := hd :: X) hB.1 hD) H locs rl hP hD hS hL
end ZYD

theorem kR_0 {Γ : zΓ} {w : Nat} {A : aS} {G G1 : zH} (hL : zLok Γ) (tw : Γ.1 w = 10) (hA : sZ A) (hz : gZ Γ w G) (hk : KPT Γ w (zno Γ G) G1) : kR Γ w A (zno Γ G1) := by
  obtain ⟨a4, a8, a16, a20, a21, a12, a13, a14, a15⟩ := hA
  obtain ⟨z1, z2, z3, z4, z5, z6, z7, z8, z9, z10, z11, z12⟩ := hz
  obtain ⟨k12, k13, k14, k15, k16, k59, k61, k62, k63, k64, k65, k66, k67, k68, k69, k70, k71, k72, k73, k74, k75, k76⟩ := hk
  have w0 : Γ.1 w ≠ 0 := by rw [tw]; decide
  have h22 : Γ.1 (Γ.2.1 w 22) ≠ 0 := by rw [hL.2.2 10 22 w tw (by decide)]; decide
  have h34 : Γ.1 (Γ.2.1 w 34) ≠ 0 := by rw [hL.2.2 10 34 w tw (by decide)]; decide
  unfold kR
  rw [a4 0, a4 1, a4 2, a4 3, a20]
  refine ⟨⟨?_, ?_, ?_, ?_, ?_⟩, by decide, fun j hj => by omega, fun j hj => by omega, fun j hj => by omega, fun j _ _ => a8 j, fun j hj => by omega, fun j hj => by omega, fun j hj => ?_, fun j hj => ?_, fun j hj => by omega⟩
  · rw [zno_1 w0, k12, zno_1 w0]; exact z1
  · rw [zno_1 w0, k13, zno_1 w0]; exact z2
  · rw [zno_1 w0, k14, zno_1 w0]; exact z3
  · rw [zno_1 w0, k15, zno_1 w0]; exact z4
  · rw [zno_1 w0, k16, zno_1 w0]; exact z5
  · rw [zno_1 h22, k59 j hj, zno_1 h22]
    rcases (show j = 0 ∨ j = 1 ∨ j = 2 ∨ j = 3 by omega) with rfl | rfl | rfl | rfl
    · exact z7.trans a12.symm
    · exact z8.trans a13.symm
    · exact z9.trans a14.symm
    · exact z10.trans a15.symm
  · rw [zno_1 h34, k71 j hj, zno_1 h34, (a16 j).1, (a16 j).2, if_neg (by decide)]
    exact ⟨z12 (7 + j) (by omega) (by omega), fun q => absurd q (by decide)⟩
end
