theorem wLs_f : ∀ r ∈ wLs, ∃ f : Nat, f < 23 ∧ wreg f = r := by decide +kernel
/-- the changing references of all that lay there stay -/
def zpyq (Γ : zΓ) (G G1 : zH) : Prop := ∀ r a : Nat, Γ.1 a ≠ 0 → G1.2.2 r a = G.2.2 r a
def zpy (rs : List Nat) (Γ : zΓ) (G G1 : zH) : Prop := zpr rs Γ G G1 ∧ zpyq Γ G G1
theorem zpy_rf {rs : List Nat} {Γ : zΓ} {G : zH} : zpy rs Γ G G := ⟨zpr_rf, fun _ _ _ => rfl⟩
theorem zpy_ag {rs : List Nat} {Γ : zΓ} {G G1 : zH} {t q : Nat} {fr : Nat → Nat} {iv : Nat → Int} (h : zpy rs Γ G G1) (_ : True) (hq : Γ.1 q = 0) : zpy rs Γ G (zag G1 t q fr iv) := ⟨fun r hr a ha i => (zag_q (fun e => ha (by rw [e]; exact hq))).trans (h.1 r hr a ha i), fun r a ha => by
  show (if a = q then _ else _) = _
  rw [if_neg (fun e => ha (by rw [e]; exact hq))]
  exact h.2 r a ha⟩
theorem zpy_tr {rs rs' : List Nat} {Γ Γ1 : zΓ} {G G1 G2 : zH} (h1 : zpy rs Γ G G1) (hx : zxt Γ Γ1) (h2 : zpy rs' Γ1 G1 G2) (hs : ∀ r ∈ rs, r ∈ rs') : zpy rs Γ G G2 := ⟨zpr_tr h1.1 hx h2.1 hs, fun r a ha => (h2.2 r a (by rw [(hx.2.2.2 a ha).1]; exact ha)).trans (h1.2 r a ha)⟩
theorem zpy_no {rs ms : List Nat} {Γ Γ1 : zΓ} {G G1 G2 : zH} (h1 : zpy rs Γ G G1) (hx : zxt Γ Γ1) (hz : zsm ms G1 G2) (hr : ∀ r ∈ rs, r ∉ ms) : zpy rs Γ G (zno Γ1 G2) := ⟨zpr_no h1.1 hx hz hr, fun r a ha => by
  show G2.2.2 r a = _
  rw [hz.2]
  exact h1.2 r a ha⟩
/-- works begun that are new -/
theorem zpy_nb {rs ms : List Nat} {Γ Γ1 : zΓ} {G G1 G2 : zH} {w b : Nat} (h1 : zpy rs Γ G G1) (hx : zxt Γ Γ1) (hz : zsn ms G1 G2) (h8 : G2.2.2 = (zuP G1 800 w b).2.2) (ho : OW Γ1 w G1 G2) (hr : ∀ r ∈ rs, r ∉ ms ∨ r ∈ wLs) (hn : ∀ f : Nat, f < 23 → Γ.1 (wad Γ1 w f) = 0) : zpy rs Γ G (zno Γ1 G2) := ⟨fun r h a ha i => by
  rw [zno_1 (by rw [(hx.2.2.2 a ha).1]; exact ha)]
  rcases hr r h with q | q
  · rw [hz r q]; exact h1.1 r h a ha i
  · obtain ⟨f, hf, e⟩ := wLs_f r q
    rw [← e, ho f a i hf (fun z => ha (by rw [z]; exact hn f hf)), e]
    exact h1.1 r h a ha i, fun r a ha => by
  show G2.2.2 r a = _
  rw [h8, zuP_3, if_neg (fun q => ha (by rw [q.2]; exact hn 18 (by decide)))]
  exact h1.2 r a ha⟩
theorem wad_ok {Γ : zΓ} {w : Nat} (hL : zLok Γ) (hw : Γ.1 w = 8) : ∀ f : Nat, f < 23 → Γ.1 (wad Γ w f) ≠ 0 := by
  have l1 := hL.2.2 8 1 w hw (by decide)
  have l1b : Γ.1 (Γ.2.1 w 1) = 5 := l1
  intro f hf
  rcases (show f = 0 ∨ f = 1 ∨ f = 2 ∨ f = 3 ∨ f = 4 ∨ f = 5 ∨ f = 6 ∨ f = 7 ∨ f = 8 ∨ f = 9 ∨ f = 10 ∨ f = 11 ∨ f = 12 ∨ f = 13 ∨ f = 14 ∨ f = 15 ∨ f = 16 ∨ f = 17 ∨ f = 18 ∨ f = 19 ∨ f = 20 ∨ f = 21 ∨ f = 22 by omega) with rfl | rfl | rfl | rfl | rfl | rfl | rfl | rfl | rfl | rfl | rfl | rfl | rfl | rfl | rfl | rfl | rfl | rfl | rfl | rfl | rfl | rfl | rfl
  · show Γ.1 (Γ.2.1 w 1) ≠ 0; rw [l1b]; decide
  · show Γ.1 (Γ.2.1 (Γ.2.1 w 1) 0) ≠ 0; rw [hL.2.2 5 0 _ l1b (by decide)]; decide
  · show Γ.1 (Γ.2.1 (Γ.2.1 w 1) 1) ≠ 0; rw [hL.2.2 5 1 _ l1b (by decide)]; decide
  · show Γ.1 (Γ.2.1 (Γ.2.1 w 1) 2) ≠ 0; rw [hL.2.2 5 2 _ l1b (by decide)]; decide
  · show Γ.1 (Γ.2.1 (Γ.2.1 w 1) 3) ≠ 0; rw [hL.2.2 5 3 _ l1b (by decide)]; decide
  · show Γ.1 (Γ.2.1 (Γ.2.1 w 1) 4) ≠ 0; rw [hL.2.2 5 4 _ l1b (by decide)]; decide
  · show Γ.1 (Γ.2.1 (Γ.2.1 w 1) 5) ≠ 0; rw [hL.2.2 5 5 _ l1b (by decide)]; decide
  · show Γ.1 (Γ.2.1 (Γ.2.1 w 1) 6) ≠ 0; rw [hL.2.2 5 6 _ l1b (by decide)]; decide
  · show Γ.1 (Γ.2.1 (Γ.2.1 w 1) 7) ≠ 0; rw [hL.2.2 5 7 _ l1b (by decide)]; decide
  · show Γ.1 (Γ.2.1 (Γ.2.1 w 1) 8) ≠ 0; rw [hL.2.2 5 8 _ l1b (by decide)]; decide
  · show Γ.1 (Γ.2.1 (Γ.2.1 w 1) 9) ≠ 0; rw [hL.2.2 5 9 _ l1b (by decide)]; decide
  · show Γ.1 (Γ.2.1 w 2) ≠ 0; rw [hL.2.2 8 2 w hw (by decide)]; decide
  · show Γ.1 (Γ.2.1 w 3) ≠ 0; rw [hL.2.2 8 3 w hw (by decide)]; decide
  · show Γ.1 (Γ.2.1 w 4) ≠ 0; rw [hL.2.2 8 4 w hw (by decide)]; decide
  · show Γ.1 (Γ.2.1 w 5) ≠ 0; rw [hL.2.2 8 5 w hw (by decide)]; decide
  · show Γ.1 (Γ.2.1 w 6) ≠ 0; rw [hL.2.2 8 6 w hw (by decide)]; decide
  · show Γ.1 (Γ.2.1 w 7) ≠ 0; rw [hL.2.2 8 7 w hw (by decide)]; decide
  · show Γ.1 (Γ.2.1 w 8) ≠ 0; rw [hL.2.2 8 8 w hw (by decide)]; decide
  · show Γ.1 w ≠ 0; rw [hw]; decide
  · show Γ.1 w ≠ 0; rw [hw]; decide
  · show Γ.1 w ≠ 0; rw [hw]; decide
  · show Γ.1 w ≠ 0; rw [hw]; decide
  · show Γ.1 w ≠ 0; rw [hw]; decide
theorem wad_x {Γ Γ' : zΓ} {w : Nat} (hL : zLok Γ) (hx : zxt Γ Γ') (hw : Γ.1 w = 8) : ∀ f : Nat, f < 23 → wad Γ' w f = wad Γ w f := by
  have l1 : Γ.1 (Γ.2.1 w 1) = 5 := hL.2.2 8 1 w hw (by decide)
  have e1 : Γ'.2.1 w = Γ.2.1 w := zxt_fr hx (by rw [hw]; decide)
  have e2 : Γ'.2.1 (Γ.2.1 w 1) = Γ.2.1 (Γ.2.1 w 1) := zxt_fr hx (by rw [l1]; decide)
  intro f hf
  rcases (show f = 0 ∨ f = 1 ∨ f = 2 ∨ f = 3 ∨ f = 4 ∨ f = 5 ∨ f = 6 ∨ f = 7 ∨ f = 8 ∨ f = 9 ∨ f = 10 ∨ f = 11 ∨ f = 12 ∨ f = 13 ∨ f = 14 ∨ f = 15 ∨ f = 16 ∨ f = 17 ∨ f = 18 ∨ f = 19 ∨ f = 20 ∨ f = 21 ∨ f = 22 by omega) with rfl | rfl | rfl | rfl | rfl | rfl | rfl | rfl | rfl | rfl | rfl | rfl | rfl | rfl | rfl | rfl | rfl | rfl | rfl | rfl | rfl | rfl | rfl
  all_goals first
    | rfl
    | (show Γ'.2.1 w _ = Γ.2.1 w _; rw [e1])
    | (show Γ'.2.1 (Γ'.2.1 w 1) _ = Γ.2.1 (Γ.2.1 w 1) _; rw [e1, e2])
/-- works as they begin, over their telling -/
def WZ (Γ : zΓ) (w t : Nat) (G : zH) : Prop := G.2.2 800 w = t ∧ (∀ j : Nat, G.1 2054 (Γ.2.1 w 8) j = 0) ∧ bgG Γ w t G G
theorem bgG_c {Γ Γ' : zΓ} {w t : Nat} {G0 G G' : zH} (h5 : Γ'.2.1 t 5 = Γ.2.1 t 5) (hw : ∀ f : Nat, f < 23 → wad Γ' w f = wad Γ w f) (e : ∀ f j : Nat, f < 23 → G'.1 (wreg f) (wad Γ w f) j = G.1 (wreg f) (wad Γ w f) j) (e4 : (∀ j : Nat, G'.1 2040 (Γ.2.1 t 5) j = G0.1 2040 (Γ.2.1 t 5) j) ∧ G'.1 609 t 0 = G0.1 609 t 0 ∧ G'.1 611 t 0 = G0.1 611 t 0 ∧ G'.1 612 t 0 = G0.1 612 t 0) (h : bgG Γ w t G0 G) : bgG Γ' w t G' G' := by
  obtain ⟨c0, c1, c2, c3, c4, c5, c6, c7⟩ := h
  obtain ⟨e40, e9, e11, e12⟩ := e4
  have k : ∀ f j : Nat, f < 23 → G'.1 (wreg f) (wad Γ' w f) j = G.1 (wreg f) (wad Γ w f) j := fun f j hf => by rw [hw f hf]; exact e f j hf
  refine ⟨(k 0 0 (by decide)).trans c0, fun j hj => ?_, fun j hj => ?_, (k 18 0 (by decide)).trans c3, (k 19 0 (by decide)).trans (c4.trans e9.symm), (k 20 0 (by decide)).trans (c5.trans e11.symm), (k 21 0 (by decide)).trans (c6.trans e12.symm), (k 22 0 (by decide)).trans c7⟩
  · rw [h5, e40 j]
    exact ⟨(k 11 j (by decide)).trans (c1 j hj).1, (k 12 j (by decide)).trans (c1 j hj).2⟩
  · obtain ⟨q1, q2, q3, q4⟩ := c2 j hj
    exact ⟨(k 13 j (by decide)).trans q1, (k 14 j (by decide)).trans q2, (k 15 j (by decide)).trans q3, (k 16 j (by decide)).trans q4⟩
theorem creg_W : ∀ f : Nat, f < 23 → wreg f ∈ [510, 2026, 2027, 2028, 2029, 2030, 2031, 2032, 2033, 2034, 2035, 2048, 2049, 2050, 2051, 2052, 2053, 2054, 809, 810, 811, 812, 813] := by decide +kernel
theorem WZ_x {Γ Γ' : zΓ} {w t : Nat} {G G' : zH} (hL : zLok Γ) (hx : zxt Γ Γ') (hw : Γ.1 w = 8) (ht : Γ.1 t = 6) (hp : zpy [510, 2026, 2027, 2028, 2029, 2030, 2031, 2032, 2033, 2034, 2035, 2048, 2049, 2050, 2051, 2052, 2053, 2054, 809, 810, 811, 812, 813, 2040, 609, 611, 612] Γ G G') (h : WZ Γ w t G) : WZ Γ' w t G' := by
  have h0 : Γ.1 w ≠ 0 := by rw [hw]; decide
  have t0 : Γ.1 t ≠ 0 := by rw [ht]; decide
  have t5 : Γ.1 (Γ.2.1 t 5) ≠ 0 := by rw [hL.2.2 6 5 t ht (by decide)]; decide
  have h8 : Γ.1 (Γ.2.1 w 8) ≠ 0 := by rw [hL.2.2 8 8 w hw (by decide)]; decide
  have ew : Γ'.2.1 w = Γ.2.1 w := zxt_fr hx h0
  have et : Γ'.2.1 t = Γ.2.1 t := zxt_fr hx t0
  obtain ⟨z1, z2, z3⟩ := h
  refine ⟨(hp.2 800 w h0).trans z1, fun j => by rw [ew, hp.1 2054 (by decide) _ h8 j]; exact z2 j, bgG_c (by rw [et]) (wad_x hL hx hw) (fun f j hf => hp.1 _ (List.mem_append_left _ (creg_W f hf) : wreg f ∈ [510, 2026, 2027, 2028, 2029, 2030, 2031, 2032, 2033, 2034, 2035, 2048, 2049, 2050, 2051, 2052, 2053, 2054, 809, 810, 811, 812, 813] ++ [2040, 609, 611, 612]) _ (wad_ok hL hw f hf) j) ⟨fun j => hp.1 2040 (by decide) _ t5 j, hp.1 609 (by decide) _ t0 0, hp.1 611 (by decide) _ t0 0, hp.1 612 (by decide) _ t0 0⟩ z3⟩

set_option maxHeartbeats 4000000 in
set_option maxRecDepth 100000 in
theorem c_X0_initW {l : Launch} {b : Nat} {Γ : zΓ} {G : zH} {X : va_W} {h0 : Nat} (hX : zXs Γ) : zMi l yX0_init cX0_init 1 1 3 35 b Γ G X 1 h0 [] (fun _ => True) (fun _ G' => zpy [2044, 2055, 901, 912, 913, 2037, 2036, 2038, 2039, 2040, 2041, 2042, 2043, 609, 610, 611, 612, 2016, 2017, 2014, 2015, 206, 207, 510, 2026, 2027, 2028, 2029, 2030, 2031, 2032, 2033, 2034, 2035, 2048, 2049, 2050, 2051, 2052, 2053, 2054, 809, 810, 811, 812, 813, 910, 911] Γ G G' ∧ True) := by
  refine zMi_of RX0 hX (by decide) rfl rfl (Nat.le_of_ble_eq_true rfl) ?_
  intro p e s m args below meth c C hr hlk hin hB hav hT
  show V p l e (zrC 1 3 35) s m args below meth c b Γ.2.2.2.1 1 0 0 (MQ below (zQi b Γ X 1 h0 (fun _ G' => zpy [2044, 2055, 901, 912, 913, 2037, 2036, 2038, 2039, 2040, 2041, 2042, 2043, 609, 610, 611, 612, 2016, 2017, 2014, 2015, 206, 207, 510, 2026, 2027, 2028, 2029, 2030, 2031, 2032, 2033, 2034, 2035, 2048, 2049, 2050, 2051, 2052, 2053, 2054, 809, 810, 811, 812, 813, 910, 911] Γ G G' ∧ True)) args s 3 35 (zAb b)) 0 [some (zr 1 h0)] [] ((h0, zOb 1 (fun _ => false) (fun _ => 0) (fun _ => 0)) :: (X ++ zWd Γ G))
  refine v_fresh hB (fun fh0 => ?_)
  have hx0 : zxt Γ Γ := zxt_rf
  have hO : zOk Γ 1 (fun _ => false) (fun _ => 0) := zOk_0
  refine v_aload_n (pc := 0) C dX0_init_0 rfl ?_
  refine v_obj (pc := 1) C dX0_init_1 ol_X0 oi_ oc_ ⟨Nat.le_of_ble_eq_true rfl, Nat.le_of_ble_eq_true rfl⟩ (Nat.le_of_ble_eq_true rfl) ?_
  refine v_aload_n (pc := 4) C dX0_init_4 rfl ?_
  refine v_iconst (pc := 5) C dX0_init_5 ?_
  refine v_newi0 (pc := 6) C hx0 hB 11 dX0_init_6 ac_int a_11 rfl (by decide) (by decide) ⟨Nat.le_of_ble_eq_true rfl, Nat.le_of_ble_eq_true rfl⟩ (fun Γ1 q1 fq1 hs1 hB1 tq1 => ?_)
  have hx1 := zxt_tr hx0 hs1
  replace hO := zOk_x hs1 hO
  refine v_putr (pc := 8) (k := 0) C hin dX0_init_8 fl_X0_9 rfl (by decide) (by decide) ?_
  replace hO := zOk_s (k := 0) hO (by decide) (by decide) tq1
  refine v_aload_n (pc := 11) C dX0_init_11 rfl ?_
  refine v_iconst (pc := 12) C dX0_init_12 ?_
  refine v_newi0 (pc := 13) C hx1 hB1 12 dX0_init_13 ac_int a_12 rfl (by decide) (by decide) ⟨Nat.le_of_ble_eq_true rfl, Nat.le_of_ble_eq_true rfl⟩ (fun Γ2 q2 fq2 hs2 hB2 tq2 => ?_)
  have hx2 := zxt_tr hx1 hs2
  replace hO := zOk_x hs2 hO
  replace tq1 := zxt_ty hs2 tq1 (by decide)
  refine v_putr (pc := 15) (k := 1) C hin dX0_init_15 fl_X0_15 rfl (by decide) (by decide) ?_
  replace hO := zOk_s (k := 1) hO (by decide) (by decide) tq2
  refine v_aload_n (pc := 18) C dX0_init_18 rfl ?_
  refine v_bipush (pc := 19) C dX0_init_19 (by decide) ?_
  refine v_newj0 (pc := 21) C hx2 hB2 13 dX0_init_21 ac_long a_13 rfl (by decide) (by decide) ⟨Nat.le_of_ble_eq_true rfl, Nat.le_of_ble_eq_true rfl⟩ (fun Γ3 q3 fq3 hs3 hB3 tq3 => ?_)
  have hx3 := zxt_tr hx2 hs3
  replace hO := zOk_x hs3 hO
  replace tq1 := zxt_ty hs3 tq1 (by decide)
  replace tq2 := zxt_ty hs3 tq2 (by decide)
  refine v_putr (pc := 23) (k := 2) C hin dX0_init_23 fl_X0_18 rfl (by decide) (by decide) ?_
  replace hO := zOk_s (k := 2) hO (by decide) (by decide) tq3
  refine v_adopt0 (Γ0 := Γ) hB3 (by decide) (by decide) (by decide +kernel) (by decide +kernel) hO (by decide +kernel) (fun Γe Ge hse hBe the eΓ eG => ?_)
  have prE : zpy [2044, 2055, 901, 912, 913, 2037, 2036, 2038, 2039, 2040, 2041, 2042, 2043, 609, 610, 611, 612, 2016, 2017, 2014, 2015, 206, 207, 510, 2026, 2027, 2028, 2029, 2030, 2031, 2032, 2033, 2034, 2035, 2048, 2049, 2050, 2051, 2052, 2053, 2054, 809, 810, 811, 812, 813, 910, 911] Γ G Ge := by rw [eG]; exact zpy_ag zpy_rf (by decide) fh0
  have hx4 := zxt_tr hx3 hse
  replace tq1 := zxt_ty hse tq1 (by decide)
  replace tq2 := zxt_ty hse tq2 (by decide)
  replace tq3 := zxt_ty hse tq3 (by decide)
  have th0 := the
  refine v_widen (k := 3) (n := 35) (Nat.le_of_ble_eq_true rfl) (Nat.le_of_ble_eq_true rfl) ?_
  have hpost := (⟨prE, trivial⟩ : zpy [2044, 2055, 901, 912, 913, 2037, 2036, 2038, 2039, 2040, 2041, 2042, 2043, 609, 610, 611, 612, 2016, 2017, 2014, 2015, 206, 207, 510, 2026, 2027, 2028, 2029, 2030, 2031, 2032, 2033, 2034, 2035, 2048, 2049, 2050, 2051, 2052, 2053, 2054, 809, 810, 811, 812, 813, 910, 911] Γ G _ ∧ True)
  exact v_ret (Γ0 := Γ) (zCv_x C hx4) hr hlk dX0_init_26 hx4 hBe th0 hpost

set_option maxHeartbeats 4000000 in
set_option maxRecDepth 100000 in
theorem c_X1_initW {l : Launch} {b : Nat} {Γ : zΓ} {G : zH} {X : va_W} {h0 : Nat} (hX : zXs Γ) : zMi l yX1_init cX1_init 1 1 6 213 b Γ G X 2 h0 [] (fun _ => True) (fun Γ' G' => zpy [2044, 2055, 901, 912, 913, 2037, 2036, 2038, 2039, 2040, 2041, 2042, 2043, 609, 610, 611, 612, 2016, 2017, 2014, 2015, 206, 207, 510, 2026, 2027, 2028, 2029, 2030, 2031, 2032, 2033, 2034, 2035, 2048, 2049, 2050, 2051, 2052, 2053, 2054, 809, 810, 811, 812, 813, 910, 911] Γ G G' ∧ (Γ.1 (Γ'.2.1 h0 0) = 0 ∧ Γ.1 (Γ'.2.1 h0 1) = 0 ∧ Γ.1 (Γ'.2.1 h0 2) = 0 ∧ Γ.1 (Γ'.2.1 h0 3) = 0) ∧ (∀ i, G'.1 2016 (Γ'.2.1 h0 2) i = 0 ∧ G'.1 2017 (Γ'.2.1 h0 3) i = 0) ∧ G'.1 206 h0 0 = 0 ∧ G'.1 207 h0 0 = 0) := by
  refine zMi_of RX1 hX (by decide) rfl rfl (Nat.le_of_ble_eq_true rfl) ?_
  intro p e s m args below meth c C hr hlk hin hB hav hT
  show V p l e (zrC 1 6 213) s m args below meth c b Γ.2.2.2.1 1 0 0 (MQ below (zQi b Γ X 2 h0 (fun Γ' G' => zpy [2044, 2055, 901, 912, 913, 2037, 2036, 2038, 2039, 2040, 2041, 2042, 2043, 609, 610, 611, 612, 2016, 2017, 2014, 2015, 206, 207, 510, 2026, 2027, 2028, 2029, 2030, 2031, 2032, 2033, 2034, 2035, 2048, 2049, 2050, 2051, 2052, 2053, 2054, 809, 810, 811, 812, 813, 910, 911] Γ G G' ∧ (Γ.1 (Γ'.2.1 h0 0) = 0 ∧ Γ.1 (Γ'.2.1 h0 1) = 0 ∧ Γ.1 (Γ'.2.1 h0 2) = 0 ∧ Γ.1 (Γ'.2.1 h0 3) = 0) ∧ (∀ i, G'.1 2016 (Γ'.2.1 h0 2) i = 0 ∧ G'.1 2017 (Γ'.2.1 h0 3) i = 0) ∧ G'.1 206 h0 0 = 0 ∧ G'.1 207 h0 0 = 0)) args s 6 213 (zAb b)) 0 [some (zr 2 h0)] [] ((h0, zOb 2 (fun _ => false) (fun _ => 0) (fun _ => 0)) :: (X ++ zWd Γ G))
  refine v_fresh hB (fun fh0 => ?_)
  have hx0 : zxt Γ Γ := zxt_rf
  have hO : zOk Γ 2 (fun _ => false) (fun _ => 0) := zOk_0
  refine v_aload_n (pc := 0) C dX1_init_0 rfl ?_
  refine v_obj (pc := 1) C dX1_init_1 ol_X1 oi_ oc_ ⟨Nat.le_of_ble_eq_true rfl, Nat.le_of_ble_eq_true rfl⟩ (Nat.le_of_ble_eq_true rfl) ?_
  refine v_aload_n (pc := 4) C dX1_init_4 rfl ?_
  refine v_bipush (pc := 5) C dX1_init_5 (by decide) ?_
  refine v_newi0 (pc := 7) C hx0 hB 14 dX1_init_7 ac_int a_14 rfl (by decide) (by decide) ⟨Nat.le_of_ble_eq_true rfl, Nat.le_of_ble_eq_true rfl⟩ (fun Γ1 q1 fq1 hs1 hB1 tq1 => ?_)
  have fz0 := zxt_0 hx0 fq1
  have ez0 : q1 = q1 := rfl
  have hx1 := zxt_tr hx0 hs1
  replace hO := zOk_x hs1 hO
  refine v_putr (pc := 9) (k := 0) C hin dX1_init_9 fl_X1_11 rfl (by decide) (by decide) ?_
  replace hO := zOk_s (k := 0) hO (by decide) (by decide) tq1
  refine v_aload_n (pc := 12) C dX1_init_12 rfl ?_
  refine v_bipush (pc := 13) C dX1_init_13 (by decide) ?_
  refine v_newi0 (pc := 15) C hx1 hB1 15 dX1_init_15 ac_int a_15 rfl (by decide) (by decide) ⟨Nat.le_of_ble_eq_true rfl, Nat.le_of_ble_eq_true rfl⟩ (fun Γ2 q2 fq2 hs2 hB2 tq2 => ?_)
  have fz1 := zxt_0 hx1 fq2
  have ez1 : q2 = q2 := rfl
  have hx2 := zxt_tr hx1 hs2
  replace hO := zOk_x hs2 hO
  replace tq1 := zxt_ty hs2 tq1 (by decide)
  refine v_putr (pc := 17) (k := 1) C hin dX1_init_17 fl_X1_15 rfl (by decide) (by decide) ?_
  replace hO := zOk_s (k := 1) hO (by decide) (by decide) tq2
  refine v_aload_n (pc := 20) C dX1_init_20 rfl ?_
  refine v_bipush (pc := 21) C dX1_init_21 (by decide) ?_
  refine v_newi0 (pc := 23) C hx2 hB2 16 dX1_init_23 ac_int a_16 rfl (by decide) (by decide) ⟨Nat.le_of_ble_eq_true rfl, Nat.le_of_ble_eq_true rfl⟩ (fun Γ3 q3 fq3 hs3 hB3 tq3 => ?_)
  have fz2 := zxt_0 hx2 fq3
  have ez2 : q3 = q3 := rfl
  have hx3 := zxt_tr hx2 hs3
  replace hO := zOk_x hs3 hO
  replace tq1 := zxt_ty hs3 tq1 (by decide)
  replace tq2 := zxt_ty hs3 tq2 (by decide)
  refine v_putr (pc := 25) (k := 2) C hin dX1_init_25 fl_X1_18 rfl (by decide) (by decide) ?_
  replace hO := zOk_s (k := 2) hO (by decide) (by decide) tq3
  refine v_aload_n (pc := 28) C dX1_init_28 rfl ?_
  refine v_bipush (pc := 29) C dX1_init_29 (by decide) ?_
  refine v_newi0 (pc := 31) C hx3 hB3 17 dX1_init_31 ac_int a_17 rfl (by decide) (by decide) ⟨Nat.le_of_ble_eq_true rfl, Nat.le_of_ble_eq_true rfl⟩ (fun Γ4 q4 fq4 hs4 hB4 tq4 => ?_)
  have fz3 := zxt_0 hx3 fq4
  have ez3 : q4 = q4 := rfl
  have hx4 := zxt_tr hx3 hs4
  replace hO := zOk_x hs4 hO
  replace tq1 := zxt_ty hs4 tq1 (by decide)
  replace tq2 := zxt_ty hs4 tq2 (by decide)
  replace tq3 := zxt_ty hs4 tq3 (by decide)
  refine v_putr (pc := 33) (k := 3) C hin dX1_init_33 fl_X1_21 rfl (by decide) (by decide) ?_
  replace hO := zOk_s (k := 3) hO (by decide) (by decide) tq4
  refine v_aload_n (pc := 36) C dX1_init_36 rfl ?_
  refine v_bipush (pc := 37) C dX1_init_37 (by decide) ?_
  refine v_newj0 (pc := 39) C hx4 hB4 18 dX1_init_39 ac_long a_18 rfl (by decide) (by decide) ⟨Nat.le_of_ble_eq_true rfl, Nat.le_of_ble_eq_true rfl⟩ (fun Γ5 q5 fq5 hs5 hB5 tq5 => ?_)
  have hx5 := zxt_tr hx4 hs5
  replace hO := zOk_x hs5 hO
  replace tq1 := zxt_ty hs5 tq1 (by decide)
  replace tq2 := zxt_ty hs5 tq2 (by decide)
  replace tq3 := zxt_ty hs5 tq3 (by decide)
  replace tq4 := zxt_ty hs5 tq4 (by decide)
  refine v_putr (pc := 41) (k := 4) C hin dX1_init_41 fl_X1_24 rfl (by decide) (by decide) ?_
  replace hO := zOk_s (k := 4) hO (by decide) (by decide) tq5
  refine v_aload_n (pc := 44) C dX1_init_44 rfl ?_
  refine v_bipush (pc := 45) C dX1_init_45 (by decide) ?_
  refine v_newj0 (pc := 47) C hx5 hB5 19 dX1_init_47 ac_long a_19 rfl (by decide) (by decide) ⟨Nat.le_of_ble_eq_true rfl, Nat.le_of_ble_eq_true rfl⟩ (fun Γ6 q6 fq6 hs6 hB6 tq6 => ?_)
  have hx6 := zxt_tr hx5 hs6
  replace hO := zOk_x hs6 hO
  replace tq1 := zxt_ty hs6 tq1 (by decide)
  replace tq2 := zxt_ty hs6 tq2 (by decide)
  replace tq3 := zxt_ty hs6 tq3 (by decide)
  replace tq4 := zxt_ty hs6 tq4 (by decide)
  replace tq5 := zxt_ty hs6 tq5 (by decide)
  refine v_putr (pc := 49) (k := 5) C hin dX1_init_49 fl_X1_28 rfl (by decide) (by decide) ?_
  replace hO := zOk_s (k := 5) hO (by decide) (by decide) tq6
  refine v_adopt0 (Γ0 := Γ) hB6 (by decide) (by decide) (by decide +kernel) (by decide +kernel) hO (by decide +kernel) (fun Γe Ge hse hBe the eΓ eG => ?_)
  have prE : zpy [2044, 2055, 901, 912, 913, 2037, 2036, 2038, 2039, 2040, 2041, 2042, 2043, 609, 610, 611, 612, 2016, 2017, 2014, 2015, 206, 207, 510, 2026, 2027, 2028, 2029, 2030, 2031, 2032, 2033, 2034, 2035, 2048, 2049, 2050, 2051, 2052, 2053, 2054, 809, 810, 811, 812, 813, 910, 911] Γ G Ge := by rw [eG]; exact zpy_ag zpy_rf (by decide) fh0
  have hx7 := zxt_tr hx6 hse
  replace tq1 := zxt_ty hse tq1 (by decide)
  replace tq2 := zxt_ty hse tq2 (by decide)
  replace tq3 := zxt_ty hse tq3 (by decide)
  replace tq4 := zxt_ty hse tq4 (by decide)
  replace tq5 := zxt_ty hse tq5 (by decide)
  replace tq6 := zxt_ty hse tq6 (by decide)
  have th0 := the
  refine v_widen (k := 6) (n := 213) (Nat.le_of_ble_eq_true rfl) (Nat.le_of_ble_eq_true rfl) ?_
  have e0 : Γe.2.1 h0 0 = q1 := by rw [eΓ, zad_2, if_pos rfl]; rfl
  have e1 : Γe.2.1 h0 1 = q2 := by rw [eΓ, zad_2, if_pos rfl]; rfl
  have e2 : Γe.2.1 h0 2 = q3 := by rw [eΓ, zad_2, if_pos rfl]; rfl
  have e3 : Γe.2.1 h0 3 = q4 := by rw [eΓ, zad_2, if_pos rfl]; rfl
  have hpost : zpy [2044, 2055, 901, 912, 913, 2037, 2036, 2038, 2039, 2040, 2041, 2042, 2043, 609, 610, 611, 612, 2016, 2017, 2014, 2015, 206, 207, 510, 2026, 2027, 2028, 2029, 2030, 2031, 2032, 2033, 2034, 2035, 2048, 2049, 2050, 2051, 2052, 2053, 2054, 809, 810, 811, 812, 813, 910, 911] Γ G Ge ∧ (Γ.1 (Γe.2.1 h0 0) = 0 ∧ Γ.1 (Γe.2.1 h0 1) = 0 ∧ Γ.1 (Γe.2.1 h0 2) = 0 ∧ Γ.1 (Γe.2.1 h0 3) = 0) ∧ (∀ i, Ge.1 2016 (Γe.2.1 h0 2) i = 0 ∧ Ge.1 2017 (Γe.2.1 h0 3) i = 0) ∧ Ge.1 206 h0 0 = 0 ∧ Ge.1 207 h0 0 = 0 := by
    refine ⟨prE, ⟨by rw [e0]; exact fz0, by rw [e1]; exact fz1, by rw [e2]; exact fz2, by rw [e3]; exact fz3⟩, fun i => ⟨?_, ?_⟩, ?_, ?_⟩
    · rw [e2, eG, zag_r (Or.inr (by decide))]
      exact (hB.2.2 _ fz2).1 2016 i
    · rw [e3, eG, zag_r (Or.inr (by decide))]
      exact (hB.2.2 _ fz3).1 2017 i
    · rw [eG]; exact zag_at (t := 2) (k := 6) (by decide)
    · rw [eG]; exact zag_at (t := 2) (k := 7) (by decide)
  exact v_ret (Γ0 := Γ) (zCv_x C hx7) hr hlk dX1_init_52 hx7 hBe th0 hpost

set_option maxHeartbeats 4000000 in
set_option maxRecDepth 100000 in
theorem c_X4_initW {l : Launch} {b : Nat} {Γ : zΓ} {G : zH} {X : va_W} {h0 : Nat} (hX : zXs Γ) : zMi l yX4_init cX4_init 1 1 10 600 b Γ G X 5 h0 [] (fun _ => True) (fun Γ' G' => zpy [2044, 2055, 901, 912, 913, 2037, 2036, 2038, 2039, 2040, 2041, 2042, 2043, 609, 610, 611, 612, 2016, 2017, 2014, 2015, 206, 207, 510, 2026, 2027, 2028, 2029, 2030, 2031, 2032, 2033, 2034, 2035, 2048, 2049, 2050, 2051, 2052, 2053, 2054, 809, 810, 811, 812, 813, 910, 911] Γ G G' ∧ ∀ k : Nat, k < 10 → Γ.1 (Γ'.2.1 h0 k) = 0) := by
  refine zMi_of RX4 hX (by decide) rfl rfl (Nat.le_of_ble_eq_true rfl) ?_
  intro p e s m args below meth c C hr hlk hin hB hav hT
  show V p l e (zrC 1 10 600) s m args below meth c b Γ.2.2.2.1 1 0 0 (MQ below (zQi b Γ X 5 h0 (fun Γ' G' => zpy [2044, 2055, 901, 912, 913, 2037, 2036, 2038, 2039, 2040, 2041, 2042, 2043, 609, 610, 611, 612, 2016, 2017, 2014, 2015, 206, 207, 510, 2026, 2027, 2028, 2029, 2030, 2031, 2032, 2033, 2034, 2035, 2048, 2049, 2050, 2051, 2052, 2053, 2054, 809, 810, 811, 812, 813, 910, 911] Γ G G' ∧ ∀ k : Nat, k < 10 → Γ.1 (Γ'.2.1 h0 k) = 0)) args s 10 600 (zAb b)) 0 [some (zr 5 h0)] [] ((h0, zOb 5 (fun _ => false) (fun _ => 0) (fun _ => 0)) :: (X ++ zWd Γ G))
  refine v_fresh hB (fun fh0 => ?_)
  have hx0 : zxt Γ Γ := zxt_rf
  have hO : zOk Γ 5 (fun _ => false) (fun _ => 0) := zOk_0
  refine v_aload_n (pc := 0) C dX4_init_0 rfl ?_
  refine v_obj (pc := 1) C dX4_init_1 ol_X4 oi_ oc_ ⟨Nat.le_of_ble_eq_true rfl, Nat.le_of_ble_eq_true rfl⟩ (Nat.le_of_ble_eq_true rfl) ?_
  refine v_aload_n (pc := 4) C dX4_init_4 rfl ?_
  refine v_bipush (pc := 5) C dX4_init_5 (by decide) ?_
  refine v_newi0 (pc := 7) C hx0 hB 26 dX4_init_7 ac_int a_26 rfl (by decide) (by decide) ⟨Nat.le_of_ble_eq_true rfl, Nat.le_of_ble_eq_true rfl⟩ (fun Γ1 q1 fq1 hs1 hB1 tq1 => ?_)
  have fz0 := zxt_0 hx0 fq1
  have ez0 : q1 = q1 := rfl
  have hx1 := zxt_tr hx0 hs1
  replace hO := zOk_x hs1 hO
  refine v_putr (pc := 9) (k := 0) C hin dX4_init_9 fl_X4_9 rfl (by decide) (by decide) ?_
  replace hO := zOk_s (k := 0) hO (by decide) (by decide) tq1
  refine v_aload_n (pc := 12) C dX4_init_12 rfl ?_
  refine v_bipush (pc := 13) C dX4_init_13 (by decide) ?_
  refine v_newi0 (pc := 15) C hx1 hB1 27 dX4_init_15 ac_int a_27 rfl (by decide) (by decide) ⟨Nat.le_of_ble_eq_true rfl, Nat.le_of_ble_eq_true rfl⟩ (fun Γ2 q2 fq2 hs2 hB2 tq2 => ?_)
  have fz1 := zxt_0 hx1 fq2
  have ez1 : q2 = q2 := rfl
  have hx2 := zxt_tr hx1 hs2
  replace hO := zOk_x hs2 hO
  replace tq1 := zxt_ty hs2 tq1 (by decide)
  refine v_putr (pc := 17) (k := 1) C hin dX4_init_17 fl_X4_15 rfl (by decide) (by decide) ?_
  replace hO := zOk_s (k := 1) hO (by decide) (by decide) tq2
  refine v_aload_n (pc := 20) C dX4_init_20 rfl ?_
  refine v_bipush (pc := 21) C dX4_init_21 (by decide) ?_
  refine v_newi0 (pc := 23) C hx2 hB2 28 dX4_init_23 ac_int a_28 rfl (by decide) (by decide) ⟨Nat.le_of_ble_eq_true rfl, Nat.le_of_ble_eq_true rfl⟩ (fun Γ3 q3 fq3 hs3 hB3 tq3 => ?_)
  have fz2 := zxt_0 hx2 fq3
  have ez2 : q3 = q3 := rfl
  have hx3 := zxt_tr hx2 hs3
  replace hO := zOk_x hs3 hO
  replace tq1 := zxt_ty hs3 tq1 (by decide)
  replace tq2 := zxt_ty hs3 tq2 (by decide)
  refine v_putr (pc := 25) (k := 2) C hin dX4_init_25 fl_X4_18 rfl (by decide) (by decide) ?_
  replace hO := zOk_s (k := 2) hO (by decide) (by decide) tq3
  refine v_aload_n (pc := 28) C dX4_init_28 rfl ?_
  refine v_bipush (pc := 29) C dX4_init_29 (by decide) ?_
  refine v_newi0 (pc := 31) C hx3 hB3 29 dX4_init_31 ac_int a_29 rfl (by decide) (by decide) ⟨Nat.le_of_ble_eq_true rfl, Nat.le_of_ble_eq_true rfl⟩ (fun Γ4 q4 fq4 hs4 hB4 tq4 => ?_)
  have fz3 := zxt_0 hx3 fq4
  have ez3 : q4 = q4 := rfl
  have hx4 := zxt_tr hx3 hs4
  replace hO := zOk_x hs4 hO
  replace tq1 := zxt_ty hs4 tq1 (by decide)
  replace tq2 := zxt_ty hs4 tq2 (by decide)
  replace tq3 := zxt_ty hs4 tq3 (by decide)
  refine v_putr (pc := 33) (k := 3) C hin dX4_init_33 fl_X4_21 rfl (by decide) (by decide) ?_
  replace hO := zOk_s (k := 3) hO (by decide) (by decide) tq4
  refine v_aload_n (pc := 36) C dX4_init_36 rfl ?_
  refine v_bipush (pc := 37) C dX4_init_37 (by decide) ?_
  refine v_newi0 (pc := 39) C hx4 hB4 30 dX4_init_39 ac_int a_30 rfl (by decide) (by decide) ⟨Nat.le_of_ble_eq_true rfl, Nat.le_of_ble_eq_true rfl⟩ (fun Γ5 q5 fq5 hs5 hB5 tq5 => ?_)
  have fz4 := zxt_0 hx4 fq5
  have ez4 : q5 = q5 := rfl
  have hx5 := zxt_tr hx4 hs5
  replace hO := zOk_x hs5 hO
  replace tq1 := zxt_ty hs5 tq1 (by decide)
  replace tq2 := zxt_ty hs5 tq2 (by decide)
  replace tq3 := zxt_ty hs5 tq3 (by decide)
  replace tq4 := zxt_ty hs5 tq4 (by decide)
  refine v_putr (pc := 41) (k := 4) C hin dX4_init_41 fl_X4_24 rfl (by decide) (by decide) ?_
  replace hO := zOk_s (k := 4) hO (by decide) (by decide) tq5
  refine v_aload_n (pc := 44) C dX4_init_44 rfl ?_
  refine v_bipush (pc := 45) C dX4_init_45 (by decide) ?_
  refine v_newi0 (pc := 47) C hx5 hB5 31 dX4_init_47 ac_int a_31 rfl (by decide) (by decide) ⟨Nat.le_of_ble_eq_true rfl, Nat.le_of_ble_eq_true rfl⟩ (fun Γ6 q6 fq6 hs6 hB6 tq6 => ?_)
  have fz5 := zxt_0 hx5 fq6
  have ez5 : q6 = q6 := rfl
  have hx6 := zxt_tr hx5 hs6
  replace hO := zOk_x hs6 hO
  replace tq1 := zxt_ty hs6 tq1 (by decide)
  replace tq2 := zxt_ty hs6 tq2 (by decide)
  replace tq3 := zxt_ty hs6 tq3 (by decide)
  replace tq4 := zxt_ty hs6 tq4 (by decide)
  replace tq5 := zxt_ty hs6 tq5 (by decide)
  refine v_putr (pc := 49) (k := 5) C hin dX4_init_49 fl_X4_27 rfl (by decide) (by decide) ?_
  replace hO := zOk_s (k := 5) hO (by decide) (by decide) tq6
  refine v_aload_n (pc := 52) C dX4_init_52 rfl ?_
  refine v_bipush (pc := 53) C dX4_init_53 (by decide) ?_
  refine v_newi0 (pc := 55) C hx6 hB6 32 dX4_init_55 ac_int a_32 rfl (by decide) (by decide) ⟨Nat.le_of_ble_eq_true rfl, Nat.le_of_ble_eq_true rfl⟩ (fun Γ7 q7 fq7 hs7 hB7 tq7 => ?_)
  have fz6 := zxt_0 hx6 fq7
  have ez6 : q7 = q7 := rfl
  have hx7 := zxt_tr hx6 hs7
  replace hO := zOk_x hs7 hO
  replace tq1 := zxt_ty hs7 tq1 (by decide)
  replace tq2 := zxt_ty hs7 tq2 (by decide)
  replace tq3 := zxt_ty hs7 tq3 (by decide)
  replace tq4 := zxt_ty hs7 tq4 (by decide)
  replace tq5 := zxt_ty hs7 tq5 (by decide)
  replace tq6 := zxt_ty hs7 tq6 (by decide)
  refine v_putr (pc := 57) (k := 6) C hin dX4_init_57 fl_X4_30 rfl (by decide) (by decide) ?_
  replace hO := zOk_s (k := 6) hO (by decide) (by decide) tq7
  refine v_aload_n (pc := 60) C dX4_init_60 rfl ?_
  refine v_bipush (pc := 61) C dX4_init_61 (by decide) ?_
  refine v_newi0 (pc := 63) C hx7 hB7 33 dX4_init_63 ac_int a_33 rfl (by decide) (by decide) ⟨Nat.le_of_ble_eq_true rfl, Nat.le_of_ble_eq_true rfl⟩ (fun Γ8 q8 fq8 hs8 hB8 tq8 => ?_)
  have fz7 := zxt_0 hx7 fq8
  have ez7 : q8 = q8 := rfl
  have hx8 := zxt_tr hx7 hs8
  replace hO := zOk_x hs8 hO
  replace tq1 := zxt_ty hs8 tq1 (by decide)
  replace tq2 := zxt_ty hs8 tq2 (by decide)
  replace tq3 := zxt_ty hs8 tq3 (by decide)
  replace tq4 := zxt_ty hs8 tq4 (by decide)
  replace tq5 := zxt_ty hs8 tq5 (by decide)
  replace tq6 := zxt_ty hs8 tq6 (by decide)
  replace tq7 := zxt_ty hs8 tq7 (by decide)
  refine v_putr (pc := 65) (k := 7) C hin dX4_init_65 fl_X4_33 rfl (by decide) (by decide) ?_
  replace hO := zOk_s (k := 7) hO (by decide) (by decide) tq8
  refine v_aload_n (pc := 68) C dX4_init_68 rfl ?_
  refine v_bipush (pc := 69) C dX4_init_69 (by decide) ?_
  refine v_newi0 (pc := 71) C hx8 hB8 34 dX4_init_71 ac_int a_34 rfl (by decide) (by decide) ⟨Nat.le_of_ble_eq_true rfl, Nat.le_of_ble_eq_true rfl⟩ (fun Γ9 q9 fq9 hs9 hB9 tq9 => ?_)
  have fz8 := zxt_0 hx8 fq9
  have ez8 : q9 = q9 := rfl
  have hx9 := zxt_tr hx8 hs9
  replace hO := zOk_x hs9 hO
  replace tq1 := zxt_ty hs9 tq1 (by decide)
  replace tq2 := zxt_ty hs9 tq2 (by decide)
  replace tq3 := zxt_ty hs9 tq3 (by decide)
  replace tq4 := zxt_ty hs9 tq4 (by decide)
  replace tq5 := zxt_ty hs9 tq5 (by decide)
  replace tq6 := zxt_ty hs9 tq6 (by decide)
  replace tq7 := zxt_ty hs9 tq7 (by decide)
  replace tq8 := zxt_ty hs9 tq8 (by decide)
  refine v_putr (pc := 73) (k := 8) C hin dX4_init_73 fl_X4_36 rfl (by decide) (by decide) ?_
  replace hO := zOk_s (k := 8) hO (by decide) (by decide) tq9
  refine v_aload_n (pc := 76) C dX4_init_76 rfl ?_
  refine v_bipush (pc := 77) C dX4_init_77 (by decide) ?_
  refine v_newi0 (pc := 79) C hx9 hB9 35 dX4_init_79 ac_int a_35 rfl (by decide) (by decide) ⟨Nat.le_of_ble_eq_true rfl, Nat.le_of_ble_eq_true rfl⟩ (fun Γ10 q10 fq10 hs10 hB10 tq10 => ?_)
  have fz9 := zxt_0 hx9 fq10
  have ez9 : q10 = q10 := rfl
  have hx10 := zxt_tr hx9 hs10
  replace hO := zOk_x hs10 hO
  replace tq1 := zxt_ty hs10 tq1 (by decide)
  replace tq2 := zxt_ty hs10 tq2 (by decide)
  replace tq3 := zxt_ty hs10 tq3 (by decide)
  replace tq4 := zxt_ty hs10 tq4 (by decide)
  replace tq5 := zxt_ty hs10 tq5 (by decide)
  replace tq6 := zxt_ty hs10 tq6 (by decide)
  replace tq7 := zxt_ty hs10 tq7 (by decide)
  replace tq8 := zxt_ty hs10 tq8 (by decide)
  replace tq9 := zxt_ty hs10 tq9 (by decide)
  refine v_putr (pc := 81) (k := 9) C hin dX4_init_81 fl_X4_39 rfl (by decide) (by decide) ?_
  replace hO := zOk_s (k := 9) hO (by decide) (by decide) tq10
  refine v_adopt0 (Γ0 := Γ) hB10 (by decide) (by decide) (by decide +kernel) (by decide +kernel) hO (by decide +kernel) (fun Γe Ge hse hBe the eΓ eG => ?_)
  have prE : zpy [2044, 2055, 901, 912, 913, 2037, 2036, 2038, 2039, 2040, 2041, 2042, 2043, 609, 610, 611, 612, 2016, 2017, 2014, 2015, 206, 207, 510, 2026, 2027, 2028, 2029, 2030, 2031, 2032, 2033, 2034, 2035, 2048, 2049, 2050, 2051, 2052, 2053, 2054, 809, 810, 811, 812, 813, 910, 911] Γ G Ge := by rw [eG]; exact zpy_ag zpy_rf (by decide) fh0
  have hx11 := zxt_tr hx10 hse
  replace tq1 := zxt_ty hse tq1 (by decide)
  replace tq2 := zxt_ty hse tq2 (by decide)
  replace tq3 := zxt_ty hse tq3 (by decide)
  replace tq4 := zxt_ty hse tq4 (by decide)
  replace tq5 := zxt_ty hse tq5 (by decide)
  replace tq6 := zxt_ty hse tq6 (by decide)
  replace tq7 := zxt_ty hse tq7 (by decide)
  replace tq8 := zxt_ty hse tq8 (by decide)
  replace tq9 := zxt_ty hse tq9 (by decide)
  replace tq10 := zxt_ty hse tq10 (by decide)
  have th0 := the
  refine v_widen (k := 10) (n := 600) (Nat.le_of_ble_eq_true rfl) (Nat.le_of_ble_eq_true rfl) ?_
  have e0 : Γe.2.1 h0 0 = q1 := by rw [eΓ, zad_2, if_pos rfl]; rfl
  have e1 : Γe.2.1 h0 1 = q2 := by rw [eΓ, zad_2, if_pos rfl]; rfl
  have e2 : Γe.2.1 h0 2 = q3 := by rw [eΓ, zad_2, if_pos rfl]; rfl
  have e3 : Γe.2.1 h0 3 = q4 := by rw [eΓ, zad_2, if_pos rfl]; rfl
  have e4 : Γe.2.1 h0 4 = q5 := by rw [eΓ, zad_2, if_pos rfl]; rfl
  have e5 : Γe.2.1 h0 5 = q6 := by rw [eΓ, zad_2, if_pos rfl]; rfl
  have e6 : Γe.2.1 h0 6 = q7 := by rw [eΓ, zad_2, if_pos rfl]; rfl
  have e7 : Γe.2.1 h0 7 = q8 := by rw [eΓ, zad_2, if_pos rfl]; rfl
  have e8 : Γe.2.1 h0 8 = q9 := by rw [eΓ, zad_2, if_pos rfl]; rfl
  have e9 : Γe.2.1 h0 9 = q10 := by rw [eΓ, zad_2, if_pos rfl]; rfl
  have hpost : zpy [2044, 2055, 901, 912, 913, 2037, 2036, 2038, 2039, 2040, 2041, 2042, 2043, 609, 610, 611, 612, 2016, 2017, 2014, 2015, 206, 207, 510, 2026, 2027, 2028, 2029, 2030, 2031, 2032, 2033, 2034, 2035, 2048, 2049, 2050, 2051, 2052, 2053, 2054, 809, 810, 811, 812, 813, 910, 911] Γ G Ge ∧ ∀ k : Nat, k < 10 → Γ.1 (Γe.2.1 h0 k) = 0 := by
    refine ⟨prE, fun k hk => ?_⟩
    rcases (show k = 0 ∨ k = 1 ∨ k = 2 ∨ k = 3 ∨ k = 4 ∨ k = 5 ∨ k = 6 ∨ k = 7 ∨ k = 8 ∨ k = 9 by omega) with rfl | rfl | rfl | rfl | rfl | rfl | rfl | rfl | rfl | rfl
    · rw [e0]; exact fz0
    · rw [e1]; exact fz1
    · rw [e2]; exact fz2
    · rw [e3]; exact fz3
    · rw [e4]; exact fz4
    · rw [e5]; exact fz5
    · rw [e6]; exact fz6
    · rw [e7]; exact fz7
    · rw [e8]; exact fz8
    · rw [e9]; exact fz9
  exact v_ret (Γ0 := Γ) (zCv_x C hx11) hr hlk dX4_init_84 hx11 hBe th0 hpost

set_option maxHeartbeats 4000000 in
set_option maxRecDepth 100000 in
theorem c_X5_initW {l : Launch} {b : Nat} {Γ : zΓ} {G : zH} {X : va_W} {h0 : Nat} (hX : zXs Γ) : zMi l yX5_init cX5_init 1 2 15 289 b Γ G X 6 h0 [] (fun _ => True) (fun Γ' G' => zpy [2044, 2055, 901, 912, 913, 2037, 2036, 2038, 2039, 2040, 2041, 2042, 2043, 609, 610, 611, 612, 2016, 2017, 2014, 2015, 206, 207, 510, 2026, 2027, 2028, 2029, 2030, 2031, 2032, 2033, 2034, 2035, 2048, 2049, 2050, 2051, 2052, 2053, 2054, 809, 810, 811, 812, 813, 910, 911] Γ G G' ∧ (∀ f : Nat, 4 ≤ f → f < 22 → Γ.1 (cad Γ' 0 h0 f) = 0) ∧ TZ Γ' h0 G') := by
  refine zMi_of RX5 hX (by decide) rfl rfl (Nat.le_of_ble_eq_true rfl) ?_
  intro p e s m args below meth c C hr hlk hin hB hav hT
  show V p l e (zrC 2 15 289) s m args below meth c b Γ.2.2.2.1 1 0 0 (MQ below (zQi b Γ X 6 h0 (fun Γ' G' => zpy [2044, 2055, 901, 912, 913, 2037, 2036, 2038, 2039, 2040, 2041, 2042, 2043, 609, 610, 611, 612, 2016, 2017, 2014, 2015, 206, 207, 510, 2026, 2027, 2028, 2029, 2030, 2031, 2032, 2033, 2034, 2035, 2048, 2049, 2050, 2051, 2052, 2053, 2054, 809, 810, 811, 812, 813, 910, 911] Γ G G' ∧ (∀ f : Nat, 4 ≤ f → f < 22 → Γ.1 (cad Γ' 0 h0 f) = 0) ∧ TZ Γ' h0 G')) args s 15 289 (zAb b)) 0 [some (zr 6 h0)] [] ((h0, zOb 6 (fun _ => false) (fun _ => 0) (fun _ => 0)) :: (X ++ zWd Γ G))
  refine v_fresh hB (fun fh0 => ?_)
  have hx0 : zxt Γ Γ := zxt_rf
  have hO : zOk Γ 6 (fun _ => false) (fun _ => 0) := zOk_0
  refine v_aload_n (pc := 0) C dX5_init_0 rfl ?_
  refine v_obj (pc := 1) C dX5_init_1 ol_X5 oi_ oc_ ⟨Nat.le_of_ble_eq_true rfl, Nat.le_of_ble_eq_true rfl⟩ (Nat.le_of_ble_eq_true rfl) ?_
  refine v_aload_n (pc := 4) C dX5_init_4 rfl ?_
  refine v_new (pc := 5) C dX5_init_5 (by decide) cl_X5_9 in_2 iz_2 ⟨Nat.le_of_ble_eq_true rfl, Nat.le_of_ble_eq_true rfl⟩ (fun n5 => ?_)
  refine v_dup (pc := 8) C dX5_init_8 ?_
  refine v_fresh2 hB (fun fl0 => ?_)
  refine v_init00 (pc := 9)  C hx0 dX5_init_9 (wi_X1 11) li_X5_11 rfl (c_X1_initW (zxt_Xs hx0 hX)) hB (fun x hx => by cases hx) zSty_t trivial ⟨Nat.le_of_ble_eq_true rfl, Nat.le_of_ble_eq_true rfl⟩ ⟨Nat.le_of_ble_eq_true rfl, Nat.le_of_ble_eq_true rfl⟩ (Nat.le_of_ble_eq_true rfl) (fun Γ1 G1 hs1 hB1 tn5 hp1 => ?_)
  have tk1 := tn5
  have hye : zxt Γ1 Γ1 := zxt_rf
  have pr1 : zpy [2044, 2055, 901, 912, 913, 2037, 2036, 2038, 2039, 2040, 2041, 2042, 2043, 609, 610, 611, 612, 2016, 2017, 2014, 2015, 206, 207, 510, 2026, 2027, 2028, 2029, 2030, 2031, 2032, 2033, 2034, 2035, 2048, 2049, 2050, 2051, 2052, 2053, 2054, 809, 810, 811, 812, 813, 910, 911] Γ G G1 := zpy_tr zpy_rf hx0 hp1.1 (by decide)
  have hx1 := zxt_tr hx0 hs1
  replace hO := zOk_x hs1 hO
  refine v_putr (pc := 12) (k := 0) C hin dX5_init_12 fl_X5_12 rfl (by decide) (by decide) ?_
  replace hO := zOk_s (k := 0) hO (by decide) (by decide) tn5
  refine v_aload_n (pc := 15) C dX5_init_15 rfl ?_
  refine v_bipush (pc := 16) C dX5_init_16 (by decide) ?_
  refine v_newi0 (pc := 18) C hx1 hB1 36 dX5_init_18 ac_int a_36 rfl (by decide) (by decide) ⟨Nat.le_of_ble_eq_true rfl, Nat.le_of_ble_eq_true rfl⟩ (fun Γ2 q2 fq2 hs2 hB2 tq2 => ?_)
  have fz1 := zxt_0 hx1 fq2
  have ez1 : q2 = q2 := rfl
  have hx2 := zxt_tr hx1 hs2
  replace hye := zxt_tr hye hs2
  replace hO := zOk_x hs2 hO
  replace tn5 := zxt_ty hs2 tn5 (by decide)
  refine v_putr (pc := 20) (k := 1) C hin dX5_init_20 fl_X5_18 rfl (by decide) (by decide) ?_
  replace hO := zOk_s (k := 1) hO (by decide) (by decide) tq2
  refine v_aload_n (pc := 23) C dX5_init_23 rfl ?_
  refine v_iconst (pc := 24) C dX5_init_24 ?_
  refine v_newi0 (pc := 25) C hx2 hB2 37 dX5_init_25 ac_int a_37 rfl (by decide) (by decide) ⟨Nat.le_of_ble_eq_true rfl, Nat.le_of_ble_eq_true rfl⟩ (fun Γ3 q3 fq3 hs3 hB3 tq3 => ?_)
  have fz2 := zxt_0 hx2 fq3
  have ez2 : q3 = q3 := rfl
  have hx3 := zxt_tr hx2 hs3
  replace hye := zxt_tr hye hs3
  replace hO := zOk_x hs3 hO
  replace tn5 := zxt_ty hs3 tn5 (by decide)
  replace tq2 := zxt_ty hs3 tq2 (by decide)
  refine v_putr (pc := 27) (k := 2) C hin dX5_init_27 fl_X5_22 rfl (by decide) (by decide) ?_
  replace hO := zOk_s (k := 2) hO (by decide) (by decide) tq3
  refine v_aload_n (pc := 30) C dX5_init_30 rfl ?_
  refine v_iconst (pc := 31) C dX5_init_31 ?_
  refine v_newi0 (pc := 32) C hx3 hB3 38 dX5_init_32 ac_int a_38 rfl (by decide) (by decide) ⟨Nat.le_of_ble_eq_true rfl, Nat.le_of_ble_eq_true rfl⟩ (fun Γ4 q4 fq4 hs4 hB4 tq4 => ?_)
  have fz3 := zxt_0 hx3 fq4
  have ez3 : q4 = q4 := rfl
  have hx4 := zxt_tr hx3 hs4
  replace hye := zxt_tr hye hs4
  replace hO := zOk_x hs4 hO
  replace tn5 := zxt_ty hs4 tn5 (by decide)
  replace tq2 := zxt_ty hs4 tq2 (by decide)
  replace tq3 := zxt_ty hs4 tq3 (by decide)
  refine v_putr (pc := 34) (k := 3) C hin dX5_init_34 fl_X5_25 rfl (by decide) (by decide) ?_
  replace hO := zOk_s (k := 3) hO (by decide) (by decide) tq4
  refine v_aload_n (pc := 37) C dX5_init_37 rfl ?_
  refine v_iconst (pc := 38) C dX5_init_38 ?_
  refine v_newi0 (pc := 39) C hx4 hB4 39 dX5_init_39 ac_int a_39 rfl (by decide) (by decide) ⟨Nat.le_of_ble_eq_true rfl, Nat.le_of_ble_eq_true rfl⟩ (fun Γ5 q5 fq5 hs5 hB5 tq5 => ?_)
  have fz4 := zxt_0 hx4 fq5
  have ez4 : q5 = q5 := rfl
  have hx5 := zxt_tr hx4 hs5
  replace hye := zxt_tr hye hs5
  replace hO := zOk_x hs5 hO
  replace tn5 := zxt_ty hs5 tn5 (by decide)
  replace tq2 := zxt_ty hs5 tq2 (by decide)
  replace tq3 := zxt_ty hs5 tq3 (by decide)
  replace tq4 := zxt_ty hs5 tq4 (by decide)
  refine v_putr (pc := 41) (k := 4) C hin dX5_init_41 fl_X5_28 rfl (by decide) (by decide) ?_
  replace hO := zOk_s (k := 4) hO (by decide) (by decide) tq5
  refine v_aload_n (pc := 44) C dX5_init_44 rfl ?_
  refine v_bipush (pc := 45) C dX5_init_45 (by decide) ?_
  refine v_newi0 (pc := 47) C hx5 hB5 40 dX5_init_47 ac_int a_40 rfl (by decide) (by decide) ⟨Nat.le_of_ble_eq_true rfl, Nat.le_of_ble_eq_true rfl⟩ (fun Γ6 q6 fq6 hs6 hB6 tq6 => ?_)
  have fz5 := zxt_0 hx5 fq6
  have ez5 : q6 = q6 := rfl
  have hx6 := zxt_tr hx5 hs6
  replace hye := zxt_tr hye hs6
  replace hO := zOk_x hs6 hO
  replace tn5 := zxt_ty hs6 tn5 (by decide)
  replace tq2 := zxt_ty hs6 tq2 (by decide)
  replace tq3 := zxt_ty hs6 tq3 (by decide)
  replace tq4 := zxt_ty hs6 tq4 (by decide)
  replace tq5 := zxt_ty hs6 tq5 (by decide)
  refine v_putr (pc := 49) (k := 5) C hin dX5_init_49 fl_X5_31 rfl (by decide) (by decide) ?_
  replace hO := zOk_s (k := 5) hO (by decide) (by decide) tq6
  refine v_aload_n (pc := 52) C dX5_init_52 rfl ?_
  refine v_iconst (pc := 53) C dX5_init_53 ?_
  refine v_newi0 (pc := 54) C hx6 hB6 41 dX5_init_54 ac_int a_41 rfl (by decide) (by decide) ⟨Nat.le_of_ble_eq_true rfl, Nat.le_of_ble_eq_true rfl⟩ (fun Γ7 q7 fq7 hs7 hB7 tq7 => ?_)
  have fz6 := zxt_0 hx6 fq7
  have ez6 : q7 = q7 := rfl
  have hx7 := zxt_tr hx6 hs7
  replace hye := zxt_tr hye hs7
  replace hO := zOk_x hs7 hO
  replace tn5 := zxt_ty hs7 tn5 (by decide)
  replace tq2 := zxt_ty hs7 tq2 (by decide)
  replace tq3 := zxt_ty hs7 tq3 (by decide)
  replace tq4 := zxt_ty hs7 tq4 (by decide)
  replace tq5 := zxt_ty hs7 tq5 (by decide)
  replace tq6 := zxt_ty hs7 tq6 (by decide)
  refine v_putr (pc := 56) (k := 6) C hin dX5_init_56 fl_X5_34 rfl (by decide) (by decide) ?_
  replace hO := zOk_s (k := 6) hO (by decide) (by decide) tq7
  refine v_aload_n (pc := 59) C dX5_init_59 rfl ?_
  refine v_iconst (pc := 60) C dX5_init_60 ?_
  refine v_newi0 (pc := 61) C hx7 hB7 42 dX5_init_61 ac_int a_42 rfl (by decide) (by decide) ⟨Nat.le_of_ble_eq_true rfl, Nat.le_of_ble_eq_true rfl⟩ (fun Γ8 q8 fq8 hs8 hB8 tq8 => ?_)
  have fz7 := zxt_0 hx7 fq8
  have ez7 : q8 = q8 := rfl
  have hx8 := zxt_tr hx7 hs8
  replace hye := zxt_tr hye hs8
  replace hO := zOk_x hs8 hO
  replace tn5 := zxt_ty hs8 tn5 (by decide)
  replace tq2 := zxt_ty hs8 tq2 (by decide)
  replace tq3 := zxt_ty hs8 tq3 (by decide)
  replace tq4 := zxt_ty hs8 tq4 (by decide)
  replace tq5 := zxt_ty hs8 tq5 (by decide)
  replace tq6 := zxt_ty hs8 tq6 (by decide)
  replace tq7 := zxt_ty hs8 tq7 (by decide)
  refine v_putr (pc := 63) (k := 7) C hin dX5_init_63 fl_X5_37 rfl (by decide) (by decide) ?_
  replace hO := zOk_s (k := 7) hO (by decide) (by decide) tq8
  refine v_aload_n (pc := 66) C dX5_init_66 rfl ?_
  refine v_iconst (pc := 67) C dX5_init_67 ?_
  refine v_newi0 (pc := 68) C hx8 hB8 43 dX5_init_68 ac_int a_43 rfl (by decide) (by decide) ⟨Nat.le_of_ble_eq_true rfl, Nat.le_of_ble_eq_true rfl⟩ (fun Γ9 q9 fq9 hs9 hB9 tq9 => ?_)
  have fz8 := zxt_0 hx8 fq9
  have ez8 : q9 = q9 := rfl
  have hx9 := zxt_tr hx8 hs9
  replace hye := zxt_tr hye hs9
  replace hO := zOk_x hs9 hO
  replace tn5 := zxt_ty hs9 tn5 (by decide)
  replace tq2 := zxt_ty hs9 tq2 (by decide)
  replace tq3 := zxt_ty hs9 tq3 (by decide)
  replace tq4 := zxt_ty hs9 tq4 (by decide)
  replace tq5 := zxt_ty hs9 tq5 (by decide)
  replace tq6 := zxt_ty hs9 tq6 (by decide)
  replace tq7 := zxt_ty hs9 tq7 (by decide)
  replace tq8 := zxt_ty hs9 tq8 (by decide)
  refine v_putr (pc := 70) (k := 8) C hin dX5_init_70 fl_X5_40 rfl (by decide) (by decide) ?_
  replace hO := zOk_s (k := 8) hO (by decide) (by decide) tq9
  refine v_aload_n (pc := 73) C dX5_init_73 rfl ?_
  refine v_bipush (pc := 74) C dX5_init_74 (by decide) ?_
  refine v_puti (pc := 76) (k := 9) C dX5_init_76 fl_X5_43 f_6_9 ?_
  refine v_aload_n (pc := 79) C dX5_init_79 rfl ?_
  refine v_iconst (pc := 80) C dX5_init_80 ?_
  refine v_puti (pc := 81) (k := 10) C dX5_init_81 fl_X5_47 f_6_10 ?_
  refine v_adopt0 (Γ0 := Γ) hB9 (by decide) (by decide) (by decide +kernel) (by decide +kernel) hO (by decide +kernel) (fun Γe Ge hse hBe the eΓ eG => ?_)
  have prE : zpy [2044, 2055, 901, 912, 913, 2037, 2036, 2038, 2039, 2040, 2041, 2042, 2043, 609, 610, 611, 612, 2016, 2017, 2014, 2015, 206, 207, 510, 2026, 2027, 2028, 2029, 2030, 2031, 2032, 2033, 2034, 2035, 2048, 2049, 2050, 2051, 2052, 2053, 2054, 809, 810, 811, 812, 813, 910, 911] Γ G Ge := by rw [eG]; exact zpy_ag pr1 (by decide) fh0
  have hx10 := zxt_tr hx9 hse
  replace hye := zxt_tr hye hse
  replace tn5 := zxt_ty hse tn5 (by decide)
  replace tq2 := zxt_ty hse tq2 (by decide)
  replace tq3 := zxt_ty hse tq3 (by decide)
  replace tq4 := zxt_ty hse tq4 (by decide)
  replace tq5 := zxt_ty hse tq5 (by decide)
  replace tq6 := zxt_ty hse tq6 (by decide)
  replace tq7 := zxt_ty hse tq7 (by decide)
  replace tq8 := zxt_ty hse tq8 (by decide)
  replace tq9 := zxt_ty hse tq9 (by decide)
  have th0 := the
  refine v_widen (k := 15) (n := 289) (Nat.le_of_ble_eq_true rfl) (Nat.le_of_ble_eq_true rfl) ?_
  have e0 : Γe.2.1 h0 0 = n5 := by rw [eΓ, zad_2, if_pos rfl]; rfl
  have e1 : Γe.2.1 h0 1 = q2 := by rw [eΓ, zad_2, if_pos rfl]; rfl
  have e2 : Γe.2.1 h0 2 = q3 := by rw [eΓ, zad_2, if_pos rfl]; rfl
  have e3 : Γe.2.1 h0 3 = q4 := by rw [eΓ, zad_2, if_pos rfl]; rfl
  have e4 : Γe.2.1 h0 4 = q5 := by rw [eΓ, zad_2, if_pos rfl]; rfl
  have e5 : Γe.2.1 h0 5 = q6 := by rw [eΓ, zad_2, if_pos rfl]; rfl
  have e6 : Γe.2.1 h0 6 = q7 := by rw [eΓ, zad_2, if_pos rfl]; rfl
  have e7 : Γe.2.1 h0 7 = q8 := by rw [eΓ, zad_2, if_pos rfl]; rfl
  have e8 : Γe.2.1 h0 8 = q9 := by rw [eΓ, zad_2, if_pos rfl]; rfl
  have el : Γe.2.1 n5 = Γ1.2.1 n5 := zxt_fr hye (by rw [tk1]; decide)
  have hpost : zpy [2044, 2055, 901, 912, 913, 2037, 2036, 2038, 2039, 2040, 2041, 2042, 2043, 609, 610, 611, 612, 2016, 2017, 2014, 2015, 206, 207, 510, 2026, 2027, 2028, 2029, 2030, 2031, 2032, 2033, 2034, 2035, 2048, 2049, 2050, 2051, 2052, 2053, 2054, 809, 810, 811, 812, 813, 910, 911] Γ G Ge ∧ (∀ f : Nat, 4 ≤ f → f < 22 → Γ.1 (cad Γe 0 h0 f) = 0) ∧ TZ Γe h0 Ge := by
    refine ⟨prE, fun f h4 hf => ?_, TZ_mk (fun j => ?_) (fun j => ?_) (fun j => ⟨?_, ?_⟩) ?_ ?_ ?_ ?_ ?_ ?_⟩
    · rcases (show f = 4 ∨ f = 5 ∨ f = 6 ∨ f = 7 ∨ f = 8 ∨ f = 9 ∨ f = 10 ∨ f = 11 ∨ f = 12 ∨ f = 13 ∨ f = 14 ∨ f = 15 ∨ f = 16 ∨ f = 17 ∨ f = 18 ∨ f = 19 ∨ f = 20 ∨ f = 21 by omega) with rfl | rfl | rfl | rfl | rfl | rfl | rfl | rfl | rfl | rfl | rfl | rfl | rfl | rfl | rfl | rfl | rfl | rfl
      · show Γ.1 (Γe.2.1 h0 2) = 0; rw [e2]; exact fz2
      · show Γ.1 (Γe.2.1 h0 1) = 0; rw [e1]; exact fz1
      · show Γ.1 (Γe.2.1 h0 3) = 0; rw [e3]; exact fz3
      · show Γ.1 (Γe.2.1 h0 4) = 0; rw [e4]; exact fz4
      · show Γ.1 (Γe.2.1 h0 5) = 0; rw [e5]; exact fz5
      · show Γ.1 (Γe.2.1 h0 6) = 0; rw [e6]; exact fz6
      · show Γ.1 (Γe.2.1 h0 7) = 0; rw [e7]; exact fz7
      · show Γ.1 (Γe.2.1 h0 8) = 0; rw [e8]; exact fz8
      · exact fh0
      · exact fh0
      · exact fh0
      · exact fh0
      · show Γ.1 (Γe.2.1 (Γe.2.1 h0 0) 2) = 0; rw [e0, el]; exact hp1.2.1.2.2.1
      · show Γ.1 (Γe.2.1 (Γe.2.1 h0 0) 3) = 0; rw [e0, el]; exact hp1.2.1.2.2.2
      · show Γ.1 (Γe.2.1 (Γe.2.1 h0 0) 0) = 0; rw [e0, el]; exact hp1.2.1.1
      · show Γ.1 (Γe.2.1 (Γe.2.1 h0 0) 1) = 0; rw [e0, el]; exact hp1.2.1.2.1
      · show Γ.1 (Γe.2.1 h0 0) = 0; rw [e0]; exact fl0
      · show Γ.1 (Γe.2.1 h0 0) = 0; rw [e0]; exact fl0
    · rw [e2, eG, zag_r (Or.inr (by decide))]; exact (hB2.2.2 _ fq3).1 2037 j
    · rw [e5, eG, zag_r (Or.inr (by decide))]; exact (hB5.2.2 _ fq6).1 2040 j
    · rw [e0, el, eG, zag_r (Or.inr (by decide))]; exact (hp1.2.2.1 j).1
    · rw [e0, el, eG, zag_r (Or.inr (by decide))]; exact (hp1.2.2.1 j).2
    · rw [e0, eG, zag_r (Or.inl (by decide))]; exact hp1.2.2.2.1
    · rw [e0, eG, zag_r (Or.inl (by decide))]; exact hp1.2.2.2.2
    · rw [eG]; exact zag_at (t := 6) (k := 9) (by decide)
    · rw [eG]; exact zag_at (t := 6) (k := 10) (by decide)
    · rw [eG]; exact zag_at (t := 6) (k := 11) (by decide)
    · rw [eG]; exact zag_at (t := 6) (k := 12) (by decide)
  exact v_ret (Γ0 := Γ) (zCv_x C hx10) hr hlk dX5_init_84 hx10 hBe th0 hpost

set_option maxHeartbeats 4000000 in
set_option maxRecDepth 100000 in
theorem c_X2_initW {l : Launch} {b : Nat} {Γ : zΓ} {G : zH} {X : va_W} {h0 a0 : Nat} (hX : zXs Γ) : zMi l yX2_init cX2_init 2 1 5 39 b Γ G X 3 h0 [zr 8 a0] (fun _ => True) (fun Γ' G' => zpy [2044, 2055, 901, 912, 913, 2037, 2036, 2038, 2039, 2040, 2041, 2042, 2043, 609, 610, 611, 612, 2016, 2017, 2014, 2015, 206, 207, 510, 2026, 2027, 2028, 2029, 2030, 2031, 2032, 2033, 2034, 2035, 2048, 2049, 2050, 2051, 2052, 2053, 2054, 809, 810, 811, 812, 813, 910, 911] Γ G G' ∧ Γ'.2.1 h0 0 = a0) := by
  refine zMi_of RX2 hX (by decide) rfl rfl (Nat.le_of_ble_eq_true rfl) ?_
  intro p e s m args below meth c C hr hlk hin hB hav hT
  show V p l e (zrC 1 5 39) s m args below meth c b Γ.2.2.2.1 2 0 0 (MQ below (zQi b Γ X 3 h0 (fun Γ' G' => zpy [2044, 2055, 901, 912, 913, 2037, 2036, 2038, 2039, 2040, 2041, 2042, 2043, 609, 610, 611, 612, 2016, 2017, 2014, 2015, 206, 207, 510, 2026, 2027, 2028, 2029, 2030, 2031, 2032, 2033, 2034, 2035, 2048, 2049, 2050, 2051, 2052, 2053, 2054, 809, 810, 811, 812, 813, 910, 911] Γ G G' ∧ Γ'.2.1 h0 0 = a0)) args s 5 39 (zAb b)) 0 [some (zr 3 h0), some (zr 8 a0)] [] ((h0, zOb 3 (fun _ => false) (fun _ => 0) (fun _ => 0)) :: (X ++ zWd Γ G))
  refine v_fresh hB (fun fh0 => ?_)
  have hx0 : zxt Γ Γ := zxt_rf
  have hO : zOk Γ 3 (fun _ => false) (fun _ => 0) := zOk_0
  have ta0 : Γ.1 a0 = 8 := (zk_ty (hav _ List.mem_cons_self) (by decide)).1
  refine v_aload_n (pc := 0) C dX2_init_0 rfl ?_
  refine v_obj (pc := 1) C dX2_init_1 ol_X2 oi_ oc_ ⟨Nat.le_of_ble_eq_true rfl, Nat.le_of_ble_eq_true rfl⟩ (Nat.le_of_ble_eq_true rfl) ?_
  refine v_aload_n (pc := 4) C dX2_init_4 rfl ?_
  refine v_iconst (pc := 5) C dX2_init_5 ?_
  refine v_newi0 (pc := 6) C hx0 hB 20 dX2_init_6 ac_int a_20 rfl (by decide) (by decide) ⟨Nat.le_of_ble_eq_true rfl, Nat.le_of_ble_eq_true rfl⟩ (fun Γ1 q1 fq1 hs1 hB1 tq1 => ?_)
  have hx1 := zxt_tr hx0 hs1
  replace hO := zOk_x hs1 hO
  replace ta0 := zxt_ty hs1 ta0 (by decide)
  refine v_putr (pc := 8) (k := 1) C hin dX2_init_8 fl_X2_9 rfl (by decide) (by decide) ?_
  replace hO := zOk_s (k := 1) hO (by decide) (by decide) tq1
  refine v_aload_n (pc := 11) C dX2_init_11 rfl ?_
  refine v_iconst (pc := 12) C dX2_init_12 ?_
  refine v_newi0 (pc := 13) C hx1 hB1 21 dX2_init_13 ac_int a_21 rfl (by decide) (by decide) ⟨Nat.le_of_ble_eq_true rfl, Nat.le_of_ble_eq_true rfl⟩ (fun Γ2 q2 fq2 hs2 hB2 tq2 => ?_)
  have hx2 := zxt_tr hx1 hs2
  replace hO := zOk_x hs2 hO
  replace ta0 := zxt_ty hs2 ta0 (by decide)
  replace tq1 := zxt_ty hs2 tq1 (by decide)
  refine v_putr (pc := 15) (k := 2) C hin dX2_init_15 fl_X2_15 rfl (by decide) (by decide) ?_
  replace hO := zOk_s (k := 2) hO (by decide) (by decide) tq2
  refine v_aload_n (pc := 18) C dX2_init_18 rfl ?_
  refine v_iconst (pc := 19) C dX2_init_19 ?_
  refine v_newi0 (pc := 20) C hx2 hB2 22 dX2_init_20 ac_int a_22 rfl (by decide) (by decide) ⟨Nat.le_of_ble_eq_true rfl, Nat.le_of_ble_eq_true rfl⟩ (fun Γ3 q3 fq3 hs3 hB3 tq3 => ?_)
  have hx3 := zxt_tr hx2 hs3
  replace hO := zOk_x hs3 hO
  replace ta0 := zxt_ty hs3 ta0 (by decide)
  replace tq1 := zxt_ty hs3 tq1 (by decide)
  replace tq2 := zxt_ty hs3 tq2 (by decide)
  refine v_putr (pc := 22) (k := 3) C hin dX2_init_22 fl_X2_18 rfl (by decide) (by decide) ?_
  replace hO := zOk_s (k := 3) hO (by decide) (by decide) tq3
  refine v_aload_n (pc := 25) C dX2_init_25 rfl ?_
  refine v_bipush (pc := 26) C dX2_init_26 (by decide) ?_
  refine v_newi0 (pc := 28) C hx3 hB3 23 dX2_init_28 ac_int a_23 rfl (by decide) (by decide) ⟨Nat.le_of_ble_eq_true rfl, Nat.le_of_ble_eq_true rfl⟩ (fun Γ4 q4 fq4 hs4 hB4 tq4 => ?_)
  have hx4 := zxt_tr hx3 hs4
  replace hO := zOk_x hs4 hO
  replace ta0 := zxt_ty hs4 ta0 (by decide)
  replace tq1 := zxt_ty hs4 tq1 (by decide)
  replace tq2 := zxt_ty hs4 tq2 (by decide)
  replace tq3 := zxt_ty hs4 tq3 (by decide)
  refine v_putr (pc := 30) (k := 4) C hin dX2_init_30 fl_X2_21 rfl (by decide) (by decide) ?_
  replace hO := zOk_s (k := 4) hO (by decide) (by decide) tq4
  refine v_aload_n (pc := 33) C dX2_init_33 rfl ?_
  refine v_iconst (pc := 34) C dX2_init_34 ?_
  refine v_newi0 (pc := 35) C hx4 hB4 24 dX2_init_35 ac_int a_24 rfl (by decide) (by decide) ⟨Nat.le_of_ble_eq_true rfl, Nat.le_of_ble_eq_true rfl⟩ (fun Γ5 q5 fq5 hs5 hB5 tq5 => ?_)
  have hx5 := zxt_tr hx4 hs5
  replace hO := zOk_x hs5 hO
  replace ta0 := zxt_ty hs5 ta0 (by decide)
  replace tq1 := zxt_ty hs5 tq1 (by decide)
  replace tq2 := zxt_ty hs5 tq2 (by decide)
  replace tq3 := zxt_ty hs5 tq3 (by decide)
  replace tq4 := zxt_ty hs5 tq4 (by decide)
  refine v_putr (pc := 37) (k := 5) C hin dX2_init_37 fl_X2_24 rfl (by decide) (by decide) ?_
  replace hO := zOk_s (k := 5) hO (by decide) (by decide) tq5
  refine v_aload_n (pc := 40) C dX2_init_40 rfl ?_
  refine v_aload_n (pc := 41) C dX2_init_41 rfl ?_
  refine v_putr (pc := 42) (k := 0) C hin dX2_init_42 fl_X2_27 rfl (by decide) (by decide) ?_
  replace hO := zOk_s (k := 0) hO (by decide) (by decide) ta0
  refine v_adopt0 (Γ0 := Γ) hB5 (by decide) (by decide) (by decide +kernel) (by decide +kernel) hO (by decide +kernel) (fun Γe Ge hse hBe the eΓ eG => ?_)
  have prE : zpy [2044, 2055, 901, 912, 913, 2037, 2036, 2038, 2039, 2040, 2041, 2042, 2043, 609, 610, 611, 612, 2016, 2017, 2014, 2015, 206, 207, 510, 2026, 2027, 2028, 2029, 2030, 2031, 2032, 2033, 2034, 2035, 2048, 2049, 2050, 2051, 2052, 2053, 2054, 809, 810, 811, 812, 813, 910, 911] Γ G Ge := by rw [eG]; exact zpy_ag zpy_rf (by decide) fh0
  have hx6 := zxt_tr hx5 hse
  replace ta0 := zxt_ty hse ta0 (by decide)
  replace tq1 := zxt_ty hse tq1 (by decide)
  replace tq2 := zxt_ty hse tq2 (by decide)
  replace tq3 := zxt_ty hse tq3 (by decide)
  replace tq4 := zxt_ty hse tq4 (by decide)
  replace tq5 := zxt_ty hse tq5 (by decide)
  have th0 := the
  refine v_widen (k := 5) (n := 39) (Nat.le_of_ble_eq_true rfl) (Nat.le_of_ble_eq_true rfl) ?_
  have hpost := (⟨prE, by rw [eΓ, zad_2, if_pos rfl]; rfl⟩ : zpy [2044, 2055, 901, 912, 913, 2037, 2036, 2038, 2039, 2040, 2041, 2042, 2043, 609, 610, 611, 612, 2016, 2017, 2014, 2015, 206, 207, 510, 2026, 2027, 2028, 2029, 2030, 2031, 2032, 2033, 2034, 2035, 2048, 2049, 2050, 2051, 2052, 2053, 2054, 809, 810, 811, 812, 813, 910, 911] Γ G _ ∧ Γe.2.1 h0 0 = a0)
  exact v_ret (Γ0 := Γ) (zCv_x C hx6) hr hlk dX2_init_45 hx6 hBe th0 hpost

set_option maxHeartbeats 4000000 in
set_option maxRecDepth 100000 in
theorem c_X6_initW {l : Launch} {b : Nat} {Γ : zΓ} {G : zH} {X : va_W} {h0 : Nat} (hX : zXs Γ) : zMi l yX6_init cX6_init 1 5 4 2127 b Γ G X 7 h0 [] (zTxF b Γ.2.2.2.2.2) (fun Γ' G' => zpy [2055, 901, 912, 913, 2037, 2036, 2038, 2039, 2040, 2041, 2042, 2043, 609, 610, 611, 612, 2016, 2017, 2014, 2015, 206, 207, 510, 2026, 2027, 2028, 2029, 2030, 2031, 2032, 2033, 2034, 2035, 2048, 2049, 2050, 2051, 2052, 2053, 2054, 809, 810, 811, 812, 813, 910, 911] Γ G G' ∧ ∀ q : Nat, q < 24 → G'.1 2044 (Γ'.2.1 h0 0) q = wl.getD q 0) := by
  refine zMi_of RX6 hX (by decide) rfl rfl (Nat.le_of_ble_eq_true rfl) ?_
  intro p e s m args below meth c C hr hlk hin hB hav hT
  show V p l e (zrC 5 4 2127) s m args below meth c b Γ.2.2.2.1 1 0 0 (MQ below (zQi b Γ X 7 h0 (fun Γ' G' => zpy [2055, 901, 912, 913, 2037, 2036, 2038, 2039, 2040, 2041, 2042, 2043, 609, 610, 611, 612, 2016, 2017, 2014, 2015, 206, 207, 510, 2026, 2027, 2028, 2029, 2030, 2031, 2032, 2033, 2034, 2035, 2048, 2049, 2050, 2051, 2052, 2053, 2054, 809, 810, 811, 812, 813, 910, 911] Γ G G' ∧ ∀ q : Nat, q < 24 → G'.1 2044 (Γ'.2.1 h0 0) q = wl.getD q 0)) args s 4 2127 (zAb b)) 0 [some (zr 7 h0)] [] ((h0, zOb 7 (fun _ => false) (fun _ => 0) (fun _ => 0)) :: (X ++ zWd Γ G))
  refine v_fresh hB (fun fh0 => ?_)
  have hx0 : zxt Γ Γ := zxt_rf
  have hO : zOk Γ 7 (fun _ => false) (fun _ => 0) := zOk_0
  refine v_aload_n (pc := 0) C dX6_init_0 rfl ?_
  refine v_obj (pc := 1) C dX6_init_1 ol_X6 oi_ oc_ ⟨Nat.le_of_ble_eq_true rfl, Nat.le_of_ble_eq_true rfl⟩ (Nat.le_of_ble_eq_true rfl) ?_
  refine v_aload_n (pc := 4) C dX6_init_4 rfl ?_
  refine v_bipush (pc := 5) C dX6_init_5 (by decide) ?_
  refine v_newi0 (pc := 7) C hx0 hB 44 dX6_init_7 ac_int a_44 rfl (by decide) (by decide) ⟨Nat.le_of_ble_eq_true rfl, Nat.le_of_ble_eq_true rfl⟩ (fun Γ1 q1 fq1 hs1 hB1 tq1 => ?_)
  have fz0 := zxt_0 hx0 fq1
  have ez0 : q1 = q1 := rfl
  have hx1 := zxt_tr hx0 hs1
  replace hO := zOk_x hs1 hO
  refine v_putr (pc := 9) (k := 0) C hin dX6_init_9 fl_X6_11 rfl (by decide) (by decide) ?_
  replace hO := zOk_s (k := 0) hO (by decide) (by decide) tq1
  refine v_aload_n (pc := 12) C dX6_init_12 rfl ?_
  refine v_sipush (pc := 13) C dX6_init_13 (by decide) ?_
  refine v_newi0 (pc := 16) C hx1 hB1 45 dX6_init_16 ac_int a_45 rfl (by decide) (by decide) ⟨Nat.le_of_ble_eq_true rfl, Nat.le_of_ble_eq_true rfl⟩ (fun Γ2 q2 fq2 hs2 hB2 tq2 => ?_)
  have hx2 := zxt_tr hx1 hs2
  replace hO := zOk_x hs2 hO
  replace tq1 := zxt_ty hs2 tq1 (by decide)
  refine v_putr (pc := 18) (k := 1) C hin dX6_init_18 fl_X6_15 rfl (by decide) (by decide) ?_
  replace hO := zOk_s (k := 1) hO (by decide) (by decide) tq2
  refine v_aload_n (pc := 21) C dX6_init_21 rfl ?_
  refine v_sipush (pc := 22) C dX6_init_22 (by decide) ?_
  refine v_newi0 (pc := 25) C hx2 hB2 46 dX6_init_25 ac_int a_46 rfl (by decide) (by decide) ⟨Nat.le_of_ble_eq_true rfl, Nat.le_of_ble_eq_true rfl⟩ (fun Γ3 q3 fq3 hs3 hB3 tq3 => ?_)
  have hx3 := zxt_tr hx2 hs3
  replace hO := zOk_x hs3 hO
  replace tq1 := zxt_ty hs3 tq1 (by decide)
  replace tq2 := zxt_ty hs3 tq2 (by decide)
  refine v_putr (pc := 27) (k := 2) C hin dX6_init_27 fl_X6_18 rfl (by decide) (by decide) ?_
  replace hO := zOk_s (k := 2) hO (by decide) (by decide) tq3
  refine v_aload_n (pc := 30) C dX6_init_30 rfl ?_
  refine v_sipush (pc := 31) C dX6_init_31 (by decide) ?_
  refine v_newi0 (pc := 34) C hx3 hB3 47 dX6_init_34 ac_int a_47 rfl (by decide) (by decide) ⟨Nat.le_of_ble_eq_true rfl, Nat.le_of_ble_eq_true rfl⟩ (fun Γ4 q4 fq4 hs4 hB4 tq4 => ?_)
  have hx4 := zxt_tr hx3 hs4
  replace hO := zOk_x hs4 hO
  replace tq1 := zxt_ty hs4 tq1 (by decide)
  replace tq2 := zxt_ty hs4 tq2 (by decide)
  replace tq3 := zxt_ty hs4 tq3 (by decide)
  refine v_putr (pc := 36) (k := 3) C hin dX6_init_36 fl_X6_21 rfl (by decide) (by decide) ?_
  replace hO := zOk_s (k := 3) hO (by decide) (by decide) tq4
  refine v_adopt0 (Γ0 := Γ) hB4 (by decide) (by decide) (by decide +kernel) (by decide +kernel) hO (by decide +kernel) (fun Γe Ge hse hBe the eΓ eG => ?_)
  have prE : zpy [2055, 901, 912, 913, 2037, 2036, 2038, 2039, 2040, 2041, 2042, 2043, 609, 610, 611, 612, 2016, 2017, 2014, 2015, 206, 207, 510, 2026, 2027, 2028, 2029, 2030, 2031, 2032, 2033, 2034, 2035, 2048, 2049, 2050, 2051, 2052, 2053, 2054, 809, 810, 811, 812, 813, 910, 911] Γ G Ge := by rw [eG]; exact zpy_ag zpy_rf (by decide) fh0
  have hx5 := zxt_tr hx4 hse
  replace tq1 := zxt_ty hse tq1 (by decide)
  replace tq2 := zxt_ty hse tq2 (by decide)
  replace tq3 := zxt_ty hse tq3 (by decide)
  replace tq4 := zxt_ty hse tq4 (by decide)
  have th0 := the
  refine v_aload_n (pc := 39) C dX6_init_39 rfl ?_
  refine v_ldcS (pc := 40) (t := 203) C hT.1.1 dX6_init_40 ?_
  refine v_aload_n (pc := 42) C dX6_init_42 rfl ?_
  refine v_ldcS (pc := 43) (t := 204) C hT.1.2 dX6_init_43 ?_
  refine v_iconst (pc := 45) C dX6_init_45 ?_
  obtain ⟨v1, v2, hJ3, hJ4⟩ := hT.2
  have w0 : Ge.1 2044 (Γe.2.1 h0 0) = fun _ => 0 := by
    funext i
    rw [eG, zag_r (Or.inr (by decide)), eΓ, zad_2, if_pos rfl]
    exact (hB.2.2 q1 fz0).1 2044 i
  have tw : Γe.1 (Γe.2.1 h0 0) ≠ 0 := by
    rw [show Γe.2.1 h0 0 = q1 from (by rw [eΓ, zad_2, if_pos rfl]; rfl), tq1]
    decide
  refine v_learnF (pc := 46) C hx5 dX6_init_46 v_X6_28 (c_X6_learnF (zxt_Xs hx5 hX) (by decide) (by decide) sB2_f) hBe th0 (by first | (rw [hx5.2.2.1]; done) | (rw [hx5.2.2.1]; rfl)) hJ4 (by decide) ⟨Nat.le_of_ble_eq_true rfl, Nat.le_of_ble_eq_true rfl⟩ ⟨Nat.le_of_ble_eq_true rfl, Nat.le_of_ble_eq_true rfl⟩ (Nat.le_of_ble_eq_true rfl) (by decide) (fun x46 Gl46 hl46 bx46 hBl46 => ?_)
  obtain ⟨hz46, lx46, el46⟩ := hl46
  rw [w0] at el46
  have e46 : x46 = 14 := (congrArg Prod.snd el46).trans lrn_2
  have f46 : (zno Γe Gl46).1 2044 (Γe.2.1 h0 0) = (lrn gB2 72 72 0 0 0 (fun _ => 0)).1 := by
    funext i
    rw [zno_1 tw]
    exact congrFun (congrArg Prod.fst el46) i
  have prL := zpy_no (rs := [2055, 901, 912, 913, 2037, 2036, 2038, 2039, 2040, 2041, 2042, 2043, 609, 610, 611, 612, 2016, 2017, 2014, 2015, 206, 207, 510, 2026, 2027, 2028, 2029, 2030, 2031, 2032, 2033, 2034, 2035, 2048, 2049, 2050, 2051, 2052, 2053, 2054, 809, 810, 811, 812, 813, 910, 911]) prE hx5 hz46 (by decide)
  refine v_learnF (pc := 49) C hx5 dX6_init_49 v_X6_28 (c_X6_learnF (zxt_Xs hx5 hX) lx46 (by decide) sB1_f) hBl46 th0 (by first | (rw [hx5.2.2.1]; done) | (rw [hx5.2.2.1]; rfl)) hJ3 (by decide) ⟨Nat.le_of_ble_eq_true rfl, Nat.le_of_ble_eq_true rfl⟩ ⟨Nat.le_of_ble_eq_true rfl, Nat.le_of_ble_eq_true rfl⟩ (Nat.le_of_ble_eq_true rfl) bx46 (fun x49 Gl49 hl49 bx49 hBl49 => ?_)
  obtain ⟨hz49, lx49, el49⟩ := hl49
  rw [f46, e46] at el49
  have prM := zpy_no (rs := [2055, 901, 912, 913, 2037, 2036, 2038, 2039, 2040, 2041, 2042, 2043, 609, 610, 611, 612, 2016, 2017, 2014, 2015, 206, 207, 510, 2026, 2027, 2028, 2029, 2030, 2031, 2032, 2033, 2034, 2035, 2048, 2049, 2050, 2051, 2052, 2053, 2054, 809, 810, 811, 812, 813, 910, 911]) prL hx5 hz49 (by decide)
  have f49 : ∀ q : Nat, q < 24 → (zno Γe Gl49).1 2044 (Γe.2.1 h0 0) q = wl.getD q 0 := fun q hq => by
    rw [zno_1 tw]
    exact (congrFun (congrArg Prod.fst el49) q).trans (lrn_1 q hq)
  refine v_popi (pc := 52) C dX6_init_52 ?_
  refine v_widen (k := 4) (n := 2127) (Nat.le_of_ble_eq_true rfl) (Nat.le_of_ble_eq_true rfl) ?_
  have hpost := (⟨prM, f49⟩ : zpy [2055, 901, 912, 913, 2037, 2036, 2038, 2039, 2040, 2041, 2042, 2043, 609, 610, 611, 612, 2016, 2017, 2014, 2015, 206, 207, 510, 2026, 2027, 2028, 2029, 2030, 2031, 2032, 2033, 2034, 2035, 2048, 2049, 2050, 2051, 2052, 2053, 2054, 809, 810, 811, 812, 813, 910, 911] Γ G _ ∧ ∀ q : Nat, q < 24 → (zno Γe Gl49).1 2044 (Γe.2.1 h0 0) q = wl.getD q 0)
  exact v_ret (Γ0 := Γ) (zCv_x C hx5) hr hlk dX6_init_53 hx5 hBl49 th0 hpost


set_option maxHeartbeats 4000000 in
set_option maxRecDepth 100000 in
theorem c_X3_initW {l : Launch} {b : Nat} {Γ : zΓ} {G : zH} {X : va_W} {h0 : Nat} (hX : zXs Γ) : zMi l yX3_init cX3_init 1 6 22 2508 b Γ G X 4 h0 [] (zTxF b Γ.2.2.2.2.2) (fun Γ' G' => zpy [2055, 901, 912, 913, 2037, 2036, 2038, 2039, 2040, 2041, 2042, 2043, 609, 610, 611, 612, 2016, 2017, 2014, 2015, 206, 207, 510, 2026, 2027, 2028, 2029, 2030, 2031, 2032, 2033, 2034, 2035, 2048, 2049, 2050, 2051, 2052, 2053, 2054, 809, 810, 811, 812, 813, 910, 911] Γ G G' ∧ ∀ q : Nat, q < 24 → G'.1 2044 (Γ'.2.1 (Γ'.2.1 h0 0) 0) q = wl.getD q 0) := by
  refine zMi_of RX3 hX (by decide) rfl rfl (Nat.le_of_ble_eq_true rfl) ?_
  intro p e s m args below meth c C hr hlk hin hB hav hT
  show V p l e (zrC 6 22 2508) s m args below meth c b Γ.2.2.2.1 1 0 0 (MQ below (zQi b Γ X 4 h0 (fun Γ' G' => zpy [2055, 901, 912, 913, 2037, 2036, 2038, 2039, 2040, 2041, 2042, 2043, 609, 610, 611, 612, 2016, 2017, 2014, 2015, 206, 207, 510, 2026, 2027, 2028, 2029, 2030, 2031, 2032, 2033, 2034, 2035, 2048, 2049, 2050, 2051, 2052, 2053, 2054, 809, 810, 811, 812, 813, 910, 911] Γ G G' ∧ ∀ q : Nat, q < 24 → G'.1 2044 (Γ'.2.1 (Γ'.2.1 h0 0) 0) q = wl.getD q 0)) args s 22 2508 (zAb b)) 0 [some (zr 4 h0)] [] ((h0, zOb 4 (fun _ => false) (fun _ => 0) (fun _ => 0)) :: (X ++ zWd Γ G))
  refine v_fresh hB (fun fh0 => ?_)
  have hx0 : zxt Γ Γ := zxt_rf
  have hO : zOk Γ 4 (fun _ => false) (fun _ => 0) := zOk_0
  refine v_aload_n (pc := 0) C dX3_init_0 rfl ?_
  refine v_obj (pc := 1) C dX3_init_1 ol_X3 oi_ oc_ ⟨Nat.le_of_ble_eq_true rfl, Nat.le_of_ble_eq_true rfl⟩ (Nat.le_of_ble_eq_true rfl) ?_
  refine v_aload_n (pc := 4) C dX3_init_4 rfl ?_
  refine v_new (pc := 5) C dX3_init_5 (by decide) cl_X3_9 in_7 iz_7 ⟨Nat.le_of_ble_eq_true rfl, Nat.le_of_ble_eq_true rfl⟩ (fun n5 => ?_)
  refine v_dup (pc := 8) C dX3_init_8 ?_
  refine v_init00 (pc := 9)  C hx0 dX3_init_9 (wi_X6 11) li_X3_11 rfl (c_X6_initW (zxt_Xs hx0 hX)) hB (fun x hx => by cases hx) (zTxF_sty) (by rw [hx0.2.2.1]; exact hT) ⟨Nat.le_of_ble_eq_true rfl, Nat.le_of_ble_eq_true rfl⟩ ⟨Nat.le_of_ble_eq_true rfl, Nat.le_of_ble_eq_true rfl⟩ (Nat.le_of_ble_eq_true rfl) (fun Γ1 G1 hs1 hB1 tn5 hp1 => ?_)
  have pr1 : zpy [2055, 901, 912, 913, 2037, 2036, 2038, 2039, 2040, 2041, 2042, 2043, 609, 610, 611, 612, 2016, 2017, 2014, 2015, 206, 207, 510, 2026, 2027, 2028, 2029, 2030, 2031, 2032, 2033, 2034, 2035, 2048, 2049, 2050, 2051, 2052, 2053, 2054, 809, 810, 811, 812, 813, 910, 911] Γ G G1 := zpy_tr zpy_rf hx0 hp1.1 (by decide)
  have tk6 := tn5
  have hBk6 := hB1
  have hx1 := zxt_tr hx0 hs1
  replace hO := zOk_x hs1 hO
  refine v_putr (pc := 12) (k := 0) C hin dX3_init_12 fl_X3_12 rfl (by decide) (by decide) ?_
  replace hO := zOk_s (k := 0) hO (by decide) (by decide) tn5
  refine v_aload_n (pc := 15) C dX3_init_15 rfl ?_
  refine v_new (pc := 16) C dX3_init_16 (by decide) cl_X3_18 in_6 iz_6 ⟨Nat.le_of_ble_eq_true rfl, Nat.le_of_ble_eq_true rfl⟩ (fun n16 => ?_)
  refine v_dup (pc := 19) C dX3_init_19 ?_
  refine v_init00 (pc := 20)  C hx1 dX3_init_20 (wi_X5 20) li_X3_20 rfl (c_X5_initW (zxt_Xs hx1 hX)) hB1 (fun x hx => by cases hx) zSty_t trivial ⟨Nat.le_of_ble_eq_true rfl, Nat.le_of_ble_eq_true rfl⟩ ⟨Nat.le_of_ble_eq_true rfl, Nat.le_of_ble_eq_true rfl⟩ (Nat.le_of_ble_eq_true rfl) (fun Γ2 G2 hs2 hB2 tn16 hp2 => ?_)
  have pr2 : zpy [2055, 901, 912, 913, 2037, 2036, 2038, 2039, 2040, 2041, 2042, 2043, 609, 610, 611, 612, 2016, 2017, 2014, 2015, 206, 207, 510, 2026, 2027, 2028, 2029, 2030, 2031, 2032, 2033, 2034, 2035, 2048, 2049, 2050, 2051, 2052, 2053, 2054, 809, 810, 811, 812, 813, 910, 911] Γ G G2 := zpy_tr pr1 hx1 hp2.1 (by decide)
  have pc6_2 : zpy [2044] Γ1 G1 G2 := zpy_tr zpy_rf zxt_rf hp2.1 (by decide)
  have hx2 := zxt_tr hx1 hs2
  have hypc6_hx2 := zxt_tr zxt_rf hs2
  replace hO := zOk_x hs2 hO
  replace tn5 := zxt_ty hs2 tn5 (by decide)
  refine v_putr (pc := 23) (k := 1) C hin dX3_init_23 fl_X3_21 rfl (by decide) (by decide) ?_
  replace hO := zOk_s (k := 1) hO (by decide) (by decide) tn16
  refine v_aload_n (pc := 26) C dX3_init_26 rfl ?_
  refine v_bipush (pc := 27) C dX3_init_27 (by decide) ?_
  refine v_newi0 (pc := 29) C hx2 hB2 25 dX3_init_29 ac_int a_25 rfl (by decide) (by decide) ⟨Nat.le_of_ble_eq_true rfl, Nat.le_of_ble_eq_true rfl⟩ (fun Γ3 q3 fq3 hs3 hB3 tq3 => ?_)
  have hx3 := zxt_tr hx2 hs3
  have hypc6_hx3 := zxt_tr hypc6_hx2 hs3
  replace hO := zOk_x hs3 hO
  replace tn5 := zxt_ty hs3 tn5 (by decide)
  replace tn16 := zxt_ty hs3 tn16 (by decide)
  refine v_putr (pc := 31) (k := 9) C hin dX3_init_31 fl_X3_27 rfl (by decide) (by decide) ?_
  replace hO := zOk_s (k := 9) hO (by decide) (by decide) tq3
  refine v_fresh hB3 (fun fh8 => ?_)
  refine v_adopt0 (Γ0 := Γ) hB3 (by decide) (by decide) (by decide +kernel) (by decide +kernel) hO (by decide +kernel) (fun Γe Ge hse hBe the eΓ eG => ?_)
  have prE : zpy [2055, 901, 912, 913, 2037, 2036, 2038, 2039, 2040, 2041, 2042, 2043, 609, 610, 611, 612, 2016, 2017, 2014, 2015, 206, 207, 510, 2026, 2027, 2028, 2029, 2030, 2031, 2032, 2033, 2034, 2035, 2048, 2049, 2050, 2051, 2052, 2053, 2054, 809, 810, 811, 812, 813, 910, 911] Γ G Ge := by rw [eG]; exact zpy_ag pr2 (by decide) fh0
  have pc6_E : zpy [2044] Γ1 G1 Ge := by rw [eG]; exact zpy_ag pc6_2 (by decide) (zxt_0 hypc6_hx3 fh8)
  have hx4 := zxt_tr hx3 hse
  have hypc6_hx4 := zxt_tr hypc6_hx3 hse
  replace tn5 := zxt_ty hse tn5 (by decide)
  replace tn16 := zxt_ty hse tn16 (by decide)
  replace tq3 := zxt_ty hse tq3 (by decide)
  have th0 := the
  refine v_widen (k := 22) (n := 2508) (Nat.le_of_ble_eq_true rfl) (Nat.le_of_ble_eq_true rfl) ?_
  have ea : Γe.2.1 h0 0 = n5 := by rw [eΓ, zad_2, if_pos rfl]; rfl
  have eb : Γe.2.1 n5 = Γ1.2.1 n5 := zxt_fr hypc6_hx4 (by rw [tk6]; decide)
  have hpost : zpy [2055, 901, 912, 913, 2037, 2036, 2038, 2039, 2040, 2041, 2042, 2043, 609, 610, 611, 612, 2016, 2017, 2014, 2015, 206, 207, 510, 2026, 2027, 2028, 2029, 2030, 2031, 2032, 2033, 2034, 2035, 2048, 2049, 2050, 2051, 2052, 2053, 2054, 809, 810, 811, 812, 813, 910, 911] Γ G Ge ∧ ∀ q : Nat, q < 24 → Ge.1 2044 (Γe.2.1 (Γe.2.1 h0 0) 0) q = wl.getD q 0 := ⟨prE, fun q hq => by
    rw [ea, eb, pc6_E.1 2044 (by decide) _ (by rw [(hBk6.1.2.2 7 0 n5 tk6 (by decide))]; decide) q]
    exact hp1.2 q hq⟩
  exact v_ret (Γ0 := Γ) (zCv_x C hx4) hr hlk dX3_init_34 hx4 hBe th0 hpost


set_option maxHeartbeats 4000000 in
set_option maxRecDepth 100000 in
theorem c_X7_initW {l : Launch} {b : Nat} {Γ : zΓ} {G : zH} {X : va_W} {h0 a0 : Nat} (hX : zXs Γ) : zMi l yX7_init cX7_init 2 2 18 971 b Γ G X 8 h0 [zr 6 a0] (fun _ => True) (fun Γ' G' => zpy [2044, 2055, 901, 912, 913, 2037, 2036, 2038, 2039, 2040, 2041, 2042, 2043, 609, 610, 611, 612, 2016, 2017, 2014, 2015, 206, 207, 510, 2026, 2027, 2028, 2029, 2030, 2031, 2032, 2033, 2034, 2035, 2048, 2049, 2050, 2051, 2052, 2053, 2054, 809, 810, 811, 812, 813, 910, 911] Γ G G' ∧ (∀ f : Nat, f < 23 → Γ.1 (wad Γ' h0 f) = 0) ∧ WZ Γ' h0 a0 G') := by
  refine zMi_of RX7 hX (by decide) rfl rfl (Nat.le_of_ble_eq_true rfl) ?_
  intro p e s m args below meth c C hr hlk hin hB hav hT
  show V p l e (zrC 2 18 971) s m args below meth c b Γ.2.2.2.1 2 0 0 (MQ below (zQi b Γ X 8 h0 (fun Γ' G' => zpy [2044, 2055, 901, 912, 913, 2037, 2036, 2038, 2039, 2040, 2041, 2042, 2043, 609, 610, 611, 612, 2016, 2017, 2014, 2015, 206, 207, 510, 2026, 2027, 2028, 2029, 2030, 2031, 2032, 2033, 2034, 2035, 2048, 2049, 2050, 2051, 2052, 2053, 2054, 809, 810, 811, 812, 813, 910, 911] Γ G G' ∧ (∀ f : Nat, f < 23 → Γ.1 (wad Γ' h0 f) = 0) ∧ WZ Γ' h0 a0 G')) args s 18 971 (zAb b)) 0 [some (zr 8 h0), some (zr 6 a0)] [] ((h0, zOb 8 (fun _ => false) (fun _ => 0) (fun _ => 0)) :: (X ++ zWd Γ G))
  refine v_fresh hB (fun fh0 => ?_)
  have hx0 : zxt Γ Γ := zxt_rf
  have hO : zOk Γ 8 (fun _ => false) (fun _ => 0) := zOk_0
  have ta0 : Γ.1 a0 = 6 := (zk_ty (hav _ List.mem_cons_self) (by decide)).1
  refine v_aload_n (pc := 0) C dX7_init_0 rfl ?_
  refine v_obj (pc := 1) C dX7_init_1 ol_X7 oi_ oc_ ⟨Nat.le_of_ble_eq_true rfl, Nat.le_of_ble_eq_true rfl⟩ (Nat.le_of_ble_eq_true rfl) ?_
  refine v_aload_n (pc := 4) C dX7_init_4 rfl ?_
  refine v_new (pc := 5) C dX7_init_5 (by decide) cl_X7_9 in_5 iz_5 ⟨Nat.le_of_ble_eq_true rfl, Nat.le_of_ble_eq_true rfl⟩ (fun n5 => ?_)
  refine v_dup (pc := 8) C dX7_init_8 ?_
  refine v_fresh2 hB (fun fl0 => ?_)
  refine v_init00 (pc := 9)  C hx0 dX7_init_9 (wi_X4 11) li_X7_11 rfl (c_X4_initW (zxt_Xs hx0 hX)) hB (fun x hx => by cases hx) zSty_t trivial ⟨Nat.le_of_ble_eq_true rfl, Nat.le_of_ble_eq_true rfl⟩ ⟨Nat.le_of_ble_eq_true rfl, Nat.le_of_ble_eq_true rfl⟩ (Nat.le_of_ble_eq_true rfl) (fun Γ1 G1 hs1 hB1 tn5 hp1 => ?_)
  have tk1 := tn5
  have hye : zxt Γ1 Γ1 := zxt_rf
  have pr1 : zpy [2044, 2055, 901, 912, 913, 2037, 2036, 2038, 2039, 2040, 2041, 2042, 2043, 609, 610, 611, 612, 2016, 2017, 2014, 2015, 206, 207, 510, 2026, 2027, 2028, 2029, 2030, 2031, 2032, 2033, 2034, 2035, 2048, 2049, 2050, 2051, 2052, 2053, 2054, 809, 810, 811, 812, 813, 910, 911] Γ G G1 := zpy_tr zpy_rf hx0 hp1.1 (by decide)
  have hx1 := zxt_tr hx0 hs1
  replace hO := zOk_x hs1 hO
  replace ta0 := zxt_ty hs1 ta0 (by decide)
  refine v_putr (pc := 12) (k := 1) C hin dX7_init_12 fl_X7_12 rfl (by decide) (by decide) ?_
  replace hO := zOk_s (k := 1) hO (by decide) (by decide) tn5
  refine v_aload_n (pc := 15) C dX7_init_15 rfl ?_
  refine v_bipush (pc := 16) C dX7_init_16 (by decide) ?_
  refine v_newi0 (pc := 18) C hx1 hB1 48 dX7_init_18 ac_int a_48 rfl (by decide) (by decide) ⟨Nat.le_of_ble_eq_true rfl, Nat.le_of_ble_eq_true rfl⟩ (fun Γ2 q2 fq2 hs2 hB2 tq2 => ?_)
  have fz2 := zxt_0 hx1 fq2
  have ez2 : q2 = q2 := rfl
  have hx2 := zxt_tr hx1 hs2
  replace hye := zxt_tr hye hs2
  replace hO := zOk_x hs2 hO
  replace ta0 := zxt_ty hs2 ta0 (by decide)
  replace tn5 := zxt_ty hs2 tn5 (by decide)
  refine v_putr (pc := 20) (k := 2) C hin dX7_init_20 fl_X7_18 rfl (by decide) (by decide) ?_
  replace hO := zOk_s (k := 2) hO (by decide) (by decide) tq2
  refine v_aload_n (pc := 23) C dX7_init_23 rfl ?_
  refine v_bipush (pc := 24) C dX7_init_24 (by decide) ?_
  refine v_newi0 (pc := 26) C hx2 hB2 49 dX7_init_26 ac_int a_49 rfl (by decide) (by decide) ⟨Nat.le_of_ble_eq_true rfl, Nat.le_of_ble_eq_true rfl⟩ (fun Γ3 q3 fq3 hs3 hB3 tq3 => ?_)
  have fz3 := zxt_0 hx2 fq3
  have ez3 : q3 = q3 := rfl
  have hx3 := zxt_tr hx2 hs3
  replace hye := zxt_tr hye hs3
  replace hO := zOk_x hs3 hO
  replace ta0 := zxt_ty hs3 ta0 (by decide)
  replace tn5 := zxt_ty hs3 tn5 (by decide)
  replace tq2 := zxt_ty hs3 tq2 (by decide)
  refine v_putr (pc := 28) (k := 3) C hin dX7_init_28 fl_X7_22 rfl (by decide) (by decide) ?_
  replace hO := zOk_s (k := 3) hO (by decide) (by decide) tq3
  refine v_aload_n (pc := 31) C dX7_init_31 rfl ?_
  refine v_iconst (pc := 32) C dX7_init_32 ?_
  refine v_newi0 (pc := 33) C hx3 hB3 50 dX7_init_33 ac_int a_50 rfl (by decide) (by decide) ⟨Nat.le_of_ble_eq_true rfl, Nat.le_of_ble_eq_true rfl⟩ (fun Γ4 q4 fq4 hs4 hB4 tq4 => ?_)
  have fz4 := zxt_0 hx3 fq4
  have ez4 : q4 = q4 := rfl
  have hx4 := zxt_tr hx3 hs4
  replace hye := zxt_tr hye hs4
  replace hO := zOk_x hs4 hO
  replace ta0 := zxt_ty hs4 ta0 (by decide)
  replace tn5 := zxt_ty hs4 tn5 (by decide)
  replace tq2 := zxt_ty hs4 tq2 (by decide)
  replace tq3 := zxt_ty hs4 tq3 (by decide)
  refine v_putr (pc := 35) (k := 4) C hin dX7_init_35 fl_X7_25 rfl (by decide) (by decide) ?_
  replace hO := zOk_s (k := 4) hO (by decide) (by decide) tq4
  refine v_aload_n (pc := 38) C dX7_init_38 rfl ?_
  refine v_iconst (pc := 39) C dX7_init_39 ?_
  refine v_newi0 (pc := 40) C hx4 hB4 51 dX7_init_40 ac_int a_51 rfl (by decide) (by decide) ⟨Nat.le_of_ble_eq_true rfl, Nat.le_of_ble_eq_true rfl⟩ (fun Γ5 q5 fq5 hs5 hB5 tq5 => ?_)
  have fz5 := zxt_0 hx4 fq5
  have ez5 : q5 = q5 := rfl
  have hx5 := zxt_tr hx4 hs5
  replace hye := zxt_tr hye hs5
  replace hO := zOk_x hs5 hO
  replace ta0 := zxt_ty hs5 ta0 (by decide)
  replace tn5 := zxt_ty hs5 tn5 (by decide)
  replace tq2 := zxt_ty hs5 tq2 (by decide)
  replace tq3 := zxt_ty hs5 tq3 (by decide)
  replace tq4 := zxt_ty hs5 tq4 (by decide)
  refine v_putr (pc := 42) (k := 5) C hin dX7_init_42 fl_X7_28 rfl (by decide) (by decide) ?_
  replace hO := zOk_s (k := 5) hO (by decide) (by decide) tq5
  refine v_aload_n (pc := 45) C dX7_init_45 rfl ?_
  refine v_iconst (pc := 46) C dX7_init_46 ?_
  refine v_newi0 (pc := 47) C hx5 hB5 52 dX7_init_47 ac_int a_52 rfl (by decide) (by decide) ⟨Nat.le_of_ble_eq_true rfl, Nat.le_of_ble_eq_true rfl⟩ (fun Γ6 q6 fq6 hs6 hB6 tq6 => ?_)
  have fz6 := zxt_0 hx5 fq6
  have ez6 : q6 = q6 := rfl
  have hx6 := zxt_tr hx5 hs6
  replace hye := zxt_tr hye hs6
  replace hO := zOk_x hs6 hO
  replace ta0 := zxt_ty hs6 ta0 (by decide)
  replace tn5 := zxt_ty hs6 tn5 (by decide)
  replace tq2 := zxt_ty hs6 tq2 (by decide)
  replace tq3 := zxt_ty hs6 tq3 (by decide)
  replace tq4 := zxt_ty hs6 tq4 (by decide)
  replace tq5 := zxt_ty hs6 tq5 (by decide)
  refine v_putr (pc := 49) (k := 6) C hin dX7_init_49 fl_X7_31 rfl (by decide) (by decide) ?_
  replace hO := zOk_s (k := 6) hO (by decide) (by decide) tq6
  refine v_aload_n (pc := 52) C dX7_init_52 rfl ?_
  refine v_iconst (pc := 53) C dX7_init_53 ?_
  refine v_newi0 (pc := 54) C hx6 hB6 53 dX7_init_54 ac_int a_53 rfl (by decide) (by decide) ⟨Nat.le_of_ble_eq_true rfl, Nat.le_of_ble_eq_true rfl⟩ (fun Γ7 q7 fq7 hs7 hB7 tq7 => ?_)
  have fz7 := zxt_0 hx6 fq7
  have ez7 : q7 = q7 := rfl
  have hx7 := zxt_tr hx6 hs7
  replace hye := zxt_tr hye hs7
  replace hO := zOk_x hs7 hO
  replace ta0 := zxt_ty hs7 ta0 (by decide)
  replace tn5 := zxt_ty hs7 tn5 (by decide)
  replace tq2 := zxt_ty hs7 tq2 (by decide)
  replace tq3 := zxt_ty hs7 tq3 (by decide)
  replace tq4 := zxt_ty hs7 tq4 (by decide)
  replace tq5 := zxt_ty hs7 tq5 (by decide)
  replace tq6 := zxt_ty hs7 tq6 (by decide)
  refine v_putr (pc := 56) (k := 7) C hin dX7_init_56 fl_X7_34 rfl (by decide) (by decide) ?_
  replace hO := zOk_s (k := 7) hO (by decide) (by decide) tq7
  refine v_aload_n (pc := 59) C dX7_init_59 rfl ?_
  refine v_sipush (pc := 60) C dX7_init_60 (by decide) ?_
  refine v_newi0 (pc := 63) C hx7 hB7 54 dX7_init_63 ac_int a_54 rfl (by decide) (by decide) ⟨Nat.le_of_ble_eq_true rfl, Nat.le_of_ble_eq_true rfl⟩ (fun Γ8 q8 fq8 hs8 hB8 tq8 => ?_)
  have fz8 := zxt_0 hx7 fq8
  have ez8 : q8 = q8 := rfl
  have hx8 := zxt_tr hx7 hs8
  replace hye := zxt_tr hye hs8
  replace hO := zOk_x hs8 hO
  replace ta0 := zxt_ty hs8 ta0 (by decide)
  replace tn5 := zxt_ty hs8 tn5 (by decide)
  replace tq2 := zxt_ty hs8 tq2 (by decide)
  replace tq3 := zxt_ty hs8 tq3 (by decide)
  replace tq4 := zxt_ty hs8 tq4 (by decide)
  replace tq5 := zxt_ty hs8 tq5 (by decide)
  replace tq6 := zxt_ty hs8 tq6 (by decide)
  replace tq7 := zxt_ty hs8 tq7 (by decide)
  refine v_putr (pc := 65) (k := 8) C hin dX7_init_65 fl_X7_37 rfl (by decide) (by decide) ?_
  replace hO := zOk_s (k := 8) hO (by decide) (by decide) tq8
  refine v_aload_n (pc := 68) C dX7_init_68 rfl ?_
  refine v_aload_n (pc := 69) C dX7_init_69 rfl ?_
  refine v_putr (pc := 70) (k := 0) C hin dX7_init_70 fl_X7_40 rfl (by decide) (by decide) ?_
  replace hO := zOk_s (k := 0) hO (by decide) (by decide) ta0
  refine v_adopt0 (Γ0 := Γ) hB8 (by decide) (by decide) (by decide +kernel) (by decide +kernel) hO (by decide +kernel) (fun Γe Ge hse hBe the eΓ eG => ?_)
  have prE : zpy [2044, 2055, 901, 912, 913, 2037, 2036, 2038, 2039, 2040, 2041, 2042, 2043, 609, 610, 611, 612, 2016, 2017, 2014, 2015, 206, 207, 510, 2026, 2027, 2028, 2029, 2030, 2031, 2032, 2033, 2034, 2035, 2048, 2049, 2050, 2051, 2052, 2053, 2054, 809, 810, 811, 812, 813, 910, 911] Γ G Ge := by rw [eG]; exact zpy_ag pr1 (by decide) fh0
  have hx9 := zxt_tr hx8 hse
  replace hye := zxt_tr hye hse
  replace ta0 := zxt_ty hse ta0 (by decide)
  replace tn5 := zxt_ty hse tn5 (by decide)
  replace tq2 := zxt_ty hse tq2 (by decide)
  replace tq3 := zxt_ty hse tq3 (by decide)
  replace tq4 := zxt_ty hse tq4 (by decide)
  replace tq5 := zxt_ty hse tq5 (by decide)
  replace tq6 := zxt_ty hse tq6 (by decide)
  replace tq7 := zxt_ty hse tq7 (by decide)
  replace tq8 := zxt_ty hse tq8 (by decide)
  have th0 := the
  refine v_aload_n (pc := 73) C dX7_init_73 rfl ?_
  refine v_aload_n (pc := 74) C dX7_init_74 rfl ?_
  refine v_call01 (pc := 75) (a := zr 6 a0) C hx9 dX7_init_75 v_X7_44 (by decide) (c_X7_beginK (zxt_Xs hx9 hX)) hBe (zk_of th0 (by decide) (by decide)) (zk_of ta0 (by decide) (by decide)) ⟨Nat.le_of_ble_eq_true rfl, Nat.le_of_ble_eq_true rfl⟩ ⟨Nat.le_of_ble_eq_true rfl, Nat.le_of_ble_eq_true rfl⟩ (Nat.le_of_ble_eq_true rfl) (fun Gc hpc hBc => ?_)
  have e1 : Γe.2.1 h0 1 = n5 := by rw [eΓ, zad_2, if_pos rfl]; rfl
  have e2 : Γe.2.1 h0 2 = q2 := by rw [eΓ, zad_2, if_pos rfl]; rfl
  have e3 : Γe.2.1 h0 3 = q3 := by rw [eΓ, zad_2, if_pos rfl]; rfl
  have e4 : Γe.2.1 h0 4 = q4 := by rw [eΓ, zad_2, if_pos rfl]; rfl
  have e5 : Γe.2.1 h0 5 = q5 := by rw [eΓ, zad_2, if_pos rfl]; rfl
  have e6 : Γe.2.1 h0 6 = q6 := by rw [eΓ, zad_2, if_pos rfl]; rfl
  have e7 : Γe.2.1 h0 7 = q7 := by rw [eΓ, zad_2, if_pos rfl]; rfl
  have e8 : Γe.2.1 h0 8 = q8 := by rw [eΓ, zad_2, if_pos rfl]; rfl
  have el : Γe.2.1 n5 = Γ1.2.1 n5 := zxt_fr hye (by rw [tk1]; decide)
  have hnew : ∀ f : Nat, f < 23 → Γ.1 (wad Γe h0 f) = 0 := fun f hf => by
    rcases (show f = 0 ∨ f = 1 ∨ f = 2 ∨ f = 3 ∨ f = 4 ∨ f = 5 ∨ f = 6 ∨ f = 7 ∨ f = 8 ∨ f = 9 ∨ f = 10 ∨ f = 11 ∨ f = 12 ∨ f = 13 ∨ f = 14 ∨ f = 15 ∨ f = 16 ∨ f = 17 ∨ f = 18 ∨ f = 19 ∨ f = 20 ∨ f = 21 ∨ f = 22 by omega) with rfl | rfl | rfl | rfl | rfl | rfl | rfl | rfl | rfl | rfl | rfl | rfl | rfl | rfl | rfl | rfl | rfl | rfl | rfl | rfl | rfl | rfl | rfl
    · show Γ.1 (Γe.2.1 h0 1) = 0; rw [e1]; exact fl0
    · show Γ.1 (Γe.2.1 (Γe.2.1 h0 1) 0) = 0; rw [e1, el]; exact hp1.2 0 (by decide)
    · show Γ.1 (Γe.2.1 (Γe.2.1 h0 1) 1) = 0; rw [e1, el]; exact hp1.2 1 (by decide)
    · show Γ.1 (Γe.2.1 (Γe.2.1 h0 1) 2) = 0; rw [e1, el]; exact hp1.2 2 (by decide)
    · show Γ.1 (Γe.2.1 (Γe.2.1 h0 1) 3) = 0; rw [e1, el]; exact hp1.2 3 (by decide)
    · show Γ.1 (Γe.2.1 (Γe.2.1 h0 1) 4) = 0; rw [e1, el]; exact hp1.2 4 (by decide)
    · show Γ.1 (Γe.2.1 (Γe.2.1 h0 1) 5) = 0; rw [e1, el]; exact hp1.2 5 (by decide)
    · show Γ.1 (Γe.2.1 (Γe.2.1 h0 1) 6) = 0; rw [e1, el]; exact hp1.2 6 (by decide)
    · show Γ.1 (Γe.2.1 (Γe.2.1 h0 1) 7) = 0; rw [e1, el]; exact hp1.2 7 (by decide)
    · show Γ.1 (Γe.2.1 (Γe.2.1 h0 1) 8) = 0; rw [e1, el]; exact hp1.2 8 (by decide)
    · show Γ.1 (Γe.2.1 (Γe.2.1 h0 1) 9) = 0; rw [e1, el]; exact hp1.2 9 (by decide)
    · show Γ.1 (Γe.2.1 h0 2) = 0; rw [e2]; exact fz2
    · show Γ.1 (Γe.2.1 h0 3) = 0; rw [e3]; exact fz3
    · show Γ.1 (Γe.2.1 h0 4) = 0; rw [e4]; exact fz4
    · show Γ.1 (Γe.2.1 h0 5) = 0; rw [e5]; exact fz5
    · show Γ.1 (Γe.2.1 h0 6) = 0; rw [e6]; exact fz6
    · show Γ.1 (Γe.2.1 h0 7) = 0; rw [e7]; exact fz7
    · show Γ.1 (Γe.2.1 h0 8) = 0; rw [e8]; exact fz8
    · exact fh0
    · exact fh0
    · exact fh0
    · exact fh0
    · exact fh0
  have prC := zpy_nb (rs := [2044, 2055, 901, 912, 913, 2037, 2036, 2038, 2039, 2040, 2041, 2042, 2043, 609, 610, 611, 612, 2016, 2017, 2014, 2015, 206, 207, 510, 2026, 2027, 2028, 2029, 2030, 2031, 2032, 2033, 2034, 2035, 2048, 2049, 2050, 2051, 2052, 2053, 2054, 809, 810, 811, 812, 813, 910, 911]) prE hx9 hpc.1 hpc.2.1 hpc.2.2.1 (by decide) hnew
  refine v_widen (k := 18) (n := 971) (Nat.le_of_ble_eq_true rfl) (Nat.le_of_ble_eq_true rfl) ?_
  have h0n : Γe.1 h0 ≠ 0 := by rw [th0]; decide
  have t0n : Γe.1 a0 ≠ 0 := by rw [ta0]; decide
  have t5n : Γe.1 (Γe.2.1 a0 5) ≠ 0 := by rw [hBe.1.2.2 6 5 a0 ta0 (by decide)]; decide
  have h8n : Γe.1 (Γe.2.1 h0 8) ≠ 0 := by rw [hBe.1.2.2 8 8 h0 th0 (by decide)]; decide
  have hWZ : WZ Γe h0 a0 (zno Γe Gc) := by
    refine ⟨?_, fun j => ?_, bgG_c rfl (fun _ _ => rfl) (fun f j hf => zno_1 (wad_ok hBe.1 th0 f hf) _ _) ⟨fun j => ?_, ?_, ?_, ?_⟩ hpc.2.2.2⟩
    · show Gc.2.2 800 h0 = a0
      rw [hpc.2.1, zuP_3, if_pos ⟨rfl, rfl⟩]
    · rw [zno_1 h8n, hpc.1 2054 (by decide), e8, eG, zag_r (Or.inr (by decide))]
      exact (hB7.2.2 _ fq8).1 2054 j
    · rw [zno_1 t5n, hpc.1 2040 (by decide)]
    · rw [zno_1 t0n, hpc.1 609 (by decide)]
    · rw [zno_1 t0n, hpc.1 611 (by decide)]
    · rw [zno_1 t0n, hpc.1 612 (by decide)]
  have hpost : zpy [2044, 2055, 901, 912, 913, 2037, 2036, 2038, 2039, 2040, 2041, 2042, 2043, 609, 610, 611, 612, 2016, 2017, 2014, 2015, 206, 207, 510, 2026, 2027, 2028, 2029, 2030, 2031, 2032, 2033, 2034, 2035, 2048, 2049, 2050, 2051, 2052, 2053, 2054, 809, 810, 811, 812, 813, 910, 911] Γ G (zno Γe Gc) ∧ (∀ f : Nat, f < 23 → Γ.1 (wad Γe h0 f) = 0) ∧ WZ Γe h0 a0 (zno Γe Gc) := ⟨prC, hnew, hWZ⟩
  exact v_ret (Γ0 := Γ) (zCv_x C hx9) hr hlk dX7_init_78 hx9 hBc th0 hpost

set_option maxHeartbeats 4000000 in
set_option maxRecDepth 100000 in
theorem c_X8_initW {l : Launch} {b : Nat} {Γ : zΓ} {G : zH} {X : va_W} {h0 : Nat} (hX : zXs Γ) : zMi l yX8_init cX8_init 1 7 108 6587 b Γ G X 9 h0 [] (zTxF b Γ.2.2.2.2.2) (fun Γ' G' => (G'.1 901 h0 0 = 0 ∧ G'.1 912 h0 0 = 0 ∧ G'.1 913 h0 0 = -1 ∧ (∀ i : Nat, G'.1 2055 (Γ'.2.1 h0 0) i = 0) ∧ ∀ q : Nat, q < 24 → G'.1 2044 (Γ'.2.1 (Γ'.2.1 (Γ'.2.1 h0 2) 0) 0) q = wl.getD q 0) ∧ AP Γ' (G'.2.2 401 (Γ'.2.1 h0 2)) (G'.2.2 903 h0) ∧ TZ Γ' (G'.2.2 903 h0) G' ∧ WZ Γ' (Γ'.2.1 h0 4) (G'.2.2 903 h0) G' ∧ (AW Γ' (Γ'.2.1 h0 4) (Γ'.2.1 h0 5) ∧ AW Γ' (Γ'.2.1 h0 4) (Γ'.2.1 h0 6) ∧ AW Γ' (Γ'.2.1 h0 5) (Γ'.2.1 h0 6) ∧ Γ'.2.1 (Γ'.2.1 h0 7) 0 = Γ'.2.1 h0 6) ∧ G'.1 910 h0 0 = 0 ∧ G'.1 911 h0 0 = 0) := by
  refine zMi_of RX8 hX (by decide) rfl rfl (Nat.le_of_ble_eq_true rfl) ?_
  intro p e s m args below meth c C hr hlk hin hB hav hT
  show V p l e (zrC 7 108 6587) s m args below meth c b Γ.2.2.2.1 1 0 0 (MQ below (zQi b Γ X 9 h0 (fun Γ' G' => (G'.1 901 h0 0 = 0 ∧ G'.1 912 h0 0 = 0 ∧ G'.1 913 h0 0 = -1 ∧ (∀ i : Nat, G'.1 2055 (Γ'.2.1 h0 0) i = 0) ∧ ∀ q : Nat, q < 24 → G'.1 2044 (Γ'.2.1 (Γ'.2.1 (Γ'.2.1 h0 2) 0) 0) q = wl.getD q 0) ∧ AP Γ' (G'.2.2 401 (Γ'.2.1 h0 2)) (G'.2.2 903 h0) ∧ TZ Γ' (G'.2.2 903 h0) G' ∧ WZ Γ' (Γ'.2.1 h0 4) (G'.2.2 903 h0) G' ∧ (AW Γ' (Γ'.2.1 h0 4) (Γ'.2.1 h0 5) ∧ AW Γ' (Γ'.2.1 h0 4) (Γ'.2.1 h0 6) ∧ AW Γ' (Γ'.2.1 h0 5) (Γ'.2.1 h0 6) ∧ Γ'.2.1 (Γ'.2.1 h0 7) 0 = Γ'.2.1 h0 6) ∧ G'.1 910 h0 0 = 0 ∧ G'.1 911 h0 0 = 0)) args s 108 6587 (zAb b)) 0 [some (zr 9 h0)] [] ((h0, zOb 9 (fun _ => false) (fun _ => 0) (fun _ => 0)) :: (X ++ zWd Γ G))
  refine v_fresh hB (fun fh0 => ?_)
  have hx0 : zxt Γ Γ := zxt_rf
  have hO : zOk Γ 9 (fun _ => false) (fun _ => 0) := zOk_0
  refine v_aload_n (pc := 0) C dX8_init_0 rfl ?_
  refine v_obj (pc := 1) C dX8_init_1 ol_X8 oi_ oc_ ⟨Nat.le_of_ble_eq_true rfl, Nat.le_of_ble_eq_true rfl⟩ (Nat.le_of_ble_eq_true rfl) ?_
  refine v_aload_n (pc := 4) C dX8_init_4 rfl ?_
  refine v_sipush (pc := 5) C dX8_init_5 (by decide) ?_
  refine v_newi0 (pc := 8) C hx0 hB 55 dX8_init_8 ac_int a_55 rfl (by decide) (by decide) ⟨Nat.le_of_ble_eq_true rfl, Nat.le_of_ble_eq_true rfl⟩ (fun Γ1 q1 fq1 hs1 hB1 tq1 => ?_)
  have fz0 := zxt_0 hx0 fq1
  have ez0 : q1 = q1 := rfl
  have hx1 := zxt_tr hx0 hs1
  have tka := tq1
  replace hO := zOk_x hs1 hO
  refine v_putr (pc := 10) (k := 0) C hin dX8_init_10 fl_X8_11 rfl (by decide) (by decide) ?_
  replace hO := zOk_s (k := 0) hO (by decide) (by decide) tq1
  refine v_aload_n (pc := 13) C dX8_init_13 rfl ?_
  refine v_new (pc := 14) C dX8_init_14 (by decide) cl_X8_15 in_4 iz_4 ⟨Nat.le_of_ble_eq_true rfl, Nat.le_of_ble_eq_true rfl⟩ (fun n14 => ?_)
  refine v_dup (pc := 17) C dX8_init_17 ?_
  refine v_init00 (pc := 18)  C hx1 dX8_init_18 (wi_X3 17) li_X8_17 rfl (c_X3_initW (zxt_Xs hx1 hX)) hB1 (fun x hx => by cases hx) (zTxF_sty) (by rw [hx1.2.2.1]; exact hT) ⟨Nat.le_of_ble_eq_true rfl, Nat.le_of_ble_eq_true rfl⟩ ⟨Nat.le_of_ble_eq_true rfl, Nat.le_of_ble_eq_true rfl⟩ (Nat.le_of_ble_eq_true rfl) (fun Γ2 G2 hs2 hB2 tn14 hp2 => ?_)
  have pr2 : zpy [2055] Γ G G2 := zpy_tr zpy_rf hx1 hp2.1 (by decide)
  have pa_2 : zpy [2055] Γ1 G G2 := zpy_tr zpy_rf zxt_rf hp2.1 (by decide)
  have tk3 := tn14
  have hBk3 := hB2
  have hx2 := zxt_tr hx1 hs2
  have hypa_hx2 := zxt_tr zxt_rf hs2
  replace hO := zOk_x hs2 hO
  replace tq1 := zxt_ty hs2 tq1 (by decide)
  refine v_putr (pc := 21) (k := 2) C hin dX8_init_21 fl_X8_18 rfl (by decide) (by decide) ?_
  replace hO := zOk_s (k := 2) hO (by decide) (by decide) tn14
  refine v_aload_n (pc := 24) C dX8_init_24 rfl ?_
  refine v_new (pc := 25) C dX8_init_25 (by decide) cl_X8_22 in_6 iz_6 ⟨Nat.le_of_ble_eq_true rfl, Nat.le_of_ble_eq_true rfl⟩ (fun n25 => ?_)
  refine v_dup (pc := 28) C dX8_init_28 ?_
  refine v_init00 (pc := 29)  C hx2 dX8_init_29 (wi_X5 24) li_X8_24 rfl (c_X5_initW (zxt_Xs hx2 hX)) hB2 (fun x hx => by cases hx) zSty_t trivial ⟨Nat.le_of_ble_eq_true rfl, Nat.le_of_ble_eq_true rfl⟩ ⟨Nat.le_of_ble_eq_true rfl, Nat.le_of_ble_eq_true rfl⟩ (Nat.le_of_ble_eq_true rfl) (fun Γ3 G3 hs3 hB3 tn25 hp3 => ?_)
  have pr3 : zpy [2055] Γ G G3 := zpy_tr pr2 hx2 hp3.1 (by decide)
  have pa_3 : zpy [2055] Γ1 G G3 := zpy_tr pa_2 hypa_hx2 hp3.1 (by decide)
  have pc3_3 : zpy [2044] Γ2 G2 G3 := zpy_tr zpy_rf zxt_rf hp3.1 (by decide)
  have tk5 := tn25
  have hBk5 := hB3
  have hx3 := zxt_tr hx2 hs3
  have hypa_hx3 := zxt_tr hypa_hx2 hs3
  have hypc3_hx3 := zxt_tr zxt_rf hs3
  replace hO := zOk_x hs3 hO
  replace tq1 := zxt_ty hs3 tq1 (by decide)
  replace tn14 := zxt_ty hs3 tn14 (by decide)
  refine v_putr (pc := 32) (k := 3) C hin dX8_init_32 fl_X8_25 rfl (by decide) (by decide) ?_
  replace hO := zOk_s (k := 3) hO (by decide) (by decide) tn25
  refine v_aload_n (pc := 35) C dX8_init_35 rfl ?_
  refine v_new (pc := 36) C dX8_init_36 (by decide) cl_X8_29 in_8 iz_8 ⟨Nat.le_of_ble_eq_true rfl, Nat.le_of_ble_eq_true rfl⟩ (fun n36 => ?_)
  refine v_dup (pc := 39) C dX8_init_39 ?_
  refine v_aload_n (pc := 40) C dX8_init_40 rfl ?_
  refine v_getr (pc := 41) (k := 3) (t' := 6) (q := n25) C dX8_init_41 fl_X8_25 (by decide) 1 rfl rfl rfl ?_
  refine v_init01 (pc := 44) (a := zr 6 n25) C hx3 dX8_init_44 (wi_X7 31) li_X8_31 rfl (c_X7_initW (zxt_Xs hx3 hX)) hB3 (fun x hx => by rw [List.mem_singleton.mp hx]; exact zk_of tn25 (by decide) (by decide)) zSty_t trivial ⟨Nat.le_of_ble_eq_true rfl, Nat.le_of_ble_eq_true rfl⟩ ⟨Nat.le_of_ble_eq_true rfl, Nat.le_of_ble_eq_true rfl⟩ (Nat.le_of_ble_eq_true rfl) (fun Γ4 G4 hs4 hB4 tn36 hp4 => ?_)
  have pr4 : zpy [2055] Γ G G4 := zpy_tr pr3 hx3 hp4.1 (by decide)
  have pa_4 : zpy [2055] Γ1 G G4 := zpy_tr pa_3 hypa_hx3 hp4.1 (by decide)
  have pc3_4 : zpy [2044] Γ2 G2 G4 := zpy_tr pc3_3 hypc3_hx3 hp4.1 (by decide)
  have pc5_4 : zpy [2037, 2036, 2038, 2039, 2040, 2041, 2042, 2043, 609, 610, 611, 612, 2016, 2017, 2014, 2015, 206, 207] Γ3 G3 G4 := zpy_tr zpy_rf zxt_rf hp4.1 (by decide)
  have tk7 := tn36
  have hBk7 := hB4
  have hx4 := zxt_tr hx3 hs4
  have hypa_hx4 := zxt_tr hypa_hx3 hs4
  have hypc3_hx4 := zxt_tr hypc3_hx3 hs4
  have hypc5_hx4 := zxt_tr zxt_rf hs4
  replace hO := zOk_x hs4 hO
  replace tq1 := zxt_ty hs4 tq1 (by decide)
  replace tn14 := zxt_ty hs4 tn14 (by decide)
  replace tn25 := zxt_ty hs4 tn25 (by decide)
  refine v_putr (pc := 47) (k := 4) C hin dX8_init_47 fl_X8_34 rfl (by decide) (by decide) ?_
  replace hO := zOk_s (k := 4) hO (by decide) (by decide) tn36
  refine v_aload_n (pc := 50) C dX8_init_50 rfl ?_
  refine v_new (pc := 51) C dX8_init_51 (by decide) cl_X8_29 in_8 iz_8 ⟨Nat.le_of_ble_eq_true rfl, Nat.le_of_ble_eq_true rfl⟩ (fun n51 => ?_)
  refine v_dup (pc := 54) C dX8_init_54 ?_
  refine v_aload_n (pc := 55) C dX8_init_55 rfl ?_
  refine v_getr (pc := 56) (k := 3) (t' := 6) (q := n25) C dX8_init_56 fl_X8_25 (by decide) 1 rfl rfl rfl ?_
  refine v_init01 (pc := 59) (a := zr 6 n25) C hx4 dX8_init_59 (wi_X7 31) li_X8_31 rfl (c_X7_initW (zxt_Xs hx4 hX)) hB4 (fun x hx => by rw [List.mem_singleton.mp hx]; exact zk_of tn25 (by decide) (by decide)) zSty_t trivial ⟨Nat.le_of_ble_eq_true rfl, Nat.le_of_ble_eq_true rfl⟩ ⟨Nat.le_of_ble_eq_true rfl, Nat.le_of_ble_eq_true rfl⟩ (Nat.le_of_ble_eq_true rfl) (fun Γ5 G5 hs5 hB5 tn51 hp5 => ?_)
  have t5k := tn51
  have pr5 : zpy [2055] Γ G G5 := zpy_tr pr4 hx4 hp5.1 (by decide)
  have pa_5 : zpy [2055] Γ1 G G5 := zpy_tr pa_4 hypa_hx4 hp5.1 (by decide)
  have pc3_5 : zpy [2044] Γ2 G2 G5 := zpy_tr pc3_4 hypc3_hx4 hp5.1 (by decide)
  have pc5_5 : zpy [2037, 2036, 2038, 2039, 2040, 2041, 2042, 2043, 609, 610, 611, 612, 2016, 2017, 2014, 2015, 206, 207] Γ3 G3 G5 := zpy_tr pc5_4 hypc5_hx4 hp5.1 (by decide)
  have pc7_5 : zpy [510, 2026, 2027, 2028, 2029, 2030, 2031, 2032, 2033, 2034, 2035, 2048, 2049, 2050, 2051, 2052, 2053, 2054, 809, 810, 811, 812, 813, 2040, 609, 611, 612] Γ4 G4 G5 := zpy_tr zpy_rf zxt_rf hp5.1 (by decide)
  have hx5 := zxt_tr hx4 hs5
  have hypa_hx5 := zxt_tr hypa_hx4 hs5
  have hypc3_hx5 := zxt_tr hypc3_hx4 hs5
  have hypc5_hx5 := zxt_tr hypc5_hx4 hs5
  have hypc7_hx5 := zxt_tr zxt_rf hs5
  replace hO := zOk_x hs5 hO
  replace tq1 := zxt_ty hs5 tq1 (by decide)
  replace tn14 := zxt_ty hs5 tn14 (by decide)
  replace tn25 := zxt_ty hs5 tn25 (by decide)
  replace tn36 := zxt_ty hs5 tn36 (by decide)
  refine v_putr (pc := 62) (k := 5) C hin dX8_init_62 fl_X8_38 rfl (by decide) (by decide) ?_
  replace hO := zOk_s (k := 5) hO (by decide) (by decide) tn51
  refine v_aload_n (pc := 65) C dX8_init_65 rfl ?_
  refine v_new (pc := 66) C dX8_init_66 (by decide) cl_X8_29 in_8 iz_8 ⟨Nat.le_of_ble_eq_true rfl, Nat.le_of_ble_eq_true rfl⟩ (fun n66 => ?_)
  refine v_dup (pc := 69) C dX8_init_69 ?_
  refine v_aload_n (pc := 70) C dX8_init_70 rfl ?_
  refine v_getr (pc := 71) (k := 3) (t' := 6) (q := n25) C dX8_init_71 fl_X8_25 (by decide) 1 rfl rfl rfl ?_
  refine v_init01 (pc := 74) (a := zr 6 n25) C hx5 dX8_init_74 (wi_X7 31) li_X8_31 rfl (c_X7_initW (zxt_Xs hx5 hX)) hB5 (fun x hx => by rw [List.mem_singleton.mp hx]; exact zk_of tn25 (by decide) (by decide)) zSty_t trivial ⟨Nat.le_of_ble_eq_true rfl, Nat.le_of_ble_eq_true rfl⟩ ⟨Nat.le_of_ble_eq_true rfl, Nat.le_of_ble_eq_true rfl⟩ (Nat.le_of_ble_eq_true rfl) (fun Γ6 G6 hs6 hB6 tn66 hp6 => ?_)
  have t6k := tn66
  have pr6 : zpy [2055] Γ G G6 := zpy_tr pr5 hx5 hp6.1 (by decide)
  have pa_6 : zpy [2055] Γ1 G G6 := zpy_tr pa_5 hypa_hx5 hp6.1 (by decide)
  have pc3_6 : zpy [2044] Γ2 G2 G6 := zpy_tr pc3_5 hypc3_hx5 hp6.1 (by decide)
  have pc5_6 : zpy [2037, 2036, 2038, 2039, 2040, 2041, 2042, 2043, 609, 610, 611, 612, 2016, 2017, 2014, 2015, 206, 207] Γ3 G3 G6 := zpy_tr pc5_5 hypc5_hx5 hp6.1 (by decide)
  have pc7_6 : zpy [510, 2026, 2027, 2028, 2029, 2030, 2031, 2032, 2033, 2034, 2035, 2048, 2049, 2050, 2051, 2052, 2053, 2054, 809, 810, 811, 812, 813, 2040, 609, 611, 612] Γ4 G4 G6 := zpy_tr pc7_5 hypc7_hx5 hp6.1 (by decide)
  have hx6 := zxt_tr hx5 hs6
  have hypa_hx6 := zxt_tr hypa_hx5 hs6
  have hypc3_hx6 := zxt_tr hypc3_hx5 hs6
  have hypc5_hx6 := zxt_tr hypc5_hx5 hs6
  have hypc7_hx6 := zxt_tr hypc7_hx5 hs6
  replace hO := zOk_x hs6 hO
  replace tq1 := zxt_ty hs6 tq1 (by decide)
  replace tn14 := zxt_ty hs6 tn14 (by decide)
  replace tn25 := zxt_ty hs6 tn25 (by decide)
  replace tn36 := zxt_ty hs6 tn36 (by decide)
  replace tn51 := zxt_ty hs6 tn51 (by decide)
  refine v_putr (pc := 77) (k := 6) C hin dX8_init_77 fl_X8_41 rfl (by decide) (by decide) ?_
  replace hO := zOk_s (k := 6) hO (by decide) (by decide) tn66
  refine v_aload_n (pc := 80) C dX8_init_80 rfl ?_
  refine v_new (pc := 81) C dX8_init_81 (by decide) cl_X8_44 in_3 iz_3 ⟨Nat.le_of_ble_eq_true rfl, Nat.le_of_ble_eq_true rfl⟩ (fun n81 => ?_)
  refine v_dup (pc := 84) C dX8_init_84 ?_
  refine v_aload_n (pc := 85) C dX8_init_85 rfl ?_
  refine v_getr (pc := 86) (k := 6) (t' := 8) (q := n66) C dX8_init_86 fl_X8_41 (by decide) 1 rfl rfl rfl ?_
  refine v_init01 (pc := 89) (a := zr 8 n66) C hx6 dX8_init_89 (wi_X2 46) li_X8_46 rfl (c_X2_initW (zxt_Xs hx6 hX)) hB6 (fun x hx => by rw [List.mem_singleton.mp hx]; exact zk_of tn66 (by decide) (by decide)) zSty_t trivial ⟨Nat.le_of_ble_eq_true rfl, Nat.le_of_ble_eq_true rfl⟩ ⟨Nat.le_of_ble_eq_true rfl, Nat.le_of_ble_eq_true rfl⟩ (Nat.le_of_ble_eq_true rfl) (fun Γ7 G7 hs7 hB7 tn81 hp7 => ?_)
  have t7k := tn81
  have pr7 : zpy [2055] Γ G G7 := zpy_tr pr6 hx6 hp7.1 (by decide)
  have pa_7 : zpy [2055] Γ1 G G7 := zpy_tr pa_6 hypa_hx6 hp7.1 (by decide)
  have pc3_7 : zpy [2044] Γ2 G2 G7 := zpy_tr pc3_6 hypc3_hx6 hp7.1 (by decide)
  have pc5_7 : zpy [2037, 2036, 2038, 2039, 2040, 2041, 2042, 2043, 609, 610, 611, 612, 2016, 2017, 2014, 2015, 206, 207] Γ3 G3 G7 := zpy_tr pc5_6 hypc5_hx6 hp7.1 (by decide)
  have pc7_7 : zpy [510, 2026, 2027, 2028, 2029, 2030, 2031, 2032, 2033, 2034, 2035, 2048, 2049, 2050, 2051, 2052, 2053, 2054, 809, 810, 811, 812, 813, 2040, 609, 611, 612] Γ4 G4 G7 := zpy_tr pc7_6 hypc7_hx6 hp7.1 (by decide)
  have hx7 := zxt_tr hx6 hs7
  have hypa_hx7 := zxt_tr hypa_hx6 hs7
  have hypc3_hx7 := zxt_tr hypc3_hx6 hs7
  have hypc5_hx7 := zxt_tr hypc5_hx6 hs7
  have hypc7_hx7 := zxt_tr hypc7_hx6 hs7
  replace hO := zOk_x hs7 hO
  replace tq1 := zxt_ty hs7 tq1 (by decide)
  replace tn14 := zxt_ty hs7 tn14 (by decide)
  replace tn25 := zxt_ty hs7 tn25 (by decide)
  replace tn36 := zxt_ty hs7 tn36 (by decide)
  replace tn51 := zxt_ty hs7 tn51 (by decide)
  replace tn66 := zxt_ty hs7 tn66 (by decide)
  refine v_putr (pc := 92) (k := 7) C hin dX8_init_92 fl_X8_49 rfl (by decide) (by decide) ?_
  replace hO := zOk_s (k := 7) hO (by decide) (by decide) tn81
  refine v_aload_n (pc := 95) C dX8_init_95 rfl ?_
  refine v_new (pc := 96) C dX8_init_96 (by decide) cl_X8_53 in_1 iz_1 ⟨Nat.le_of_ble_eq_true rfl, Nat.le_of_ble_eq_true rfl⟩ (fun n96 => ?_)
  refine v_dup (pc := 99) C dX8_init_99 ?_
  refine v_init00 (pc := 100)  C hx7 dX8_init_100 (wi_X0 55) li_X8_55 rfl (c_X0_initW (zxt_Xs hx7 hX)) hB7 (fun x hx => by cases hx) zSty_t trivial ⟨Nat.le_of_ble_eq_true rfl, Nat.le_of_ble_eq_true rfl⟩ ⟨Nat.le_of_ble_eq_true rfl, Nat.le_of_ble_eq_true rfl⟩ (Nat.le_of_ble_eq_true rfl) (fun Γ8 G8 hs8 hB8 tn96 hp8 => ?_)
  have pr8 : zpy [2055] Γ G G8 := zpy_tr pr7 hx7 hp8.1 (by decide)
  have pa_8 : zpy [2055] Γ1 G G8 := zpy_tr pa_7 hypa_hx7 hp8.1 (by decide)
  have pc3_8 : zpy [2044] Γ2 G2 G8 := zpy_tr pc3_7 hypc3_hx7 hp8.1 (by decide)
  have pc5_8 : zpy [2037, 2036, 2038, 2039, 2040, 2041, 2042, 2043, 609, 610, 611, 612, 2016, 2017, 2014, 2015, 206, 207] Γ3 G3 G8 := zpy_tr pc5_7 hypc5_hx7 hp8.1 (by decide)
  have pc7_8 : zpy [510, 2026, 2027, 2028, 2029, 2030, 2031, 2032, 2033, 2034, 2035, 2048, 2049, 2050, 2051, 2052, 2053, 2054, 809, 810, 811, 812, 813, 2040, 609, 611, 612] Γ4 G4 G8 := zpy_tr pc7_7 hypc7_hx7 hp8.1 (by decide)
  have hx8 := zxt_tr hx7 hs8
  have hypa_hx8 := zxt_tr hypa_hx7 hs8
  have hypc3_hx8 := zxt_tr hypc3_hx7 hs8
  have hypc5_hx8 := zxt_tr hypc5_hx7 hs8
  have hypc7_hx8 := zxt_tr hypc7_hx7 hs8
  replace hO := zOk_x hs8 hO
  replace tq1 := zxt_ty hs8 tq1 (by decide)
  replace tn14 := zxt_ty hs8 tn14 (by decide)
  replace tn25 := zxt_ty hs8 tn25 (by decide)
  replace tn36 := zxt_ty hs8 tn36 (by decide)
  replace tn51 := zxt_ty hs8 tn51 (by decide)
  replace tn66 := zxt_ty hs8 tn66 (by decide)
  replace tn81 := zxt_ty hs8 tn81 (by decide)
  refine v_putr (pc := 103) (k := 8) C hin dX8_init_103 fl_X8_56 rfl (by decide) (by decide) ?_
  replace hO := zOk_s (k := 8) hO (by decide) (by decide) tn96
  refine v_aload_n (pc := 106) C dX8_init_106 rfl ?_
  refine v_bipush (pc := 107) C dX8_init_107 (by decide) ?_
  refine v_newi0 (pc := 109) C hx8 hB8 56 dX8_init_109 ac_int a_56 rfl (by decide) (by decide) ⟨Nat.le_of_ble_eq_true rfl, Nat.le_of_ble_eq_true rfl⟩ (fun Γ9 q9 fq9 hs9 hB9 tq9 => ?_)
  have hx9 := zxt_tr hx8 hs9
  have hypa_hx9 := zxt_tr hypa_hx8 hs9
  have hypc3_hx9 := zxt_tr hypc3_hx8 hs9
  have hypc5_hx9 := zxt_tr hypc5_hx8 hs9
  have hypc7_hx9 := zxt_tr hypc7_hx8 hs9
  replace hO := zOk_x hs9 hO
  replace tq1 := zxt_ty hs9 tq1 (by decide)
  replace tn14 := zxt_ty hs9 tn14 (by decide)
  replace tn25 := zxt_ty hs9 tn25 (by decide)
  replace tn36 := zxt_ty hs9 tn36 (by decide)
  replace tn51 := zxt_ty hs9 tn51 (by decide)
  replace tn66 := zxt_ty hs9 tn66 (by decide)
  replace tn81 := zxt_ty hs9 tn81 (by decide)
  replace tn96 := zxt_ty hs9 tn96 (by decide)
  refine v_putr (pc := 111) (k := 9) C hin dX8_init_111 fl_X8_60 rfl (by decide) (by decide) ?_
  replace hO := zOk_s (k := 9) hO (by decide) (by decide) tq9
  refine v_aload_n (pc := 114) C dX8_init_114 rfl ?_
  refine v_iconst (pc := 115) C dX8_init_115 ?_
  refine v_puti (pc := 116) (k := 13) C dX8_init_116 fl_X8_63 f_9_13 ?_
  refine v_fresh hB9 (fun fh8 => ?_)
  refine v_adopt0 (Γ0 := Γ) hB9 (by decide) (by decide) (by decide +kernel) (by decide +kernel) hO (by decide +kernel) (fun Γe Ge hse hBe the eΓ eG => ?_)
  have prE : zpy [2055] Γ G Ge := by rw [eG]; exact zpy_ag pr8 (by decide) fh0
  have pa_E : zpy [2055] Γ1 G Ge := by rw [eG]; exact zpy_ag pa_8 (by decide) (zxt_0 hypa_hx9 fh8)
  have pc3_E : zpy [2044] Γ2 G2 Ge := by rw [eG]; exact zpy_ag pc3_8 (by decide) (zxt_0 hypc3_hx9 fh8)
  have pc5_E : zpy [2037, 2036, 2038, 2039, 2040, 2041, 2042, 2043, 609, 610, 611, 612, 2016, 2017, 2014, 2015, 206, 207] Γ3 G3 Ge := by rw [eG]; exact zpy_ag pc5_8 (by decide) (zxt_0 hypc5_hx9 fh8)
  have pc7_E : zpy [510, 2026, 2027, 2028, 2029, 2030, 2031, 2032, 2033, 2034, 2035, 2048, 2049, 2050, 2051, 2052, 2053, 2054, 809, 810, 811, 812, 813, 2040, 609, 611, 612] Γ4 G4 Ge := by rw [eG]; exact zpy_ag pc7_8 (by decide) (zxt_0 hypc7_hx9 fh8)
  have hx10 := zxt_tr hx9 hse
  have hypa_hx10 := zxt_tr hypa_hx9 hse
  have hypc3_hx10 := zxt_tr hypc3_hx9 hse
  have hypc5_hx10 := zxt_tr hypc5_hx9 hse
  have hypc7_hx10 := zxt_tr hypc7_hx9 hse
  replace tq1 := zxt_ty hse tq1 (by decide)
  replace tn14 := zxt_ty hse tn14 (by decide)
  replace tn25 := zxt_ty hse tn25 (by decide)
  replace tn36 := zxt_ty hse tn36 (by decide)
  replace tn51 := zxt_ty hse tn51 (by decide)
  replace tn66 := zxt_ty hse tn66 (by decide)
  replace tn81 := zxt_ty hse tn81 (by decide)
  replace tn96 := zxt_ty hse tn96 (by decide)
  replace tq9 := zxt_ty hse tq9 (by decide)
  have th0 := the
  refine v_widen (k := 108) (n := 6587) (Nat.le_of_ble_eq_true rfl) (Nat.le_of_ble_eq_true rfl) ?_
  have ea : Γe.2.1 h0 0 = q1 := by rw [eΓ, zad_2, if_pos rfl]; rfl
  have er : Γe.2.1 h0 2 = n14 := by rw [eΓ, zad_2, if_pos rfl]; rfl
  have l1 := hBk3.1.2.2 4 0 n14 tk3 (by decide)
  have l2 := hBk3.1.2.2 7 0 (Γ2.2.1 n14 0) l1 (by decide)
  have eb : Γe.2.1 n14 = Γ2.2.1 n14 := zxt_fr hypc3_hx10 (by rw [tk3]; decide)
  have ec : Γe.2.1 (Γ2.2.1 n14 0) = Γ2.2.1 (Γ2.2.1 n14 0) := zxt_fr hypc3_hx10 (by rw [l1]; decide)
  have e903 : Ge.2.2 903 h0 = n25 := by rw [eG]; show (if h0 = h0 then _ else _) = _; rw [if_pos rfl]; rfl
  have e401 : Ge.2.2 401 (Γe.2.1 h0 2) = G2.2.2 401 n14 := by rw [er]; exact pc3_E.2 401 n14 (by rw [tk3]; decide)
  have z7 : zxt Γ7 Γe := zxt_tr hs8 (zxt_tr hs9 hse)
  have z6 := zxt_tr hs7 z7
  have z5 := zxt_tr hs6 z6
  have w4 : Γe.2.1 h0 4 = n36 := by rw [eΓ, zad_2, if_pos rfl]; rfl
  have w5 : Γe.2.1 h0 5 = n51 := by rw [eΓ, zad_2, if_pos rfl]; rfl
  have w6 : Γe.2.1 h0 6 = n66 := by rw [eΓ, zad_2, if_pos rfl]; rfl
  have w7 : Γe.2.1 h0 7 = n81 := by rw [eΓ, zad_2, if_pos rfl]; rfl
  have z4 := zxt_tr hs5 z5
  have tn36e : Γ4.1 n36 = 8 := tk7
  have tn51e : Γ5.1 n51 = 8 := t5k
  have tn66e : Γ6.1 n66 = 8 := t6k
  have tn81e : Γ7.1 n81 = 3 := t7k
  have x45 : ∀ a, Γ4.1 a ≠ 0 → Γ5.1 a ≠ 0 := fun a h => by rw [(hs5.2.2.2 a h).1]; exact h
  have d45 : ∀ f : Nat, f < 23 → wad Γe n36 f ≠ wad Γe n51 f := fun f hf q => by
    rw [wad_x hB4.1 z4 tn36e f hf, wad_x hB5.1 z5 tn51e f hf] at q
    exact wad_ok hB4.1 tn36e f hf (by rw [q]; exact hp5.2.1 f hf)
  have d46 : ∀ f : Nat, f < 23 → wad Γe n36 f ≠ wad Γe n66 f := fun f hf q => by
    rw [wad_x hB4.1 z4 tn36e f hf, wad_x hB6.1 z6 tn66e f hf] at q
    exact x45 _ (wad_ok hB4.1 tn36e f hf) (by rw [q]; exact hp6.2.1 f hf)
  have d56 : ∀ f : Nat, f < 23 → wad Γe n51 f ≠ wad Γe n66 f := fun f hf q => by
    rw [wad_x hB5.1 z5 tn51e f hf, wad_x hB6.1 z6 tn66e f hf] at q
    exact wad_ok hB5.1 tn51e f hf (by rw [q]; exact hp6.2.1 f hf)
  have tu : Γ2.1 (G2.2.2 401 n14) = 6 := hBk3.2.1.2.2 4 1 n14 tk3 (by decide)
  have hpost : (Ge.1 901 h0 0 = 0 ∧ Ge.1 912 h0 0 = 0 ∧ Ge.1 913 h0 0 = -1 ∧ (∀ i : Nat, Ge.1 2055 (Γe.2.1 h0 0) i = 0) ∧ ∀ q : Nat, q < 24 → Ge.1 2044 (Γe.2.1 (Γe.2.1 (Γe.2.1 h0 2) 0) 0) q = wl.getD q 0) ∧ AP Γe (Ge.2.2 401 (Γe.2.1 h0 2)) (Ge.2.2 903 h0) ∧ TZ Γe (Ge.2.2 903 h0) Ge ∧ WZ Γe (Γe.2.1 h0 4) (Ge.2.2 903 h0) Ge ∧ (AW Γe (Γe.2.1 h0 4) (Γe.2.1 h0 5) ∧ AW Γe (Γe.2.1 h0 4) (Γe.2.1 h0 6) ∧ AW Γe (Γe.2.1 h0 5) (Γe.2.1 h0 6) ∧ Γe.2.1 (Γe.2.1 h0 7) 0 = Γe.2.1 h0 6) ∧ Ge.1 910 h0 0 = 0 ∧ Ge.1 911 h0 0 = 0 := by
    refine ⟨⟨?_, ?_, ?_, fun i => ?_, fun q hq => ?_⟩, fun f h4 hf q9 => ?_, ?_, ?_, ⟨⟨?_, ?_⟩, ⟨?_, ?_⟩, ⟨?_, ?_⟩, ?_⟩, ?_, ?_⟩
    · rw [eG]; exact zag_at (t := 9) (k := 1) (by decide)
    · rw [eG]; exact zag_at (t := 9) (k := 12) (by decide)
    · rw [eG]; exact zag_at (t := 9) (k := 13) (by decide)
    · rw [ea, pa_E.1 2055 (by decide) q1 (by rw [tka]; decide) i]
      exact (hB.2.2 q1 fz0).1 2055 i
    · rw [er, eb, ec, pc3_E.1 2044 (by decide) _ (by rw [l2]; decide) q]
      exact hp2.2 q hq
    · rw [e401, e903, cad_x hBk3.1 hypc3_hx10 tu f h4 hf, cad_x hBk5.1 hypc5_hx10 tk5 f h4 hf] at q9
      have z1 := cad_ok hBk3.1 tu f h4 hf
      rw [q9] at z1
      exact z1 (hp3.2.1 f h4 hf)
    · rw [e903]
      exact TZ_x hBk5.1 hypc5_hx10 tk5 pc5_E.1 hp3.2.2
    · rw [e903, w4]
      exact WZ_x hBk7.1 hypc7_hx10 tk7 (zxt_ty hs4 tk5 (by decide)) pc7_E hp4.2.2
    · rw [w4, w5]; exact fun q => d45 18 (by decide) q
    · intro f hf; rw [w4, w5]; exact d45 f hf
    · rw [w4, w6]; exact fun q => d46 18 (by decide) q
    · intro f hf; rw [w4, w6]; exact d46 f hf
    · rw [w5, w6]; exact fun q => d56 18 (by decide) q
    · intro f hf; rw [w5, w6]; exact d56 f hf
    · rw [w7, w6, zxt_fr z7 (by rw [tn81e]; decide)]; exact hp7.2
    · rw [eG]; exact zag_at (t := 9) (k := 10) (by decide)
    · rw [eG]; exact zag_at (t := 9) (k := 11) (by decide)
  exact v_ret (Γ0 := Γ) (zCv_x C hx10) hr hlk dX8_init_119 hx10 hBe th0 hpost

/-- a telling as it is made, in numbers -/
def cA : aS := fun f j => if f = 12 then 100 else if f = 13 then 5 else 0
theorem cA_z : sZ cA := ⟨fun _ => rfl, fun _ => rfl, fun _ => ⟨rfl, rfl⟩, rfl, rfl, rfl, rfl, rfl, rfl⟩
theorem cA_80 : ∀ j : Nat, j < 20 → ¬ ((j : Int) < 4 * cA 4 1 ∧ (j : Int) % 4 < cA 4 0) → cA 8 j = 0 := fun _ _ _ => rfl
theorem kR_0b {Γ : zΓ} {w : Nat} {A : aS} {G G1 : zH} (hL : zLok Γ) (tw : Γ.1 w = 10) (hA : sZ A) (hz : gZ Γ w G) (hk : KPT Γ w (zno Γ G) G1) : kR Γ w A G1 := by
  obtain ⟨a4, a8, a16, a20, a21, a12, a13, a14, a15⟩ := hA
  obtain ⟨z1, z2, z3, z4, z5, z6, z7, z8, z9, z10, z11, z12⟩ := hz
  obtain ⟨k12, k13, k14, k15, k16, k59, k61, k62, k63, k64, k65, k66, k67, k68, k69, k70, k71, k72, k73, k74, k75, k76⟩ := hk
  have w0 : Γ.1 w ≠ 0 := by rw [tw]; decide
  have h22 : Γ.1 (Γ.2.1 w 22) ≠ 0 := by rw [hL.2.2 10 22 w tw (by decide)]; decide
  have h34 : Γ.1 (Γ.2.1 w 34) ≠ 0 := by rw [hL.2.2 10 34 w tw (by decide)]; decide
  unfold kR
  rw [a4 0, a4 1, a4 2, a4 3, a20]
  refine ⟨⟨?_, ?_, ?_, ?_, ?_⟩, by decide, fun j hj => by omega, fun j hj => by omega, fun j hj => by omega, fun j _ _ => a8 j, fun j hj => by omega, fun j hj => by omega, fun j hj => ?_, fun j hj => ?_, fun j hj => by omega⟩
  · rw [k12, zno_1 w0]; exact z1
  · rw [k13, zno_1 w0]; exact z2
  · rw [k14, zno_1 w0]; exact z3
  · rw [k15, zno_1 w0]; exact z4
  · rw [k16, zno_1 w0]; exact z5
  · rw [k59 j hj, zno_1 h22]
    rcases (show j = 0 ∨ j = 1 ∨ j = 2 ∨ j = 3 by omega) with rfl | rfl | rfl | rfl
    · exact z7.trans a12.symm
    · exact z8.trans a13.symm
    · exact z9.trans a14.symm
    · exact z10.trans a15.symm
  · rw [k71 j hj, zno_1 h34, (a16 j).1, (a16 j).2, if_neg (by decide)]
    exact ⟨z12 (7 + j) (by omega) (by omega), fun q => absurd q (by decide)⟩
theorem kR_z {Γ : zΓ} {w : Nat} {A B : aS} {G : zH} (hA : sZ A) (hB : sZ B) (h : kR Γ w A G) : kR Γ w B G := by
  obtain ⟨a4, a8, a16, a20, a21, a12, a13, a14, a15⟩ := hA
  obtain ⟨b4, b8, b16, b20, b21, b12, b13, b14, b15⟩ := hB
  unfold kR at h ⊢
  rw [a4 0, a4 1, a4 2, a4 3, a20] at h
  rw [b4 0, b4 1, b4 2, b4 3, b20]
  obtain ⟨k1, -, -, -, -, -, -, -, k7, k8, -⟩ := h
  refine ⟨k1, by decide, fun j hj => by omega, fun j hj => by omega, fun j hj => by omega, fun j _ _ => b8 j, fun j hj => by omega, fun j hj => by omega, fun j hj => ?_, fun j hj => ?_, fun j hj => by omega⟩
  · have q := k7 j hj
    rcases (show j = 0 ∨ j = 1 ∨ j = 2 ∨ j = 3 by omega) with rfl | rfl | rfl | rfl
    · exact q.trans (a12.trans b12.symm)
    · exact q.trans (a13.trans b13.symm)
    · exact q.trans (a14.trans b14.symm)
    · exact q.trans (a15.trans b15.symm)
  · have q := k8 j hj
    rw [(a16 j).1, (a16 j).2] at q
    rw [(b16 j).1, (b16 j).2]
    exact q
set_option maxHeartbeats 4000000 in
set_option maxRecDepth 100000 in
theorem c_X9_initW {l : Launch} {b : Nat} {Γ : zΓ} {G : zH} {X : va_W} {h0 : Nat} (hX : zXs Γ) : zMi l yX9_init cX9_init 1 3 51 5897 b Γ G X 10 h0 [] (fun _ => True) (fun Γ' G' => MI Γ' h0 G' ∧ G'.1 1001 h0 0 = 0 ∧ G'.1 1004 h0 0 = 0 ∧ G'.1 1005 h0 0 = -1 ∧ (∀ i : Nat, G'.1 2057 (Γ'.2.1 h0 0) i = 0) ∧ zpy [2044, 2055, 901, 912, 913, 2037, 2036, 2038, 2039, 2040, 2041, 2042, 2043, 609, 610, 611, 612, 2016, 2017, 2014, 2015, 206, 207, 510, 2026, 2027, 2028, 2029, 2030, 2031, 2032, 2033, 2034, 2035, 2048, 2049, 2050, 2051, 2052, 2053, 2054, 809, 810, 811, 812, 813, 910, 911] Γ G G' ∧ (∀ A : aS, sZ A → kR Γ' h0 A G') ∧ (∀ W : aS, wBeg cA W → rW Γ' h0 0 W G' ∧ rS Γ' h0 W G' ∧ rD h0 W G') ∧ G'.1 1084 h0 0 = 0 ∧ G'.1 1086 h0 0 = 0) := by
  refine zMi_of RX9 hX (by decide) rfl rfl (Nat.le_of_ble_eq_true rfl) ?_
  intro p e s m args below meth c C hr hlk hin hB hav hT
  show V p l e (zrC 3 51 5897) s m args below meth c b Γ.2.2.2.1 1 0 0 (MQ below (zQi b Γ X 10 h0 (fun Γ' G' => MI Γ' h0 G' ∧ G'.1 1001 h0 0 = 0 ∧ G'.1 1004 h0 0 = 0 ∧ G'.1 1005 h0 0 = -1 ∧ (∀ i : Nat, G'.1 2057 (Γ'.2.1 h0 0) i = 0) ∧ zpy [2044, 2055, 901, 912, 913, 2037, 2036, 2038, 2039, 2040, 2041, 2042, 2043, 609, 610, 611, 612, 2016, 2017, 2014, 2015, 206, 207, 510, 2026, 2027, 2028, 2029, 2030, 2031, 2032, 2033, 2034, 2035, 2048, 2049, 2050, 2051, 2052, 2053, 2054, 809, 810, 811, 812, 813, 910, 911] Γ G G' ∧ (∀ A : aS, sZ A → kR Γ' h0 A G') ∧ (∀ W : aS, wBeg cA W → rW Γ' h0 0 W G' ∧ rS Γ' h0 W G' ∧ rD h0 W G') ∧ G'.1 1084 h0 0 = 0 ∧ G'.1 1086 h0 0 = 0)) args s 51 5897 (zAb b)) 0 [some (zr 10 h0)] [] ((h0, zOb 10 (fun _ => false) (fun _ => 0) (fun _ => 0)) :: (X ++ zWd Γ G))
  refine v_fresh hB (fun fh0 => ?_)
  have hx0 : zxt Γ Γ := zxt_rf
  have hO : zOk Γ 10 (fun _ => false) (fun _ => 0) := zOk_0
  refine v_aload_n (pc := 0) C dX9_init_0 rfl ?_
  refine v_obj (pc := 1) C dX9_init_1 ol_X9 oi_ oc_ ⟨Nat.le_of_ble_eq_true rfl, Nat.le_of_ble_eq_true rfl⟩ (Nat.le_of_ble_eq_true rfl) ?_
  refine v_aload_n (pc := 4) C dX9_init_4 rfl ?_
  refine v_sipush (pc := 5) C dX9_init_5 (by decide) ?_
  refine v_newi0 (pc := 8) C hx0 hB 57 dX9_init_8 ac_int a_57 rfl (by decide) (by decide) ⟨Nat.le_of_ble_eq_true rfl, Nat.le_of_ble_eq_true rfl⟩ (fun Γ1 q1 fq1 hs1 hB1 tq1 => ?_)
  have fz0 := zxt_0 hx0 fq1
  have ez0 : q1 = q1 := rfl
  have hx1 := zxt_tr hx0 hs1
  replace hO := zOk_x hs1 hO
  refine v_putr (pc := 10) (k := 0) C hin dX9_init_10 fl_X9_7 rfl (by decide) (by decide) ?_
  replace hO := zOk_s (k := 0) hO (by decide) (by decide) tq1
  refine v_aload_n (pc := 13) C dX9_init_13 rfl ?_
  refine v_bipush (pc := 14) C dX9_init_14 (by decide) ?_
  refine v_newx (pc := 16) C dX9_init_16 ac_int rfl (by decide) ⟨Nat.le_of_ble_eq_true rfl, Nat.le_of_ble_eq_true rfl⟩ (fun qw => ?_)
  refine v_word5 (pc := 18) (k := 0) C dX9_init_18 dX9_init_19 dX9_init_20 dX9_init_22 (by decide) rfl (by decide) (by decide +kernel) ?_
  refine v_word5 (pc := 23) (k := 1) C dX9_init_23 dX9_init_24 dX9_init_25 dX9_init_27 (by decide) rfl (by decide) (by decide +kernel) ?_
  refine v_word5 (pc := 28) (k := 2) C dX9_init_28 dX9_init_29 dX9_init_30 dX9_init_32 (by decide) rfl (by decide) (by decide +kernel) ?_
  refine v_word5 (pc := 33) (k := 3) C dX9_init_33 dX9_init_34 dX9_init_35 dX9_init_37 (by decide) rfl (by decide) (by decide +kernel) ?_
  refine v_word5 (pc := 38) (k := 4) C dX9_init_38 dX9_init_39 dX9_init_40 dX9_init_42 (by decide) rfl (by decide) (by decide +kernel) ?_
  refine v_word5 (pc := 43) (k := 5) C dX9_init_43 dX9_init_44 dX9_init_45 dX9_init_47 (by decide) rfl (by decide) (by decide +kernel) ?_
  refine v_word6 (pc := 48) (k := 6) C dX9_init_48 dX9_init_49 dX9_init_51 dX9_init_53 (by decide) (by decide) rfl (by decide) (by decide +kernel) ?_
  refine v_word6 (pc := 54) (k := 7) C dX9_init_54 dX9_init_55 dX9_init_57 dX9_init_59 (by decide) (by decide) rfl (by decide) (by decide +kernel) ?_
  refine v_word6 (pc := 60) (k := 8) C dX9_init_60 dX9_init_61 dX9_init_63 dX9_init_65 (by decide) (by decide) rfl (by decide) (by decide +kernel) ?_
  refine v_word6 (pc := 66) (k := 9) C dX9_init_66 dX9_init_67 dX9_init_69 dX9_init_71 (by decide) (by decide) rfl (by decide) (by decide +kernel) ?_
  refine v_word6 (pc := 72) (k := 10) C dX9_init_72 dX9_init_73 dX9_init_75 dX9_init_77 (by decide) (by decide) rfl (by decide) (by decide +kernel) ?_
  refine v_word6 (pc := 78) (k := 11) C dX9_init_78 dX9_init_79 dX9_init_81 dX9_init_83 (by decide) (by decide) rfl (by decide) (by decide +kernel) ?_
  refine v_word6 (pc := 84) (k := 12) C dX9_init_84 dX9_init_85 dX9_init_87 dX9_init_89 (by decide) (by decide) rfl (by decide) (by decide +kernel) ?_
  refine v_word6 (pc := 90) (k := 13) C dX9_init_90 dX9_init_91 dX9_init_93 dX9_init_95 (by decide) (by decide) rfl (by decide) (by decide +kernel) ?_
  refine v_word6 (pc := 96) (k := 14) C dX9_init_96 dX9_init_97 dX9_init_99 dX9_init_101 (by decide) (by decide) rfl (by decide) (by decide +kernel) ?_
  refine v_word6 (pc := 102) (k := 15) C dX9_init_102 dX9_init_103 dX9_init_105 dX9_init_107 (by decide) (by decide) rfl (by decide) (by decide +kernel) ?_
  refine v_word6 (pc := 108) (k := 16) C dX9_init_108 dX9_init_109 dX9_init_111 dX9_init_113 (by decide) (by decide) rfl (by decide) (by decide +kernel) ?_
  refine v_word6 (pc := 114) (k := 17) C dX9_init_114 dX9_init_115 dX9_init_117 dX9_init_119 (by decide) (by decide) rfl (by decide) (by decide +kernel) ?_
  refine v_word6 (pc := 120) (k := 18) C dX9_init_120 dX9_init_121 dX9_init_123 dX9_init_125 (by decide) (by decide) rfl (by decide) (by decide +kernel) ?_
  refine v_word6 (pc := 126) (k := 19) C dX9_init_126 dX9_init_127 dX9_init_129 dX9_init_131 (by decide) (by decide) rfl (by decide) (by decide +kernel) ?_
  refine v_word6 (pc := 132) (k := 20) C dX9_init_132 dX9_init_133 dX9_init_135 dX9_init_137 (by decide) (by decide) rfl (by decide) (by decide +kernel) ?_
  refine v_word6 (pc := 138) (k := 21) C dX9_init_138 dX9_init_139 dX9_init_141 dX9_init_143 (by decide) (by decide) rfl (by decide) (by decide +kernel) ?_
  refine v_word6 (pc := 144) (k := 22) C dX9_init_144 dX9_init_145 dX9_init_147 dX9_init_149 (by decide) (by decide) rfl (by decide) (by decide +kernel) ?_
  refine v_word6 (pc := 150) (k := 23) C dX9_init_150 dX9_init_151 dX9_init_153 dX9_init_155 (by decide) (by decide) rfl (by decide) (by decide +kernel) ?_
  refine v_word6 (pc := 156) (k := 24) C dX9_init_156 dX9_init_157 dX9_init_159 dX9_init_161 (by decide) (by decide) rfl (by decide) (by decide +kernel) ?_
  refine v_word6 (pc := 162) (k := 25) C dX9_init_162 dX9_init_163 dX9_init_165 dX9_init_167 (by decide) (by decide) rfl (by decide) (by decide +kernel) ?_
  refine v_word6 (pc := 168) (k := 26) C dX9_init_168 dX9_init_169 dX9_init_171 dX9_init_173 (by decide) (by decide) rfl (by decide) (by decide +kernel) ?_
  refine v_word6 (pc := 174) (k := 27) C dX9_init_174 dX9_init_175 dX9_init_177 dX9_init_179 (by decide) (by decide) rfl (by decide) (by decide +kernel) ?_
  refine v_word6 (pc := 180) (k := 28) C dX9_init_180 dX9_init_181 dX9_init_183 dX9_init_185 (by decide) (by decide) rfl (by decide) (by decide +kernel) ?_
  refine v_word6 (pc := 186) (k := 29) C dX9_init_186 dX9_init_187 dX9_init_189 dX9_init_191 (by decide) (by decide) rfl (by decide) (by decide +kernel) ?_
  refine v_word6 (pc := 192) (k := 30) C dX9_init_192 dX9_init_193 dX9_init_195 dX9_init_197 (by decide) (by decide) rfl (by decide) (by decide +kernel) ?_
  refine v_word6 (pc := 198) (k := 31) C dX9_init_198 dX9_init_199 dX9_init_201 dX9_init_203 (by decide) (by decide) rfl (by decide) (by decide +kernel) ?_
  refine v_word6 (pc := 204) (k := 32) C dX9_init_204 dX9_init_205 dX9_init_207 dX9_init_209 (by decide) (by decide) rfl (by decide) (by decide +kernel) ?_
  refine v_word6 (pc := 210) (k := 33) C dX9_init_210 dX9_init_211 dX9_init_213 dX9_init_215 (by decide) (by decide) rfl (by decide) (by decide +kernel) ?_
  refine v_word6 (pc := 216) (k := 34) C dX9_init_216 dX9_init_217 dX9_init_219 dX9_init_221 (by decide) (by decide) rfl (by decide) (by decide +kernel) ?_
  refine v_word6 (pc := 222) (k := 35) C dX9_init_222 dX9_init_223 dX9_init_225 dX9_init_227 (by decide) (by decide) rfl (by decide) (by decide +kernel) ?_
  refine v_word6 (pc := 228) (k := 36) C dX9_init_228 dX9_init_229 dX9_init_231 dX9_init_233 (by decide) (by decide) rfl (by decide) (by decide +kernel) ?_
  refine v_word6 (pc := 234) (k := 37) C dX9_init_234 dX9_init_235 dX9_init_237 dX9_init_239 (by decide) (by decide) rfl (by decide) (by decide +kernel) ?_
  refine v_word6 (pc := 240) (k := 38) C dX9_init_240 dX9_init_241 dX9_init_243 dX9_init_245 (by decide) (by decide) rfl (by decide) (by decide +kernel) ?_
  refine v_word6 (pc := 246) (k := 39) C dX9_init_246 dX9_init_247 dX9_init_249 dX9_init_251 (by decide) (by decide) rfl (by decide) (by decide +kernel) ?_
  refine v_word6 (pc := 252) (k := 40) C dX9_init_252 dX9_init_253 dX9_init_255 dX9_init_257 (by decide) (by decide) rfl (by decide) (by decide +kernel) ?_
  refine v_word6 (pc := 258) (k := 41) C dX9_init_258 dX9_init_259 dX9_init_261 dX9_init_263 (by decide) (by decide) rfl (by decide) (by decide +kernel) ?_
  refine v_word6 (pc := 264) (k := 42) C dX9_init_264 dX9_init_265 dX9_init_267 dX9_init_269 (by decide) (by decide) rfl (by decide) (by decide +kernel) ?_
  refine v_word6 (pc := 270) (k := 43) C dX9_init_270 dX9_init_271 dX9_init_273 dX9_init_275 (by decide) (by decide) rfl (by decide) (by decide +kernel) ?_
  refine v_word6 (pc := 276) (k := 44) C dX9_init_276 dX9_init_277 dX9_init_279 dX9_init_281 (by decide) (by decide) rfl (by decide) (by decide +kernel) ?_
  refine v_word6 (pc := 282) (k := 45) C dX9_init_282 dX9_init_283 dX9_init_285 dX9_init_287 (by decide) (by decide) rfl (by decide) (by decide +kernel) ?_
  refine v_word6 (pc := 288) (k := 46) C dX9_init_288 dX9_init_289 dX9_init_291 dX9_init_293 (by decide) (by decide) rfl (by decide) (by decide +kernel) ?_
  refine v_word6 (pc := 294) (k := 47) C dX9_init_294 dX9_init_295 dX9_init_297 dX9_init_299 (by decide) (by decide) rfl (by decide) (by decide +kernel) ?_
  refine v_word6 (pc := 300) (k := 48) C dX9_init_300 dX9_init_301 dX9_init_303 dX9_init_305 (by decide) (by decide) rfl (by decide) (by decide +kernel) ?_
  refine v_word6 (pc := 306) (k := 49) C dX9_init_306 dX9_init_307 dX9_init_309 dX9_init_311 (by decide) (by decide) rfl (by decide) (by decide +kernel) ?_
  refine v_word6 (pc := 312) (k := 50) C dX9_init_312 dX9_init_313 dX9_init_315 dX9_init_317 (by decide) (by decide) rfl (by decide) (by decide +kernel) ?_
  refine v_word6 (pc := 318) (k := 51) C dX9_init_318 dX9_init_319 dX9_init_321 dX9_init_323 (by decide) (by decide) rfl (by decide) (by decide +kernel) ?_
  refine v_word6 (pc := 324) (k := 52) C dX9_init_324 dX9_init_325 dX9_init_327 dX9_init_329 (by decide) (by decide) rfl (by decide) (by decide +kernel) ?_
  refine v_word6 (pc := 330) (k := 53) C dX9_init_330 dX9_init_331 dX9_init_333 dX9_init_335 (by decide) (by decide) rfl (by decide) (by decide +kernel) ?_
  refine v_word6 (pc := 336) (k := 54) C dX9_init_336 dX9_init_337 dX9_init_339 dX9_init_341 (by decide) (by decide) rfl (by decide) (by decide +kernel) ?_
  refine v_word6 (pc := 342) (k := 55) C dX9_init_342 dX9_init_343 dX9_init_345 dX9_init_347 (by decide) (by decide) rfl (by decide) (by decide +kernel) ?_
  refine v_word6 (pc := 348) (k := 56) C dX9_init_348 dX9_init_349 dX9_init_351 dX9_init_353 (by decide) (by decide) rfl (by decide) (by decide +kernel) ?_
  refine v_word6 (pc := 354) (k := 57) C dX9_init_354 dX9_init_355 dX9_init_357 dX9_init_359 (by decide) (by decide) rfl (by decide) (by decide +kernel) ?_
  refine v_word6 (pc := 360) (k := 58) C dX9_init_360 dX9_init_361 dX9_init_363 dX9_init_365 (by decide) (by decide) rfl (by decide) (by decide +kernel) ?_
  refine v_word6 (pc := 366) (k := 59) C dX9_init_366 dX9_init_367 dX9_init_369 dX9_init_371 (by decide) (by decide) rfl (by decide) (by decide +kernel) ?_
  refine v_word6 (pc := 372) (k := 60) C dX9_init_372 dX9_init_373 dX9_init_375 dX9_init_377 (by decide) (by decide) rfl (by decide) (by decide +kernel) ?_
  refine v_word6 (pc := 378) (k := 61) C dX9_init_378 dX9_init_379 dX9_init_381 dX9_init_383 (by decide) (by decide) rfl (by decide) (by decide +kernel) ?_
  refine v_word6 (pc := 384) (k := 62) C dX9_init_384 dX9_init_385 dX9_init_387 dX9_init_389 (by decide) (by decide) rfl (by decide) (by decide +kernel) ?_
  refine v_word6 (pc := 390) (k := 63) C dX9_init_390 dX9_init_391 dX9_init_393 dX9_init_395 (by decide) (by decide) rfl (by decide) (by decide +kernel) ?_
  refine v_word6 (pc := 396) (k := 64) C dX9_init_396 dX9_init_397 dX9_init_399 dX9_init_401 (by decide) (by decide) rfl (by decide) (by decide +kernel) ?_
  refine v_word6 (pc := 402) (k := 65) C dX9_init_402 dX9_init_403 dX9_init_405 dX9_init_407 (by decide) (by decide) rfl (by decide) (by decide +kernel) ?_
  refine v_word6 (pc := 408) (k := 66) C dX9_init_408 dX9_init_409 dX9_init_411 dX9_init_413 (by decide) (by decide) rfl (by decide) (by decide +kernel) ?_
  refine v_word6 (pc := 414) (k := 67) C dX9_init_414 dX9_init_415 dX9_init_417 dX9_init_419 (by decide) (by decide) rfl (by decide) (by decide +kernel) ?_
  refine v_word6 (pc := 420) (k := 68) C dX9_init_420 dX9_init_421 dX9_init_423 dX9_init_425 (by decide) (by decide) rfl (by decide) (by decide +kernel) ?_
  refine v_word6 (pc := 426) (k := 69) C dX9_init_426 dX9_init_427 dX9_init_429 dX9_init_431 (by decide) (by decide) rfl (by decide) (by decide +kernel) ?_
  refine v_word6 (pc := 432) (k := 70) C dX9_init_432 dX9_init_433 dX9_init_435 dX9_init_437 (by decide) (by decide) rfl (by decide) (by decide +kernel) ?_
  refine v_word6 (pc := 438) (k := 71) C dX9_init_438 dX9_init_439 dX9_init_441 dX9_init_443 (by decide) (by decide) rfl (by decide) (by decide +kernel) ?_
  refine v_word6 (pc := 444) (k := 72) C dX9_init_444 dX9_init_445 dX9_init_447 dX9_init_449 (by decide) (by decide) rfl (by decide) (by decide +kernel) ?_
  refine v_word6 (pc := 450) (k := 73) C dX9_init_450 dX9_init_451 dX9_init_453 dX9_init_455 (by decide) (by decide) rfl (by decide) (by decide +kernel) ?_
  refine v_word6 (pc := 456) (k := 74) C dX9_init_456 dX9_init_457 dX9_init_459 dX9_init_461 (by decide) (by decide) rfl (by decide) (by decide +kernel) ?_
  refine v_word6 (pc := 462) (k := 75) C dX9_init_462 dX9_init_463 dX9_init_465 dX9_init_467 (by decide) (by decide) rfl (by decide) (by decide +kernel) ?_
  refine v_word6 (pc := 468) (k := 76) C dX9_init_468 dX9_init_469 dX9_init_471 dX9_init_473 (by decide) (by decide) rfl (by decide) (by decide +kernel) ?_
  refine v_word6 (pc := 474) (k := 77) C dX9_init_474 dX9_init_475 dX9_init_477 dX9_init_479 (by decide) (by decide) rfl (by decide) (by decide +kernel) ?_
  refine v_word6 (pc := 480) (k := 78) C dX9_init_480 dX9_init_481 dX9_init_483 dX9_init_485 (by decide) (by decide) rfl (by decide) (by decide +kernel) ?_
  refine v_word6 (pc := 486) (k := 79) C dX9_init_486 dX9_init_487 dX9_init_489 dX9_init_491 (by decide) (by decide) rfl (by decide) (by decide +kernel) ?_
  refine v_word6 (pc := 492) (k := 80) C dX9_init_492 dX9_init_493 dX9_init_495 dX9_init_497 (by decide) (by decide) rfl (by decide) (by decide +kernel) ?_
  refine v_word6 (pc := 498) (k := 81) C dX9_init_498 dX9_init_499 dX9_init_501 dX9_init_503 (by decide) (by decide) rfl (by decide) (by decide +kernel) ?_
  refine v_word6 (pc := 504) (k := 82) C dX9_init_504 dX9_init_505 dX9_init_507 dX9_init_509 (by decide) (by decide) rfl (by decide) (by decide +kernel) ?_
  refine v_word6 (pc := 510) (k := 83) C dX9_init_510 dX9_init_511 dX9_init_513 dX9_init_515 (by decide) (by decide) rfl (by decide) (by decide +kernel) ?_
  refine v_word6 (pc := 516) (k := 84) C dX9_init_516 dX9_init_517 dX9_init_519 dX9_init_521 (by decide) (by decide) rfl (by decide) (by decide +kernel) ?_
  refine v_word6 (pc := 522) (k := 85) C dX9_init_522 dX9_init_523 dX9_init_525 dX9_init_527 (by decide) (by decide) rfl (by decide) (by decide +kernel) ?_
  refine v_word6 (pc := 528) (k := 86) C dX9_init_528 dX9_init_529 dX9_init_531 dX9_init_533 (by decide) (by decide) rfl (by decide) (by decide +kernel) ?_
  refine v_word6 (pc := 534) (k := 87) C dX9_init_534 dX9_init_535 dX9_init_537 dX9_init_539 (by decide) (by decide) rfl (by decide) (by decide +kernel) ?_
  refine v_word6 (pc := 540) (k := 88) C dX9_init_540 dX9_init_541 dX9_init_543 dX9_init_545 (by decide) (by decide) rfl (by decide) (by decide +kernel) ?_
  refine v_word6 (pc := 546) (k := 89) C dX9_init_546 dX9_init_547 dX9_init_549 dX9_init_551 (by decide) (by decide) rfl (by decide) (by decide +kernel) ?_
  refine v_word6 (pc := 552) (k := 90) C dX9_init_552 dX9_init_553 dX9_init_555 dX9_init_557 (by decide) (by decide) rfl (by decide) (by decide +kernel) ?_
  refine v_word6 (pc := 558) (k := 91) C dX9_init_558 dX9_init_559 dX9_init_561 dX9_init_563 (by decide) (by decide) rfl (by decide) (by decide +kernel) ?_
  refine v_word6 (pc := 564) (k := 92) C dX9_init_564 dX9_init_565 dX9_init_567 dX9_init_569 (by decide) (by decide) rfl (by decide) (by decide +kernel) ?_
  refine v_word6 (pc := 570) (k := 93) C dX9_init_570 dX9_init_571 dX9_init_573 dX9_init_575 (by decide) (by decide) rfl (by decide) (by decide +kernel) ?_
  refine v_word6 (pc := 576) (k := 94) C dX9_init_576 dX9_init_577 dX9_init_579 dX9_init_581 (by decide) (by decide) rfl (by decide) (by decide +kernel) ?_
  refine v_word6 (pc := 582) (k := 95) C dX9_init_582 dX9_init_583 dX9_init_585 dX9_init_587 (by decide) (by decide) rfl (by decide) (by decide +kernel) ?_
  refine v_word6 (pc := 588) (k := 96) C dX9_init_588 dX9_init_589 dX9_init_591 dX9_init_593 (by decide) (by decide) rfl (by decide) (by decide +kernel) ?_
  refine v_word6 (pc := 594) (k := 97) C dX9_init_594 dX9_init_595 dX9_init_597 dX9_init_599 (by decide) (by decide) rfl (by decide) (by decide +kernel) ?_
  refine v_word6 (pc := 600) (k := 98) C dX9_init_600 dX9_init_601 dX9_init_603 dX9_init_605 (by decide) (by decide) rfl (by decide) (by decide +kernel) ?_
  refine v_word6 (pc := 606) (k := 99) C dX9_init_606 dX9_init_607 dX9_init_609 dX9_init_611 (by decide) (by decide) rfl (by decide) (by decide +kernel) ?_
  refine v_word6 (pc := 612) (k := 100) C dX9_init_612 dX9_init_613 dX9_init_615 dX9_init_617 (by decide) (by decide) rfl (by decide) (by decide +kernel) ?_
  refine v_word6 (pc := 618) (k := 101) C dX9_init_618 dX9_init_619 dX9_init_621 dX9_init_623 (by decide) (by decide) rfl (by decide) (by decide +kernel) ?_
  refine v_word6 (pc := 624) (k := 102) C dX9_init_624 dX9_init_625 dX9_init_627 dX9_init_629 (by decide) (by decide) rfl (by decide) (by decide +kernel) ?_
  refine v_word6 (pc := 630) (k := 103) C dX9_init_630 dX9_init_631 dX9_init_633 dX9_init_635 (by decide) (by decide) rfl (by decide) (by decide +kernel) ?_
  refine v_word6 (pc := 636) (k := 104) C dX9_init_636 dX9_init_637 dX9_init_639 dX9_init_641 (by decide) (by decide) rfl (by decide) (by decide +kernel) ?_
  refine v_word6 (pc := 642) (k := 105) C dX9_init_642 dX9_init_643 dX9_init_645 dX9_init_647 (by decide) (by decide) rfl (by decide) (by decide +kernel) ?_
  refine v_word6 (pc := 648) (k := 106) C dX9_init_648 dX9_init_649 dX9_init_651 dX9_init_653 (by decide) (by decide) rfl (by decide) (by decide +kernel) ?_
  refine v_word6 (pc := 654) (k := 107) C dX9_init_654 dX9_init_655 dX9_init_657 dX9_init_659 (by decide) (by decide) rfl (by decide) (by decide +kernel) ?_
  refine v_word6 (pc := 660) (k := 108) C dX9_init_660 dX9_init_661 dX9_init_663 dX9_init_665 (by decide) (by decide) rfl (by decide) (by decide +kernel) ?_
  refine v_word6 (pc := 666) (k := 109) C dX9_init_666 dX9_init_667 dX9_init_669 dX9_init_671 (by decide) (by decide) rfl (by decide) (by decide +kernel) ?_
  refine v_word6 (pc := 672) (k := 110) C dX9_init_672 dX9_init_673 dX9_init_675 dX9_init_677 (by decide) (by decide) rfl (by decide) (by decide +kernel) ?_
  refine v_word6 (pc := 678) (k := 111) C dX9_init_678 dX9_init_679 dX9_init_681 dX9_init_683 (by decide) (by decide) rfl (by decide) (by decide +kernel) ?_
  refine v_word6 (pc := 684) (k := 112) C dX9_init_684 dX9_init_685 dX9_init_687 dX9_init_689 (by decide) (by decide) rfl (by decide) (by decide +kernel) ?_
  refine v_word6 (pc := 690) (k := 113) C dX9_init_690 dX9_init_691 dX9_init_693 dX9_init_695 (by decide) (by decide) rfl (by decide) (by decide +kernel) ?_
  refine v_word6 (pc := 696) (k := 114) C dX9_init_696 dX9_init_697 dX9_init_699 dX9_init_701 (by decide) (by decide) rfl (by decide) (by decide +kernel) ?_
  refine v_word6 (pc := 702) (k := 115) C dX9_init_702 dX9_init_703 dX9_init_705 dX9_init_707 (by decide) (by decide) rfl (by decide) (by decide +kernel) ?_
  refine v_word6 (pc := 708) (k := 116) C dX9_init_708 dX9_init_709 dX9_init_711 dX9_init_713 (by decide) (by decide) rfl (by decide) (by decide +kernel) ?_
  refine v_word6 (pc := 714) (k := 117) C dX9_init_714 dX9_init_715 dX9_init_717 dX9_init_719 (by decide) (by decide) rfl (by decide) (by decide +kernel) ?_
  refine v_word6 (pc := 720) (k := 118) C dX9_init_720 dX9_init_721 dX9_init_723 dX9_init_725 (by decide) (by decide) rfl (by decide) (by decide +kernel) ?_
  refine v_word6 (pc := 726) (k := 119) C dX9_init_726 dX9_init_727 dX9_init_729 dX9_init_731 (by decide) (by decide) rfl (by decide) (by decide +kernel) ?_
  refine v_word6 (pc := 732) (k := 120) C dX9_init_732 dX9_init_733 dX9_init_735 dX9_init_737 (by decide) (by decide) rfl (by decide) (by decide +kernel) ?_
  refine v_words (Γ0 := Γ) hx1 hB1 (fun Γw hsw hBw tqw => ?_)
  have hx2 := zxt_tr hx1 hsw
  replace hO := zOk_x hsw hO
  refine v_putr (pc := 738) (k := 3) C hin dX9_init_738 fl_X9_13 rfl (by decide) (by decide) ?_
  replace hO := zOk_s (k := 3) hO (by decide) (by decide) tqw
  refine v_aload_n (pc := 741) C dX9_init_741 rfl ?_
  refine v_iconst (pc := 742) C dX9_init_742 ?_
  refine v_puti (pc := 743) (k := 5) C dX9_init_743 fl_X9_16 f_10_5 ?_
  refine v_aload_n (pc := 746) C dX9_init_746 rfl ?_
  refine v_bipush (pc := 747) C dX9_init_747 (by decide) ?_
  refine v_newi0 (pc := 749) C hx2 hBw 59 dX9_init_749 ac_int a_59 rfl (by decide) (by decide) ⟨Nat.le_of_ble_eq_true rfl, Nat.le_of_ble_eq_true rfl⟩ (fun Γ3 q3 fq3 hs3 hB3 tq3 => ?_)
  have hx3 := zxt_tr hx2 hs3
  replace hO := zOk_x hs3 hO
  refine v_putr (pc := 751) (k := 22) C hin dX9_init_751 fl_X9_20 rfl (by decide) (by decide) ?_
  replace hO := zOk_s (k := 22) hO (by decide) (by decide) tq3
  refine v_aload_n (pc := 754) C dX9_init_754 rfl ?_
  refine v_iconst (pc := 755) C dX9_init_755 ?_
  refine v_newz0 (pc := 756) C hx3 hB3 60 dX9_init_756 ac_boolean a_60 rfl (by decide) (by decide) ⟨Nat.le_of_ble_eq_true rfl, Nat.le_of_ble_eq_true rfl⟩ (fun Γ4 q4 fq4 hs4 hB4 tq4 => ?_)
  have hx4 := zxt_tr hx3 hs4
  replace hO := zOk_x hs4 hO
  refine v_putr (pc := 758) (k := 23) C hin dX9_init_758 fl_X9_23 rfl (by decide) (by decide) ?_
  replace hO := zOk_s (k := 23) hO (by decide) (by decide) tq4
  refine v_aload_n (pc := 761) C dX9_init_761 rfl ?_
  refine v_bipush (pc := 762) C dX9_init_762 (by decide) ?_
  refine v_newi0 (pc := 764) C hx4 hB4 61 dX9_init_764 ac_int a_61 rfl (by decide) (by decide) ⟨Nat.le_of_ble_eq_true rfl, Nat.le_of_ble_eq_true rfl⟩ (fun Γ5 q5 fq5 hs5 hB5 tq5 => ?_)
  have hx5 := zxt_tr hx4 hs5
  replace hO := zOk_x hs5 hO
  refine v_putr (pc := 766) (k := 24) C hin dX9_init_766 fl_X9_27 rfl (by decide) (by decide) ?_
  replace hO := zOk_s (k := 24) hO (by decide) (by decide) tq5
  refine v_aload_n (pc := 769) C dX9_init_769 rfl ?_
  refine v_bipush (pc := 770) C dX9_init_770 (by decide) ?_
  refine v_newi0 (pc := 772) C hx5 hB5 62 dX9_init_772 ac_int a_62 rfl (by decide) (by decide) ⟨Nat.le_of_ble_eq_true rfl, Nat.le_of_ble_eq_true rfl⟩ (fun Γ6 q6 fq6 hs6 hB6 tq6 => ?_)
  have hx6 := zxt_tr hx5 hs6
  replace hO := zOk_x hs6 hO
  refine v_putr (pc := 774) (k := 25) C hin dX9_init_774 fl_X9_30 rfl (by decide) (by decide) ?_
  replace hO := zOk_s (k := 25) hO (by decide) (by decide) tq6
  refine v_aload_n (pc := 777) C dX9_init_777 rfl ?_
  refine v_bipush (pc := 778) C dX9_init_778 (by decide) ?_
  refine v_newi0 (pc := 780) C hx6 hB6 63 dX9_init_780 ac_int a_63 rfl (by decide) (by decide) ⟨Nat.le_of_ble_eq_true rfl, Nat.le_of_ble_eq_true rfl⟩ (fun Γ7 q7 fq7 hs7 hB7 tq7 => ?_)
  have hx7 := zxt_tr hx6 hs7
  replace hO := zOk_x hs7 hO
  refine v_putr (pc := 782) (k := 26) C hin dX9_init_782 fl_X9_33 rfl (by decide) (by decide) ?_
  replace hO := zOk_s (k := 26) hO (by decide) (by decide) tq7
  refine v_aload_n (pc := 785) C dX9_init_785 rfl ?_
  refine v_bipush (pc := 786) C dX9_init_786 (by decide) ?_
  refine v_newi0 (pc := 788) C hx7 hB7 64 dX9_init_788 ac_int a_64 rfl (by decide) (by decide) ⟨Nat.le_of_ble_eq_true rfl, Nat.le_of_ble_eq_true rfl⟩ (fun Γ8 q8 fq8 hs8 hB8 tq8 => ?_)
  have hx8 := zxt_tr hx7 hs8
  replace hO := zOk_x hs8 hO
  refine v_putr (pc := 790) (k := 27) C hin dX9_init_790 fl_X9_36 rfl (by decide) (by decide) ?_
  replace hO := zOk_s (k := 27) hO (by decide) (by decide) tq8
  refine v_aload_n (pc := 793) C dX9_init_793 rfl ?_
  refine v_bipush (pc := 794) C dX9_init_794 (by decide) ?_
  refine v_newi0 (pc := 796) C hx8 hB8 65 dX9_init_796 ac_int a_65 rfl (by decide) (by decide) ⟨Nat.le_of_ble_eq_true rfl, Nat.le_of_ble_eq_true rfl⟩ (fun Γ9 q9 fq9 hs9 hB9 tq9 => ?_)
  have hx9 := zxt_tr hx8 hs9
  replace hO := zOk_x hs9 hO
  refine v_putr (pc := 798) (k := 28) C hin dX9_init_798 fl_X9_39 rfl (by decide) (by decide) ?_
  replace hO := zOk_s (k := 28) hO (by decide) (by decide) tq9
  refine v_aload_n (pc := 801) C dX9_init_801 rfl ?_
  refine v_bipush (pc := 802) C dX9_init_802 (by decide) ?_
  refine v_newi0 (pc := 804) C hx9 hB9 66 dX9_init_804 ac_int a_66 rfl (by decide) (by decide) ⟨Nat.le_of_ble_eq_true rfl, Nat.le_of_ble_eq_true rfl⟩ (fun Γ10 q10 fq10 hs10 hB10 tq10 => ?_)
  have hx10 := zxt_tr hx9 hs10
  replace hO := zOk_x hs10 hO
  refine v_putr (pc := 806) (k := 29) C hin dX9_init_806 fl_X9_42 rfl (by decide) (by decide) ?_
  replace hO := zOk_s (k := 29) hO (by decide) (by decide) tq10
  refine v_aload_n (pc := 809) C dX9_init_809 rfl ?_
  refine v_bipush (pc := 810) C dX9_init_810 (by decide) ?_
  refine v_newi0 (pc := 812) C hx10 hB10 67 dX9_init_812 ac_int a_67 rfl (by decide) (by decide) ⟨Nat.le_of_ble_eq_true rfl, Nat.le_of_ble_eq_true rfl⟩ (fun Γ11 q11 fq11 hs11 hB11 tq11 => ?_)
  have hx11 := zxt_tr hx10 hs11
  replace hO := zOk_x hs11 hO
  refine v_putr (pc := 814) (k := 30) C hin dX9_init_814 fl_X9_45 rfl (by decide) (by decide) ?_
  replace hO := zOk_s (k := 30) hO (by decide) (by decide) tq11
  refine v_aload_n (pc := 817) C dX9_init_817 rfl ?_
  refine v_bipush (pc := 818) C dX9_init_818 (by decide) ?_
  refine v_newi0 (pc := 820) C hx11 hB11 68 dX9_init_820 ac_int a_68 rfl (by decide) (by decide) ⟨Nat.le_of_ble_eq_true rfl, Nat.le_of_ble_eq_true rfl⟩ (fun Γ12 q12 fq12 hs12 hB12 tq12 => ?_)
  have hx12 := zxt_tr hx11 hs12
  replace hO := zOk_x hs12 hO
  refine v_putr (pc := 822) (k := 31) C hin dX9_init_822 fl_X9_48 rfl (by decide) (by decide) ?_
  replace hO := zOk_s (k := 31) hO (by decide) (by decide) tq12
  refine v_aload_n (pc := 825) C dX9_init_825 rfl ?_
  refine v_bipush (pc := 826) C dX9_init_826 (by decide) ?_
  refine v_newi0 (pc := 828) C hx12 hB12 69 dX9_init_828 ac_int a_69 rfl (by decide) (by decide) ⟨Nat.le_of_ble_eq_true rfl, Nat.le_of_ble_eq_true rfl⟩ (fun Γ13 q13 fq13 hs13 hB13 tq13 => ?_)
  have hx13 := zxt_tr hx12 hs13
  replace hO := zOk_x hs13 hO
  refine v_putr (pc := 830) (k := 32) C hin dX9_init_830 fl_X9_51 rfl (by decide) (by decide) ?_
  replace hO := zOk_s (k := 32) hO (by decide) (by decide) tq13
  refine v_aload_n (pc := 833) C dX9_init_833 rfl ?_
  refine v_bipush (pc := 834) C dX9_init_834 (by decide) ?_
  refine v_newi0 (pc := 836) C hx13 hB13 70 dX9_init_836 ac_int a_70 rfl (by decide) (by decide) ⟨Nat.le_of_ble_eq_true rfl, Nat.le_of_ble_eq_true rfl⟩ (fun Γ14 q14 fq14 hs14 hB14 tq14 => ?_)
  have hx14 := zxt_tr hx13 hs14
  replace hO := zOk_x hs14 hO
  refine v_putr (pc := 838) (k := 33) C hin dX9_init_838 fl_X9_54 rfl (by decide) (by decide) ?_
  replace hO := zOk_s (k := 33) hO (by decide) (by decide) tq14
  refine v_aload_n (pc := 841) C dX9_init_841 rfl ?_
  refine v_bipush (pc := 842) C dX9_init_842 (by decide) ?_
  refine v_newz0 (pc := 844) C hx14 hB14 71 dX9_init_844 ac_boolean a_71 rfl (by decide) (by decide) ⟨Nat.le_of_ble_eq_true rfl, Nat.le_of_ble_eq_true rfl⟩ (fun Γ15 q15 fq15 hs15 hB15 tq15 => ?_)
  have fz34 := zxt_0 hx14 fq15
  have ez34 : q15 = q15 := rfl
  have hx15 := zxt_tr hx14 hs15
  replace hO := zOk_x hs15 hO
  refine v_putr (pc := 846) (k := 34) C hin dX9_init_846 fl_X9_57 rfl (by decide) (by decide) ?_
  replace hO := zOk_s (k := 34) hO (by decide) (by decide) tq15
  refine v_aload_n (pc := 849) C dX9_init_849 rfl ?_
  refine v_bipush (pc := 850) C dX9_init_850 (by decide) ?_
  refine v_newi0 (pc := 852) C hx15 hB15 72 dX9_init_852 ac_int a_72 rfl (by decide) (by decide) ⟨Nat.le_of_ble_eq_true rfl, Nat.le_of_ble_eq_true rfl⟩ (fun Γ16 q16 fq16 hs16 hB16 tq16 => ?_)
  have hx16 := zxt_tr hx15 hs16
  replace hO := zOk_x hs16 hO
  refine v_putr (pc := 854) (k := 35) C hin dX9_init_854 fl_X9_60 rfl (by decide) (by decide) ?_
  replace hO := zOk_s (k := 35) hO (by decide) (by decide) tq16
  refine v_aload_n (pc := 857) C dX9_init_857 rfl ?_
  refine v_bipush (pc := 858) C dX9_init_858 (by decide) ?_
  refine v_newi0 (pc := 860) C hx16 hB16 73 dX9_init_860 ac_int a_73 rfl (by decide) (by decide) ⟨Nat.le_of_ble_eq_true rfl, Nat.le_of_ble_eq_true rfl⟩ (fun Γ17 q17 fq17 hs17 hB17 tq17 => ?_)
  have hx17 := zxt_tr hx16 hs17
  replace hO := zOk_x hs17 hO
  refine v_putr (pc := 862) (k := 36) C hin dX9_init_862 fl_X9_63 rfl (by decide) (by decide) ?_
  replace hO := zOk_s (k := 36) hO (by decide) (by decide) tq17
  refine v_aload_n (pc := 865) C dX9_init_865 rfl ?_
  refine v_sipush (pc := 866) C dX9_init_866 (by decide) ?_
  refine v_newi0 (pc := 869) C hx17 hB17 74 dX9_init_869 ac_int a_74 rfl (by decide) (by decide) ⟨Nat.le_of_ble_eq_true rfl, Nat.le_of_ble_eq_true rfl⟩ (fun Γ18 q18 fq18 hs18 hB18 tq18 => ?_)
  have fz37 := zxt_0 hx17 fq18
  have ez37 : q18 = q18 := rfl
  have hx18 := zxt_tr hx17 hs18
  replace hO := zOk_x hs18 hO
  refine v_putr (pc := 871) (k := 37) C hin dX9_init_871 fl_X9_66 rfl (by decide) (by decide) ?_
  replace hO := zOk_s (k := 37) hO (by decide) (by decide) tq18
  refine v_aload_n (pc := 874) C dX9_init_874 rfl ?_
  refine v_sipush (pc := 875) C dX9_init_875 (by decide) ?_
  refine v_newi0 (pc := 878) C hx18 hB18 75 dX9_init_878 ac_int a_75 rfl (by decide) (by decide) ⟨Nat.le_of_ble_eq_true rfl, Nat.le_of_ble_eq_true rfl⟩ (fun Γ19 q19 fq19 hs19 hB19 tq19 => ?_)
  have hx19 := zxt_tr hx18 hs19
  replace hO := zOk_x hs19 hO
  refine v_putr (pc := 880) (k := 38) C hin dX9_init_880 fl_X9_69 rfl (by decide) (by decide) ?_
  replace hO := zOk_s (k := 38) hO (by decide) (by decide) tq19
  refine v_aload_n (pc := 883) C dX9_init_883 rfl ?_
  refine v_sipush (pc := 884) C dX9_init_884 (by decide) ?_
  refine v_newi0 (pc := 887) C hx19 hB19 76 dX9_init_887 ac_int a_76 rfl (by decide) (by decide) ⟨Nat.le_of_ble_eq_true rfl, Nat.le_of_ble_eq_true rfl⟩ (fun Γ20 q20 fq20 hs20 hB20 tq20 => ?_)
  have hx20 := zxt_tr hx19 hs20
  replace hO := zOk_x hs20 hO
  refine v_putr (pc := 889) (k := 39) C hin dX9_init_889 fl_X9_72 rfl (by decide) (by decide) ?_
  replace hO := zOk_s (k := 39) hO (by decide) (by decide) tq20
  refine v_aload_n (pc := 892) C dX9_init_892 rfl ?_
  refine v_bipush (pc := 893) C dX9_init_893 (by decide) ?_
  refine v_newi0 (pc := 895) C hx20 hB20 77 dX9_init_895 ac_int a_77 rfl (by decide) (by decide) ⟨Nat.le_of_ble_eq_true rfl, Nat.le_of_ble_eq_true rfl⟩ (fun Γ21 q21 fq21 hs21 hB21 tq21 => ?_)
  have hx21 := zxt_tr hx20 hs21
  replace hO := zOk_x hs21 hO
  refine v_putr (pc := 897) (k := 40) C hin dX9_init_897 fl_X9_75 rfl (by decide) (by decide) ?_
  replace hO := zOk_s (k := 40) hO (by decide) (by decide) tq21
  refine v_aload_n (pc := 900) C dX9_init_900 rfl ?_
  refine v_bipush (pc := 901) C dX9_init_901 (by decide) ?_
  refine v_newi0 (pc := 903) C hx21 hB21 78 dX9_init_903 ac_int a_78 rfl (by decide) (by decide) ⟨Nat.le_of_ble_eq_true rfl, Nat.le_of_ble_eq_true rfl⟩ (fun Γ22 q22 fq22 hs22 hB22 tq22 => ?_)
  have hx22 := zxt_tr hx21 hs22
  replace hO := zOk_x hs22 hO
  refine v_putr (pc := 905) (k := 41) C hin dX9_init_905 fl_X9_78 rfl (by decide) (by decide) ?_
  replace hO := zOk_s (k := 41) hO (by decide) (by decide) tq22
  refine v_aload_n (pc := 908) C dX9_init_908 rfl ?_
  refine v_bipush (pc := 909) C dX9_init_909 (by decide) ?_
  refine v_newj0 (pc := 911) C hx22 hB22 79 dX9_init_911 ac_long a_79 rfl (by decide) (by decide) ⟨Nat.le_of_ble_eq_true rfl, Nat.le_of_ble_eq_true rfl⟩ (fun Γ23 q23 fq23 hs23 hB23 tq23 => ?_)
  have hx23 := zxt_tr hx22 hs23
  replace hO := zOk_x hs23 hO
  refine v_putr (pc := 913) (k := 48) C hin dX9_init_913 fl_X9_81 rfl (by decide) (by decide) ?_
  replace hO := zOk_s (k := 48) hO (by decide) (by decide) tq23
  refine v_aload_n (pc := 916) C dX9_init_916 rfl ?_
  refine v_bipush (pc := 917) C dX9_init_917 (by decide) ?_
  refine v_newj0 (pc := 919) C hx23 hB23 80 dX9_init_919 ac_long a_80 rfl (by decide) (by decide) ⟨Nat.le_of_ble_eq_true rfl, Nat.le_of_ble_eq_true rfl⟩ (fun Γ24 q24 fq24 hs24 hB24 tq24 => ?_)
  have hx24 := zxt_tr hx23 hs24
  replace hO := zOk_x hs24 hO
  refine v_putr (pc := 921) (k := 49) C hin dX9_init_921 fl_X9_85 rfl (by decide) (by decide) ?_
  replace hO := zOk_s (k := 49) hO (by decide) (by decide) tq24
  refine v_aload_n (pc := 924) C dX9_init_924 rfl ?_
  refine v_bipush (pc := 925) C dX9_init_925 (by decide) ?_
  refine v_newi0 (pc := 927) C hx24 hB24 81 dX9_init_927 ac_int a_81 rfl (by decide) (by decide) ⟨Nat.le_of_ble_eq_true rfl, Nat.le_of_ble_eq_true rfl⟩ (fun Γ25 q25 fq25 hs25 hB25 tq25 => ?_)
  have hx25 := zxt_tr hx24 hs25
  replace hO := zOk_x hs25 hO
  refine v_putr (pc := 929) (k := 51) C hin dX9_init_929 fl_X9_88 rfl (by decide) (by decide) ?_
  replace hO := zOk_s (k := 51) hO (by decide) (by decide) tq25
  refine v_aload_n (pc := 932) C dX9_init_932 rfl ?_
  refine v_bipush (pc := 933) C dX9_init_933 (by decide) ?_
  refine v_newi0 (pc := 935) C hx25 hB25 82 dX9_init_935 ac_int a_82 rfl (by decide) (by decide) ⟨Nat.le_of_ble_eq_true rfl, Nat.le_of_ble_eq_true rfl⟩ (fun Γ26 q26 fq26 hs26 hB26 tq26 => ?_)
  have hx26 := zxt_tr hx25 hs26
  replace hO := zOk_x hs26 hO
  refine v_putr (pc := 937) (k := 52) C hin dX9_init_937 fl_X9_91 rfl (by decide) (by decide) ?_
  replace hO := zOk_s (k := 52) hO (by decide) (by decide) tq26
  refine v_aload_n (pc := 940) C dX9_init_940 rfl ?_
  refine v_bipush (pc := 941) C dX9_init_941 (by decide) ?_
  refine v_newi0 (pc := 943) C hx26 hB26 83 dX9_init_943 ac_int a_83 rfl (by decide) (by decide) ⟨Nat.le_of_ble_eq_true rfl, Nat.le_of_ble_eq_true rfl⟩ (fun Γ27 q27 fq27 hs27 hB27 tq27 => ?_)
  have hx27 := zxt_tr hx26 hs27
  replace hO := zOk_x hs27 hO
  refine v_putr (pc := 945) (k := 53) C hin dX9_init_945 fl_X9_94 rfl (by decide) (by decide) ?_
  replace hO := zOk_s (k := 53) hO (by decide) (by decide) tq27
  refine v_aload_n (pc := 948) C dX9_init_948 rfl ?_
  refine v_bipush (pc := 949) C dX9_init_949 (by decide) ?_
  refine v_newi0 (pc := 951) C hx27 hB27 84 dX9_init_951 ac_int a_84 rfl (by decide) (by decide) ⟨Nat.le_of_ble_eq_true rfl, Nat.le_of_ble_eq_true rfl⟩ (fun Γ28 q28 fq28 hs28 hB28 tq28 => ?_)
  have hx28 := zxt_tr hx27 hs28
  replace hO := zOk_x hs28 hO
  refine v_putr (pc := 953) (k := 54) C hin dX9_init_953 fl_X9_97 rfl (by decide) (by decide) ?_
  replace hO := zOk_s (k := 54) hO (by decide) (by decide) tq28
  refine v_aload_n (pc := 956) C dX9_init_956 rfl ?_
  refine v_bipush (pc := 957) C dX9_init_957 (by decide) ?_
  refine v_newi0 (pc := 959) C hx28 hB28 85 dX9_init_959 ac_int a_85 rfl (by decide) (by decide) ⟨Nat.le_of_ble_eq_true rfl, Nat.le_of_ble_eq_true rfl⟩ (fun Γ29 q29 fq29 hs29 hB29 tq29 => ?_)
  have hx29 := zxt_tr hx28 hs29
  replace hO := zOk_x hs29 hO
  refine v_putr (pc := 961) (k := 55) C hin dX9_init_961 fl_X9_100 rfl (by decide) (by decide) ?_
  replace hO := zOk_s (k := 55) hO (by decide) (by decide) tq29
  refine v_aload_n (pc := 964) C dX9_init_964 rfl ?_
  refine v_bipush (pc := 965) C dX9_init_965 (by decide) ?_
  refine v_newi0 (pc := 967) C hx29 hB29 86 dX9_init_967 ac_int a_86 rfl (by decide) (by decide) ⟨Nat.le_of_ble_eq_true rfl, Nat.le_of_ble_eq_true rfl⟩ (fun Γ30 q30 fq30 hs30 hB30 tq30 => ?_)
  have hx30 := zxt_tr hx29 hs30
  replace hO := zOk_x hs30 hO
  refine v_putr (pc := 969) (k := 56) C hin dX9_init_969 fl_X9_103 rfl (by decide) (by decide) ?_
  replace hO := zOk_s (k := 56) hO (by decide) (by decide) tq30
  refine v_aload_n (pc := 972) C dX9_init_972 rfl ?_
  refine v_iconst (pc := 973) C dX9_init_973 ?_
  refine v_newi0 (pc := 974) C hx30 hB30 87 dX9_init_974 ac_int a_87 rfl (by decide) (by decide) ⟨Nat.le_of_ble_eq_true rfl, Nat.le_of_ble_eq_true rfl⟩ (fun Γ31 q31 fq31 hs31 hB31 tq31 => ?_)
  have hx31 := zxt_tr hx30 hs31
  replace hO := zOk_x hs31 hO
  refine v_putr (pc := 976) (k := 57) C hin dX9_init_976 fl_X9_106 rfl (by decide) (by decide) ?_
  replace hO := zOk_s (k := 57) hO (by decide) (by decide) tq31
  refine v_aload_n (pc := 979) C dX9_init_979 rfl ?_
  refine v_iconst (pc := 980) C dX9_init_980 ?_
  refine v_newi0 (pc := 981) C hx31 hB31 88 dX9_init_981 ac_int a_88 rfl (by decide) (by decide) ⟨Nat.le_of_ble_eq_true rfl, Nat.le_of_ble_eq_true rfl⟩ (fun Γ32 q32 fq32 hs32 hB32 tq32 => ?_)
  have hx32 := zxt_tr hx31 hs32
  replace hO := zOk_x hs32 hO
  refine v_putr (pc := 983) (k := 58) C hin dX9_init_983 fl_X9_109 rfl (by decide) (by decide) ?_
  replace hO := zOk_s (k := 58) hO (by decide) (by decide) tq32
  refine v_aload_n (pc := 986) C dX9_init_986 rfl ?_
  refine v_iconst (pc := 987) C dX9_init_987 ?_
  refine v_newi0 (pc := 988) C hx32 hB32 89 dX9_init_988 ac_int a_89 rfl (by decide) (by decide) ⟨Nat.le_of_ble_eq_true rfl, Nat.le_of_ble_eq_true rfl⟩ (fun Γ33 q33 fq33 hs33 hB33 tq33 => ?_)
  have hx33 := zxt_tr hx32 hs33
  replace hO := zOk_x hs33 hO
  refine v_putr (pc := 990) (k := 59) C hin dX9_init_990 fl_X9_112 rfl (by decide) (by decide) ?_
  replace hO := zOk_s (k := 59) hO (by decide) (by decide) tq33
  refine v_aload_n (pc := 993) C dX9_init_993 rfl ?_
  refine v_iconst (pc := 994) C dX9_init_994 ?_
  refine v_newi0 (pc := 995) C hx33 hB33 90 dX9_init_995 ac_int a_90 rfl (by decide) (by decide) ⟨Nat.le_of_ble_eq_true rfl, Nat.le_of_ble_eq_true rfl⟩ (fun Γ34 q34 fq34 hs34 hB34 tq34 => ?_)
  have hx34 := zxt_tr hx33 hs34
  replace hO := zOk_x hs34 hO
  refine v_putr (pc := 997) (k := 60) C hin dX9_init_997 fl_X9_115 rfl (by decide) (by decide) ?_
  replace hO := zOk_s (k := 60) hO (by decide) (by decide) tq34
  refine v_aload_n (pc := 1000) C dX9_init_1000 rfl ?_
  refine v_bipush (pc := 1001) C dX9_init_1001 (by decide) ?_
  refine v_newi0 (pc := 1003) C hx34 hB34 91 dX9_init_1003 ac_int a_91 rfl (by decide) (by decide) ⟨Nat.le_of_ble_eq_true rfl, Nat.le_of_ble_eq_true rfl⟩ (fun Γ35 q35 fq35 hs35 hB35 tq35 => ?_)
  have hx35 := zxt_tr hx34 hs35
  replace hO := zOk_x hs35 hO
  refine v_putr (pc := 1005) (k := 62) C hin dX9_init_1005 fl_X9_118 rfl (by decide) (by decide) ?_
  replace hO := zOk_s (k := 62) hO (by decide) (by decide) tq35
  refine v_aload_n (pc := 1008) C dX9_init_1008 rfl ?_
  refine v_bipush (pc := 1009) C dX9_init_1009 (by decide) ?_
  refine v_newi0 (pc := 1011) C hx35 hB35 92 dX9_init_1011 ac_int a_92 rfl (by decide) (by decide) ⟨Nat.le_of_ble_eq_true rfl, Nat.le_of_ble_eq_true rfl⟩ (fun Γ36 q36 fq36 hs36 hB36 tq36 => ?_)
  have hx36 := zxt_tr hx35 hs36
  replace hO := zOk_x hs36 hO
  refine v_putr (pc := 1013) (k := 63) C hin dX9_init_1013 fl_X9_121 rfl (by decide) (by decide) ?_
  replace hO := zOk_s (k := 63) hO (by decide) (by decide) tq36
  refine v_aload_n (pc := 1016) C dX9_init_1016 rfl ?_
  refine v_bipush (pc := 1017) C dX9_init_1017 (by decide) ?_
  refine v_newi0 (pc := 1019) C hx36 hB36 93 dX9_init_1019 ac_int a_93 rfl (by decide) (by decide) ⟨Nat.le_of_ble_eq_true rfl, Nat.le_of_ble_eq_true rfl⟩ (fun Γ37 q37 fq37 hs37 hB37 tq37 => ?_)
  have hx37 := zxt_tr hx36 hs37
  replace hO := zOk_x hs37 hO
  refine v_putr (pc := 1021) (k := 64) C hin dX9_init_1021 fl_X9_124 rfl (by decide) (by decide) ?_
  replace hO := zOk_s (k := 64) hO (by decide) (by decide) tq37
  refine v_aload_n (pc := 1024) C dX9_init_1024 rfl ?_
  refine v_bipush (pc := 1025) C dX9_init_1025 (by decide) ?_
  refine v_newi0 (pc := 1027) C hx37 hB37 94 dX9_init_1027 ac_int a_94 rfl (by decide) (by decide) ⟨Nat.le_of_ble_eq_true rfl, Nat.le_of_ble_eq_true rfl⟩ (fun Γ38 q38 fq38 hs38 hB38 tq38 => ?_)
  have hx38 := zxt_tr hx37 hs38
  replace hO := zOk_x hs38 hO
  refine v_putr (pc := 1029) (k := 65) C hin dX9_init_1029 fl_X9_127 rfl (by decide) (by decide) ?_
  replace hO := zOk_s (k := 65) hO (by decide) (by decide) tq38
  refine v_aload_n (pc := 1032) C dX9_init_1032 rfl ?_
  refine v_bipush (pc := 1033) C dX9_init_1033 (by decide) ?_
  refine v_newi0 (pc := 1035) C hx38 hB38 95 dX9_init_1035 ac_int a_95 rfl (by decide) (by decide) ⟨Nat.le_of_ble_eq_true rfl, Nat.le_of_ble_eq_true rfl⟩ (fun Γ39 q39 fq39 hs39 hB39 tq39 => ?_)
  have hx39 := zxt_tr hx38 hs39
  replace hO := zOk_x hs39 hO
  refine v_putr (pc := 1037) (k := 66) C hin dX9_init_1037 fl_X9_130 rfl (by decide) (by decide) ?_
  replace hO := zOk_s (k := 66) hO (by decide) (by decide) tq39
  refine v_aload_n (pc := 1040) C dX9_init_1040 rfl ?_
  refine v_bipush (pc := 1041) C dX9_init_1041 (by decide) ?_
  refine v_newi0 (pc := 1043) C hx39 hB39 96 dX9_init_1043 ac_int a_96 rfl (by decide) (by decide) ⟨Nat.le_of_ble_eq_true rfl, Nat.le_of_ble_eq_true rfl⟩ (fun Γ40 q40 fq40 hs40 hB40 tq40 => ?_)
  have hx40 := zxt_tr hx39 hs40
  replace hO := zOk_x hs40 hO
  refine v_putr (pc := 1045) (k := 67) C hin dX9_init_1045 fl_X9_133 rfl (by decide) (by decide) ?_
  replace hO := zOk_s (k := 67) hO (by decide) (by decide) tq40
  refine v_aload_n (pc := 1048) C dX9_init_1048 rfl ?_
  refine v_bipush (pc := 1049) C dX9_init_1049 (by decide) ?_
  refine v_newi0 (pc := 1051) C hx40 hB40 97 dX9_init_1051 ac_int a_97 rfl (by decide) (by decide) ⟨Nat.le_of_ble_eq_true rfl, Nat.le_of_ble_eq_true rfl⟩ (fun Γ41 q41 fq41 hs41 hB41 tq41 => ?_)
  have hx41 := zxt_tr hx40 hs41
  replace hO := zOk_x hs41 hO
  refine v_putr (pc := 1053) (k := 68) C hin dX9_init_1053 fl_X9_136 rfl (by decide) (by decide) ?_
  replace hO := zOk_s (k := 68) hO (by decide) (by decide) tq41
  refine v_aload_n (pc := 1056) C dX9_init_1056 rfl ?_
  refine v_bipush (pc := 1057) C dX9_init_1057 (by decide) ?_
  refine v_newi0 (pc := 1059) C hx41 hB41 98 dX9_init_1059 ac_int a_98 rfl (by decide) (by decide) ⟨Nat.le_of_ble_eq_true rfl, Nat.le_of_ble_eq_true rfl⟩ (fun Γ42 q42 fq42 hs42 hB42 tq42 => ?_)
  have hx42 := zxt_tr hx41 hs42
  replace hO := zOk_x hs42 hO
  refine v_putr (pc := 1061) (k := 69) C hin dX9_init_1061 fl_X9_139 rfl (by decide) (by decide) ?_
  replace hO := zOk_s (k := 69) hO (by decide) (by decide) tq42
  refine v_aload_n (pc := 1064) C dX9_init_1064 rfl ?_
  refine v_bipush (pc := 1065) C dX9_init_1065 (by decide) ?_
  refine v_newi0 (pc := 1067) C hx42 hB42 99 dX9_init_1067 ac_int a_99 rfl (by decide) (by decide) ⟨Nat.le_of_ble_eq_true rfl, Nat.le_of_ble_eq_true rfl⟩ (fun Γ43 q43 fq43 hs43 hB43 tq43 => ?_)
  have hx43 := zxt_tr hx42 hs43
  replace hO := zOk_x hs43 hO
  refine v_putr (pc := 1069) (k := 70) C hin dX9_init_1069 fl_X9_142 rfl (by decide) (by decide) ?_
  replace hO := zOk_s (k := 70) hO (by decide) (by decide) tq43
  refine v_aload_n (pc := 1072) C dX9_init_1072 rfl ?_
  refine v_bipush (pc := 1073) C dX9_init_1073 (by decide) ?_
  refine v_newi0 (pc := 1075) C hx43 hB43 100 dX9_init_1075 ac_int a_100 rfl (by decide) (by decide) ⟨Nat.le_of_ble_eq_true rfl, Nat.le_of_ble_eq_true rfl⟩ (fun Γ44 q44 fq44 hs44 hB44 tq44 => ?_)
  have hx44 := zxt_tr hx43 hs44
  replace hO := zOk_x hs44 hO
  refine v_putr (pc := 1077) (k := 71) C hin dX9_init_1077 fl_X9_145 rfl (by decide) (by decide) ?_
  replace hO := zOk_s (k := 71) hO (by decide) (by decide) tq44
  refine v_aload_n (pc := 1080) C dX9_init_1080 rfl ?_
  refine v_iconst (pc := 1081) C dX9_init_1081 ?_
  refine v_puti (pc := 1082) (k := 74) C dX9_init_1082 fl_X9_148 f_10_74 ?_
  refine v_aload_n (pc := 1085) C dX9_init_1085 rfl ?_
  refine v_iconst (pc := 1086) C dX9_init_1086 ?_
  refine v_newi0 (pc := 1087) C hx44 hB44 101 dX9_init_1087 ac_int a_101 rfl (by decide) (by decide) ⟨Nat.le_of_ble_eq_true rfl, Nat.le_of_ble_eq_true rfl⟩ (fun Γ45 q45 fq45 hs45 hB45 tq45 => ?_)
  have hx45 := zxt_tr hx44 hs45
  replace hO := zOk_x hs45 hO
  refine v_putr (pc := 1089) (k := 76) C hin dX9_init_1089 fl_X9_151 rfl (by decide) (by decide) ?_
  replace hO := zOk_s (k := 76) hO (by decide) (by decide) tq45
  refine v_aload_n (pc := 1092) C dX9_init_1092 rfl ?_
  refine v_iconst (pc := 1093) C dX9_init_1093 ?_
  refine v_newi0 (pc := 1094) C hx45 hB45 102 dX9_init_1094 ac_int a_102 rfl (by decide) (by decide) ⟨Nat.le_of_ble_eq_true rfl, Nat.le_of_ble_eq_true rfl⟩ (fun Γ46 q46 fq46 hs46 hB46 tq46 => ?_)
  have hx46 := zxt_tr hx45 hs46
  replace hO := zOk_x hs46 hO
  refine v_putr (pc := 1096) (k := 77) C hin dX9_init_1096 fl_X9_154 rfl (by decide) (by decide) ?_
  replace hO := zOk_s (k := 77) hO (by decide) (by decide) tq46
  refine v_aload_n (pc := 1099) C dX9_init_1099 rfl ?_
  refine v_iconst (pc := 1100) C dX9_init_1100 ?_
  refine v_newi0 (pc := 1101) C hx46 hB46 103 dX9_init_1101 ac_int a_103 rfl (by decide) (by decide) ⟨Nat.le_of_ble_eq_true rfl, Nat.le_of_ble_eq_true rfl⟩ (fun Γ47 q47 fq47 hs47 hB47 tq47 => ?_)
  have hx47 := zxt_tr hx46 hs47
  replace hO := zOk_x hs47 hO
  refine v_putr (pc := 1103) (k := 80) C hin dX9_init_1103 fl_X9_157 rfl (by decide) (by decide) ?_
  replace hO := zOk_s (k := 80) hO (by decide) (by decide) tq47
  refine v_aload_n (pc := 1106) C dX9_init_1106 rfl ?_
  refine v_iconst (pc := 1107) C dX9_init_1107 ?_
  refine v_newi0 (pc := 1108) C hx47 hB47 104 dX9_init_1108 ac_int a_104 rfl (by decide) (by decide) ⟨Nat.le_of_ble_eq_true rfl, Nat.le_of_ble_eq_true rfl⟩ (fun Γ48 q48 fq48 hs48 hB48 tq48 => ?_)
  have hx48 := zxt_tr hx47 hs48
  replace hO := zOk_x hs48 hO
  refine v_putr (pc := 1110) (k := 81) C hin dX9_init_1110 fl_X9_160 rfl (by decide) (by decide) ?_
  replace hO := zOk_s (k := 81) hO (by decide) (by decide) tq48
  refine v_aload_n (pc := 1113) C dX9_init_1113 rfl ?_
  refine v_sipush (pc := 1114) C dX9_init_1114 (by decide) ?_
  refine v_newi0 (pc := 1117) C hx48 hB48 105 dX9_init_1117 ac_int a_105 rfl (by decide) (by decide) ⟨Nat.le_of_ble_eq_true rfl, Nat.le_of_ble_eq_true rfl⟩ (fun Γ49 q49 fq49 hs49 hB49 tq49 => ?_)
  have hx49 := zxt_tr hx48 hs49
  replace hO := zOk_x hs49 hO
  refine v_putr (pc := 1119) (k := 85) C hin dX9_init_1119 fl_X9_163 rfl (by decide) (by decide) ?_
  replace hO := zOk_s (k := 85) hO (by decide) (by decide) tq49
  refine v_aload_n (pc := 1122) C dX9_init_1122 rfl ?_
  refine v_bipush (pc := 1123) C dX9_init_1123 (by decide) ?_
  refine v_newi0 (pc := 1125) C hx49 hB49 106 dX9_init_1125 ac_int a_106 rfl (by decide) (by decide) ⟨Nat.le_of_ble_eq_true rfl, Nat.le_of_ble_eq_true rfl⟩ (fun Γ50 q50 fq50 hs50 hB50 tq50 => ?_)
  have hx50 := zxt_tr hx49 hs50
  replace hO := zOk_x hs50 hO
  refine v_putr (pc := 1127) (k := 89) C hin dX9_init_1127 fl_X9_166 rfl (by decide) (by decide) ?_
  replace hO := zOk_s (k := 89) hO (by decide) (by decide) tq50
  refine v_aload_n (pc := 1130) C dX9_init_1130 rfl ?_
  refine v_sipush (pc := 1131) C dX9_init_1131 (by decide) ?_
  refine v_newi0 (pc := 1134) C hx50 hB50 107 dX9_init_1134 ac_int a_107 rfl (by decide) (by decide) ⟨Nat.le_of_ble_eq_true rfl, Nat.le_of_ble_eq_true rfl⟩ (fun Γ51 q51 fq51 hs51 hB51 tq51 => ?_)
  have hx51 := zxt_tr hx50 hs51
  replace hO := zOk_x hs51 hO
  refine v_putr (pc := 1136) (k := 90) C hin dX9_init_1136 fl_X9_169 rfl (by decide) (by decide) ?_
  replace hO := zOk_s (k := 90) hO (by decide) (by decide) tq51
  refine v_adopt0 (Γ0 := Γ) hB51 (by decide) (by decide) (by decide +kernel) (by decide +kernel) hO (by decide +kernel) (fun Γe Ge hse hBe the eΓ eG => ?_)
  have hx52 := zxt_tr hx51 hse
  have th0 := the
  refine v_aload_n (pc := 1139) C dX9_init_1139 rfl ?_
  have m0 : MI Γe h0 Ge := by
    refine MI_mk (fun k => ?_) (fun i => ?_)
    · rw [eG, zag_r (Or.inr (by decide)), eΓ, zad_2, if_pos rfl]
      exact (hB.2.2 q15 fz34).1 2071 k
    · rw [eG, zag_r (Or.inr (by decide)), eΓ, zad_2, if_pos rfl]
      exact (hB.2.2 q18 fz37).1 2074 i
  refine v_call00 (pc := 1140) C hx52 dX9_init_1140 v_X9_172 (by decide) (c_X9_plainL (zxt_Xs hx52 hX) m0) hBe (zk_of th0 (by decide) (by decide)) ⟨Nat.le_of_ble_eq_true rfl, Nat.le_of_ble_eq_true rfl⟩ ⟨Nat.le_of_ble_eq_true rfl, Nat.le_of_ble_eq_true rfl⟩ (Nat.le_of_ble_eq_true rfl) (fun Gp hpp hBp => ?_)
  obtain ⟨zp, -, mp, rp, gz⟩ := hpp
  have mp2 := MI_no hBp.1 th0 mp
  have rp2 := RC_no hBp.1 th0 rp
  refine v_aload_n (pc := 1143) C dX9_init_1143 rfl ?_
  refine v_call00 (pc := 1144) C hx52 dX9_init_1144 v_X9_175 (by decide) (c_X9_keepTextW (A := cA) (zxt_Xs hx52 hX) mp2 rp2 (fun G1 h => kR_0b hBe.1 th0 cA_z gz h) cA_80) hBp (zk_of th0 (by decide) (by decide)) ⟨Nat.le_of_ble_eq_true rfl, Nat.le_of_ble_eq_true rfl⟩ ⟨Nat.le_of_ble_eq_true rfl, Nat.le_of_ble_eq_true rfl⟩ (Nat.le_of_ble_eq_true rfl) (fun Gk hpk hBk => ?_)
  obtain ⟨zk9, mk9, kr9, bW9, b849, b869⟩ := hpk
  have mk2 := MI_no hBk.1 th0 mk9
  have key : ∀ (r a i : Nat), Γe.1 a ≠ 0 → r ∈ [2044, 2055, 901, 912, 913, 2037, 2036, 2038, 2039, 2040, 2041, 2042, 2043, 609, 610, 611, 612, 2016, 2017, 2014, 2015, 206, 207, 510, 2026, 2027, 2028, 2029, 2030, 2031, 2032, 2033, 2034, 2035, 2048, 2049, 2050, 2051, 2052, 2053, 2054, 809, 810, 811, 812, 813, 910, 911, 1001, 1004, 1005, 2057] → (zno Γe Gk).1 r a i = Ge.1 r a i := by
    intro r a i ha hr9
    rw [zno_1 ha, zk9.1 r ((show ∀ r ∈ [2044, 2055, 901, 912, 913, 2037, 2036, 2038, 2039, 2040, 2041, 2042, 2043, 609, 610, 611, 612, 2016, 2017, 2014, 2015, 206, 207, 510, 2026, 2027, 2028, 2029, 2030, 2031, 2032, 2033, 2034, 2035, 2048, 2049, 2050, 2051, 2052, 2053, 2054, 809, 810, 811, 812, 813, 910, 911, 1001, 1004, 1005, 2057], r ∉ [1012, 1013, 1014, 1015, 1016, 2059, 2061, 2062, 2063, 2064, 2065, 2066, 2067, 2068, 2069, 2070, 2071, 2072, 2073, 2074, 2075, 2076, 2081, 2082, 2083, 2084, 2085, 2086, 2087, 2088, 2089, 2090, 1083, 1084, 1086] by decide) r hr9), zno_1 ha, zp.1 r ((show ∀ r ∈ [2044, 2055, 901, 912, 913, 2037, 2036, 2038, 2039, 2040, 2041, 2042, 2043, 609, 610, 611, 612, 2016, 2017, 2014, 2015, 206, 207, 510, 2026, 2027, 2028, 2029, 2030, 2031, 2032, 2033, 2034, 2035, 2048, 2049, 2050, 2051, 2052, 2053, 2054, 809, 810, 811, 812, 813, 910, 911, 1001, 1004, 1005, 2057], r ∉ [1017, 1018, 1019, 1020, 1021, 1045, 2059, 2060, 2071] by decide) r hr9)]
  have h10 : Γe.1 h0 ≠ 0 := by rw [th0]; decide
  have ea : Γe.2.1 h0 0 = q1 := by rw [eΓ, zad_2, if_pos rfl]; rfl
  have hta : Γe.1 (Γe.2.1 h0 0) ≠ 0 := by rw [hBe.1.2.2 10 0 h0 th0 (by decide)]; decide
  have hpost : MI Γe h0 (zno Γe Gk) ∧ (zno Γe Gk).1 1001 h0 0 = 0 ∧ (zno Γe Gk).1 1004 h0 0 = 0 ∧ (zno Γe Gk).1 1005 h0 0 = -1 ∧ (∀ i : Nat, (zno Γe Gk).1 2057 (Γe.2.1 h0 0) i = 0) ∧ zpy [2044, 2055, 901, 912, 913, 2037, 2036, 2038, 2039, 2040, 2041, 2042, 2043, 609, 610, 611, 612, 2016, 2017, 2014, 2015, 206, 207, 510, 2026, 2027, 2028, 2029, 2030, 2031, 2032, 2033, 2034, 2035, 2048, 2049, 2050, 2051, 2052, 2053, 2054, 809, 810, 811, 812, 813, 910, 911] Γ G (zno Γe Gk) ∧ (∀ A : aS, sZ A → kR Γe h0 A (zno Γe Gk)) ∧ (∀ W : aS, wBeg cA W → rW Γe h0 0 W (zno Γe Gk) ∧ rS Γe h0 W (zno Γe Gk) ∧ rD h0 W (zno Γe Gk)) ∧ (zno Γe Gk).1 1084 h0 0 = 0 ∧ (zno Γe Gk).1 1086 h0 0 = 0 := by
    refine ⟨mk2, ?_, ?_, ?_, fun i => ?_, ⟨fun r hr a ha i => ?_, fun r a ha => ?_⟩, fun A hA => ?_, fun W hb => ?_, ?_, ?_⟩
    · rw [key 1001 h0 0 h10 (by decide), eG]
      exact zag_at (t := 10) (k := 1) (by decide)
    · rw [key 1004 h0 0 h10 (by decide), eG]
      exact zag_at (t := 10) (k := 4) (by decide)
    · rw [key 1005 h0 0 h10 (by decide), eG]
      exact zag_at (t := 10) (k := 5) (by decide)
    · rw [key 2057 _ i hta (by decide), ea, eG, zag_r (Or.inr (by decide))]
      exact (hB.2.2 q1 fz0).1 2057 i
    · rw [key r a i (by rw [(hx52.2.2.2 a ha).1]; exact ha) ((show ∀ r ∈ [2044, 2055, 901, 912, 913, 2037, 2036, 2038, 2039, 2040, 2041, 2042, 2043, 609, 610, 611, 612, 2016, 2017, 2014, 2015, 206, 207, 510, 2026, 2027, 2028, 2029, 2030, 2031, 2032, 2033, 2034, 2035, 2048, 2049, 2050, 2051, 2052, 2053, 2054, 809, 810, 811, 812, 813, 910, 911], r ∈ [2044, 2055, 901, 912, 913, 2037, 2036, 2038, 2039, 2040, 2041, 2042, 2043, 609, 610, 611, 612, 2016, 2017, 2014, 2015, 206, 207, 510, 2026, 2027, 2028, 2029, 2030, 2031, 2032, 2033, 2034, 2035, 2048, 2049, 2050, 2051, 2052, 2053, 2054, 809, 810, 811, 812, 813, 910, 911, 1001, 1004, 1005, 2057] by decide) r hr), eG, zag_r ((show ∀ r ∈ [2044, 2055, 901, 912, 913, 2037, 2036, 2038, 2039, 2040, 2041, 2042, 2043, 609, 610, 611, 612, 2016, 2017, 2014, 2015, 206, 207, 510, 2026, 2027, 2028, 2029, 2030, 2031, 2032, 2033, 2034, 2035, 2048, 2049, 2050, 2051, 2052, 2053, 2054, 809, 810, 811, 812, 813, 910, 911], r < 100 * 10 ∨ 100 * 10 + zN 10 ≤ r by decide) r hr)]
    · show Gk.2.2 r a = G.2.2 r a
      rw [zk9.2]
      show Gp.2.2 r a = G.2.2 r a
      rw [zp.2, eG]
      show (if a = h0 then _ else _) = _
      rw [if_neg (fun q => ha (by rw [q]; exact fh0))]
    · exact kR_no hBe.1 th0 (kR_z cA_z hA kr9)
    · obtain ⟨y1, y2, y3⟩ := bW9 W hb
      exact ⟨rW_no hBe.1 th0 y1, rS_no hBe.1 th0 y2, rD_no h10 y3⟩
    · rw [zno_1 h10]; exact b849
    · rw [zno_1 h10]; exact b869
  refine v_widen (k := 51) (n := 5897) (Nat.le_of_ble_eq_true rfl) (Nat.le_of_ble_eq_true rfl) ?_
  exact v_ret (Γ0 := Γ) (zCv_x C hx52) hr hlk dX9_init_1147 hx52 hBk th0 hpost
