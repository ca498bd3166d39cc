/-! the lower halves of works' rows stay -/
def hwL (r : Nat) : Nat := if r = 2081 ∨ r = 2082 then 20 else if 2083 ≤ r ∧ r ≤ 2086 then 5 else if 2087 ≤ r ∧ r ≤ 2090 then 1 else if 2091 ≤ r ∧ r ≤ 2095 then 60 else 0
def LO (G G1 : zH) : Prop := ∀ r a j : Nat, j < hwL r → G1.1 r a j = G.1 r a j
theorem LO_rf {G : zH} : LO G G := fun _ _ _ _ => rfl
theorem LO_I {G G1 : zH} {r a i : Nat} {x : Int} (hi : hwL r ≤ i) (h : LO G G1) : LO G (zuI G1 r a i x) := fun r' a' j hj => by
  rw [zuI_1, if_neg (fun q => by have e := q.1; subst e; have := q.2.2; omega)]
  exact h r' a' j hj
theorem LO_J {G G1 : zH} {r a i : Nat} {x : Int} (h : LO G G1) : LO G (zuJ G1 r a i x) := h
theorem LO_t {G G1 G2 : zH} (h2 : LO G1 G2) (h : LO G G1) : LO G G2 := fun r a j hj => (h2 r a j hj).trans (h r a j hj)
theorem LO_z {G G1 G2 : zH} {rs : List Nat} (hs : zsm rs G1 G2) (hr : ∀ r ∈ [2081, 2082, 2083, 2084, 2085, 2086, 2087, 2088, 2089, 2090, 2091, 2092, 2093, 2094, 2095], r ∉ rs) (h : LO G G1) : LO G G2 := fun r a j hj => by
  have hm : r ∈ [2081, 2082, 2083, 2084, 2085, 2086, 2087, 2088, 2089, 2090, 2091, 2092, 2093, 2094, 2095] := by
    unfold hwL at hj
    simp only [List.mem_cons, List.not_mem_nil, or_false]
    (repeat' split at hj) <;> omega
  rw [hs.1 r (hr r hm)]
  exact h r a j hj
theorem rW_lo {Γ : zΓ} {w : Nat} {W : aS} {G G1 : zH} (h60 : W 0 0 ≤ 60) (hl : LO G G1) (h : rW Γ w 0 W G) : rW Γ w 0 W G1 := by
  obtain ⟨h1, h2, ⟨h3, h4, h5, h6⟩, h7⟩ := h
  refine ⟨fun j hj => ?_, fun j hj => ?_, ⟨?_, ?_, ?_, ?_⟩, fun k hk => ?_⟩
  · rw [hl 2081 _ _ (by show _ < 20; omega), hl 2082 _ _ (by show _ < 20; omega)]; exact h1 j hj
  · rw [hl 2083 _ _ (by show _ < 5; omega), hl 2084 _ _ (by show _ < 5; omega), hl 2085 _ _ (by show _ < 5; omega), hl 2086 _ _ (by show _ < 5; omega)]; exact h2 j hj
  · rw [hl 2087 _ _ (by show _ < 1; decide)]; exact h3
  · rw [hl 2088 _ _ (by show _ < 1; decide)]; exact h4
  · rw [hl 2089 _ _ (by show _ < 1; decide)]; exact h5
  · rw [hl 2090 _ _ (by show _ < 1; decide)]; exact h6
  · rw [hl 2093 _ _ (by show _ < 60; omega), hl 2094 _ _ (by show _ < 60; omega)]; exact h7 k hk
theorem rS_lo {Γ : zΓ} {w : Nat} {W : aS} {G G1 : zH} {rs : List Nat} (h60 : W 0 0 ≤ 60) (hs : zsm rs G G1) (hr : ∀ r ∈ [2096, 2097, 2098, 2099, 2100, 1083], r ∉ rs) (hl : LO G G1) (h : rS Γ w W G) : rS Γ w W G1 := by
  have e : ∀ r ∈ [2096, 2097, 2098, 2099, 2100, 1083], G1.1 r = G.1 r := fun r h9 => hs.1 r (hr r h9)
  refine ⟨fun k hk => ?_, by rw [e 1083 (by decide)]; exact h.2⟩
  rw [hl 2091 _ _ (by show _ < 60; omega), hl 2092 _ _ (by show _ < 60; omega), hl 2095 _ _ (by show _ < 60; omega), e 2096 (by decide), e 2097 (by decide), e 2098 (by decide), e 2099 (by decide), e 2100 (by decide)]
  exact h.1 k hk
theorem wB_sins {A W : aS} (hT : TA A) (hW : WI A W) {p : Int} (hp : 0 ≤ p ∧ p ≤ 4) : wB (W 12) (p * 4).toNat (A 4 0).toNat = wBits W p := by
  have h0 := hT.1
  have hz : ∀ m : Nat, (A 4 0).toNat ≤ m → m < 4 → W 12 ((p * 4).toNat + m) = 0 := fun m h1 h2 => by
    have q := hW.2.2.2.1 p.toNat m (by omega) h2
    have q2 := hW.2.2.1 (p.toNat * 4 + m) (by omega)
    rw [show (p * 4).toNat + m = p.toNat * 4 + m by omega]
    rcases q with q | q <;> omega
  have e : ∀ d : Nat, (A 4 0).toNat + d ≤ 4 → wB (W 12) (p * 4).toNat ((A 4 0).toNat + d) = wB (W 12) (p * 4).toNat (A 4 0).toNat := fun d => by
    induction d with
    | zero => intro _; rfl
    | succ d ih =>
      intro hd
      rw [show (A 4 0).toNat + (d + 1) = ((A 4 0).toNat + d) + 1 by omega, wB, hz _ (by omega) (by omega), ih (by omega), if_neg (by decide)]
      omega
  have q := e (4 - (A 4 0).toNat) (by omega)
  rw [show (A 4 0).toNat + (4 - (A 4 0).toNat) = 4 by omega] at q
  exact q.symm
theorem rK_z {Γ : zΓ} {w : Nat} {b n : Int} {W : aS} {G G1 : zH} {rs : List Nat} (hs : zsm rs G G1) (hr : 2093 ∉ rs ∧ 2094 ∉ rs) (h : rK Γ w b W G n) : rK Γ w b W G1 n := by
  unfold rK
  rw [hs.1 2093 hr.1, hs.1 2094 hr.2]
  exact h
theorem rQ_z {Γ : zΓ} {w : Nat} {n : Int} {W : aS} {G G1 : zH} {rs : List Nat} (hs : zsm rs G G1) (hr : ∀ r ∈ [2091, 2092, 2095, 2096, 2097, 2098, 2099, 2100], r ∉ rs) (h : rQ Γ w W G n) : rQ Γ w W G1 n := by
  have e : ∀ r ∈ [2091, 2092, 2095, 2096, 2097, 2098, 2099, 2100], G1.1 r = G.1 r := fun r h9 => hs.1 r (hr r h9)
  unfold rQ
  rw [e 2091 (by decide), e 2092 (by decide), e 2095 (by decide), e 2096 (by decide), e 2097 (by decide), e 2098 (by decide), e 2099 (by decide), e 2100 (by decide)]
  exact h
theorem wLie_o {V W : aS} {k s : Int} (h : V 10 k.toNat = W 10 k.toNat) : wLie V k s = wLie W k s := by
  unfold wLie
  rw [h]

set_option maxHeartbeats 4000000 in
set_option maxRecDepth 100000 in
theorem c_X9_grindsW0 {l : Launch} {Γ : zΓ} {G : zH} {w : Nat} {p s wr : Int} {A W : aS}  (hX : zXs Γ) (hp : 0 ≤ p ∧ p ≤ 4) (hs : 0 ≤ s ∧ s ≤ 3) (hR : rW Γ w 0 W G) (hK : kR Γ w A G) (hW : WI A W) (hT : TA A) (hp2 : p < A 4 1) (hs2 : s < A 4 0) (hc : wCan W) (hS : rS Γ w W G) (hwr : wr ≠ 0)  : zMet l Γ yX9_grinds cX9_grinds 9 (some .int) 5 [zr 10 w, zi 0, zi p, zi s] G (zpi (fun x G' => zsm [2091, 2092, 2093, 2094, 2095, 1050, 2096, 2097, 2098, 2099, 2100, 2088, 2087, 2082, 2084, 2083, 2089] G G' ∧ (x = W 0 0 ∧ rW Γ w 0 (wGrind A W p s wr) G' ∧ zsj [2079, 2080] G G' ∧ rS Γ w (wGrind A W p s wr) G'))) := by
  refine zMet_of RX9 hX (by decide) rfl (Nat.le_of_ble_eq_true rfl) ?_
  intro px9 e sx9 m args below meth c C hr hlk
  show Z px9 l e (zrm 5) sx9 m args below meth c Γ 9 0 0 (MQ below (zQc Γ (zpi (fun x G' => zsm [2091, 2092, 2093, 2094, 2095, 1050, 2096, 2097, 2098, 2099, 2100, 2088, 2087, 2082, 2084, 2083, 2089] G G' ∧ (x = W 0 0 ∧ rW Γ w 0 (wGrind A W p s wr) G' ∧ zsj [2079, 2080] G G' ∧ rS Γ w (wGrind A W p s wr) G')))) args sx9 0 0 (zA Γ)) 0 [some (zr 10 w), some (zi 0), some (zi p), some (zi s), none, none, none, none, none] [] G
  refine zs_loc 2 rfl (fun ha2 hb2 => ?_)
  refine zs_loc 3 rfl (fun ha3 hb3 => ?_)
  have hT0 := hT.1
  have h00 := hW.1
  obtain ⟨rA, rB, ⟨r1, r2, r3, r4⟩, rC⟩ := id hR
  obtain ⟨⟨k12, k13, k14, k15, k16⟩, kb, kS, kP, -, -, kC, kM, kO, kL, kN⟩ := id hK
  have hl := WI_L hW hp hs
  have hlw : wL W p s = W 12 (p * 4 + s).toNat := rfl
  obtain ⟨⟨e0, e1, e2, e3, e4, e5, e6, e7, e8, e9, e10⟩, e12, e13, e14, e19, e20, ef⟩ := wGr_ev (A := A) (p := p) (s := s) (wr := wr) hc
  have hpo : wPort A W = min (A 13 0) (W 19 0) := rfl
  have hT5 := hT.2.2.2.2.2.1
  obtain ⟨w18, w19, w20, w21, w22⟩ := hW.2.2.2.2.2
  have rAp := rA (p * 4 + s).toNat (by omega)
  rw [show (20 * 0 + ((p * 4 + s).toNat : Int)).toNat = (20 * 0 + 4 * p + s).toNat by omega] at rAp
  have rBp := rB p.toNat (by omega)
  rw [show (5 * 0 + (p.toNat : Int)).toNat = (5 * 0 + p).toNat by omega] at rBp
  have h13 := hW.2.2.2.2.1 p.toNat (by omega)
  refine zs_aload_n (pc := 0) C dX9_grinds_0 rfl ?_
  refine zs_iload_n (pc := 1) C dX9_grinds_1 rfl ?_
  refine zs_iload_n (pc := 2) C dX9_grinds_2 rfl ?_
  refine zs_iload_n (pc := 3) C dX9_grinds_3 rfl ?_
  refine zVi3 (pc := 4) C dX9_grinds_4 v_X9_427 (c_X9_fineOfW hX (Or.inl rfl) hp hs hR hK hW hT hs2 hp2) (by decide) (by decide) ⟨Nat.zero_le _, Nat.zero_le _⟩ (Nat.le_of_ble_eq_true rfl) (fun x4 G4 l4 u4 hp4 => ?_)
  obtain ⟨hz4, hq4⟩ := hp4
  have y4 := hq4.1
  have hR4 : rW Γ w 0 W G4 := rW_sm hz4 (by decide) hR
  have hK4 : kR Γ w A G4 := kR_sm hz4 (by decide) hK
  refine zs_istore (pc := 7) C dX9_grinds_7 (by decide) ?_
  dsimp only [zset, zclr, znone]
  refine zs_aload_n (pc := 9) C dX9_grinds_9 rfl ?_
  refine zs_iconst (pc := 10) C dX9_grinds_10 (by decide) ?_
  refine zs_iconst (pc := 11) C dX9_grinds_11 (by decide) ?_
  refine zs_bipush (pc := 12) C dX9_grinds_12 (by decide) (by decide) ?_
  refine zVi3 (pc := 14) C dX9_grinds_14 v_X9_424 (c_X9_boundLawW (nm := wNm A W p s) hX hK4 hT.2.2.2.2.2.2 (by omega) hq4.2.1 (wNm_in hT hW hp hs ⟨hp2, hs2⟩)) (by decide) (by decide) ⟨Nat.zero_le _, Nat.zero_le _⟩ (Nat.le_of_ble_eq_true rfl) (fun x14 G14 l14 u14 hp14 => ?_)
  obtain ⟨hz14, hq14⟩ := hp14
  have y14 : x14 = wWear A W p s := hq14.1
  have hwe : 0 ≤ wWear A W p s ∧ wWear A W p s ≤ 99 := bV_in (by omega) (by omega)
  have hR14 : rW Γ w 0 W G14 := rW_sm hz14 (by decide) hR4
  have hK14 : kR Γ w A G14 := kR_sm hz14 (by decide) hK4
  have hL14 := hR14.1
  obtain ⟨rA14, rB14, ⟨r114, r214, r314, r414⟩, rC14⟩ := id hR14
  have kO14 := hK14.2.2.2.2.2.2.2.2.1
  have zj7 : zsj [2079, 2080] G G14 := zsj_c hq14.2 (by decide) (zsj_c hq4.2.2 (by decide) zsj_rf)
  refine zs_istore (pc := 17) C dX9_grinds_17 (by decide) ?_
  dsimp only [zset, zclr, znone]
  refine zs_aload_n (pc := 19) C dX9_grinds_19 rfl ?_
  refine zs_iload_n (pc := 20) C dX9_grinds_20 rfl ?_
  refine zs_iload_n (pc := 21) C dX9_grinds_21 rfl ?_
  refine zs_iload_n (pc := 22) C dX9_grinds_22 rfl ?_
  refine zVip3 (pc := 23) C dX9_grinds_23 v_X9_394 (c_X9_leftOfW hX (Or.inl rfl) hp hs hL14 (WI_WL hW)) (by decide) (by decide) ⟨Nat.zero_le _, Nat.zero_le _⟩ (Nat.le_of_ble_eq_true rfl) (fun x23 l23 u23 hp23 => ?_)
  have hq23 := hp23
  have J36 : ∀ (x6 : Int), ((x6 = 0 ∨ x6 = 1) ∧ (x6 = 1 ↔ ¬ 0 < wL W p s)) → Z px9 l e (zrm 5) sx9 m args below meth c Γ 9 0 0 (MQ below (zQc Γ (zpi (fun x G' => zsm [2091, 2092, 2093, 2094, 2095, 1050, 2096, 2097, 2098, 2099, 2100, 2088, 2087, 2082, 2084, 2083, 2089] G G' ∧ (x = W 0 0 ∧ rW Γ w 0 (wGrind A W p s wr) G' ∧ zsj [2079, 2080] G G' ∧ rS Γ w (wGrind A W p s wr) G')))) args sx9 0 0 (zA Γ)) 36 [some (zr 10 w), some (zi 0), some (zi p), some (zi s), some (zi x4), some (zi x14), some (zi x6), none, none] [] G14 := by
    intro x6 h36_0
    obtain ⟨b6, c6⟩ := h36_0
    have b6b : 0 ≤ x6 ∧ x6 ≤ 1 := by omega
    refine zs_aload_n (pc := 36) C dX9_grinds_36 rfl ?_
    refine zs_getf (pc := 37) C dX9_grinds_37 w_X9_106 f_10_57 (by decide) ?_
    refine zs_iload_n (pc := 40) C dX9_grinds_40 rfl ?_
    refine zs_iald (r := 2087) (pc := 41) C dX9_grinds_41 a_87 (by decide) (by omega) rfl (r_2087 _) (fun v41 e41 l41 u41 => ?_)
    refine zs_istore (pc := 42) C dX9_grinds_42 (by decide) ?_
    dsimp only [zset, zclr, znone]
    have y41 : v41 = W 0 0 := e41.trans r114
    refine zs_aload_n (pc := 44) C dX9_grinds_44 rfl ?_
    refine zs_getf (pc := 45) C dX9_grinds_45 w_X9_118 f_10_62 (by decide) ?_
    refine zs_bipush (pc := 48) C dX9_grinds_48 (by decide) (by decide) ?_
    refine zs_iload_n (pc := 50) C dX9_grinds_50 rfl ?_
    first | refine zs_imul (pc := 51) C dX9_grinds_51 (by omega) ?_ | refine zs_imulF (pc := 51) C dX9_grinds_51 (fun z51 hz511 hz512 => ?_)
    refine zs_iload (pc := 52) C dX9_grinds_52 rfl ?_
    first | refine zs_iadd (pc := 54) C dX9_grinds_54 (by omega) ?_ | refine zs_iaddF (pc := 54) C dX9_grinds_54 (fun z54 hz541 hz542 => ?_)
    refine zs_iload_n (pc := 55) C dX9_grinds_55 rfl ?_
    refine zs_iast (r := 2091) (pc := 56) C dX9_grinds_56 a_91 (by decide) (by omega) rfl (r_2091 _) (by omega) ?_
    refine zs_aload_n (pc := 57) C dX9_grinds_57 rfl ?_
    refine zs_getf (pc := 58) C dX9_grinds_58 w_X9_121 f_10_63 (by decide) ?_
    refine zs_bipush (pc := 61) C dX9_grinds_61 (by decide) (by decide) ?_
    refine zs_iload_n (pc := 63) C dX9_grinds_63 rfl ?_
    first | refine zs_imul (pc := 64) C dX9_grinds_64 (by omega) ?_ | refine zs_imulF (pc := 64) C dX9_grinds_64 (fun z64 hz641 hz642 => ?_)
    refine zs_iload (pc := 65) C dX9_grinds_65 rfl ?_
    first | refine zs_iadd (pc := 67) C dX9_grinds_67 (by omega) ?_ | refine zs_iaddF (pc := 67) C dX9_grinds_67 (fun z67 hz671 hz672 => ?_)
    refine zs_iload_n (pc := 68) C dX9_grinds_68 rfl ?_
    refine zs_iast (r := 2092) (pc := 69) C dX9_grinds_69 a_92 (by decide) (by omega) rfl (r_2092 _) (by omega) ?_
    refine zs_aload_n (pc := 70) C dX9_grinds_70 rfl ?_
    refine zs_getf (pc := 71) C dX9_grinds_71 w_X9_124 f_10_64 (by decide) ?_
    refine zs_bipush (pc := 74) C dX9_grinds_74 (by decide) (by decide) ?_
    refine zs_iload_n (pc := 76) C dX9_grinds_76 rfl ?_
    first | refine zs_imul (pc := 77) C dX9_grinds_77 (by omega) ?_ | refine zs_imulF (pc := 77) C dX9_grinds_77 (fun z77 hz771 hz772 => ?_)
    refine zs_iload (pc := 78) C dX9_grinds_78 rfl ?_
    first | refine zs_iadd (pc := 80) C dX9_grinds_80 (by omega) ?_ | refine zs_iaddF (pc := 80) C dX9_grinds_80 (fun z80 hz801 hz802 => ?_)
    refine zs_iload (pc := 81) C dX9_grinds_81 rfl ?_
    refine zs_iast (r := 2093) (pc := 83) C dX9_grinds_83 a_93 (by decide) (by omega) rfl (r_2093 _) (by omega) ?_
    refine zs_aload_n (pc := 84) C dX9_grinds_84 rfl ?_
    refine zs_getf (pc := 85) C dX9_grinds_85 w_X9_127 f_10_65 (by decide) ?_
    refine zs_bipush (pc := 88) C dX9_grinds_88 (by decide) (by decide) ?_
    refine zs_iload_n (pc := 90) C dX9_grinds_90 rfl ?_
    first | refine zs_imul (pc := 91) C dX9_grinds_91 (by omega) ?_ | refine zs_imulF (pc := 91) C dX9_grinds_91 (fun z91 hz911 hz912 => ?_)
    refine zs_iload (pc := 92) C dX9_grinds_92 rfl ?_
    first | refine zs_iadd (pc := 94) C dX9_grinds_94 (by omega) ?_ | refine zs_iaddF (pc := 94) C dX9_grinds_94 (fun z94 hz941 hz942 => ?_)
    refine zs_aload_n (pc := 95) C dX9_grinds_95 rfl ?_
    refine zs_getf (pc := 96) C dX9_grinds_96 w_X9_109 f_10_58 (by decide) ?_
    refine zs_iload_n (pc := 99) C dX9_grinds_99 rfl ?_
    refine zs_iald (r := 2088) (pc := 100) C dX9_grinds_100 a_88 (by decide) (by omega) rfl (r_2088 _) (fun v100 e100 l100 u100 => ?_)
    try simp only [zuI_1, zuI_2, zuJ_1, zuJ_2, zuJ_3, zuP_1, zuP_2, zuP_3, zuC_1, zuC_2, reduceIte, Nat.reduceEqDiff, false_and, and_false, true_and, and_true, and_self, or_true, true_or, or_false, false_or] at e100
    refine zs_aload_n (pc := 101) C dX9_grinds_101 rfl ?_
    refine zs_getf (pc := 102) C dX9_grinds_102 w_X9_20 f_10_22 (by decide) ?_
    refine zs_iconst (pc := 105) C dX9_grinds_105 (by decide) ?_
    refine zs_iald (r := 2059) (pc := 106) C dX9_grinds_106 a_59 (by decide) (by omega) rfl (show zrg 2059 (1 : Int).toNat = (0, 99) from rfl) (fun v106 e106 l106 u106 => ?_)
    try simp only [zuI_1, zuI_2, zuJ_1, zuJ_2, zuJ_3, zuP_1, zuP_2, zuP_3, zuC_1, zuC_2, reduceIte, Nat.reduceEqDiff, false_and, and_false, true_and, and_true, and_self, or_true, true_or, or_false, false_or] at e106
    have J125 : ∀ (y1 : Int), (y1 = wPort A W) → Z px9 l e (zrm 5) sx9 m args below meth c Γ 9 0 0 (MQ below (zQc Γ (zpi (fun x G' => zsm [2091, 2092, 2093, 2094, 2095, 1050, 2096, 2097, 2098, 2099, 2100, 2088, 2087, 2082, 2084, 2083, 2089] G G' ∧ (x = W 0 0 ∧ rW Γ w 0 (wGrind A W p s wr) G' ∧ zsj [2079, 2080] G G' ∧ rS Γ w (wGrind A W p s wr) G')))) args sx9 0 0 (zA Γ)) 125 [some (zr 10 w), some (zi 0), some (zi p), some (zi s), some (zi x4), some (zi x14), some (zi x6), some (zi v41), none] [zi y1, zi (60 * 0 + v41), zr 94 (Γ.2.1 w 65)] (zuI (zuI (zuI G14 2091 (Γ.2.1 w 62) (60 * 0 + v41).toNat p) 2092 (Γ.2.1 w 63) (60 * 0 + v41).toNat s) 2093 (Γ.2.1 w 64) (60 * 0 + v41).toNat x4) := by
      intro y1 h125_0
      first | (have y124 : v124 = A 13 0 := e124.trans (kO14 1 (by decide))) | skip
      refine zs_iast (r := 2094) (pc := 125) C dX9_grinds_125 a_94 (by decide) (by omega) rfl (r_2094 _) (by omega) ?_
      refine zs_aload_n (pc := 126) C dX9_grinds_126 rfl ?_
      refine zs_getf (pc := 127) C dX9_grinds_127 w_X9_130 f_10_66 (by decide) ?_
      refine zs_bipush (pc := 130) C dX9_grinds_130 (by decide) (by decide) ?_
      refine zs_iload_n (pc := 132) C dX9_grinds_132 rfl ?_
      first | refine zs_imul (pc := 133) C dX9_grinds_133 (by omega) ?_ | refine zs_imulF (pc := 133) C dX9_grinds_133 (fun z133 hz1331 hz1332 => ?_)
      refine zs_iload (pc := 134) C dX9_grinds_134 rfl ?_
      first | refine zs_iadd (pc := 136) C dX9_grinds_136 (by omega) ?_ | refine zs_iaddF (pc := 136) C dX9_grinds_136 (fun z136 hz1361 hz1362 => ?_)
      refine zs_iload (pc := 137) C dX9_grinds_137 rfl ?_
      have J147 : ∀ (y2 : Int), (y2 = x6) → Z px9 l e (zrm 5) sx9 m args below meth c Γ 9 0 0 (MQ below (zQc Γ (zpi (fun x G' => zsm [2091, 2092, 2093, 2094, 2095, 1050, 2096, 2097, 2098, 2099, 2100, 2088, 2087, 2082, 2084, 2083, 2089] G G' ∧ (x = W 0 0 ∧ rW Γ w 0 (wGrind A W p s wr) G' ∧ zsj [2079, 2080] G G' ∧ rS Γ w (wGrind A W p s wr) G')))) args sx9 0 0 (zA Γ)) 147 [some (zr 10 w), some (zi 0), some (zi p), some (zi s), some (zi x4), some (zi x14), some (zi x6), some (zi v41), none] [zi y2, zi (60 * 0 + v41), zr 95 (Γ.2.1 w 66)] (zuI (zuI (zuI (zuI G14 2091 (Γ.2.1 w 62) (60 * 0 + v41).toNat p) 2092 (Γ.2.1 w 63) (60 * 0 + v41).toNat s) 2093 (Γ.2.1 w 64) (60 * 0 + v41).toNat x4) 2094 (Γ.2.1 w 65) (60 * 0 + v41).toNat y1) := by
        intro y2 h147_0
        refine zs_iast (r := 2095) (pc := 147) C dX9_grinds_147 a_95 (by decide) (by omega) rfl (r_2095 _) (by omega) ?_
        refine zs_iload_n (pc := 148) C dX9_grinds_148 rfl ?_
        have J259 : ∀ (G7 : zH), (zsm [2091, 2092, 2093, 2094, 2095, 1050, 2096, 2097, 2098, 2099, 2100] G G7) → (zsj [2079, 2080] G G7) → (rK Γ w 0 (wGrind A W p s wr) G7 (W 0 0 + 1)) → (rQ Γ w (wGrind A W p s wr) G7 (W 0 0 + 1)) → Z px9 l e (zrm 5) sx9 m args below meth c Γ 9 0 0 (MQ below (zQc Γ (zpi (fun x G' => zsm [2091, 2092, 2093, 2094, 2095, 1050, 2096, 2097, 2098, 2099, 2100, 2088, 2087, 2082, 2084, 2083, 2089] G G' ∧ (x = W 0 0 ∧ rW Γ w 0 (wGrind A W p s wr) G' ∧ zsj [2079, 2080] G G' ∧ rS Γ w (wGrind A W p s wr) G')))) args sx9 0 0 (zA Γ)) 259 [some (zr 10 w), some (zi 0), some (zi p), some (zi s), some (zi x4), some (zi x14), some (zi x6), some (zi v41), none] [] G7 := by
          intro G7 h259_0 h259_1 h259_2 h259_3
          have hR7 : ∀ r ∈ [2081, 2082, 2083, 2084, 2085, 2086, 2087, 2088, 2089, 2090, 2059], G7.1 r = G.1 r := fun r h9 => h259_0.1 r ((show ∀ r ∈ [2081, 2082, 2083, 2084, 2085, 2086, 2087, 2088, 2089, 2090, 2059], r ∉ [2091, 2092, 2093, 2094, 2095, 1050, 2096, 2097, 2098, 2099, 2100] by decide) r h9)
          refine zs_aload_n (pc := 259) C dX9_grinds_259 rfl ?_
          refine zs_getf (pc := 260) C dX9_grinds_260 w_X9_109 f_10_58 (by decide) ?_
          refine zs_iload_n (pc := 263) C dX9_grinds_263 rfl ?_
          refine zs_dup2 (pc := 264) C dX9_grinds_264 ?_
          refine zs_iald (r := 2088) (pc := 265) C dX9_grinds_265 a_88 (by decide) (by omega) rfl (r_2088 _) (fun v265 e265 l265 u265 => ?_)
          refine zs_aload_n (pc := 266) C dX9_grinds_266 rfl ?_
          refine zs_getf (pc := 267) C dX9_grinds_267 w_X9_127 f_10_65 (by decide) ?_
          refine zs_bipush (pc := 270) C dX9_grinds_270 (by decide) (by decide) ?_
          refine zs_iload_n (pc := 272) C dX9_grinds_272 rfl ?_
          first | refine zs_imul (pc := 273) C dX9_grinds_273 (by omega) ?_ | refine zs_imulF (pc := 273) C dX9_grinds_273 (fun z273 hz2731 hz2732 => ?_)
          refine zs_iload (pc := 274) C dX9_grinds_274 rfl ?_
          first | refine zs_iadd (pc := 276) C dX9_grinds_276 (by omega) ?_ | refine zs_iaddF (pc := 276) C dX9_grinds_276 (fun z276 hz2761 hz2762 => ?_)
          refine zs_iald (r := 2094) (pc := 277) C dX9_grinds_277 a_94 (by decide) (by omega) rfl (r_2094 _) (fun v277 e277 l277 u277 => ?_)
          have y265 : v265 = W 19 0 := by rw [e265, hR7 2088 (by decide)]; exact r2
          have h2r := h259_2 (W 0 0).toNat (by omega)
          rw [e5, if_pos rfl, show (60 * 0 + (((W 0 0).toNat : Nat) : Int)).toNat = (60 * 0 + v41).toNat by omega] at h2r
          have y277 : v277 = wPort A W := e277.trans h2r.2
          first | refine zs_isub (pc := 278) C dX9_grinds_278 (by omega) ?_ | refine zs_isubF (pc := 278) C dX9_grinds_278 (fun z278 hz2781 hz2782 => ?_)
          refine zs_iast (r := 2088) (pc := 279) C dX9_grinds_279 a_88 (by decide) (by omega) rfl (r_2088 _) (by omega) ?_
          refine zs_aload_n (pc := 280) C dX9_grinds_280 rfl ?_
          refine zs_getf (pc := 281) C dX9_grinds_281 w_X9_106 f_10_57 (by decide) ?_
          refine zs_iload_n (pc := 284) C dX9_grinds_284 rfl ?_
          refine zs_dup2 (pc := 285) C dX9_grinds_285 ?_
          refine zs_iald (r := 2087) (pc := 286) C dX9_grinds_286 a_87 (by decide) (by omega) rfl (r_2087 _) (fun v286 e286 l286 u286 => ?_)
          try simp only [zuI_1, zuI_2, zuJ_1, zuJ_2, zuJ_3, zuP_1, zuP_2, zuP_3, zuC_1, zuC_2, reduceIte, Nat.reduceEqDiff, false_and, and_false, true_and, and_true, and_self, or_true, true_or, or_false, false_or] at e286
          have y286 : v286 = W 0 0 := by rw [e286, hR7 2087 (by decide)]; exact r1
          refine zs_iconst (pc := 287) C dX9_grinds_287 (by decide) ?_
          first | refine zs_iadd (pc := 288) C dX9_grinds_288 (by omega) ?_ | refine zs_iaddF (pc := 288) C dX9_grinds_288 (fun z288 hz2881 hz2882 => ?_)
          refine zs_iast (r := 2087) (pc := 289) C dX9_grinds_289 a_87 (by decide) (by omega) rfl (r_2087 _) (by omega) ?_
          refine zs_aload_n (pc := 290) C dX9_grinds_290 rfl ?_
          refine zs_getf (pc := 291) C dX9_grinds_291 w_X9_91 f_10_52 (by decide) ?_
          refine zs_bipush (pc := 294) C dX9_grinds_294 (by decide) (by decide) ?_
          refine zs_iload_n (pc := 296) C dX9_grinds_296 rfl ?_
          first | refine zs_imul (pc := 297) C dX9_grinds_297 (by omega) ?_ | refine zs_imulF (pc := 297) C dX9_grinds_297 (fun z297 hz2971 hz2972 => ?_)
          refine zs_iconst (pc := 298) C dX9_grinds_298 (by decide) ?_
          refine zs_iload_n (pc := 299) C dX9_grinds_299 rfl ?_
          first | refine zs_imul (pc := 300) C dX9_grinds_300 (by omega) ?_ | refine zs_imulF (pc := 300) C dX9_grinds_300 (fun z300 hz3001 hz3002 => ?_)
          first | refine zs_iadd (pc := 301) C dX9_grinds_301 (by omega) ?_ | refine zs_iaddF (pc := 301) C dX9_grinds_301 (fun z301 hz3011 hz3012 => ?_)
          refine zs_iload_n (pc := 302) C dX9_grinds_302 rfl ?_
          first | refine zs_iadd (pc := 303) C dX9_grinds_303 (by omega) ?_ | refine zs_iaddF (pc := 303) C dX9_grinds_303 (fun z303 hz3031 hz3032 => ?_)
          refine zs_dup2 (pc := 304) C dX9_grinds_304 ?_
          refine zs_iald (r := 2082) (pc := 305) C dX9_grinds_305 a_82 (by decide) (by omega) rfl (r_2082 _) (fun v305 e305 l305 u305 => ?_)
          try simp only [zuI_1, zuI_2, zuJ_1, zuJ_2, zuJ_3, zuP_1, zuP_2, zuP_3, zuC_1, zuC_2, reduceIte, Nat.reduceEqDiff, false_and, and_false, true_and, and_true, and_self, or_true, true_or, or_false, false_or] at e305
          have y305 : v305 = W 11 (p * 4 + s).toNat - W 12 (p * 4 + s).toNat := by rw [e305, hR7 2082 (by decide)]; exact rAp.2
          refine zs_iload (pc := 306) C dX9_grinds_306 rfl ?_
          have J316 : ∀ (y3 : Int), (y3 = 1 - x6) → Z px9 l e (zrm 5) sx9 m args below meth c Γ 9 0 0 (MQ below (zQc Γ (zpi (fun x G' => zsm [2091, 2092, 2093, 2094, 2095, 1050, 2096, 2097, 2098, 2099, 2100, 2088, 2087, 2082, 2084, 2083, 2089] G G' ∧ (x = W 0 0 ∧ rW Γ w 0 (wGrind A W p s wr) G' ∧ zsj [2079, 2080] G G' ∧ rS Γ w (wGrind A W p s wr) G')))) args sx9 0 0 (zA Γ)) 316 [some (zr 10 w), some (zi 0), some (zi p), some (zi s), some (zi x4), some (zi x14), some (zi x6), some (zi v41), none] [zi y3, zi v305, zi (20 * 0 + 4 * p + s), zr 82 (Γ.2.1 w 52)] (zuI (zuI G7 2088 (Γ.2.1 w 58) (0 : Int).toNat (v265 - v277)) 2087 (Γ.2.1 w 57) (0 : Int).toNat (v286 + 1)) := by
            intro y3 h316_0
            first | refine zs_iadd (pc := 316) C dX9_grinds_316 (by omega) ?_ | refine zs_iaddF (pc := 316) C dX9_grinds_316 (fun z316 hz3161 hz3162 => ?_)
            refine zs_iast (r := 2082) (pc := 317) C dX9_grinds_317 a_82 (by decide) (by omega) rfl (r_2082 _) (by omega) ?_
            refine zs_aload_n (pc := 318) C dX9_grinds_318 rfl ?_
            refine zs_getf (pc := 319) C dX9_grinds_319 w_X9_97 f_10_54 (by decide) ?_
            refine zs_iconst (pc := 322) C dX9_grinds_322 (by decide) ?_
            refine zs_iload_n (pc := 323) C dX9_grinds_323 rfl ?_
            first | refine zs_imul (pc := 324) C dX9_grinds_324 (by omega) ?_ | refine zs_imulF (pc := 324) C dX9_grinds_324 (fun z324 hz3241 hz3242 => ?_)
            refine zs_iload_n (pc := 325) C dX9_grinds_325 rfl ?_
            first | refine zs_iadd (pc := 326) C dX9_grinds_326 (by omega) ?_ | refine zs_iaddF (pc := 326) C dX9_grinds_326 (fun z326 hz3261 hz3262 => ?_)
            refine zs_dup2 (pc := 327) C dX9_grinds_327 ?_
            refine zs_iald (r := 2084) (pc := 328) C dX9_grinds_328 a_84 (by decide) (by omega) rfl (r_2084 _) (fun v328 e328 l328 u328 => ?_)
            try simp only [zuI_1, zuI_2, zuJ_1, zuJ_2, zuJ_3, zuP_1, zuP_2, zuP_3, zuC_1, zuC_2, reduceIte, Nat.reduceEqDiff, false_and, and_false, true_and, and_true, and_self, or_true, true_or, or_false, false_or] at e328
            have y328 : v328 = W 14 p.toNat := by rw [e328, hR7 2084 (by decide)]; exact rBp.2.1
            refine zs_iload (pc := 329) C dX9_grinds_329 rfl ?_
            have J339 : ∀ (y4 : Int), (y4 = x6) → Z px9 l e (zrm 5) sx9 m args below meth c Γ 9 0 0 (MQ below (zQc Γ (zpi (fun x G' => zsm [2091, 2092, 2093, 2094, 2095, 1050, 2096, 2097, 2098, 2099, 2100, 2088, 2087, 2082, 2084, 2083, 2089] G G' ∧ (x = W 0 0 ∧ rW Γ w 0 (wGrind A W p s wr) G' ∧ zsj [2079, 2080] G G' ∧ rS Γ w (wGrind A W p s wr) G')))) args sx9 0 0 (zA Γ)) 339 [some (zr 10 w), some (zi 0), some (zi p), some (zi s), some (zi x4), some (zi x14), some (zi x6), some (zi v41), none] [zi y4, zi v328, zi (5 * 0 + p), zr 84 (Γ.2.1 w 54)] (zuI (zuI (zuI G7 2088 (Γ.2.1 w 58) (0 : Int).toNat (v265 - v277)) 2087 (Γ.2.1 w 57) (0 : Int).toNat (v286 + 1)) 2082 (Γ.2.1 w 52) (20 * 0 + 4 * p + s).toNat (v305 + y3)) := by
              intro y4 h339_0
              first | refine zs_iadd (pc := 339) C dX9_grinds_339 (by omega) ?_ | refine zs_iaddF (pc := 339) C dX9_grinds_339 (fun z339 hz3391 hz3392 => ?_)
              refine zs_iast (r := 2084) (pc := 340) C dX9_grinds_340 a_84 (by decide) (by omega) rfl (r_2084 _) (by omega) ?_
              refine zs_aload_n (pc := 341) C dX9_grinds_341 rfl ?_
              refine zs_getf (pc := 342) C dX9_grinds_342 w_X9_94 f_10_53 (by decide) ?_
              refine zs_iconst (pc := 345) C dX9_grinds_345 (by decide) ?_
              refine zs_iload_n (pc := 346) C dX9_grinds_346 rfl ?_
              first | refine zs_imul (pc := 347) C dX9_grinds_347 (by omega) ?_ | refine zs_imulF (pc := 347) C dX9_grinds_347 (fun z347 hz3471 hz3472 => ?_)
              refine zs_iload_n (pc := 348) C dX9_grinds_348 rfl ?_
              first | refine zs_iadd (pc := 349) C dX9_grinds_349 (by omega) ?_ | refine zs_iaddF (pc := 349) C dX9_grinds_349 (fun z349 hz3491 hz3492 => ?_)
              refine zs_dup2 (pc := 350) C dX9_grinds_350 ?_
              refine zs_iald (r := 2083) (pc := 351) C dX9_grinds_351 a_83 (by decide) (by omega) rfl (r_2083 _) (fun v351 e351 l351 u351 => ?_)
              try simp only [zuI_1, zuI_2, zuJ_1, zuJ_2, zuJ_3, zuP_1, zuP_2, zuP_3, zuC_1, zuC_2, reduceIte, Nat.reduceEqDiff, false_and, and_false, true_and, and_true, and_self, or_true, true_or, or_false, false_or] at e351
              have y351 : v351 = W 13 p.toNat := by rw [e351, hR7 2083 (by decide)]; exact rBp.1
              refine zs_iconst (pc := 352) C dX9_grinds_352 (by decide) ?_
              first | refine zs_iadd (pc := 353) C dX9_grinds_353 (by omega) ?_ | refine zs_iaddF (pc := 353) C dX9_grinds_353 (fun z353 hz3531 hz3532 => ?_)
              refine zs_iast (r := 2083) (pc := 354) C dX9_grinds_354 a_83 (by decide) (by omega) rfl (r_2083 _) (by omega) ?_
              refine zs_iload_n (pc := 355) C dX9_grinds_355 rfl ?_
              refine zs_if_eq (tgt := 366) (pc := 356) C dX9_grinds_356 (by decide) (fun h356 => ?_) (fun h356 => ?_)
              · skip
                refine zs_aload_n (pc := 366) C dX9_grinds_366 rfl ?_
                refine zs_getf (pc := 367) C dX9_grinds_367 w_X9_112 f_10_59 (by decide) ?_
                refine zs_iload_n (pc := 370) C dX9_grinds_370 rfl ?_
                refine zs_aload_n (pc := 371) C dX9_grinds_371 rfl ?_
                refine zs_getf (pc := 372) C dX9_grinds_372 w_X9_112 f_10_59 (by decide) ?_
                refine zs_iload_n (pc := 375) C dX9_grinds_375 rfl ?_
                refine zs_iald (r := 2089) (pc := 376) C dX9_grinds_376 a_89 (by decide) (by omega) rfl (r_2089 _) (fun v376 e376 l376 u376 => ?_)
                try simp only [zuI_1, zuI_2, zuJ_1, zuJ_2, zuJ_3, zuP_1, zuP_2, zuP_3, zuC_1, zuC_2, reduceIte, Nat.reduceEqDiff, false_and, and_false, true_and, and_true, and_self, or_true, true_or, or_false, false_or] at e376
                have y376 : v376 = W 20 0 := by rw [e376, hR7 2089 (by decide)]; exact r3
                refine zs_iload (pc := 377) C dX9_grinds_377 rfl ?_
                first | refine zs_iadd (pc := 379) C dX9_grinds_379 (by omega) ?_ | refine zs_iaddF (pc := 379) C dX9_grinds_379 (fun z379 hz3791 hz3792 => ?_)
                refine zs_ldc (n := 99999) (pc := 380) C dX9_grinds_380 q_X9_216 (by decide) (by decide) ?_
                have J399 : ∀ (y5 : Int), (y5 = min 99999 (W 20 0 + wWear A W p s)) → Z px9 l e (zrm 5) sx9 m args below meth c Γ 9 0 0 (MQ below (zQc Γ (zpi (fun x G' => zsm [2091, 2092, 2093, 2094, 2095, 1050, 2096, 2097, 2098, 2099, 2100, 2088, 2087, 2082, 2084, 2083, 2089] G G' ∧ (x = W 0 0 ∧ rW Γ w 0 (wGrind A W p s wr) G' ∧ zsj [2079, 2080] G G' ∧ rS Γ w (wGrind A W p s wr) G')))) args sx9 0 0 (zA Γ)) 399 [some (zr 10 w), some (zi 0), some (zi p), some (zi s), some (zi x4), some (zi x14), some (zi x6), some (zi v41), none] [zi y5, zi 0, zr 89 (Γ.2.1 w 59)] (zuI (zuI (zuI (zuI (zuI G7 2088 (Γ.2.1 w 58) (0 : Int).toNat (v265 - v277)) 2087 (Γ.2.1 w 57) (0 : Int).toNat (v286 + 1)) 2082 (Γ.2.1 w 52) (20 * 0 + 4 * p + s).toNat (v305 + y3)) 2084 (Γ.2.1 w 54) (5 * 0 + p).toNat (v328 + y4)) 2083 (Γ.2.1 w 53) (5 * 0 + p).toNat (v351 + 1)) := by
                  intro y5 h399_0
                  refine zs_iast (r := 2089) (pc := 399) C dX9_grinds_399 a_89 (by decide) (by omega) rfl (r_2089 _) (by omega) ?_
                  refine zs_iload (pc := 400) C dX9_grinds_400 rfl ?_
                  exact zs_iret (pc := 402) C hr hlk dX9_grinds_402 ⟨(by repeat (first | exact zsm_rf | assumption | refine zsm_I (by decide) ?_ | refine zsm_J ?_ | refine zsm_c (by assumption) (by decide) ?_)), ⟨by omega, ⟨(fun j hj => by have q9 := rA j hj; rw [ef 11 j (by omega), e12]; by_cases q : j = (p * 4 + s).toNat; (refine ⟨by simp only [zuI_1, zuI_2, zuJ_1, zuJ_2, zuJ_3, zuP_1, zuP_2, zuP_3, zuC_1, zuC_2, reduceIte, Nat.reduceEqDiff, false_and, and_false, true_and, and_true, and_self, or_true, true_or, or_false, false_or, hR7 2081 (by decide)]; exact q9.1, ?_⟩; simp only [zuI_1, zuI_2, zuJ_1, zuJ_2, zuJ_3, zuP_1, zuP_2, zuP_3, zuC_1, zuC_2, reduceIte, Nat.reduceEqDiff, false_and, and_false, true_and, and_true, and_self, or_true, true_or, or_false, false_or]; rw [if_pos (by omega)]; by_cases q2 : 0 < wL W p s; (rw [if_pos ⟨q2, q⟩]; subst q; omega); (rw [if_neg (fun q3 => q2 q3.1)]; subst q; omega)); (refine ⟨by simp only [zuI_1, zuI_2, zuJ_1, zuJ_2, zuJ_3, zuP_1, zuP_2, zuP_3, zuC_1, zuC_2, reduceIte, Nat.reduceEqDiff, false_and, and_false, true_and, and_true, and_self, or_true, true_or, or_false, false_or, hR7 2081 (by decide)]; exact q9.1, ?_⟩; simp only [zuI_1, zuI_2, zuJ_1, zuJ_2, zuJ_3, zuP_1, zuP_2, zuP_3, zuC_1, zuC_2, reduceIte, Nat.reduceEqDiff, false_and, and_false, true_and, and_true, and_self, or_true, true_or, or_false, false_or]; rw [if_neg (by omega), if_neg (fun q3 => q q3.2), hR7 2082 (by decide)]; exact q9.2)), (fun j hj => by have q9 := rB j hj; rw [ef 15 j (by omega), ef 16 j (by omega), e13, e14]; by_cases q : j = p.toNat; (rw [if_pos q]; refine ⟨?_, ?_, by simp only [zuI_1, zuI_2, zuJ_1, zuJ_2, zuJ_3, zuP_1, zuP_2, zuP_3, zuC_1, zuC_2, reduceIte, Nat.reduceEqDiff, false_and, and_false, true_and, and_true, and_self, or_true, true_or, or_false, false_or, hR7 2085 (by decide)]; exact q9.2.2.1, by simp only [zuI_1, zuI_2, zuJ_1, zuJ_2, zuJ_3, zuP_1, zuP_2, zuP_3, zuC_1, zuC_2, reduceIte, Nat.reduceEqDiff, false_and, and_false, true_and, and_true, and_self, or_true, true_or, or_false, false_or, hR7 2086 (by decide)]; exact q9.2.2.2⟩; (simp only [zuI_1, zuI_2, zuJ_1, zuJ_2, zuJ_3, zuP_1, zuP_2, zuP_3, zuC_1, zuC_2, reduceIte, Nat.reduceEqDiff, false_and, and_false, true_and, and_true, and_self, or_true, true_or, or_false, false_or]; rw [if_pos (by omega)]; subst q; omega); (simp only [zuI_1, zuI_2, zuJ_1, zuJ_2, zuJ_3, zuP_1, zuP_2, zuP_3, zuC_1, zuC_2, reduceIte, Nat.reduceEqDiff, false_and, and_false, true_and, and_true, and_self, or_true, true_or, or_false, false_or]; rw [if_pos (by omega)]; by_cases q2 : 0 < wL W p s; (rw [if_neg (fun q3 => q3.1 q2)]; subst q; omega); (rw [if_pos ⟨q2, q⟩]; subst q; omega))); (rw [if_neg q, if_neg (fun q3 => q q3.2)]; refine ⟨by simp only [zuI_1, zuI_2, zuJ_1, zuJ_2, zuJ_3, zuP_1, zuP_2, zuP_3, zuC_1, zuC_2, reduceIte, Nat.reduceEqDiff, false_and, and_false, true_and, and_true, and_self, or_true, true_or, or_false, false_or]; rw [if_neg (by omega), hR7 2083 (by decide)]; exact q9.1, by simp only [zuI_1, zuI_2, zuJ_1, zuJ_2, zuJ_3, zuP_1, zuP_2, zuP_3, zuC_1, zuC_2, reduceIte, Nat.reduceEqDiff, false_and, and_false, true_and, and_true, and_self, or_true, true_or, or_false, false_or]; rw [if_neg (by omega), hR7 2084 (by decide)]; exact q9.2.1, by simp only [zuI_1, zuI_2, zuJ_1, zuJ_2, zuJ_3, zuP_1, zuP_2, zuP_3, zuC_1, zuC_2, reduceIte, Nat.reduceEqDiff, false_and, and_false, true_and, and_true, and_self, or_true, true_or, or_false, false_or, hR7 2085 (by decide)]; exact q9.2.2.1, by simp only [zuI_1, zuI_2, zuJ_1, zuJ_2, zuJ_3, zuP_1, zuP_2, zuP_3, zuC_1, zuC_2, reduceIte, Nat.reduceEqDiff, false_and, and_false, true_and, and_true, and_self, or_true, true_or, or_false, false_or, hR7 2086 (by decide)]; exact q9.2.2.2⟩)), ⟨by simp only [zuI_1, zuI_2, zuJ_1, zuJ_2, zuJ_3, zuP_1, zuP_2, zuP_3, zuC_1, zuC_2, reduceIte, Nat.reduceEqDiff, false_and, and_false, true_and, and_true, and_self, or_true, true_or, or_false, false_or]; omega, by simp only [zuI_1, zuI_2, zuJ_1, zuJ_2, zuJ_3, zuP_1, zuP_2, zuP_3, zuC_1, zuC_2, reduceIte, Nat.reduceEqDiff, false_and, and_false, true_and, and_true, and_self, or_true, true_or, or_false, false_or]; omega, by simp only [zuI_1, zuI_2, zuJ_1, zuJ_2, zuJ_3, zuP_1, zuP_2, zuP_3, zuC_1, zuC_2, reduceIte, Nat.reduceEqDiff, false_and, and_false, true_and, and_true, and_self, or_true, true_or, or_false, false_or]; rw [e20]; first | (rw [if_pos hwr]; omega) | (rw [if_neg hwr, hR7 2089 (by decide)]; omega), by simp only [zuI_1, zuI_2, zuJ_1, zuJ_2, zuJ_3, zuP_1, zuP_2, zuP_3, zuC_1, zuC_2, reduceIte, Nat.reduceEqDiff, false_and, and_false, true_and, and_true, and_self, or_true, true_or, or_false, false_or, hR7 2090 (by decide)]; rw [ef 18 0 (by omega)]; exact r4⟩, (by rw [e0]; exact rK_z (rs := [2088, 2087, 2082, 2084, 2083, 2089]) (G := G7) (by repeat (first | exact zsm_rf | assumption | refine zsm_C (by decide) ?_ | refine zsm_I (by decide) ?_ | refine zsm_J ?_ | refine zsm_c (by assumption) (by decide) ?_)) (by decide) h259_2)⟩, (by repeat (first | assumption | refine zsj_I ?_)), (by refine ⟨by rw [e0]; exact rQ_z (rs := [2088, 2087, 2082, 2084, 2083, 2089]) (G := G7) (by repeat (first | exact zsm_rf | assumption | refine zsm_C (by decide) ?_ | refine zsm_I (by decide) ?_ | refine zsm_J ?_ | refine zsm_c (by assumption) (by decide) ?_)) (by decide) h259_3, by simp only [zuI_1, zuI_2, zuJ_1, zuJ_2, zuJ_3, zuP_1, zuP_2, zuP_3, zuC_1, zuC_2, reduceIte, Nat.reduceEqDiff, false_and, and_false, true_and, and_true, and_self, or_true, true_or, or_false, false_or]; rw [h259_0.1 1083 (by decide), ef 22 0 (by omega)]; exact hS.2⟩)⟩⟩
                refine zs_icmp_le (tgt := 390) (pc := 382) C dX9_grinds_382 (by decide) (fun h382 => ?_) (fun h382 => ?_)
                · skip
                  refine zs_aload_n (pc := 390) C dX9_grinds_390 rfl ?_
                  refine zs_getf (pc := 391) C dX9_grinds_391 w_X9_112 f_10_59 (by decide) ?_
                  refine zs_iload_n (pc := 394) C dX9_grinds_394 rfl ?_
                  refine zs_iald (r := 2089) (pc := 395) C dX9_grinds_395 a_89 (by decide) (by omega) rfl (r_2089 _) (fun v395 e395 l395 u395 => ?_)
                  try simp only [zuI_1, zuI_2, zuJ_1, zuJ_2, zuJ_3, zuP_1, zuP_2, zuP_3, zuC_1, zuC_2, reduceIte, Nat.reduceEqDiff, false_and, and_false, true_and, and_true, and_self, or_true, true_or, or_false, false_or] at e395
                  have y395 : v395 = W 20 0 := by rw [e395, hR7 2089 (by decide)]; exact r3
                  refine zs_iload (pc := 396) C dX9_grinds_396 rfl ?_
                  first | refine zs_iadd (pc := 398) C dX9_grinds_398 (by omega) ?_ | refine zs_iaddF (pc := 398) C dX9_grinds_398 (fun z398 hz3981 hz3982 => ?_)
                  exact zs_wk (J399 _ (by omega)) (zwk_s rfl (zwk_s rfl (zwk_s rfl (zwk_s rfl (zwk_s rfl (zwk_s rfl (zwk_s rfl (zwk_s rfl (zwk_n zwk_0)))))))))
                · skip
                  refine zs_ldc (n := 99999) (pc := 385) C dX9_grinds_385 q_X9_216 (by decide) (by decide) ?_
                  refine zs_goto (tgt := 399) (pc := 387) C dX9_grinds_387 (by decide) ?_
                  exact zs_wk (J399 _ (by omega)) (zwk_s rfl (zwk_s rfl (zwk_s rfl (zwk_s rfl (zwk_s rfl (zwk_s rfl (zwk_s rfl (zwk_s rfl (zwk_n zwk_0)))))))))
              · skip
                exfalso; omega
            refine zs_if_eq (tgt := 338) (pc := 331) C dX9_grinds_331 (by decide) (fun h331 => ?_) (fun h331 => ?_)
            · skip
              refine zs_iconst (pc := 338) C dX9_grinds_338 (by decide) ?_
              exact zs_wk (J339 _ (by first | omega | (simp only [zuI_1, zuI_2, zuJ_1, zuJ_2, zuJ_3, zuP_1, zuP_2, zuP_3, zuC_1, zuC_2, reduceIte, Nat.reduceEqDiff, false_and, and_false, true_and, and_true, and_self, or_true, true_or, or_false, false_or]; omega))) (zwk_s rfl (zwk_s rfl (zwk_s rfl (zwk_s rfl (zwk_s rfl (zwk_s rfl (zwk_s rfl (zwk_s rfl (zwk_n zwk_0)))))))))
            · skip
              refine zs_iconst (pc := 334) C dX9_grinds_334 (by decide) ?_
              refine zs_goto (tgt := 339) (pc := 335) C dX9_grinds_335 (by decide) ?_
              exact zs_wk (J339 _ (by first | omega | (simp only [zuI_1, zuI_2, zuJ_1, zuJ_2, zuJ_3, zuP_1, zuP_2, zuP_3, zuC_1, zuC_2, reduceIte, Nat.reduceEqDiff, false_and, and_false, true_and, and_true, and_self, or_true, true_or, or_false, false_or]; omega))) (zwk_s rfl (zwk_s rfl (zwk_s rfl (zwk_s rfl (zwk_s rfl (zwk_s rfl (zwk_s rfl (zwk_s rfl (zwk_n zwk_0)))))))))
          refine zs_if_eq (tgt := 315) (pc := 308) C dX9_grinds_308 (by decide) (fun h308 => ?_) (fun h308 => ?_)
          · skip
            refine zs_iconst (pc := 315) C dX9_grinds_315 (by decide) ?_
            exact zs_wk (J316 _ (by first | omega | (simp only [zuI_1, zuI_2, zuJ_1, zuJ_2, zuJ_3, zuP_1, zuP_2, zuP_3, zuC_1, zuC_2, reduceIte, Nat.reduceEqDiff, false_and, and_false, true_and, and_true, and_self, or_true, true_or, or_false, false_or]; omega))) (zwk_s rfl (zwk_s rfl (zwk_s rfl (zwk_s rfl (zwk_s rfl (zwk_s rfl (zwk_s rfl (zwk_s rfl (zwk_n zwk_0)))))))))
          · skip
            refine zs_iconst (pc := 311) C dX9_grinds_311 (by decide) ?_
            refine zs_goto (tgt := 316) (pc := 312) C dX9_grinds_312 (by decide) ?_
            exact zs_wk (J316 _ (by first | omega | (simp only [zuI_1, zuI_2, zuJ_1, zuJ_2, zuJ_3, zuP_1, zuP_2, zuP_3, zuC_1, zuC_2, reduceIte, Nat.reduceEqDiff, false_and, and_false, true_and, and_true, and_self, or_true, true_or, or_false, false_or]; omega))) (zwk_s rfl (zwk_s rfl (zwk_s rfl (zwk_s rfl (zwk_s rfl (zwk_s rfl (zwk_s rfl (zwk_s rfl (zwk_n zwk_0)))))))))
        refine zs_if_ne (tgt := 259) (pc := 149) C dX9_grinds_149 (by decide) (fun h149 => ?_) (fun h149 => ?_)
        · skip
          exfalso; omega
        · skip
          refine zs_aload_n (pc := 152) C dX9_grinds_152 rfl ?_
          refine zs_getf (pc := 153) C dX9_grinds_153 w_X9_133 f_10_67 (by decide) ?_
          refine zs_iload (pc := 156) C dX9_grinds_156 rfl ?_
          refine zs_aload_n (pc := 158) C dX9_grinds_158 rfl ?_
          refine zs_getf (pc := 159) C dX9_grinds_159 w_X9_94 f_10_53 (by decide) ?_
          refine zs_iload_n (pc := 162) C dX9_grinds_162 rfl ?_
          refine zs_iald (r := 2083) (pc := 163) C dX9_grinds_163 a_83 (by decide) (by omega) rfl (r_2083 _) (fun v163 e163 l163 u163 => ?_)
          try simp only [zuI_1, zuI_2, zuJ_1, zuJ_2, zuJ_3, zuP_1, zuP_2, zuP_3, zuC_1, zuC_2, reduceIte, Nat.reduceEqDiff, false_and, and_false, true_and, and_true, and_self, or_true, true_or, or_false, false_or] at e163
          have y163 : v163 = W 13 p.toNat := e163.trans (by rw [hz14.1 2083 (by decide), hz4.1 2083 (by decide)]; first | exact rBp.1 | (have q := rBp.1; rw [show (5 * (0 : Int) + p).toNat = p.toNat by omega] at q; exact q))
          refine zs_iast (r := 2096) (pc := 164) C dX9_grinds_164 a_96 (by decide) (by omega) rfl (r_2096 _) (by omega) ?_
          refine zs_aload_n (pc := 165) C dX9_grinds_165 rfl ?_
          refine zs_getf (pc := 166) C dX9_grinds_166 w_X9_136 f_10_68 (by decide) ?_
          refine zs_iload (pc := 169) C dX9_grinds_169 rfl ?_
          refine zs_aload_n (pc := 171) C dX9_grinds_171 rfl ?_
          refine zs_getf (pc := 172) C dX9_grinds_172 w_X9_112 f_10_59 (by decide) ?_
          refine zs_iconst (pc := 175) C dX9_grinds_175 (by decide) ?_
          refine zs_iald (r := 2089) (pc := 176) C dX9_grinds_176 a_89 (by decide) (by omega) rfl (r_2089 _) (fun v176 e176 l176 u176 => ?_)
          try simp only [zuI_1, zuI_2, zuJ_1, zuJ_2, zuJ_3, zuP_1, zuP_2, zuP_3, zuC_1, zuC_2, reduceIte, Nat.reduceEqDiff, false_and, and_false, true_and, and_true, and_self, or_true, true_or, or_false, false_or] at e176
          have y176 : v176 = W 20 0 := e176.trans r314
          refine zs_iast (r := 2097) (pc := 177) C dX9_grinds_177 a_97 (by decide) (by omega) rfl (r_2097 _) (by omega) ?_
          refine zs_aload_n (pc := 178) C dX9_grinds_178 rfl ?_
          refine zs_getf (pc := 179) C dX9_grinds_179 w_X9_139 f_10_69 (by decide) ?_
          refine zs_iload (pc := 182) C dX9_grinds_182 rfl ?_
          refine zs_aload_n (pc := 184) C dX9_grinds_184 rfl ?_
          refine zs_iconst (pc := 185) C dX9_grinds_185 (by decide) ?_
          refine zs_iload_n (pc := 186) C dX9_grinds_186 rfl ?_
          refine zVip2 (pc := 187) C dX9_grinds_187 v_X9_404 (c_X9_prideOfW hX (Or.inl rfl) hp (by repeat (first | assumption | refine rL_sm (by assumption) (by decide) ?_ | refine rL_I (by decide) ?_ | refine rL_J ?_)) (by repeat (first | assumption | refine kR_sm (by assumption) (by decide) ?_ | refine kR_I (by decide) ?_ | refine kR_J ?_)) hW hT) (by decide) (by decide) ⟨Nat.zero_le _, Nat.zero_le _⟩ (Nat.le_of_ble_eq_true rfl) (fun x187 l187 u187 hp187 => ?_)
          have hq187 := hp187
          try simp only [zuI_1, zuI_2, zuJ_1, zuJ_2, zuJ_3, zuP_1, zuP_2, zuP_3, zuC_1, zuC_2, reduceIte, Nat.reduceEqDiff, false_and, and_false, true_and, and_true, and_self, or_true, true_or, or_false, false_or] at hq187
          refine zs_iast (r := 2098) (pc := 190) C dX9_grinds_190 a_98 (by decide) (by omega) rfl (r_2098 _) (by omega) ?_
          refine zs_aload_n (pc := 191) C dX9_grinds_191 rfl ?_
          refine zs_getf (pc := 192) C dX9_grinds_192 w_X9_142 f_10_70 (by decide) ?_
          refine zs_iload (pc := 195) C dX9_grinds_195 rfl ?_
          refine zs_aload_n (pc := 197) C dX9_grinds_197 rfl ?_
          refine zs_getf (pc := 198) C dX9_grinds_198 w_X9_115 f_10_60 (by decide) ?_
          refine zs_iconst (pc := 201) C dX9_grinds_201 (by decide) ?_
          refine zs_iald (r := 2090) (pc := 202) C dX9_grinds_202 a_90 (by decide) (by omega) rfl (r_2090 _) (fun v202 e202 l202 u202 => ?_)
          try simp only [zuI_1, zuI_2, zuJ_1, zuJ_2, zuJ_3, zuP_1, zuP_2, zuP_3, zuC_1, zuC_2, reduceIte, Nat.reduceEqDiff, false_and, and_false, true_and, and_true, and_self, or_true, true_or, or_false, false_or] at e202
          have y202 : v202 = W 18 0 := e202.trans r414
          refine zs_iast (r := 2099) (pc := 203) C dX9_grinds_203 a_99 (by decide) (by omega) rfl (r_2099 _) (by omega) ?_
          refine zs_aload_n (pc := 204) C dX9_grinds_204 rfl ?_
          refine zs_getf (pc := 205) C dX9_grinds_205 w_X9_145 f_10_71 (by decide) ?_
          refine zs_iload (pc := 208) C dX9_grinds_208 rfl ?_
          refine zs_iconst (pc := 210) C dX9_grinds_210 (by decide) ?_
          refine zs_iast (r := 2100) (pc := 211) C dX9_grinds_211 a_100 (by decide) (by omega) rfl (r_2100 _) (by omega) ?_
          refine zs_heap (P := fun Gq => Gq = (zuI (zuI (zuI (zuI (zuI (zuI (zuI (zuI (zuI (zuI G14 2091 (Γ.2.1 w 62) (60 * 0 + v41).toNat p) 2092 (Γ.2.1 w 63) (60 * 0 + v41).toNat s) 2093 (Γ.2.1 w 64) (60 * 0 + v41).toNat x4) 2094 (Γ.2.1 w 65) (60 * 0 + v41).toNat y1) 2095 (Γ.2.1 w 66) (60 * 0 + v41).toNat y2) 2096 (Γ.2.1 w 67) v41.toNat v163) 2097 (Γ.2.1 w 68) v41.toNat v176) 2098 (Γ.2.1 w 69) v41.toNat x187) 2099 (Γ.2.1 w 70) v41.toNat v202) 2100 (Γ.2.1 w 71) v41.toNat 0)) rfl (fun Gq hGq => ?_)
          have hLq : rL Γ w 0 W Gq := by rw [hGq]; exact (by repeat (first | assumption | refine rL_sm (by assumption) (by decide) ?_ | refine rL_I (by decide) ?_ | refine rL_J ?_))
          have hKq : Gq.1 1012 w 0 = A 4 0 := by rw [hGq]; simp only [zuI_1, zuI_2, zuJ_1, zuJ_2, zuJ_3, zuP_1, zuP_2, zuP_3, zuC_1, zuC_2, reduceIte, Nat.reduceEqDiff, false_and, and_false, true_and, and_true, and_self, or_true, true_or, or_false, false_or]; exact hK14.1.1
          have hzGq : zsm [2091, 2092, 2093, 2094, 2095, 1050, 2096, 2097, 2098, 2099, 2100] G Gq := by rw [hGq]; repeat (first | exact zsm_rf | assumption | refine zsm_C (by decide) ?_ | refine zsm_I (by decide) ?_ | refine zsm_J ?_ | refine zsm_c (by assumption) (by decide) ?_)
          have hjGq : Gq.2.1 = G14.2.1 := by rw [hGq]; first | done | rfl
          refine zs_iconst (pc := 212) C dX9_grinds_212 (by decide) ?_
          refine zs_istore (pc := 213) C dX9_grinds_213 (by decide) ?_
          dsimp only [zset, zclr, znone]
          have L215 : ∀ (nn : Nat) (x8 : Int) (G71 : zH), (0 ≤ x8 ∧ x8 ≤ A 4 0) → (zsm [2100] Gq G71) → (G71.1 2100 (Γ.2.1 w 71) v41.toNat = wB (W 12) (p * 4).toNat x8.toNat) → (∀ j : Nat, j ≠ v41.toNat → G71.1 2100 (Γ.2.1 w 71) j = Gq.1 2100 (Γ.2.1 w 71) j) → (G71.2.1 = Gq.2.1) → (4 - x8).toNat < nn → Z px9 l e (zrm 5) sx9 m args below meth c Γ 9 0 0 (MQ below (zQc Γ (zpi (fun x G' => zsm [2091, 2092, 2093, 2094, 2095, 1050, 2096, 2097, 2098, 2099, 2100, 2088, 2087, 2082, 2084, 2083, 2089] G G' ∧ (x = W 0 0 ∧ rW Γ w 0 (wGrind A W p s wr) G' ∧ zsj [2079, 2080] G G' ∧ rS Γ w (wGrind A W p s wr) G')))) args sx9 0 0 (zA Γ)) 215 [some (zr 10 w), some (zi 0), some (zi p), some (zi s), some (zi x4), some (zi x14), some (zi x6), some (zi v41), some (zi x8)] [] G71 := by
            intro nn
            induction nn with
            | zero => intro x8 G71 h215_0 h215_1 h215_2 h215_3 h215_4 hm; exact absurd hm (Nat.not_lt_zero _)
            | succ nn ih215 =>
              intro x8 G71 h215_0 h215_1 h215_2 h215_3 h215_4 hm215
              have hzq := h215_1
              have hlo := h215_3
              have hk71 : G71.1 1012 w 0 = A 4 0 := by rw [h215_1.1 1012 (by decide)]; exact hKq
              refine zs_iload (pc := 215) C dX9_grinds_215 rfl ?_
              refine zs_aload_n (pc := 217) C dX9_grinds_217 rfl ?_
              refine zs_geti (r := 1012) (pc := 218) C dX9_grinds_218 w_X9_258 f_10_12 rfl (r_1012 0) (fun v218 e218 l218 u218 => ?_)
              refine zs_icmp_ge (tgt := 259) (pc := 221) C dX9_grinds_221 (by decide) (fun h221 => ?_) (fun h221 => ?_)
              · skip
                have hx8 : x8 = A 4 0 := by omega
                have hlq : G71.1 2100 (Γ.2.1 w 71) v41.toNat = wB (W 12) (p * 4).toNat (A 4 0).toNat := by rw [← hx8]; exact h215_2
                exact zs_wk (J259 _ (by repeat (first | exact zsm_rf | assumption | refine zsm_C (by decide) ?_ | refine zsm_I (by decide) ?_ | refine zsm_J ?_ | refine zsm_c (by assumption) (by decide) ?_)) (zsj_e (h215_4.trans hjGq) zj7) (fun k hk => by rw [e3, e5]; by_cases q : k = (W 0 0).toNat; (rw [if_pos q, if_pos q]; exact ⟨by rw [hzq.1 2093 (by decide), hGq]; simp only [zuI_1, zuI_2, zuJ_1, zuJ_2, zuJ_3, zuP_1, zuP_2, zuP_3, zuC_1, zuC_2, reduceIte, Nat.reduceEqDiff, false_and, and_false, true_and, and_true, and_self, or_true, true_or, or_false, false_or]; rw [if_pos (by omega)]; omega, by rw [hzq.1 2094 (by decide), hGq]; simp only [zuI_1, zuI_2, zuJ_1, zuJ_2, zuJ_3, zuP_1, zuP_2, zuP_3, zuC_1, zuC_2, reduceIte, Nat.reduceEqDiff, false_and, and_false, true_and, and_true, and_self, or_true, true_or, or_false, false_or]; rw [if_pos (by omega)]; omega⟩); (rw [if_neg q, if_neg q]; have q9 := rC14 k (by omega); exact ⟨by rw [hzq.1 2093 (by decide), hGq]; simp only [zuI_1, zuI_2, zuJ_1, zuJ_2, zuJ_3, zuP_1, zuP_2, zuP_3, zuC_1, zuC_2, reduceIte, Nat.reduceEqDiff, false_and, and_false, true_and, and_true, and_self, or_true, true_or, or_false, false_or]; rw [if_neg (by omega)]; exact q9.1, by rw [hzq.1 2094 (by decide), hGq]; simp only [zuI_1, zuI_2, zuJ_1, zuJ_2, zuJ_3, zuP_1, zuP_2, zuP_3, zuC_1, zuC_2, reduceIte, Nat.reduceEqDiff, false_and, and_false, true_and, and_true, and_self, or_true, true_or, or_false, false_or]; rw [if_neg (by omega)]; exact q9.2⟩)) (fun k hk => by by_cases q : k = (W 0 0).toNat; (rw [e1, e2, e6, e7, e8, e9, e10, if_pos q, if_pos q, if_pos q, if_pos q, if_pos q, if_pos q, if_pos q]; have hlie : wLie (wGrind A W p s wr) k s = x6 := (by have q8 := (wLie_b (W := W) (V := wGrind A W p s wr) (k := (k : Int)) (p := p) (s := s) (by rw [Int.toNat_natCast, e10, if_pos q]) hp hs); omega); exact ⟨(by rw [hzq.1 2091 (by decide), hGq]; simp only [zuI_1, zuI_2, zuJ_1, zuJ_2, zuJ_3, zuP_1, zuP_2, zuP_3, zuC_1, zuC_2, reduceIte, Nat.reduceEqDiff, false_and, and_false, true_and, and_true, and_self, or_true, true_or, or_false, false_or]; first | (rw [if_pos (by omega)]; done) | (rw [if_pos (by omega)]; omega)), (by rw [hzq.1 2092 (by decide), hGq]; simp only [zuI_1, zuI_2, zuJ_1, zuJ_2, zuJ_3, zuP_1, zuP_2, zuP_3, zuC_1, zuC_2, reduceIte, Nat.reduceEqDiff, false_and, and_false, true_and, and_true, and_self, or_true, true_or, or_false, false_or]; first | (rw [if_pos (by omega)]; done) | (rw [if_pos (by omega)]; omega)), (by rw [hzq.1 2095 (by decide), hGq]; simp only [zuI_1, zuI_2, zuJ_1, zuJ_2, zuJ_3, zuP_1, zuP_2, zuP_3, zuC_1, zuC_2, reduceIte, Nat.reduceEqDiff, false_and, and_false, true_and, and_true, and_self, or_true, true_or, or_false, false_or]; rw [if_pos (by omega)]; rw [hlie]; omega), (by rw [hzq.1 2096 (by decide), hGq]; simp only [zuI_1, zuI_2, zuJ_1, zuJ_2, zuJ_3, zuP_1, zuP_2, zuP_3, zuC_1, zuC_2, reduceIte, Nat.reduceEqDiff, false_and, and_false, true_and, and_true, and_self, or_true, true_or, or_false, false_or]; first | (rw [if_pos (by omega)]; done) | (rw [if_pos (by omega)]; omega)), (by rw [hzq.1 2097 (by decide), hGq]; simp only [zuI_1, zuI_2, zuJ_1, zuJ_2, zuJ_3, zuP_1, zuP_2, zuP_3, zuC_1, zuC_2, reduceIte, Nat.reduceEqDiff, false_and, and_false, true_and, and_true, and_self, or_true, true_or, or_false, false_or]; first | (rw [if_pos (by omega)]; done) | (rw [if_pos (by omega)]; omega)), (by rw [hzq.1 2098 (by decide), hGq]; simp only [zuI_1, zuI_2, zuJ_1, zuJ_2, zuJ_3, zuP_1, zuP_2, zuP_3, zuC_1, zuC_2, reduceIte, Nat.reduceEqDiff, false_and, and_false, true_and, and_true, and_self, or_true, true_or, or_false, false_or]; first | (rw [if_pos (by omega)]; done) | (rw [if_pos (by omega)]; omega)), (by rw [hzq.1 2099 (by decide), hGq]; simp only [zuI_1, zuI_2, zuJ_1, zuJ_2, zuJ_3, zuP_1, zuP_2, zuP_3, zuC_1, zuC_2, reduceIte, Nat.reduceEqDiff, false_and, and_false, true_and, and_true, and_self, or_true, true_or, or_false, false_or]; first | (rw [if_pos (by omega)]; done) | (rw [if_pos (by omega)]; omega)), (by rw [show k = v41.toNat by omega, hlq]; exact wB_sins hT hW hp)⟩); (have q9 := hS.1 k (by omega); rw [wLie_o (V := wGrind A W p s wr) (W := W) (by rw [Int.toNat_natCast, e10, if_neg q]), e1, e2, e6, e7, e8, e9, e10, if_neg q, if_neg q, if_neg q, if_neg q, if_neg q, if_neg q, if_neg q]; exact ⟨(by rw [hzq.1 2091 (by decide), hGq]; simp only [zuI_1, zuI_2, zuJ_1, zuJ_2, zuJ_3, zuP_1, zuP_2, zuP_3, zuC_1, zuC_2, reduceIte, Nat.reduceEqDiff, false_and, and_false, true_and, and_true, and_self, or_true, true_or, or_false, false_or]; rw [if_neg (by omega)]; rw [hz14.1 _ (by decide), hz4.1 _ (by decide)]; exact q9.1), (by rw [hzq.1 2092 (by decide), hGq]; simp only [zuI_1, zuI_2, zuJ_1, zuJ_2, zuJ_3, zuP_1, zuP_2, zuP_3, zuC_1, zuC_2, reduceIte, Nat.reduceEqDiff, false_and, and_false, true_and, and_true, and_self, or_true, true_or, or_false, false_or]; rw [if_neg (by omega)]; rw [hz14.1 _ (by decide), hz4.1 _ (by decide)]; exact q9.2.1), (by rw [hzq.1 2095 (by decide), hGq]; simp only [zuI_1, zuI_2, zuJ_1, zuJ_2, zuJ_3, zuP_1, zuP_2, zuP_3, zuC_1, zuC_2, reduceIte, Nat.reduceEqDiff, false_and, and_false, true_and, and_true, and_self, or_true, true_or, or_false, false_or]; rw [if_neg (by omega)]; rw [hz14.1 _ (by decide), hz4.1 _ (by decide)]; exact q9.2.2.1), (by rw [hzq.1 2096 (by decide), hGq]; simp only [zuI_1, zuI_2, zuJ_1, zuJ_2, zuJ_3, zuP_1, zuP_2, zuP_3, zuC_1, zuC_2, reduceIte, Nat.reduceEqDiff, false_and, and_false, true_and, and_true, and_self, or_true, true_or, or_false, false_or]; rw [if_neg (by omega)]; rw [hz14.1 _ (by decide), hz4.1 _ (by decide)]; exact q9.2.2.2.1), (by rw [hzq.1 2097 (by decide), hGq]; simp only [zuI_1, zuI_2, zuJ_1, zuJ_2, zuJ_3, zuP_1, zuP_2, zuP_3, zuC_1, zuC_2, reduceIte, Nat.reduceEqDiff, false_and, and_false, true_and, and_true, and_self, or_true, true_or, or_false, false_or]; rw [if_neg (by omega)]; rw [hz14.1 _ (by decide), hz4.1 _ (by decide)]; exact q9.2.2.2.2.1), (by rw [hzq.1 2098 (by decide), hGq]; simp only [zuI_1, zuI_2, zuJ_1, zuJ_2, zuJ_3, zuP_1, zuP_2, zuP_3, zuC_1, zuC_2, reduceIte, Nat.reduceEqDiff, false_and, and_false, true_and, and_true, and_self, or_true, true_or, or_false, false_or]; rw [if_neg (by omega)]; rw [hz14.1 _ (by decide), hz4.1 _ (by decide)]; exact q9.2.2.2.2.2.1), (by rw [hzq.1 2099 (by decide), hGq]; simp only [zuI_1, zuI_2, zuJ_1, zuJ_2, zuJ_3, zuP_1, zuP_2, zuP_3, zuC_1, zuC_2, reduceIte, Nat.reduceEqDiff, false_and, and_false, true_and, and_true, and_self, or_true, true_or, or_false, false_or]; rw [if_neg (by omega)]; rw [hz14.1 _ (by decide), hz4.1 _ (by decide)]; exact q9.2.2.2.2.2.2.1), (by rw [hlo k (by omega), hGq]; simp only [zuI_1, zuI_2, zuJ_1, zuJ_2, zuJ_3, zuP_1, zuP_2, zuP_3, zuC_1, zuC_2, reduceIte, Nat.reduceEqDiff, false_and, and_false, true_and, and_true, and_self, or_true, true_or, or_false, false_or]; rw [if_neg (by omega), hz14.1 2100 (by decide), hz4.1 2100 (by decide)]; exact q9.2.2.2.2.2.2.2)⟩))) (zwk_s rfl (zwk_s rfl (zwk_s rfl (zwk_s rfl (zwk_s rfl (zwk_s rfl (zwk_s rfl (zwk_s rfl (zwk_n zwk_0)))))))))
              · skip
                refine zs_aload_n (pc := 224) C dX9_grinds_224 rfl ?_
                refine zs_getf (pc := 225) C dX9_grinds_225 w_X9_145 f_10_71 (by decide) ?_
                refine zs_iload (pc := 228) C dX9_grinds_228 rfl ?_
                refine zs_dup2 (pc := 230) C dX9_grinds_230 ?_
                refine zs_iald (r := 2100) (pc := 231) C dX9_grinds_231 a_100 (by decide) (by omega) rfl (r_2100 _) (fun v231 e231 l231 u231 => ?_)
                have hs9 := wB_s (f := W 12) (b := (p * 4).toNat) (k := x8) (by omega)
                rw [show (p * 4).toNat + x8.toNat = (p * 4 + x8).toNat by omega] at hs9
                have hb9 := bor_i (k := x8) (x := v231) (by omega) (by have q := wB_in (f := W 12) (b := (p * 4).toNat) x8.toNat (by omega); omega)
                refine zs_aload_n (pc := 232) C dX9_grinds_232 rfl ?_
                refine zs_iconst (pc := 233) C dX9_grinds_233 (by decide) ?_
                refine zs_iload_n (pc := 234) C dX9_grinds_234 rfl ?_
                refine zs_iload (pc := 235) C dX9_grinds_235 rfl ?_
                refine zVip3 (pc := 237) C dX9_grinds_237 v_X9_394 (c_X9_leftOfW hX (Or.inl rfl) hp (by omega) (by repeat (first | assumption | refine rL_sm (by assumption) (by decide) ?_ | refine rL_I (by decide) ?_ | refine rL_J ?_)) (WI_WL hW)) (by decide) (by decide) ⟨Nat.zero_le _, Nat.zero_le _⟩ (Nat.le_of_ble_eq_true rfl) (fun x237 l237 u237 hp237 => ?_)
                have hq237 := hp237
                have hq237b : x237 = W 12 (p * 4 + x8).toNat := hq237
                refine zs_if_le (tgt := 250) (pc := 240) C dX9_grinds_240 (by decide) (fun h240 => ?_) (fun h240 => ?_)
                · skip
                  rw [if_neg (by omega)] at hs9
                  refine zs_iconst (pc := 250) C dX9_grinds_250 (by decide) ?_
                  refine zs_iorX (pc := 251) C dX9_grinds_251 (fun z251 ez251 hz2511 hz2512 => ?_)
                  have y251 : z251 = wB (W 12) (p * 4).toNat (x8 + 1).toNat := by rw [ez251]; first | (rw [ez246]; omega) | omega
                  refine zs_iast (r := 2100) (pc := 252) C dX9_grinds_252 a_100 (by decide) (by omega) rfl (r_2100 _) (by omega) ?_
                  first | refine zs_iinc (pc := 253) C dX9_grinds_253 rfl (by decide) (by omega) ?_ | refine zs_iincF (pc := 253) C dX9_grinds_253 rfl (by decide) (fun z253 hz2531 hz2532 => ?_)
                  dsimp only [zset, zclr, znone]
                  refine zs_goto (tgt := 215) (pc := 256) C dX9_grinds_256 (by decide) ?_
                  exact zs_wk (ih215 _ _ (by omega) (by repeat (first | exact zsm_rf | assumption | refine zsm_C (by decide) ?_ | refine zsm_I (by decide) ?_ | refine zsm_J ?_ | refine zsm_c (by assumption) (by decide) ?_)) (by simp only [zuI_1, zuI_2, zuJ_1, zuJ_2, zuJ_3, zuP_1, zuP_2, zuP_3, zuC_1, zuC_2, reduceIte, Nat.reduceEqDiff, false_and, and_false, true_and, and_true, and_self, or_true, true_or, or_false, false_or]; first | exact y251 | omega) (fun j hj => by simp only [zuI_1, zuI_2, zuJ_1, zuJ_2, zuJ_3, zuP_1, zuP_2, zuP_3, zuC_1, zuC_2, reduceIte, Nat.reduceEqDiff, false_and, and_false, true_and, and_true, and_self, or_true, true_or, or_false, false_or]; rw [if_neg (by omega)]; exact h215_3 j hj) h215_4 (by first | omega | (simp only [zuI_1, zuI_2, zuJ_1, zuJ_2, zuJ_3, zuP_1, zuP_2, zuP_3, zuC_1, zuC_2, reduceIte, Nat.reduceEqDiff, false_and, and_false, true_and, and_true, and_self, or_true, true_or, or_false, false_or]; omega))) (zwk_s rfl (zwk_s rfl (zwk_s rfl (zwk_s rfl (zwk_s rfl (zwk_s rfl (zwk_s rfl (zwk_s rfl (zwk_s rfl zwk_0)))))))))
                · skip
                  rw [if_pos (by omega)] at hs9
                  refine zs_iconst (pc := 243) C dX9_grinds_243 (by decide) ?_
                  refine zs_iload (pc := 244) C dX9_grinds_244 rfl ?_
                  refine zs_ishlX (pc := 246) C dX9_grinds_246 (fun z246 ez246 hz2461 hz2462 => ?_)
                  refine zs_goto (tgt := 251) (pc := 247) C dX9_grinds_247 (by decide) ?_
                  refine zs_iorX (pc := 251) C dX9_grinds_251 (fun z251 ez251 hz2511 hz2512 => ?_)
                  have y251 : z251 = wB (W 12) (p * 4).toNat (x8 + 1).toNat := by rw [ez251]; first | (rw [ez246]; omega) | omega
                  refine zs_iast (r := 2100) (pc := 252) C dX9_grinds_252 a_100 (by decide) (by omega) rfl (r_2100 _) (by omega) ?_
                  first | refine zs_iinc (pc := 253) C dX9_grinds_253 rfl (by decide) (by omega) ?_ | refine zs_iincF (pc := 253) C dX9_grinds_253 rfl (by decide) (fun z253 hz2531 hz2532 => ?_)
                  dsimp only [zset, zclr, znone]
                  refine zs_goto (tgt := 215) (pc := 256) C dX9_grinds_256 (by decide) ?_
                  exact zs_wk (ih215 _ _ (by omega) (by repeat (first | exact zsm_rf | assumption | refine zsm_C (by decide) ?_ | refine zsm_I (by decide) ?_ | refine zsm_J ?_ | refine zsm_c (by assumption) (by decide) ?_)) (by simp only [zuI_1, zuI_2, zuJ_1, zuJ_2, zuJ_3, zuP_1, zuP_2, zuP_3, zuC_1, zuC_2, reduceIte, Nat.reduceEqDiff, false_and, and_false, true_and, and_true, and_self, or_true, true_or, or_false, false_or]; first | exact y251 | omega) (fun j hj => by simp only [zuI_1, zuI_2, zuJ_1, zuJ_2, zuJ_3, zuP_1, zuP_2, zuP_3, zuC_1, zuC_2, reduceIte, Nat.reduceEqDiff, false_and, and_false, true_and, and_true, and_self, or_true, true_or, or_false, false_or]; rw [if_neg (by omega)]; exact h215_3 j hj) h215_4 (by first | omega | (simp only [zuI_1, zuI_2, zuJ_1, zuJ_2, zuJ_3, zuP_1, zuP_2, zuP_3, zuC_1, zuC_2, reduceIte, Nat.reduceEqDiff, false_and, and_false, true_and, and_true, and_self, or_true, true_or, or_false, false_or]; omega))) (zwk_s rfl (zwk_s rfl (zwk_s rfl (zwk_s rfl (zwk_s rfl (zwk_s rfl (zwk_s rfl (zwk_s rfl (zwk_s rfl zwk_0)))))))))
          exact zs_wk (L215 _ _ _ (by omega) zsm_rf (by rw [hGq]; simp only [zuI_1, zuI_2, zuJ_1, zuJ_2, zuJ_3, zuP_1, zuP_2, zuP_3, zuC_1, zuC_2, reduceIte, Nat.reduceEqDiff, false_and, and_false, true_and, and_true, and_self, or_true, true_or, or_false, false_or]; rfl) (fun j hj => rfl) rfl (Nat.lt_succ_self _)) (zwk_s rfl (zwk_s rfl (zwk_s rfl (zwk_s rfl (zwk_s rfl (zwk_s rfl (zwk_s rfl (zwk_s rfl (zwk_s rfl zwk_0)))))))))
      refine zs_if_eq (tgt := 146) (pc := 139) C dX9_grinds_139 (by decide) (fun h139 => ?_) (fun h139 => ?_)
      · skip
        refine zs_iconst (pc := 146) C dX9_grinds_146 (by decide) ?_
        exact zs_wk (J147 _ (by first | omega | (simp only [zuI_1, zuI_2, zuJ_1, zuJ_2, zuJ_3, zuP_1, zuP_2, zuP_3, zuC_1, zuC_2, reduceIte, Nat.reduceEqDiff, false_and, and_false, true_and, and_true, and_self, or_true, true_or, or_false, false_or]; omega))) (zwk_s rfl (zwk_s rfl (zwk_s rfl (zwk_s rfl (zwk_s rfl (zwk_s rfl (zwk_s rfl (zwk_s rfl (zwk_n zwk_0)))))))))
      · skip
        refine zs_iconst (pc := 142) C dX9_grinds_142 (by decide) ?_
        refine zs_goto (tgt := 147) (pc := 143) C dX9_grinds_143 (by decide) ?_
        exact zs_wk (J147 _ (by first | omega | (simp only [zuI_1, zuI_2, zuJ_1, zuJ_2, zuJ_3, zuP_1, zuP_2, zuP_3, zuC_1, zuC_2, reduceIte, Nat.reduceEqDiff, false_and, and_false, true_and, and_true, and_self, or_true, true_or, or_false, false_or]; omega))) (zwk_s rfl (zwk_s rfl (zwk_s rfl (zwk_s rfl (zwk_s rfl (zwk_s rfl (zwk_s rfl (zwk_s rfl (zwk_n zwk_0)))))))))
    have y100 : v100 = W 19 0 := e100.trans r214
    have y106 : v106 = A 13 0 := e106.trans (kO14 1 (by decide))
    refine zs_icmp_ge (tgt := 119) (pc := 107) C dX9_grinds_107 (by decide) (fun h107 => ?_) (fun h107 => ?_)
    · skip
      refine zs_aload_n (pc := 119) C dX9_grinds_119 rfl ?_
      refine zs_getf (pc := 120) C dX9_grinds_120 w_X9_20 f_10_22 (by decide) ?_
      refine zs_iconst (pc := 123) C dX9_grinds_123 (by decide) ?_
      refine zs_iald (r := 2059) (pc := 124) C dX9_grinds_124 a_59 (by decide) (by omega) rfl (show zrg 2059 (1 : Int).toNat = (0, 99) from rfl) (fun v124 e124 l124 u124 => ?_)
      try simp only [zuI_1, zuI_2, zuJ_1, zuJ_2, zuJ_3, zuP_1, zuP_2, zuP_3, zuC_1, zuC_2, reduceIte, Nat.reduceEqDiff, false_and, and_false, true_and, and_true, and_self, or_true, true_or, or_false, false_or] at e124
      exact zs_wk (J125 _ (by unfold wPort; omega)) (zwk_s rfl (zwk_s rfl (zwk_s rfl (zwk_s rfl (zwk_s rfl (zwk_s rfl (zwk_s rfl (zwk_s rfl (zwk_n zwk_0)))))))))
    · skip
      refine zs_aload_n (pc := 110) C dX9_grinds_110 rfl ?_
      refine zs_getf (pc := 111) C dX9_grinds_111 w_X9_109 f_10_58 (by decide) ?_
      refine zs_iload_n (pc := 114) C dX9_grinds_114 rfl ?_
      refine zs_iald (r := 2088) (pc := 115) C dX9_grinds_115 a_88 (by decide) (by omega) rfl (r_2088 _) (fun v115 e115 l115 u115 => ?_)
      try simp only [zuI_1, zuI_2, zuJ_1, zuJ_2, zuJ_3, zuP_1, zuP_2, zuP_3, zuC_1, zuC_2, reduceIte, Nat.reduceEqDiff, false_and, and_false, true_and, and_true, and_self, or_true, true_or, or_false, false_or] at e115
      have y115 : v115 = W 19 0 := e115.trans r214
      refine zs_goto (tgt := 125) (pc := 116) C dX9_grinds_116 (by decide) ?_
      exact zs_wk (J125 _ (by unfold wPort; omega)) (zwk_s rfl (zwk_s rfl (zwk_s rfl (zwk_s rfl (zwk_s rfl (zwk_s rfl (zwk_s rfl (zwk_s rfl (zwk_n zwk_0)))))))))
  refine zs_if_ne (tgt := 33) (pc := 26) C dX9_grinds_26 (by decide) (fun h26 => ?_) (fun h26 => ?_)
  · skip
    refine zs_iconst (pc := 33) C dX9_grinds_33 (by decide) ?_
    refine zs_istore (pc := 34) C dX9_grinds_34 (by decide) ?_
    dsimp only [zset, zclr, znone]
    exact zs_wk (J36 _ (by first | omega | (simp only [zuI_1, zuI_2, zuJ_1, zuJ_2, zuJ_3, zuP_1, zuP_2, zuP_3, zuC_1, zuC_2, reduceIte, Nat.reduceEqDiff, false_and, and_false, true_and, and_true, and_self, or_true, true_or, or_false, false_or]; omega))) (zwk_s rfl (zwk_s rfl (zwk_s rfl (zwk_s rfl (zwk_s rfl (zwk_s rfl (zwk_s rfl (zwk_n (zwk_n zwk_0)))))))))
  · skip
    refine zs_iconst (pc := 29) C dX9_grinds_29 (by decide) ?_
    refine zs_goto (tgt := 34) (pc := 30) C dX9_grinds_30 (by decide) ?_
    refine zs_istore (pc := 34) C dX9_grinds_34 (by decide) ?_
    dsimp only [zset, zclr, znone]
    exact zs_wk (J36 _ (by first | omega | (simp only [zuI_1, zuI_2, zuJ_1, zuJ_2, zuJ_3, zuP_1, zuP_2, zuP_3, zuC_1, zuC_2, reduceIte, Nat.reduceEqDiff, false_and, and_false, true_and, and_true, and_self, or_true, true_or, or_false, false_or]; omega))) (zwk_s rfl (zwk_s rfl (zwk_s rfl (zwk_s rfl (zwk_s rfl (zwk_s rfl (zwk_s rfl (zwk_n (zwk_n zwk_0)))))))))

set_option maxHeartbeats 4000000 in
set_option maxRecDepth 100000 in
theorem c_X9_grindsW1 {l : Launch} {Γ : zΓ} {G : zH} {w : Nat} {p s wr : Int} {A W : aS}  (hX : zXs Γ) (hp : 0 ≤ p ∧ p ≤ 4) (hs : 0 ≤ s ∧ s ≤ 3) (hR : rW Γ w 1 W G) (hK : kR Γ w A G) (hW : WI A W) (hT : TA A) (hp2 : p < A 4 1) (hs2 : s < A 4 0) (hc : wCan W) (hww : G.1 1074 w 0 = 0 ↔ wr = 0)  : zMet l Γ yX9_grinds cX9_grinds 9 (some .int) 5 [zr 10 w, zi 1, zi p, zi s] G (zpi (fun x G' => zsm [2091, 2092, 2093, 2094, 2095, 1050, 2088, 2087, 2082, 2084, 2083, 2089] G G' ∧ (x = W 0 0 ∧ rW Γ w 1 (wGrind A W p s wr) G' ∧ zsj [2079, 2080] G G' ∧ LO G G'))) := by
  refine zMet_of RX9 hX (by decide) rfl (Nat.le_of_ble_eq_true rfl) ?_
  intro px9 e sx9 m args below meth c C hr hlk
  show Z px9 l e (zrm 5) sx9 m args below meth c Γ 9 0 0 (MQ below (zQc Γ (zpi (fun x G' => zsm [2091, 2092, 2093, 2094, 2095, 1050, 2088, 2087, 2082, 2084, 2083, 2089] G G' ∧ (x = W 0 0 ∧ rW Γ w 1 (wGrind A W p s wr) G' ∧ zsj [2079, 2080] G G' ∧ LO G G')))) args sx9 0 0 (zA Γ)) 0 [some (zr 10 w), some (zi 1), some (zi p), some (zi s), none, none, none, none, none] [] G
  refine zs_loc 2 rfl (fun ha2 hb2 => ?_)
  refine zs_loc 3 rfl (fun ha3 hb3 => ?_)
  have hT0 := hT.1
  have h00 := hW.1
  obtain ⟨rA, rB, ⟨r1, r2, r3, r4⟩, rC⟩ := id hR
  obtain ⟨⟨k12, k13, k14, k15, k16⟩, kb, kS, kP, -, -, kC, kM, kO, kL, kN⟩ := id hK
  have hl := WI_L hW hp hs
  have hlw : wL W p s = W 12 (p * 4 + s).toNat := rfl
  obtain ⟨⟨e0, e1, e2, e3, e4, e5, e6, e7, e8, e9, e10⟩, e12, e13, e14, e19, e20, ef⟩ := wGr_ev (A := A) (p := p) (s := s) (wr := wr) hc
  have hpo : wPort A W = min (A 13 0) (W 19 0) := rfl
  have hT5 := hT.2.2.2.2.2.1
  obtain ⟨w18, w19, w20, w21, w22⟩ := hW.2.2.2.2.2
  have rAp := rA (p * 4 + s).toNat (by omega)
  rw [show (20 * 1 + ((p * 4 + s).toNat : Int)).toNat = (20 * 1 + 4 * p + s).toNat by omega] at rAp
  have rBp := rB p.toNat (by omega)
  rw [show (5 * 1 + (p.toNat : Int)).toNat = (5 * 1 + p).toNat by omega] at rBp
  have h13 := hW.2.2.2.2.1 p.toNat (by omega)
  refine zs_aload_n (pc := 0) C dX9_grinds_0 rfl ?_
  refine zs_iload_n (pc := 1) C dX9_grinds_1 rfl ?_
  refine zs_iload_n (pc := 2) C dX9_grinds_2 rfl ?_
  refine zs_iload_n (pc := 3) C dX9_grinds_3 rfl ?_
  refine zVi3 (pc := 4) C dX9_grinds_4 v_X9_427 (c_X9_fineOfW hX (Or.inr rfl) hp hs hR hK hW hT hs2 hp2) (by decide) (by decide) ⟨Nat.zero_le _, Nat.zero_le _⟩ (Nat.le_of_ble_eq_true rfl) (fun x4 G4 l4 u4 hp4 => ?_)
  obtain ⟨hz4, hq4⟩ := hp4
  have y4 := hq4.1
  have hR4 : rW Γ w 1 W G4 := rW_sm hz4 (by decide) hR
  have hK4 : kR Γ w A G4 := kR_sm hz4 (by decide) hK
  refine zs_istore (pc := 7) C dX9_grinds_7 (by decide) ?_
  dsimp only [zset, zclr, znone]
  refine zs_aload_n (pc := 9) C dX9_grinds_9 rfl ?_
  refine zs_iconst (pc := 10) C dX9_grinds_10 (by decide) ?_
  refine zs_iconst (pc := 11) C dX9_grinds_11 (by decide) ?_
  refine zs_bipush (pc := 12) C dX9_grinds_12 (by decide) (by decide) ?_
  refine zVi3 (pc := 14) C dX9_grinds_14 v_X9_424 (c_X9_boundLawW (nm := wNm A W p s) hX hK4 hT.2.2.2.2.2.2 (by omega) hq4.2.1 (wNm_in hT hW hp hs ⟨hp2, hs2⟩)) (by decide) (by decide) ⟨Nat.zero_le _, Nat.zero_le _⟩ (Nat.le_of_ble_eq_true rfl) (fun x14 G14 l14 u14 hp14 => ?_)
  obtain ⟨hz14, hq14⟩ := hp14
  have y14 : x14 = wWear A W p s := hq14.1
  have hwe : 0 ≤ wWear A W p s ∧ wWear A W p s ≤ 99 := bV_in (by omega) (by omega)
  have hR14 : rW Γ w 1 W G14 := rW_sm hz14 (by decide) hR4
  have hK14 : kR Γ w A G14 := kR_sm hz14 (by decide) hK4
  have hL14 := hR14.1
  obtain ⟨rA14, rB14, ⟨r114, r214, r314, r414⟩, rC14⟩ := id hR14
  have kO14 := hK14.2.2.2.2.2.2.2.2.1
  have zj7 : zsj [2079, 2080] G G14 := zsj_c hq14.2 (by decide) (zsj_c hq4.2.2 (by decide) zsj_rf)
  refine zs_istore (pc := 17) C dX9_grinds_17 (by decide) ?_
  dsimp only [zset, zclr, znone]
  refine zs_aload_n (pc := 19) C dX9_grinds_19 rfl ?_
  refine zs_iload_n (pc := 20) C dX9_grinds_20 rfl ?_
  refine zs_iload_n (pc := 21) C dX9_grinds_21 rfl ?_
  refine zs_iload_n (pc := 22) C dX9_grinds_22 rfl ?_
  refine zVip3 (pc := 23) C dX9_grinds_23 v_X9_394 (c_X9_leftOfW hX (Or.inr rfl) hp hs hL14 (WI_WL hW)) (by decide) (by decide) ⟨Nat.zero_le _, Nat.zero_le _⟩ (Nat.le_of_ble_eq_true rfl) (fun x23 l23 u23 hp23 => ?_)
  have hq23 := hp23
  have J36 : ∀ (x6 : Int), ((x6 = 0 ∨ x6 = 1) ∧ (x6 = 1 ↔ ¬ 0 < wL W p s)) → Z px9 l e (zrm 5) sx9 m args below meth c Γ 9 0 0 (MQ below (zQc Γ (zpi (fun x G' => zsm [2091, 2092, 2093, 2094, 2095, 1050, 2088, 2087, 2082, 2084, 2083, 2089] G G' ∧ (x = W 0 0 ∧ rW Γ w 1 (wGrind A W p s wr) G' ∧ zsj [2079, 2080] G G' ∧ LO G G')))) args sx9 0 0 (zA Γ)) 36 [some (zr 10 w), some (zi 1), some (zi p), some (zi s), some (zi x4), some (zi x14), some (zi x6), none, none] [] G14 := by
    intro x6 h36_0
    obtain ⟨b6, c6⟩ := h36_0
    have b6b : 0 ≤ x6 ∧ x6 ≤ 1 := by omega
    refine zs_aload_n (pc := 36) C dX9_grinds_36 rfl ?_
    refine zs_getf (pc := 37) C dX9_grinds_37 w_X9_106 f_10_57 (by decide) ?_
    refine zs_iload_n (pc := 40) C dX9_grinds_40 rfl ?_
    refine zs_iald (r := 2087) (pc := 41) C dX9_grinds_41 a_87 (by decide) (by omega) rfl (r_2087 _) (fun v41 e41 l41 u41 => ?_)
    refine zs_istore (pc := 42) C dX9_grinds_42 (by decide) ?_
    dsimp only [zset, zclr, znone]
    have y41 : v41 = W 0 0 := e41.trans r114
    refine zs_aload_n (pc := 44) C dX9_grinds_44 rfl ?_
    refine zs_getf (pc := 45) C dX9_grinds_45 w_X9_118 f_10_62 (by decide) ?_
    refine zs_bipush (pc := 48) C dX9_grinds_48 (by decide) (by decide) ?_
    refine zs_iload_n (pc := 50) C dX9_grinds_50 rfl ?_
    first | refine zs_imul (pc := 51) C dX9_grinds_51 (by omega) ?_ | refine zs_imulF (pc := 51) C dX9_grinds_51 (fun z51 hz511 hz512 => ?_)
    refine zs_iload (pc := 52) C dX9_grinds_52 rfl ?_
    first | refine zs_iadd (pc := 54) C dX9_grinds_54 (by omega) ?_ | refine zs_iaddF (pc := 54) C dX9_grinds_54 (fun z54 hz541 hz542 => ?_)
    refine zs_iload_n (pc := 55) C dX9_grinds_55 rfl ?_
    refine zs_iast (r := 2091) (pc := 56) C dX9_grinds_56 a_91 (by decide) (by omega) rfl (r_2091 _) (by omega) ?_
    refine zs_aload_n (pc := 57) C dX9_grinds_57 rfl ?_
    refine zs_getf (pc := 58) C dX9_grinds_58 w_X9_121 f_10_63 (by decide) ?_
    refine zs_bipush (pc := 61) C dX9_grinds_61 (by decide) (by decide) ?_
    refine zs_iload_n (pc := 63) C dX9_grinds_63 rfl ?_
    first | refine zs_imul (pc := 64) C dX9_grinds_64 (by omega) ?_ | refine zs_imulF (pc := 64) C dX9_grinds_64 (fun z64 hz641 hz642 => ?_)
    refine zs_iload (pc := 65) C dX9_grinds_65 rfl ?_
    first | refine zs_iadd (pc := 67) C dX9_grinds_67 (by omega) ?_ | refine zs_iaddF (pc := 67) C dX9_grinds_67 (fun z67 hz671 hz672 => ?_)
    refine zs_iload_n (pc := 68) C dX9_grinds_68 rfl ?_
    refine zs_iast (r := 2092) (pc := 69) C dX9_grinds_69 a_92 (by decide) (by omega) rfl (r_2092 _) (by omega) ?_
    refine zs_aload_n (pc := 70) C dX9_grinds_70 rfl ?_
    refine zs_getf (pc := 71) C dX9_grinds_71 w_X9_124 f_10_64 (by decide) ?_
    refine zs_bipush (pc := 74) C dX9_grinds_74 (by decide) (by decide) ?_
    refine zs_iload_n (pc := 76) C dX9_grinds_76 rfl ?_
    first | refine zs_imul (pc := 77) C dX9_grinds_77 (by omega) ?_ | refine zs_imulF (pc := 77) C dX9_grinds_77 (fun z77 hz771 hz772 => ?_)
    refine zs_iload (pc := 78) C dX9_grinds_78 rfl ?_
    first | refine zs_iadd (pc := 80) C dX9_grinds_80 (by omega) ?_ | refine zs_iaddF (pc := 80) C dX9_grinds_80 (fun z80 hz801 hz802 => ?_)
    refine zs_iload (pc := 81) C dX9_grinds_81 rfl ?_
    refine zs_iast (r := 2093) (pc := 83) C dX9_grinds_83 a_93 (by decide) (by omega) rfl (r_2093 _) (by omega) ?_
    refine zs_aload_n (pc := 84) C dX9_grinds_84 rfl ?_
    refine zs_getf (pc := 85) C dX9_grinds_85 w_X9_127 f_10_65 (by decide) ?_
    refine zs_bipush (pc := 88) C dX9_grinds_88 (by decide) (by decide) ?_
    refine zs_iload_n (pc := 90) C dX9_grinds_90 rfl ?_
    first | refine zs_imul (pc := 91) C dX9_grinds_91 (by omega) ?_ | refine zs_imulF (pc := 91) C dX9_grinds_91 (fun z91 hz911 hz912 => ?_)
    refine zs_iload (pc := 92) C dX9_grinds_92 rfl ?_
    first | refine zs_iadd (pc := 94) C dX9_grinds_94 (by omega) ?_ | refine zs_iaddF (pc := 94) C dX9_grinds_94 (fun z94 hz941 hz942 => ?_)
    refine zs_aload_n (pc := 95) C dX9_grinds_95 rfl ?_
    refine zs_getf (pc := 96) C dX9_grinds_96 w_X9_109 f_10_58 (by decide) ?_
    refine zs_iload_n (pc := 99) C dX9_grinds_99 rfl ?_
    refine zs_iald (r := 2088) (pc := 100) C dX9_grinds_100 a_88 (by decide) (by omega) rfl (r_2088 _) (fun v100 e100 l100 u100 => ?_)
    try simp only [zuI_1, zuI_2, zuJ_1, zuJ_2, zuJ_3, zuP_1, zuP_2, zuP_3, zuC_1, zuC_2, reduceIte, Nat.reduceEqDiff, false_and, and_false, true_and, and_true, and_self, or_true, true_or, or_false, false_or] at e100
    refine zs_aload_n (pc := 101) C dX9_grinds_101 rfl ?_
    refine zs_getf (pc := 102) C dX9_grinds_102 w_X9_20 f_10_22 (by decide) ?_
    refine zs_iconst (pc := 105) C dX9_grinds_105 (by decide) ?_
    refine zs_iald (r := 2059) (pc := 106) C dX9_grinds_106 a_59 (by decide) (by omega) rfl (show zrg 2059 (1 : Int).toNat = (0, 99) from rfl) (fun v106 e106 l106 u106 => ?_)
    try simp only [zuI_1, zuI_2, zuJ_1, zuJ_2, zuJ_3, zuP_1, zuP_2, zuP_3, zuC_1, zuC_2, reduceIte, Nat.reduceEqDiff, false_and, and_false, true_and, and_true, and_self, or_true, true_or, or_false, false_or] at e106
    have J125 : ∀ (y1 : Int), (y1 = wPort A W) → Z px9 l e (zrm 5) sx9 m args below meth c Γ 9 0 0 (MQ below (zQc Γ (zpi (fun x G' => zsm [2091, 2092, 2093, 2094, 2095, 1050, 2088, 2087, 2082, 2084, 2083, 2089] G G' ∧ (x = W 0 0 ∧ rW Γ w 1 (wGrind A W p s wr) G' ∧ zsj [2079, 2080] G G' ∧ LO G G')))) args sx9 0 0 (zA Γ)) 125 [some (zr 10 w), some (zi 1), some (zi p), some (zi s), some (zi x4), some (zi x14), some (zi x6), some (zi v41), none] [zi y1, zi (60 * 1 + v41), zr 94 (Γ.2.1 w 65)] (zuI (zuI (zuI G14 2091 (Γ.2.1 w 62) (60 * 1 + v41).toNat p) 2092 (Γ.2.1 w 63) (60 * 1 + v41).toNat s) 2093 (Γ.2.1 w 64) (60 * 1 + v41).toNat x4) := by
      intro y1 h125_0
      first | (have y124 : v124 = A 13 0 := e124.trans (kO14 1 (by decide))) | skip
      refine zs_iast (r := 2094) (pc := 125) C dX9_grinds_125 a_94 (by decide) (by omega) rfl (r_2094 _) (by omega) ?_
      refine zs_aload_n (pc := 126) C dX9_grinds_126 rfl ?_
      refine zs_getf (pc := 127) C dX9_grinds_127 w_X9_130 f_10_66 (by decide) ?_
      refine zs_bipush (pc := 130) C dX9_grinds_130 (by decide) (by decide) ?_
      refine zs_iload_n (pc := 132) C dX9_grinds_132 rfl ?_
      first | refine zs_imul (pc := 133) C dX9_grinds_133 (by omega) ?_ | refine zs_imulF (pc := 133) C dX9_grinds_133 (fun z133 hz1331 hz1332 => ?_)
      refine zs_iload (pc := 134) C dX9_grinds_134 rfl ?_
      first | refine zs_iadd (pc := 136) C dX9_grinds_136 (by omega) ?_ | refine zs_iaddF (pc := 136) C dX9_grinds_136 (fun z136 hz1361 hz1362 => ?_)
      refine zs_iload (pc := 137) C dX9_grinds_137 rfl ?_
      have J147 : ∀ (y2 : Int), (y2 = x6) → Z px9 l e (zrm 5) sx9 m args below meth c Γ 9 0 0 (MQ below (zQc Γ (zpi (fun x G' => zsm [2091, 2092, 2093, 2094, 2095, 1050, 2088, 2087, 2082, 2084, 2083, 2089] G G' ∧ (x = W 0 0 ∧ rW Γ w 1 (wGrind A W p s wr) G' ∧ zsj [2079, 2080] G G' ∧ LO G G')))) args sx9 0 0 (zA Γ)) 147 [some (zr 10 w), some (zi 1), some (zi p), some (zi s), some (zi x4), some (zi x14), some (zi x6), some (zi v41), none] [zi y2, zi (60 * 1 + v41), zr 95 (Γ.2.1 w 66)] (zuI (zuI (zuI (zuI G14 2091 (Γ.2.1 w 62) (60 * 1 + v41).toNat p) 2092 (Γ.2.1 w 63) (60 * 1 + v41).toNat s) 2093 (Γ.2.1 w 64) (60 * 1 + v41).toNat x4) 2094 (Γ.2.1 w 65) (60 * 1 + v41).toNat y1) := by
        intro y2 h147_0
        refine zs_iast (r := 2095) (pc := 147) C dX9_grinds_147 a_95 (by decide) (by omega) rfl (r_2095 _) (by omega) ?_
        refine zs_iload_n (pc := 148) C dX9_grinds_148 rfl ?_
        have J259 : ∀ (G7 : zH), (zsm [2091, 2092, 2093, 2094, 2095, 1050] G G7) → (zsj [2079, 2080] G G7) → (rK Γ w 1 (wGrind A W p s wr) G7 (W 0 0 + 1)) → (LO G G7) → Z px9 l e (zrm 5) sx9 m args below meth c Γ 9 0 0 (MQ below (zQc Γ (zpi (fun x G' => zsm [2091, 2092, 2093, 2094, 2095, 1050, 2088, 2087, 2082, 2084, 2083, 2089] G G' ∧ (x = W 0 0 ∧ rW Γ w 1 (wGrind A W p s wr) G' ∧ zsj [2079, 2080] G G' ∧ LO G G')))) args sx9 0 0 (zA Γ)) 259 [some (zr 10 w), some (zi 1), some (zi p), some (zi s), some (zi x4), some (zi x14), some (zi x6), some (zi v41), none] [] G7 := by
          intro G7 h259_0 h259_1 h259_2 h259_3
          have hR7 : ∀ r ∈ [2081, 2082, 2083, 2084, 2085, 2086, 2087, 2088, 2089, 2090, 2059], G7.1 r = G.1 r := fun r h9 => h259_0.1 r ((show ∀ r ∈ [2081, 2082, 2083, 2084, 2085, 2086, 2087, 2088, 2089, 2090, 2059], r ∉ [2091, 2092, 2093, 2094, 2095, 1050] by decide) r h9)
          refine zs_aload_n (pc := 259) C dX9_grinds_259 rfl ?_
          refine zs_getf (pc := 260) C dX9_grinds_260 w_X9_109 f_10_58 (by decide) ?_
          refine zs_iload_n (pc := 263) C dX9_grinds_263 rfl ?_
          refine zs_dup2 (pc := 264) C dX9_grinds_264 ?_
          refine zs_iald (r := 2088) (pc := 265) C dX9_grinds_265 a_88 (by decide) (by omega) rfl (r_2088 _) (fun v265 e265 l265 u265 => ?_)
          refine zs_aload_n (pc := 266) C dX9_grinds_266 rfl ?_
          refine zs_getf (pc := 267) C dX9_grinds_267 w_X9_127 f_10_65 (by decide) ?_
          refine zs_bipush (pc := 270) C dX9_grinds_270 (by decide) (by decide) ?_
          refine zs_iload_n (pc := 272) C dX9_grinds_272 rfl ?_
          first | refine zs_imul (pc := 273) C dX9_grinds_273 (by omega) ?_ | refine zs_imulF (pc := 273) C dX9_grinds_273 (fun z273 hz2731 hz2732 => ?_)
          refine zs_iload (pc := 274) C dX9_grinds_274 rfl ?_
          first | refine zs_iadd (pc := 276) C dX9_grinds_276 (by omega) ?_ | refine zs_iaddF (pc := 276) C dX9_grinds_276 (fun z276 hz2761 hz2762 => ?_)
          refine zs_iald (r := 2094) (pc := 277) C dX9_grinds_277 a_94 (by decide) (by omega) rfl (r_2094 _) (fun v277 e277 l277 u277 => ?_)
          have y265 : v265 = W 19 0 := by rw [e265, hR7 2088 (by decide)]; exact r2
          have h2r := h259_2 (W 0 0).toNat (by omega)
          rw [e5, if_pos rfl, show (60 * 1 + (((W 0 0).toNat : Nat) : Int)).toNat = (60 * 1 + v41).toNat by omega] at h2r
          have y277 : v277 = wPort A W := e277.trans h2r.2
          first | refine zs_isub (pc := 278) C dX9_grinds_278 (by omega) ?_ | refine zs_isubF (pc := 278) C dX9_grinds_278 (fun z278 hz2781 hz2782 => ?_)
          refine zs_iast (r := 2088) (pc := 279) C dX9_grinds_279 a_88 (by decide) (by omega) rfl (r_2088 _) (by omega) ?_
          refine zs_aload_n (pc := 280) C dX9_grinds_280 rfl ?_
          refine zs_getf (pc := 281) C dX9_grinds_281 w_X9_106 f_10_57 (by decide) ?_
          refine zs_iload_n (pc := 284) C dX9_grinds_284 rfl ?_
          refine zs_dup2 (pc := 285) C dX9_grinds_285 ?_
          refine zs_iald (r := 2087) (pc := 286) C dX9_grinds_286 a_87 (by decide) (by omega) rfl (r_2087 _) (fun v286 e286 l286 u286 => ?_)
          try simp only [zuI_1, zuI_2, zuJ_1, zuJ_2, zuJ_3, zuP_1, zuP_2, zuP_3, zuC_1, zuC_2, reduceIte, Nat.reduceEqDiff, false_and, and_false, true_and, and_true, and_self, or_true, true_or, or_false, false_or] at e286
          have y286 : v286 = W 0 0 := by rw [e286, hR7 2087 (by decide)]; exact r1
          refine zs_iconst (pc := 287) C dX9_grinds_287 (by decide) ?_
          first | refine zs_iadd (pc := 288) C dX9_grinds_288 (by omega) ?_ | refine zs_iaddF (pc := 288) C dX9_grinds_288 (fun z288 hz2881 hz2882 => ?_)
          refine zs_iast (r := 2087) (pc := 289) C dX9_grinds_289 a_87 (by decide) (by omega) rfl (r_2087 _) (by omega) ?_
          refine zs_aload_n (pc := 290) C dX9_grinds_290 rfl ?_
          refine zs_getf (pc := 291) C dX9_grinds_291 w_X9_91 f_10_52 (by decide) ?_
          refine zs_bipush (pc := 294) C dX9_grinds_294 (by decide) (by decide) ?_
          refine zs_iload_n (pc := 296) C dX9_grinds_296 rfl ?_
          first | refine zs_imul (pc := 297) C dX9_grinds_297 (by omega) ?_ | refine zs_imulF (pc := 297) C dX9_grinds_297 (fun z297 hz2971 hz2972 => ?_)
          refine zs_iconst (pc := 298) C dX9_grinds_298 (by decide) ?_
          refine zs_iload_n (pc := 299) C dX9_grinds_299 rfl ?_
          first | refine zs_imul (pc := 300) C dX9_grinds_300 (by omega) ?_ | refine zs_imulF (pc := 300) C dX9_grinds_300 (fun z300 hz3001 hz3002 => ?_)
          first | refine zs_iadd (pc := 301) C dX9_grinds_301 (by omega) ?_ | refine zs_iaddF (pc := 301) C dX9_grinds_301 (fun z301 hz3011 hz3012 => ?_)
          refine zs_iload_n (pc := 302) C dX9_grinds_302 rfl ?_
          first | refine zs_iadd (pc := 303) C dX9_grinds_303 (by omega) ?_ | refine zs_iaddF (pc := 303) C dX9_grinds_303 (fun z303 hz3031 hz3032 => ?_)
          refine zs_dup2 (pc := 304) C dX9_grinds_304 ?_
          refine zs_iald (r := 2082) (pc := 305) C dX9_grinds_305 a_82 (by decide) (by omega) rfl (r_2082 _) (fun v305 e305 l305 u305 => ?_)
          try simp only [zuI_1, zuI_2, zuJ_1, zuJ_2, zuJ_3, zuP_1, zuP_2, zuP_3, zuC_1, zuC_2, reduceIte, Nat.reduceEqDiff, false_and, and_false, true_and, and_true, and_self, or_true, true_or, or_false, false_or] at e305
          have y305 : v305 = W 11 (p * 4 + s).toNat - W 12 (p * 4 + s).toNat := by rw [e305, hR7 2082 (by decide)]; exact rAp.2
          refine zs_iload (pc := 306) C dX9_grinds_306 rfl ?_
          have J316 : ∀ (y3 : Int), (y3 = 1 - x6) → Z px9 l e (zrm 5) sx9 m args below meth c Γ 9 0 0 (MQ below (zQc Γ (zpi (fun x G' => zsm [2091, 2092, 2093, 2094, 2095, 1050, 2088, 2087, 2082, 2084, 2083, 2089] G G' ∧ (x = W 0 0 ∧ rW Γ w 1 (wGrind A W p s wr) G' ∧ zsj [2079, 2080] G G' ∧ LO G G')))) args sx9 0 0 (zA Γ)) 316 [some (zr 10 w), some (zi 1), some (zi p), some (zi s), some (zi x4), some (zi x14), some (zi x6), some (zi v41), none] [zi y3, zi v305, zi (20 * 1 + 4 * p + s), zr 82 (Γ.2.1 w 52)] (zuI (zuI G7 2088 (Γ.2.1 w 58) (1 : Int).toNat (v265 - v277)) 2087 (Γ.2.1 w 57) (1 : Int).toNat (v286 + 1)) := by
            intro y3 h316_0
            first | refine zs_iadd (pc := 316) C dX9_grinds_316 (by omega) ?_ | refine zs_iaddF (pc := 316) C dX9_grinds_316 (fun z316 hz3161 hz3162 => ?_)
            refine zs_iast (r := 2082) (pc := 317) C dX9_grinds_317 a_82 (by decide) (by omega) rfl (r_2082 _) (by omega) ?_
            refine zs_aload_n (pc := 318) C dX9_grinds_318 rfl ?_
            refine zs_getf (pc := 319) C dX9_grinds_319 w_X9_97 f_10_54 (by decide) ?_
            refine zs_iconst (pc := 322) C dX9_grinds_322 (by decide) ?_
            refine zs_iload_n (pc := 323) C dX9_grinds_323 rfl ?_
            first | refine zs_imul (pc := 324) C dX9_grinds_324 (by omega) ?_ | refine zs_imulF (pc := 324) C dX9_grinds_324 (fun z324 hz3241 hz3242 => ?_)
            refine zs_iload_n (pc := 325) C dX9_grinds_325 rfl ?_
            first | refine zs_iadd (pc := 326) C dX9_grinds_326 (by omega) ?_ | refine zs_iaddF (pc := 326) C dX9_grinds_326 (fun z326 hz3261 hz3262 => ?_)
            refine zs_dup2 (pc := 327) C dX9_grinds_327 ?_
            refine zs_iald (r := 2084) (pc := 328) C dX9_grinds_328 a_84 (by decide) (by omega) rfl (r_2084 _) (fun v328 e328 l328 u328 => ?_)
            try simp only [zuI_1, zuI_2, zuJ_1, zuJ_2, zuJ_3, zuP_1, zuP_2, zuP_3, zuC_1, zuC_2, reduceIte, Nat.reduceEqDiff, false_and, and_false, true_and, and_true, and_self, or_true, true_or, or_false, false_or] at e328
            have y328 : v328 = W 14 p.toNat := by rw [e328, hR7 2084 (by decide)]; exact rBp.2.1
            refine zs_iload (pc := 329) C dX9_grinds_329 rfl ?_
            have J339 : ∀ (y4 : Int), (y4 = x6) → Z px9 l e (zrm 5) sx9 m args below meth c Γ 9 0 0 (MQ below (zQc Γ (zpi (fun x G' => zsm [2091, 2092, 2093, 2094, 2095, 1050, 2088, 2087, 2082, 2084, 2083, 2089] G G' ∧ (x = W 0 0 ∧ rW Γ w 1 (wGrind A W p s wr) G' ∧ zsj [2079, 2080] G G' ∧ LO G G')))) args sx9 0 0 (zA Γ)) 339 [some (zr 10 w), some (zi 1), some (zi p), some (zi s), some (zi x4), some (zi x14), some (zi x6), some (zi v41), none] [zi y4, zi v328, zi (5 * 1 + p), zr 84 (Γ.2.1 w 54)] (zuI (zuI (zuI G7 2088 (Γ.2.1 w 58) (1 : Int).toNat (v265 - v277)) 2087 (Γ.2.1 w 57) (1 : Int).toNat (v286 + 1)) 2082 (Γ.2.1 w 52) (20 * 1 + 4 * p + s).toNat (v305 + y3)) := by
              intro y4 h339_0
              first | refine zs_iadd (pc := 339) C dX9_grinds_339 (by omega) ?_ | refine zs_iaddF (pc := 339) C dX9_grinds_339 (fun z339 hz3391 hz3392 => ?_)
              refine zs_iast (r := 2084) (pc := 340) C dX9_grinds_340 a_84 (by decide) (by omega) rfl (r_2084 _) (by omega) ?_
              refine zs_aload_n (pc := 341) C dX9_grinds_341 rfl ?_
              refine zs_getf (pc := 342) C dX9_grinds_342 w_X9_94 f_10_53 (by decide) ?_
              refine zs_iconst (pc := 345) C dX9_grinds_345 (by decide) ?_
              refine zs_iload_n (pc := 346) C dX9_grinds_346 rfl ?_
              first | refine zs_imul (pc := 347) C dX9_grinds_347 (by omega) ?_ | refine zs_imulF (pc := 347) C dX9_grinds_347 (fun z347 hz3471 hz3472 => ?_)
              refine zs_iload_n (pc := 348) C dX9_grinds_348 rfl ?_
              first | refine zs_iadd (pc := 349) C dX9_grinds_349 (by omega) ?_ | refine zs_iaddF (pc := 349) C dX9_grinds_349 (fun z349 hz3491 hz3492 => ?_)
              refine zs_dup2 (pc := 350) C dX9_grinds_350 ?_
              refine zs_iald (r := 2083) (pc := 351) C dX9_grinds_351 a_83 (by decide) (by omega) rfl (r_2083 _) (fun v351 e351 l351 u351 => ?_)
              try simp only [zuI_1, zuI_2, zuJ_1, zuJ_2, zuJ_3, zuP_1, zuP_2, zuP_3, zuC_1, zuC_2, reduceIte, Nat.reduceEqDiff, false_and, and_false, true_and, and_true, and_self, or_true, true_or, or_false, false_or] at e351
              have y351 : v351 = W 13 p.toNat := by rw [e351, hR7 2083 (by decide)]; exact rBp.1
              refine zs_iconst (pc := 352) C dX9_grinds_352 (by decide) ?_
              first | refine zs_iadd (pc := 353) C dX9_grinds_353 (by omega) ?_ | refine zs_iaddF (pc := 353) C dX9_grinds_353 (fun z353 hz3531 hz3532 => ?_)
              refine zs_iast (r := 2083) (pc := 354) C dX9_grinds_354 a_83 (by decide) (by omega) rfl (r_2083 _) (by omega) ?_
              refine zs_iload_n (pc := 355) C dX9_grinds_355 rfl ?_
              refine zs_if_eq (tgt := 366) (pc := 356) C dX9_grinds_356 (by decide) (fun h356 => ?_) (fun h356 => ?_)
              · skip
                exfalso; omega
              · skip
                refine zs_aload_n (pc := 359) C dX9_grinds_359 rfl ?_
                refine zs_geti (r := 1074) (pc := 360) C dX9_grinds_360 w_X9_148 f_10_74 rfl (r_1074 0) (fun v360 e360 l360 u360 => ?_)
                try simp only [zuI_1, zuI_2, zuJ_1, zuJ_2, zuJ_3, zuP_1, zuP_2, zuP_3, zuC_1, zuC_2, reduceIte, Nat.reduceEqDiff, false_and, and_false, true_and, and_true, and_self, or_true, true_or, or_false, false_or] at e360
                refine zs_if_eq (tgt := 400) (pc := 363) C dX9_grinds_363 (by decide) (fun h363 => ?_) (fun h363 => ?_)
                · skip
                  have hwr : ¬ wr ≠ 0 := fun q => q (hww.mp (by have e9 : v360 = G.1 1074 w 0 := (by first | (rw [e360, h259_0.1 1074 (by decide)]) | omega); omega))
                  refine zs_iload (pc := 400) C dX9_grinds_400 rfl ?_
                  exact zs_iret (pc := 402) C hr hlk dX9_grinds_402 ⟨(by repeat (first | exact zsm_rf | assumption | refine zsm_I (by decide) ?_ | refine zsm_J ?_ | refine zsm_c (by assumption) (by decide) ?_)), ⟨by omega, ⟨(fun j hj => by have q9 := rA j hj; rw [ef 11 j (by omega), e12]; by_cases q : j = (p * 4 + s).toNat; (refine ⟨by simp only [zuI_1, zuI_2, zuJ_1, zuJ_2, zuJ_3, zuP_1, zuP_2, zuP_3, zuC_1, zuC_2, reduceIte, Nat.reduceEqDiff, false_and, and_false, true_and, and_true, and_self, or_true, true_or, or_false, false_or, hR7 2081 (by decide)]; exact q9.1, ?_⟩; simp only [zuI_1, zuI_2, zuJ_1, zuJ_2, zuJ_3, zuP_1, zuP_2, zuP_3, zuC_1, zuC_2, reduceIte, Nat.reduceEqDiff, false_and, and_false, true_and, and_true, and_self, or_true, true_or, or_false, false_or]; rw [if_pos (by omega)]; by_cases q2 : 0 < wL W p s; (rw [if_pos ⟨q2, q⟩]; subst q; omega); (rw [if_neg (fun q3 => q2 q3.1)]; subst q; omega)); (refine ⟨by simp only [zuI_1, zuI_2, zuJ_1, zuJ_2, zuJ_3, zuP_1, zuP_2, zuP_3, zuC_1, zuC_2, reduceIte, Nat.reduceEqDiff, false_and, and_false, true_and, and_true, and_self, or_true, true_or, or_false, false_or, hR7 2081 (by decide)]; exact q9.1, ?_⟩; simp only [zuI_1, zuI_2, zuJ_1, zuJ_2, zuJ_3, zuP_1, zuP_2, zuP_3, zuC_1, zuC_2, reduceIte, Nat.reduceEqDiff, false_and, and_false, true_and, and_true, and_self, or_true, true_or, or_false, false_or]; rw [if_neg (by omega), if_neg (fun q3 => q q3.2), hR7 2082 (by decide)]; exact q9.2)), (fun j hj => by have q9 := rB j hj; rw [ef 15 j (by omega), ef 16 j (by omega), e13, e14]; by_cases q : j = p.toNat; (rw [if_pos q]; refine ⟨?_, ?_, by simp only [zuI_1, zuI_2, zuJ_1, zuJ_2, zuJ_3, zuP_1, zuP_2, zuP_3, zuC_1, zuC_2, reduceIte, Nat.reduceEqDiff, false_and, and_false, true_and, and_true, and_self, or_true, true_or, or_false, false_or, hR7 2085 (by decide)]; exact q9.2.2.1, by simp only [zuI_1, zuI_2, zuJ_1, zuJ_2, zuJ_3, zuP_1, zuP_2, zuP_3, zuC_1, zuC_2, reduceIte, Nat.reduceEqDiff, false_and, and_false, true_and, and_true, and_self, or_true, true_or, or_false, false_or, hR7 2086 (by decide)]; exact q9.2.2.2⟩; (simp only [zuI_1, zuI_2, zuJ_1, zuJ_2, zuJ_3, zuP_1, zuP_2, zuP_3, zuC_1, zuC_2, reduceIte, Nat.reduceEqDiff, false_and, and_false, true_and, and_true, and_self, or_true, true_or, or_false, false_or]; rw [if_pos (by omega)]; subst q; omega); (simp only [zuI_1, zuI_2, zuJ_1, zuJ_2, zuJ_3, zuP_1, zuP_2, zuP_3, zuC_1, zuC_2, reduceIte, Nat.reduceEqDiff, false_and, and_false, true_and, and_true, and_self, or_true, true_or, or_false, false_or]; rw [if_pos (by omega)]; by_cases q2 : 0 < wL W p s; (rw [if_neg (fun q3 => q3.1 q2)]; subst q; omega); (rw [if_pos ⟨q2, q⟩]; subst q; omega))); (rw [if_neg q, if_neg (fun q3 => q q3.2)]; refine ⟨by simp only [zuI_1, zuI_2, zuJ_1, zuJ_2, zuJ_3, zuP_1, zuP_2, zuP_3, zuC_1, zuC_2, reduceIte, Nat.reduceEqDiff, false_and, and_false, true_and, and_true, and_self, or_true, true_or, or_false, false_or]; rw [if_neg (by omega), hR7 2083 (by decide)]; exact q9.1, by simp only [zuI_1, zuI_2, zuJ_1, zuJ_2, zuJ_3, zuP_1, zuP_2, zuP_3, zuC_1, zuC_2, reduceIte, Nat.reduceEqDiff, false_and, and_false, true_and, and_true, and_self, or_true, true_or, or_false, false_or]; rw [if_neg (by omega), hR7 2084 (by decide)]; exact q9.2.1, by simp only [zuI_1, zuI_2, zuJ_1, zuJ_2, zuJ_3, zuP_1, zuP_2, zuP_3, zuC_1, zuC_2, reduceIte, Nat.reduceEqDiff, false_and, and_false, true_and, and_true, and_self, or_true, true_or, or_false, false_or, hR7 2085 (by decide)]; exact q9.2.2.1, by simp only [zuI_1, zuI_2, zuJ_1, zuJ_2, zuJ_3, zuP_1, zuP_2, zuP_3, zuC_1, zuC_2, reduceIte, Nat.reduceEqDiff, false_and, and_false, true_and, and_true, and_self, or_true, true_or, or_false, false_or, hR7 2086 (by decide)]; exact q9.2.2.2⟩)), ⟨by simp only [zuI_1, zuI_2, zuJ_1, zuJ_2, zuJ_3, zuP_1, zuP_2, zuP_3, zuC_1, zuC_2, reduceIte, Nat.reduceEqDiff, false_and, and_false, true_and, and_true, and_self, or_true, true_or, or_false, false_or]; omega, by simp only [zuI_1, zuI_2, zuJ_1, zuJ_2, zuJ_3, zuP_1, zuP_2, zuP_3, zuC_1, zuC_2, reduceIte, Nat.reduceEqDiff, false_and, and_false, true_and, and_true, and_self, or_true, true_or, or_false, false_or]; omega, by simp only [zuI_1, zuI_2, zuJ_1, zuJ_2, zuJ_3, zuP_1, zuP_2, zuP_3, zuC_1, zuC_2, reduceIte, Nat.reduceEqDiff, false_and, and_false, true_and, and_true, and_self, or_true, true_or, or_false, false_or]; rw [e20]; first | (rw [if_pos hwr]; omega) | (rw [if_neg hwr, hR7 2089 (by decide)]; omega), by simp only [zuI_1, zuI_2, zuJ_1, zuJ_2, zuJ_3, zuP_1, zuP_2, zuP_3, zuC_1, zuC_2, reduceIte, Nat.reduceEqDiff, false_and, and_false, true_and, and_true, and_self, or_true, true_or, or_false, false_or, hR7 2090 (by decide)]; rw [ef 18 0 (by omega)]; exact r4⟩, (by rw [e0]; exact rK_z (rs := [2088, 2087, 2082, 2084, 2083, 2089]) (G := G7) (by repeat (first | exact zsm_rf | assumption | refine zsm_C (by decide) ?_ | refine zsm_I (by decide) ?_ | refine zsm_J ?_ | refine zsm_c (by assumption) (by decide) ?_)) (by decide) h259_2)⟩, (by repeat (first | assumption | refine zsj_I ?_)), (by first | exact LO_I (by show 1 ≤ _; omega) (LO_I (by show 5 ≤ _; omega) (LO_I (by show 5 ≤ _; omega) (LO_I (by show 20 ≤ _; omega) (LO_I (by show 1 ≤ _; omega) (LO_I (by show 1 ≤ _; omega) h259_3))))) | exact (LO_I (by show 5 ≤ _; omega) (LO_I (by show 5 ≤ _; omega) (LO_I (by show 20 ≤ _; omega) (LO_I (by show 1 ≤ _; omega) (LO_I (by show 1 ≤ _; omega) h259_3))))))⟩⟩
                · skip
                  have hwr : wr ≠ 0 := fun q => by have := hww.mpr q; have e9 : v360 = G.1 1074 w 0 := (by first | (rw [e360, h259_0.1 1074 (by decide)]) | omega); omega
                  refine zs_aload_n (pc := 366) C dX9_grinds_366 rfl ?_
                  refine zs_getf (pc := 367) C dX9_grinds_367 w_X9_112 f_10_59 (by decide) ?_
                  refine zs_iload_n (pc := 370) C dX9_grinds_370 rfl ?_
                  refine zs_aload_n (pc := 371) C dX9_grinds_371 rfl ?_
                  refine zs_getf (pc := 372) C dX9_grinds_372 w_X9_112 f_10_59 (by decide) ?_
                  refine zs_iload_n (pc := 375) C dX9_grinds_375 rfl ?_
                  refine zs_iald (r := 2089) (pc := 376) C dX9_grinds_376 a_89 (by decide) (by omega) rfl (r_2089 _) (fun v376 e376 l376 u376 => ?_)
                  try simp only [zuI_1, zuI_2, zuJ_1, zuJ_2, zuJ_3, zuP_1, zuP_2, zuP_3, zuC_1, zuC_2, reduceIte, Nat.reduceEqDiff, false_and, and_false, true_and, and_true, and_self, or_true, true_or, or_false, false_or] at e376
                  have y376 : v376 = W 20 0 := by rw [e376, hR7 2089 (by decide)]; exact r3
                  refine zs_iload (pc := 377) C dX9_grinds_377 rfl ?_
                  first | refine zs_iadd (pc := 379) C dX9_grinds_379 (by omega) ?_ | refine zs_iaddF (pc := 379) C dX9_grinds_379 (fun z379 hz3791 hz3792 => ?_)
                  refine zs_ldc (n := 99999) (pc := 380) C dX9_grinds_380 q_X9_216 (by decide) (by decide) ?_
                  have J399 : ∀ (y5 : Int), (y5 = min 99999 (W 20 0 + wWear A W p s)) → Z px9 l e (zrm 5) sx9 m args below meth c Γ 9 0 0 (MQ below (zQc Γ (zpi (fun x G' => zsm [2091, 2092, 2093, 2094, 2095, 1050, 2088, 2087, 2082, 2084, 2083, 2089] G G' ∧ (x = W 0 0 ∧ rW Γ w 1 (wGrind A W p s wr) G' ∧ zsj [2079, 2080] G G' ∧ LO G G')))) args sx9 0 0 (zA Γ)) 399 [some (zr 10 w), some (zi 1), some (zi p), some (zi s), some (zi x4), some (zi x14), some (zi x6), some (zi v41), none] [zi y5, zi 1, zr 89 (Γ.2.1 w 59)] (zuI (zuI (zuI (zuI (zuI G7 2088 (Γ.2.1 w 58) (1 : Int).toNat (v265 - v277)) 2087 (Γ.2.1 w 57) (1 : Int).toNat (v286 + 1)) 2082 (Γ.2.1 w 52) (20 * 1 + 4 * p + s).toNat (v305 + y3)) 2084 (Γ.2.1 w 54) (5 * 1 + p).toNat (v328 + y4)) 2083 (Γ.2.1 w 53) (5 * 1 + p).toNat (v351 + 1)) := by
                    intro y5 h399_0
                    refine zs_iast (r := 2089) (pc := 399) C dX9_grinds_399 a_89 (by decide) (by omega) rfl (r_2089 _) (by omega) ?_
                    refine zs_iload (pc := 400) C dX9_grinds_400 rfl ?_
                    exact zs_iret (pc := 402) C hr hlk dX9_grinds_402 ⟨(by repeat (first | exact zsm_rf | assumption | refine zsm_I (by decide) ?_ | refine zsm_J ?_ | refine zsm_c (by assumption) (by decide) ?_)), ⟨by omega, ⟨(fun j hj => by have q9 := rA j hj; rw [ef 11 j (by omega), e12]; by_cases q : j = (p * 4 + s).toNat; (refine ⟨by simp only [zuI_1, zuI_2, zuJ_1, zuJ_2, zuJ_3, zuP_1, zuP_2, zuP_3, zuC_1, zuC_2, reduceIte, Nat.reduceEqDiff, false_and, and_false, true_and, and_true, and_self, or_true, true_or, or_false, false_or, hR7 2081 (by decide)]; exact q9.1, ?_⟩; simp only [zuI_1, zuI_2, zuJ_1, zuJ_2, zuJ_3, zuP_1, zuP_2, zuP_3, zuC_1, zuC_2, reduceIte, Nat.reduceEqDiff, false_and, and_false, true_and, and_true, and_self, or_true, true_or, or_false, false_or]; rw [if_pos (by omega)]; by_cases q2 : 0 < wL W p s; (rw [if_pos ⟨q2, q⟩]; subst q; omega); (rw [if_neg (fun q3 => q2 q3.1)]; subst q; omega)); (refine ⟨by simp only [zuI_1, zuI_2, zuJ_1, zuJ_2, zuJ_3, zuP_1, zuP_2, zuP_3, zuC_1, zuC_2, reduceIte, Nat.reduceEqDiff, false_and, and_false, true_and, and_true, and_self, or_true, true_or, or_false, false_or, hR7 2081 (by decide)]; exact q9.1, ?_⟩; simp only [zuI_1, zuI_2, zuJ_1, zuJ_2, zuJ_3, zuP_1, zuP_2, zuP_3, zuC_1, zuC_2, reduceIte, Nat.reduceEqDiff, false_and, and_false, true_and, and_true, and_self, or_true, true_or, or_false, false_or]; rw [if_neg (by omega), if_neg (fun q3 => q q3.2), hR7 2082 (by decide)]; exact q9.2)), (fun j hj => by have q9 := rB j hj; rw [ef 15 j (by omega), ef 16 j (by omega), e13, e14]; by_cases q : j = p.toNat; (rw [if_pos q]; refine ⟨?_, ?_, by simp only [zuI_1, zuI_2, zuJ_1, zuJ_2, zuJ_3, zuP_1, zuP_2, zuP_3, zuC_1, zuC_2, reduceIte, Nat.reduceEqDiff, false_and, and_false, true_and, and_true, and_self, or_true, true_or, or_false, false_or, hR7 2085 (by decide)]; exact q9.2.2.1, by simp only [zuI_1, zuI_2, zuJ_1, zuJ_2, zuJ_3, zuP_1, zuP_2, zuP_3, zuC_1, zuC_2, reduceIte, Nat.reduceEqDiff, false_and, and_false, true_and, and_true, and_self, or_true, true_or, or_false, false_or, hR7 2086 (by decide)]; exact q9.2.2.2⟩; (simp only [zuI_1, zuI_2, zuJ_1, zuJ_2, zuJ_3, zuP_1, zuP_2, zuP_3, zuC_1, zuC_2, reduceIte, Nat.reduceEqDiff, false_and, and_false, true_and, and_true, and_self, or_true, true_or, or_false, false_or]; rw [if_pos (by omega)]; subst q; omega); (simp only [zuI_1, zuI_2, zuJ_1, zuJ_2, zuJ_3, zuP_1, zuP_2, zuP_3, zuC_1, zuC_2, reduceIte, Nat.reduceEqDiff, false_and, and_false, true_and, and_true, and_self, or_true, true_or, or_false, false_or]; rw [if_pos (by omega)]; by_cases q2 : 0 < wL W p s; (rw [if_neg (fun q3 => q3.1 q2)]; subst q; omega); (rw [if_pos ⟨q2, q⟩]; subst q; omega))); (rw [if_neg q, if_neg (fun q3 => q q3.2)]; refine ⟨by simp only [zuI_1, zuI_2, zuJ_1, zuJ_2, zuJ_3, zuP_1, zuP_2, zuP_3, zuC_1, zuC_2, reduceIte, Nat.reduceEqDiff, false_and, and_false, true_and, and_true, and_self, or_true, true_or, or_false, false_or]; rw [if_neg (by omega), hR7 2083 (by decide)]; exact q9.1, by simp only [zuI_1, zuI_2, zuJ_1, zuJ_2, zuJ_3, zuP_1, zuP_2, zuP_3, zuC_1, zuC_2, reduceIte, Nat.reduceEqDiff, false_and, and_false, true_and, and_true, and_self, or_true, true_or, or_false, false_or]; rw [if_neg (by omega), hR7 2084 (by decide)]; exact q9.2.1, by simp only [zuI_1, zuI_2, zuJ_1, zuJ_2, zuJ_3, zuP_1, zuP_2, zuP_3, zuC_1, zuC_2, reduceIte, Nat.reduceEqDiff, false_and, and_false, true_and, and_true, and_self, or_true, true_or, or_false, false_or, hR7 2085 (by decide)]; exact q9.2.2.1, by simp only [zuI_1, zuI_2, zuJ_1, zuJ_2, zuJ_3, zuP_1, zuP_2, zuP_3, zuC_1, zuC_2, reduceIte, Nat.reduceEqDiff, false_and, and_false, true_and, and_true, and_self, or_true, true_or, or_false, false_or, hR7 2086 (by decide)]; exact q9.2.2.2⟩)), ⟨by simp only [zuI_1, zuI_2, zuJ_1, zuJ_2, zuJ_3, zuP_1, zuP_2, zuP_3, zuC_1, zuC_2, reduceIte, Nat.reduceEqDiff, false_and, and_false, true_and, and_true, and_self, or_true, true_or, or_false, false_or]; omega, by simp only [zuI_1, zuI_2, zuJ_1, zuJ_2, zuJ_3, zuP_1, zuP_2, zuP_3, zuC_1, zuC_2, reduceIte, Nat.reduceEqDiff, false_and, and_false, true_and, and_true, and_self, or_true, true_or, or_false, false_or]; omega, by simp only [zuI_1, zuI_2, zuJ_1, zuJ_2, zuJ_3, zuP_1, zuP_2, zuP_3, zuC_1, zuC_2, reduceIte, Nat.reduceEqDiff, false_and, and_false, true_and, and_true, and_self, or_true, true_or, or_false, false_or]; rw [e20]; first | (rw [if_pos hwr]; omega) | (rw [if_neg hwr, hR7 2089 (by decide)]; omega), by simp only [zuI_1, zuI_2, zuJ_1, zuJ_2, zuJ_3, zuP_1, zuP_2, zuP_3, zuC_1, zuC_2, reduceIte, Nat.reduceEqDiff, false_and, and_false, true_and, and_true, and_self, or_true, true_or, or_false, false_or, hR7 2090 (by decide)]; rw [ef 18 0 (by omega)]; exact r4⟩, (by rw [e0]; exact rK_z (rs := [2088, 2087, 2082, 2084, 2083, 2089]) (G := G7) (by repeat (first | exact zsm_rf | assumption | refine zsm_C (by decide) ?_ | refine zsm_I (by decide) ?_ | refine zsm_J ?_ | refine zsm_c (by assumption) (by decide) ?_)) (by decide) h259_2)⟩, (by repeat (first | assumption | refine zsj_I ?_)), (by first | exact LO_I (by show 1 ≤ _; omega) (LO_I (by show 5 ≤ _; omega) (LO_I (by show 5 ≤ _; omega) (LO_I (by show 20 ≤ _; omega) (LO_I (by show 1 ≤ _; omega) (LO_I (by show 1 ≤ _; omega) h259_3))))) | exact (LO_I (by show 5 ≤ _; omega) (LO_I (by show 5 ≤ _; omega) (LO_I (by show 20 ≤ _; omega) (LO_I (by show 1 ≤ _; omega) (LO_I (by show 1 ≤ _; omega) h259_3))))))⟩⟩
                  refine zs_icmp_le (tgt := 390) (pc := 382) C dX9_grinds_382 (by decide) (fun h382 => ?_) (fun h382 => ?_)
                  · skip
                    refine zs_aload_n (pc := 390) C dX9_grinds_390 rfl ?_
                    refine zs_getf (pc := 391) C dX9_grinds_391 w_X9_112 f_10_59 (by decide) ?_
                    refine zs_iload_n (pc := 394) C dX9_grinds_394 rfl ?_
                    refine zs_iald (r := 2089) (pc := 395) C dX9_grinds_395 a_89 (by decide) (by omega) rfl (r_2089 _) (fun v395 e395 l395 u395 => ?_)
                    try simp only [zuI_1, zuI_2, zuJ_1, zuJ_2, zuJ_3, zuP_1, zuP_2, zuP_3, zuC_1, zuC_2, reduceIte, Nat.reduceEqDiff, false_and, and_false, true_and, and_true, and_self, or_true, true_or, or_false, false_or] at e395
                    have y395 : v395 = W 20 0 := by rw [e395, hR7 2089 (by decide)]; exact r3
                    refine zs_iload (pc := 396) C dX9_grinds_396 rfl ?_
                    first | refine zs_iadd (pc := 398) C dX9_grinds_398 (by omega) ?_ | refine zs_iaddF (pc := 398) C dX9_grinds_398 (fun z398 hz3981 hz3982 => ?_)
                    exact zs_wk (J399 _ (by omega)) (zwk_s rfl (zwk_s rfl (zwk_s rfl (zwk_s rfl (zwk_s rfl (zwk_s rfl (zwk_s rfl (zwk_s rfl (zwk_n zwk_0)))))))))
                  · skip
                    refine zs_ldc (n := 99999) (pc := 385) C dX9_grinds_385 q_X9_216 (by decide) (by decide) ?_
                    refine zs_goto (tgt := 399) (pc := 387) C dX9_grinds_387 (by decide) ?_
                    exact zs_wk (J399 _ (by omega)) (zwk_s rfl (zwk_s rfl (zwk_s rfl (zwk_s rfl (zwk_s rfl (zwk_s rfl (zwk_s rfl (zwk_s rfl (zwk_n zwk_0)))))))))
            refine zs_if_eq (tgt := 338) (pc := 331) C dX9_grinds_331 (by decide) (fun h331 => ?_) (fun h331 => ?_)
            · skip
              refine zs_iconst (pc := 338) C dX9_grinds_338 (by decide) ?_
              exact zs_wk (J339 _ (by first | omega | (simp only [zuI_1, zuI_2, zuJ_1, zuJ_2, zuJ_3, zuP_1, zuP_2, zuP_3, zuC_1, zuC_2, reduceIte, Nat.reduceEqDiff, false_and, and_false, true_and, and_true, and_self, or_true, true_or, or_false, false_or]; omega))) (zwk_s rfl (zwk_s rfl (zwk_s rfl (zwk_s rfl (zwk_s rfl (zwk_s rfl (zwk_s rfl (zwk_s rfl (zwk_n zwk_0)))))))))
            · skip
              refine zs_iconst (pc := 334) C dX9_grinds_334 (by decide) ?_
              refine zs_goto (tgt := 339) (pc := 335) C dX9_grinds_335 (by decide) ?_
              exact zs_wk (J339 _ (by first | omega | (simp only [zuI_1, zuI_2, zuJ_1, zuJ_2, zuJ_3, zuP_1, zuP_2, zuP_3, zuC_1, zuC_2, reduceIte, Nat.reduceEqDiff, false_and, and_false, true_and, and_true, and_self, or_true, true_or, or_false, false_or]; omega))) (zwk_s rfl (zwk_s rfl (zwk_s rfl (zwk_s rfl (zwk_s rfl (zwk_s rfl (zwk_s rfl (zwk_s rfl (zwk_n zwk_0)))))))))
          refine zs_if_eq (tgt := 315) (pc := 308) C dX9_grinds_308 (by decide) (fun h308 => ?_) (fun h308 => ?_)
          · skip
            refine zs_iconst (pc := 315) C dX9_grinds_315 (by decide) ?_
            exact zs_wk (J316 _ (by first | omega | (simp only [zuI_1, zuI_2, zuJ_1, zuJ_2, zuJ_3, zuP_1, zuP_2, zuP_3, zuC_1, zuC_2, reduceIte, Nat.reduceEqDiff, false_and, and_false, true_and, and_true, and_self, or_true, true_or, or_false, false_or]; omega))) (zwk_s rfl (zwk_s rfl (zwk_s rfl (zwk_s rfl (zwk_s rfl (zwk_s rfl (zwk_s rfl (zwk_s rfl (zwk_n zwk_0)))))))))
          · skip
            refine zs_iconst (pc := 311) C dX9_grinds_311 (by decide) ?_
            refine zs_goto (tgt := 316) (pc := 312) C dX9_grinds_312 (by decide) ?_
            exact zs_wk (J316 _ (by first | omega | (simp only [zuI_1, zuI_2, zuJ_1, zuJ_2, zuJ_3, zuP_1, zuP_2, zuP_3, zuC_1, zuC_2, reduceIte, Nat.reduceEqDiff, false_and, and_false, true_and, and_true, and_self, or_true, true_or, or_false, false_or]; omega))) (zwk_s rfl (zwk_s rfl (zwk_s rfl (zwk_s rfl (zwk_s rfl (zwk_s rfl (zwk_s rfl (zwk_s rfl (zwk_n zwk_0)))))))))
        refine zs_if_ne (tgt := 259) (pc := 149) C dX9_grinds_149 (by decide) (fun h149 => ?_) (fun h149 => ?_)
        · skip
          exact zs_wk (J259 _ (by repeat (first | exact zsm_rf | assumption | refine zsm_C (by decide) ?_ | refine zsm_I (by decide) ?_ | refine zsm_J ?_ | refine zsm_c (by assumption) (by decide) ?_)) (zj7) (fun k hk => by rw [e3, e5]; by_cases q : k = (W 0 0).toNat; (rw [if_pos q, if_pos q]; exact ⟨by simp only [zuI_1, zuI_2, zuJ_1, zuJ_2, zuJ_3, zuP_1, zuP_2, zuP_3, zuC_1, zuC_2, reduceIte, Nat.reduceEqDiff, false_and, and_false, true_and, and_true, and_self, or_true, true_or, or_false, false_or]; rw [if_pos (by omega)]; omega, by simp only [zuI_1, zuI_2, zuJ_1, zuJ_2, zuJ_3, zuP_1, zuP_2, zuP_3, zuC_1, zuC_2, reduceIte, Nat.reduceEqDiff, false_and, and_false, true_and, and_true, and_self, or_true, true_or, or_false, false_or]; rw [if_pos (by omega)]; omega⟩); (rw [if_neg q, if_neg q]; have q9 := rC14 k (by omega); exact ⟨by simp only [zuI_1, zuI_2, zuJ_1, zuJ_2, zuJ_3, zuP_1, zuP_2, zuP_3, zuC_1, zuC_2, reduceIte, Nat.reduceEqDiff, false_and, and_false, true_and, and_true, and_self, or_true, true_or, or_false, false_or]; rw [if_neg (by omega)]; exact q9.1, by simp only [zuI_1, zuI_2, zuJ_1, zuJ_2, zuJ_3, zuP_1, zuP_2, zuP_3, zuC_1, zuC_2, reduceIte, Nat.reduceEqDiff, false_and, and_false, true_and, and_true, and_self, or_true, true_or, or_false, false_or]; rw [if_neg (by omega)]; exact q9.2⟩)) (LO_I (by show 60 ≤ _; omega) (LO_I (by show 60 ≤ _; omega) (LO_I (by show 60 ≤ _; omega) (LO_I (by show 60 ≤ _; omega) (LO_I (by show 60 ≤ _; omega) (LO_z hz14 (by decide) (LO_z hz4 (by decide) LO_rf)))))))) (zwk_s rfl (zwk_s rfl (zwk_s rfl (zwk_s rfl (zwk_s rfl (zwk_s rfl (zwk_s rfl (zwk_s rfl (zwk_n zwk_0)))))))))
        · skip
          exfalso; omega
      refine zs_if_eq (tgt := 146) (pc := 139) C dX9_grinds_139 (by decide) (fun h139 => ?_) (fun h139 => ?_)
      · skip
        refine zs_iconst (pc := 146) C dX9_grinds_146 (by decide) ?_
        exact zs_wk (J147 _ (by first | omega | (simp only [zuI_1, zuI_2, zuJ_1, zuJ_2, zuJ_3, zuP_1, zuP_2, zuP_3, zuC_1, zuC_2, reduceIte, Nat.reduceEqDiff, false_and, and_false, true_and, and_true, and_self, or_true, true_or, or_false, false_or]; omega))) (zwk_s rfl (zwk_s rfl (zwk_s rfl (zwk_s rfl (zwk_s rfl (zwk_s rfl (zwk_s rfl (zwk_s rfl (zwk_n zwk_0)))))))))
      · skip
        refine zs_iconst (pc := 142) C dX9_grinds_142 (by decide) ?_
        refine zs_goto (tgt := 147) (pc := 143) C dX9_grinds_143 (by decide) ?_
        exact zs_wk (J147 _ (by first | omega | (simp only [zuI_1, zuI_2, zuJ_1, zuJ_2, zuJ_3, zuP_1, zuP_2, zuP_3, zuC_1, zuC_2, reduceIte, Nat.reduceEqDiff, false_and, and_false, true_and, and_true, and_self, or_true, true_or, or_false, false_or]; omega))) (zwk_s rfl (zwk_s rfl (zwk_s rfl (zwk_s rfl (zwk_s rfl (zwk_s rfl (zwk_s rfl (zwk_s rfl (zwk_n zwk_0)))))))))
    have y100 : v100 = W 19 0 := e100.trans r214
    have y106 : v106 = A 13 0 := e106.trans (kO14 1 (by decide))
    refine zs_icmp_ge (tgt := 119) (pc := 107) C dX9_grinds_107 (by decide) (fun h107 => ?_) (fun h107 => ?_)
    · skip
      refine zs_aload_n (pc := 119) C dX9_grinds_119 rfl ?_
      refine zs_getf (pc := 120) C dX9_grinds_120 w_X9_20 f_10_22 (by decide) ?_
      refine zs_iconst (pc := 123) C dX9_grinds_123 (by decide) ?_
      refine zs_iald (r := 2059) (pc := 124) C dX9_grinds_124 a_59 (by decide) (by omega) rfl (show zrg 2059 (1 : Int).toNat = (0, 99) from rfl) (fun v124 e124 l124 u124 => ?_)
      try simp only [zuI_1, zuI_2, zuJ_1, zuJ_2, zuJ_3, zuP_1, zuP_2, zuP_3, zuC_1, zuC_2, reduceIte, Nat.reduceEqDiff, false_and, and_false, true_and, and_true, and_self, or_true, true_or, or_false, false_or] at e124
      exact zs_wk (J125 _ (by unfold wPort; omega)) (zwk_s rfl (zwk_s rfl (zwk_s rfl (zwk_s rfl (zwk_s rfl (zwk_s rfl (zwk_s rfl (zwk_s rfl (zwk_n zwk_0)))))))))
    · skip
      refine zs_aload_n (pc := 110) C dX9_grinds_110 rfl ?_
      refine zs_getf (pc := 111) C dX9_grinds_111 w_X9_109 f_10_58 (by decide) ?_
      refine zs_iload_n (pc := 114) C dX9_grinds_114 rfl ?_
      refine zs_iald (r := 2088) (pc := 115) C dX9_grinds_115 a_88 (by decide) (by omega) rfl (r_2088 _) (fun v115 e115 l115 u115 => ?_)
      try simp only [zuI_1, zuI_2, zuJ_1, zuJ_2, zuJ_3, zuP_1, zuP_2, zuP_3, zuC_1, zuC_2, reduceIte, Nat.reduceEqDiff, false_and, and_false, true_and, and_true, and_self, or_true, true_or, or_false, false_or] at e115
      have y115 : v115 = W 19 0 := e115.trans r214
      refine zs_goto (tgt := 125) (pc := 116) C dX9_grinds_116 (by decide) ?_
      exact zs_wk (J125 _ (by unfold wPort; omega)) (zwk_s rfl (zwk_s rfl (zwk_s rfl (zwk_s rfl (zwk_s rfl (zwk_s rfl (zwk_s rfl (zwk_s rfl (zwk_n zwk_0)))))))))
  refine zs_if_ne (tgt := 33) (pc := 26) C dX9_grinds_26 (by decide) (fun h26 => ?_) (fun h26 => ?_)
  · skip
    refine zs_iconst (pc := 33) C dX9_grinds_33 (by decide) ?_
    refine zs_istore (pc := 34) C dX9_grinds_34 (by decide) ?_
    dsimp only [zset, zclr, znone]
    exact zs_wk (J36 _ (by first | omega | (simp only [zuI_1, zuI_2, zuJ_1, zuJ_2, zuJ_3, zuP_1, zuP_2, zuP_3, zuC_1, zuC_2, reduceIte, Nat.reduceEqDiff, false_and, and_false, true_and, and_true, and_self, or_true, true_or, or_false, false_or]; omega))) (zwk_s rfl (zwk_s rfl (zwk_s rfl (zwk_s rfl (zwk_s rfl (zwk_s rfl (zwk_s rfl (zwk_n (zwk_n zwk_0)))))))))
  · skip
    refine zs_iconst (pc := 29) C dX9_grinds_29 (by decide) ?_
    refine zs_goto (tgt := 34) (pc := 30) C dX9_grinds_30 (by decide) ?_
    refine zs_istore (pc := 34) C dX9_grinds_34 (by decide) ?_
    dsimp only [zset, zclr, znone]
    exact zs_wk (J36 _ (by first | omega | (simp only [zuI_1, zuI_2, zuJ_1, zuJ_2, zuJ_3, zuP_1, zuP_2, zuP_3, zuC_1, zuC_2, reduceIte, Nat.reduceEqDiff, false_and, and_false, true_and, and_true, and_self, or_true, true_or, or_false, false_or]; omega))) (zwk_s rfl (zwk_s rfl (zwk_s rfl (zwk_s rfl (zwk_s rfl (zwk_s rfl (zwk_s rfl (zwk_n (zwk_n zwk_0)))))))))
