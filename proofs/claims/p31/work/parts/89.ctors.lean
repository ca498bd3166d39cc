/-- these regions stay, at all that lay there -/
def zpr (rs : List Nat) (Γ : zΓ) (G G1 : zH) : Prop := ∀ r ∈ rs, ∀ a, Γ.1 a ≠ 0 → ∀ i, G1.1 r a i = G.1 r a i
theorem zpr_rf {rs : List Nat} {Γ : zΓ} {G : zH} : zpr rs Γ G G := fun _ _ _ _ _ => rfl
theorem zpr_ag {rs : List Nat} {Γ : zΓ} {G G1 : zH} {t q : Nat} {fr : Nat → Nat} {iv : Nat → Int} (h : zpr rs Γ G G1) (hr : ∀ r ∈ rs, r < 100 * t ∨ 100 * t + zN t ≤ r) : zpr rs Γ G (zag G1 t q fr iv) := fun r h1 a ha i => by
  rw [zag_r (hr r h1)]
  exact h r h1 a ha i
theorem zpr_tr {rs rs' : List Nat} {Γ Γ1 : zΓ} {G G1 G2 : zH} (h1 : zpr rs Γ G G1) (hx : zxt Γ Γ1) (h2 : zpr rs' Γ1 G1 G2) (hs : ∀ r ∈ rs, r ∈ rs') : zpr rs Γ G G2 := fun r h a ha i => (h2 r (hs r h) a (by rw [(hx.2.2.2 a ha).1]; exact ha) i).trans (h1 r h a ha i)
theorem zpr_no {rs ms : List Nat} {Γ Γ1 : zΓ} {G G1 G2 : zH} (h1 : zpr rs Γ G G1) (hx : zxt Γ Γ1) (hz : zsm ms G1 G2) (hr : ∀ r ∈ rs, r ∉ ms) : zpr rs Γ G (zno Γ1 G2) := fun r h a ha i => by
  rw [zno_1 (by rw [(hx.2.2.2 a ha).1]; exact ha), hz.1 r (hr r h)]
  exact h1 r h a ha i
theorem zpr_nn {rs ms : List Nat} {Γ Γ1 : zΓ} {G G1 G2 : zH} (h1 : zpr rs Γ G G1) (hx : zxt Γ Γ1) (hz : zsn ms G1 G2) (hr : ∀ r ∈ rs, r ∉ ms) : zpr rs Γ G (zno Γ1 G2) := fun r h a ha i => by
  rw [zno_1 (by rw [(hx.2.2.2 a ha).1]; exact ha), hz r (hr r h)]
  exact h1 r h a ha i
def zTxF (b : Nat) (o : (Nat → Nat) × (Nat → Nat) × (Nat → Nat → Int)) (U : State) : Prop :=
  (vk_R RX6 24 "or and not worth times worn pride lie honest day " (o.1 3) U ∧ vk_R RX6 26 "sin person did cake grain grist stone seed law may grind wear want pair " (o.1 4) U) ∧
  ∃ (v1 v2 : Nat), jStr (zAb b) (o.1 3) v1 49 (fun j => sB1.getD j 0) U U.heap ∧ jStr (zAb b) (o.1 4) v2 72 (fun j => sB2.getD j 0) U U.heap
theorem zTxF_sty {b : Nat} {o : (Nat → Nat) × (Nat → Nat) × (Nat → Nat → Int)} : zSty b (zTxF b o) := by
  intro U U1 h hW hq
  obtain ⟨⟨h1, h2⟩, v1, v2, h3, h4⟩ := h
  exact ⟨⟨vk_R.warm hW h1, vk_R.warm hW h2⟩, v1, v2, jStr_keep h3 hW.alike hq, jStr_keep h4 hW.alike hq⟩

section ZYF
variable {p : Program} {l : Launch} {e : Env} {R : Room} {s : State} {m : MethodId} {args : Array Value} {below : List Frame} {meth : Method} {c : Code} {Γ Γ0 : zΓ} {b : Nat} {cc : ByteArray} {nL : Nat} {own : String} {cells slots : Nat} {Q : State → Prop} {pc : Nat} {ls : List (Option zV)} {st : List zV} {G : zH} {ws X : va_W} {D : va_G}
theorem v_learnF {post : Int → zH → Prop} (C : zCv p s m args c Γ0 b cc nL own) (hx : zxt Γ0 Γ) {bs : ByteArray} {idx w0 a t v n : Nat} {k : Int} {f : Nat → Int32} {y : MethodName} (d : decode cc pc = .ok (.invokevirtual idx, 3)) (w : zWv own idx y 7 bs 7 (some .int) 2) (hM : zMt l Γ (fun U => jStr (zA Γ) a v n f U U.heap) y bs 7 (some .int) 4 [zr 7 w0, zr t a, zi k] G (zpi post)) (hB : zBn Γ G) (ht0 : Γ.1 w0 = 7) (ha : a = Γ.2.2.2.2.2.1 (t - 200)) (hJ : jStr (zAb b) a v n f s s.heap) (ht : 200 ≤ t) (hR : 5 ≤ R.frames ∧ 200 ≤ R.locals) (hc : cells ≤ R.cells ∧ slots ≤ R.slots) (hw : ((st.map zc).map fun v => v.category).sum ≤ 8) (hk : -2147483648 ≤ k ∧ k ≤ 2147483647)
    (kk : ∀ (x : Int) (G' : zH), post x G' → (-2147483648 ≤ x ∧ x ≤ 2147483647) → zBn Γ (zno Γ G') → V p l e R s m args below meth c b Γ0.2.2.2.1 nL cells slots Q (pc + 3) ls (zi x :: st) (X ++ zWd Γ (zno Γ G'))) : V p l e R s m args below meth c b Γ0.2.2.2.1 nL cells slots Q pc ls (zi k :: zr t a :: zr 7 w0 :: st) (X ++ zWd Γ G) := by
  rw [← hx.2.1]
  refine v_callT (av := [zr t a, zi k]) (zCv_x C hx) d w (by decide) rfl hM hB ?_ (fun U H hU hvm hq hA => by rw [hU]; exact jStr_nar (jStr_keep hJ hvm hq) hA) ?_ (by show 4 + 1 ≤ R.frames ∧ 8 + (7 + 11) + 40 * 4 ≤ R.locals; omega) hc hw (fun r G' hp hz hB' => ?_)
  · intro x hx
    rcases List.mem_cons.mp hx with h | h
    · rw [h]; exact zk_of ht0 (by decide) (by decide)
    · rcases List.mem_cons.mp h with h | h
      · rw [h]; exact Or.inr ⟨ht, ha⟩
      · rw [List.mem_singleton.mp h]; exact hk
  · intro a U g mk h
    exact jStr_keep (U := U) (U1 := U.calling g mk a) h (Vm.Alike.refl U.vm) (fun _ _ _ => rfl)
  · obtain ⟨x, rfl, hp⟩ := hp
    have h := kk x G' hp (hz _ rfl) hB'
    rw [← hx.2.1] at h
    exact h
end ZYF

set_option maxHeartbeats 4000000 in
set_option maxRecDepth 100000 in
theorem c_X0_initF {l : Launch} {b : Nat} {Γ : zΓ} {G : zH} {X : va_W} {h0 : Nat} (hX : zXs Γ) : zMi l yX0_init cX0_init 1 1 3 35 b Γ G X 1 h0 [] (fun _ => True) (fun _ G' => zpr [2044, 2055, 901, 912, 913] Γ G G' ∧ True) := by
  refine zMi_of RX0 hX (by decide) rfl rfl (Nat.le_of_ble_eq_true rfl) ?_
  intro p e s m args below meth c C hr hlk hin hB hav hT
  show V p l e (zrC 1 3 35) s m args below meth c b Γ.2.2.2.1 1 0 0 (MQ below (zQi b Γ X 1 h0 (fun _ G' => zpr [2044, 2055, 901, 912, 913] Γ G G' ∧ True)) args s 3 35 (zAb b)) 0 [some (zr 1 h0)] [] ((h0, zOb 1 (fun _ => false) (fun _ => 0) (fun _ => 0)) :: (X ++ zWd Γ G))
  have hx0 : zxt Γ Γ := zxt_rf
  have hO : zOk Γ 1 (fun _ => false) (fun _ => 0) := zOk_0
  refine v_aload_n (pc := 0) C dX0_init_0 rfl ?_
  refine v_obj (pc := 1) C dX0_init_1 ol_X0 oi_ oc_ ⟨Nat.le_of_ble_eq_true rfl, Nat.le_of_ble_eq_true rfl⟩ (Nat.le_of_ble_eq_true rfl) ?_
  refine v_aload_n (pc := 4) C dX0_init_4 rfl ?_
  refine v_iconst (pc := 5) C dX0_init_5 ?_
  refine v_newi0 (pc := 6) C hx0 hB 11 dX0_init_6 ac_int a_11 rfl (by decide) (by decide) ⟨Nat.le_of_ble_eq_true rfl, Nat.le_of_ble_eq_true rfl⟩ (fun Γ1 q1 fq1 hs1 hB1 tq1 => ?_)
  have hx1 := zxt_tr hx0 hs1
  replace hO := zOk_x hs1 hO
  refine v_putr (pc := 8) (k := 0) C hin dX0_init_8 fl_X0_9 rfl (by decide) (by decide) ?_
  replace hO := zOk_s (k := 0) hO (by decide) (by decide) tq1
  refine v_aload_n (pc := 11) C dX0_init_11 rfl ?_
  refine v_iconst (pc := 12) C dX0_init_12 ?_
  refine v_newi0 (pc := 13) C hx1 hB1 12 dX0_init_13 ac_int a_12 rfl (by decide) (by decide) ⟨Nat.le_of_ble_eq_true rfl, Nat.le_of_ble_eq_true rfl⟩ (fun Γ2 q2 fq2 hs2 hB2 tq2 => ?_)
  have hx2 := zxt_tr hx1 hs2
  replace hO := zOk_x hs2 hO
  replace tq1 := zxt_ty hs2 tq1 (by decide)
  refine v_putr (pc := 15) (k := 1) C hin dX0_init_15 fl_X0_15 rfl (by decide) (by decide) ?_
  replace hO := zOk_s (k := 1) hO (by decide) (by decide) tq2
  refine v_aload_n (pc := 18) C dX0_init_18 rfl ?_
  refine v_bipush (pc := 19) C dX0_init_19 (by decide) ?_
  refine v_newj0 (pc := 21) C hx2 hB2 13 dX0_init_21 ac_long a_13 rfl (by decide) (by decide) ⟨Nat.le_of_ble_eq_true rfl, Nat.le_of_ble_eq_true rfl⟩ (fun Γ3 q3 fq3 hs3 hB3 tq3 => ?_)
  have hx3 := zxt_tr hx2 hs3
  replace hO := zOk_x hs3 hO
  replace tq1 := zxt_ty hs3 tq1 (by decide)
  replace tq2 := zxt_ty hs3 tq2 (by decide)
  refine v_putr (pc := 23) (k := 2) C hin dX0_init_23 fl_X0_18 rfl (by decide) (by decide) ?_
  replace hO := zOk_s (k := 2) hO (by decide) (by decide) tq3
  refine v_adopt0 (Γ0 := Γ) hB3 (by decide) (by decide) (by decide +kernel) (by decide +kernel) hO (by decide +kernel) (fun Γe Ge hse hBe the eΓ eG => ?_)
  have prE : zpr [2044, 2055, 901, 912, 913] Γ G Ge := by rw [eG]; exact zpr_ag zpr_rf (by decide)
  have hx4 := zxt_tr hx3 hse
  replace tq1 := zxt_ty hse tq1 (by decide)
  replace tq2 := zxt_ty hse tq2 (by decide)
  replace tq3 := zxt_ty hse tq3 (by decide)
  have th0 := the
  refine v_widen (k := 3) (n := 35) (Nat.le_of_ble_eq_true rfl) (Nat.le_of_ble_eq_true rfl) ?_
  have hpost := (⟨prE, trivial⟩ : zpr [2044, 2055, 901, 912, 913] Γ G _ ∧ True)
  exact v_ret (Γ0 := Γ) (zCv_x C hx4) hr hlk dX0_init_26 hx4 hBe th0 hpost

set_option maxHeartbeats 4000000 in
set_option maxRecDepth 100000 in
theorem c_X1_initF {l : Launch} {b : Nat} {Γ : zΓ} {G : zH} {X : va_W} {h0 : Nat} (hX : zXs Γ) : zMi l yX1_init cX1_init 1 1 6 213 b Γ G X 2 h0 [] (fun _ => True) (fun _ G' => zpr [2044, 2055, 901, 912, 913] Γ G G' ∧ True) := by
  refine zMi_of RX1 hX (by decide) rfl rfl (Nat.le_of_ble_eq_true rfl) ?_
  intro p e s m args below meth c C hr hlk hin hB hav hT
  show V p l e (zrC 1 6 213) s m args below meth c b Γ.2.2.2.1 1 0 0 (MQ below (zQi b Γ X 2 h0 (fun _ G' => zpr [2044, 2055, 901, 912, 913] Γ G G' ∧ True)) args s 6 213 (zAb b)) 0 [some (zr 2 h0)] [] ((h0, zOb 2 (fun _ => false) (fun _ => 0) (fun _ => 0)) :: (X ++ zWd Γ G))
  have hx0 : zxt Γ Γ := zxt_rf
  have hO : zOk Γ 2 (fun _ => false) (fun _ => 0) := zOk_0
  refine v_aload_n (pc := 0) C dX1_init_0 rfl ?_
  refine v_obj (pc := 1) C dX1_init_1 ol_X1 oi_ oc_ ⟨Nat.le_of_ble_eq_true rfl, Nat.le_of_ble_eq_true rfl⟩ (Nat.le_of_ble_eq_true rfl) ?_
  refine v_aload_n (pc := 4) C dX1_init_4 rfl ?_
  refine v_bipush (pc := 5) C dX1_init_5 (by decide) ?_
  refine v_newi0 (pc := 7) C hx0 hB 14 dX1_init_7 ac_int a_14 rfl (by decide) (by decide) ⟨Nat.le_of_ble_eq_true rfl, Nat.le_of_ble_eq_true rfl⟩ (fun Γ1 q1 fq1 hs1 hB1 tq1 => ?_)
  have hx1 := zxt_tr hx0 hs1
  replace hO := zOk_x hs1 hO
  refine v_putr (pc := 9) (k := 0) C hin dX1_init_9 fl_X1_11 rfl (by decide) (by decide) ?_
  replace hO := zOk_s (k := 0) hO (by decide) (by decide) tq1
  refine v_aload_n (pc := 12) C dX1_init_12 rfl ?_
  refine v_bipush (pc := 13) C dX1_init_13 (by decide) ?_
  refine v_newi0 (pc := 15) C hx1 hB1 15 dX1_init_15 ac_int a_15 rfl (by decide) (by decide) ⟨Nat.le_of_ble_eq_true rfl, Nat.le_of_ble_eq_true rfl⟩ (fun Γ2 q2 fq2 hs2 hB2 tq2 => ?_)
  have hx2 := zxt_tr hx1 hs2
  replace hO := zOk_x hs2 hO
  replace tq1 := zxt_ty hs2 tq1 (by decide)
  refine v_putr (pc := 17) (k := 1) C hin dX1_init_17 fl_X1_15 rfl (by decide) (by decide) ?_
  replace hO := zOk_s (k := 1) hO (by decide) (by decide) tq2
  refine v_aload_n (pc := 20) C dX1_init_20 rfl ?_
  refine v_bipush (pc := 21) C dX1_init_21 (by decide) ?_
  refine v_newi0 (pc := 23) C hx2 hB2 16 dX1_init_23 ac_int a_16 rfl (by decide) (by decide) ⟨Nat.le_of_ble_eq_true rfl, Nat.le_of_ble_eq_true rfl⟩ (fun Γ3 q3 fq3 hs3 hB3 tq3 => ?_)
  have hx3 := zxt_tr hx2 hs3
  replace hO := zOk_x hs3 hO
  replace tq1 := zxt_ty hs3 tq1 (by decide)
  replace tq2 := zxt_ty hs3 tq2 (by decide)
  refine v_putr (pc := 25) (k := 2) C hin dX1_init_25 fl_X1_18 rfl (by decide) (by decide) ?_
  replace hO := zOk_s (k := 2) hO (by decide) (by decide) tq3
  refine v_aload_n (pc := 28) C dX1_init_28 rfl ?_
  refine v_bipush (pc := 29) C dX1_init_29 (by decide) ?_
  refine v_newi0 (pc := 31) C hx3 hB3 17 dX1_init_31 ac_int a_17 rfl (by decide) (by decide) ⟨Nat.le_of_ble_eq_true rfl, Nat.le_of_ble_eq_true rfl⟩ (fun Γ4 q4 fq4 hs4 hB4 tq4 => ?_)
  have hx4 := zxt_tr hx3 hs4
  replace hO := zOk_x hs4 hO
  replace tq1 := zxt_ty hs4 tq1 (by decide)
  replace tq2 := zxt_ty hs4 tq2 (by decide)
  replace tq3 := zxt_ty hs4 tq3 (by decide)
  refine v_putr (pc := 33) (k := 3) C hin dX1_init_33 fl_X1_21 rfl (by decide) (by decide) ?_
  replace hO := zOk_s (k := 3) hO (by decide) (by decide) tq4
  refine v_aload_n (pc := 36) C dX1_init_36 rfl ?_
  refine v_bipush (pc := 37) C dX1_init_37 (by decide) ?_
  refine v_newj0 (pc := 39) C hx4 hB4 18 dX1_init_39 ac_long a_18 rfl (by decide) (by decide) ⟨Nat.le_of_ble_eq_true rfl, Nat.le_of_ble_eq_true rfl⟩ (fun Γ5 q5 fq5 hs5 hB5 tq5 => ?_)
  have hx5 := zxt_tr hx4 hs5
  replace hO := zOk_x hs5 hO
  replace tq1 := zxt_ty hs5 tq1 (by decide)
  replace tq2 := zxt_ty hs5 tq2 (by decide)
  replace tq3 := zxt_ty hs5 tq3 (by decide)
  replace tq4 := zxt_ty hs5 tq4 (by decide)
  refine v_putr (pc := 41) (k := 4) C hin dX1_init_41 fl_X1_24 rfl (by decide) (by decide) ?_
  replace hO := zOk_s (k := 4) hO (by decide) (by decide) tq5
  refine v_aload_n (pc := 44) C dX1_init_44 rfl ?_
  refine v_bipush (pc := 45) C dX1_init_45 (by decide) ?_
  refine v_newj0 (pc := 47) C hx5 hB5 19 dX1_init_47 ac_long a_19 rfl (by decide) (by decide) ⟨Nat.le_of_ble_eq_true rfl, Nat.le_of_ble_eq_true rfl⟩ (fun Γ6 q6 fq6 hs6 hB6 tq6 => ?_)
  have hx6 := zxt_tr hx5 hs6
  replace hO := zOk_x hs6 hO
  replace tq1 := zxt_ty hs6 tq1 (by decide)
  replace tq2 := zxt_ty hs6 tq2 (by decide)
  replace tq3 := zxt_ty hs6 tq3 (by decide)
  replace tq4 := zxt_ty hs6 tq4 (by decide)
  replace tq5 := zxt_ty hs6 tq5 (by decide)
  refine v_putr (pc := 49) (k := 5) C hin dX1_init_49 fl_X1_28 rfl (by decide) (by decide) ?_
  replace hO := zOk_s (k := 5) hO (by decide) (by decide) tq6
  refine v_adopt0 (Γ0 := Γ) hB6 (by decide) (by decide) (by decide +kernel) (by decide +kernel) hO (by decide +kernel) (fun Γe Ge hse hBe the eΓ eG => ?_)
  have prE : zpr [2044, 2055, 901, 912, 913] Γ G Ge := by rw [eG]; exact zpr_ag zpr_rf (by decide)
  have hx7 := zxt_tr hx6 hse
  replace tq1 := zxt_ty hse tq1 (by decide)
  replace tq2 := zxt_ty hse tq2 (by decide)
  replace tq3 := zxt_ty hse tq3 (by decide)
  replace tq4 := zxt_ty hse tq4 (by decide)
  replace tq5 := zxt_ty hse tq5 (by decide)
  replace tq6 := zxt_ty hse tq6 (by decide)
  have th0 := the
  refine v_widen (k := 6) (n := 213) (Nat.le_of_ble_eq_true rfl) (Nat.le_of_ble_eq_true rfl) ?_
  have hpost := (⟨prE, trivial⟩ : zpr [2044, 2055, 901, 912, 913] Γ G _ ∧ True)
  exact v_ret (Γ0 := Γ) (zCv_x C hx7) hr hlk dX1_init_52 hx7 hBe th0 hpost

set_option maxHeartbeats 4000000 in
set_option maxRecDepth 100000 in
theorem c_X4_initF {l : Launch} {b : Nat} {Γ : zΓ} {G : zH} {X : va_W} {h0 : Nat} (hX : zXs Γ) : zMi l yX4_init cX4_init 1 1 10 600 b Γ G X 5 h0 [] (fun _ => True) (fun _ G' => zpr [2044, 2055, 901, 912, 913] Γ G G' ∧ True) := by
  refine zMi_of RX4 hX (by decide) rfl rfl (Nat.le_of_ble_eq_true rfl) ?_
  intro p e s m args below meth c C hr hlk hin hB hav hT
  show V p l e (zrC 1 10 600) s m args below meth c b Γ.2.2.2.1 1 0 0 (MQ below (zQi b Γ X 5 h0 (fun _ G' => zpr [2044, 2055, 901, 912, 913] Γ G G' ∧ True)) args s 10 600 (zAb b)) 0 [some (zr 5 h0)] [] ((h0, zOb 5 (fun _ => false) (fun _ => 0) (fun _ => 0)) :: (X ++ zWd Γ G))
  have hx0 : zxt Γ Γ := zxt_rf
  have hO : zOk Γ 5 (fun _ => false) (fun _ => 0) := zOk_0
  refine v_aload_n (pc := 0) C dX4_init_0 rfl ?_
  refine v_obj (pc := 1) C dX4_init_1 ol_X4 oi_ oc_ ⟨Nat.le_of_ble_eq_true rfl, Nat.le_of_ble_eq_true rfl⟩ (Nat.le_of_ble_eq_true rfl) ?_
  refine v_aload_n (pc := 4) C dX4_init_4 rfl ?_
  refine v_bipush (pc := 5) C dX4_init_5 (by decide) ?_
  refine v_newi0 (pc := 7) C hx0 hB 26 dX4_init_7 ac_int a_26 rfl (by decide) (by decide) ⟨Nat.le_of_ble_eq_true rfl, Nat.le_of_ble_eq_true rfl⟩ (fun Γ1 q1 fq1 hs1 hB1 tq1 => ?_)
  have hx1 := zxt_tr hx0 hs1
  replace hO := zOk_x hs1 hO
  refine v_putr (pc := 9) (k := 0) C hin dX4_init_9 fl_X4_9 rfl (by decide) (by decide) ?_
  replace hO := zOk_s (k := 0) hO (by decide) (by decide) tq1
  refine v_aload_n (pc := 12) C dX4_init_12 rfl ?_
  refine v_bipush (pc := 13) C dX4_init_13 (by decide) ?_
  refine v_newi0 (pc := 15) C hx1 hB1 27 dX4_init_15 ac_int a_27 rfl (by decide) (by decide) ⟨Nat.le_of_ble_eq_true rfl, Nat.le_of_ble_eq_true rfl⟩ (fun Γ2 q2 fq2 hs2 hB2 tq2 => ?_)
  have hx2 := zxt_tr hx1 hs2
  replace hO := zOk_x hs2 hO
  replace tq1 := zxt_ty hs2 tq1 (by decide)
  refine v_putr (pc := 17) (k := 1) C hin dX4_init_17 fl_X4_15 rfl (by decide) (by decide) ?_
  replace hO := zOk_s (k := 1) hO (by decide) (by decide) tq2
  refine v_aload_n (pc := 20) C dX4_init_20 rfl ?_
  refine v_bipush (pc := 21) C dX4_init_21 (by decide) ?_
  refine v_newi0 (pc := 23) C hx2 hB2 28 dX4_init_23 ac_int a_28 rfl (by decide) (by decide) ⟨Nat.le_of_ble_eq_true rfl, Nat.le_of_ble_eq_true rfl⟩ (fun Γ3 q3 fq3 hs3 hB3 tq3 => ?_)
  have hx3 := zxt_tr hx2 hs3
  replace hO := zOk_x hs3 hO
  replace tq1 := zxt_ty hs3 tq1 (by decide)
  replace tq2 := zxt_ty hs3 tq2 (by decide)
  refine v_putr (pc := 25) (k := 2) C hin dX4_init_25 fl_X4_18 rfl (by decide) (by decide) ?_
  replace hO := zOk_s (k := 2) hO (by decide) (by decide) tq3
  refine v_aload_n (pc := 28) C dX4_init_28 rfl ?_
  refine v_bipush (pc := 29) C dX4_init_29 (by decide) ?_
  refine v_newi0 (pc := 31) C hx3 hB3 29 dX4_init_31 ac_int a_29 rfl (by decide) (by decide) ⟨Nat.le_of_ble_eq_true rfl, Nat.le_of_ble_eq_true rfl⟩ (fun Γ4 q4 fq4 hs4 hB4 tq4 => ?_)
  have hx4 := zxt_tr hx3 hs4
  replace hO := zOk_x hs4 hO
  replace tq1 := zxt_ty hs4 tq1 (by decide)
  replace tq2 := zxt_ty hs4 tq2 (by decide)
  replace tq3 := zxt_ty hs4 tq3 (by decide)
  refine v_putr (pc := 33) (k := 3) C hin dX4_init_33 fl_X4_21 rfl (by decide) (by decide) ?_
  replace hO := zOk_s (k := 3) hO (by decide) (by decide) tq4
  refine v_aload_n (pc := 36) C dX4_init_36 rfl ?_
  refine v_bipush (pc := 37) C dX4_init_37 (by decide) ?_
  refine v_newi0 (pc := 39) C hx4 hB4 30 dX4_init_39 ac_int a_30 rfl (by decide) (by decide) ⟨Nat.le_of_ble_eq_true rfl, Nat.le_of_ble_eq_true rfl⟩ (fun Γ5 q5 fq5 hs5 hB5 tq5 => ?_)
  have hx5 := zxt_tr hx4 hs5
  replace hO := zOk_x hs5 hO
  replace tq1 := zxt_ty hs5 tq1 (by decide)
  replace tq2 := zxt_ty hs5 tq2 (by decide)
  replace tq3 := zxt_ty hs5 tq3 (by decide)
  replace tq4 := zxt_ty hs5 tq4 (by decide)
  refine v_putr (pc := 41) (k := 4) C hin dX4_init_41 fl_X4_24 rfl (by decide) (by decide) ?_
  replace hO := zOk_s (k := 4) hO (by decide) (by decide) tq5
  refine v_aload_n (pc := 44) C dX4_init_44 rfl ?_
  refine v_bipush (pc := 45) C dX4_init_45 (by decide) ?_
  refine v_newi0 (pc := 47) C hx5 hB5 31 dX4_init_47 ac_int a_31 rfl (by decide) (by decide) ⟨Nat.le_of_ble_eq_true rfl, Nat.le_of_ble_eq_true rfl⟩ (fun Γ6 q6 fq6 hs6 hB6 tq6 => ?_)
  have hx6 := zxt_tr hx5 hs6
  replace hO := zOk_x hs6 hO
  replace tq1 := zxt_ty hs6 tq1 (by decide)
  replace tq2 := zxt_ty hs6 tq2 (by decide)
  replace tq3 := zxt_ty hs6 tq3 (by decide)
  replace tq4 := zxt_ty hs6 tq4 (by decide)
  replace tq5 := zxt_ty hs6 tq5 (by decide)
  refine v_putr (pc := 49) (k := 5) C hin dX4_init_49 fl_X4_27 rfl (by decide) (by decide) ?_
  replace hO := zOk_s (k := 5) hO (by decide) (by decide) tq6
  refine v_aload_n (pc := 52) C dX4_init_52 rfl ?_
  refine v_bipush (pc := 53) C dX4_init_53 (by decide) ?_
  refine v_newi0 (pc := 55) C hx6 hB6 32 dX4_init_55 ac_int a_32 rfl (by decide) (by decide) ⟨Nat.le_of_ble_eq_true rfl, Nat.le_of_ble_eq_true rfl⟩ (fun Γ7 q7 fq7 hs7 hB7 tq7 => ?_)
  have hx7 := zxt_tr hx6 hs7
  replace hO := zOk_x hs7 hO
  replace tq1 := zxt_ty hs7 tq1 (by decide)
  replace tq2 := zxt_ty hs7 tq2 (by decide)
  replace tq3 := zxt_ty hs7 tq3 (by decide)
  replace tq4 := zxt_ty hs7 tq4 (by decide)
  replace tq5 := zxt_ty hs7 tq5 (by decide)
  replace tq6 := zxt_ty hs7 tq6 (by decide)
  refine v_putr (pc := 57) (k := 6) C hin dX4_init_57 fl_X4_30 rfl (by decide) (by decide) ?_
  replace hO := zOk_s (k := 6) hO (by decide) (by decide) tq7
  refine v_aload_n (pc := 60) C dX4_init_60 rfl ?_
  refine v_bipush (pc := 61) C dX4_init_61 (by decide) ?_
  refine v_newi0 (pc := 63) C hx7 hB7 33 dX4_init_63 ac_int a_33 rfl (by decide) (by decide) ⟨Nat.le_of_ble_eq_true rfl, Nat.le_of_ble_eq_true rfl⟩ (fun Γ8 q8 fq8 hs8 hB8 tq8 => ?_)
  have hx8 := zxt_tr hx7 hs8
  replace hO := zOk_x hs8 hO
  replace tq1 := zxt_ty hs8 tq1 (by decide)
  replace tq2 := zxt_ty hs8 tq2 (by decide)
  replace tq3 := zxt_ty hs8 tq3 (by decide)
  replace tq4 := zxt_ty hs8 tq4 (by decide)
  replace tq5 := zxt_ty hs8 tq5 (by decide)
  replace tq6 := zxt_ty hs8 tq6 (by decide)
  replace tq7 := zxt_ty hs8 tq7 (by decide)
  refine v_putr (pc := 65) (k := 7) C hin dX4_init_65 fl_X4_33 rfl (by decide) (by decide) ?_
  replace hO := zOk_s (k := 7) hO (by decide) (by decide) tq8
  refine v_aload_n (pc := 68) C dX4_init_68 rfl ?_
  refine v_bipush (pc := 69) C dX4_init_69 (by decide) ?_
  refine v_newi0 (pc := 71) C hx8 hB8 34 dX4_init_71 ac_int a_34 rfl (by decide) (by decide) ⟨Nat.le_of_ble_eq_true rfl, Nat.le_of_ble_eq_true rfl⟩ (fun Γ9 q9 fq9 hs9 hB9 tq9 => ?_)
  have hx9 := zxt_tr hx8 hs9
  replace hO := zOk_x hs9 hO
  replace tq1 := zxt_ty hs9 tq1 (by decide)
  replace tq2 := zxt_ty hs9 tq2 (by decide)
  replace tq3 := zxt_ty hs9 tq3 (by decide)
  replace tq4 := zxt_ty hs9 tq4 (by decide)
  replace tq5 := zxt_ty hs9 tq5 (by decide)
  replace tq6 := zxt_ty hs9 tq6 (by decide)
  replace tq7 := zxt_ty hs9 tq7 (by decide)
  replace tq8 := zxt_ty hs9 tq8 (by decide)
  refine v_putr (pc := 73) (k := 8) C hin dX4_init_73 fl_X4_36 rfl (by decide) (by decide) ?_
  replace hO := zOk_s (k := 8) hO (by decide) (by decide) tq9
  refine v_aload_n (pc := 76) C dX4_init_76 rfl ?_
  refine v_bipush (pc := 77) C dX4_init_77 (by decide) ?_
  refine v_newi0 (pc := 79) C hx9 hB9 35 dX4_init_79 ac_int a_35 rfl (by decide) (by decide) ⟨Nat.le_of_ble_eq_true rfl, Nat.le_of_ble_eq_true rfl⟩ (fun Γ10 q10 fq10 hs10 hB10 tq10 => ?_)
  have hx10 := zxt_tr hx9 hs10
  replace hO := zOk_x hs10 hO
  replace tq1 := zxt_ty hs10 tq1 (by decide)
  replace tq2 := zxt_ty hs10 tq2 (by decide)
  replace tq3 := zxt_ty hs10 tq3 (by decide)
  replace tq4 := zxt_ty hs10 tq4 (by decide)
  replace tq5 := zxt_ty hs10 tq5 (by decide)
  replace tq6 := zxt_ty hs10 tq6 (by decide)
  replace tq7 := zxt_ty hs10 tq7 (by decide)
  replace tq8 := zxt_ty hs10 tq8 (by decide)
  replace tq9 := zxt_ty hs10 tq9 (by decide)
  refine v_putr (pc := 81) (k := 9) C hin dX4_init_81 fl_X4_39 rfl (by decide) (by decide) ?_
  replace hO := zOk_s (k := 9) hO (by decide) (by decide) tq10
  refine v_adopt0 (Γ0 := Γ) hB10 (by decide) (by decide) (by decide +kernel) (by decide +kernel) hO (by decide +kernel) (fun Γe Ge hse hBe the eΓ eG => ?_)
  have prE : zpr [2044, 2055, 901, 912, 913] Γ G Ge := by rw [eG]; exact zpr_ag zpr_rf (by decide)
  have hx11 := zxt_tr hx10 hse
  replace tq1 := zxt_ty hse tq1 (by decide)
  replace tq2 := zxt_ty hse tq2 (by decide)
  replace tq3 := zxt_ty hse tq3 (by decide)
  replace tq4 := zxt_ty hse tq4 (by decide)
  replace tq5 := zxt_ty hse tq5 (by decide)
  replace tq6 := zxt_ty hse tq6 (by decide)
  replace tq7 := zxt_ty hse tq7 (by decide)
  replace tq8 := zxt_ty hse tq8 (by decide)
  replace tq9 := zxt_ty hse tq9 (by decide)
  replace tq10 := zxt_ty hse tq10 (by decide)
  have th0 := the
  refine v_widen (k := 10) (n := 600) (Nat.le_of_ble_eq_true rfl) (Nat.le_of_ble_eq_true rfl) ?_
  have hpost := (⟨prE, trivial⟩ : zpr [2044, 2055, 901, 912, 913] Γ G _ ∧ True)
  exact v_ret (Γ0 := Γ) (zCv_x C hx11) hr hlk dX4_init_84 hx11 hBe th0 hpost

set_option maxHeartbeats 4000000 in
set_option maxRecDepth 100000 in
theorem c_X2_initF {l : Launch} {b : Nat} {Γ : zΓ} {G : zH} {X : va_W} {h0 a0 : Nat} (hX : zXs Γ) : zMi l yX2_init cX2_init 2 1 5 39 b Γ G X 3 h0 [zr 8 a0] (fun _ => True) (fun _ G' => zpr [2044, 2055, 901, 912, 913] Γ G G' ∧ True) := by
  refine zMi_of RX2 hX (by decide) rfl rfl (Nat.le_of_ble_eq_true rfl) ?_
  intro p e s m args below meth c C hr hlk hin hB hav hT
  show V p l e (zrC 1 5 39) s m args below meth c b Γ.2.2.2.1 2 0 0 (MQ below (zQi b Γ X 3 h0 (fun _ G' => zpr [2044, 2055, 901, 912, 913] Γ G G' ∧ True)) args s 5 39 (zAb b)) 0 [some (zr 3 h0), some (zr 8 a0)] [] ((h0, zOb 3 (fun _ => false) (fun _ => 0) (fun _ => 0)) :: (X ++ zWd Γ G))
  have hx0 : zxt Γ Γ := zxt_rf
  have hO : zOk Γ 3 (fun _ => false) (fun _ => 0) := zOk_0
  have ta0 : Γ.1 a0 = 8 := (zk_ty (hav _ List.mem_cons_self) (by decide)).1
  refine v_aload_n (pc := 0) C dX2_init_0 rfl ?_
  refine v_obj (pc := 1) C dX2_init_1 ol_X2 oi_ oc_ ⟨Nat.le_of_ble_eq_true rfl, Nat.le_of_ble_eq_true rfl⟩ (Nat.le_of_ble_eq_true rfl) ?_
  refine v_aload_n (pc := 4) C dX2_init_4 rfl ?_
  refine v_iconst (pc := 5) C dX2_init_5 ?_
  refine v_newi0 (pc := 6) C hx0 hB 20 dX2_init_6 ac_int a_20 rfl (by decide) (by decide) ⟨Nat.le_of_ble_eq_true rfl, Nat.le_of_ble_eq_true rfl⟩ (fun Γ1 q1 fq1 hs1 hB1 tq1 => ?_)
  have hx1 := zxt_tr hx0 hs1
  replace hO := zOk_x hs1 hO
  replace ta0 := zxt_ty hs1 ta0 (by decide)
  refine v_putr (pc := 8) (k := 1) C hin dX2_init_8 fl_X2_9 rfl (by decide) (by decide) ?_
  replace hO := zOk_s (k := 1) hO (by decide) (by decide) tq1
  refine v_aload_n (pc := 11) C dX2_init_11 rfl ?_
  refine v_iconst (pc := 12) C dX2_init_12 ?_
  refine v_newi0 (pc := 13) C hx1 hB1 21 dX2_init_13 ac_int a_21 rfl (by decide) (by decide) ⟨Nat.le_of_ble_eq_true rfl, Nat.le_of_ble_eq_true rfl⟩ (fun Γ2 q2 fq2 hs2 hB2 tq2 => ?_)
  have hx2 := zxt_tr hx1 hs2
  replace hO := zOk_x hs2 hO
  replace ta0 := zxt_ty hs2 ta0 (by decide)
  replace tq1 := zxt_ty hs2 tq1 (by decide)
  refine v_putr (pc := 15) (k := 2) C hin dX2_init_15 fl_X2_15 rfl (by decide) (by decide) ?_
  replace hO := zOk_s (k := 2) hO (by decide) (by decide) tq2
  refine v_aload_n (pc := 18) C dX2_init_18 rfl ?_
  refine v_iconst (pc := 19) C dX2_init_19 ?_
  refine v_newi0 (pc := 20) C hx2 hB2 22 dX2_init_20 ac_int a_22 rfl (by decide) (by decide) ⟨Nat.le_of_ble_eq_true rfl, Nat.le_of_ble_eq_true rfl⟩ (fun Γ3 q3 fq3 hs3 hB3 tq3 => ?_)
  have hx3 := zxt_tr hx2 hs3
  replace hO := zOk_x hs3 hO
  replace ta0 := zxt_ty hs3 ta0 (by decide)
  replace tq1 := zxt_ty hs3 tq1 (by decide)
  replace tq2 := zxt_ty hs3 tq2 (by decide)
  refine v_putr (pc := 22) (k := 3) C hin dX2_init_22 fl_X2_18 rfl (by decide) (by decide) ?_
  replace hO := zOk_s (k := 3) hO (by decide) (by decide) tq3
  refine v_aload_n (pc := 25) C dX2_init_25 rfl ?_
  refine v_bipush (pc := 26) C dX2_init_26 (by decide) ?_
  refine v_newi0 (pc := 28) C hx3 hB3 23 dX2_init_28 ac_int a_23 rfl (by decide) (by decide) ⟨Nat.le_of_ble_eq_true rfl, Nat.le_of_ble_eq_true rfl⟩ (fun Γ4 q4 fq4 hs4 hB4 tq4 => ?_)
  have hx4 := zxt_tr hx3 hs4
  replace hO := zOk_x hs4 hO
  replace ta0 := zxt_ty hs4 ta0 (by decide)
  replace tq1 := zxt_ty hs4 tq1 (by decide)
  replace tq2 := zxt_ty hs4 tq2 (by decide)
  replace tq3 := zxt_ty hs4 tq3 (by decide)
  refine v_putr (pc := 30) (k := 4) C hin dX2_init_30 fl_X2_21 rfl (by decide) (by decide) ?_
  replace hO := zOk_s (k := 4) hO (by decide) (by decide) tq4
  refine v_aload_n (pc := 33) C dX2_init_33 rfl ?_
  refine v_iconst (pc := 34) C dX2_init_34 ?_
  refine v_newi0 (pc := 35) C hx4 hB4 24 dX2_init_35 ac_int a_24 rfl (by decide) (by decide) ⟨Nat.le_of_ble_eq_true rfl, Nat.le_of_ble_eq_true rfl⟩ (fun Γ5 q5 fq5 hs5 hB5 tq5 => ?_)
  have hx5 := zxt_tr hx4 hs5
  replace hO := zOk_x hs5 hO
  replace ta0 := zxt_ty hs5 ta0 (by decide)
  replace tq1 := zxt_ty hs5 tq1 (by decide)
  replace tq2 := zxt_ty hs5 tq2 (by decide)
  replace tq3 := zxt_ty hs5 tq3 (by decide)
  replace tq4 := zxt_ty hs5 tq4 (by decide)
  refine v_putr (pc := 37) (k := 5) C hin dX2_init_37 fl_X2_24 rfl (by decide) (by decide) ?_
  replace hO := zOk_s (k := 5) hO (by decide) (by decide) tq5
  refine v_aload_n (pc := 40) C dX2_init_40 rfl ?_
  refine v_aload_n (pc := 41) C dX2_init_41 rfl ?_
  refine v_putr (pc := 42) (k := 0) C hin dX2_init_42 fl_X2_27 rfl (by decide) (by decide) ?_
  replace hO := zOk_s (k := 0) hO (by decide) (by decide) ta0
  refine v_adopt0 (Γ0 := Γ) hB5 (by decide) (by decide) (by decide +kernel) (by decide +kernel) hO (by decide +kernel) (fun Γe Ge hse hBe the eΓ eG => ?_)
  have prE : zpr [2044, 2055, 901, 912, 913] Γ G Ge := by rw [eG]; exact zpr_ag zpr_rf (by decide)
  have hx6 := zxt_tr hx5 hse
  replace ta0 := zxt_ty hse ta0 (by decide)
  replace tq1 := zxt_ty hse tq1 (by decide)
  replace tq2 := zxt_ty hse tq2 (by decide)
  replace tq3 := zxt_ty hse tq3 (by decide)
  replace tq4 := zxt_ty hse tq4 (by decide)
  replace tq5 := zxt_ty hse tq5 (by decide)
  have th0 := the
  refine v_widen (k := 5) (n := 39) (Nat.le_of_ble_eq_true rfl) (Nat.le_of_ble_eq_true rfl) ?_
  have hpost := (⟨prE, trivial⟩ : zpr [2044, 2055, 901, 912, 913] Γ G _ ∧ True)
  exact v_ret (Γ0 := Γ) (zCv_x C hx6) hr hlk dX2_init_45 hx6 hBe th0 hpost

set_option maxHeartbeats 4000000 in
set_option maxRecDepth 100000 in
theorem c_X5_initF {l : Launch} {b : Nat} {Γ : zΓ} {G : zH} {X : va_W} {h0 : Nat} (hX : zXs Γ) : zMi l yX5_init cX5_init 1 2 15 289 b Γ G X 6 h0 [] (fun _ => True) (fun _ G' => zpr [2044, 2055, 901, 912, 913] Γ G G' ∧ True) := by
  refine zMi_of RX5 hX (by decide) rfl rfl (Nat.le_of_ble_eq_true rfl) ?_
  intro p e s m args below meth c C hr hlk hin hB hav hT
  show V p l e (zrC 2 15 289) s m args below meth c b Γ.2.2.2.1 1 0 0 (MQ below (zQi b Γ X 6 h0 (fun _ G' => zpr [2044, 2055, 901, 912, 913] Γ G G' ∧ True)) args s 15 289 (zAb b)) 0 [some (zr 6 h0)] [] ((h0, zOb 6 (fun _ => false) (fun _ => 0) (fun _ => 0)) :: (X ++ zWd Γ G))
  have hx0 : zxt Γ Γ := zxt_rf
  have hO : zOk Γ 6 (fun _ => false) (fun _ => 0) := zOk_0
  refine v_aload_n (pc := 0) C dX5_init_0 rfl ?_
  refine v_obj (pc := 1) C dX5_init_1 ol_X5 oi_ oc_ ⟨Nat.le_of_ble_eq_true rfl, Nat.le_of_ble_eq_true rfl⟩ (Nat.le_of_ble_eq_true rfl) ?_
  refine v_aload_n (pc := 4) C dX5_init_4 rfl ?_
  refine v_new (pc := 5) C dX5_init_5 (by decide) cl_X5_9 in_2 iz_2 ⟨Nat.le_of_ble_eq_true rfl, Nat.le_of_ble_eq_true rfl⟩ (fun n5 => ?_)
  refine v_dup (pc := 8) C dX5_init_8 ?_
  refine v_init00 (pc := 9)  C hx0 dX5_init_9 (wi_X1 11) li_X5_11 rfl (c_X1_initF (zxt_Xs hx0 hX)) hB (fun x hx => by cases hx) zSty_t trivial ⟨Nat.le_of_ble_eq_true rfl, Nat.le_of_ble_eq_true rfl⟩ ⟨Nat.le_of_ble_eq_true rfl, Nat.le_of_ble_eq_true rfl⟩ (Nat.le_of_ble_eq_true rfl) (fun Γ1 G1 hs1 hB1 tn5 hp1 => ?_)
  have pr1 : zpr [2044, 2055, 901, 912, 913] Γ G G1 := zpr_tr zpr_rf hx0 hp1.1 (by decide)
  have hx1 := zxt_tr hx0 hs1
  replace hO := zOk_x hs1 hO
  refine v_putr (pc := 12) (k := 0) C hin dX5_init_12 fl_X5_12 rfl (by decide) (by decide) ?_
  replace hO := zOk_s (k := 0) hO (by decide) (by decide) tn5
  refine v_aload_n (pc := 15) C dX5_init_15 rfl ?_
  refine v_bipush (pc := 16) C dX5_init_16 (by decide) ?_
  refine v_newi0 (pc := 18) C hx1 hB1 36 dX5_init_18 ac_int a_36 rfl (by decide) (by decide) ⟨Nat.le_of_ble_eq_true rfl, Nat.le_of_ble_eq_true rfl⟩ (fun Γ2 q2 fq2 hs2 hB2 tq2 => ?_)
  have hx2 := zxt_tr hx1 hs2
  replace hO := zOk_x hs2 hO
  replace tn5 := zxt_ty hs2 tn5 (by decide)
  refine v_putr (pc := 20) (k := 1) C hin dX5_init_20 fl_X5_18 rfl (by decide) (by decide) ?_
  replace hO := zOk_s (k := 1) hO (by decide) (by decide) tq2
  refine v_aload_n (pc := 23) C dX5_init_23 rfl ?_
  refine v_iconst (pc := 24) C dX5_init_24 ?_
  refine v_newi0 (pc := 25) C hx2 hB2 37 dX5_init_25 ac_int a_37 rfl (by decide) (by decide) ⟨Nat.le_of_ble_eq_true rfl, Nat.le_of_ble_eq_true rfl⟩ (fun Γ3 q3 fq3 hs3 hB3 tq3 => ?_)
  have hx3 := zxt_tr hx2 hs3
  replace hO := zOk_x hs3 hO
  replace tn5 := zxt_ty hs3 tn5 (by decide)
  replace tq2 := zxt_ty hs3 tq2 (by decide)
  refine v_putr (pc := 27) (k := 2) C hin dX5_init_27 fl_X5_22 rfl (by decide) (by decide) ?_
  replace hO := zOk_s (k := 2) hO (by decide) (by decide) tq3
  refine v_aload_n (pc := 30) C dX5_init_30 rfl ?_
  refine v_iconst (pc := 31) C dX5_init_31 ?_
  refine v_newi0 (pc := 32) C hx3 hB3 38 dX5_init_32 ac_int a_38 rfl (by decide) (by decide) ⟨Nat.le_of_ble_eq_true rfl, Nat.le_of_ble_eq_true rfl⟩ (fun Γ4 q4 fq4 hs4 hB4 tq4 => ?_)
  have hx4 := zxt_tr hx3 hs4
  replace hO := zOk_x hs4 hO
  replace tn5 := zxt_ty hs4 tn5 (by decide)
  replace tq2 := zxt_ty hs4 tq2 (by decide)
  replace tq3 := zxt_ty hs4 tq3 (by decide)
  refine v_putr (pc := 34) (k := 3) C hin dX5_init_34 fl_X5_25 rfl (by decide) (by decide) ?_
  replace hO := zOk_s (k := 3) hO (by decide) (by decide) tq4
  refine v_aload_n (pc := 37) C dX5_init_37 rfl ?_
  refine v_iconst (pc := 38) C dX5_init_38 ?_
  refine v_newi0 (pc := 39) C hx4 hB4 39 dX5_init_39 ac_int a_39 rfl (by decide) (by decide) ⟨Nat.le_of_ble_eq_true rfl, Nat.le_of_ble_eq_true rfl⟩ (fun Γ5 q5 fq5 hs5 hB5 tq5 => ?_)
  have hx5 := zxt_tr hx4 hs5
  replace hO := zOk_x hs5 hO
  replace tn5 := zxt_ty hs5 tn5 (by decide)
  replace tq2 := zxt_ty hs5 tq2 (by decide)
  replace tq3 := zxt_ty hs5 tq3 (by decide)
  replace tq4 := zxt_ty hs5 tq4 (by decide)
  refine v_putr (pc := 41) (k := 4) C hin dX5_init_41 fl_X5_28 rfl (by decide) (by decide) ?_
  replace hO := zOk_s (k := 4) hO (by decide) (by decide) tq5
  refine v_aload_n (pc := 44) C dX5_init_44 rfl ?_
  refine v_bipush (pc := 45) C dX5_init_45 (by decide) ?_
  refine v_newi0 (pc := 47) C hx5 hB5 40 dX5_init_47 ac_int a_40 rfl (by decide) (by decide) ⟨Nat.le_of_ble_eq_true rfl, Nat.le_of_ble_eq_true rfl⟩ (fun Γ6 q6 fq6 hs6 hB6 tq6 => ?_)
  have hx6 := zxt_tr hx5 hs6
  replace hO := zOk_x hs6 hO
  replace tn5 := zxt_ty hs6 tn5 (by decide)
  replace tq2 := zxt_ty hs6 tq2 (by decide)
  replace tq3 := zxt_ty hs6 tq3 (by decide)
  replace tq4 := zxt_ty hs6 tq4 (by decide)
  replace tq5 := zxt_ty hs6 tq5 (by decide)
  refine v_putr (pc := 49) (k := 5) C hin dX5_init_49 fl_X5_31 rfl (by decide) (by decide) ?_
  replace hO := zOk_s (k := 5) hO (by decide) (by decide) tq6
  refine v_aload_n (pc := 52) C dX5_init_52 rfl ?_
  refine v_iconst (pc := 53) C dX5_init_53 ?_
  refine v_newi0 (pc := 54) C hx6 hB6 41 dX5_init_54 ac_int a_41 rfl (by decide) (by decide) ⟨Nat.le_of_ble_eq_true rfl, Nat.le_of_ble_eq_true rfl⟩ (fun Γ7 q7 fq7 hs7 hB7 tq7 => ?_)
  have hx7 := zxt_tr hx6 hs7
  replace hO := zOk_x hs7 hO
  replace tn5 := zxt_ty hs7 tn5 (by decide)
  replace tq2 := zxt_ty hs7 tq2 (by decide)
  replace tq3 := zxt_ty hs7 tq3 (by decide)
  replace tq4 := zxt_ty hs7 tq4 (by decide)
  replace tq5 := zxt_ty hs7 tq5 (by decide)
  replace tq6 := zxt_ty hs7 tq6 (by decide)
  refine v_putr (pc := 56) (k := 6) C hin dX5_init_56 fl_X5_34 rfl (by decide) (by decide) ?_
  replace hO := zOk_s (k := 6) hO (by decide) (by decide) tq7
  refine v_aload_n (pc := 59) C dX5_init_59 rfl ?_
  refine v_iconst (pc := 60) C dX5_init_60 ?_
  refine v_newi0 (pc := 61) C hx7 hB7 42 dX5_init_61 ac_int a_42 rfl (by decide) (by decide) ⟨Nat.le_of_ble_eq_true rfl, Nat.le_of_ble_eq_true rfl⟩ (fun Γ8 q8 fq8 hs8 hB8 tq8 => ?_)
  have hx8 := zxt_tr hx7 hs8
  replace hO := zOk_x hs8 hO
  replace tn5 := zxt_ty hs8 tn5 (by decide)
  replace tq2 := zxt_ty hs8 tq2 (by decide)
  replace tq3 := zxt_ty hs8 tq3 (by decide)
  replace tq4 := zxt_ty hs8 tq4 (by decide)
  replace tq5 := zxt_ty hs8 tq5 (by decide)
  replace tq6 := zxt_ty hs8 tq6 (by decide)
  replace tq7 := zxt_ty hs8 tq7 (by decide)
  refine v_putr (pc := 63) (k := 7) C hin dX5_init_63 fl_X5_37 rfl (by decide) (by decide) ?_
  replace hO := zOk_s (k := 7) hO (by decide) (by decide) tq8
  refine v_aload_n (pc := 66) C dX5_init_66 rfl ?_
  refine v_iconst (pc := 67) C dX5_init_67 ?_
  refine v_newi0 (pc := 68) C hx8 hB8 43 dX5_init_68 ac_int a_43 rfl (by decide) (by decide) ⟨Nat.le_of_ble_eq_true rfl, Nat.le_of_ble_eq_true rfl⟩ (fun Γ9 q9 fq9 hs9 hB9 tq9 => ?_)
  have hx9 := zxt_tr hx8 hs9
  replace hO := zOk_x hs9 hO
  replace tn5 := zxt_ty hs9 tn5 (by decide)
  replace tq2 := zxt_ty hs9 tq2 (by decide)
  replace tq3 := zxt_ty hs9 tq3 (by decide)
  replace tq4 := zxt_ty hs9 tq4 (by decide)
  replace tq5 := zxt_ty hs9 tq5 (by decide)
  replace tq6 := zxt_ty hs9 tq6 (by decide)
  replace tq7 := zxt_ty hs9 tq7 (by decide)
  replace tq8 := zxt_ty hs9 tq8 (by decide)
  refine v_putr (pc := 70) (k := 8) C hin dX5_init_70 fl_X5_40 rfl (by decide) (by decide) ?_
  replace hO := zOk_s (k := 8) hO (by decide) (by decide) tq9
  refine v_aload_n (pc := 73) C dX5_init_73 rfl ?_
  refine v_bipush (pc := 74) C dX5_init_74 (by decide) ?_
  refine v_puti (pc := 76) (k := 9) C dX5_init_76 fl_X5_43 f_6_9 ?_
  refine v_aload_n (pc := 79) C dX5_init_79 rfl ?_
  refine v_iconst (pc := 80) C dX5_init_80 ?_
  refine v_puti (pc := 81) (k := 10) C dX5_init_81 fl_X5_47 f_6_10 ?_
  refine v_adopt0 (Γ0 := Γ) hB9 (by decide) (by decide) (by decide +kernel) (by decide +kernel) hO (by decide +kernel) (fun Γe Ge hse hBe the eΓ eG => ?_)
  have prE : zpr [2044, 2055, 901, 912, 913] Γ G Ge := by rw [eG]; exact zpr_ag pr1 (by decide)
  have hx10 := zxt_tr hx9 hse
  replace tn5 := zxt_ty hse tn5 (by decide)
  replace tq2 := zxt_ty hse tq2 (by decide)
  replace tq3 := zxt_ty hse tq3 (by decide)
  replace tq4 := zxt_ty hse tq4 (by decide)
  replace tq5 := zxt_ty hse tq5 (by decide)
  replace tq6 := zxt_ty hse tq6 (by decide)
  replace tq7 := zxt_ty hse tq7 (by decide)
  replace tq8 := zxt_ty hse tq8 (by decide)
  replace tq9 := zxt_ty hse tq9 (by decide)
  have th0 := the
  refine v_widen (k := 15) (n := 289) (Nat.le_of_ble_eq_true rfl) (Nat.le_of_ble_eq_true rfl) ?_
  have hpost := (⟨prE, trivial⟩ : zpr [2044, 2055, 901, 912, 913] Γ G _ ∧ True)
  exact v_ret (Γ0 := Γ) (zCv_x C hx10) hr hlk dX5_init_84 hx10 hBe th0 hpost

set_option maxHeartbeats 4000000 in
set_option maxRecDepth 100000 in
theorem c_X6_initF {l : Launch} {b : Nat} {Γ : zΓ} {G : zH} {X : va_W} {h0 : Nat} (hX : zXs Γ) : zMi l yX6_init cX6_init 1 5 4 2127 b Γ G X 7 h0 [] (zTxF b Γ.2.2.2.2.2) (fun Γ' G' => zpr [2055, 901, 912, 913] Γ G G' ∧ ∀ q : Nat, q < 24 → G'.1 2044 (Γ'.2.1 h0 0) q = wl.getD q 0) := by
  refine zMi_of RX6 hX (by decide) rfl rfl (Nat.le_of_ble_eq_true rfl) ?_
  intro p e s m args below meth c C hr hlk hin hB hav hT
  show V p l e (zrC 5 4 2127) s m args below meth c b Γ.2.2.2.1 1 0 0 (MQ below (zQi b Γ X 7 h0 (fun Γ' G' => zpr [2055, 901, 912, 913] Γ G G' ∧ ∀ q : Nat, q < 24 → G'.1 2044 (Γ'.2.1 h0 0) q = wl.getD q 0)) args s 4 2127 (zAb b)) 0 [some (zr 7 h0)] [] ((h0, zOb 7 (fun _ => false) (fun _ => 0) (fun _ => 0)) :: (X ++ zWd Γ G))
  have hx0 : zxt Γ Γ := zxt_rf
  have hO : zOk Γ 7 (fun _ => false) (fun _ => 0) := zOk_0
  refine v_aload_n (pc := 0) C dX6_init_0 rfl ?_
  refine v_obj (pc := 1) C dX6_init_1 ol_X6 oi_ oc_ ⟨Nat.le_of_ble_eq_true rfl, Nat.le_of_ble_eq_true rfl⟩ (Nat.le_of_ble_eq_true rfl) ?_
  refine v_aload_n (pc := 4) C dX6_init_4 rfl ?_
  refine v_bipush (pc := 5) C dX6_init_5 (by decide) ?_
  refine v_newi0 (pc := 7) C hx0 hB 44 dX6_init_7 ac_int a_44 rfl (by decide) (by decide) ⟨Nat.le_of_ble_eq_true rfl, Nat.le_of_ble_eq_true rfl⟩ (fun Γ1 q1 fq1 hs1 hB1 tq1 => ?_)
  have fz0 := zxt_0 hx0 fq1
  have ez0 : q1 = q1 := rfl
  have hx1 := zxt_tr hx0 hs1
  replace hO := zOk_x hs1 hO
  refine v_putr (pc := 9) (k := 0) C hin dX6_init_9 fl_X6_11 rfl (by decide) (by decide) ?_
  replace hO := zOk_s (k := 0) hO (by decide) (by decide) tq1
  refine v_aload_n (pc := 12) C dX6_init_12 rfl ?_
  refine v_sipush (pc := 13) C dX6_init_13 (by decide) ?_
  refine v_newi0 (pc := 16) C hx1 hB1 45 dX6_init_16 ac_int a_45 rfl (by decide) (by decide) ⟨Nat.le_of_ble_eq_true rfl, Nat.le_of_ble_eq_true rfl⟩ (fun Γ2 q2 fq2 hs2 hB2 tq2 => ?_)
  have hx2 := zxt_tr hx1 hs2
  replace hO := zOk_x hs2 hO
  replace tq1 := zxt_ty hs2 tq1 (by decide)
  refine v_putr (pc := 18) (k := 1) C hin dX6_init_18 fl_X6_15 rfl (by decide) (by decide) ?_
  replace hO := zOk_s (k := 1) hO (by decide) (by decide) tq2
  refine v_aload_n (pc := 21) C dX6_init_21 rfl ?_
  refine v_sipush (pc := 22) C dX6_init_22 (by decide) ?_
  refine v_newi0 (pc := 25) C hx2 hB2 46 dX6_init_25 ac_int a_46 rfl (by decide) (by decide) ⟨Nat.le_of_ble_eq_true rfl, Nat.le_of_ble_eq_true rfl⟩ (fun Γ3 q3 fq3 hs3 hB3 tq3 => ?_)
  have hx3 := zxt_tr hx2 hs3
  replace hO := zOk_x hs3 hO
  replace tq1 := zxt_ty hs3 tq1 (by decide)
  replace tq2 := zxt_ty hs3 tq2 (by decide)
  refine v_putr (pc := 27) (k := 2) C hin dX6_init_27 fl_X6_18 rfl (by decide) (by decide) ?_
  replace hO := zOk_s (k := 2) hO (by decide) (by decide) tq3
  refine v_aload_n (pc := 30) C dX6_init_30 rfl ?_
  refine v_sipush (pc := 31) C dX6_init_31 (by decide) ?_
  refine v_newi0 (pc := 34) C hx3 hB3 47 dX6_init_34 ac_int a_47 rfl (by decide) (by decide) ⟨Nat.le_of_ble_eq_true rfl, Nat.le_of_ble_eq_true rfl⟩ (fun Γ4 q4 fq4 hs4 hB4 tq4 => ?_)
  have hx4 := zxt_tr hx3 hs4
  replace hO := zOk_x hs4 hO
  replace tq1 := zxt_ty hs4 tq1 (by decide)
  replace tq2 := zxt_ty hs4 tq2 (by decide)
  replace tq3 := zxt_ty hs4 tq3 (by decide)
  refine v_putr (pc := 36) (k := 3) C hin dX6_init_36 fl_X6_21 rfl (by decide) (by decide) ?_
  replace hO := zOk_s (k := 3) hO (by decide) (by decide) tq4
  refine v_adopt0 (Γ0 := Γ) hB4 (by decide) (by decide) (by decide +kernel) (by decide +kernel) hO (by decide +kernel) (fun Γe Ge hse hBe the eΓ eG => ?_)
  have prE : zpr [2055, 901, 912, 913] Γ G Ge := by rw [eG]; exact zpr_ag zpr_rf (by decide)
  have hx5 := zxt_tr hx4 hse
  replace tq1 := zxt_ty hse tq1 (by decide)
  replace tq2 := zxt_ty hse tq2 (by decide)
  replace tq3 := zxt_ty hse tq3 (by decide)
  replace tq4 := zxt_ty hse tq4 (by decide)
  have th0 := the
  refine v_aload_n (pc := 39) C dX6_init_39 rfl ?_
  refine v_ldcS (pc := 40) (t := 203) C hT.1.1 dX6_init_40 ?_
  refine v_aload_n (pc := 42) C dX6_init_42 rfl ?_
  refine v_ldcS (pc := 43) (t := 204) C hT.1.2 dX6_init_43 ?_
  refine v_iconst (pc := 45) C dX6_init_45 ?_
  obtain ⟨v1, v2, hJ3, hJ4⟩ := hT.2
  have w0 : Ge.1 2044 (Γe.2.1 h0 0) = fun _ => 0 := by
    funext i
    rw [eG, zag_r (Or.inr (by decide)), eΓ, zad_2, if_pos rfl]
    exact (hB.2.2 q1 fz0).1 2044 i
  have tw : Γe.1 (Γe.2.1 h0 0) ≠ 0 := by
    rw [show Γe.2.1 h0 0 = q1 from (by rw [eΓ, zad_2, if_pos rfl]; rfl), tq1]
    decide
  refine v_learnF (pc := 46) C hx5 dX6_init_46 v_X6_28 (c_X6_learnF (zxt_Xs hx5 hX) (by decide) (by decide) sB2_f) hBe th0 (by first | (rw [hx5.2.2.1]; done) | (rw [hx5.2.2.1]; rfl)) hJ4 (by decide) ⟨Nat.le_of_ble_eq_true rfl, Nat.le_of_ble_eq_true rfl⟩ ⟨Nat.le_of_ble_eq_true rfl, Nat.le_of_ble_eq_true rfl⟩ (Nat.le_of_ble_eq_true rfl) (by decide) (fun x46 Gl46 hl46 bx46 hBl46 => ?_)
  obtain ⟨hz46, lx46, el46⟩ := hl46
  rw [w0] at el46
  have e46 : x46 = 14 := (congrArg Prod.snd el46).trans lrn_2
  have f46 : (zno Γe Gl46).1 2044 (Γe.2.1 h0 0) = (lrn gB2 72 72 0 0 0 (fun _ => 0)).1 := by
    funext i
    rw [zno_1 tw]
    exact congrFun (congrArg Prod.fst el46) i
  have prL := zpr_no (rs := [2055, 901, 912, 913]) prE hx5 hz46 (by decide)
  refine v_learnF (pc := 49) C hx5 dX6_init_49 v_X6_28 (c_X6_learnF (zxt_Xs hx5 hX) lx46 (by decide) sB1_f) hBl46 th0 (by first | (rw [hx5.2.2.1]; done) | (rw [hx5.2.2.1]; rfl)) hJ3 (by decide) ⟨Nat.le_of_ble_eq_true rfl, Nat.le_of_ble_eq_true rfl⟩ ⟨Nat.le_of_ble_eq_true rfl, Nat.le_of_ble_eq_true rfl⟩ (Nat.le_of_ble_eq_true rfl) bx46 (fun x49 Gl49 hl49 bx49 hBl49 => ?_)
  obtain ⟨hz49, lx49, el49⟩ := hl49
  rw [f46, e46] at el49
  have prM := zpr_no (rs := [2055, 901, 912, 913]) prL hx5 hz49 (by decide)
  have f49 : ∀ q : Nat, q < 24 → (zno Γe Gl49).1 2044 (Γe.2.1 h0 0) q = wl.getD q 0 := fun q hq => by
    rw [zno_1 tw]
    exact (congrFun (congrArg Prod.fst el49) q).trans (lrn_1 q hq)
  refine v_popi (pc := 52) C dX6_init_52 ?_
  refine v_widen (k := 4) (n := 2127) (Nat.le_of_ble_eq_true rfl) (Nat.le_of_ble_eq_true rfl) ?_
  have hpost := (⟨prM, f49⟩ : zpr [2055, 901, 912, 913] Γ G _ ∧ ∀ q : Nat, q < 24 → (zno Γe Gl49).1 2044 (Γe.2.1 h0 0) q = wl.getD q 0)
  exact v_ret (Γ0 := Γ) (zCv_x C hx5) hr hlk dX6_init_53 hx5 hBl49 th0 hpost

set_option maxHeartbeats 4000000 in
set_option maxRecDepth 100000 in
theorem c_X3_initF {l : Launch} {b : Nat} {Γ : zΓ} {G : zH} {X : va_W} {h0 : Nat} (hX : zXs Γ) : zMi l yX3_init cX3_init 1 6 22 2508 b Γ G X 4 h0 [] (zTxF b Γ.2.2.2.2.2) (fun Γ' G' => zpr [2055, 901, 912, 913] Γ G G' ∧ ∀ q : Nat, q < 24 → G'.1 2044 (Γ'.2.1 (Γ'.2.1 h0 0) 0) q = wl.getD q 0) := by
  refine zMi_of RX3 hX (by decide) rfl rfl (Nat.le_of_ble_eq_true rfl) ?_
  intro p e s m args below meth c C hr hlk hin hB hav hT
  show V p l e (zrC 6 22 2508) s m args below meth c b Γ.2.2.2.1 1 0 0 (MQ below (zQi b Γ X 4 h0 (fun Γ' G' => zpr [2055, 901, 912, 913] Γ G G' ∧ ∀ q : Nat, q < 24 → G'.1 2044 (Γ'.2.1 (Γ'.2.1 h0 0) 0) q = wl.getD q 0)) args s 22 2508 (zAb b)) 0 [some (zr 4 h0)] [] ((h0, zOb 4 (fun _ => false) (fun _ => 0) (fun _ => 0)) :: (X ++ zWd Γ G))
  have hx0 : zxt Γ Γ := zxt_rf
  have hO : zOk Γ 4 (fun _ => false) (fun _ => 0) := zOk_0
  refine v_aload_n (pc := 0) C dX3_init_0 rfl ?_
  refine v_obj (pc := 1) C dX3_init_1 ol_X3 oi_ oc_ ⟨Nat.le_of_ble_eq_true rfl, Nat.le_of_ble_eq_true rfl⟩ (Nat.le_of_ble_eq_true rfl) ?_
  refine v_aload_n (pc := 4) C dX3_init_4 rfl ?_
  refine v_new (pc := 5) C dX3_init_5 (by decide) cl_X3_9 in_7 iz_7 ⟨Nat.le_of_ble_eq_true rfl, Nat.le_of_ble_eq_true rfl⟩ (fun n5 => ?_)
  refine v_dup (pc := 8) C dX3_init_8 ?_
  refine v_init00 (pc := 9)  C hx0 dX3_init_9 (wi_X6 11) li_X3_11 rfl (c_X6_initF (zxt_Xs hx0 hX)) hB (fun x hx => by cases hx) (zTxF_sty) (by rw [hx0.2.2.1]; exact hT) ⟨Nat.le_of_ble_eq_true rfl, Nat.le_of_ble_eq_true rfl⟩ ⟨Nat.le_of_ble_eq_true rfl, Nat.le_of_ble_eq_true rfl⟩ (Nat.le_of_ble_eq_true rfl) (fun Γ1 G1 hs1 hB1 tn5 hp1 => ?_)
  have pr1 : zpr [2055, 901, 912, 913] Γ G G1 := zpr_tr zpr_rf hx0 hp1.1 (by decide)
  have tk6 := tn5
  have hBk6 := hB1
  have hx1 := zxt_tr hx0 hs1
  replace hO := zOk_x hs1 hO
  refine v_putr (pc := 12) (k := 0) C hin dX3_init_12 fl_X3_12 rfl (by decide) (by decide) ?_
  replace hO := zOk_s (k := 0) hO (by decide) (by decide) tn5
  refine v_aload_n (pc := 15) C dX3_init_15 rfl ?_
  refine v_new (pc := 16) C dX3_init_16 (by decide) cl_X3_18 in_6 iz_6 ⟨Nat.le_of_ble_eq_true rfl, Nat.le_of_ble_eq_true rfl⟩ (fun n16 => ?_)
  refine v_dup (pc := 19) C dX3_init_19 ?_
  refine v_init00 (pc := 20)  C hx1 dX3_init_20 (wi_X5 20) li_X3_20 rfl (c_X5_initF (zxt_Xs hx1 hX)) hB1 (fun x hx => by cases hx) zSty_t trivial ⟨Nat.le_of_ble_eq_true rfl, Nat.le_of_ble_eq_true rfl⟩ ⟨Nat.le_of_ble_eq_true rfl, Nat.le_of_ble_eq_true rfl⟩ (Nat.le_of_ble_eq_true rfl) (fun Γ2 G2 hs2 hB2 tn16 hp2 => ?_)
  have pr2 : zpr [2055, 901, 912, 913] Γ G G2 := zpr_tr pr1 hx1 hp2.1 (by decide)
  have pc6_2 : zpr [2044] Γ1 G1 G2 := zpr_tr zpr_rf zxt_rf hp2.1 (by decide)
  have hx2 := zxt_tr hx1 hs2
  have hypc6_hx2 := zxt_tr zxt_rf hs2
  replace hO := zOk_x hs2 hO
  replace tn5 := zxt_ty hs2 tn5 (by decide)
  refine v_putr (pc := 23) (k := 1) C hin dX3_init_23 fl_X3_21 rfl (by decide) (by decide) ?_
  replace hO := zOk_s (k := 1) hO (by decide) (by decide) tn16
  refine v_aload_n (pc := 26) C dX3_init_26 rfl ?_
  refine v_bipush (pc := 27) C dX3_init_27 (by decide) ?_
  refine v_newi0 (pc := 29) C hx2 hB2 25 dX3_init_29 ac_int a_25 rfl (by decide) (by decide) ⟨Nat.le_of_ble_eq_true rfl, Nat.le_of_ble_eq_true rfl⟩ (fun Γ3 q3 fq3 hs3 hB3 tq3 => ?_)
  have hx3 := zxt_tr hx2 hs3
  have hypc6_hx3 := zxt_tr hypc6_hx2 hs3
  replace hO := zOk_x hs3 hO
  replace tn5 := zxt_ty hs3 tn5 (by decide)
  replace tn16 := zxt_ty hs3 tn16 (by decide)
  refine v_putr (pc := 31) (k := 9) C hin dX3_init_31 fl_X3_27 rfl (by decide) (by decide) ?_
  replace hO := zOk_s (k := 9) hO (by decide) (by decide) tq3
  refine v_adopt0 (Γ0 := Γ) hB3 (by decide) (by decide) (by decide +kernel) (by decide +kernel) hO (by decide +kernel) (fun Γe Ge hse hBe the eΓ eG => ?_)
  have prE : zpr [2055, 901, 912, 913] Γ G Ge := by rw [eG]; exact zpr_ag pr2 (by decide)
  have pc6_E : zpr [2044] Γ1 G1 Ge := by rw [eG]; exact zpr_ag pc6_2 (by decide)
  have hx4 := zxt_tr hx3 hse
  have hypc6_hx4 := zxt_tr hypc6_hx3 hse
  replace tn5 := zxt_ty hse tn5 (by decide)
  replace tn16 := zxt_ty hse tn16 (by decide)
  replace tq3 := zxt_ty hse tq3 (by decide)
  have th0 := the
  refine v_widen (k := 22) (n := 2508) (Nat.le_of_ble_eq_true rfl) (Nat.le_of_ble_eq_true rfl) ?_
  have ea : Γe.2.1 h0 0 = n5 := by rw [eΓ, zad_2, if_pos rfl]; rfl
  have eb : Γe.2.1 n5 = Γ1.2.1 n5 := zxt_fr hypc6_hx4 (by rw [tk6]; decide)
  have hpost : zpr [2055, 901, 912, 913] Γ G Ge ∧ ∀ q : Nat, q < 24 → Ge.1 2044 (Γe.2.1 (Γe.2.1 h0 0) 0) q = wl.getD q 0 := ⟨prE, fun q hq => by
    rw [ea, eb, pc6_E 2044 (by decide) _ (by rw [(hBk6.1.2.2 7 0 n5 tk6 (by decide))]; decide) q]
    exact hp1.2 q hq⟩
  exact v_ret (Γ0 := Γ) (zCv_x C hx4) hr hlk dX3_init_34 hx4 hBe th0 hpost

set_option maxHeartbeats 4000000 in
set_option maxRecDepth 100000 in
theorem c_X7_initF {l : Launch} {b : Nat} {Γ : zΓ} {G : zH} {X : va_W} {h0 a0 : Nat} (hX : zXs Γ) : zMi l yX7_init cX7_init 2 2 18 971 b Γ G X 8 h0 [zr 6 a0] (fun _ => True) (fun _ G' => zpr [2044, 2055, 901, 912, 913] Γ G G' ∧ True) := by
  refine zMi_of RX7 hX (by decide) rfl rfl (Nat.le_of_ble_eq_true rfl) ?_
  intro p e s m args below meth c C hr hlk hin hB hav hT
  show V p l e (zrC 2 18 971) s m args below meth c b Γ.2.2.2.1 2 0 0 (MQ below (zQi b Γ X 8 h0 (fun _ G' => zpr [2044, 2055, 901, 912, 913] Γ G G' ∧ True)) args s 18 971 (zAb b)) 0 [some (zr 8 h0), some (zr 6 a0)] [] ((h0, zOb 8 (fun _ => false) (fun _ => 0) (fun _ => 0)) :: (X ++ zWd Γ G))
  have hx0 : zxt Γ Γ := zxt_rf
  have hO : zOk Γ 8 (fun _ => false) (fun _ => 0) := zOk_0
  have ta0 : Γ.1 a0 = 6 := (zk_ty (hav _ List.mem_cons_self) (by decide)).1
  refine v_aload_n (pc := 0) C dX7_init_0 rfl ?_
  refine v_obj (pc := 1) C dX7_init_1 ol_X7 oi_ oc_ ⟨Nat.le_of_ble_eq_true rfl, Nat.le_of_ble_eq_true rfl⟩ (Nat.le_of_ble_eq_true rfl) ?_
  refine v_aload_n (pc := 4) C dX7_init_4 rfl ?_
  refine v_new (pc := 5) C dX7_init_5 (by decide) cl_X7_9 in_5 iz_5 ⟨Nat.le_of_ble_eq_true rfl, Nat.le_of_ble_eq_true rfl⟩ (fun n5 => ?_)
  refine v_dup (pc := 8) C dX7_init_8 ?_
  refine v_init00 (pc := 9)  C hx0 dX7_init_9 (wi_X4 11) li_X7_11 rfl (c_X4_initF (zxt_Xs hx0 hX)) hB (fun x hx => by cases hx) zSty_t trivial ⟨Nat.le_of_ble_eq_true rfl, Nat.le_of_ble_eq_true rfl⟩ ⟨Nat.le_of_ble_eq_true rfl, Nat.le_of_ble_eq_true rfl⟩ (Nat.le_of_ble_eq_true rfl) (fun Γ1 G1 hs1 hB1 tn5 hp1 => ?_)
  have pr1 : zpr [2044, 2055, 901, 912, 913] Γ G G1 := zpr_tr zpr_rf hx0 hp1.1 (by decide)
  have hx1 := zxt_tr hx0 hs1
  replace hO := zOk_x hs1 hO
  replace ta0 := zxt_ty hs1 ta0 (by decide)
  refine v_putr (pc := 12) (k := 1) C hin dX7_init_12 fl_X7_12 rfl (by decide) (by decide) ?_
  replace hO := zOk_s (k := 1) hO (by decide) (by decide) tn5
  refine v_aload_n (pc := 15) C dX7_init_15 rfl ?_
  refine v_bipush (pc := 16) C dX7_init_16 (by decide) ?_
  refine v_newi0 (pc := 18) C hx1 hB1 48 dX7_init_18 ac_int a_48 rfl (by decide) (by decide) ⟨Nat.le_of_ble_eq_true rfl, Nat.le_of_ble_eq_true rfl⟩ (fun Γ2 q2 fq2 hs2 hB2 tq2 => ?_)
  have hx2 := zxt_tr hx1 hs2
  replace hO := zOk_x hs2 hO
  replace ta0 := zxt_ty hs2 ta0 (by decide)
  replace tn5 := zxt_ty hs2 tn5 (by decide)
  refine v_putr (pc := 20) (k := 2) C hin dX7_init_20 fl_X7_18 rfl (by decide) (by decide) ?_
  replace hO := zOk_s (k := 2) hO (by decide) (by decide) tq2
  refine v_aload_n (pc := 23) C dX7_init_23 rfl ?_
  refine v_bipush (pc := 24) C dX7_init_24 (by decide) ?_
  refine v_newi0 (pc := 26) C hx2 hB2 49 dX7_init_26 ac_int a_49 rfl (by decide) (by decide) ⟨Nat.le_of_ble_eq_true rfl, Nat.le_of_ble_eq_true rfl⟩ (fun Γ3 q3 fq3 hs3 hB3 tq3 => ?_)
  have hx3 := zxt_tr hx2 hs3
  replace hO := zOk_x hs3 hO
  replace ta0 := zxt_ty hs3 ta0 (by decide)
  replace tn5 := zxt_ty hs3 tn5 (by decide)
  replace tq2 := zxt_ty hs3 tq2 (by decide)
  refine v_putr (pc := 28) (k := 3) C hin dX7_init_28 fl_X7_22 rfl (by decide) (by decide) ?_
  replace hO := zOk_s (k := 3) hO (by decide) (by decide) tq3
  refine v_aload_n (pc := 31) C dX7_init_31 rfl ?_
  refine v_iconst (pc := 32) C dX7_init_32 ?_
  refine v_newi0 (pc := 33) C hx3 hB3 50 dX7_init_33 ac_int a_50 rfl (by decide) (by decide) ⟨Nat.le_of_ble_eq_true rfl, Nat.le_of_ble_eq_true rfl⟩ (fun Γ4 q4 fq4 hs4 hB4 tq4 => ?_)
  have hx4 := zxt_tr hx3 hs4
  replace hO := zOk_x hs4 hO
  replace ta0 := zxt_ty hs4 ta0 (by decide)
  replace tn5 := zxt_ty hs4 tn5 (by decide)
  replace tq2 := zxt_ty hs4 tq2 (by decide)
  replace tq3 := zxt_ty hs4 tq3 (by decide)
  refine v_putr (pc := 35) (k := 4) C hin dX7_init_35 fl_X7_25 rfl (by decide) (by decide) ?_
  replace hO := zOk_s (k := 4) hO (by decide) (by decide) tq4
  refine v_aload_n (pc := 38) C dX7_init_38 rfl ?_
  refine v_iconst (pc := 39) C dX7_init_39 ?_
  refine v_newi0 (pc := 40) C hx4 hB4 51 dX7_init_40 ac_int a_51 rfl (by decide) (by decide) ⟨Nat.le_of_ble_eq_true rfl, Nat.le_of_ble_eq_true rfl⟩ (fun Γ5 q5 fq5 hs5 hB5 tq5 => ?_)
  have hx5 := zxt_tr hx4 hs5
  replace hO := zOk_x hs5 hO
  replace ta0 := zxt_ty hs5 ta0 (by decide)
  replace tn5 := zxt_ty hs5 tn5 (by decide)
  replace tq2 := zxt_ty hs5 tq2 (by decide)
  replace tq3 := zxt_ty hs5 tq3 (by decide)
  replace tq4 := zxt_ty hs5 tq4 (by decide)
  refine v_putr (pc := 42) (k := 5) C hin dX7_init_42 fl_X7_28 rfl (by decide) (by decide) ?_
  replace hO := zOk_s (k := 5) hO (by decide) (by decide) tq5
  refine v_aload_n (pc := 45) C dX7_init_45 rfl ?_
  refine v_iconst (pc := 46) C dX7_init_46 ?_
  refine v_newi0 (pc := 47) C hx5 hB5 52 dX7_init_47 ac_int a_52 rfl (by decide) (by decide) ⟨Nat.le_of_ble_eq_true rfl, Nat.le_of_ble_eq_true rfl⟩ (fun Γ6 q6 fq6 hs6 hB6 tq6 => ?_)
  have hx6 := zxt_tr hx5 hs6
  replace hO := zOk_x hs6 hO
  replace ta0 := zxt_ty hs6 ta0 (by decide)
  replace tn5 := zxt_ty hs6 tn5 (by decide)
  replace tq2 := zxt_ty hs6 tq2 (by decide)
  replace tq3 := zxt_ty hs6 tq3 (by decide)
  replace tq4 := zxt_ty hs6 tq4 (by decide)
  replace tq5 := zxt_ty hs6 tq5 (by decide)
  refine v_putr (pc := 49) (k := 6) C hin dX7_init_49 fl_X7_31 rfl (by decide) (by decide) ?_
  replace hO := zOk_s (k := 6) hO (by decide) (by decide) tq6
  refine v_aload_n (pc := 52) C dX7_init_52 rfl ?_
  refine v_iconst (pc := 53) C dX7_init_53 ?_
  refine v_newi0 (pc := 54) C hx6 hB6 53 dX7_init_54 ac_int a_53 rfl (by decide) (by decide) ⟨Nat.le_of_ble_eq_true rfl, Nat.le_of_ble_eq_true rfl⟩ (fun Γ7 q7 fq7 hs7 hB7 tq7 => ?_)
  have hx7 := zxt_tr hx6 hs7
  replace hO := zOk_x hs7 hO
  replace ta0 := zxt_ty hs7 ta0 (by decide)
  replace tn5 := zxt_ty hs7 tn5 (by decide)
  replace tq2 := zxt_ty hs7 tq2 (by decide)
  replace tq3 := zxt_ty hs7 tq3 (by decide)
  replace tq4 := zxt_ty hs7 tq4 (by decide)
  replace tq5 := zxt_ty hs7 tq5 (by decide)
  replace tq6 := zxt_ty hs7 tq6 (by decide)
  refine v_putr (pc := 56) (k := 7) C hin dX7_init_56 fl_X7_34 rfl (by decide) (by decide) ?_
  replace hO := zOk_s (k := 7) hO (by decide) (by decide) tq7
  refine v_aload_n (pc := 59) C dX7_init_59 rfl ?_
  refine v_sipush (pc := 60) C dX7_init_60 (by decide) ?_
  refine v_newi0 (pc := 63) C hx7 hB7 54 dX7_init_63 ac_int a_54 rfl (by decide) (by decide) ⟨Nat.le_of_ble_eq_true rfl, Nat.le_of_ble_eq_true rfl⟩ (fun Γ8 q8 fq8 hs8 hB8 tq8 => ?_)
  have hx8 := zxt_tr hx7 hs8
  replace hO := zOk_x hs8 hO
  replace ta0 := zxt_ty hs8 ta0 (by decide)
  replace tn5 := zxt_ty hs8 tn5 (by decide)
  replace tq2 := zxt_ty hs8 tq2 (by decide)
  replace tq3 := zxt_ty hs8 tq3 (by decide)
  replace tq4 := zxt_ty hs8 tq4 (by decide)
  replace tq5 := zxt_ty hs8 tq5 (by decide)
  replace tq6 := zxt_ty hs8 tq6 (by decide)
  replace tq7 := zxt_ty hs8 tq7 (by decide)
  refine v_putr (pc := 65) (k := 8) C hin dX7_init_65 fl_X7_37 rfl (by decide) (by decide) ?_
  replace hO := zOk_s (k := 8) hO (by decide) (by decide) tq8
  refine v_aload_n (pc := 68) C dX7_init_68 rfl ?_
  refine v_aload_n (pc := 69) C dX7_init_69 rfl ?_
  refine v_putr (pc := 70) (k := 0) C hin dX7_init_70 fl_X7_40 rfl (by decide) (by decide) ?_
  replace hO := zOk_s (k := 0) hO (by decide) (by decide) ta0
  refine v_adopt0 (Γ0 := Γ) hB8 (by decide) (by decide) (by decide +kernel) (by decide +kernel) hO (by decide +kernel) (fun Γe Ge hse hBe the eΓ eG => ?_)
  have prE : zpr [2044, 2055, 901, 912, 913] Γ G Ge := by rw [eG]; exact zpr_ag pr1 (by decide)
  have hx9 := zxt_tr hx8 hse
  replace ta0 := zxt_ty hse ta0 (by decide)
  replace tn5 := zxt_ty hse tn5 (by decide)
  replace tq2 := zxt_ty hse tq2 (by decide)
  replace tq3 := zxt_ty hse tq3 (by decide)
  replace tq4 := zxt_ty hse tq4 (by decide)
  replace tq5 := zxt_ty hse tq5 (by decide)
  replace tq6 := zxt_ty hse tq6 (by decide)
  replace tq7 := zxt_ty hse tq7 (by decide)
  replace tq8 := zxt_ty hse tq8 (by decide)
  have th0 := the
  refine v_aload_n (pc := 73) C dX7_init_73 rfl ?_
  refine v_aload_n (pc := 74) C dX7_init_74 rfl ?_
  refine v_call01 (pc := 75) (a := zr 6 a0) C hx9 dX7_init_75 v_X7_44 (by decide) (c_X7_begin (zxt_Xs hx9 hX)) hBe (zk_of th0 (by decide) (by decide)) (zk_of ta0 (by decide) (by decide)) ⟨Nat.le_of_ble_eq_true rfl, Nat.le_of_ble_eq_true rfl⟩ ⟨Nat.le_of_ble_eq_true rfl, Nat.le_of_ble_eq_true rfl⟩ (Nat.le_of_ble_eq_true rfl) (fun Gc hpc hBc => ?_)
  have prC := zpr_nn (rs := [2044, 2055, 901, 912, 913]) prE hx9 hpc.1 (by decide)
  refine v_widen (k := 18) (n := 971) (Nat.le_of_ble_eq_true rfl) (Nat.le_of_ble_eq_true rfl) ?_
  have hpost := (⟨prC, trivial⟩ : zpr [2044, 2055, 901, 912, 913] Γ G _ ∧ True)
  exact v_ret (Γ0 := Γ) (zCv_x C hx9) hr hlk dX7_init_78 hx9 hBc th0 hpost

set_option maxHeartbeats 4000000 in
set_option maxRecDepth 100000 in
theorem c_X8_initF {l : Launch} {b : Nat} {Γ : zΓ} {G : zH} {X : va_W} {h0 : Nat} (hX : zXs Γ) : zMi l yX8_init cX8_init 1 7 108 6587 b Γ G X 9 h0 [] (zTxF b Γ.2.2.2.2.2) (fun Γ' G' => G'.1 901 h0 0 = 0 ∧ G'.1 912 h0 0 = 0 ∧ G'.1 913 h0 0 = -1 ∧ (∀ i : Nat, G'.1 2055 (Γ'.2.1 h0 0) i = 0) ∧ ∀ q : Nat, q < 24 → G'.1 2044 (Γ'.2.1 (Γ'.2.1 (Γ'.2.1 h0 2) 0) 0) q = wl.getD q 0) := by
  refine zMi_of RX8 hX (by decide) rfl rfl (Nat.le_of_ble_eq_true rfl) ?_
  intro p e s m args below meth c C hr hlk hin hB hav hT
  show V p l e (zrC 7 108 6587) s m args below meth c b Γ.2.2.2.1 1 0 0 (MQ below (zQi b Γ X 9 h0 (fun Γ' G' => G'.1 901 h0 0 = 0 ∧ G'.1 912 h0 0 = 0 ∧ G'.1 913 h0 0 = -1 ∧ (∀ i : Nat, G'.1 2055 (Γ'.2.1 h0 0) i = 0) ∧ ∀ q : Nat, q < 24 → G'.1 2044 (Γ'.2.1 (Γ'.2.1 (Γ'.2.1 h0 2) 0) 0) q = wl.getD q 0)) args s 108 6587 (zAb b)) 0 [some (zr 9 h0)] [] ((h0, zOb 9 (fun _ => false) (fun _ => 0) (fun _ => 0)) :: (X ++ zWd Γ G))
  have hx0 : zxt Γ Γ := zxt_rf
  have hO : zOk Γ 9 (fun _ => false) (fun _ => 0) := zOk_0
  refine v_aload_n (pc := 0) C dX8_init_0 rfl ?_
  refine v_obj (pc := 1) C dX8_init_1 ol_X8 oi_ oc_ ⟨Nat.le_of_ble_eq_true rfl, Nat.le_of_ble_eq_true rfl⟩ (Nat.le_of_ble_eq_true rfl) ?_
  refine v_aload_n (pc := 4) C dX8_init_4 rfl ?_
  refine v_sipush (pc := 5) C dX8_init_5 (by decide) ?_
  refine v_newi0 (pc := 8) C hx0 hB 55 dX8_init_8 ac_int a_55 rfl (by decide) (by decide) ⟨Nat.le_of_ble_eq_true rfl, Nat.le_of_ble_eq_true rfl⟩ (fun Γ1 q1 fq1 hs1 hB1 tq1 => ?_)
  have fz0 := zxt_0 hx0 fq1
  have ez0 : q1 = q1 := rfl
  have hx1 := zxt_tr hx0 hs1
  have tka := tq1
  replace hO := zOk_x hs1 hO
  refine v_putr (pc := 10) (k := 0) C hin dX8_init_10 fl_X8_11 rfl (by decide) (by decide) ?_
  replace hO := zOk_s (k := 0) hO (by decide) (by decide) tq1
  refine v_aload_n (pc := 13) C dX8_init_13 rfl ?_
  refine v_new (pc := 14) C dX8_init_14 (by decide) cl_X8_15 in_4 iz_4 ⟨Nat.le_of_ble_eq_true rfl, Nat.le_of_ble_eq_true rfl⟩ (fun n14 => ?_)
  refine v_dup (pc := 17) C dX8_init_17 ?_
  refine v_init00 (pc := 18)  C hx1 dX8_init_18 (wi_X3 17) li_X8_17 rfl (c_X3_initF (zxt_Xs hx1 hX)) hB1 (fun x hx => by cases hx) (zTxF_sty) (by rw [hx1.2.2.1]; exact hT) ⟨Nat.le_of_ble_eq_true rfl, Nat.le_of_ble_eq_true rfl⟩ ⟨Nat.le_of_ble_eq_true rfl, Nat.le_of_ble_eq_true rfl⟩ (Nat.le_of_ble_eq_true rfl) (fun Γ2 G2 hs2 hB2 tn14 hp2 => ?_)
  have pr2 : zpr [2055] Γ G G2 := zpr_tr zpr_rf hx1 hp2.1 (by decide)
  have pa_2 : zpr [2055] Γ1 G G2 := zpr_tr zpr_rf zxt_rf hp2.1 (by decide)
  have tk3 := tn14
  have hBk3 := hB2
  have hx2 := zxt_tr hx1 hs2
  have hypa_hx2 := zxt_tr zxt_rf hs2
  replace hO := zOk_x hs2 hO
  replace tq1 := zxt_ty hs2 tq1 (by decide)
  refine v_putr (pc := 21) (k := 2) C hin dX8_init_21 fl_X8_18 rfl (by decide) (by decide) ?_
  replace hO := zOk_s (k := 2) hO (by decide) (by decide) tn14
  refine v_aload_n (pc := 24) C dX8_init_24 rfl ?_
  refine v_new (pc := 25) C dX8_init_25 (by decide) cl_X8_22 in_6 iz_6 ⟨Nat.le_of_ble_eq_true rfl, Nat.le_of_ble_eq_true rfl⟩ (fun n25 => ?_)
  refine v_dup (pc := 28) C dX8_init_28 ?_
  refine v_init00 (pc := 29)  C hx2 dX8_init_29 (wi_X5 24) li_X8_24 rfl (c_X5_initF (zxt_Xs hx2 hX)) hB2 (fun x hx => by cases hx) zSty_t trivial ⟨Nat.le_of_ble_eq_true rfl, Nat.le_of_ble_eq_true rfl⟩ ⟨Nat.le_of_ble_eq_true rfl, Nat.le_of_ble_eq_true rfl⟩ (Nat.le_of_ble_eq_true rfl) (fun Γ3 G3 hs3 hB3 tn25 hp3 => ?_)
  have pr3 : zpr [2055] Γ G G3 := zpr_tr pr2 hx2 hp3.1 (by decide)
  have pa_3 : zpr [2055] Γ1 G G3 := zpr_tr pa_2 hypa_hx2 hp3.1 (by decide)
  have pc3_3 : zpr [2044] Γ2 G2 G3 := zpr_tr zpr_rf zxt_rf hp3.1 (by decide)
  have hx3 := zxt_tr hx2 hs3
  have hypa_hx3 := zxt_tr hypa_hx2 hs3
  have hypc3_hx3 := zxt_tr zxt_rf hs3
  replace hO := zOk_x hs3 hO
  replace tq1 := zxt_ty hs3 tq1 (by decide)
  replace tn14 := zxt_ty hs3 tn14 (by decide)
  refine v_putr (pc := 32) (k := 3) C hin dX8_init_32 fl_X8_25 rfl (by decide) (by decide) ?_
  replace hO := zOk_s (k := 3) hO (by decide) (by decide) tn25
  refine v_aload_n (pc := 35) C dX8_init_35 rfl ?_
  refine v_new (pc := 36) C dX8_init_36 (by decide) cl_X8_29 in_8 iz_8 ⟨Nat.le_of_ble_eq_true rfl, Nat.le_of_ble_eq_true rfl⟩ (fun n36 => ?_)
  refine v_dup (pc := 39) C dX8_init_39 ?_
  refine v_aload_n (pc := 40) C dX8_init_40 rfl ?_
  refine v_getr (pc := 41) (k := 3) (t' := 6) (q := n25) C dX8_init_41 fl_X8_25 (by decide) 1 rfl rfl rfl ?_
  refine v_init01 (pc := 44) (a := zr 6 n25) C hx3 dX8_init_44 (wi_X7 31) li_X8_31 rfl (c_X7_initF (zxt_Xs hx3 hX)) hB3 (fun x hx => by rw [List.mem_singleton.mp hx]; exact zk_of tn25 (by decide) (by decide)) zSty_t trivial ⟨Nat.le_of_ble_eq_true rfl, Nat.le_of_ble_eq_true rfl⟩ ⟨Nat.le_of_ble_eq_true rfl, Nat.le_of_ble_eq_true rfl⟩ (Nat.le_of_ble_eq_true rfl) (fun Γ4 G4 hs4 hB4 tn36 hp4 => ?_)
  have pr4 : zpr [2055] Γ G G4 := zpr_tr pr3 hx3 hp4.1 (by decide)
  have pa_4 : zpr [2055] Γ1 G G4 := zpr_tr pa_3 hypa_hx3 hp4.1 (by decide)
  have pc3_4 : zpr [2044] Γ2 G2 G4 := zpr_tr pc3_3 hypc3_hx3 hp4.1 (by decide)
  have hx4 := zxt_tr hx3 hs4
  have hypa_hx4 := zxt_tr hypa_hx3 hs4
  have hypc3_hx4 := zxt_tr hypc3_hx3 hs4
  replace hO := zOk_x hs4 hO
  replace tq1 := zxt_ty hs4 tq1 (by decide)
  replace tn14 := zxt_ty hs4 tn14 (by decide)
  replace tn25 := zxt_ty hs4 tn25 (by decide)
  refine v_putr (pc := 47) (k := 4) C hin dX8_init_47 fl_X8_34 rfl (by decide) (by decide) ?_
  replace hO := zOk_s (k := 4) hO (by decide) (by decide) tn36
  refine v_aload_n (pc := 50) C dX8_init_50 rfl ?_
  refine v_new (pc := 51) C dX8_init_51 (by decide) cl_X8_29 in_8 iz_8 ⟨Nat.le_of_ble_eq_true rfl, Nat.le_of_ble_eq_true rfl⟩ (fun n51 => ?_)
  refine v_dup (pc := 54) C dX8_init_54 ?_
  refine v_aload_n (pc := 55) C dX8_init_55 rfl ?_
  refine v_getr (pc := 56) (k := 3) (t' := 6) (q := n25) C dX8_init_56 fl_X8_25 (by decide) 1 rfl rfl rfl ?_
  refine v_init01 (pc := 59) (a := zr 6 n25) C hx4 dX8_init_59 (wi_X7 31) li_X8_31 rfl (c_X7_initF (zxt_Xs hx4 hX)) hB4 (fun x hx => by rw [List.mem_singleton.mp hx]; exact zk_of tn25 (by decide) (by decide)) zSty_t trivial ⟨Nat.le_of_ble_eq_true rfl, Nat.le_of_ble_eq_true rfl⟩ ⟨Nat.le_of_ble_eq_true rfl, Nat.le_of_ble_eq_true rfl⟩ (Nat.le_of_ble_eq_true rfl) (fun Γ5 G5 hs5 hB5 tn51 hp5 => ?_)
  have pr5 : zpr [2055] Γ G G5 := zpr_tr pr4 hx4 hp5.1 (by decide)
  have pa_5 : zpr [2055] Γ1 G G5 := zpr_tr pa_4 hypa_hx4 hp5.1 (by decide)
  have pc3_5 : zpr [2044] Γ2 G2 G5 := zpr_tr pc3_4 hypc3_hx4 hp5.1 (by decide)
  have hx5 := zxt_tr hx4 hs5
  have hypa_hx5 := zxt_tr hypa_hx4 hs5
  have hypc3_hx5 := zxt_tr hypc3_hx4 hs5
  replace hO := zOk_x hs5 hO
  replace tq1 := zxt_ty hs5 tq1 (by decide)
  replace tn14 := zxt_ty hs5 tn14 (by decide)
  replace tn25 := zxt_ty hs5 tn25 (by decide)
  replace tn36 := zxt_ty hs5 tn36 (by decide)
  refine v_putr (pc := 62) (k := 5) C hin dX8_init_62 fl_X8_38 rfl (by decide) (by decide) ?_
  replace hO := zOk_s (k := 5) hO (by decide) (by decide) tn51
  refine v_aload_n (pc := 65) C dX8_init_65 rfl ?_
  refine v_new (pc := 66) C dX8_init_66 (by decide) cl_X8_29 in_8 iz_8 ⟨Nat.le_of_ble_eq_true rfl, Nat.le_of_ble_eq_true rfl⟩ (fun n66 => ?_)
  refine v_dup (pc := 69) C dX8_init_69 ?_
  refine v_aload_n (pc := 70) C dX8_init_70 rfl ?_
  refine v_getr (pc := 71) (k := 3) (t' := 6) (q := n25) C dX8_init_71 fl_X8_25 (by decide) 1 rfl rfl rfl ?_
  refine v_init01 (pc := 74) (a := zr 6 n25) C hx5 dX8_init_74 (wi_X7 31) li_X8_31 rfl (c_X7_initF (zxt_Xs hx5 hX)) hB5 (fun x hx => by rw [List.mem_singleton.mp hx]; exact zk_of tn25 (by decide) (by decide)) zSty_t trivial ⟨Nat.le_of_ble_eq_true rfl, Nat.le_of_ble_eq_true rfl⟩ ⟨Nat.le_of_ble_eq_true rfl, Nat.le_of_ble_eq_true rfl⟩ (Nat.le_of_ble_eq_true rfl) (fun Γ6 G6 hs6 hB6 tn66 hp6 => ?_)
  have pr6 : zpr [2055] Γ G G6 := zpr_tr pr5 hx5 hp6.1 (by decide)
  have pa_6 : zpr [2055] Γ1 G G6 := zpr_tr pa_5 hypa_hx5 hp6.1 (by decide)
  have pc3_6 : zpr [2044] Γ2 G2 G6 := zpr_tr pc3_5 hypc3_hx5 hp6.1 (by decide)
  have hx6 := zxt_tr hx5 hs6
  have hypa_hx6 := zxt_tr hypa_hx5 hs6
  have hypc3_hx6 := zxt_tr hypc3_hx5 hs6
  replace hO := zOk_x hs6 hO
  replace tq1 := zxt_ty hs6 tq1 (by decide)
  replace tn14 := zxt_ty hs6 tn14 (by decide)
  replace tn25 := zxt_ty hs6 tn25 (by decide)
  replace tn36 := zxt_ty hs6 tn36 (by decide)
  replace tn51 := zxt_ty hs6 tn51 (by decide)
  refine v_putr (pc := 77) (k := 6) C hin dX8_init_77 fl_X8_41 rfl (by decide) (by decide) ?_
  replace hO := zOk_s (k := 6) hO (by decide) (by decide) tn66
  refine v_aload_n (pc := 80) C dX8_init_80 rfl ?_
  refine v_new (pc := 81) C dX8_init_81 (by decide) cl_X8_44 in_3 iz_3 ⟨Nat.le_of_ble_eq_true rfl, Nat.le_of_ble_eq_true rfl⟩ (fun n81 => ?_)
  refine v_dup (pc := 84) C dX8_init_84 ?_
  refine v_aload_n (pc := 85) C dX8_init_85 rfl ?_
  refine v_getr (pc := 86) (k := 6) (t' := 8) (q := n66) C dX8_init_86 fl_X8_41 (by decide) 1 rfl rfl rfl ?_
  refine v_init01 (pc := 89) (a := zr 8 n66) C hx6 dX8_init_89 (wi_X2 46) li_X8_46 rfl (c_X2_initF (zxt_Xs hx6 hX)) hB6 (fun x hx => by rw [List.mem_singleton.mp hx]; exact zk_of tn66 (by decide) (by decide)) zSty_t trivial ⟨Nat.le_of_ble_eq_true rfl, Nat.le_of_ble_eq_true rfl⟩ ⟨Nat.le_of_ble_eq_true rfl, Nat.le_of_ble_eq_true rfl⟩ (Nat.le_of_ble_eq_true rfl) (fun Γ7 G7 hs7 hB7 tn81 hp7 => ?_)
  have pr7 : zpr [2055] Γ G G7 := zpr_tr pr6 hx6 hp7.1 (by decide)
  have pa_7 : zpr [2055] Γ1 G G7 := zpr_tr pa_6 hypa_hx6 hp7.1 (by decide)
  have pc3_7 : zpr [2044] Γ2 G2 G7 := zpr_tr pc3_6 hypc3_hx6 hp7.1 (by decide)
  have hx7 := zxt_tr hx6 hs7
  have hypa_hx7 := zxt_tr hypa_hx6 hs7
  have hypc3_hx7 := zxt_tr hypc3_hx6 hs7
  replace hO := zOk_x hs7 hO
  replace tq1 := zxt_ty hs7 tq1 (by decide)
  replace tn14 := zxt_ty hs7 tn14 (by decide)
  replace tn25 := zxt_ty hs7 tn25 (by decide)
  replace tn36 := zxt_ty hs7 tn36 (by decide)
  replace tn51 := zxt_ty hs7 tn51 (by decide)
  replace tn66 := zxt_ty hs7 tn66 (by decide)
  refine v_putr (pc := 92) (k := 7) C hin dX8_init_92 fl_X8_49 rfl (by decide) (by decide) ?_
  replace hO := zOk_s (k := 7) hO (by decide) (by decide) tn81
  refine v_aload_n (pc := 95) C dX8_init_95 rfl ?_
  refine v_new (pc := 96) C dX8_init_96 (by decide) cl_X8_53 in_1 iz_1 ⟨Nat.le_of_ble_eq_true rfl, Nat.le_of_ble_eq_true rfl⟩ (fun n96 => ?_)
  refine v_dup (pc := 99) C dX8_init_99 ?_
  refine v_init00 (pc := 100)  C hx7 dX8_init_100 (wi_X0 55) li_X8_55 rfl (c_X0_initF (zxt_Xs hx7 hX)) hB7 (fun x hx => by cases hx) zSty_t trivial ⟨Nat.le_of_ble_eq_true rfl, Nat.le_of_ble_eq_true rfl⟩ ⟨Nat.le_of_ble_eq_true rfl, Nat.le_of_ble_eq_true rfl⟩ (Nat.le_of_ble_eq_true rfl) (fun Γ8 G8 hs8 hB8 tn96 hp8 => ?_)
  have pr8 : zpr [2055] Γ G G8 := zpr_tr pr7 hx7 hp8.1 (by decide)
  have pa_8 : zpr [2055] Γ1 G G8 := zpr_tr pa_7 hypa_hx7 hp8.1 (by decide)
  have pc3_8 : zpr [2044] Γ2 G2 G8 := zpr_tr pc3_7 hypc3_hx7 hp8.1 (by decide)
  have hx8 := zxt_tr hx7 hs8
  have hypa_hx8 := zxt_tr hypa_hx7 hs8
  have hypc3_hx8 := zxt_tr hypc3_hx7 hs8
  replace hO := zOk_x hs8 hO
  replace tq1 := zxt_ty hs8 tq1 (by decide)
  replace tn14 := zxt_ty hs8 tn14 (by decide)
  replace tn25 := zxt_ty hs8 tn25 (by decide)
  replace tn36 := zxt_ty hs8 tn36 (by decide)
  replace tn51 := zxt_ty hs8 tn51 (by decide)
  replace tn66 := zxt_ty hs8 tn66 (by decide)
  replace tn81 := zxt_ty hs8 tn81 (by decide)
  refine v_putr (pc := 103) (k := 8) C hin dX8_init_103 fl_X8_56 rfl (by decide) (by decide) ?_
  replace hO := zOk_s (k := 8) hO (by decide) (by decide) tn96
  refine v_aload_n (pc := 106) C dX8_init_106 rfl ?_
  refine v_bipush (pc := 107) C dX8_init_107 (by decide) ?_
  refine v_newi0 (pc := 109) C hx8 hB8 56 dX8_init_109 ac_int a_56 rfl (by decide) (by decide) ⟨Nat.le_of_ble_eq_true rfl, Nat.le_of_ble_eq_true rfl⟩ (fun Γ9 q9 fq9 hs9 hB9 tq9 => ?_)
  have hx9 := zxt_tr hx8 hs9
  have hypa_hx9 := zxt_tr hypa_hx8 hs9
  have hypc3_hx9 := zxt_tr hypc3_hx8 hs9
  replace hO := zOk_x hs9 hO
  replace tq1 := zxt_ty hs9 tq1 (by decide)
  replace tn14 := zxt_ty hs9 tn14 (by decide)
  replace tn25 := zxt_ty hs9 tn25 (by decide)
  replace tn36 := zxt_ty hs9 tn36 (by decide)
  replace tn51 := zxt_ty hs9 tn51 (by decide)
  replace tn66 := zxt_ty hs9 tn66 (by decide)
  replace tn81 := zxt_ty hs9 tn81 (by decide)
  replace tn96 := zxt_ty hs9 tn96 (by decide)
  refine v_putr (pc := 111) (k := 9) C hin dX8_init_111 fl_X8_60 rfl (by decide) (by decide) ?_
  replace hO := zOk_s (k := 9) hO (by decide) (by decide) tq9
  refine v_aload_n (pc := 114) C dX8_init_114 rfl ?_
  refine v_iconst (pc := 115) C dX8_init_115 ?_
  refine v_puti (pc := 116) (k := 13) C dX8_init_116 fl_X8_63 f_9_13 ?_
  refine v_adopt0 (Γ0 := Γ) hB9 (by decide) (by decide) (by decide +kernel) (by decide +kernel) hO (by decide +kernel) (fun Γe Ge hse hBe the eΓ eG => ?_)
  have prE : zpr [2055] Γ G Ge := by rw [eG]; exact zpr_ag pr8 (by decide)
  have pa_E : zpr [2055] Γ1 G Ge := by rw [eG]; exact zpr_ag pa_8 (by decide)
  have pc3_E : zpr [2044] Γ2 G2 Ge := by rw [eG]; exact zpr_ag pc3_8 (by decide)
  have hx10 := zxt_tr hx9 hse
  have hypa_hx10 := zxt_tr hypa_hx9 hse
  have hypc3_hx10 := zxt_tr hypc3_hx9 hse
  replace tq1 := zxt_ty hse tq1 (by decide)
  replace tn14 := zxt_ty hse tn14 (by decide)
  replace tn25 := zxt_ty hse tn25 (by decide)
  replace tn36 := zxt_ty hse tn36 (by decide)
  replace tn51 := zxt_ty hse tn51 (by decide)
  replace tn66 := zxt_ty hse tn66 (by decide)
  replace tn81 := zxt_ty hse tn81 (by decide)
  replace tn96 := zxt_ty hse tn96 (by decide)
  replace tq9 := zxt_ty hse tq9 (by decide)
  have th0 := the
  refine v_widen (k := 108) (n := 6587) (Nat.le_of_ble_eq_true rfl) (Nat.le_of_ble_eq_true rfl) ?_
  have ea : Γe.2.1 h0 0 = q1 := by rw [eΓ, zad_2, if_pos rfl]; rfl
  have er : Γe.2.1 h0 2 = n14 := by rw [eΓ, zad_2, if_pos rfl]; rfl
  have l1 := hBk3.1.2.2 4 0 n14 tk3 (by decide)
  have l2 := hBk3.1.2.2 7 0 (Γ2.2.1 n14 0) l1 (by decide)
  have eb : Γe.2.1 n14 = Γ2.2.1 n14 := zxt_fr hypc3_hx10 (by rw [tk3]; decide)
  have ec : Γe.2.1 (Γ2.2.1 n14 0) = Γ2.2.1 (Γ2.2.1 n14 0) := zxt_fr hypc3_hx10 (by rw [l1]; decide)
  have hpost : Ge.1 901 h0 0 = 0 ∧ Ge.1 912 h0 0 = 0 ∧ Ge.1 913 h0 0 = -1 ∧ (∀ i : Nat, Ge.1 2055 (Γe.2.1 h0 0) i = 0) ∧ ∀ q : Nat, q < 24 → Ge.1 2044 (Γe.2.1 (Γe.2.1 (Γe.2.1 h0 2) 0) 0) q = wl.getD q 0 := by
    refine ⟨?_, ?_, ?_, fun i => ?_, fun q hq => ?_⟩
    · rw [eG]; exact zag_at (t := 9) (k := 1) (by decide)
    · rw [eG]; exact zag_at (t := 9) (k := 12) (by decide)
    · rw [eG]; exact zag_at (t := 9) (k := 13) (by decide)
    · rw [ea, pa_E 2055 (by decide) q1 (by rw [tka]; decide) i]
      exact (hB.2.2 q1 fz0).1 2055 i
    · rw [er, eb, ec, pc3_E 2044 (by decide) _ (by rw [l2]; decide) q]
      exact hp2.2 q hq
  exact v_ret (Γ0 := Γ) (zCv_x C hx10) hr hlk dX8_init_119 hx10 hBe th0 hpost
