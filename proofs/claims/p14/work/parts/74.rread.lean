section
theorem zMet_mo {l : Launch} {Γ : zΓ} {y : MethodName} {b : ByteArray} {mx lv : Nat} {ret : Option FieldType} {av : List zV} {G : zH} {post post' : Option zV → zH → Prop} (h : zMet l Γ y b mx ret lv av G post) (hm : ∀ r G', post r G' → post' r G') : zMet l Γ y b mx ret lv av G post' := by
  intro p e h1 h2 h3 s m args below h4 h5 h6 h7
  obtain ⟨n, o, k1, k2, k3, ⟨⟨⟨r, G', q1, q2, q3, q4, q5⟩, q6⟩, q7⟩⟩ := h p e h1 h2 h3 s m args below h4 h5 h6 h7
  exact ⟨n, o, k1, k2, k3, ⟨⟨⟨r, G', q1, q2, hm r G' q3, q4, q5⟩, q6⟩, q7⟩⟩
/-! how the reference holds a reader's state: its token -/
def gT (b : Nat → Int) (n : Int) (Γ : zΓ) (w : Nat) (A : aS) (G : zH) : Prop := G.1 2057 (Γ.2.1 w 0) = b ∧ G.1 1006 w 0 = n ∧ 0 ≤ A 0 0 ∧ tP b n A ≤ n ∧ G.1 1010 w 0 = tP b n A ∧ G.1 1007 w 0 = tkN b n (tP b n A) ∧ tkM (tK b n A) (tV b n A) (G.1 1008 w 0) (G.1 1009 w 0)
theorem gT_A {b : Nat → Int} {n : Int} {Γ : zΓ} {w : Nat} {A : aS} {G : zH} {B : aS} (e : A 0 0 = B 0 0) (h : gT b n Γ w A G) : gT b n Γ w B G := by
  obtain ⟨e1, e2, e3, -⟩ := tk_00 (b := b) (n := n) e
  unfold gT at *
  rw [← e, ← e1, ← e2, ← e3]
  exact h
theorem gT_sm {b : Nat → Int} {n : Int} {Γ : zΓ} {w : Nat} {A : aS} {G : zH} {G1 : zH} {rs : List Nat} (hs : zsm rs G G1) (hr : ∀ r ∈ [2057, 1006, 1007, 1008, 1009, 1010], r ∉ rs) (h : gT b n Γ w A G) : gT b n Γ w A G1 := by
  unfold gT at *
  rw [hs.1 2057 (hr _ (by decide)), hs.1 1006 (hr _ (by decide)), hs.1 1007 (hr _ (by decide)), hs.1 1008 (hr _ (by decide)), hs.1 1009 (hr _ (by decide)), hs.1 1010 (hr _ (by decide))]
  exact h
theorem gT_I {b : Nat → Int} {n : Int} {Γ : zΓ} {w : Nat} {A : aS} {G : zH} {r a i : Nat} {x : Int} (hr : ∀ r' ∈ [2057, 1006, 1007, 1008, 1009, 1010], r' ≠ r) (h : gT b n Γ w A G) : gT b n Γ w A (zuI G r a i x) :=
  gT_sm (rs := [r]) (zsm_I (by simp) zsm_rf) (fun r' h' q => hr r' h' (List.mem_singleton.mp q)) h
theorem gT_TI {b : Nat → Int} {n : Int} {Γ : zΓ} {w : Nat} {A : aS} {G : zH} (h : gT b n Γ w A G) : TI w G := TI_of h.2.1 h.2.2.2.1 h.2.2.2.2.1 h.2.2.2.2.2.1 h.2.2.2.2.2.2
theorem gT_n {b : Nat → Int} {n : Int} {Γ : zΓ} {w : Nat} {A : aS} {G : zH} (h : gT b n Γ w A G) : G.1 1007 w 0 ≤ G.1 1006 w 0 := (gT_TI h).1
theorem tK_lt {b : Nat → Int} {n : Int} {A : aS} : tK b n A ≠ 0 ↔ tP b n A < n := by
  unfold tK
  constructor
  · intro h
    rcases Int.lt_or_le (tP b n A) n with q | q
    · exact q
    · exact absurd (tk_0 (by omega)).1 h
  · exact fun h => tkK_0 h
theorem tP_next {b : Nat → Int} {n : Int} {A : aS} (h0 : 0 ≤ A 0 0) (h : tP b n A ≤ n) : tP b n (sNext b n A) = sk b n (tkN b n (tP b n A)) ∧ 0 ≤ (sNext b n A) 0 0 := by
  unfold sNext
  by_cases q : tK b n A ≠ 0
  · rw [if_pos (Or.inr q)]
    refine ⟨?_, by rw [up_eq]; omega⟩
    have hl := tK_lt.mp q
    show stn b n (up A 0 0 (A 0 0 + 1) 0 0).toNat = _
    rw [up_eq, show (A 0 0 + 1).toNat = (A 0 0).toNat + 1 by omega]
    exact stn_s hl
  · have hl : ¬ tP b n A < n := fun q2 => q (tK_lt.mpr q2)
    rw [if_neg (by rintro (q2 | q2); omega; exact q q2), tkN_0 hl]
    refine ⟨?_, h0⟩
    rw [sk, sp_e (fun q2 => hl q2.1)]
theorem gT_next {b : Nat → Int} {n : Int} {Γ : zΓ} {w : Nat} {A : aS} {G : zH} {G1 : zH} (h : gT b n Γ w A G) (hs : zsm [1007, 1008, 1009, 1010] G G1) (hq : G1.1 1010 w 0 = sk (G.1 2057 (Γ.2.1 w 0)) (G.1 1006 w 0) (G.1 1007 w 0) ∧ G1.1 1007 w 0 = tkN (G.1 2057 (Γ.2.1 w 0)) (G.1 1006 w 0) (sk (G.1 2057 (Γ.2.1 w 0)) (G.1 1006 w 0) (G.1 1007 w 0)) ∧ tkM (tkK (G.1 2057 (Γ.2.1 w 0)) (G.1 1006 w 0) (sk (G.1 2057 (Γ.2.1 w 0)) (G.1 1006 w 0) (G.1 1007 w 0))) (tkV (G.1 2057 (Γ.2.1 w 0)) (G.1 1006 w 0) (sk (G.1 2057 (Γ.2.1 w 0)) (G.1 1006 w 0) (G.1 1007 w 0))) (G1.1 1008 w 0) (G1.1 1009 w 0)) : gT b n Γ w (sNext b n A) G1 := by
  have hn := gT_n h
  obtain ⟨h1, h2, h3, h4, h5, h6, h7⟩ := h
  obtain ⟨e1, e2⟩ := tP_next h3 h4
  rw [h1, h2, h6, ← e1] at hq
  rw [h2, h6] at hn
  refine ⟨by rw [hs.1 2057 (by decide)]; exact h1, by rw [hs.1 1006 (by decide)]; exact h2, e2, ?_, hq⟩
  rw [e1]
  exact sp_le hn
theorem gT_num {b : Nat → Int} {n : Int} {Γ : zΓ} {w : Nat} {A : aS} {G : zH} (h : gT b n Γ w A G) : (G.1 1008 w 0 = 3 ↔ tK b n A = 3) ∧ (tK b n A = 3 → 0 ≤ G.1 1009 w 0 ∧ min (G.1 1009 w 0) 100000 = tV b n A) := by
  have h9 := h.2.2.2.2.2.2
  unfold tkM sgM at h9
  omega
theorem gT_name {b : Nat → Int} {n : Int} {Γ : zΓ} {w : Nat} {A : aS} {G : zH} (h : gT b n Γ w A G) : (G.1 1008 w 0 = 2 ↔ tK b n A = 1) ∧ (tK b n A = 1 → G.1 1009 w 0 = tV b n A) := by
  have h9 := h.2.2.2.2.2.2
  unfold tkM sgM at h9
  omega
theorem gT_end {b : Nat → Int} {n : Int} {Γ : zΓ} {w : Nat} {A : aS} {G : zH} (h : gT b n Γ w A G) : G.1 1008 w 0 = 0 ↔ tK b n A = 0 := by
  have h9 := h.2.2.2.2.2.2
  unfold tkM sgM at h9
  omega
theorem gT_cmp {b : Nat → Int} {n : Int} {Γ : zΓ} {w : Nat} {A : aS} {G : zH} (h : gT b n Γ w A G) : (G.1 1008 w 0 = 5 ↔ tK b n A = 4 ∧ 5 ≤ tV b n A ∧ tV b n A ≤ 10) ∧ (G.1 1008 w 0 = 5 → G.1 1009 w 0 = tV b n A - 5) := by
  have h9 := h.2.2.2.2.2.2
  unfold tkM sgM at h9
  omega
theorem gT_sig {b : Nat → Int} {n : Int} {Γ : zΓ} {w : Nat} {A : aS} {G : zH} (h : gT b n Γ w A G) {c s : Int} (hc : (c = 59 ∧ s = 17) ∨ (c = 40 ∧ s = 15) ∨ (c = 41 ∧ s = 16) ∨ (c = 43 ∧ s = 11) ∨ (c = 45 ∧ s = 12) ∨ (c = 42 ∧ s = 13) ∨ (c = 47 ∧ s = 14)) : (G.1 1008 w 0 = 4 ∧ G.1 1009 w 0 = c) ↔ (tK b n A = 4 ∧ tV b n A = s) := by
  have h9 := h.2.2.2.2.2.2
  unfold tkM sgM at h9
  rcases hc with ⟨rfl, rfl⟩ | ⟨rfl, rfl⟩ | ⟨rfl, rfl⟩ | ⟨rfl, rfl⟩ | ⟨rfl, rfl⟩ | ⟨rfl, rfl⟩ | ⟨rfl, rfl⟩ <;> omega
theorem rp_n : ∀ k : Nat, k < 24 → (k < 2 → rp k = k) ∧ (k = 2 → rp k = 9) ∧ (3 ≤ k → k ≤ 9 → rp k = k - 1) ∧ (10 ≤ k → k ≤ 13 → rp k = k) ∧ (k = 14 → rp k = 15) ∧ (k = 15 → rp k = 14) ∧ (16 ≤ k → rp k = k) := by decide +kernel
theorem rp_c {v : Int} (h : 0 ≤ v ∧ v < 24) : (v < 2 → rp v = v) ∧ (v = 2 → rp v = 9) ∧ (3 ≤ v → v ≤ 9 → rp v = v - 1) ∧ (10 ≤ v → v ≤ 13 → rp v = v) ∧ (v = 14 → rp v = 15) ∧ (v = 15 → rp v = 14) ∧ (16 ≤ v → rp v = v) := by
  have h1 := rp_n v.toNat (by omega)
  rw [show ((v.toNat : Nat) : Int) = v by omega] at h1
  omega
theorem gT_key {b : Nat → Int} {n : Int} {Γ : zΓ} {w : Nat} {A : aS} {G : zH} (h : gT b n Γ w A G) : (G.1 1008 w 0 = 1 ↔ tK b n A = 2) ∧ (tK b n A = 2 → 0 ≤ tV b n A ∧ tV b n A < 24 ∧ (tV b n A < 2 → G.1 1009 w 0 = tV b n A) ∧ (tV b n A = 2 → G.1 1009 w 0 = 9) ∧ (3 ≤ tV b n A → tV b n A ≤ 9 → G.1 1009 w 0 = tV b n A - 1) ∧ (10 ≤ tV b n A → tV b n A ≤ 13 → G.1 1009 w 0 = tV b n A) ∧ (tV b n A = 14 → G.1 1009 w 0 = 15) ∧ (tV b n A = 15 → G.1 1009 w 0 = 14) ∧ (16 ≤ tV b n A → G.1 1009 w 0 = tV b n A)) := by
  have h9 := h.2.2.2.2.2.2
  refine ⟨by unfold tkM sgM at h9; omega, fun q => ?_⟩
  have h8 := tkK_2 q
  have e : G.1 1009 w 0 = rp (tV b n A) := by unfold tkM sgM at h9; omega
  rw [e]
  exact ⟨h8.1, h8.2, rp_c h8⟩
theorem tW_c {b : Nat → Int} {n : Int} {A : aS} : (tK b n A = 2 → tW b n A = tV b n A) ∧ (tK b n A ≠ 2 → tW b n A = -1) := by
  unfold tW
  constructor
  · intro q; rw [if_pos q]
  · intro q; rw [if_neg q]
/-- a fault of both -/
def FT (w : Nat) (A : aS) (G : zH) : Prop := A 1 0 ≠ 0 ∧ G.1 1004 w 0 = A 1 0 ∧ G.1 1005 w 0 = A 2 0
theorem FT_fail {b : Nat → Int} {n c : Int} {w : Nat} {A : aS} {G : zH} (h0 : A 1 0 = 0) (hc : c ≠ 0) (h1 : G.1 1004 w 0 = c) (h2 : G.1 1005 w 0 = tP b n A) : FT w (sFail b n c A) G := by
  rw [sFail_0 h0]
  refine ⟨?_, ?_, ?_⟩
  · rw [up_f (by decide), up_eq]; exact hc
  · rw [up_f (by decide), up_eq]; exact h1
  · rw [up_eq]; exact h2
theorem sNumB_ne {b : Nat → Int} {n : Int} {A : aS} (h : A 1 0 ≠ 0) : sNumB b n A = A := if_neg h
theorem sNum_1 {b : Nat → Int} {n lo hi : Int} {A : aS} (hk : tK b n A ≠ 3) : sNum b n lo hi A = sFail b n 1 A := by
  unfold sNum
  rw [if_pos hk, sNumB_ne (sFail_f (by decide))]
theorem sNum_2 {b : Nat → Int} {n lo hi : Int} {A : aS} (hk : tK b n A = 3) (hv : tV b n A < lo ∨ hi < tV b n A) : sNum b n lo hi A = sFail b n 2 A := by
  unfold sNum
  rw [if_neg (by omega), if_pos hv, sNumB_ne (sFail_f (by decide))]
theorem sNum_ok {b : Nat → Int} {n lo hi : Int} {A : aS} (h0 : A 1 0 = 0) (hk : tK b n A = 3) (hv : ¬ (tV b n A < lo ∨ hi < tV b n A)) : sNum b n lo hi A = sNext b n A ∧ sNumV b n lo hi A = tV b n A := by
  unfold sNum sNumV sNumB
  rw [if_neg (by omega), if_neg hv, if_pos h0, if_neg (by omega)]
  exact ⟨rfl, rfl⟩
theorem sNum_ne {b : Nat → Int} {n lo hi : Int} {A : aS} (h : A 1 0 ≠ 0) : sNum b n lo hi A = A := by
  unfold sNum
  split
  · rw [sFail_1 h, sNumB_ne h]
  · split
    · rw [sFail_1 h, sNumB_ne h]
    · exact sNumB_ne h

set_option maxHeartbeats 4000000 in
set_option maxRecDepth 100000 in
theorem c_X9_isKeyG {l : Launch} {Γ : zΓ} {G : zH} {w : Nat} {k : Int} (hX : zXs Γ)  : zMet l Γ yX9_isKey cX9_isKey 2 (some .boolean) 0 [zr 10 w, zi k] G (zpi (fun x G' => G' = G ∧ ((x = 0 ∨ x = 1) ∧ (x = 1 ↔ G.1 1008 w 0 = 1 ∧ G.1 1009 w 0 = k)))) := by
  refine zMet_of RX9 hX (by decide) rfl (Nat.le_of_ble_eq_true rfl) ?_
  intro p e s m args below meth c C hr hlk
  show Z p l e (zrm 0) s m args below meth c Γ 2 0 0 (MQ below (zQc Γ (zpi (fun x G' => G' = G ∧ ((x = 0 ∨ x = 1) ∧ (x = 1 ↔ G.1 1008 w 0 = 1 ∧ G.1 1009 w 0 = k))))) args s 0 0 (zA Γ)) 0 [some (zr 10 w), some (zi k)] [] G
  refine zs_loc 1 rfl (fun ha1 hb1 => ?_)
  refine zs_aload_n (pc := 0) C dX9_isKey_0 rfl ?_
  refine zs_geti (r := 1008) (pc := 1) C dX9_isKey_1 w_X9_196 f_10_8 rfl (r_1008 0) (fun v1 e1 l1 u1 => ?_)
  refine zs_iconst (pc := 4) C dX9_isKey_4 (by decide) ?_
  refine zs_icmp_ne (tgt := 20) (pc := 5) C dX9_isKey_5 (by decide) (fun h5 => ?_) (fun h5 => ?_)
  · skip
    refine zs_iconst (pc := 20) C dX9_isKey_20 (by decide) ?_
    exact zs_zret (pc := 21) C hr hlk dX9_isKey_21 (by omega) ⟨rfl, by first | omega | (simp only [zuI_1, zuI_2, zuJ_1, zuJ_2, zuJ_3, zuP_1, zuP_2, zuP_3, zuC_1, zuC_2, reduceIte, Nat.reduceEqDiff, false_and, and_false, true_and, and_true, and_self, or_true, true_or, or_false, false_or]; omega)⟩
  · skip
    refine zs_aload_n (pc := 8) C dX9_isKey_8 rfl ?_
    refine zs_geti (r := 1009) (pc := 9) C dX9_isKey_9 w_X9_207 f_10_9 rfl (r_1009 0) (fun v9 e9 l9 u9 => ?_)
    refine zs_iload_n (pc := 12) C dX9_isKey_12 rfl ?_
    refine zs_icmp_ne (tgt := 20) (pc := 13) C dX9_isKey_13 (by decide) (fun h13 => ?_) (fun h13 => ?_)
    · skip
      refine zs_iconst (pc := 20) C dX9_isKey_20 (by decide) ?_
      exact zs_zret (pc := 21) C hr hlk dX9_isKey_21 (by omega) ⟨rfl, by first | omega | (simp only [zuI_1, zuI_2, zuJ_1, zuJ_2, zuJ_3, zuP_1, zuP_2, zuP_3, zuC_1, zuC_2, reduceIte, Nat.reduceEqDiff, false_and, and_false, true_and, and_true, and_self, or_true, true_or, or_false, false_or]; omega)⟩
    · skip
      refine zs_iconst (pc := 16) C dX9_isKey_16 (by decide) ?_
      refine zs_goto (tgt := 21) (pc := 17) C dX9_isKey_17 (by decide) ?_
      exact zs_zret (pc := 21) C hr hlk dX9_isKey_21 (by omega) ⟨rfl, by first | omega | (simp only [zuI_1, zuI_2, zuJ_1, zuJ_2, zuJ_3, zuP_1, zuP_2, zuP_3, zuC_1, zuC_2, reduceIte, Nat.reduceEqDiff, false_and, and_false, true_and, and_true, and_self, or_true, true_or, or_false, false_or]; omega)⟩

set_option maxHeartbeats 4000000 in
set_option maxRecDepth 100000 in
theorem c_X9_isSignG {l : Launch} {Γ : zΓ} {G : zH} {w : Nat} {k : Int} (hX : zXs Γ)  : zMet l Γ yX9_isSign cX9_isSign 2 (some .boolean) 0 [zr 10 w, zi k] G (zpi (fun x G' => G' = G ∧ ((x = 0 ∨ x = 1) ∧ (x = 1 ↔ G.1 1008 w 0 = 4 ∧ G.1 1009 w 0 = k)))) := by
  refine zMet_of RX9 hX (by decide) rfl (Nat.le_of_ble_eq_true rfl) ?_
  intro p e s m args below meth c C hr hlk
  show Z p l e (zrm 0) s m args below meth c Γ 2 0 0 (MQ below (zQc Γ (zpi (fun x G' => G' = G ∧ ((x = 0 ∨ x = 1) ∧ (x = 1 ↔ G.1 1008 w 0 = 4 ∧ G.1 1009 w 0 = k))))) args s 0 0 (zA Γ)) 0 [some (zr 10 w), some (zi k)] [] G
  refine zs_loc 1 rfl (fun ha1 hb1 => ?_)
  refine zs_aload_n (pc := 0) C dX9_isSign_0 rfl ?_
  refine zs_geti (r := 1008) (pc := 1) C dX9_isSign_1 w_X9_196 f_10_8 rfl (r_1008 0) (fun v1 e1 l1 u1 => ?_)
  refine zs_iconst (pc := 4) C dX9_isSign_4 (by decide) ?_
  refine zs_icmp_ne (tgt := 20) (pc := 5) C dX9_isSign_5 (by decide) (fun h5 => ?_) (fun h5 => ?_)
  · skip
    refine zs_iconst (pc := 20) C dX9_isSign_20 (by decide) ?_
    exact zs_zret (pc := 21) C hr hlk dX9_isSign_21 (by omega) ⟨rfl, by first | omega | (simp only [zuI_1, zuI_2, zuJ_1, zuJ_2, zuJ_3, zuP_1, zuP_2, zuP_3, zuC_1, zuC_2, reduceIte, Nat.reduceEqDiff, false_and, and_false, true_and, and_true, and_self, or_true, true_or, or_false, false_or]; omega)⟩
  · skip
    refine zs_aload_n (pc := 8) C dX9_isSign_8 rfl ?_
    refine zs_geti (r := 1009) (pc := 9) C dX9_isSign_9 w_X9_207 f_10_9 rfl (r_1009 0) (fun v9 e9 l9 u9 => ?_)
    refine zs_iload_n (pc := 12) C dX9_isSign_12 rfl ?_
    refine zs_icmp_ne (tgt := 20) (pc := 13) C dX9_isSign_13 (by decide) (fun h13 => ?_) (fun h13 => ?_)
    · skip
      refine zs_iconst (pc := 20) C dX9_isSign_20 (by decide) ?_
      exact zs_zret (pc := 21) C hr hlk dX9_isSign_21 (by omega) ⟨rfl, by first | omega | (simp only [zuI_1, zuI_2, zuJ_1, zuJ_2, zuJ_3, zuP_1, zuP_2, zuP_3, zuC_1, zuC_2, reduceIte, Nat.reduceEqDiff, false_and, and_false, true_and, and_true, and_self, or_true, true_or, or_false, false_or]; omega)⟩
    · skip
      refine zs_iconst (pc := 16) C dX9_isSign_16 (by decide) ?_
      refine zs_goto (tgt := 21) (pc := 17) C dX9_isSign_17 (by decide) ?_
      exact zs_zret (pc := 21) C hr hlk dX9_isSign_21 (by omega) ⟨rfl, by first | omega | (simp only [zuI_1, zuI_2, zuJ_1, zuJ_2, zuJ_3, zuP_1, zuP_2, zuP_3, zuC_1, zuC_2, reduceIte, Nat.reduceEqDiff, false_and, and_false, true_and, and_true, and_self, or_true, true_or, or_false, false_or]; omega)⟩

set_option maxHeartbeats 4000000 in
set_option maxRecDepth 100000 in
theorem c_X9_findG {l : Launch} {Γ : zΓ} {G : zH} {t a m : Nat} {b n k : Int} (hX : zXs Γ) (hz : zat t = (0, m)) (ht : t < 200) (hm : m ≤ 10000) (hn : 0 ≤ b ∧ 0 ≤ n ∧ b + n ≤ m) : zMet l Γ yX9_find cX9_find 5 (some .int) 0 [zr t a, zi b, zi n, zi k] G (zpi (fun x G' => G' = G ∧ (x = fndn (G.1 (2000 + t) a) b k n.toNat 0 ∧ -1 ≤ x ∧ (x < n ∨ x = -1)))) := by
  refine zMet_of RX9 hX (by decide) rfl (Nat.le_of_ble_eq_true rfl) ?_
  intro p e s m args below meth c C hr hlk
  show Z p l e (zrm 0) s m args below meth c Γ 5 0 0 (MQ below (zQc Γ (zpi (fun x G' => G' = G ∧ (x = fndn (G.1 (2000 + t) a) b k n.toNat 0 ∧ -1 ≤ x ∧ (x < n ∨ x = -1))))) args s 0 0 (zA Γ)) 0 [some (zr t a), some (zi b), some (zi n), some (zi k), none] [] G
  refine zs_loc 1 rfl (fun ha1 hb1 => ?_)
  refine zs_loc 2 rfl (fun ha2 hb2 => ?_)
  refine zs_loc 3 rfl (fun ha3 hb3 => ?_)
  refine zs_iconst (pc := 0) C dX9_find_0 (by decide) ?_
  refine zs_istore (pc := 1) C dX9_find_1 (by decide) ?_
  dsimp only [zset, zclr, znone]
  have L3 : ∀ (nn : Nat) (x4 : Int), (0 ≤ x4 ∧ x4 ≤ n) → (fndn (G.1 (2000 + t) a) b k (n - x4).toNat x4 = fndn (G.1 (2000 + t) a) b k n.toNat 0) → (n - x4).toNat < nn → Z p l e (zrm 0) s m args below meth c Γ 5 0 0 (MQ below (zQc Γ (zpi (fun x G' => G' = G ∧ (x = fndn (G.1 (2000 + t) a) b k n.toNat 0 ∧ -1 ≤ x ∧ (x < n ∨ x = -1))))) args s 0 0 (zA Γ)) 3 [some (zr t a), some (zi b), some (zi n), some (zi k), some (zi x4)] [] G := by
    intro nn
    induction nn with
    | zero => intro x4 h3_0 h3_1 hm; exact absurd hm (Nat.not_lt_zero _)
    | succ nn ih3 =>
      intro x4 h3_0 h3_1 hm3
      refine zs_iload (pc := 3) C dX9_find_3 rfl ?_
      refine zs_iload_n (pc := 5) C dX9_find_5 rfl ?_
      refine zs_icmp_ge (tgt := 28) (pc := 6) C dX9_find_6 (by decide) (fun h6 => ?_) (fun h6 => ?_)
      · skip
        refine zs_iconst (pc := 28) C dX9_find_28 (by decide) ?_
        exact zs_iret (pc := 29) C hr hlk dX9_find_29 ⟨rfl, ⟨by rw [← h3_1, fnd_e (by omega)], by omega⟩⟩
      · skip
        refine zs_aload_n (pc := 9) C dX9_find_9 rfl ?_
        refine zs_iload_n (pc := 10) C dX9_find_10 rfl ?_
        refine zs_iload (pc := 11) C dX9_find_11 rfl ?_
        first | refine zs_iadd (pc := 13) C dX9_find_13 (by omega) ?_ | refine zs_iaddF (pc := 13) C dX9_find_13 (fun z13 hz131 hz132 => ?_)
        refine zs_iald (r := (2000 + t)) (pc := 14) C dX9_find_14 hz ht (by omega) rfl rfl (fun v14 e14 l14 u14 => ?_)
        refine zs_iload_n (pc := 15) C dX9_find_15 rfl ?_
        refine zs_icmp_ne (tgt := 22) (pc := 16) C dX9_find_16 (by decide) (fun h16 => ?_) (fun h16 => ?_)
        · skip
          first | refine zs_iinc (pc := 22) C dX9_find_22 rfl (by decide) (by omega) ?_ | refine zs_iincF (pc := 22) C dX9_find_22 rfl (by decide) (fun z22 hz221 hz222 => ?_)
          dsimp only [zset, zclr, znone]
          refine zs_goto (tgt := 3) (pc := 25) C dX9_find_25 (by decide) ?_
          exact zs_wk (ih3 _ (by omega) (by have q := h3_1; rw [fnd_s (by omega), if_neg (by omega)] at q; exact q) (by first | omega | (simp only [zuI_1, zuI_2, zuJ_1, zuJ_2, zuJ_3, zuP_1, zuP_2, zuP_3, zuC_1, zuC_2, reduceIte, Nat.reduceEqDiff, false_and, and_false, true_and, and_true, and_self, or_true, true_or, or_false, false_or]; omega))) (zwk_s rfl (zwk_s rfl (zwk_s rfl (zwk_s rfl (zwk_s rfl zwk_0)))))
        · skip
          refine zs_iload (pc := 19) C dX9_find_19 rfl ?_
          exact zs_iret (pc := 21) C hr hlk dX9_find_21 ⟨rfl, ⟨by rw [← h3_1, fnd_s (by omega), if_pos (by omega)], by omega⟩⟩
  exact zs_wk (L3 _ _ (by omega) (by rw [Int.sub_zero]) (Nat.lt_succ_self _)) (zwk_s rfl (zwk_s rfl (zwk_s rfl (zwk_s rfl (zwk_s rfl zwk_0)))))
end
section
theorem up_at {A : aS} {f i j : Nat} {v : Int} : up A f i v f j = if j = i then v else A f j := by
  by_cases h : j = i
  · rw [h, up_eq, if_pos rfl]
  · rw [up_j h, if_neg h]
def rk (k : Int) : Int := if k = 2 then 4 else if k = 4 then 2 else if k = 15 then 0 else k
theorem rk_c (k : Int) : (k = 2 → rk k = 4) ∧ (k = 4 → rk k = 2) ∧ (k = 15 → rk k = 0) ∧ (k ≠ 2 → k ≠ 4 → k ≠ 15 → rk k = k) := by
  unfold rk
  refine ⟨fun h => ?_, fun h => ?_, fun h => ?_, fun h1 h2 h3 => ?_⟩
  · rw [if_pos h]
  · rw [if_neg (by omega), if_pos h]
  · rw [if_neg (by omega), if_neg (by omega), if_pos h]
  · rw [if_neg h1, if_neg h2, if_neg h3]
theorem bnd_n : ∀ k : Nat, k < 16 → (k = 2 → bnd k = 1) ∧ (k = 3 → bnd k = 2) ∧ (k = 4 → bnd k = 3) ∧ (5 ≤ k → k ≤ 10 → bnd k = 4) ∧ (11 ≤ k → k ≤ 12 → bnd k = 5) ∧ (13 ≤ k → k ≤ 14 → bnd k = 6) ∧ (k = 15 → bnd k = 0) := by decide +kernel
theorem bnd_c {k : Int} (h : 0 ≤ k ∧ k < 16) : (k = 2 → bnd k = 1) ∧ (k = 3 → bnd k = 2) ∧ (k = 4 → bnd k = 3) ∧ (5 ≤ k → k ≤ 10 → bnd k = 4) ∧ (11 ≤ k → k ≤ 12 → bnd k = 5) ∧ (13 ≤ k → k ≤ 14 → bnd k = 6) ∧ (k = 15 → bnd k = 0) := by
  have h1 := bnd_n k.toNat (by omega)
  rw [show ((k.toNat : Nat) : Int) = k by omega] at h1
  omega
theorem rank_bnd {c v x : Int} (hv : v = rk c) (hc : 2 ≤ c ∧ c ≤ 15) (hq : (v ≥ 13 → x = 6) ∧ (11 ≤ v → v < 13 → x = 5) ∧ (5 ≤ v → v < 11 → x = 4) ∧ (v = 2 → x = 3) ∧ (v = 3 → x = 2) ∧ (v = 4 → x = 1) ∧ (v < 2 → x = 0)) : x = bnd c := by
  have h1 := rk_c c
  have h2 := bnd_c (k := c) (by omega)
  omega
theorem rk_ge {c : Int} (hc : 2 ≤ c ∧ c ≤ 15) (hb : 1 ≤ bnd c) : 2 ≤ rk c ∧ rk c ≤ 14 ∧ (c ≠ 4 → 3 ≤ rk c) ∧ (c = 4 → rk c = 2) := by
  have h1 := rk_c c
  have h2 := bnd_c (k := c) (by omega)
  omega
theorem bnd_pos {c : Int} (hc : 2 ≤ c ∧ c ≤ 15) (hb : ¬ rk c < 2) : 1 ≤ bnd c := by
  have h1 := rk_c c
  have h2 := bnd_c (k := c) (by omega)
  omega
theorem bnd_z {c : Int} (hc : 2 ≤ c ∧ c ≤ 15) (hb : bnd c < 1) : rk c < 2 := by
  have h1 := rk_c c
  have h2 := bnd_c (k := c) (by omega)
  omega
theorem jn_c {c : Int} (hc : 2 ≤ c ∧ c ≤ 14 ∧ c ≠ 4) : 1 ≤ bnd c ∧ bnd c ≤ 6 ∧ bnd c ≠ 3 ∧ 3 ≤ rk c ∧ rk c ≤ 14 := by
  have h1 := rk_c c
  have h2 := bnd_c (k := c) (by omega)
  omega
theorem rk_id {c : Int} (hc : 5 ≤ c ∧ c ≤ 14) : rk c = c := (rk_c c).2.2.2 (by omega) (by omega) (by omega)
def gK (Γ : zΓ) (w : Nat) (A : aS) (G : zH) : Prop := G.1 1021 w 0 = A 20 0 ∧ G.1 1045 w 0 = A 21 0 ∧ ∀ j : Nat, (j : Int) < A 20 0 → G.1 2074 (Γ.2.1 w 37) (64 + j) = rk (A 18 j) ∧ G.1 2075 (Γ.2.1 w 38) (64 + j) = A 27 j ∧ G.1 2076 (Γ.2.1 w 39) (64 + j) = A 28 j
def gE (Γ : zΓ) (w : Nat) (A : aS) (G : zH) : Prop := G.1 1042 w 0 = A 22 0 ∧ G.1 1043 w 0 = A 29 0 ∧ G.1 1044 w 0 = A 23 0 ∧ G.1 1046 w 0 = A 24 0 ∧ G.1 1047 w 0 = A 25 0 ∧ (∀ j : Nat, (j : Int) < A 22 0 → G.1 2077 (Γ.2.1 w 40) j = rk (A 26 j) ∧ 2 ≤ A 26 j ∧ A 26 j ≤ 15) ∧ (∀ j : Nat, (j : Int) < A 29 0 → G.1 2078 (Γ.2.1 w 41) j = A 30 j)
theorem gK_of {Γ : zΓ} {w : Nat} {A B : aS} {G G1 : zH} (hA : ∀ f j, f = 18 ∨ f = 20 ∨ f = 21 ∨ f = 27 ∨ f = 28 → B f j = A f j) (h1 : G1.1 1021 w 0 = G.1 1021 w 0) (h2 : G1.1 1045 w 0 = G.1 1045 w 0) (h3 : G1.1 2074 = G.1 2074) (h4 : G1.1 2075 = G.1 2075) (h5 : G1.1 2076 = G.1 2076) (h : gK Γ w A G) : gK Γ w B G1 := by
  obtain ⟨k1, k2, k3⟩ := h
  unfold gK
  rw [h1, h2, h3, h4, h5, hA 20 0 (by omega), hA 21 0 (by omega)]
  exact ⟨k1, k2, fun j hj => by rw [hA 18 j (by omega), hA 27 j (by omega), hA 28 j (by omega)]; exact k3 j hj⟩
theorem gE_of {Γ : zΓ} {w : Nat} {A B : aS} {G G1 : zH} (hA : ∀ f j, f = 22 ∨ f = 23 ∨ f = 24 ∨ f = 25 ∨ f = 26 ∨ f = 29 ∨ f = 30 → B f j = A f j) (h1 : G1.1 1042 w 0 = G.1 1042 w 0) (h2 : G1.1 1043 w 0 = G.1 1043 w 0) (h3 : G1.1 1044 w 0 = G.1 1044 w 0) (h4 : G1.1 1046 w 0 = G.1 1046 w 0) (h5 : G1.1 1047 w 0 = G.1 1047 w 0) (h6 : G1.1 2077 = G.1 2077) (h7 : G1.1 2078 = G.1 2078) (h : gE Γ w A G) : gE Γ w B G1 := by
  obtain ⟨k1, k2, k3, k4, k5, k6, k7⟩ := h
  unfold gE
  rw [h1, h2, h3, h4, h5, h6, h7, hA 22 0 (by omega), hA 23 0 (by omega), hA 24 0 (by omega), hA 25 0 (by omega), hA 29 0 (by omega)]
  exact ⟨k1, k2, k3, k4, k5, fun j hj => by rw [hA 26 j (by omega)]; exact k6 j hj, fun j hj => by rw [hA 30 j (by omega)]; exact k7 j hj⟩
/-- a sign waits -/
theorem gE_push {Γ : zΓ} {w : Nat} {A B : aS} {G G1 : zH} {k : Int} (hk : 2 ≤ k ∧ k ≤ 15) (h0 : 0 ≤ A 22 0) (b22 : B 22 0 = A 22 0 + 1) (b26 : ∀ j, B 26 j = if j = (A 22 0).toNat then k else A 26 j) (b29 : B 29 0 = A 29 0) (b30 : ∀ j, B 30 j = A 30 j) (e1 : G1.1 1042 w 0 = A 22 0 + 1) (e2 : G1.1 1043 w 0 = A 29 0) (e3 : G1.1 1044 w 0 = B 23 0) (e4 : G1.1 1046 w 0 = B 24 0) (e5 : G1.1 1047 w 0 = B 25 0) (h77 : ∀ j, G1.1 2077 (Γ.2.1 w 40) j = if j = (A 22 0).toNat then rk k else G.1 2077 (Γ.2.1 w 40) j) (h78 : ∀ j, G1.1 2078 (Γ.2.1 w 41) j = G.1 2078 (Γ.2.1 w 41) j) (h : gE Γ w A G) : gE Γ w B G1 := by
  obtain ⟨k1, k2, k3, k4, k5, k6, k7⟩ := h
  refine ⟨by rw [b22]; exact e1, by rw [b29]; exact e2, e3, e4, e5, fun j hj => ?_, fun j hj => by rw [h78, b30]; exact k7 j (by omega)⟩
  rw [h77, b26]
  by_cases q : j = (A 22 0).toNat
  · rw [if_pos q, if_pos q]
    exact ⟨rfl, hk⟩
  · rw [if_neg q, if_neg q]
    exact k6 j (by omega)
/-- a knot is written -/
theorem gK_add {Γ : zΓ} {w : Nat} {A B : aS} {G G1 : zH} {k p q : Int} (h0 : 0 ≤ A 20 0) (b20 : B 20 0 = A 20 0 + 1) (b18 : ∀ j, B 18 j = if j = (A 20 0).toNat then k else A 18 j) (b27 : ∀ j, B 27 j = if j = (A 20 0).toNat then p else A 27 j) (b28 : ∀ j, B 28 j = if j = (A 20 0).toNat then q else A 28 j) (e1 : G1.1 1021 w 0 = A 20 0 + 1) (e2 : G1.1 1045 w 0 = B 21 0) (h74 : ∀ j, G1.1 2074 (Γ.2.1 w 37) j = if j = (64 + A 20 0).toNat then rk k else G.1 2074 (Γ.2.1 w 37) j) (h75 : ∀ j, G1.1 2075 (Γ.2.1 w 38) j = if j = (64 + A 20 0).toNat then p else G.1 2075 (Γ.2.1 w 38) j) (h76 : ∀ j, G1.1 2076 (Γ.2.1 w 39) j = if j = (64 + A 20 0).toNat then q else G.1 2076 (Γ.2.1 w 39) j) (h : gK Γ w A G) : gK Γ w B G1 := by
  obtain ⟨k1, k2, k3⟩ := h
  refine ⟨by rw [b20]; exact e1, e2, fun j hj => ?_⟩
  rw [h74, h75, h76, b18, b27, b28]
  by_cases z : j = (A 20 0).toNat
  · rw [if_pos z, if_pos z, if_pos z, if_pos (by omega), if_pos (by omega), if_pos (by omega)]
    exact ⟨rfl, rfl, rfl⟩
  · rw [if_neg z, if_neg z, if_neg z, if_neg (by omega), if_neg (by omega), if_neg (by omega)]
    exact k3 j (by omega)
theorem sW_at {k q : Int} {A : aS} (h : A 20 0 < 64) : sWrite k q A = up (up (up A 18 (A 20 0).toNat k) 19 (A 20 0).toNat q) 20 0 (A 20 0 + 1) := if_pos h
theorem gOp_4 {A : aS} : gOp 4 A = up (up (up A 27 (A 20 0).toNat (A 30 (A 29 0 - 1).toNat)) 28 (A 20 0).toNat (-1)) 30 (A 29 0 - 1).toNat (A 20 0) := if_pos rfl
theorem gOp_n {k : Int} {A : aS} (h : k ≠ 4) : gOp k A = up (up (up (up A 27 (A 20 0).toNat (A 30 (A 29 0 - 2).toNat)) 28 (A 20 0).toNat (A 30 (A 29 0 - 1).toNat)) 30 (A 29 0 - 2).toNat (A 20 0)) 29 0 (A 29 0 - 1) := if_neg h
theorem bind_4 {Γ : zΓ} {w : Nat} {A : aS} {G G1 : zH} {c : Int} (hK : gK Γ w A G) (hE : gE Γ w A G) (hs : 0 ≤ A 20 0 ∧ A 20 0 < 64) (hw : 0 < A 22 0) (hc : c = 4) (hn : 1 ≤ A 29 0)
    (e42 : G1.1 1042 w 0 = A 22 0 - 1) (e43 : G1.1 1043 w 0 = A 29 0) (e44 : G1.1 1044 w 0 = A 23 0) (e46 : G1.1 1046 w 0 = A 24 0) (e47 : G1.1 1047 w 0 = A 25 0) (e21 : G1.1 1021 w 0 = A 20 0 + 1) (e45 : G1.1 1045 w 0 = A 21 0) (h77 : G1.1 2077 = G.1 2077)
    (h78 : ∀ j, G1.1 2078 (Γ.2.1 w 41) j = if j = (A 29 0 - 1).toNat then A 20 0 else G.1 2078 (Γ.2.1 w 41) j) (h74 : ∀ j, G1.1 2074 (Γ.2.1 w 37) j = if j = (64 + A 20 0).toNat then rk c else G.1 2074 (Γ.2.1 w 37) j) (h75 : ∀ j, G1.1 2075 (Γ.2.1 w 38) j = if j = (64 + A 20 0).toNat then A 30 (A 29 0 - 1).toNat else G.1 2075 (Γ.2.1 w 38) j) (h76 : ∀ j, G1.1 2076 (Γ.2.1 w 39) j = if j = (64 + A 20 0).toNat then -1 else G.1 2076 (Γ.2.1 w 39) j) :
    gK Γ w (sWrite c 0 (gOp c (up A 22 0 (A 22 0 - 1)))) G1 ∧ gE Γ w (sWrite c 0 (gOp c (up A 22 0 (A 22 0 - 1)))) G1 := by
  subst hc
  have z : (up A 22 0 (A 22 0 - 1)) 20 0 = A 20 0 := up_f (by decide)
  have z29 : (up A 22 0 (A 22 0 - 1)) 29 0 = A 29 0 := up_f (by decide)
  rw [sW_at (by rw [gOp_f (by decide), z]; exact hs.2), gOp_f (by decide), gOp_4, z, z29]
  constructor
  · refine gK_add (A := A) (G := G) (k := 4) (p := A 30 (A 29 0 - 1).toNat) (q := -1) hs.1 ?_ (fun j => ?_) (fun j => ?_) (fun j => ?_) e21 ?_ h74 h75 h76 hK
    · simp (disch := decide) only [sNext_f, up_f, up_eq, up_at]
    · simp (disch := decide) only [sNext_f, up_f, up_eq, up_at]
    · simp (disch := decide) only [sNext_f, up_f, up_eq, up_at]
    · simp (disch := decide) only [sNext_f, up_f, up_eq, up_at]
    · simp (disch := decide) only [sNext_f, up_f, up_eq, up_at]
      exact e45
  · obtain ⟨k1, k2, k3, k4, k5, k6, k7⟩ := hE
    refine ⟨by simp (disch := decide) only [sNext_f, up_f, up_eq, up_at]; exact e42, by simp (disch := decide) only [sNext_f, up_f, up_eq, up_at]; exact e43, by simp (disch := decide) only [sNext_f, up_f, up_eq, up_at]; exact e44, by simp (disch := decide) only [sNext_f, up_f, up_eq, up_at]; exact e46, by simp (disch := decide) only [sNext_f, up_f, up_eq, up_at]; exact e47, fun j hj => ?_, fun j hj => ?_⟩
    · (simp (disch := decide) only [sNext_f, up_f, up_eq, up_at] at hj)
      simp (disch := decide) only [sNext_f, up_f, up_eq, up_at]
      rw [h77]
      exact k6 j (by omega)
    · (simp (disch := decide) only [sNext_f, up_f, up_eq, up_at] at hj)
      simp (disch := decide) only [sNext_f, up_f, up_eq, up_at]
      rw [h78]
      split
      · rfl
      · exact k7 j (by omega)
theorem bind_n {Γ : zΓ} {w : Nat} {A : aS} {G G1 : zH} {c : Int} (hK : gK Γ w A G) (hE : gE Γ w A G) (hs : 0 ≤ A 20 0 ∧ A 20 0 < 64) (hw : 0 < A 22 0) (hc : c ≠ 4) (hn : 2 ≤ A 29 0)
    (e42 : G1.1 1042 w 0 = A 22 0 - 1) (e43 : G1.1 1043 w 0 = A 29 0 - 1) (e44 : G1.1 1044 w 0 = A 23 0) (e46 : G1.1 1046 w 0 = A 24 0) (e47 : G1.1 1047 w 0 = A 25 0) (e21 : G1.1 1021 w 0 = A 20 0 + 1) (e45 : G1.1 1045 w 0 = A 21 0) (h77 : G1.1 2077 = G.1 2077)
    (h78 : ∀ j, G1.1 2078 (Γ.2.1 w 41) j = if j = (A 29 0 - 2).toNat then A 20 0 else G.1 2078 (Γ.2.1 w 41) j) (h74 : ∀ j, G1.1 2074 (Γ.2.1 w 37) j = if j = (64 + A 20 0).toNat then rk c else G.1 2074 (Γ.2.1 w 37) j) (h75 : ∀ j, G1.1 2075 (Γ.2.1 w 38) j = if j = (64 + A 20 0).toNat then A 30 (A 29 0 - 2).toNat else G.1 2075 (Γ.2.1 w 38) j) (h76 : ∀ j, G1.1 2076 (Γ.2.1 w 39) j = if j = (64 + A 20 0).toNat then A 30 (A 29 0 - 1).toNat else G.1 2076 (Γ.2.1 w 39) j) :
    gK Γ w (sWrite c 0 (gOp c (up A 22 0 (A 22 0 - 1)))) G1 ∧ gE Γ w (sWrite c 0 (gOp c (up A 22 0 (A 22 0 - 1)))) G1 := by
  have z : (up A 22 0 (A 22 0 - 1)) 20 0 = A 20 0 := up_f (by decide)
  have z29 : (up A 22 0 (A 22 0 - 1)) 29 0 = A 29 0 := up_f (by decide)
  rw [sW_at (by rw [gOp_f (by decide), z]; exact hs.2), gOp_f (by decide), gOp_n hc, z, z29]
  constructor
  · refine gK_add (A := A) (G := G) (k := c) (p := A 30 (A 29 0 - 2).toNat) (q := A 30 (A 29 0 - 1).toNat) hs.1 ?_ (fun j => ?_) (fun j => ?_) (fun j => ?_) e21 ?_ h74 h75 h76 hK
    · simp (disch := decide) only [sNext_f, up_f, up_eq, up_at]
    · simp (disch := decide) only [sNext_f, up_f, up_eq, up_at]
    · simp (disch := decide) only [sNext_f, up_f, up_eq, up_at]
    · simp (disch := decide) only [sNext_f, up_f, up_eq, up_at]
    · simp (disch := decide) only [sNext_f, up_f, up_eq, up_at]
      exact e45
  · obtain ⟨k1, k2, k3, k4, k5, k6, k7⟩ := hE
    refine ⟨by simp (disch := decide) only [sNext_f, up_f, up_eq, up_at]; exact e42, by simp (disch := decide) only [sNext_f, up_f, up_eq, up_at]; exact e43, by simp (disch := decide) only [sNext_f, up_f, up_eq, up_at]; exact e44, by simp (disch := decide) only [sNext_f, up_f, up_eq, up_at]; exact e46, by simp (disch := decide) only [sNext_f, up_f, up_eq, up_at]; exact e47, fun j hj => ?_, fun j hj => ?_⟩
    · (simp (disch := decide) only [sNext_f, up_f, up_eq, up_at] at hj)
      simp (disch := decide) only [sNext_f, up_f, up_eq, up_at]
      rw [h77]
      exact k6 j (by omega)
    · (simp (disch := decide) only [sNext_f, up_f, up_eq, up_at] at hj)
      simp (disch := decide) only [sNext_f, up_f, up_eq, up_at]
      rw [h78]
      split
      · rfl
      · exact k7 j (by omega)

theorem gK_sm {Γ : zΓ} {w : Nat} {A : aS} {G G1 : zH} {rs : List Nat} (hs : zsm rs G G1) (hr : ∀ r ∈ [1021, 1045, 2074, 2075, 2076], r ∉ rs) (h : gK Γ w A G) : gK Γ w A G1 := by
  unfold gK at *
  rw [hs.1 1021 (hr _ (by decide)), hs.1 1045 (hr _ (by decide)), hs.1 2074 (hr _ (by decide)), hs.1 2075 (hr _ (by decide)), hs.1 2076 (hr _ (by decide))]
  exact h
theorem gK_I {Γ : zΓ} {w : Nat} {A : aS} {G : zH} {r a i : Nat} {x : Int} (hr : ∀ r' ∈ [1021, 1045, 2074, 2075, 2076], r' ≠ r) (h : gK Γ w A G) : gK Γ w A (zuI G r a i x) :=
  gK_sm (rs := [r]) (zsm_I (by simp) zsm_rf) (fun r' h' q => hr r' h' (List.mem_singleton.mp q)) h

theorem gE_sm {Γ : zΓ} {w : Nat} {A : aS} {G G1 : zH} {rs : List Nat} (hs : zsm rs G G1) (hr : ∀ r ∈ [1042, 1043, 1044, 1046, 1047, 2077, 2078], r ∉ rs) (h : gE Γ w A G) : gE Γ w A G1 := by
  unfold gE at *
  rw [hs.1 1042 (hr _ (by decide)), hs.1 1043 (hr _ (by decide)), hs.1 1044 (hr _ (by decide)), hs.1 1046 (hr _ (by decide)), hs.1 1047 (hr _ (by decide)), hs.1 2077 (hr _ (by decide)), hs.1 2078 (hr _ (by decide))]
  exact h
theorem gE_I {Γ : zΓ} {w : Nat} {A : aS} {G : zH} {r a i : Nat} {x : Int} (hr : ∀ r' ∈ [1042, 1043, 1044, 1046, 1047, 2077, 2078], r' ≠ r) (h : gE Γ w A G) : gE Γ w A (zuI G r a i x) :=
  gE_sm (rs := [r]) (zsm_I (by simp) zsm_rf) (fun r' h' q => hr r' h' (List.mem_singleton.mp q)) h

set_option maxHeartbeats 4000000 in
set_option maxRecDepth 100000 in
theorem c_X9_nameMetG {l : Launch} {Γ : zΓ} {G : zH} {w : Nat}  (hX : zXs Γ)  : zMet l Γ yX9_nameMet cX9_nameMet 1 (some .int) 0 [zr 10 w] G (zpi (fun x G' => G' = G ∧ (-1 ≤ x ∧ (x ≠ -1 → G.1 1008 w 0 = 1 ∧ 17 ≤ G.1 1009 w 0 ∧ x = G.1 1009 w 0 - 17) ∧ (x = -1 → ¬ (G.1 1008 w 0 = 1 ∧ 17 ≤ G.1 1009 w 0))))) := by
  refine zMet_of RX9 hX (by decide) rfl (Nat.le_of_ble_eq_true rfl) ?_
  intro p e s m args below meth c C hr hlk
  show Z p l e (zrm 0) s m args below meth c Γ 1 0 0 (MQ below (zQc Γ (zpi (fun x G' => G' = G ∧ (-1 ≤ x ∧ (x ≠ -1 → G.1 1008 w 0 = 1 ∧ 17 ≤ G.1 1009 w 0 ∧ x = G.1 1009 w 0 - 17) ∧ (x = -1 → ¬ (G.1 1008 w 0 = 1 ∧ 17 ≤ G.1 1009 w 0)))))) args s 0 0 (zA Γ)) 0 [some (zr 10 w)] [] G
  refine zs_aload_n (pc := 0) C dX9_nameMet_0 rfl ?_
  refine zs_geti (r := 1008) (pc := 1) C dX9_nameMet_1 w_X9_196 f_10_8 rfl (r_1008 0) (fun v1 e1 l1 u1 => ?_)
  refine zs_iconst (pc := 4) C dX9_nameMet_4 (by decide) ?_
  refine zs_icmp_ne (tgt := 27) (pc := 5) C dX9_nameMet_5 (by decide) (fun h5 => ?_) (fun h5 => ?_)
  · skip
    refine zs_iconst (pc := 27) C dX9_nameMet_27 (by decide) ?_
    exact zs_iret (pc := 28) C hr hlk dX9_nameMet_28 ⟨rfl, by first | omega | (simp only [zuI_1, zuI_2, zuJ_1, zuJ_2, zuJ_3, zuP_1, zuP_2, zuP_3, zuC_1, zuC_2, reduceIte, Nat.reduceEqDiff, false_and, and_false, true_and, and_true, and_self, or_true, true_or, or_false, false_or]; omega)⟩
  · skip
    refine zs_aload_n (pc := 8) C dX9_nameMet_8 rfl ?_
    refine zs_geti (r := 1009) (pc := 9) C dX9_nameMet_9 w_X9_207 f_10_9 rfl (r_1009 0) (fun v9 e9 l9 u9 => ?_)
    refine zs_bipush (pc := 12) C dX9_nameMet_12 (by decide) (by decide) ?_
    refine zs_icmp_lt (tgt := 27) (pc := 14) C dX9_nameMet_14 (by decide) (fun h14 => ?_) (fun h14 => ?_)
    · skip
      refine zs_iconst (pc := 27) C dX9_nameMet_27 (by decide) ?_
      exact zs_iret (pc := 28) C hr hlk dX9_nameMet_28 ⟨rfl, by first | omega | (simp only [zuI_1, zuI_2, zuJ_1, zuJ_2, zuJ_3, zuP_1, zuP_2, zuP_3, zuC_1, zuC_2, reduceIte, Nat.reduceEqDiff, false_and, and_false, true_and, and_true, and_self, or_true, true_or, or_false, false_or]; omega)⟩
    · skip
      refine zs_aload_n (pc := 17) C dX9_nameMet_17 rfl ?_
      refine zs_geti (r := 1009) (pc := 18) C dX9_nameMet_18 w_X9_207 f_10_9 rfl (r_1009 0) (fun v18 e18 l18 u18 => ?_)
      refine zs_bipush (pc := 21) C dX9_nameMet_21 (by decide) (by decide) ?_
      first | refine zs_isub (pc := 23) C dX9_nameMet_23 (by omega) ?_ | refine zs_isubF (pc := 23) C dX9_nameMet_23 (fun z23 hz231 hz232 => ?_)
      refine zs_goto (tgt := 28) (pc := 24) C dX9_nameMet_24 (by decide) ?_
      exact zs_iret (pc := 28) C hr hlk dX9_nameMet_28 ⟨rfl, by first | omega | (simp only [zuI_1, zuI_2, zuJ_1, zuJ_2, zuJ_3, zuP_1, zuP_2, zuP_3, zuC_1, zuC_2, reduceIte, Nat.reduceEqDiff, false_and, and_false, true_and, and_true, and_self, or_true, true_or, or_false, false_or]; omega)⟩
end
section
theorem dgn_ge {b : Nat → Int} {n : Int} : ∀ (k : Nat) (p a : Int), 0 ≤ a → 0 ≤ dgn b n k p a
  | 0, _, a, h => h
  | k + 1, p, a, h => by
    rw [dgn]
    split
    · rename_i h1
      have h2 := fD_i.mp h1.2
      exact dgn_ge k _ _ (by omega)
    · exact h
theorem tkV_3 {b : Nat → Int} {n : Int} {A : aS} (h : tK b n A = 3) : 0 ≤ tV b n A := by
  unfold tK tkK at h
  unfold tV tkV
  split at h
  · exact absurd h (by decide)
  · rename_i h1
    rw [if_neg h1]
    split at h
    · split at h
      · exact absurd h (by decide)
      · split at h <;> exact absurd h (by decide)
    · rename_i h2
      rw [if_neg h2]
      split at h
      · rename_i h3
        rw [if_pos h3]
        exact dgn_ge _ _ _ (by decide)
      · split at h <;> exact absurd h (by decide)
theorem sNext_00 {b : Nat → Int} {n : Int} {A B : aS} (e : A 0 0 = B 0 0) : (sNext b n A) 0 0 = (sNext b n B) 0 0 := by
  obtain ⟨-, h, -⟩ := tk_00 (b := b) (n := n) e
  unfold sNext
  rw [h, e]
  split
  · rw [up_eq, up_eq]
  · exact e
theorem gT_adv {b : Nat → Int} {n : Int} {Γ : zΓ} {w : Nat} {A : aS} {G G1 : zH} (h : gT b n Γ w A G) (h1 : gT b n Γ w (sNext b n A) G1) (hk : tK b n A ≠ 0) : G.1 1010 w 0 < G1.1 1010 w 0 := by
  rw [h.2.2.2.2.1, h1.2.2.2.2.1, (tP_next h.2.2.1 h.2.2.2.1).1]
  have q := tkN_gt (b := b) (tK_lt.mp hk)
  have q2 := sp_ge (f := fB) (b := b) (n := n) (p := tkN b n (tP b n A))
  rw [← sk] at q2
  omega
theorem sCount_64 {b : Nat → Int} {n : Int} {A : aS} (h : 64 ≤ A 21 0) : sCount b n A = sFail b n 2 A := by
  have hc : sCnt b n A = sFail b n 2 A := if_pos h
  unfold sCount
  rw [hc, if_neg (sFail_f (by decide))]
theorem sCount_lt {b : Nat → Int} {n : Int} {A : aS} (h0 : A 1 0 = 0) (h : A 21 0 < 64) : sCount b n A = up A 21 0 (A 21 0 + 1) := by
  have hc : sCnt b n A = A := if_neg (by omega)
  unfold sCount
  rw [hc, if_pos h0]
def gX (b : Nat → Int) (n : Int) (Γ : zΓ) (w : Nat) (A : aS) (G : zH) : Prop := gT b n Γ w A G ∧ gK Γ w A G ∧ gE Γ w A G ∧ A 1 0 = 0 ∧ G.1 1004 w 0 = 0 ∧ G.1 1005 w 0 = A 2 0
theorem sPush_at {b : Nat → Int} {n k : Int} {A : aS} (h : A 22 0 < 72) : sPush b n k A = sNext b n (up (up A 26 (A 22 0).toNat k) 22 0 (A 22 0 + 1)) := if_pos h
theorem sLeaf_ok {b : Nat → Int} {n k q : Int} {A : aS} (h0 : A 1 0 = 0) (h : A 21 0 < 64) (hs : A 20 0 < 64) : sLeaf b n k q A = sNext b n (up (up (up (up (up (up (up (up (up A 21 0 (A 21 0 + 1)) 27 (A 20 0).toNat q) 28 (A 20 0).toNat 0) 30 (A 29 0).toNat (A 20 0)) 29 0 (A 29 0 + 1)) 18 (A 20 0).toNat k) 19 (A 20 0).toNat q) 20 0 (A 20 0 + 1)) 24 0 0) := by
  unfold sLeaf
  rw [sCount_lt h0 h, if_pos (by rw [up_f (by decide)]; exact h0)]
  unfold gLeaf
  rw [sW_at (by simp (disch := decide) only [up_f, up_eq]; exact hs)]
  simp (disch := decide) only [up_f, up_eq]
theorem sSide_open {b : Nat → Int} {n : Int} {A : aS} (h : tK b n A = 4 ∧ tV b n A = 15) : sSide b n A = sOpen b n A := if_pos h
theorem sSide_op {b : Nat → Int} {n : Int} {A : aS} (h : tK b n A = 4 ∧ tV b n A = 15) (h8 : A 23 0 < 8) (h72 : A 22 0 < 72) : sSide b n A = sNext b n (up (up (up (up A 23 0 (A 23 0 + 1)) 25 0 1) 26 (A 22 0).toNat 15) 22 0 (A 22 0 + 1)) := by
  rw [sSide_open h]
  unfold sOpen
  rw [if_neg (by omega), sPush_at (by simp (disch := decide) only [up_f]; omega)]
  simp (disch := decide) only [up_f]
theorem sSide_op8 {b : Nat → Int} {n : Int} {A : aS} (h : tK b n A = 4 ∧ tV b n A = 15) (h8 : 8 ≤ A 23 0) : sSide b n A = sFail b n 2 A := by
  rw [sSide_open h]
  unfold sOpen
  rw [if_pos h8]
theorem sSide_not {b : Nat → Int} {n : Int} {A : aS} (h : tK b n A = 2 ∧ tV b n A = 16) (hm : A 25 0 ≠ 0) : sSide b n A = sNot b n A := by
  have e := (tW_c (b := b) (n := n) (A := A)).1 h.1
  unfold sSide
  rw [if_neg (by omega), if_pos (by omega)]
theorem sSide_nt {b : Nat → Int} {n : Int} {A : aS} (h : tK b n A = 2 ∧ tV b n A = 16) (hm : A 25 0 ≠ 0) (h0 : A 1 0 = 0) (h64 : A 21 0 < 64) (h72 : A 22 0 < 72) : sSide b n A = sNext b n (up (up (up A 21 0 (A 21 0 + 1)) 26 (A 22 0).toNat 4) 22 0 (A 22 0 + 1)) := by
  rw [sSide_not h hm]
  unfold sNot
  rw [sCount_lt h0 h64, if_pos (by rw [up_f (by decide)]; exact h0), sPush_at (by simp (disch := decide) only [up_f]; omega)]
  simp (disch := decide) only [up_f]
theorem sSide_nt64 {b : Nat → Int} {n : Int} {A : aS} (h : tK b n A = 2 ∧ tV b n A = 16) (hm : A 25 0 ≠ 0) (h64 : 64 ≤ A 21 0) : sSide b n A = sFail b n 2 A := by
  rw [sSide_not h hm]
  unfold sNot
  rw [sCount_64 h64, if_neg (sFail_f (by decide))]
theorem sSide_num {b : Nat → Int} {n : Int} {A : aS} (h : tK b n A = 3) (hv : tV b n A ≤ 9999) : sSide b n A = sLeaf b n 0 (tV b n A) A := by
  have e := (tW_c (b := b) (n := n) (A := A)).2 (by omega)
  unfold sSide
  rw [if_neg (by omega), if_neg (by omega), if_pos h, if_neg (by omega)]
theorem sSide_big {b : Nat → Int} {n : Int} {A : aS} (h : tK b n A = 3) (hv : 9999 < tV b n A) : sSide b n A = sFail b n 2 A := by
  have e := (tW_c (b := b) (n := n) (A := A)).2 (by omega)
  unfold sSide
  rw [if_neg (by omega), if_neg (by omega), if_pos h, if_pos hv]
  unfold sLeaf
  rw [sCount_ne (sFail_f (by decide)), if_neg (sFail_f (by decide))]
theorem sSide_name {b : Nat → Int} {n : Int} {A : aS} (h : tK b n A = 2) (hv : 17 ≤ tV b n A) : sSide b n A = sLeaf b n 1 (tV b n A - 17) A := by
  have e := (tW_c (b := b) (n := n) (A := A)).1 h
  unfold sSide
  rw [if_neg (by omega), if_neg (by omega), if_neg (by omega), if_pos (by omega), e]
theorem sSide_no {b : Nat → Int} {n : Int} {A : aS} (h1 : ¬ (tK b n A = 4 ∧ tV b n A = 15)) (h2 : ¬ (tK b n A = 2 ∧ tV b n A = 16 ∧ A 25 0 ≠ 0)) (h3 : tK b n A ≠ 3) (h4 : ¬ (tK b n A = 2 ∧ 17 ≤ tV b n A)) : sSide b n A = sFail b n 1 A := by
  have e := tW_c (b := b) (n := n) (A := A)
  unfold sSide
  rw [if_neg h1, if_neg (by omega), if_neg h3, if_neg (by omega)]
theorem sLeaf_64 {b : Nat → Int} {n k q : Int} {A : aS} (h : 64 ≤ A 21 0) : sLeaf b n k q A = sFail b n 2 A := by
  unfold sLeaf
  rw [sCount_64 h, if_neg (sFail_f (by decide))]
/-- a side that is a name or a number: which of them, and what it is -/
def lfX (b : Nat → Int) (n : Int) (A : aS) (x v : Int) : Prop := (0 ≤ x ∧ x ≤ 6 ∧ tK b n A = 2 ∧ 17 ≤ tV b n A ∧ x = tV b n A - 17) ∨ (x < 0 ∧ tK b n A = 3 ∧ v = tV b n A ∧ tV b n A ≤ 9999)
theorem lfX_s {b : Nat → Int} {n : Int} {A : aS} {x v : Int} (h : lfX b n A x v) : (0 ≤ x → x ≤ 6 ∧ sSide b n A = sLeaf b n 1 x A) ∧ (x < 0 → 0 ≤ v ∧ v ≤ 9999 ∧ sSide b n A = sLeaf b n 0 v A) ∧ tK b n A ≠ 0 := by
  rcases h with ⟨h1, h2, h3, h4, h5⟩ | ⟨h1, h2, h3, h4⟩
  · exact ⟨fun _ => ⟨h2, by rw [sSide_name h3 h4, h5]⟩, fun q => by omega, by omega⟩
  · refine ⟨fun q => by omega, fun _ => ⟨?_, by omega, by rw [sSide_num h2 h4, h3]⟩, by omega⟩
    rw [h3]
    exact tkV_3 h2
theorem nm_c {b : Nat → Int} {n : Int} {Γ : zΓ} {w : Nat} {A : aS} {G : zH} {x : Int} (hG : gT b n Γ w A G) (h : -1 ≤ x ∧ (x ≠ -1 → G.1 1008 w 0 = 1 ∧ 17 ≤ G.1 1009 w 0 ∧ x = G.1 1009 w 0 - 17) ∧ (x = -1 → ¬ (G.1 1008 w 0 = 1 ∧ 17 ≤ G.1 1009 w 0))) : (x = -1 ∧ ¬ (tK b n A = 2 ∧ 17 ≤ tV b n A)) ∨ (0 ≤ x ∧ x ≤ 6 ∧ tK b n A = 2 ∧ 17 ≤ tV b n A ∧ x = tV b n A - 17) := by
  have h1 := gT_key hG
  by_cases q : x = -1
  · refine Or.inl ⟨q, fun q2 => h.2.2 q ?_⟩
    have h2 := h1.2 q2.1
    exact ⟨h1.1.mpr q2.1, by omega⟩
  · have h3 := h.2.1 q
    have h4 := h1.1.mp h3.1
    have h2 := h1.2 h4
    refine Or.inr ?_
    omega
theorem gT_kw {b : Nat → Int} {n : Int} {Γ : zΓ} {w : Nat} {A : aS} {G : zH} (hG : gT b n Γ w A G) {k v : Int} (hk : (k = 9 ∧ v = 2) ∨ (k = 14 ∧ v = 15) ∨ (k = 15 ∧ v = 14) ∨ (k = 16 ∧ v = 16)) : (G.1 1008 w 0 = 1 ∧ G.1 1009 w 0 = k) ↔ (tK b n A = 2 ∧ tV b n A = v) := by
  have q8 := gT_key hG
  constructor
  · intro q
    have q6 := q8.1.mp q.1
    have q5 := q8.2 q6
    rcases hk with ⟨rfl, rfl⟩ | ⟨rfl, rfl⟩ | ⟨rfl, rfl⟩ | ⟨rfl, rfl⟩ <;> omega
  · intro q
    have q5 := q8.2 q.1
    refine ⟨q8.1.mpr q.1, ?_⟩
    rcases hk with ⟨rfl, rfl⟩ | ⟨rfl, rfl⟩ | ⟨rfl, rfl⟩ | ⟨rfl, rfl⟩ <;> omega

theorem gX_push {b : Nat → Int} {n k : Int} {Γ : zΓ} {w : Nat} {A B C : aS} {G G1 : zH} (hk : 2 ≤ k ∧ k ≤ 15) (h0 : 0 ≤ A 22 0) (hT : gT b n Γ w (sNext b n A) G1) (hK : gK Γ w A G) (hE : gE Γ w A G)
    (hB : B = sNext b n (up (up C 26 (A 22 0).toNat k) 22 0 (A 22 0 + 1))) (c0 : C 0 0 = A 0 0) (c1 : C 1 0 = 0) (c2 : C 2 0 = A 2 0) (cK : ∀ f j, f = 18 ∨ f = 20 ∨ f = 27 ∨ f = 28 → C f j = A f j) (cE : ∀ f j, f = 26 ∨ f = 29 ∨ f = 30 → C f j = A f j)
    (e4 : G1.1 1004 w 0 = 0) (e5 : G1.1 1005 w 0 = A 2 0) (e42 : G1.1 1042 w 0 = A 22 0 + 1) (e43 : G1.1 1043 w 0 = A 29 0) (e44 : G1.1 1044 w 0 = C 23 0) (e46 : G1.1 1046 w 0 = C 24 0) (e47 : G1.1 1047 w 0 = C 25 0) (e21 : G1.1 1021 w 0 = A 20 0) (e45 : G1.1 1045 w 0 = C 21 0)
    (h74 : G1.1 2074 = G.1 2074) (h75 : G1.1 2075 = G.1 2075) (h76 : G1.1 2076 = G.1 2076) (h78 : G1.1 2078 = G.1 2078) (h77 : ∀ j, G1.1 2077 (Γ.2.1 w 40) j = if j = (A 22 0).toNat then rk k else G.1 2077 (Γ.2.1 w 40) j) : gX b n Γ w B G1 := by
  subst hB
  refine ⟨gT_A (A := sNext b n A) (sNext_00 (by rw [up_f (by decide), up_f (by decide)]; exact c0.symm)) hT, ?_, ?_, ?_, e4, ?_⟩
  · refine ⟨?_, ?_, fun j hj => ?_⟩
    · simp (disch := decide) only [sNext_f, up_f, up_eq, up_at]
      rw [cK 20 0 (by omega)]
      exact e21
    · simp (disch := decide) only [sNext_f, up_f, up_eq, up_at]
      exact e45
    · (simp (disch := decide) only [sNext_f, up_f, up_eq, up_at] at hj)
      rw [cK 20 0 (by omega)] at hj
      simp (disch := decide) only [sNext_f, up_f, up_eq, up_at]
      rw [cK 18 j (by omega), cK 27 j (by omega), cK 28 j (by omega), h74, h75, h76]
      exact hK.2.2 j hj
  · refine gE_push (A := A) (G := G) (k := k) hk h0 ?_ (fun j => ?_) ?_ (fun j => ?_) e42 e43 ?_ ?_ ?_ h77 (fun j => by rw [h78]) hE
    · simp (disch := decide) only [sNext_f, up_f, up_eq, up_at]
    · simp (disch := decide) only [sNext_f, up_f, up_eq, up_at]
      rw [cE 26 j (by omega)]
    · simp (disch := decide) only [sNext_f, up_f, up_eq, up_at]
      exact cE 29 0 (by omega)
    · simp (disch := decide) only [sNext_f, up_f, up_eq, up_at]
      exact cE 30 j (by omega)
    · simp (disch := decide) only [sNext_f, up_f, up_eq, up_at]
      exact e44
    · simp (disch := decide) only [sNext_f, up_f, up_eq, up_at]
      exact e46
    · simp (disch := decide) only [sNext_f, up_f, up_eq, up_at]
      exact e47
  · simp (disch := decide) only [sNext_f, up_f, up_eq, up_at]
    exact c1
  · simp (disch := decide) only [sNext_f, up_f, up_eq, up_at]
    rw [c2]
    exact e5
theorem gX_leaf {b : Nat → Int} {n k q : Int} {Γ : zΓ} {w : Nat} {A B : aS} {G G1 : zH} (h20 : 0 ≤ A 20 0) (h29 : 0 ≤ A 29 0) (h0 : A 1 0 = 0) (hT : gT b n Γ w (sNext b n A) G1) (hK : gK Γ w A G) (hE : gE Γ w A G)
    (hB : B = sNext b n (up (up (up (up (up (up (up (up (up A 21 0 (A 21 0 + 1)) 27 (A 20 0).toNat q) 28 (A 20 0).toNat 0) 30 (A 29 0).toNat (A 20 0)) 29 0 (A 29 0 + 1)) 18 (A 20 0).toNat k) 19 (A 20 0).toNat q) 20 0 (A 20 0 + 1)) 24 0 0))
    (e4 : G1.1 1004 w 0 = 0) (e5 : G1.1 1005 w 0 = A 2 0) (e42 : G1.1 1042 w 0 = A 22 0) (e43 : G1.1 1043 w 0 = A 29 0 + 1) (e44 : G1.1 1044 w 0 = A 23 0) (e46 : G1.1 1046 w 0 = 0) (e47 : G1.1 1047 w 0 = A 25 0) (e21 : G1.1 1021 w 0 = A 20 0 + 1) (e45 : G1.1 1045 w 0 = A 21 0 + 1) (h77 : G1.1 2077 = G.1 2077)
    (h78 : ∀ j, G1.1 2078 (Γ.2.1 w 41) j = if j = (A 29 0).toNat then A 20 0 else G.1 2078 (Γ.2.1 w 41) j) (h74 : ∀ j, G1.1 2074 (Γ.2.1 w 37) j = if j = (64 + A 20 0).toNat then rk k else G.1 2074 (Γ.2.1 w 37) j) (h75 : ∀ j, G1.1 2075 (Γ.2.1 w 38) j = if j = (64 + A 20 0).toNat then q else G.1 2075 (Γ.2.1 w 38) j) (h76 : ∀ j, G1.1 2076 (Γ.2.1 w 39) j = if j = (64 + A 20 0).toNat then 0 else G.1 2076 (Γ.2.1 w 39) j) : gX b n Γ w B G1 := by
  subst hB
  refine ⟨gT_A (A := sNext b n A) (sNext_00 (by simp (disch := decide) only [up_f])) hT, ?_, ?_, ?_, e4, ?_⟩
  · refine gK_add (A := A) (G := G) (k := k) (p := q) (q := 0) h20 ?_ (fun j => ?_) (fun j => ?_) (fun j => ?_) e21 ?_ h74 h75 h76 hK
    · simp (disch := decide) only [sNext_f, up_f, up_eq, up_at]
    · simp (disch := decide) only [sNext_f, up_f, up_eq, up_at]
    · simp (disch := decide) only [sNext_f, up_f, up_eq, up_at]
    · simp (disch := decide) only [sNext_f, up_f, up_eq, up_at]
    · simp (disch := decide) only [sNext_f, up_f, up_eq, up_at]
      exact e45
  · obtain ⟨k1, k2, k3, k4, k5, k6, k7⟩ := hE
    refine ⟨by simp (disch := decide) only [sNext_f, up_f, up_eq, up_at]; exact e42, by simp (disch := decide) only [sNext_f, up_f, up_eq, up_at]; exact e43, by simp (disch := decide) only [sNext_f, up_f, up_eq, up_at]; exact e44, by simp (disch := decide) only [sNext_f, up_f, up_eq, up_at]; exact e46, by simp (disch := decide) only [sNext_f, up_f, up_eq, up_at]; exact e47, fun j hj => ?_, fun j hj => ?_⟩
    · (simp (disch := decide) only [sNext_f, up_f, up_eq, up_at] at hj)
      simp (disch := decide) only [sNext_f, up_f, up_eq, up_at]
      rw [h77]
      exact k6 j hj
    · (simp (disch := decide) only [sNext_f, up_f, up_eq, up_at] at hj)
      simp (disch := decide) only [sNext_f, up_f, up_eq, up_at]
      rw [h78]
      split
      · rfl
      · exact k7 j (by omega)
  · simp (disch := decide) only [sNext_f, up_f, up_eq, up_at]
    exact h0
  · simp (disch := decide) only [sNext_f, up_f, up_eq, up_at]
    exact e5
end
section
theorem sSemi_ne {b : Nat → Int} {n : Int} {A : aS} (h : A 1 0 ≠ 0) : sSemi b n A = A := by
  unfold sSemi
  split
  · rfl
  · exact sFail_1 h
theorem FT_same {w : Nat} {A B : aS} {G : zH} (h : FT w A G) (h1 : B 1 0 = A 1 0) (h2 : B 2 0 = A 2 0) : FT w B G := by
  unfold FT at *
  rw [h1, h2]
  exact h
theorem FT_semi {b : Nat → Int} {n : Int} {w : Nat} {A B : aS} {G : zH} (h : FT w (sSemi b n A) G) (h0 : B 0 0 = A 0 0) (h1 : B 1 0 = A 1 0) (h2 : B 2 0 = A 2 0) : FT w (sSemi b n B) G := by
  obtain ⟨p0, p1, p2, -⟩ := tk_00 (b := b) (n := n) h0
  refine FT_same h ?_ ?_
  · unfold sSemi
    rw [p1, p2]
    split
    · exact h1
    · unfold sFail
      rw [h1, p0]
      split
      · simp (disch := decide) only [up_f, up_eq]
      · exact h1
  · unfold sSemi
    rw [p1, p2]
    split
    · exact h2
    · unfold sFail
      rw [h1, p0]
      split
      · rw [up_eq, up_eq]
      · exact h2
theorem sKnot_s {b : Nat → Int} {n : Int} {A : aS} (h : tK b n A = 4 ∧ 5 ≤ tV b n A ∧ tV b n A ≤ 14) : sKnot b n A = tV b n A := if_pos h
theorem sKnot_w {b : Nat → Int} {n : Int} {A : aS} (h : tK b n A = 2) : (tV b n A = 14 → sKnot b n A = 2) ∧ (tV b n A = 15 → sKnot b n A = 3) := by
  have e : tW b n A = tV b n A := tW_c.1 h
  unfold sKnot
  rw [if_neg (by omega), e]
  exact ⟨fun q => by rw [if_pos q], fun q => by rw [if_neg (by omega), if_pos q]⟩
theorem sKnot_n {b : Nat → Int} {n : Int} {A : aS} (h1 : ¬ (tK b n A = 4 ∧ 5 ≤ tV b n A ∧ tV b n A ≤ 14)) (h2 : ¬ (tK b n A = 2 ∧ tV b n A = 15)) (h3 : ¬ (tK b n A = 2 ∧ tV b n A = 14)) : sKnot b n A = -1 := by
  have e := tW_c (b := b) (n := n) (A := A)
  unfold sKnot
  rw [if_neg h1, if_neg (by omega), if_neg (by omega)]
theorem sBeh_close {b : Nat → Int} {n : Int} {A : aS} (h : tK b n A = 4 ∧ tV b n A = 16) (ho : A 23 0 ≠ 0) : sBehind b n A = sClose b n A ∧ sGo b n A = 1 := by
  have hk : sKnot b n A = -1 := sKnot_n (by omega) (by omega) (by omega)
  unfold sBehind sGo
  rw [if_neg (by omega), if_neg (by rintro (q | q); exact ho q; exact q h), if_neg (by omega), if_neg (by rintro (q | q); exact ho q; exact q h)]
  exact ⟨rfl, rfl⟩
theorem sBeh_j {b : Nat → Int} {n : Int} {A : aS} (h : sKnot b n A ≠ -1) : sBehind b n A = sJoint b n (sKnot b n A) A ∧ sGo b n A = 1 := by
  unfold sBehind sGo
  rw [if_pos h, if_pos h]
  exact ⟨rfl, rfl⟩
theorem sBeh_0 {b : Nat → Int} {n : Int} {A : aS} (h : sKnot b n A = -1) (ho : A 23 0 = 0) : sBehind b n A = A ∧ sGo b n A = 0 := by
  unfold sBehind sGo
  rw [if_neg (by omega), if_pos (Or.inl ho), if_neg (by omega), if_neg (by omega), if_pos (Or.inl ho)]
  exact ⟨rfl, rfl⟩
theorem sBeh_1 {b : Nat → Int} {n : Int} {A : aS} (h : sKnot b n A = -1) (ho : 0 < A 23 0) (hc : ¬ (tK b n A = 4 ∧ tV b n A = 16)) : sBehind b n A = sFail b n 1 A := by
  unfold sBehind
  rw [if_neg (by omega), if_pos (Or.inr hc), if_pos ho]
theorem sJoint_bad {b : Nat → Int} {n k : Int} {A : aS} (h : bnd k = 4 ∧ 0 < (sJR k A) 22 0 ∧ bnd ((sJR k A) 26 ((sJR k A) 22 0 - 1).toNat) = 4) : sJoint b n k A = sFail b n 1 (sJR k A) := if_pos h
theorem sJoint_64 {b : Nat → Int} {n k : Int} {A : aS} (h : ¬ (bnd k = 4 ∧ 0 < (sJR k A) 22 0 ∧ bnd ((sJR k A) 26 ((sJR k A) 22 0 - 1).toNat) = 4)) (h64 : 64 ≤ (sJR k A) 21 0) : sJoint b n k A = sFail b n 2 (sJR k A) := by
  unfold sJoint
  rw [if_neg h]
  unfold sJB
  rw [sCount_64 h64, if_neg (sFail_f (by decide))]
theorem sJoint_ok {b : Nat → Int} {n k : Int} {A : aS} (h : ¬ (bnd k = 4 ∧ 0 < (sJR k A) 22 0 ∧ bnd ((sJR k A) 26 ((sJR k A) 22 0 - 1).toNat) = 4)) (h0 : (sJR k A) 1 0 = 0) (h64 : (sJR k A) 21 0 < 64) (h72 : (sJR k A) 22 0 < 72) : sJoint b n k A = sNext b n (up (up (up (up (up (sJR k A) 21 0 ((sJR k A) 21 0 + 1)) 24 0 1) 25 0 (if bnd k < 4 then 1 else 0)) 26 ((sJR k A) 22 0).toNat k) 22 0 ((sJR k A) 22 0 + 1)) := by
  unfold sJoint
  rw [if_neg h]
  unfold sJB
  rw [sCount_lt h0 h64, if_pos (by rw [up_f (by decide)]; exact h0), sPush_at (by simp (disch := decide) only [up_f]; omega)]
  simp (disch := decide) only [up_f]
theorem gX_close {b : Nat → Int} {n : Int} {Γ : zΓ} {w : Nat} {A R : aS} {G G1 : zH} (hT : gT b n Γ w (sNext b n A) G1) (hK : gK Γ w R G) (hE : gE Γ w R G) (r0 : R 0 0 = A 0 0) (r1 : R 1 0 = 0) (r2 : R 2 0 = A 2 0) (hw : 1 ≤ R 22 0)
    (e4 : G1.1 1004 w 0 = 0) (e5 : G1.1 1005 w 0 = A 2 0) (e42 : G1.1 1042 w 0 = R 22 0 - 1) (e44 : G1.1 1044 w 0 = R 23 0 - 1) (e43 : G1.1 1043 w 0 = G.1 1043 w 0) (e46 : G1.1 1046 w 0 = G.1 1046 w 0) (e47 : G1.1 1047 w 0 = G.1 1047 w 0) (e21 : G1.1 1021 w 0 = G.1 1021 w 0) (e45 : G1.1 1045 w 0 = G.1 1045 w 0)
    (h74 : G1.1 2074 = G.1 2074) (h75 : G1.1 2075 = G.1 2075) (h76 : G1.1 2076 = G.1 2076) (h78 : G1.1 2078 = G.1 2078) (h77 : G1.1 2077 = G.1 2077) : gX b n Γ w (sNext b n (up (up R 22 0 (max 0 (R 22 0 - 1))) 23 0 (R 23 0 - 1))) G1 := by
  rw [show max 0 (R 22 0 - 1) = R 22 0 - 1 by omega]
  refine ⟨gT_A (A := sNext b n A) (sNext_00 (by rw [up_f (by decide), up_f (by decide)]; exact r0.symm)) hT, ?_, ?_, ?_, e4, ?_⟩
  · exact gK_of (A := R) (G := G) (fun f j hf => by rw [sNext_f (by omega), up_f (by omega), up_f (by omega)]) e21 e45 h74 h75 h76 hK
  · obtain ⟨k1, k2, k3, k4, k5, k6, k7⟩ := hE
    refine ⟨by simp (disch := decide) only [sNext_f, up_f, up_eq, up_at]; exact e42, by simp (disch := decide) only [sNext_f, up_f, up_eq, up_at]; rw [e43]; exact k2, by simp (disch := decide) only [sNext_f, up_f, up_eq, up_at]; exact e44, by simp (disch := decide) only [sNext_f, up_f, up_eq, up_at]; rw [e46]; exact k4, by simp (disch := decide) only [sNext_f, up_f, up_eq, up_at]; rw [e47]; exact k5, fun j hj => ?_, fun j hj => ?_⟩
    · (simp (disch := decide) only [sNext_f, up_f, up_eq, up_at] at hj)
      simp (disch := decide) only [sNext_f, up_f, up_eq, up_at]
      rw [h77]
      exact k6 j (by omega)
    · (simp (disch := decide) only [sNext_f, up_f, up_eq, up_at] at hj)
      simp (disch := decide) only [sNext_f, up_f, up_eq, up_at]
      rw [h78]
      exact k7 j hj
  · simp (disch := decide) only [sNext_f, up_f, up_eq, up_at]
    exact r1
  · simp (disch := decide) only [sNext_f, up_f, up_eq, up_at]
    rw [r2]
    exact e5
theorem sReln_30 {r : Int} {f j : Nat} (h1 : f < 3) : ∀ (m : Nat) (A : aS), (sReln r m A) f j = A f j := fun m A => sReln_f (by omega) (by omega) (by omega) (by omega) (by omega) m A
theorem sRel_0 {r : Int} {A : aS} {f j : Nat} (h1 : f < 3) : (sRel r A) f j = A f j := sReln_30 h1 _ A
theorem sFin_f {k : Int} {A : aS} {f j : Nat} (h : f ≠ 17) : (sFin k A) f j = A f j := by
  unfold sFin
  split
  · exact up_f h
  · rfl
end
section
theorem zct_z {f : Nat → Bool} : ∀ (n : Nat), zct f n = 0 → ∀ i, i < n → f i = false
  | 0, _, i, hi => absurd hi (Nat.not_lt_zero _)
  | n + 1, h, i, hi => by
    rw [zct_s] at h
    have h1 := (zct_le f n).1
    by_cases q : f n = true
    · rw [if_pos q] at h
      omega
    · rw [if_neg q] at h
      rcases Nat.lt_succ_iff_lt_or_eq.mp hi with z | z
      · exact zct_z n (by omega) i z
      · subst z
        simpa using q
theorem rel_01n : ∀ (m : Nat) (A : aS), (∀ j : Nat, (j : Int) < A 22 0 → 1 ≤ bnd (A 26 j)) → sReln 0 m A = sReln 1 m A
  | 0, A, _ => rfl
  | m + 1, A, h => by
    rw [sReln, sReln]
    by_cases q : 0 < A 22 0
    · have h1 := h (A 22 0 - 1).toNat (by omega)
      rw [if_pos ⟨q, by omega⟩, if_pos ⟨q, by omega⟩]
      refine rel_01n m _ (fun j hj => ?_)
      rw [sWrite_22 (by decide) (by decide) (by decide), gOp_f (by decide), up_eq] at hj
      rw [sWrite_22 (by decide) (by decide) (by decide), gOp_f (by decide), up_f (by decide)]
      exact h j (by omega)
    · rw [if_neg (fun z => q z.1), if_neg (fun z => q z.1)]
theorem rel_01 {A : aS} (h : ∀ j : Nat, (j : Int) < A 22 0 → 1 ≤ bnd (A 26 j)) : sRel 0 A = sRel 1 A := rel_01n _ A h
theorem szW {k q : Int} {A : aS} : A 20 0 ≤ (sWrite k q A) 20 0 := by
  unfold sWrite
  split
  · rw [up_eq]; omega
  · exact Int.le_refl _
theorem szReln {r : Int} : ∀ (m : Nat) (A : aS), A 20 0 ≤ (sReln r m A) 20 0
  | 0, A => Int.le_refl _
  | m + 1, A => by
    rw [sReln]
    split
    · refine Int.le_trans ?_ (szReln m _)
      refine Int.le_trans ?_ szW
      rw [gOp_f (by decide), up_f (by decide)]
      exact Int.le_refl _
    · exact Int.le_refl _
theorem szRel {r : Int} {A : aS} : A 20 0 ≤ (sRel r A) 20 0 := szReln _ A
theorem sCnt_f {b : Nat → Int} {n : Int} {A : aS} {f j : Nat} (h1 : f ≠ 1) (h2 : f ≠ 2) : (sCnt b n A) f j = A f j := by
  unfold sCnt
  split
  · exact sFail_fn h1 h2
  · rfl
theorem sCount_f {b : Nat → Int} {n : Int} {A : aS} {f j : Nat} (h1 : f ≠ 1) (h2 : f ≠ 2) (h3 : f ≠ 21) : (sCount b n A) f j = A f j := by
  unfold sCount
  split
  · rw [up_f h3]; exact sCnt_f h1 h2
  · exact sCnt_f h1 h2
theorem sPush_f {b : Nat → Int} {n k : Int} {A : aS} {f j : Nat} (h0 : f ≠ 0) (h1 : f ≠ 26) (h2 : f ≠ 22) : (sPush b n k A) f j = A f j := by
  unfold sPush
  split
  · rw [sNext_f h0, up_f h2, up_f h1]
  · rw [sNext_f h0]
theorem sLeaf_f {b : Nat → Int} {n k q : Int} {A : aS} {f j : Nat} (h0 : 3 ≤ f) (h1 : f < 18) : (sLeaf b n k q A) f j = A f j := by
  unfold sLeaf
  split
  · rw [sNext_f (by omega), up_f (by omega), sWrite_22 (by omega) (by omega) (by omega), gLeaf_f (by omega), sCount_f (by omega) (by omega) (by omega)]
  · rw [sCount_f (by omega) (by omega) (by omega)]
theorem sNot_f {b : Nat → Int} {n : Int} {A : aS} {f j : Nat} (h0 : 3 ≤ f) (h1 : f < 21) : (sNot b n A) f j = A f j := by
  unfold sNot
  split
  · rw [sPush_f (by omega) (by omega) (by omega), sCount_f (by omega) (by omega) (by omega)]
  · rw [sCount_f (by omega) (by omega) (by omega)]
theorem sOpen_f {b : Nat → Int} {n : Int} {A : aS} {f j : Nat} (h0 : 3 ≤ f) (h1 : f < 22) : (sOpen b n A) f j = A f j := by
  unfold sOpen
  split
  · exact sFail_fn (by omega) (by omega)
  · rw [sPush_f (by omega) (by omega) (by omega), up_f (by omega), up_f (by omega)]
theorem sSide_f {b : Nat → Int} {n : Int} {A : aS} {f j : Nat} (h0 : 3 ≤ f) (h1 : f < 18) : (sSide b n A) f j = A f j := by
  unfold sSide
  split
  · exact sOpen_f h0 (by omega)
  · split
    · exact sNot_f h0 (by omega)
    · split
      · split
        · rw [sLeaf_f h0 h1]; exact sFail_fn (by omega) (by omega)
        · exact sLeaf_f h0 h1
      · split
        · exact sLeaf_f h0 h1
        · exact sFail_fn (by omega) (by omega)
theorem sJB_f {b : Nat → Int} {n k : Int} {A : aS} {f j : Nat} (h0 : 3 ≤ f) (h1 : f < 21) : (sJB b n k A) f j = A f j := by
  unfold sJB
  split
  · rw [sPush_f (by omega) (by omega) (by omega), up_f (by omega), up_f (by omega), sCount_f (by omega) (by omega) (by omega)]
  · rw [sCount_f (by omega) (by omega) (by omega)]
theorem sJoint_f {b : Nat → Int} {n k : Int} {A : aS} {f j : Nat} (h0 : 3 ≤ f) (h1 : f < 21) : (sJoint b n k A) f j = (sJR k A) f j := by
  unfold sJoint
  split
  · exact sFail_fn (by omega) (by omega)
  · exact sJB_f h0 h1
theorem sClose_f {b : Nat → Int} {n : Int} {A : aS} {f j : Nat} (h0 : 3 ≤ f) (h1 : f < 21) : (sClose b n A) f j = (sRel 1 A) f j := by
  unfold sClose
  rw [sNext_f (by omega), up_f (by omega), up_f (by omega)]
theorem sBehind_f {b : Nat → Int} {n : Int} {A : aS} {f j : Nat} (h0 : 3 ≤ f) (h1 : f < 18) : (sBehind b n A) f j = A f j := by
  unfold sBehind
  split
  · rw [sJoint_f h0 (by omega)]; exact sRel_f (by omega) (by omega) (by omega) (by omega) (by omega)
  · split
    · split
      · exact sFail_fn (by omega) (by omega)
      · rfl
    · rw [sClose_f h0 (by omega)]; exact sRel_f (by omega) (by omega) (by omega) (by omega) (by omega)
theorem szBehind {b : Nat → Int} {n : Int} {A : aS} : A 20 0 ≤ (sBehind b n A) 20 0 := by
  unfold sBehind
  split
  · rw [sJoint_f (by decide) (by decide)]; exact szRel
  · split
    · split
      · rw [sFail_fn (by decide) (by decide)]; exact Int.le_refl _
      · exact Int.le_refl _
    · rw [sClose_f (by decide) (by decide)]; exact szRel
theorem szLeaf {b : Nat → Int} {n k q : Int} {A : aS} : A 20 0 ≤ (sLeaf b n k q A) 20 0 := by
  unfold sLeaf
  split
  · rw [sNext_f (by decide), up_f (by decide)]
    refine Int.le_trans ?_ szW
    rw [gLeaf_f (by decide), sCount_f (by decide) (by decide) (by decide)]
    exact Int.le_refl _
  · rw [sCount_f (by decide) (by decide) (by decide)]; exact Int.le_refl _
theorem szLeaf2 {b : Nat → Int} {n k q : Int} {A : aS} (h1 : A 20 0 ≤ A 21 0) (hf : (sLeaf b n k q A) 1 0 = 0) : A 20 0 < (sLeaf b n k q A) 20 0 := by
  have h0 : A 1 0 = 0 := by
    by_cases q : A 1 0 = 0
    · exact q
    · unfold sLeaf at hf
      rw [sCount_ne q, if_neg q] at hf
      exact hf
  have h21 : A 21 0 < 64 := by
    rcases Int.lt_or_le (A 21 0) 64 with q | q
    · exact q
    · unfold sLeaf at hf
      rw [sCount_64 q, if_neg (sFail_f (by decide))] at hf
      exact absurd hf (sFail_f (by decide))
  rw [sLeaf_ok h0 h21 (by omega), sNext_f (by decide), up_f (by decide), up_eq]
  omega
theorem sPush_24 {b : Nat → Int} {n k : Int} {A : aS} : (sPush b n k A) 24 0 = A 24 0 := sPush_f (by decide) (by decide) (by decide)
theorem szSide {b : Nat → Int} {n : Int} {A : aS} (h1 : A 20 0 ≤ A 21 0) (hf : (sSide b n A) 1 0 = 0) : A 20 0 ≤ (sSide b n A) 20 0 ∧ (A 24 0 ≠ 0 → (sSide b n A) 24 0 = 0 → A 20 0 < (sSide b n A) 20 0) := by
  unfold sSide at *
  split at hf
  · rw [if_pos (by assumption), sOpen_f (by decide) (by decide)]
    refine ⟨Int.le_refl _, fun q q2 => absurd q2 ?_⟩
    unfold sOpen
    split
    · rw [sFail_fn (by decide) (by decide)]; exact q
    · rw [sPush_24, up_f (by decide), up_f (by decide)]; exact q
  · rw [if_neg (by assumption)]
    split at hf
    · rw [if_pos (by assumption), sNot_f (by decide) (by decide)]
      refine ⟨Int.le_refl _, fun q q2 => absurd q2 ?_⟩
      unfold sNot
      split
      · rw [sPush_24, sCount_f (by decide) (by decide) (by decide)]; exact q
      · rw [sCount_f (by decide) (by decide) (by decide)]; exact q
    · rw [if_neg (by assumption)]
      split at hf
      · rw [if_pos (by assumption)]
        split at hf
        · rw [if_pos (by assumption)]
          unfold sLeaf at hf
          rw [sCount_ne (sFail_f (by decide)), if_neg (sFail_f (by decide))] at hf
          exact absurd hf (sFail_f (by decide))
        · rw [if_neg (by assumption)]
          exact ⟨szLeaf, fun _ _ => szLeaf2 h1 hf⟩
      · rw [if_neg (by assumption)]
        split at hf
        · rw [if_pos (by assumption)]
          exact ⟨szLeaf, fun _ _ => szLeaf2 h1 hf⟩
        · exact absurd hf (sFail_f (by decide))
theorem sEL_f {b : Nat → Int} {n : Int} {f j : Nat} (h0 : 3 ≤ f) (h1 : f < 18) : ∀ (m : Nat) (go : Int) (A : aS), (sEL b n m go A) f j = A f j
  | 0, _, A => rfl
  | m + 1, go, A => by
    rw [sEL]
    split
    · split
      · rw [sEL_f h0 h1 m, sSide_f h0 h1]
      · rw [sEL_f h0 h1 m, sBehind_f h0 h1]
    · rfl
theorem sBeg_f {k : Int} {A : aS} {f j : Nat} (h1 : f ≠ 16) (h2 : f < 22) : (sBeg k A) f j = A f j := by
  unfold sBeg sLB sB0
  rw [up_f (by omega)]
  split
  · rw [up_f h1, up_f (by omega), up_f (by omega), up_f (by omega), up_f (by omega)]
  · rw [up_f (by omega), up_f (by omega), up_f (by omega), up_f (by omega)]
theorem sBeg_16 {k : Int} {A : aS} {j : Nat} (hk : 0 ≤ k ∧ k < 7) : (sBeg k A) 16 j = if j = k.toNat then A 20 0 else A 16 j := by
  unfold sBeg sLB sB0
  rw [up_f (by decide), if_pos hk, up_at]
  simp (disch := decide) only [up_f]
theorem sEL_side {b : Nat → Int} {n : Int} {A : aS} {m : Nat} (h0 : A 1 0 = 0) (hm : 1 ≤ m) (hw : A 24 0 ≠ 0) : sEL b n m 1 A = sEL b n (m - 1) 1 (sSide b n A) := by
  obtain ⟨k, rfl⟩ : ∃ k, m = k + 1 := ⟨m - 1, by omega⟩
  rw [sEL, if_pos ⟨h0, by decide⟩, if_pos hw]
  rfl
theorem sEL_beh {b : Nat → Int} {n : Int} {A : aS} {m : Nat} (h0 : A 1 0 = 0) (hm : 1 ≤ m) (hw : A 24 0 = 0) : sEL b n m 1 A = sEL b n (m - 1) (sGo b n A) (sBehind b n A) := by
  obtain ⟨k, rfl⟩ : ∃ k, m = k + 1 := ⟨m - 1, by omega⟩
  rw [sEL, if_pos ⟨h0, by decide⟩, if_neg (by omega)]
  rfl
theorem sEL_semi {b : Nat → Int} {n : Int} {A : aS} {m : Nat} (h0 : A 1 0 = 0) (hm : 1 ≤ m) (hw : A 24 0 = 0) (ho : A 23 0 = 0) (hk : tK b n A = 4) (hv : tV b n A = 17) : sEL b n m 1 A = A := by
  have hn : sKnot b n A = -1 := sKnot_n (by omega) (by omega) (by omega)
  rw [sEL_beh h0 hm hw]
  have h1 : sBehind b n A = A := by unfold sBehind; rw [if_neg (by omega), if_pos (Or.inl ho), if_neg (by omega)]
  have h2 : sGo b n A = 0 := by unfold sGo; rw [if_neg (by omega), if_pos (Or.inl ho)]
  rw [h1, h2]
  exact sEL_e (by omega) _
theorem FT_E {b : Nat → Int} {n k : Int} {w : Nat} {A B : aS} {G : zH} (h : FT w (sSemi b n B) G) (he : sEL b n 700 1 (sBeg k A) = B) : FT w (sSemi b n (sE b n k A)) G := by
  refine FT_semi h ?_ ?_ ?_
  all_goals
    unfold sE
    rw [he, sFin_f (by decide), sRel_0 (by decide)]
end
section
theorem sBeg_g {k : Int} {A : aS} {f j : Nat} (h : f = 27 ∨ f = 28) : (sBeg k A) f j = A f j := by
  unfold sBeg sLB sB0
  rw [up_f (by omega)]
  split
  · rw [up_f (by omega), up_f (by omega), up_f (by omega), up_f (by omega), up_f (by omega)]
  · rw [up_f (by omega), up_f (by omega), up_f (by omega), up_f (by omega)]
theorem sBeg_e (k : Int) (A : aS) : (sBeg k A) 22 0 = 0 ∧ (sBeg k A) 23 0 = 0 ∧ (sBeg k A) 24 0 = 1 ∧ (sBeg k A) 25 0 = 1 ∧ (sBeg k A) 29 0 = 0 := by
  unfold sBeg sLB sB0
  split <;> simp (disch := decide) only [up_f, up_eq, and_self]
end
section
def gS (Γ : zΓ) (w : Nat) (A : aS) (G : zH) : Prop := G.1 1017 w 0 = A 4 0 ∧ 0 ≤ A 4 0 ∧ A 4 0 ≤ 4 ∧ ∀ j : Nat, (j : Int) < A 4 0 → G.1 2061 (Γ.2.1 w 24) (4 + j) = A 5 j ∧ G.1 2062 (Γ.2.1 w 25) (4 + j) = A 6 j
def gP (Γ : zΓ) (w : Nat) (A : aS) (G : zH) : Prop := G.1 1018 w 0 = A 4 1 ∧ 0 ≤ A 4 1 ∧ A 4 1 ≤ 5 ∧ (∀ j : Nat, (j : Int) < A 4 1 → G.1 2063 (Γ.2.1 w 26) (5 + j) = A 5 (5 + j) ∧ G.1 2064 (Γ.2.1 w 27) (5 + j) = A 7 j) ∧ (∀ j : Nat, (j : Int) < 4 * A 4 1 → G.1 2065 (Γ.2.1 w 28) (20 + j) = A 8 j) ∧ (∀ j : Nat, 4 * A 4 1 ≤ j → j < 20 → A 8 j = 0)
def gC (Γ : zΓ) (w : Nat) (A : aS) (G : zH) : Prop := G.1 1019 w 0 = A 4 2 ∧ 0 ≤ A 4 2 ∧ A 4 2 ≤ 5 ∧ ∀ j : Nat, (j : Int) < A 4 2 → G.1 2066 (Γ.2.1 w 29) (5 + j) = A 5 (10 + j) ∧ G.1 2067 (Γ.2.1 w 30) (5 + j) = A 9 j ∧ G.1 2068 (Γ.2.1 w 31) (5 + j) = A 10 j ∧ G.1 2069 (Γ.2.1 w 32) (5 + j) = A 11 j
def gM (Γ : zΓ) (w : Nat) (A : aS) (G : zH) : Prop := G.1 1020 w 0 = A 4 3 ∧ 0 ≤ A 4 3 ∧ A 4 3 ≤ 3 ∧ ∀ j : Nat, (j : Int) < A 4 3 → G.1 2070 (Γ.2.1 w 33) (3 + j) = A 5 (15 + j)
def ob (v : Int) (j : Nat) : Int := if band v (bshl 1 (4 + j)) ≠ 0 then 1 else 0
def gO (Γ : zΓ) (w : Nat) (A : aS) (G : zH) : Prop := (∃ m : Nat, m < 16 ∧ A 3 0 = 16 * m) ∧ ∀ j : Nat, j < 4 → G.1 2060 (Γ.2.1 w 23) j = ob (A 3 0) j ∧ G.1 2059 (Γ.2.1 w 22) (4 + j) = A (12 + j) 0
def gL (Γ : zΓ) (w : Nat) (A : aS) (G : zH) : Prop := ∀ j : Nat, j < 7 → G.1 2071 (Γ.2.1 w 34) (7 + j) = (if A 16 j < A 17 j then 1 else 0) ∧ (A 16 j < A 17 j → G.1 2072 (Γ.2.1 w 35) (7 + j) = A 16 j ∧ G.1 2073 (Γ.2.1 w 36) (7 + j) = A 17 j)
def gF (w : Nat) (A : aS) (G : zH) : Prop := A 1 0 = 0 ∧ G.1 1004 w 0 = 0 ∧ G.1 1005 w 0 = A 2 0
/-- the groups of a telling -/
def gD (Γ : zΓ) (w : Nat) (A : aS) (G : zH) : Prop := gS Γ w A G ∧ gP Γ w A G ∧ gC Γ w A G ∧ gM Γ w A G ∧ gO Γ w A G ∧ gL Γ w A G ∧ gK Γ w A G ∧ A 21 0 = A 20 0
def gR (b : Nat → Int) (n : Int) (Γ : zΓ) (w : Nat) (A : aS) (G : zH) : Prop := gT b n Γ w A G ∧ gF w A G ∧ gD Γ w A G
theorem gF_sm {w : Nat} {A B : aS} {G G1 : zH} (h1 : B 1 0 = A 1 0) (h2 : B 2 0 = A 2 0) (e1 : G1.1 1004 w 0 = G.1 1004 w 0) (e2 : G1.1 1005 w 0 = G.1 1005 w 0) (h : gF w A G) : gF w B G1 := by
  unfold gF at *
  rw [h1, h2, e1, e2]
  exact h
theorem gS_of {Γ : zΓ} {w : Nat} {A B : aS} {G G1 : zH} (hA : ∀ f j : Nat, (f = 4 ∧ j = 0) ∨ (f = 5 ∧ j < 5) ∨ f = 6 → B f j = A f j) (h1 : G1.1 1017 w 0 = G.1 1017 w 0) (h2 : G1.1 2061 = G.1 2061) (h3 : G1.1 2062 = G.1 2062) (h : gS Γ w A G) : gS Γ w B G1 := by
  obtain ⟨k1, k2, k3, k4⟩ := h
  have e4 := hA 4 0 (by omega)
  unfold gS
  rw [h1, h2, h3, e4]
  exact ⟨k1, k2, k3, fun j hj => by rw [hA 5 j (by omega), hA 6 j (by omega)]; exact k4 j hj⟩
theorem gP_of {Γ : zΓ} {w : Nat} {A B : aS} {G G1 : zH} (hA : ∀ f j : Nat, (f = 4 ∧ j = 1) ∨ (f = 5 ∧ 5 ≤ j ∧ j < 10) ∨ f = 7 ∨ f = 8 → B f j = A f j) (h1 : G1.1 1018 w 0 = G.1 1018 w 0) (h2 : G1.1 2063 = G.1 2063) (h3 : G1.1 2064 = G.1 2064) (h4 : G1.1 2065 = G.1 2065) (h : gP Γ w A G) : gP Γ w B G1 := by
  obtain ⟨k1, k2, k3, k4, k5, k6⟩ := h
  have e4 := hA 4 1 (by omega)
  unfold gP
  rw [h1, h2, h3, h4, e4]
  exact ⟨k1, k2, k3, fun j hj => by rw [hA 5 (5 + j) (by omega), hA 7 j (by omega)]; exact k4 j hj, fun j hj => by rw [hA 8 j (by omega)]; exact k5 j hj, fun j hj hj2 => by rw [hA 8 j (by omega)]; exact k6 j hj hj2⟩
theorem gC_of {Γ : zΓ} {w : Nat} {A B : aS} {G G1 : zH} (hA : ∀ f j : Nat, (f = 4 ∧ j = 2) ∨ (f = 5 ∧ 10 ≤ j ∧ j < 15) ∨ f = 9 ∨ f = 10 ∨ f = 11 → B f j = A f j) (h1 : G1.1 1019 w 0 = G.1 1019 w 0) (h2 : G1.1 2066 = G.1 2066) (h3 : G1.1 2067 = G.1 2067) (h4 : G1.1 2068 = G.1 2068) (h5 : G1.1 2069 = G.1 2069) (h : gC Γ w A G) : gC Γ w B G1 := by
  obtain ⟨k1, k2, k3, k4⟩ := h
  have e4 := hA 4 2 (by omega)
  unfold gC
  rw [h1, h2, h3, h4, h5, e4]
  exact ⟨k1, k2, k3, fun j hj => by rw [hA 5 (10 + j) (by omega), hA 9 j (by omega), hA 10 j (by omega), hA 11 j (by omega)]; exact k4 j hj⟩
theorem gM_of {Γ : zΓ} {w : Nat} {A B : aS} {G G1 : zH} (hA : ∀ f j : Nat, (f = 4 ∧ j = 3) ∨ (f = 5 ∧ 15 ≤ j) → B f j = A f j) (h1 : G1.1 1020 w 0 = G.1 1020 w 0) (h2 : G1.1 2070 = G.1 2070) (h : gM Γ w A G) : gM Γ w B G1 := by
  obtain ⟨k1, k2, k3, k4⟩ := h
  have e4 := hA 4 3 (by omega)
  unfold gM
  rw [h1, h2, e4]
  exact ⟨k1, k2, k3, fun j hj => by rw [hA 5 (15 + j) (by omega)]; exact k4 j hj⟩
theorem gO_of {Γ : zΓ} {w : Nat} {A B : aS} {G G1 : zH} (hA : ∀ f j : Nat, f = 3 ∨ f = 12 ∨ f = 13 ∨ f = 14 ∨ f = 15 → B f j = A f j) (h1 : G1.1 2059 = G.1 2059) (h2 : G1.1 2060 = G.1 2060) (h : gO Γ w A G) : gO Γ w B G1 := by
  obtain ⟨k1, k2⟩ := h
  have e4 := hA 3 0 (by omega)
  unfold gO
  rw [h1, h2, e4]
  exact ⟨k1, fun j hj => by rw [hA (12 + j) 0 (by omega)]; exact k2 j hj⟩
theorem gL_of {Γ : zΓ} {w : Nat} {A B : aS} {G G1 : zH} (hA : ∀ f j : Nat, f = 16 ∨ f = 17 → B f j = A f j) (h1 : G1.1 2071 = G.1 2071) (h2 : G1.1 2072 = G.1 2072) (h3 : G1.1 2073 = G.1 2073) (h : gL Γ w A G) : gL Γ w B G1 := by
  unfold gL at *
  rw [h1, h2, h3]
  exact fun j hj => by rw [hA 16 j (by omega), hA 17 j (by omega)]; exact h j hj
theorem fnd_cg {f g : Nat → Int} {p q c : Int} : ∀ (m : Nat) (k : Int), (∀ i : Int, k ≤ i → i < k + m → f (p + i).toNat = g (q + i).toNat) → fndn f p c m k = fndn g q c m k
  | 0, _, _ => rfl
  | m + 1, k, h => by
    rw [fndn, fndn, h k (by omega) (by omega), fnd_cg m (k + 1) (fun i h1 h2 => h i (by omega) (by omega))]
theorem sNew_full {b : Nat → Int} {n kd : Int} {A : aS} (h : mst kd ≤ A 4 kd.toNat) : sNew b n kd A = sFail b n 2 A := if_pos h
theorem sNew_1 {b : Nat → Int} {n kd : Int} {A : aS} (h : ¬ mst kd ≤ A 4 kd.toNat) (h1 : tK b n (sNext b n A) ≠ 1) : sNew b n kd A = sFail b n 1 (sNext b n A) := by
  unfold sNew
  rw [if_neg h, if_pos h1]
theorem sNew_3 {b : Nat → Int} {n kd : Int} {A : aS} (h : ¬ mst kd ≤ A 4 kd.toNat) (h1 : tK b n (sNext b n A) = 1) (h2 : sFind kd (tV b n (sNext b n A)) (sNext b n A) ≠ -1) : sNew b n kd A = sFail b n 3 (sNext b n A) := by
  unfold sNew
  rw [if_neg h, if_neg (by omega), if_pos h2]
theorem sNew_ok {b : Nat → Int} {n kd : Int} {A : aS} (h : ¬ mst kd ≤ A 4 kd.toNat) (h1 : tK b n (sNext b n A) = 1) (h2 : sFind kd (tV b n (sNext b n A)) (sNext b n A) = -1) : sNew b n kd A = sNext b n (up (up (sNext b n A) 5 (kd * 5 + A 4 kd.toNat).toNat (tV b n (sNext b n A))) 4 kd.toNat (A 4 kd.toNat + 1)) ∧ sNewV b n kd A = A 4 kd.toNat := by
  constructor
  · unfold sNew
    rw [if_neg h, if_neg (by omega), if_neg (by omega)]
    unfold sAdd
    rw [sNext_f (by decide), if_neg h]
  · unfold sNewV
    rw [if_neg (by rintro (q | q | q); exact h q; omega; omega)]
/-- a name's line up to its name, where it is refused -/
theorem sNew_F {b : Nat → Int} {n kd v : Int} {w : Nat} {A : aS} {G : zH} (h0 : A 1 0 = 0) (h : ¬ mst kd ≤ A 4 kd.toNat) (hv : v = sFind kd (tV b n (sNext b n A)) (sNext b n A)) (hq : G.1 1005 w 0 = tP b n (sNext b n A) ∧ ((tK b n (sNext b n A) ≠ 1 ∧ G.1 1004 w 0 = 1) ∨ (tK b n (sNext b n A) = 1 ∧ v ≠ -1 ∧ G.1 1004 w 0 = 3))) : FT w (sNew b n kd A) G := by
  rcases hq.2 with q | q
  · rw [sNew_1 h q.1]
    exact FT_fail (by rw [sNext_f (by decide)]; exact h0) (by decide) q.2 hq.1
  · rw [sNew_3 h q.1 (by rw [← hv]; exact q.2.1)]
    exact FT_fail (by rw [sNext_f (by decide)]; exact h0) (by decide) q.2.2 hq.1
theorem sNew_T {b : Nat → Int} {n kd : Int} {Γ : zΓ} {w : Nat} {A : aS} {G : zH} (he : sNew b n kd A = sNext b n (up (up (sNext b n A) 5 (kd * 5 + A 4 kd.toNat).toNat (tV b n (sNext b n A))) 4 kd.toNat (A 4 kd.toNat + 1))) (h : gT b n Γ w (sNext b n (sNext b n A)) G) : gT b n Γ w (sNew b n kd A) G := by
  rw [he]
  exact gT_A (sNext_00 (by rw [up_f (by decide), up_f (by decide)])) h
theorem sNew_1f {b : Nat → Int} {n kd : Int} {A : aS} {f j : Nat} (h0 : f ≠ 0) (h4 : f ≠ 4) (h5 : f ≠ 5) (he : sNew b n kd A = sNext b n (up (up (sNext b n A) 5 (kd * 5 + A 4 kd.toNat).toNat (tV b n (sNext b n A))) 4 kd.toNat (A 4 kd.toNat + 1))) : (sNew b n kd A) f j = A f j := by
  rw [he, sNext_f h0, up_f h4, up_f h5, sNext_f h0]
theorem sNew_4f {b : Nat → Int} {n kd : Int} {A : aS} {j : Nat} (he : sNew b n kd A = sNext b n (up (up (sNext b n A) 5 (kd * 5 + A 4 kd.toNat).toNat (tV b n (sNext b n A))) 4 kd.toNat (A 4 kd.toNat + 1))) : (sNew b n kd A) 4 j = (if j = kd.toNat then A 4 kd.toNat + 1 else A 4 j) ∧ (sNew b n kd A) 5 j = (if j = (kd * 5 + A 4 kd.toNat).toNat then tV b n (sNext b n A) else A 5 j) := by
  rw [he, sNext_f (by decide), up_at, up_f (by decide), sNext_f (by decide), sNext_f (by decide), up_f (by decide), up_at, sNext_f (by decide)]
  exact ⟨rfl, rfl⟩
theorem mst_c : mst 0 = 4 ∧ mst 1 = 5 ∧ mst 2 = 5 ∧ mst 3 = 3 := by decide
end
section
theorem sE_20 {b : Nat → Int} {n k : Int} {A : aS} {f j : Nat} (h : f ≠ 17) : (sE b n k A) f j = (sRel 0 (sEL b n 700 1 (sBeg k A))) f j := by
  unfold sE
  exact sFin_f h
theorem sE_f {b : Nat → Int} {n k : Int} {A : aS} {f j : Nat} (h0 : 3 ≤ f) (h1 : f < 16) : (sE b n k A) f j = A f j := by
  rw [sE_20 (by omega), sRel_f (by omega) (by omega) (by omega) (by omega) (by omega), sEL_f h0 (by omega), sBeg_f (by omega) (by omega)]
theorem sE_16 {b : Nat → Int} {n k : Int} {A : aS} {j : Nat} (hk : 0 ≤ k ∧ k < 7) : (sE b n k A) 16 j = if j = k.toNat then A 20 0 else A 16 j := by
  rw [sE_20 (by decide), sRel_f (by decide) (by decide) (by decide) (by decide) (by decide), sEL_f (by decide) (by decide), sBeg_16 hk]
theorem sE_17 {b : Nat → Int} {n k : Int} {A : aS} {j : Nat} (hk : 0 ≤ k ∧ k < 7) : (sE b n k A) 17 j = if j = k.toNat then (sRel 0 (sEL b n 700 1 (sBeg k A))) 20 0 else A 17 j := by
  unfold sE sFin
  rw [if_pos hk, up_at]
  by_cases q : j = k.toNat
  · rw [if_pos q, if_pos q]
  · rw [if_neg q, if_neg q, sRel_f (by decide) (by decide) (by decide) (by decide) (by decide), sEL_f (by decide) (by decide), sBeg_f (by decide) (by decide)]
theorem gL_law {Γ : zΓ} {w : Nat} {A B : aS} {G G1 : zH} {k kk s0 s1 : Int} (h : gL Γ w A G) (hk : k = 7 + kk ∧ 0 ≤ kk ∧ kk < 7) (hs : s0 < s1) (b16 : ∀ j, B 16 j = if j = kk.toNat then s0 else A 16 j) (b17 : ∀ j, B 17 j = if j = kk.toNat then s1 else A 17 j)
    (h71 : ∀ j, G1.1 2071 (Γ.2.1 w 34) j = if j = k.toNat then 1 else G.1 2071 (Γ.2.1 w 34) j) (h72 : ∀ j, G1.1 2072 (Γ.2.1 w 35) j = if j = k.toNat then s0 else G.1 2072 (Γ.2.1 w 35) j) (h73 : ∀ j, G1.1 2073 (Γ.2.1 w 36) j = if j = k.toNat then s1 else G.1 2073 (Γ.2.1 w 36) j) : gL Γ w B G1 := by
  intro j hj
  rw [h71, h72, h73, b16, b17]
  by_cases q : j = kk.toNat
  · rw [if_pos q, if_pos q, if_pos hs, if_pos (by omega), if_pos (by omega), if_pos (by omega)]
    exact ⟨rfl, fun _ => ⟨rfl, rfl⟩⟩
  · have q7 : ¬ 7 + j = k.toNat := by omega
    rw [if_neg q, if_neg q, if_neg q7, if_neg q7, if_neg q7]
    exact h j hj
end
section
theorem fnd_nm {f g : Nat → Int} {p q : Nat} {P Q c S : Int} (hP : P = p) (hQ : Q = q) (h : ∀ j : Nat, (j : Int) < S → f (p + j) = g (q + j)) : fndn f P c S.toNat 0 = fndn g Q c S.toNat 0 := by
  refine fnd_cg _ _ (fun i h1 h2 => ?_)
  have h3 := h i.toNat (by omega)
  rw [show (P + i).toNat = p + i.toNat by omega, show (Q + i).toNat = q + i.toNat by omega]
  exact h3
theorem gR_cake {b : Nat → Int} {n c f1 f2 f3 : Int} {Γ : zΓ} {w : Nat} {A B : aS} {G G1 : zH} (hfr : zsm [1007, 1008, 1009, 1010, 1004, 1005, 1011, 2066, 2067, 2068, 2069, 1019] G G1) (hR : gR b n Γ w A G) (hT : gT b n Γ w B G1) (h5 : A 4 2 < 5) (hB4 : ∀ j : Nat, B 4 j = if j = 2 then A 4 2 + 1 else A 4 j) (hB5 : ∀ j : Nat, B 5 j = if j = (10 + A 4 2).toNat then c else A 5 j) (hB9 : ∀ j : Nat, B 9 j = if j = (A 4 2).toNat then f1 else A 9 j) (hB10 : ∀ j : Nat, B 10 j = if j = (A 4 2).toNat then f2 else A 10 j) (hB11 : ∀ j : Nat, B 11 j = if j = (A 4 2).toNat then f3 else A 11 j) (hBo : ∀ f j : Nat, f ≠ 0 → f ≠ 4 → f ≠ 5 → f ≠ 9 → f ≠ 10 → f ≠ 11 → B f j = A f j)
    (e19 : G1.1 1019 w 0 = A 4 2 + 1) (e4 : G1.1 1004 w 0 = G.1 1004 w 0) (e5 : G1.1 1005 w 0 = G.1 1005 w 0) (h66 : ∀ j : Nat, G1.1 2066 (Γ.2.1 w 29) j = if j = (5 + A 4 2).toNat then c else G.1 2066 (Γ.2.1 w 29) j) (h67 : ∀ j : Nat, G1.1 2067 (Γ.2.1 w 30) j = if j = (5 + A 4 2).toNat then f1 else G.1 2067 (Γ.2.1 w 30) j) (h68 : ∀ j : Nat, G1.1 2068 (Γ.2.1 w 31) j = if j = (5 + A 4 2).toNat then f2 else G.1 2068 (Γ.2.1 w 31) j) (h69 : ∀ j : Nat, G1.1 2069 (Γ.2.1 w 32) j = if j = (5 + A 4 2).toNat then f3 else G.1 2069 (Γ.2.1 w 32) j) : gR b n Γ w B G1 := by
  obtain ⟨-, hF, hS, hP, hC, hM, hO, hL, hK, hc⟩ := hR
  have c0 := hC.2.1
  have s0 := hS.2.2.1
  refine ⟨hT, gF_sm (hBo _ _ (by decide) (by decide) (by decide) (by decide) (by decide) (by decide)) (hBo _ _ (by decide) (by decide) (by decide) (by decide) (by decide) (by decide)) e4 e5 hF, ?_, ?_, ?_, ?_, ?_, ?_, ?_, ?_⟩
  · exact gS_of (fun f j hf => by rcases hf with ⟨rfl, rfl⟩ | ⟨rfl, hj⟩ | rfl; (rw [hB4, if_neg (by decide)]); (rw [hB5, if_neg (by omega)]); (exact (hBo _ _ (by decide) (by decide) (by decide) (by decide) (by decide) (by decide)))) (zsm_at hfr 1017 w 0 (by decide)) (hfr.1 2061 (by decide)) (hfr.1 2062 (by decide)) hS
  · exact gP_of (fun f j hf => by rcases hf with ⟨rfl, rfl⟩ | ⟨rfl, hj⟩ | rfl | rfl; (rw [hB4, if_neg (by decide)]); (rw [hB5, if_neg (by omega)]); (exact (hBo _ _ (by decide) (by decide) (by decide) (by decide) (by decide) (by decide))); (exact (hBo _ _ (by decide) (by decide) (by decide) (by decide) (by decide) (by decide)))) (zsm_at hfr 1018 w 0 (by decide)) (hfr.1 2063 (by decide)) (hfr.1 2064 (by decide)) (hfr.1 2065 (by decide)) hP
  · refine ⟨?_, ?_, ?_, fun j hj => ?_⟩
    · rw [hB4, if_pos rfl]; exact e19
    · rw [hB4, if_pos rfl]; omega
    · rw [hB4, if_pos rfl]; omega
    · rw [hB4, if_pos rfl] at hj
      rw [h66, h67, h68, h69, hB5, hB9, hB10, hB11]
      by_cases q : j = (A 4 2).toNat
      · (repeat rw [if_pos (by omega)])
        try exact ⟨rfl, rfl, rfl, rfl⟩
      · (repeat rw [if_neg (by omega)])
        exact hC.2.2.2 j (by omega)
  · exact gM_of (fun f j hf => by rcases hf with ⟨rfl, rfl⟩ | ⟨rfl, hj⟩; (rw [hB4, if_neg (by decide)]); (rw [hB5, if_neg (by omega)])) (zsm_at hfr 1020 w 0 (by decide)) (hfr.1 2070 (by decide)) hM
  · exact gO_of (fun f j hf => by rcases hf with rfl | rfl | rfl | rfl | rfl; (exact (hBo _ _ (by decide) (by decide) (by decide) (by decide) (by decide) (by decide))); (exact (hBo _ _ (by decide) (by decide) (by decide) (by decide) (by decide) (by decide))); (exact (hBo _ _ (by decide) (by decide) (by decide) (by decide) (by decide) (by decide))); (exact (hBo _ _ (by decide) (by decide) (by decide) (by decide) (by decide) (by decide))); (exact (hBo _ _ (by decide) (by decide) (by decide) (by decide) (by decide) (by decide)))) (hfr.1 2059 (by decide)) (hfr.1 2060 (by decide)) hO
  · exact gL_of (fun f j hf => by rcases hf with rfl | rfl; (exact (hBo _ _ (by decide) (by decide) (by decide) (by decide) (by decide) (by decide))); (exact (hBo _ _ (by decide) (by decide) (by decide) (by decide) (by decide) (by decide)))) (hfr.1 2071 (by decide)) (hfr.1 2072 (by decide)) (hfr.1 2073 (by decide)) hL
  · exact gK_of (fun f j hf => hBo _ _ (by omega) (by omega) (by omega) (by omega) (by omega) (by omega)) (zsm_at hfr 1021 w 0 (by decide)) (zsm_at hfr 1045 w 0 (by decide)) (hfr.1 2074 (by decide)) (hfr.1 2075 (by decide)) (hfr.1 2076 (by decide)) hK
  · rw [hBo 21 0 (by decide) (by decide) (by decide) (by decide) (by decide) (by decide), hBo 20 0 (by decide) (by decide) (by decide) (by decide) (by decide) (by decide)]; exact hc
theorem sCake_0 {b : Nat → Int} {n : Int} {A : aS} (h : (sNew b n 2 A) 1 0 ≠ 0) : sCake b n A = sNew b n 2 A := by
  have e1 : sC1 b n A = sNew b n 2 A := sNum_ne h
  have e2 : sC2 b n A = sNew b n 2 A := by unfold sC2; rw [e1, sNum_ne h]
  have e3 : sC3 b n A = sNew b n 2 A := by unfold sC3; rw [e2, sNum_ne h]
  unfold sCake
  rw [e3, if_neg h]
theorem sCake_1 {b : Nat → Int} {n : Int} {A : aS} (h : (sC1 b n A) 1 0 ≠ 0) : sCake b n A = sC1 b n A := by
  have e2 : sC2 b n A = sC1 b n A := sNum_ne h
  have e3 : sC3 b n A = sC1 b n A := by unfold sC3; rw [e2, sNum_ne h]
  unfold sCake
  rw [e3, if_neg h]
theorem sCake_2 {b : Nat → Int} {n : Int} {A : aS} (h : (sC2 b n A) 1 0 ≠ 0) : sCake b n A = sC2 b n A := by
  have e3 : sC3 b n A = sC2 b n A := sNum_ne h
  unfold sCake
  rw [e3, if_neg h]
theorem sCake_3 {b : Nat → Int} {n : Int} {A : aS} (h : (sC3 b n A) 1 0 ≠ 0) : sCake b n A = sC3 b n A := by
  unfold sCake
  rw [if_neg h]

theorem gT_mono {b : Nat → Int} {n : Int} {Γ : zΓ} {w : Nat} {A : aS} {G G1 : zH} (h : gT b n Γ w A G) (h1 : gT b n Γ w (sNext b n A) G1) : G.1 1010 w 0 ≤ G1.1 1010 w 0 := by
  by_cases hk : tK b n A = 0
  · rw [h.2.2.2.2.1, h1.2.2.2.2.1, (tP_next h.2.2.1 h.2.2.2.1).1, tkN_0 (fun q => tK_lt.mpr q hk)]
    exact sp_ge
  · exact Int.le_of_lt (gT_adv h h1 hk)
end
