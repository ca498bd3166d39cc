theorem zMet_mo {l : Launch} {Γ : zΓ} {y : MethodName} {b : ByteArray} {mx lv : Nat} {ret : Option FieldType} {av : List zV} {G : zH} {post post' : Option zV → zH → Prop} (h : zMet l Γ y b mx ret lv av G post) (hm : ∀ r G', post r G' → post' r G') : zMet l Γ y b mx ret lv av G post' := by
  intro p e h1 h2 h3 s m args below h4 h5 h6 h7
  obtain ⟨n, o, k1, k2, k3, ⟨⟨⟨r, G', q1, q2, q3, q4, q5⟩, q6⟩, q7⟩⟩ := h p e h1 h2 h3 s m args below h4 h5 h6 h7
  exact ⟨n, o, k1, k2, k3, ⟨⟨⟨r, G', q1, q2, hm r G' q3, q4, q5⟩, q6⟩, q7⟩⟩
/-! how the reference holds a reader's state: its token -/
def gT (b : Nat → Int) (n : Int) (Γ : zΓ) (w : Nat) (A : aS) (G : zH) : Prop := G.1 2057 (Γ.2.1 w 0) = b ∧ G.1 1006 w 0 = n ∧ 0 ≤ A 0 0 ∧ tP b n A ≤ n ∧ G.1 1010 w 0 = tP b n A ∧ G.1 1007 w 0 = tkN b n (tP b n A) ∧ tkM (tK b n A) (tV b n A) (G.1 1008 w 0) (G.1 1009 w 0)
theorem gT_A {b : Nat → Int} {n : Int} {Γ : zΓ} {w : Nat} {A : aS} {G : zH} {B : aS} (e : A 0 0 = B 0 0) (h : gT b n Γ w A G) : gT b n Γ w B G := by
  obtain ⟨e1, e2, e3, -⟩ := tk_00 (b := b) (n := n) e
  unfold gT at *
  rw [← e, ← e1, ← e2, ← e3]
  exact h
theorem gT_sm {b : Nat → Int} {n : Int} {Γ : zΓ} {w : Nat} {A : aS} {G : zH} {G1 : zH} {rs : List Nat} (hs : zsm rs G G1) (hr : ∀ r ∈ [2057, 1006, 1007, 1008, 1009, 1010], r ∉ rs) (h : gT b n Γ w A G) : gT b n Γ w A G1 := by
  unfold gT at *
  rw [hs.1 2057 (hr _ (by decide)), hs.1 1006 (hr _ (by decide)), hs.1 1007 (hr _ (by decide)), hs.1 1008 (hr _ (by decide)), hs.1 1009 (hr _ (by decide)), hs.1 1010 (hr _ (by decide))]
  exact h
theorem gT_I {b : Nat → Int} {n : Int} {Γ : zΓ} {w : Nat} {A : aS} {G : zH} {r a i : Nat} {x : Int} (hr : ∀ r' ∈ [2057, 1006, 1007, 1008, 1009, 1010], r' ≠ r) (h : gT b n Γ w A G) : gT b n Γ w A (zuI G r a i x) :=
  gT_sm (rs := [r]) (zsm_I (by simp) zsm_rf) (fun r' h' q => hr r' h' (List.mem_singleton.mp q)) h
theorem gT_TI {b : Nat → Int} {n : Int} {Γ : zΓ} {w : Nat} {A : aS} {G : zH} (h : gT b n Γ w A G) : TI w G := TI_of h.2.1 h.2.2.2.1 h.2.2.2.2.1 h.2.2.2.2.2.1 h.2.2.2.2.2.2
theorem gT_n {b : Nat → Int} {n : Int} {Γ : zΓ} {w : Nat} {A : aS} {G : zH} (h : gT b n Γ w A G) : G.1 1007 w 0 ≤ G.1 1006 w 0 := (gT_TI h).1
theorem tK_lt {b : Nat → Int} {n : Int} {A : aS} : tK b n A ≠ 0 ↔ tP b n A < n := by
  unfold tK
  constructor
  · intro h
    rcases Int.lt_or_le (tP b n A) n with q | q
    · exact q
    · exact absurd (tk_0 (by omega)).1 h
  · exact fun h => tkK_0 h
theorem tP_next {b : Nat → Int} {n : Int} {A : aS} (h0 : 0 ≤ A 0 0) (h : tP b n A ≤ n) : tP b n (sNext b n A) = sk b n (tkN b n (tP b n A)) ∧ 0 ≤ (sNext b n A) 0 0 := by
  unfold sNext
  by_cases q : tK b n A ≠ 0
  · rw [if_pos (Or.inr q)]
    refine ⟨?_, by rw [up_eq]; omega⟩
    have hl := tK_lt.mp q
    show stn b n (up A 0 0 (A 0 0 + 1) 0 0).toNat = _
    rw [up_eq, show (A 0 0 + 1).toNat = (A 0 0).toNat + 1 by omega]
    exact stn_s hl
  · have hl : ¬ tP b n A < n := fun q2 => q (tK_lt.mpr q2)
    rw [if_neg (by rintro (q2 | q2); omega; exact q q2), tkN_0 hl]
    refine ⟨?_, h0⟩
    rw [sk, sp_e (fun q2 => hl q2.1)]
theorem gT_next {b : Nat → Int} {n : Int} {Γ : zΓ} {w : Nat} {A : aS} {G : zH} {G1 : zH} (h : gT b n Γ w A G) (hs : zsm [1007, 1008, 1009, 1010] G G1) (hq : G1.1 1010 w 0 = sk (G.1 2057 (Γ.2.1 w 0)) (G.1 1006 w 0) (G.1 1007 w 0) ∧ G1.1 1007 w 0 = tkN (G.1 2057 (Γ.2.1 w 0)) (G.1 1006 w 0) (sk (G.1 2057 (Γ.2.1 w 0)) (G.1 1006 w 0) (G.1 1007 w 0)) ∧ tkM (tkK (G.1 2057 (Γ.2.1 w 0)) (G.1 1006 w 0) (sk (G.1 2057 (Γ.2.1 w 0)) (G.1 1006 w 0) (G.1 1007 w 0))) (tkV (G.1 2057 (Γ.2.1 w 0)) (G.1 1006 w 0) (sk (G.1 2057 (Γ.2.1 w 0)) (G.1 1006 w 0) (G.1 1007 w 0))) (G1.1 1008 w 0) (G1.1 1009 w 0)) : gT b n Γ w (sNext b n A) G1 := by
  have hn := gT_n h
  obtain ⟨h1, h2, h3, h4, h5, h6, h7⟩ := h
  obtain ⟨e1, e2⟩ := tP_next h3 h4
  rw [h1, h2, h6, ← e1] at hq
  rw [h2, h6] at hn
  refine ⟨by rw [hs.1 2057 (by decide)]; exact h1, by rw [hs.1 1006 (by decide)]; exact h2, e2, ?_, hq⟩
  rw [e1]
  exact sp_le hn
theorem gT_num {b : Nat → Int} {n : Int} {Γ : zΓ} {w : Nat} {A : aS} {G : zH} (h : gT b n Γ w A G) : (G.1 1008 w 0 = 3 ↔ tK b n A = 3) ∧ (tK b n A = 3 → 0 ≤ G.1 1009 w 0 ∧ min (G.1 1009 w 0) 100000 = tV b n A) := by
  have h9 := h.2.2.2.2.2.2
  unfold tkM sgM at h9
  omega
theorem gT_name {b : Nat → Int} {n : Int} {Γ : zΓ} {w : Nat} {A : aS} {G : zH} (h : gT b n Γ w A G) : (G.1 1008 w 0 = 2 ↔ tK b n A = 1) ∧ (tK b n A = 1 → G.1 1009 w 0 = tV b n A) := by
  have h9 := h.2.2.2.2.2.2
  unfold tkM sgM at h9
  omega
theorem gT_end {b : Nat → Int} {n : Int} {Γ : zΓ} {w : Nat} {A : aS} {G : zH} (h : gT b n Γ w A G) : G.1 1008 w 0 = 0 ↔ tK b n A = 0 := by
  have h9 := h.2.2.2.2.2.2
  unfold tkM sgM at h9
  omega
theorem gT_cmp {b : Nat → Int} {n : Int} {Γ : zΓ} {w : Nat} {A : aS} {G : zH} (h : gT b n Γ w A G) : (G.1 1008 w 0 = 5 ↔ tK b n A = 4 ∧ 5 ≤ tV b n A ∧ tV b n A ≤ 10) ∧ (G.1 1008 w 0 = 5 → G.1 1009 w 0 = tV b n A - 5) := by
  have h9 := h.2.2.2.2.2.2
  unfold tkM sgM at h9
  omega
theorem gT_sig {b : Nat → Int} {n : Int} {Γ : zΓ} {w : Nat} {A : aS} {G : zH} (h : gT b n Γ w A G) {c s : Int} (hc : (c = 59 ∧ s = 17) ∨ (c = 40 ∧ s = 15) ∨ (c = 41 ∧ s = 16) ∨ (c = 43 ∧ s = 11) ∨ (c = 45 ∧ s = 12) ∨ (c = 42 ∧ s = 13) ∨ (c = 47 ∧ s = 14)) : (G.1 1008 w 0 = 4 ∧ G.1 1009 w 0 = c) ↔ (tK b n A = 4 ∧ tV b n A = s) := by
  have h9 := h.2.2.2.2.2.2
  unfold tkM sgM at h9
  rcases hc with ⟨rfl, rfl⟩ | ⟨rfl, rfl⟩ | ⟨rfl, rfl⟩ | ⟨rfl, rfl⟩ | ⟨rfl, rfl⟩ | ⟨rfl, rfl⟩ | ⟨rfl, rfl⟩ <;> omega
theorem rp_n : ∀ k : Nat, k < 24 → (k < 2 → rp k = k) ∧ (k = 2 → rp k = 9) ∧ (3 ≤ k → k ≤ 9 → rp k = k - 1) ∧ (10 ≤ k → k ≤ 13 → rp k = k) ∧ (k = 14 → rp k = 15) ∧ (k = 15 → rp k = 14) ∧ (16 ≤ k → rp k = k) := by decide +kernel
theorem rp_c {v : Int} (h : 0 ≤ v ∧ v < 24) : (v < 2 → rp v = v) ∧ (v = 2 → rp v = 9) ∧ (3 ≤ v → v ≤ 9 → rp v = v - 1) ∧ (10 ≤ v → v ≤ 13 → rp v = v) ∧ (v = 14 → rp v = 15) ∧ (v = 15 → rp v = 14) ∧ (16 ≤ v → rp v = v) := by
  have h1 := rp_n v.toNat (by omega)
  rw [show ((v.toNat : Nat) : Int) = v by omega] at h1
  omega
theorem gT_key {b : Nat → Int} {n : Int} {Γ : zΓ} {w : Nat} {A : aS} {G : zH} (h : gT b n Γ w A G) : (G.1 1008 w 0 = 1 ↔ tK b n A = 2) ∧ (tK b n A = 2 → 0 ≤ tV b n A ∧ tV b n A < 24 ∧ (tV b n A < 2 → G.1 1009 w 0 = tV b n A) ∧ (tV b n A = 2 → G.1 1009 w 0 = 9) ∧ (3 ≤ tV b n A → tV b n A ≤ 9 → G.1 1009 w 0 = tV b n A - 1) ∧ (10 ≤ tV b n A → tV b n A ≤ 13 → G.1 1009 w 0 = tV b n A) ∧ (tV b n A = 14 → G.1 1009 w 0 = 15) ∧ (tV b n A = 15 → G.1 1009 w 0 = 14) ∧ (16 ≤ tV b n A → G.1 1009 w 0 = tV b n A)) := by
  have h9 := h.2.2.2.2.2.2
  refine ⟨by unfold tkM sgM at h9; omega, fun q => ?_⟩
  have h8 := tkK_2 q
  have e : G.1 1009 w 0 = rp (tV b n A) := by unfold tkM sgM at h9; omega
  rw [e]
  exact ⟨h8.1, h8.2, rp_c h8⟩
theorem tW_c {b : Nat → Int} {n : Int} {A : aS} : (tK b n A = 2 → tW b n A = tV b n A) ∧ (tK b n A ≠ 2 → tW b n A = -1) := by
  unfold tW
  constructor
  · intro q; rw [if_pos q]
  · intro q; rw [if_neg q]
/-- a fault of both -/
def FT (w : Nat) (A : aS) (G : zH) : Prop := A 1 0 ≠ 0 ∧ G.1 1004 w 0 = A 1 0 ∧ G.1 1005 w 0 = A 2 0
theorem FT_fail {b : Nat → Int} {n c : Int} {w : Nat} {A : aS} {G : zH} (h0 : A 1 0 = 0) (hc : c ≠ 0) (h1 : G.1 1004 w 0 = c) (h2 : G.1 1005 w 0 = tP b n A) : FT w (sFail b n c A) G := by
  rw [sFail_0 h0]
  refine ⟨?_, ?_, ?_⟩
  · rw [up_f (by decide), up_eq]; exact hc
  · rw [up_f (by decide), up_eq]; exact h1
  · rw [up_eq]; exact h2
theorem sNumB_ne {b : Nat → Int} {n : Int} {A : aS} (h : A 1 0 ≠ 0) : sNumB b n A = A := if_neg h
theorem sNum_1 {b : Nat → Int} {n lo hi : Int} {A : aS} (hk : tK b n A ≠ 3) : sNum b n lo hi A = sFail b n 1 A := by
  unfold sNum
  rw [if_pos hk, sNumB_ne (sFail_f (by decide))]
theorem sNum_2 {b : Nat → Int} {n lo hi : Int} {A : aS} (hk : tK b n A = 3) (hv : tV b n A < lo ∨ hi < tV b n A) : sNum b n lo hi A = sFail b n 2 A := by
  unfold sNum
  rw [if_neg (by omega), if_pos hv, sNumB_ne (sFail_f (by decide))]
theorem sNum_ok {b : Nat → Int} {n lo hi : Int} {A : aS} (h0 : A 1 0 = 0) (hk : tK b n A = 3) (hv : ¬ (tV b n A < lo ∨ hi < tV b n A)) : sNum b n lo hi A = sNext b n A ∧ sNumV b n lo hi A = tV b n A := by
  unfold sNum sNumV sNumB
  rw [if_neg (by omega), if_neg hv, if_pos h0, if_neg (by omega)]
  exact ⟨rfl, rfl⟩
theorem sNum_ne {b : Nat → Int} {n lo hi : Int} {A : aS} (h : A 1 0 ≠ 0) : sNum b n lo hi A = A := by
  unfold sNum
  split
  · rw [sFail_1 h, sNumB_ne h]
  · split
    · rw [sFail_1 h, sNumB_ne h]
    · exact sNumB_ne h

set_option maxHeartbeats 4000000 in
set_option maxRecDepth 100000 in
theorem c_X9_isKeyG {l : Launch} {Γ : zΓ} {G : zH} {w : Nat} {k : Int} (hX : zXs Γ)  : zMet l Γ yX9_isKey cX9_isKey 2 (some .boolean) 0 [zr 10 w, zi k] G (zpi (fun x G' => G' = G ∧ ((x = 0 ∨ x = 1) ∧ (x = 1 ↔ G.1 1008 w 0 = 1 ∧ G.1 1009 w 0 = k)))) := by
  refine zMet_of RX9 hX (by decide) rfl (Nat.le_of_ble_eq_true rfl) ?_
  intro p e s m args below meth c C hr hlk
  show Z p l e (zrm 0) s m args below meth c Γ 2 0 0 (MQ below (zQc Γ (zpi (fun x G' => G' = G ∧ ((x = 0 ∨ x = 1) ∧ (x = 1 ↔ G.1 1008 w 0 = 1 ∧ G.1 1009 w 0 = k))))) args s 0 0 (zA Γ)) 0 [some (zr 10 w), some (zi k)] [] G
  refine zs_loc 1 rfl (fun ha1 hb1 => ?_)
  refine zs_aload_n (pc := 0) C dX9_isKey_0 rfl ?_
  refine zs_geti (r := 1008) (pc := 1) C dX9_isKey_1 w_X9_196 f_10_8 rfl (r_1008 0) (fun v1 e1 l1 u1 => ?_)
  refine zs_iconst (pc := 4) C dX9_isKey_4 (by decide) ?_
  refine zs_icmp_ne (tgt := 20) (pc := 5) C dX9_isKey_5 (by decide) (fun h5 => ?_) (fun h5 => ?_)
  · skip
    refine zs_iconst (pc := 20) C dX9_isKey_20 (by decide) ?_
    exact zs_zret (pc := 21) C hr hlk dX9_isKey_21 (by omega) ⟨rfl, by first | omega | (simp only [zuI_1, zuI_2, zuJ_1, zuJ_2, zuJ_3, zuP_1, zuP_2, zuP_3, zuC_1, zuC_2, reduceIte, Nat.reduceEqDiff, false_and, and_false, true_and, and_true, and_self, or_true, true_or, or_false, false_or]; omega)⟩
  · skip
    refine zs_aload_n (pc := 8) C dX9_isKey_8 rfl ?_
    refine zs_geti (r := 1009) (pc := 9) C dX9_isKey_9 w_X9_207 f_10_9 rfl (r_1009 0) (fun v9 e9 l9 u9 => ?_)
    refine zs_iload_n (pc := 12) C dX9_isKey_12 rfl ?_
    refine zs_icmp_ne (tgt := 20) (pc := 13) C dX9_isKey_13 (by decide) (fun h13 => ?_) (fun h13 => ?_)
    · skip
      refine zs_iconst (pc := 20) C dX9_isKey_20 (by decide) ?_
      exact zs_zret (pc := 21) C hr hlk dX9_isKey_21 (by omega) ⟨rfl, by first | omega | (simp only [zuI_1, zuI_2, zuJ_1, zuJ_2, zuJ_3, zuP_1, zuP_2, zuP_3, zuC_1, zuC_2, reduceIte, Nat.reduceEqDiff, false_and, and_false, true_and, and_true, and_self, or_true, true_or, or_false, false_or]; omega)⟩
    · skip
      refine zs_iconst (pc := 16) C dX9_isKey_16 (by decide) ?_
      refine zs_goto (tgt := 21) (pc := 17) C dX9_isKey_17 (by decide) ?_
      exact zs_zret (pc := 21) C hr hlk dX9_isKey_21 (by omega) ⟨rfl, by first | omega | (simp only [zuI_1, zuI_2, zuJ_1, zuJ_2, zuJ_3, zuP_1, zuP_2, zuP_3, zuC_1, zuC_2, reduceIte, Nat.reduceEqDiff, false_and, and_false, true_and, and_true, and_self, or_true, true_or, or_false, false_or]; omega)⟩

set_option maxHeartbeats 4000000 in
set_option maxRecDepth 100000 in
theorem c_X9_isSignG {l : Launch} {Γ : zΓ} {G : zH} {w : Nat} {k : Int} (hX : zXs Γ)  : zMet l Γ yX9_isSign cX9_isSign 2 (some .boolean) 0 [zr 10 w, zi k] G (zpi (fun x G' => G' = G ∧ ((x = 0 ∨ x = 1) ∧ (x = 1 ↔ G.1 1008 w 0 = 4 ∧ G.1 1009 w 0 = k)))) := by
  refine zMet_of RX9 hX (by decide) rfl (Nat.le_of_ble_eq_true rfl) ?_
  intro p e s m args below meth c C hr hlk
  show Z p l e (zrm 0) s m args below meth c Γ 2 0 0 (MQ below (zQc Γ (zpi (fun x G' => G' = G ∧ ((x = 0 ∨ x = 1) ∧ (x = 1 ↔ G.1 1008 w 0 = 4 ∧ G.1 1009 w 0 = k))))) args s 0 0 (zA Γ)) 0 [some (zr 10 w), some (zi k)] [] G
  refine zs_loc 1 rfl (fun ha1 hb1 => ?_)
  refine zs_aload_n (pc := 0) C dX9_isSign_0 rfl ?_
  refine zs_geti (r := 1008) (pc := 1) C dX9_isSign_1 w_X9_196 f_10_8 rfl (r_1008 0) (fun v1 e1 l1 u1 => ?_)
  refine zs_iconst (pc := 4) C dX9_isSign_4 (by decide) ?_
  refine zs_icmp_ne (tgt := 20) (pc := 5) C dX9_isSign_5 (by decide) (fun h5 => ?_) (fun h5 => ?_)
  · skip
    refine zs_iconst (pc := 20) C dX9_isSign_20 (by decide) ?_
    exact zs_zret (pc := 21) C hr hlk dX9_isSign_21 (by omega) ⟨rfl, by first | omega | (simp only [zuI_1, zuI_2, zuJ_1, zuJ_2, zuJ_3, zuP_1, zuP_2, zuP_3, zuC_1, zuC_2, reduceIte, Nat.reduceEqDiff, false_and, and_false, true_and, and_true, and_self, or_true, true_or, or_false, false_or]; omega)⟩
  · skip
    refine zs_aload_n (pc := 8) C dX9_isSign_8 rfl ?_
    refine zs_geti (r := 1009) (pc := 9) C dX9_isSign_9 w_X9_207 f_10_9 rfl (r_1009 0) (fun v9 e9 l9 u9 => ?_)
    refine zs_iload_n (pc := 12) C dX9_isSign_12 rfl ?_
    refine zs_icmp_ne (tgt := 20) (pc := 13) C dX9_isSign_13 (by decide) (fun h13 => ?_) (fun h13 => ?_)
    · skip
      refine zs_iconst (pc := 20) C dX9_isSign_20 (by decide) ?_
      exact zs_zret (pc := 21) C hr hlk dX9_isSign_21 (by omega) ⟨rfl, by first | omega | (simp only [zuI_1, zuI_2, zuJ_1, zuJ_2, zuJ_3, zuP_1, zuP_2, zuP_3, zuC_1, zuC_2, reduceIte, Nat.reduceEqDiff, false_and, and_false, true_and, and_true, and_self, or_true, true_or, or_false, false_or]; omega)⟩
    · skip
      refine zs_iconst (pc := 16) C dX9_isSign_16 (by decide) ?_
      refine zs_goto (tgt := 21) (pc := 17) C dX9_isSign_17 (by decide) ?_
      exact zs_zret (pc := 21) C hr hlk dX9_isSign_21 (by omega) ⟨rfl, by first | omega | (simp only [zuI_1, zuI_2, zuJ_1, zuJ_2, zuJ_3, zuP_1, zuP_2, zuP_3, zuC_1, zuC_2, reduceIte, Nat.reduceEqDiff, false_and, and_false, true_and, and_true, and_self, or_true, true_or, or_false, false_or]; omega)⟩

set_option maxHeartbeats 4000000 in
set_option maxRecDepth 100000 in
theorem c_X9_findG {l : Launch} {Γ : zΓ} {G : zH} {t a m : Nat} {b n k : Int} (hX : zXs Γ) (hz : zat t = (0, m)) (ht : t < 200) (hm : m ≤ 10000) (hn : 0 ≤ b ∧ 0 ≤ n ∧ b + n ≤ m) : zMet l Γ yX9_find cX9_find 5 (some .int) 0 [zr t a, zi b, zi n, zi k] G (zpi (fun x G' => G' = G ∧ (x = fndn (G.1 (2000 + t) a) b k n.toNat 0 ∧ -1 ≤ x ∧ (x < n ∨ x = -1)))) := by
  refine zMet_of RX9 hX (by decide) rfl (Nat.le_of_ble_eq_true rfl) ?_
  intro p e s m args below meth c C hr hlk
  show Z p l e (zrm 0) s m args below meth c Γ 5 0 0 (MQ below (zQc Γ (zpi (fun x G' => G' = G ∧ (x = fndn (G.1 (2000 + t) a) b k n.toNat 0 ∧ -1 ≤ x ∧ (x < n ∨ x = -1))))) args s 0 0 (zA Γ)) 0 [some (zr t a), some (zi b), some (zi n), some (zi k), none] [] G
  refine zs_loc 1 rfl (fun ha1 hb1 => ?_)
  refine zs_loc 2 rfl (fun ha2 hb2 => ?_)
  refine zs_loc 3 rfl (fun ha3 hb3 => ?_)
  refine zs_iconst (pc := 0) C dX9_find_0 (by decide) ?_
  refine zs_istore (pc := 1) C dX9_find_1 (by decide) ?_
  dsimp only [zset, zclr, znone]
  have L3 : ∀ (nn : Nat) (x4 : Int), (0 ≤ x4 ∧ x4 ≤ n) → (fndn (G.1 (2000 + t) a) b k (n - x4).toNat x4 = fndn (G.1 (2000 + t) a) b k n.toNat 0) → (n - x4).toNat < nn → Z p l e (zrm 0) s m args below meth c Γ 5 0 0 (MQ below (zQc Γ (zpi (fun x G' => G' = G ∧ (x = fndn (G.1 (2000 + t) a) b k n.toNat 0 ∧ -1 ≤ x ∧ (x < n ∨ x = -1))))) args s 0 0 (zA Γ)) 3 [some (zr t a), some (zi b), some (zi n), some (zi k), some (zi x4)] [] G := by
    intro nn
    induction nn with
    | zero => intro x4 h3_0 h3_1 hm; exact absurd hm (Nat.not_lt_zero _)
    | succ nn ih3 =>
      intro x4 h3_0 h3_1 hm3
      refine zs_iload (pc := 3) C dX9_find_3 rfl ?_
      refine zs_iload_n (pc := 5) C dX9_find_5 rfl ?_
      refine zs_icmp_ge (tgt := 28) (pc := 6) C dX9_find_6 (by decide) (fun h6 => ?_) (fun h6 => ?_)
      · skip
        refine zs_iconst (pc := 28) C dX9_find_28 (by decide) ?_
        exact zs_iret (pc := 29) C hr hlk dX9_find_29 ⟨rfl, ⟨by rw [← h3_1, fnd_e (by omega)], by omega⟩⟩
      · skip
        refine zs_aload_n (pc := 9) C dX9_find_9 rfl ?_
        refine zs_iload_n (pc := 10) C dX9_find_10 rfl ?_
        refine zs_iload (pc := 11) C dX9_find_11 rfl ?_
        first | refine zs_iadd (pc := 13) C dX9_find_13 (by omega) ?_ | refine zs_iaddF (pc := 13) C dX9_find_13 (fun z13 hz131 hz132 => ?_)
        refine zs_iald (r := (2000 + t)) (pc := 14) C dX9_find_14 hz ht (by omega) rfl rfl (fun v14 e14 l14 u14 => ?_)
        refine zs_iload_n (pc := 15) C dX9_find_15 rfl ?_
        refine zs_icmp_ne (tgt := 22) (pc := 16) C dX9_find_16 (by decide) (fun h16 => ?_) (fun h16 => ?_)
        · skip
          first | refine zs_iinc (pc := 22) C dX9_find_22 rfl (by decide) (by omega) ?_ | refine zs_iincF (pc := 22) C dX9_find_22 rfl (by decide) (fun z22 hz221 hz222 => ?_)
          dsimp only [zset, zclr, znone]
          refine zs_goto (tgt := 3) (pc := 25) C dX9_find_25 (by decide) ?_
          exact zs_wk (ih3 _ (by omega) (by have q := h3_1; rw [fnd_s (by omega), if_neg (by omega)] at q; exact q) (by first | omega | (simp only [zuI_1, zuI_2, zuJ_1, zuJ_2, zuJ_3, zuP_1, zuP_2, zuP_3, zuC_1, zuC_2, reduceIte, Nat.reduceEqDiff, false_and, and_false, true_and, and_true, and_self, or_true, true_or, or_false, false_or]; omega))) (zwk_s rfl (zwk_s rfl (zwk_s rfl (zwk_s rfl (zwk_s rfl zwk_0)))))
        · skip
          refine zs_iload (pc := 19) C dX9_find_19 rfl ?_
          exact zs_iret (pc := 21) C hr hlk dX9_find_21 ⟨rfl, ⟨by rw [← h3_1, fnd_s (by omega), if_pos (by omega)], by omega⟩⟩
  exact zs_wk (L3 _ _ (by omega) (by rw [Int.sub_zero]) (Nat.lt_succ_self _)) (zwk_s rfl (zwk_s rfl (zwk_s rfl (zwk_s rfl (zwk_s rfl zwk_0)))))

