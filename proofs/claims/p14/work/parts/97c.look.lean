/-! a look: its value, what the reference says of a throw, what is thrown -/
def LKV (A W : aS) (a b : Int) : Int := if b = 0 then A 7 a.toNat else if b = 1 then W 13 a.toNat else if b = 2 then W 14 a.toNat else if b = 3 then wPr W a else W 15 a.toNat
def LKT (A : aS) (a b : Int) : Int := if 0 ≤ a ∧ a < A 4 1 then (if 0 ≤ b ∧ b ≤ 4 then 0 else 2) else 1
def LKX (A : aS) (a b : Int) (E : String) : Prop := (E = "java/lang/IndexOutOfBoundsException" ∧ LKT A a b = 1) ∨ (E = "java/util/NoSuchElementException" ∧ LKT A a b = 2)
theorem LKT_1 {A : aS} {a b : Int} (h : ¬ (0 ≤ a ∧ a < A 4 1)) : LKT A a b = 1 := if_neg h
theorem LKT_0 {A : aS} {a b : Int} (h : 0 ≤ a ∧ a < A 4 1) (hb : 0 ≤ b ∧ b ≤ 4) : LKT A a b = 0 := (if_pos h).trans (if_pos hb)
theorem LKT_2 {A : aS} {a b : Int} (h : 0 ≤ a ∧ a < A 4 1) (hb : ¬ (0 ≤ b ∧ b ≤ 4)) : LKT A a b = 2 := (if_pos h).trans (if_neg hb)

def zXCk (K : String → Prop) (Γ : zΓ) (G : zH) : String → State → State → Prop := fun E st t => K E ∧ va_P Γ.2.2.2.1 vwCl (zWd Γ G) t.heap ∧ va_F (zA Γ) st t
def zMxk (K : String → Prop) (l : Launch) (Γ : zΓ) (y : MethodName) (b : ByteArray) (mx : Nat) (ret : Option FieldType) (lv : Nat) (av : List zV) (G : zH) (post : Option zV → zH → Prop) : Prop :=
  vx_Met l y (Cond.code y b mx ret :: zTb) (zrC lv 1 6) (fun v U => zPc Γ av G v U ∧ zTw (zA Γ) U) (zQc Γ post) (zXCk K Γ G) 1 6 (zA Γ)
section ZQK
variable {p : Program} {l : Launch} {e : Env} {R : Room} {s : State} {m : MethodId} {args : Array Value} {below : List Frame} {meth : Method} {c : Code} {Γ : zΓ} {cc : ByteArray} {nL : Nat} {own : String} {cells slots : Nat} {Q : State → Prop} {pc : Nat} {ls : List (Option zV)} {st : List zV} {G : zH}
theorem zMxk_of {K : String → Prop} {y : MethodName} {b : ByteArray} {mx lv : Nat} {ret : Option FieldType} {av : List zV} {post : Option zV → zH → Prop} (own : String) (hX : zXs Γ) (hy : plainName y.cls = true) (ho : y.cls = own) (hlen : (lg_sl (av.map zc)).length ≤ mx)
    (body : ∀ (p : Program) (e : Env) (s : State) (m : MethodId) (args : Array Value) (below : List Frame) (meth : Method) (c : Code), zCx p s m args c Γ b mx own → meth.sig.returnType = ret → meth.locks = false → zTw (zA Γ) s → (∀ x ∈ c.exceptionTable.toList, False) →
      Z p l e (zrC lv 1 6) s m args below meth c Γ mx 0 0 (vx_MQ below (zQc Γ post) (zXCk K Γ G) args s 1 6 (zA Γ)) 0 (zent av mx) [] G) :
    zMxk K l Γ y b mx ret lv av G post := by
  refine vx_ofW (cc := b) (maxL := mx) (ret := ret) hy rfl ?_
  intro p e s m args below meth c s₁ B hml hex hv
  obtain ⟨⟨rfl, hSt, hG, hk, hP⟩, hT⟩ := hv
  have hts := atoms_spec (ws := Cond.code y b mx ret :: zTb) B.pre
  have hown : s.vm.findClass own = some m.cls := ho ▸ findClass_of_methodNamed B.named
  have hl := lv_entry (av.map zc) (n := mx) hlen
  rw [lg_entry_eq]
  generalize (lg_sl (av.map zc) ++ List.replicate (mx - (lg_sl (av.map zc)).length) Slot.unset).toArray = rl at hl ⊢
  exact body p e s m (av.map zc).toArray below meth c ⟨B.exec, B.bytes, hml, hown, fun w hw => hts w (List.mem_cons_of_mem _ hw), hSt, hX⟩ B.returns B.notSynchronized hT hex hG (fun v hv => hk v (zent_in hv)) (fun v hv => by cases hv) s.heap [] rl hP va_S.rf ⟨hl.1, hl.2.1, fun i v hi => hl.2.2 _ (zent_args hi)⟩
set_option maxRecDepth 100000 in
theorem zs_throw1k {K : String → Prop} (C : zCx p s m args c Γ cc nL RX8) (hst : l.stackTraces = false) {Qc : Array Value → State → Outcome → State → Prop} (hT : zTw (zA Γ) s) (hex : ∀ x ∈ c.exceptionTable.toList, False) (hlk : meth.locks = false)
    (d0 : decode cc pc = .ok (.new 108, 3)) (d3 : decode cc (pc + 3) = .ok (.dup, 1)) (d4 : decode cc (pc + 4) = .ok (.ldc 110, 2)) (d6 : decode cc (pc + 6) = .ok (.invokespecial 112, 3)) (d9 : decode cc (pc + 9) = .ok (.athrow, 1)) (hR : 6 ≤ R.frames ∧ 100 ≤ R.locals ∧ 1 ≤ R.cells ∧ 6 ≤ R.slots) (hK : K "java/lang/IndexOutOfBoundsException") :
    Z p l e R s m args below meth c Γ nL 0 0 (vx_MQ below Qc (zXCk K Γ G) args s 1 6 (zA Γ)) pc ls [] G := by
  intro hG hl hs H locs rl hP hS hL
  obtain ⟨⟨q1, h1⟩, -, h3, h4, -, h6⟩ := hT
  exact vx_throwS (cls := "java/lang/IndexOutOfBoundsException") (names := ["java/lang/RuntimeException", "java/lang/Exception"]) C.1 C.2.1 hst C.2.2.2.1 (by decide +kernel) (by decide +kernel) (C.2.2.2.2.1 _ tk_1) (C.2.2.2.2.1 _ ti_1) h1 (at_0 (fun w hw => List.mem_append_left _ hw) C.2.2.2.2.1 h6) (by decide +kernel) h3 h4 hS (by rw [C.2.2.1]; exact hL.1) d0 d3 d4 d6 d9 (fun x hx => (hex x hx).elim) (by show 2 + 3 < R.frames; omega) (by show 0 + (13 * (2 + 1) + 43) ≤ R.locals; omega) (by omega) (by omega) hlk
    (fun t _ k2 k3 => ⟨hK, hP.kept (fun k x hx => k3 x.1 (hP k x hx).lt), ⟨Nat.le_trans hS.1 k2, fun x y1 y2 => (k3 x (Nat.lt_of_lt_of_le y1 hS.1)).trans (hS.2.1 x y1 y2)⟩⟩) hS.2.2 (by omega) (by omega)
set_option maxRecDepth 100000 in
theorem zs_throw2k {K : String → Prop} (C : zCx p s m args c Γ cc nL RX8) (hst : l.stackTraces = false) {Qc : Array Value → State → Outcome → State → Prop} (hT : zTw (zA Γ) s) (hex : ∀ x ∈ c.exceptionTable.toList, False) (hlk : meth.locks = false)
    (d0 : decode cc pc = .ok (.new 131, 3)) (d3 : decode cc (pc + 3) = .ok (.dup, 1)) (d4 : decode cc (pc + 4) = .ok (.ldc 133, 2)) (d6 : decode cc (pc + 6) = .ok (.invokespecial 135, 3)) (d9 : decode cc (pc + 9) = .ok (.athrow, 1)) (hR : 6 ≤ R.frames ∧ 100 ≤ R.locals ∧ 1 ≤ R.cells ∧ 6 ≤ R.slots) (hK : K "java/util/NoSuchElementException") :
    Z p l e R s m args below meth c Γ nL 0 0 (vx_MQ below Qc (zXCk K Γ G) args s 1 6 (zA Γ)) pc ls [] G := by
  intro hG hl hs H locs rl hP hS hL
  obtain ⟨-, ⟨q2, h2⟩, h3, h4, -, h6⟩ := hT
  exact vy_throwS (cls := "java/util/NoSuchElementException") (Yz := "java/lang/RuntimeException") (r := ["java/lang/Exception"]) (ix := 13) (rx := prog_28_method_4_code) C.1 C.2.1 hst (by decide +kernel) (by decide +kernel) (by decide +kernel) (by decide +kernel) C.2.2.2.1 (by decide +kernel) (by decide +kernel) (by decide +kernel) (C.2.2.2.2.1 _ tk_2) (C.2.2.2.2.1 _ ti_2) h2 (at_0 (fun w hw => List.mem_append_right _ hw) C.2.2.2.2.1 h6) (by decide +kernel) h3 h4 hS (by rw [C.2.2.1]; exact hL.1) d0 d3 d4 d6 d9 (fun x hx => (hex x hx).elim) (by show 1 + 1 + 3 < R.frames; omega) (by show 0 + (13 * (1 + 1 + 1) + 43) ≤ R.locals; omega) (by omega) (by omega) hlk
    (fun t _ k2 k3 => ⟨hK, hP.kept (fun k x hx => k3 x.1 (hP k x hx).lt), ⟨Nat.le_trans hS.1 k2, fun x y1 y2 => (k3 x (Nat.lt_of_lt_of_le y1 hS.1)).trans (hS.2.1 x y1 y2)⟩⟩) hS.2.2 (by omega) (by omega)
end ZQK

set_option maxHeartbeats 4000000 in
set_option maxRecDepth 100000 in
theorem c_X8_lookK {l : Launch} {Γ : zΓ} {G : zH} {w t : Nat} {A W : aS} {a b : Int} (hX : zXs Γ) (hZ : QQ Γ (Γ.2.1 w 4) t A W G) (hI : G.2.2 903 w = t) (hW : WI A W) (hT : TA A) (hst : l.stackTraces = false)  : zMxk (LKX A a b) l Γ yX8_look cX8_look 3 (some .int) 8 [zr 9 w, zi a, zi b] G (zpi (fun x G' => G' = G ∧ (LKT A a b = 0 ∧ x = LKV A W a b))) := by
  refine zMxk_of RX8 hX (by decide) rfl (Nat.le_of_ble_eq_true rfl) ?_
  intro p e s m args below meth c C hr hlk hTw hex
  show Z p l e (zrC 8 1 6) s m args below meth c Γ 3 0 0 (vx_MQ below (zQc Γ (zpi (fun x G' => G' = G ∧ (LKT A a b = 0 ∧ x = LKV A W a b)))) (zXCk (LKX A a b) Γ G) args s 1 6 (zA Γ)) 0 [some (zr 9 w), some (zi a), some (zi b)] [] G
  refine zs_loc 1 rfl (fun ha1 hb1 => ?_)
  refine zs_loc 2 rfl (fun ha2 hb2 => ?_)
  have hT0 := hT.1
  have h00 := hW.1
  refine zs_aload_n (pc := 0) C dX8_look_0 rfl ?_
  refine zs_getd (r := 903) (pc := 1) C dX8_look_1 w_X8_25 f_9_3 (by decide) rfl (fun v1 e1 t1 => ?_)
  rw [hI] at e1
  subst v1
  refine zs_iconst (pc := 4) C dX8_look_4 (by decide) ?_
  refine zs_iload_n (pc := 5) C dX8_look_5 rfl ?_
  refine zVip2 (pc := 6) C dX8_look_6 v_X8_104 (c_X5_hasT hX hZ.2.1 (by decide)) (by decide) (by decide) ⟨Nat.zero_le _, Nat.zero_le _⟩ (Nat.le_of_ble_eq_true rfl) (fun x6 l6 u6 hp6 => ?_)
  have hq6 := hp6
  have hv6 : x6 = 1 ↔ 0 ≤ a ∧ a < A 4 1 := hq6.2
  have hw6 := hq6.1
  refine zs_if_ne (tgt := 22) (pc := 9) C dX8_look_9 (by decide) (fun h9 => ?_) (fun h9 => ?_)
  · skip
    have hok : 0 ≤ a ∧ a < A 4 1 := hv6.mp (by omega)
    refine zs_iload_n (pc := 22) C dX8_look_22 rfl ?_
    refine zs_name (fun y23 ey23 => ?_)
    rcases (show y23 = 0 ∨ y23 = 1 ∨ y23 = 2 ∨ y23 = 3 ∨ y23 = 4 ∨ (y23 < 0 ∨ 4 < y23) by omega) with h23 | h23 | h23 | h23 | h23 | h23
    · skip
      refine zs_tabIn (pc := 23) (tgt := 56) C 0 dX8_look_23 h23 (by decide) rfl (by decide) ?_
      refine zs_aload_n (pc := 56) C dX8_look_56 rfl ?_
      refine zs_getd (r := 903) (pc := 57) C dX8_look_57 w_X8_25 f_9_3 (by decide) rfl (fun v57 e57 t57 => ?_)
      rw [hI] at e57
      subst v57
      refine zs_getf (pc := 60) C dX8_look_60 w_X8_115 f_6_4 (by decide) ?_
      refine zs_iload_n (pc := 63) C dX8_look_63 rfl ?_
      refine zs_iald (r := 2039) (pc := 64) C dX8_look_64 a_39 (by decide) (by omega) rfl (r_2039 _) (fun v64 e64 l64 u64 => ?_)
      try simp only [QQ_2039 hZ] at e64
      try subst v64
      exact zs_iretX (pc := 65) C hr hlk dX8_look_65 ⟨rfl, ⟨LKT_0 hok (by omega), by unfold LKV; rw [(if_pos (by omega))]⟩⟩
    · skip
      refine zs_tabIn (pc := 23) (tgt := 66) C 1 dX8_look_23 h23 (by decide) rfl (by decide) ?_
      refine zs_aload_n (pc := 66) C dX8_look_66 rfl ?_
      refine zs_getf (pc := 67) C dX8_look_67 w_X8_34 f_9_4 (by decide) ?_
      refine zs_getf (pc := 70) C dX8_look_70 w_X8_118 f_8_4 (by decide) ?_
      refine zs_iload_n (pc := 73) C dX8_look_73 rfl ?_
      refine zs_iald (r := 2050) (pc := 74) C dX8_look_74 a_50 (by decide) (by omega) rfl (r_2050 _) (fun v74 e74 l74 u74 => ?_)
      try simp only [QQ_2050 hZ] at e74
      try subst v74
      exact zs_iretX (pc := 75) C hr hlk dX8_look_75 ⟨rfl, ⟨LKT_0 hok (by omega), by unfold LKV; rw [(if_neg (by omega)), (if_pos (by omega))]⟩⟩
    · skip
      refine zs_tabIn (pc := 23) (tgt := 76) C 2 dX8_look_23 h23 (by decide) rfl (by decide) ?_
      refine zs_aload_n (pc := 76) C dX8_look_76 rfl ?_
      refine zs_getf (pc := 77) C dX8_look_77 w_X8_34 f_9_4 (by decide) ?_
      refine zs_getf (pc := 80) C dX8_look_80 w_X8_121 f_8_5 (by decide) ?_
      refine zs_iload_n (pc := 83) C dX8_look_83 rfl ?_
      refine zs_iald (r := 2051) (pc := 84) C dX8_look_84 a_51 (by decide) (by omega) rfl (r_2051 _) (fun v84 e84 l84 u84 => ?_)
      try simp only [QQ_2051 hZ] at e84
      try subst v84
      exact zs_iretX (pc := 85) C hr hlk dX8_look_85 ⟨rfl, ⟨LKT_0 hok (by omega), by unfold LKV; rw [(if_neg (by omega)), (if_neg (by omega)), (if_pos (by omega))]⟩⟩
    · skip
      refine zs_tabIn (pc := 23) (tgt := 86) C 3 dX8_look_23 h23 (by decide) rfl (by decide) ?_
      refine zs_aload_n (pc := 86) C dX8_look_86 rfl ?_
      refine zs_getf (pc := 87) C dX8_look_87 w_X8_34 f_9_4 (by decide) ?_
      refine zs_iload_n (pc := 90) C dX8_look_90 rfl ?_
      refine zVip1 (pc := 91) C dX8_look_91 v_X8_124 (c_X7_prideOfK hX hZ (WI_WL hW) (by omega)) (by decide) (by decide) ⟨Nat.zero_le _, Nat.zero_le _⟩ (Nat.le_of_ble_eq_true rfl) (fun x91 l91 u91 hp91 => ?_)
      have hq91 := hp91
      exact zs_iretX (pc := 94) C hr hlk dX8_look_94 ⟨rfl, ⟨LKT_0 hok (by omega), by unfold LKV; rw [(if_neg (by omega)), (if_neg (by omega)), (if_neg (by omega)), (if_pos (by omega)), hq91]⟩⟩
    · skip
      refine zs_tabIn (pc := 23) (tgt := 95) C 4 dX8_look_23 h23 (by decide) rfl (by decide) ?_
      refine zs_aload_n (pc := 95) C dX8_look_95 rfl ?_
      refine zs_getf (pc := 96) C dX8_look_96 w_X8_34 f_9_4 (by decide) ?_
      refine zs_getf (pc := 99) C dX8_look_99 w_X8_128 f_8_6 (by decide) ?_
      refine zs_iload_n (pc := 102) C dX8_look_102 rfl ?_
      refine zs_iald (r := 2052) (pc := 103) C dX8_look_103 a_52 (by decide) (by omega) rfl (r_2052 _) (fun v103 e103 l103 u103 => ?_)
      try simp only [QQ_2052 hZ] at e103
      try subst v103
      exact zs_iretX (pc := 104) C hr hlk dX8_look_104 ⟨rfl, ⟨LKT_0 hok (by omega), by unfold LKV; rw [(if_neg (by omega)), (if_neg (by omega)), (if_neg (by omega)), (if_neg (by omega))]⟩⟩
    · skip
      refine zs_tabOut (tgt := 105) (pc := 23) C dX8_look_23 h23 (by decide) ?_
      have hK2 : LKX A a b "java/util/NoSuchElementException" := Or.inr ⟨rfl, LKT_2 hok (by omega)⟩
      exact zs_throw2k (pc := 105) C hst hTw hex hlk dX8_look_105 dX8_look_108 dX8_look_109 dX8_look_111 dX8_look_114 (show 6 ≤ 8 ∧ 100 ≤ 40 * 8 ∧ 1 ≤ 1 ∧ 6 ≤ 6 by decide) hK2
  · skip
    have hK1 : LKX A a b "java/lang/IndexOutOfBoundsException" := Or.inl ⟨rfl, LKT_1 (fun z => by have := hv6.mpr z; omega)⟩
    exact zs_throw1k (pc := 12) C hst hTw hex hlk dX8_look_12 dX8_look_15 dX8_look_16 dX8_look_18 dX8_look_21 (show 6 ≤ 8 ∧ 100 ≤ 40 * 8 ∧ 1 ≤ 1 ∧ 6 ≤ 6 by decide) hK1

set_option maxHeartbeats 4000000 in
set_option maxRecDepth 100000 in
theorem c_X9_failsW {l : Launch} {Γ : zΓ} {G : zH} {w : Nat} {k : Int} (hX : zXs Γ)  : zMet l Γ yX9_fails cX9_fails 2 (some .int) 0 [zr 10 w, zi k] G (zpi (fun x G' => zsm [1002] G G' ∧ (G'.1 1002 w 0 = k ∧ G'.2.1 = G.2.1))) := by
  refine zMet_of RX9 hX (by decide) rfl (Nat.le_of_ble_eq_true rfl) ?_
  intro p e s m args below meth c C hr hlk
  show Z p l e (zrm 0) s m args below meth c Γ 2 0 0 (MQ below (zQc Γ (zpi (fun x G' => zsm [1002] G G' ∧ (G'.1 1002 w 0 = k ∧ G'.2.1 = G.2.1)))) args s 0 0 (zA Γ)) 0 [some (zr 10 w), some (zi k)] [] G
  refine zs_loc 1 rfl (fun ha1 hb1 => ?_)
  refine zs_aload_n (pc := 0) C dX9_fails_0 rfl ?_
  refine zs_iload_n (pc := 1) C dX9_fails_1 rfl ?_
  refine zs_puti (r := 1002) (pc := 2) C dX9_fails_2 w_X9_178 f_10_2 rfl (r_1002 0) (by omega) ?_
  refine zs_iconst (pc := 5) C dX9_fails_5 (by decide) ?_
  exact zs_iret (pc := 6) C hr hlk dX9_fails_6 ⟨by repeat (first | exact zsm_rf | assumption | refine zsm_C (by decide) ?_ | refine zsm_I (by decide) ?_ | refine zsm_J ?_ | refine zsm_c (by assumption) (by decide) ?_), ⟨(by simp only [zuI_1, zuI_2, zuJ_1, zuJ_2, zuJ_3, zuP_1, zuP_2, zuP_3, zuC_1, zuC_2, reduceIte, Nat.reduceEqDiff, false_and, and_false, true_and, and_true, and_self, or_true, true_or, or_false, false_or]), rfl⟩⟩

set_option maxHeartbeats 4000000 in
set_option maxRecDepth 100000 in
theorem c_X9_lookW {l : Launch} {Γ : zΓ} {G : zH} {w : Nat} {a b : Int} {A W : aS}  (hX : zXs Γ) (hR : rW Γ w 0 W G) (hK : kR Γ w A G) (hW : WI A W) (hT : TA A)  : zMet l Γ yX9_look cX9_look 3 (some .int) 2 [zr 10 w, zi a, zi b] G (zpi (fun x G' => zsm [1002] G G' ∧ (G'.1 1002 w 0 = LKT A a b ∧ (LKT A a b = 0 → x = LKV A W a b) ∧ zsj [] G G'))) := by
  refine zMet_of RX9 hX (by decide) rfl (Nat.le_of_ble_eq_true rfl) ?_
  intro p e s m args below meth c C hr hlk
  show Z p l e (zrm 2) s m args below meth c Γ 3 0 0 (MQ below (zQc Γ (zpi (fun x G' => zsm [1002] G G' ∧ (G'.1 1002 w 0 = LKT A a b ∧ (LKT A a b = 0 → x = LKV A W a b) ∧ zsj [] G G')))) args s 0 0 (zA Γ)) 0 [some (zr 10 w), some (zi a), some (zi b)] [] G
  refine zs_loc 1 rfl (fun ha1 hb1 => ?_)
  refine zs_loc 2 rfl (fun ha2 hb2 => ?_)
  have hT0 := hT.1
  have h00 := hW.1
  refine zs_aload_n (pc := 0) C dX9_look_0 rfl ?_
  refine zs_iconst (pc := 1) C dX9_look_1 (by decide) ?_
  refine zs_puti (r := 1002) (pc := 2) C dX9_look_2 w_X9_178 f_10_2 rfl (r_1002 0) (by omega) ?_
  refine zs_aload_n (pc := 5) C dX9_look_5 rfl ?_
  refine zs_iload_n (pc := 6) C dX9_look_6 rfl ?_
  refine zVip1 (pc := 7) C dX9_look_7 v_X9_398 (c_X9_isPersonW (A := A) hX (by repeat (first | assumption | refine kR_sm (by assumption) (by decide) ?_ | refine kR_I (by decide) ?_ | refine kR_J ?_))) (by decide) (by decide) ⟨Nat.zero_le _, Nat.zero_le _⟩ (Nat.le_of_ble_eq_true rfl) (fun x7 l7 u7 hp7 => ?_)
  have hq7 := hp7
  try simp only [zuI_1, zuI_2, zuJ_1, zuJ_2, zuJ_3, zuP_1, zuP_2, zuP_3, zuC_1, zuC_2, reduceIte, Nat.reduceEqDiff, false_and, and_false, true_and, and_true, and_self, or_true, true_or, or_false, false_or] at hq7
  have hv7 : x7 = 1 ↔ 0 ≤ a ∧ a < A 4 1 := hq7.2
  have hw7 := hq7.1
  refine zs_if_ne (tgt := 19) (pc := 10) C dX9_look_10 (by decide) (fun h10 => ?_) (fun h10 => ?_)
  · skip
    have hok : 0 ≤ a ∧ a < A 4 1 := hv7.mp (by omega)
    have q5 := hR.2.1 a.toNat (by omega)
    rw [show (5 * (0 : Int) + (a.toNat : Int)).toNat = a.toNat by omega] at q5
    obtain ⟨t1, t2, t3, -⟩ := q5
    refine zs_iload_n (pc := 19) C dX9_look_19 rfl ?_
    refine zs_name (fun y20 ey20 => ?_)
    rcases (show y20 = 0 ∨ y20 = 1 ∨ y20 = 2 ∨ y20 = 3 ∨ y20 = 4 ∨ (y20 < 0 ∨ 4 < y20) by omega) with h20 | h20 | h20 | h20 | h20 | h20
    · skip
      refine zs_tabIn (pc := 20) (tgt := 56) C 0 dX9_look_20 h20 (by decide) rfl (by decide) ?_
      refine zs_aload_n (pc := 56) C dX9_look_56 rfl ?_
      refine zs_getf (pc := 57) C dX9_look_57 w_X9_36 f_10_27 (by decide) ?_
      refine zs_iload_n (pc := 60) C dX9_look_60 rfl ?_
      refine zs_iald (r := 2064) (pc := 61) C dX9_look_61 a_64 (by decide) (by omega) rfl (r_2064 _) (fun v61 e61 l61 u61 => ?_)
      try simp only [zuI_1, zuI_2, zuJ_1, zuJ_2, zuJ_3, zuP_1, zuP_2, zuP_3, zuC_1, zuC_2, reduceIte, Nat.reduceEqDiff, false_and, and_false, true_and, and_true, and_self, or_true, true_or, or_false, false_or] at e61
      have y61 : v61 = A 7 a.toNat := e61.trans (hK.2.2.2.1 a.toNat (by omega)).2
      exact zs_iret (pc := 62) C hr hlk dX9_look_62 ⟨by repeat (first | exact zsm_rf | assumption | refine zsm_C (by decide) ?_ | refine zsm_I (by decide) ?_ | refine zsm_J ?_ | refine zsm_c (by assumption) (by decide) ?_), ⟨(by rw [LKT_0 hok (by omega)]; simp only [zuI_1, zuI_2, zuJ_1, zuJ_2, zuJ_3, zuP_1, zuP_2, zuP_3, zuC_1, zuC_2, reduceIte, Nat.reduceEqDiff, false_and, and_false, true_and, and_true, and_self, or_true, true_or, or_false, false_or]), (fun _ => by rw [y61]; unfold LKV; rw [if_pos (by omega)]), (by repeat (first | exact zsj_rf | assumption | refine zsj_I ?_ | refine zsj_J (by decide) ?_ | refine zsj_e (by assumption) ?_ | refine zsj_c (by assumption) (by decide) ?_))⟩⟩
    · skip
      refine zs_tabIn (pc := 20) (tgt := 63) C 1 dX9_look_20 h20 (by decide) rfl (by decide) ?_
      refine zs_aload_n (pc := 63) C dX9_look_63 rfl ?_
      refine zs_getf (pc := 64) C dX9_look_64 w_X9_94 f_10_53 (by decide) ?_
      refine zs_iload_n (pc := 67) C dX9_look_67 rfl ?_
      refine zs_iald (r := 2083) (pc := 68) C dX9_look_68 a_83 (by decide) (by omega) rfl (r_2083 _) (fun v68 e68 l68 u68 => ?_)
      try simp only [zuI_1, zuI_2, zuJ_1, zuJ_2, zuJ_3, zuP_1, zuP_2, zuP_3, zuC_1, zuC_2, reduceIte, Nat.reduceEqDiff, false_and, and_false, true_and, and_true, and_self, or_true, true_or, or_false, false_or] at e68
      have y68 : v68 = W 13 a.toNat := e68.trans t1
      exact zs_iret (pc := 69) C hr hlk dX9_look_69 ⟨by repeat (first | exact zsm_rf | assumption | refine zsm_C (by decide) ?_ | refine zsm_I (by decide) ?_ | refine zsm_J ?_ | refine zsm_c (by assumption) (by decide) ?_), ⟨(by rw [LKT_0 hok (by omega)]; simp only [zuI_1, zuI_2, zuJ_1, zuJ_2, zuJ_3, zuP_1, zuP_2, zuP_3, zuC_1, zuC_2, reduceIte, Nat.reduceEqDiff, false_and, and_false, true_and, and_true, and_self, or_true, true_or, or_false, false_or]), (fun _ => by rw [y68]; unfold LKV; rw [if_neg (by omega), if_pos (by omega)]), (by repeat (first | exact zsj_rf | assumption | refine zsj_I ?_ | refine zsj_J (by decide) ?_ | refine zsj_e (by assumption) ?_ | refine zsj_c (by assumption) (by decide) ?_))⟩⟩
    · skip
      refine zs_tabIn (pc := 20) (tgt := 70) C 2 dX9_look_20 h20 (by decide) rfl (by decide) ?_
      refine zs_aload_n (pc := 70) C dX9_look_70 rfl ?_
      refine zs_getf (pc := 71) C dX9_look_71 w_X9_97 f_10_54 (by decide) ?_
      refine zs_iload_n (pc := 74) C dX9_look_74 rfl ?_
      refine zs_iald (r := 2084) (pc := 75) C dX9_look_75 a_84 (by decide) (by omega) rfl (r_2084 _) (fun v75 e75 l75 u75 => ?_)
      try simp only [zuI_1, zuI_2, zuJ_1, zuJ_2, zuJ_3, zuP_1, zuP_2, zuP_3, zuC_1, zuC_2, reduceIte, Nat.reduceEqDiff, false_and, and_false, true_and, and_true, and_self, or_true, true_or, or_false, false_or] at e75
      have y75 : v75 = W 14 a.toNat := e75.trans t2
      exact zs_iret (pc := 76) C hr hlk dX9_look_76 ⟨by repeat (first | exact zsm_rf | assumption | refine zsm_C (by decide) ?_ | refine zsm_I (by decide) ?_ | refine zsm_J ?_ | refine zsm_c (by assumption) (by decide) ?_), ⟨(by rw [LKT_0 hok (by omega)]; simp only [zuI_1, zuI_2, zuJ_1, zuJ_2, zuJ_3, zuP_1, zuP_2, zuP_3, zuC_1, zuC_2, reduceIte, Nat.reduceEqDiff, false_and, and_false, true_and, and_true, and_self, or_true, true_or, or_false, false_or]), (fun _ => by rw [y75]; unfold LKV; rw [if_neg (by omega), if_neg (by omega), if_pos (by omega)]), (by repeat (first | exact zsj_rf | assumption | refine zsj_I ?_ | refine zsj_J (by decide) ?_ | refine zsj_e (by assumption) ?_ | refine zsj_c (by assumption) (by decide) ?_))⟩⟩
    · skip
      refine zs_tabIn (pc := 20) (tgt := 77) C 3 dX9_look_20 h20 (by decide) rfl (by decide) ?_
      refine zs_aload_n (pc := 77) C dX9_look_77 rfl ?_
      refine zs_iconst (pc := 78) C dX9_look_78 (by decide) ?_
      refine zs_iload_n (pc := 79) C dX9_look_79 rfl ?_
      refine zVip2 (pc := 80) C dX9_look_80 v_X9_404 (c_X9_prideOfW (A := A) (W := W) hX (Or.inl rfl) (by omega) (rL_I (by decide) hR.1) (by repeat (first | assumption | refine kR_sm (by assumption) (by decide) ?_ | refine kR_I (by decide) ?_ | refine kR_J ?_)) hW hT) (by decide) (by decide) ⟨Nat.zero_le _, Nat.zero_le _⟩ (Nat.le_of_ble_eq_true rfl) (fun x80 l80 u80 hp80 => ?_)
      have hq80 := hp80
      try simp only [zuI_1, zuI_2, zuJ_1, zuJ_2, zuJ_3, zuP_1, zuP_2, zuP_3, zuC_1, zuC_2, reduceIte, Nat.reduceEqDiff, false_and, and_false, true_and, and_true, and_self, or_true, true_or, or_false, false_or] at hq80
      exact zs_iret (pc := 83) C hr hlk dX9_look_83 ⟨by repeat (first | exact zsm_rf | assumption | refine zsm_C (by decide) ?_ | refine zsm_I (by decide) ?_ | refine zsm_J ?_ | refine zsm_c (by assumption) (by decide) ?_), ⟨(by rw [LKT_0 hok (by omega)]; simp only [zuI_1, zuI_2, zuJ_1, zuJ_2, zuJ_3, zuP_1, zuP_2, zuP_3, zuC_1, zuC_2, reduceIte, Nat.reduceEqDiff, false_and, and_false, true_and, and_true, and_self, or_true, true_or, or_false, false_or]), (fun _ => by rw [hq80]; unfold LKV; rw [if_neg (by omega), if_neg (by omega), if_neg (by omega), if_pos (by omega)]), (by repeat (first | exact zsj_rf | assumption | refine zsj_I ?_ | refine zsj_J (by decide) ?_ | refine zsj_e (by assumption) ?_ | refine zsj_c (by assumption) (by decide) ?_))⟩⟩
    · skip
      refine zs_tabIn (pc := 20) (tgt := 84) C 4 dX9_look_20 h20 (by decide) rfl (by decide) ?_
      refine zs_aload_n (pc := 84) C dX9_look_84 rfl ?_
      refine zs_getf (pc := 85) C dX9_look_85 w_X9_100 f_10_55 (by decide) ?_
      refine zs_iload_n (pc := 88) C dX9_look_88 rfl ?_
      refine zs_iald (r := 2085) (pc := 89) C dX9_look_89 a_85 (by decide) (by omega) rfl (r_2085 _) (fun v89 e89 l89 u89 => ?_)
      try simp only [zuI_1, zuI_2, zuJ_1, zuJ_2, zuJ_3, zuP_1, zuP_2, zuP_3, zuC_1, zuC_2, reduceIte, Nat.reduceEqDiff, false_and, and_false, true_and, and_true, and_self, or_true, true_or, or_false, false_or] at e89
      have y89 : v89 = W 15 a.toNat := e89.trans t3
      exact zs_iret (pc := 90) C hr hlk dX9_look_90 ⟨by repeat (first | exact zsm_rf | assumption | refine zsm_C (by decide) ?_ | refine zsm_I (by decide) ?_ | refine zsm_J ?_ | refine zsm_c (by assumption) (by decide) ?_), ⟨(by rw [LKT_0 hok (by omega)]; simp only [zuI_1, zuI_2, zuJ_1, zuJ_2, zuJ_3, zuP_1, zuP_2, zuP_3, zuC_1, zuC_2, reduceIte, Nat.reduceEqDiff, false_and, and_false, true_and, and_true, and_self, or_true, true_or, or_false, false_or]), (fun _ => by rw [y89]; unfold LKV; rw [if_neg (by omega), if_neg (by omega), if_neg (by omega), if_neg (by omega)]), (by repeat (first | exact zsj_rf | assumption | refine zsj_I ?_ | refine zsj_J (by decide) ?_ | refine zsj_e (by assumption) ?_ | refine zsj_c (by assumption) (by decide) ?_))⟩⟩
    · skip
      refine zs_tabOut (tgt := 91) (pc := 20) C dX9_look_20 h20 (by decide) ?_
      refine zs_aload_n (pc := 91) C dX9_look_91 rfl ?_
      refine zs_iconst (pc := 92) C dX9_look_92 (by decide) ?_
      refine zVi1 (pc := 93) C dX9_look_93 v_X9_401 (c_X9_failsW hX ) (by decide) (by decide) ⟨Nat.zero_le _, Nat.zero_le _⟩ (Nat.le_of_ble_eq_true rfl) (fun x93 G93 l93 u93 hp93 => ?_)
      obtain ⟨hz93, hq93⟩ := hp93
      try simp only [zuI_1, zuI_2, zuJ_1, zuJ_2, zuJ_3, zuP_1, zuP_2, zuP_3, zuC_1, zuC_2, reduceIte, Nat.reduceEqDiff, false_and, and_false, true_and, and_true, and_self, or_true, true_or, or_false, false_or] at hq93
      exact zs_iret (pc := 96) C hr hlk dX9_look_96 ⟨by repeat (first | exact zsm_rf | assumption | refine zsm_C (by decide) ?_ | refine zsm_I (by decide) ?_ | refine zsm_J ?_ | refine zsm_c (by assumption) (by decide) ?_), ⟨hq93.1.trans (LKT_2 hok (by omega)).symm, (fun y => by rw [LKT_2 hok (by omega)] at y; exact absurd y (by decide)), (fun r _ => by rw [hq93.2])⟩⟩
  · skip
    have hno : ¬ (0 ≤ a ∧ a < A 4 1) := fun z => by have := hv7.mpr z; omega
    refine zs_aload_n (pc := 13) C dX9_look_13 rfl ?_
    refine zs_iconst (pc := 14) C dX9_look_14 (by decide) ?_
    refine zVi1 (pc := 15) C dX9_look_15 v_X9_401 (c_X9_failsW hX ) (by decide) (by decide) ⟨Nat.zero_le _, Nat.zero_le _⟩ (Nat.le_of_ble_eq_true rfl) (fun x15 G15 l15 u15 hp15 => ?_)
    obtain ⟨hz15, hq15⟩ := hp15
    try simp only [zuI_1, zuI_2, zuJ_1, zuJ_2, zuJ_3, zuP_1, zuP_2, zuP_3, zuC_1, zuC_2, reduceIte, Nat.reduceEqDiff, false_and, and_false, true_and, and_true, and_self, or_true, true_or, or_false, false_or] at hq15
    exact zs_iret (pc := 18) C hr hlk dX9_look_18 ⟨by repeat (first | exact zsm_rf | assumption | refine zsm_C (by decide) ?_ | refine zsm_I (by decide) ?_ | refine zsm_J ?_ | refine zsm_c (by assumption) (by decide) ?_), ⟨hq15.1.trans (LKT_1 hno).symm, (fun y => by rw [LKT_1 hno] at y; exact absurd y (by decide)), (fun r _ => by rw [hq15.2])⟩⟩
