/-! what a throw needs of the state -/
def zL1 : List Cond := vx_atS RX8 112 "java/lang/IndexOutOfBoundsException" ["java/lang/RuntimeException", "java/lang/Exception"]
def zL2 : List Cond := (vy_at RX8 135 "java/util/NoSuchElementException" 13 prog_28_method_4_code "java/lang/RuntimeException" ["java/lang/Exception"]).filter vx_no
/-- the words of the two throws that a call does not carry -/
def zwB : List Cond := (zL1 ++ zL2).filter (fun w => !goodWord w)
set_option maxRecDepth 100000 in
theorem zL_s : ∀ w ∈ zL1 ++ zL2, w ∈ (tables_1_5 ++ (tables_1_6 ++ (tables_1_1 ++ (tables_1_9 ++ (tables_1_2 ++ (k2_sels lw_privs)))))) := by decide +kernel
theorem zL_in : ∀ w ∈ zL1 ++ zL2, w ∈ lw_tbl := fun w hw => (fun (h : w ∈ (tables_1_5 ++ (tables_1_6 ++ (tables_1_1 ++ (tables_1_9 ++ (tables_1_2 ++ (k2_sels lw_privs))))))) => (List.mem_append.mp h).elim (fun h => let ⟨i, hi⟩ := List.getElem?_of_mem h; List.mem_append_right _ (lw_T5 (i := i) hi)) (fun h => (List.mem_append.mp h).elim (fun h => let ⟨i, hi⟩ := List.getElem?_of_mem h; List.mem_append_right _ (lw_T6 (i := i) hi)) (fun h => (List.mem_append.mp h).elim (fun h => let ⟨i, hi⟩ := List.getElem?_of_mem h; List.mem_append_right _ (lw_T1 (i := i) hi)) (fun h => (List.mem_append.mp h).elim (fun h => let ⟨i, hi⟩ := List.getElem?_of_mem h; List.mem_append_right _ (lw_T9 (i := i) hi)) (fun h => (List.mem_append.mp h).elim (fun h => let ⟨i, hi⟩ := List.getElem?_of_mem h; List.mem_append_right _ (lw_T2 (i := i) hi)) (fun h => List.mem_append_left _ h)))))) (zL_s w hw)
theorem zwB_in : ∀ w ∈ zwB, w ∈ lw_tbl := fun w hw => zL_in w (List.mem_filter.mp hw).1
set_option maxRecDepth 100000 in
theorem zwB_f : ∀ w ∈ zwB, w.faceAtom = true ∧ w.onTables = true := by decide +kernel
def zTw (A : Nat → Prop) (U : State) : Prop := (∃ q, vk_R RX8 110 "no such person" q U) ∧ (∃ q, vk_R RX8 133 "no such what" q U) ∧ vx_Zq Bundle.tN "UNASSIGNED_STACK" Bundle.steD A U U.heap ∧ vx_Zq Bundle.tN "SUPPRESSED_SENTINEL" Bundle.listD A U U.heap ∧ va_Nc "java/util/NoSuchElementException" "java/lang/IndexOutOfBoundsException" U ∧ ∀ w ∈ zwB, va_Nw w U
theorem zTw_keep {A : Nat → Prop} {U U1 : State} (h : zTw A U) (hW : U.WarmedH U1.vm) (hq : ∀ a : Nat, a < U.heap.size → ¬ A a → U1.heap[a]? = U.heap[a]?) : zTw A U1 := by
  obtain ⟨⟨q1, h1⟩, ⟨q2, h2⟩, h3, h4, h5, h6⟩ := h
  exact ⟨⟨q1, vk_R.warm hW h1⟩, ⟨q2, vk_R.warm hW h2⟩, (h3.moved hW.alike).kept hq, (h4.moved hW.alike).kept hq, h5.moved hW.alike, fun w hw => va_tabs (zwB_f w hw).2 (rfl : (U.setVm U1.vm).vm = U1.vm) (Cond.faceAtom_setVm (args := #[]) hW.alike w (zwB_f w hw).1 (h6 w hw))⟩
theorem zTw_nar {A B : Nat → Prop} {U : State} (h : zTw A U) (hAB : ∀ q, B q → A q) : zTw B U := ⟨h.1, h.2.1, h.2.2.1.narrow hAB, h.2.2.2.1.narrow hAB, h.2.2.2.2⟩
theorem at_0 {L : List Cond} {args : Array Value} {s : State} (hL : ∀ w ∈ L, w ∈ zL1 ++ zL2) (h1 : ∀ w ∈ zTb, w.before args s = true) (h2 : ∀ w ∈ zwB, va_Nw w s) : ∀ w ∈ L, w.before args s = true :=
  vx_hat (B := zwB) (fun w hw => h1 w (List.mem_filter.mpr ⟨zL_in w (hL w (List.mem_filter.mp hw).1), (List.mem_filter.mp hw).2⟩)) (fun w hw => List.mem_filter.mpr ⟨hL w (List.mem_filter.mp hw).1, (List.mem_filter.mp hw).2⟩) (fun w hw => va_tabs (zwB_f w hw).2 rfl (h2 w hw))
theorem tk_1 : Cond.classLink RX8 108 "java/lang/IndexOutOfBoundsException" ∈ zTb := (zTb_5 188 rfl rfl)
theorem tk_2 : Cond.classLink RX8 131 "java/util/NoSuchElementException" ∈ zTb := (zTb_6 15 rfl rfl)
theorem ti_1 : Cond.initialized "java/lang/IndexOutOfBoundsException" ∈ zTb := (zTb_1 21 rfl rfl)
theorem ti_2 : Cond.initialized "java/util/NoSuchElementException" ∈ zTb := (zTb_1 22 rfl rfl)
def zXC (Γ : zΓ) (G : zH) : String → State → State → Prop := fun E st t => (E = "java/lang/IndexOutOfBoundsException" ∨ E = "java/util/NoSuchElementException") ∧ va_P Γ.2.2.2.1 vwCl (zWd Γ G) t.heap ∧ va_F (zA Γ) st t
def zMx (l : Launch) (Γ : zΓ) (y : MethodName) (b : ByteArray) (mx : Nat) (ret : Option FieldType) (lv : Nat) (av : List zV) (G : zH) (post : Option zV → zH → Prop) : Prop :=
  vx_Met l y (Cond.code y b mx ret :: zTb) (zrC lv 1 6) (fun v U => zPc Γ av G v U ∧ zTw (zA Γ) U) (zQc Γ post) (zXC Γ G) 1 6 (zA Γ)
section ZQ
variable {p : Program} {l : Launch} {e : Env} {R : Room} {s : State} {m : MethodId} {args : Array Value} {below : List Frame} {meth : Method} {c : Code} {Γ : zΓ} {cc : ByteArray} {nL : Nat} {own : String} {cells slots : Nat} {Q : State → Prop} {pc : Nat} {ls : List (Option zV)} {st : List zV} {G : zH}
theorem zMx_of {y : MethodName} {b : ByteArray} {mx lv : Nat} {ret : Option FieldType} {av : List zV} {post : Option zV → zH → Prop} (own : String) (hX : zXs Γ) (hy : plainName y.cls = true) (ho : y.cls = own) (hlen : (lg_sl (av.map zc)).length ≤ mx)
    (body : ∀ (p : Program) (e : Env) (s : State) (m : MethodId) (args : Array Value) (below : List Frame) (meth : Method) (c : Code), zCx p s m args c Γ b mx own → meth.sig.returnType = ret → meth.locks = false → zTw (zA Γ) s → (∀ x ∈ c.exceptionTable.toList, False) →
      Z p l e (zrC lv 1 6) s m args below meth c Γ mx 0 0 (vx_MQ below (zQc Γ post) (zXC Γ G) args s 1 6 (zA Γ)) 0 (zent av mx) [] G) :
    zMx l Γ y b mx ret lv av G post := by
  refine vx_ofW (cc := b) (maxL := mx) (ret := ret) hy rfl ?_
  intro p e s m args below meth c s₁ B hml hex hv
  obtain ⟨⟨rfl, hSt, hG, hk, hP⟩, hT⟩ := hv
  have hts := atoms_spec (ws := Cond.code y b mx ret :: zTb) B.pre
  have hown : s.vm.findClass own = some m.cls := ho ▸ findClass_of_methodNamed B.named
  have hl := lv_entry (av.map zc) (n := mx) hlen
  rw [lg_entry_eq]
  generalize (lg_sl (av.map zc) ++ List.replicate (mx - (lg_sl (av.map zc)).length) Slot.unset).toArray = rl at hl ⊢
  exact body p e s m (av.map zc).toArray below meth c ⟨B.exec, B.bytes, hml, hown, fun w hw => hts w (List.mem_cons_of_mem _ hw), hSt, hX⟩ B.returns B.notSynchronized hT hex hG (fun v hv => hk v (zent_in hv)) (fun v hv => by cases hv) s.heap [] rl hP va_S.rf ⟨hl.1, hl.2.1, fun i v hi => hl.2.2 _ (zent_args hi)⟩
theorem zs_iretX (C : zCx p s m args c Γ cc nL own) {x : Int} {post : Int → zH → Prop} {XC : String → State → State → Prop} (hr : meth.sig.returnType = some .int) (hlk : meth.locks = false) (d : decode cc pc = .ok (.ireturn, 1)) (hp : post x G) : Z p l e R s m args below meth c Γ nL 0 0 (vx_MQ below (zQc Γ (zpi post)) XC args s 1 6 (zA Γ)) pc ls [zi x] G := by
  intro hG hl hs H locs rl hP hS hL
  refine W.widen (k := 1) (n := 6) (by decide) (by decide) (vx_ret ?_)
  exact W.iret (v := Int32.ofInt x) C.1 C.2.1 hr (fun t ht hW => ⟨⟨some (zi x), G, rfl, fun y hy => by cases hy; exact zs_hd hs, ⟨x, rfl, hp⟩, hG, by rw [ht]; exact hP⟩, hS.F ht⟩) hS.2.2 d hlk
set_option maxRecDepth 100000 in
theorem zs_throw1 (C : zCx p s m args c Γ cc nL RX8) (hst : l.stackTraces = false) {Qc : Array Value → State → Outcome → State → Prop} (hT : zTw (zA Γ) s) (hex : ∀ x ∈ c.exceptionTable.toList, False) (hlk : meth.locks = false)
    (d0 : decode cc pc = .ok (.new 108, 3)) (d3 : decode cc (pc + 3) = .ok (.dup, 1)) (d4 : decode cc (pc + 4) = .ok (.ldc 110, 2)) (d6 : decode cc (pc + 6) = .ok (.invokespecial 112, 3)) (d9 : decode cc (pc + 9) = .ok (.athrow, 1)) (hR : 6 ≤ R.frames ∧ 100 ≤ R.locals ∧ 1 ≤ R.cells ∧ 6 ≤ R.slots) :
    Z p l e R s m args below meth c Γ nL 0 0 (vx_MQ below Qc (zXC Γ G) args s 1 6 (zA Γ)) pc ls [] G := by
  intro hG hl hs H locs rl hP hS hL
  obtain ⟨⟨q1, h1⟩, -, h3, h4, -, h6⟩ := hT
  exact vx_throwS (cls := "java/lang/IndexOutOfBoundsException") (names := ["java/lang/RuntimeException", "java/lang/Exception"]) C.1 C.2.1 hst C.2.2.2.1 (by decide +kernel) (by decide +kernel) (C.2.2.2.2.1 _ tk_1) (C.2.2.2.2.1 _ ti_1) h1 (at_0 (fun w hw => List.mem_append_left _ hw) C.2.2.2.2.1 h6) (by decide +kernel) h3 h4 hS (by rw [C.2.2.1]; exact hL.1) d0 d3 d4 d6 d9 (fun x hx => (hex x hx).elim) (by show 2 + 3 < R.frames; omega) (by show 0 + (13 * (2 + 1) + 43) ≤ R.locals; omega) (by omega) (by omega) hlk
    (fun t _ k2 k3 => ⟨Or.inl rfl, hP.kept (fun k x hx => k3 x.1 (hP k x hx).lt), ⟨Nat.le_trans hS.1 k2, fun x y1 y2 => (k3 x (Nat.lt_of_lt_of_le y1 hS.1)).trans (hS.2.1 x y1 y2)⟩⟩) hS.2.2 (by omega) (by omega)
set_option maxRecDepth 100000 in
theorem zs_throw2 (C : zCx p s m args c Γ cc nL RX8) (hst : l.stackTraces = false) {Qc : Array Value → State → Outcome → State → Prop} (hT : zTw (zA Γ) s) (hex : ∀ x ∈ c.exceptionTable.toList, False) (hlk : meth.locks = false)
    (d0 : decode cc pc = .ok (.new 131, 3)) (d3 : decode cc (pc + 3) = .ok (.dup, 1)) (d4 : decode cc (pc + 4) = .ok (.ldc 133, 2)) (d6 : decode cc (pc + 6) = .ok (.invokespecial 135, 3)) (d9 : decode cc (pc + 9) = .ok (.athrow, 1)) (hR : 6 ≤ R.frames ∧ 100 ≤ R.locals ∧ 1 ≤ R.cells ∧ 6 ≤ R.slots) :
    Z p l e R s m args below meth c Γ nL 0 0 (vx_MQ below Qc (zXC Γ G) args s 1 6 (zA Γ)) pc ls [] G := by
  intro hG hl hs H locs rl hP hS hL
  obtain ⟨-, ⟨q2, h2⟩, h3, h4, -, h6⟩ := hT
  exact vy_throwS (cls := "java/util/NoSuchElementException") (Yz := "java/lang/RuntimeException") (r := ["java/lang/Exception"]) (ix := 13) (rx := prog_28_method_4_code) C.1 C.2.1 hst (by decide +kernel) (by decide +kernel) (by decide +kernel) (by decide +kernel) C.2.2.2.1 (by decide +kernel) (by decide +kernel) (by decide +kernel) (C.2.2.2.2.1 _ tk_2) (C.2.2.2.2.1 _ ti_2) h2 (at_0 (fun w hw => List.mem_append_right _ hw) C.2.2.2.2.1 h6) (by decide +kernel) h3 h4 hS (by rw [C.2.2.1]; exact hL.1) d0 d3 d4 d6 d9 (fun x hx => (hex x hx).elim) (by show 1 + 1 + 3 < R.frames; omega) (by show 0 + (13 * (1 + 1 + 1) + 43) ≤ R.locals; omega) (by omega) (by omega) hlk
    (fun t _ k2 k3 => ⟨Or.inr rfl, hP.kept (fun k x hx => k3 x.1 (hP k x hx).lt), ⟨Nat.le_trans hS.1 k2, fun x y1 y2 => (k3 x (Nat.lt_of_lt_of_le y1 hS.1)).trans (hS.2.1 x y1 y2)⟩⟩) hS.2.2 (by omega) (by omega)
end ZQ
