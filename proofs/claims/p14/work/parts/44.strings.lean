section
/-! a text: what is known of it -/
def jStr (A : Nat → Prop) (q v n : Nat) (f : Nat → Int32) (U : State) (H : Heap) : Prop :=
  va_O "java/lang/String" q A U H ∧ va_OF "java/lang/String" "coder" "B" (.int 0) q A U H ∧ va_OF "java/lang/String" "value" "[B" (.ref v) q A U H ∧ va_T .byte v n (fun j => .int (f j)) A U H ∧ n < 2 ^ 31 ∧ va_Z "java/lang/String" "COMPACT_STRINGS" "Z" (.int 1) A U H ∧ va_Zq "jdk/internal/util/Preconditions" "SIOOBE_FORMATTER" "Ljava/util/function/BiFunction;" A U H
theorem jStr_keep {A : Nat → Prop} {q v n : Nat} {f : Nat → Int32} {U U1 : State} {H H1 : Heap} (h : jStr A q v n f U H) (hvm : U.vm.Alike U1.vm) (hq : ∀ a : Nat, a < H.size → ¬ A a → H1[a]? = H[a]?) : jStr A q v n f U1 H1 :=
  ⟨(h.1.moved hvm).kept hq, (h.2.1.moved hvm).kept hq, (h.2.2.1.moved hvm).kept hq, (h.2.2.2.1.moved hvm).kept hq, h.2.2.2.2.1, (h.2.2.2.2.2.1.moved hvm).kept hq, (h.2.2.2.2.2.2.moved hvm).kept hq⟩
theorem jStr_nar {A B : Nat → Prop} {q v n : Nat} {f : Nat → Int32} {U : State} {H : Heap} (h : jStr A q v n f U H) (hAB : ∀ x, B x → A x) : jStr B q v n f U H :=
  ⟨h.1.narrow hAB, h.2.1.narrow hAB, h.2.2.1.narrow hAB, h.2.2.2.1.narrow hAB, h.2.2.2.2.1, h.2.2.2.2.2.1.narrow hAB, h.2.2.2.2.2.2.narrow hAB⟩
abbrev jF : Nat → Prop := fun _ => False
def jQ (q : Option Value → Prop) : Array Value → State → Outcome → State → Prop := fun _ st oc t => (∃ r : Option Value, oc = .returned r ∧ q r) ∧ va_F jF st t
def jM (l : Launch) (y : MethodName) (bs : ByteArray) (mx : Nat) (ret : Option FieldType) (lv : Nat) (P : State → Prop) (av : List Value) (q : Option Value → Prop) : Prop :=
  Met l y (Cond.code y bs mx ret :: zTb) (zrm lv) (fun v U => v = av.toArray ∧ P U) (jQ q) 0 0 jF
def jC (p : Program) (s : State) (m : MethodId) (args : Array Value) (c : Code) (cc : ByteArray) (nL : Nat) (own : String) : Prop := p.tables.exec = Jvm.exec ∧ c.code = cc ∧ c.maxLocals = nL ∧ s.vm.findClass own = some m.cls ∧ ∀ w ∈ zTb, w.before args s = true
def jSty (P : State → Prop) : Prop := ∀ (U U1 : State), P U → U.WarmedH U1.vm → (∀ a : Nat, a < U.heap.size → U1.heap[a]? = U.heap[a]?) → P U1
section ZJ
variable {p : Program} {l : Launch} {e : Env} {R : Room} {s : State} {m : MethodId} {args : Array Value} {below : List Frame} {meth : Method} {c : Code} {cc : ByteArray} {nL : Nat} {own : String} {cells slots : Nat} {Q : State → Prop} {pc : Nat} {H : Heap} {locs : List Loc} {rl : Array Slot}
theorem jM_of {y : MethodName} {bs : ByteArray} {mx lv : Nat} {ret : Option FieldType} {P : State → Prop} {av : List Value} {q : Option Value → Prop} (own : String) (hy : plainName y.cls = true) (ho : y.cls = own) (hlen : (lg_sl av).length ≤ mx)
    (body : ∀ (p : Program) (e : Env) (s : State) (m : MethodId) (args : Array Value) (below : List Frame) (meth : Method) (c : Code) (rl : Array Slot), jC p s m args c bs mx own → meth.sig.returnType = ret → meth.locks = false → P s → lv_has rl mx (lv_args 0 av) →
      W p l e (zrm lv) s m args below meth c s.heap [] 0 0 (MQ below (jQ q) args s 0 0 jF) (F0 m 0 rl [])) : jM l y bs mx ret lv P av q := by
  refine Met.ofW (cc := bs) (maxL := mx) (ret := ret) hy rfl ?_
  intro p e s m args below meth c s₁ B hml hv
  obtain ⟨rfl, hP⟩ := hv
  have hts := atoms_spec (ws := Cond.code y bs mx ret :: zTb) B.pre
  have hown : s.vm.findClass own = some m.cls := ho ▸ findClass_of_methodNamed B.named
  have hl := lv_entry av (n := mx) hlen
  rw [lg_entry_eq]
  generalize (lg_sl av ++ List.replicate (mx - (lg_sl av).length) Slot.unset).toArray = rl at hl ⊢
  exact body p e s m av.toArray below meth c rl ⟨B.exec, B.bytes, hml, hown, fun w hw => hts w (List.mem_cons_of_mem _ hw)⟩ B.returns B.notSynchronized hP hl
theorem j_back {q : Option Value → Prop} {a : Array Value} {st0 rest : List Value} {A : Nat → Prop} (hr : va_Run p l e R s m args below meth c H locs cells slots 0 0 (F0 m pc rl st0) rest (jQ q a) jF) (hS : va_S A s.heap H locs)
    (kk : ∀ (r : Option Value) (H1 : Heap) (locs1 : List Loc), q r → (∀ x : Nat, x < H.size → H1[x]? = H[x]?) → va_S A s.heap H1 locs1 → W p l e R s m args below meth c H1 locs1 cells slots Q (F0 m (pc + 3) rl (r.toList ++ rest))) : W p l e R s m args below meth c H locs cells slots Q (F0 m pc rl st0) := by
  intro T hT X
  obtain ⟨v, st₀, t, T', L, h0, X', hL', e1, e2, ⟨⟨r, hv, hq⟩, hF⟩, go⟩ := hr T hT X
  have hv' : v = r := by cases hv; rfl
  subst hv'
  have hk : ∀ x : Nat, x < H.size → t.heap[x]? = H[x]? := fun x hx => by rw [hF.2 x (by rw [h0]; exact hx) (fun h => h), h0]
  have hS1 : va_S A s.heap t.heap (locs ++ L) := by
    refine ⟨Nat.le_trans hS.1 (by rw [← h0]; exact hF.1), fun x h1 h2 => ?_, fun l hl => ?_⟩
    · rw [hk x (Nat.lt_of_lt_of_le h1 hS.1)]
      exact hS.2.1 x h1 h2
    · rcases List.mem_append.mp hl with q | q
      · exact hS.2.2 l q
      · exact (hL' l q).elim
  obtain ⟨t9, a9, b9⟩ := kk v t.heap (locs ++ L) hq hk hS1 T' e1 X'
  exact ⟨t9, go t9 a9, b9⟩
def jWv (own : String) (idx : Nat) (y : MethodName) (C : String) (b : ByteArray) (mx : Nat) (ret : Option FieldType) (n : Nat) : Prop :=
  (Cond.methodLink own idx y ∈ zTb ∧ Cond.instanceMethod y ∈ zTb ∧ Cond.selects C y y ∈ zTb ∧ Cond.initialized C ∈ zTb ∧ Cond.code y b mx ret ∈ zTb) ∧ y.cls = C ∧ y.cls ≠ "java/lang/invoke/MethodHandle" ∧ y.cls ≠ "java/lang/invoke/VarHandle" ∧ (parseMethodDescriptor y.desc).map (fun d => d.parameters.length) = some n
theorem j_callV (C : jC p s m args c cc nL own) {y : MethodName} {bs : ByteArray} {mx lv idx a n : Nat} {ret : Option FieldType} {P : State → Prop} {av rest st0 : List Value} {q : Option Value → Prop} {Cn : String} {A : Nat → Prop} (d : decode cc pc = .ok (.invokevirtual idx, 3)) (w : jWv own idx y Cn bs mx ret n) (hn : av.length = n) (hM : jM l y bs mx ret lv P (.ref a :: av) q) (hP : P s) (hty : jSty P) (hrv : ∃ cell : Cell, H[a]? = some cell ∧ cell.vm.isStatics = false ∧ s.vm.findClass Cn = some cell.cls) (hS : va_S A s.heap H locs) (hA : ∀ x : Nat, x < s.heap.size → H[x]? = s.heap[x]?) (hst : st0 = av.reverse ++ .ref a :: rest) (hL : rl.size = nL) (hR : lv + 1 ≤ R.frames ∧ 8 + (mx + 11) + 40 * lv ≤ R.locals) (hc : cells ≤ R.cells ∧ slots ≤ R.slots) (hw : (rest.map fun v => v.category).sum ≤ 8)
    (kk : ∀ (r : Option Value) (H1 : Heap) (locs1 : List Loc), q r → (∀ x : Nat, x < H.size → H1[x]? = H[x]?) → va_S A s.heap H1 locs1 → W p l e R s m args below meth c H1 locs1 cells slots Q (F0 m (pc + 3) rl (r.toList ++ rest))) : W p l e R s m args below meth c H locs cells slots Q (F0 m pc rl st0) := by
  obtain ⟨⟨w1, w2, w3, w4, w5⟩, hcl, hy1, hy2, hnp⟩ := w
  have hts := C.2.2.2.2
  subst hst
  have hrun := va_runV (H := H) (e := e) (below := below) (meth := meth) (locs := locs) (cells := cells) (slots := slots) (As := av) (rest := rest) (b := a) (C := Cn) (g := F0 m pc rl (av.reverse ++ .ref a :: rest)) (n := n) ⟨C.1, C.2.1, C.2.2.1, C.2.2.2.1, hts⟩ hM
    ⟨callB_of n hts (zTb_good w5) rfl rfl rfl (by rw [hcl]; exact hts _ w4) (hts _ w1) ⟨hy1, hy2, hnp⟩ hR, hts _ w2, hts _ w3⟩
    ⟨fun a U g mk h => ⟨h.1, hty U (U.calling g mk a) h.2 (State.WarmedH.refl U) (fun _ _ => rfl)⟩, hrv, fun U hU hW => ⟨rfl, hty s U hP hW (fun x hx => by rw [hU]; exact hA x hx)⟩⟩
    rfl hn hL rfl (lv_room hw) d ⟨by simpa using hc.1, by simpa using hc.2⟩
  exact j_back hrun hS kk
theorem j_callS (C : jC p s m args c cc nL own) {y : MethodName} {bs : ByteArray} {mx lv idx n : Nat} {ret : Option FieldType} {P : State → Prop} {av rest st0 : List Value} {q : Option Value → Prop} {A : Nat → Prop} (d : decode cc pc = .ok (.invokestatic idx, 3)) (w : zWs own idx y bs mx ret n) (hn : av.length = n) (hM : jM l y bs mx ret lv P av q) (hP : P s) (hty : jSty P) (hS : va_S A s.heap H locs) (hA : ∀ x : Nat, x < s.heap.size → H[x]? = s.heap[x]?) (hst : st0 = av.reverse ++ rest) (hL : rl.size = nL) (hR : lv + 1 ≤ R.frames ∧ 8 + (mx + 11) + 40 * lv ≤ R.locals) (hc : cells ≤ R.cells ∧ slots ≤ R.slots) (hw : (rest.map fun v => v.category).sum ≤ 8)
    (kk : ∀ (r : Option Value) (H1 : Heap) (locs1 : List Loc), q r → (∀ x : Nat, x < H.size → H1[x]? = H[x]?) → va_S A s.heap H1 locs1 → W p l e R s m args below meth c H1 locs1 cells slots Q (F0 m (pc + 3) rl (r.toList ++ rest))) : W p l e R s m args below meth c H locs cells slots Q (F0 m pc rl st0) := by
  obtain ⟨⟨w1, w2, w4, w5⟩, hy1, hy2, hnp⟩ := w
  have hts := C.2.2.2.2
  subst hst
  have hrun := va_runS (H := H) (e := e) (below := below) (meth := meth) (locs := locs) (cells := cells) (slots := slots) (As := av) (rest := rest) (g := F0 m pc rl (av.reverse ++ rest)) (n := n) ⟨C.1, C.2.1, C.2.2.1, C.2.2.2.1, hts⟩ hM
    ⟨callB_of n hts (zTb_good w5) rfl rfl rfl (hts _ w4) (hts _ w1) ⟨hy1, hy2, hnp⟩ hR, hts _ w2⟩
    ⟨fun a U g mk h => ⟨h.1, hty U (U.calling g mk a) h.2 (State.WarmedH.refl U) (fun _ _ => rfl)⟩, fun U hU hW => ⟨rfl, hty s U hP hW (fun x hx => by rw [hU]; exact hA x hx)⟩⟩
    rfl hn hL rfl (lv_room hw) d ⟨by simpa using hc.1, by simpa using hc.2⟩
  exact j_back hrun hS kk
end ZJ
theorem jStr_sty {A : Nat → Prop} {q v n : Nat} {f : Nat → Int32} : jSty (fun U => jStr A q v n f U U.heap) := fun U U1 h hW hq => jStr_keep h hW.alike (fun a h1 _ => hq a h1)
theorem jt_sty : jSty (fun _ => True) := fun _ _ _ _ _ => trivial
/-! coder, isLatin1, length, charAt -/
theorem j_coder {l : Launch} {q v n : Nat} {f : Nat → Int32} : jM l yJ0_coder_7d493 cJ0_coder_7d493 1 (some .byte) 0 (fun U => jStr jF q v n f U U.heap) [.ref q] (fun r => r = some (.int 0)) := by
  refine jM_of RJ0 (by decide) rfl (Nat.le_of_ble_eq_true rfl) ?_
  intro p e s m args below meth c rl C hr hlk hJ hl
  have hl : lv_has rl 1 [(0, .ref q)] := hl
  refine va_gets (C := "java/lang/String") C.1 C.2.1 hJ.2.2.2.2.2.1 (va_S.rf) C.2.2.2.1 (C.2.2.2.2 _ (zTb_1 58 rfl rfl)) (fun x hx => hx) dJ0_coder_7d493_0 ?_
  refine lv_if_eq (tgt := 13) C.1 C.2.1 dJ0_coder_7d493_3 (by decide) (fun h => absurd h (by decide)) (fun _ => ?_)
  refine lv_aload_n C.1 C.2.1 dJ0_coder_7d493_6 rfl (lv_at hl 0 rfl) ?_
  refine vk_getf C.1 C.2.1 hJ.2.1 va_S.rf C.2.2.2.1 (C.2.2.2.2 _ (zTb_9 45 rfl rfl)) (fun x hx => hx) dJ0_coder_7d493_7 ?_
  refine lv_goto (tgt := 14) C.1 C.2.1 dJ0_coder_7d493_10 (by decide) ?_
  exact W.zret (v := 0) C.1 C.2.1 hr rfl (fun t ht hW => ⟨⟨_, rfl, rfl⟩, va_S.rf.F ht⟩) (fun q h => by cases h) dJ0_coder_7d493_14 hlk
theorem j_isLatin1 {l : Launch} {q v n : Nat} {f : Nat → Int32} : jM l yJ0_isLatin1_aae02 cJ0_isLatin1_aae02 1 (some .boolean) 0 (fun U => jStr jF q v n f U U.heap) [.ref q] (fun r => r = some (.int 1)) := by
  refine jM_of RJ0 (by decide) rfl (Nat.le_of_ble_eq_true rfl) ?_
  intro p e s m args below meth c rl C hr hlk hJ hl
  have hl : lv_has rl 1 [(0, .ref q)] := hl
  refine va_gets (C := "java/lang/String") C.1 C.2.1 hJ.2.2.2.2.2.1 (va_S.rf) C.2.2.2.1 (C.2.2.2.2 _ (zTb_1 58 rfl rfl)) (fun x hx => hx) dJ0_isLatin1_aae02_0 ?_
  refine lv_if_eq (tgt := 17) C.1 C.2.1 dJ0_isLatin1_aae02_3 (by decide) (fun h => absurd h (by decide)) (fun _ => ?_)
  refine lv_aload_n C.1 C.2.1 dJ0_isLatin1_aae02_6 rfl (lv_at hl 0 rfl) ?_
  refine vk_getf C.1 C.2.1 hJ.2.1 va_S.rf C.2.2.2.1 (C.2.2.2.2 _ (zTb_9 45 rfl rfl)) (fun x hx => hx) dJ0_isLatin1_aae02_7 ?_
  refine lv_if_ne (tgt := 17) C.1 C.2.1 dJ0_isLatin1_aae02_10 (by decide) (fun h => absurd h (by decide)) (fun _ => ?_)
  refine lv_iconst (v := 1) C.1 C.2.1 dJ0_isLatin1_aae02_13 (by decide) ?_
  refine lv_goto (tgt := 18) C.1 C.2.1 dJ0_isLatin1_aae02_14 (by decide) ?_
  exact W.zret (v := 1) C.1 C.2.1 hr rfl (fun t ht hW => ⟨⟨_, rfl, rfl⟩, va_S.rf.F ht⟩) (fun q h => by cases h) dJ0_isLatin1_aae02_18 hlk
theorem jw_coder : jWv RJ0 335 yJ0_coder_7d493 RJ0 cJ0_coder_7d493 1 (some .byte) 0 := ⟨⟨(zTb_1 54 rfl rfl), (zTb_1 55 rfl rfl), (zTb_1 56 rfl rfl), (zTb_1 4 rfl rfl), (zTb_1 57 rfl rfl)⟩, by decide +kernel, by decide +kernel, by decide +kernel, by decide +kernel⟩
theorem jw_latin : jWv RJ0 492 yJ0_isLatin1_aae02 RJ0 cJ0_isLatin1_aae02 1 (some .boolean) 0 := ⟨⟨(zTb_1 64 rfl rfl), (zTb_1 65 rfl rfl), (zTb_1 66 rfl rfl), (zTb_1 4 rfl rfl), (zTb_1 67 rfl rfl)⟩, by decide +kernel, by decide +kernel, by decide +kernel, by decide +kernel⟩
theorem jw_length : jWv RX6 32 yJ0_length_8abf5 RJ0 cJ0_length_8abf5 1 (some .int) 0 := ⟨⟨(zTb_1 50 rfl rfl), (zTb_1 51 rfl rfl), (zTb_1 52 rfl rfl), (zTb_1 4 rfl rfl), (zTb_1 53 rfl rfl)⟩, by decide +kernel, by decide +kernel, by decide +kernel, by decide +kernel⟩
theorem jw_charAt : jWv RX6 38 yJ0_charAt_5068e RJ0 cJ0_charAt_5068e 2 (some .char) 1 := ⟨⟨(zTb_1 60 rfl rfl), (zTb_1 61 rfl rfl), (zTb_1 62 rfl rfl), (zTb_1 4 rfl rfl), (zTb_1 63 rfl rfl)⟩, by decide +kernel, by decide +kernel, by decide +kernel, by decide +kernel⟩
theorem jw_lat1 : zWs RJ0 495 yJ1_charAt_3b067 cJ1_charAt_3b067 2 (some .char) 2 := ⟨⟨(zTb_1 68 rfl rfl), (zTb_1 69 rfl rfl), (zTb_1 5 rfl rfl), (zTb_1 70 rfl rfl)⟩, by decide +kernel, by decide +kernel, by decide +kernel⟩
theorem jw_check : zWs RJ1 9 yJ0_checkIndex_df160 cJ0_checkIndex_df160 2 none 2 := ⟨⟨(zTb_1 71 rfl rfl), (zTb_1 72 rfl rfl), (zTb_1 4 rfl rfl), (zTb_1 73 rfl rfl)⟩, by decide +kernel, by decide +kernel, by decide +kernel⟩
theorem jw_prec : zWs RJ0 1059 yJ3_checkIndex_8e157 cJ3_checkIndex_8e157 3 (some .int) 3 := ⟨⟨(zTb_1 76 rfl rfl), (zTb_1 77 rfl rfl), (zTb_1 6 rfl rfl), (zTb_1 78 rfl rfl)⟩, by decide +kernel, by decide +kernel, by decide +kernel⟩
theorem j_length {l : Launch} {q v n : Nat} {f : Nat → Int32} : jM l yJ0_length_8abf5 cJ0_length_8abf5 1 (some .int) 1 (fun U => jStr jF q v n f U U.heap) [.ref q] (fun r => r = some (.int (nI n))) := by
  refine jM_of RJ0 (by decide) rfl (Nat.le_of_ble_eq_true rfl) ?_
  intro p e s m args below meth c rl C hr hlk hJ hl
  have hl : lv_has rl 1 [(0, .ref q)] := hl
  refine lv_aload_n C.1 C.2.1 dJ0_length_8abf5_0 rfl (lv_at hl 0 rfl) ?_
  refine vk_getf C.1 C.2.1 hJ.2.2.1 va_S.rf C.2.2.2.1 (C.2.2.2.2 _ (zTb_9 44 rfl rfl)) (fun x hx => hx) dJ0_length_8abf5_1 ?_
  refine va_tlen C.1 C.2.1 hJ.2.2.2.1 va_S.rf (v := nI n) rfl dJ0_length_8abf5_4 ?_
  refine lv_aload_n C.1 C.2.1 dJ0_length_8abf5_5 rfl (lv_at hl 0 rfl) ?_
  refine j_callV (A := jF) (av := []) (rest := [.int (nI n)]) C dJ0_length_8abf5_6 jw_coder rfl (j_coder (q := q) (v := v) (n := n) (f := f)) hJ jStr_sty (by obtain ⟨cell, h1, h2, h3, -⟩ := hJ.1; exact ⟨cell, h1, h2, h3⟩) va_S.rf (fun _ _ => rfl) rfl hl.1 (by decide) ⟨Nat.zero_le _, Nat.zero_le _⟩ (Nat.le_of_ble_eq_true rfl) (fun r H1 locs1 hr1 hk hS => ?_)
  subst hr1
  refine lv_ishr C.1 C.2.1 dJ0_length_8abf5_9 ?_
  have e9 : nI n >>> ((0 : Int32) &&& 31) = nI n := sc_shr0 hJ.2.2.2.2.1
  first
    | (rw [e9]; exact W.iret (v := nI n) C.1 C.2.1 hr (fun t ht hW => ⟨⟨_, rfl, rfl⟩, hS.F ht⟩) hS.2.2 dJ0_length_8abf5_10 hlk)
    | exact W.iret C.1 C.2.1 hr (fun t ht hW => ⟨⟨_, rfl, by rw [e9]⟩, hS.F ht⟩) hS.2.2 dJ0_length_8abf5_10 hlk
theorem j_prec {l : Launch} {i n : Nat} {w : Value} (hw : w = .null ∨ ∃ a, w = .ref a) (hi : i < n) (hn : n < 2 ^ 31) : jM l yJ3_checkIndex_8e157 cJ3_checkIndex_8e157 3 (some .int) 0 (fun _ => True) [.int (nI i), .int (nI n), w] (fun r => r = some (.int (nI i))) := by
  refine jM_of RJ3 (by decide) rfl (by rcases hw with rfl | ⟨a, rfl⟩ <;> exact Nat.le_of_ble_eq_true rfl) ?_
  intro p e s m args below meth c rl C hr hlk hJ hl
  have hl : lv_has rl 3 [(0, .int (nI i)), (1, .int (nI n))] := by
    refine ⟨hl.1, hl.2.1, fun q hq => hl.2.2 q ?_⟩
    rcases hw with rfl | ⟨a, rfl⟩ <;> (simp only [List.mem_cons, List.not_mem_nil, or_false] at hq; rcases hq with rfl | rfl <;> simp [lv_args, Value.category])
  refine lv_iload_n C.1 C.2.1 dJ3_checkIndex_8e157_0 rfl (lv_at hl 0 rfl) ?_
  refine lv_if_lt (tgt := 9) C.1 C.2.1 dJ3_checkIndex_8e157_1 (by decide) (fun h => absurd h (nI_pos (by omega))) (fun _ => ?_)
  refine lv_iload_n C.1 C.2.1 dJ3_checkIndex_8e157_4 rfl (lv_at hl 0 rfl) ?_
  refine lv_iload_n C.1 C.2.1 dJ3_checkIndex_8e157_5 rfl (lv_at hl 1 rfl) ?_
  refine lv_icmp_lt (tgt := 16) C.1 C.2.1 dJ3_checkIndex_8e157_6 (by decide) (fun _ => ?_) (fun h => absurd (nI_lt hi hn) h)
  refine lv_iload_n C.1 C.2.1 dJ3_checkIndex_8e157_16 rfl (lv_at hl 0 rfl) ?_
  exact W.iret (v := nI i) C.1 C.2.1 hr (fun t ht hW => ⟨⟨_, rfl, rfl⟩, va_S.rf.F ht⟩) (fun q h => by cases h) dJ3_checkIndex_8e157_17 hlk
theorem j_check {l : Launch} {q v n i : Nat} {f : Nat → Int32} (hi : i < n) : jM l yJ0_checkIndex_df160 cJ0_checkIndex_df160 2 none 1 (fun U => jStr jF q v n f U U.heap) [.int (nI i), .int (nI n)] (fun r => r = none) := by
  refine jM_of RJ0 (by decide) rfl (Nat.le_of_ble_eq_true rfl) ?_
  intro p e s m args below meth c rl C hr hlk hJ hl
  have hl : lv_has rl 2 [(0, .int (nI i)), (1, .int (nI n))] := hl
  refine lv_iload_n C.1 C.2.1 dJ0_checkIndex_df160_0 rfl (lv_at hl 0 rfl) ?_
  refine lv_iload_n C.1 C.2.1 dJ0_checkIndex_df160_1 rfl (lv_at hl 1 rfl) ?_
  have key : ∀ w : Value, (w = .null ∨ ∃ a, w = .ref a) → va_Z "jdk/internal/util/Preconditions" "SIOOBE_FORMATTER" "Ljava/util/function/BiFunction;" w jF s s.heap → W p l e (zrm 1) s m args below meth c s.heap [] 0 0 (MQ below (jQ (fun r => r = none)) args s 0 0 jF) (F0 m 2 rl [.int (nI n), .int (nI i)]) := by
    intro w hw hZ
    refine va_gets (C := "jdk/internal/util/Preconditions") C.1 C.2.1 hZ va_S.rf C.2.2.2.1 (C.2.2.2.2 _ (zTb_1 74 rfl rfl)) (fun x hx => hx) dJ0_checkIndex_df160_2 ?_
    refine j_callS (A := jF) (av := [.int (nI i), .int (nI n), w]) (rest := []) C dJ0_checkIndex_df160_5 jw_prec rfl (j_prec hw hi hJ.2.2.2.2.1) trivial jt_sty va_S.rf (fun _ _ => rfl) rfl hl.1 (by decide) ⟨Nat.zero_le _, Nat.zero_le _⟩ (Nat.le_of_ble_eq_true rfl) (fun r H1 locs1 hr1 hk hS => ?_)
    subst hr1
    refine lv_pop C.1 C.2.1 dJ0_checkIndex_df160_8 rfl ?_
    exact W.vret C.1 C.2.1 hr (fun t ht hW => ⟨⟨_, rfl, rfl⟩, hS.F ht⟩) hS.2.2 dJ0_checkIndex_df160_9 hlk
  rcases hJ.2.2.2.2.2.2 with h | ⟨a, h⟩
  · exact key _ (Or.inl rfl) h
  · exact key _ (Or.inr ⟨a, rfl⟩) h
theorem j_lat1 {l : Launch} {q v n i : Nat} {f : Nat → Int32} (hi : i < n) : jM l yJ1_charAt_3b067 cJ1_charAt_3b067 2 (some .char) 2 (fun U => jStr jF q v n f U U.heap) [.ref v, .int (nI i)] (fun r => r = some (.int (f i &&& 255))) := by
  refine jM_of RJ1 (by decide) rfl (Nat.le_of_ble_eq_true rfl) ?_
  intro p e s m args below meth c rl C hr hlk hJ hl
  have hn := hJ.2.2.2.2.1
  have hl : lv_has rl 2 [(0, .ref v), (1, .int (nI i))] := hl
  refine lv_iload_n C.1 C.2.1 dJ1_charAt_3b067_0 rfl (lv_at hl 1 rfl) ?_
  refine lv_aload_n C.1 C.2.1 dJ1_charAt_3b067_1 rfl (lv_at hl 0 rfl) ?_
  refine va_tlen C.1 C.2.1 hJ.2.2.2.1 va_S.rf (v := nI n) rfl dJ1_charAt_3b067_2 ?_
  refine j_callS (A := jF) (av := [.int (nI i), .int (nI n)]) (rest := []) C dJ1_charAt_3b067_3 jw_check rfl (j_check (q := q) (v := v) (f := f) hi) hJ jStr_sty va_S.rf (fun _ _ => rfl) rfl hl.1 (by decide) ⟨Nat.zero_le _, Nat.zero_le _⟩ (Nat.le_of_ble_eq_true rfl) (fun r H1 locs1 hr1 hk hS => ?_)
  subst hr1
  refine lv_aload_n C.1 C.2.1 dJ1_charAt_3b067_6 rfl (lv_at hl 0 rfl) ?_
  refine lv_iload_n C.1 C.2.1 dJ1_charAt_3b067_7 rfl (lv_at hl 1 rfl) ?_
  refine va_tb C.1 C.2.1 hJ.2.2.2.1 hS (vp_in_nI hi hn) (v := .int (f i)) (by rw [nI_clamp (by omega)]) dJ1_charAt_3b067_8 ?_
  refine lv_sipush (v := 255) C.1 C.2.1 dJ1_charAt_3b067_9 (by decide) ?_
  refine lv_iand C.1 C.2.1 dJ1_charAt_3b067_12 ?_
  refine lv_i2c C.1 C.2.1 dJ1_charAt_3b067_13 (sc_c2 (f i)) ?_
  exact W.zret (v := f i &&& 255) C.1 C.2.1 hr (sc_nar (f i)) (fun t ht hW => ⟨⟨_, rfl, rfl⟩, hS.F ht⟩) hS.2.2 dJ1_charAt_3b067_14 hlk
theorem j_charAt {l : Launch} {q v n i : Nat} {f : Nat → Int32} (hi : i < n) : jM l yJ0_charAt_5068e cJ0_charAt_5068e 2 (some .char) 3 (fun U => jStr jF q v n f U U.heap) [.ref q, .int (nI i)] (fun r => r = some (.int (f i &&& 255))) := by
  refine jM_of RJ0 (by decide) rfl (Nat.le_of_ble_eq_true rfl) ?_
  intro p e s m args below meth c rl C hr hlk hJ hl
  have hl : lv_has rl 2 [(0, .ref q), (1, .int (nI i))] := hl
  refine lv_aload_n C.1 C.2.1 dJ0_charAt_5068e_0 rfl (lv_at hl 0 rfl) ?_
  refine j_callV (A := jF) (av := []) (rest := []) C dJ0_charAt_5068e_1 jw_latin rfl (j_isLatin1 (q := q) (v := v) (n := n) (f := f)) hJ jStr_sty (by obtain ⟨cell, h1, h2, h3, -⟩ := hJ.1; exact ⟨cell, h1, h2, h3⟩) va_S.rf (fun _ _ => rfl) rfl hl.1 (by decide) ⟨Nat.zero_le _, Nat.zero_le _⟩ (Nat.le_of_ble_eq_true rfl) (fun r H1 locs1 hr1 hk hS => ?_)
  subst hr1
  refine lv_if_eq (tgt := 16) C.1 C.2.1 dJ0_charAt_5068e_4 (by decide) (fun h => absurd h (by decide)) (fun _ => ?_)
  refine lv_aload_n C.1 C.2.1 dJ0_charAt_5068e_7 rfl (lv_at hl 0 rfl) ?_
  refine vk_getf C.1 C.2.1 hJ.2.2.1 hS C.2.2.2.1 (C.2.2.2.2 _ (zTb_9 44 rfl rfl)) (fun x hx => hx) dJ0_charAt_5068e_8 ?_
  refine lv_iload_n C.1 C.2.1 dJ0_charAt_5068e_11 rfl (lv_at hl 1 rfl) ?_
  refine j_callS (A := jF) (av := [.ref v, .int (nI i)]) (rest := []) C dJ0_charAt_5068e_12 jw_lat1 rfl (j_lat1 (q := q) (v := v) (f := f) hi) hJ jStr_sty hS hk rfl hl.1 (by decide) ⟨Nat.zero_le _, Nat.zero_le _⟩ (Nat.le_of_ble_eq_true rfl) (fun r H2 locs2 hr2 hk2 hS2 => ?_)
  subst hr2
  exact W.zret (v := f i &&& 255) C.1 C.2.1 hr (sc_nar (f i)) (fun t ht hW => ⟨⟨_, rfl, rfl⟩, hS2.F ht⟩) hS2.2.2 dJ0_charAt_5068e_15 hlk
/-! the same in the ideal machine -/
def zMt (l : Launch) (Γ : zΓ) (T : State → Prop) (y : MethodName) (b : ByteArray) (mx : Nat) (ret : Option FieldType) (lv : Nat) (av : List zV) (G : zH) (post : Option zV → zH → Prop) : Prop :=
  Met l y (Cond.code y b mx ret :: zTb) (zrm lv) (fun v U => zPc Γ av G v U ∧ T U) (zQc Γ post) 0 0 (zA Γ)
section ZK
variable {p : Program} {l : Launch} {e : Env} {R : Room} {s : State} {m : MethodId} {args : Array Value} {below : List Frame} {meth : Method} {c : Code} {Γ : zΓ} {cc : ByteArray} {nL : Nat} {own : String} {cells slots : Nat} {Q : State → Prop} {pc : Nat} {ls : List (Option zV)} {st : List zV} {G : zH}
theorem zMt_of {T : State → Prop} {y : MethodName} {b : ByteArray} {mx lv : Nat} {ret : Option FieldType} {av : List zV} {post : Option zV → zH → Prop} (own : String) (hX : zXs Γ) (hy : plainName y.cls = true) (ho : y.cls = own) (hlen : (lg_sl (av.map zc)).length ≤ mx)
    (body : ∀ (p : Program) (e : Env) (s : State) (m : MethodId) (args : Array Value) (below : List Frame) (meth : Method) (c : Code), zCx p s m args c Γ b mx own → meth.sig.returnType = ret → meth.locks = false → T s →
      Z p l e (zrm lv) s m args below meth c Γ mx 0 0 (MQ below (zQc Γ post) args s 0 0 (zA Γ)) 0 (zent av mx) [] G) :
    zMt l Γ T y b mx ret lv av G post := by
  refine Met.ofW (cc := b) (maxL := mx) (ret := ret) hy rfl ?_
  intro p e s m args below meth c s₁ B hml hv
  obtain ⟨⟨rfl, hSt, hG, hk, hP⟩, hT⟩ := hv
  have hts := atoms_spec (ws := Cond.code y b mx ret :: zTb) B.pre
  have hown : s.vm.findClass own = some m.cls := ho ▸ findClass_of_methodNamed B.named
  have hl := lv_entry (av.map zc) (n := mx) hlen
  rw [lg_entry_eq]
  generalize (lg_sl (av.map zc) ++ List.replicate (mx - (lg_sl (av.map zc)).length) Slot.unset).toArray = rl at hl ⊢
  exact body p e s m (av.map zc).toArray below meth c ⟨B.exec, B.bytes, hml, hown, fun w hw => hts w (List.mem_cons_of_mem _ hw), hSt, hX⟩ B.returns B.notSynchronized hT hG (fun v hv => hk v (zent_in hv)) (fun v hv => by cases hv) s.heap [] rl hP va_S.rf ⟨hl.1, hl.2.1, fun i v hi => hl.2.2 _ (zent_args hi)⟩
theorem zi_nI {n : Nat} : Int32.ofInt (n : Int) = nI n := by
  exact Int32.ofInt_eq_ofNat
theorem zs_slen (C : zCx p s m args c Γ cc nL own) {q v n t idx : Nat} {f : Nat → Int32} (hJ : jStr (zA Γ) q v n f s s.heap) (d : decode cc pc = .ok (.invokevirtual idx, 3)) (w : jWv own idx yJ0_length_8abf5 RJ0 cJ0_length_8abf5 1 (some .int) 0) (hR : 2 ≤ R.frames ∧ 60 ≤ R.locals) (hc : cells ≤ R.cells ∧ slots ≤ R.slots) (hw : ((st.map zc).map fun v => v.category).sum ≤ 8)
    (kk : Z p l e R s m args below meth c Γ nL cells slots Q (pc + 3) ls (zi n :: st) G) : Z p l e R s m args below meth c Γ nL cells slots Q pc ls (zr t q :: st) G := by
  intro hG hl hs H locs rl hP hS hL
  have hJF := jStr_nar hJ (B := jF) (fun _ h => h.elim)
  obtain ⟨cell, h1, h2, h3, h4⟩ := hJ.1
  have hq : H[q]? = some cell := by rw [hS.2.1 q (Array.getElem?_eq_some_iff.mp h1).1 h4]; exact h1
  have hrun := va_runV (H := H) (e := e) (below := below) (meth := meth) (locs := locs) (cells := cells) (slots := slots) (As := []) (rest := st.map zc) (b := q) (C := RJ0) (g := F0 m pc rl ((zr t q :: st).map zc)) (n := 0) ⟨C.1, C.2.1, C.2.2.1, C.2.2.2.1, C.2.2.2.2.1⟩ (j_length (l := l) (q := q) (v := v) (n := n) (f := f))
    ⟨callB_of 0 C.2.2.2.2.1 (zTb_good w.1.2.2.2.2) rfl rfl rfl (by rw [w.2.1]; exact C.2.2.2.2.1 _ w.1.2.2.2.1) (C.2.2.2.2.1 _ w.1.1) w.2.2 (by show 1 + 1 ≤ R.frames ∧ 8 + (1 + 11) + 40 * 1 ≤ R.locals; omega), C.2.2.2.2.1 _ w.1.2.1, C.2.2.2.2.1 _ w.1.2.2.1⟩
    ⟨fun a U g mk h => ⟨h.1, jStr_keep (U := U) (U1 := U.calling g mk a) h.2 (Vm.Alike.refl U.vm) (fun _ _ _ => rfl)⟩, ⟨cell, hq, h2, h3⟩, fun U hU hW => ⟨rfl, jStr_nar (jStr_keep hJ hW.alike (fun x y1 y2 => by rw [hU]; exact hS.2.1 x y1 y2)) (fun _ h => h.elim)⟩⟩
    rfl rfl hL.1 rfl (lv_room hw) d ⟨by simpa using hc.1, by simpa using hc.2⟩
  have hn := hJ.2.2.2.2.1
  refine j_back hrun hS (fun r H1 locs1 hr1 hk hS1 => ?_)
  subst hr1
  have h9 := kk hG hl (zs_cons (v := zi n) ⟨by omega, by omega⟩ (zs_tl hs)) H1 locs1 rl (hP.kept (fun k x hx => hk x.1 (hP k x hx).lt)) hS1 hL
  rw [List.map_cons, show zc (zi (n : Int)) = .int (nI n) from congrArg Value.int zi_nI] at h9
  exact h9
theorem zs_schar (C : zCx p s m args c Γ cc nL own) {q v n t idx : Nat} {x : Int} {f : Nat → Int32} (hJ : jStr (zA Γ) q v n f s s.heap) (hx : 0 ≤ x ∧ x < n) (d : decode cc pc = .ok (.invokevirtual idx, 3)) (w : jWv own idx yJ0_charAt_5068e RJ0 cJ0_charAt_5068e 2 (some .char) 1) (hR : 4 ≤ R.frames ∧ 150 ≤ R.locals) (hc : cells ≤ R.cells ∧ slots ≤ R.slots) (hw : ((st.map zc).map fun v => v.category).sum ≤ 8)
    (kk : ∀ z : Int, -2147483648 ≤ z → z ≤ 2147483647 → Z p l e R s m args below meth c Γ nL cells slots Q (pc + 3) ls (zi z :: st) G) : Z p l e R s m args below meth c Γ nL cells slots Q pc ls (zi x :: zr t q :: st) G := by
  intro hG hl hs H locs rl hP hS hL
  obtain ⟨i, rfl⟩ : ∃ i : Nat, x = i := ⟨x.toNat, by omega⟩
  obtain ⟨cell, h1, h2, h3, h4⟩ := hJ.1
  have hq : H[q]? = some cell := by rw [hS.2.1 q (Array.getElem?_eq_some_iff.mp h1).1 h4]; exact h1
  have hrun := va_runV (H := H) (e := e) (below := below) (meth := meth) (locs := locs) (cells := cells) (slots := slots) (As := [.int (nI i)]) (rest := st.map zc) (b := q) (C := RJ0) (g := F0 m pc rl ((zi i :: zr t q :: st).map zc)) (n := 1) ⟨C.1, C.2.1, C.2.2.1, C.2.2.2.1, C.2.2.2.2.1⟩ (j_charAt (l := l) (q := q) (v := v) (n := n) (i := i) (f := f) (by omega))
    ⟨callB_of 1 C.2.2.2.2.1 (zTb_good w.1.2.2.2.2) rfl rfl rfl (by rw [w.2.1]; exact C.2.2.2.2.1 _ w.1.2.2.2.1) (C.2.2.2.2.1 _ w.1.1) w.2.2 (by show 3 + 1 ≤ R.frames ∧ 8 + (2 + 11) + 40 * 3 ≤ R.locals; omega), C.2.2.2.2.1 _ w.1.2.1, C.2.2.2.2.1 _ w.1.2.2.1⟩
    ⟨fun a U g mk h => ⟨h.1, jStr_keep (U := U) (U1 := U.calling g mk a) h.2 (Vm.Alike.refl U.vm) (fun _ _ _ => rfl)⟩, ⟨cell, hq, h2, h3⟩, fun U hU hW => ⟨rfl, jStr_nar (jStr_keep hJ hW.alike (fun x y1 y2 => by rw [hU]; exact hS.2.1 x y1 y2)) (fun _ h => h.elim)⟩⟩
    rfl rfl hL.1 (by rw [List.map_cons, List.map_cons, show zc (zi (i : Int)) = .int (nI i) from congrArg Value.int zi_nI]; rfl) (lv_room hw) d ⟨by simpa using hc.1, by simpa using hc.2⟩
  refine j_back hrun hS (fun r H1 locs1 hr1 hk hS1 => ?_)
  subst hr1
  have e1 := Int32.le_toInt (f i &&& 255)
  have e2 := Int32.toInt_lt (f i &&& 255)
  have h9 := kk (f i &&& 255).toInt (by omega) (by omega) hG hl (zs_cons (v := zi (f i &&& 255).toInt) ⟨by omega, by omega⟩ (zs_tl (zs_tl hs))) H1 locs1 rl (hP.kept (fun k x hx => hk x.1 (hP k x hx).lt)) hS1 hL
  rw [List.map_cons, show zc (zi (f i &&& 255).toInt) = .int (f i &&& 255) from congrArg Value.int (Int32.ofInt_toInt _)] at h9
  exact h9
end ZK
end
section
def zTx (b : Nat) (o : (Nat → Nat) × (Nat → Nat) × (Nat → Nat → Int)) (U : State) : Prop :=
  (vk_R RX6 24 "or and not worth times worn pride lie honest day " (o.1 3) U ∧ vk_R RX6 26 "sin person did cake grain grist stone seed law may grind wear want pair " (o.1 4) U) ∧
  ∃ (v1 n1 : Nat) (f1 : Nat → Int32) (v2 n2 : Nat) (f2 : Nat → Int32), jStr (zAb b) (o.1 3) v1 n1 f1 U U.heap ∧ jStr (zAb b) (o.1 4) v2 n2 f2 U U.heap
theorem zTx_sty {b : Nat} {o : (Nat → Nat) × (Nat → Nat) × (Nat → Nat → Int)} : zSty b (zTx b o) := by
  intro U U1 h hW hq
  obtain ⟨⟨h1, h2⟩, v1, n1, f1, v2, n2, f2, h3, h4⟩ := h
  exact ⟨⟨vk_R.warm hW h1, vk_R.warm hW h2⟩, v1, n1, f1, v2, n2, f2, jStr_keep h3 hW.alike hq, jStr_keep h4 hW.alike hq⟩
section ZY
variable {p : Program} {l : Launch} {e : Env} {R : Room} {s : State} {m : MethodId} {args : Array Value} {below : List Frame} {meth : Method} {c : Code} {Γ Γ0 : zΓ} {b : Nat} {cc : ByteArray} {nL : Nat} {own : String} {cells slots : Nat} {Q : State → Prop} {pc : Nat} {ls : List (Option zV)} {st : List zV} {G : zH} {ws X : va_W} {D : va_G}
theorem v_ldcS (C : zCv p s m args c Γ b cc nL own) {idx q t : Nat} {tx : String} (hZ : vk_R own idx tx q s) (d : decode cc pc = .ok (.ldc idx, 2)) (kk : V p l e R s m args below meth c b D nL cells slots Q (pc + 2) ls (zr t q :: st) ws) : V p l e R s m args below meth c b D nL cells slots Q pc ls st ws := by
  intro H locs rl hP hD hS hL
  exact va_ldcS C.1 C.2.1 C.2.2.2.1 hZ d (kk H locs rl hP hD hS hL)
theorem v_init00 {hd : Nat × va_E} (C : zCv p s m args c Γ0 b cc nL own) (hx : zxt Γ0 Γ) {y : MethodName} {bs : ByteArray} {mx lv mc ms idx t q : Nat} {T : State → Prop} {post : zΓ → zH → Prop} (d : decode cc pc = .ok (.invokespecial idx, 3)) (w : zWi idx y bs mx 0) (wl : zLi own idx y) (hn : 0 = 0) (hM : zMi l y bs mx lv mc ms b Γ G (hd :: X) t q [] T post) (hB : zBn Γ G) (hav : ∀ x ∈ ([] : List zV), zk Γ x) (hT : zSty b T) (hTs : T s) (hR : lv + 1 ≤ R.frames ∧ 8 + (mx + 11) + 40 * lv ≤ R.locals) (hc : cells + mc ≤ R.cells ∧ slots + ms ≤ R.slots) (hw : ((st.map zc).map fun v => v.category).sum ≤ 8)
    (kk : ∀ (Γ' : zΓ) (G' : zH), zxt Γ Γ' → zBn Γ' G' → Γ'.1 q = t → post Γ' G' → V p l e R s m args below meth c b Γ0.2.2.2.1 nL (cells + mc) (slots + ms) Q (pc + 3) ls st (hd :: (X ++ zWd Γ' G'))) : V p l e R s m args below meth c b Γ0.2.2.2.1 nL cells slots Q pc ls (zr t q :: st) ((q, zO0 t) :: hd :: (X ++ zWd Γ G)) :=
  v_init0 (av := []) C hx d w wl rfl hM hB hav hT hTs hR hc hw kk
theorem v_init01 {hd : Nat × va_E} {a : zV} (C : zCv p s m args c Γ0 b cc nL own) (hx : zxt Γ0 Γ) {y : MethodName} {bs : ByteArray} {mx lv mc ms idx t q : Nat} {T : State → Prop} {post : zΓ → zH → Prop} (d : decode cc pc = .ok (.invokespecial idx, 3)) (w : zWi idx y bs mx 1) (wl : zLi own idx y) (hn : 0 = 0) (hM : zMi l y bs mx lv mc ms b Γ G (hd :: X) t q [a] T post) (hB : zBn Γ G) (hav : ∀ x ∈ [a], zk Γ x) (hT : zSty b T) (hTs : T s) (hR : lv + 1 ≤ R.frames ∧ 8 + (mx + 11) + 40 * lv ≤ R.locals) (hc : cells + mc ≤ R.cells ∧ slots + ms ≤ R.slots) (hw : ((st.map zc).map fun v => v.category).sum ≤ 8)
    (kk : ∀ (Γ' : zΓ) (G' : zH), zxt Γ Γ' → zBn Γ' G' → Γ'.1 q = t → post Γ' G' → V p l e R s m args below meth c b Γ0.2.2.2.1 nL (cells + mc) (slots + ms) Q (pc + 3) ls st (hd :: (X ++ zWd Γ' G'))) : V p l e R s m args below meth c b Γ0.2.2.2.1 nL cells slots Q pc ls (a :: zr t q :: st) ((q, zO0 t) :: hd :: (X ++ zWd Γ G)) :=
  v_init0 (av := [a]) C hx d w wl rfl hM hB hav hT hTs hR hc hw kk
theorem v_call00 (C : zCv p s m args c Γ0 b cc nL own) (hx : zxt Γ0 Γ) {y : MethodName} {bs : ByteArray} {mx lv idx t q : Nat} {post : zH → Prop} (d : decode cc pc = .ok (.invokevirtual idx, 3)) (w : zWv own idx y t bs mx none 0) (ht : 1 ≤ t ∧ t ≤ 10) (hM : zMet l Γ y bs mx none lv [zr t q] G (zpv post)) (hB : zBn Γ G) (h1 : zk Γ (zr t q)) (hR : lv + 1 ≤ R.frames ∧ 8 + (mx + 11) + 40 * lv ≤ R.locals) (hc : cells ≤ R.cells ∧ slots ≤ R.slots) (hw : ((st.map zc).map fun v => v.category).sum ≤ 8)
    (kk : ∀ (G' : zH), post G' → zBn Γ (zno Γ G') → V p l e R s m args below meth c b Γ0.2.2.2.1 nL cells slots Q (pc + 3) ls st (X ++ zWd Γ (zno Γ G'))) : V p l e R s m args below meth c b Γ0.2.2.2.1 nL cells slots Q pc ls (zr t q :: st) (X ++ zWd Γ G) :=
  v_callV0 (av := []) C hx d w ht rfl hM hB (fun x hx => by rw [List.mem_singleton.mp hx]; exact h1) hR hc hw (fun r G' hp hB' => by obtain ⟨rfl, hp⟩ := hp; exact kk G' hp hB')
theorem v_call01 {a : zV} (C : zCv p s m args c Γ0 b cc nL own) (hx : zxt Γ0 Γ) {y : MethodName} {bs : ByteArray} {mx lv idx t q : Nat} {post : zH → Prop} (d : decode cc pc = .ok (.invokevirtual idx, 3)) (w : zWv own idx y t bs mx none 1) (ht : 1 ≤ t ∧ t ≤ 10) (hM : zMet l Γ y bs mx none lv [zr t q, a] G (zpv post)) (hB : zBn Γ G) (h1 : zk Γ (zr t q)) (h2 : zk Γ a) (hR : lv + 1 ≤ R.frames ∧ 8 + (mx + 11) + 40 * lv ≤ R.locals) (hc : cells ≤ R.cells ∧ slots ≤ R.slots) (hw : ((st.map zc).map fun v => v.category).sum ≤ 8)
    (kk : ∀ (G' : zH), post G' → zBn Γ (zno Γ G') → V p l e R s m args below meth c b Γ0.2.2.2.1 nL cells slots Q (pc + 3) ls st (X ++ zWd Γ (zno Γ G'))) : V p l e R s m args below meth c b Γ0.2.2.2.1 nL cells slots Q pc ls (a :: zr t q :: st) (X ++ zWd Γ G) :=
  v_callV0 (av := [a]) C hx d w ht rfl hM hB (fun x hx => by rcases List.mem_cons.mp hx with h | h; exact h ▸ h1; rw [List.mem_singleton.mp h]; exact h2) hR hc hw (fun r G' hp hB' => by obtain ⟨rfl, hp⟩ := hp; exact kk G' hp hB')
theorem v_callT {T : State → Prop} (C : zCv p s m args c Γ b cc nL own) {y : MethodName} {bs : ByteArray} {mx lv idx t a n : Nat} {ret : Option FieldType} {av : List zV} {post : Option zV → zH → Prop} (d : decode cc pc = .ok (.invokevirtual idx, 3)) (w : zWv own idx y t bs mx ret n) (ht : 1 ≤ t ∧ t ≤ 10) (hn : av.length = n) (hM : zMt l Γ T y bs mx ret lv (zr t a :: av) G post) (hB : zBn Γ G) (hav : ∀ x ∈ zr t a :: av, zk Γ x) (hT : ∀ (U : State) (H : Heap), U.heap = H → s.vm.Alike U.vm → (∀ x : Nat, x < s.heap.size → ¬ zAb b x → H[x]? = s.heap[x]?) → (∀ x, zA Γ x → zAb b x) → T U) (hTb : ∀ (a : Array Value) (U : State) (g : JFrame) (mk : MethodId), T U → T (U.calling g mk a)) (hR : lv + 1 ≤ R.frames ∧ 8 + (mx + 11) + 40 * lv ≤ R.locals) (hc : cells ≤ R.cells ∧ slots ≤ R.slots) (hw : ((st.map zc).map fun v => v.category).sum ≤ 8)
    (kk : ∀ (r : Option zV) (G' : zH), post r G' → (∀ x, r = some x → zk Γ x) → zBn Γ (zno Γ G') → V p l e R s m args below meth c b Γ.2.2.2.1 nL cells slots Q (pc + 3) ls (r.toList ++ st) (X ++ zWd Γ (zno Γ G'))) : V p l e R s m args below meth c b Γ.2.2.2.1 nL cells slots Q pc ls (av.reverse ++ zr t a :: st) (X ++ zWd Γ G) := by
  intro H locs rl hP hD hS hL
  obtain ⟨⟨w1, w2, w3, w4, w5⟩, hcl, hy1, hy2, hnp⟩ := w
  have hts := C.2.2.2.2.1
  obtain ⟨hXb, hNk, hNm⟩ := C.2.2.2.2.2.2.1
  have hAb := zA_of hB.1 hD
  have hra := hav _ List.mem_cons_self
  obtain ⟨hta, -⟩ := zk_ty hra (by omega)
  have hPz : va_P Γ.2.2.2.1 vwCl (zWd Γ G) H := zP_mem hP (fun x hx => List.mem_append_right _ hx)
  obtain ⟨q0, hq0⟩ := va_pl_get (X := []) (f := zE Γ G) ((hB.1.2.1 a).mpr (by omega))
  rw [zE_cls hta ht.2] at hq0
  have hrun := va_runV (H := H) (e := e) (below := below) (meth := meth) (locs := locs) (cells := cells) (slots := slots) (As := av.map zc) (rest := st.map zc) (b := a) (C := zCn t) (g := F0 m pc rl ((av.reverse ++ zr t a :: st).map zc)) (n := n) ⟨C.1, C.2.1, C.2.2.1, C.2.2.2.1, hts⟩ hM
    ⟨callB_of n hts (zTb_good w5) rfl rfl rfl (by rw [hcl]; exact hts _ w4) (hts _ w1) ⟨hy1, hy2, hnp⟩ hR, hts _ w2, hts _ w3⟩
    ⟨fun a U g mk h => ⟨zPc_blind a U g mk h.1, hTb a U g mk h.2⟩, va_recv C.2.2.2.2.2.1 hPz (zcl_at ht.1 ht.2) hq0, fun U hU hW => ⟨⟨rfl, ⟨va_K.moved hW.alike C.2.2.2.2.2.1, hB.1, zXb_f (zXb_keep hXb hW.alike (fun x h1 h2 => by rw [hU]; exact hS.2.1 x h1 h2)) hAb, fun x hx => va_Nw.warmF hW (hNk x hx)⟩, hB.2.1, hav, by rw [hU]; exact hPz⟩, hT U H hU hW.alike (fun x h1 h2 => hS.2.1 x h1 h2) hAb⟩⟩
    rfl (by rw [List.length_map]; exact hn) hL.1 (by simp [zc]) (lv_room hw) d ⟨by simpa using hc.1, by simpa using hc.2⟩
  intro T hT X1
  obtain ⟨v, st₀, t9, T', L, h01, X', hL', e1, e2, ⟨⟨r, G', hv, hz, hp, hG', hP'⟩, hF⟩, go⟩ := hrun T hT X1
  have hv' : v = r.map zc := by cases hv; rfl
  subst hv'
  have hS1 : va_S (zAb b) s.heap t9.heap (locs ++ L) := by
    refine ⟨Nat.le_trans hS.1 (by rw [← h01]; exact hF.1), fun q h1 h2 => ?_, fun l hl => ?_⟩
    · rw [hF.2 q (by rw [h01]; exact Nat.lt_of_lt_of_le h1 hS.1) (fun h => h2 (hAb q h)), h01]
      exact hS.2.1 q h1 h2
    · rcases List.mem_append.mp hl with q | q
      · exact hS.2.2 l q
      · exact hAb _ (hL' l q)
  have hPX : va_P Γ.2.2.2.1 vwCl X t9.heap := by
    intro k q hk
    have hk1 : (X ++ zWd Γ G)[k]? = some q := by rw [List.getElem?_append_left (List.getElem?_eq_some_iff.mp hk).1]; exact hk
    have h1 := hP k q hk1
    refine h1.kept ?_
    rw [hF.2 q.1 (by rw [h01]; exact h1.lt) (fun h => ?_), h01]
    have hm : q.1 ∈ Γ.2.2.2.2.1 := (hB.1.2.1 q.1).mpr h
    have h2 : (q.1, zE Γ G q.1) ∈ zWd Γ G := List.mem_map.mpr ⟨q.1, hm, rfl⟩
    obtain ⟨j, hj⟩ := List.getElem?_of_mem h2
    have hj1 : (X ++ zWd Γ G)[X.length + j]? = some (q.1, zE Γ G q.1) := by rw [List.getElem?_append_right (by omega), Nat.add_sub_cancel_left]; exact hj
    have h3 := hD.1 k (X.length + j) q _ hk1 hj1 rfl
    have h4 := (List.getElem?_eq_some_iff.mp hk).1
    omega
  have hD' : va_D (zAb b) (X ++ zWd Γ (zno Γ G')) := by
    rw [zD_iff] at hD ⊢
    have e8 : (X ++ zWd Γ (zno Γ G')).map (fun q => q.1) = (X ++ zWd Γ G).map (fun q => q.1) := by
      rw [List.map_append, List.map_append]
      unfold zWd va_pl
      rw [List.map_map, List.map_map]
      rfl
    refine ⟨by rw [e8]; exact hD.1, fun q hq => ?_⟩
    have h1 : q.1 ∈ (X ++ zWd Γ (zno Γ G')).map (fun q => q.1) := List.mem_map.mpr ⟨q, hq, rfl⟩
    rw [e8] at h1
    obtain ⟨q2, h2, h3⟩ := List.mem_map.mp h1
    rw [← h3]
    exact hD.2 q2 h2
  have hBn := zBn_no hB.1 hG'
  obtain ⟨t8, a9, b9⟩ := kk r G' hp hz hBn t9.heap (locs ++ L) rl (hPX.app (by rw [zWd_no hB.1]; exact hP')) hD' hS1 hL T' e1 X'
  refine ⟨t8, ?_, b9⟩
  have e9 : List.map zc (r.toList ++ st) = (r.map zc).toList ++ st.map zc := by
    cases r <;> simp
  rw [e9] at a9
  exact go t8 a9

theorem v_learn (C : zCv p s m args c Γ0 b cc nL own) (hx : zxt Γ0 Γ) {bs : ByteArray} {idx w0 a t v n : Nat} {k : Int} {f : Nat → Int32} {y : MethodName} (d : decode cc pc = .ok (.invokevirtual idx, 3)) (w : zWv own idx y 7 bs 7 (some .int) 2) (hM : zMt l Γ (fun U => jStr (zA Γ) a v n f U U.heap) y bs 7 (some .int) 4 [zr 7 w0, zr t a, zi k] G (zpi (fun x G' => zsm [2044] G G' ∧ 0 ≤ x))) (hB : zBn Γ G) (ht0 : Γ.1 w0 = 7) (ha : a = Γ.2.2.2.2.2.1 (t - 200)) (hJ : jStr (zAb b) a v n f s s.heap) (ht : 200 ≤ t) (hR : 5 ≤ R.frames ∧ 200 ≤ R.locals) (hc : cells ≤ R.cells ∧ slots ≤ R.slots) (hw : ((st.map zc).map fun v => v.category).sum ≤ 8) (hk : -2147483648 ≤ k ∧ k ≤ 2147483647)
    (kk : ∀ (x : Int) (G' : zH), 0 ≤ x → (-2147483648 ≤ x ∧ x ≤ 2147483647) → zBn Γ (zno Γ G') → V p l e R s m args below meth c b Γ0.2.2.2.1 nL cells slots Q (pc + 3) ls (zi x :: st) (X ++ zWd Γ (zno Γ G'))) : V p l e R s m args below meth c b Γ0.2.2.2.1 nL cells slots Q pc ls (zi k :: zr t a :: zr 7 w0 :: st) (X ++ zWd Γ G) := by
  rw [← hx.2.1]
  refine v_callT (av := [zr t a, zi k]) (zCv_x C hx) d w (by decide) rfl hM hB ?_ (fun U H hU hvm hq hA => by rw [hU]; exact jStr_nar (jStr_keep hJ hvm hq) hA) ?_ (by show 4 + 1 ≤ R.frames ∧ 8 + (7 + 11) + 40 * 4 ≤ R.locals; omega) hc hw (fun r G' hp hz hB' => ?_)
  · intro x hx
    rcases List.mem_cons.mp hx with h | h
    · rw [h]; exact zk_of ht0 (by decide) (by decide)
    · rcases List.mem_cons.mp h with h | h
      · rw [h]; exact Or.inr ⟨ht, ha⟩
      · rw [List.mem_singleton.mp h]; exact hk
  · intro a U g mk h
    exact jStr_keep (U := U) (U1 := U.calling g mk a) h (Vm.Alike.refl U.vm) (fun _ _ _ => rfl)
  · obtain ⟨x, rfl, hp⟩ := hp
    have h := kk x G' hp.2 (hz _ rfl) hB'
    rw [← hx.2.1] at h
    exact h
end ZY
theorem ol_X0 : Cond.methodLink RX0 3 Lib.objectInit ∈ zTb := (zTb_2 218 rfl rfl)
theorem oi_ : Cond.instanceMethod Lib.objectInit ∈ zTb := (zTb_1 30 rfl rfl)
theorem oc_ : Cond.code Lib.objectInit ⟨#[0xb1]⟩ 1 none ∈ zTb := (zTb_1 31 rfl rfl)
theorem ac_int : Cond.arrayClass .int ∈ zTb := (zTb_1 127 rfl rfl)
theorem fl_X0_9 : Cond.fieldLink RX0 9 (zCn 1) (zT 1 0).2.1 (zT 1 0).2.2.1 ∈ zTb := (zTb_2 219 rfl rfl)
theorem fl_X0_15 : Cond.fieldLink RX0 15 (zCn 1) (zT 1 1).2.1 (zT 1 1).2.2.1 ∈ zTb := (zTb_2 220 rfl rfl)
theorem ac_long : Cond.arrayClass .long ∈ zTb := (zTb_1 168 rfl rfl)
theorem fl_X0_18 : Cond.fieldLink RX0 18 (zCn 1) (zT 1 2).2.1 (zT 1 2).2.2.1 ∈ zTb := (zTb_2 222 rfl rfl)
theorem ol_X1 : Cond.methodLink RX1 3 Lib.objectInit ∈ zTb := (zTb_1 140 rfl rfl)
theorem fl_X1_11 : Cond.fieldLink RX1 11 (zCn 2) (zT 2 0).2.1 (zT 2 0).2.2.1 ∈ zTb := (zTb_1 141 rfl rfl)
theorem fl_X1_15 : Cond.fieldLink RX1 15 (zCn 2) (zT 2 1).2.1 (zT 2 1).2.2.1 ∈ zTb := (zTb_1 142 rfl rfl)
theorem fl_X1_18 : Cond.fieldLink RX1 18 (zCn 2) (zT 2 2).2.1 (zT 2 2).2.2.1 ∈ zTb := (zTb_1 143 rfl rfl)
theorem fl_X1_21 : Cond.fieldLink RX1 21 (zCn 2) (zT 2 3).2.1 (zT 2 3).2.2.1 ∈ zTb := (zTb_1 144 rfl rfl)
theorem fl_X1_24 : Cond.fieldLink RX1 24 (zCn 2) (zT 2 4).2.1 (zT 2 4).2.2.1 ∈ zTb := (zTb_1 145 rfl rfl)
theorem fl_X1_28 : Cond.fieldLink RX1 28 (zCn 2) (zT 2 5).2.1 (zT 2 5).2.2.1 ∈ zTb := (zTb_1 146 rfl rfl)
theorem ol_X4 : Cond.methodLink RX4 3 Lib.objectInit ∈ zTb := (zTb_2 61 rfl rfl)
theorem fl_X4_9 : Cond.fieldLink RX4 9 (zCn 5) (zT 5 0).2.1 (zT 5 0).2.2.1 ∈ zTb := (zTb_2 62 rfl rfl)
theorem fl_X4_15 : Cond.fieldLink RX4 15 (zCn 5) (zT 5 1).2.1 (zT 5 1).2.2.1 ∈ zTb := (zTb_2 65 rfl rfl)
theorem fl_X4_18 : Cond.fieldLink RX4 18 (zCn 5) (zT 5 2).2.1 (zT 5 2).2.2.1 ∈ zTb := (zTb_2 68 rfl rfl)
theorem fl_X4_21 : Cond.fieldLink RX4 21 (zCn 5) (zT 5 3).2.1 (zT 5 3).2.2.1 ∈ zTb := (zTb_2 71 rfl rfl)
theorem fl_X4_24 : Cond.fieldLink RX4 24 (zCn 5) (zT 5 4).2.1 (zT 5 4).2.2.1 ∈ zTb := (zTb_2 73 rfl rfl)
theorem fl_X4_27 : Cond.fieldLink RX4 27 (zCn 5) (zT 5 5).2.1 (zT 5 5).2.2.1 ∈ zTb := (zTb_2 76 rfl rfl)
theorem fl_X4_30 : Cond.fieldLink RX4 30 (zCn 5) (zT 5 6).2.1 (zT 5 6).2.2.1 ∈ zTb := (zTb_2 78 rfl rfl)
theorem fl_X4_33 : Cond.fieldLink RX4 33 (zCn 5) (zT 5 7).2.1 (zT 5 7).2.2.1 ∈ zTb := (zTb_2 80 rfl rfl)
theorem fl_X4_36 : Cond.fieldLink RX4 36 (zCn 5) (zT 5 8).2.1 (zT 5 8).2.2.1 ∈ zTb := (zTb_2 82 rfl rfl)
theorem fl_X4_39 : Cond.fieldLink RX4 39 (zCn 5) (zT 5 9).2.1 (zT 5 9).2.2.1 ∈ zTb := (zTb_2 84 rfl rfl)
theorem ol_X2 : Cond.methodLink RX2 3 Lib.objectInit ∈ zTb := (zTb_2 185 rfl rfl)
theorem fl_X2_9 : Cond.fieldLink RX2 9 (zCn 3) (zT 3 1).2.1 (zT 3 1).2.2.1 ∈ zTb := (zTb_2 187 rfl rfl)
theorem fl_X2_15 : Cond.fieldLink RX2 15 (zCn 3) (zT 3 2).2.1 (zT 3 2).2.2.1 ∈ zTb := (zTb_2 188 rfl rfl)
theorem fl_X2_18 : Cond.fieldLink RX2 18 (zCn 3) (zT 3 3).2.1 (zT 3 3).2.2.1 ∈ zTb := (zTb_2 190 rfl rfl)
theorem fl_X2_21 : Cond.fieldLink RX2 21 (zCn 3) (zT 3 4).2.1 (zT 3 4).2.2.1 ∈ zTb := (zTb_2 192 rfl rfl)
theorem fl_X2_24 : Cond.fieldLink RX2 24 (zCn 3) (zT 3 5).2.1 (zT 3 5).2.2.1 ∈ zTb := (zTb_2 193 rfl rfl)
theorem fl_X2_27 : Cond.fieldLink RX2 27 (zCn 3) (zT 3 0).2.1 (zT 3 0).2.2.1 ∈ zTb := (zTb_2 186 rfl rfl)
theorem ol_X5 : Cond.methodLink RX5 3 Lib.objectInit ∈ zTb := (zTb_1 134 rfl rfl)
theorem cl_X5_9 : Cond.classLink RX5 9 (zCn 2) ∈ zTb := (zTb_1 135 rfl rfl)
theorem in_2 : Cond.instantiable (zCn 2) (zN 2) ∈ zTb := (zTb_1 136 rfl rfl)
theorem iz_2 : Cond.initialized (zCn 2) ∈ zTb := (zTb_1 9 rfl rfl)
theorem wi_X1 (idx : Nat) : zWi idx yX1_init cX1_init 1 0 := ⟨⟨(zTb_1 138 rfl rfl), (zTb_1 9 rfl rfl), (zTb_1 139 rfl rfl)⟩, rfl, by decide +kernel, by decide +kernel, by decide +kernel⟩
theorem li_X5_11 : zLi RX5 11 yX1_init := Or.inr ⟨RX8, List.mem_of_getElem? (i := 2) rfl⟩
theorem fl_X5_12 : Cond.fieldLink RX5 12 (zCn 6) (zT 6 0).2.1 (zT 6 0).2.2.1 ∈ zTb := (zTb_1 169 rfl rfl)
theorem fl_X5_18 : Cond.fieldLink RX5 18 (zCn 6) (zT 6 1).2.1 (zT 6 1).2.2.1 ∈ zTb := (zTb_1 173 rfl rfl)
theorem fl_X5_22 : Cond.fieldLink RX5 22 (zCn 6) (zT 6 2).2.1 (zT 6 2).2.2.1 ∈ zTb := (zTb_1 174 rfl rfl)
theorem fl_X5_25 : Cond.fieldLink RX5 25 (zCn 6) (zT 6 3).2.1 (zT 6 3).2.2.1 ∈ zTb := (zTb_1 180 rfl rfl)
theorem fl_X5_28 : Cond.fieldLink RX5 28 (zCn 6) (zT 6 4).2.1 (zT 6 4).2.2.1 ∈ zTb := (zTb_1 184 rfl rfl)
theorem fl_X5_31 : Cond.fieldLink RX5 31 (zCn 6) (zT 6 5).2.1 (zT 6 5).2.2.1 ∈ zTb := (zTb_1 188 rfl rfl)
theorem fl_X5_34 : Cond.fieldLink RX5 34 (zCn 6) (zT 6 6).2.1 (zT 6 6).2.2.1 ∈ zTb := (zTb_1 191 rfl rfl)
theorem fl_X5_37 : Cond.fieldLink RX5 37 (zCn 6) (zT 6 7).2.1 (zT 6 7).2.2.1 ∈ zTb := (zTb_1 195 rfl rfl)
theorem fl_X5_40 : Cond.fieldLink RX5 40 (zCn 6) (zT 6 8).2.1 (zT 6 8).2.2.1 ∈ zTb := (zTb_1 199 rfl rfl)
theorem fl_X5_43 : Cond.fieldLink RX5 43 (zCn 6) (zT 6 9).2.1 (zT 6 9).2.2.1 ∈ zTb := (zTb_1 203 rfl rfl)
theorem fl_X5_47 : Cond.fieldLink RX5 47 (zCn 6) (zT 6 10).2.1 (zT 6 10).2.2.1 ∈ zTb := (zTb_1 206 rfl rfl)
theorem ol_X6 : Cond.methodLink RX6 3 Lib.objectInit ∈ zTb := (zTb_1 43 rfl rfl)
theorem fl_X6_11 : Cond.fieldLink RX6 11 (zCn 7) (zT 7 0).2.1 (zT 7 0).2.2.1 ∈ zTb := (zTb_1 101 rfl rfl)
theorem fl_X6_15 : Cond.fieldLink RX6 15 (zCn 7) (zT 7 1).2.1 (zT 7 1).2.2.1 ∈ zTb := (zTb_1 102 rfl rfl)
theorem fl_X6_18 : Cond.fieldLink RX6 18 (zCn 7) (zT 7 2).2.1 (zT 7 2).2.2.1 ∈ zTb := (zTb_1 104 rfl rfl)
theorem fl_X6_21 : Cond.fieldLink RX6 21 (zCn 7) (zT 7 3).2.1 (zT 7 3).2.2.1 ∈ zTb := (zTb_1 106 rfl rfl)
theorem ol_X3 : Cond.methodLink RX3 3 Lib.objectInit ∈ zTb := (zTb_1 37 rfl rfl)
theorem cl_X3_9 : Cond.classLink RX3 9 (zCn 7) ∈ zTb := (zTb_1 38 rfl rfl)
theorem in_7 : Cond.instantiable (zCn 7) (zN 7) ∈ zTb := (zTb_1 39 rfl rfl)
theorem iz_7 : Cond.initialized (zCn 7) ∈ zTb := (zTb_1 3 rfl rfl)
theorem wi_X6 (idx : Nat) : zWi idx yX6_init cX6_init 1 0 := ⟨⟨(zTb_1 41 rfl rfl), (zTb_1 3 rfl rfl), (zTb_1 42 rfl rfl)⟩, rfl, by decide +kernel, by decide +kernel, by decide +kernel⟩
theorem li_X3_11 : zLi RX3 11 yX6_init := Or.inl (zTb_1 40 rfl rfl)
theorem fl_X3_12 : Cond.fieldLink RX3 12 (zCn 4) (zT 4 0).2.1 (zT 4 0).2.2.1 ∈ zTb := (zTb_2 3 rfl rfl)
theorem cl_X3_18 : Cond.classLink RX3 18 (zCn 6) ∈ zTb := (zTb_1 129 rfl rfl)
theorem in_6 : Cond.instantiable (zCn 6) (zN 6) ∈ zTb := (zTb_1 130 rfl rfl)
theorem iz_6 : Cond.initialized (zCn 6) ∈ zTb := (zTb_1 8 rfl rfl)
theorem wi_X5 (idx : Nat) : zWi idx yX5_init cX5_init 1 0 := ⟨⟨(zTb_1 132 rfl rfl), (zTb_1 8 rfl rfl), (zTb_1 133 rfl rfl)⟩, rfl, by decide +kernel, by decide +kernel, by decide +kernel⟩
theorem li_X3_20 : zLi RX3 20 yX5_init := Or.inr ⟨RX8, List.mem_of_getElem? (i := 1) rfl⟩
theorem fl_X3_21 : Cond.fieldLink RX3 21 (zCn 4) (zT 4 1).2.1 (zT 4 1).2.2.1 ∈ zTb := (zTb_2 4 rfl rfl)
theorem fl_X3_27 : Cond.fieldLink RX3 27 (zCn 4) (zT 4 9).2.1 (zT 4 9).2.2.1 ∈ zTb := (zTb_2 14 rfl rfl)
theorem ol_X7 : Cond.methodLink RX7 3 Lib.objectInit ∈ zTb := (zTb_2 55 rfl rfl)
theorem cl_X7_9 : Cond.classLink RX7 9 (zCn 5) ∈ zTb := (zTb_2 56 rfl rfl)
theorem in_5 : Cond.instantiable (zCn 5) (zN 5) ∈ zTb := (zTb_2 57 rfl rfl)
theorem iz_5 : Cond.initialized (zCn 5) ∈ zTb := (zTb_1 11 rfl rfl)
theorem wi_X4 (idx : Nat) : zWi idx yX4_init cX4_init 1 0 := ⟨⟨(zTb_2 59 rfl rfl), (zTb_1 11 rfl rfl), (zTb_2 60 rfl rfl)⟩, rfl, by decide +kernel, by decide +kernel, by decide +kernel⟩
theorem li_X7_11 : zLi RX7 11 yX4_init := Or.inr ⟨RX8, List.mem_of_getElem? (i := 4) rfl⟩
theorem fl_X7_12 : Cond.fieldLink RX7 12 (zCn 8) (zT 8 1).2.1 (zT 8 1).2.2.1 ∈ zTb := (zTb_2 125 rfl rfl)
theorem fl_X7_18 : Cond.fieldLink RX7 18 (zCn 8) (zT 8 2).2.1 (zT 8 2).2.2.1 ∈ zTb := (zTb_2 128 rfl rfl)
theorem fl_X7_22 : Cond.fieldLink RX7 22 (zCn 8) (zT 8 3).2.1 (zT 8 3).2.2.1 ∈ zTb := (zTb_2 130 rfl rfl)
theorem fl_X7_25 : Cond.fieldLink RX7 25 (zCn 8) (zT 8 4).2.1 (zT 8 4).2.2.1 ∈ zTb := (zTb_2 131 rfl rfl)
theorem fl_X7_28 : Cond.fieldLink RX7 28 (zCn 8) (zT 8 5).2.1 (zT 8 5).2.2.1 ∈ zTb := (zTb_2 133 rfl rfl)
theorem fl_X7_31 : Cond.fieldLink RX7 31 (zCn 8) (zT 8 6).2.1 (zT 8 6).2.2.1 ∈ zTb := (zTb_2 135 rfl rfl)
theorem fl_X7_34 : Cond.fieldLink RX7 34 (zCn 8) (zT 8 7).2.1 (zT 8 7).2.2.1 ∈ zTb := (zTb_2 137 rfl rfl)
theorem fl_X7_37 : Cond.fieldLink RX7 37 (zCn 8) (zT 8 8).2.1 (zT 8 8).2.2.1 ∈ zTb := (zTb_2 139 rfl rfl)
theorem fl_X7_40 : Cond.fieldLink RX7 40 (zCn 8) (zT 8 0).2.1 (zT 8 0).2.2.1 ∈ zTb := (zTb_2 122 rfl rfl)
theorem ol_X8 : Cond.methodLink RX8 5 Lib.objectInit ∈ zTb := (zTb_1 29 rfl rfl)
theorem fl_X8_11 : Cond.fieldLink RX8 11 (zCn 9) (zT 9 0).2.1 (zT 9 0).2.2.1 ∈ zTb := (zTb_3 0 rfl rfl)
theorem cl_X8_15 : Cond.classLink RX8 15 (zCn 4) ∈ zTb := (zTb_1 32 rfl rfl)
theorem in_4 : Cond.instantiable (zCn 4) (zN 4) ∈ zTb := (zTb_1 33 rfl rfl)
theorem iz_4 : Cond.initialized (zCn 4) ∈ zTb := (zTb_1 2 rfl rfl)
theorem wi_X3 (idx : Nat) : zWi idx yX3_init cX3_init 1 0 := ⟨⟨(zTb_1 35 rfl rfl), (zTb_1 2 rfl rfl), (zTb_1 36 rfl rfl)⟩, rfl, by decide +kernel, by decide +kernel, by decide +kernel⟩
theorem li_X8_17 : zLi RX8 17 yX3_init := Or.inr ⟨RX8, List.mem_of_getElem? (i := 0) rfl⟩
theorem fl_X8_18 : Cond.fieldLink RX8 18 (zCn 9) (zT 9 2).2.1 (zT 9 2).2.2.1 ∈ zTb := (zTb_3 2 rfl rfl)
theorem cl_X8_22 : Cond.classLink RX8 22 (zCn 6) ∈ zTb := (zTb_2 48 rfl rfl)
theorem li_X8_24 : zLi RX8 24 yX5_init := Or.inr ⟨RX8, List.mem_of_getElem? (i := 3) rfl⟩
theorem fl_X8_25 : Cond.fieldLink RX8 25 (zCn 9) (zT 9 3).2.1 (zT 9 3).2.2.1 ∈ zTb := (zTb_3 3 rfl rfl)
theorem cl_X8_29 : Cond.classLink RX8 29 (zCn 8) ∈ zTb := (zTb_2 50 rfl rfl)
theorem in_8 : Cond.instantiable (zCn 8) (zN 8) ∈ zTb := (zTb_2 51 rfl rfl)
theorem iz_8 : Cond.initialized (zCn 8) ∈ zTb := (zTb_1 10 rfl rfl)
theorem wi_X7 (idx : Nat) : zWi idx yX7_init cX7_init 2 1 := ⟨⟨(zTb_2 53 rfl rfl), (zTb_1 10 rfl rfl), (zTb_2 54 rfl rfl)⟩, rfl, by decide +kernel, by decide +kernel, by decide +kernel⟩
theorem li_X8_31 : zLi RX8 31 yX7_init := Or.inl (zTb_2 52 rfl rfl)
theorem fl_X8_34 : Cond.fieldLink RX8 34 (zCn 9) (zT 9 4).2.1 (zT 9 4).2.2.1 ∈ zTb := (zTb_3 4 rfl rfl)
theorem fl_X8_38 : Cond.fieldLink RX8 38 (zCn 9) (zT 9 5).2.1 (zT 9 5).2.2.1 ∈ zTb := (zTb_3 5 rfl rfl)
theorem fl_X8_41 : Cond.fieldLink RX8 41 (zCn 9) (zT 9 6).2.1 (zT 9 6).2.2.1 ∈ zTb := (zTb_3 6 rfl rfl)
theorem cl_X8_44 : Cond.classLink RX8 44 (zCn 3) ∈ zTb := (zTb_2 180 rfl rfl)
theorem in_3 : Cond.instantiable (zCn 3) (zN 3) ∈ zTb := (zTb_2 181 rfl rfl)
theorem iz_3 : Cond.initialized (zCn 3) ∈ zTb := (zTb_1 14 rfl rfl)
theorem wi_X2 (idx : Nat) : zWi idx yX2_init cX2_init 2 1 := ⟨⟨(zTb_2 183 rfl rfl), (zTb_1 14 rfl rfl), (zTb_2 184 rfl rfl)⟩, rfl, by decide +kernel, by decide +kernel, by decide +kernel⟩
theorem li_X8_46 : zLi RX8 46 yX2_init := Or.inl (zTb_2 182 rfl rfl)
theorem fl_X8_49 : Cond.fieldLink RX8 49 (zCn 9) (zT 9 7).2.1 (zT 9 7).2.2.1 ∈ zTb := (zTb_3 7 rfl rfl)
theorem cl_X8_53 : Cond.classLink RX8 53 (zCn 1) ∈ zTb := (zTb_2 213 rfl rfl)
theorem in_1 : Cond.instantiable (zCn 1) (zN 1) ∈ zTb := (zTb_2 214 rfl rfl)
theorem iz_1 : Cond.initialized (zCn 1) ∈ zTb := (zTb_1 15 rfl rfl)
theorem wi_X0 (idx : Nat) : zWi idx yX0_init cX0_init 1 0 := ⟨⟨(zTb_2 216 rfl rfl), (zTb_1 15 rfl rfl), (zTb_2 217 rfl rfl)⟩, rfl, by decide +kernel, by decide +kernel, by decide +kernel⟩
theorem li_X8_55 : zLi RX8 55 yX0_init := Or.inr ⟨RX8, List.mem_of_getElem? (i := 5) rfl⟩
theorem fl_X8_56 : Cond.fieldLink RX8 56 (zCn 9) (zT 9 8).2.1 (zT 9 8).2.2.1 ∈ zTb := (zTb_3 8 rfl rfl)
theorem fl_X8_60 : Cond.fieldLink RX8 60 (zCn 9) (zT 9 9).2.1 (zT 9 9).2.2.1 ∈ zTb := (zTb_3 9 rfl rfl)
theorem fl_X8_63 : Cond.fieldLink RX8 63 (zCn 9) (zT 9 13).2.1 (zT 9 13).2.2.1 ∈ zTb := (zTb_3 13 rfl rfl)
end
section
theorem zag_r {G : zH} {t q r a i : Nat} {fr : Nat → Nat} {iv : Nat → Int} (hr : r < 100 * t ∨ 100 * t + zN t ≤ r) : (zag G t q fr iv).1 r a i = G.1 r a i := by
  show (if _ then _ else _) = _
  rw [if_neg (fun h => by omega)]
theorem MI_mk {Γ : zΓ} {w : Nat} {G : zH} (h1 : ∀ k, G.1 2071 (Γ.2.1 w 34) k = 0) (h2 : ∀ i, G.1 2074 (Γ.2.1 w 37) i = 0) : MI Γ w G :=
  ⟨fun k _ h => by rw [h1] at h; exact absurd h (by decide), fun i _ => by rw [h2]; exact ⟨fun q => absurd q (by decide), fun q => absurd q (by decide), fun q => absurd q (by decide)⟩⟩
theorem zno_f {Γ : zΓ} {w : Nat} {G : zH} (hL : zLok Γ) (hw : Γ.1 w = 10) (k t' : Nat) (hf : zfk 10 k = (2, t')) (h0 : t' ≠ 0) (r i : Nat) : (zno Γ G).1 r (Γ.2.1 w k) i = G.1 r (Γ.2.1 w k) i :=
  zno_1 (by rw [hL.2.2 10 k w hw (by rw [hf]), hf]; exact h0) r i
theorem MI_no {Γ : zΓ} {w : Nat} {G : zH} (hL : zLok Γ) (hw : Γ.1 w = 10) (h : MI Γ w G) : MI Γ w (zno Γ G) := by
  refine ⟨fun k hk => ?_, fun i hi => ?_⟩
  · rw [zno_f hL hw 34 71 f_10_34 (by decide), zno_f hL hw 36 73 f_10_36 (by decide)]
    exact h.1 k hk
  · rw [zno_f hL hw 37 74 f_10_37 (by decide), zno_f hL hw 38 75 f_10_38 (by decide), zno_f hL hw 39 76 f_10_39 (by decide)]
    exact h.2 i hi
theorem RC_no {Γ : zΓ} {w : Nat} {G : zH} (hL : zLok Γ) (hw : Γ.1 w = 10) (h : RC Γ w G) : RC Γ w (zno Γ G) := by
  have hw0 : Γ.1 w ≠ 0 := by rw [hw]; decide
  refine ⟨?_, fun j h1 h2 => ?_⟩
  · rw [zno_1 hw0, zno_1 hw0]
    exact h.1
  · rw [zno_f hL hw 34 71 f_10_34 (by decide), zno_f hL hw 36 73 f_10_36 (by decide)]
    exact h.2 j h1 h2
theorem ol_X9 : Cond.methodLink RX9 1 Lib.objectInit ∈ zTb := (zTb_6 36 rfl rfl)
theorem fl_X9_7 : Cond.fieldLink RX9 7 (zCn 10) (zT 10 0).2.1 (zT 10 0).2.2.1 ∈ zTb := (zTb_6 52 rfl rfl)
theorem fl_X9_13 : Cond.fieldLink RX9 13 (zCn 10) (zT 10 3).2.1 (zT 10 3).2.2.1 ∈ zTb := (zTb_6 55 rfl rfl)
theorem fl_X9_16 : Cond.fieldLink RX9 16 (zCn 10) (zT 10 5).2.1 (zT 10 5).2.2.1 ∈ zTb := (zTb_6 57 rfl rfl)
theorem fl_X9_20 : Cond.fieldLink RX9 20 (zCn 10) (zT 10 22).2.1 (zT 10 22).2.2.1 ∈ zTb := (zTb_6 74 rfl rfl)
theorem ac_boolean : Cond.arrayClass .boolean ∈ zTb := (zTb_7 86 rfl rfl)
theorem fl_X9_23 : Cond.fieldLink RX9 23 (zCn 10) (zT 10 23).2.1 (zT 10 23).2.2.1 ∈ zTb := (zTb_6 75 rfl rfl)
theorem fl_X9_27 : Cond.fieldLink RX9 27 (zCn 10) (zT 10 24).2.1 (zT 10 24).2.2.1 ∈ zTb := (zTb_6 76 rfl rfl)
theorem fl_X9_30 : Cond.fieldLink RX9 30 (zCn 10) (zT 10 25).2.1 (zT 10 25).2.2.1 ∈ zTb := (zTb_6 77 rfl rfl)
theorem fl_X9_33 : Cond.fieldLink RX9 33 (zCn 10) (zT 10 26).2.1 (zT 10 26).2.2.1 ∈ zTb := (zTb_6 78 rfl rfl)
theorem fl_X9_36 : Cond.fieldLink RX9 36 (zCn 10) (zT 10 27).2.1 (zT 10 27).2.2.1 ∈ zTb := (zTb_6 79 rfl rfl)
theorem fl_X9_39 : Cond.fieldLink RX9 39 (zCn 10) (zT 10 28).2.1 (zT 10 28).2.2.1 ∈ zTb := (zTb_6 80 rfl rfl)
theorem fl_X9_42 : Cond.fieldLink RX9 42 (zCn 10) (zT 10 29).2.1 (zT 10 29).2.2.1 ∈ zTb := (zTb_6 81 rfl rfl)
theorem fl_X9_45 : Cond.fieldLink RX9 45 (zCn 10) (zT 10 30).2.1 (zT 10 30).2.2.1 ∈ zTb := (zTb_6 82 rfl rfl)
theorem fl_X9_48 : Cond.fieldLink RX9 48 (zCn 10) (zT 10 31).2.1 (zT 10 31).2.2.1 ∈ zTb := (zTb_6 83 rfl rfl)
theorem fl_X9_51 : Cond.fieldLink RX9 51 (zCn 10) (zT 10 32).2.1 (zT 10 32).2.2.1 ∈ zTb := (zTb_6 84 rfl rfl)
theorem fl_X9_54 : Cond.fieldLink RX9 54 (zCn 10) (zT 10 33).2.1 (zT 10 33).2.2.1 ∈ zTb := (zTb_6 85 rfl rfl)
theorem fl_X9_57 : Cond.fieldLink RX9 57 (zCn 10) (zT 10 34).2.1 (zT 10 34).2.2.1 ∈ zTb := (zTb_6 86 rfl rfl)
theorem fl_X9_60 : Cond.fieldLink RX9 60 (zCn 10) (zT 10 35).2.1 (zT 10 35).2.2.1 ∈ zTb := (zTb_6 87 rfl rfl)
theorem fl_X9_63 : Cond.fieldLink RX9 63 (zCn 10) (zT 10 36).2.1 (zT 10 36).2.2.1 ∈ zTb := (zTb_6 88 rfl rfl)
theorem fl_X9_66 : Cond.fieldLink RX9 66 (zCn 10) (zT 10 37).2.1 (zT 10 37).2.2.1 ∈ zTb := (zTb_6 89 rfl rfl)
theorem fl_X9_69 : Cond.fieldLink RX9 69 (zCn 10) (zT 10 38).2.1 (zT 10 38).2.2.1 ∈ zTb := (zTb_6 90 rfl rfl)
theorem fl_X9_72 : Cond.fieldLink RX9 72 (zCn 10) (zT 10 39).2.1 (zT 10 39).2.2.1 ∈ zTb := (zTb_6 91 rfl rfl)
theorem fl_X9_75 : Cond.fieldLink RX9 75 (zCn 10) (zT 10 40).2.1 (zT 10 40).2.2.1 ∈ zTb := (zTb_6 92 rfl rfl)
theorem fl_X9_78 : Cond.fieldLink RX9 78 (zCn 10) (zT 10 41).2.1 (zT 10 41).2.2.1 ∈ zTb := (zTb_6 93 rfl rfl)
theorem fl_X9_81 : Cond.fieldLink RX9 81 (zCn 10) (zT 10 48).2.1 (zT 10 48).2.2.1 ∈ zTb := (zTb_6 100 rfl rfl)
theorem fl_X9_85 : Cond.fieldLink RX9 85 (zCn 10) (zT 10 49).2.1 (zT 10 49).2.2.1 ∈ zTb := (zTb_6 101 rfl rfl)
theorem fl_X9_88 : Cond.fieldLink RX9 88 (zCn 10) (zT 10 51).2.1 (zT 10 51).2.2.1 ∈ zTb := (zTb_6 103 rfl rfl)
theorem fl_X9_91 : Cond.fieldLink RX9 91 (zCn 10) (zT 10 52).2.1 (zT 10 52).2.2.1 ∈ zTb := (zTb_6 104 rfl rfl)
theorem fl_X9_94 : Cond.fieldLink RX9 94 (zCn 10) (zT 10 53).2.1 (zT 10 53).2.2.1 ∈ zTb := (zTb_6 105 rfl rfl)
theorem fl_X9_97 : Cond.fieldLink RX9 97 (zCn 10) (zT 10 54).2.1 (zT 10 54).2.2.1 ∈ zTb := (zTb_6 106 rfl rfl)
theorem fl_X9_100 : Cond.fieldLink RX9 100 (zCn 10) (zT 10 55).2.1 (zT 10 55).2.2.1 ∈ zTb := (zTb_6 107 rfl rfl)
theorem fl_X9_103 : Cond.fieldLink RX9 103 (zCn 10) (zT 10 56).2.1 (zT 10 56).2.2.1 ∈ zTb := (zTb_6 108 rfl rfl)
theorem fl_X9_106 : Cond.fieldLink RX9 106 (zCn 10) (zT 10 57).2.1 (zT 10 57).2.2.1 ∈ zTb := (zTb_6 109 rfl rfl)
theorem fl_X9_109 : Cond.fieldLink RX9 109 (zCn 10) (zT 10 58).2.1 (zT 10 58).2.2.1 ∈ zTb := (zTb_6 110 rfl rfl)
theorem fl_X9_112 : Cond.fieldLink RX9 112 (zCn 10) (zT 10 59).2.1 (zT 10 59).2.2.1 ∈ zTb := (zTb_6 111 rfl rfl)
theorem fl_X9_115 : Cond.fieldLink RX9 115 (zCn 10) (zT 10 60).2.1 (zT 10 60).2.2.1 ∈ zTb := (zTb_6 112 rfl rfl)
theorem fl_X9_118 : Cond.fieldLink RX9 118 (zCn 10) (zT 10 62).2.1 (zT 10 62).2.2.1 ∈ zTb := (zTb_6 114 rfl rfl)
theorem fl_X9_121 : Cond.fieldLink RX9 121 (zCn 10) (zT 10 63).2.1 (zT 10 63).2.2.1 ∈ zTb := (zTb_6 115 rfl rfl)
theorem fl_X9_124 : Cond.fieldLink RX9 124 (zCn 10) (zT 10 64).2.1 (zT 10 64).2.2.1 ∈ zTb := (zTb_6 116 rfl rfl)
theorem fl_X9_127 : Cond.fieldLink RX9 127 (zCn 10) (zT 10 65).2.1 (zT 10 65).2.2.1 ∈ zTb := (zTb_6 117 rfl rfl)
theorem fl_X9_130 : Cond.fieldLink RX9 130 (zCn 10) (zT 10 66).2.1 (zT 10 66).2.2.1 ∈ zTb := (zTb_6 118 rfl rfl)
theorem fl_X9_133 : Cond.fieldLink RX9 133 (zCn 10) (zT 10 67).2.1 (zT 10 67).2.2.1 ∈ zTb := (zTb_6 119 rfl rfl)
theorem fl_X9_136 : Cond.fieldLink RX9 136 (zCn 10) (zT 10 68).2.1 (zT 10 68).2.2.1 ∈ zTb := (zTb_6 120 rfl rfl)
theorem fl_X9_139 : Cond.fieldLink RX9 139 (zCn 10) (zT 10 69).2.1 (zT 10 69).2.2.1 ∈ zTb := (zTb_6 121 rfl rfl)
theorem fl_X9_142 : Cond.fieldLink RX9 142 (zCn 10) (zT 10 70).2.1 (zT 10 70).2.2.1 ∈ zTb := (zTb_6 122 rfl rfl)
theorem fl_X9_145 : Cond.fieldLink RX9 145 (zCn 10) (zT 10 71).2.1 (zT 10 71).2.2.1 ∈ zTb := (zTb_6 123 rfl rfl)
theorem fl_X9_148 : Cond.fieldLink RX9 148 (zCn 10) (zT 10 74).2.1 (zT 10 74).2.2.1 ∈ zTb := (zTb_6 126 rfl rfl)
theorem fl_X9_151 : Cond.fieldLink RX9 151 (zCn 10) (zT 10 76).2.1 (zT 10 76).2.2.1 ∈ zTb := (zTb_6 128 rfl rfl)
theorem fl_X9_154 : Cond.fieldLink RX9 154 (zCn 10) (zT 10 77).2.1 (zT 10 77).2.2.1 ∈ zTb := (zTb_6 129 rfl rfl)
theorem fl_X9_157 : Cond.fieldLink RX9 157 (zCn 10) (zT 10 80).2.1 (zT 10 80).2.2.1 ∈ zTb := (zTb_6 132 rfl rfl)
theorem fl_X9_160 : Cond.fieldLink RX9 160 (zCn 10) (zT 10 81).2.1 (zT 10 81).2.2.1 ∈ zTb := (zTb_6 133 rfl rfl)
theorem fl_X9_163 : Cond.fieldLink RX9 163 (zCn 10) (zT 10 85).2.1 (zT 10 85).2.2.1 ∈ zTb := (zTb_6 137 rfl rfl)
theorem fl_X9_166 : Cond.fieldLink RX9 166 (zCn 10) (zT 10 89).2.1 (zT 10 89).2.2.1 ∈ zTb := (zTb_6 141 rfl rfl)
theorem fl_X9_169 : Cond.fieldLink RX9 169 (zCn 10) (zT 10 90).2.1 (zT 10 90).2.2.1 ∈ zTb := (zTb_6 142 rfl rfl)
end
section
section VXA


def vx_T (XC : String → State → State → Prop) (st : State) (q : Addr) (t : State) (mc ms : Nat) (free : Addr → Prop) : Prop :=
  ∃ (E : String) (ce : Cell) (L : List Loc), XC E st t ∧ t.heap[q]? = some ce ∧ ce.vm = .none ∧ st.vm.findClass E = some ce.cls ∧ st.WarmedH t.vm ∧ st.sameButNew ({ t with vm := st.vm } : State) L mc ms ∧ ∀ z ∈ L, free z.base
def vx_Q (Qc : Array Value → State → Outcome → State → Prop) (XC : String → State → State → Prop) (mc ms : Nat) (free : Addr → Prop) : Array Value → State → Outcome → State → Prop := fun a st o t =>
  (Qc a st o t ∧ ∃ L, FrameEnd st o t L mc ms ∧ ∀ q ∈ L, free q.base) ∨ ∃ q, o = .threw q ∧ vx_T XC st q t mc ms free

def vx_Met (l : Launch) (y : MethodName) (ws : List Cond) (rm : Room) (Pc : Array Value → State → Prop) (Qc : Array Value → State → Outcome → State → Prop) (XC : String → State → State → Prop) (mc ms : Nat) (free : Addr → Prop) : Prop :=
  MetFree l y (headSpec ws rm) Pc (fun _ _ _ _ _ => True) (vx_Q Qc XC mc ms free)
def vx_Post (XC : String → State → State → Prop) (mc ms : Nat) (free : Addr → Prop) : Pt → Array Value → Addr → Pt → Prop := fun A a q B =>
  ∃ (g : JFrame) (mk : MethodId) (t : State) (L : List Loc) (E : String) (ce : Cell), B.U.heap = t.heap ∧ B.U.vm = t.vm ∧ XC E (A.U.calling g mk a) t ∧ t.heap[q]? = some ce ∧ ce.vm = .none ∧ A.U.vm.findClass E = some ce.cls ∧ B.locs = A.locs ++ L ∧ (∀ z ∈ L, free z.base) ∧ B.cells = A.cells + mc ∧ B.slots = A.slots + ms
def vx_Back (l : Launch) (R : Room) (p : Program) (e : Env) (below : List Frame) (s : State) (sargs : Array Value) (y : MethodName) (len W9 : Nat)
    (Pre : Pt → Array Value → Prop) (Post : Pt → Array Value → Option Value → Pt → Prop) (PostX : Pt → Array Value → Addr → Pt → Prop) : Prop :=
  ∀ (m : MethodId) (meth : Method) (c : Code) (A : Pt) (g : JFrame) (ig : Instr) (mk : MethodId) (a : Array Value),
    Stand p l e R s m sargs below meth c A.U A.locs A.cells A.slots → g.method = m → g.locals.size = c.maxLocals → decode c.code g.pc = .ok (ig, len) →
    2 * g.monitorRoom + (g.stack.map fun v => v.category).sum ≤ W9 → A.U.methodNamed? y = some mk → Pre A a →
    (∃ (v : Option Value) (B : Pt), Stand p l e R s m sargs below meth c B.U B.locs B.cells B.slots ∧ Post A a v B ∧
      Steps p.tables e below (doInvoke e (A.U.setTop g) [] mk a).1 (B.U.setTop { g with pc := g.pc + len, stack := v.toList ++ g.stack })) ∨
    (∃ (q : Addr) (B : Pt), Stand p l e R s m sargs below meth c B.U B.locs B.cells B.slots ∧ PostX A a q B ∧
      Steps p.tables e below (doInvoke e (A.U.setTop g) [] mk a).1 ((B.U.setTop g).pushFrame (.throwing q)))
section Payer
variable {l : Launch} {R : Room} {p : Program} {e : Env} {below : List Frame} {s : State} {sargs : Array Value} {y : MethodName} {len W9 : Nat}
theorem vx_back {ws : List Cond} {rm : Room} {Pc : Array Value → State → Prop} {Qc : Array Value → State → Outcome → State → Prop} {XC : String → State → State → Prop} {mc ms : Nat} {free : Addr → Prop} {bytes : ByteArray} {maxL : Nat} {ret : Option FieldType}
    (hM : vx_Met l y ws rm Pc Qc XC mc ms free) (hblind : FrameBlind Pc) (hrc : rm.cells = mc) (hrs : rm.slots = ms)
    (hframes : rm.frames + 1 ≤ R.frames) (hlocals : W9 + (maxL + 11) + rm.locals ≤ R.locals)
    (hws : ∀ w ∈ ws, ∀ a' U, s.WarmedH U.vm → w.before a' U = true) (hcode : Cond.code y bytes maxL ret ∈ ws) (hinit : ∀ a' U, s.WarmedH U.vm → (Cond.initialized y.cls).before a' U = true) :
    vx_Back l R p e below s sargs y len W9 (PreOf R mc ms Pc) (PostOf Qc mc ms free) (vx_Post XC mc ms free) := by
  intro m meth c A g ig mk a X hg hsize hdg hW hn hp
  have h1 : (headSpec ws rm).pre.before a A.U = true := atoms_intro fun w hw => hws w hw _ _ X.warmed
  have h2 : (Cond.code y bytes maxL ret).before a A.U = true := hws _ hcode _ _ X.warmed
  have h3 : (Cond.initialized y.cls).before a A.U = true := hinit _ _ X.warmed
  have h4 : A.cells + (headSpec ws rm).room.cells ≤ R.cells := by rw [show (headSpec ws rm).room.cells = mc from hrc]; exact hp.1
  have h5 : A.slots + (headSpec ws rm).room.slots ≤ R.slots := by rw [show (headSpec ws rm).room.slots = ms from hrs]; exact hp.2.1
  have hPc : Pc a (A.U.calling g mk a) := hblind _ _ _ _ hp.2.2
  obtain ⟨U, Ls, c0, s0⟩ := A
  dsimp only [Pt.U, Pt.locs, Pt.cells, Pt.slots] at h1 h2 h3 h4 h5 X hn hPc ⊢
  obtain ⟨methY, cY, hmY, hcY, -, hlY, -, -, -, -⟩ := Cond.code_spec hn h2
  obtain ⟨kY, hkY, -⟩ := className_of_methodNamed hn
  have hinitY : kY.init = .initialized := Cond.initialized_spec (findClass_of_methodNamed hn) hkY h3
  have h : At U g.method c below := by rw [hg]; exact X.here
  have hlocals9 : W9 + (maxL + 11) + (headSpec ws rm).room.locals ≤ R.locals := hlocals
  have happ : (headSpec ws rm).appliesLoose y e.platform (U.calling g mk a) = true :=
    Spec.appliesLoose_calling (g := g) h hdg hn hkY hinitY
      (X.room_calling (g := g) (R' := (headSpec ws rm).room) hsize hmY hcY hframes (by rw [hlY]; omega) h4 h5) h1
  obtain ⟨mid, hmid⟩ := h.above
  have hfr : (U.setTop g).frames = (.java g :: mid) ++ below := by rw [State.frames_setTop' g h.top, hmid]; rfl
  obtain ⟨o, s₂, hsteps, -, hend, hq⟩ := Steps.callFree hM p X.admits X.cas X.clock (acts := []) hfr happ hPc trivial
  have hq' : vx_Q Qc XC mc ms free a (U.calling g mk a) o s₂ := hq
  rw [State.frames_setTop' g h.top] at hend
  obtain ⟨g₀, hg0⟩ := Option.isSome_iff_exists.mp h.top
  obtain ⟨r, hr⟩ := State.topJava?_eq_some.mp hg0
  have hr' : (({ U with heap := s₂.heap, slotsUsed := s₂.slotsUsed } : State).setVm s₂.vm).frames = .java g₀ :: r := hr
  rcases hq' with ⟨hqc, L, hfe, hL⟩ | ⟨q, rfl, E, ce, L, hx, hce, hcv, hcl, hW₂, hsm, hL⟩
  · obtain ⟨⟨v, rfl⟩, hW₂, e2, q2, q3, q4, q5, q6⟩ := id hfe
    have e3 : s₂ = ({ (U.calling g mk a).setFrames s₂.frames with heap := s₂.heap, slotsUsed := s₂.slotsUsed } : State).setVm s₂.vm := by
      have : s₂ = ({ s₂ with vm := (U.calling g mk a).vm } : State).setVm s₂.vm := rfl
      rw [e2] at this
      exact this
    obtain ⟨c₂, i₂, len₂, hc₂, hd₂, hf₂⟩ := hend
    have hW' : U.WarmedH s₂.vm := hW₂
    have hcc : c₂ = c := by
      have h1 : s₂.code? g.method = U.code? g.method := by
        rw [State.code?_eq, State.code?_eq, hW'.alike.method?]
      exact Option.some.inj (hc₂.symm.trans (h1.trans h.code))
    subst hcc
    have hlen : len₂ = len := by rw [hdg] at hd₂; cases hd₂; rfl
    subst hlen
    have hs₂ : s₂ = (({ U with heap := s₂.heap, slotsUsed := s₂.slotsUsed } : State).setVm s₂.vm).setTop { g with pc := g.pc + len₂, stack := v.toList ++ g.stack } := by
      refine e3.trans ?_
      rw [hf₂, State.calling_eq h.top, State.setFrames_setFrames, State.setTop_of_frames _ hr', hr]
      rfl
    have hsame : U.sameButNew ({ U with heap := s₂.heap, slotsUsed := s₂.slotsUsed } : State) L mc ms := by
      refine ⟨?_, q2, q3, q4, q5, q6⟩
      obtain ⟨t, ht, -⟩ := State.frames_cons hr
      show ({ U with heap := s₂.heap, slotsUsed := s₂.slotsUsed } : State) = { U.setFrames U.frames with heap := s₂.heap, slotsUsed := s₂.slotsUsed }
      rw [State.setFrames_self ht]
    subst hg
    refine Or.inl ⟨v, ⟨(({ U with heap := s₂.heap, slotsUsed := s₂.slotsUsed } : State).setVm s₂.vm), Ls ++ L, c0 + mc, s0 + ms⟩,
      ⟨X.admits, X.cas, X.clock, X.frames, X.room, X.hears, X.method, X.code, (X.here.setHeapUsed s₂.heap s₂.slotsUsed).setVm hW'.alike, X.tail, State.WarmedH.trans X.warmed hW', X.limits, X.bytes, X.same.trans (hsame.setVm s.vm)⟩,
      ⟨g, mk, s₂, L, rfl, rfl, hqc, rfl, hL, rfl, rfl⟩, ?_⟩
    show Steps p.tables e below _ ((({ U with heap := s₂.heap, slotsUsed := s₂.slotsUsed } : State).setVm s₂.vm).setTop { g with pc := g.pc + len₂, stack := v.toList ++ g.stack })
    rw [← hs₂]
    exact hsteps
  · obtain ⟨e2, q2, q3, q4, q5, q6⟩ := id hsm
    have e3 : s₂ = ({ (U.calling g mk a).setFrames s₂.frames with heap := s₂.heap, slotsUsed := s₂.slotsUsed } : State).setVm s₂.vm := by
      have : s₂ = ({ s₂ with vm := (U.calling g mk a).vm } : State).setVm s₂.vm := rfl
      rw [e2] at this
      exact this
    have hf₂ : s₂.frames = .throwing q :: .java g :: U.frames.tail := hend
    have hW' : U.WarmedH s₂.vm := hW₂
    have hs₂ : s₂ = ((({ U with heap := s₂.heap, slotsUsed := s₂.slotsUsed } : State).setVm s₂.vm).setTop g).pushFrame (.throwing q) := by
      refine e3.trans ?_
      rw [hf₂, State.calling_eq h.top, State.setFrames_setFrames, State.pushFrame, State.frames_setTop _ hr', State.setTop_of_frames _ hr', State.setFrames_setFrames, hr]
      rfl
    have hsame : U.sameButNew ({ U with heap := s₂.heap, slotsUsed := s₂.slotsUsed } : State) L mc ms := by
      refine ⟨?_, q2, q3, q4, q5, q6⟩
      obtain ⟨t, ht, -⟩ := State.frames_cons hr
      show ({ U with heap := s₂.heap, slotsUsed := s₂.slotsUsed } : State) = { U.setFrames U.frames with heap := s₂.heap, slotsUsed := s₂.slotsUsed }
      rw [State.setFrames_self ht]
    subst hg
    refine Or.inr ⟨q, ⟨(({ U with heap := s₂.heap, slotsUsed := s₂.slotsUsed } : State).setVm s₂.vm), Ls ++ L, c0 + mc, s0 + ms⟩,
      ⟨X.admits, X.cas, X.clock, X.frames, X.room, X.hears, X.method, X.code, (X.here.setHeapUsed s₂.heap s₂.slotsUsed).setVm hW'.alike, X.tail, State.WarmedH.trans X.warmed hW', X.limits, X.bytes, X.same.trans (hsame.setVm s.vm)⟩,
      ⟨g, mk, s₂, L, E, ce, rfl, rfl, hx, hce, hcv, hcl, rfl, hL, rfl, rfl⟩, ?_⟩
    show Steps p.tables e below _ (((({ U with heap := s₂.heap, slotsUsed := s₂.slotsUsed } : State).setVm s₂.vm).setTop g).pushFrame (.throwing q))
    rw [← hs₂]
    exact hsteps
end Payer
section Calls
variable {p : Program} {l : Launch} {e : Env} {R : Room} {s : State} {m : MethodId} {args : Array Value} {below : List Frame} {meth : Method} {c : Code} {T : State} {locs : List Loc} {cells slots : Nat}
theorem vx_callV (X : Stand p l e R s m args below meth c T locs cells slots) (hexec : p.tables.exec = Jvm.exec) {own C : String} {index : Nat} {y : MethodName} {bytes : ByteArray} {maxL : Nat} {ret : Option FieldType}
    (hown : s.vm.findClass own = some m.cls) (hlink : (Cond.methodLink own index y).before args s = true) (hinst : (Cond.instanceMethod y).before args s = true) (hsel : (Cond.selects C y y).before args s = true)
    (hcode : (Cond.code y bytes maxL ret).before args s = true) (hy : y.cls ≠ "java/lang/invoke/MethodHandle" ∧ y.cls ≠ "java/lang/invoke/VarHandle")
    {W9 : Nat} {Pre : Pt → Array Value → Prop} {Post : Pt → Array Value → Option Value → Pt → Prop} {PostX : Pt → Array Value → Addr → Pt → Prop} (hK : vx_Back l R p e below s args y 3 W9 Pre Post PostX)
    {b : Addr} {cellB : Cell} (hcell : T.heap[b]? = some cellB) (hobj : cellB.vm.isStatics = false) (hcls : s.vm.findClass C = some cellB.cls)
    {g : JFrame} (hg : g.method = m) (hsize : g.locals.size = c.maxLocals) {argsL rest : List Value} (hlen : ∀ sig, parseMethodDescriptor y.desc = some sig → argsL.length = sig.parameters.length)
    (hstack : g.stack = argsL.reverse ++ .ref b :: rest) (hW : 2 * g.monitorRoom + (rest.map fun v => v.category).sum ≤ W9) (hdg : decode c.code g.pc = .ok (.invokevirtual index, 3))
    (hpre : ∀ vm₁, s.WarmedH vm₁ → Pre ⟨T.setVm vm₁, locs, cells, slots⟩ (Value.ref b :: argsL).toArray) :
    (∃ (v : Option Value) (vm₁ : Vm) (B : Pt), s.WarmedH vm₁ ∧ Stand p l e R s m args below meth c B.U B.locs B.cells B.slots ∧ Post ⟨T.setVm vm₁, locs, cells, slots⟩ (Value.ref b :: argsL).toArray v B ∧
      ∀ target, Steps p.tables e below (B.U.setTop { g with pc := g.pc + 3, stack := v.toList ++ rest }) target → Steps p.tables e below (T.setTop g) target) ∨
    (∃ (q : Addr) (vm₁ : Vm) (B : Pt), s.WarmedH vm₁ ∧ Stand p l e R s m args below meth c B.U B.locs B.cells B.slots ∧ PostX ⟨T.setVm vm₁, locs, cells, slots⟩ (Value.ref b :: argsL).toArray q B ∧
      Steps p.tables e below (T.setTop g) ((B.U.setTop { g with stack := rest }).pushFrame (.throwing q))) := by
  obtain ⟨mk, methM, hnamed, hmethM, hstM, habM⟩ := Cond.instanceMethod_spec hinst
  obtain ⟨methM', cM, hmethM', -, -, -, -, -, -, hsigM⟩ := Cond.code_spec hnamed hcode
  cases hmethM.symm.trans hmethM'
  obtain ⟨c2, r2, m2, q1, q2, q3, q4, kP, hkP, hkPi⟩ := Cond.selects_spec hsel
  cases hcls.symm.trans q1
  cases (State.methodFound?_of_named hnamed hy).symm.trans q2
  cases hnamed.symm.trans q3
  have hselP : selectMethod e.platform s.vm cellB.cls mk = .method mk := by rw [Launch.admits_selectMethod X.admits]; exact q4
  obtain ⟨vm₁, X₁, hstep₁⟩ := X.invokevirtual hexec hown hlink hnamed hmethM hstM hkP hkPi hy (a := b) (cell := cellB) hcell
    (fun z h => by rw [h] at hobj; cases hobj) hselP hmethM habM hkP hkPi (g := g) hg (argsL := argsL) (rest := rest) (hlen _ hsigM) hstack hdg
  rcases hK m meth c ⟨T.setVm vm₁, locs, cells, slots⟩ { g with stack := rest } (.invokevirtual index) mk (Value.ref b :: argsL).toArray X₁ hg hsize hdg hW (X₁.named hnamed) (hpre vm₁ X₁.warmed) with ⟨v, B, X', hpost, hsteps⟩ | ⟨q, B, X', hpost, hsteps⟩
  · exact Or.inl ⟨v, vm₁, B, X₁.warmed, X', hpost, fun target h => hstep₁ _ fun acts => by rw [doInvoke_state]; exact hsteps.trans h⟩
  · exact Or.inr ⟨q, vm₁, B, X₁.warmed, X', hpost, hstep₁ _ fun acts => by rw [doInvoke_state]; exact hsteps⟩
theorem vx_callS (X : Stand p l e R s m args below meth c T locs cells slots) (hexec : p.tables.exec = Jvm.exec) {own : String} {index : Nat} {y : MethodName} {bytes : ByteArray} {maxL : Nat} {ret : Option FieldType}
    (hown : s.vm.findClass own = some m.cls) (hlink : (Cond.methodLink own index y).before args s = true) (hstat : (Cond.static y).before args s = true) (hinit : (Cond.initialized y.cls).before args s = true)
    (hcode : (Cond.code y bytes maxL ret).before args s = true) (hy : y.cls ≠ "java/lang/invoke/MethodHandle" ∧ y.cls ≠ "java/lang/invoke/VarHandle")
    {W9 : Nat} {Pre : Pt → Array Value → Prop} {Post : Pt → Array Value → Option Value → Pt → Prop} {PostX : Pt → Array Value → Addr → Pt → Prop} (hK : vx_Back l R p e below s args y 3 W9 Pre Post PostX)
    {g : JFrame} (hg : g.method = m) (hsize : g.locals.size = c.maxLocals) {argsL rest : List Value} (hlen : ∀ sig, parseMethodDescriptor y.desc = some sig → argsL.length = sig.parameters.length)
    (hstack : g.stack = argsL.reverse ++ rest) (hW : 2 * g.monitorRoom + (rest.map fun v => v.category).sum ≤ W9) (hdg : decode c.code g.pc = .ok (.invokestatic index, 3))
    (hpre : ∀ vm₁, s.WarmedH vm₁ → Pre ⟨T.setVm vm₁, locs, cells, slots⟩ argsL.toArray) :
    (∃ (v : Option Value) (vm₁ : Vm) (B : Pt), s.WarmedH vm₁ ∧ Stand p l e R s m args below meth c B.U B.locs B.cells B.slots ∧ Post ⟨T.setVm vm₁, locs, cells, slots⟩ argsL.toArray v B ∧
      ∀ target, Steps p.tables e below (B.U.setTop { g with pc := g.pc + 3, stack := v.toList ++ rest }) target → Steps p.tables e below (T.setTop g) target) ∨
    (∃ (q : Addr) (vm₁ : Vm) (B : Pt), s.WarmedH vm₁ ∧ Stand p l e R s m args below meth c B.U B.locs B.cells B.slots ∧ PostX ⟨T.setVm vm₁, locs, cells, slots⟩ argsL.toArray q B ∧
      Steps p.tables e below (T.setTop g) ((B.U.setTop { g with stack := rest }).pushFrame (.throwing q))) := by
  obtain ⟨mk, hnamed⟩ := Cond.code_named hcode
  obtain ⟨methM, cM, hmethM, -, -, -, -, -, -, hsigM⟩ := Cond.code_spec hnamed hcode
  have hstatic : methM.isStatic = true := Cond.static_spec hnamed hmethM hstat
  obtain ⟨kP, hkP, -⟩ := className_of_methodNamed hnamed
  have hinitP : kP.init = .initialized := Cond.initialized_spec (findClass_of_methodNamed hnamed) hkP hinit
  obtain ⟨vm₁, X₁, hstep₁⟩ := X.invokestatic hexec hown hlink hnamed hmethM hstatic hkP hinitP hy (g := g) hg (argsL := argsL) (rest := rest) (hlen _ hsigM) hstack hdg
  rcases hK m meth c ⟨T.setVm vm₁, locs, cells, slots⟩ { g with stack := rest } (.invokestatic index) mk argsL.toArray X₁ hg hsize hdg hW (X₁.named hnamed) (hpre vm₁ X₁.warmed) with ⟨v, B, X', hpost, hsteps⟩ | ⟨q, B, X', hpost, hsteps⟩
  · exact Or.inl ⟨v, vm₁, B, X₁.warmed, X', hpost, fun target h => hstep₁ _ fun acts => by rw [doInvoke_state]; exact hsteps.trans h⟩
  · exact Or.inr ⟨q, vm₁, B, X₁.warmed, X', hpost, hstep₁ _ fun acts => by rw [doInvoke_state]; exact hsteps⟩
end Calls
theorem vx_cls {s : State} {T : State} {vm₁ : Vm} {E : String} {k : ClassId} (hW : s.WarmedH vm₁) (h : (T.setVm vm₁).vm.findClass E = some k) : s.vm.findClass E = some k := by
  have h1 : vm₁.findClass E = some k := h
  rw [hW.alike.findClass] at h1
  exact h1

def vx_W (p : Program) (l : Launch) (e : Env) (R : Room) (s : State) (m : MethodId) (args : Array Value) (below : List Frame) (meth : Method) (c : Code) (H : Heap) (locs : List Loc) (cells slots : Nat) (Q : State → Prop) (g : JFrame) (q : Addr) : Prop :=
  ∀ T : State, T.heap = H → Stand p l e R s m args below meth c T locs cells slots → ∃ t, Steps p.tables e below ((T.setTop g).pushFrame (.throwing q)) t ∧ Q t
def vx_Run (p : Program) (l : Launch) (e : Env) (R : Room) (s : State) (m : MethodId) (args : Array Value) (below : List Frame) (meth : Method) (c : Code) (H : Heap) (locs : List Loc) (cells slots mc ms : Nat) (g : JFrame) (rest : List Value) (Qa : State → Outcome → State → Prop) (XC : String → State → State → Prop) (free : Addr → Prop) : Prop :=
  ∀ T : State, T.heap = H → Stand p l e R s m args below meth c T locs cells slots →
    (∃ (v : Option Value) (st₀ t T' : State) (L : List Loc), st₀.heap = H ∧ Stand p l e R s m args below meth c T' (locs ++ L) (cells + mc) (slots + ms) ∧ (∀ q ∈ L, free q.base) ∧ T'.heap = t.heap ∧ T'.vm = t.vm ∧ Qa st₀ (.returned v) t ∧
      Goes p e below T g T' { g with pc := g.pc + 3, stack := v.toList ++ rest }) ∨
    (∃ (q : Addr) (st₀ t T' : State) (L : List Loc) (E : String) (ce : Cell), st₀.heap = H ∧ Stand p l e R s m args below meth c T' (locs ++ L) (cells + mc) (slots + ms) ∧ (∀ z ∈ L, free z.base) ∧ T'.heap = t.heap ∧ T'.vm = t.vm ∧ XC E st₀ t ∧ t.heap[q]? = some ce ∧ ce.vm = .none ∧ s.vm.findClass E = some ce.cls ∧
      Steps p.tables e below (T.setTop g) ((T'.setTop { g with stack := rest }).pushFrame (.throwing q)))
def vx_X {S : Type} (px : S → Prop) (B : String → S → State → Prop) (A : Nat → Prop) : String → State → State → Prop := fun E st t => ∃ u : S, px u ∧ B E u t ∧ va_F A st t
section Runs
variable {p : Program} {l : Launch} {e : Env} {R : Room} {s : State} {m : MethodId} {args : Array Value} {below : List Frame} {meth : Method} {c : Code} {H : Heap} {locs : List Loc} {cells slots : Nat}
variable {y : MethodName} {bytes cc : ByteArray} {maxL nL mc ms n index : Nat} {ret : Option FieldType} {ws : List Cond} {rm : Room} {Pc : Array Value → State → Prop} {Qc : Array Value → State → Outcome → State → Prop} {XC : String → State → State → Prop} {free : Addr → Prop} {Ts : List Cond} {own C : String} {b : Addr} {As rest : List Value} {g : JFrame}
theorem vx_callBack (cb : CallB R s args own index y bytes maxL ret ws rm mc ms n) (hM : vx_Met l y ws rm Pc Qc XC mc ms free) (hbl : FrameBlind Pc) : vx_Back l R p e below s args y 3 8 (PreOf R mc ms Pc) (PostOf Qc mc ms free) (vx_Post XC mc ms free) := by
  obtain ⟨hrc, hrs, hfr, hlo, hws, hcw, -, hini, -⟩ := cb
  exact vx_back (bytes := bytes) (maxL := maxL) (ret := ret) hM hbl hrc hrs hfr hlo hws hcw (fun a' U hW => word_at hW (Or.inl (by first | rfl | simp [Cond.onTables, Cond.keeps, Cond.steady])) hini)
theorem vx_runV (S : CallFix p m c cc nL s args Ts own) (hM : vx_Met l y ws rm Pc Qc XC mc ms free) (cw : CallW R s args own C index y bytes maxL ret ws rm mc ms n) (hp : PreV s H C b Pc As)
    (hg : g.method = m) (hn : As.length = n) (hsize : g.locals.size = nL) (hstack : g.stack = As.reverse ++ .ref b :: rest) (hW : 2 * g.monitorRoom + (rest.map fun v => v.category).sum ≤ 8) (hdg : decode cc g.pc = .ok (.invokevirtual index, 3)) (hf : cells + mc ≤ R.cells ∧ slots + ms ≤ R.slots) :
    vx_Run p l e R s m args below meth c H locs cells slots mc ms g rest (Qc (Value.ref b :: As).toArray) XC free := by
  have hK : vx_Back l R p e below s args y 3 8 (PreOf R mc ms Pc) (PostOf Qc mc ms free) (vx_Post XC mc ms free) := vx_callBack cw.1 hM hp.1
  obtain ⟨⟨-, -, -, -, -, -, hcode, -, hy, hlen, hl⟩, hin, hse⟩ := cw
  obtain ⟨hx, hb, hml, ho, -⟩ := S
  obtain ⟨-, ⟨cellB, hcB, hoB, hclB⟩, hPc⟩ := hp
  intro T hT X
  rcases vx_callV X hx (C := C) (bytes := bytes) (maxL := maxL) (ret := ret) ho hl hin hse hcode hy hK (by rw [hT]; exact hcB) hoB hclB hg (hsize.trans hml.symm) (argsL := As) (rest := rest) (fun sig h => hn.trans (hlen sig h)) hstack hW (by rw [hb]; exact hdg)
    (fun vm₁ hW₁ => ⟨hf.1, hf.2, hPc (T.setVm vm₁) hT hW₁⟩) with ⟨v, vm₁, ⟨U', l2, c2, s2⟩, hW₁, X', ⟨g', mk, t, L, e1, e2, hq, h1, hL, h2, h3⟩, st⟩ | ⟨q, vm₁, ⟨U', l2, c2, s2⟩, hW₁, X', ⟨g', mk, t, L, E, ce, e1, e2, hq, hce, hcv, hcl, h1, hL, h2, h3⟩, st⟩
  · dsimp only [Pt.U, Pt.locs, Pt.cells, Pt.slots] at X' e1 e2 h1 h2 h3 st
    subst h1; subst h2; subst h3
    exact Or.inl ⟨v, (T.setVm vm₁).calling g' mk (Value.ref b :: As).toArray, t, U', L, hT, X', hL, e1, e2, hq, st⟩
  · dsimp only [Pt.U, Pt.locs, Pt.cells, Pt.slots] at X' e1 e2 h1 h2 h3 st hcl
    subst h1; subst h2; subst h3
    exact Or.inr ⟨q, (T.setVm vm₁).calling g' mk (Value.ref b :: As).toArray, t, U', L, E, ce, hT, X', hL, e1, e2, hq, hce, hcv, vx_cls hW₁ hcl, st⟩
theorem vx_runS (S : CallFix p m c cc nL s args Ts own) (hM : vx_Met l y ws rm Pc Qc XC mc ms free) (cw : CallB R s args own index y bytes maxL ret ws rm mc ms n ∧ (Cond.static y).before args s = true) (hp : PreS s H Pc As)
    (hg : g.method = m) (hn : As.length = n) (hsize : g.locals.size = nL) (hstack : g.stack = As.reverse ++ rest) (hW : 2 * g.monitorRoom + (rest.map fun v => v.category).sum ≤ 8) (hdg : decode cc g.pc = .ok (.invokestatic index, 3)) (hf : cells + mc ≤ R.cells ∧ slots + ms ≤ R.slots) :
    vx_Run p l e R s m args below meth c H locs cells slots mc ms g rest (Qc As.toArray) XC free := by
  have hK : vx_Back l R p e below s args y 3 8 (PreOf R mc ms Pc) (PostOf Qc mc ms free) (vx_Post XC mc ms free) := vx_callBack cw.1 hM hp.1
  obtain ⟨⟨-, -, -, -, -, -, hcode, hini, hy, hlen, hl⟩, hstt⟩ := cw
  obtain ⟨hx, hb, hml, ho, -⟩ := S
  intro T hT X
  rcases vx_callS X hx (bytes := bytes) (maxL := maxL) (ret := ret) ho hl hstt hini hcode hy hK hg (hsize.trans hml.symm) (argsL := As) (rest := rest) (fun sig h => hn.trans (hlen sig h)) hstack hW (by rw [hb]; exact hdg)
    (fun vm₁ hW₁ => ⟨hf.1, hf.2, hp.2 (T.setVm vm₁) hT hW₁⟩) with ⟨v, vm₁, ⟨U', l2, c2, s2⟩, hW₁, X', ⟨g', mk, t, L, e1, e2, hq, h1, hL, h2, h3⟩, st⟩ | ⟨q, vm₁, ⟨U', l2, c2, s2⟩, hW₁, X', ⟨g', mk, t, L, E, ce, e1, e2, hq, hce, hcv, hcl, h1, hL, h2, h3⟩, st⟩
  · dsimp only [Pt.U, Pt.locs, Pt.cells, Pt.slots] at X' e1 e2 h1 h2 h3 st
    subst h1; subst h2; subst h3
    exact Or.inl ⟨v, (T.setVm vm₁).calling g' mk As.toArray, t, U', L, hT, X', hL, e1, e2, hq, st⟩
  · dsimp only [Pt.U, Pt.locs, Pt.cells, Pt.slots] at X' e1 e2 h1 h2 h3 st hcl
    subst h1; subst h2; subst h3
    exact Or.inr ⟨q, (T.setVm vm₁).calling g' mk As.toArray, t, U', L, E, ce, hT, X', hL, e1, e2, hq, hce, hcv, vx_cls hW₁ hcl, st⟩
end Runs
section Rows
variable {p : Program} {l : Launch} {e : Env} {R : Room} {s : State} {m : MethodId} {args : Array Value} {below : List Frame} {meth : Method} {c : Code} {H : Heap} {locs : List Loc} {cells slots : Nat} {Q : State → Prop}
variable {mc ms : Nat} {free : Addr → Prop} {A0 A1 : Nat → Prop} {H0 : Heap} {a : Array Value} {pc : Nat} {ls : Array Slot} {st0 rest : List Value}
theorem vx_keep {st₀ t T' : State} {L : List Loc} (h0 : st₀.heap = H) (e1 : T'.heap = t.heap) (hS : va_S A0 H0 H locs) (hA : ∀ q, q < H.size → A1 q → A0 q) (hf : ∀ q, free q → A0 q) (hL : ∀ q ∈ L, free q.base) (hF : va_F A1 st₀ t) :
    H.size ≤ T'.heap.size ∧ (∀ q : Nat, q < H.size → ¬ A1 q → T'.heap[q]? = H[q]?) ∧ va_S A0 H0 T'.heap (locs ++ L) := by
  obtain ⟨hz, hk⟩ := hF
  rw [h0] at hz hk
  exact ⟨by rw [e1]; exact hz, fun q h1 h2 => by rw [e1]; exact hk q h1 h2,
    ⟨Nat.le_trans hS.1 (by rw [e1]; exact hz), fun q h1 h2 => by rw [e1, hk q (Nat.lt_of_lt_of_le h1 hS.1) (fun z => h2 (hA q (Nat.lt_of_lt_of_le h1 hS.1) z))]; exact hS.2.1 q h1 h2, fun q hq => by
      rcases List.mem_append.mp hq with h | h
      · exact hS.2.2 q h
      · exact hf _ (hL q h)⟩⟩
theorem vx_calli {S SX : Type} {post : Int32 → S → Prop} {px : SX → Prop} {B : S → State → Prop} {BX : String → SX → State → Prop} {AX : Nat → Prop} (hr : vx_Run p l e R s m args below meth c H locs cells slots mc ms (F0 m pc ls st0) rest (va_Qi post B A1 a) (vx_X px BX AX) free) (hS : va_S A0 H0 H locs) (hA : ∀ q, q < H.size → A1 q → A0 q) (hf : ∀ q, free q → A0 q) (hAX : ∀ q, q < H.size → AX q → A0 q)
    (kx : ∀ (E : String) (ce : Cell) (q9 : Addr) (u : SX) (t : State) (H1 : Heap) (locs1 : List Loc), t.heap = H1 → s.vm.Alike t.vm → px u → BX E u t → H.size ≤ H1.size → (∀ q : Nat, q < H.size → ¬ AX q → H1[q]? = H[q]?) → va_S A0 H0 H1 locs1 → H1[q9]? = some ce → ce.vm = .none → s.vm.findClass E = some ce.cls → vx_W p l e R s m args below meth c H1 locs1 (cells + mc) (slots + ms) Q (F0 m pc ls rest) q9)
    (kk : ∀ (r : Int32) (u : S) (t : State) (H1 : Heap) (locs1 : List Loc), t.heap = H1 → s.vm.Alike t.vm → post r u → B u t → H.size ≤ H1.size → (∀ q : Nat, q < H.size → ¬ A1 q → H1[q]? = H[q]?) → va_S A0 H0 H1 locs1 → W p l e R s m args below meth c H1 locs1 (cells + mc) (slots + ms) Q (F0 m (pc + 3) ls (.int r :: rest))) : W p l e R s m args below meth c H locs cells slots Q (F0 m pc ls st0) := by
  intro T hT X
  rcases hr T hT X with ⟨v, st₀, t, T', L, h0, X', hL, e1, e2, ⟨⟨r, u, hv, hp, hb⟩, hF⟩, st⟩ | ⟨q, st₀, t, T', L, E, ce, h0, X', hL, e1, e2, ⟨u, hp, hb, hF⟩, hce, hcv, hcl, st⟩
  · cases hv
    obtain ⟨k1, k2, k3⟩ := vx_keep h0 e1 hS hA hf hL hF
    obtain ⟨t2, a1, b1⟩ := kk r u t T'.heap (locs ++ L) e1.symm (by rw [← e2]; exact X'.warmed.alike) hp hb k1 k2 k3 T' rfl X'
    exact ⟨t2, st t2 a1, b1⟩
  · obtain ⟨k1, k2, k3⟩ := vx_keep h0 e1 hS hAX hf hL hF
    obtain ⟨t2, a1, b1⟩ := kx E ce q u t T'.heap (locs ++ L) e1.symm (by rw [← e2]; exact X'.warmed.alike) hp hb k1 k2 k3 (by rw [e1]; exact hce) hcv hcl T' rfl X'
    exact ⟨t2, st.trans a1, b1⟩

theorem vx_catch {own name : String} {E : String} {ce : Cell} {q : Addr} (hown : s.vm.findClass own = some m.cls) (pre : List ExceptionTableEntry) (x : ExceptionTableEntry) (suf : List ExceptionTableEntry) (hsplit : c.exceptionTable.toList = pre ++ x :: suf)
    (hpass : ∀ z ∈ pre, covers z pc = false ∨ (z.catchType ≠ 0 ∧ ∃ nm : String, (Cond.classLink own z.catchType nm).before args s = true ∧ va_Nc E nm s)) (hx : covers x pc = true) (h0 : x.catchType ≠ 0)
    (hlink : (Cond.classLink own x.catchType name).before args s = true) (hcast : (Cond.castable E name).before args s = true) (hcell : H[q]? = some ce) (hv : ce.vm = .none) (hcl : s.vm.findClass E = some ce.cls)
    (kk : W p l e R s m args below meth c H locs cells slots Q (F0 m x.handlerPc ls [.ref q])) : vx_W p l e R s m args below meth c H locs cells slots Q (F0 m pc ls rest) q := by
  intro T hT X
  have hpl : e.platform.magicAccessors = ({} : Platform).magicAccessors := by rw [X.admits.platform]
  obtain ⟨c3, c4, hc3, hc4, hasg⟩ := Cond.castable_spec hcast
  cases Option.some.inj (hc3.symm.trans hcl)
  obtain ⟨c5, hc5, hcl5⟩ := Cond.classLink_spec hown hlink e.platform hpl
  cases Option.some.inj (hc4.symm.trans hc5)
  obtain ⟨vm', X', st⟩ := Jvm.Stand.thenCaughtThrough X q (g := F0 m pc ls rest) rfl (Steps.refl _) (by rw [hT]; exact hcell) (by rw [hv]; rfl) (by obtain ⟨k9, h9, -⟩ := Vm.findClass_spec hcl; exact ⟨k9, h9⟩) pre x suf hsplit
    (fun z hz => by
      rcases hpass z hz with h | ⟨hz0, nm, hl1, hn1⟩
      · exact Or.inl h
      · obtain ⟨c6, hc6, hcl6⟩ := Cond.classLink_spec hown hl1 e.platform hpl
        obtain ⟨a8, b8, h1, h2, h3⟩ := hn1
        cases Option.some.inj (h1.symm.trans hcl)
        cases Option.some.inj (h2.symm.trans hc6)
        exact Or.inr ⟨hz0, _, hcl6, h3⟩) hx (Or.inr ⟨h0, c4, hcl5, hasg⟩)
  obtain ⟨t, a1, b1⟩ := kk (T.setVm vm') hT X'
  exact ⟨t, st.trans a1, b1⟩
end Rows
section Ends
variable {p : Program} {l : Launch} {e : Env} {R : Room} {s : State} {m : MethodId} {args : Array Value} {below : List Frame} {meth : Method} {c : Code} {H : Heap} {locs : List Loc} {cells slots : Nat} {Q : State → Prop}
variable {mc ms : Nat} {free : Addr → Prop} {A0 A1 : Nat → Prop} {H0 : Heap} {a : Array Value} {ls : Array Slot} {st0 rest : List Value}
variable {Qc : Array Value → State → Outcome → State → Prop} {XC : String → State → State → Prop}

def vx_MQ (below : List Frame) (Qc : Array Value → State → Outcome → State → Prop) (XC : String → State → State → Prop) (a : Array Value) (s : State) (mc ms : Nat) (free : Addr → Prop) : State → Prop := fun t =>
  ∃ o, t.status = .running ∧ Ended t below o ∧ vx_Q Qc XC mc ms free a s o t
theorem vx_ret {g : JFrame} {mc ms : Nat} (k : W p l e R s m args below meth c H locs cells slots (MQ below Qc args s mc ms free) g) : W p l e R s m args below meth c H locs cells slots (vx_MQ below Qc XC args s mc ms free) g := by
  intro T hT X
  obtain ⟨t, a1, o, b1, b2, b3, b4⟩ := k T hT X
  exact ⟨t, a1, o, b1, b2, Or.inl ⟨b3, b4⟩⟩

theorem vx_widen {g : JFrame} {q : Addr} {k n : Nat} (h1 : cells ≤ k) (h2 : slots ≤ n) (kk : vx_W p l e R s m args below meth c H locs k n Q g q) : vx_W p l e R s m args below meth c H locs cells slots Q g q := fun T hT X => kk T hT (stand_widen X h1 h2)
theorem vx_out {pc : Nat} {E : String} {ce : Cell} {q : Addr} {mc ms : Nat} (hout : ∀ x ∈ c.exceptionTable.toList, covers x pc = false) (hlocks : meth.locks = false) (hcell : H[q]? = some ce) (hv : ce.vm = .none) (hcl : s.vm.findClass E = some ce.cls)
    (hx : ∀ t : State, t.heap = H → s.vm.Alike t.vm → XC E s t) (hf : ∀ z ∈ locs, free z.base) (hc : cells ≤ mc) (hs : slots ≤ ms) :
    vx_W p l e R s m args below meth c H locs cells slots (vx_MQ below Qc XC args s mc ms free) (F0 m pc ls rest) q := by
  intro T hT X
  obtain ⟨st1, hrun, hend, hW, hsm⟩ := X.leaveThrown q (g := F0 m pc ls rest) rfl rfl rfl hout hlocks
  have hcell9 : (T.setFrames (.throwing q :: below)).heap[q]? = some ce := by
    show T.heap[q]? = some ce
    rw [hT]; exact hcell
  exact ⟨_, st1, .threw q, hrun, hend, Or.inr ⟨q, rfl, E, ce, locs, hx _ hT hW.alike, hcell9, hv, hcl, hW, hsm.mono hc hs, hf⟩⟩
theorem vx_frame {U : State} {k n : Nat} (h : s.sameButNew ({ U with vm := s.vm } : State) locs k n) : s.heap.size ≤ U.heap.size ∧ ∀ q : Nat, q < s.heap.size → (∀ z ∈ locs, z.base ≠ q) → U.heap[q]? = s.heap[q]? := by
  obtain ⟨-, h2, -, -, -, h6⟩ := h
  refine ⟨h2, fun q hq hz => ?_⟩
  obtain ⟨c9, e1, e2, e3, e4⟩ := h6 q _ (Array.getElem?_eq_getElem hq)
  have hs : c9.slots = (s.heap[q]).slots := Array.ext_getElem? fun i => e4 i fun hm => hz _ hm rfl
  have h9 : c9 = s.heap[q] := by
    rw [hs] at e2
    exact e2
  have e5 : U.heap[q]? = some c9 := e1
  rw [e5, h9, Array.getElem?_eq_getElem hq]

def vx_no (w : Cond) : Bool := decide (w ≠ .isRef (.static Bundle.tN "UNASSIGNED_STACK" Bundle.steD)) && decide (w ≠ .isRef (.static Bundle.tN "SUPPRESSED_SENTINEL" Bundle.listD)) && decide (w ≠ .laysStatic Bundle.tN "UNASSIGNED_STACK" Bundle.steD) && decide (w ≠ .laysStatic Bundle.tN "SUPPRESSED_SENTINEL" Bundle.listD)
def vx_at0 (own : String) (ic : Nat) (X : String) (names : List String) : List Cond := (Bundle.ownAtoms0 own ic X names).filter vx_no
def vx_atS (own : String) (ic : Nat) (X : String) (names : List String) : List Cond := (Bundle.ownAtoms own ic X names).filter vx_no

def vx_ot (w : Cond) : Bool := w.onTables || goodWord w
theorem vx_ot_at {args a' : Array Value} {s U : State} {w : Cond} (hW : s.WarmedH U.vm) (hvm : s.vm = U.vm) (hg : vx_ot w = true) (h : w.before args s = true) : w.before a' U = true := by
  simp only [vx_ot, Bool.or_eq_true] at hg
  rcases hg with hg | hg
  · exact va_tabs hg hvm h
  · exact word_at hW (good_of_word hg) h

theorem vx_hat {args : Array Value} {s : State} {L B : List Cond} (h1 : ∀ w ∈ L.filter goodWord, w.before args s = true) (h2 : ∀ w ∈ L.filter (fun w => !goodWord w), w ∈ B) (h3 : ∀ w ∈ B, w.before args s = true) : ∀ w ∈ L, w.before args s = true := by
  intro w hw
  by_cases g : goodWord w = true
  · exact h1 w (List.mem_filter.mpr ⟨hw, g⟩)
  · refine h3 w (h2 w (List.mem_filter.mpr ⟨hw, ?_⟩))
    show (!goodWord w) = true
    cases hgw : goodWord w
    · rfl
    · exact absurd hgw g
theorem vx_c {args : Array Value} {s : State} {w : Cond} {B : List Cond} (h : w.before args s = true) (t : ∀ w ∈ B, w.before args s = true) : ∀ w' ∈ w :: B, w'.before args s = true := fun w' h' => (List.mem_cons.mp h').elim (fun e => by rw [e]; exact h) (t w')
theorem vx_n {args : Array Value} {s : State} : ∀ w ∈ ([] : List Cond), w.before args s = true := fun _ h => nomatch h
theorem vx_own {args : Array Value} {s : State} {L : List Cond} (h1 : ∀ w ∈ L.filter vx_no, w.before args s = true)
    (hU : (Cond.isRef (.static Bundle.tN "UNASSIGNED_STACK" Bundle.steD)).before args s = true) (hN : (Cond.isRef (.static Bundle.tN "SUPPRESSED_SENTINEL" Bundle.listD)).before args s = true)
    (lU : (Cond.laysStatic Bundle.tN "UNASSIGNED_STACK" Bundle.steD).before args s = true) (lN : (Cond.laysStatic Bundle.tN "SUPPRESSED_SENTINEL" Bundle.listD).before args s = true) : ∀ w ∈ L, w.before args s = true := by
  intro w hw
  by_cases e1 : w = .isRef (.static Bundle.tN "UNASSIGNED_STACK" Bundle.steD)
  · rw [e1]; exact hU
  · by_cases e2 : w = .isRef (.static Bundle.tN "SUPPRESSED_SENTINEL" Bundle.listD)
    · rw [e2]; exact hN
    · by_cases e3 : w = .laysStatic Bundle.tN "UNASSIGNED_STACK" Bundle.steD
      · rw [e3]; exact lU
      · by_cases e4 : w = .laysStatic Bundle.tN "SUPPRESSED_SENTINEL" Bundle.listD
        · rw [e4]; exact lN
        · exact h1 w (List.mem_filter.mpr ⟨hw, by unfold vx_no; rw [decide_eq_true e1, decide_eq_true e2, decide_eq_true e3, decide_eq_true e4]; rfl⟩)

def vx_L (C n d : String) (A : Nat → Prop) (U : State) (H : Heap) : Prop := ∃ (c : ClassId) (k : Class) (i : Nat) (f : Field) (a : Nat) (cell : Cell), U.vm.findClass C = some c ∧ U.fieldFound? C n d = some (c, k, i, f) ∧ f.isStatic = true ∧ k.statics = some a ∧ H[a]? = some cell ∧ cell.vm.isStatics = true ∧ cell.cls = c ∧ f.slot < cell.slots.size ∧ k.staticTypes[f.slot]? = some f.type ∧ ¬ A a
theorem vx_L.moved {C n d : String} {A : Nat → Prop} {u U : State} {H : Heap} (hvm : u.vm.Alike U.vm) (h : vx_L C n d A u H) : vx_L C n d A U H := by
  obtain ⟨c, k, i, f, a, cell, h1, h2, h3, h4, h5, h6, h7, h8, h9, h10⟩ := h
  obtain ⟨k', hi', he⟩ := State.fieldFound?_setVm hvm h2
  exact ⟨c, k', i, f, a, cell, by rw [hvm.findClass]; exact h1, hi', h3, by rw [he]; exact h4, h5, h6, h7, h8, by rw [he]; exact h9, h10⟩
theorem vx_L.kept {C n d : String} {A : Nat → Prop} {U : State} {H H1 : Heap} (h : vx_L C n d A U H) (hq : ∀ a : Nat, a < H.size → ¬ A a → H1[a]? = H[a]?) : vx_L C n d A U H1 := by
  obtain ⟨c, k, i, f, a, cell, h1, h2, h3, h4, h5, h6, h7, h8, h9, h10⟩ := h
  exact ⟨c, k, i, f, a, cell, h1, h2, h3, h4, by rw [hq a (Array.getElem?_eq_some_iff.mp h5).1 h10]; exact h5, h6, h7, h8, h9, h10⟩
theorem vx_L.narrow {C n d : String} {A B : Nat → Prop} {U : State} {H : Heap} (h : vx_L C n d A U H) (hAB : ∀ q, B q → A q) : vx_L C n d B U H := by
  obtain ⟨c, k, i, f, a, cell, h1, h2, h3, h4, h5, h6, h7, h8, h9, h10⟩ := h
  exact ⟨c, k, i, f, a, cell, h1, h2, h3, h4, h5, h6, h7, h8, h9, fun z => h10 (hAB _ z)⟩
theorem vx_L.word {C n d : String} {A : Nat → Prop} {s : State} {args : Array Value} (h : vx_L C n d A s s.heap) : (Cond.laysStatic C n d).before args s = true := by
  obtain ⟨c, k, i, f, a, cell, h1, h2, h3, h4, h5, h6, h7, h8, h9, -⟩ := h
  show (Cond.laysStatic C n d).holds args s none s [] = true
  exact Cond.laysStatic_of h1 h2 h3 h4 h5 h6 h7 h8 h9

def vx_Zq (C n d : String) (A : Nat → Prop) (U : State) (H : Heap) : Prop := va_Zq C n d A U H ∧ vx_L C n d A U H
theorem vx_Zq.moved {C n d : String} {A : Nat → Prop} {u U : State} {H : Heap} (hvm : u.vm.Alike U.vm) (h : vx_Zq C n d A u H) : vx_Zq C n d A U H := ⟨va_Zq.moved hvm h.1, vx_L.moved hvm h.2⟩
theorem vx_Zq.kept {C n d : String} {A : Nat → Prop} {U : State} {H H1 : Heap} (h : vx_Zq C n d A U H) (hq : ∀ a : Nat, a < H.size → ¬ A a → H1[a]? = H[a]?) : vx_Zq C n d A U H1 := ⟨va_Zq.kept h.1 hq, vx_L.kept h.2 hq⟩
theorem vx_Zq.narrow {C n d : String} {A B : Nat → Prop} {U : State} {H : Heap} (h : vx_Zq C n d A U H) (hAB : ∀ q, B q → A q) : vx_Zq C n d B U H := ⟨va_Zq.narrow h.1 hAB, vx_L.narrow h.2 hAB⟩
theorem vx_Zqof {args : Array Value} {s : State} {C n d : String} {A : Nat → Prop} (hl : (Cond.laysStatic C n d).before args s = true) (hini : (Cond.initialized C).before args s = true) (h : (Cond.isRef (.static C n d)).before args s = true) (hA : ∀ a : Nat, a < s.heap.size → ¬ A a) : vx_Zq C n d A s s.heap := by
  refine ⟨va_Zqof hl hini h hA, ?_⟩
  obtain ⟨c, k, i, f, a, cell, h1, h2, h3, h4, h5, h6, h7, h8, h9⟩ := Cond.laysStatic_spec hl
  exact ⟨c, k, i, f, a, cell, h1, h2, h3, h4, h5, h6, h7, h8, h9, hA a (Array.getElem?_eq_some_iff.mp h5).1⟩
theorem vx_isRef {C n d : String} {v : Value} {A : Nat → Prop} {s : State} {args : Array Value} (h : va_Z C n d v A s s.heap) (hv : v.isRef = true) : (Cond.isRef (.static C n d)).before args s = true := by
  obtain ⟨cf, kf, fi, f, a, cell, h1, h2, h3, h4, h5, h6, h7, -⟩ := h
  have he : (Term.static C n d).eval args s none [] s = some v := by
    simp [Term.eval, State.fieldNamed?, h1, h2, h4, h5, h6, h7]
  simp only [Cond.before, Cond.holds, Cond.value, he]
  cases v <;> simp_all [Value.isRef]
theorem vx_isRefq {C n d : String} {A : Nat → Prop} {s : State} {args : Array Value} (h : va_Zq C n d A s s.heap) : (Cond.isRef (.static C n d)).before args s = true := by
  rcases h with h | ⟨t, h⟩
  · exact vx_isRef h rfl
  · exact vx_isRef h rfl

theorem vx_rebase {T : State} (X : Stand p l e R s m args below meth c T locs cells slots) {R' : Room} (hf : R'.frames ≤ R.frames) (hl : R'.locals ≤ R.locals) (hc : cells + R'.cells ≤ R.cells) (hs : slots + R'.slots ≤ R.slots) :
    Stand p l e R' ((T.setVm s.vm).setFrames (.invoking m args :: below)) m args below meth c T [] 0 0 := by
  have htop : (T.setVm s.vm).topJava?.isSome := X.here.top
  have hF : ((T.setVm s.vm).setFrames (.invoking m args :: below)).frames = .invoking m args :: below := State.frames_setFrames _ (State.cur_lt_of_top htop)
  obtain ⟨g₀, hg0⟩ := Option.isSome_iff_exists.mp htop
  obtain ⟨r, hr⟩ := State.topJava?_eq_some.mp hg0
  have hl9 : e.platform.stackLimits (T.setVm s.vm).me = e.platform.stackLimits s.me := X.limits
  have hb9 : (T.setVm s.vm).me.stackBytes = s.me.stackBytes := X.bytes
  refine ⟨X.admits, X.cas, X.clock, hF, ?_, X.hears, X.method, X.code, X.here, X.tail, X.warmed, ?_, ?_, ?_⟩
  · have h := X.room
    have hU : ((T.setVm s.vm).setFrames (.invoking m args :: below)).localsInUse = s.localsInUse := by
      rw [State.localsInUse_invoking hF (meth := meth) (c := c) X.method X.code, State.localsInUse_invoking X.frames X.method X.code]
    simp only [State.hasRoom, Bool.and_eq_true, decide_eq_true_eq] at h ⊢
    obtain ⟨⟨⟨⟨h1, h2, h3, h4, h5, h6⟩, h7⟩, h8⟩, h9⟩ := h
    rw [X.frames, List.length_cons] at h2 h3
    have q1 := X.heapSize
    have q2 := X.used
    simp only [hF, hU, List.length_cons, State.stackLimits_setFrames, State.stackBytes_setFrames, hl9, hb9]
    refine ⟨⟨⟨⟨by omega, by omega, by omega, by omega, by omega, h6⟩, ?_⟩, ?_⟩, X.book⟩
    · show T.heap.size + R'.cells ≤ e.platform.maxCells
      omega
    · show T.slotsUsed + R'.slots ≤ e.platform.maxSlots
      omega
  · rw [State.stackLimits_setFrames]; rfl
  · rw [State.stackBytes_setFrames]; rfl
  · refine ⟨?_, Nat.le_refl _, Nat.le_refl _, ?_, ?_, fun a c9 h9 => ⟨c9, h9, rfl, rfl, fun _ _ => rfl⟩⟩
    · obtain ⟨t, ht, -⟩ := State.frames_cons hr
      show T.setVm s.vm = { ((T.setVm s.vm).setFrames (.invoking m args :: below)).setFrames (T.setVm s.vm).frames with heap := T.heap, slotsUsed := T.slotsUsed }
      rw [State.setFrames_setFrames, State.setFrames_self ht]
      rfl
    · show T.slotsUsed = T.slotsUsed + ((T.heap.toList.drop T.heap.size).map (·.slots.size)).sum
      rw [List.drop_eq_nil_of_le (Nat.le_of_eq Array.length_toList)]
      rfl
    · show ((T.heap.toList.drop T.heap.size).map (·.slots.size)).sum ≤ 0
      rw [List.drop_eq_nil_of_le (Nat.le_of_eq Array.length_toList)]
      exact Nat.le_refl _

theorem vx_throwS {cc : ByteArray} {pc : Nat} (hexec : p.tables.exec = Jvm.exec) (hb : c.code = cc) (hl : l.stackTraces = false) {own cls text : String} {names : List String} {ik is ic mc ms sa : Nat} {A : Nat → Prop}
    (hown : s.vm.findClass own = some m.cls) (hcls : Bundle.fit cls = true) (hnames : ∀ n ∈ names, Bundle.fit n = true)
    (hk : (Cond.classLink own ik cls).before args s = true) (hini : (Cond.initialized cls).before args s = true) (hstr : vk_R own is text sa s) (hat : ∀ w ∈ vx_atS own ic cls names, w.before args s = true)
    (hgood : ∀ w ∈ Cond.classLink own ik cls :: Cond.initialized cls :: vx_atS own ic cls names, vx_ot w = true)
    (hU : vx_Zq Bundle.tN "UNASSIGNED_STACK" Bundle.steD A s s.heap) (hN : vx_Zq Bundle.tN "SUPPRESSED_SENTINEL" Bundle.listD A s s.heap) (hS : va_S A s.heap H locs) (hsize : ls.size = c.maxLocals)
    (d0 : decode cc pc = .ok (.new ik, 3)) (d3 : decode cc (pc + 3) = .ok (.dup, 1)) (d4 : decode cc (pc + 4) = .ok (.ldc is, 2)) (d6 : decode cc (pc + 6) = .ok (.invokespecial ic, 3)) (d9 : decode cc (pc + 9) = .ok (.athrow, 1))
    (hout : ∀ x ∈ c.exceptionTable.toList, covers x (pc + 9) = false)
    (hRframes : names.length + 3 < R.frames) (hRlocals : (rest.map fun v => v.category).sum + (13 * (names.length + 1) + 43) ≤ R.locals) (hRcells : cells + 1 ≤ R.cells) (hRslots : slots + 6 ≤ R.slots) (hlocks : meth.locks = false)
    (hx : ∀ t : State, s.vm.Alike t.vm → H.size ≤ t.heap.size → (∀ q : Nat, q < H.size → t.heap[q]? = H[q]?) → XC cls s t)
    (hf : ∀ z ∈ locs, free z.base) (hc : cells + 1 ≤ mc) (hs : slots + 6 ≤ ms) :
    W p l e R s m args below meth c H locs cells slots (vx_MQ below Qc XC args s mc ms free) (F0 m pc ls rest) := by
  intro T hT X
  have htr : e.platform.stackTraces = false := (show e.platform.stackTraces = l.stackTraces by rw [X.admits.platform]).trans hl
  have Y := vx_rebase X (R' := { frames := R.frames, locals := R.locals, cells := 1, slots := 6 }) (Nat.le_refl _) (Nat.le_refl _) hRcells hRslots
  obtain ⟨s', hA⟩ : ∃ z, z = (T.setVm s.vm).setFrames (.invoking m args :: below) := ⟨_, rfl⟩
  rw [← hA] at Y
  have hvm : s'.vm = s.vm := by rw [hA]; rfl
  have hhp : s'.heap = H := by rw [hA]; exact hT
  have hW0 : s.WarmedH s'.vm := by rw [hvm]; exact State.WarmedH.refl s
  have hat' : ∀ w ∈ vx_atS own ic cls names, w.before args s' = true := fun w hw => vx_ot_at hW0 hvm.symm (hgood w (List.mem_cons_of_mem _ (List.mem_cons_of_mem _ hw))) (hat w hw)
  have hk' : (Cond.classLink own ik cls).before args s' = true := vx_ot_at hW0 hvm.symm (hgood _ List.mem_cons_self) hk
  have hini' : (Cond.initialized cls).before args s' = true := vx_ot_at hW0 hvm.symm (hgood _ (List.mem_cons_of_mem _ List.mem_cons_self)) hini
  have hU' : vx_Zq Bundle.tN "UNASSIGNED_STACK" Bundle.steD A s' s'.heap := by rw [hhp]; exact vx_Zq.moved hW0.alike (hU.kept hS.2.1)
  have hN' : vx_Zq Bundle.tN "SUPPRESSED_SENTINEL" Bundle.listD A s' s'.heap := by rw [hhp]; exact vx_Zq.moved hW0.alike (hN.kept hS.2.1)
  have h : ∀ w ∈ Bundle.ownAtoms own ic cls names, w.before args s' = true := vx_own hat' (vx_isRefq hU'.1) (vx_isRefq hN'.1) hU'.2.word hN'.2.word
  have hown' : s'.vm.findClass own = some m.cls := by rw [hvm]; exact hown
  have hins : (Cond.instantiable cls 6).before args s' = true := h _ (by simp [Bundle.ownAtoms])
  obtain ⟨vm₁, cX, kX, hfX, hkX, -, -, X₁, st1⟩ := Y.newCold hexec (own := own) (C := cls) (index := ik) (n := 6) hown' hk' hins hini'
    (g := F0 m pc ls rest) rfl (by rw [hb]; exact d0) (Nat.le_refl _) (Nat.le_refl _)
  generalize hT1 : (T.setVm vm₁).pushCell { cls := cX, slots := kX.instanceTypes.map defaultValue, vm := .none } = T1 at X₁ st1
  have hcat : (Value.ref T.heap.size).category = 1 := rfl
  have hcellA : T1.heap[T.heap.size]? = some (freshCell cX kX) := by rw [← hT1]; exact State.heap_pushCell_size _ _
  have d3' : decode c.code (pc + 3) = .ok (.dup, 1) := by rw [hb]; exact d3
  have d4' : decode c.code (pc + 4) = .ok (.ldc is, 2) := by rw [hb]; exact d4
  have hstr' : vk_R own is text sa s' := vk_R.warm hW0 hstr
  obtain ⟨U, hsteps, hrun, hend, hW, hsame, ce, hce, hO⟩ := X₁.ctorThrowS hexec htr (own := own) (cls := cls) (names := names) (ic := ic) hown' hcls hnames h (fun x hx => nomatch hx) hfX hkX hcellA (by rw [hhp, hT]; exact Nat.le_refl _) (msg := .ref sa) rfl
    (g := { method := m, pc := pc + 6, locals := ls, stack := .ref sa :: .ref T.heap.size :: .ref T.heap.size :: rest, locked := none }) rfl hsize rfl rfl (rest := rest) rfl
    (by rw [hb]; exact d6) (by rw [hb]; exact d9) hout hRframes (by simp only [List.map_cons, List.sum_cons, hcat]; omega) hlocks
  obtain ⟨f1, f2⟩ := vx_frame hsame
  rw [hhp] at f1 f2
  have hWs : s.WarmedH U.vm := State.WarmedH.trans hW0 hW
  have hcl : s.vm.findClass cls = some ce.cls := by
    have h9 := hO.cls
    rw [hvm] at h9
    exact h9
  have hall : s.sameButNew ({ U with vm := s.vm } : State) locs mc ms := by
    subst hA
    obtain ⟨e1, e2⟩ := hsame
    rw [State.setFrames_setFrames] at e1
    have h2 : (T.setVm s.vm).sameButNew ({ U with vm := s.vm } : State) [] (0 + 1) (0 + 6) := ⟨e1, e2⟩
    have h3 := X.same.trans h2
    rw [List.append_nil] at h3
    exact h3.mono hc hs
  refine ⟨U, ?_, .threw T.heap.size, hrun, hend, Or.inr ⟨T.heap.size, rfl, cls, ce, locs, hx U hWs.alike f1 (fun q hq => f2 q hq (fun z hz => nomatch hz)), hce, hO.vm, hcl, hWs, hall, hf⟩⟩
  refine st1 _ ?_
  show Steps p.tables e below (T1.setTop { method := m, pc := pc + 3, locals := ls, stack := .ref T.heap.size :: rest, locked := none }) _
  jvm_step X₁.here [X₁.here.top, hexec, d3', Value.category]
  exact X₁.ldcString hexec (own := own) (text := text) (index := is) (a := sa) hown' hstr'.1 hstr'.2
    (g := { method := m, pc := pc + 4, locals := ls, stack := .ref T.heap.size :: .ref T.heap.size :: rest, locked := none }) rfl d4' _ hsteps
end Ends
section Bodies
variable {l : Launch}
theorem vx_ofW {y : MethodName} {ws ws' : List Cond} {rm : Room} {Pc : Array Value → State → Prop} {Qc : Array Value → State → Outcome → State → Prop} {XC : String → State → State → Prop} {mc ms : Nat} {free : Addr → Prop} {cc : ByteArray} {maxL : Nat} {ret : Option FieldType}
    (hy : plainName y.cls = true) (hw : ws = Cond.code y cc maxL ret :: ws')
    (body : ∀ p e s m args below meth c s₁, BodyLoose p l y (headSpec ws rm) cc maxL ret e s m args below meth c s₁ → c.maxLocals = maxL → (∀ x ∈ c.exceptionTable.toList, False) → Pc args s →
      W p l e (headSpec ws rm).room s m args below meth c s.heap [] 0 0 (vx_MQ below Qc XC args s mc ms free) (entryFrame m args maxL)) : vx_Met l y ws rm Pc Qc XC mc ms free := by
  refine MetFree.of_bodyS (code := cc) (maxLocals := maxL) (ret := ret) hy ?_ ?_
  · intro args s m h hn
    obtain ⟨meth, c, h1, h2, h3, h4, h5, h6, -, -⟩ := Cond.code_spec hn (atoms_spec (ws := ws) h _ (by rw [hw]; exact List.mem_cons_self))
    exact ⟨meth, c, h1, h2, h3, h4, h5, h6⟩
  · intro p e s m args below meth c s₁ B hml hP _
    have hh0 : s₁.heap = s.heap := by rw [B.state]; rfl
    have ht : ∀ x ∈ c.exceptionTable.toList, False := by
      obtain ⟨meth9, c9, h1, h2, -, -, -, -, h7, -⟩ := Cond.code_spec B.named (atoms_spec (ws := ws) B.pre _ (by rw [hw]; exact List.mem_cons_self))
      cases Option.some.inj (h1.symm.trans B.method)
      cases Option.some.inj (h2.symm.trans (Stand.of_body B).code)
      intro x hx
      rw [Array.isEmpty_iff.mp h7] at hx
      cases hx
    obtain ⟨t, a1, o, b1, b2, b3⟩ := body p e s m args below meth c s₁ B hml ht hP s₁ hh0 (Stand.of_body B)
    exact ⟨t, o, a1, b1, b2, b3⟩

theorem vx_table {p : Program} {x y : MethodName} {S : Spec} {cc bytes : ByteArray} {maxL maxL' : Nat} {ret ret' : Option FieldType} {e : Env} {s s₁ : State} {m : MethodId} {args : Array Value} {below : List Frame} {meth : Method} {c : Code} {hh : List (Nat × Nat × Nat × Nat)}
    (B : BodyLoose p l y S cc maxL ret e s m args below meth c s₁) (h : (Cond.codeWith y bytes maxL' ret' hh).before args s = true) : c.exceptionTable.toList = tableOf hh := by
  obtain ⟨m9, meth9, c9, hn9, h1, h2, -, -, h6, -⟩ := Cond.codeWith_spec h
  cases Option.some.inj (hn9.symm.trans B.named)
  cases Option.some.inj (h1.symm.trans B.method)
  cases Option.some.inj (h2.symm.trans (Stand.of_body B).code)
  rw [← h6, table_eq]
end Bodies
end VXA


section VXS
variable {p : Program} {l : Launch} {e : Env} {R : Room} {s : State} {m : MethodId} {args : Array Value} {below : List Frame} {meth : Method} {c : Code} {T : State} {H : Heap} {locs : List Loc} {cells slots : Nat}
abbrev vx_CSW (R : Room) (s : State) (args : Array Value) (own : String) (index : Nat) (y : MethodName) (bytes : ByteArray) (maxL : Nat) (ret : Option FieldType) (hh : List (Nat × Nat × Nat × Nat)) (ws : List Cond) (rm : Room) (mc ms n : Nat) : Prop :=
  (rm.cells = mc ∧ rm.slots = ms ∧ rm.frames + 1 ≤ R.frames ∧ 8 + (maxL + 11) + rm.locals ≤ R.locals ∧ (∀ w ∈ ws, ∀ (a' : Array Value) (U : State), s.WarmedH U.vm → w.before a' U = true) ∧ Cond.codeWith y bytes maxL ret hh ∈ ws) ∧
  (Cond.codeWith y bytes maxL ret hh).before args s = true ∧ (Cond.initialized y.cls).before args s = true ∧ (y.cls ≠ "java/lang/invoke/MethodHandle" ∧ y.cls ≠ "java/lang/invoke/VarHandle") ∧
  (∀ sig, parseMethodDescriptor y.desc = some sig → n = sig.parameters.length) ∧ (Cond.methodLink own index y).before args s = true ∧ (Cond.static y).before args s = true
theorem vx_cwSW {own : String} {index maxL mc ms : Nat} {y : MethodName} {bytes : ByteArray} {ret : Option FieldType} {hh : List (Nat × Nat × Nat × Nat)} {Ts ws ws' : List Cond} {rm : Room} (n : Nat) (ht : ∀ w ∈ Ts, w.before args s = true) (hT : GoodIn Ts (va_wsS own index y ws)) (hw : ws = Cond.codeWith y bytes maxL ret hh :: ws') (hrc : rm.cells = mc) (hrs : rm.slots = ms)
    (hd : y.cls ≠ "java/lang/invoke/MethodHandle" ∧ y.cls ≠ "java/lang/invoke/VarHandle" ∧ (parseMethodDescriptor y.desc).map (fun d => d.parameters.length) = some n) (hR : rm.frames + 1 ≤ R.frames ∧ 8 + (maxL + 11) + rm.locals ≤ R.locals) :
    vx_CSW R s args own index y bytes maxL ret hh ws rm mc ms n := by
  have ok : ∀ w ∈ va_wsS own index y ws, w.before args s = true := fun w h => ht w (hT w h).1
  have hG : GoodIn Ts ws := fun w h => hT w (by unfold va_wsS; exact List.mem_append_right _ h)
  have hc : Cond.codeWith y bytes maxL ret hh ∈ ws := by rw [hw]; exact List.mem_cons_self
  refine ⟨⟨hrc, hrs, hR.1, hR.2, pay_in ht hG, hc⟩, ht _ (hG _ hc).1, ok _ (by simp [va_wsS]), ⟨hd.1, hd.2.1⟩, fun sig h => ?_, ok _ (by simp [va_wsS]), ok _ (by simp [va_wsS])⟩
  have h2 := hd.2.2
  rw [h] at h2
  exact (Option.some.inj h2).symm
theorem vx_callSW (X : Stand p l e R s m args below meth c T locs cells slots) (hexec : p.tables.exec = Jvm.exec) {own : String} {index : Nat} {y : MethodName} {bytes : ByteArray} {maxL : Nat} {ret : Option FieldType} {hh : List (Nat × Nat × Nat × Nat)}
    (hown : s.vm.findClass own = some m.cls) (hlink : (Cond.methodLink own index y).before args s = true) (hstat : (Cond.static y).before args s = true) (hinit : (Cond.initialized y.cls).before args s = true)
    (hcode : (Cond.codeWith y bytes maxL ret hh).before args s = true) (hy : y.cls ≠ "java/lang/invoke/MethodHandle" ∧ y.cls ≠ "java/lang/invoke/VarHandle")
    {W9 : Nat} {Pre : Pt → Array Value → Prop} {Post : Pt → Array Value → Option Value → Pt → Prop} (hK : Back l R p e below s args y 3 W9 Pre Post)
    {g : JFrame} (hg : g.method = m) (hsize : g.locals.size = c.maxLocals) {argsL rest : List Value} (hlen : ∀ sig, parseMethodDescriptor y.desc = some sig → argsL.length = sig.parameters.length)
    (hstack : g.stack = argsL.reverse ++ rest) (hW : 2 * g.monitorRoom + (rest.map fun v => v.category).sum ≤ W9) (hdg : decode c.code g.pc = .ok (.invokestatic index, 3))
    (hpre : ∀ vm₁, s.WarmedH vm₁ → Pre ⟨T.setVm vm₁, locs, cells, slots⟩ argsL.toArray) :
    ∃ (v : Option Value) (vm₁ : Vm) (B : Pt), s.WarmedH vm₁ ∧ Stand p l e R s m args below meth c B.U B.locs B.cells B.slots ∧ Post ⟨T.setVm vm₁, locs, cells, slots⟩ argsL.toArray v B ∧
      ∀ target, Steps p.tables e below (B.U.setTop { g with pc := g.pc + 3, stack := v.toList ++ rest }) target → Steps p.tables e below (T.setTop g) target := by
  obtain ⟨mk, methM, cM, hnamed, hmethM, -, -, -, -, -, -, hsigM⟩ := Cond.codeWith_spec hcode
  have hstatic : methM.isStatic = true := Cond.static_spec hnamed hmethM hstat
  obtain ⟨kP, hkP, -⟩ := className_of_methodNamed hnamed
  have hinitP : kP.init = .initialized := Cond.initialized_spec (findClass_of_methodNamed hnamed) hkP hinit
  obtain ⟨vm₁, X₁, hstep₁⟩ := X.invokestatic hexec hown hlink hnamed hmethM hstatic hkP hinitP hy (g := g) hg (argsL := argsL) (rest := rest) (hlen _ hsigM) hstack hdg
  obtain ⟨v, B, X', hpost, hsteps⟩ := hK m meth c ⟨T.setVm vm₁, locs, cells, slots⟩ { g with stack := rest } (.invokestatic index) mk argsL.toArray X₁ hg hsize hdg hW (X₁.named hnamed) (hpre vm₁ X₁.warmed)
  exact ⟨v, vm₁, B, X₁.warmed, X', hpost, fun target h => hstep₁ _ fun acts => by rw [doInvoke_state]; exact hsteps.trans h⟩
theorem vx_runSW {y : MethodName} {bytes cc : ByteArray} {maxL nL mc ms n index : Nat} {ret : Option FieldType} {hh : List (Nat × Nat × Nat × Nat)} {ws : List Cond} {rm : Room} {Pc : Array Value → State → Prop} {Qc : Array Value → State → Outcome → State → Prop} {free : Addr → Prop} {Ts : List Cond} {own : String} {As rest : List Value} {g : JFrame}
    (S : CallFix p m c cc nL s args Ts own) (hM : Met l y ws rm Pc Qc mc ms free) (cw : vx_CSW R s args own index y bytes maxL ret hh ws rm mc ms n) (hp : PreS s H Pc As)
    (hg : g.method = m) (hn : As.length = n) (hsize : g.locals.size = nL) (hstack : g.stack = As.reverse ++ rest) (hW : 2 * g.monitorRoom + (rest.map fun v => v.category).sum ≤ 8) (hdg : decode cc g.pc = .ok (.invokestatic index, 3)) (hf : cells + mc ≤ R.cells ∧ slots + ms ≤ R.slots) :
    va_Run p l e R s m args below meth c H locs cells slots mc ms g rest (Qc As.toArray) (free) := by
  obtain ⟨⟨hrc, hrs, hfr, hlo, hws, hcw⟩, hcode, hini, hy, hlen, hl, hstt⟩ := cw
  have hK : Back l R p e below s args y 3 8 (PreOf R mc ms Pc) (PostOf Qc mc ms free) := va_backW (hh := hh) (bytes := bytes) (maxL := maxL) (ret := ret) hM hp.1 hrc hrs hfr hlo hws hcw (fun a' U hW => word_at hW (Or.inl (by first | rfl | simp [Cond.onTables, Cond.keeps, Cond.steady])) hini)
  obtain ⟨hx, hb, hml, ho, -⟩ := S
  intro T hT X
  obtain ⟨v, vm₁, ⟨U', l2, c2, s2⟩, hW₁, X', ⟨g', mk, t, L, e1, e2, hq, h1, hL, h2, h3⟩, st⟩ := vx_callSW X hx (hh := hh) (bytes := bytes) (maxL := maxL) (ret := ret) ho hl hstt hini hcode hy hK hg (hsize.trans hml.symm) (argsL := As) (rest := rest) (fun sig h => hn.trans (hlen sig h)) hstack hW (by rw [hb]; exact hdg)
    (fun vm₁ hW₁ => ⟨hf.1, hf.2, hp.2 (T.setVm vm₁) hT hW₁⟩)
  dsimp only [Pt.U, Pt.locs, Pt.cells, Pt.slots] at X' e1 e2 h1 h2 h3 st
  subst h1; subst h2; subst h3
  exact ⟨v, (T.setVm vm₁).calling g' mk As.toArray, t, U', L, hT, X', hL, e1, e2, hq, st⟩

theorem vx_lt {D : va_G} {cl : List vw_C} {ws : va_W} {H1 : Heap} (h : va_P D cl ws H1) {k : Nat} {q : Nat × va_E} (hk : ws[k]? = some q) : q.1 < H1.size := (h k q hk).lt
end VXS
end
