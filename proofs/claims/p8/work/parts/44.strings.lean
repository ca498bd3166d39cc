/-! a text: what is known of it -/
def jStr (A : Nat → Prop) (q v n : Nat) (f : Nat → Int32) (U : State) (H : Heap) : Prop :=
  va_O "java/lang/String" q A U H ∧ va_OF "java/lang/String" "coder" "B" (.int 0) q A U H ∧ va_OF "java/lang/String" "value" "[B" (.ref v) q A U H ∧ va_T .byte v n (fun j => .int (f j)) A U H ∧ n < 2 ^ 31 ∧ va_Z "java/lang/String" "COMPACT_STRINGS" "Z" (.int 1) A U H ∧ va_Zq "jdk/internal/util/Preconditions" "SIOOBE_FORMATTER" "Ljava/util/function/BiFunction;" A U H
theorem jStr_keep {A : Nat → Prop} {q v n : Nat} {f : Nat → Int32} {U U1 : State} {H H1 : Heap} (h : jStr A q v n f U H) (hvm : U.vm.Alike U1.vm) (hq : ∀ a : Nat, a < H.size → ¬ A a → H1[a]? = H[a]?) : jStr A q v n f U1 H1 :=
  ⟨(h.1.moved hvm).kept hq, (h.2.1.moved hvm).kept hq, (h.2.2.1.moved hvm).kept hq, (h.2.2.2.1.moved hvm).kept hq, h.2.2.2.2.1, (h.2.2.2.2.2.1.moved hvm).kept hq, (h.2.2.2.2.2.2.moved hvm).kept hq⟩
theorem jStr_nar {A B : Nat → Prop} {q v n : Nat} {f : Nat → Int32} {U : State} {H : Heap} (h : jStr A q v n f U H) (hAB : ∀ x, B x → A x) : jStr B q v n f U H :=
  ⟨h.1.narrow hAB, h.2.1.narrow hAB, h.2.2.1.narrow hAB, h.2.2.2.1.narrow hAB, h.2.2.2.2.1, h.2.2.2.2.2.1.narrow hAB, h.2.2.2.2.2.2.narrow hAB⟩
abbrev jF : Nat → Prop := fun _ => False
def jQ (q : Option Value → Prop) : Array Value → State → Outcome → State → Prop := fun _ st oc t => (∃ r : Option Value, oc = .returned r ∧ q r) ∧ va_F jF st t
def jM (l : Launch) (y : MethodName) (bs : ByteArray) (mx : Nat) (ret : Option FieldType) (lv : Nat) (P : State → Prop) (av : List Value) (q : Option Value → Prop) : Prop :=
  Met l y (Cond.code y bs mx ret :: zTb) (zrm lv) (fun v U => v = av.toArray ∧ P U) (jQ q) 0 0 jF
def jC (p : Program) (s : State) (m : MethodId) (args : Array Value) (c : Code) (cc : ByteArray) (nL : Nat) (own : String) : Prop := p.tables.exec = Jvm.exec ∧ c.code = cc ∧ c.maxLocals = nL ∧ s.vm.findClass own = some m.cls ∧ ∀ w ∈ zTb, w.before args s = true
def jSty (P : State → Prop) : Prop := ∀ (U U1 : State), P U → U.WarmedH U1.vm → (∀ a : Nat, a < U.heap.size → U1.heap[a]? = U.heap[a]?) → P U1
section ZJ
variable {p : Program} {l : Launch} {e : Env} {R : Room} {s : State} {m : MethodId} {args : Array Value} {below : List Frame} {meth : Method} {c : Code} {cc : ByteArray} {nL : Nat} {own : String} {cells slots : Nat} {Q : State → Prop} {pc : Nat} {H : Heap} {locs : List Loc} {rl : Array Slot}
theorem jM_of {y : MethodName} {bs : ByteArray} {mx lv : Nat} {ret : Option FieldType} {P : State → Prop} {av : List Value} {q : Option Value → Prop} (own : String) (hy : plainName y.cls = true) (ho : y.cls = own) (hlen : (lg_sl av).length ≤ mx)
    (body : ∀ (p : Program) (e : Env) (s : State) (m : MethodId) (args : Array Value) (below : List Frame) (meth : Method) (c : Code) (rl : Array Slot), jC p s m args c bs mx own → meth.sig.returnType = ret → meth.locks = false → P s → lv_has rl mx (lv_args 0 av) →
      W p l e (zrm lv) s m args below meth c s.heap [] 0 0 (MQ below (jQ q) args s 0 0 jF) (F0 m 0 rl [])) : jM l y bs mx ret lv P av q := by
  refine Met.ofW (cc := bs) (maxL := mx) (ret := ret) hy rfl ?_
  intro p e s m args below meth c s₁ B hml hv
  obtain ⟨rfl, hP⟩ := hv
  have hts := atoms_spec (ws := Cond.code y bs mx ret :: zTb) B.pre
  have hown : s.vm.findClass own = some m.cls := ho ▸ findClass_of_methodNamed B.named
  have hl := lv_entry av (n := mx) hlen
  rw [lg_entry_eq]
  generalize (lg_sl av ++ List.replicate (mx - (lg_sl av).length) Slot.unset).toArray = rl at hl ⊢
  exact body p e s m av.toArray below meth c rl ⟨B.exec, B.bytes, hml, hown, fun w hw => hts w (List.mem_cons_of_mem _ hw)⟩ B.returns B.notSynchronized hP hl
theorem j_back {q : Option Value → Prop} {a : Array Value} {st0 rest : List Value} {A : Nat → Prop} (hr : va_Run p l e R s m args below meth c H locs cells slots 0 0 (F0 m pc rl st0) rest (jQ q a) jF) (hS : va_S A s.heap H locs)
    (kk : ∀ (r : Option Value) (H1 : Heap) (locs1 : List Loc), q r → (∀ x : Nat, x < H.size → H1[x]? = H[x]?) → va_S A s.heap H1 locs1 → W p l e R s m args below meth c H1 locs1 cells slots Q (F0 m (pc + 3) rl (r.toList ++ rest))) : W p l e R s m args below meth c H locs cells slots Q (F0 m pc rl st0) := by
  intro T hT X
  obtain ⟨v, st₀, t, T', L, h0, X', hL', e1, e2, ⟨⟨r, hv, hq⟩, hF⟩, go⟩ := hr T hT X
  have hv' : v = r := by cases hv; rfl
  subst hv'
  have hk : ∀ x : Nat, x < H.size → t.heap[x]? = H[x]? := fun x hx => by rw [hF.2 x (by rw [h0]; exact hx) (fun h => h), h0]
  have hS1 : va_S A s.heap t.heap (locs ++ L) := by
    refine ⟨Nat.le_trans hS.1 (by rw [← h0]; exact hF.1), fun x h1 h2 => ?_, fun l hl => ?_⟩
    · rw [hk x (Nat.lt_of_lt_of_le h1 hS.1)]
      exact hS.2.1 x h1 h2
    · rcases List.mem_append.mp hl with q | q
      · exact hS.2.2 l q
      · exact (hL' l q).elim
  obtain ⟨t9, a9, b9⟩ := kk v t.heap (locs ++ L) hq hk hS1 T' e1 X'
  exact ⟨t9, go t9 a9, b9⟩
def jWv (own : String) (idx : Nat) (y : MethodName) (C : String) (b : ByteArray) (mx : Nat) (ret : Option FieldType) (n : Nat) : Prop :=
  (Cond.methodLink own idx y ∈ zTb ∧ Cond.instanceMethod y ∈ zTb ∧ Cond.selects C y y ∈ zTb ∧ Cond.initialized C ∈ zTb ∧ Cond.code y b mx ret ∈ zTb) ∧ y.cls = C ∧ y.cls ≠ "java/lang/invoke/MethodHandle" ∧ y.cls ≠ "java/lang/invoke/VarHandle" ∧ (parseMethodDescriptor y.desc).map (fun d => d.parameters.length) = some n
theorem j_callV (C : jC p s m args c cc nL own) {y : MethodName} {bs : ByteArray} {mx lv idx a n : Nat} {ret : Option FieldType} {P : State → Prop} {av rest st0 : List Value} {q : Option Value → Prop} {Cn : String} {A : Nat → Prop} (d : decode cc pc = .ok (.invokevirtual idx, 3)) (w : jWv own idx y Cn bs mx ret n) (hn : av.length = n) (hM : jM l y bs mx ret lv P (.ref a :: av) q) (hP : P s) (hty : jSty P) (hrv : ∃ cell : Cell, H[a]? = some cell ∧ cell.vm.isStatics = false ∧ s.vm.findClass Cn = some cell.cls) (hS : va_S A s.heap H locs) (hA : ∀ x : Nat, x < s.heap.size → H[x]? = s.heap[x]?) (hst : st0 = av.reverse ++ .ref a :: rest) (hL : rl.size = nL) (hR : lv + 1 ≤ R.frames ∧ 8 + (mx + 11) + 40 * lv ≤ R.locals) (hc : cells ≤ R.cells ∧ slots ≤ R.slots) (hw : (rest.map fun v => v.category).sum ≤ 8)
    (kk : ∀ (r : Option Value) (H1 : Heap) (locs1 : List Loc), q r → (∀ x : Nat, x < H.size → H1[x]? = H[x]?) → va_S A s.heap H1 locs1 → W p l e R s m args below meth c H1 locs1 cells slots Q (F0 m (pc + 3) rl (r.toList ++ rest))) : W p l e R s m args below meth c H locs cells slots Q (F0 m pc rl st0) := by
  obtain ⟨⟨w1, w2, w3, w4, w5⟩, hcl, hy1, hy2, hnp⟩ := w
  have hts := C.2.2.2.2
  subst hst
  have hrun := va_runV (H := H) (e := e) (below := below) (meth := meth) (locs := locs) (cells := cells) (slots := slots) (As := av) (rest := rest) (b := a) (C := Cn) (g := F0 m pc rl (av.reverse ++ .ref a :: rest)) (n := n) ⟨C.1, C.2.1, C.2.2.1, C.2.2.2.1, hts⟩ hM
    ⟨callB_of n hts (zTb_good w5) rfl rfl rfl (by rw [hcl]; exact hts _ w4) (hts _ w1) ⟨hy1, hy2, hnp⟩ hR, hts _ w2, hts _ w3⟩
    ⟨fun a U g mk h => ⟨h.1, hty U (U.calling g mk a) h.2 (State.WarmedH.refl U) (fun _ _ => rfl)⟩, hrv, fun U hU hW => ⟨rfl, hty s U hP hW (fun x hx => by rw [hU]; exact hA x hx)⟩⟩
    rfl hn hL rfl (lv_room hw) d ⟨by simpa using hc.1, by simpa using hc.2⟩
  exact j_back hrun hS kk
theorem j_callS (C : jC p s m args c cc nL own) {y : MethodName} {bs : ByteArray} {mx lv idx n : Nat} {ret : Option FieldType} {P : State → Prop} {av rest st0 : List Value} {q : Option Value → Prop} {A : Nat → Prop} (d : decode cc pc = .ok (.invokestatic idx, 3)) (w : zWs own idx y bs mx ret n) (hn : av.length = n) (hM : jM l y bs mx ret lv P av q) (hP : P s) (hty : jSty P) (hS : va_S A s.heap H locs) (hA : ∀ x : Nat, x < s.heap.size → H[x]? = s.heap[x]?) (hst : st0 = av.reverse ++ rest) (hL : rl.size = nL) (hR : lv + 1 ≤ R.frames ∧ 8 + (mx + 11) + 40 * lv ≤ R.locals) (hc : cells ≤ R.cells ∧ slots ≤ R.slots) (hw : (rest.map fun v => v.category).sum ≤ 8)
    (kk : ∀ (r : Option Value) (H1 : Heap) (locs1 : List Loc), q r → (∀ x : Nat, x < H.size → H1[x]? = H[x]?) → va_S A s.heap H1 locs1 → W p l e R s m args below meth c H1 locs1 cells slots Q (F0 m (pc + 3) rl (r.toList ++ rest))) : W p l e R s m args below meth c H locs cells slots Q (F0 m pc rl st0) := by
  obtain ⟨⟨w1, w2, w4, w5⟩, hy1, hy2, hnp⟩ := w
  have hts := C.2.2.2.2
  subst hst
  have hrun := va_runS (H := H) (e := e) (below := below) (meth := meth) (locs := locs) (cells := cells) (slots := slots) (As := av) (rest := rest) (g := F0 m pc rl (av.reverse ++ rest)) (n := n) ⟨C.1, C.2.1, C.2.2.1, C.2.2.2.1, hts⟩ hM
    ⟨callB_of n hts (zTb_good w5) rfl rfl rfl (hts _ w4) (hts _ w1) ⟨hy1, hy2, hnp⟩ hR, hts _ w2⟩
    ⟨fun a U g mk h => ⟨h.1, hty U (U.calling g mk a) h.2 (State.WarmedH.refl U) (fun _ _ => rfl)⟩, fun U hU hW => ⟨rfl, hty s U hP hW (fun x hx => by rw [hU]; exact hA x hx)⟩⟩
    rfl hn hL rfl (lv_room hw) d ⟨by simpa using hc.1, by simpa using hc.2⟩
  exact j_back hrun hS kk
end ZJ
theorem jStr_sty {A : Nat → Prop} {q v n : Nat} {f : Nat → Int32} : jSty (fun U => jStr A q v n f U U.heap) := fun U U1 h hW hq => jStr_keep h hW.alike (fun a h1 _ => hq a h1)
theorem jt_sty : jSty (fun _ => True) := fun _ _ _ _ _ => trivial
/-! coder, isLatin1, length, charAt -/
theorem j_coder {l : Launch} {q v n : Nat} {f : Nat → Int32} : jM l yJ0_coder_7d493 cJ0_coder_7d493 1 (some .byte) 0 (fun U => jStr jF q v n f U U.heap) [.ref q] (fun r => r = some (.int 0)) := by
  refine jM_of RJ0 (by decide) rfl (Nat.le_of_ble_eq_true rfl) ?_
  intro p e s m args below meth c rl C hr hlk hJ hl
  have hl : lv_has rl 1 [(0, .ref q)] := hl
  refine va_gets (C := "java/lang/String") C.1 C.2.1 hJ.2.2.2.2.2.1 (va_S.rf) C.2.2.2.1 (C.2.2.2.2 _ (zTb_1 58 rfl rfl)) (fun x hx => hx) dJ0_coder_7d493_0 ?_
  refine lv_if_eq (tgt := 13) C.1 C.2.1 dJ0_coder_7d493_3 (by decide) (fun h => absurd h (by decide)) (fun _ => ?_)
  refine lv_aload_n C.1 C.2.1 dJ0_coder_7d493_6 rfl (lv_at hl 0 rfl) ?_
  refine vk_getf C.1 C.2.1 hJ.2.1 va_S.rf C.2.2.2.1 (C.2.2.2.2 _ (zTb_9 45 rfl rfl)) (fun x hx => hx) dJ0_coder_7d493_7 ?_
  refine lv_goto (tgt := 14) C.1 C.2.1 dJ0_coder_7d493_10 (by decide) ?_
  exact W.zret (v := 0) C.1 C.2.1 hr rfl (fun t ht hW => ⟨⟨_, rfl, rfl⟩, va_S.rf.F ht⟩) (fun q h => by cases h) dJ0_coder_7d493_14 hlk
theorem j_isLatin1 {l : Launch} {q v n : Nat} {f : Nat → Int32} : jM l yJ0_isLatin1_aae02 cJ0_isLatin1_aae02 1 (some .boolean) 0 (fun U => jStr jF q v n f U U.heap) [.ref q] (fun r => r = some (.int 1)) := by
  refine jM_of RJ0 (by decide) rfl (Nat.le_of_ble_eq_true rfl) ?_
  intro p e s m args below meth c rl C hr hlk hJ hl
  have hl : lv_has rl 1 [(0, .ref q)] := hl
  refine va_gets (C := "java/lang/String") C.1 C.2.1 hJ.2.2.2.2.2.1 (va_S.rf) C.2.2.2.1 (C.2.2.2.2 _ (zTb_1 58 rfl rfl)) (fun x hx => hx) dJ0_isLatin1_aae02_0 ?_
  refine lv_if_eq (tgt := 17) C.1 C.2.1 dJ0_isLatin1_aae02_3 (by decide) (fun h => absurd h (by decide)) (fun _ => ?_)
  refine lv_aload_n C.1 C.2.1 dJ0_isLatin1_aae02_6 rfl (lv_at hl 0 rfl) ?_
  refine vk_getf C.1 C.2.1 hJ.2.1 va_S.rf C.2.2.2.1 (C.2.2.2.2 _ (zTb_9 45 rfl rfl)) (fun x hx => hx) dJ0_isLatin1_aae02_7 ?_
  refine lv_if_ne (tgt := 17) C.1 C.2.1 dJ0_isLatin1_aae02_10 (by decide) (fun h => absurd h (by decide)) (fun _ => ?_)
  refine lv_iconst (v := 1) C.1 C.2.1 dJ0_isLatin1_aae02_13 (by decide) ?_
  refine lv_goto (tgt := 18) C.1 C.2.1 dJ0_isLatin1_aae02_14 (by decide) ?_
  exact W.zret (v := 1) C.1 C.2.1 hr rfl (fun t ht hW => ⟨⟨_, rfl, rfl⟩, va_S.rf.F ht⟩) (fun q h => by cases h) dJ0_isLatin1_aae02_18 hlk
theorem jw_coder : jWv RJ0 335 yJ0_coder_7d493 RJ0 cJ0_coder_7d493 1 (some .byte) 0 := ⟨⟨(zTb_1 54 rfl rfl), (zTb_1 55 rfl rfl), (zTb_1 56 rfl rfl), (zTb_1 4 rfl rfl), (zTb_1 57 rfl rfl)⟩, by decide +kernel, by decide +kernel, by decide +kernel, by decide +kernel⟩
theorem jw_latin : jWv RJ0 492 yJ0_isLatin1_aae02 RJ0 cJ0_isLatin1_aae02 1 (some .boolean) 0 := ⟨⟨(zTb_1 64 rfl rfl), (zTb_1 65 rfl rfl), (zTb_1 66 rfl rfl), (zTb_1 4 rfl rfl), (zTb_1 67 rfl rfl)⟩, by decide +kernel, by decide +kernel, by decide +kernel, by decide +kernel⟩
theorem jw_length : jWv RX6 32 yJ0_length_8abf5 RJ0 cJ0_length_8abf5 1 (some .int) 0 := ⟨⟨(zTb_1 50 rfl rfl), (zTb_1 51 rfl rfl), (zTb_1 52 rfl rfl), (zTb_1 4 rfl rfl), (zTb_1 53 rfl rfl)⟩, by decide +kernel, by decide +kernel, by decide +kernel, by decide +kernel⟩
theorem jw_charAt : jWv RX6 38 yJ0_charAt_5068e RJ0 cJ0_charAt_5068e 2 (some .char) 1 := ⟨⟨(zTb_1 60 rfl rfl), (zTb_1 61 rfl rfl), (zTb_1 62 rfl rfl), (zTb_1 4 rfl rfl), (zTb_1 63 rfl rfl)⟩, by decide +kernel, by decide +kernel, by decide +kernel, by decide +kernel⟩
theorem jw_lat1 : zWs RJ0 495 yJ1_charAt_3b067 cJ1_charAt_3b067 2 (some .char) 2 := ⟨⟨(zTb_1 68 rfl rfl), (zTb_1 69 rfl rfl), (zTb_1 5 rfl rfl), (zTb_1 70 rfl rfl)⟩, by decide +kernel, by decide +kernel, by decide +kernel⟩
theorem jw_check : zWs RJ1 9 yJ0_checkIndex_df160 cJ0_checkIndex_df160 2 none 2 := ⟨⟨(zTb_1 71 rfl rfl), (zTb_1 72 rfl rfl), (zTb_1 4 rfl rfl), (zTb_1 73 rfl rfl)⟩, by decide +kernel, by decide +kernel, by decide +kernel⟩
theorem jw_prec : zWs RJ0 1059 yJ3_checkIndex_8e157 cJ3_checkIndex_8e157 3 (some .int) 3 := ⟨⟨(zTb_1 76 rfl rfl), (zTb_1 77 rfl rfl), (zTb_1 6 rfl rfl), (zTb_1 78 rfl rfl)⟩, by decide +kernel, by decide +kernel, by decide +kernel⟩
theorem j_length {l : Launch} {q v n : Nat} {f : Nat → Int32} : jM l yJ0_length_8abf5 cJ0_length_8abf5 1 (some .int) 1 (fun U => jStr jF q v n f U U.heap) [.ref q] (fun r => r = some (.int (nI n))) := by
  refine jM_of RJ0 (by decide) rfl (Nat.le_of_ble_eq_true rfl) ?_
  intro p e s m args below meth c rl C hr hlk hJ hl
  have hl : lv_has rl 1 [(0, .ref q)] := hl
  refine lv_aload_n C.1 C.2.1 dJ0_length_8abf5_0 rfl (lv_at hl 0 rfl) ?_
  refine vk_getf C.1 C.2.1 hJ.2.2.1 va_S.rf C.2.2.2.1 (C.2.2.2.2 _ (zTb_9 44 rfl rfl)) (fun x hx => hx) dJ0_length_8abf5_1 ?_
  refine va_tlen C.1 C.2.1 hJ.2.2.2.1 va_S.rf (v := nI n) rfl dJ0_length_8abf5_4 ?_
  refine lv_aload_n C.1 C.2.1 dJ0_length_8abf5_5 rfl (lv_at hl 0 rfl) ?_
  refine j_callV (A := jF) (av := []) (rest := [.int (nI n)]) C dJ0_length_8abf5_6 jw_coder rfl (j_coder (q := q) (v := v) (n := n) (f := f)) hJ jStr_sty (by obtain ⟨cell, h1, h2, h3, -⟩ := hJ.1; exact ⟨cell, h1, h2, h3⟩) va_S.rf (fun _ _ => rfl) rfl hl.1 (by decide) ⟨Nat.zero_le _, Nat.zero_le _⟩ (Nat.le_of_ble_eq_true rfl) (fun r H1 locs1 hr1 hk hS => ?_)
  subst hr1
  refine lv_ishr C.1 C.2.1 dJ0_length_8abf5_9 ?_
  have e9 : nI n >>> ((0 : Int32) &&& 31) = nI n := sc_shr0 hJ.2.2.2.2.1
  first
    | (rw [e9]; exact W.iret (v := nI n) C.1 C.2.1 hr (fun t ht hW => ⟨⟨_, rfl, rfl⟩, hS.F ht⟩) hS.2.2 dJ0_length_8abf5_10 hlk)
    | exact W.iret C.1 C.2.1 hr (fun t ht hW => ⟨⟨_, rfl, by rw [e9]⟩, hS.F ht⟩) hS.2.2 dJ0_length_8abf5_10 hlk
theorem j_prec {l : Launch} {i n : Nat} {w : Value} (hw : w = .null ∨ ∃ a, w = .ref a) (hi : i < n) (hn : n < 2 ^ 31) : jM l yJ3_checkIndex_8e157 cJ3_checkIndex_8e157 3 (some .int) 0 (fun _ => True) [.int (nI i), .int (nI n), w] (fun r => r = some (.int (nI i))) := by
  refine jM_of RJ3 (by decide) rfl (by rcases hw with rfl | ⟨a, rfl⟩ <;> exact Nat.le_of_ble_eq_true rfl) ?_
  intro p e s m args below meth c rl C hr hlk hJ hl
  have hl : lv_has rl 3 [(0, .int (nI i)), (1, .int (nI n))] := by
    refine ⟨hl.1, hl.2.1, fun q hq => hl.2.2 q ?_⟩
    rcases hw with rfl | ⟨a, rfl⟩ <;> (simp only [List.mem_cons, List.not_mem_nil, or_false] at hq; rcases hq with rfl | rfl <;> simp [lv_args, Value.category])
  refine lv_iload_n C.1 C.2.1 dJ3_checkIndex_8e157_0 rfl (lv_at hl 0 rfl) ?_
  refine lv_if_lt (tgt := 9) C.1 C.2.1 dJ3_checkIndex_8e157_1 (by decide) (fun h => absurd h (nI_pos (by omega))) (fun _ => ?_)
  refine lv_iload_n C.1 C.2.1 dJ3_checkIndex_8e157_4 rfl (lv_at hl 0 rfl) ?_
  refine lv_iload_n C.1 C.2.1 dJ3_checkIndex_8e157_5 rfl (lv_at hl 1 rfl) ?_
  refine lv_icmp_lt (tgt := 16) C.1 C.2.1 dJ3_checkIndex_8e157_6 (by decide) (fun _ => ?_) (fun h => absurd (nI_lt hi hn) h)
  refine lv_iload_n C.1 C.2.1 dJ3_checkIndex_8e157_16 rfl (lv_at hl 0 rfl) ?_
  exact W.iret (v := nI i) C.1 C.2.1 hr (fun t ht hW => ⟨⟨_, rfl, rfl⟩, va_S.rf.F ht⟩) (fun q h => by cases h) dJ3_checkIndex_8e157_17 hlk
theorem j_check {l : Launch} {q v n i : Nat} {f : Nat → Int32} (hi : i < n) : jM l yJ0_checkIndex_df160 cJ0_checkIndex_df160 2 none 1 (fun U => jStr jF q v n f U U.heap) [.int (nI i), .int (nI n)] (fun r => r = none) := by
  refine jM_of RJ0 (by decide) rfl (Nat.le_of_ble_eq_true rfl) ?_
  intro p e s m args below meth c rl C hr hlk hJ hl
  have hl : lv_has rl 2 [(0, .int (nI i)), (1, .int (nI n))] := hl
  refine lv_iload_n C.1 C.2.1 dJ0_checkIndex_df160_0 rfl (lv_at hl 0 rfl) ?_
  refine lv_iload_n C.1 C.2.1 dJ0_checkIndex_df160_1 rfl (lv_at hl 1 rfl) ?_
  have key : ∀ w : Value, (w = .null ∨ ∃ a, w = .ref a) → va_Z "jdk/internal/util/Preconditions" "SIOOBE_FORMATTER" "Ljava/util/function/BiFunction;" w jF s s.heap → W p l e (zrm 1) s m args below meth c s.heap [] 0 0 (MQ below (jQ (fun r => r = none)) args s 0 0 jF) (F0 m 2 rl [.int (nI n), .int (nI i)]) := by
    intro w hw hZ
    refine va_gets (C := "jdk/internal/util/Preconditions") C.1 C.2.1 hZ va_S.rf C.2.2.2.1 (C.2.2.2.2 _ (zTb_1 74 rfl rfl)) (fun x hx => hx) dJ0_checkIndex_df160_2 ?_
    refine j_callS (A := jF) (av := [.int (nI i), .int (nI n), w]) (rest := []) C dJ0_checkIndex_df160_5 jw_prec rfl (j_prec hw hi hJ.2.2.2.2.1) trivial jt_sty va_S.rf (fun _ _ => rfl) rfl hl.1 (by decide) ⟨Nat.zero_le _, Nat.zero_le _⟩ (Nat.le_of_ble_eq_true rfl) (fun r H1 locs1 hr1 hk hS => ?_)
    subst hr1
    refine lv_pop C.1 C.2.1 dJ0_checkIndex_df160_8 rfl ?_
    exact W.vret C.1 C.2.1 hr (fun t ht hW => ⟨⟨_, rfl, rfl⟩, hS.F ht⟩) hS.2.2 dJ0_checkIndex_df160_9 hlk
  rcases hJ.2.2.2.2.2.2 with h | ⟨a, h⟩
  · exact key _ (Or.inl rfl) h
  · exact key _ (Or.inr ⟨a, rfl⟩) h
theorem j_lat1 {l : Launch} {q v n i : Nat} {f : Nat → Int32} (hi : i < n) : jM l yJ1_charAt_3b067 cJ1_charAt_3b067 2 (some .char) 2 (fun U => jStr jF q v n f U U.heap) [.ref v, .int (nI i)] (fun r => r = some (.int (f i &&& 255))) := by
  refine jM_of RJ1 (by decide) rfl (Nat.le_of_ble_eq_true rfl) ?_
  intro p e s m args below meth c rl C hr hlk hJ hl
  have hn := hJ.2.2.2.2.1
  have hl : lv_has rl 2 [(0, .ref v), (1, .int (nI i))] := hl
  refine lv_iload_n C.1 C.2.1 dJ1_charAt_3b067_0 rfl (lv_at hl 1 rfl) ?_
  refine lv_aload_n C.1 C.2.1 dJ1_charAt_3b067_1 rfl (lv_at hl 0 rfl) ?_
  refine va_tlen C.1 C.2.1 hJ.2.2.2.1 va_S.rf (v := nI n) rfl dJ1_charAt_3b067_2 ?_
  refine j_callS (A := jF) (av := [.int (nI i), .int (nI n)]) (rest := []) C dJ1_charAt_3b067_3 jw_check rfl (j_check (q := q) (v := v) (f := f) hi) hJ jStr_sty va_S.rf (fun _ _ => rfl) rfl hl.1 (by decide) ⟨Nat.zero_le _, Nat.zero_le _⟩ (Nat.le_of_ble_eq_true rfl) (fun r H1 locs1 hr1 hk hS => ?_)
  subst hr1
  refine lv_aload_n C.1 C.2.1 dJ1_charAt_3b067_6 rfl (lv_at hl 0 rfl) ?_
  refine lv_iload_n C.1 C.2.1 dJ1_charAt_3b067_7 rfl (lv_at hl 1 rfl) ?_
  refine va_tb C.1 C.2.1 hJ.2.2.2.1 hS (vp_in_nI hi hn) (v := .int (f i)) (by rw [nI_clamp (by omega)]) dJ1_charAt_3b067_8 ?_
  refine lv_sipush (v := 255) C.1 C.2.1 dJ1_charAt_3b067_9 (by decide) ?_
  refine lv_iand C.1 C.2.1 dJ1_charAt_3b067_12 ?_
  refine lv_i2c C.1 C.2.1 dJ1_charAt_3b067_13 (sc_c2 (f i)) ?_
  exact W.zret (v := f i &&& 255) C.1 C.2.1 hr (sc_nar (f i)) (fun t ht hW => ⟨⟨_, rfl, rfl⟩, hS.F ht⟩) hS.2.2 dJ1_charAt_3b067_14 hlk
theorem j_charAt {l : Launch} {q v n i : Nat} {f : Nat → Int32} (hi : i < n) : jM l yJ0_charAt_5068e cJ0_charAt_5068e 2 (some .char) 3 (fun U => jStr jF q v n f U U.heap) [.ref q, .int (nI i)] (fun r => r = some (.int (f i &&& 255))) := by
  refine jM_of RJ0 (by decide) rfl (Nat.le_of_ble_eq_true rfl) ?_
  intro p e s m args below meth c rl C hr hlk hJ hl
  have hl : lv_has rl 2 [(0, .ref q), (1, .int (nI i))] := hl
  refine lv_aload_n C.1 C.2.1 dJ0_charAt_5068e_0 rfl (lv_at hl 0 rfl) ?_
  refine j_callV (A := jF) (av := []) (rest := []) C dJ0_charAt_5068e_1 jw_latin rfl (j_isLatin1 (q := q) (v := v) (n := n) (f := f)) hJ jStr_sty (by obtain ⟨cell, h1, h2, h3, -⟩ := hJ.1; exact ⟨cell, h1, h2, h3⟩) va_S.rf (fun _ _ => rfl) rfl hl.1 (by decide) ⟨Nat.zero_le _, Nat.zero_le _⟩ (Nat.le_of_ble_eq_true rfl) (fun r H1 locs1 hr1 hk hS => ?_)
  subst hr1
  refine lv_if_eq (tgt := 16) C.1 C.2.1 dJ0_charAt_5068e_4 (by decide) (fun h => absurd h (by decide)) (fun _ => ?_)
  refine lv_aload_n C.1 C.2.1 dJ0_charAt_5068e_7 rfl (lv_at hl 0 rfl) ?_
  refine vk_getf C.1 C.2.1 hJ.2.2.1 hS C.2.2.2.1 (C.2.2.2.2 _ (zTb_9 44 rfl rfl)) (fun x hx => hx) dJ0_charAt_5068e_8 ?_
  refine lv_iload_n C.1 C.2.1 dJ0_charAt_5068e_11 rfl (lv_at hl 1 rfl) ?_
  refine j_callS (A := jF) (av := [.ref v, .int (nI i)]) (rest := []) C dJ0_charAt_5068e_12 jw_lat1 rfl (j_lat1 (q := q) (v := v) (f := f) hi) hJ jStr_sty hS hk rfl hl.1 (by decide) ⟨Nat.zero_le _, Nat.zero_le _⟩ (Nat.le_of_ble_eq_true rfl) (fun r H2 locs2 hr2 hk2 hS2 => ?_)
  subst hr2
  exact W.zret (v := f i &&& 255) C.1 C.2.1 hr (sc_nar (f i)) (fun t ht hW => ⟨⟨_, rfl, rfl⟩, hS2.F ht⟩) hS2.2.2 dJ0_charAt_5068e_15 hlk
/-! the same in the ideal machine -/
def zMt (l : Launch) (Γ : zΓ) (T : State → Prop) (y : MethodName) (b : ByteArray) (mx : Nat) (ret : Option FieldType) (lv : Nat) (av : List zV) (G : zH) (post : Option zV → zH → Prop) : Prop :=
  Met l y (Cond.code y b mx ret :: zTb) (zrm lv) (fun v U => zPc Γ av G v U ∧ T U) (zQc Γ post) 0 0 (zA Γ)
section ZK
variable {p : Program} {l : Launch} {e : Env} {R : Room} {s : State} {m : MethodId} {args : Array Value} {below : List Frame} {meth : Method} {c : Code} {Γ : zΓ} {cc : ByteArray} {nL : Nat} {own : String} {cells slots : Nat} {Q : State → Prop} {pc : Nat} {ls : List (Option zV)} {st : List zV} {G : zH}
theorem zMt_of {T : State → Prop} {y : MethodName} {b : ByteArray} {mx lv : Nat} {ret : Option FieldType} {av : List zV} {post : Option zV → zH → Prop} (own : String) (hX : zXs Γ) (hy : plainName y.cls = true) (ho : y.cls = own) (hlen : (lg_sl (av.map zc)).length ≤ mx)
    (body : ∀ (p : Program) (e : Env) (s : State) (m : MethodId) (args : Array Value) (below : List Frame) (meth : Method) (c : Code), zCx p s m args c Γ b mx own → meth.sig.returnType = ret → meth.locks = false → T s →
      Z p l e (zrm lv) s m args below meth c Γ mx 0 0 (MQ below (zQc Γ post) args s 0 0 (zA Γ)) 0 (zent av mx) [] G) :
    zMt l Γ T y b mx ret lv av G post := by
  refine Met.ofW (cc := b) (maxL := mx) (ret := ret) hy rfl ?_
  intro p e s m args below meth c s₁ B hml hv
  obtain ⟨⟨rfl, hSt, hG, hk, hP⟩, hT⟩ := hv
  have hts := atoms_spec (ws := Cond.code y b mx ret :: zTb) B.pre
  have hown : s.vm.findClass own = some m.cls := ho ▸ findClass_of_methodNamed B.named
  have hl := lv_entry (av.map zc) (n := mx) hlen
  rw [lg_entry_eq]
  generalize (lg_sl (av.map zc) ++ List.replicate (mx - (lg_sl (av.map zc)).length) Slot.unset).toArray = rl at hl ⊢
  exact body p e s m (av.map zc).toArray below meth c ⟨B.exec, B.bytes, hml, hown, fun w hw => hts w (List.mem_cons_of_mem _ hw), hSt, hX⟩ B.returns B.notSynchronized hT hG (fun v hv => hk v (zent_in hv)) (fun v hv => by cases hv) s.heap [] rl hP va_S.rf ⟨hl.1, hl.2.1, fun i v hi => hl.2.2 _ (zent_args hi)⟩
theorem zi_nI {n : Nat} : Int32.ofInt (n : Int) = nI n := by
  exact Int32.ofInt_eq_ofNat
theorem zs_slen (C : zCx p s m args c Γ cc nL own) {q v n t idx : Nat} {f : Nat → Int32} (hJ : jStr (zA Γ) q v n f s s.heap) (d : decode cc pc = .ok (.invokevirtual idx, 3)) (w : jWv own idx yJ0_length_8abf5 RJ0 cJ0_length_8abf5 1 (some .int) 0) (hR : 2 ≤ R.frames ∧ 60 ≤ R.locals) (hc : cells ≤ R.cells ∧ slots ≤ R.slots) (hw : ((st.map zc).map fun v => v.category).sum ≤ 8)
    (kk : Z p l e R s m args below meth c Γ nL cells slots Q (pc + 3) ls (zi n :: st) G) : Z p l e R s m args below meth c Γ nL cells slots Q pc ls (zr t q :: st) G := by
  intro hG hl hs H locs rl hP hS hL
  have hJF := jStr_nar hJ (B := jF) (fun _ h => h.elim)
  obtain ⟨cell, h1, h2, h3, h4⟩ := hJ.1
  have hq : H[q]? = some cell := by rw [hS.2.1 q (Array.getElem?_eq_some_iff.mp h1).1 h4]; exact h1
  have hrun := va_runV (H := H) (e := e) (below := below) (meth := meth) (locs := locs) (cells := cells) (slots := slots) (As := []) (rest := st.map zc) (b := q) (C := RJ0) (g := F0 m pc rl ((zr t q :: st).map zc)) (n := 0) ⟨C.1, C.2.1, C.2.2.1, C.2.2.2.1, C.2.2.2.2.1⟩ (j_length (l := l) (q := q) (v := v) (n := n) (f := f))
    ⟨callB_of 0 C.2.2.2.2.1 (zTb_good w.1.2.2.2.2) rfl rfl rfl (by rw [w.2.1]; exact C.2.2.2.2.1 _ w.1.2.2.2.1) (C.2.2.2.2.1 _ w.1.1) w.2.2 (by show 1 + 1 ≤ R.frames ∧ 8 + (1 + 11) + 40 * 1 ≤ R.locals; omega), C.2.2.2.2.1 _ w.1.2.1, C.2.2.2.2.1 _ w.1.2.2.1⟩
    ⟨fun a U g mk h => ⟨h.1, jStr_keep (U := U) (U1 := U.calling g mk a) h.2 (Vm.Alike.refl U.vm) (fun _ _ _ => rfl)⟩, ⟨cell, hq, h2, h3⟩, fun U hU hW => ⟨rfl, jStr_nar (jStr_keep hJ hW.alike (fun x y1 y2 => by rw [hU]; exact hS.2.1 x y1 y2)) (fun _ h => h.elim)⟩⟩
    rfl rfl hL.1 rfl (lv_room hw) d ⟨by simpa using hc.1, by simpa using hc.2⟩
  have hn := hJ.2.2.2.2.1
  refine j_back hrun hS (fun r H1 locs1 hr1 hk hS1 => ?_)
  subst hr1
  have h9 := kk hG hl (zs_cons (v := zi n) ⟨by omega, by omega⟩ (zs_tl hs)) H1 locs1 rl (hP.kept (fun k x hx => hk x.1 (hP k x hx).lt)) hS1 hL
  rw [List.map_cons, show zc (zi (n : Int)) = .int (nI n) from congrArg Value.int zi_nI] at h9
  exact h9
theorem zs_schar (C : zCx p s m args c Γ cc nL own) {q v n t idx : Nat} {x : Int} {f : Nat → Int32} (hJ : jStr (zA Γ) q v n f s s.heap) (hx : 0 ≤ x ∧ x < n) (d : decode cc pc = .ok (.invokevirtual idx, 3)) (w : jWv own idx yJ0_charAt_5068e RJ0 cJ0_charAt_5068e 2 (some .char) 1) (hR : 4 ≤ R.frames ∧ 150 ≤ R.locals) (hc : cells ≤ R.cells ∧ slots ≤ R.slots) (hw : ((st.map zc).map fun v => v.category).sum ≤ 8)
    (kk : ∀ z : Int, -2147483648 ≤ z → z ≤ 2147483647 → Z p l e R s m args below meth c Γ nL cells slots Q (pc + 3) ls (zi z :: st) G) : Z p l e R s m args below meth c Γ nL cells slots Q pc ls (zi x :: zr t q :: st) G := by
  intro hG hl hs H locs rl hP hS hL
  obtain ⟨i, rfl⟩ : ∃ i : Nat, x = i := ⟨x.toNat, by omega⟩
  obtain ⟨cell, h1, h2, h3, h4⟩ := hJ.1
  have hq : H[q]? = some cell := by rw [hS.2.1 q (Array.getElem?_eq_some_iff.mp h1).1 h4]; exact h1
  have hrun := va_runV (H := H) (e := e) (below := below) (meth := meth) (locs := locs) (cells := cells) (slots := slots) (As := [.int (nI i)]) (rest := st.map zc) (b := q) (C := RJ0) (g := F0 m pc rl ((zi i :: zr t q :: st).map zc)) (n := 1) ⟨C.1, C.2.1, C.2.2.1, C.2.2.2.1, C.2.2.2.2.1⟩ (j_charAt (l := l) (q := q) (v := v) (n := n) (i := i) (f := f) (by omega))
    ⟨callB_of 1 C.2.2.2.2.1 (zTb_good w.1.2.2.2.2) rfl rfl rfl (by rw [w.2.1]; exact C.2.2.2.2.1 _ w.1.2.2.2.1) (C.2.2.2.2.1 _ w.1.1) w.2.2 (by show 3 + 1 ≤ R.frames ∧ 8 + (2 + 11) + 40 * 3 ≤ R.locals; omega), C.2.2.2.2.1 _ w.1.2.1, C.2.2.2.2.1 _ w.1.2.2.1⟩
    ⟨fun a U g mk h => ⟨h.1, jStr_keep (U := U) (U1 := U.calling g mk a) h.2 (Vm.Alike.refl U.vm) (fun _ _ _ => rfl)⟩, ⟨cell, hq, h2, h3⟩, fun U hU hW => ⟨rfl, jStr_nar (jStr_keep hJ hW.alike (fun x y1 y2 => by rw [hU]; exact hS.2.1 x y1 y2)) (fun _ h => h.elim)⟩⟩
    rfl rfl hL.1 (by rw [List.map_cons, List.map_cons, show zc (zi (i : Int)) = .int (nI i) from congrArg Value.int zi_nI]; rfl) (lv_room hw) d ⟨by simpa using hc.1, by simpa using hc.2⟩
  refine j_back hrun hS (fun r H1 locs1 hr1 hk hS1 => ?_)
  subst hr1
  have e1 := Int32.le_toInt (f i &&& 255)
  have e2 := Int32.toInt_lt (f i &&& 255)
  have h9 := kk (f i &&& 255).toInt (by omega) (by omega) hG hl (zs_cons (v := zi (f i &&& 255).toInt) ⟨by omega, by omega⟩ (zs_tl (zs_tl hs))) H1 locs1 rl (hP.kept (fun k x hx => hk x.1 (hP k x hx).lt)) hS1 hL
  rw [List.map_cons, show zc (zi (f i &&& 255).toInt) = .int (f i &&& 255) from congrArg Value.int (Int32.ofInt_toInt _)] at h9
  exact h9
end ZK
