/-! the judgement while things are made -/
/-- the arrays outside, and the texts: below b -/
def zXb (b : Nat) (o : (Nat → Nat) × (Nat → Nat) × (Nat → Nat → Int)) (U : State) (H : Heap) : Prop :=
  (va_Z "ConfessionMill" "MOST" "[I" (.ref (o.1 0)) (zAb b) U H ∧ va_Z "ConfessionMill$Reader" "BINDS" "[I" (.ref (o.1 1)) (zAb b) U H ∧
  ∀ e, e < 3 → va_T .int (o.1 e) (o.2.1 e) (fun j => .int (Int32.ofInt (o.2.2 e j))) (zAb b) U H ∧ (∀ j, -2147483648 ≤ o.2.2 e j ∧ o.2.2 e j ≤ 2147483647) ∧ o.2.1 e < 2147483648)
theorem zXb_keep {b : Nat} {o : (Nat → Nat) × (Nat → Nat) × (Nat → Nat → Int)} {U U1 : State} {H H1 : Heap} (h : zXb b o U H) (hvm : U.vm.Alike U1.vm) (hq : ∀ a : Nat, a < H.size → ¬ zAb b a → H1[a]? = H[a]?) : zXb b o U1 H1 :=
  ⟨(h.1.moved hvm).kept hq, (h.2.1.moved hvm).kept hq, fun e he => ⟨((h.2.2 e he).1.moved hvm).kept hq, (h.2.2 e he).2⟩⟩
theorem zXb_f {b : Nat} {Γ : zΓ} {U : State} {H : Heap} (h : zXb b Γ.2.2.2.2.2 U H) (hA : ∀ q, zA Γ q → zAb b q) : zXf Γ U H :=
  ⟨h.1.narrow hA, h.2.1.narrow hA, fun e he => ⟨(h.2.2 e he).1.narrow hA, (h.2.2 e he).2⟩⟩
/-- links of private constructors in the nest -/
def zNc : List (String × Nat × MethodName × String) := [(RX8, 17, yX3_init, RX8), (RX3, 20, yX5_init, RX8), (RX5, 11, yX1_init, RX8), (RX8, 24, yX5_init, RX8), (RX7, 11, yX4_init, RX8), (RX8, 55, yX0_init, RX8)]
def zNm (U : State) : Prop := ∀ q ∈ zNc, va_Nw (.methodLinkNest q.1 q.2.1 q.2.2.1 q.2.2.2) U
def zrC (lv mc ms : Nat) : Room := { frames := lv, cells := mc, slots := ms, locals := 40 * lv }
/-- what stands while a constructor goes -/
def zCv (p : Program) (s : State) (m : MethodId) (args : Array Value) (c : Code) (Γ : zΓ) (b : Nat) (cc : ByteArray) (nL : Nat) (own : String) : Prop :=
  p.tables.exec = Jvm.exec ∧ c.code = cc ∧ c.maxLocals = nL ∧ s.vm.findClass own = some m.cls ∧ (∀ w ∈ zTb, w.before args s = true) ∧ va_K Γ.2.2.2.1 vwCl (ztys Γ) s ∧ (zXb b Γ.2.2.2.2.2 s s.heap ∧ zNk s ∧ zNm s) ∧ b ≤ s.heap.size ∧ zXs Γ
def V (p : Program) (l : Launch) (e : Env) (R : Room) (s : State) (m : MethodId) (args : Array Value) (below : List Frame) (meth : Method) (c : Code) (b : Nat) (D : va_G) (nL cells slots : Nat) (Q : State → Prop) (pc : Nat) (ls : List (Option zV)) (st : List zV) (ws : va_W) : Prop :=
  ∀ (H : Heap) (locs : List Loc) (rl : Array Slot), va_P D vwCl ws H → va_D (zAb b) ws → va_S (zAb b) s.heap H locs → zL rl nL ls → W p l e R s m args below meth c H locs cells slots Q (F0 m pc rl (st.map zc))
theorem zCv_x {p : Program} {s : State} {m : MethodId} {args : Array Value} {c : Code} {Γ Γ' : zΓ} {b : Nat} {cc : ByteArray} {nL : Nat} {own : String} (C : zCv p s m args c Γ b cc nL own) (hx : zxt Γ Γ') : zCv p s m args c Γ' b cc nL own := by
  obtain ⟨h1, h2, h3, h4, h5, h6, h7, h8, h9⟩ := C
  refine ⟨h1, h2, h3, h4, h5, ?_, ?_, h8, zxt_Xs hx h9⟩
  · unfold ztys
    rw [hx.1, hx.2.1]
    exact h6
  · rw [hx.2.2.1]
    exact h7
theorem zFu_set {t k : Nat} {S S' : Nat → Bool} {fr fr' : Nat → Nat} {iv iv' : Nat → Int} {v : Value} (hv : v = zFu t S' fr' iv' k) (hn : ∀ j, j ≠ k → zFu t S' fr' iv' j = zFu t S fr iv j) : ((List.range (zN t)).map (zFu t S fr iv)).set k v = (List.range (zN t)).map (zFu t S' fr' iv') := by
  apply List.ext_getElem?
  intro j
  rw [List.getElem?_set]
  by_cases hj : j < zN t
  · by_cases hk : k = j
    · subst hk
      simp [hj, hv]
    · rw [if_neg hk]
      simp [hj, hn j (Ne.symm hk)]
  · by_cases hk : k = j
    · subst hk
      simp [hj]
    · rw [if_neg hk]
      simp [hj]
set_option maxRecDepth 100000 in
theorem zO0_ok {t : Nat} (h1 : 1 ≤ t) (h2 : t ≤ 10) : ∀ j, j < zN t → defaultValue (zty0 t j) = vp_V ((List.range (zN t)).map (zFu t (fun _ => false) (fun _ => 0) (fun _ => 0))) j :=
  zt_cases (P := fun t => ∀ j, j < zN t → defaultValue (zty0 t j) = vp_V ((List.range (zN t)).map (zFu t (fun _ => false) (fun _ => 0) (fun _ => 0))) j) h1 h2 (by decide +kernel) (by decide +kernel) (by decide +kernel) (by decide +kernel) (by decide +kernel) (by decide +kernel) (by decide +kernel) (by decide +kernel) (by decide +kernel) (by decide +kernel)
theorem zfresh {A : Nat → Prop} {Y : va_W} {Γ : zΓ} {G : zH} {q : Nat} {e : va_E} (hL : zLok Γ) (hD : va_D A ((Y ++ zWd Γ G) ++ [(q, e)])) : Γ.1 q = 0 := by
  rcases Nat.decEq (Γ.1 q) 0 with h | h
  · exfalso
    have hm : q ∈ Γ.2.2.2.2.1 := (hL.2.1 q).mpr h
    have h1 : (q, zE Γ G q) ∈ zWd Γ G := List.mem_map.mpr ⟨q, hm, rfl⟩
    obtain ⟨i, hi⟩ := List.getElem?_of_mem (List.mem_append_right Y h1)
    have hi2 := (List.getElem?_eq_some_iff.mp hi).1
    have h2 := hD.1 i (Y ++ zWd Γ G).length (q, zE Γ G q) (q, e) (by rw [List.getElem?_append_left hi2]; exact hi) (by rw [List.getElem?_append_right (Nat.le_refl _), Nat.sub_self]; rfl) rfl
    omega
  · exact h
theorem zfresh0 {A : Nat → Prop} {Y : va_W} {Γ : zΓ} {G : zH} {q : Nat} {e : va_E} (hL : zLok Γ) (hD : va_D A ((q, e) :: (Y ++ zWd Γ G))) : Γ.1 q = 0 :=
  zfresh hL (zD_perm hD (List.perm_append_singleton (q, e) (Y ++ zWd Γ G)))
section ZV
variable {p : Program} {l : Launch} {e : Env} {R : Room} {s : State} {m : MethodId} {args : Array Value} {below : List Frame} {meth : Method} {c : Code} {Γ : zΓ} {b : Nat} {cc : ByteArray} {nL : Nat} {own : String} {cells slots : Nat} {Q : State → Prop} {pc : Nat} {ls : List (Option zV)} {st : List zV} {G : zH} {ws Y : va_W} {D : va_G}
theorem v_aload_n (C : zCv p s m args c Γ b cc nL own) {k : Fin 4} {t a : Nat} (d : decode cc pc = .ok (.aload_n k, 1)) (h : ls[(k : Nat)]? = some (some (zr t a))) (kk : V p l e R s m args below meth c b D nL cells slots Q (pc + 1) ls (zr t a :: st) ws) : V p l e R s m args below meth c b D nL cells slots Q pc ls st ws := by
  intro H locs rl hP hD hS hL
  exact lv_aload_n C.1 C.2.1 d rfl (hL.2.2 _ _ h) (kk H locs rl hP hD hS hL)
theorem v_iconst (C : zCv p s m args c Γ b cc nL own) {n : Int} (d : decode cc pc = .ok (.iconst n, 1)) (kk : V p l e R s m args below meth c b D nL cells slots Q (pc + 1) ls (zi n :: st) ws) : V p l e R s m args below meth c b D nL cells slots Q pc ls st ws := by
  intro H locs rl hP hD hS hL
  exact lv_iconst C.1 C.2.1 d rfl (kk H locs rl hP hD hS hL)
theorem v_bipush (C : zCv p s m args c Γ b cc nL own) {n : Int} (d : decode cc pc = .ok (.bipush n, 2)) (hv : (Int8.ofInt n).toInt32 = Int32.ofInt n) (kk : V p l e R s m args below meth c b D nL cells slots Q (pc + 2) ls (zi n :: st) ws) : V p l e R s m args below meth c b D nL cells slots Q pc ls st ws := by
  intro H locs rl hP hD hS hL
  exact lv_bipush C.1 C.2.1 d hv (kk H locs rl hP hD hS hL)
theorem v_sipush (C : zCv p s m args c Γ b cc nL own) {n : Int} (d : decode cc pc = .ok (.sipush n, 3)) (hv : (Int16.ofInt n).toInt32 = Int32.ofInt n) (kk : V p l e R s m args below meth c b D nL cells slots Q (pc + 3) ls (zi n :: st) ws) : V p l e R s m args below meth c b D nL cells slots Q pc ls st ws := by
  intro H locs rl hP hD hS hL
  exact lv_sipush C.1 C.2.1 d hv (kk H locs rl hP hD hS hL)
theorem v_dup (C : zCv p s m args c Γ b cc nL own) {t a : Nat} (d : decode cc pc = .ok (.dup, 1)) (kk : V p l e R s m args below meth c b D nL cells slots Q (pc + 1) ls (zr t a :: zr t a :: st) ws) : V p l e R s m args below meth c b D nL cells slots Q pc ls (zr t a :: st) ws := by
  intro H locs rl hP hD hS hL
  exact lv_dup C.1 C.2.1 d rfl (kk H locs rl hP hD hS hL)
theorem v_popi (C : zCv p s m args c Γ b cc nL own) {x : Int} (d : decode cc pc = .ok (.pop, 1)) (kk : V p l e R s m args below meth c b D nL cells slots Q (pc + 1) ls st ws) : V p l e R s m args below meth c b D nL cells slots Q pc ls (zi x :: st) ws := by
  intro H locs rl hP hD hS hL
  exact lv_pop C.1 C.2.1 d rfl (kk H locs rl hP hD hS hL)
theorem v_obj (C : zCv p s m args c Γ b cc nL own) {idx t a : Nat} (d : decode cc pc = .ok (.invokespecial idx, 3)) (w1 : Cond.methodLink own idx Lib.objectInit ∈ zTb) (w2 : Cond.instanceMethod Lib.objectInit ∈ zTb) (w3 : Cond.code Lib.objectInit ⟨#[0xb1]⟩ 1 none ∈ zTb) (hR : 1 ≤ R.frames ∧ 20 ≤ R.locals) (hw : ((st.map zc).map fun v => v.category).sum ≤ 8) (kk : V p l e R s m args below meth c b D nL cells slots Q (pc + 3) ls st ws) : V p l e R s m args below meth c b D nL cells slots Q pc ls (zr t a :: st) ws := by
  intro H locs rl hP hD hS hL
  refine W.objInit C.1 C.2.1 C.2.2.2.1 (C.2.2.2.2.1 _ w1) (C.2.2.2.2.1 _ w2) (C.2.2.2.2.1 _ w3) rfl (by rw [C.2.2.1]; exact hL.1) rfl d hR.1 ?_ (kk H locs rl hP hD hS hL)
  have h9 := lv_room (m := m) (pc := pc) (ls := rl) (rest := (zr t a :: st).map zc) hw
  omega
/-- a new array of ints -/
theorem v_newi (C : zCv p s m args c Γ b cc nL own) (hB : zBn Γ G) (t : Nat) {n : Nat} (d : decode cc pc = .ok (.newarray .int, 2)) (w : Cond.arrayClass .int ∈ zTb) (hz : zat t = (0, n)) (hn : (n : Int) < 100000) (h58 : t ≠ 58) (hc : cells + 1 ≤ R.cells ∧ slots + n ≤ R.slots)
    (kk : ∀ q : Nat, Γ.1 q = 0 → zBn (zad Γ q t (fun _ => 0)) G → V p l e R s m args below meth c b Γ.2.2.2.1 nL (cells + 1) (slots + n) Q (pc + 2) ls (zr t q :: st) (Y ++ zWd (zad Γ q t (fun _ => 0)) G)) : V p l e R s m args below meth c b Γ.2.2.2.1 nL cells slots Q pc ls (zi n :: st) (Y ++ zWd Γ G) := by
  intro H locs rl hP hD hS hL
  have hK := C.2.2.2.2.2.1
  have ht : 11 ≤ t := by
    rcases Nat.lt_or_ge t 11 with q | q
    · rw [zat, if_pos q] at hz
      cases hz
    · exact q
  refine va_newa (atype := .int) (ty := .int) C.1 C.2.1 (C.2.2.2.2.1 _ w) rfl hK hP hD hS (fun q h => Nat.le_trans C.2.2.2.2.2.2.2.1 h) (N' := n) (a0 := (n, .inl (fun _ => 0))) (fun cA => rfl) (fun h => ?_) (by rw [zi_nat (by omega) (by omega)]; omega) (by show n * 4 ≤ 536870912; omega) hc.1 hc.2 d (fun q cA H1 hK1 hP1 hD1 hS1 => ?_)
  · rw [zi_0, zi_lt (by omega) (by omega)] at h
    omega
  · have hq : Γ.1 q = 0 := zfresh hB.1 hD1
    have e1 : cA = Γ.2.2.1 0 := Option.some.inj ((hK1.2 3 (cA, .int) rfl).2.symm.trans (hK.2 0 (Γ.2.2.1 0, .int) rfl).2)
    have e2 : zE (zad Γ q t (fun _ => 0)) G q = .inl (cA, n, .inl (fun _ => 0)) := by
      rw [zE_int (zad_q Γ q t _) hz, e1]
      refine congrArg (fun f => Sum.inl (Γ.2.2.1 0, n, Sum.inl f)) (funext (fun j => ?_))
      rw [(hB.2.2 q hq).1, zdf, if_neg (by omega)]
      rfl
    have e3 : Y ++ zWd (zad Γ q t (fun _ => 0)) G = (Y ++ zWd Γ G) ++ [(q, .inl (cA, n, .inl (fun _ => 0)))] := by
      rw [zWd_ad hB.1 hq (fun _ _ => rfl), e2, List.append_assoc]
    rw [← e3] at hP1 hD1
    exact kk q hq (zBn_arr hB hq ht) H1 locs rl hP1 hD1 hS1 hL
/-- a new array of longs -/
theorem v_newj (C : zCv p s m args c Γ b cc nL own) (hB : zBn Γ G) (t : Nat) {n : Nat} (d : decode cc pc = .ok (.newarray .long, 2)) (w : Cond.arrayClass .long ∈ zTb) (hz : zat t = (1, n)) (hn : (n : Int) < 100000) (hc : cells + 1 ≤ R.cells ∧ slots + n ≤ R.slots)
    (kk : ∀ q : Nat, Γ.1 q = 0 → zBn (zad Γ q t (fun _ => 0)) G → V p l e R s m args below meth c b Γ.2.2.2.1 nL (cells + 1) (slots + n) Q (pc + 2) ls (zr t q :: st) (Y ++ zWd (zad Γ q t (fun _ => 0)) G)) : V p l e R s m args below meth c b Γ.2.2.2.1 nL cells slots Q pc ls (zi n :: st) (Y ++ zWd Γ G) := by
  intro H locs rl hP hD hS hL
  have hK := C.2.2.2.2.2.1
  have ht : 11 ≤ t := by
    rcases Nat.lt_or_ge t 11 with q | q
    · rw [zat, if_pos q] at hz
      cases hz
    · exact q
  refine va_newa (atype := .long) (ty := .long) C.1 C.2.1 (C.2.2.2.2.1 _ w) rfl hK hP hD hS (fun q h => Nat.le_trans C.2.2.2.2.2.2.2.1 h) (N' := n) (a0 := (n, .inr (.inl (fun _ => 0)))) (fun cA => rfl) (fun h => ?_) (by rw [zi_nat (by omega) (by omega)]; omega) (by show n * 8 ≤ 536870912; omega) hc.1 hc.2 d (fun q cA H1 hK1 hP1 hD1 hS1 => ?_)
  · rw [zi_0, zi_lt (by omega) (by omega)] at h
    omega
  · have hq : Γ.1 q = 0 := zfresh hB.1 hD1
    have e1 : cA = Γ.2.2.1 1 := Option.some.inj ((hK1.2 3 (cA, .long) rfl).2.symm.trans (hK.2 1 (Γ.2.2.1 1, .long) rfl).2)
    have e2 : zE (zad Γ q t (fun _ => 0)) G q = .inl (cA, n, .inr (.inl (fun _ => 0))) := by
      rw [zE_long (zad_q Γ q t _) hz, e1]
      refine congrArg (fun f => Sum.inl (Γ.2.2.1 1, n, Sum.inr (Sum.inl f))) (funext (fun j => ?_))
      rw [(hB.2.2 q hq).2]
      rfl
    have e3 : Y ++ zWd (zad Γ q t (fun _ => 0)) G = (Y ++ zWd Γ G) ++ [(q, .inl (cA, n, .inr (.inl (fun _ => 0))))] := by
      rw [zWd_ad hB.1 hq (fun _ _ => rfl), e2, List.append_assoc]
    rw [← e3] at hP1 hD1
    exact kk q hq (zBn_arr hB hq ht) H1 locs rl hP1 hD1 hS1 hL
/-- a new array of booleans -/
theorem v_newz (C : zCv p s m args c Γ b cc nL own) (hB : zBn Γ G) (t : Nat) {n : Nat} (d : decode cc pc = .ok (.newarray .boolean, 2)) (w : Cond.arrayClass .boolean ∈ zTb) (hz : zat t = (2, n)) (hn : (n : Int) < 100000) (h58 : t ≠ 58) (hc : cells + 1 ≤ R.cells ∧ slots + n ≤ R.slots)
    (kk : ∀ q : Nat, Γ.1 q = 0 → zBn (zad Γ q t (fun _ => 0)) G → V p l e R s m args below meth c b Γ.2.2.2.1 nL (cells + 1) (slots + n) Q (pc + 2) ls (zr t q :: st) (Y ++ zWd (zad Γ q t (fun _ => 0)) G)) : V p l e R s m args below meth c b Γ.2.2.2.1 nL cells slots Q pc ls (zi n :: st) (Y ++ zWd Γ G) := by
  intro H locs rl hP hD hS hL
  have hK := C.2.2.2.2.2.1
  have ht : 11 ≤ t := by
    rcases Nat.lt_or_ge t 11 with q | q
    · rw [zat, if_pos q] at hz
      cases hz
    · exact q
  refine va_newa (atype := .boolean) (ty := .boolean) C.1 C.2.1 (C.2.2.2.2.1 _ w) rfl hK hP hD hS (fun q h => Nat.le_trans C.2.2.2.2.2.2.2.1 h) (N' := n) (a0 := (n, .inl (fun _ => 0))) (fun cA => rfl) (fun h => ?_) (by rw [zi_nat (by omega) (by omega)]; omega) (by show n * 1 ≤ 536870912; omega) hc.1 hc.2 d (fun q cA H1 hK1 hP1 hD1 hS1 => ?_)
  · rw [zi_0, zi_lt (by omega) (by omega)] at h
    omega
  · have hq : Γ.1 q = 0 := zfresh hB.1 hD1
    have e1 : cA = Γ.2.2.1 2 := Option.some.inj ((hK1.2 3 (cA, .boolean) rfl).2.symm.trans (hK.2 2 (Γ.2.2.1 2, .boolean) rfl).2)
    have e2 : zE (zad Γ q t (fun _ => 0)) G q = .inl (cA, n, .inl (fun _ => 0)) := by
      rw [zE_bool (zad_q Γ q t _) hz, e1]
      refine congrArg (fun f => Sum.inl (Γ.2.2.1 2, n, Sum.inl f)) (funext (fun j => ?_))
      rw [(hB.2.2 q hq).1, zdf, if_neg (by omega)]
      rfl
    have e3 : Y ++ zWd (zad Γ q t (fun _ => 0)) G = (Y ++ zWd Γ G) ++ [(q, .inl (cA, n, .inl (fun _ => 0)))] := by
      rw [zWd_ad hB.1 hq (fun _ _ => rfl), e2, List.append_assoc]
    rw [← e3] at hP1 hD1
    exact kk q hq (zBn_arr hB hq ht) H1 locs rl hP1 hD1 hS1 hL
/-- a new thing -/
theorem v_new (C : zCv p s m args c Γ b cc nL own) {idx t : Nat} (d : decode cc pc = .ok (.new idx, 3)) (ht : 1 ≤ t ∧ t ≤ 10) (w1 : Cond.classLink own idx (zCn t) ∈ zTb) (w2 : Cond.instantiable (zCn t) (zN t) ∈ zTb) (w3 : Cond.initialized (zCn t) ∈ zTb) (hc : cells + 1 ≤ R.cells ∧ slots + zN t ≤ R.slots)
    (kk : ∀ q : Nat, V p l e R s m args below meth c b Γ.2.2.2.1 nL (cells + 1) (slots + zN t) Q (pc + 3) ls (zr t q :: st) ((q, zO0 t) :: ws)) : V p l e R s m args below meth c b Γ.2.2.2.1 nL cells slots Q pc ls st ws := by
  intro H locs rl hP hD hS hL
  refine va_new C.1 C.2.1 C.2.2.2.2.1 (zcl_in ht.1 ht.2) (zty0 t) (zcl_ty ht.1 ht.2) C.2.2.2.1 (C.2.2.2.2.1 _ w1) (C.2.2.2.2.1 _ w2) (C.2.2.2.2.1 _ w3) C.2.2.2.2.2.1 hP hD hS (fun q h => Nat.le_trans C.2.2.2.2.2.2.2.1 h) (zcl_at ht.1 ht.2) (zO0_ok ht.1 ht.2) hc.1 hc.2 d (fun q H1 hP1 hD1 hS1 => ?_)
  exact kk q H1 locs rl (zP_mem hP1 (fun x hx => (List.perm_append_singleton (q, zO0 t) ws).mem_iff.mpr hx)) (zD_perm hD1 (List.perm_append_singleton (q, zO0 t) ws).symm) hS1 hL
/-- a reference is laid into the thing that is made -/
theorem v_putr (C : zCv p s m args c Γ b cc nL own) (hin : meth.name = "<init>") {t k a idx t' q : Nat} {S : Nat → Bool} {fr : Nat → Nat} {iv : Nat → Int} (d : decode cc pc = .ok (.putfield idx, 3)) (w : Cond.fieldLink own idx (zCn t) (zT t k).2.1 (zT t k).2.2.1 ∈ zTb) (ho : zCn t = own) (hf : (zfk t k).1 = 2 ∨ (zfk t k).1 = 3) (ht' : (zfk t k).2 = t')
    (kk : V p l e R s m args below meth c b Γ.2.2.2.1 nL cells slots Q (pc + 3) ls st ((a, zOb t (zuS S k) (zuR fr k q) iv) :: Y)) : V p l e R s m args below meth c b Γ.2.2.2.1 nL cells slots Q pc ls (zr t' q :: zr t a :: st) ((a, zOb t S fr iv) :: Y) := by
  intro H locs rl hP hD hS hL
  obtain ⟨t1, t2, hkn⟩ := zfk_lt (t := t) (k := k) (by rcases hf with h | h <;> rw [h] <;> decide)
  have hty := zkty_3 (ty := zty0 t k) (by
    have h9 := zcl_k t1 t2 k hkn
    rcases hf with h | h
    · rw [h] at h9; exact h9
    · rw [h] at h9; exact h9)
  have hset : ((List.range (zN t)).map (zFu t S fr iv)).set k (.ref q) = (List.range (zN t)).map (zFu t (zuS S k) (zuR fr k q) iv) := by
    refine zFu_set ?_ (fun j hj => ?_)
    · unfold zFu zuS zuR
      rcases hf with h | h <;> rw [h] <;> simp
    · unfold zFu zuS zuR
      rw [if_neg hj, if_neg hj]
  have hk2 : ∀ (H1 : Heap) (locs1 : List Loc), va_P Γ.2.2.2.1 vwCl (((a, zOb t S fr iv) :: Y).set 0 (a, .inr (t - 1, ((List.range (zN t)).map (zFu t S fr iv)).set k (.ref q)))) H1 → va_D (zAb b) (((a, zOb t S fr iv) :: Y).set 0 (a, .inr (t - 1, ((List.range (zN t)).map (zFu t S fr iv)).set k (.ref q)))) → va_S (zAb b) s.heap H1 locs1 → W p l e R s m args below meth c H1 locs1 cells slots Q (F0 m (pc + 3) rl (st.map zc)) := by
    intro H1 locs1 h1 h2 h3
    rw [hset] at h1 h2
    exact kk H1 locs1 rl h1 h2 h3 hL
  have hn : narrow (zty0 t k) (Value.ref q) = Value.ref q := by rcases hty with ⟨x, e⟩ | ⟨x, e⟩ <;> rw [e] <;> rfl
  have hft : fits (zty0 t k) (Value.ref q) = true := by rcases hty with ⟨x, e⟩ | ⟨x, e⟩ <;> rw [e] <;> rfl
  cases hfin : (zT t k).2.2.2 with
  | false => exact va_put C.1 C.2.1 C.2.2.2.2.1 (zcl_in t1 t2) (zty0 t) (zcl_ty t1 t2) (zcl_nm t1 t2) C.2.2.2.1 C.2.2.2.2.2.1 hP hD hS 0 rfl (zcl_at t1 t2) k hkn (C.2.2.2.2.1 _ w) (fun x hx => by rw [zcl_cls t1 t2 k hkn] at hx; exact hx) hfin (zcl_ty t1 t2 k hkn) hn hft (by simp [hkn]) d hk2
  | true => exact va_putF C.1 C.2.1 C.2.2.2.2.1 (zcl_in t1 t2) (zty0 t) (zcl_ty t1 t2) (zcl_nm t1 t2) C.2.2.2.1 C.2.2.2.2.2.1 hP hD hS 0 rfl (zcl_at t1 t2) k hkn (C.2.2.2.2.1 _ w) (fun x hx => by rw [zcl_cls t1 t2 k hkn] at hx; exact hx) hfin hin (by rw [zcl_cls t1 t2 k hkn]; exact ho) (zcl_ty t1 t2 k hkn) hn hft (by simp [hkn]) d hk2
/-- a number is laid into the thing that is made -/
theorem v_puti (C : zCv p s m args c Γ b cc nL own) {t k a idx : Nat} {x : Int} {S : Nat → Bool} {fr : Nat → Nat} {iv : Nat → Int} (d : decode cc pc = .ok (.putfield idx, 3)) (w : Cond.fieldLink own idx (zCn t) (zT t k).2.1 (zT t k).2.2.1 ∈ zTb) (hf : zfk t k = (0, 0))
    (kk : V p l e R s m args below meth c b Γ.2.2.2.1 nL cells slots Q (pc + 3) ls st ((a, zOb t S fr (zuV iv k x)) :: Y)) : V p l e R s m args below meth c b Γ.2.2.2.1 nL cells slots Q pc ls (zi x :: zr t a :: st) ((a, zOb t S fr iv) :: Y) := by
  intro H locs rl hP hD hS hL
  obtain ⟨t1, t2, hkn⟩ := zfk_lt (t := t) (k := k) (by rw [hf]; decide)
  have hty : zty0 t k = .int := by
    have h9 := zcl_k t1 t2 k hkn
    rw [hf] at h9
    simpa [zkty] using h9
  have hset : ((List.range (zN t)).map (zFu t S fr iv)).set k (.int (Int32.ofInt x)) = (List.range (zN t)).map (zFu t S fr (zuV iv k x)) := by
    refine zFu_set ?_ (fun j hj => ?_)
    · unfold zFu zuV
      rw [hf]
      simp
    · unfold zFu zuV
      rw [if_neg hj]
  refine va_put C.1 C.2.1 C.2.2.2.2.1 (zcl_in t1 t2) (zty0 t) (zcl_ty t1 t2) (zcl_nm t1 t2) C.2.2.2.1 C.2.2.2.2.2.1 hP hD hS 0 rfl (zcl_at t1 t2) k hkn (C.2.2.2.2.1 _ w) (fun x hx => by rw [zcl_cls t1 t2 k hkn] at hx; exact hx) (zcl_fin t1 t2 k hkn (by rw [hf]; decide)) (zcl_ty t1 t2 k hkn) (v := .int (Int32.ofInt x)) (by rw [hty]; rfl) (by rw [hty]; rfl) (by simp [hkn]) d ?_
  intro H1 locs1 h1 h2 h3
  rw [hset] at h1 h2
  exact kk H1 locs1 rl h1 h2 h3 hL
/-- a reference is read of the thing that is made -/
theorem v_getr (C : zCv p s m args c Γ b cc nL own) {t k a idx t' q : Nat} {S : Nat → Bool} {fr : Nat → Nat} {iv : Nat → Int} (d : decode cc pc = .ok (.getfield idx, 3)) (w : Cond.fieldLink own idx (zCn t) (zT t k).2.1 (zT t k).2.2.1 ∈ zTb) (hf : (zfk t k).1 = 2 ∨ (zfk t k).1 = 3) (i : Nat) (hi : ws[i]? = some (a, zOb t S fr iv)) (hS1 : S k = true) (hfr : fr k = q)
    (kk : V p l e R s m args below meth c b Γ.2.2.2.1 nL cells slots Q (pc + 3) ls (zr t' q :: st) ws) : V p l e R s m args below meth c b Γ.2.2.2.1 nL cells slots Q pc ls (zr t a :: st) ws := by
  intro H locs rl hP hD hS hL
  obtain ⟨t1, t2, hkn⟩ := zfk_lt (t := t) (k := k) (by rcases hf with h | h <;> rw [h] <;> decide)
  have hv : zFu t S fr iv k = .ref q := by
    unfold zFu
    rcases hf with h | h <;> rw [h] <;> simp [hS1, hfr]
  refine va_get C.1 C.2.1 C.2.2.2.2.1 (zcl_in t1 t2) C.2.2.2.1 C.2.2.2.2.2.1 hP i hi (zcl_at t1 t2) k hkn (C.2.2.2.2.1 _ w) (fun x hx => by rw [zcl_cls t1 t2 k hkn] at hx; exact hx) (v := .ref q) (by rw [← hv]; simp [hkn]) d (kk H locs rl hP hD hS hL)
/-- the thing is whole -/
theorem v_adopt {t q : Nat} {S : Nat → Bool} {fr : Nat → Nat} {iv : Nat → Int} (hB : zBn Γ G) (h1 : 1 ≤ t) (h2 : t ≤ 10) (hS : ∀ k, k < zN t → 2 ≤ (zfk t k).1 → (zfk t k).1 ≤ 3 → S k = true) (hk : ∀ k, k < zN t → (zfk t k).1 ≤ 4) (hO : zOk Γ t S fr) (hiv : ∀ k, k < zN t → (zrg (100 * t + k) 0).1 ≤ iv k ∧ iv k ≤ (zrg (100 * t + k) 0).2)
    (kk : Γ.1 q = 0 → zBn (zad Γ q t fr) (zag G t q fr iv) → V p l e R s m args below meth c b D nL cells slots Q pc ls st (Y ++ zWd (zad Γ q t fr) (zag G t q fr iv))) : V p l e R s m args below meth c b D nL cells slots Q pc ls st ((q, zOb t S fr iv) :: (Y ++ zWd Γ G)) := by
  intro H locs rl hP hD hS9 hL
  have hq : Γ.1 q = 0 := zfresh0 hB.1 hD
  have e1 : Y ++ zWd (zad Γ q t fr) (zag G t q fr iv) = (Y ++ zWd Γ G) ++ [(q, zOb t S fr iv)] := by
    rw [zWd_ob hB hq h1 h2 hS hk, List.append_assoc]
  have hp := List.perm_append_singleton (q, zOb t S fr iv) (Y ++ zWd Γ G)
  refine kk hq (zBn_ob hB hq h1 h2 hS hO hiv) H locs rl ?_ ?_ hS9 hL
  · rw [e1]
    exact zP_mem hP (fun x hx => hp.mem_iff.mp hx)
  · rw [e1]
    exact zD_perm hD hp
theorem v_widen {k n : Nat} (h1 : cells ≤ k) (h2 : slots ≤ n) (kk : V p l e R s m args below meth c b D nL k n Q pc ls st ws) : V p l e R s m args below meth c b D nL cells slots Q pc ls st ws := fun H locs rl hP hD hS hL => W.widen h1 h2 (kk H locs rl hP hD hS hL)
/-! the same, seen from the constructor's start -/
theorem v_newi0 {Γ0 : zΓ} {hd : Nat × va_E} {X : va_W} (C : zCv p s m args c Γ0 b cc nL own) (hx : zxt Γ0 Γ) (hB : zBn Γ G) (t : Nat) {n : Nat} {x : Int} (d : decode cc pc = .ok (.newarray .int, 2)) (w : Cond.arrayClass .int ∈ zTb) (hz : zat t = (0, n)) (hxn : x = (n : Int)) (hn : (n : Int) < 100000) (h58 : t ≠ 58) (hc : cells + 1 ≤ R.cells ∧ slots + n ≤ R.slots)
    (kk : ∀ (Γ' : zΓ) (q : Nat), Γ.1 q = 0 → zxt Γ Γ' → zBn Γ' G → Γ'.1 q = t → V p l e R s m args below meth c b Γ0.2.2.2.1 nL (cells + 1) (slots + n) Q (pc + 2) ls (zr t q :: st) (hd :: (X ++ zWd Γ' G))) : V p l e R s m args below meth c b Γ0.2.2.2.1 nL cells slots Q pc ls (zi x :: st) (hd :: (X ++ zWd Γ G)) := by
  subst hxn
  rw [← hx.2.1]
  refine v_newi (Y := hd :: X) (zCv_x C hx) hB t d w hz hn h58 hc (fun q hq hB1 => ?_)
  have h := kk (zad Γ q t (fun _ => 0)) q hq (zad_xt hq) hB1 (zad_q Γ q t _)
  rw [← hx.2.1] at h
  exact h
theorem v_newj0 {Γ0 : zΓ} {hd : Nat × va_E} {X : va_W} (C : zCv p s m args c Γ0 b cc nL own) (hx : zxt Γ0 Γ) (hB : zBn Γ G) (t : Nat) {n : Nat} {x : Int} (d : decode cc pc = .ok (.newarray .long, 2)) (w : Cond.arrayClass .long ∈ zTb) (hz : zat t = (1, n)) (hxn : x = (n : Int)) (hn : (n : Int) < 100000) (h58 : t ≠ 58) (hc : cells + 1 ≤ R.cells ∧ slots + n ≤ R.slots)
    (kk : ∀ (Γ' : zΓ) (q : Nat), Γ.1 q = 0 → zxt Γ Γ' → zBn Γ' G → Γ'.1 q = t → V p l e R s m args below meth c b Γ0.2.2.2.1 nL (cells + 1) (slots + n) Q (pc + 2) ls (zr t q :: st) (hd :: (X ++ zWd Γ' G))) : V p l e R s m args below meth c b Γ0.2.2.2.1 nL cells slots Q pc ls (zi x :: st) (hd :: (X ++ zWd Γ G)) := by
  subst hxn
  rw [← hx.2.1]
  refine v_newj (Y := hd :: X) (zCv_x C hx) hB t d w hz hn hc (fun q hq hB1 => ?_)
  have h := kk (zad Γ q t (fun _ => 0)) q hq (zad_xt hq) hB1 (zad_q Γ q t _)
  rw [← hx.2.1] at h
  exact h
theorem v_newz0 {Γ0 : zΓ} {hd : Nat × va_E} {X : va_W} (C : zCv p s m args c Γ0 b cc nL own) (hx : zxt Γ0 Γ) (hB : zBn Γ G) (t : Nat) {n : Nat} {x : Int} (d : decode cc pc = .ok (.newarray .boolean, 2)) (w : Cond.arrayClass .boolean ∈ zTb) (hz : zat t = (2, n)) (hxn : x = (n : Int)) (hn : (n : Int) < 100000) (h58 : t ≠ 58) (hc : cells + 1 ≤ R.cells ∧ slots + n ≤ R.slots)
    (kk : ∀ (Γ' : zΓ) (q : Nat), Γ.1 q = 0 → zxt Γ Γ' → zBn Γ' G → Γ'.1 q = t → V p l e R s m args below meth c b Γ0.2.2.2.1 nL (cells + 1) (slots + n) Q (pc + 2) ls (zr t q :: st) (hd :: (X ++ zWd Γ' G))) : V p l e R s m args below meth c b Γ0.2.2.2.1 nL cells slots Q pc ls (zi x :: st) (hd :: (X ++ zWd Γ G)) := by
  subst hxn
  rw [← hx.2.1]
  refine v_newz (Y := hd :: X) (zCv_x C hx) hB t d w hz hn h58 hc (fun q hq hB1 => ?_)
  have h := kk (zad Γ q t (fun _ => 0)) q hq (zad_xt hq) hB1 (zad_q Γ q t _)
  rw [← hx.2.1] at h
  exact h
theorem v_adopt0 {Γ0 : zΓ} {X : va_W} {t q : Nat} {S : Nat → Bool} {fr : Nat → Nat} {iv : Nat → Int} (hB : zBn Γ G) (h1 : 1 ≤ t) (h2 : t ≤ 10) (hS : ∀ k, k < zN t → 2 ≤ (zfk t k).1 → (zfk t k).1 ≤ 3 → S k = true) (hk : ∀ k, k < zN t → (zfk t k).1 ≤ 4) (hO : zOk Γ t S fr) (hiv : ∀ k, k < zN t → (zrg (100 * t + k) 0).1 ≤ iv k ∧ iv k ≤ (zrg (100 * t + k) 0).2)
    (kk : ∀ (Γ' : zΓ) (G' : zH), zxt Γ Γ' → zBn Γ' G' → Γ'.1 q = t → Γ' = zad Γ q t fr → G' = zag G t q fr iv → V p l e R s m args below meth c b Γ0.2.2.2.1 nL cells slots Q pc ls st (X ++ zWd Γ' G')) : V p l e R s m args below meth c b Γ0.2.2.2.1 nL cells slots Q pc ls st ((q, zOb t S fr iv) :: (X ++ zWd Γ G)) :=
  v_adopt hB h1 h2 hS hk hO hiv (fun hq hB1 => kk _ _ (zad_xt hq) hB1 (zad_q Γ q t fr) rfl rfl)
/-! the words of the reference: an array that is filled while it lies apart -/
def fW (k : Nat) : Nat → Int32 := fun j => if j < k then Int32.ofInt (zWD.getD j 32) else 0
theorem fW_s {k : Nat} : upd (fW k) k (Int32.ofInt (zWD.getD k 32)) = fW (k + 1) := by
  funext j
  unfold upd fW
  by_cases h : j = k
  · rw [if_pos h, if_pos (by omega), h]
  · rw [if_neg h]
    by_cases h2 : j < k
    · rw [if_pos h2, if_pos (by omega)]
    · rw [if_neg h2, if_neg (by omega)]
theorem v_newx (C : zCv p s m args c Γ b cc nL own) {n : Nat} {x : Int} (d : decode cc pc = .ok (.newarray .int, 2)) (w : Cond.arrayClass .int ∈ zTb) (hxn : x = (n : Int)) (hn : (n : Int) < 100000) (hc : cells + 1 ≤ R.cells ∧ slots + n ≤ R.slots)
    (kk : ∀ (q : Nat), V p l e R s m args below meth c b Γ.2.2.2.1 nL (cells + 1) (slots + n) Q (pc + 2) ls (zr 58 q :: st) ((q, .inl (Γ.2.2.1 0, n, .inl (fW 0))) :: ws)) : V p l e R s m args below meth c b Γ.2.2.2.1 nL cells slots Q pc ls (zi x :: st) ws := by
  intro H locs rl hP hD hS hL
  subst hxn
  have hK := C.2.2.2.2.2.1
  refine va_newa (atype := .int) (ty := .int) C.1 C.2.1 (C.2.2.2.2.1 _ w) rfl hK hP hD hS (fun q h => Nat.le_trans C.2.2.2.2.2.2.2.1 h) (N' := n) (a0 := (n, .inl (fW 0))) (fun cA => rfl) (fun h => ?_) (by rw [zi_nat (by omega) (by omega)]; omega) (by show n * 4 ≤ 536870912; omega) hc.1 hc.2 d (fun q cA H1 hK1 hP1 hD1 hS1 => ?_)
  · rw [zi_0, zi_lt (by omega) (by omega)] at h
    omega
  · have e1 : cA = Γ.2.2.1 0 := Option.some.inj ((hK1.2 3 (cA, .int) rfl).2.symm.trans (hK.2 0 (Γ.2.2.1 0, .int) rfl).2)
    subst e1
    have hp := List.perm_append_singleton (q, (Sum.inl (Γ.2.2.1 0, n, .inl (fW 0)) : va_E)) ws
    exact kk q H1 locs rl (zP_mem hP1 (fun x hx => hp.mem_iff.mpr hx)) (zD_perm hD1 hp.symm) hS1 hL
theorem v_word (C : zCv p s m args c Γ b cc nL own) {q k n : Nat} {i x : Int} (hi : i = (k : Int)) (hk : k < n ∧ n < 1000) (hx : x = zWD.getD k 32) (d : decode cc pc = .ok (.iastore, 1)) (kk : V p l e R s m args below meth c b Γ.2.2.2.1 nL cells slots Q (pc + 1) ls st ((q, .inl (Γ.2.2.1 0, n, .inl (fW (k + 1)))) :: Y)) : V p l e R s m args below meth c b Γ.2.2.2.1 nL cells slots Q pc ls (zi x :: zi i :: zr 58 q :: st) ((q, .inl (Γ.2.2.1 0, n, .inl (fW k))) :: Y) := by
  intro H locs rl hP hD hS hL
  subst hi
  refine va_iast C.1 C.2.1 C.2.2.2.2.2.1 hP hD hS 0 0 rfl rfl (zi_in (by omega) (by omega)) d (fun H1 locs1 h1 h2 h3 => ?_)
  rw [zi_nat (by omega) (by omega), show ((k : Int)).toNat = k by omega, hx, fW_s] at h1 h2
  exact kk H1 locs1 rl h1 h2 h3 hL
theorem v_word6 (C : zCv p s m args c Γ b cc nL own) {q k n : Nat} {i x : Int} (d1 : decode cc pc = .ok (.dup, 1)) (d2 : decode cc (pc + 1) = .ok (.bipush i, 2)) (d3 : decode cc (pc + 1 + 2) = .ok (.bipush x, 2)) (d4 : decode cc (pc + 1 + 2 + 2) = .ok (.iastore, 1)) (hi2 : (Int8.ofInt i).toInt32 = Int32.ofInt i) (hx2 : (Int8.ofInt x).toInt32 = Int32.ofInt x) (hi : i = (k : Int)) (hk : k < n ∧ n < 1000) (hx : x = zWD.getD k 32)
    (kk : V p l e R s m args below meth c b Γ.2.2.2.1 nL cells slots Q (pc + 6) ls (zr 58 q :: st) ((q, .inl (Γ.2.2.1 0, n, .inl (fW (k + 1)))) :: Y)) : V p l e R s m args below meth c b Γ.2.2.2.1 nL cells slots Q pc ls (zr 58 q :: st) ((q, .inl (Γ.2.2.1 0, n, .inl (fW k))) :: Y) :=
  v_dup C d1 (v_bipush C d2 hi2 (v_bipush C d3 hx2 (v_word C hi hk hx d4 kk)))
theorem v_word5 (C : zCv p s m args c Γ b cc nL own) {q k n : Nat} {i x : Int} (d1 : decode cc pc = .ok (.dup, 1)) (d2 : decode cc (pc + 1) = .ok (.iconst i, 1)) (d3 : decode cc (pc + 1 + 1) = .ok (.bipush x, 2)) (d4 : decode cc (pc + 1 + 1 + 2) = .ok (.iastore, 1)) (hx2 : (Int8.ofInt x).toInt32 = Int32.ofInt x) (hi : i = (k : Int)) (hk : k < n ∧ n < 1000) (hx : x = zWD.getD k 32)
    (kk : V p l e R s m args below meth c b Γ.2.2.2.1 nL cells slots Q (pc + 5) ls (zr 58 q :: st) ((q, .inl (Γ.2.2.1 0, n, .inl (fW (k + 1)))) :: Y)) : V p l e R s m args below meth c b Γ.2.2.2.1 nL cells slots Q pc ls (zr 58 q :: st) ((q, .inl (Γ.2.2.1 0, n, .inl (fW k))) :: Y) :=
  v_dup C d1 (v_iconst C d2 (v_bipush C d3 hx2 (v_word C hi hk hx d4 kk)))
theorem arrV_cg {cA : ClassId} {n : Nat} {f g : Nat → Value} (h : ∀ j, j < n → f j = g j) : arrV cA n f = arrV cA n g := by
  unfold arrV
  congr 1
  congr 1
  funext j
  exact h j.val j.isLt
/-- the words are laid: the array is one of the reference's -/
theorem v_words {Γ0 : zΓ} {hd : Nat × va_E} {X : va_W} {q : Nat} (hx : zxt Γ0 Γ) (hB : zBn Γ G)
    (kk : ∀ (Γ' : zΓ), zxt Γ Γ' → zBn Γ' G → Γ'.1 q = 58 → V p l e R s m args below meth c b Γ0.2.2.2.1 nL cells slots Q pc ls st (hd :: (X ++ zWd Γ' G))) : V p l e R s m args below meth c b Γ0.2.2.2.1 nL cells slots Q pc ls st ((q, .inl (Γ0.2.2.1 0, 121, .inl (fW 121))) :: hd :: (X ++ zWd Γ G)) := by
  intro H locs rl hP hD hS hL
  have hq : Γ.1 q = 0 := zfresh0 (Y := hd :: X) hB.1 hD
  have e2 : zE (zad Γ q 58 (fun _ => 0)) G q = .inl (Γ0.2.2.1 0, 121, .inl (fun j => Int32.ofInt (zWD.getD j 32))) := by
    rw [zE_int (zad_q Γ q 58 _) a_58, show (zad Γ q 58 (fun _ => 0)).2.2.1 = Γ0.2.2.1 from hx.1]
    refine congrArg (fun f => Sum.inl (Γ0.2.2.1 0, 121, Sum.inl f)) (funext (fun j => ?_))
    rw [(hB.2.2 q hq).1, zdf, if_pos rfl]
  have e3 : hd :: (X ++ zWd (zad Γ q 58 (fun _ => 0)) G) = (hd :: (X ++ zWd Γ G)) ++ [(q, .inl (Γ0.2.2.1 0, 121, .inl (fun j => Int32.ofInt (zWD.getD j 32))))] := by
    rw [zWd_ad hB.1 hq (fun _ _ => rfl), e2, ← List.append_assoc]
    rfl
  have h9 : va_at Γ0.2.2.2.1 vwCl (q, .inl (Γ0.2.2.1 0, 121, .inl (fun j => Int32.ofInt (zWD.getD j 32)))) H := by
    have h8 : H[q]? = some (arrV (Γ0.2.2.1 0) 121 (fun j => Value.int (fW 121 j))) := hP 0 _ rfl
    show H[q]? = some (arrV (Γ0.2.2.1 0) 121 (fun j => Value.int (Int32.ofInt (zWD.getD j 32))))
    rw [h8, arrV_cg (g := fun j => Value.int (Int32.ofInt (zWD.getD j 32))) (fun j hj => by unfold fW; rw [if_pos hj])]
  refine kk (zad Γ q 58 (fun _ => 0)) (zad_xt hq) (zBn_arr hB hq (by decide)) (zad_q Γ q 58 _) H locs rl ?_ ?_ hS hL
  · rw [e3]
    refine va_P.app (zP_mem hP (fun x hx => List.mem_cons_of_mem _ hx)) (fun k x hk => ?_)
    rw [List.mem_singleton.mp (List.mem_of_getElem? hk)]
    exact h9
  · rw [e3]
    rw [zD_iff] at hD ⊢
    have hp := (List.perm_append_singleton (q, (Sum.inl (Γ0.2.2.1 0, 121, .inl (fun j => Int32.ofInt (zWD.getD j 32))) : va_E)) (hd :: (X ++ zWd Γ G)))
    refine ⟨(hp.map (fun q => q.1)).nodup_iff.mpr hD.1, fun x hx => ?_⟩
    rcases List.mem_cons.mp (hp.mem_iff.mp hx) with h | h
    · rw [h]
      exact hD.2 (q, .inl (Γ0.2.2.1 0, 121, .inl (fW 121))) List.mem_cons_self
    · exact hD.2 x (List.mem_cons_of_mem _ h)
end ZV
