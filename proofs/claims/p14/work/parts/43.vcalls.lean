/-! contracts of constructors -/
def zPi (b : Nat) (Γ : zΓ) (G : zH) (X : va_W) (t h0 : Nat) (av : List zV) (T : State → Prop) : Array Value → State → Prop := fun v U =>
  v = ((zr t h0 :: av).map zc).toArray ∧ va_K Γ.2.2.2.1 vwCl (ztys Γ) U ∧ (zXb b Γ.2.2.2.2.2 U U.heap ∧ zNk U ∧ zNm U) ∧ b ≤ U.heap.size ∧ zBn Γ G ∧ (∀ x ∈ av, zk Γ x) ∧ va_P Γ.2.2.2.1 vwCl ((h0, zO0 t) :: (X ++ zWd Γ G)) U.heap ∧ va_D (zAb b) ((h0, zO0 t) :: (X ++ zWd Γ G)) ∧ T U
def zQi (b : Nat) (Γ : zΓ) (X : va_W) (t h0 : Nat) (post : zΓ → zH → Prop) : Array Value → State → Outcome → State → Prop := fun _ st oc u =>
  (∃ (Γ' : zΓ) (G' : zH), oc = .returned none ∧ zxt Γ Γ' ∧ zBn Γ' G' ∧ Γ'.1 h0 = t ∧ post Γ' G' ∧ va_P Γ.2.2.2.1 vwCl (X ++ zWd Γ' G') u.heap ∧ va_D (zAb b) (X ++ zWd Γ' G')) ∧ va_F (zAb b) st u
def zMi (l : Launch) (y : MethodName) (bs : ByteArray) (mx lv mc ms : Nat) (b : Nat) (Γ : zΓ) (G : zH) (X : va_W) (t h0 : Nat) (av : List zV) (T : State → Prop) (post : zΓ → zH → Prop) : Prop :=
  Met l y (Cond.code y bs mx none :: zTb) (zrC lv mc ms) (zPi b Γ G X t h0 av T) (zQi b Γ X t h0 post) mc ms (zAb b)
/-- what is said of a state holds of the states behind, as long as what lies below b stays -/
def zSty (b : Nat) (T : State → Prop) : Prop := ∀ (U U1 : State), T U → U.WarmedH U1.vm → (∀ a : Nat, a < U.heap.size → ¬ zAb b a → U1.heap[a]? = U.heap[a]?) → T U1
theorem zSty_t {b : Nat} : zSty b (fun _ => True) := fun _ _ _ _ _ => trivial
theorem zA_of {A : Nat → Prop} {Y : va_W} {Γ : zΓ} {G : zH} (hL : zLok Γ) (hD : va_D A (Y ++ zWd Γ G)) : ∀ q, zA Γ q → A q := fun q hq => by
  have hm : q ∈ Γ.2.2.2.2.1 := (hL.2.1 q).mpr hq
  have h1 : (q, zE Γ G q) ∈ zWd Γ G := List.mem_map.mpr ⟨q, hm, rfl⟩
  obtain ⟨i, hi⟩ := List.getElem?_of_mem (List.mem_append_right Y h1)
  exact hD.2 i _ hi
theorem zPi_blind {b : Nat} {Γ : zΓ} {G : zH} {X : va_W} {t h0 : Nat} {av : List zV} {T : State → Prop} (hT : zSty b T) : FrameBlind (zPi b Γ G X t h0 av T) := by
  intro a U g mk h
  obtain ⟨h1, h2, ⟨h3, h4, h5⟩, h6, h7, h8, h9, h10, h11⟩ := h
  refine ⟨h1, va_K.moved (u := U) (U := U.calling g mk a) (Vm.Alike.refl U.vm) h2, ⟨zXb_keep (U := U) (U1 := U.calling g mk a) h3 (Vm.Alike.refl U.vm) (fun _ _ _ => rfl), fun q hq => va_Nw.warmF (s := U) (U := U.calling g mk a) (State.WarmedH.refl U) (h4 q hq), fun q hq => va_Nw.warmM (s := U) (U := U.calling g mk a) (State.WarmedH.refl U) (h5 q hq)⟩, h6, h7, h8, h9, h10, hT U (U.calling g mk a) h11 (State.WarmedH.refl U) (fun _ _ _ => rfl)⟩
section ZW
variable {p : Program} {l : Launch} {e : Env} {R : Room} {s : State} {m : MethodId} {args : Array Value} {below : List Frame} {meth : Method} {c : Code} {Γ : zΓ} {b : Nat} {cc : ByteArray} {nL : Nat} {own : String} {cells slots : Nat} {Q : State → Prop} {pc : Nat} {ls : List (Option zV)} {st : List zV} {G : zH} {ws Y X : va_W}
theorem zMi_of {y : MethodName} {bs : ByteArray} {mx lv mc ms t h0 : Nat} {av : List zV} {T : State → Prop} {post : zΓ → zH → Prop} (own : String) (hX : zXs Γ) (hy : plainName y.cls = true) (ho : y.cls = own) (hyn : y.name = "<init>") (hlen : (lg_sl ((zr t h0 :: av).map zc)).length ≤ mx)
    (body : ∀ (p : Program) (e : Env) (s : State) (m : MethodId) (args : Array Value) (below : List Frame) (meth : Method) (c : Code), zCv p s m args c Γ b bs mx own → meth.sig.returnType = none → meth.locks = false → meth.name = "<init>" → zBn Γ G → (∀ x ∈ av, zk Γ x) → T s →
      V p l e (zrC lv mc ms) s m args below meth c b Γ.2.2.2.1 mx 0 0 (MQ below (zQi b Γ X t h0 post) args s mc ms (zAb b)) 0 (zent (zr t h0 :: av) mx) [] ((h0, zO0 t) :: (X ++ zWd Γ G))) :
    zMi l y bs mx lv mc ms b Γ G X t h0 av T post := by
  refine Met.ofW (cc := bs) (maxL := mx) (ret := none) hy rfl ?_
  intro p e s m args below meth c s₁ B hml hv
  obtain ⟨rfl, h2, h3, h4, h5, h6, h7, h8, h9⟩ := hv
  have hts := atoms_spec (ws := Cond.code y bs mx none :: zTb) B.pre
  have hown : s.vm.findClass own = some m.cls := ho ▸ findClass_of_methodNamed B.named
  have hin : meth.name = "<init>" := by rw [(name_of_methodNamed B.named B.method).1]; exact hyn
  have hl := lv_entry ((zr t h0 :: av).map zc) (n := mx) hlen
  rw [lg_entry_eq]
  generalize (lg_sl ((zr t h0 :: av).map zc) ++ List.replicate (mx - (lg_sl ((zr t h0 :: av).map zc)).length) Slot.unset).toArray = rl at hl ⊢
  exact body p e s m ((zr t h0 :: av).map zc).toArray below meth c ⟨B.exec, B.bytes, hml, hown, fun w hw => hts w (List.mem_cons_of_mem _ hw), h2, h3, h4, hX⟩ B.returns B.notSynchronized hin h5 h6 h9 s.heap [] rl h7 h8 va_S.rf ⟨hl.1, hl.2.1, fun i v hi => hl.2.2 _ (zent_args hi)⟩
theorem v_ret {Γ0 : zΓ} (C : zCv p s m args c Γ b cc nL own) {t h0 : Nat} {post : zΓ → zH → Prop} (hr : meth.sig.returnType = none) (hlk : meth.locks = false) (d : decode cc pc = .ok (.return_, 1)) (hx : zxt Γ0 Γ) (hB : zBn Γ G) (hq : Γ.1 h0 = t) (hp : post Γ G) : V p l e R s m args below meth c b Γ0.2.2.2.1 nL cells slots (MQ below (zQi b Γ0 X t h0 post) args s cells slots (zAb b)) pc ls [] (X ++ zWd Γ G) := by
  intro H locs rl hP hD hS hL
  exact W.vret C.1 C.2.1 hr (fun t ht hW => ⟨⟨Γ, G, rfl, hx, hB, hq, hp, by rw [ht]; exact hP, hD⟩, hS.F ht⟩) hS.2.2 d hlk
theorem zi_back {H : Heap} {locs : List Loc} {rl : Array Slot} {st0 : List Value} {rest : List zV} {post : zΓ → zH → Prop} {a : Array Value} {t h0 mc ms : Nat} (hr : va_Run p l e R s m args below meth c H locs cells slots mc ms (F0 m pc rl st0) (rest.map zc) (zQi b Γ X t h0 post a) (zAb b)) (hS : va_S (zAb b) s.heap H locs) (hL : zL rl nL ls)
    (kk : ∀ (Γ' : zΓ) (G' : zH), zxt Γ Γ' → zBn Γ' G' → Γ'.1 h0 = t → post Γ' G' → V p l e R s m args below meth c b Γ.2.2.2.1 nL (cells + mc) (slots + ms) Q (pc + 3) ls rest (X ++ zWd Γ' G')) : W p l e R s m args below meth c H locs cells slots Q (F0 m pc rl st0) := by
  intro T hT X1
  obtain ⟨v, st₀, t9, T', L, h01, X', hL', e1, e2, ⟨⟨Γ', G', hv, hx, hB, hq, hp, hP', hD'⟩, hF⟩, go⟩ := hr T hT X1
  have hv' : v = none := by cases hv; rfl
  subst hv'
  have hS1 : va_S (zAb b) s.heap t9.heap (locs ++ L) := by
    refine ⟨Nat.le_trans hS.1 (by rw [← h01]; exact hF.1), fun q h1 h2 => ?_, fun l hl => ?_⟩
    · rw [hF.2 q (by rw [h01]; exact Nat.lt_of_lt_of_le h1 hS.1) h2, h01]
      exact hS.2.1 q h1 h2
    · rcases List.mem_append.mp hl with q | q
      · exact hS.2.2 l q
      · exact hL' l q
  obtain ⟨t8, a9, b9⟩ := kk Γ' G' hx hB hq hp t9.heap (locs ++ L) rl hP' hD' hS1 hL T' e1 X'
  exact ⟨t8, go t8 a9, b9⟩
/-- words of a constructor's call -/
def zWi (idx : Nat) (y : MethodName) (bs : ByteArray) (mx n : Nat) : Prop :=
  (Cond.instanceMethod y ∈ zTb ∧ Cond.initialized y.cls ∈ zTb ∧ Cond.code y bs mx none ∈ zTb) ∧ y.name = "<init>" ∧ y.cls ≠ "java/lang/invoke/MethodHandle" ∧ y.cls ≠ "java/lang/invoke/VarHandle" ∧ (parseMethodDescriptor y.desc).map (fun d => d.parameters.length) = some n
def zLi (own : String) (idx : Nat) (y : MethodName) : Prop := Cond.methodLink own idx y ∈ zTb ∨ ∃ host, (own, idx, y, host) ∈ zNc
theorem v_init (C : zCv p s m args c Γ b cc nL own) {y : MethodName} {bs : ByteArray} {mx lv mc ms idx t q n : Nat} {av : List zV} {T : State → Prop} {post : zΓ → zH → Prop} (d : decode cc pc = .ok (.invokespecial idx, 3)) (w : zWi idx y bs mx n) (wl : zLi own idx y) (hn : av.length = n) (hM : zMi l y bs mx lv mc ms b Γ G X t q av T post) (hB : zBn Γ G) (hav : ∀ x ∈ av, zk Γ x) (hT : zSty b T) (hTs : T s) (hR : lv + 1 ≤ R.frames ∧ 8 + (mx + 11) + 40 * lv ≤ R.locals) (hc : cells + mc ≤ R.cells ∧ slots + ms ≤ R.slots) (hw : ((st.map zc).map fun v => v.category).sum ≤ 8)
    (kk : ∀ (Γ' : zΓ) (G' : zH), zxt Γ Γ' → zBn Γ' G' → Γ'.1 q = t → post Γ' G' → V p l e R s m args below meth c b Γ.2.2.2.1 nL (cells + mc) (slots + ms) Q (pc + 3) ls st (X ++ zWd Γ' G')) : V p l e R s m args below meth c b Γ.2.2.2.1 nL cells slots Q pc ls (av.reverse ++ zr t q :: st) ((q, zO0 t) :: (X ++ zWd Γ G)) := by
  intro H locs rl hP hD hS hL
  obtain ⟨⟨w1, w2, w3⟩, hyn, hy1, hy2, hnp⟩ := w
  have hts := C.2.2.2.2.1
  obtain ⟨hXb, hNk, hNm⟩ := C.2.2.2.2.2.2.1
  have hpre : PreS s H (zPi b Γ G X t q av T) ((zr t q :: av).map zc) := ⟨zPi_blind hT, fun U hU hW => ⟨rfl, va_K.moved hW.alike C.2.2.2.2.2.1, ⟨zXb_keep hXb hW.alike (fun x h1 h2 => by rw [hU]; exact hS.2.1 x h1 h2), fun x hx => va_Nw.warmF hW (hNk x hx), fun x hx => va_Nw.warmM hW (hNm x hx)⟩, by rw [hU]; exact Nat.le_trans C.2.2.2.2.2.2.2.1 hS.1, hB, hav, by rw [hU]; exact hP, hD, hT s U hTs hW (fun x h1 h2 => by rw [hU]; exact hS.2.1 x h1 h2)⟩⟩
  have e9 : (av.reverse ++ zr t q :: st).map zc = (av.map zc).reverse ++ Value.ref q :: st.map zc := by simp [zc]
  rcases wl with wl | ⟨host, wl⟩
  · have hrun := va_runI (H := H) (e := e) (below := below) (meth := meth) (locs := locs) (cells := cells) (slots := slots) (As := av.map zc) (rest := st.map zc) (b := q) (g := F0 m pc rl ((av.reverse ++ zr t q :: st).map zc)) (n := n) ⟨C.1, C.2.1, C.2.2.1, C.2.2.2.1, hts⟩ hM
      ⟨callB_of n hts (zTb_good w3) rfl rfl rfl (hts _ w2) (hts _ wl) ⟨hy1, hy2, hnp⟩ hR, hyn, hts _ w1⟩ hpre rfl (by rw [List.length_map]; exact hn) hL.1 e9 (lv_room hw) d hc
    exact zi_back hrun hS hL kk
  · have hrun := va_runIN (H := H) (e := e) (below := below) (meth := meth) (locs := locs) (cells := cells) (slots := slots) (As := av.map zc) (rest := st.map zc) (b := q) (g := F0 m pc rl ((av.reverse ++ zr t q :: st).map zc)) (n := n) ⟨C.1, C.2.1, C.2.2.1, C.2.2.2.1, hts⟩ hM
      ⟨va_cnB n hts (zTb_good w3) rfl rfl rfl (hNm _ wl) (hts _ w2) ⟨hy1, hy2, hnp⟩ hR, hyn, hts _ w1⟩ hpre rfl (by rw [List.length_map]; exact hn) hL.1 e9 (lv_room hw) d hc
    exact zi_back hrun hS hL kk
/-- a method of a whole thing, called while others are made -/
theorem v_callV (C : zCv p s m args c Γ b cc nL own) {y : MethodName} {bs : ByteArray} {mx lv idx t a n : Nat} {ret : Option FieldType} {av : List zV} {post : Option zV → zH → Prop} (d : decode cc pc = .ok (.invokevirtual idx, 3)) (w : zWv own idx y t bs mx ret n) (ht : 1 ≤ t ∧ t ≤ 10) (hn : av.length = n) (hM : zMet l Γ y bs mx ret lv (zr t a :: av) G post) (hB : zBn Γ G) (hav : ∀ x ∈ zr t a :: av, zk Γ x) (hR : lv + 1 ≤ R.frames ∧ 8 + (mx + 11) + 40 * lv ≤ R.locals) (hc : cells ≤ R.cells ∧ slots ≤ R.slots) (hw : ((st.map zc).map fun v => v.category).sum ≤ 8)
    (kk : ∀ (r : Option zV) (G' : zH), post r G' → zBn Γ (zno Γ G') → V p l e R s m args below meth c b Γ.2.2.2.1 nL cells slots Q (pc + 3) ls (r.toList ++ st) (X ++ zWd Γ (zno Γ G'))) : V p l e R s m args below meth c b Γ.2.2.2.1 nL cells slots Q pc ls (av.reverse ++ zr t a :: st) (X ++ zWd Γ G) := by
  intro H locs rl hP hD hS hL
  obtain ⟨⟨w1, w2, w3, w4, w5⟩, hcl, hy1, hy2, hnp⟩ := w
  have hts := C.2.2.2.2.1
  obtain ⟨hXb, hNk, hNm⟩ := C.2.2.2.2.2.2.1
  have hAb := zA_of hB.1 hD
  have hra := hav _ List.mem_cons_self
  obtain ⟨hta, -⟩ := zk_ty hra (by omega)
  have hPz : va_P Γ.2.2.2.1 vwCl (zWd Γ G) H := zP_mem hP (fun x hx => List.mem_append_right _ hx)
  obtain ⟨q0, hq0⟩ := va_pl_get (X := []) (f := zE Γ G) ((hB.1.2.1 a).mpr (by omega))
  rw [zE_cls hta ht.2] at hq0
  have hrun := va_runV (H := H) (e := e) (below := below) (meth := meth) (locs := locs) (cells := cells) (slots := slots) (As := av.map zc) (rest := st.map zc) (b := a) (C := zCn t) (g := F0 m pc rl ((av.reverse ++ zr t a :: st).map zc)) (n := n) ⟨C.1, C.2.1, C.2.2.1, C.2.2.2.1, hts⟩ hM
    ⟨callB_of n hts (zTb_good w5) rfl rfl rfl (by rw [hcl]; exact hts _ w4) (hts _ w1) ⟨hy1, hy2, hnp⟩ hR, hts _ w2, hts _ w3⟩
    ⟨zPc_blind, va_recv C.2.2.2.2.2.1 hPz (zcl_at ht.1 ht.2) hq0, fun U hU hW => ⟨rfl, ⟨va_K.moved hW.alike C.2.2.2.2.2.1, hB.1, zXb_f (zXb_keep hXb hW.alike (fun x h1 h2 => by rw [hU]; exact hS.2.1 x h1 h2)) hAb, fun x hx => va_Nw.warmF hW (hNk x hx)⟩, hB.2.1, hav, by rw [hU]; exact hPz⟩⟩
    rfl (by rw [List.length_map]; exact hn) hL.1 (by simp [zc]) (lv_room hw) d ⟨by simpa using hc.1, by simpa using hc.2⟩
  intro T hT X1
  obtain ⟨v, st₀, t9, T', L, h01, X', hL', e1, e2, ⟨⟨r, G', hv, hz, hp, hG', hP'⟩, hF⟩, go⟩ := hrun T hT X1
  have hv' : v = r.map zc := by cases hv; rfl
  subst hv'
  have hS1 : va_S (zAb b) s.heap t9.heap (locs ++ L) := by
    refine ⟨Nat.le_trans hS.1 (by rw [← h01]; exact hF.1), fun q h1 h2 => ?_, fun l hl => ?_⟩
    · rw [hF.2 q (by rw [h01]; exact Nat.lt_of_lt_of_le h1 hS.1) (fun h => h2 (hAb q h)), h01]
      exact hS.2.1 q h1 h2
    · rcases List.mem_append.mp hl with q | q
      · exact hS.2.2 l q
      · exact hAb _ (hL' l q)
  have hPX : va_P Γ.2.2.2.1 vwCl X t9.heap := by
    intro k q hk
    have hk1 : (X ++ zWd Γ G)[k]? = some q := by rw [List.getElem?_append_left (List.getElem?_eq_some_iff.mp hk).1]; exact hk
    have h1 := hP k q hk1
    refine h1.kept ?_
    rw [hF.2 q.1 (by rw [h01]; exact h1.lt) (fun h => ?_), h01]
    have hm : q.1 ∈ Γ.2.2.2.2.1 := (hB.1.2.1 q.1).mpr h
    have h2 : (q.1, zE Γ G q.1) ∈ zWd Γ G := List.mem_map.mpr ⟨q.1, hm, rfl⟩
    obtain ⟨j, hj⟩ := List.getElem?_of_mem h2
    have hj1 : (X ++ zWd Γ G)[X.length + j]? = some (q.1, zE Γ G q.1) := by rw [List.getElem?_append_right (by omega), Nat.add_sub_cancel_left]; exact hj
    have h3 := hD.1 k (X.length + j) q _ hk1 hj1 rfl
    have h4 := (List.getElem?_eq_some_iff.mp hk).1
    omega
  have hD' : va_D (zAb b) (X ++ zWd Γ (zno Γ G')) := by
    rw [zD_iff] at hD ⊢
    have e8 : (X ++ zWd Γ (zno Γ G')).map (fun q => q.1) = (X ++ zWd Γ G).map (fun q => q.1) := by
      rw [List.map_append, List.map_append]
      unfold zWd va_pl
      rw [List.map_map, List.map_map]
      rfl
    refine ⟨by rw [e8]; exact hD.1, fun q hq => ?_⟩
    have h1 : q.1 ∈ (X ++ zWd Γ (zno Γ G')).map (fun q => q.1) := List.mem_map.mpr ⟨q, hq, rfl⟩
    rw [e8] at h1
    obtain ⟨q2, h2, h3⟩ := List.mem_map.mp h1
    rw [← h3]
    exact hD.2 q2 h2
  have hBn := zBn_no hB.1 hG'
  obtain ⟨t8, a9, b9⟩ := kk r G' hp hBn t9.heap (locs ++ L) rl (hPX.app (by rw [zWd_no hB.1]; exact hP')) hD' hS1 hL T' e1 X'
  refine ⟨t8, ?_, b9⟩
  have e9 : List.map zc (r.toList ++ st) = (r.map zc).toList ++ st.map zc := by
    cases r <;> simp
  rw [e9] at a9
  exact go t8 a9
theorem v_init0 {Γ0 : zΓ} {hd : Nat × va_E} (C : zCv p s m args c Γ0 b cc nL own) (hx : zxt Γ0 Γ) {y : MethodName} {bs : ByteArray} {mx lv mc ms idx t q n : Nat} {av : List zV} {T : State → Prop} {post : zΓ → zH → Prop} (d : decode cc pc = .ok (.invokespecial idx, 3)) (w : zWi idx y bs mx n) (wl : zLi own idx y) (hn : av.length = n) (hM : zMi l y bs mx lv mc ms b Γ G (hd :: X) t q av T post) (hB : zBn Γ G) (hav : ∀ x ∈ av, zk Γ x) (hT : zSty b T) (hTs : T s) (hR : lv + 1 ≤ R.frames ∧ 8 + (mx + 11) + 40 * lv ≤ R.locals) (hc : cells + mc ≤ R.cells ∧ slots + ms ≤ R.slots) (hw : ((st.map zc).map fun v => v.category).sum ≤ 8)
    (kk : ∀ (Γ' : zΓ) (G' : zH), zxt Γ Γ' → zBn Γ' G' → Γ'.1 q = t → post Γ' G' → V p l e R s m args below meth c b Γ0.2.2.2.1 nL (cells + mc) (slots + ms) Q (pc + 3) ls st (hd :: (X ++ zWd Γ' G'))) : V p l e R s m args below meth c b Γ0.2.2.2.1 nL cells slots Q pc ls (av.reverse ++ zr t q :: st) ((q, zO0 t) :: hd :: (X ++ zWd Γ G)) := by
  rw [← hx.2.1]
  refine v_init (X := hd :: X) (zCv_x C hx) d w wl hn hM hB hav hT hTs hR hc hw (fun Γ' G' h1 h2 h3 h4 => ?_)
  have h := kk Γ' G' h1 h2 h3 h4
  rw [← hx.2.1] at h
  exact h
theorem v_callV0 {Γ0 : zΓ} (C : zCv p s m args c Γ0 b cc nL own) (hx : zxt Γ0 Γ) {y : MethodName} {bs : ByteArray} {mx lv idx t a n : Nat} {ret : Option FieldType} {av : List zV} {post : Option zV → zH → Prop} (d : decode cc pc = .ok (.invokevirtual idx, 3)) (w : zWv own idx y t bs mx ret n) (ht : 1 ≤ t ∧ t ≤ 10) (hn : av.length = n) (hM : zMet l Γ y bs mx ret lv (zr t a :: av) G post) (hB : zBn Γ G) (hav : ∀ x ∈ zr t a :: av, zk Γ x) (hR : lv + 1 ≤ R.frames ∧ 8 + (mx + 11) + 40 * lv ≤ R.locals) (hc : cells ≤ R.cells ∧ slots ≤ R.slots) (hw : ((st.map zc).map fun v => v.category).sum ≤ 8)
    (kk : ∀ (r : Option zV) (G' : zH), post r G' → zBn Γ (zno Γ G') → V p l e R s m args below meth c b Γ0.2.2.2.1 nL cells slots Q (pc + 3) ls (r.toList ++ st) (X ++ zWd Γ (zno Γ G'))) : V p l e R s m args below meth c b Γ0.2.2.2.1 nL cells slots Q pc ls (av.reverse ++ zr t a :: st) (X ++ zWd Γ G) := by
  rw [← hx.2.1]
  refine v_callV (zCv_x C hx) d w ht hn hM hB hav hR hc hw (fun r G' h1 h2 => ?_)
  have h := kk r G' h1 h2
  rw [← hx.2.1] at h
  exact h
end ZW
