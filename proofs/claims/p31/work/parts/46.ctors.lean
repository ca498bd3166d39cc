def zTx (b : Nat) (o : (Nat → Nat) × (Nat → Nat) × (Nat → Nat → Int)) (U : State) : Prop :=
  (vk_R RX6 24 "or and not worth times worn pride lie honest day " (o.1 3) U ∧ vk_R RX6 26 "sin person did cake grain grist stone seed law may grind wear want pair " (o.1 4) U) ∧
  ∃ (v1 n1 : Nat) (f1 : Nat → Int32) (v2 n2 : Nat) (f2 : Nat → Int32), jStr (zAb b) (o.1 3) v1 n1 f1 U U.heap ∧ jStr (zAb b) (o.1 4) v2 n2 f2 U U.heap
theorem zTx_sty {b : Nat} {o : (Nat → Nat) × (Nat → Nat) × (Nat → Nat → Int)} : zSty b (zTx b o) := by
  intro U U1 h hW hq
  obtain ⟨⟨h1, h2⟩, v1, n1, f1, v2, n2, f2, h3, h4⟩ := h
  exact ⟨⟨vk_R.warm hW h1, vk_R.warm hW h2⟩, v1, n1, f1, v2, n2, f2, jStr_keep h3 hW.alike hq, jStr_keep h4 hW.alike hq⟩
section ZY
variable {p : Program} {l : Launch} {e : Env} {R : Room} {s : State} {m : MethodId} {args : Array Value} {below : List Frame} {meth : Method} {c : Code} {Γ Γ0 : zΓ} {b : Nat} {cc : ByteArray} {nL : Nat} {own : String} {cells slots : Nat} {Q : State → Prop} {pc : Nat} {ls : List (Option zV)} {st : List zV} {G : zH} {ws X : va_W} {D : va_G}
theorem v_ldcS (C : zCv p s m args c Γ b cc nL own) {idx q t : Nat} {tx : String} (hZ : vk_R own idx tx q s) (d : decode cc pc = .ok (.ldc idx, 2)) (kk : V p l e R s m args below meth c b D nL cells slots Q (pc + 2) ls (zr t q :: st) ws) : V p l e R s m args below meth c b D nL cells slots Q pc ls st ws := by
  intro H locs rl hP hD hS hL
  exact va_ldcS C.1 C.2.1 C.2.2.2.1 hZ d (kk H locs rl hP hD hS hL)
theorem v_init00 {hd : Nat × va_E} (C : zCv p s m args c Γ0 b cc nL own) (hx : zxt Γ0 Γ) {y : MethodName} {bs : ByteArray} {mx lv mc ms idx t q : Nat} {T : State → Prop} {post : zΓ → zH → Prop} (d : decode cc pc = .ok (.invokespecial idx, 3)) (w : zWi idx y bs mx 0) (wl : zLi own idx y) (hn : 0 = 0) (hM : zMi l y bs mx lv mc ms b Γ G (hd :: X) t q [] T post) (hB : zBn Γ G) (hav : ∀ x ∈ ([] : List zV), zk Γ x) (hT : zSty b T) (hTs : T s) (hR : lv + 1 ≤ R.frames ∧ 8 + (mx + 11) + 40 * lv ≤ R.locals) (hc : cells + mc ≤ R.cells ∧ slots + ms ≤ R.slots) (hw : ((st.map zc).map fun v => v.category).sum ≤ 8)
    (kk : ∀ (Γ' : zΓ) (G' : zH), zxt Γ Γ' → zBn Γ' G' → Γ'.1 q = t → post Γ' G' → V p l e R s m args below meth c b Γ0.2.2.2.1 nL (cells + mc) (slots + ms) Q (pc + 3) ls st (hd :: (X ++ zWd Γ' G'))) : V p l e R s m args below meth c b Γ0.2.2.2.1 nL cells slots Q pc ls (zr t q :: st) ((q, zO0 t) :: hd :: (X ++ zWd Γ G)) :=
  v_init0 (av := []) C hx d w wl rfl hM hB hav hT hTs hR hc hw kk
theorem v_init01 {hd : Nat × va_E} {a : zV} (C : zCv p s m args c Γ0 b cc nL own) (hx : zxt Γ0 Γ) {y : MethodName} {bs : ByteArray} {mx lv mc ms idx t q : Nat} {T : State → Prop} {post : zΓ → zH → Prop} (d : decode cc pc = .ok (.invokespecial idx, 3)) (w : zWi idx y bs mx 1) (wl : zLi own idx y) (hn : 0 = 0) (hM : zMi l y bs mx lv mc ms b Γ G (hd :: X) t q [a] T post) (hB : zBn Γ G) (hav : ∀ x ∈ [a], zk Γ x) (hT : zSty b T) (hTs : T s) (hR : lv + 1 ≤ R.frames ∧ 8 + (mx + 11) + 40 * lv ≤ R.locals) (hc : cells + mc ≤ R.cells ∧ slots + ms ≤ R.slots) (hw : ((st.map zc).map fun v => v.category).sum ≤ 8)
    (kk : ∀ (Γ' : zΓ) (G' : zH), zxt Γ Γ' → zBn Γ' G' → Γ'.1 q = t → post Γ' G' → V p l e R s m args below meth c b Γ0.2.2.2.1 nL (cells + mc) (slots + ms) Q (pc + 3) ls st (hd :: (X ++ zWd Γ' G'))) : V p l e R s m args below meth c b Γ0.2.2.2.1 nL cells slots Q pc ls (a :: zr t q :: st) ((q, zO0 t) :: hd :: (X ++ zWd Γ G)) :=
  v_init0 (av := [a]) C hx d w wl rfl hM hB hav hT hTs hR hc hw kk
theorem v_call00 (C : zCv p s m args c Γ0 b cc nL own) (hx : zxt Γ0 Γ) {y : MethodName} {bs : ByteArray} {mx lv idx t q : Nat} {post : zH → Prop} (d : decode cc pc = .ok (.invokevirtual idx, 3)) (w : zWv own idx y t bs mx none 0) (ht : 1 ≤ t ∧ t ≤ 10) (hM : zMet l Γ y bs mx none lv [zr t q] G (zpv post)) (hB : zBn Γ G) (h1 : zk Γ (zr t q)) (hR : lv + 1 ≤ R.frames ∧ 8 + (mx + 11) + 40 * lv ≤ R.locals) (hc : cells ≤ R.cells ∧ slots ≤ R.slots) (hw : ((st.map zc).map fun v => v.category).sum ≤ 8)
    (kk : ∀ (G' : zH), post G' → zBn Γ (zno Γ G') → V p l e R s m args below meth c b Γ0.2.2.2.1 nL cells slots Q (pc + 3) ls st (X ++ zWd Γ (zno Γ G'))) : V p l e R s m args below meth c b Γ0.2.2.2.1 nL cells slots Q pc ls (zr t q :: st) (X ++ zWd Γ G) :=
  v_callV0 (av := []) C hx d w ht rfl hM hB (fun x hx => by rw [List.mem_singleton.mp hx]; exact h1) hR hc hw (fun r G' hp hB' => by obtain ⟨rfl, hp⟩ := hp; exact kk G' hp hB')
theorem v_call01 {a : zV} (C : zCv p s m args c Γ0 b cc nL own) (hx : zxt Γ0 Γ) {y : MethodName} {bs : ByteArray} {mx lv idx t q : Nat} {post : zH → Prop} (d : decode cc pc = .ok (.invokevirtual idx, 3)) (w : zWv own idx y t bs mx none 1) (ht : 1 ≤ t ∧ t ≤ 10) (hM : zMet l Γ y bs mx none lv [zr t q, a] G (zpv post)) (hB : zBn Γ G) (h1 : zk Γ (zr t q)) (h2 : zk Γ a) (hR : lv + 1 ≤ R.frames ∧ 8 + (mx + 11) + 40 * lv ≤ R.locals) (hc : cells ≤ R.cells ∧ slots ≤ R.slots) (hw : ((st.map zc).map fun v => v.category).sum ≤ 8)
    (kk : ∀ (G' : zH), post G' → zBn Γ (zno Γ G') → V p l e R s m args below meth c b Γ0.2.2.2.1 nL cells slots Q (pc + 3) ls st (X ++ zWd Γ (zno Γ G'))) : V p l e R s m args below meth c b Γ0.2.2.2.1 nL cells slots Q pc ls (a :: zr t q :: st) (X ++ zWd Γ G) :=
  v_callV0 (av := [a]) C hx d w ht rfl hM hB (fun x hx => by rcases List.mem_cons.mp hx with h | h; exact h ▸ h1; rw [List.mem_singleton.mp h]; exact h2) hR hc hw (fun r G' hp hB' => by obtain ⟨rfl, hp⟩ := hp; exact kk G' hp hB')
theorem v_callT {T : State → Prop} (C : zCv p s m args c Γ b cc nL own) {y : MethodName} {bs : ByteArray} {mx lv idx t a n : Nat} {ret : Option FieldType} {av : List zV} {post : Option zV → zH → Prop} (d : decode cc pc = .ok (.invokevirtual idx, 3)) (w : zWv own idx y t bs mx ret n) (ht : 1 ≤ t ∧ t ≤ 10) (hn : av.length = n) (hM : zMt l Γ T y bs mx ret lv (zr t a :: av) G post) (hB : zBn Γ G) (hav : ∀ x ∈ zr t a :: av, zk Γ x) (hT : ∀ (U : State) (H : Heap), U.heap = H → s.vm.Alike U.vm → (∀ x : Nat, x < s.heap.size → ¬ zAb b x → H[x]? = s.heap[x]?) → (∀ x, zA Γ x → zAb b x) → T U) (hTb : ∀ (a : Array Value) (U : State) (g : JFrame) (mk : MethodId), T U → T (U.calling g mk a)) (hR : lv + 1 ≤ R.frames ∧ 8 + (mx + 11) + 40 * lv ≤ R.locals) (hc : cells ≤ R.cells ∧ slots ≤ R.slots) (hw : ((st.map zc).map fun v => v.category).sum ≤ 8)
    (kk : ∀ (r : Option zV) (G' : zH), post r G' → (∀ x, r = some x → zk Γ x) → zBn Γ (zno Γ G') → V p l e R s m args below meth c b Γ.2.2.2.1 nL cells slots Q (pc + 3) ls (r.toList ++ st) (X ++ zWd Γ (zno Γ G'))) : V p l e R s m args below meth c b Γ.2.2.2.1 nL cells slots Q pc ls (av.reverse ++ zr t a :: st) (X ++ zWd Γ G) := by
  intro H locs rl hP hD hS hL
  obtain ⟨⟨w1, w2, w3, w4, w5⟩, hcl, hy1, hy2, hnp⟩ := w
  have hts := C.2.2.2.2.1
  obtain ⟨hXb, hNk, hNm⟩ := C.2.2.2.2.2.2.1
  have hAb := zA_of hB.1 hD
  have hra := hav _ List.mem_cons_self
  obtain ⟨hta, -⟩ := zk_ty hra (by omega)
  have hPz : va_P Γ.2.2.2.1 vwCl (zWd Γ G) H := zP_mem hP (fun x hx => List.mem_append_right _ hx)
  obtain ⟨q0, hq0⟩ := va_pl_get (X := []) (f := zE Γ G) ((hB.1.2.1 a).mpr (by omega))
  rw [zE_cls hta ht.2] at hq0
  have hrun := va_runV (H := H) (e := e) (below := below) (meth := meth) (locs := locs) (cells := cells) (slots := slots) (As := av.map zc) (rest := st.map zc) (b := a) (C := zCn t) (g := F0 m pc rl ((av.reverse ++ zr t a :: st).map zc)) (n := n) ⟨C.1, C.2.1, C.2.2.1, C.2.2.2.1, hts⟩ hM
    ⟨callB_of n hts (zTb_good w5) rfl rfl rfl (by rw [hcl]; exact hts _ w4) (hts _ w1) ⟨hy1, hy2, hnp⟩ hR, hts _ w2, hts _ w3⟩
    ⟨fun a U g mk h => ⟨zPc_blind a U g mk h.1, hTb a U g mk h.2⟩, va_recv C.2.2.2.2.2.1 hPz (zcl_at ht.1 ht.2) hq0, fun U hU hW => ⟨⟨rfl, ⟨va_K.moved hW.alike C.2.2.2.2.2.1, hB.1, zXb_f (zXb_keep hXb hW.alike (fun x h1 h2 => by rw [hU]; exact hS.2.1 x h1 h2)) hAb, fun x hx => va_Nw.warmF hW (hNk x hx)⟩, hB.2.1, hav, by rw [hU]; exact hPz⟩, hT U H hU hW.alike (fun x h1 h2 => hS.2.1 x h1 h2) hAb⟩⟩
    rfl (by rw [List.length_map]; exact hn) hL.1 (by simp [zc]) (lv_room hw) d ⟨by simpa using hc.1, by simpa using hc.2⟩
  intro T hT X1
  obtain ⟨v, st₀, t9, T', L, h01, X', hL', e1, e2, ⟨⟨r, G', hv, hz, hp, hG', hP'⟩, hF⟩, go⟩ := hrun T hT X1
  have hv' : v = r.map zc := by cases hv; rfl
  subst hv'
  have hS1 : va_S (zAb b) s.heap t9.heap (locs ++ L) := by
    refine ⟨Nat.le_trans hS.1 (by rw [← h01]; exact hF.1), fun q h1 h2 => ?_, fun l hl => ?_⟩
    · rw [hF.2 q (by rw [h01]; exact Nat.lt_of_lt_of_le h1 hS.1) (fun h => h2 (hAb q h)), h01]
      exact hS.2.1 q h1 h2
    · rcases List.mem_append.mp hl with q | q
      · exact hS.2.2 l q
      · exact hAb _ (hL' l q)
  have hPX : va_P Γ.2.2.2.1 vwCl X t9.heap := by
    intro k q hk
    have hk1 : (X ++ zWd Γ G)[k]? = some q := by rw [List.getElem?_append_left (List.getElem?_eq_some_iff.mp hk).1]; exact hk
    have h1 := hP k q hk1
    refine h1.kept ?_
    rw [hF.2 q.1 (by rw [h01]; exact h1.lt) (fun h => ?_), h01]
    have hm : q.1 ∈ Γ.2.2.2.2.1 := (hB.1.2.1 q.1).mpr h
    have h2 : (q.1, zE Γ G q.1) ∈ zWd Γ G := List.mem_map.mpr ⟨q.1, hm, rfl⟩
    obtain ⟨j, hj⟩ := List.getElem?_of_mem h2
    have hj1 : (X ++ zWd Γ G)[X.length + j]? = some (q.1, zE Γ G q.1) := by rw [List.getElem?_append_right (by omega), Nat.add_sub_cancel_left]; exact hj
    have h3 := hD.1 k (X.length + j) q _ hk1 hj1 rfl
    have h4 := (List.getElem?_eq_some_iff.mp hk).1
    omega
  have hD' : va_D (zAb b) (X ++ zWd Γ (zno Γ G')) := by
    rw [zD_iff] at hD ⊢
    have e8 : (X ++ zWd Γ (zno Γ G')).map (fun q => q.1) = (X ++ zWd Γ G).map (fun q => q.1) := by
      rw [List.map_append, List.map_append]
      unfold zWd va_pl
      rw [List.map_map, List.map_map]
      rfl
    refine ⟨by rw [e8]; exact hD.1, fun q hq => ?_⟩
    have h1 : q.1 ∈ (X ++ zWd Γ (zno Γ G')).map (fun q => q.1) := List.mem_map.mpr ⟨q, hq, rfl⟩
    rw [e8] at h1
    obtain ⟨q2, h2, h3⟩ := List.mem_map.mp h1
    rw [← h3]
    exact hD.2 q2 h2
  have hBn := zBn_no hB.1 hG'
  obtain ⟨t8, a9, b9⟩ := kk r G' hp hz hBn t9.heap (locs ++ L) rl (hPX.app (by rw [zWd_no hB.1]; exact hP')) hD' hS1 hL T' e1 X'
  refine ⟨t8, ?_, b9⟩
  have e9 : List.map zc (r.toList ++ st) = (r.map zc).toList ++ st.map zc := by
    cases r <;> simp
  rw [e9] at a9
  exact go t8 a9

theorem v_learn (C : zCv p s m args c Γ0 b cc nL own) (hx : zxt Γ0 Γ) {bs : ByteArray} {idx w0 a t v n : Nat} {k : Int} {f : Nat → Int32} {y : MethodName} (d : decode cc pc = .ok (.invokevirtual idx, 3)) (w : zWv own idx y 7 bs 7 (some .int) 2) (hM : zMt l Γ (fun U => jStr (zA Γ) a v n f U U.heap) y bs 7 (some .int) 4 [zr 7 w0, zr t a, zi k] G (zpi (fun x G' => zsm [2044] G G' ∧ 0 ≤ x))) (hB : zBn Γ G) (ht0 : Γ.1 w0 = 7) (ha : a = Γ.2.2.2.2.2.1 (t - 200)) (hJ : jStr (zAb b) a v n f s s.heap) (ht : 200 ≤ t) (hR : 5 ≤ R.frames ∧ 200 ≤ R.locals) (hc : cells ≤ R.cells ∧ slots ≤ R.slots) (hw : ((st.map zc).map fun v => v.category).sum ≤ 8) (hk : -2147483648 ≤ k ∧ k ≤ 2147483647)
    (kk : ∀ (x : Int) (G' : zH), 0 ≤ x → (-2147483648 ≤ x ∧ x ≤ 2147483647) → zBn Γ (zno Γ G') → V p l e R s m args below meth c b Γ0.2.2.2.1 nL cells slots Q (pc + 3) ls (zi x :: st) (X ++ zWd Γ (zno Γ G'))) : V p l e R s m args below meth c b Γ0.2.2.2.1 nL cells slots Q pc ls (zi k :: zr t a :: zr 7 w0 :: st) (X ++ zWd Γ G) := by
  rw [← hx.2.1]
  refine v_callT (av := [zr t a, zi k]) (zCv_x C hx) d w (by decide) rfl hM hB ?_ (fun U H hU hvm hq hA => by rw [hU]; exact jStr_nar (jStr_keep hJ hvm hq) hA) ?_ (by show 4 + 1 ≤ R.frames ∧ 8 + (7 + 11) + 40 * 4 ≤ R.locals; omega) hc hw (fun r G' hp hz hB' => ?_)
  · intro x hx
    rcases List.mem_cons.mp hx with h | h
    · rw [h]; exact zk_of ht0 (by decide) (by decide)
    · rcases List.mem_cons.mp h with h | h
      · rw [h]; exact Or.inr ⟨ht, ha⟩
      · rw [List.mem_singleton.mp h]; exact hk
  · intro a U g mk h
    exact jStr_keep (U := U) (U1 := U.calling g mk a) h (Vm.Alike.refl U.vm) (fun _ _ _ => rfl)
  · obtain ⟨x, rfl, hp⟩ := hp
    have h := kk x G' hp.2 (hz _ rfl) hB'
    rw [← hx.2.1] at h
    exact h
end ZY
theorem ol_X0 : Cond.methodLink RX0 3 Lib.objectInit ∈ zTb := (zTb_2 218 rfl rfl)
theorem oi_ : Cond.instanceMethod Lib.objectInit ∈ zTb := (zTb_1 30 rfl rfl)
theorem oc_ : Cond.code Lib.objectInit ⟨#[0xb1]⟩ 1 none ∈ zTb := (zTb_1 31 rfl rfl)
theorem ac_int : Cond.arrayClass .int ∈ zTb := (zTb_1 127 rfl rfl)
theorem fl_X0_9 : Cond.fieldLink RX0 9 (zCn 1) (zT 1 0).2.1 (zT 1 0).2.2.1 ∈ zTb := (zTb_2 219 rfl rfl)
theorem fl_X0_15 : Cond.fieldLink RX0 15 (zCn 1) (zT 1 1).2.1 (zT 1 1).2.2.1 ∈ zTb := (zTb_2 220 rfl rfl)
theorem ac_long : Cond.arrayClass .long ∈ zTb := (zTb_1 168 rfl rfl)
theorem fl_X0_18 : Cond.fieldLink RX0 18 (zCn 1) (zT 1 2).2.1 (zT 1 2).2.2.1 ∈ zTb := (zTb_2 222 rfl rfl)
theorem ol_X1 : Cond.methodLink RX1 3 Lib.objectInit ∈ zTb := (zTb_1 140 rfl rfl)
theorem fl_X1_11 : Cond.fieldLink RX1 11 (zCn 2) (zT 2 0).2.1 (zT 2 0).2.2.1 ∈ zTb := (zTb_1 141 rfl rfl)
theorem fl_X1_15 : Cond.fieldLink RX1 15 (zCn 2) (zT 2 1).2.1 (zT 2 1).2.2.1 ∈ zTb := (zTb_1 142 rfl rfl)
theorem fl_X1_18 : Cond.fieldLink RX1 18 (zCn 2) (zT 2 2).2.1 (zT 2 2).2.2.1 ∈ zTb := (zTb_1 143 rfl rfl)
theorem fl_X1_21 : Cond.fieldLink RX1 21 (zCn 2) (zT 2 3).2.1 (zT 2 3).2.2.1 ∈ zTb := (zTb_1 144 rfl rfl)
theorem fl_X1_24 : Cond.fieldLink RX1 24 (zCn 2) (zT 2 4).2.1 (zT 2 4).2.2.1 ∈ zTb := (zTb_1 145 rfl rfl)
theorem fl_X1_28 : Cond.fieldLink RX1 28 (zCn 2) (zT 2 5).2.1 (zT 2 5).2.2.1 ∈ zTb := (zTb_1 146 rfl rfl)
theorem ol_X4 : Cond.methodLink RX4 3 Lib.objectInit ∈ zTb := (zTb_2 61 rfl rfl)
theorem fl_X4_9 : Cond.fieldLink RX4 9 (zCn 5) (zT 5 0).2.1 (zT 5 0).2.2.1 ∈ zTb := (zTb_2 62 rfl rfl)
theorem fl_X4_15 : Cond.fieldLink RX4 15 (zCn 5) (zT 5 1).2.1 (zT 5 1).2.2.1 ∈ zTb := (zTb_2 65 rfl rfl)
theorem fl_X4_18 : Cond.fieldLink RX4 18 (zCn 5) (zT 5 2).2.1 (zT 5 2).2.2.1 ∈ zTb := (zTb_2 68 rfl rfl)
theorem fl_X4_21 : Cond.fieldLink RX4 21 (zCn 5) (zT 5 3).2.1 (zT 5 3).2.2.1 ∈ zTb := (zTb_2 71 rfl rfl)
theorem fl_X4_24 : Cond.fieldLink RX4 24 (zCn 5) (zT 5 4).2.1 (zT 5 4).2.2.1 ∈ zTb := (zTb_2 73 rfl rfl)
theorem fl_X4_27 : Cond.fieldLink RX4 27 (zCn 5) (zT 5 5).2.1 (zT 5 5).2.2.1 ∈ zTb := (zTb_2 76 rfl rfl)
theorem fl_X4_30 : Cond.fieldLink RX4 30 (zCn 5) (zT 5 6).2.1 (zT 5 6).2.2.1 ∈ zTb := (zTb_2 78 rfl rfl)
theorem fl_X4_33 : Cond.fieldLink RX4 33 (zCn 5) (zT 5 7).2.1 (zT 5 7).2.2.1 ∈ zTb := (zTb_2 80 rfl rfl)
theorem fl_X4_36 : Cond.fieldLink RX4 36 (zCn 5) (zT 5 8).2.1 (zT 5 8).2.2.1 ∈ zTb := (zTb_2 82 rfl rfl)
theorem fl_X4_39 : Cond.fieldLink RX4 39 (zCn 5) (zT 5 9).2.1 (zT 5 9).2.2.1 ∈ zTb := (zTb_2 84 rfl rfl)
theorem ol_X2 : Cond.methodLink RX2 3 Lib.objectInit ∈ zTb := (zTb_2 185 rfl rfl)
theorem fl_X2_9 : Cond.fieldLink RX2 9 (zCn 3) (zT 3 1).2.1 (zT 3 1).2.2.1 ∈ zTb := (zTb_2 187 rfl rfl)
theorem fl_X2_15 : Cond.fieldLink RX2 15 (zCn 3) (zT 3 2).2.1 (zT 3 2).2.2.1 ∈ zTb := (zTb_2 188 rfl rfl)
theorem fl_X2_18 : Cond.fieldLink RX2 18 (zCn 3) (zT 3 3).2.1 (zT 3 3).2.2.1 ∈ zTb := (zTb_2 190 rfl rfl)
theorem fl_X2_21 : Cond.fieldLink RX2 21 (zCn 3) (zT 3 4).2.1 (zT 3 4).2.2.1 ∈ zTb := (zTb_2 192 rfl rfl)
theorem fl_X2_24 : Cond.fieldLink RX2 24 (zCn 3) (zT 3 5).2.1 (zT 3 5).2.2.1 ∈ zTb := (zTb_2 193 rfl rfl)
theorem fl_X2_27 : Cond.fieldLink RX2 27 (zCn 3) (zT 3 0).2.1 (zT 3 0).2.2.1 ∈ zTb := (zTb_2 186 rfl rfl)
theorem ol_X5 : Cond.methodLink RX5 3 Lib.objectInit ∈ zTb := (zTb_1 134 rfl rfl)
theorem cl_X5_9 : Cond.classLink RX5 9 (zCn 2) ∈ zTb := (zTb_1 135 rfl rfl)
theorem in_2 : Cond.instantiable (zCn 2) (zN 2) ∈ zTb := (zTb_1 136 rfl rfl)
theorem iz_2 : Cond.initialized (zCn 2) ∈ zTb := (zTb_1 9 rfl rfl)
theorem wi_X1 (idx : Nat) : zWi idx yX1_init cX1_init 1 0 := ⟨⟨(zTb_1 138 rfl rfl), (zTb_1 9 rfl rfl), (zTb_1 139 rfl rfl)⟩, rfl, by decide +kernel, by decide +kernel, by decide +kernel⟩
theorem li_X5_11 : zLi RX5 11 yX1_init := Or.inr ⟨RX8, List.mem_of_getElem? (i := 2) rfl⟩
theorem fl_X5_12 : Cond.fieldLink RX5 12 (zCn 6) (zT 6 0).2.1 (zT 6 0).2.2.1 ∈ zTb := (zTb_1 169 rfl rfl)
theorem fl_X5_18 : Cond.fieldLink RX5 18 (zCn 6) (zT 6 1).2.1 (zT 6 1).2.2.1 ∈ zTb := (zTb_1 173 rfl rfl)
theorem fl_X5_22 : Cond.fieldLink RX5 22 (zCn 6) (zT 6 2).2.1 (zT 6 2).2.2.1 ∈ zTb := (zTb_1 174 rfl rfl)
theorem fl_X5_25 : Cond.fieldLink RX5 25 (zCn 6) (zT 6 3).2.1 (zT 6 3).2.2.1 ∈ zTb := (zTb_1 180 rfl rfl)
theorem fl_X5_28 : Cond.fieldLink RX5 28 (zCn 6) (zT 6 4).2.1 (zT 6 4).2.2.1 ∈ zTb := (zTb_1 184 rfl rfl)
theorem fl_X5_31 : Cond.fieldLink RX5 31 (zCn 6) (zT 6 5).2.1 (zT 6 5).2.2.1 ∈ zTb := (zTb_1 188 rfl rfl)
theorem fl_X5_34 : Cond.fieldLink RX5 34 (zCn 6) (zT 6 6).2.1 (zT 6 6).2.2.1 ∈ zTb := (zTb_1 191 rfl rfl)
theorem fl_X5_37 : Cond.fieldLink RX5 37 (zCn 6) (zT 6 7).2.1 (zT 6 7).2.2.1 ∈ zTb := (zTb_1 195 rfl rfl)
theorem fl_X5_40 : Cond.fieldLink RX5 40 (zCn 6) (zT 6 8).2.1 (zT 6 8).2.2.1 ∈ zTb := (zTb_1 199 rfl rfl)
theorem fl_X5_43 : Cond.fieldLink RX5 43 (zCn 6) (zT 6 9).2.1 (zT 6 9).2.2.1 ∈ zTb := (zTb_1 203 rfl rfl)
theorem fl_X5_47 : Cond.fieldLink RX5 47 (zCn 6) (zT 6 10).2.1 (zT 6 10).2.2.1 ∈ zTb := (zTb_1 206 rfl rfl)
theorem ol_X6 : Cond.methodLink RX6 3 Lib.objectInit ∈ zTb := (zTb_1 43 rfl rfl)
theorem fl_X6_11 : Cond.fieldLink RX6 11 (zCn 7) (zT 7 0).2.1 (zT 7 0).2.2.1 ∈ zTb := (zTb_1 101 rfl rfl)
theorem fl_X6_15 : Cond.fieldLink RX6 15 (zCn 7) (zT 7 1).2.1 (zT 7 1).2.2.1 ∈ zTb := (zTb_1 102 rfl rfl)
theorem fl_X6_18 : Cond.fieldLink RX6 18 (zCn 7) (zT 7 2).2.1 (zT 7 2).2.2.1 ∈ zTb := (zTb_1 104 rfl rfl)
theorem fl_X6_21 : Cond.fieldLink RX6 21 (zCn 7) (zT 7 3).2.1 (zT 7 3).2.2.1 ∈ zTb := (zTb_1 106 rfl rfl)
theorem ol_X3 : Cond.methodLink RX3 3 Lib.objectInit ∈ zTb := (zTb_1 37 rfl rfl)
theorem cl_X3_9 : Cond.classLink RX3 9 (zCn 7) ∈ zTb := (zTb_1 38 rfl rfl)
theorem in_7 : Cond.instantiable (zCn 7) (zN 7) ∈ zTb := (zTb_1 39 rfl rfl)
theorem iz_7 : Cond.initialized (zCn 7) ∈ zTb := (zTb_1 3 rfl rfl)
theorem wi_X6 (idx : Nat) : zWi idx yX6_init cX6_init 1 0 := ⟨⟨(zTb_1 41 rfl rfl), (zTb_1 3 rfl rfl), (zTb_1 42 rfl rfl)⟩, rfl, by decide +kernel, by decide +kernel, by decide +kernel⟩
theorem li_X3_11 : zLi RX3 11 yX6_init := Or.inl (zTb_1 40 rfl rfl)
theorem fl_X3_12 : Cond.fieldLink RX3 12 (zCn 4) (zT 4 0).2.1 (zT 4 0).2.2.1 ∈ zTb := (zTb_2 3 rfl rfl)
theorem cl_X3_18 : Cond.classLink RX3 18 (zCn 6) ∈ zTb := (zTb_1 129 rfl rfl)
theorem in_6 : Cond.instantiable (zCn 6) (zN 6) ∈ zTb := (zTb_1 130 rfl rfl)
theorem iz_6 : Cond.initialized (zCn 6) ∈ zTb := (zTb_1 8 rfl rfl)
theorem wi_X5 (idx : Nat) : zWi idx yX5_init cX5_init 1 0 := ⟨⟨(zTb_1 132 rfl rfl), (zTb_1 8 rfl rfl), (zTb_1 133 rfl rfl)⟩, rfl, by decide +kernel, by decide +kernel, by decide +kernel⟩
theorem li_X3_20 : zLi RX3 20 yX5_init := Or.inr ⟨RX8, List.mem_of_getElem? (i := 1) rfl⟩
theorem fl_X3_21 : Cond.fieldLink RX3 21 (zCn 4) (zT 4 1).2.1 (zT 4 1).2.2.1 ∈ zTb := (zTb_2 4 rfl rfl)
theorem fl_X3_27 : Cond.fieldLink RX3 27 (zCn 4) (zT 4 9).2.1 (zT 4 9).2.2.1 ∈ zTb := (zTb_2 14 rfl rfl)
theorem ol_X7 : Cond.methodLink RX7 3 Lib.objectInit ∈ zTb := (zTb_2 55 rfl rfl)
theorem cl_X7_9 : Cond.classLink RX7 9 (zCn 5) ∈ zTb := (zTb_2 56 rfl rfl)
theorem in_5 : Cond.instantiable (zCn 5) (zN 5) ∈ zTb := (zTb_2 57 rfl rfl)
theorem iz_5 : Cond.initialized (zCn 5) ∈ zTb := (zTb_1 11 rfl rfl)
theorem wi_X4 (idx : Nat) : zWi idx yX4_init cX4_init 1 0 := ⟨⟨(zTb_2 59 rfl rfl), (zTb_1 11 rfl rfl), (zTb_2 60 rfl rfl)⟩, rfl, by decide +kernel, by decide +kernel, by decide +kernel⟩
theorem li_X7_11 : zLi RX7 11 yX4_init := Or.inr ⟨RX8, List.mem_of_getElem? (i := 4) rfl⟩
theorem fl_X7_12 : Cond.fieldLink RX7 12 (zCn 8) (zT 8 1).2.1 (zT 8 1).2.2.1 ∈ zTb := (zTb_2 125 rfl rfl)
theorem fl_X7_18 : Cond.fieldLink RX7 18 (zCn 8) (zT 8 2).2.1 (zT 8 2).2.2.1 ∈ zTb := (zTb_2 128 rfl rfl)
theorem fl_X7_22 : Cond.fieldLink RX7 22 (zCn 8) (zT 8 3).2.1 (zT 8 3).2.2.1 ∈ zTb := (zTb_2 130 rfl rfl)
theorem fl_X7_25 : Cond.fieldLink RX7 25 (zCn 8) (zT 8 4).2.1 (zT 8 4).2.2.1 ∈ zTb := (zTb_2 131 rfl rfl)
theorem fl_X7_28 : Cond.fieldLink RX7 28 (zCn 8) (zT 8 5).2.1 (zT 8 5).2.2.1 ∈ zTb := (zTb_2 133 rfl rfl)
theorem fl_X7_31 : Cond.fieldLink RX7 31 (zCn 8) (zT 8 6).2.1 (zT 8 6).2.2.1 ∈ zTb := (zTb_2 135 rfl rfl)
theorem fl_X7_34 : Cond.fieldLink RX7 34 (zCn 8) (zT 8 7).2.1 (zT 8 7).2.2.1 ∈ zTb := (zTb_2 137 rfl rfl)
theorem fl_X7_37 : Cond.fieldLink RX7 37 (zCn 8) (zT 8 8).2.1 (zT 8 8).2.2.1 ∈ zTb := (zTb_2 139 rfl rfl)
theorem fl_X7_40 : Cond.fieldLink RX7 40 (zCn 8) (zT 8 0).2.1 (zT 8 0).2.2.1 ∈ zTb := (zTb_2 122 rfl rfl)
theorem ol_X8 : Cond.methodLink RX8 5 Lib.objectInit ∈ zTb := (zTb_1 29 rfl rfl)
theorem fl_X8_11 : Cond.fieldLink RX8 11 (zCn 9) (zT 9 0).2.1 (zT 9 0).2.2.1 ∈ zTb := (zTb_3 0 rfl rfl)
theorem cl_X8_15 : Cond.classLink RX8 15 (zCn 4) ∈ zTb := (zTb_1 32 rfl rfl)
theorem in_4 : Cond.instantiable (zCn 4) (zN 4) ∈ zTb := (zTb_1 33 rfl rfl)
theorem iz_4 : Cond.initialized (zCn 4) ∈ zTb := (zTb_1 2 rfl rfl)
theorem wi_X3 (idx : Nat) : zWi idx yX3_init cX3_init 1 0 := ⟨⟨(zTb_1 35 rfl rfl), (zTb_1 2 rfl rfl), (zTb_1 36 rfl rfl)⟩, rfl, by decide +kernel, by decide +kernel, by decide +kernel⟩
theorem li_X8_17 : zLi RX8 17 yX3_init := Or.inr ⟨RX8, List.mem_of_getElem? (i := 0) rfl⟩
theorem fl_X8_18 : Cond.fieldLink RX8 18 (zCn 9) (zT 9 2).2.1 (zT 9 2).2.2.1 ∈ zTb := (zTb_3 2 rfl rfl)
theorem cl_X8_22 : Cond.classLink RX8 22 (zCn 6) ∈ zTb := (zTb_2 48 rfl rfl)
theorem li_X8_24 : zLi RX8 24 yX5_init := Or.inr ⟨RX8, List.mem_of_getElem? (i := 3) rfl⟩
theorem fl_X8_25 : Cond.fieldLink RX8 25 (zCn 9) (zT 9 3).2.1 (zT 9 3).2.2.1 ∈ zTb := (zTb_3 3 rfl rfl)
theorem cl_X8_29 : Cond.classLink RX8 29 (zCn 8) ∈ zTb := (zTb_2 50 rfl rfl)
theorem in_8 : Cond.instantiable (zCn 8) (zN 8) ∈ zTb := (zTb_2 51 rfl rfl)
theorem iz_8 : Cond.initialized (zCn 8) ∈ zTb := (zTb_1 10 rfl rfl)
theorem wi_X7 (idx : Nat) : zWi idx yX7_init cX7_init 2 1 := ⟨⟨(zTb_2 53 rfl rfl), (zTb_1 10 rfl rfl), (zTb_2 54 rfl rfl)⟩, rfl, by decide +kernel, by decide +kernel, by decide +kernel⟩
theorem li_X8_31 : zLi RX8 31 yX7_init := Or.inl (zTb_2 52 rfl rfl)
theorem fl_X8_34 : Cond.fieldLink RX8 34 (zCn 9) (zT 9 4).2.1 (zT 9 4).2.2.1 ∈ zTb := (zTb_3 4 rfl rfl)
theorem fl_X8_38 : Cond.fieldLink RX8 38 (zCn 9) (zT 9 5).2.1 (zT 9 5).2.2.1 ∈ zTb := (zTb_3 5 rfl rfl)
theorem fl_X8_41 : Cond.fieldLink RX8 41 (zCn 9) (zT 9 6).2.1 (zT 9 6).2.2.1 ∈ zTb := (zTb_3 6 rfl rfl)
theorem cl_X8_44 : Cond.classLink RX8 44 (zCn 3) ∈ zTb := (zTb_2 180 rfl rfl)
theorem in_3 : Cond.instantiable (zCn 3) (zN 3) ∈ zTb := (zTb_2 181 rfl rfl)
theorem iz_3 : Cond.initialized (zCn 3) ∈ zTb := (zTb_1 14 rfl rfl)
theorem wi_X2 (idx : Nat) : zWi idx yX2_init cX2_init 2 1 := ⟨⟨(zTb_2 183 rfl rfl), (zTb_1 14 rfl rfl), (zTb_2 184 rfl rfl)⟩, rfl, by decide +kernel, by decide +kernel, by decide +kernel⟩
theorem li_X8_46 : zLi RX8 46 yX2_init := Or.inl (zTb_2 182 rfl rfl)
theorem fl_X8_49 : Cond.fieldLink RX8 49 (zCn 9) (zT 9 7).2.1 (zT 9 7).2.2.1 ∈ zTb := (zTb_3 7 rfl rfl)
theorem cl_X8_53 : Cond.classLink RX8 53 (zCn 1) ∈ zTb := (zTb_2 213 rfl rfl)
theorem in_1 : Cond.instantiable (zCn 1) (zN 1) ∈ zTb := (zTb_2 214 rfl rfl)
theorem iz_1 : Cond.initialized (zCn 1) ∈ zTb := (zTb_1 15 rfl rfl)
theorem wi_X0 (idx : Nat) : zWi idx yX0_init cX0_init 1 0 := ⟨⟨(zTb_2 216 rfl rfl), (zTb_1 15 rfl rfl), (zTb_2 217 rfl rfl)⟩, rfl, by decide +kernel, by decide +kernel, by decide +kernel⟩
theorem li_X8_55 : zLi RX8 55 yX0_init := Or.inr ⟨RX8, List.mem_of_getElem? (i := 5) rfl⟩
theorem fl_X8_56 : Cond.fieldLink RX8 56 (zCn 9) (zT 9 8).2.1 (zT 9 8).2.2.1 ∈ zTb := (zTb_3 8 rfl rfl)
theorem fl_X8_60 : Cond.fieldLink RX8 60 (zCn 9) (zT 9 9).2.1 (zT 9 9).2.2.1 ∈ zTb := (zTb_3 9 rfl rfl)
theorem fl_X8_63 : Cond.fieldLink RX8 63 (zCn 9) (zT 9 13).2.1 (zT 9 13).2.2.1 ∈ zTb := (zTb_3 13 rfl rfl)
set_option maxHeartbeats 4000000 in
set_option maxRecDepth 100000 in
theorem c_X0_init {l : Launch} {b : Nat} {Γ : zΓ} {G : zH} {X : va_W} {h0 : Nat} (hX : zXs Γ) : zMi l yX0_init cX0_init 1 1 3 35 b Γ G X 1 h0 [] (fun _ => True) (fun _ _ => True) := by
  refine zMi_of RX0 hX (by decide) rfl rfl (Nat.le_of_ble_eq_true rfl) ?_
  intro p e s m args below meth c C hr hlk hin hB hav hT
  show V p l e (zrC 1 3 35) s m args below meth c b Γ.2.2.2.1 1 0 0 (MQ below (zQi b Γ X 1 h0 (fun _ _ => True)) args s 3 35 (zAb b)) 0 [some (zr 1 h0)] [] ((h0, zOb 1 (fun _ => false) (fun _ => 0) (fun _ => 0)) :: (X ++ zWd Γ G))
  have hx0 : zxt Γ Γ := zxt_rf
  have hO : zOk Γ 1 (fun _ => false) (fun _ => 0) := zOk_0
  refine v_aload_n (pc := 0) C dX0_init_0 rfl ?_
  refine v_obj (pc := 1) C dX0_init_1 ol_X0 oi_ oc_ ⟨Nat.le_of_ble_eq_true rfl, Nat.le_of_ble_eq_true rfl⟩ (Nat.le_of_ble_eq_true rfl) ?_
  refine v_aload_n (pc := 4) C dX0_init_4 rfl ?_
  refine v_iconst (pc := 5) C dX0_init_5 ?_
  refine v_newi0 (pc := 6) C hx0 hB 11 dX0_init_6 ac_int a_11 rfl (by decide) (by decide) ⟨Nat.le_of_ble_eq_true rfl, Nat.le_of_ble_eq_true rfl⟩ (fun Γ1 q1 fq1 hs1 hB1 tq1 => ?_)
  have hx1 := zxt_tr hx0 hs1
  replace hO := zOk_x hs1 hO
  refine v_putr (pc := 8) (k := 0) C hin dX0_init_8 fl_X0_9 rfl (by decide) (by decide) ?_
  replace hO := zOk_s (k := 0) hO (by decide) (by decide) tq1
  refine v_aload_n (pc := 11) C dX0_init_11 rfl ?_
  refine v_iconst (pc := 12) C dX0_init_12 ?_
  refine v_newi0 (pc := 13) C hx1 hB1 12 dX0_init_13 ac_int a_12 rfl (by decide) (by decide) ⟨Nat.le_of_ble_eq_true rfl, Nat.le_of_ble_eq_true rfl⟩ (fun Γ2 q2 fq2 hs2 hB2 tq2 => ?_)
  have hx2 := zxt_tr hx1 hs2
  replace hO := zOk_x hs2 hO
  replace tq1 := zxt_ty hs2 tq1 (by decide)
  refine v_putr (pc := 15) (k := 1) C hin dX0_init_15 fl_X0_15 rfl (by decide) (by decide) ?_
  replace hO := zOk_s (k := 1) hO (by decide) (by decide) tq2
  refine v_aload_n (pc := 18) C dX0_init_18 rfl ?_
  refine v_bipush (pc := 19) C dX0_init_19 (by decide) ?_
  refine v_newj0 (pc := 21) C hx2 hB2 13 dX0_init_21 ac_long a_13 rfl (by decide) (by decide) ⟨Nat.le_of_ble_eq_true rfl, Nat.le_of_ble_eq_true rfl⟩ (fun Γ3 q3 fq3 hs3 hB3 tq3 => ?_)
  have hx3 := zxt_tr hx2 hs3
  replace hO := zOk_x hs3 hO
  replace tq1 := zxt_ty hs3 tq1 (by decide)
  replace tq2 := zxt_ty hs3 tq2 (by decide)
  refine v_putr (pc := 23) (k := 2) C hin dX0_init_23 fl_X0_18 rfl (by decide) (by decide) ?_
  replace hO := zOk_s (k := 2) hO (by decide) (by decide) tq3
  refine v_adopt0 (Γ0 := Γ) hB3 (by decide) (by decide) (by decide +kernel) (by decide +kernel) hO (by decide +kernel) (fun Γe Ge hse hBe the eΓ eG => ?_)
  have hx4 := zxt_tr hx3 hse
  replace tq1 := zxt_ty hse tq1 (by decide)
  replace tq2 := zxt_ty hse tq2 (by decide)
  replace tq3 := zxt_ty hse tq3 (by decide)
  have th0 := the
  refine v_widen (k := 3) (n := 35) (Nat.le_of_ble_eq_true rfl) (Nat.le_of_ble_eq_true rfl) ?_
  exact v_ret (Γ0 := Γ) (zCv_x C hx4) hr hlk dX0_init_26 hx4 hBe th0 trivial

set_option maxHeartbeats 4000000 in
set_option maxRecDepth 100000 in
theorem c_X1_init {l : Launch} {b : Nat} {Γ : zΓ} {G : zH} {X : va_W} {h0 : Nat} (hX : zXs Γ) : zMi l yX1_init cX1_init 1 1 6 213 b Γ G X 2 h0 [] (fun _ => True) (fun _ _ => True) := by
  refine zMi_of RX1 hX (by decide) rfl rfl (Nat.le_of_ble_eq_true rfl) ?_
  intro p e s m args below meth c C hr hlk hin hB hav hT
  show V p l e (zrC 1 6 213) s m args below meth c b Γ.2.2.2.1 1 0 0 (MQ below (zQi b Γ X 2 h0 (fun _ _ => True)) args s 6 213 (zAb b)) 0 [some (zr 2 h0)] [] ((h0, zOb 2 (fun _ => false) (fun _ => 0) (fun _ => 0)) :: (X ++ zWd Γ G))
  have hx0 : zxt Γ Γ := zxt_rf
  have hO : zOk Γ 2 (fun _ => false) (fun _ => 0) := zOk_0
  refine v_aload_n (pc := 0) C dX1_init_0 rfl ?_
  refine v_obj (pc := 1) C dX1_init_1 ol_X1 oi_ oc_ ⟨Nat.le_of_ble_eq_true rfl, Nat.le_of_ble_eq_true rfl⟩ (Nat.le_of_ble_eq_true rfl) ?_
  refine v_aload_n (pc := 4) C dX1_init_4 rfl ?_
  refine v_bipush (pc := 5) C dX1_init_5 (by decide) ?_
  refine v_newi0 (pc := 7) C hx0 hB 14 dX1_init_7 ac_int a_14 rfl (by decide) (by decide) ⟨Nat.le_of_ble_eq_true rfl, Nat.le_of_ble_eq_true rfl⟩ (fun Γ1 q1 fq1 hs1 hB1 tq1 => ?_)
  have hx1 := zxt_tr hx0 hs1
  replace hO := zOk_x hs1 hO
  refine v_putr (pc := 9) (k := 0) C hin dX1_init_9 fl_X1_11 rfl (by decide) (by decide) ?_
  replace hO := zOk_s (k := 0) hO (by decide) (by decide) tq1
  refine v_aload_n (pc := 12) C dX1_init_12 rfl ?_
  refine v_bipush (pc := 13) C dX1_init_13 (by decide) ?_
  refine v_newi0 (pc := 15) C hx1 hB1 15 dX1_init_15 ac_int a_15 rfl (by decide) (by decide) ⟨Nat.le_of_ble_eq_true rfl, Nat.le_of_ble_eq_true rfl⟩ (fun Γ2 q2 fq2 hs2 hB2 tq2 => ?_)
  have hx2 := zxt_tr hx1 hs2
  replace hO := zOk_x hs2 hO
  replace tq1 := zxt_ty hs2 tq1 (by decide)
  refine v_putr (pc := 17) (k := 1) C hin dX1_init_17 fl_X1_15 rfl (by decide) (by decide) ?_
  replace hO := zOk_s (k := 1) hO (by decide) (by decide) tq2
  refine v_aload_n (pc := 20) C dX1_init_20 rfl ?_
  refine v_bipush (pc := 21) C dX1_init_21 (by decide) ?_
  refine v_newi0 (pc := 23) C hx2 hB2 16 dX1_init_23 ac_int a_16 rfl (by decide) (by decide) ⟨Nat.le_of_ble_eq_true rfl, Nat.le_of_ble_eq_true rfl⟩ (fun Γ3 q3 fq3 hs3 hB3 tq3 => ?_)
  have hx3 := zxt_tr hx2 hs3
  replace hO := zOk_x hs3 hO
  replace tq1 := zxt_ty hs3 tq1 (by decide)
  replace tq2 := zxt_ty hs3 tq2 (by decide)
  refine v_putr (pc := 25) (k := 2) C hin dX1_init_25 fl_X1_18 rfl (by decide) (by decide) ?_
  replace hO := zOk_s (k := 2) hO (by decide) (by decide) tq3
  refine v_aload_n (pc := 28) C dX1_init_28 rfl ?_
  refine v_bipush (pc := 29) C dX1_init_29 (by decide) ?_
  refine v_newi0 (pc := 31) C hx3 hB3 17 dX1_init_31 ac_int a_17 rfl (by decide) (by decide) ⟨Nat.le_of_ble_eq_true rfl, Nat.le_of_ble_eq_true rfl⟩ (fun Γ4 q4 fq4 hs4 hB4 tq4 => ?_)
  have hx4 := zxt_tr hx3 hs4
  replace hO := zOk_x hs4 hO
  replace tq1 := zxt_ty hs4 tq1 (by decide)
  replace tq2 := zxt_ty hs4 tq2 (by decide)
  replace tq3 := zxt_ty hs4 tq3 (by decide)
  refine v_putr (pc := 33) (k := 3) C hin dX1_init_33 fl_X1_21 rfl (by decide) (by decide) ?_
  replace hO := zOk_s (k := 3) hO (by decide) (by decide) tq4
  refine v_aload_n (pc := 36) C dX1_init_36 rfl ?_
  refine v_bipush (pc := 37) C dX1_init_37 (by decide) ?_
  refine v_newj0 (pc := 39) C hx4 hB4 18 dX1_init_39 ac_long a_18 rfl (by decide) (by decide) ⟨Nat.le_of_ble_eq_true rfl, Nat.le_of_ble_eq_true rfl⟩ (fun Γ5 q5 fq5 hs5 hB5 tq5 => ?_)
  have hx5 := zxt_tr hx4 hs5
  replace hO := zOk_x hs5 hO
  replace tq1 := zxt_ty hs5 tq1 (by decide)
  replace tq2 := zxt_ty hs5 tq2 (by decide)
  replace tq3 := zxt_ty hs5 tq3 (by decide)
  replace tq4 := zxt_ty hs5 tq4 (by decide)
  refine v_putr (pc := 41) (k := 4) C hin dX1_init_41 fl_X1_24 rfl (by decide) (by decide) ?_
  replace hO := zOk_s (k := 4) hO (by decide) (by decide) tq5
  refine v_aload_n (pc := 44) C dX1_init_44 rfl ?_
  refine v_bipush (pc := 45) C dX1_init_45 (by decide) ?_
  refine v_newj0 (pc := 47) C hx5 hB5 19 dX1_init_47 ac_long a_19 rfl (by decide) (by decide) ⟨Nat.le_of_ble_eq_true rfl, Nat.le_of_ble_eq_true rfl⟩ (fun Γ6 q6 fq6 hs6 hB6 tq6 => ?_)
  have hx6 := zxt_tr hx5 hs6
  replace hO := zOk_x hs6 hO
  replace tq1 := zxt_ty hs6 tq1 (by decide)
  replace tq2 := zxt_ty hs6 tq2 (by decide)
  replace tq3 := zxt_ty hs6 tq3 (by decide)
  replace tq4 := zxt_ty hs6 tq4 (by decide)
  replace tq5 := zxt_ty hs6 tq5 (by decide)
  refine v_putr (pc := 49) (k := 5) C hin dX1_init_49 fl_X1_28 rfl (by decide) (by decide) ?_
  replace hO := zOk_s (k := 5) hO (by decide) (by decide) tq6
  refine v_adopt0 (Γ0 := Γ) hB6 (by decide) (by decide) (by decide +kernel) (by decide +kernel) hO (by decide +kernel) (fun Γe Ge hse hBe the eΓ eG => ?_)
  have hx7 := zxt_tr hx6 hse
  replace tq1 := zxt_ty hse tq1 (by decide)
  replace tq2 := zxt_ty hse tq2 (by decide)
  replace tq3 := zxt_ty hse tq3 (by decide)
  replace tq4 := zxt_ty hse tq4 (by decide)
  replace tq5 := zxt_ty hse tq5 (by decide)
  replace tq6 := zxt_ty hse tq6 (by decide)
  have th0 := the
  refine v_widen (k := 6) (n := 213) (Nat.le_of_ble_eq_true rfl) (Nat.le_of_ble_eq_true rfl) ?_
  exact v_ret (Γ0 := Γ) (zCv_x C hx7) hr hlk dX1_init_52 hx7 hBe th0 trivial

set_option maxHeartbeats 4000000 in
set_option maxRecDepth 100000 in
theorem c_X4_init {l : Launch} {b : Nat} {Γ : zΓ} {G : zH} {X : va_W} {h0 : Nat} (hX : zXs Γ) : zMi l yX4_init cX4_init 1 1 10 600 b Γ G X 5 h0 [] (fun _ => True) (fun _ _ => True) := by
  refine zMi_of RX4 hX (by decide) rfl rfl (Nat.le_of_ble_eq_true rfl) ?_
  intro p e s m args below meth c C hr hlk hin hB hav hT
  show V p l e (zrC 1 10 600) s m args below meth c b Γ.2.2.2.1 1 0 0 (MQ below (zQi b Γ X 5 h0 (fun _ _ => True)) args s 10 600 (zAb b)) 0 [some (zr 5 h0)] [] ((h0, zOb 5 (fun _ => false) (fun _ => 0) (fun _ => 0)) :: (X ++ zWd Γ G))
  have hx0 : zxt Γ Γ := zxt_rf
  have hO : zOk Γ 5 (fun _ => false) (fun _ => 0) := zOk_0
  refine v_aload_n (pc := 0) C dX4_init_0 rfl ?_
  refine v_obj (pc := 1) C dX4_init_1 ol_X4 oi_ oc_ ⟨Nat.le_of_ble_eq_true rfl, Nat.le_of_ble_eq_true rfl⟩ (Nat.le_of_ble_eq_true rfl) ?_
  refine v_aload_n (pc := 4) C dX4_init_4 rfl ?_
  refine v_bipush (pc := 5) C dX4_init_5 (by decide) ?_
  refine v_newi0 (pc := 7) C hx0 hB 26 dX4_init_7 ac_int a_26 rfl (by decide) (by decide) ⟨Nat.le_of_ble_eq_true rfl, Nat.le_of_ble_eq_true rfl⟩ (fun Γ1 q1 fq1 hs1 hB1 tq1 => ?_)
  have hx1 := zxt_tr hx0 hs1
  replace hO := zOk_x hs1 hO
  refine v_putr (pc := 9) (k := 0) C hin dX4_init_9 fl_X4_9 rfl (by decide) (by decide) ?_
  replace hO := zOk_s (k := 0) hO (by decide) (by decide) tq1
  refine v_aload_n (pc := 12) C dX4_init_12 rfl ?_
  refine v_bipush (pc := 13) C dX4_init_13 (by decide) ?_
  refine v_newi0 (pc := 15) C hx1 hB1 27 dX4_init_15 ac_int a_27 rfl (by decide) (by decide) ⟨Nat.le_of_ble_eq_true rfl, Nat.le_of_ble_eq_true rfl⟩ (fun Γ2 q2 fq2 hs2 hB2 tq2 => ?_)
  have hx2 := zxt_tr hx1 hs2
  replace hO := zOk_x hs2 hO
  replace tq1 := zxt_ty hs2 tq1 (by decide)
  refine v_putr (pc := 17) (k := 1) C hin dX4_init_17 fl_X4_15 rfl (by decide) (by decide) ?_
  replace hO := zOk_s (k := 1) hO (by decide) (by decide) tq2
  refine v_aload_n (pc := 20) C dX4_init_20 rfl ?_
  refine v_bipush (pc := 21) C dX4_init_21 (by decide) ?_
  refine v_newi0 (pc := 23) C hx2 hB2 28 dX4_init_23 ac_int a_28 rfl (by decide) (by decide) ⟨Nat.le_of_ble_eq_true rfl, Nat.le_of_ble_eq_true rfl⟩ (fun Γ3 q3 fq3 hs3 hB3 tq3 => ?_)
  have hx3 := zxt_tr hx2 hs3
  replace hO := zOk_x hs3 hO
  replace tq1 := zxt_ty hs3 tq1 (by decide)
  replace tq2 := zxt_ty hs3 tq2 (by decide)
  refine v_putr (pc := 25) (k := 2) C hin dX4_init_25 fl_X4_18 rfl (by decide) (by decide) ?_
  replace hO := zOk_s (k := 2) hO (by decide) (by decide) tq3
  refine v_aload_n (pc := 28) C dX4_init_28 rfl ?_
  refine v_bipush (pc := 29) C dX4_init_29 (by decide) ?_
  refine v_newi0 (pc := 31) C hx3 hB3 29 dX4_init_31 ac_int a_29 rfl (by decide) (by decide) ⟨Nat.le_of_ble_eq_true rfl, Nat.le_of_ble_eq_true rfl⟩ (fun Γ4 q4 fq4 hs4 hB4 tq4 => ?_)
  have hx4 := zxt_tr hx3 hs4
  replace hO := zOk_x hs4 hO
  replace tq1 := zxt_ty hs4 tq1 (by decide)
  replace tq2 := zxt_ty hs4 tq2 (by decide)
  replace tq3 := zxt_ty hs4 tq3 (by decide)
  refine v_putr (pc := 33) (k := 3) C hin dX4_init_33 fl_X4_21 rfl (by decide) (by decide) ?_
  replace hO := zOk_s (k := 3) hO (by decide) (by decide) tq4
  refine v_aload_n (pc := 36) C dX4_init_36 rfl ?_
  refine v_bipush (pc := 37) C dX4_init_37 (by decide) ?_
  refine v_newi0 (pc := 39) C hx4 hB4 30 dX4_init_39 ac_int a_30 rfl (by decide) (by decide) ⟨Nat.le_of_ble_eq_true rfl, Nat.le_of_ble_eq_true rfl⟩ (fun Γ5 q5 fq5 hs5 hB5 tq5 => ?_)
  have hx5 := zxt_tr hx4 hs5
  replace hO := zOk_x hs5 hO
  replace tq1 := zxt_ty hs5 tq1 (by decide)
  replace tq2 := zxt_ty hs5 tq2 (by decide)
  replace tq3 := zxt_ty hs5 tq3 (by decide)
  replace tq4 := zxt_ty hs5 tq4 (by decide)
  refine v_putr (pc := 41) (k := 4) C hin dX4_init_41 fl_X4_24 rfl (by decide) (by decide) ?_
  replace hO := zOk_s (k := 4) hO (by decide) (by decide) tq5
  refine v_aload_n (pc := 44) C dX4_init_44 rfl ?_
  refine v_bipush (pc := 45) C dX4_init_45 (by decide) ?_
  refine v_newi0 (pc := 47) C hx5 hB5 31 dX4_init_47 ac_int a_31 rfl (by decide) (by decide) ⟨Nat.le_of_ble_eq_true rfl, Nat.le_of_ble_eq_true rfl⟩ (fun Γ6 q6 fq6 hs6 hB6 tq6 => ?_)
  have hx6 := zxt_tr hx5 hs6
  replace hO := zOk_x hs6 hO
  replace tq1 := zxt_ty hs6 tq1 (by decide)
  replace tq2 := zxt_ty hs6 tq2 (by decide)
  replace tq3 := zxt_ty hs6 tq3 (by decide)
  replace tq4 := zxt_ty hs6 tq4 (by decide)
  replace tq5 := zxt_ty hs6 tq5 (by decide)
  refine v_putr (pc := 49) (k := 5) C hin dX4_init_49 fl_X4_27 rfl (by decide) (by decide) ?_
  replace hO := zOk_s (k := 5) hO (by decide) (by decide) tq6
  refine v_aload_n (pc := 52) C dX4_init_52 rfl ?_
  refine v_bipush (pc := 53) C dX4_init_53 (by decide) ?_
  refine v_newi0 (pc := 55) C hx6 hB6 32 dX4_init_55 ac_int a_32 rfl (by decide) (by decide) ⟨Nat.le_of_ble_eq_true rfl, Nat.le_of_ble_eq_true rfl⟩ (fun Γ7 q7 fq7 hs7 hB7 tq7 => ?_)
  have hx7 := zxt_tr hx6 hs7
  replace hO := zOk_x hs7 hO
  replace tq1 := zxt_ty hs7 tq1 (by decide)
  replace tq2 := zxt_ty hs7 tq2 (by decide)
  replace tq3 := zxt_ty hs7 tq3 (by decide)
  replace tq4 := zxt_ty hs7 tq4 (by decide)
  replace tq5 := zxt_ty hs7 tq5 (by decide)
  replace tq6 := zxt_ty hs7 tq6 (by decide)
  refine v_putr (pc := 57) (k := 6) C hin dX4_init_57 fl_X4_30 rfl (by decide) (by decide) ?_
  replace hO := zOk_s (k := 6) hO (by decide) (by decide) tq7
  refine v_aload_n (pc := 60) C dX4_init_60 rfl ?_
  refine v_bipush (pc := 61) C dX4_init_61 (by decide) ?_
  refine v_newi0 (pc := 63) C hx7 hB7 33 dX4_init_63 ac_int a_33 rfl (by decide) (by decide) ⟨Nat.le_of_ble_eq_true rfl, Nat.le_of_ble_eq_true rfl⟩ (fun Γ8 q8 fq8 hs8 hB8 tq8 => ?_)
  have hx8 := zxt_tr hx7 hs8
  replace hO := zOk_x hs8 hO
  replace tq1 := zxt_ty hs8 tq1 (by decide)
  replace tq2 := zxt_ty hs8 tq2 (by decide)
  replace tq3 := zxt_ty hs8 tq3 (by decide)
  replace tq4 := zxt_ty hs8 tq4 (by decide)
  replace tq5 := zxt_ty hs8 tq5 (by decide)
  replace tq6 := zxt_ty hs8 tq6 (by decide)
  replace tq7 := zxt_ty hs8 tq7 (by decide)
  refine v_putr (pc := 65) (k := 7) C hin dX4_init_65 fl_X4_33 rfl (by decide) (by decide) ?_
  replace hO := zOk_s (k := 7) hO (by decide) (by decide) tq8
  refine v_aload_n (pc := 68) C dX4_init_68 rfl ?_
  refine v_bipush (pc := 69) C dX4_init_69 (by decide) ?_
  refine v_newi0 (pc := 71) C hx8 hB8 34 dX4_init_71 ac_int a_34 rfl (by decide) (by decide) ⟨Nat.le_of_ble_eq_true rfl, Nat.le_of_ble_eq_true rfl⟩ (fun Γ9 q9 fq9 hs9 hB9 tq9 => ?_)
  have hx9 := zxt_tr hx8 hs9
  replace hO := zOk_x hs9 hO
  replace tq1 := zxt_ty hs9 tq1 (by decide)
  replace tq2 := zxt_ty hs9 tq2 (by decide)
  replace tq3 := zxt_ty hs9 tq3 (by decide)
  replace tq4 := zxt_ty hs9 tq4 (by decide)
  replace tq5 := zxt_ty hs9 tq5 (by decide)
  replace tq6 := zxt_ty hs9 tq6 (by decide)
  replace tq7 := zxt_ty hs9 tq7 (by decide)
  replace tq8 := zxt_ty hs9 tq8 (by decide)
  refine v_putr (pc := 73) (k := 8) C hin dX4_init_73 fl_X4_36 rfl (by decide) (by decide) ?_
  replace hO := zOk_s (k := 8) hO (by decide) (by decide) tq9
  refine v_aload_n (pc := 76) C dX4_init_76 rfl ?_
  refine v_bipush (pc := 77) C dX4_init_77 (by decide) ?_
  refine v_newi0 (pc := 79) C hx9 hB9 35 dX4_init_79 ac_int a_35 rfl (by decide) (by decide) ⟨Nat.le_of_ble_eq_true rfl, Nat.le_of_ble_eq_true rfl⟩ (fun Γ10 q10 fq10 hs10 hB10 tq10 => ?_)
  have hx10 := zxt_tr hx9 hs10
  replace hO := zOk_x hs10 hO
  replace tq1 := zxt_ty hs10 tq1 (by decide)
  replace tq2 := zxt_ty hs10 tq2 (by decide)
  replace tq3 := zxt_ty hs10 tq3 (by decide)
  replace tq4 := zxt_ty hs10 tq4 (by decide)
  replace tq5 := zxt_ty hs10 tq5 (by decide)
  replace tq6 := zxt_ty hs10 tq6 (by decide)
  replace tq7 := zxt_ty hs10 tq7 (by decide)
  replace tq8 := zxt_ty hs10 tq8 (by decide)
  replace tq9 := zxt_ty hs10 tq9 (by decide)
  refine v_putr (pc := 81) (k := 9) C hin dX4_init_81 fl_X4_39 rfl (by decide) (by decide) ?_
  replace hO := zOk_s (k := 9) hO (by decide) (by decide) tq10
  refine v_adopt0 (Γ0 := Γ) hB10 (by decide) (by decide) (by decide +kernel) (by decide +kernel) hO (by decide +kernel) (fun Γe Ge hse hBe the eΓ eG => ?_)
  have hx11 := zxt_tr hx10 hse
  replace tq1 := zxt_ty hse tq1 (by decide)
  replace tq2 := zxt_ty hse tq2 (by decide)
  replace tq3 := zxt_ty hse tq3 (by decide)
  replace tq4 := zxt_ty hse tq4 (by decide)
  replace tq5 := zxt_ty hse tq5 (by decide)
  replace tq6 := zxt_ty hse tq6 (by decide)
  replace tq7 := zxt_ty hse tq7 (by decide)
  replace tq8 := zxt_ty hse tq8 (by decide)
  replace tq9 := zxt_ty hse tq9 (by decide)
  replace tq10 := zxt_ty hse tq10 (by decide)
  have th0 := the
  refine v_widen (k := 10) (n := 600) (Nat.le_of_ble_eq_true rfl) (Nat.le_of_ble_eq_true rfl) ?_
  exact v_ret (Γ0 := Γ) (zCv_x C hx11) hr hlk dX4_init_84 hx11 hBe th0 trivial

set_option maxHeartbeats 4000000 in
set_option maxRecDepth 100000 in
theorem c_X2_init {l : Launch} {b : Nat} {Γ : zΓ} {G : zH} {X : va_W} {h0 a0 : Nat} (hX : zXs Γ) : zMi l yX2_init cX2_init 2 1 5 39 b Γ G X 3 h0 [zr 8 a0] (fun _ => True) (fun _ _ => True) := by
  refine zMi_of RX2 hX (by decide) rfl rfl (Nat.le_of_ble_eq_true rfl) ?_
  intro p e s m args below meth c C hr hlk hin hB hav hT
  show V p l e (zrC 1 5 39) s m args below meth c b Γ.2.2.2.1 2 0 0 (MQ below (zQi b Γ X 3 h0 (fun _ _ => True)) args s 5 39 (zAb b)) 0 [some (zr 3 h0), some (zr 8 a0)] [] ((h0, zOb 3 (fun _ => false) (fun _ => 0) (fun _ => 0)) :: (X ++ zWd Γ G))
  have hx0 : zxt Γ Γ := zxt_rf
  have hO : zOk Γ 3 (fun _ => false) (fun _ => 0) := zOk_0
  have ta0 : Γ.1 a0 = 8 := (zk_ty (hav _ List.mem_cons_self) (by decide)).1
  refine v_aload_n (pc := 0) C dX2_init_0 rfl ?_
  refine v_obj (pc := 1) C dX2_init_1 ol_X2 oi_ oc_ ⟨Nat.le_of_ble_eq_true rfl, Nat.le_of_ble_eq_true rfl⟩ (Nat.le_of_ble_eq_true rfl) ?_
  refine v_aload_n (pc := 4) C dX2_init_4 rfl ?_
  refine v_iconst (pc := 5) C dX2_init_5 ?_
  refine v_newi0 (pc := 6) C hx0 hB 20 dX2_init_6 ac_int a_20 rfl (by decide) (by decide) ⟨Nat.le_of_ble_eq_true rfl, Nat.le_of_ble_eq_true rfl⟩ (fun Γ1 q1 fq1 hs1 hB1 tq1 => ?_)
  have hx1 := zxt_tr hx0 hs1
  replace hO := zOk_x hs1 hO
  replace ta0 := zxt_ty hs1 ta0 (by decide)
  refine v_putr (pc := 8) (k := 1) C hin dX2_init_8 fl_X2_9 rfl (by decide) (by decide) ?_
  replace hO := zOk_s (k := 1) hO (by decide) (by decide) tq1
  refine v_aload_n (pc := 11) C dX2_init_11 rfl ?_
  refine v_iconst (pc := 12) C dX2_init_12 ?_
  refine v_newi0 (pc := 13) C hx1 hB1 21 dX2_init_13 ac_int a_21 rfl (by decide) (by decide) ⟨Nat.le_of_ble_eq_true rfl, Nat.le_of_ble_eq_true rfl⟩ (fun Γ2 q2 fq2 hs2 hB2 tq2 => ?_)
  have hx2 := zxt_tr hx1 hs2
  replace hO := zOk_x hs2 hO
  replace ta0 := zxt_ty hs2 ta0 (by decide)
  replace tq1 := zxt_ty hs2 tq1 (by decide)
  refine v_putr (pc := 15) (k := 2) C hin dX2_init_15 fl_X2_15 rfl (by decide) (by decide) ?_
  replace hO := zOk_s (k := 2) hO (by decide) (by decide) tq2
  refine v_aload_n (pc := 18) C dX2_init_18 rfl ?_
  refine v_iconst (pc := 19) C dX2_init_19 ?_
  refine v_newi0 (pc := 20) C hx2 hB2 22 dX2_init_20 ac_int a_22 rfl (by decide) (by decide) ⟨Nat.le_of_ble_eq_true rfl, Nat.le_of_ble_eq_true rfl⟩ (fun Γ3 q3 fq3 hs3 hB3 tq3 => ?_)
  have hx3 := zxt_tr hx2 hs3
  replace hO := zOk_x hs3 hO
  replace ta0 := zxt_ty hs3 ta0 (by decide)
  replace tq1 := zxt_ty hs3 tq1 (by decide)
  replace tq2 := zxt_ty hs3 tq2 (by decide)
  refine v_putr (pc := 22) (k := 3) C hin dX2_init_22 fl_X2_18 rfl (by decide) (by decide) ?_
  replace hO := zOk_s (k := 3) hO (by decide) (by decide) tq3
  refine v_aload_n (pc := 25) C dX2_init_25 rfl ?_
  refine v_bipush (pc := 26) C dX2_init_26 (by decide) ?_
  refine v_newi0 (pc := 28) C hx3 hB3 23 dX2_init_28 ac_int a_23 rfl (by decide) (by decide) ⟨Nat.le_of_ble_eq_true rfl, Nat.le_of_ble_eq_true rfl⟩ (fun Γ4 q4 fq4 hs4 hB4 tq4 => ?_)
  have hx4 := zxt_tr hx3 hs4
  replace hO := zOk_x hs4 hO
  replace ta0 := zxt_ty hs4 ta0 (by decide)
  replace tq1 := zxt_ty hs4 tq1 (by decide)
  replace tq2 := zxt_ty hs4 tq2 (by decide)
  replace tq3 := zxt_ty hs4 tq3 (by decide)
  refine v_putr (pc := 30) (k := 4) C hin dX2_init_30 fl_X2_21 rfl (by decide) (by decide) ?_
  replace hO := zOk_s (k := 4) hO (by decide) (by decide) tq4
  refine v_aload_n (pc := 33) C dX2_init_33 rfl ?_
  refine v_iconst (pc := 34) C dX2_init_34 ?_
  refine v_newi0 (pc := 35) C hx4 hB4 24 dX2_init_35 ac_int a_24 rfl (by decide) (by decide) ⟨Nat.le_of_ble_eq_true rfl, Nat.le_of_ble_eq_true rfl⟩ (fun Γ5 q5 fq5 hs5 hB5 tq5 => ?_)
  have hx5 := zxt_tr hx4 hs5
  replace hO := zOk_x hs5 hO
  replace ta0 := zxt_ty hs5 ta0 (by decide)
  replace tq1 := zxt_ty hs5 tq1 (by decide)
  replace tq2 := zxt_ty hs5 tq2 (by decide)
  replace tq3 := zxt_ty hs5 tq3 (by decide)
  replace tq4 := zxt_ty hs5 tq4 (by decide)
  refine v_putr (pc := 37) (k := 5) C hin dX2_init_37 fl_X2_24 rfl (by decide) (by decide) ?_
  replace hO := zOk_s (k := 5) hO (by decide) (by decide) tq5
  refine v_aload_n (pc := 40) C dX2_init_40 rfl ?_
  refine v_aload_n (pc := 41) C dX2_init_41 rfl ?_
  refine v_putr (pc := 42) (k := 0) C hin dX2_init_42 fl_X2_27 rfl (by decide) (by decide) ?_
  replace hO := zOk_s (k := 0) hO (by decide) (by decide) ta0
  refine v_adopt0 (Γ0 := Γ) hB5 (by decide) (by decide) (by decide +kernel) (by decide +kernel) hO (by decide +kernel) (fun Γe Ge hse hBe the eΓ eG => ?_)
  have hx6 := zxt_tr hx5 hse
  replace ta0 := zxt_ty hse ta0 (by decide)
  replace tq1 := zxt_ty hse tq1 (by decide)
  replace tq2 := zxt_ty hse tq2 (by decide)
  replace tq3 := zxt_ty hse tq3 (by decide)
  replace tq4 := zxt_ty hse tq4 (by decide)
  replace tq5 := zxt_ty hse tq5 (by decide)
  have th0 := the
  refine v_widen (k := 5) (n := 39) (Nat.le_of_ble_eq_true rfl) (Nat.le_of_ble_eq_true rfl) ?_
  exact v_ret (Γ0 := Γ) (zCv_x C hx6) hr hlk dX2_init_45 hx6 hBe th0 trivial

set_option maxHeartbeats 4000000 in
set_option maxRecDepth 100000 in
theorem c_X5_init {l : Launch} {b : Nat} {Γ : zΓ} {G : zH} {X : va_W} {h0 : Nat} (hX : zXs Γ) : zMi l yX5_init cX5_init 1 2 15 289 b Γ G X 6 h0 [] (fun _ => True) (fun _ _ => True) := by
  refine zMi_of RX5 hX (by decide) rfl rfl (Nat.le_of_ble_eq_true rfl) ?_
  intro p e s m args below meth c C hr hlk hin hB hav hT
  show V p l e (zrC 2 15 289) s m args below meth c b Γ.2.2.2.1 1 0 0 (MQ below (zQi b Γ X 6 h0 (fun _ _ => True)) args s 15 289 (zAb b)) 0 [some (zr 6 h0)] [] ((h0, zOb 6 (fun _ => false) (fun _ => 0) (fun _ => 0)) :: (X ++ zWd Γ G))
  have hx0 : zxt Γ Γ := zxt_rf
  have hO : zOk Γ 6 (fun _ => false) (fun _ => 0) := zOk_0
  refine v_aload_n (pc := 0) C dX5_init_0 rfl ?_
  refine v_obj (pc := 1) C dX5_init_1 ol_X5 oi_ oc_ ⟨Nat.le_of_ble_eq_true rfl, Nat.le_of_ble_eq_true rfl⟩ (Nat.le_of_ble_eq_true rfl) ?_
  refine v_aload_n (pc := 4) C dX5_init_4 rfl ?_
  refine v_new (pc := 5) C dX5_init_5 (by decide) cl_X5_9 in_2 iz_2 ⟨Nat.le_of_ble_eq_true rfl, Nat.le_of_ble_eq_true rfl⟩ (fun n5 => ?_)
  refine v_dup (pc := 8) C dX5_init_8 ?_
  refine v_init00 (pc := 9)  C hx0 dX5_init_9 (wi_X1 11) li_X5_11 rfl (c_X1_init (zxt_Xs hx0 hX)) hB (fun x hx => by cases hx) zSty_t trivial ⟨Nat.le_of_ble_eq_true rfl, Nat.le_of_ble_eq_true rfl⟩ ⟨Nat.le_of_ble_eq_true rfl, Nat.le_of_ble_eq_true rfl⟩ (Nat.le_of_ble_eq_true rfl) (fun Γ1 G1 hs1 hB1 tn5 hp1 => ?_)
  have hx1 := zxt_tr hx0 hs1
  replace hO := zOk_x hs1 hO
  refine v_putr (pc := 12) (k := 0) C hin dX5_init_12 fl_X5_12 rfl (by decide) (by decide) ?_
  replace hO := zOk_s (k := 0) hO (by decide) (by decide) tn5
  refine v_aload_n (pc := 15) C dX5_init_15 rfl ?_
  refine v_bipush (pc := 16) C dX5_init_16 (by decide) ?_
  refine v_newi0 (pc := 18) C hx1 hB1 36 dX5_init_18 ac_int a_36 rfl (by decide) (by decide) ⟨Nat.le_of_ble_eq_true rfl, Nat.le_of_ble_eq_true rfl⟩ (fun Γ2 q2 fq2 hs2 hB2 tq2 => ?_)
  have hx2 := zxt_tr hx1 hs2
  replace hO := zOk_x hs2 hO
  replace tn5 := zxt_ty hs2 tn5 (by decide)
  refine v_putr (pc := 20) (k := 1) C hin dX5_init_20 fl_X5_18 rfl (by decide) (by decide) ?_
  replace hO := zOk_s (k := 1) hO (by decide) (by decide) tq2
  refine v_aload_n (pc := 23) C dX5_init_23 rfl ?_
  refine v_iconst (pc := 24) C dX5_init_24 ?_
  refine v_newi0 (pc := 25) C hx2 hB2 37 dX5_init_25 ac_int a_37 rfl (by decide) (by decide) ⟨Nat.le_of_ble_eq_true rfl, Nat.le_of_ble_eq_true rfl⟩ (fun Γ3 q3 fq3 hs3 hB3 tq3 => ?_)
  have hx3 := zxt_tr hx2 hs3
  replace hO := zOk_x hs3 hO
  replace tn5 := zxt_ty hs3 tn5 (by decide)
  replace tq2 := zxt_ty hs3 tq2 (by decide)
  refine v_putr (pc := 27) (k := 2) C hin dX5_init_27 fl_X5_22 rfl (by decide) (by decide) ?_
  replace hO := zOk_s (k := 2) hO (by decide) (by decide) tq3
  refine v_aload_n (pc := 30) C dX5_init_30 rfl ?_
  refine v_iconst (pc := 31) C dX5_init_31 ?_
  refine v_newi0 (pc := 32) C hx3 hB3 38 dX5_init_32 ac_int a_38 rfl (by decide) (by decide) ⟨Nat.le_of_ble_eq_true rfl, Nat.le_of_ble_eq_true rfl⟩ (fun Γ4 q4 fq4 hs4 hB4 tq4 => ?_)
  have hx4 := zxt_tr hx3 hs4
  replace hO := zOk_x hs4 hO
  replace tn5 := zxt_ty hs4 tn5 (by decide)
  replace tq2 := zxt_ty hs4 tq2 (by decide)
  replace tq3 := zxt_ty hs4 tq3 (by decide)
  refine v_putr (pc := 34) (k := 3) C hin dX5_init_34 fl_X5_25 rfl (by decide) (by decide) ?_
  replace hO := zOk_s (k := 3) hO (by decide) (by decide) tq4
  refine v_aload_n (pc := 37) C dX5_init_37 rfl ?_
  refine v_iconst (pc := 38) C dX5_init_38 ?_
  refine v_newi0 (pc := 39) C hx4 hB4 39 dX5_init_39 ac_int a_39 rfl (by decide) (by decide) ⟨Nat.le_of_ble_eq_true rfl, Nat.le_of_ble_eq_true rfl⟩ (fun Γ5 q5 fq5 hs5 hB5 tq5 => ?_)
  have hx5 := zxt_tr hx4 hs5
  replace hO := zOk_x hs5 hO
  replace tn5 := zxt_ty hs5 tn5 (by decide)
  replace tq2 := zxt_ty hs5 tq2 (by decide)
  replace tq3 := zxt_ty hs5 tq3 (by decide)
  replace tq4 := zxt_ty hs5 tq4 (by decide)
  refine v_putr (pc := 41) (k := 4) C hin dX5_init_41 fl_X5_28 rfl (by decide) (by decide) ?_
  replace hO := zOk_s (k := 4) hO (by decide) (by decide) tq5
  refine v_aload_n (pc := 44) C dX5_init_44 rfl ?_
  refine v_bipush (pc := 45) C dX5_init_45 (by decide) ?_
  refine v_newi0 (pc := 47) C hx5 hB5 40 dX5_init_47 ac_int a_40 rfl (by decide) (by decide) ⟨Nat.le_of_ble_eq_true rfl, Nat.le_of_ble_eq_true rfl⟩ (fun Γ6 q6 fq6 hs6 hB6 tq6 => ?_)
  have hx6 := zxt_tr hx5 hs6
  replace hO := zOk_x hs6 hO
  replace tn5 := zxt_ty hs6 tn5 (by decide)
  replace tq2 := zxt_ty hs6 tq2 (by decide)
  replace tq3 := zxt_ty hs6 tq3 (by decide)
  replace tq4 := zxt_ty hs6 tq4 (by decide)
  replace tq5 := zxt_ty hs6 tq5 (by decide)
  refine v_putr (pc := 49) (k := 5) C hin dX5_init_49 fl_X5_31 rfl (by decide) (by decide) ?_
  replace hO := zOk_s (k := 5) hO (by decide) (by decide) tq6
  refine v_aload_n (pc := 52) C dX5_init_52 rfl ?_
  refine v_iconst (pc := 53) C dX5_init_53 ?_
  refine v_newi0 (pc := 54) C hx6 hB6 41 dX5_init_54 ac_int a_41 rfl (by decide) (by decide) ⟨Nat.le_of_ble_eq_true rfl, Nat.le_of_ble_eq_true rfl⟩ (fun Γ7 q7 fq7 hs7 hB7 tq7 => ?_)
  have hx7 := zxt_tr hx6 hs7
  replace hO := zOk_x hs7 hO
  replace tn5 := zxt_ty hs7 tn5 (by decide)
  replace tq2 := zxt_ty hs7 tq2 (by decide)
  replace tq3 := zxt_ty hs7 tq3 (by decide)
  replace tq4 := zxt_ty hs7 tq4 (by decide)
  replace tq5 := zxt_ty hs7 tq5 (by decide)
  replace tq6 := zxt_ty hs7 tq6 (by decide)
  refine v_putr (pc := 56) (k := 6) C hin dX5_init_56 fl_X5_34 rfl (by decide) (by decide) ?_
  replace hO := zOk_s (k := 6) hO (by decide) (by decide) tq7
  refine v_aload_n (pc := 59) C dX5_init_59 rfl ?_
  refine v_iconst (pc := 60) C dX5_init_60 ?_
  refine v_newi0 (pc := 61) C hx7 hB7 42 dX5_init_61 ac_int a_42 rfl (by decide) (by decide) ⟨Nat.le_of_ble_eq_true rfl, Nat.le_of_ble_eq_true rfl⟩ (fun Γ8 q8 fq8 hs8 hB8 tq8 => ?_)
  have hx8 := zxt_tr hx7 hs8
  replace hO := zOk_x hs8 hO
  replace tn5 := zxt_ty hs8 tn5 (by decide)
  replace tq2 := zxt_ty hs8 tq2 (by decide)
  replace tq3 := zxt_ty hs8 tq3 (by decide)
  replace tq4 := zxt_ty hs8 tq4 (by decide)
  replace tq5 := zxt_ty hs8 tq5 (by decide)
  replace tq6 := zxt_ty hs8 tq6 (by decide)
  replace tq7 := zxt_ty hs8 tq7 (by decide)
  refine v_putr (pc := 63) (k := 7) C hin dX5_init_63 fl_X5_37 rfl (by decide) (by decide) ?_
  replace hO := zOk_s (k := 7) hO (by decide) (by decide) tq8
  refine v_aload_n (pc := 66) C dX5_init_66 rfl ?_
  refine v_iconst (pc := 67) C dX5_init_67 ?_
  refine v_newi0 (pc := 68) C hx8 hB8 43 dX5_init_68 ac_int a_43 rfl (by decide) (by decide) ⟨Nat.le_of_ble_eq_true rfl, Nat.le_of_ble_eq_true rfl⟩ (fun Γ9 q9 fq9 hs9 hB9 tq9 => ?_)
  have hx9 := zxt_tr hx8 hs9
  replace hO := zOk_x hs9 hO
  replace tn5 := zxt_ty hs9 tn5 (by decide)
  replace tq2 := zxt_ty hs9 tq2 (by decide)
  replace tq3 := zxt_ty hs9 tq3 (by decide)
  replace tq4 := zxt_ty hs9 tq4 (by decide)
  replace tq5 := zxt_ty hs9 tq5 (by decide)
  replace tq6 := zxt_ty hs9 tq6 (by decide)
  replace tq7 := zxt_ty hs9 tq7 (by decide)
  replace tq8 := zxt_ty hs9 tq8 (by decide)
  refine v_putr (pc := 70) (k := 8) C hin dX5_init_70 fl_X5_40 rfl (by decide) (by decide) ?_
  replace hO := zOk_s (k := 8) hO (by decide) (by decide) tq9
  refine v_aload_n (pc := 73) C dX5_init_73 rfl ?_
  refine v_bipush (pc := 74) C dX5_init_74 (by decide) ?_
  refine v_puti (pc := 76) (k := 9) C dX5_init_76 fl_X5_43 f_6_9 ?_
  refine v_aload_n (pc := 79) C dX5_init_79 rfl ?_
  refine v_iconst (pc := 80) C dX5_init_80 ?_
  refine v_puti (pc := 81) (k := 10) C dX5_init_81 fl_X5_47 f_6_10 ?_
  refine v_adopt0 (Γ0 := Γ) hB9 (by decide) (by decide) (by decide +kernel) (by decide +kernel) hO (by decide +kernel) (fun Γe Ge hse hBe the eΓ eG => ?_)
  have hx10 := zxt_tr hx9 hse
  replace tn5 := zxt_ty hse tn5 (by decide)
  replace tq2 := zxt_ty hse tq2 (by decide)
  replace tq3 := zxt_ty hse tq3 (by decide)
  replace tq4 := zxt_ty hse tq4 (by decide)
  replace tq5 := zxt_ty hse tq5 (by decide)
  replace tq6 := zxt_ty hse tq6 (by decide)
  replace tq7 := zxt_ty hse tq7 (by decide)
  replace tq8 := zxt_ty hse tq8 (by decide)
  replace tq9 := zxt_ty hse tq9 (by decide)
  have th0 := the
  refine v_widen (k := 15) (n := 289) (Nat.le_of_ble_eq_true rfl) (Nat.le_of_ble_eq_true rfl) ?_
  exact v_ret (Γ0 := Γ) (zCv_x C hx10) hr hlk dX5_init_84 hx10 hBe th0 trivial

set_option maxHeartbeats 4000000 in
set_option maxRecDepth 100000 in
theorem c_X6_init {l : Launch} {b : Nat} {Γ : zΓ} {G : zH} {X : va_W} {h0 : Nat} (hX : zXs Γ) : zMi l yX6_init cX6_init 1 5 4 2127 b Γ G X 7 h0 [] (zTx b Γ.2.2.2.2.2) (fun _ _ => True) := by
  refine zMi_of RX6 hX (by decide) rfl rfl (Nat.le_of_ble_eq_true rfl) ?_
  intro p e s m args below meth c C hr hlk hin hB hav hT
  show V p l e (zrC 5 4 2127) s m args below meth c b Γ.2.2.2.1 1 0 0 (MQ below (zQi b Γ X 7 h0 (fun _ _ => True)) args s 4 2127 (zAb b)) 0 [some (zr 7 h0)] [] ((h0, zOb 7 (fun _ => false) (fun _ => 0) (fun _ => 0)) :: (X ++ zWd Γ G))
  have hx0 : zxt Γ Γ := zxt_rf
  have hO : zOk Γ 7 (fun _ => false) (fun _ => 0) := zOk_0
  refine v_aload_n (pc := 0) C dX6_init_0 rfl ?_
  refine v_obj (pc := 1) C dX6_init_1 ol_X6 oi_ oc_ ⟨Nat.le_of_ble_eq_true rfl, Nat.le_of_ble_eq_true rfl⟩ (Nat.le_of_ble_eq_true rfl) ?_
  refine v_aload_n (pc := 4) C dX6_init_4 rfl ?_
  refine v_bipush (pc := 5) C dX6_init_5 (by decide) ?_
  refine v_newi0 (pc := 7) C hx0 hB 44 dX6_init_7 ac_int a_44 rfl (by decide) (by decide) ⟨Nat.le_of_ble_eq_true rfl, Nat.le_of_ble_eq_true rfl⟩ (fun Γ1 q1 fq1 hs1 hB1 tq1 => ?_)
  have hx1 := zxt_tr hx0 hs1
  replace hO := zOk_x hs1 hO
  refine v_putr (pc := 9) (k := 0) C hin dX6_init_9 fl_X6_11 rfl (by decide) (by decide) ?_
  replace hO := zOk_s (k := 0) hO (by decide) (by decide) tq1
  refine v_aload_n (pc := 12) C dX6_init_12 rfl ?_
  refine v_sipush (pc := 13) C dX6_init_13 (by decide) ?_
  refine v_newi0 (pc := 16) C hx1 hB1 45 dX6_init_16 ac_int a_45 rfl (by decide) (by decide) ⟨Nat.le_of_ble_eq_true rfl, Nat.le_of_ble_eq_true rfl⟩ (fun Γ2 q2 fq2 hs2 hB2 tq2 => ?_)
  have hx2 := zxt_tr hx1 hs2
  replace hO := zOk_x hs2 hO
  replace tq1 := zxt_ty hs2 tq1 (by decide)
  refine v_putr (pc := 18) (k := 1) C hin dX6_init_18 fl_X6_15 rfl (by decide) (by decide) ?_
  replace hO := zOk_s (k := 1) hO (by decide) (by decide) tq2
  refine v_aload_n (pc := 21) C dX6_init_21 rfl ?_
  refine v_sipush (pc := 22) C dX6_init_22 (by decide) ?_
  refine v_newi0 (pc := 25) C hx2 hB2 46 dX6_init_25 ac_int a_46 rfl (by decide) (by decide) ⟨Nat.le_of_ble_eq_true rfl, Nat.le_of_ble_eq_true rfl⟩ (fun Γ3 q3 fq3 hs3 hB3 tq3 => ?_)
  have hx3 := zxt_tr hx2 hs3
  replace hO := zOk_x hs3 hO
  replace tq1 := zxt_ty hs3 tq1 (by decide)
  replace tq2 := zxt_ty hs3 tq2 (by decide)
  refine v_putr (pc := 27) (k := 2) C hin dX6_init_27 fl_X6_18 rfl (by decide) (by decide) ?_
  replace hO := zOk_s (k := 2) hO (by decide) (by decide) tq3
  refine v_aload_n (pc := 30) C dX6_init_30 rfl ?_
  refine v_sipush (pc := 31) C dX6_init_31 (by decide) ?_
  refine v_newi0 (pc := 34) C hx3 hB3 47 dX6_init_34 ac_int a_47 rfl (by decide) (by decide) ⟨Nat.le_of_ble_eq_true rfl, Nat.le_of_ble_eq_true rfl⟩ (fun Γ4 q4 fq4 hs4 hB4 tq4 => ?_)
  have hx4 := zxt_tr hx3 hs4
  replace hO := zOk_x hs4 hO
  replace tq1 := zxt_ty hs4 tq1 (by decide)
  replace tq2 := zxt_ty hs4 tq2 (by decide)
  replace tq3 := zxt_ty hs4 tq3 (by decide)
  refine v_putr (pc := 36) (k := 3) C hin dX6_init_36 fl_X6_21 rfl (by decide) (by decide) ?_
  replace hO := zOk_s (k := 3) hO (by decide) (by decide) tq4
  refine v_adopt0 (Γ0 := Γ) hB4 (by decide) (by decide) (by decide +kernel) (by decide +kernel) hO (by decide +kernel) (fun Γe Ge hse hBe the eΓ eG => ?_)
  have hx5 := zxt_tr hx4 hse
  replace tq1 := zxt_ty hse tq1 (by decide)
  replace tq2 := zxt_ty hse tq2 (by decide)
  replace tq3 := zxt_ty hse tq3 (by decide)
  replace tq4 := zxt_ty hse tq4 (by decide)
  have th0 := the
  refine v_aload_n (pc := 39) C dX6_init_39 rfl ?_
  refine v_ldcS (pc := 40) (t := 203) C hT.1.1 dX6_init_40 ?_
  refine v_aload_n (pc := 42) C dX6_init_42 rfl ?_
  refine v_ldcS (pc := 43) (t := 204) C hT.1.2 dX6_init_43 ?_
  refine v_iconst (pc := 45) C dX6_init_45 ?_
  obtain ⟨v146, n146, f146, v246, n246, f246, hJ3, hJ4⟩ := hT.2
  refine v_learn (pc := 46) C hx5 dX6_init_46 v_X6_28 (c_X6_learn (zxt_Xs hx5 hX) (by decide)) hBe th0 (by first | (rw [hx5.2.2.1]; done) | (rw [hx5.2.2.1]; rfl)) hJ4 (by decide) ⟨Nat.le_of_ble_eq_true rfl, Nat.le_of_ble_eq_true rfl⟩ ⟨Nat.le_of_ble_eq_true rfl, Nat.le_of_ble_eq_true rfl⟩ (Nat.le_of_ble_eq_true rfl) (by decide) (fun x46 Gl46 lx46 bx46 hBl46 => ?_)
  obtain ⟨v149, n149, f149, v249, n249, f249, hJ3, hJ4⟩ := hT.2
  refine v_learn (pc := 49) C hx5 dX6_init_49 v_X6_28 (c_X6_learn (zxt_Xs hx5 hX) lx46) hBl46 th0 (by first | (rw [hx5.2.2.1]; done) | (rw [hx5.2.2.1]; rfl)) hJ3 (by decide) ⟨Nat.le_of_ble_eq_true rfl, Nat.le_of_ble_eq_true rfl⟩ ⟨Nat.le_of_ble_eq_true rfl, Nat.le_of_ble_eq_true rfl⟩ (Nat.le_of_ble_eq_true rfl) bx46 (fun x49 Gl49 lx49 bx49 hBl49 => ?_)
  refine v_popi (pc := 52) C dX6_init_52 ?_
  refine v_widen (k := 4) (n := 2127) (Nat.le_of_ble_eq_true rfl) (Nat.le_of_ble_eq_true rfl) ?_
  exact v_ret (Γ0 := Γ) (zCv_x C hx5) hr hlk dX6_init_53 hx5 hBl49 th0 trivial

set_option maxHeartbeats 4000000 in
set_option maxRecDepth 100000 in
theorem c_X3_init {l : Launch} {b : Nat} {Γ : zΓ} {G : zH} {X : va_W} {h0 : Nat} (hX : zXs Γ) : zMi l yX3_init cX3_init 1 6 22 2508 b Γ G X 4 h0 [] (zTx b Γ.2.2.2.2.2) (fun _ _ => True) := by
  refine zMi_of RX3 hX (by decide) rfl rfl (Nat.le_of_ble_eq_true rfl) ?_
  intro p e s m args below meth c C hr hlk hin hB hav hT
  show V p l e (zrC 6 22 2508) s m args below meth c b Γ.2.2.2.1 1 0 0 (MQ below (zQi b Γ X 4 h0 (fun _ _ => True)) args s 22 2508 (zAb b)) 0 [some (zr 4 h0)] [] ((h0, zOb 4 (fun _ => false) (fun _ => 0) (fun _ => 0)) :: (X ++ zWd Γ G))
  have hx0 : zxt Γ Γ := zxt_rf
  have hO : zOk Γ 4 (fun _ => false) (fun _ => 0) := zOk_0
  refine v_aload_n (pc := 0) C dX3_init_0 rfl ?_
  refine v_obj (pc := 1) C dX3_init_1 ol_X3 oi_ oc_ ⟨Nat.le_of_ble_eq_true rfl, Nat.le_of_ble_eq_true rfl⟩ (Nat.le_of_ble_eq_true rfl) ?_
  refine v_aload_n (pc := 4) C dX3_init_4 rfl ?_
  refine v_new (pc := 5) C dX3_init_5 (by decide) cl_X3_9 in_7 iz_7 ⟨Nat.le_of_ble_eq_true rfl, Nat.le_of_ble_eq_true rfl⟩ (fun n5 => ?_)
  refine v_dup (pc := 8) C dX3_init_8 ?_
  refine v_init00 (pc := 9)  C hx0 dX3_init_9 (wi_X6 11) li_X3_11 rfl (c_X6_init (zxt_Xs hx0 hX)) hB (fun x hx => by cases hx) (zTx_sty) (by rw [hx0.2.2.1]; exact hT) ⟨Nat.le_of_ble_eq_true rfl, Nat.le_of_ble_eq_true rfl⟩ ⟨Nat.le_of_ble_eq_true rfl, Nat.le_of_ble_eq_true rfl⟩ (Nat.le_of_ble_eq_true rfl) (fun Γ1 G1 hs1 hB1 tn5 hp1 => ?_)
  have hx1 := zxt_tr hx0 hs1
  replace hO := zOk_x hs1 hO
  refine v_putr (pc := 12) (k := 0) C hin dX3_init_12 fl_X3_12 rfl (by decide) (by decide) ?_
  replace hO := zOk_s (k := 0) hO (by decide) (by decide) tn5
  refine v_aload_n (pc := 15) C dX3_init_15 rfl ?_
  refine v_new (pc := 16) C dX3_init_16 (by decide) cl_X3_18 in_6 iz_6 ⟨Nat.le_of_ble_eq_true rfl, Nat.le_of_ble_eq_true rfl⟩ (fun n16 => ?_)
  refine v_dup (pc := 19) C dX3_init_19 ?_
  refine v_init00 (pc := 20)  C hx1 dX3_init_20 (wi_X5 20) li_X3_20 rfl (c_X5_init (zxt_Xs hx1 hX)) hB1 (fun x hx => by cases hx) zSty_t trivial ⟨Nat.le_of_ble_eq_true rfl, Nat.le_of_ble_eq_true rfl⟩ ⟨Nat.le_of_ble_eq_true rfl, Nat.le_of_ble_eq_true rfl⟩ (Nat.le_of_ble_eq_true rfl) (fun Γ2 G2 hs2 hB2 tn16 hp2 => ?_)
  have hx2 := zxt_tr hx1 hs2
  replace hO := zOk_x hs2 hO
  replace tn5 := zxt_ty hs2 tn5 (by decide)
  refine v_putr (pc := 23) (k := 1) C hin dX3_init_23 fl_X3_21 rfl (by decide) (by decide) ?_
  replace hO := zOk_s (k := 1) hO (by decide) (by decide) tn16
  refine v_aload_n (pc := 26) C dX3_init_26 rfl ?_
  refine v_bipush (pc := 27) C dX3_init_27 (by decide) ?_
  refine v_newi0 (pc := 29) C hx2 hB2 25 dX3_init_29 ac_int a_25 rfl (by decide) (by decide) ⟨Nat.le_of_ble_eq_true rfl, Nat.le_of_ble_eq_true rfl⟩ (fun Γ3 q3 fq3 hs3 hB3 tq3 => ?_)
  have hx3 := zxt_tr hx2 hs3
  replace hO := zOk_x hs3 hO
  replace tn5 := zxt_ty hs3 tn5 (by decide)
  replace tn16 := zxt_ty hs3 tn16 (by decide)
  refine v_putr (pc := 31) (k := 9) C hin dX3_init_31 fl_X3_27 rfl (by decide) (by decide) ?_
  replace hO := zOk_s (k := 9) hO (by decide) (by decide) tq3
  refine v_adopt0 (Γ0 := Γ) hB3 (by decide) (by decide) (by decide +kernel) (by decide +kernel) hO (by decide +kernel) (fun Γe Ge hse hBe the eΓ eG => ?_)
  have hx4 := zxt_tr hx3 hse
  replace tn5 := zxt_ty hse tn5 (by decide)
  replace tn16 := zxt_ty hse tn16 (by decide)
  replace tq3 := zxt_ty hse tq3 (by decide)
  have th0 := the
  refine v_widen (k := 22) (n := 2508) (Nat.le_of_ble_eq_true rfl) (Nat.le_of_ble_eq_true rfl) ?_
  exact v_ret (Γ0 := Γ) (zCv_x C hx4) hr hlk dX3_init_34 hx4 hBe th0 trivial

set_option maxHeartbeats 4000000 in
set_option maxRecDepth 100000 in
theorem c_X7_init {l : Launch} {b : Nat} {Γ : zΓ} {G : zH} {X : va_W} {h0 a0 : Nat} (hX : zXs Γ) : zMi l yX7_init cX7_init 2 2 18 971 b Γ G X 8 h0 [zr 6 a0] (fun _ => True) (fun _ _ => True) := by
  refine zMi_of RX7 hX (by decide) rfl rfl (Nat.le_of_ble_eq_true rfl) ?_
  intro p e s m args below meth c C hr hlk hin hB hav hT
  show V p l e (zrC 2 18 971) s m args below meth c b Γ.2.2.2.1 2 0 0 (MQ below (zQi b Γ X 8 h0 (fun _ _ => True)) args s 18 971 (zAb b)) 0 [some (zr 8 h0), some (zr 6 a0)] [] ((h0, zOb 8 (fun _ => false) (fun _ => 0) (fun _ => 0)) :: (X ++ zWd Γ G))
  have hx0 : zxt Γ Γ := zxt_rf
  have hO : zOk Γ 8 (fun _ => false) (fun _ => 0) := zOk_0
  have ta0 : Γ.1 a0 = 6 := (zk_ty (hav _ List.mem_cons_self) (by decide)).1
  refine v_aload_n (pc := 0) C dX7_init_0 rfl ?_
  refine v_obj (pc := 1) C dX7_init_1 ol_X7 oi_ oc_ ⟨Nat.le_of_ble_eq_true rfl, Nat.le_of_ble_eq_true rfl⟩ (Nat.le_of_ble_eq_true rfl) ?_
  refine v_aload_n (pc := 4) C dX7_init_4 rfl ?_
  refine v_new (pc := 5) C dX7_init_5 (by decide) cl_X7_9 in_5 iz_5 ⟨Nat.le_of_ble_eq_true rfl, Nat.le_of_ble_eq_true rfl⟩ (fun n5 => ?_)
  refine v_dup (pc := 8) C dX7_init_8 ?_
  refine v_init00 (pc := 9)  C hx0 dX7_init_9 (wi_X4 11) li_X7_11 rfl (c_X4_init (zxt_Xs hx0 hX)) hB (fun x hx => by cases hx) zSty_t trivial ⟨Nat.le_of_ble_eq_true rfl, Nat.le_of_ble_eq_true rfl⟩ ⟨Nat.le_of_ble_eq_true rfl, Nat.le_of_ble_eq_true rfl⟩ (Nat.le_of_ble_eq_true rfl) (fun Γ1 G1 hs1 hB1 tn5 hp1 => ?_)
  have hx1 := zxt_tr hx0 hs1
  replace hO := zOk_x hs1 hO
  replace ta0 := zxt_ty hs1 ta0 (by decide)
  refine v_putr (pc := 12) (k := 1) C hin dX7_init_12 fl_X7_12 rfl (by decide) (by decide) ?_
  replace hO := zOk_s (k := 1) hO (by decide) (by decide) tn5
  refine v_aload_n (pc := 15) C dX7_init_15 rfl ?_
  refine v_bipush (pc := 16) C dX7_init_16 (by decide) ?_
  refine v_newi0 (pc := 18) C hx1 hB1 48 dX7_init_18 ac_int a_48 rfl (by decide) (by decide) ⟨Nat.le_of_ble_eq_true rfl, Nat.le_of_ble_eq_true rfl⟩ (fun Γ2 q2 fq2 hs2 hB2 tq2 => ?_)
  have hx2 := zxt_tr hx1 hs2
  replace hO := zOk_x hs2 hO
  replace ta0 := zxt_ty hs2 ta0 (by decide)
  replace tn5 := zxt_ty hs2 tn5 (by decide)
  refine v_putr (pc := 20) (k := 2) C hin dX7_init_20 fl_X7_18 rfl (by decide) (by decide) ?_
  replace hO := zOk_s (k := 2) hO (by decide) (by decide) tq2
  refine v_aload_n (pc := 23) C dX7_init_23 rfl ?_
  refine v_bipush (pc := 24) C dX7_init_24 (by decide) ?_
  refine v_newi0 (pc := 26) C hx2 hB2 49 dX7_init_26 ac_int a_49 rfl (by decide) (by decide) ⟨Nat.le_of_ble_eq_true rfl, Nat.le_of_ble_eq_true rfl⟩ (fun Γ3 q3 fq3 hs3 hB3 tq3 => ?_)
  have hx3 := zxt_tr hx2 hs3
  replace hO := zOk_x hs3 hO
  replace ta0 := zxt_ty hs3 ta0 (by decide)
  replace tn5 := zxt_ty hs3 tn5 (by decide)
  replace tq2 := zxt_ty hs3 tq2 (by decide)
  refine v_putr (pc := 28) (k := 3) C hin dX7_init_28 fl_X7_22 rfl (by decide) (by decide) ?_
  replace hO := zOk_s (k := 3) hO (by decide) (by decide) tq3
  refine v_aload_n (pc := 31) C dX7_init_31 rfl ?_
  refine v_iconst (pc := 32) C dX7_init_32 ?_
  refine v_newi0 (pc := 33) C hx3 hB3 50 dX7_init_33 ac_int a_50 rfl (by decide) (by decide) ⟨Nat.le_of_ble_eq_true rfl, Nat.le_of_ble_eq_true rfl⟩ (fun Γ4 q4 fq4 hs4 hB4 tq4 => ?_)
  have hx4 := zxt_tr hx3 hs4
  replace hO := zOk_x hs4 hO
  replace ta0 := zxt_ty hs4 ta0 (by decide)
  replace tn5 := zxt_ty hs4 tn5 (by decide)
  replace tq2 := zxt_ty hs4 tq2 (by decide)
  replace tq3 := zxt_ty hs4 tq3 (by decide)
  refine v_putr (pc := 35) (k := 4) C hin dX7_init_35 fl_X7_25 rfl (by decide) (by decide) ?_
  replace hO := zOk_s (k := 4) hO (by decide) (by decide) tq4
  refine v_aload_n (pc := 38) C dX7_init_38 rfl ?_
  refine v_iconst (pc := 39) C dX7_init_39 ?_
  refine v_newi0 (pc := 40) C hx4 hB4 51 dX7_init_40 ac_int a_51 rfl (by decide) (by decide) ⟨Nat.le_of_ble_eq_true rfl, Nat.le_of_ble_eq_true rfl⟩ (fun Γ5 q5 fq5 hs5 hB5 tq5 => ?_)
  have hx5 := zxt_tr hx4 hs5
  replace hO := zOk_x hs5 hO
  replace ta0 := zxt_ty hs5 ta0 (by decide)
  replace tn5 := zxt_ty hs5 tn5 (by decide)
  replace tq2 := zxt_ty hs5 tq2 (by decide)
  replace tq3 := zxt_ty hs5 tq3 (by decide)
  replace tq4 := zxt_ty hs5 tq4 (by decide)
  refine v_putr (pc := 42) (k := 5) C hin dX7_init_42 fl_X7_28 rfl (by decide) (by decide) ?_
  replace hO := zOk_s (k := 5) hO (by decide) (by decide) tq5
  refine v_aload_n (pc := 45) C dX7_init_45 rfl ?_
  refine v_iconst (pc := 46) C dX7_init_46 ?_
  refine v_newi0 (pc := 47) C hx5 hB5 52 dX7_init_47 ac_int a_52 rfl (by decide) (by decide) ⟨Nat.le_of_ble_eq_true rfl, Nat.le_of_ble_eq_true rfl⟩ (fun Γ6 q6 fq6 hs6 hB6 tq6 => ?_)
  have hx6 := zxt_tr hx5 hs6
  replace hO := zOk_x hs6 hO
  replace ta0 := zxt_ty hs6 ta0 (by decide)
  replace tn5 := zxt_ty hs6 tn5 (by decide)
  replace tq2 := zxt_ty hs6 tq2 (by decide)
  replace tq3 := zxt_ty hs6 tq3 (by decide)
  replace tq4 := zxt_ty hs6 tq4 (by decide)
  replace tq5 := zxt_ty hs6 tq5 (by decide)
  refine v_putr (pc := 49) (k := 6) C hin dX7_init_49 fl_X7_31 rfl (by decide) (by decide) ?_
  replace hO := zOk_s (k := 6) hO (by decide) (by decide) tq6
  refine v_aload_n (pc := 52) C dX7_init_52 rfl ?_
  refine v_iconst (pc := 53) C dX7_init_53 ?_
  refine v_newi0 (pc := 54) C hx6 hB6 53 dX7_init_54 ac_int a_53 rfl (by decide) (by decide) ⟨Nat.le_of_ble_eq_true rfl, Nat.le_of_ble_eq_true rfl⟩ (fun Γ7 q7 fq7 hs7 hB7 tq7 => ?_)
  have hx7 := zxt_tr hx6 hs7
  replace hO := zOk_x hs7 hO
  replace ta0 := zxt_ty hs7 ta0 (by decide)
  replace tn5 := zxt_ty hs7 tn5 (by decide)
  replace tq2 := zxt_ty hs7 tq2 (by decide)
  replace tq3 := zxt_ty hs7 tq3 (by decide)
  replace tq4 := zxt_ty hs7 tq4 (by decide)
  replace tq5 := zxt_ty hs7 tq5 (by decide)
  replace tq6 := zxt_ty hs7 tq6 (by decide)
  refine v_putr (pc := 56) (k := 7) C hin dX7_init_56 fl_X7_34 rfl (by decide) (by decide) ?_
  replace hO := zOk_s (k := 7) hO (by decide) (by decide) tq7
  refine v_aload_n (pc := 59) C dX7_init_59 rfl ?_
  refine v_sipush (pc := 60) C dX7_init_60 (by decide) ?_
  refine v_newi0 (pc := 63) C hx7 hB7 54 dX7_init_63 ac_int a_54 rfl (by decide) (by decide) ⟨Nat.le_of_ble_eq_true rfl, Nat.le_of_ble_eq_true rfl⟩ (fun Γ8 q8 fq8 hs8 hB8 tq8 => ?_)
  have hx8 := zxt_tr hx7 hs8
  replace hO := zOk_x hs8 hO
  replace ta0 := zxt_ty hs8 ta0 (by decide)
  replace tn5 := zxt_ty hs8 tn5 (by decide)
  replace tq2 := zxt_ty hs8 tq2 (by decide)
  replace tq3 := zxt_ty hs8 tq3 (by decide)
  replace tq4 := zxt_ty hs8 tq4 (by decide)
  replace tq5 := zxt_ty hs8 tq5 (by decide)
  replace tq6 := zxt_ty hs8 tq6 (by decide)
  replace tq7 := zxt_ty hs8 tq7 (by decide)
  refine v_putr (pc := 65) (k := 8) C hin dX7_init_65 fl_X7_37 rfl (by decide) (by decide) ?_
  replace hO := zOk_s (k := 8) hO (by decide) (by decide) tq8
  refine v_aload_n (pc := 68) C dX7_init_68 rfl ?_
  refine v_aload_n (pc := 69) C dX7_init_69 rfl ?_
  refine v_putr (pc := 70) (k := 0) C hin dX7_init_70 fl_X7_40 rfl (by decide) (by decide) ?_
  replace hO := zOk_s (k := 0) hO (by decide) (by decide) ta0
  refine v_adopt0 (Γ0 := Γ) hB8 (by decide) (by decide) (by decide +kernel) (by decide +kernel) hO (by decide +kernel) (fun Γe Ge hse hBe the eΓ eG => ?_)
  have hx9 := zxt_tr hx8 hse
  replace ta0 := zxt_ty hse ta0 (by decide)
  replace tn5 := zxt_ty hse tn5 (by decide)
  replace tq2 := zxt_ty hse tq2 (by decide)
  replace tq3 := zxt_ty hse tq3 (by decide)
  replace tq4 := zxt_ty hse tq4 (by decide)
  replace tq5 := zxt_ty hse tq5 (by decide)
  replace tq6 := zxt_ty hse tq6 (by decide)
  replace tq7 := zxt_ty hse tq7 (by decide)
  replace tq8 := zxt_ty hse tq8 (by decide)
  have th0 := the
  refine v_aload_n (pc := 73) C dX7_init_73 rfl ?_
  refine v_aload_n (pc := 74) C dX7_init_74 rfl ?_
  refine v_call01 (pc := 75) (a := zr 6 a0) C hx9 dX7_init_75 v_X7_44 (by decide) (c_X7_begin (zxt_Xs hx9 hX)) hBe (zk_of th0 (by decide) (by decide)) (zk_of ta0 (by decide) (by decide)) ⟨Nat.le_of_ble_eq_true rfl, Nat.le_of_ble_eq_true rfl⟩ ⟨Nat.le_of_ble_eq_true rfl, Nat.le_of_ble_eq_true rfl⟩ (Nat.le_of_ble_eq_true rfl) (fun Gc hpc hBc => ?_)
  refine v_widen (k := 18) (n := 971) (Nat.le_of_ble_eq_true rfl) (Nat.le_of_ble_eq_true rfl) ?_
  exact v_ret (Γ0 := Γ) (zCv_x C hx9) hr hlk dX7_init_78 hx9 hBc th0 trivial

set_option maxHeartbeats 4000000 in
set_option maxRecDepth 100000 in
theorem c_X8_init {l : Launch} {b : Nat} {Γ : zΓ} {G : zH} {X : va_W} {h0 : Nat} (hX : zXs Γ) : zMi l yX8_init cX8_init 1 7 108 6587 b Γ G X 9 h0 [] (zTx b Γ.2.2.2.2.2) (fun _ G' => G'.1 901 h0 0 = 0) := by
  refine zMi_of RX8 hX (by decide) rfl rfl (Nat.le_of_ble_eq_true rfl) ?_
  intro p e s m args below meth c C hr hlk hin hB hav hT
  show V p l e (zrC 7 108 6587) s m args below meth c b Γ.2.2.2.1 1 0 0 (MQ below (zQi b Γ X 9 h0 (fun _ G' => G'.1 901 h0 0 = 0)) args s 108 6587 (zAb b)) 0 [some (zr 9 h0)] [] ((h0, zOb 9 (fun _ => false) (fun _ => 0) (fun _ => 0)) :: (X ++ zWd Γ G))
  have hx0 : zxt Γ Γ := zxt_rf
  have hO : zOk Γ 9 (fun _ => false) (fun _ => 0) := zOk_0
  refine v_aload_n (pc := 0) C dX8_init_0 rfl ?_
  refine v_obj (pc := 1) C dX8_init_1 ol_X8 oi_ oc_ ⟨Nat.le_of_ble_eq_true rfl, Nat.le_of_ble_eq_true rfl⟩ (Nat.le_of_ble_eq_true rfl) ?_
  refine v_aload_n (pc := 4) C dX8_init_4 rfl ?_
  refine v_sipush (pc := 5) C dX8_init_5 (by decide) ?_
  refine v_newi0 (pc := 8) C hx0 hB 55 dX8_init_8 ac_int a_55 rfl (by decide) (by decide) ⟨Nat.le_of_ble_eq_true rfl, Nat.le_of_ble_eq_true rfl⟩ (fun Γ1 q1 fq1 hs1 hB1 tq1 => ?_)
  have hx1 := zxt_tr hx0 hs1
  replace hO := zOk_x hs1 hO
  refine v_putr (pc := 10) (k := 0) C hin dX8_init_10 fl_X8_11 rfl (by decide) (by decide) ?_
  replace hO := zOk_s (k := 0) hO (by decide) (by decide) tq1
  refine v_aload_n (pc := 13) C dX8_init_13 rfl ?_
  refine v_new (pc := 14) C dX8_init_14 (by decide) cl_X8_15 in_4 iz_4 ⟨Nat.le_of_ble_eq_true rfl, Nat.le_of_ble_eq_true rfl⟩ (fun n14 => ?_)
  refine v_dup (pc := 17) C dX8_init_17 ?_
  refine v_init00 (pc := 18)  C hx1 dX8_init_18 (wi_X3 17) li_X8_17 rfl (c_X3_init (zxt_Xs hx1 hX)) hB1 (fun x hx => by cases hx) (zTx_sty) (by rw [hx1.2.2.1]; exact hT) ⟨Nat.le_of_ble_eq_true rfl, Nat.le_of_ble_eq_true rfl⟩ ⟨Nat.le_of_ble_eq_true rfl, Nat.le_of_ble_eq_true rfl⟩ (Nat.le_of_ble_eq_true rfl) (fun Γ2 G2 hs2 hB2 tn14 hp2 => ?_)
  have hx2 := zxt_tr hx1 hs2
  replace hO := zOk_x hs2 hO
  replace tq1 := zxt_ty hs2 tq1 (by decide)
  refine v_putr (pc := 21) (k := 2) C hin dX8_init_21 fl_X8_18 rfl (by decide) (by decide) ?_
  replace hO := zOk_s (k := 2) hO (by decide) (by decide) tn14
  refine v_aload_n (pc := 24) C dX8_init_24 rfl ?_
  refine v_new (pc := 25) C dX8_init_25 (by decide) cl_X8_22 in_6 iz_6 ⟨Nat.le_of_ble_eq_true rfl, Nat.le_of_ble_eq_true rfl⟩ (fun n25 => ?_)
  refine v_dup (pc := 28) C dX8_init_28 ?_
  refine v_init00 (pc := 29)  C hx2 dX8_init_29 (wi_X5 24) li_X8_24 rfl (c_X5_init (zxt_Xs hx2 hX)) hB2 (fun x hx => by cases hx) zSty_t trivial ⟨Nat.le_of_ble_eq_true rfl, Nat.le_of_ble_eq_true rfl⟩ ⟨Nat.le_of_ble_eq_true rfl, Nat.le_of_ble_eq_true rfl⟩ (Nat.le_of_ble_eq_true rfl) (fun Γ3 G3 hs3 hB3 tn25 hp3 => ?_)
  have hx3 := zxt_tr hx2 hs3
  replace hO := zOk_x hs3 hO
  replace tq1 := zxt_ty hs3 tq1 (by decide)
  replace tn14 := zxt_ty hs3 tn14 (by decide)
  refine v_putr (pc := 32) (k := 3) C hin dX8_init_32 fl_X8_25 rfl (by decide) (by decide) ?_
  replace hO := zOk_s (k := 3) hO (by decide) (by decide) tn25
  refine v_aload_n (pc := 35) C dX8_init_35 rfl ?_
  refine v_new (pc := 36) C dX8_init_36 (by decide) cl_X8_29 in_8 iz_8 ⟨Nat.le_of_ble_eq_true rfl, Nat.le_of_ble_eq_true rfl⟩ (fun n36 => ?_)
  refine v_dup (pc := 39) C dX8_init_39 ?_
  refine v_aload_n (pc := 40) C dX8_init_40 rfl ?_
  refine v_getr (pc := 41) (k := 3) (t' := 6) (q := n25) C dX8_init_41 fl_X8_25 (by decide) 1 rfl rfl rfl ?_
  refine v_init01 (pc := 44) (a := zr 6 n25) C hx3 dX8_init_44 (wi_X7 31) li_X8_31 rfl (c_X7_init (zxt_Xs hx3 hX)) hB3 (fun x hx => by rw [List.mem_singleton.mp hx]; exact zk_of tn25 (by decide) (by decide)) zSty_t trivial ⟨Nat.le_of_ble_eq_true rfl, Nat.le_of_ble_eq_true rfl⟩ ⟨Nat.le_of_ble_eq_true rfl, Nat.le_of_ble_eq_true rfl⟩ (Nat.le_of_ble_eq_true rfl) (fun Γ4 G4 hs4 hB4 tn36 hp4 => ?_)
  have hx4 := zxt_tr hx3 hs4
  replace hO := zOk_x hs4 hO
  replace tq1 := zxt_ty hs4 tq1 (by decide)
  replace tn14 := zxt_ty hs4 tn14 (by decide)
  replace tn25 := zxt_ty hs4 tn25 (by decide)
  refine v_putr (pc := 47) (k := 4) C hin dX8_init_47 fl_X8_34 rfl (by decide) (by decide) ?_
  replace hO := zOk_s (k := 4) hO (by decide) (by decide) tn36
  refine v_aload_n (pc := 50) C dX8_init_50 rfl ?_
  refine v_new (pc := 51) C dX8_init_51 (by decide) cl_X8_29 in_8 iz_8 ⟨Nat.le_of_ble_eq_true rfl, Nat.le_of_ble_eq_true rfl⟩ (fun n51 => ?_)
  refine v_dup (pc := 54) C dX8_init_54 ?_
  refine v_aload_n (pc := 55) C dX8_init_55 rfl ?_
  refine v_getr (pc := 56) (k := 3) (t' := 6) (q := n25) C dX8_init_56 fl_X8_25 (by decide) 1 rfl rfl rfl ?_
  refine v_init01 (pc := 59) (a := zr 6 n25) C hx4 dX8_init_59 (wi_X7 31) li_X8_31 rfl (c_X7_init (zxt_Xs hx4 hX)) hB4 (fun x hx => by rw [List.mem_singleton.mp hx]; exact zk_of tn25 (by decide) (by decide)) zSty_t trivial ⟨Nat.le_of_ble_eq_true rfl, Nat.le_of_ble_eq_true rfl⟩ ⟨Nat.le_of_ble_eq_true rfl, Nat.le_of_ble_eq_true rfl⟩ (Nat.le_of_ble_eq_true rfl) (fun Γ5 G5 hs5 hB5 tn51 hp5 => ?_)
  have hx5 := zxt_tr hx4 hs5
  replace hO := zOk_x hs5 hO
  replace tq1 := zxt_ty hs5 tq1 (by decide)
  replace tn14 := zxt_ty hs5 tn14 (by decide)
  replace tn25 := zxt_ty hs5 tn25 (by decide)
  replace tn36 := zxt_ty hs5 tn36 (by decide)
  refine v_putr (pc := 62) (k := 5) C hin dX8_init_62 fl_X8_38 rfl (by decide) (by decide) ?_
  replace hO := zOk_s (k := 5) hO (by decide) (by decide) tn51
  refine v_aload_n (pc := 65) C dX8_init_65 rfl ?_
  refine v_new (pc := 66) C dX8_init_66 (by decide) cl_X8_29 in_8 iz_8 ⟨Nat.le_of_ble_eq_true rfl, Nat.le_of_ble_eq_true rfl⟩ (fun n66 => ?_)
  refine v_dup (pc := 69) C dX8_init_69 ?_
  refine v_aload_n (pc := 70) C dX8_init_70 rfl ?_
  refine v_getr (pc := 71) (k := 3) (t' := 6) (q := n25) C dX8_init_71 fl_X8_25 (by decide) 1 rfl rfl rfl ?_
  refine v_init01 (pc := 74) (a := zr 6 n25) C hx5 dX8_init_74 (wi_X7 31) li_X8_31 rfl (c_X7_init (zxt_Xs hx5 hX)) hB5 (fun x hx => by rw [List.mem_singleton.mp hx]; exact zk_of tn25 (by decide) (by decide)) zSty_t trivial ⟨Nat.le_of_ble_eq_true rfl, Nat.le_of_ble_eq_true rfl⟩ ⟨Nat.le_of_ble_eq_true rfl, Nat.le_of_ble_eq_true rfl⟩ (Nat.le_of_ble_eq_true rfl) (fun Γ6 G6 hs6 hB6 tn66 hp6 => ?_)
  have hx6 := zxt_tr hx5 hs6
  replace hO := zOk_x hs6 hO
  replace tq1 := zxt_ty hs6 tq1 (by decide)
  replace tn14 := zxt_ty hs6 tn14 (by decide)
  replace tn25 := zxt_ty hs6 tn25 (by decide)
  replace tn36 := zxt_ty hs6 tn36 (by decide)
  replace tn51 := zxt_ty hs6 tn51 (by decide)
  refine v_putr (pc := 77) (k := 6) C hin dX8_init_77 fl_X8_41 rfl (by decide) (by decide) ?_
  replace hO := zOk_s (k := 6) hO (by decide) (by decide) tn66
  refine v_aload_n (pc := 80) C dX8_init_80 rfl ?_
  refine v_new (pc := 81) C dX8_init_81 (by decide) cl_X8_44 in_3 iz_3 ⟨Nat.le_of_ble_eq_true rfl, Nat.le_of_ble_eq_true rfl⟩ (fun n81 => ?_)
  refine v_dup (pc := 84) C dX8_init_84 ?_
  refine v_aload_n (pc := 85) C dX8_init_85 rfl ?_
  refine v_getr (pc := 86) (k := 6) (t' := 8) (q := n66) C dX8_init_86 fl_X8_41 (by decide) 1 rfl rfl rfl ?_
  refine v_init01 (pc := 89) (a := zr 8 n66) C hx6 dX8_init_89 (wi_X2 46) li_X8_46 rfl (c_X2_init (zxt_Xs hx6 hX)) hB6 (fun x hx => by rw [List.mem_singleton.mp hx]; exact zk_of tn66 (by decide) (by decide)) zSty_t trivial ⟨Nat.le_of_ble_eq_true rfl, Nat.le_of_ble_eq_true rfl⟩ ⟨Nat.le_of_ble_eq_true rfl, Nat.le_of_ble_eq_true rfl⟩ (Nat.le_of_ble_eq_true rfl) (fun Γ7 G7 hs7 hB7 tn81 hp7 => ?_)
  have hx7 := zxt_tr hx6 hs7
  replace hO := zOk_x hs7 hO
  replace tq1 := zxt_ty hs7 tq1 (by decide)
  replace tn14 := zxt_ty hs7 tn14 (by decide)
  replace tn25 := zxt_ty hs7 tn25 (by decide)
  replace tn36 := zxt_ty hs7 tn36 (by decide)
  replace tn51 := zxt_ty hs7 tn51 (by decide)
  replace tn66 := zxt_ty hs7 tn66 (by decide)
  refine v_putr (pc := 92) (k := 7) C hin dX8_init_92 fl_X8_49 rfl (by decide) (by decide) ?_
  replace hO := zOk_s (k := 7) hO (by decide) (by decide) tn81
  refine v_aload_n (pc := 95) C dX8_init_95 rfl ?_
  refine v_new (pc := 96) C dX8_init_96 (by decide) cl_X8_53 in_1 iz_1 ⟨Nat.le_of_ble_eq_true rfl, Nat.le_of_ble_eq_true rfl⟩ (fun n96 => ?_)
  refine v_dup (pc := 99) C dX8_init_99 ?_
  refine v_init00 (pc := 100)  C hx7 dX8_init_100 (wi_X0 55) li_X8_55 rfl (c_X0_init (zxt_Xs hx7 hX)) hB7 (fun x hx => by cases hx) zSty_t trivial ⟨Nat.le_of_ble_eq_true rfl, Nat.le_of_ble_eq_true rfl⟩ ⟨Nat.le_of_ble_eq_true rfl, Nat.le_of_ble_eq_true rfl⟩ (Nat.le_of_ble_eq_true rfl) (fun Γ8 G8 hs8 hB8 tn96 hp8 => ?_)
  have hx8 := zxt_tr hx7 hs8
  replace hO := zOk_x hs8 hO
  replace tq1 := zxt_ty hs8 tq1 (by decide)
  replace tn14 := zxt_ty hs8 tn14 (by decide)
  replace tn25 := zxt_ty hs8 tn25 (by decide)
  replace tn36 := zxt_ty hs8 tn36 (by decide)
  replace tn51 := zxt_ty hs8 tn51 (by decide)
  replace tn66 := zxt_ty hs8 tn66 (by decide)
  replace tn81 := zxt_ty hs8 tn81 (by decide)
  refine v_putr (pc := 103) (k := 8) C hin dX8_init_103 fl_X8_56 rfl (by decide) (by decide) ?_
  replace hO := zOk_s (k := 8) hO (by decide) (by decide) tn96
  refine v_aload_n (pc := 106) C dX8_init_106 rfl ?_
  refine v_bipush (pc := 107) C dX8_init_107 (by decide) ?_
  refine v_newi0 (pc := 109) C hx8 hB8 56 dX8_init_109 ac_int a_56 rfl (by decide) (by decide) ⟨Nat.le_of_ble_eq_true rfl, Nat.le_of_ble_eq_true rfl⟩ (fun Γ9 q9 fq9 hs9 hB9 tq9 => ?_)
  have hx9 := zxt_tr hx8 hs9
  replace hO := zOk_x hs9 hO
  replace tq1 := zxt_ty hs9 tq1 (by decide)
  replace tn14 := zxt_ty hs9 tn14 (by decide)
  replace tn25 := zxt_ty hs9 tn25 (by decide)
  replace tn36 := zxt_ty hs9 tn36 (by decide)
  replace tn51 := zxt_ty hs9 tn51 (by decide)
  replace tn66 := zxt_ty hs9 tn66 (by decide)
  replace tn81 := zxt_ty hs9 tn81 (by decide)
  replace tn96 := zxt_ty hs9 tn96 (by decide)
  refine v_putr (pc := 111) (k := 9) C hin dX8_init_111 fl_X8_60 rfl (by decide) (by decide) ?_
  replace hO := zOk_s (k := 9) hO (by decide) (by decide) tq9
  refine v_aload_n (pc := 114) C dX8_init_114 rfl ?_
  refine v_iconst (pc := 115) C dX8_init_115 ?_
  refine v_puti (pc := 116) (k := 13) C dX8_init_116 fl_X8_63 f_9_13 ?_
  refine v_adopt0 (Γ0 := Γ) hB9 (by decide) (by decide) (by decide +kernel) (by decide +kernel) hO (by decide +kernel) (fun Γe Ge hse hBe the eΓ eG => ?_)
  have hx10 := zxt_tr hx9 hse
  replace tq1 := zxt_ty hse tq1 (by decide)
  replace tn14 := zxt_ty hse tn14 (by decide)
  replace tn25 := zxt_ty hse tn25 (by decide)
  replace tn36 := zxt_ty hse tn36 (by decide)
  replace tn51 := zxt_ty hse tn51 (by decide)
  replace tn66 := zxt_ty hse tn66 (by decide)
  replace tn81 := zxt_ty hse tn81 (by decide)
  replace tn96 := zxt_ty hse tn96 (by decide)
  replace tq9 := zxt_ty hse tq9 (by decide)
  have th0 := the
  have hpost : Ge.1 901 h0 0 = 0 := by rw [eG]; exact zag_at (t := 9) (k := 1) (by decide)
  refine v_widen (k := 108) (n := 6587) (Nat.le_of_ble_eq_true rfl) (Nat.le_of_ble_eq_true rfl) ?_
  exact v_ret (Γ0 := Γ) (zCv_x C hx10) hr hlk dX8_init_119 hx10 hBe th0 hpost
