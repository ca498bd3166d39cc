def zTx (b : Nat) (o : (Nat → Nat) × (Nat → Nat) × (Nat → Nat → Int)) (U : State) : Prop :=
  (vk_R RX6 24 "or and not worth times worn pride lie honest day " (o.1 3) U ∧ vk_R RX6 26 "sin person did cake grain grist stone seed law may grind wear want pair " (o.1 4) U) ∧
  ∃ (v1 n1 : Nat) (f1 : Nat → Int32) (v2 n2 : Nat) (f2 : Nat → Int32), jStr (zAb b) (o.1 3) v1 n1 f1 U U.heap ∧ jStr (zAb b) (o.1 4) v2 n2 f2 U U.heap
theorem zTx_sty {b : Nat} {o : (Nat → Nat) × (Nat → Nat) × (Nat → Nat → Int)} : zSty b (zTx b o) := by
  intro U U1 h hW hq
  obtain ⟨⟨h1, h2⟩, v1, n1, f1, v2, n2, f2, h3, h4⟩ := h
  exact ⟨⟨vk_R.warm hW h1, vk_R.warm hW h2⟩, v1, n1, f1, v2, n2, f2, jStr_keep h3 hW.alike hq, jStr_keep h4 hW.alike hq⟩
section ZY
variable {p : Program} {l : Launch} {e : Env} {R : Room} {s : State} {m : MethodId} {args : Array Value} {below : List Frame} {meth : Method} {c : Code} {Γ Γ0 : zΓ} {b : Nat} {cc : ByteArray} {nL : Nat} {own : String} {cells slots : Nat} {Q : State → Prop} {pc : Nat} {ls : List (Option zV)} {st : List zV} {G : zH} {ws X : va_W} {D : va_G}
theorem v_ldcS (C : zCv p s m args c Γ b cc nL own) {idx q t : Nat} {tx : String} (hZ : vk_R own idx tx q s) (d : decode cc pc = .ok (.ldc idx, 2)) (kk : V p l e R s m args below meth c b D nL cells slots Q (pc + 2) ls (zr t q :: st) ws) : V p l e R s m args below meth c b D nL cells slots Q pc ls st ws := by
  intro H locs rl hP hD hS hL
  exact va_ldcS C.1 C.2.1 C.2.2.2.1 hZ d (kk H locs rl hP hD hS hL)
theorem v_init00 {hd : Nat × va_E} (C : zCv p s m args c Γ0 b cc nL own) (hx : zxt Γ0 Γ) {y : MethodName} {bs : ByteArray} {mx lv mc ms idx t q : Nat} {T : State → Prop} {post : zΓ → zH → Prop} (d : decode cc pc = .ok (.invokespecial idx, 3)) (w : zWi idx y bs mx 0) (wl : zLi own idx y) (hn : 0 = 0) (hM : zMi l y bs mx lv mc ms b Γ G (hd :: X) t q [] T post) (hB : zBn Γ G) (hav : ∀ x ∈ ([] : List zV), zk Γ x) (hT : zSty b T) (hTs : T s) (hR : lv + 1 ≤ R.frames ∧ 8 + (mx + 11) + 40 * lv ≤ R.locals) (hc : cells + mc ≤ R.cells ∧ slots + ms ≤ R.slots) (hw : ((st.map zc).map fun v => v.category).sum ≤ 8)
    (kk : ∀ (Γ' : zΓ) (G' : zH), zxt Γ Γ' → zBn Γ' G' → Γ'.1 q = t → post Γ' G' → V p l e R s m args below meth c b Γ0.2.2.2.1 nL (cells + mc) (slots + ms) Q (pc + 3) ls st (hd :: (X ++ zWd Γ' G'))) : V p l e R s m args below meth c b Γ0.2.2.2.1 nL cells slots Q pc ls (zr t q :: st) ((q, zO0 t) :: hd :: (X ++ zWd Γ G)) :=
  v_init0 (av := []) C hx d w wl rfl hM hB hav hT hTs hR hc hw kk
theorem v_init01 {hd : Nat × va_E} {a : zV} (C : zCv p s m args c Γ0 b cc nL own) (hx : zxt Γ0 Γ) {y : MethodName} {bs : ByteArray} {mx lv mc ms idx t q : Nat} {T : State → Prop} {post : zΓ → zH → Prop} (d : decode cc pc = .ok (.invokespecial idx, 3)) (w : zWi idx y bs mx 1) (wl : zLi own idx y) (hn : 0 = 0) (hM : zMi l y bs mx lv mc ms b Γ G (hd :: X) t q [a] T post) (hB : zBn Γ G) (hav : ∀ x ∈ [a], zk Γ x) (hT : zSty b T) (hTs : T s) (hR : lv + 1 ≤ R.frames ∧ 8 + (mx + 11) + 40 * lv ≤ R.locals) (hc : cells + mc ≤ R.cells ∧ slots + ms ≤ R.slots) (hw : ((st.map zc).map fun v => v.category).sum ≤ 8)
    (kk : ∀ (Γ' : zΓ) (G' : zH), zxt Γ Γ' → zBn Γ' G' → Γ'.1 q = t → post Γ' G' → V p l e R s m args below meth c b Γ0.2.2.2.1 nL (cells + mc) (slots + ms) Q (pc + 3) ls st (hd :: (X ++ zWd Γ' G'))) : V p l e R s m args below meth c b Γ0.2.2.2.1 nL cells slots Q pc ls (a :: zr t q :: st) ((q, zO0 t) :: hd :: (X ++ zWd Γ G)) :=
  v_init0 (av := [a]) C hx d w wl rfl hM hB hav hT hTs hR hc hw kk
theorem v_call00 (C : zCv p s m args c Γ0 b cc nL own) (hx : zxt Γ0 Γ) {y : MethodName} {bs : ByteArray} {mx lv idx t q : Nat} {post : zH → Prop} (d : decode cc pc = .ok (.invokevirtual idx, 3)) (w : zWv own idx y t bs mx none 0) (ht : 1 ≤ t ∧ t ≤ 10) (hM : zMet l Γ y bs mx none lv [zr t q] G (zpv post)) (hB : zBn Γ G) (h1 : zk Γ (zr t q)) (hR : lv + 1 ≤ R.frames ∧ 8 + (mx + 11) + 40 * lv ≤ R.locals) (hc : cells ≤ R.cells ∧ slots ≤ R.slots) (hw : ((st.map zc).map fun v => v.category).sum ≤ 8)
    (kk : ∀ (G' : zH), post G' → zBn Γ (zno Γ G') → V p l e R s m args below meth c b Γ0.2.2.2.1 nL cells slots Q (pc + 3) ls st (X ++ zWd Γ (zno Γ G'))) : V p l e R s m args below meth c b Γ0.2.2.2.1 nL cells slots Q pc ls (zr t q :: st) (X ++ zWd Γ G) :=
  v_callV0 (av := []) C hx d w ht rfl hM hB (fun x hx => by rw [List.mem_singleton.mp hx]; exact h1) hR hc hw (fun r G' hp hB' => by obtain ⟨rfl, hp⟩ := hp; exact kk G' hp hB')
theorem v_call01 {a : zV} (C : zCv p s m args c Γ0 b cc nL own) (hx : zxt Γ0 Γ) {y : MethodName} {bs : ByteArray} {mx lv idx t q : Nat} {post : zH → Prop} (d : decode cc pc = .ok (.invokevirtual idx, 3)) (w : zWv own idx y t bs mx none 1) (ht : 1 ≤ t ∧ t ≤ 10) (hM : zMet l Γ y bs mx none lv [zr t q, a] G (zpv post)) (hB : zBn Γ G) (h1 : zk Γ (zr t q)) (h2 : zk Γ a) (hR : lv + 1 ≤ R.frames ∧ 8 + (mx + 11) + 40 * lv ≤ R.locals) (hc : cells ≤ R.cells ∧ slots ≤ R.slots) (hw : ((st.map zc).map fun v => v.category).sum ≤ 8)
    (kk : ∀ (G' : zH), post G' → zBn Γ (zno Γ G') → V p l e R s m args below meth c b Γ0.2.2.2.1 nL cells slots Q (pc + 3) ls st (X ++ zWd Γ (zno Γ G'))) : V p l e R s m args below meth c b Γ0.2.2.2.1 nL cells slots Q pc ls (a :: zr t q :: st) (X ++ zWd Γ G) :=
  v_callV0 (av := [a]) C hx d w ht rfl hM hB (fun x hx => by rcases List.mem_cons.mp hx with h | h; exact h ▸ h1; rw [List.mem_singleton.mp h]; exact h2) hR hc hw (fun r G' hp hB' => by obtain ⟨rfl, hp⟩ := hp; exact kk G' hp hB')
theorem v_callT {T : State → Prop} (C : zCv p s m args c Γ b cc nL own) {y : MethodName} {bs : ByteArray} {mx lv idx t a n : Nat} {ret : Option FieldType} {av : List zV} {post : Option zV → zH → Prop} (d : decode cc pc = .ok (.invokevirtual idx, 3)) (w : zWv own idx y t bs mx ret n) (ht : 1 ≤ t ∧ t ≤ 10) (hn : av.length = n) (hM : zMt l Γ T y bs mx ret lv (zr t a :: av) G post) (hB : zBn Γ G) (hav : ∀ x ∈ zr t a :: av, zk Γ x) (hT : ∀ (U : State) (H : Heap), U.heap = H → s.vm.Alike U.vm → (∀ x : Nat, x < s.heap.size → ¬ zAb b x → H[x]? = s.heap[x]?) → (∀ x, zA Γ x → zAb b x) → T U) (hTb : ∀ (a : Array Value) (U : State) (g : JFrame) (mk : MethodId), T U → T (U.calling g mk a)) (hR : lv + 1 ≤ R.frames ∧ 8 + (mx + 11) + 40 * lv ≤ R.locals) (hc : cells ≤ R.cells ∧ slots ≤ R.slots) (hw : ((st.map zc).map fun v => v.category).sum ≤ 8)
    (kk : ∀ (r : Option zV) (G' : zH), post r G' → (∀ x, r = some x → zk Γ x) → zBn Γ (zno Γ G') → V p l e R s m args below meth c b Γ.2.2.2.1 nL cells slots Q (pc + 3) ls (r.toList ++ st) (X ++ zWd Γ (zno Γ G'))) : V p l e R s m args below meth c b Γ.2.2.2.1 nL cells slots Q pc ls (av.reverse ++ zr t a :: st) (X ++ zWd Γ G) := by
  intro H locs rl hP hD hS hL
  obtain ⟨⟨w1, w2, w3, w4, w5⟩, hcl, hy1, hy2, hnp⟩ := w
  have hts := C.2.2.2.2.1
  obtain ⟨hXb, hNk, hNm⟩ := C.2.2.2.2.2.2.1
  have hAb := zA_of hB.1 hD
  have hra := hav _ List.mem_cons_self
  obtain ⟨hta, -⟩ := zk_ty hra (by omega)
  have hPz : va_P Γ.2.2.2.1 vwCl (zWd Γ G) H := zP_mem hP (fun x hx => List.mem_append_right _ hx)
  obtain ⟨q0, hq0⟩ := va_pl_get (X := []) (f := zE Γ G) ((hB.1.2.1 a).mpr (by omega))
  rw [zE_cls hta ht.2] at hq0
  have hrun := va_runV (H := H) (e := e) (below := below) (meth := meth) (locs := locs) (cells := cells) (slots := slots) (As := av.map zc) (rest := st.map zc) (b := a) (C := zCn t) (g := F0 m pc rl ((av.reverse ++ zr t a :: st).map zc)) (n := n) ⟨C.1, C.2.1, C.2.2.1, C.2.2.2.1, hts⟩ hM
    ⟨callB_of n hts (zTb_good w5) rfl rfl rfl (by rw [hcl]; exact hts _ w4) (hts _ w1) ⟨hy1, hy2, hnp⟩ hR, hts _ w2, hts _ w3⟩
    ⟨fun a U g mk h => ⟨zPc_blind a U g mk h.1, hTb a U g mk h.2⟩, va_recv C.2.2.2.2.2.1 hPz (zcl_at ht.1 ht.2) hq0, fun U hU hW => ⟨⟨rfl, ⟨va_K.moved hW.alike C.2.2.2.2.2.1, hB.1, zXb_f (zXb_keep hXb hW.alike (fun x h1 h2 => by rw [hU]; exact hS.2.1 x h1 h2)) hAb, fun x hx => va_Nw.warmF hW (hNk x hx)⟩, hB.2.1, hav, by rw [hU]; exact hPz⟩, hT U H hU hW.alike (fun x h1 h2 => hS.2.1 x h1 h2) hAb⟩⟩
    rfl (by rw [List.length_map]; exact hn) hL.1 (by simp [zc]) (lv_room hw) d ⟨by simpa using hc.1, by simpa using hc.2⟩
  intro T hT X1
  obtain ⟨v, st₀, t9, T', L, h01, X', hL', e1, e2, ⟨⟨r, G', hv, hz, hp, hG', hP'⟩, hF⟩, go⟩ := hrun T hT X1
  have hv' : v = r.map zc := by cases hv; rfl
  subst hv'
  have hS1 : va_S (zAb b) s.heap t9.heap (locs ++ L) := by
    refine ⟨Nat.le_trans hS.1 (by rw [← h01]; exact hF.1), fun q h1 h2 => ?_, fun l hl => ?_⟩
    · rw [hF.2 q (by rw [h01]; exact Nat.lt_of_lt_of_le h1 hS.1) (fun h => h2 (hAb q h)), h01]
      exact hS.2.1 q h1 h2
    · rcases List.mem_append.mp hl with q | q
      · exact hS.2.2 l q
      · exact hAb _ (hL' l q)
  have hPX : va_P Γ.2.2.2.1 vwCl X t9.heap := by
    intro k q hk
    have hk1 : (X ++ zWd Γ G)[k]? = some q := by rw [List.getElem?_append_left (List.getElem?_eq_some_iff.mp hk).1]; exact hk
    have h1 := hP k q hk1
    refine h1.kept ?_
    rw [hF.2 q.1 (by rw [h01]; exact h1.lt) (fun h => ?_), h01]
    have hm : q.1 ∈ Γ.2.2.2.2.1 := (hB.1.2.1 q.1).mpr h
    have h2 : (q.1, zE Γ G q.1) ∈ zWd Γ G := List.mem_map.mpr ⟨q.1, hm, rfl⟩
    obtain ⟨j, hj⟩ := List.getElem?_of_mem h2
    have hj1 : (X ++ zWd Γ G)[X.length + j]? = some (q.1, zE Γ G q.1) := by rw [List.getElem?_append_right (by omega), Nat.add_sub_cancel_left]; exact hj
    have h3 := hD.1 k (X.length + j) q _ hk1 hj1 rfl
    have h4 := (List.getElem?_eq_some_iff.mp hk).1
    omega
  have hD' : va_D (zAb b) (X ++ zWd Γ (zno Γ G')) := by
    rw [zD_iff] at hD ⊢
    have e8 : (X ++ zWd Γ (zno Γ G')).map (fun q => q.1) = (X ++ zWd Γ G).map (fun q => q.1) := by
      rw [List.map_append, List.map_append]
      unfold zWd va_pl
      rw [List.map_map, List.map_map]
      rfl
    refine ⟨by rw [e8]; exact hD.1, fun q hq => ?_⟩
    have h1 : q.1 ∈ (X ++ zWd Γ (zno Γ G')).map (fun q => q.1) := List.mem_map.mpr ⟨q, hq, rfl⟩
    rw [e8] at h1
    obtain ⟨q2, h2, h3⟩ := List.mem_map.mp h1
    rw [← h3]
    exact hD.2 q2 h2
  have hBn := zBn_no hB.1 hG'
  obtain ⟨t8, a9, b9⟩ := kk r G' hp hz hBn t9.heap (locs ++ L) rl (hPX.app (by rw [zWd_no hB.1]; exact hP')) hD' hS1 hL T' e1 X'
  refine ⟨t8, ?_, b9⟩
  have e9 : List.map zc (r.toList ++ st) = (r.map zc).toList ++ st.map zc := by
    cases r <;> simp
  rw [e9] at a9
  exact go t8 a9

theorem v_learn (C : zCv p s m args c Γ0 b cc nL own) (hx : zxt Γ0 Γ) {bs : ByteArray} {idx w0 a t v n : Nat} {k : Int} {f : Nat → Int32} {y : MethodName} (d : decode cc pc = .ok (.invokevirtual idx, 3)) (w : zWv own idx y 7 bs 7 (some .int) 2) (hM : zMt l Γ (fun U => jStr (zA Γ) a v n f U U.heap) y bs 7 (some .int) 4 [zr 7 w0, zr t a, zi k] G (zpi (fun x G' => zsm [2044] G G' ∧ 0 ≤ x))) (hB : zBn Γ G) (ht0 : Γ.1 w0 = 7) (ha : a = Γ.2.2.2.2.2.1 (t - 200)) (hJ : jStr (zAb b) a v n f s s.heap) (ht : 200 ≤ t) (hR : 5 ≤ R.frames ∧ 200 ≤ R.locals) (hc : cells ≤ R.cells ∧ slots ≤ R.slots) (hw : ((st.map zc).map fun v => v.category).sum ≤ 8) (hk : -2147483648 ≤ k ∧ k ≤ 2147483647)
    (kk : ∀ (x : Int) (G' : zH), 0 ≤ x → (-2147483648 ≤ x ∧ x ≤ 2147483647) → zBn Γ (zno Γ G') → V p l e R s m args below meth c b Γ0.2.2.2.1 nL cells slots Q (pc + 3) ls (zi x :: st) (X ++ zWd Γ (zno Γ G'))) : V p l e R s m args below meth c b Γ0.2.2.2.1 nL cells slots Q pc ls (zi k :: zr t a :: zr 7 w0 :: st) (X ++ zWd Γ G) := by
  rw [← hx.2.1]
  refine v_callT (av := [zr t a, zi k]) (zCv_x C hx) d w (by decide) rfl hM hB ?_ (fun U H hU hvm hq hA => by rw [hU]; exact jStr_nar (jStr_keep hJ hvm hq) hA) ?_ (by show 4 + 1 ≤ R.frames ∧ 8 + (7 + 11) + 40 * 4 ≤ R.locals; omega) hc hw (fun r G' hp hz hB' => ?_)
  · intro x hx
    rcases List.mem_cons.mp hx with h | h
    · rw [h]; exact zk_of ht0 (by decide) (by decide)
    · rcases List.mem_cons.mp h with h | h
      · rw [h]; exact Or.inr ⟨ht, ha⟩
      · rw [List.mem_singleton.mp h]; exact hk
  · intro a U g mk h
    exact jStr_keep (U := U) (U1 := U.calling g mk a) h (Vm.Alike.refl U.vm) (fun _ _ _ => rfl)
  · obtain ⟨x, rfl, hp⟩ := hp
    have h := kk x G' hp.2 (hz _ rfl) hB'
    rw [← hx.2.1] at h
    exact h
end ZY
theorem ol_X0 : Cond.methodLink RX0 3 Lib.objectInit ∈ zTb := (zTb_2 218 rfl rfl)
theorem oi_ : Cond.instanceMethod Lib.objectInit ∈ zTb := (zTb_1 30 rfl rfl)
theorem oc_ : Cond.code Lib.objectInit ⟨#[0xb1]⟩ 1 none ∈ zTb := (zTb_1 31 rfl rfl)
theorem ac_int : Cond.arrayClass .int ∈ zTb := (zTb_1 127 rfl rfl)
theorem fl_X0_9 : Cond.fieldLink RX0 9 (zCn 1) (zT 1 0).2.1 (zT 1 0).2.2.1 ∈ zTb := (zTb_2 219 rfl rfl)
theorem fl_X0_15 : Cond.fieldLink RX0 15 (zCn 1) (zT 1 1).2.1 (zT 1 1).2.2.1 ∈ zTb := (zTb_2 220 rfl rfl)
theorem ac_long : Cond.arrayClass .long ∈ zTb := (zTb_1 168 rfl rfl)
theorem fl_X0_18 : Cond.fieldLink RX0 18 (zCn 1) (zT 1 2).2.1 (zT 1 2).2.2.1 ∈ zTb := (zTb_2 222 rfl rfl)
theorem ol_X1 : Cond.methodLink RX1 3 Lib.objectInit ∈ zTb := (zTb_1 140 rfl rfl)
theorem fl_X1_11 : Cond.fieldLink RX1 11 (zCn 2) (zT 2 0).2.1 (zT 2 0).2.2.1 ∈ zTb := (zTb_1 141 rfl rfl)
theorem fl_X1_15 : Cond.fieldLink RX1 15 (zCn 2) (zT 2 1).2.1 (zT 2 1).2.2.1 ∈ zTb := (zTb_1 142 rfl rfl)
theorem fl_X1_18 : Cond.fieldLink RX1 18 (zCn 2) (zT 2 2).2.1 (zT 2 2).2.2.1 ∈ zTb := (zTb_1 143 rfl rfl)
theorem fl_X1_21 : Cond.fieldLink RX1 21 (zCn 2) (zT 2 3).2.1 (zT 2 3).2.2.1 ∈ zTb := (zTb_1 144 rfl rfl)
theorem fl_X1_24 : Cond.fieldLink RX1 24 (zCn 2) (zT 2 4).2.1 (zT 2 4).2.2.1 ∈ zTb := (zTb_1 145 rfl rfl)
theorem fl_X1_28 : Cond.fieldLink RX1 28 (zCn 2) (zT 2 5).2.1 (zT 2 5).2.2.1 ∈ zTb := (zTb_1 146 rfl rfl)
theorem ol_X4 : Cond.methodLink RX4 3 Lib.objectInit ∈ zTb := (zTb_2 61 rfl rfl)
theorem fl_X4_9 : Cond.fieldLink RX4 9 (zCn 5) (zT 5 0).2.1 (zT 5 0).2.2.1 ∈ zTb := (zTb_2 62 rfl rfl)
theorem fl_X4_15 : Cond.fieldLink RX4 15 (zCn 5) (zT 5 1).2.1 (zT 5 1).2.2.1 ∈ zTb := (zTb_2 65 rfl rfl)
theorem fl_X4_18 : Cond.fieldLink RX4 18 (zCn 5) (zT 5 2).2.1 (zT 5 2).2.2.1 ∈ zTb := (zTb_2 68 rfl rfl)
theorem fl_X4_21 : Cond.fieldLink RX4 21 (zCn 5) (zT 5 3).2.1 (zT 5 3).2.2.1 ∈ zTb := (zTb_2 71 rfl rfl)
theorem fl_X4_24 : Cond.fieldLink RX4 24 (zCn 5) (zT 5 4).2.1 (zT 5 4).2.2.1 ∈ zTb := (zTb_2 73 rfl rfl)
theorem fl_X4_27 : Cond.fieldLink RX4 27 (zCn 5) (zT 5 5).2.1 (zT 5 5).2.2.1 ∈ zTb := (zTb_2 76 rfl rfl)
theorem fl_X4_30 : Cond.fieldLink RX4 30 (zCn 5) (zT 5 6).2.1 (zT 5 6).2.2.1 ∈ zTb := (zTb_2 78 rfl rfl)
theorem fl_X4_33 : Cond.fieldLink RX4 33 (zCn 5) (zT 5 7).2.1 (zT 5 7).2.2.1 ∈ zTb := (zTb_2 80 rfl rfl)
theorem fl_X4_36 : Cond.fieldLink RX4 36 (zCn 5) (zT 5 8).2.1 (zT 5 8).2.2.1 ∈ zTb := (zTb_2 82 rfl rfl)
theorem fl_X4_39 : Cond.fieldLink RX4 39 (zCn 5) (zT 5 9).2.1 (zT 5 9).2.2.1 ∈ zTb := (zTb_2 84 rfl rfl)
theorem ol_X2 : Cond.methodLink RX2 3 Lib.objectInit ∈ zTb := (zTb_2 185 rfl rfl)
theorem fl_X2_9 : Cond.fieldLink RX2 9 (zCn 3) (zT 3 1).2.1 (zT 3 1).2.2.1 ∈ zTb := (zTb_2 187 rfl rfl)
theorem fl_X2_15 : Cond.fieldLink RX2 15 (zCn 3) (zT 3 2).2.1 (zT 3 2).2.2.1 ∈ zTb := (zTb_2 188 rfl rfl)
theorem fl_X2_18 : Cond.fieldLink RX2 18 (zCn 3) (zT 3 3).2.1 (zT 3 3).2.2.1 ∈ zTb := (zTb_2 190 rfl rfl)
theorem fl_X2_21 : Cond.fieldLink RX2 21 (zCn 3) (zT 3 4).2.1 (zT 3 4).2.2.1 ∈ zTb := (zTb_2 192 rfl rfl)
theorem fl_X2_24 : Cond.fieldLink RX2 24 (zCn 3) (zT 3 5).2.1 (zT 3 5).2.2.1 ∈ zTb := (zTb_2 193 rfl rfl)
theorem fl_X2_27 : Cond.fieldLink RX2 27 (zCn 3) (zT 3 0).2.1 (zT 3 0).2.2.1 ∈ zTb := (zTb_2 186 rfl rfl)
theorem ol_X5 : Cond.methodLink RX5 3 Lib.objectInit ∈ zTb := (zTb_1 134 rfl rfl)
theorem cl_X5_9 : Cond.classLink RX5 9 (zCn 2) ∈ zTb := (zTb_1 135 rfl rfl)
theorem in_2 : Cond.instantiable (zCn 2) (zN 2) ∈ zTb := (zTb_1 136 rfl rfl)
theorem iz_2 : Cond.initialized (zCn 2) ∈ zTb := (zTb_1 9 rfl rfl)
theorem wi_X1 (idx : Nat) : zWi idx yX1_init cX1_init 1 0 := ⟨⟨(zTb_1 138 rfl rfl), (zTb_1 9 rfl rfl), (zTb_1 139 rfl rfl)⟩, rfl, by decide +kernel, by decide +kernel, by decide +kernel⟩
theorem li_X5_11 : zLi RX5 11 yX1_init := Or.inr ⟨RX8, List.mem_of_getElem? (i := 2) rfl⟩
theorem fl_X5_12 : Cond.fieldLink RX5 12 (zCn 6) (zT 6 0).2.1 (zT 6 0).2.2.1 ∈ zTb := (zTb_1 169 rfl rfl)
theorem fl_X5_18 : Cond.fieldLink RX5 18 (zCn 6) (zT 6 1).2.1 (zT 6 1).2.2.1 ∈ zTb := (zTb_1 173 rfl rfl)
theorem fl_X5_22 : Cond.fieldLink RX5 22 (zCn 6) (zT 6 2).2.1 (zT 6 2).2.2.1 ∈ zTb := (zTb_1 174 rfl rfl)
theorem fl_X5_25 : Cond.fieldLink RX5 25 (zCn 6) (zT 6 3).2.1 (zT 6 3).2.2.1 ∈ zTb := (zTb_1 180 rfl rfl)
theorem fl_X5_28 : Cond.fieldLink RX5 28 (zCn 6) (zT 6 4).2.1 (zT 6 4).2.2.1 ∈ zTb := (zTb_1 184 rfl rfl)
theorem fl_X5_31 : Cond.fieldLink RX5 31 (zCn 6) (zT 6 5).2.1 (zT 6 5).2.2.1 ∈ zTb := (zTb_1 188 rfl rfl)
theorem fl_X5_34 : Cond.fieldLink RX5 34 (zCn 6) (zT 6 6).2.1 (zT 6 6).2.2.1 ∈ zTb := (zTb_1 191 rfl rfl)
theorem fl_X5_37 : Cond.fieldLink RX5 37 (zCn 6) (zT 6 7).2.1 (zT 6 7).2.2.1 ∈ zTb := (zTb_1 195 rfl rfl)
theorem fl_X5_40 : Cond.fieldLink RX5 40 (zCn 6) (zT 6 8).2.1 (zT 6 8).2.2.1 ∈ zTb := (zTb_1 199 rfl rfl)
theorem fl_X5_43 : Cond.fieldLink RX5 43 (zCn 6) (zT 6 9).2.1 (zT 6 9).2.2.1 ∈ zTb := (zTb_1 203 rfl rfl)
theorem fl_X5_47 : Cond.fieldLink RX5 47 (zCn 6) (zT 6 10).2.1 (zT 6 10).2.2.1 ∈ zTb := (zTb_1 206 rfl rfl)
theorem ol_X6 : Cond.methodLink RX6 3 Lib.objectInit ∈ zTb := (zTb_1 43 rfl rfl)
theorem fl_X6_11 : Cond.fieldLink RX6 11 (zCn 7) (zT 7 0).2.1 (zT 7 0).2.2.1 ∈ zTb := (zTb_1 101 rfl rfl)
theorem fl_X6_15 : Cond.fieldLink RX6 15 (zCn 7) (zT 7 1).2.1 (zT 7 1).2.2.1 ∈ zTb := (zTb_1 102 rfl rfl)
theorem fl_X6_18 : Cond.fieldLink RX6 18 (zCn 7) (zT 7 2).2.1 (zT 7 2).2.2.1 ∈ zTb := (zTb_1 104 rfl rfl)
theorem fl_X6_21 : Cond.fieldLink RX6 21 (zCn 7) (zT 7 3).2.1 (zT 7 3).2.2.1 ∈ zTb := (zTb_1 106 rfl rfl)
theorem ol_X3 : Cond.methodLink RX3 3 Lib.objectInit ∈ zTb := (zTb_1 37 rfl rfl)
theorem cl_X3_9 : Cond.classLink RX3 9 (zCn 7) ∈ zTb := (zTb_1 38 rfl rfl)
theorem in_7 : Cond.instantiable (zCn 7) (zN 7) ∈ zTb := (zTb_1 39 rfl rfl)
theorem iz_7 : Cond.initialized (zCn 7) ∈ zTb := (zTb_1 3 rfl rfl)
theorem wi_X6 (idx : Nat) : zWi idx yX6_init cX6_init 1 0 := ⟨⟨(zTb_1 41 rfl rfl), (zTb_1 3 rfl rfl), (zTb_1 42 rfl rfl)⟩, rfl, by decide +kernel, by decide +kernel, by decide +kernel⟩
theorem li_X3_11 : zLi RX3 11 yX6_init := Or.inl (zTb_1 40 rfl rfl)
theorem fl_X3_12 : Cond.fieldLink RX3 12 (zCn 4) (zT 4 0).2.1 (zT 4 0).2.2.1 ∈ zTb := (zTb_2 3 rfl rfl)
theorem cl_X3_18 : Cond.classLink RX3 18 (zCn 6) ∈ zTb := (zTb_1 129 rfl rfl)
theorem in_6 : Cond.instantiable (zCn 6) (zN 6) ∈ zTb := (zTb_1 130 rfl rfl)
theorem iz_6 : Cond.initialized (zCn 6) ∈ zTb := (zTb_1 8 rfl rfl)
theorem wi_X5 (idx : Nat) : zWi idx yX5_init cX5_init 1 0 := ⟨⟨(zTb_1 132 rfl rfl), (zTb_1 8 rfl rfl), (zTb_1 133 rfl rfl)⟩, rfl, by decide +kernel, by decide +kernel, by decide +kernel⟩
theorem li_X3_20 : zLi RX3 20 yX5_init := Or.inr ⟨RX8, List.mem_of_getElem? (i := 1) rfl⟩
theorem fl_X3_21 : Cond.fieldLink RX3 21 (zCn 4) (zT 4 1).2.1 (zT 4 1).2.2.1 ∈ zTb := (zTb_2 4 rfl rfl)
theorem fl_X3_27 : Cond.fieldLink RX3 27 (zCn 4) (zT 4 9).2.1 (zT 4 9).2.2.1 ∈ zTb := (zTb_2 14 rfl rfl)
theorem ol_X7 : Cond.methodLink RX7 3 Lib.objectInit ∈ zTb := (zTb_2 55 rfl rfl)
theorem cl_X7_9 : Cond.classLink RX7 9 (zCn 5) ∈ zTb := (zTb_2 56 rfl rfl)
theorem in_5 : Cond.instantiable (zCn 5) (zN 5) ∈ zTb := (zTb_2 57 rfl rfl)
theorem iz_5 : Cond.initialized (zCn 5) ∈ zTb := (zTb_1 11 rfl rfl)
theorem wi_X4 (idx : Nat) : zWi idx yX4_init cX4_init 1 0 := ⟨⟨(zTb_2 59 rfl rfl), (zTb_1 11 rfl rfl), (zTb_2 60 rfl rfl)⟩, rfl, by decide +kernel, by decide +kernel, by decide +kernel⟩
theorem li_X7_11 : zLi RX7 11 yX4_init := Or.inr ⟨RX8, List.mem_of_getElem? (i := 4) rfl⟩
theorem fl_X7_12 : Cond.fieldLink RX7 12 (zCn 8) (zT 8 1).2.1 (zT 8 1).2.2.1 ∈ zTb := (zTb_2 125 rfl rfl)
theorem fl_X7_18 : Cond.fieldLink RX7 18 (zCn 8) (zT 8 2).2.1 (zT 8 2).2.2.1 ∈ zTb := (zTb_2 128 rfl rfl)
theorem fl_X7_22 : Cond.fieldLink RX7 22 (zCn 8) (zT 8 3).2.1 (zT 8 3).2.2.1 ∈ zTb := (zTb_2 130 rfl rfl)
theorem fl_X7_25 : Cond.fieldLink RX7 25 (zCn 8) (zT 8 4).2.1 (zT 8 4).2.2.1 ∈ zTb := (zTb_2 131 rfl rfl)
theorem fl_X7_28 : Cond.fieldLink RX7 28 (zCn 8) (zT 8 5).2.1 (zT 8 5).2.2.1 ∈ zTb := (zTb_2 133 rfl rfl)
theorem fl_X7_31 : Cond.fieldLink RX7 31 (zCn 8) (zT 8 6).2.1 (zT 8 6).2.2.1 ∈ zTb := (zTb_2 135 rfl rfl)
theorem fl_X7_34 : Cond.fieldLink RX7 34 (zCn 8) (zT 8 7).2.1 (zT 8 7).2.2.1 ∈ zTb := (zTb_2 137 rfl rfl)
theorem fl_X7_37 : Cond.fieldLink RX7 37 (zCn 8) (zT 8 8).2.1 (zT 8 8).2.2.1 ∈ zTb := (zTb_2 139 rfl rfl)
theorem fl_X7_40 : Cond.fieldLink RX7 40 (zCn 8) (zT 8 0).2.1 (zT 8 0).2.2.1 ∈ zTb := (zTb_2 122 rfl rfl)
theorem ol_X8 : Cond.methodLink RX8 5 Lib.objectInit ∈ zTb := (zTb_1 29 rfl rfl)
theorem fl_X8_11 : Cond.fieldLink RX8 11 (zCn 9) (zT 9 0).2.1 (zT 9 0).2.2.1 ∈ zTb := (zTb_3 0 rfl rfl)
theorem cl_X8_15 : Cond.classLink RX8 15 (zCn 4) ∈ zTb := (zTb_1 32 rfl rfl)
theorem in_4 : Cond.instantiable (zCn 4) (zN 4) ∈ zTb := (zTb_1 33 rfl rfl)
theorem iz_4 : Cond.initialized (zCn 4) ∈ zTb := (zTb_1 2 rfl rfl)
theorem wi_X3 (idx : Nat) : zWi idx yX3_init cX3_init 1 0 := ⟨⟨(zTb_1 35 rfl rfl), (zTb_1 2 rfl rfl), (zTb_1 36 rfl rfl)⟩, rfl, by decide +kernel, by decide +kernel, by decide +kernel⟩
theorem li_X8_17 : zLi RX8 17 yX3_init := Or.inr ⟨RX8, List.mem_of_getElem? (i := 0) rfl⟩
theorem fl_X8_18 : Cond.fieldLink RX8 18 (zCn 9) (zT 9 2).2.1 (zT 9 2).2.2.1 ∈ zTb := (zTb_3 2 rfl rfl)
theorem cl_X8_22 : Cond.classLink RX8 22 (zCn 6) ∈ zTb := (zTb_2 48 rfl rfl)
theorem li_X8_24 : zLi RX8 24 yX5_init := Or.inr ⟨RX8, List.mem_of_getElem? (i := 3) rfl⟩
theorem fl_X8_25 : Cond.fieldLink RX8 25 (zCn 9) (zT 9 3).2.1 (zT 9 3).2.2.1 ∈ zTb := (zTb_3 3 rfl rfl)
theorem cl_X8_29 : Cond.classLink RX8 29 (zCn 8) ∈ zTb := (zTb_2 50 rfl rfl)
theorem in_8 : Cond.instantiable (zCn 8) (zN 8) ∈ zTb := (zTb_2 51 rfl rfl)
theorem iz_8 : Cond.initialized (zCn 8) ∈ zTb := (zTb_1 10 rfl rfl)
theorem wi_X7 (idx : Nat) : zWi idx yX7_init cX7_init 2 1 := ⟨⟨(zTb_2 53 rfl rfl), (zTb_1 10 rfl rfl), (zTb_2 54 rfl rfl)⟩, rfl, by decide +kernel, by decide +kernel, by decide +kernel⟩
theorem li_X8_31 : zLi RX8 31 yX7_init := Or.inl (zTb_2 52 rfl rfl)
theorem fl_X8_34 : Cond.fieldLink RX8 34 (zCn 9) (zT 9 4).2.1 (zT 9 4).2.2.1 ∈ zTb := (zTb_3 4 rfl rfl)
theorem fl_X8_38 : Cond.fieldLink RX8 38 (zCn 9) (zT 9 5).2.1 (zT 9 5).2.2.1 ∈ zTb := (zTb_3 5 rfl rfl)
theorem fl_X8_41 : Cond.fieldLink RX8 41 (zCn 9) (zT 9 6).2.1 (zT 9 6).2.2.1 ∈ zTb := (zTb_3 6 rfl rfl)
theorem cl_X8_44 : Cond.classLink RX8 44 (zCn 3) ∈ zTb := (zTb_2 180 rfl rfl)
theorem in_3 : Cond.instantiable (zCn 3) (zN 3) ∈ zTb := (zTb_2 181 rfl rfl)
theorem iz_3 : Cond.initialized (zCn 3) ∈ zTb := (zTb_1 14 rfl rfl)
theorem wi_X2 (idx : Nat) : zWi idx yX2_init cX2_init 2 1 := ⟨⟨(zTb_2 183 rfl rfl), (zTb_1 14 rfl rfl), (zTb_2 184 rfl rfl)⟩, rfl, by decide +kernel, by decide +kernel, by decide +kernel⟩
theorem li_X8_46 : zLi RX8 46 yX2_init := Or.inl (zTb_2 182 rfl rfl)
theorem fl_X8_49 : Cond.fieldLink RX8 49 (zCn 9) (zT 9 7).2.1 (zT 9 7).2.2.1 ∈ zTb := (zTb_3 7 rfl rfl)
theorem cl_X8_53 : Cond.classLink RX8 53 (zCn 1) ∈ zTb := (zTb_2 213 rfl rfl)
theorem in_1 : Cond.instantiable (zCn 1) (zN 1) ∈ zTb := (zTb_2 214 rfl rfl)
theorem iz_1 : Cond.initialized (zCn 1) ∈ zTb := (zTb_1 15 rfl rfl)
theorem wi_X0 (idx : Nat) : zWi idx yX0_init cX0_init 1 0 := ⟨⟨(zTb_2 216 rfl rfl), (zTb_1 15 rfl rfl), (zTb_2 217 rfl rfl)⟩, rfl, by decide +kernel, by decide +kernel, by decide +kernel⟩
theorem li_X8_55 : zLi RX8 55 yX0_init := Or.inr ⟨RX8, List.mem_of_getElem? (i := 5) rfl⟩
theorem fl_X8_56 : Cond.fieldLink RX8 56 (zCn 9) (zT 9 8).2.1 (zT 9 8).2.2.1 ∈ zTb := (zTb_3 8 rfl rfl)
theorem fl_X8_60 : Cond.fieldLink RX8 60 (zCn 9) (zT 9 9).2.1 (zT 9 9).2.2.1 ∈ zTb := (zTb_3 9 rfl rfl)
theorem fl_X8_63 : Cond.fieldLink RX8 63 (zCn 9) (zT 9 13).2.1 (zT 9 13).2.2.1 ∈ zTb := (zTb_3 13 rfl rfl)
