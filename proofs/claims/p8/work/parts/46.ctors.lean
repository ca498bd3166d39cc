def zTx (b : Nat) (o : (Nat → Nat) × (Nat → Nat) × (Nat → Nat → Int)) (U : State) : Prop :=
  (vk_R RX6 24 "or and not worth times worn pride lie honest day " (o.1 3) U ∧ vk_R RX6 26 "sin person did cake grain grist stone seed law may grind wear want pair " (o.1 4) U) ∧
  ∃ (v1 n1 : Nat) (f1 : Nat → Int32) (v2 n2 : Nat) (f2 : Nat → Int32), jStr (zAb b) (o.1 3) v1 n1 f1 U U.heap ∧ jStr (zAb b) (o.1 4) v2 n2 f2 U U.heap
theorem zTx_sty {b : Nat} {o : (Nat → Nat) × (Nat → Nat) × (Nat → Nat → Int)} : zSty b (zTx b o) := by
  intro U U1 h hW hq
  obtain ⟨⟨h1, h2⟩, v1, n1, f1, v2, n2, f2, h3, h4⟩ := h
  exact ⟨⟨vk_R.warm hW h1, vk_R.warm hW h2⟩, v1, n1, f1, v2, n2, f2, jStr_keep h3 hW.alike hq, jStr_keep h4 hW.alike hq⟩
section ZY
variable {p : Program} {l : Launch} {e : Env} {R : Room} {s : State} {m : MethodId} {args : Array Value} {below : List Frame} {meth : Method} {c : Code} {Γ Γ0 : zΓ} {b : Nat} {cc : ByteArray} {nL : Nat} {own : String} {cells slots : Nat} {Q : State → Prop} {pc : Nat} {ls : List (Option zV)} {st : List zV} {G : zH} {ws X : va_W} {D : va_G}
theorem v_ldcS (C : zCv p s m args c Γ b cc nL own) {idx q t : Nat} {tx : String} (hZ : vk_R own idx tx q s) (d : decode cc pc = .ok (.ldc idx, 2)) (kk : V p l e R s m args below meth c b D nL cells slots Q (pc + 2) ls (zr t q :: st) ws) : V p l e R s m args below meth c b D nL cells slots Q pc ls st ws := by
  intro H locs rl hP hD hS hL
  exact va_ldcS C.1 C.2.1 C.2.2.2.1 hZ d (kk H locs rl hP hD hS hL)
theorem v_init00 {hd : Nat × va_E} (C : zCv p s m args c Γ0 b cc nL own) (hx : zxt Γ0 Γ) {y : MethodName} {bs : ByteArray} {mx lv mc ms idx t q : Nat} {T : State → Prop} {post : zΓ → zH → Prop} (d : decode cc pc = .ok (.invokespecial idx, 3)) (w : zWi idx y bs mx 0) (wl : zLi own idx y) (hn : 0 = 0) (hM : zMi l y bs mx lv mc ms b Γ G (hd :: X) t q [] T post) (hB : zBn Γ G) (hav : ∀ x ∈ ([] : List zV), zk Γ x) (hT : zSty b T) (hTs : T s) (hR : lv + 1 ≤ R.frames ∧ 8 + (mx + 11) + 40 * lv ≤ R.locals) (hc : cells + mc ≤ R.cells ∧ slots + ms ≤ R.slots) (hw : ((st.map zc).map fun v => v.category).sum ≤ 8)
    (kk : ∀ (Γ' : zΓ) (G' : zH), zxt Γ Γ' → zBn Γ' G' → Γ'.1 q = t → post Γ' G' → V p l e R s m args below meth c b Γ0.2.2.2.1 nL (cells + mc) (slots + ms) Q (pc + 3) ls st (hd :: (X ++ zWd Γ' G'))) : V p l e R s m args below meth c b Γ0.2.2.2.1 nL cells slots Q pc ls (zr t q :: st) ((q, zO0 t) :: hd :: (X ++ zWd Γ G)) :=
  v_init0 (av := []) C hx d w wl rfl hM hB hav hT hTs hR hc hw kk
theorem v_init01 {hd : Nat × va_E} {a : zV} (C : zCv p s m args c Γ0 b cc nL own) (hx : zxt Γ0 Γ) {y : MethodName} {bs : ByteArray} {mx lv mc ms idx t q : Nat} {T : State → Prop} {post : zΓ → zH → Prop} (d : decode cc pc = .ok (.invokespecial idx, 3)) (w : zWi idx y bs mx 1) (wl : zLi own idx y) (hn : 0 = 0) (hM : zMi l y bs mx lv mc ms b Γ G (hd :: X) t q [a] T post) (hB : zBn Γ G) (hav : ∀ x ∈ [a], zk Γ x) (hT : zSty b T) (hTs : T s) (hR : lv + 1 ≤ R.frames ∧ 8 + (mx + 11) + 40 * lv ≤ R.locals) (hc : cells + mc ≤ R.cells ∧ slots + ms ≤ R.slots) (hw : ((st.map zc).map fun v => v.category).sum ≤ 8)
    (kk : ∀ (Γ' : zΓ) (G' : zH), zxt Γ Γ' → zBn Γ' G' → Γ'.1 q = t → post Γ' G' → V p l e R s m args below meth c b Γ0.2.2.2.1 nL (cells + mc) (slots + ms) Q (pc + 3) ls st (hd :: (X ++ zWd Γ' G'))) : V p l e R s m args below meth c b Γ0.2.2.2.1 nL cells slots Q pc ls (a :: zr t q :: st) ((q, zO0 t) :: hd :: (X ++ zWd Γ G)) :=
  v_init0 (av := [a]) C hx d w wl rfl hM hB hav hT hTs hR hc hw kk
theorem v_call00 (C : zCv p s m args c Γ0 b cc nL own) (hx : zxt Γ0 Γ) {y : MethodName} {bs : ByteArray} {mx lv idx t q : Nat} {post : zH → Prop} (d : decode cc pc = .ok (.invokevirtual idx, 3)) (w : zWv own idx y t bs mx none 0) (ht : 1 ≤ t ∧ t ≤ 10) (hM : zMet l Γ y bs mx none lv [zr t q] G (zpv post)) (hB : zBn Γ G) (h1 : zk Γ (zr t q)) (hR : lv + 1 ≤ R.frames ∧ 8 + (mx + 11) + 40 * lv ≤ R.locals) (hc : cells ≤ R.cells ∧ slots ≤ R.slots) (hw : ((st.map zc).map fun v => v.category).sum ≤ 8)
    (kk : ∀ (G' : zH), post G' → zBn Γ (zno Γ G') → V p l e R s m args below meth c b Γ0.2.2.2.1 nL cells slots Q (pc + 3) ls st (X ++ zWd Γ (zno Γ G'))) : V p l e R s m args below meth c b Γ0.2.2.2.1 nL cells slots Q pc ls (zr t q :: st) (X ++ zWd Γ G) :=
  v_callV0 (av := []) C hx d w ht rfl hM hB (fun x hx => by rw [List.mem_singleton.mp hx]; exact h1) hR hc hw (fun r G' hp hB' => by obtain ⟨rfl, hp⟩ := hp; exact kk G' hp hB')
theorem v_call01 {a : zV} (C : zCv p s m args c Γ0 b cc nL own) (hx : zxt Γ0 Γ) {y : MethodName} {bs : ByteArray} {mx lv idx t q : Nat} {post : zH → Prop} (d : decode cc pc = .ok (.invokevirtual idx, 3)) (w : zWv own idx y t bs mx none 1) (ht : 1 ≤ t ∧ t ≤ 10) (hM : zMet l Γ y bs mx none lv [zr t q, a] G (zpv post)) (hB : zBn Γ G) (h1 : zk Γ (zr t q)) (h2 : zk Γ a) (hR : lv + 1 ≤ R.frames ∧ 8 + (mx + 11) + 40 * lv ≤ R.locals) (hc : cells ≤ R.cells ∧ slots ≤ R.slots) (hw : ((st.map zc).map fun v => v.category).sum ≤ 8)
    (kk : ∀ (G' : zH), post G' → zBn Γ (zno Γ G') → V p l e R s m args below meth c b Γ0.2.2.2.1 nL cells slots Q (pc + 3) ls st (X ++ zWd Γ (zno Γ G'))) : V p l e R s m args below meth c b Γ0.2.2.2.1 nL cells slots Q pc ls (a :: zr t q :: st) (X ++ zWd Γ G) :=
  v_callV0 (av := [a]) C hx d w ht rfl hM hB (fun x hx => by rcases List.mem_cons.mp hx with h | h; exact h ▸ h1; rw [List.mem_singleton.mp h]; exact h2) hR hc hw (fun r G' hp hB' => by obtain ⟨rfl, hp⟩ := hp; exact kk G' hp hB')
theorem v_callT {T : State → Prop} (C : zCv p s m args c Γ b cc nL own) {y : MethodName} {bs : ByteArray} {mx lv idx t a n : Nat} {ret : Option FieldType} {av : List zV} {post : Option zV → zH → Prop} (d : decode cc pc = .ok (.invokevirtual idx, 3)) (w : zWv own idx y t bs mx ret n) (ht : 1 ≤ t ∧ t ≤ 10) (hn : av.length = n) (hM : zMt l Γ T y bs mx ret lv (zr t a :: av) G post) (hB : zBn Γ G) (hav : ∀ x ∈ zr t a :: av, zk Γ x) (hT : ∀ (U : State) (H : Heap), U.heap = H → s.vm.Alike U.vm → (∀ x : Nat, x < s.heap.size → ¬ zAb b x → H[x]? = s.heap[x]?) → (∀ x, zA Γ x → zAb b x) → T U) (hTb : ∀ (a : Array Value) (U : State) (g : JFrame) (mk : MethodId), T U → T (U.calling g mk a)) (hR : lv + 1 ≤ R.frames ∧ 8 + (mx + 11) + 40 * lv ≤ R.locals) (hc : cells ≤ R.cells ∧ slots ≤ R.slots) (hw : ((st.map zc).map fun v => v.category).sum ≤ 8)
    (kk : ∀ (r : Option zV) (G' : zH), post r G' → (∀ x, r = some x → zk Γ x) → zBn Γ (zno Γ G') → V p l e R s m args below meth c b Γ.2.2.2.1 nL cells slots Q (pc + 3) ls (r.toList ++ st) (X ++ zWd Γ (zno Γ G'))) : V p l e R s m args below meth c b Γ.2.2.2.1 nL cells slots Q pc ls (av.reverse ++ zr t a :: st) (X ++ zWd Γ G) := by
  intro H locs rl hP hD hS hL
  obtain ⟨⟨w1, w2, w3, w4, w5⟩, hcl, hy1, hy2, hnp⟩ := w
  have hts := C.2.2.2.2.1
  obtain ⟨hXb, hNk, hNm⟩ := C.2.2.2.2.2.2.1
  have hAb := zA_of hB.1 hD
  have hra := hav _ List.mem_cons_self
  obtain ⟨hta, -⟩ := zk_ty hra (by omega)
  have hPz : va_P Γ.2.2.2.1 vwCl (zWd Γ G) H := zP_mem hP (fun x hx => List.mem_append_right _ hx)
  obtain ⟨q0, hq0⟩ := va_pl_get (X := []) (f := zE Γ G) ((hB.1.2.1 a).mpr (by omega))
  rw [zE_cls hta ht.2] at hq0
  have hrun := va_runV (H := H) (e := e) (below := below) (meth := meth) (locs := locs) (cells := cells) (slots := slots) (As := av.map zc) (rest := st.map zc) (b := a) (C := zCn t) (g := F0 m pc rl ((av.reverse ++ zr t a :: st).map zc)) (n := n) ⟨C.1, C.2.1, C.2.2.1, C.2.2.2.1, hts⟩ hM
    ⟨callB_of n hts (zTb_good w5) rfl rfl rfl (by rw [hcl]; exact hts _ w4) (hts _ w1) ⟨hy1, hy2, hnp⟩ hR, hts _ w2, hts _ w3⟩
    ⟨fun a U g mk h => ⟨zPc_blind a U g mk h.1, hTb a U g mk h.2⟩, va_recv C.2.2.2.2.2.1 hPz (zcl_at ht.1 ht.2) hq0, fun U hU hW => ⟨⟨rfl, ⟨va_K.moved hW.alike C.2.2.2.2.2.1, hB.1, zXb_f (zXb_keep hXb hW.alike (fun x h1 h2 => by rw [hU]; exact hS.2.1 x h1 h2)) hAb, fun x hx => va_Nw.warmF hW (hNk x hx)⟩, hB.2.1, hav, by rw [hU]; exact hPz⟩, hT U H hU hW.alike (fun x h1 h2 => hS.2.1 x h1 h2) hAb⟩⟩
    rfl (by rw [List.length_map]; exact hn) hL.1 (by simp [zc]) (lv_room hw) d ⟨by simpa using hc.1, by simpa using hc.2⟩
  intro T hT X1
  obtain ⟨v, st₀, t9, T', L, h01, X', hL', e1, e2, ⟨⟨r, G', hv, hz, hp, hG', hP'⟩, hF⟩, go⟩ := hrun T hT X1
  have hv' : v = r.map zc := by cases hv; rfl
  subst hv'
  have hS1 : va_S (zAb b) s.heap t9.heap (locs ++ L) := by
    refine ⟨Nat.le_trans hS.1 (by rw [← h01]; exact hF.1), fun q h1 h2 => ?_, fun l hl => ?_⟩
    · rw [hF.2 q (by rw [h01]; exact Nat.lt_of_lt_of_le h1 hS.1) (fun h => h2 (hAb q h)), h01]
      exact hS.2.1 q h1 h2
    · rcases List.mem_append.mp hl with q | q
      · exact hS.2.2 l q
      · exact hAb _ (hL' l q)
  have hPX : va_P Γ.2.2.2.1 vwCl X t9.heap := by
    intro k q hk
    have hk1 : (X ++ zWd Γ G)[k]? = some q := by rw [List.getElem?_append_left (List.getElem?_eq_some_iff.mp hk).1]; exact hk
    have h1 := hP k q hk1
    refine h1.kept ?_
    rw [hF.2 q.1 (by rw [h01]; exact h1.lt) (fun h => ?_), h01]
    have hm : q.1 ∈ Γ.2.2.2.2.1 := (hB.1.2.1 q.1).mpr h
    have h2 : (q.1, zE Γ G q.1) ∈ zWd Γ G := List.mem_map.mpr ⟨q.1, hm, rfl⟩
    obtain ⟨j, hj⟩ := List.getElem?_of_mem h2
    have hj1 : (X ++ zWd Γ G)[X.length + j]? = some (q.1, zE Γ G q.1) := by rw [List.getElem?_append_right (by omega), Nat.add_sub_cancel_left]; exact hj
    have h3 := hD.1 k (X.length + j) q _ hk1 hj1 rfl
    have h4 := (List.getElem?_eq_some_iff.mp hk).1
    omega
  have hD' : va_D (zAb b) (X ++ zWd Γ (zno Γ G')) := by
    rw [zD_iff] at hD ⊢
    have e8 : (X ++ zWd Γ (zno Γ G')).map (fun q => q.1) = (X ++ zWd Γ G).map (fun q => q.1) := by
      rw [List.map_append, List.map_append]
      unfold zWd va_pl
      rw [List.map_map, List.map_map]
      rfl
    refine ⟨by rw [e8]; exact hD.1, fun q hq => ?_⟩
    have h1 : q.1 ∈ (X ++ zWd Γ (zno Γ G')).map (fun q => q.1) := List.mem_map.mpr ⟨q, hq, rfl⟩
    rw [e8] at h1
    obtain ⟨q2, h2, h3⟩ := List.mem_map.mp h1
    rw [← h3]
    exact hD.2 q2 h2
  have hBn := zBn_no hB.1 hG'
  obtain ⟨t8, a9, b9⟩ := kk r G' hp hz hBn t9.heap (locs ++ L) rl (hPX.app (by rw [zWd_no hB.1]; exact hP')) hD' hS1 hL T' e1 X'
  refine ⟨t8, ?_, b9⟩
  have e9 : List.map zc (r.toList ++ st) = (r.map zc).toList ++ st.map zc := by
    cases r <;> simp
  rw [e9] at a9
  exact go t8 a9

theorem v_learn (C : zCv p s m args c Γ0 b cc nL own) (hx : zxt Γ0 Γ) {bs : ByteArray} {idx w0 a t v n : Nat} {k : Int} {f : Nat → Int32} {y : MethodName} (d : decode cc pc = .ok (.invokevirtual idx, 3)) (w : zWv own idx y 7 bs 7 (some .int) 2) (hM : zMt l Γ (fun U => jStr (zA Γ) a v n f U U.heap) y bs 7 (some .int) 4 [zr 7 w0, zr t a, zi k] G (zpi (fun x G' => zsm [2044] G G' ∧ 0 ≤ x))) (hB : zBn Γ G) (ht0 : Γ.1 w0 = 7) (ha : a = Γ.2.2.2.2.2.1 (t - 200)) (hJ : jStr (zAb b) a v n f s s.heap) (ht : 200 ≤ t) (hR : 5 ≤ R.frames ∧ 200 ≤ R.locals) (hc : cells ≤ R.cells ∧ slots ≤ R.slots) (hw : ((st.map zc).map fun v => v.category).sum ≤ 8) (hk : -2147483648 ≤ k ∧ k ≤ 2147483647)
    (kk : ∀ (x : Int) (G' : zH), 0 ≤ x → (-2147483648 ≤ x ∧ x ≤ 2147483647) → zBn Γ (zno Γ G') → V p l e R s m args below meth c b Γ0.2.2.2.1 nL cells slots Q (pc + 3) ls (zi x :: st) (X ++ zWd Γ (zno Γ G'))) : V p l e R s m args below meth c b Γ0.2.2.2.1 nL cells slots Q pc ls (zi k :: zr t a :: zr 7 w0 :: st) (X ++ zWd Γ G) := by
  rw [← hx.2.1]
  refine v_callT (av := [zr t a, zi k]) (zCv_x C hx) d w (by decide) rfl hM hB ?_ (fun U H hU hvm hq hA => by rw [hU]; exact jStr_nar (jStr_keep hJ hvm hq) hA) ?_ (by show 4 + 1 ≤ R.frames ∧ 8 + (7 + 11) + 40 * 4 ≤ R.locals; omega) hc hw (fun r G' hp hz hB' => ?_)
  · intro x hx
    rcases List.mem_cons.mp hx with h | h
    · rw [h]; exact zk_of ht0 (by decide) (by decide)
    · rcases List.mem_cons.mp h with h | h
      · rw [h]; exact Or.inr ⟨ht, ha⟩
      · rw [List.mem_singleton.mp h]; exact hk
  · intro a U g mk h
    exact jStr_keep (U := U) (U1 := U.calling g mk a) h (Vm.Alike.refl U.vm) (fun _ _ _ => rfl)
  · obtain ⟨x, rfl, hp⟩ := hp
    have h := kk x G' hp.2 (hz _ rfl) hB'
    rw [← hx.2.1] at h
    exact h
end ZY
theorem ol_X9 : Cond.methodLink RX9 1 Lib.objectInit ∈ zTb := (zTb_6 36 rfl rfl)
theorem fl_X9_7 : Cond.fieldLink RX9 7 (zCn 10) (zT 10 0).2.1 (zT 10 0).2.2.1 ∈ zTb := (zTb_6 52 rfl rfl)
theorem fl_X9_13 : Cond.fieldLink RX9 13 (zCn 10) (zT 10 3).2.1 (zT 10 3).2.2.1 ∈ zTb := (zTb_6 55 rfl rfl)
theorem fl_X9_16 : Cond.fieldLink RX9 16 (zCn 10) (zT 10 5).2.1 (zT 10 5).2.2.1 ∈ zTb := (zTb_6 57 rfl rfl)
theorem fl_X9_20 : Cond.fieldLink RX9 20 (zCn 10) (zT 10 22).2.1 (zT 10 22).2.2.1 ∈ zTb := (zTb_6 74 rfl rfl)
theorem ac_boolean : Cond.arrayClass .boolean ∈ zTb := (zTb_7 86 rfl rfl)
theorem fl_X9_23 : Cond.fieldLink RX9 23 (zCn 10) (zT 10 23).2.1 (zT 10 23).2.2.1 ∈ zTb := (zTb_6 75 rfl rfl)
theorem fl_X9_27 : Cond.fieldLink RX9 27 (zCn 10) (zT 10 24).2.1 (zT 10 24).2.2.1 ∈ zTb := (zTb_6 76 rfl rfl)
theorem fl_X9_30 : Cond.fieldLink RX9 30 (zCn 10) (zT 10 25).2.1 (zT 10 25).2.2.1 ∈ zTb := (zTb_6 77 rfl rfl)
theorem fl_X9_33 : Cond.fieldLink RX9 33 (zCn 10) (zT 10 26).2.1 (zT 10 26).2.2.1 ∈ zTb := (zTb_6 78 rfl rfl)
theorem fl_X9_36 : Cond.fieldLink RX9 36 (zCn 10) (zT 10 27).2.1 (zT 10 27).2.2.1 ∈ zTb := (zTb_6 79 rfl rfl)
theorem fl_X9_39 : Cond.fieldLink RX9 39 (zCn 10) (zT 10 28).2.1 (zT 10 28).2.2.1 ∈ zTb := (zTb_6 80 rfl rfl)
theorem fl_X9_42 : Cond.fieldLink RX9 42 (zCn 10) (zT 10 29).2.1 (zT 10 29).2.2.1 ∈ zTb := (zTb_6 81 rfl rfl)
theorem fl_X9_45 : Cond.fieldLink RX9 45 (zCn 10) (zT 10 30).2.1 (zT 10 30).2.2.1 ∈ zTb := (zTb_6 82 rfl rfl)
theorem fl_X9_48 : Cond.fieldLink RX9 48 (zCn 10) (zT 10 31).2.1 (zT 10 31).2.2.1 ∈ zTb := (zTb_6 83 rfl rfl)
theorem fl_X9_51 : Cond.fieldLink RX9 51 (zCn 10) (zT 10 32).2.1 (zT 10 32).2.2.1 ∈ zTb := (zTb_6 84 rfl rfl)
theorem fl_X9_54 : Cond.fieldLink RX9 54 (zCn 10) (zT 10 33).2.1 (zT 10 33).2.2.1 ∈ zTb := (zTb_6 85 rfl rfl)
theorem fl_X9_57 : Cond.fieldLink RX9 57 (zCn 10) (zT 10 34).2.1 (zT 10 34).2.2.1 ∈ zTb := (zTb_6 86 rfl rfl)
theorem fl_X9_60 : Cond.fieldLink RX9 60 (zCn 10) (zT 10 35).2.1 (zT 10 35).2.2.1 ∈ zTb := (zTb_6 87 rfl rfl)
theorem fl_X9_63 : Cond.fieldLink RX9 63 (zCn 10) (zT 10 36).2.1 (zT 10 36).2.2.1 ∈ zTb := (zTb_6 88 rfl rfl)
theorem fl_X9_66 : Cond.fieldLink RX9 66 (zCn 10) (zT 10 37).2.1 (zT 10 37).2.2.1 ∈ zTb := (zTb_6 89 rfl rfl)
theorem fl_X9_69 : Cond.fieldLink RX9 69 (zCn 10) (zT 10 38).2.1 (zT 10 38).2.2.1 ∈ zTb := (zTb_6 90 rfl rfl)
theorem fl_X9_72 : Cond.fieldLink RX9 72 (zCn 10) (zT 10 39).2.1 (zT 10 39).2.2.1 ∈ zTb := (zTb_6 91 rfl rfl)
theorem fl_X9_75 : Cond.fieldLink RX9 75 (zCn 10) (zT 10 40).2.1 (zT 10 40).2.2.1 ∈ zTb := (zTb_6 92 rfl rfl)
theorem fl_X9_78 : Cond.fieldLink RX9 78 (zCn 10) (zT 10 41).2.1 (zT 10 41).2.2.1 ∈ zTb := (zTb_6 93 rfl rfl)
theorem fl_X9_81 : Cond.fieldLink RX9 81 (zCn 10) (zT 10 48).2.1 (zT 10 48).2.2.1 ∈ zTb := (zTb_6 100 rfl rfl)
theorem fl_X9_85 : Cond.fieldLink RX9 85 (zCn 10) (zT 10 49).2.1 (zT 10 49).2.2.1 ∈ zTb := (zTb_6 101 rfl rfl)
theorem fl_X9_88 : Cond.fieldLink RX9 88 (zCn 10) (zT 10 51).2.1 (zT 10 51).2.2.1 ∈ zTb := (zTb_6 103 rfl rfl)
theorem fl_X9_91 : Cond.fieldLink RX9 91 (zCn 10) (zT 10 52).2.1 (zT 10 52).2.2.1 ∈ zTb := (zTb_6 104 rfl rfl)
theorem fl_X9_94 : Cond.fieldLink RX9 94 (zCn 10) (zT 10 53).2.1 (zT 10 53).2.2.1 ∈ zTb := (zTb_6 105 rfl rfl)
theorem fl_X9_97 : Cond.fieldLink RX9 97 (zCn 10) (zT 10 54).2.1 (zT 10 54).2.2.1 ∈ zTb := (zTb_6 106 rfl rfl)
theorem fl_X9_100 : Cond.fieldLink RX9 100 (zCn 10) (zT 10 55).2.1 (zT 10 55).2.2.1 ∈ zTb := (zTb_6 107 rfl rfl)
theorem fl_X9_103 : Cond.fieldLink RX9 103 (zCn 10) (zT 10 56).2.1 (zT 10 56).2.2.1 ∈ zTb := (zTb_6 108 rfl rfl)
theorem fl_X9_106 : Cond.fieldLink RX9 106 (zCn 10) (zT 10 57).2.1 (zT 10 57).2.2.1 ∈ zTb := (zTb_6 109 rfl rfl)
theorem fl_X9_109 : Cond.fieldLink RX9 109 (zCn 10) (zT 10 58).2.1 (zT 10 58).2.2.1 ∈ zTb := (zTb_6 110 rfl rfl)
theorem fl_X9_112 : Cond.fieldLink RX9 112 (zCn 10) (zT 10 59).2.1 (zT 10 59).2.2.1 ∈ zTb := (zTb_6 111 rfl rfl)
theorem fl_X9_115 : Cond.fieldLink RX9 115 (zCn 10) (zT 10 60).2.1 (zT 10 60).2.2.1 ∈ zTb := (zTb_6 112 rfl rfl)
theorem fl_X9_118 : Cond.fieldLink RX9 118 (zCn 10) (zT 10 62).2.1 (zT 10 62).2.2.1 ∈ zTb := (zTb_6 114 rfl rfl)
theorem fl_X9_121 : Cond.fieldLink RX9 121 (zCn 10) (zT 10 63).2.1 (zT 10 63).2.2.1 ∈ zTb := (zTb_6 115 rfl rfl)
theorem fl_X9_124 : Cond.fieldLink RX9 124 (zCn 10) (zT 10 64).2.1 (zT 10 64).2.2.1 ∈ zTb := (zTb_6 116 rfl rfl)
theorem fl_X9_127 : Cond.fieldLink RX9 127 (zCn 10) (zT 10 65).2.1 (zT 10 65).2.2.1 ∈ zTb := (zTb_6 117 rfl rfl)
theorem fl_X9_130 : Cond.fieldLink RX9 130 (zCn 10) (zT 10 66).2.1 (zT 10 66).2.2.1 ∈ zTb := (zTb_6 118 rfl rfl)
theorem fl_X9_133 : Cond.fieldLink RX9 133 (zCn 10) (zT 10 67).2.1 (zT 10 67).2.2.1 ∈ zTb := (zTb_6 119 rfl rfl)
theorem fl_X9_136 : Cond.fieldLink RX9 136 (zCn 10) (zT 10 68).2.1 (zT 10 68).2.2.1 ∈ zTb := (zTb_6 120 rfl rfl)
theorem fl_X9_139 : Cond.fieldLink RX9 139 (zCn 10) (zT 10 69).2.1 (zT 10 69).2.2.1 ∈ zTb := (zTb_6 121 rfl rfl)
theorem fl_X9_142 : Cond.fieldLink RX9 142 (zCn 10) (zT 10 70).2.1 (zT 10 70).2.2.1 ∈ zTb := (zTb_6 122 rfl rfl)
theorem fl_X9_145 : Cond.fieldLink RX9 145 (zCn 10) (zT 10 71).2.1 (zT 10 71).2.2.1 ∈ zTb := (zTb_6 123 rfl rfl)
theorem fl_X9_148 : Cond.fieldLink RX9 148 (zCn 10) (zT 10 74).2.1 (zT 10 74).2.2.1 ∈ zTb := (zTb_6 126 rfl rfl)
theorem fl_X9_151 : Cond.fieldLink RX9 151 (zCn 10) (zT 10 76).2.1 (zT 10 76).2.2.1 ∈ zTb := (zTb_6 128 rfl rfl)
theorem fl_X9_154 : Cond.fieldLink RX9 154 (zCn 10) (zT 10 77).2.1 (zT 10 77).2.2.1 ∈ zTb := (zTb_6 129 rfl rfl)
theorem fl_X9_157 : Cond.fieldLink RX9 157 (zCn 10) (zT 10 80).2.1 (zT 10 80).2.2.1 ∈ zTb := (zTb_6 132 rfl rfl)
theorem fl_X9_160 : Cond.fieldLink RX9 160 (zCn 10) (zT 10 81).2.1 (zT 10 81).2.2.1 ∈ zTb := (zTb_6 133 rfl rfl)
theorem fl_X9_163 : Cond.fieldLink RX9 163 (zCn 10) (zT 10 85).2.1 (zT 10 85).2.2.1 ∈ zTb := (zTb_6 137 rfl rfl)
theorem fl_X9_166 : Cond.fieldLink RX9 166 (zCn 10) (zT 10 89).2.1 (zT 10 89).2.2.1 ∈ zTb := (zTb_6 141 rfl rfl)
theorem fl_X9_169 : Cond.fieldLink RX9 169 (zCn 10) (zT 10 90).2.1 (zT 10 90).2.2.1 ∈ zTb := (zTb_6 142 rfl rfl)
