theorem LI_z {Γ : zΓ} {x mm : Nat} {G : zH} (tx : Γ.1 x = 9) (tm : Γ.1 mm = 10) (h : LI Γ x mm G) (hB : zBn Γ (zno Γ G)) : LI Γ x mm (zno Γ G) := by
  obtain ⟨h1, h2, p, h3, h4, h5⟩ := h
  exact ⟨hB, h2, p, SC_t h1.1 (told_6 h1.2.1 tx) tx (eqT_no (by decide)) h3, SR_t h1.1 tm (eqT_no (by decide)) h4, h5⟩
theorem LKT_in (A : aS) (a b : Int) : 0 ≤ LKT A a b ∧ LKT A a b ≤ 2 := by
  unfold LKT
  (repeat' split) <;> omega
theorem LKO_in {A W : aS} {a b r : Int} {f : Nat → Int64} (h : LKO A W a b r f) : 0 ≤ r ∧ r ≤ 2 := by rw [h.1]; exact LKT_in A a b
theorem LKV_in {A W : aS} {a b : Int} (hT : TA A) (hW : WI A W) (h : LKT A a b = 0) : -2147483648 ≤ LKV A W a b ∧ LKV A W a b ≤ 2147483647 := by
  have ha : 0 ≤ a ∧ a < A 4 1 := Decidable.byContradiction (fun z => by rw [LKT_1 z] at h; exact absurd h (by decide))
  have h0 := hT.1
  have h00 := hW.1
  have h7 := hT.2.2.1 a.toNat (by omega)
  have h5 := hW.2.2.2.2.1 a.toNat (by omega)
  have hp : 0 ≤ wPr W a ∧ wPr W a ≤ 99 * 4 := sM_in 4 (fun i hi => by have := hW.2.2.1 ((a * 4).toNat + i) (by omega); omega)
  have g0 := hW.2.2.1 (a.toNat * 4) (by omega)
  have g1 := hW.2.2.1 (a.toNat * 4 + 1) (by omega)
  have g2 := hW.2.2.1 (a.toNat * 4 + 2) (by omega)
  have g3 := hW.2.2.1 (a.toNat * 4 + 3) (by omega)
  unfold LKV
  (repeat' split) <;> omega
theorem zi_rg6d {Γ : zΓ} {v : Int} (h : -2147483648 ≤ v ∧ v ≤ 2147483647) : zk Γ (zi v) := h
section ZLL
variable {p : Program} {l : Launch} {e : Env} {R : Room} {s : State} {m : MethodId} {args : Array Value} {below : List Frame} {meth : Method} {c : Code} {Γ : zΓ} {b : Nat} {cc : ByteArray} {nL : Nat} {own : String} {cells slots : Nat} {Q : State → Prop} {pc : Nat} {ls : List (Option zV)} {st : List zV} {G : zH} {ws X : va_W} {D : va_G}
theorem v_wk6d {ls' : List (Option zV)} (kk : V p l e R s m args below meth c b D nL cells slots Q pc ls' st ws) (h : zwk ls' ls) : V p l e R s m args below meth c b D nL cells slots Q pc ls st ws :=
  fun H locs rl hP hD hS hL => kk H locs rl hP hD hS ⟨hL.1, hL.2.1, fun i v hv => hL.2.2 i v (h i v hv)⟩
theorem v_arg6d (C : zCv p s m args c Γ b cc nL own) {scr : Nat} {i j : Int} (hsc : scr = Γ.2.2.2.2.2.1 2) (hi : 0 ≤ i ∧ i + 6 ≤ (Γ.2.2.2.2.2.2.1 2 : Nat)) (hj : 0 ≤ j ∧ j < 6) (d1 : decode cc pc = .ok (.aload_n 0, 1)) (d2 : decode cc (pc + 1) = .ok (.iload 4, 2)) (d3 : decode cc (pc + 1 + 2) = .ok (.iconst j, 1)) (d4 : decode cc (pc + 1 + 2 + 1) = .ok (.iadd, 1)) (d5 : decode cc (pc + 1 + 2 + 1 + 1) = .ok (.iaload, 1)) (h0 : ls[0]? = some (some (zr 202 scr))) (h4 : ls[4]? = some (some (zi i)))
    (kk : ∀ v : Int, v = Γ.2.2.2.2.2.2.2 2 (i + j).toNat → (-2147483648 ≤ v ∧ v ≤ 2147483647) → V p l e R s m args below meth c b D nL cells slots Q (pc + 6) ls (zi v :: st) ws) : V p l e R s m args below meth c b D nL cells slots Q pc ls st ws :=
  v_aload_n (k := 0) C d1 h0 (v_iload6d C d2 h4 (v_iconst C d3 (v_iadd6d C d4 (v_xald6d C hsc (by omega) d5 kk))))
theorem v_ci06d (C : zCv p s m args c Γ b cc nL own) {y : MethodName} {bs : ByteArray} {mx lv idx t q : Nat} {ret : Option FieldType} {post : Int → zH → Prop} (d : decode cc pc = .ok (.invokevirtual idx, 3)) (w : zWv own idx y t bs mx ret 0) (ht : 1 ≤ t ∧ t ≤ 10) (hM : zMet l Γ y bs mx ret lv (zr t q :: []) G (zpi post)) (hB : zBn Γ G) (h0 : zk Γ (zr t q))  (hR : lv + 1 ≤ R.frames ∧ 8 + (mx + 11) + 40 * lv ≤ R.locals) (hc : cells ≤ R.cells ∧ slots ≤ R.slots) (hw : ((st.map zc).map fun v => v.category).sum ≤ 8)
    (kk : ∀ (r : Int) (G' : zH), post r G' → zBn Γ (zno Γ G') → V p l e R s m args below meth c b Γ.2.2.2.1 nL cells slots Q (pc + 3) ls (zi r :: st) (X ++ zWd Γ (zno Γ G'))) : V p l e R s m args below meth c b Γ.2.2.2.1 nL cells slots Q pc ls (zr t q :: st) (X ++ zWd Γ G) := by
  refine v_callV (av := []) C d w ht rfl hM hB (fun x hx => by
    rw [List.mem_singleton.mp hx]
    exact h0) hR hc hw (fun r G' hp hB' => ?_)
  obtain ⟨r9, rfl, hp9⟩ := hp
  exact kk r9 G' hp9 hB'
theorem v_ci16d {x1 : Int} (C : zCv p s m args c Γ b cc nL own) {y : MethodName} {bs : ByteArray} {mx lv idx t q : Nat} {ret : Option FieldType} {post : Int → zH → Prop} (d : decode cc pc = .ok (.invokevirtual idx, 3)) (w : zWv own idx y t bs mx ret 1) (ht : 1 ≤ t ∧ t ≤ 10) (hM : zMet l Γ y bs mx ret lv (zr t q :: [zi x1]) G (zpi post)) (hB : zBn Γ G) (h0 : zk Γ (zr t q)) (h1 : -2147483648 ≤ x1 ∧ x1 ≤ 2147483647) (hR : lv + 1 ≤ R.frames ∧ 8 + (mx + 11) + 40 * lv ≤ R.locals) (hc : cells ≤ R.cells ∧ slots ≤ R.slots) (hw : ((st.map zc).map fun v => v.category).sum ≤ 8)
    (kk : ∀ (r : Int) (G' : zH), post r G' → zBn Γ (zno Γ G') → V p l e R s m args below meth c b Γ.2.2.2.1 nL cells slots Q (pc + 3) ls (zi r :: st) (X ++ zWd Γ (zno Γ G'))) : V p l e R s m args below meth c b Γ.2.2.2.1 nL cells slots Q pc ls (zi x1 :: zr t q :: st) (X ++ zWd Γ G) := by
  refine v_callV (av := [zi x1]) C d w ht rfl hM hB (fun x hx => by
    simp only [List.mem_cons, List.not_mem_nil, or_false] at hx
    rcases hx with rfl | rfl
    · exact h0
    · exact h1) hR hc hw (fun r G' hp hB' => ?_)
  obtain ⟨r9, rfl, hp9⟩ := hp
  exact kk r9 G' hp9 hB'
theorem v_ci26d {x1 x2 : Int} (C : zCv p s m args c Γ b cc nL own) {y : MethodName} {bs : ByteArray} {mx lv idx t q : Nat} {ret : Option FieldType} {post : Int → zH → Prop} (d : decode cc pc = .ok (.invokevirtual idx, 3)) (w : zWv own idx y t bs mx ret 2) (ht : 1 ≤ t ∧ t ≤ 10) (hM : zMet l Γ y bs mx ret lv (zr t q :: [zi x1, zi x2]) G (zpi post)) (hB : zBn Γ G) (h0 : zk Γ (zr t q)) (h1 : -2147483648 ≤ x1 ∧ x1 ≤ 2147483647) (h2 : -2147483648 ≤ x2 ∧ x2 ≤ 2147483647) (hR : lv + 1 ≤ R.frames ∧ 8 + (mx + 11) + 40 * lv ≤ R.locals) (hc : cells ≤ R.cells ∧ slots ≤ R.slots) (hw : ((st.map zc).map fun v => v.category).sum ≤ 8)
    (kk : ∀ (r : Int) (G' : zH), post r G' → zBn Γ (zno Γ G') → V p l e R s m args below meth c b Γ.2.2.2.1 nL cells slots Q (pc + 3) ls (zi r :: st) (X ++ zWd Γ (zno Γ G'))) : V p l e R s m args below meth c b Γ.2.2.2.1 nL cells slots Q pc ls (zi x2 :: zi x1 :: zr t q :: st) (X ++ zWd Γ G) := by
  refine v_callV (av := [zi x1, zi x2]) C d w ht rfl hM hB (fun x hx => by
    simp only [List.mem_cons, List.not_mem_nil, or_false] at hx
    rcases hx with rfl | rfl | rfl
    · exact h0
    · exact h1
    · exact h2) hR hc hw (fun r G' hp hB' => ?_)
  obtain ⟨r9, rfl, hp9⟩ := hp
  exact kk r9 G' hp9 hB'
theorem v_ci36d {x1 x2 x3 : Int} (C : zCv p s m args c Γ b cc nL own) {y : MethodName} {bs : ByteArray} {mx lv idx t q : Nat} {ret : Option FieldType} {post : Int → zH → Prop} (d : decode cc pc = .ok (.invokevirtual idx, 3)) (w : zWv own idx y t bs mx ret 3) (ht : 1 ≤ t ∧ t ≤ 10) (hM : zMet l Γ y bs mx ret lv (zr t q :: [zi x1, zi x2, zi x3]) G (zpi post)) (hB : zBn Γ G) (h0 : zk Γ (zr t q)) (h1 : -2147483648 ≤ x1 ∧ x1 ≤ 2147483647) (h2 : -2147483648 ≤ x2 ∧ x2 ≤ 2147483647) (h3 : -2147483648 ≤ x3 ∧ x3 ≤ 2147483647) (hR : lv + 1 ≤ R.frames ∧ 8 + (mx + 11) + 40 * lv ≤ R.locals) (hc : cells ≤ R.cells ∧ slots ≤ R.slots) (hw : ((st.map zc).map fun v => v.category).sum ≤ 8)
    (kk : ∀ (r : Int) (G' : zH), post r G' → zBn Γ (zno Γ G') → V p l e R s m args below meth c b Γ.2.2.2.1 nL cells slots Q (pc + 3) ls (zi r :: st) (X ++ zWd Γ (zno Γ G'))) : V p l e R s m args below meth c b Γ.2.2.2.1 nL cells slots Q pc ls (zi x3 :: zi x2 :: zi x1 :: zr t q :: st) (X ++ zWd Γ G) := by
  refine v_callV (av := [zi x1, zi x2, zi x3]) C d w ht rfl hM hB (fun x hx => by
    simp only [List.mem_cons, List.not_mem_nil, or_false] at hx
    rcases hx with rfl | rfl | rfl | rfl
    · exact h0
    · exact h1
    · exact h2
    · exact h3) hR hc hw (fun r G' hp hB' => ?_)
  obtain ⟨r9, rfl, hp9⟩ := hp
  exact kk r9 G' hp9 hB'
theorem v_ci46d {x1 x2 x3 x4 : Int} (C : zCv p s m args c Γ b cc nL own) {y : MethodName} {bs : ByteArray} {mx lv idx t q : Nat} {ret : Option FieldType} {post : Int → zH → Prop} (d : decode cc pc = .ok (.invokevirtual idx, 3)) (w : zWv own idx y t bs mx ret 4) (ht : 1 ≤ t ∧ t ≤ 10) (hM : zMet l Γ y bs mx ret lv (zr t q :: [zi x1, zi x2, zi x3, zi x4]) G (zpi post)) (hB : zBn Γ G) (h0 : zk Γ (zr t q)) (h1 : -2147483648 ≤ x1 ∧ x1 ≤ 2147483647) (h2 : -2147483648 ≤ x2 ∧ x2 ≤ 2147483647) (h3 : -2147483648 ≤ x3 ∧ x3 ≤ 2147483647) (h4 : -2147483648 ≤ x4 ∧ x4 ≤ 2147483647) (hR : lv + 1 ≤ R.frames ∧ 8 + (mx + 11) + 40 * lv ≤ R.locals) (hc : cells ≤ R.cells ∧ slots ≤ R.slots) (hw : ((st.map zc).map fun v => v.category).sum ≤ 8)
    (kk : ∀ (r : Int) (G' : zH), post r G' → zBn Γ (zno Γ G') → V p l e R s m args below meth c b Γ.2.2.2.1 nL cells slots Q (pc + 3) ls (zi r :: st) (X ++ zWd Γ (zno Γ G'))) : V p l e R s m args below meth c b Γ.2.2.2.1 nL cells slots Q pc ls (zi x4 :: zi x3 :: zi x2 :: zi x1 :: zr t q :: st) (X ++ zWd Γ G) := by
  refine v_callV (av := [zi x1, zi x2, zi x3, zi x4]) C d w ht rfl hM hB (fun x hx => by
    simp only [List.mem_cons, List.not_mem_nil, or_false] at hx
    rcases hx with rfl | rfl | rfl | rfl | rfl
    · exact h0
    · exact h1
    · exact h2
    · exact h3
    · exact h4) hR hc hw (fun r G' hp hB' => ?_)
  obtain ⟨r9, rfl, hp9⟩ := hp
  exact kk r9 G' hp9 hB'
theorem v_ci56d {x1 x2 x3 x4 x5 : Int} (C : zCv p s m args c Γ b cc nL own) {y : MethodName} {bs : ByteArray} {mx lv idx t q : Nat} {ret : Option FieldType} {post : Int → zH → Prop} (d : decode cc pc = .ok (.invokevirtual idx, 3)) (w : zWv own idx y t bs mx ret 5) (ht : 1 ≤ t ∧ t ≤ 10) (hM : zMet l Γ y bs mx ret lv (zr t q :: [zi x1, zi x2, zi x3, zi x4, zi x5]) G (zpi post)) (hB : zBn Γ G) (h0 : zk Γ (zr t q)) (h1 : -2147483648 ≤ x1 ∧ x1 ≤ 2147483647) (h2 : -2147483648 ≤ x2 ∧ x2 ≤ 2147483647) (h3 : -2147483648 ≤ x3 ∧ x3 ≤ 2147483647) (h4 : -2147483648 ≤ x4 ∧ x4 ≤ 2147483647) (h5 : -2147483648 ≤ x5 ∧ x5 ≤ 2147483647) (hR : lv + 1 ≤ R.frames ∧ 8 + (mx + 11) + 40 * lv ≤ R.locals) (hc : cells ≤ R.cells ∧ slots ≤ R.slots) (hw : ((st.map zc).map fun v => v.category).sum ≤ 8)
    (kk : ∀ (r : Int) (G' : zH), post r G' → zBn Γ (zno Γ G') → V p l e R s m args below meth c b Γ.2.2.2.1 nL cells slots Q (pc + 3) ls (zi r :: st) (X ++ zWd Γ (zno Γ G'))) : V p l e R s m args below meth c b Γ.2.2.2.1 nL cells slots Q pc ls (zi x5 :: zi x4 :: zi x3 :: zi x2 :: zi x1 :: zr t q :: st) (X ++ zWd Γ G) := by
  refine v_callV (av := [zi x1, zi x2, zi x3, zi x4, zi x5]) C d w ht rfl hM hB (fun x hx => by
    simp only [List.mem_cons, List.not_mem_nil, or_false] at hx
    rcases hx with rfl | rfl | rfl | rfl | rfl | rfl
    · exact h0
    · exact h1
    · exact h2
    · exact h3
    · exact h4
    · exact h5) hR hc hw (fun r G' hp hB' => ?_)
  obtain ⟨r9, rfl, hp9⟩ := hp
  exact kk r9 G' hp9 hB'
theorem v_cj06d (C : zCv p s m args c Γ b cc nL own) {y : MethodName} {bs : ByteArray} {mx lv idx t q : Nat} {ret : Option FieldType} {post : Int → zH → Prop} (d : decode cc pc = .ok (.invokevirtual idx, 3)) (w : zWv own idx y t bs mx ret 0) (ht : 1 ≤ t ∧ t ≤ 10) (hM : zMet l Γ y bs mx ret lv (zr t q :: []) G (zpj post)) (hB : zBn Γ G) (h0 : zk Γ (zr t q))  (hR : lv + 1 ≤ R.frames ∧ 8 + (mx + 11) + 40 * lv ≤ R.locals) (hc : cells ≤ R.cells ∧ slots ≤ R.slots) (hw : ((st.map zc).map fun v => v.category).sum ≤ 8)
    (kk : ∀ (r : Int) (G' : zH), post r G' → zBn Γ (zno Γ G') → V p l e R s m args below meth c b Γ.2.2.2.1 nL cells slots Q (pc + 3) ls (zj r :: st) (X ++ zWd Γ (zno Γ G'))) : V p l e R s m args below meth c b Γ.2.2.2.1 nL cells slots Q pc ls (zr t q :: st) (X ++ zWd Γ G) := by
  refine v_callV (av := []) C d w ht rfl hM hB (fun x hx => by
    rw [List.mem_singleton.mp hx]
    exact h0) hR hc hw (fun r G' hp hB' => ?_)
  obtain ⟨r9, rfl, hp9⟩ := hp
  exact kk r9 G' hp9 hB'
theorem v_cj16d {x1 : Int} (C : zCv p s m args c Γ b cc nL own) {y : MethodName} {bs : ByteArray} {mx lv idx t q : Nat} {ret : Option FieldType} {post : Int → zH → Prop} (d : decode cc pc = .ok (.invokevirtual idx, 3)) (w : zWv own idx y t bs mx ret 1) (ht : 1 ≤ t ∧ t ≤ 10) (hM : zMet l Γ y bs mx ret lv (zr t q :: [zi x1]) G (zpj post)) (hB : zBn Γ G) (h0 : zk Γ (zr t q)) (h1 : -2147483648 ≤ x1 ∧ x1 ≤ 2147483647) (hR : lv + 1 ≤ R.frames ∧ 8 + (mx + 11) + 40 * lv ≤ R.locals) (hc : cells ≤ R.cells ∧ slots ≤ R.slots) (hw : ((st.map zc).map fun v => v.category).sum ≤ 8)
    (kk : ∀ (r : Int) (G' : zH), post r G' → zBn Γ (zno Γ G') → V p l e R s m args below meth c b Γ.2.2.2.1 nL cells slots Q (pc + 3) ls (zj r :: st) (X ++ zWd Γ (zno Γ G'))) : V p l e R s m args below meth c b Γ.2.2.2.1 nL cells slots Q pc ls (zi x1 :: zr t q :: st) (X ++ zWd Γ G) := by
  refine v_callV (av := [zi x1]) C d w ht rfl hM hB (fun x hx => by
    simp only [List.mem_cons, List.not_mem_nil, or_false] at hx
    rcases hx with rfl | rfl
    · exact h0
    · exact h1) hR hc hw (fun r G' hp hB' => ?_)
  obtain ⟨r9, rfl, hp9⟩ := hp
  exact kk r9 G' hp9 hB'
theorem v_cj26d {x1 x2 : Int} (C : zCv p s m args c Γ b cc nL own) {y : MethodName} {bs : ByteArray} {mx lv idx t q : Nat} {ret : Option FieldType} {post : Int → zH → Prop} (d : decode cc pc = .ok (.invokevirtual idx, 3)) (w : zWv own idx y t bs mx ret 2) (ht : 1 ≤ t ∧ t ≤ 10) (hM : zMet l Γ y bs mx ret lv (zr t q :: [zi x1, zi x2]) G (zpj post)) (hB : zBn Γ G) (h0 : zk Γ (zr t q)) (h1 : -2147483648 ≤ x1 ∧ x1 ≤ 2147483647) (h2 : -2147483648 ≤ x2 ∧ x2 ≤ 2147483647) (hR : lv + 1 ≤ R.frames ∧ 8 + (mx + 11) + 40 * lv ≤ R.locals) (hc : cells ≤ R.cells ∧ slots ≤ R.slots) (hw : ((st.map zc).map fun v => v.category).sum ≤ 8)
    (kk : ∀ (r : Int) (G' : zH), post r G' → zBn Γ (zno Γ G') → V p l e R s m args below meth c b Γ.2.2.2.1 nL cells slots Q (pc + 3) ls (zj r :: st) (X ++ zWd Γ (zno Γ G'))) : V p l e R s m args below meth c b Γ.2.2.2.1 nL cells slots Q pc ls (zi x2 :: zi x1 :: zr t q :: st) (X ++ zWd Γ G) := by
  refine v_callV (av := [zi x1, zi x2]) C d w ht rfl hM hB (fun x hx => by
    simp only [List.mem_cons, List.not_mem_nil, or_false] at hx
    rcases hx with rfl | rfl | rfl
    · exact h0
    · exact h1
    · exact h2) hR hc hw (fun r G' hp hB' => ?_)
  obtain ⟨r9, rfl, hp9⟩ := hp
  exact kk r9 G' hp9 hB'
theorem v_cj36d {x1 x2 x3 : Int} (C : zCv p s m args c Γ b cc nL own) {y : MethodName} {bs : ByteArray} {mx lv idx t q : Nat} {ret : Option FieldType} {post : Int → zH → Prop} (d : decode cc pc = .ok (.invokevirtual idx, 3)) (w : zWv own idx y t bs mx ret 3) (ht : 1 ≤ t ∧ t ≤ 10) (hM : zMet l Γ y bs mx ret lv (zr t q :: [zi x1, zi x2, zi x3]) G (zpj post)) (hB : zBn Γ G) (h0 : zk Γ (zr t q)) (h1 : -2147483648 ≤ x1 ∧ x1 ≤ 2147483647) (h2 : -2147483648 ≤ x2 ∧ x2 ≤ 2147483647) (h3 : -2147483648 ≤ x3 ∧ x3 ≤ 2147483647) (hR : lv + 1 ≤ R.frames ∧ 8 + (mx + 11) + 40 * lv ≤ R.locals) (hc : cells ≤ R.cells ∧ slots ≤ R.slots) (hw : ((st.map zc).map fun v => v.category).sum ≤ 8)
    (kk : ∀ (r : Int) (G' : zH), post r G' → zBn Γ (zno Γ G') → V p l e R s m args below meth c b Γ.2.2.2.1 nL cells slots Q (pc + 3) ls (zj r :: st) (X ++ zWd Γ (zno Γ G'))) : V p l e R s m args below meth c b Γ.2.2.2.1 nL cells slots Q pc ls (zi x3 :: zi x2 :: zi x1 :: zr t q :: st) (X ++ zWd Γ G) := by
  refine v_callV (av := [zi x1, zi x2, zi x3]) C d w ht rfl hM hB (fun x hx => by
    simp only [List.mem_cons, List.not_mem_nil, or_false] at hx
    rcases hx with rfl | rfl | rfl | rfl
    · exact h0
    · exact h1
    · exact h2
    · exact h3) hR hc hw (fun r G' hp hB' => ?_)
  obtain ⟨r9, rfl, hp9⟩ := hp
  exact kk r9 G' hp9 hB'
theorem v_cj46d {x1 x2 x3 x4 : Int} (C : zCv p s m args c Γ b cc nL own) {y : MethodName} {bs : ByteArray} {mx lv idx t q : Nat} {ret : Option FieldType} {post : Int → zH → Prop} (d : decode cc pc = .ok (.invokevirtual idx, 3)) (w : zWv own idx y t bs mx ret 4) (ht : 1 ≤ t ∧ t ≤ 10) (hM : zMet l Γ y bs mx ret lv (zr t q :: [zi x1, zi x2, zi x3, zi x4]) G (zpj post)) (hB : zBn Γ G) (h0 : zk Γ (zr t q)) (h1 : -2147483648 ≤ x1 ∧ x1 ≤ 2147483647) (h2 : -2147483648 ≤ x2 ∧ x2 ≤ 2147483647) (h3 : -2147483648 ≤ x3 ∧ x3 ≤ 2147483647) (h4 : -2147483648 ≤ x4 ∧ x4 ≤ 2147483647) (hR : lv + 1 ≤ R.frames ∧ 8 + (mx + 11) + 40 * lv ≤ R.locals) (hc : cells ≤ R.cells ∧ slots ≤ R.slots) (hw : ((st.map zc).map fun v => v.category).sum ≤ 8)
    (kk : ∀ (r : Int) (G' : zH), post r G' → zBn Γ (zno Γ G') → V p l e R s m args below meth c b Γ.2.2.2.1 nL cells slots Q (pc + 3) ls (zj r :: st) (X ++ zWd Γ (zno Γ G'))) : V p l e R s m args below meth c b Γ.2.2.2.1 nL cells slots Q pc ls (zi x4 :: zi x3 :: zi x2 :: zi x1 :: zr t q :: st) (X ++ zWd Γ G) := by
  refine v_callV (av := [zi x1, zi x2, zi x3, zi x4]) C d w ht rfl hM hB (fun x hx => by
    simp only [List.mem_cons, List.not_mem_nil, or_false] at hx
    rcases hx with rfl | rfl | rfl | rfl | rfl
    · exact h0
    · exact h1
    · exact h2
    · exact h3
    · exact h4) hR hc hw (fun r G' hp hB' => ?_)
  obtain ⟨r9, rfl, hp9⟩ := hp
  exact kk r9 G' hp9 hB'
theorem v_cj56d {x1 x2 x3 x4 x5 : Int} (C : zCv p s m args c Γ b cc nL own) {y : MethodName} {bs : ByteArray} {mx lv idx t q : Nat} {ret : Option FieldType} {post : Int → zH → Prop} (d : decode cc pc = .ok (.invokevirtual idx, 3)) (w : zWv own idx y t bs mx ret 5) (ht : 1 ≤ t ∧ t ≤ 10) (hM : zMet l Γ y bs mx ret lv (zr t q :: [zi x1, zi x2, zi x3, zi x4, zi x5]) G (zpj post)) (hB : zBn Γ G) (h0 : zk Γ (zr t q)) (h1 : -2147483648 ≤ x1 ∧ x1 ≤ 2147483647) (h2 : -2147483648 ≤ x2 ∧ x2 ≤ 2147483647) (h3 : -2147483648 ≤ x3 ∧ x3 ≤ 2147483647) (h4 : -2147483648 ≤ x4 ∧ x4 ≤ 2147483647) (h5 : -2147483648 ≤ x5 ∧ x5 ≤ 2147483647) (hR : lv + 1 ≤ R.frames ∧ 8 + (mx + 11) + 40 * lv ≤ R.locals) (hc : cells ≤ R.cells ∧ slots ≤ R.slots) (hw : ((st.map zc).map fun v => v.category).sum ≤ 8)
    (kk : ∀ (r : Int) (G' : zH), post r G' → zBn Γ (zno Γ G') → V p l e R s m args below meth c b Γ.2.2.2.1 nL cells slots Q (pc + 3) ls (zj r :: st) (X ++ zWd Γ (zno Γ G'))) : V p l e R s m args below meth c b Γ.2.2.2.1 nL cells slots Q pc ls (zi x5 :: zi x4 :: zi x3 :: zi x2 :: zi x1 :: zr t q :: st) (X ++ zWd Γ G) := by
  refine v_callV (av := [zi x1, zi x2, zi x3, zi x4, zi x5]) C d w ht rfl hM hB (fun x hx => by
    simp only [List.mem_cons, List.not_mem_nil, or_false] at hx
    rcases hx with rfl | rfl | rfl | rfl | rfl | rfl
    · exact h0
    · exact h1
    · exact h2
    · exact h3
    · exact h4
    · exact h5) hR hc hw (fun r G' hp hB' => ?_)
  obtain ⟨r9, rfl, hp9⟩ := hp
  exact kk r9 G' hp9 hB'
theorem v_lk6d {A W0 : aS} {tt : Nat} (C : zCv p s m args c Γ b cc nL RL) (hst : l.stackTraces = false) (hB : zBn Γ G) {w o idx : Nat} {a1 b1 : Int} {f : Nat → Int64} (hw : Γ.1 w = 9) (ha1 : -2147483648 ≤ a1 ∧ a1 ≤ 2147483647) (hb1 : -2147483648 ≤ b1 ∧ b1 ≤ 2147483647) (hTw : zTw (zAb b) s) (d : decode cc pc = .ok (.invokestatic idx, 3)) (w1 : Cond.methodLink RL idx yL_look ∈ zTb) (w2 : Cond.static yL_look ∈ zTb) (w3 : Cond.initialized RL ∈ zTb) (hR : 10 ≤ R.frames ∧ 400 ≤ R.locals) (hc : cells + 1 ≤ R.cells ∧ slots + 6 ≤ R.slots) (hw2 : ((st.map zc).map fun v => v.category).sum ≤ 8) (hZ : QQ Γ (Γ.2.1 w 4) tt A W0 G) (hI9 : G.2.2 903 w = tt) (hW9 : WI A W0) (hT9 : TA A)
    (kk : ∀ (r : Int) (f' : Nat → Int64) (G' : zH), zBn Γ G' → ((∀ q a i, Γ.1 a ≠ 0 → G'.1 q a i = G.1 q a i) ∧ (∀ q a i, Γ.1 a ≠ 0 → G'.2.1 q a i = G.2.1 q a i) ∧ G'.2.2 = G.2.2) → LKO A W0 a1 b1 r f' → V p l e R s m args below meth c b Γ.2.2.2.1 nL (cells + 1) (slots + 6) Q (pc + 3) ls (zi r :: st) ([(o, zOut6d Γ f')] ++ zWd Γ G')) : V p l e R s m args below meth c b Γ.2.2.2.1 nL cells slots Q pc ls (zr 300 o :: zi b1 :: zi a1 :: zr 9 w :: st) ([(o, zOut6d Γ f)] ++ zWd Γ G) := by
  intro H locs rl hP hD hS hL
  have hts := C.2.2.2.2.1
  obtain ⟨hXb, hNk, hNm⟩ := C.2.2.2.2.2.2.1
  have good : ∀ w ∈ zTb, w ∈ zTb ∧ ((w.onTables && w.keeps) = true ∨ ∃ ty, w = .arrayClass ty) := fun w hz => ⟨hz, good_of_word (List.mem_filter.mp hz).2⟩
  have hG : GoodIn zTb (va_wsS RL idx yL_look (Cond.codeWith yL_look cL_look 5 (some .int) lkH6d :: zTb)) := by
    intro w hw
    unfold va_wsS at hw
    rcases List.mem_append.mp hw with h | h
    · rcases List.mem_cons.mp h with h | h
      · rw [h]; exact good _ w1
      · rcases List.mem_cons.mp h with h | h
        · rw [h]; exact good _ w2
        · rw [List.mem_singleton.mp h]; exact good _ w3
    · rcases List.mem_cons.mp h with h | h
      · rw [h]; exact good _ lk_w6d
      · exact good _ h
  have hrun := vx_runSW (H := H) (e := e) (below := below) (meth := meth) (locs := locs) (cells := cells) (slots := slots) (As := [.ref w, .int (Int32.ofInt a1), .int (Int32.ofInt b1), .ref o]) (rest := st.map zc) (g := F0 m pc rl ((zr 300 o :: zi b1 :: zi a1 :: zr 9 w :: st).map zc)) (n := 4) ⟨C.1, C.2.1, C.2.2.1, C.2.2.2.1, hts⟩ (c_L_look6d (l := l) (b := b) (Γ := Γ) (G := G) (w := w) (o := o) (f := f) C.2.2.2.2.2.2.2.2 hst hB hZ hI9 hW9 hT9 hw ha1 hb1)
    (vx_cwSW 4 hts hG rfl rfl rfl (by decide +kernel) (by show 9 + 1 ≤ R.frames ∧ 8 + (5 + 11) + 40 * 9 ≤ R.locals; omega))
    ⟨zPl_blind6d, fun U hU hW => ⟨rfl, va_K.moved hW.alike C.2.2.2.2.2.1, ⟨zXb_keep hXb hW.alike (fun x h1 h2 => by rw [hU]; exact hS.2.1 x h1 h2), fun x hx => va_Nw.warmF hW (hNk x hx), fun x hx => va_Nw.warmM hW (hNm x hx)⟩, by rw [hU]; exact Nat.le_trans C.2.2.2.2.2.2.2.1 hS.1, by rw [hU]; exact hP, hD, zTw_keep hTw hW (fun x h1 h2 => by rw [hU]; exact hS.2.1 x h1 h2)⟩⟩
    rfl rfl hL.1 rfl (lv_room hw2) d hc
  intro T hT X1
  obtain ⟨v, st₀, t9, T', L, h01, X', hL', e1, e2, ⟨⟨r, f', G', hv, hB', hsame, hLK, hP', hD'⟩, hF⟩, go⟩ := hrun T hT X1
  have hv' : v = some (.int r) := by cases hv; rfl
  subst hv'
  have hS1 : va_S (zAb b) s.heap t9.heap (locs ++ L) := by
    refine ⟨Nat.le_trans hS.1 (by rw [← h01]; exact hF.1), fun q h1 h2 => ?_, fun l hl => ?_⟩
    · rw [hF.2 q (by rw [h01]; exact Nat.lt_of_lt_of_le h1 hS.1) h2, h01]
      exact hS.2.1 q h1 h2
    · rcases List.mem_append.mp hl with q | q
      · exact hS.2.2 l q
      · exact hL' l q
  obtain ⟨t8, a9, b9⟩ := kk r.toInt f' G' hB' hsame hLK t9.heap (locs ++ L) rl hP' hD' hS1 hL T' e1 X'
  refine ⟨t8, go t8 ?_, b9⟩
  rw [List.map_cons, show zc (zi r.toInt) = .int r from congrArg Value.int (Int32.ofInt_toInt r)] at a9
  exact a9
theorem v_newo6d (C : zCv p s m args c Γ b cc nL own) {x : Int} (d : decode cc pc = .ok (.newarray .long, 2)) (w : Cond.arrayClass .long ∈ zTb) (hx : x = 1) (hc : cells + 1 ≤ R.cells ∧ slots + 1 ≤ R.slots)
    (kk : ∀ (q : Nat), V p l e R s m args below meth c b Γ.2.2.2.1 nL (cells + 1) (slots + 1) Q (pc + 2) ls (zr 300 q :: st) ((q, zOut6d Γ (fun _ => 0)) :: ws)) : V p l e R s m args below meth c b Γ.2.2.2.1 nL cells slots Q pc ls (zi x :: st) ws := by
  intro H locs rl hP hD hS hL
  subst hx
  have hK := C.2.2.2.2.2.1
  refine va_newa (atype := .long) (ty := .long) C.1 C.2.1 (C.2.2.2.2.1 _ w) rfl hK hP hD hS (fun q h => Nat.le_trans C.2.2.2.2.2.2.2.1 h) (N' := 1) (a0 := (1, .inr (.inl (fun _ => 0)))) (fun cA => rfl) (fun h => ?_) (by rw [zi_nat (by omega) (by omega)]; rfl) (by decide) hc.1 hc.2 d (fun q cA H1 hK1 hP1 hD1 hS1 => ?_)
  · rw [zi_0, zi_lt (by omega) (by omega)] at h
    omega
  · have e1 : cA = Γ.2.2.1 1 := Option.some.inj ((hK1.2 3 (cA, .long) rfl).2.symm.trans (hK.2 1 (Γ.2.2.1 1, .long) rfl).2)
    subst e1
    have hp := List.perm_append_singleton (q, zOut6d Γ (fun _ => 0)) ws
    exact kk q H1 locs rl (zP_mem hP1 (fun x hx => hp.mem_iff.mpr hx)) (zD_perm hD1 hp.symm) hS1 hL
end ZLL
