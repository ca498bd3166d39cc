/-- the works of a new object, in numbers -/
theorem WZ_V {Γ : zΓ} {w t : Nat} {G : zH} {A : aS} (hA : sZ A) (hT : TV Γ t A G) (h : WZ Γ w t G) : ∃ W : aS, QV Γ w t A W G ∧ wBeg cA W ∧ wBeg A W ∧ ∀ j : Nat, W 17 j = 0 := by
  obtain ⟨z1, z2, c0, c1, c2, c3, c4, c5, c6, c7⟩ := h
  obtain ⟨a4, a8, a16, a20, a21, a12, a13, a14, a15⟩ := hA
  have t8 : ∀ j, G.1 2040 (Γ.2.1 t 5) j = 0 := fun j => (hT 8 j (by decide) (by decide)).trans (a8 j)
  have t12 : G.1 609 t 0 = 100 := (hT 12 0 (by decide) (by decide)).trans a12
  have t14 : G.1 611 t 0 = 0 := (hT 14 0 (by decide) (by decide)).trans a14
  have t15 : G.1 612 t 0 = 0 := (hT 15 0 (by decide) (by decide)).trans a15
  refine ⟨fun f j => G.1 (wreg f) (wad Γ w f) j, ⟨fun _ _ _ => rfl, hT, z1⟩, ?_, ?_, z2⟩
  · exact ⟨c0, fun j hj => ⟨(c1 j hj).1.trans (t8 j), (c1 j hj).2.trans (t8 j)⟩, c2, c3, c4.trans t12, c5.trans t14, c6.trans t15, c7⟩
  · exact ⟨c0, fun j hj => ⟨((c1 j hj).1.trans (t8 j)).trans (a8 j).symm, ((c1 j hj).2.trans (t8 j)).trans (a8 j).symm⟩, c2, c3, (c4.trans t12).trans a12.symm, (c5.trans t14).trans a14.symm, (c6.trans t15).trans a15.symm, c7⟩
theorem TB_z {A : aS} (hA : sZ A) : TB A ∧ TA A := by
  obtain ⟨a4, a8, a16, a20, a21, a12, a13, a14, a15⟩ := hA
  have h4 : A 4 0 = 0 ∧ A 4 1 = 0 ∧ A 4 2 = 0 ∧ A 4 3 = 0 := ⟨a4 0, a4 1, a4 2, a4 3⟩
  have hf : WFA A := ⟨⟨by rw [a20]; exact Int.le_refl _, by rw [a20, a21], by rw [a21]; decide⟩, fun k _ h => by rw [(a16 k).1, (a16 k).2] at h; exact absurd h (by decide)⟩
  have hn : 0 ≤ A 12 0 ∧ A 12 0 ≤ 9999 ∧ 1 ≤ A 13 0 ∧ A 13 0 ≤ 99 ∧ 0 ≤ A 14 0 ∧ A 14 0 ≤ 999 ∧ 0 ≤ A 15 0 ∧ A 15 0 ≤ 99999 := by rw [a12, a13, a14, a15]; decide
  have hs : 0 ≤ A 4 0 ∧ A 4 0 ≤ 4 ∧ 0 ≤ A 4 1 ∧ A 4 1 ≤ 5 ∧ 0 ≤ A 4 2 ∧ A 4 2 ≤ 5 ∧ 0 ≤ A 4 3 ∧ A 4 3 ≤ 3 := by omega
  exact ⟨⟨hs, fun j hj => by omega, fun j hj => by omega, fun j _ => ⟨by rw [a8 j]; decide, Or.inr (a8 j)⟩, fun j hj => by omega, hn⟩, ⟨hs, fun j hj => by omega, fun j hj => by omega, fun j _ => by rw [a8 j]; decide, fun j hj => by omega, hn, hf⟩⟩
theorem LI_new {Γ1 Γ2 : zΓ} {G1 G2 : zH} {x mm : Nat} (hB1 : zBn Γ1 G1) (tx : Γ1.1 x = 9) (hx2 : zxt Γ1 Γ2) (hB2 : zBn Γ2 G2) (tm : Γ2.1 mm = 10) (hq1 : (G1.1 901 x 0 = 0 ∧ G1.1 912 x 0 = 0 ∧ G1.1 913 x 0 = -1 ∧ (∀ i : Nat, G1.1 2055 (Γ1.2.1 x 0) i = 0) ∧ ∀ q : Nat, q < 24 → G1.1 2044 (Γ1.2.1 (Γ1.2.1 (Γ1.2.1 x 2) 0) 0) q = wl.getD q 0) ∧ AP Γ1 (G1.2.2 401 (Γ1.2.1 x 2)) (G1.2.2 903 x) ∧ TZ Γ1 (G1.2.2 903 x) G1 ∧ WZ Γ1 (Γ1.2.1 x 4) (G1.2.2 903 x) G1 ∧ (AW Γ1 (Γ1.2.1 x 4) (Γ1.2.1 x 5) ∧ AW Γ1 (Γ1.2.1 x 4) (Γ1.2.1 x 6) ∧ AW Γ1 (Γ1.2.1 x 5) (Γ1.2.1 x 6) ∧ Γ1.2.1 (Γ1.2.1 x 7) 0 = Γ1.2.1 x 6) ∧ G1.1 910 x 0 = 0 ∧ G1.1 911 x 0 = 0) (hq2 : MI Γ2 mm G2 ∧ G2.1 1001 mm 0 = 0 ∧ G2.1 1004 mm 0 = 0 ∧ G2.1 1005 mm 0 = -1 ∧ (∀ i : Nat, G2.1 2057 (Γ2.2.1 mm 0) i = 0) ∧ zpy [2044, 2055, 901, 912, 913, 2037, 2036, 2038, 2039, 2040, 2041, 2042, 2043, 609, 610, 611, 612, 2016, 2017, 2014, 2015, 206, 207, 510, 2026, 2027, 2028, 2029, 2030, 2031, 2032, 2033, 2034, 2035, 2048, 2049, 2050, 2051, 2052, 2053, 2054, 809, 810, 811, 812, 813, 910, 911] Γ1 G1 G2 ∧ (∀ A : aS, sZ A → kR Γ2 mm A G2) ∧ (∀ W : aS, wBeg cA W → rW Γ2 mm 0 W G2 ∧ rS Γ2 mm W G2 ∧ rD mm W G2) ∧ G2.1 1084 mm 0 = 0 ∧ G2.1 1086 mm 0 = 0) : LI Γ2 x mm G2 := by
  obtain ⟨⟨u1, u2, u3, u4, u5⟩, u6, u7, u8, u9, u10, u11⟩ := hq1
  obtain ⟨m1, m2, m3, m4, m5, ⟨m6, m6q⟩, m7, m8, m9, m10⟩ := hq2
  have z1 : Γ1.1 x ≠ 0 := by rw [tx]; decide
  have l0 := hB1.1.2.2 9 0 x tx (by decide)
  have l1 := hB1.1.2.2 9 2 x tx (by decide)
  have l2 := hB1.1.2.2 4 0 _ l1 (by decide)
  have l3 := hB1.1.2.2 7 0 _ l2 (by decide)
  have l4 := hB1.1.2.2 9 4 x tx (by decide)
  have l5 := hB1.1.2.2 9 5 x tx (by decide)
  have l6 := hB1.1.2.2 9 6 x tx (by decide)
  have l7 := hB1.1.2.2 9 7 x tx (by decide)
  have g1 : Γ2.2.1 x = Γ1.2.1 x := zxt_fr hx2 z1
  have g2 : Γ2.2.1 (Γ1.2.1 x 2) = Γ1.2.1 (Γ1.2.1 x 2) := zxt_fr hx2 (by rw [l1]; decide)
  have g3 : Γ2.2.1 (Γ1.2.1 (Γ1.2.1 x 2) 0) = Γ1.2.1 (Γ1.2.1 (Γ1.2.1 x 2) 0) := zxt_fr hx2 (by rw [l2]; decide)
  have g7 : Γ2.2.1 (Γ1.2.1 x 7) = Γ1.2.1 (Γ1.2.1 x 7) := zxt_fr hx2 (by rw [l7]; decide)
  have q9 : G2.2.2 903 x = G1.2.2 903 x := m6q 903 x z1
  have q4 : G2.2.2 401 (Γ2.2.1 x 2) = G1.2.2 401 (Γ1.2.1 x 2) := by rw [g1]; exact m6q 401 _ (by rw [l1]; decide)
  have t9 : Γ1.1 (G1.2.2 903 x) = 6 := told_6 hB1.2.1 tx
  have t4 : Γ1.1 (G1.2.2 401 (Γ1.2.1 x 2)) = 6 := into_6 hB1.1 hB1.2.1 tx
  have x2 : ∀ w, Γ1.1 w = 8 → ∀ f : Nat, f < 23 → wad Γ2 w f = wad Γ1 w f := fun w hw => wad_x hB1.1 hx2 hw
  have aw : ∀ v w, Γ1.1 v = 8 → Γ1.1 w = 8 → AW Γ1 v w → AW Γ2 v w := fun v w hv hw h => ⟨h.1, fun f hf => by rw [x2 v hv f hf, x2 w hw f hf]; exact h.2 f hf⟩
  have hz := TZ_x hB1.1 hx2 t9 (fun r h9 a ha i => m6 r ((show ∀ r ∈ [2037, 2036, 2038, 2039, 2040, 2041, 2042, 2043, 609, 610, 611, 612, 2016, 2017, 2014, 2015, 206, 207], r ∈ [2044, 2055, 901, 912, 913, 2037, 2036, 2038, 2039, 2040, 2041, 2042, 2043, 609, 610, 611, 612, 2016, 2017, 2014, 2015, 206, 207, 510, 2026, 2027, 2028, 2029, 2030, 2031, 2032, 2033, 2034, 2035, 2048, 2049, 2050, 2051, 2052, 2053, 2054, 809, 810, 811, 812, 813, 910, 911] by decide) r h9) a ha i) u7
  obtain ⟨A, hA, hT⟩ := hz
  have hw := WZ_x hB1.1 hx2 l4 t9 ⟨fun r h9 a ha i => m6 r ((show ∀ r ∈ [510, 2026, 2027, 2028, 2029, 2030, 2031, 2032, 2033, 2034, 2035, 2048, 2049, 2050, 2051, 2052, 2053, 2054, 809, 810, 811, 812, 813, 2040, 609, 611, 612], r ∈ [2044, 2055, 901, 912, 913, 2037, 2036, 2038, 2039, 2040, 2041, 2042, 2043, 609, 610, 611, 612, 2016, 2017, 2014, 2015, 206, 207, 510, 2026, 2027, 2028, 2029, 2030, 2031, 2032, 2033, 2034, 2035, 2048, 2049, 2050, 2051, 2052, 2053, 2054, 809, 810, 811, 812, 813, 910, 911] by decide) r h9) a ha i, m6q⟩ u8
  obtain ⟨W, w1, w2, w3, w4⟩ := WZ_V hA hT hw
  obtain ⟨b1, b2⟩ := TB_z hA
  have hWI := WI_bg b1 w3
  refine ⟨hB2, ?_, (A, W, W, fun _ => W, fun _ => 0, 0, 0, 0, fun _ => 0), ?_, ?_, ⟨b2, hWI, fun j _ => by show 0 ≤ W 17 j ∧ W 17 j ≤ 99; rw [w4 j]; decide, wUI_0 hWI, fun z => absurd rfl z⟩⟩
  · show AW Γ2 (Γ2.2.1 x 4) (Γ2.2.1 x 5) ∧ AW Γ2 (Γ2.2.1 x 4) (Γ2.2.1 x 6) ∧ AW Γ2 (Γ2.2.1 x 5) (Γ2.2.1 x 6) ∧ Γ2.2.1 (Γ2.2.1 x 7) 0 = Γ2.2.1 x 6
    rw [g1, g7]
    exact ⟨aw _ _ l4 l5 u9.1, aw _ _ l4 l6 u9.2.1, aw _ _ l5 l6 u9.2.2.1, u9.2.2.2⟩
  · unfold SC
    rw [q9, q4]
    refine ⟨⟨?_, fun i => ?_, fun q hq => ?_⟩, ?_, ?_, ⟨?_, fun j hj => absurd (show (j : Int) < 0 from hj) (by omega)⟩, ?_, fun z => absurd rfl z⟩
    · show G2.1 901 x 0 = 0
      exact (m6 901 (by decide) x z1 0).trans u1
    · show G2.1 2055 (Γ2.2.1 x 0) i = 0
      rw [g1, m6 2055 (by decide) _ (by rw [l0]; decide) i]; exact u4 i
    · rw [g1, g2, g3, m6 2044 (by decide) _ (by rw [l3]; decide) q]; exact u5 q hq
    · exact fun f h4 hf => by rw [cad_x hB1.1 hx2 t4 f h4 hf, cad_x hB1.1 hx2 t9 f h4 hf]; exact u6 f h4 hf
    · show QV Γ2 (Γ2.2.1 x 4) (G1.2.2 903 x) A W G2
      rw [g1]; exact w1
    · show G2.1 910 x 0 = 0
      rw [m6 910 (by decide) x z1 0]; exact u10
    · show G2.1 911 x 0 = 0
      rw [m6 911 (by decide) x z1 0]; exact u11
  · obtain ⟨r1, r2, r3⟩ := m8 W w2
    exact ⟨m1, ⟨m2, fun i => m5 i⟩, m7 A hA, ⟨r1, r2, r3⟩, ⟨fun v hv => absurd (show (v : Int) < 0 from hv) (by omega), m9⟩, m10, fun z => absurd rfl z⟩
theorem zi_rg {Γ : zΓ} {v : Int} (h : -2147483648 ≤ v ∧ v ≤ 2147483647) : zk Γ (zi v) := h
section ZLL
variable {p : Program} {l : Launch} {e : Env} {R : Room} {s : State} {m : MethodId} {args : Array Value} {below : List Frame} {meth : Method} {c : Code} {Γ : zΓ} {b : Nat} {cc : ByteArray} {nL : Nat} {own : String} {cells slots : Nat} {Q : State → Prop} {pc : Nat} {ls : List (Option zV)} {st : List zV} {G : zH} {ws X : va_W} {D : va_G}
theorem v_wk {ls' : List (Option zV)} (kk : V p l e R s m args below meth c b D nL cells slots Q pc ls' st ws) (h : zwk ls' ls) : V p l e R s m args below meth c b D nL cells slots Q pc ls st ws :=
  fun H locs rl hP hD hS hL => kk H locs rl hP hD hS ⟨hL.1, hL.2.1, fun i v hv => hL.2.2 i v (h i v hv)⟩
theorem v_arg (C : zCv p s m args c Γ b cc nL own) {scr : Nat} {i j : Int} (hsc : scr = Γ.2.2.2.2.2.1 2) (hi : 0 ≤ i ∧ i + 6 ≤ (Γ.2.2.2.2.2.2.1 2 : Nat)) (hj : 0 ≤ j ∧ j < 6) (d1 : decode cc pc = .ok (.aload_n 0, 1)) (d2 : decode cc (pc + 1) = .ok (.iload 4, 2)) (d3 : decode cc (pc + 1 + 2) = .ok (.iconst j, 1)) (d4 : decode cc (pc + 1 + 2 + 1) = .ok (.iadd, 1)) (d5 : decode cc (pc + 1 + 2 + 1 + 1) = .ok (.iaload, 1)) (h0 : ls[0]? = some (some (zr 202 scr))) (h4 : ls[4]? = some (some (zi i)))
    (kk : ∀ v : Int, v = Γ.2.2.2.2.2.2.2 2 (i + j).toNat → (-2147483648 ≤ v ∧ v ≤ 2147483647) → V p l e R s m args below meth c b D nL cells slots Q (pc + 6) ls (zi v :: st) ws) : V p l e R s m args below meth c b D nL cells slots Q pc ls st ws :=
  v_aload_n (k := 0) C d1 h0 (v_iload C d2 h4 (v_iconst C d3 (v_iadd C d4 (v_xald C hsc (by omega) d5 kk))))
theorem v_ci0 (C : zCv p s m args c Γ b cc nL own) {y : MethodName} {bs : ByteArray} {mx lv idx t q : Nat} {ret : Option FieldType} {post : Int → zH → Prop} (d : decode cc pc = .ok (.invokevirtual idx, 3)) (w : zWv own idx y t bs mx ret 0) (ht : 1 ≤ t ∧ t ≤ 10) (hM : zMet l Γ y bs mx ret lv (zr t q :: []) G (zpi post)) (hB : zBn Γ G) (h0 : zk Γ (zr t q))  (hR : lv + 1 ≤ R.frames ∧ 8 + (mx + 11) + 40 * lv ≤ R.locals) (hc : cells ≤ R.cells ∧ slots ≤ R.slots) (hw : ((st.map zc).map fun v => v.category).sum ≤ 8)
    (kk : ∀ (r : Int) (G' : zH), post r G' → zBn Γ (zno Γ G') → V p l e R s m args below meth c b Γ.2.2.2.1 nL cells slots Q (pc + 3) ls (zi r :: st) (X ++ zWd Γ (zno Γ G'))) : V p l e R s m args below meth c b Γ.2.2.2.1 nL cells slots Q pc ls (zr t q :: st) (X ++ zWd Γ G) := by
  refine v_callV (av := []) C d w ht rfl hM hB (fun x hx => by
    rw [List.mem_singleton.mp hx]
    exact h0) hR hc hw (fun r G' hp hB' => ?_)
  obtain ⟨r9, rfl, hp9⟩ := hp
  exact kk r9 G' hp9 hB'
theorem v_ci1 {x1 : Int} (C : zCv p s m args c Γ b cc nL own) {y : MethodName} {bs : ByteArray} {mx lv idx t q : Nat} {ret : Option FieldType} {post : Int → zH → Prop} (d : decode cc pc = .ok (.invokevirtual idx, 3)) (w : zWv own idx y t bs mx ret 1) (ht : 1 ≤ t ∧ t ≤ 10) (hM : zMet l Γ y bs mx ret lv (zr t q :: [zi x1]) G (zpi post)) (hB : zBn Γ G) (h0 : zk Γ (zr t q)) (h1 : -2147483648 ≤ x1 ∧ x1 ≤ 2147483647) (hR : lv + 1 ≤ R.frames ∧ 8 + (mx + 11) + 40 * lv ≤ R.locals) (hc : cells ≤ R.cells ∧ slots ≤ R.slots) (hw : ((st.map zc).map fun v => v.category).sum ≤ 8)
    (kk : ∀ (r : Int) (G' : zH), post r G' → zBn Γ (zno Γ G') → V p l e R s m args below meth c b Γ.2.2.2.1 nL cells slots Q (pc + 3) ls (zi r :: st) (X ++ zWd Γ (zno Γ G'))) : V p l e R s m args below meth c b Γ.2.2.2.1 nL cells slots Q pc ls (zi x1 :: zr t q :: st) (X ++ zWd Γ G) := by
  refine v_callV (av := [zi x1]) C d w ht rfl hM hB (fun x hx => by
    simp only [List.mem_cons, List.not_mem_nil, or_false] at hx
    rcases hx with rfl | rfl
    · exact h0
    · exact h1) hR hc hw (fun r G' hp hB' => ?_)
  obtain ⟨r9, rfl, hp9⟩ := hp
  exact kk r9 G' hp9 hB'
theorem v_ci2 {x1 x2 : Int} (C : zCv p s m args c Γ b cc nL own) {y : MethodName} {bs : ByteArray} {mx lv idx t q : Nat} {ret : Option FieldType} {post : Int → zH → Prop} (d : decode cc pc = .ok (.invokevirtual idx, 3)) (w : zWv own idx y t bs mx ret 2) (ht : 1 ≤ t ∧ t ≤ 10) (hM : zMet l Γ y bs mx ret lv (zr t q :: [zi x1, zi x2]) G (zpi post)) (hB : zBn Γ G) (h0 : zk Γ (zr t q)) (h1 : -2147483648 ≤ x1 ∧ x1 ≤ 2147483647) (h2 : -2147483648 ≤ x2 ∧ x2 ≤ 2147483647) (hR : lv + 1 ≤ R.frames ∧ 8 + (mx + 11) + 40 * lv ≤ R.locals) (hc : cells ≤ R.cells ∧ slots ≤ R.slots) (hw : ((st.map zc).map fun v => v.category).sum ≤ 8)
    (kk : ∀ (r : Int) (G' : zH), post r G' → zBn Γ (zno Γ G') → V p l e R s m args below meth c b Γ.2.2.2.1 nL cells slots Q (pc + 3) ls (zi r :: st) (X ++ zWd Γ (zno Γ G'))) : V p l e R s m args below meth c b Γ.2.2.2.1 nL cells slots Q pc ls (zi x2 :: zi x1 :: zr t q :: st) (X ++ zWd Γ G) := by
  refine v_callV (av := [zi x1, zi x2]) C d w ht rfl hM hB (fun x hx => by
    simp only [List.mem_cons, List.not_mem_nil, or_false] at hx
    rcases hx with rfl | rfl | rfl
    · exact h0
    · exact h1
    · exact h2) hR hc hw (fun r G' hp hB' => ?_)
  obtain ⟨r9, rfl, hp9⟩ := hp
  exact kk r9 G' hp9 hB'
theorem v_ci3 {x1 x2 x3 : Int} (C : zCv p s m args c Γ b cc nL own) {y : MethodName} {bs : ByteArray} {mx lv idx t q : Nat} {ret : Option FieldType} {post : Int → zH → Prop} (d : decode cc pc = .ok (.invokevirtual idx, 3)) (w : zWv own idx y t bs mx ret 3) (ht : 1 ≤ t ∧ t ≤ 10) (hM : zMet l Γ y bs mx ret lv (zr t q :: [zi x1, zi x2, zi x3]) G (zpi post)) (hB : zBn Γ G) (h0 : zk Γ (zr t q)) (h1 : -2147483648 ≤ x1 ∧ x1 ≤ 2147483647) (h2 : -2147483648 ≤ x2 ∧ x2 ≤ 2147483647) (h3 : -2147483648 ≤ x3 ∧ x3 ≤ 2147483647) (hR : lv + 1 ≤ R.frames ∧ 8 + (mx + 11) + 40 * lv ≤ R.locals) (hc : cells ≤ R.cells ∧ slots ≤ R.slots) (hw : ((st.map zc).map fun v => v.category).sum ≤ 8)
    (kk : ∀ (r : Int) (G' : zH), post r G' → zBn Γ (zno Γ G') → V p l e R s m args below meth c b Γ.2.2.2.1 nL cells slots Q (pc + 3) ls (zi r :: st) (X ++ zWd Γ (zno Γ G'))) : V p l e R s m args below meth c b Γ.2.2.2.1 nL cells slots Q pc ls (zi x3 :: zi x2 :: zi x1 :: zr t q :: st) (X ++ zWd Γ G) := by
  refine v_callV (av := [zi x1, zi x2, zi x3]) C d w ht rfl hM hB (fun x hx => by
    simp only [List.mem_cons, List.not_mem_nil, or_false] at hx
    rcases hx with rfl | rfl | rfl | rfl
    · exact h0
    · exact h1
    · exact h2
    · exact h3) hR hc hw (fun r G' hp hB' => ?_)
  obtain ⟨r9, rfl, hp9⟩ := hp
  exact kk r9 G' hp9 hB'
theorem v_ci4 {x1 x2 x3 x4 : Int} (C : zCv p s m args c Γ b cc nL own) {y : MethodName} {bs : ByteArray} {mx lv idx t q : Nat} {ret : Option FieldType} {post : Int → zH → Prop} (d : decode cc pc = .ok (.invokevirtual idx, 3)) (w : zWv own idx y t bs mx ret 4) (ht : 1 ≤ t ∧ t ≤ 10) (hM : zMet l Γ y bs mx ret lv (zr t q :: [zi x1, zi x2, zi x3, zi x4]) G (zpi post)) (hB : zBn Γ G) (h0 : zk Γ (zr t q)) (h1 : -2147483648 ≤ x1 ∧ x1 ≤ 2147483647) (h2 : -2147483648 ≤ x2 ∧ x2 ≤ 2147483647) (h3 : -2147483648 ≤ x3 ∧ x3 ≤ 2147483647) (h4 : -2147483648 ≤ x4 ∧ x4 ≤ 2147483647) (hR : lv + 1 ≤ R.frames ∧ 8 + (mx + 11) + 40 * lv ≤ R.locals) (hc : cells ≤ R.cells ∧ slots ≤ R.slots) (hw : ((st.map zc).map fun v => v.category).sum ≤ 8)
    (kk : ∀ (r : Int) (G' : zH), post r G' → zBn Γ (zno Γ G') → V p l e R s m args below meth c b Γ.2.2.2.1 nL cells slots Q (pc + 3) ls (zi r :: st) (X ++ zWd Γ (zno Γ G'))) : V p l e R s m args below meth c b Γ.2.2.2.1 nL cells slots Q pc ls (zi x4 :: zi x3 :: zi x2 :: zi x1 :: zr t q :: st) (X ++ zWd Γ G) := by
  refine v_callV (av := [zi x1, zi x2, zi x3, zi x4]) C d w ht rfl hM hB (fun x hx => by
    simp only [List.mem_cons, List.not_mem_nil, or_false] at hx
    rcases hx with rfl | rfl | rfl | rfl | rfl
    · exact h0
    · exact h1
    · exact h2
    · exact h3
    · exact h4) hR hc hw (fun r G' hp hB' => ?_)
  obtain ⟨r9, rfl, hp9⟩ := hp
  exact kk r9 G' hp9 hB'
theorem v_ci5 {x1 x2 x3 x4 x5 : Int} (C : zCv p s m args c Γ b cc nL own) {y : MethodName} {bs : ByteArray} {mx lv idx t q : Nat} {ret : Option FieldType} {post : Int → zH → Prop} (d : decode cc pc = .ok (.invokevirtual idx, 3)) (w : zWv own idx y t bs mx ret 5) (ht : 1 ≤ t ∧ t ≤ 10) (hM : zMet l Γ y bs mx ret lv (zr t q :: [zi x1, zi x2, zi x3, zi x4, zi x5]) G (zpi post)) (hB : zBn Γ G) (h0 : zk Γ (zr t q)) (h1 : -2147483648 ≤ x1 ∧ x1 ≤ 2147483647) (h2 : -2147483648 ≤ x2 ∧ x2 ≤ 2147483647) (h3 : -2147483648 ≤ x3 ∧ x3 ≤ 2147483647) (h4 : -2147483648 ≤ x4 ∧ x4 ≤ 2147483647) (h5 : -2147483648 ≤ x5 ∧ x5 ≤ 2147483647) (hR : lv + 1 ≤ R.frames ∧ 8 + (mx + 11) + 40 * lv ≤ R.locals) (hc : cells ≤ R.cells ∧ slots ≤ R.slots) (hw : ((st.map zc).map fun v => v.category).sum ≤ 8)
    (kk : ∀ (r : Int) (G' : zH), post r G' → zBn Γ (zno Γ G') → V p l e R s m args below meth c b Γ.2.2.2.1 nL cells slots Q (pc + 3) ls (zi r :: st) (X ++ zWd Γ (zno Γ G'))) : V p l e R s m args below meth c b Γ.2.2.2.1 nL cells slots Q pc ls (zi x5 :: zi x4 :: zi x3 :: zi x2 :: zi x1 :: zr t q :: st) (X ++ zWd Γ G) := by
  refine v_callV (av := [zi x1, zi x2, zi x3, zi x4, zi x5]) C d w ht rfl hM hB (fun x hx => by
    simp only [List.mem_cons, List.not_mem_nil, or_false] at hx
    rcases hx with rfl | rfl | rfl | rfl | rfl | rfl
    · exact h0
    · exact h1
    · exact h2
    · exact h3
    · exact h4
    · exact h5) hR hc hw (fun r G' hp hB' => ?_)
  obtain ⟨r9, rfl, hp9⟩ := hp
  exact kk r9 G' hp9 hB'
theorem v_cj0 (C : zCv p s m args c Γ b cc nL own) {y : MethodName} {bs : ByteArray} {mx lv idx t q : Nat} {ret : Option FieldType} {post : Int → zH → Prop} (d : decode cc pc = .ok (.invokevirtual idx, 3)) (w : zWv own idx y t bs mx ret 0) (ht : 1 ≤ t ∧ t ≤ 10) (hM : zMet l Γ y bs mx ret lv (zr t q :: []) G (zpj post)) (hB : zBn Γ G) (h0 : zk Γ (zr t q))  (hR : lv + 1 ≤ R.frames ∧ 8 + (mx + 11) + 40 * lv ≤ R.locals) (hc : cells ≤ R.cells ∧ slots ≤ R.slots) (hw : ((st.map zc).map fun v => v.category).sum ≤ 8)
    (kk : ∀ (r : Int) (G' : zH), post r G' → zBn Γ (zno Γ G') → V p l e R s m args below meth c b Γ.2.2.2.1 nL cells slots Q (pc + 3) ls (zj r :: st) (X ++ zWd Γ (zno Γ G'))) : V p l e R s m args below meth c b Γ.2.2.2.1 nL cells slots Q pc ls (zr t q :: st) (X ++ zWd Γ G) := by
  refine v_callV (av := []) C d w ht rfl hM hB (fun x hx => by
    rw [List.mem_singleton.mp hx]
    exact h0) hR hc hw (fun r G' hp hB' => ?_)
  obtain ⟨r9, rfl, hp9⟩ := hp
  exact kk r9 G' hp9 hB'
theorem v_cj1 {x1 : Int} (C : zCv p s m args c Γ b cc nL own) {y : MethodName} {bs : ByteArray} {mx lv idx t q : Nat} {ret : Option FieldType} {post : Int → zH → Prop} (d : decode cc pc = .ok (.invokevirtual idx, 3)) (w : zWv own idx y t bs mx ret 1) (ht : 1 ≤ t ∧ t ≤ 10) (hM : zMet l Γ y bs mx ret lv (zr t q :: [zi x1]) G (zpj post)) (hB : zBn Γ G) (h0 : zk Γ (zr t q)) (h1 : -2147483648 ≤ x1 ∧ x1 ≤ 2147483647) (hR : lv + 1 ≤ R.frames ∧ 8 + (mx + 11) + 40 * lv ≤ R.locals) (hc : cells ≤ R.cells ∧ slots ≤ R.slots) (hw : ((st.map zc).map fun v => v.category).sum ≤ 8)
    (kk : ∀ (r : Int) (G' : zH), post r G' → zBn Γ (zno Γ G') → V p l e R s m args below meth c b Γ.2.2.2.1 nL cells slots Q (pc + 3) ls (zj r :: st) (X ++ zWd Γ (zno Γ G'))) : V p l e R s m args below meth c b Γ.2.2.2.1 nL cells slots Q pc ls (zi x1 :: zr t q :: st) (X ++ zWd Γ G) := by
  refine v_callV (av := [zi x1]) C d w ht rfl hM hB (fun x hx => by
    simp only [List.mem_cons, List.not_mem_nil, or_false] at hx
    rcases hx with rfl | rfl
    · exact h0
    · exact h1) hR hc hw (fun r G' hp hB' => ?_)
  obtain ⟨r9, rfl, hp9⟩ := hp
  exact kk r9 G' hp9 hB'
theorem v_cj2 {x1 x2 : Int} (C : zCv p s m args c Γ b cc nL own) {y : MethodName} {bs : ByteArray} {mx lv idx t q : Nat} {ret : Option FieldType} {post : Int → zH → Prop} (d : decode cc pc = .ok (.invokevirtual idx, 3)) (w : zWv own idx y t bs mx ret 2) (ht : 1 ≤ t ∧ t ≤ 10) (hM : zMet l Γ y bs mx ret lv (zr t q :: [zi x1, zi x2]) G (zpj post)) (hB : zBn Γ G) (h0 : zk Γ (zr t q)) (h1 : -2147483648 ≤ x1 ∧ x1 ≤ 2147483647) (h2 : -2147483648 ≤ x2 ∧ x2 ≤ 2147483647) (hR : lv + 1 ≤ R.frames ∧ 8 + (mx + 11) + 40 * lv ≤ R.locals) (hc : cells ≤ R.cells ∧ slots ≤ R.slots) (hw : ((st.map zc).map fun v => v.category).sum ≤ 8)
    (kk : ∀ (r : Int) (G' : zH), post r G' → zBn Γ (zno Γ G') → V p l e R s m args below meth c b Γ.2.2.2.1 nL cells slots Q (pc + 3) ls (zj r :: st) (X ++ zWd Γ (zno Γ G'))) : V p l e R s m args below meth c b Γ.2.2.2.1 nL cells slots Q pc ls (zi x2 :: zi x1 :: zr t q :: st) (X ++ zWd Γ G) := by
  refine v_callV (av := [zi x1, zi x2]) C d w ht rfl hM hB (fun x hx => by
    simp only [List.mem_cons, List.not_mem_nil, or_false] at hx
    rcases hx with rfl | rfl | rfl
    · exact h0
    · exact h1
    · exact h2) hR hc hw (fun r G' hp hB' => ?_)
  obtain ⟨r9, rfl, hp9⟩ := hp
  exact kk r9 G' hp9 hB'
theorem v_cj3 {x1 x2 x3 : Int} (C : zCv p s m args c Γ b cc nL own) {y : MethodName} {bs : ByteArray} {mx lv idx t q : Nat} {ret : Option FieldType} {post : Int → zH → Prop} (d : decode cc pc = .ok (.invokevirtual idx, 3)) (w : zWv own idx y t bs mx ret 3) (ht : 1 ≤ t ∧ t ≤ 10) (hM : zMet l Γ y bs mx ret lv (zr t q :: [zi x1, zi x2, zi x3]) G (zpj post)) (hB : zBn Γ G) (h0 : zk Γ (zr t q)) (h1 : -2147483648 ≤ x1 ∧ x1 ≤ 2147483647) (h2 : -2147483648 ≤ x2 ∧ x2 ≤ 2147483647) (h3 : -2147483648 ≤ x3 ∧ x3 ≤ 2147483647) (hR : lv + 1 ≤ R.frames ∧ 8 + (mx + 11) + 40 * lv ≤ R.locals) (hc : cells ≤ R.cells ∧ slots ≤ R.slots) (hw : ((st.map zc).map fun v => v.category).sum ≤ 8)
    (kk : ∀ (r : Int) (G' : zH), post r G' → zBn Γ (zno Γ G') → V p l e R s m args below meth c b Γ.2.2.2.1 nL cells slots Q (pc + 3) ls (zj r :: st) (X ++ zWd Γ (zno Γ G'))) : V p l e R s m args below meth c b Γ.2.2.2.1 nL cells slots Q pc ls (zi x3 :: zi x2 :: zi x1 :: zr t q :: st) (X ++ zWd Γ G) := by
  refine v_callV (av := [zi x1, zi x2, zi x3]) C d w ht rfl hM hB (fun x hx => by
    simp only [List.mem_cons, List.not_mem_nil, or_false] at hx
    rcases hx with rfl | rfl | rfl | rfl
    · exact h0
    · exact h1
    · exact h2
    · exact h3) hR hc hw (fun r G' hp hB' => ?_)
  obtain ⟨r9, rfl, hp9⟩ := hp
  exact kk r9 G' hp9 hB'
theorem v_cj4 {x1 x2 x3 x4 : Int} (C : zCv p s m args c Γ b cc nL own) {y : MethodName} {bs : ByteArray} {mx lv idx t q : Nat} {ret : Option FieldType} {post : Int → zH → Prop} (d : decode cc pc = .ok (.invokevirtual idx, 3)) (w : zWv own idx y t bs mx ret 4) (ht : 1 ≤ t ∧ t ≤ 10) (hM : zMet l Γ y bs mx ret lv (zr t q :: [zi x1, zi x2, zi x3, zi x4]) G (zpj post)) (hB : zBn Γ G) (h0 : zk Γ (zr t q)) (h1 : -2147483648 ≤ x1 ∧ x1 ≤ 2147483647) (h2 : -2147483648 ≤ x2 ∧ x2 ≤ 2147483647) (h3 : -2147483648 ≤ x3 ∧ x3 ≤ 2147483647) (h4 : -2147483648 ≤ x4 ∧ x4 ≤ 2147483647) (hR : lv + 1 ≤ R.frames ∧ 8 + (mx + 11) + 40 * lv ≤ R.locals) (hc : cells ≤ R.cells ∧ slots ≤ R.slots) (hw : ((st.map zc).map fun v => v.category).sum ≤ 8)
    (kk : ∀ (r : Int) (G' : zH), post r G' → zBn Γ (zno Γ G') → V p l e R s m args below meth c b Γ.2.2.2.1 nL cells slots Q (pc + 3) ls (zj r :: st) (X ++ zWd Γ (zno Γ G'))) : V p l e R s m args below meth c b Γ.2.2.2.1 nL cells slots Q pc ls (zi x4 :: zi x3 :: zi x2 :: zi x1 :: zr t q :: st) (X ++ zWd Γ G) := by
  refine v_callV (av := [zi x1, zi x2, zi x3, zi x4]) C d w ht rfl hM hB (fun x hx => by
    simp only [List.mem_cons, List.not_mem_nil, or_false] at hx
    rcases hx with rfl | rfl | rfl | rfl | rfl
    · exact h0
    · exact h1
    · exact h2
    · exact h3
    · exact h4) hR hc hw (fun r G' hp hB' => ?_)
  obtain ⟨r9, rfl, hp9⟩ := hp
  exact kk r9 G' hp9 hB'
theorem v_cj5 {x1 x2 x3 x4 x5 : Int} (C : zCv p s m args c Γ b cc nL own) {y : MethodName} {bs : ByteArray} {mx lv idx t q : Nat} {ret : Option FieldType} {post : Int → zH → Prop} (d : decode cc pc = .ok (.invokevirtual idx, 3)) (w : zWv own idx y t bs mx ret 5) (ht : 1 ≤ t ∧ t ≤ 10) (hM : zMet l Γ y bs mx ret lv (zr t q :: [zi x1, zi x2, zi x3, zi x4, zi x5]) G (zpj post)) (hB : zBn Γ G) (h0 : zk Γ (zr t q)) (h1 : -2147483648 ≤ x1 ∧ x1 ≤ 2147483647) (h2 : -2147483648 ≤ x2 ∧ x2 ≤ 2147483647) (h3 : -2147483648 ≤ x3 ∧ x3 ≤ 2147483647) (h4 : -2147483648 ≤ x4 ∧ x4 ≤ 2147483647) (h5 : -2147483648 ≤ x5 ∧ x5 ≤ 2147483647) (hR : lv + 1 ≤ R.frames ∧ 8 + (mx + 11) + 40 * lv ≤ R.locals) (hc : cells ≤ R.cells ∧ slots ≤ R.slots) (hw : ((st.map zc).map fun v => v.category).sum ≤ 8)
    (kk : ∀ (r : Int) (G' : zH), post r G' → zBn Γ (zno Γ G') → V p l e R s m args below meth c b Γ.2.2.2.1 nL cells slots Q (pc + 3) ls (zj r :: st) (X ++ zWd Γ (zno Γ G'))) : V p l e R s m args below meth c b Γ.2.2.2.1 nL cells slots Q pc ls (zi x5 :: zi x4 :: zi x3 :: zi x2 :: zi x1 :: zr t q :: st) (X ++ zWd Γ G) := by
  refine v_callV (av := [zi x1, zi x2, zi x3, zi x4, zi x5]) C d w ht rfl hM hB (fun x hx => by
    simp only [List.mem_cons, List.not_mem_nil, or_false] at hx
    rcases hx with rfl | rfl | rfl | rfl | rfl | rfl
    · exact h0
    · exact h1
    · exact h2
    · exact h3
    · exact h4
    · exact h5) hR hc hw (fun r G' hp hB' => ?_)
  obtain ⟨r9, rfl, hp9⟩ := hp
  exact kk r9 G' hp9 hB'
theorem v_lk (C : zCv p s m args c Γ b cc nL RL) (hst : l.stackTraces = false) (hB : zBn Γ G) {w o idx : Nat} {a1 b1 : Int} {f : Nat → Int64} (hw : Γ.1 w = 9) (ha1 : -2147483648 ≤ a1 ∧ a1 ≤ 2147483647) (hb1 : -2147483648 ≤ b1 ∧ b1 ≤ 2147483647) (hTw : zTw (zAb b) s) (d : decode cc pc = .ok (.invokestatic idx, 3)) (w1 : Cond.methodLink RL idx yL_look ∈ zTb) (w2 : Cond.static yL_look ∈ zTb) (w3 : Cond.initialized RL ∈ zTb) (hR : 10 ≤ R.frames ∧ 400 ≤ R.locals) (hc : cells + 1 ≤ R.cells ∧ slots + 6 ≤ R.slots) (hw2 : ((st.map zc).map fun v => v.category).sum ≤ 8)
    (kk : ∀ (r : Int) (f' : Nat → Int64) (G' : zH), zBn Γ G' → ((∀ q a i, Γ.1 a ≠ 0 → G'.1 q a i = G.1 q a i) ∧ (∀ q a i, Γ.1 a ≠ 0 → G'.2.1 q a i = G.2.1 q a i) ∧ G'.2.2 = G.2.2) → V p l e R s m args below meth c b Γ.2.2.2.1 nL (cells + 1) (slots + 6) Q (pc + 3) ls (zi r :: st) ([(o, zOut Γ f')] ++ zWd Γ G')) : V p l e R s m args below meth c b Γ.2.2.2.1 nL cells slots Q pc ls (zr 300 o :: zi b1 :: zi a1 :: zr 9 w :: st) ([(o, zOut Γ f)] ++ zWd Γ G) := by
  intro H locs rl hP hD hS hL
  have hts := C.2.2.2.2.1
  obtain ⟨hXb, hNk, hNm⟩ := C.2.2.2.2.2.2.1
  have good : ∀ w ∈ zTb, w ∈ zTb ∧ ((w.onTables && w.keeps) = true ∨ ∃ ty, w = .arrayClass ty) := fun w hz => ⟨hz, good_of_word (List.mem_filter.mp hz).2⟩
  have hG : GoodIn zTb (va_wsS RL idx yL_look (Cond.codeWith yL_look cL_look 5 (some .int) lkH :: zTb)) := by
    intro w hw
    unfold va_wsS at hw
    rcases List.mem_append.mp hw with h | h
    · rcases List.mem_cons.mp h with h | h
      · rw [h]; exact good _ w1
      · rcases List.mem_cons.mp h with h | h
        · rw [h]; exact good _ w2
        · rw [List.mem_singleton.mp h]; exact good _ w3
    · rcases List.mem_cons.mp h with h | h
      · rw [h]; exact good _ lk_w
      · exact good _ h
  have hrun := vx_runSW (H := H) (e := e) (below := below) (meth := meth) (locs := locs) (cells := cells) (slots := slots) (As := [.ref w, .int (Int32.ofInt a1), .int (Int32.ofInt b1), .ref o]) (rest := st.map zc) (g := F0 m pc rl ((zr 300 o :: zi b1 :: zi a1 :: zr 9 w :: st).map zc)) (n := 4) ⟨C.1, C.2.1, C.2.2.1, C.2.2.2.1, hts⟩ (c_L_look (l := l) (b := b) (Γ := Γ) (G := G) (w := w) (o := o) (f := f) C.2.2.2.2.2.2.2.2 hst hB hw ha1 hb1)
    (vx_cwSW 4 hts hG rfl rfl rfl (by decide +kernel) (by show 9 + 1 ≤ R.frames ∧ 8 + (5 + 11) + 40 * 9 ≤ R.locals; omega))
    ⟨zPl_blind, fun U hU hW => ⟨rfl, va_K.moved hW.alike C.2.2.2.2.2.1, ⟨zXb_keep hXb hW.alike (fun x h1 h2 => by rw [hU]; exact hS.2.1 x h1 h2), fun x hx => va_Nw.warmF hW (hNk x hx), fun x hx => va_Nw.warmM hW (hNm x hx)⟩, by rw [hU]; exact Nat.le_trans C.2.2.2.2.2.2.2.1 hS.1, by rw [hU]; exact hP, hD, zTw_keep hTw hW (fun x h1 h2 => by rw [hU]; exact hS.2.1 x h1 h2)⟩⟩
    rfl rfl hL.1 rfl (lv_room hw2) d hc
  intro T hT X1
  obtain ⟨v, st₀, t9, T', L, h01, X', hL', e1, e2, ⟨⟨r, f', G', hv, hB', hsame, hP', hD'⟩, hF⟩, go⟩ := hrun T hT X1
  have hv' : v = some (.int r) := by cases hv; rfl
  subst hv'
  have hS1 : va_S (zAb b) s.heap t9.heap (locs ++ L) := by
    refine ⟨Nat.le_trans hS.1 (by rw [← h01]; exact hF.1), fun q h1 h2 => ?_, fun l hl => ?_⟩
    · rw [hF.2 q (by rw [h01]; exact Nat.lt_of_lt_of_le h1 hS.1) h2, h01]
      exact hS.2.1 q h1 h2
    · rcases List.mem_append.mp hl with q | q
      · exact hS.2.2 l q
      · exact hL' l q
  obtain ⟨t8, a9, b9⟩ := kk r.toInt f' G' hB' hsame t9.heap (locs ++ L) rl hP' hD' hS1 hL T' e1 X'
  refine ⟨t8, go t8 ?_, b9⟩
  rw [List.map_cons, show zc (zi r.toInt) = .int r from congrArg Value.int (Int32.ofInt_toInt r)] at a9
  exact a9
theorem v_newo (C : zCv p s m args c Γ b cc nL own) {x : Int} (d : decode cc pc = .ok (.newarray .long, 2)) (w : Cond.arrayClass .long ∈ zTb) (hx : x = 1) (hc : cells + 1 ≤ R.cells ∧ slots + 1 ≤ R.slots)
    (kk : ∀ (q : Nat), V p l e R s m args below meth c b Γ.2.2.2.1 nL (cells + 1) (slots + 1) Q (pc + 2) ls (zr 300 q :: st) ((q, zOut Γ (fun _ => 0)) :: ws)) : V p l e R s m args below meth c b Γ.2.2.2.1 nL cells slots Q pc ls (zi x :: st) ws := by
  intro H locs rl hP hD hS hL
  subst hx
  have hK := C.2.2.2.2.2.1
  refine va_newa (atype := .long) (ty := .long) C.1 C.2.1 (C.2.2.2.2.1 _ w) rfl hK hP hD hS (fun q h => Nat.le_trans C.2.2.2.2.2.2.2.1 h) (N' := 1) (a0 := (1, .inr (.inl (fun _ => 0)))) (fun cA => rfl) (fun h => ?_) (by rw [zi_nat (by omega) (by omega)]; rfl) (by decide) hc.1 hc.2 d (fun q cA H1 hK1 hP1 hD1 hS1 => ?_)
  · rw [zi_0, zi_lt (by omega) (by omega)] at h
    omega
  · have e1 : cA = Γ.2.2.1 1 := Option.some.inj ((hK1.2 3 (cA, .long) rfl).2.symm.trans (hK.2 1 (Γ.2.2.1 1, .long) rfl).2)
    subst e1
    have hp := List.perm_append_singleton (q, zOut Γ (fun _ => 0)) ws
    exact kk q H1 locs rl (zP_mem hP1 (fun x hx => hp.mem_iff.mpr hx)) (zD_perm hD1 hp.symm) hS1 hL
end ZLL
theorem lk_5 : Cond.methodLink RL 39 yL_look ∈ zTb := (zTb_5 179 rfl rfl)
theorem lk_6 : Cond.static yL_look ∈ zTb := (zTb_5 180 rfl rfl)
theorem lk_7 : Cond.initialized RL ∈ zTb := (zTb_1 0 rfl rfl)
set_option maxHeartbeats 2000000 in
set_option maxRecDepth 100000 in
theorem lc_0 {p : Program} {l : Launch} {e : Env} {s : State} {m : MethodId} {args : Array Value} {below : List Frame} {meth : Method} {c : Code} {Γ : zΓ} {b cells slots : Nat} {Q : State → Prop} {G : zH} {x mm o scr : Nat} {i : Int} {f : Nat → Int64} (C : zCv p s m args c Γ b cL_law 7 RL) (hst : l.stackTraces = false) (hTw : zTw (zAb b) s) (tx : Γ.1 x = 9) (tm : Γ.1 mm = 10) (hsc : scr = Γ.2.2.2.2.2.1 2) (hi : 0 ≤ i ∧ i + 6 ≤ (Γ.2.2.2.2.2.2.1 2 : Nat)) (hcs : cells + 1 ≤ room_1.cells ∧ slots + 6 ≤ room_1.slots) (hI : LI Γ x mm G) (kk : ∀ (G' : zH) (f' : Nat → Int64), LI Γ x mm G' → V p l e room_1 s m args below meth c b Γ.2.2.2.1 7 (cells + 1) (slots + 6) Q 1210 [some (zr 202 scr), some (zr 9 x), some (zr 10 mm), some (zr 300 o), some (zi i), none, none] [] ([(o, zOut Γ f')] ++ zWd Γ G')) : V p l e room_1 s m args below meth c b Γ.2.2.2.1 7 cells slots Q 180 [some (zr 202 scr), some (zr 9 x), some (zr 10 mm), some (zr 300 o), some (zi i), none, none] [] ([(o, zOut Γ f)] ++ zWd Γ G) := by
  have hX := C.2.2.2.2.2.2.2.2
  have hc9 : cells ≤ room_1.cells ∧ slots ≤ room_1.slots := ⟨by omega, by omega⟩
  refine v_aload_n (pc := 180) C dL_law_180 rfl ?_
  refine v_arg (pc := 181) C hsc hi (by decide) dL_law_181 dL_law_182 dL_law_184 dL_law_185 dL_law_186 rfl rfl (fun a181 ea181 ra181 => ?_)
  refine v_arg (pc := 187) C hsc hi (by decide) dL_law_187 dL_law_188 dL_law_190 dL_law_191 dL_law_192 rfl rfl (fun a187 ea187 ra187 => ?_)
  refine v_arg (pc := 193) C hsc hi (by decide) dL_law_193 dL_law_194 dL_law_196 dL_law_197 dL_law_198 rfl rfl (fun a193 ea193 ra193 => ?_)
  refine v_arg (pc := 199) C hsc hi (by decide) dL_law_199 dL_law_200 dL_law_202 dL_law_203 dL_law_204 rfl rfl (fun a199 ea199 ra199 => ?_)
  refine v_arg (pc := 205) C hsc hi (by decide) dL_law_205 dL_law_206 dL_law_208 dL_law_209 dL_law_210 rfl rfl (fun a205 ea205 ra205 => ?_)
  obtain ⟨T, h1, h2, hp, hq, hv⟩ := LI_open hI
  have hg := hI.2.1
  have hB := hI.1
  refine v_ci5 (pc := 211) C dL_law_211 v_L_21 (by decide) (lC_feed (T := T) hX hg h1 hp hq hv) hB (zk_of tx (by decide) (by decide)) ra181 ra187 ra193 ra199 ra205 ⟨Nat.le_of_ble_eq_true rfl, Nat.le_of_ble_eq_true rfl⟩ hc9 (Nat.le_of_ble_eq_true rfl) (fun r1 G1 hp1 hB1 => ?_)
  obtain ⟨H1, ⟨q1, e1⟩, rfl⟩ := hp1
  refine v_popi (pc := 214) C dL_law_214 ?_
  refine v_aload_n (pc := 215) C dL_law_215 rfl ?_
  refine v_arg (pc := 216) C hsc hi (by decide) dL_law_216 dL_law_217 dL_law_219 dL_law_220 dL_law_221 rfl rfl (fun a216 ea216 ra216 => ?_)
  refine v_arg (pc := 222) C hsc hi (by decide) dL_law_222 dL_law_223 dL_law_225 dL_law_226 dL_law_227 rfl rfl (fun a222 ea222 ra222 => ?_)
  refine v_arg (pc := 228) C hsc hi (by decide) dL_law_228 dL_law_229 dL_law_231 dL_law_232 dL_law_233 rfl rfl (fun a228 ea228 ra228 => ?_)
  refine v_arg (pc := 234) C hsc hi (by decide) dL_law_234 dL_law_235 dL_law_237 dL_law_238 dL_law_239 rfl rfl (fun a234 ea234 ra234 => ?_)
  refine v_arg (pc := 240) C hsc hi (by decide) dL_law_240 dL_law_241 dL_law_243 dL_law_244 dL_law_245 rfl rfl (fun a240 ea240 ra240 => ?_)
  obtain rfl : a216 = a181 := ea216.trans ea181.symm
  obtain rfl : a222 = a187 := ea222.trans ea187.symm
  obtain rfl : a228 = a193 := ea228.trans ea193.symm
  obtain rfl : a234 = a199 := ea234.trans ea199.symm
  obtain rfl : a240 = a205 := ea240.trans ea205.symm
  refine v_ci5 (pc := 246) C dL_law_246 v_L_25 (by decide) (lR_feed (T := T) hX (SR_1 hB.1 tm h2) hp) hB1 (zk_of tm (by decide) (by decide)) ra216 ra222 ra228 ra234 ra240 ⟨Nat.le_of_ble_eq_true rfl, Nat.le_of_ble_eq_true rfl⟩ hc9 (Nat.le_of_ble_eq_true rfl) (fun r2 G2 hp2 hB2 => ?_)
  obtain ⟨H2, ⟨q2, e2⟩, rfl⟩ := hp2
  have hI2 := LI_step hg tx tm hB1 q1 q2 (SPs_feed hp) hB2
  refine v_popi (pc := 249) C dL_law_249 ?_
  refine v_goto (pc := 250) (tgt := 1210) C dL_law_250 (by decide) ?_
  refine v_widen (k := cells + 1) (n := slots + 6) (by omega) (by omega) ?_
  exact kk _ _ hI2

set_option maxHeartbeats 2000000 in
set_option maxRecDepth 100000 in
theorem lc_1 {p : Program} {l : Launch} {e : Env} {s : State} {m : MethodId} {args : Array Value} {below : List Frame} {meth : Method} {c : Code} {Γ : zΓ} {b cells slots : Nat} {Q : State → Prop} {G : zH} {x mm o scr : Nat} {i : Int} {f : Nat → Int64} (C : zCv p s m args c Γ b cL_law 7 RL) (hst : l.stackTraces = false) (hTw : zTw (zAb b) s) (tx : Γ.1 x = 9) (tm : Γ.1 mm = 10) (hsc : scr = Γ.2.2.2.2.2.1 2) (hi : 0 ≤ i ∧ i + 6 ≤ (Γ.2.2.2.2.2.2.1 2 : Nat)) (hcs : cells + 1 ≤ room_1.cells ∧ slots + 6 ≤ room_1.slots) (hI : LI Γ x mm G) (kk : ∀ (G' : zH) (f' : Nat → Int64), LI Γ x mm G' → V p l e room_1 s m args below meth c b Γ.2.2.2.1 7 (cells + 1) (slots + 6) Q 1210 [some (zr 202 scr), some (zr 9 x), some (zr 10 mm), some (zr 300 o), some (zi i), none, none] [] ([(o, zOut Γ f')] ++ zWd Γ G')) : V p l e room_1 s m args below meth c b Γ.2.2.2.1 7 cells slots Q 253 [some (zr 202 scr), some (zr 9 x), some (zr 10 mm), some (zr 300 o), some (zi i), none, none] [] ([(o, zOut Γ f)] ++ zWd Γ G) := by
  have hX := C.2.2.2.2.2.2.2.2
  have hc9 : cells ≤ room_1.cells ∧ slots ≤ room_1.slots := ⟨by omega, by omega⟩
  refine v_aload_n (pc := 253) C dL_law_253 rfl ?_
  refine v_arg (pc := 254) C hsc hi (by decide) dL_law_254 dL_law_255 dL_law_257 dL_law_258 dL_law_259 rfl rfl (fun a254 ea254 ra254 => ?_)
  obtain ⟨T, h1, h2, hp, hq, hv⟩ := LI_open hI
  have hg := hI.2.1
  have hB := hI.1
  refine v_ci1 (pc := 260) C dL_law_260 v_L_26 (by decide) (lC_text (T := T) hX hg h1 hp hq hv) hB (zk_of tx (by decide) (by decide)) ra254 ⟨Nat.le_of_ble_eq_true rfl, Nat.le_of_ble_eq_true rfl⟩ hc9 (Nat.le_of_ble_eq_true rfl) (fun r1 G1 hp1 hB1 => ?_)
  obtain ⟨H1, ⟨A0, U, hA, hU, q1⟩, rfl⟩ := hp1
  refine v_popi (pc := 263) C dL_law_263 ?_
  refine v_aload_n (pc := 264) C dL_law_264 rfl ?_
  refine v_arg (pc := 265) C hsc hi (by decide) dL_law_265 dL_law_266 dL_law_268 dL_law_269 dL_law_270 rfl rfl (fun a265 ea265 ra265 => ?_)
  obtain rfl : a265 = a254 := ea265.trans ea254.symm
  refine v_ci1 (pc := 271) C dL_law_271 v_L_30 (by decide) (lR_text (T := T) (A0 := A0) (U := U) hA (fun z => (hU z).1) hX (SR_1 hB.1 tm h2) hp) hB1 (zk_of tm (by decide) (by decide)) ra265 ⟨Nat.le_of_ble_eq_true rfl, Nat.le_of_ble_eq_true rfl⟩ hc9 (Nat.le_of_ble_eq_true rfl) (fun r2 G2 hp2 hB2 => ?_)
  obtain ⟨H2, q2, rfl⟩ := hp2
  have hI2 := LI_step hg tx tm hB1 q1 q2 (SPs_text hB h1 hA hp hU) hB2
  refine v_popi (pc := 274) C dL_law_274 ?_
  refine v_goto (pc := 275) (tgt := 1210) C dL_law_275 (by decide) ?_
  refine v_widen (k := cells + 1) (n := slots + 6) (by omega) (by omega) ?_
  exact kk _ _ hI2

set_option maxHeartbeats 2000000 in
set_option maxRecDepth 100000 in
theorem lc_2 {p : Program} {l : Launch} {e : Env} {s : State} {m : MethodId} {args : Array Value} {below : List Frame} {meth : Method} {c : Code} {Γ : zΓ} {b cells slots : Nat} {Q : State → Prop} {G : zH} {x mm o scr : Nat} {i : Int} {f : Nat → Int64} (C : zCv p s m args c Γ b cL_law 7 RL) (hst : l.stackTraces = false) (hTw : zTw (zAb b) s) (tx : Γ.1 x = 9) (tm : Γ.1 mm = 10) (hsc : scr = Γ.2.2.2.2.2.1 2) (hi : 0 ≤ i ∧ i + 6 ≤ (Γ.2.2.2.2.2.2.1 2 : Nat)) (hcs : cells + 1 ≤ room_1.cells ∧ slots + 6 ≤ room_1.slots) (hI : LI Γ x mm G) (kk : ∀ (G' : zH) (f' : Nat → Int64), LI Γ x mm G' → V p l e room_1 s m args below meth c b Γ.2.2.2.1 7 (cells + 1) (slots + 6) Q 1210 [some (zr 202 scr), some (zr 9 x), some (zr 10 mm), some (zr 300 o), some (zi i), none, none] [] ([(o, zOut Γ f')] ++ zWd Γ G')) : V p l e room_1 s m args below meth c b Γ.2.2.2.1 7 cells slots Q 278 [some (zr 202 scr), some (zr 9 x), some (zr 10 mm), some (zr 300 o), some (zi i), none, none] [] ([(o, zOut Γ f)] ++ zWd Γ G) := by
  have hX := C.2.2.2.2.2.2.2.2
  have hc9 : cells ≤ room_1.cells ∧ slots ≤ room_1.slots := ⟨by omega, by omega⟩
  refine v_aload_n (pc := 278) C dL_law_278 rfl ?_
  refine v_arg (pc := 279) C hsc hi (by decide) dL_law_279 dL_law_280 dL_law_282 dL_law_283 dL_law_284 rfl rfl (fun a279 ea279 ra279 => ?_)
  obtain ⟨T, h1, h2, hp, hq, hv⟩ := LI_open hI
  have hg := hI.2.1
  have hB := hI.1
  refine v_ci1 (pc := 285) C dL_law_285 v_L_31 (by decide) (lC_fault (T := T) hX hg h1 hp hq hv) hB (zk_of tx (by decide) (by decide)) ra279 ⟨Nat.le_of_ble_eq_true rfl, Nat.le_of_ble_eq_true rfl⟩ hc9 (Nat.le_of_ble_eq_true rfl) (fun r1 G1 hp1 hB1 => ?_)
  obtain ⟨H1, q1, rfl⟩ := hp1
  refine v_popi (pc := 288) C dL_law_288 ?_
  refine v_aload_n (pc := 289) C dL_law_289 rfl ?_
  refine v_arg (pc := 290) C hsc hi (by decide) dL_law_290 dL_law_291 dL_law_293 dL_law_294 dL_law_295 rfl rfl (fun a290 ea290 ra290 => ?_)
  obtain rfl : a290 = a279 := ea290.trans ea279.symm
  refine v_ci1 (pc := 296) C dL_law_296 v_L_34 (by decide) (lR_fault (T := T) hX (SR_1 hB.1 tm h2) hp) hB1 (zk_of tm (by decide) (by decide)) ra290 ⟨Nat.le_of_ble_eq_true rfl, Nat.le_of_ble_eq_true rfl⟩ hc9 (Nat.le_of_ble_eq_true rfl) (fun r2 G2 hp2 hB2 => ?_)
  obtain ⟨H2, q2, rfl⟩ := hp2
  have hI2 := LI_step hg tx tm hB1 q1 q2 (hp) hB2
  refine v_popi (pc := 299) C dL_law_299 ?_
  refine v_goto (pc := 300) (tgt := 1210) C dL_law_300 (by decide) ?_
  refine v_widen (k := cells + 1) (n := slots + 6) (by omega) (by omega) ?_
  exact kk _ _ hI2

set_option maxHeartbeats 2000000 in
set_option maxRecDepth 100000 in
theorem lc_3 {p : Program} {l : Launch} {e : Env} {s : State} {m : MethodId} {args : Array Value} {below : List Frame} {meth : Method} {c : Code} {Γ : zΓ} {b cells slots : Nat} {Q : State → Prop} {G : zH} {x mm o scr : Nat} {i : Int} {f : Nat → Int64} (C : zCv p s m args c Γ b cL_law 7 RL) (hst : l.stackTraces = false) (hTw : zTw (zAb b) s) (tx : Γ.1 x = 9) (tm : Γ.1 mm = 10) (hsc : scr = Γ.2.2.2.2.2.1 2) (hi : 0 ≤ i ∧ i + 6 ≤ (Γ.2.2.2.2.2.2.1 2 : Nat)) (hcs : cells + 1 ≤ room_1.cells ∧ slots + 6 ≤ room_1.slots) (hI : LI Γ x mm G) (kk : ∀ (G' : zH) (f' : Nat → Int64), LI Γ x mm G' → V p l e room_1 s m args below meth c b Γ.2.2.2.1 7 (cells + 1) (slots + 6) Q 1210 [some (zr 202 scr), some (zr 9 x), some (zr 10 mm), some (zr 300 o), some (zi i), none, none] [] ([(o, zOut Γ f')] ++ zWd Γ G')) : V p l e room_1 s m args below meth c b Γ.2.2.2.1 7 cells slots Q 303 [some (zr 202 scr), some (zr 9 x), some (zr 10 mm), some (zr 300 o), some (zi i), none, none] [] ([(o, zOut Γ f)] ++ zWd Γ G) := by
  have hX := C.2.2.2.2.2.2.2.2
  have hc9 : cells ≤ room_1.cells ∧ slots ≤ room_1.slots := ⟨by omega, by omega⟩
  refine v_aload_n (pc := 303) C dL_law_303 rfl ?_
  refine v_arg (pc := 304) C hsc hi (by decide) dL_law_304 dL_law_305 dL_law_307 dL_law_308 dL_law_309 rfl rfl (fun a304 ea304 ra304 => ?_)
  refine v_arg (pc := 310) C hsc hi (by decide) dL_law_310 dL_law_311 dL_law_313 dL_law_314 dL_law_315 rfl rfl (fun a310 ea310 ra310 => ?_)
  obtain ⟨T, h1, h2, hp, hq, hv⟩ := LI_open hI
  have hg := hI.2.1
  have hB := hI.1
  refine v_ci2 (pc := 316) C dL_law_316 v_L_35 (by decide) (lC_named (T := T) hX hg h1 hp hq hv) hB (zk_of tx (by decide) (by decide)) ra304 ra310 ⟨Nat.le_of_ble_eq_true rfl, Nat.le_of_ble_eq_true rfl⟩ hc9 (Nat.le_of_ble_eq_true rfl) (fun r1 G1 hp1 hB1 => ?_)
  obtain ⟨H1, q1, rfl⟩ := hp1
  refine v_popi (pc := 319) C dL_law_319 ?_
  refine v_aload_n (pc := 320) C dL_law_320 rfl ?_
  refine v_arg (pc := 321) C hsc hi (by decide) dL_law_321 dL_law_322 dL_law_324 dL_law_325 dL_law_326 rfl rfl (fun a321 ea321 ra321 => ?_)
  refine v_arg (pc := 327) C hsc hi (by decide) dL_law_327 dL_law_328 dL_law_330 dL_law_331 dL_law_332 rfl rfl (fun a327 ea327 ra327 => ?_)
  obtain rfl : a321 = a304 := ea321.trans ea304.symm
  obtain rfl : a327 = a310 := ea327.trans ea310.symm
  refine v_ci2 (pc := 333) C dL_law_333 v_L_38 (by decide) (lR_named (T := T) hX (SR_1 hB.1 tm h2) hp) hB1 (zk_of tm (by decide) (by decide)) ra321 ra327 ⟨Nat.le_of_ble_eq_true rfl, Nat.le_of_ble_eq_true rfl⟩ hc9 (Nat.le_of_ble_eq_true rfl) (fun r2 G2 hp2 hB2 => ?_)
  obtain ⟨H2, q2, rfl⟩ := hp2
  have hI2 := LI_step hg tx tm hB1 q1 q2 (hp) hB2
  refine v_popi (pc := 336) C dL_law_336 ?_
  refine v_goto (pc := 337) (tgt := 1210) C dL_law_337 (by decide) ?_
  refine v_widen (k := cells + 1) (n := slots + 6) (by omega) (by omega) ?_
  exact kk _ _ hI2

set_option maxHeartbeats 2000000 in
set_option maxRecDepth 100000 in
theorem lc_4 {p : Program} {l : Launch} {e : Env} {s : State} {m : MethodId} {args : Array Value} {below : List Frame} {meth : Method} {c : Code} {Γ : zΓ} {b cells slots : Nat} {Q : State → Prop} {G : zH} {x mm o scr : Nat} {i : Int} {f : Nat → Int64} (C : zCv p s m args c Γ b cL_law 7 RL) (hst : l.stackTraces = false) (hTw : zTw (zAb b) s) (tx : Γ.1 x = 9) (tm : Γ.1 mm = 10) (hsc : scr = Γ.2.2.2.2.2.1 2) (hi : 0 ≤ i ∧ i + 6 ≤ (Γ.2.2.2.2.2.2.1 2 : Nat)) (hcs : cells + 1 ≤ room_1.cells ∧ slots + 6 ≤ room_1.slots) (hI : LI Γ x mm G) (kk : ∀ (G' : zH) (f' : Nat → Int64), LI Γ x mm G' → V p l e room_1 s m args below meth c b Γ.2.2.2.1 7 (cells + 1) (slots + 6) Q 1210 [some (zr 202 scr), some (zr 9 x), some (zr 10 mm), some (zr 300 o), some (zi i), none, none] [] ([(o, zOut Γ f')] ++ zWd Γ G')) : V p l e room_1 s m args below meth c b Γ.2.2.2.1 7 cells slots Q 340 [some (zr 202 scr), some (zr 9 x), some (zr 10 mm), some (zr 300 o), some (zi i), none, none] [] ([(o, zOut Γ f)] ++ zWd Γ G) := by
  have hX := C.2.2.2.2.2.2.2.2
  have hc9 : cells ≤ room_1.cells ∧ slots ≤ room_1.slots := ⟨by omega, by omega⟩
  refine v_aload_n (pc := 340) C dL_law_340 rfl ?_
  refine v_arg (pc := 341) C hsc hi (by decide) dL_law_341 dL_law_342 dL_law_344 dL_law_345 dL_law_346 rfl rfl (fun a341 ea341 ra341 => ?_)
  refine v_arg (pc := 347) C hsc hi (by decide) dL_law_347 dL_law_348 dL_law_350 dL_law_351 dL_law_352 rfl rfl (fun a347 ea347 ra347 => ?_)
  refine v_aload_n (pc := 353) C dL_law_353 rfl ?_
  obtain ⟨T, h1, h2, hp, hq, hv⟩ := LI_open hI
  have hg := hI.2.1
  have hB := hI.1
  refine v_lk (pc := 354) C hst hB tx ra341 ra347 hTw dL_law_354 lk_5 lk_6 lk_7 ⟨Nat.le_of_ble_eq_true rfl, Nat.le_of_ble_eq_true rfl⟩ hcs (Nat.le_of_ble_eq_true rfl) (fun r1 f1 G1 hB1 hs1 => ?_)
  refine v_istore (pc := 357) C dL_law_357 (by decide) ?_
  dsimp only [zset, zclr]
  refine v_aload_n (pc := 359) C dL_law_359 rfl ?_
  refine v_arg (pc := 360) C hsc hi (by decide) dL_law_360 dL_law_361 dL_law_363 dL_law_364 dL_law_365 rfl rfl (fun a360 ea360 ra360 => ?_)
  refine v_arg (pc := 366) C hsc hi (by decide) dL_law_366 dL_law_367 dL_law_369 dL_law_370 dL_law_371 rfl rfl (fun a366 ea366 ra366 => ?_)
  refine v_ci2 (pc := 372) C dL_law_372 v_L_44 (by decide) (lR_look (T := T) hX (SR_t hB.1 tm (eq_s (by decide) hs1) h2) hp) hB1 (zk_of tm (by decide) (by decide)) ra360 ra366 ⟨Nat.le_of_ble_eq_true rfl, Nat.le_of_ble_eq_true rfl⟩ ⟨by omega, by omega⟩ (Nat.le_of_ble_eq_true rfl) (fun r2 G2 hp2 hB2 => ?_)
  obtain ⟨H2, q2, rfl⟩ := hp2
  have hI2 := LI_s hg tx tm hB hs1 h1 q2 hp hB2
  refine v_istore (pc := 375) C dL_law_375 (by decide) ?_
  dsimp only [zset, zclr]
  refine v_goto (pc := 377) (tgt := 1210) C dL_law_377 (by decide) ?_
  exact v_wk (kk _ _ hI2) (zwk_s rfl (zwk_s rfl (zwk_s rfl (zwk_s rfl (zwk_s rfl (zwk_n (zwk_n zwk_0)))))))

set_option maxHeartbeats 2000000 in
set_option maxRecDepth 100000 in
theorem lc_5 {p : Program} {l : Launch} {e : Env} {s : State} {m : MethodId} {args : Array Value} {below : List Frame} {meth : Method} {c : Code} {Γ : zΓ} {b cells slots : Nat} {Q : State → Prop} {G : zH} {x mm o scr : Nat} {i : Int} {f : Nat → Int64} (C : zCv p s m args c Γ b cL_law 7 RL) (hst : l.stackTraces = false) (hTw : zTw (zAb b) s) (tx : Γ.1 x = 9) (tm : Γ.1 mm = 10) (hsc : scr = Γ.2.2.2.2.2.1 2) (hi : 0 ≤ i ∧ i + 6 ≤ (Γ.2.2.2.2.2.2.1 2 : Nat)) (hcs : cells + 1 ≤ room_1.cells ∧ slots + 6 ≤ room_1.slots) (hI : LI Γ x mm G) (kk : ∀ (G' : zH) (f' : Nat → Int64), LI Γ x mm G' → V p l e room_1 s m args below meth c b Γ.2.2.2.1 7 (cells + 1) (slots + 6) Q 1210 [some (zr 202 scr), some (zr 9 x), some (zr 10 mm), some (zr 300 o), some (zi i), none, none] [] ([(o, zOut Γ f')] ++ zWd Γ G')) : V p l e room_1 s m args below meth c b Γ.2.2.2.1 7 cells slots Q 380 [some (zr 202 scr), some (zr 9 x), some (zr 10 mm), some (zr 300 o), some (zi i), none, none] [] ([(o, zOut Γ f)] ++ zWd Γ G) := by
  have hX := C.2.2.2.2.2.2.2.2
  have hc9 : cells ≤ room_1.cells ∧ slots ≤ room_1.slots := ⟨by omega, by omega⟩
  refine v_aload_n (pc := 380) C dL_law_380 rfl ?_
  refine v_arg (pc := 381) C hsc hi (by decide) dL_law_381 dL_law_382 dL_law_384 dL_law_385 dL_law_386 rfl rfl (fun a381 ea381 ra381 => ?_)
  refine v_arg (pc := 387) C hsc hi (by decide) dL_law_387 dL_law_388 dL_law_390 dL_law_391 dL_law_392 rfl rfl (fun a387 ea387 ra387 => ?_)
  refine v_arg (pc := 393) C hsc hi (by decide) dL_law_393 dL_law_394 dL_law_396 dL_law_397 dL_law_398 rfl rfl (fun a393 ea393 ra393 => ?_)
  obtain ⟨T, h1, h2, hp, hq, hv⟩ := LI_open hI
  have hg := hI.2.1
  have hB := hI.1
  refine v_ci3 (pc := 399) C dL_law_399 v_L_45 (by decide) (lC_did (T := T) hX hg h1 hp hq hv) hB (zk_of tx (by decide) (by decide)) ra381 ra387 ra393 ⟨Nat.le_of_ble_eq_true rfl, Nat.le_of_ble_eq_true rfl⟩ hc9 (Nat.le_of_ble_eq_true rfl) (fun r1 G1 hp1 hB1 => ?_)
  obtain ⟨H1, ⟨q1, e1⟩, rfl⟩ := hp1
  refine v_popi (pc := 402) C dL_law_402 ?_
  refine v_aload_n (pc := 403) C dL_law_403 rfl ?_
  refine v_arg (pc := 404) C hsc hi (by decide) dL_law_404 dL_law_405 dL_law_407 dL_law_408 dL_law_409 rfl rfl (fun a404 ea404 ra404 => ?_)
  refine v_arg (pc := 410) C hsc hi (by decide) dL_law_410 dL_law_411 dL_law_413 dL_law_414 dL_law_415 rfl rfl (fun a410 ea410 ra410 => ?_)
  refine v_arg (pc := 416) C hsc hi (by decide) dL_law_416 dL_law_417 dL_law_419 dL_law_420 dL_law_421 rfl rfl (fun a416 ea416 ra416 => ?_)
  obtain rfl : a404 = a381 := ea404.trans ea381.symm
  obtain rfl : a410 = a387 := ea410.trans ea387.symm
  obtain rfl : a416 = a393 := ea416.trans ea393.symm
  refine v_ci3 (pc := 422) C dL_law_422 v_L_49 (by decide) (lR_did (T := T) hX (SR_1 hB.1 tm h2) hp) hB1 (zk_of tm (by decide) (by decide)) ra404 ra410 ra416 ⟨Nat.le_of_ble_eq_true rfl, Nat.le_of_ble_eq_true rfl⟩ hc9 (Nat.le_of_ble_eq_true rfl) (fun r2 G2 hp2 hB2 => ?_)
  obtain ⟨H2, ⟨q2, e2⟩, rfl⟩ := hp2
  have hI2 := LI_step hg tx tm hB1 q1 q2 (hp) hB2
  refine v_popi (pc := 425) C dL_law_425 ?_
  refine v_goto (pc := 426) (tgt := 1210) C dL_law_426 (by decide) ?_
  refine v_widen (k := cells + 1) (n := slots + 6) (by omega) (by omega) ?_
  exact kk _ _ hI2

set_option maxHeartbeats 2000000 in
set_option maxRecDepth 100000 in
theorem lc_6 {p : Program} {l : Launch} {e : Env} {s : State} {m : MethodId} {args : Array Value} {below : List Frame} {meth : Method} {c : Code} {Γ : zΓ} {b cells slots : Nat} {Q : State → Prop} {G : zH} {x mm o scr : Nat} {i : Int} {f : Nat → Int64} (C : zCv p s m args c Γ b cL_law 7 RL) (hst : l.stackTraces = false) (hTw : zTw (zAb b) s) (tx : Γ.1 x = 9) (tm : Γ.1 mm = 10) (hsc : scr = Γ.2.2.2.2.2.1 2) (hi : 0 ≤ i ∧ i + 6 ≤ (Γ.2.2.2.2.2.2.1 2 : Nat)) (hcs : cells + 1 ≤ room_1.cells ∧ slots + 6 ≤ room_1.slots) (hI : LI Γ x mm G) (kk : ∀ (G' : zH) (f' : Nat → Int64), LI Γ x mm G' → V p l e room_1 s m args below meth c b Γ.2.2.2.1 7 (cells + 1) (slots + 6) Q 1210 [some (zr 202 scr), some (zr 9 x), some (zr 10 mm), some (zr 300 o), some (zi i), none, none] [] ([(o, zOut Γ f')] ++ zWd Γ G')) : V p l e room_1 s m args below meth c b Γ.2.2.2.1 7 cells slots Q 429 [some (zr 202 scr), some (zr 9 x), some (zr 10 mm), some (zr 300 o), some (zi i), none, none] [] ([(o, zOut Γ f)] ++ zWd Γ G) := by
  have hX := C.2.2.2.2.2.2.2.2
  have hc9 : cells ≤ room_1.cells ∧ slots ≤ room_1.slots := ⟨by omega, by omega⟩
  refine v_aload_n (pc := 429) C dL_law_429 rfl ?_
  refine v_arg (pc := 430) C hsc hi (by decide) dL_law_430 dL_law_431 dL_law_433 dL_law_434 dL_law_435 rfl rfl (fun a430 ea430 ra430 => ?_)
  refine v_arg (pc := 436) C hsc hi (by decide) dL_law_436 dL_law_437 dL_law_439 dL_law_440 dL_law_441 rfl rfl (fun a436 ea436 ra436 => ?_)
  obtain ⟨T, h1, h2, hp, hq, hv⟩ := LI_open hI
  have hg := hI.2.1
  have hB := hI.1
  refine v_ci2 (pc := 442) C dL_law_442 v_L_50 (by decide) (lC_fine (T := T) hX hg h1 hp hq hv) hB (zk_of tx (by decide) (by decide)) ra430 ra436 ⟨Nat.le_of_ble_eq_true rfl, Nat.le_of_ble_eq_true rfl⟩ hc9 (Nat.le_of_ble_eq_true rfl) (fun r1 G1 hp1 hB1 => ?_)
  obtain ⟨H1, ⟨q1, e1⟩, rfl⟩ := hp1
  refine v_popi (pc := 445) C dL_law_445 ?_
  refine v_aload_n (pc := 446) C dL_law_446 rfl ?_
  refine v_arg (pc := 447) C hsc hi (by decide) dL_law_447 dL_law_448 dL_law_450 dL_law_451 dL_law_452 rfl rfl (fun a447 ea447 ra447 => ?_)
  refine v_arg (pc := 453) C hsc hi (by decide) dL_law_453 dL_law_454 dL_law_456 dL_law_457 dL_law_458 rfl rfl (fun a453 ea453 ra453 => ?_)
  obtain rfl : a447 = a430 := ea447.trans ea430.symm
  obtain rfl : a453 = a436 := ea453.trans ea436.symm
  refine v_ci2 (pc := 459) C dL_law_459 v_L_53 (by decide) (lR_fine (T := T) hX (SR_1 hB.1 tm h2) hp) hB1 (zk_of tm (by decide) (by decide)) ra447 ra453 ⟨Nat.le_of_ble_eq_true rfl, Nat.le_of_ble_eq_true rfl⟩ hc9 (Nat.le_of_ble_eq_true rfl) (fun r2 G2 hp2 hB2 => ?_)
  obtain ⟨H2, ⟨q2, e2⟩, rfl⟩ := hp2
  have hI2 := LI_step hg tx tm hB1 q1 q2 (hp) hB2
  refine v_popi (pc := 462) C dL_law_462 ?_
  refine v_goto (pc := 463) (tgt := 1210) C dL_law_463 (by decide) ?_
  refine v_widen (k := cells + 1) (n := slots + 6) (by omega) (by omega) ?_
  exact kk _ _ hI2

set_option maxHeartbeats 2000000 in
set_option maxRecDepth 100000 in
theorem lc_7 {p : Program} {l : Launch} {e : Env} {s : State} {m : MethodId} {args : Array Value} {below : List Frame} {meth : Method} {c : Code} {Γ : zΓ} {b cells slots : Nat} {Q : State → Prop} {G : zH} {x mm o scr : Nat} {i : Int} {f : Nat → Int64} (C : zCv p s m args c Γ b cL_law 7 RL) (hst : l.stackTraces = false) (hTw : zTw (zAb b) s) (tx : Γ.1 x = 9) (tm : Γ.1 mm = 10) (hsc : scr = Γ.2.2.2.2.2.1 2) (hi : 0 ≤ i ∧ i + 6 ≤ (Γ.2.2.2.2.2.2.1 2 : Nat)) (hcs : cells + 1 ≤ room_1.cells ∧ slots + 6 ≤ room_1.slots) (hI : LI Γ x mm G) (kk : ∀ (G' : zH) (f' : Nat → Int64), LI Γ x mm G' → V p l e room_1 s m args below meth c b Γ.2.2.2.1 7 (cells + 1) (slots + 6) Q 1210 [some (zr 202 scr), some (zr 9 x), some (zr 10 mm), some (zr 300 o), some (zi i), none, none] [] ([(o, zOut Γ f')] ++ zWd Γ G')) : V p l e room_1 s m args below meth c b Γ.2.2.2.1 7 cells slots Q 466 [some (zr 202 scr), some (zr 9 x), some (zr 10 mm), some (zr 300 o), some (zi i), none, none] [] ([(o, zOut Γ f)] ++ zWd Γ G) := by
  have hX := C.2.2.2.2.2.2.2.2
  have hc9 : cells ≤ room_1.cells ∧ slots ≤ room_1.slots := ⟨by omega, by omega⟩
  refine v_aload_n (pc := 466) C dL_law_466 rfl ?_
  refine v_arg (pc := 467) C hsc hi (by decide) dL_law_467 dL_law_468 dL_law_470 dL_law_471 dL_law_472 rfl rfl (fun a467 ea467 ra467 => ?_)
  refine v_arg (pc := 473) C hsc hi (by decide) dL_law_473 dL_law_474 dL_law_476 dL_law_477 dL_law_478 rfl rfl (fun a473 ea473 ra473 => ?_)
  refine v_arg (pc := 479) C hsc hi (by decide) dL_law_479 dL_law_480 dL_law_482 dL_law_483 dL_law_484 rfl rfl (fun a479 ea479 ra479 => ?_)
  obtain ⟨T, h1, h2, hp, hq, hv⟩ := LI_open hI
  have hg := hI.2.1
  have hB := hI.1
  refine v_cj3 (pc := 485) C dL_law_485 v_L_54 (by decide) (lC_law (T := T) hX hg h1 hp hq hv) hB (zk_of tx (by decide) (by decide)) ra467 ra473 ra479 ⟨Nat.le_of_ble_eq_true rfl, Nat.le_of_ble_eq_true rfl⟩ hc9 (Nat.le_of_ble_eq_true rfl) (fun r1 G1 hp1 hB1 => ?_)
  obtain ⟨H1, ⟨q1, e1⟩, rfl⟩ := hp1
  refine v_pop2 (pc := 488) C dL_law_488 ?_
  refine v_aload_n (pc := 489) C dL_law_489 rfl ?_
  refine v_arg (pc := 490) C hsc hi (by decide) dL_law_490 dL_law_491 dL_law_493 dL_law_494 dL_law_495 rfl rfl (fun a490 ea490 ra490 => ?_)
  refine v_arg (pc := 496) C hsc hi (by decide) dL_law_496 dL_law_497 dL_law_499 dL_law_500 dL_law_501 rfl rfl (fun a496 ea496 ra496 => ?_)
  refine v_arg (pc := 502) C hsc hi (by decide) dL_law_502 dL_law_503 dL_law_505 dL_law_506 dL_law_507 rfl rfl (fun a502 ea502 ra502 => ?_)
  obtain rfl : a490 = a467 := ea490.trans ea467.symm
  obtain rfl : a496 = a473 := ea496.trans ea473.symm
  obtain rfl : a502 = a479 := ea502.trans ea479.symm
  refine v_cj3 (pc := 508) C dL_law_508 v_L_58 (by decide) (lR_law (T := T) hX (SR_1 hB.1 tm h2) hp) hB1 (zk_of tm (by decide) (by decide)) ra490 ra496 ra502 ⟨Nat.le_of_ble_eq_true rfl, Nat.le_of_ble_eq_true rfl⟩ hc9 (Nat.le_of_ble_eq_true rfl) (fun r2 G2 hp2 hB2 => ?_)
  obtain ⟨H2, ⟨q2, e2⟩, rfl⟩ := hp2
  have hI2 := LI_step hg tx tm hB1 q1 q2 (hp) hB2
  refine v_pop2 (pc := 511) C dL_law_511 ?_
  refine v_goto (pc := 512) (tgt := 1210) C dL_law_512 (by decide) ?_
  refine v_widen (k := cells + 1) (n := slots + 6) (by omega) (by omega) ?_
  exact kk _ _ hI2

set_option maxHeartbeats 2000000 in
set_option maxRecDepth 100000 in
theorem lc_8 {p : Program} {l : Launch} {e : Env} {s : State} {m : MethodId} {args : Array Value} {below : List Frame} {meth : Method} {c : Code} {Γ : zΓ} {b cells slots : Nat} {Q : State → Prop} {G : zH} {x mm o scr : Nat} {i : Int} {f : Nat → Int64} (C : zCv p s m args c Γ b cL_law 7 RL) (hst : l.stackTraces = false) (hTw : zTw (zAb b) s) (tx : Γ.1 x = 9) (tm : Γ.1 mm = 10) (hsc : scr = Γ.2.2.2.2.2.1 2) (hi : 0 ≤ i ∧ i + 6 ≤ (Γ.2.2.2.2.2.2.1 2 : Nat)) (hcs : cells + 1 ≤ room_1.cells ∧ slots + 6 ≤ room_1.slots) (hI : LI Γ x mm G) (kk : ∀ (G' : zH) (f' : Nat → Int64), LI Γ x mm G' → V p l e room_1 s m args below meth c b Γ.2.2.2.1 7 (cells + 1) (slots + 6) Q 1210 [some (zr 202 scr), some (zr 9 x), some (zr 10 mm), some (zr 300 o), some (zi i), none, none] [] ([(o, zOut Γ f')] ++ zWd Γ G')) : V p l e room_1 s m args below meth c b Γ.2.2.2.1 7 cells slots Q 515 [some (zr 202 scr), some (zr 9 x), some (zr 10 mm), some (zr 300 o), some (zi i), none, none] [] ([(o, zOut Γ f)] ++ zWd Γ G) := by
  have hX := C.2.2.2.2.2.2.2.2
  have hc9 : cells ≤ room_1.cells ∧ slots ≤ room_1.slots := ⟨by omega, by omega⟩
  refine v_aload_n (pc := 515) C dL_law_515 rfl ?_
  refine v_arg (pc := 516) C hsc hi (by decide) dL_law_516 dL_law_517 dL_law_519 dL_law_520 dL_law_521 rfl rfl (fun a516 ea516 ra516 => ?_)
  refine v_arg (pc := 522) C hsc hi (by decide) dL_law_522 dL_law_523 dL_law_525 dL_law_526 dL_law_527 rfl rfl (fun a522 ea522 ra522 => ?_)
  obtain ⟨T, h1, h2, hp, hq, hv⟩ := LI_open hI
  have hg := hI.2.1
  have hB := hI.1
  refine v_ci2 (pc := 528) C dL_law_528 v_L_59 (by decide) (lC_confess (T := T) hX hg h1 hp hq hv) hB (zk_of tx (by decide) (by decide)) ra516 ra522 ⟨Nat.le_of_ble_eq_true rfl, Nat.le_of_ble_eq_true rfl⟩ hc9 (Nat.le_of_ble_eq_true rfl) (fun r1 G1 hp1 hB1 => ?_)
  obtain ⟨H1, ⟨q1, e1⟩, rfl⟩ := hp1
  refine v_popi (pc := 531) C dL_law_531 ?_
  refine v_aload_n (pc := 532) C dL_law_532 rfl ?_
  refine v_arg (pc := 533) C hsc hi (by decide) dL_law_533 dL_law_534 dL_law_536 dL_law_537 dL_law_538 rfl rfl (fun a533 ea533 ra533 => ?_)
  refine v_arg (pc := 539) C hsc hi (by decide) dL_law_539 dL_law_540 dL_law_542 dL_law_543 dL_law_544 rfl rfl (fun a539 ea539 ra539 => ?_)
  obtain rfl : a533 = a516 := ea533.trans ea516.symm
  obtain rfl : a539 = a522 := ea539.trans ea522.symm
  refine v_ci2 (pc := 545) C dL_law_545 v_L_62 (by decide) (lR_confess (T := T) hX (SR_1 hB.1 tm h2) hp) hB1 (zk_of tm (by decide) (by decide)) ra533 ra539 ⟨Nat.le_of_ble_eq_true rfl, Nat.le_of_ble_eq_true rfl⟩ hc9 (Nat.le_of_ble_eq_true rfl) (fun r2 G2 hp2 hB2 => ?_)
  obtain ⟨H2, ⟨q2, e2⟩, rfl⟩ := hp2
  have hI2 := LI_step hg tx tm hB1 q1 q2 (SPs_confess hp) hB2
  refine v_popi (pc := 548) C dL_law_548 ?_
  refine v_goto (pc := 549) (tgt := 1210) C dL_law_549 (by decide) ?_
  refine v_widen (k := cells + 1) (n := slots + 6) (by omega) (by omega) ?_
  exact kk _ _ hI2

set_option maxHeartbeats 2000000 in
set_option maxRecDepth 100000 in
theorem lc_9 {p : Program} {l : Launch} {e : Env} {s : State} {m : MethodId} {args : Array Value} {below : List Frame} {meth : Method} {c : Code} {Γ : zΓ} {b cells slots : Nat} {Q : State → Prop} {G : zH} {x mm o scr : Nat} {i : Int} {f : Nat → Int64} (C : zCv p s m args c Γ b cL_law 7 RL) (hst : l.stackTraces = false) (hTw : zTw (zAb b) s) (tx : Γ.1 x = 9) (tm : Γ.1 mm = 10) (hsc : scr = Γ.2.2.2.2.2.1 2) (hi : 0 ≤ i ∧ i + 6 ≤ (Γ.2.2.2.2.2.2.1 2 : Nat)) (hcs : cells + 1 ≤ room_1.cells ∧ slots + 6 ≤ room_1.slots) (hI : LI Γ x mm G) (kk : ∀ (G' : zH) (f' : Nat → Int64), LI Γ x mm G' → V p l e room_1 s m args below meth c b Γ.2.2.2.1 7 (cells + 1) (slots + 6) Q 1210 [some (zr 202 scr), some (zr 9 x), some (zr 10 mm), some (zr 300 o), some (zi i), none, none] [] ([(o, zOut Γ f')] ++ zWd Γ G')) : V p l e room_1 s m args below meth c b Γ.2.2.2.1 7 cells slots Q 552 [some (zr 202 scr), some (zr 9 x), some (zr 10 mm), some (zr 300 o), some (zi i), none, none] [] ([(o, zOut Γ f)] ++ zWd Γ G) := by
  have hX := C.2.2.2.2.2.2.2.2
  have hc9 : cells ≤ room_1.cells ∧ slots ≤ room_1.slots := ⟨by omega, by omega⟩
  refine v_aload_n (pc := 552) C dL_law_552 rfl ?_
  refine v_arg (pc := 553) C hsc hi (by decide) dL_law_553 dL_law_554 dL_law_556 dL_law_557 dL_law_558 rfl rfl (fun a553 ea553 ra553 => ?_)
  obtain ⟨T, h1, h2, hp, hq, hv⟩ := LI_open hI
  have hg := hI.2.1
  have hB := hI.1
  refine v_ci1 (pc := 559) C dL_law_559 v_L_63 (by decide) (lC_ask (T := T) hX hg h1 hp hq hv) hB (zk_of tx (by decide) (by decide)) ra553 ⟨Nat.le_of_ble_eq_true rfl, Nat.le_of_ble_eq_true rfl⟩ hc9 (Nat.le_of_ble_eq_true rfl) (fun r1 G1 hp1 hB1 => ?_)
  obtain ⟨H1, ⟨q1, e1⟩, rfl⟩ := hp1
  refine v_popi (pc := 562) C dL_law_562 ?_
  refine v_aload_n (pc := 563) C dL_law_563 rfl ?_
  refine v_arg (pc := 564) C hsc hi (by decide) dL_law_564 dL_law_565 dL_law_567 dL_law_568 dL_law_569 rfl rfl (fun a564 ea564 ra564 => ?_)
  obtain rfl : a564 = a553 := ea564.trans ea553.symm
  refine v_ci1 (pc := 570) C dL_law_570 v_L_66 (by decide) (lR_ask (T := T) hX (SR_1 hB.1 tm h2) hp) hB1 (zk_of tm (by decide) (by decide)) ra564 ⟨Nat.le_of_ble_eq_true rfl, Nat.le_of_ble_eq_true rfl⟩ hc9 (Nat.le_of_ble_eq_true rfl) (fun r2 G2 hp2 hB2 => ?_)
  obtain ⟨H2, ⟨q2, e2⟩, rfl⟩ := hp2
  have hI2 := LI_step hg tx tm hB1 q1 q2 (SPs_ask hp) hB2
  refine v_popi (pc := 573) C dL_law_573 ?_
  refine v_goto (pc := 574) (tgt := 1210) C dL_law_574 (by decide) ?_
  refine v_widen (k := cells + 1) (n := slots + 6) (by omega) (by omega) ?_
  exact kk _ _ hI2

set_option maxHeartbeats 2000000 in
set_option maxRecDepth 100000 in
theorem lc_10 {p : Program} {l : Launch} {e : Env} {s : State} {m : MethodId} {args : Array Value} {below : List Frame} {meth : Method} {c : Code} {Γ : zΓ} {b cells slots : Nat} {Q : State → Prop} {G : zH} {x mm o scr : Nat} {i : Int} {f : Nat → Int64} (C : zCv p s m args c Γ b cL_law 7 RL) (hst : l.stackTraces = false) (hTw : zTw (zAb b) s) (tx : Γ.1 x = 9) (tm : Γ.1 mm = 10) (hsc : scr = Γ.2.2.2.2.2.1 2) (hi : 0 ≤ i ∧ i + 6 ≤ (Γ.2.2.2.2.2.2.1 2 : Nat)) (hcs : cells + 1 ≤ room_1.cells ∧ slots + 6 ≤ room_1.slots) (hI : LI Γ x mm G) (kk : ∀ (G' : zH) (f' : Nat → Int64), LI Γ x mm G' → V p l e room_1 s m args below meth c b Γ.2.2.2.1 7 (cells + 1) (slots + 6) Q 1210 [some (zr 202 scr), some (zr 9 x), some (zr 10 mm), some (zr 300 o), some (zi i), none, none] [] ([(o, zOut Γ f')] ++ zWd Γ G')) : V p l e room_1 s m args below meth c b Γ.2.2.2.1 7 cells slots Q 577 [some (zr 202 scr), some (zr 9 x), some (zr 10 mm), some (zr 300 o), some (zi i), none, none] [] ([(o, zOut Γ f)] ++ zWd Γ G) := by
  have hX := C.2.2.2.2.2.2.2.2
  have hc9 : cells ≤ room_1.cells ∧ slots ≤ room_1.slots := ⟨by omega, by omega⟩
  refine v_aload_n (pc := 577) C dL_law_577 rfl ?_
  refine v_arg (pc := 578) C hsc hi (by decide) dL_law_578 dL_law_579 dL_law_581 dL_law_582 dL_law_583 rfl rfl (fun a578 ea578 ra578 => ?_)
  refine v_arg (pc := 584) C hsc hi (by decide) dL_law_584 dL_law_585 dL_law_587 dL_law_588 dL_law_589 rfl rfl (fun a584 ea584 ra584 => ?_)
  obtain ⟨T, h1, h2, hp, hq, hv⟩ := LI_open hI
  have hg := hI.2.1
  have hB := hI.1
  refine v_ci2 (pc := 590) C dL_law_590 v_L_67 (by decide) (lC_fall (T := T) hX hg h1 hp hq hv) hB (zk_of tx (by decide) (by decide)) ra578 ra584 ⟨Nat.le_of_ble_eq_true rfl, Nat.le_of_ble_eq_true rfl⟩ hc9 (Nat.le_of_ble_eq_true rfl) (fun r1 G1 hp1 hB1 => ?_)
  obtain ⟨H1, ⟨q1, e1⟩, rfl⟩ := hp1
  refine v_popi (pc := 593) C dL_law_593 ?_
  refine v_aload_n (pc := 594) C dL_law_594 rfl ?_
  refine v_arg (pc := 595) C hsc hi (by decide) dL_law_595 dL_law_596 dL_law_598 dL_law_599 dL_law_600 rfl rfl (fun a595 ea595 ra595 => ?_)
  refine v_arg (pc := 601) C hsc hi (by decide) dL_law_601 dL_law_602 dL_law_604 dL_law_605 dL_law_606 rfl rfl (fun a601 ea601 ra601 => ?_)
  obtain rfl : a595 = a578 := ea595.trans ea578.symm
  obtain rfl : a601 = a584 := ea601.trans ea584.symm
  refine v_ci2 (pc := 607) C dL_law_607 v_L_70 (by decide) (lR_fall (T := T) hX (SR_1 hB.1 tm h2) hp) hB1 (zk_of tm (by decide) (by decide)) ra595 ra601 ⟨Nat.le_of_ble_eq_true rfl, Nat.le_of_ble_eq_true rfl⟩ hc9 (Nat.le_of_ble_eq_true rfl) (fun r2 G2 hp2 hB2 => ?_)
  obtain ⟨H2, ⟨q2, e2⟩, rfl⟩ := hp2
  have hI2 := LI_step hg tx tm hB1 q1 q2 (SPs_fall hp) hB2
  refine v_popi (pc := 610) C dL_law_610 ?_
  refine v_goto (pc := 611) (tgt := 1210) C dL_law_611 (by decide) ?_
  refine v_widen (k := cells + 1) (n := slots + 6) (by omega) (by omega) ?_
  exact kk _ _ hI2

set_option maxHeartbeats 2000000 in
set_option maxRecDepth 100000 in
theorem lc_11 {p : Program} {l : Launch} {e : Env} {s : State} {m : MethodId} {args : Array Value} {below : List Frame} {meth : Method} {c : Code} {Γ : zΓ} {b cells slots : Nat} {Q : State → Prop} {G : zH} {x mm o scr : Nat} {i : Int} {f : Nat → Int64} (C : zCv p s m args c Γ b cL_law 7 RL) (hst : l.stackTraces = false) (hTw : zTw (zAb b) s) (tx : Γ.1 x = 9) (tm : Γ.1 mm = 10) (hsc : scr = Γ.2.2.2.2.2.1 2) (hi : 0 ≤ i ∧ i + 6 ≤ (Γ.2.2.2.2.2.2.1 2 : Nat)) (hcs : cells + 1 ≤ room_1.cells ∧ slots + 6 ≤ room_1.slots) (hI : LI Γ x mm G) (kk : ∀ (G' : zH) (f' : Nat → Int64), LI Γ x mm G' → V p l e room_1 s m args below meth c b Γ.2.2.2.1 7 (cells + 1) (slots + 6) Q 1210 [some (zr 202 scr), some (zr 9 x), some (zr 10 mm), some (zr 300 o), some (zi i), none, none] [] ([(o, zOut Γ f')] ++ zWd Γ G')) : V p l e room_1 s m args below meth c b Γ.2.2.2.1 7 cells slots Q 614 [some (zr 202 scr), some (zr 9 x), some (zr 10 mm), some (zr 300 o), some (zi i), none, none] [] ([(o, zOut Γ f)] ++ zWd Γ G) := by
  have hX := C.2.2.2.2.2.2.2.2
  have hc9 : cells ≤ room_1.cells ∧ slots ≤ room_1.slots := ⟨by omega, by omega⟩
  refine v_aload_n (pc := 614) C dL_law_614 rfl ?_
  refine v_arg (pc := 615) C hsc hi (by decide) dL_law_615 dL_law_616 dL_law_618 dL_law_619 dL_law_620 rfl rfl (fun a615 ea615 ra615 => ?_)
  refine v_arg (pc := 621) C hsc hi (by decide) dL_law_621 dL_law_622 dL_law_624 dL_law_625 dL_law_626 rfl rfl (fun a621 ea621 ra621 => ?_)
  obtain ⟨T, h1, h2, hp, hq, hv⟩ := LI_open hI
  have hg := hI.2.1
  have hB := hI.1
  refine v_ci2 (pc := 627) C dL_law_627 v_L_71 (by decide) (lC_sack (T := T) hX hg h1 hp hq hv) hB (zk_of tx (by decide) (by decide)) ra615 ra621 ⟨Nat.le_of_ble_eq_true rfl, Nat.le_of_ble_eq_true rfl⟩ hc9 (Nat.le_of_ble_eq_true rfl) (fun r1 G1 hp1 hB1 => ?_)
  obtain ⟨H1, ⟨q1, e1⟩, rfl⟩ := hp1
  refine v_popi (pc := 630) C dL_law_630 ?_
  refine v_aload_n (pc := 631) C dL_law_631 rfl ?_
  refine v_arg (pc := 632) C hsc hi (by decide) dL_law_632 dL_law_633 dL_law_635 dL_law_636 dL_law_637 rfl rfl (fun a632 ea632 ra632 => ?_)
  refine v_arg (pc := 638) C hsc hi (by decide) dL_law_638 dL_law_639 dL_law_641 dL_law_642 dL_law_643 rfl rfl (fun a638 ea638 ra638 => ?_)
  obtain rfl : a632 = a615 := ea632.trans ea615.symm
  obtain rfl : a638 = a621 := ea638.trans ea621.symm
  refine v_ci2 (pc := 644) C dL_law_644 v_L_74 (by decide) (lR_sack (T := T) hX (SR_1 hB.1 tm h2) hp) hB1 (zk_of tm (by decide) (by decide)) ra632 ra638 ⟨Nat.le_of_ble_eq_true rfl, Nat.le_of_ble_eq_true rfl⟩ hc9 (Nat.le_of_ble_eq_true rfl) (fun r2 G2 hp2 hB2 => ?_)
  obtain ⟨H2, ⟨q2, e2⟩, rfl⟩ := hp2
  have hI2 := LI_step hg tx tm hB1 q1 q2 (hp) hB2
  refine v_popi (pc := 647) C dL_law_647 ?_
  refine v_goto (pc := 648) (tgt := 1210) C dL_law_648 (by decide) ?_
  refine v_widen (k := cells + 1) (n := slots + 6) (by omega) (by omega) ?_
  exact kk _ _ hI2

set_option maxHeartbeats 2000000 in
set_option maxRecDepth 100000 in
theorem lc_12 {p : Program} {l : Launch} {e : Env} {s : State} {m : MethodId} {args : Array Value} {below : List Frame} {meth : Method} {c : Code} {Γ : zΓ} {b cells slots : Nat} {Q : State → Prop} {G : zH} {x mm o scr : Nat} {i : Int} {f : Nat → Int64} (C : zCv p s m args c Γ b cL_law 7 RL) (hst : l.stackTraces = false) (hTw : zTw (zAb b) s) (tx : Γ.1 x = 9) (tm : Γ.1 mm = 10) (hsc : scr = Γ.2.2.2.2.2.1 2) (hi : 0 ≤ i ∧ i + 6 ≤ (Γ.2.2.2.2.2.2.1 2 : Nat)) (hcs : cells + 1 ≤ room_1.cells ∧ slots + 6 ≤ room_1.slots) (hI : LI Γ x mm G) (kk : ∀ (G' : zH) (f' : Nat → Int64), LI Γ x mm G' → V p l e room_1 s m args below meth c b Γ.2.2.2.1 7 (cells + 1) (slots + 6) Q 1210 [some (zr 202 scr), some (zr 9 x), some (zr 10 mm), some (zr 300 o), some (zi i), none, none] [] ([(o, zOut Γ f')] ++ zWd Γ G')) : V p l e room_1 s m args below meth c b Γ.2.2.2.1 7 cells slots Q 651 [some (zr 202 scr), some (zr 9 x), some (zr 10 mm), some (zr 300 o), some (zi i), none, none] [] ([(o, zOut Γ f)] ++ zWd Γ G) := by
  have hX := C.2.2.2.2.2.2.2.2
  have hc9 : cells ≤ room_1.cells ∧ slots ≤ room_1.slots := ⟨by omega, by omega⟩
  refine v_aload_n (pc := 651) C dL_law_651 rfl ?_
  refine v_arg (pc := 652) C hsc hi (by decide) dL_law_652 dL_law_653 dL_law_655 dL_law_656 dL_law_657 rfl rfl (fun a652 ea652 ra652 => ?_)
  obtain ⟨T, h1, h2, hp, hq, hv⟩ := LI_open hI
  have hg := hI.2.1
  have hB := hI.1
  refine v_ci1 (pc := 658) C dL_law_658 v_L_75 (by decide) (lC_flour (T := T) hX hg h1 hp hq hv) hB (zk_of tx (by decide) (by decide)) ra652 ⟨Nat.le_of_ble_eq_true rfl, Nat.le_of_ble_eq_true rfl⟩ hc9 (Nat.le_of_ble_eq_true rfl) (fun r1 G1 hp1 hB1 => ?_)
  obtain ⟨H1, ⟨q1, e1⟩, rfl⟩ := hp1
  refine v_aload_n (pc := 661) C dL_law_661 rfl ?_
  refine v_arg (pc := 662) C hsc hi (by decide) dL_law_662 dL_law_663 dL_law_665 dL_law_666 dL_law_667 rfl rfl (fun a662 ea662 ra662 => ?_)
  obtain rfl : a662 = a652 := ea662.trans ea652.symm
  refine v_ci1 (pc := 668) C dL_law_668 v_L_78 (by decide) (lR_flour (T := T) hX (SR_1 hB.1 tm h2) hp) hB1 (zk_of tm (by decide) (by decide)) ra662 ⟨Nat.le_of_ble_eq_true rfl, Nat.le_of_ble_eq_true rfl⟩ hc9 (Nat.le_of_ble_eq_true rfl) (fun r2 G2 hp2 hB2 => ?_)
  obtain ⟨H2, ⟨q2, e2⟩, rfl⟩ := hp2
  have hI2 := LI_step hg tx tm hB1 q1 q2 (hp) hB2
  have hxy : r1 = r2 := e1.trans e2.symm
  refine v_icmp_eq (pc := 671) (tgt := 1210) C dL_law_671 (by decide) hxy ?_
  refine v_widen (k := cells + 1) (n := slots + 6) (by omega) (by omega) ?_
  exact kk _ _ hI2

set_option maxHeartbeats 2000000 in
set_option maxRecDepth 100000 in
theorem lc_13 {p : Program} {l : Launch} {e : Env} {s : State} {m : MethodId} {args : Array Value} {below : List Frame} {meth : Method} {c : Code} {Γ : zΓ} {b cells slots : Nat} {Q : State → Prop} {G : zH} {x mm o scr : Nat} {i : Int} {f : Nat → Int64} (C : zCv p s m args c Γ b cL_law 7 RL) (hst : l.stackTraces = false) (hTw : zTw (zAb b) s) (tx : Γ.1 x = 9) (tm : Γ.1 mm = 10) (hsc : scr = Γ.2.2.2.2.2.1 2) (hi : 0 ≤ i ∧ i + 6 ≤ (Γ.2.2.2.2.2.2.1 2 : Nat)) (hcs : cells + 1 ≤ room_1.cells ∧ slots + 6 ≤ room_1.slots) (hI : LI Γ x mm G) (kk : ∀ (G' : zH) (f' : Nat → Int64), LI Γ x mm G' → V p l e room_1 s m args below meth c b Γ.2.2.2.1 7 (cells + 1) (slots + 6) Q 1210 [some (zr 202 scr), some (zr 9 x), some (zr 10 mm), some (zr 300 o), some (zi i), none, none] [] ([(o, zOut Γ f')] ++ zWd Γ G')) : V p l e room_1 s m args below meth c b Γ.2.2.2.1 7 cells slots Q 676 [some (zr 202 scr), some (zr 9 x), some (zr 10 mm), some (zr 300 o), some (zi i), none, none] [] ([(o, zOut Γ f)] ++ zWd Γ G) := by
  have hX := C.2.2.2.2.2.2.2.2
  have hc9 : cells ≤ room_1.cells ∧ slots ≤ room_1.slots := ⟨by omega, by omega⟩
  refine v_aload_n (pc := 676) C dL_law_676 rfl ?_
  refine v_arg (pc := 677) C hsc hi (by decide) dL_law_677 dL_law_678 dL_law_680 dL_law_681 dL_law_682 rfl rfl (fun a677 ea677 ra677 => ?_)
  obtain ⟨T, h1, h2, hp, hq, hv⟩ := LI_open hI
  have hg := hI.2.1
  have hB := hI.1
  refine v_ci1 (pc := 683) C dL_law_683 v_L_79 (by decide) (lC_bake (T := T) hX hg h1 hp hq hv) hB (zk_of tx (by decide) (by decide)) ra677 ⟨Nat.le_of_ble_eq_true rfl, Nat.le_of_ble_eq_true rfl⟩ hc9 (Nat.le_of_ble_eq_true rfl) (fun r1 G1 hp1 hB1 => ?_)
  obtain ⟨H1, ⟨q1, e1⟩, rfl⟩ := hp1
  refine v_popi (pc := 686) C dL_law_686 ?_
  refine v_aload_n (pc := 687) C dL_law_687 rfl ?_
  refine v_arg (pc := 688) C hsc hi (by decide) dL_law_688 dL_law_689 dL_law_691 dL_law_692 dL_law_693 rfl rfl (fun a688 ea688 ra688 => ?_)
  obtain rfl : a688 = a677 := ea688.trans ea677.symm
  refine v_ci1 (pc := 694) C dL_law_694 v_L_83 (by decide) (lR_bake (T := T) hX (SR_1 hB.1 tm h2) hp) hB1 (zk_of tm (by decide) (by decide)) ra688 ⟨Nat.le_of_ble_eq_true rfl, Nat.le_of_ble_eq_true rfl⟩ hc9 (Nat.le_of_ble_eq_true rfl) (fun r2 G2 hp2 hB2 => ?_)
  obtain ⟨H2, ⟨q2, e2⟩, rfl⟩ := hp2
  have hI2 := LI_step hg tx tm hB1 q1 q2 (SPs_bake hp) hB2
  refine v_popi (pc := 697) C dL_law_697 ?_
  refine v_goto (pc := 698) (tgt := 1210) C dL_law_698 (by decide) ?_
  refine v_widen (k := cells + 1) (n := slots + 6) (by omega) (by omega) ?_
  exact kk _ _ hI2

set_option maxHeartbeats 2000000 in
set_option maxRecDepth 100000 in
theorem lc_14 {p : Program} {l : Launch} {e : Env} {s : State} {m : MethodId} {args : Array Value} {below : List Frame} {meth : Method} {c : Code} {Γ : zΓ} {b cells slots : Nat} {Q : State → Prop} {G : zH} {x mm o scr : Nat} {i : Int} {f : Nat → Int64} (C : zCv p s m args c Γ b cL_law 7 RL) (hst : l.stackTraces = false) (hTw : zTw (zAb b) s) (tx : Γ.1 x = 9) (tm : Γ.1 mm = 10) (hsc : scr = Γ.2.2.2.2.2.1 2) (hi : 0 ≤ i ∧ i + 6 ≤ (Γ.2.2.2.2.2.2.1 2 : Nat)) (hcs : cells + 1 ≤ room_1.cells ∧ slots + 6 ≤ room_1.slots) (hI : LI Γ x mm G) (kk : ∀ (G' : zH) (f' : Nat → Int64), LI Γ x mm G' → V p l e room_1 s m args below meth c b Γ.2.2.2.1 7 (cells + 1) (slots + 6) Q 1210 [some (zr 202 scr), some (zr 9 x), some (zr 10 mm), some (zr 300 o), some (zi i), none, none] [] ([(o, zOut Γ f')] ++ zWd Γ G')) : V p l e room_1 s m args below meth c b Γ.2.2.2.1 7 cells slots Q 701 [some (zr 202 scr), some (zr 9 x), some (zr 10 mm), some (zr 300 o), some (zi i), none, none] [] ([(o, zOut Γ f)] ++ zWd Γ G) := by
  have hX := C.2.2.2.2.2.2.2.2
  have hc9 : cells ≤ room_1.cells ∧ slots ≤ room_1.slots := ⟨by omega, by omega⟩
  refine v_aload_n (pc := 701) C dL_law_701 rfl ?_
  refine v_arg (pc := 702) C hsc hi (by decide) dL_law_702 dL_law_703 dL_law_705 dL_law_706 dL_law_707 rfl rfl (fun a702 ea702 ra702 => ?_)
  obtain ⟨T, h1, h2, hp, hq, hv⟩ := LI_open hI
  have hg := hI.2.1
  have hB := hI.1
  refine v_ci1 (pc := 708) C dL_law_708 v_L_84 (by decide) (lC_baked (T := T) hX hg h1 hp hq hv) hB (zk_of tx (by decide) (by decide)) ra702 ⟨Nat.le_of_ble_eq_true rfl, Nat.le_of_ble_eq_true rfl⟩ hc9 (Nat.le_of_ble_eq_true rfl) (fun r1 G1 hp1 hB1 => ?_)
  obtain ⟨H1, ⟨q1, e1⟩, rfl⟩ := hp1
  refine v_popi (pc := 711) C dL_law_711 ?_
  refine v_aload_n (pc := 712) C dL_law_712 rfl ?_
  refine v_arg (pc := 713) C hsc hi (by decide) dL_law_713 dL_law_714 dL_law_716 dL_law_717 dL_law_718 rfl rfl (fun a713 ea713 ra713 => ?_)
  obtain rfl : a713 = a702 := ea713.trans ea702.symm
  refine v_ci1 (pc := 719) C dL_law_719 v_L_87 (by decide) (lR_baked (T := T) hX (SR_1 hB.1 tm h2) hp) hB1 (zk_of tm (by decide) (by decide)) ra713 ⟨Nat.le_of_ble_eq_true rfl, Nat.le_of_ble_eq_true rfl⟩ hc9 (Nat.le_of_ble_eq_true rfl) (fun r2 G2 hp2 hB2 => ?_)
  obtain ⟨H2, ⟨q2, e2⟩, rfl⟩ := hp2
  have hI2 := LI_step hg tx tm hB1 q1 q2 (hp) hB2
  refine v_popi (pc := 722) C dL_law_722 ?_
  refine v_goto (pc := 723) (tgt := 1210) C dL_law_723 (by decide) ?_
  refine v_widen (k := cells + 1) (n := slots + 6) (by omega) (by omega) ?_
  exact kk _ _ hI2

set_option maxHeartbeats 2000000 in
set_option maxRecDepth 100000 in
theorem lc_15 {p : Program} {l : Launch} {e : Env} {s : State} {m : MethodId} {args : Array Value} {below : List Frame} {meth : Method} {c : Code} {Γ : zΓ} {b cells slots : Nat} {Q : State → Prop} {G : zH} {x mm o scr : Nat} {i : Int} {f : Nat → Int64} (C : zCv p s m args c Γ b cL_law 7 RL) (hst : l.stackTraces = false) (hTw : zTw (zAb b) s) (tx : Γ.1 x = 9) (tm : Γ.1 mm = 10) (hsc : scr = Γ.2.2.2.2.2.1 2) (hi : 0 ≤ i ∧ i + 6 ≤ (Γ.2.2.2.2.2.2.1 2 : Nat)) (hcs : cells + 1 ≤ room_1.cells ∧ slots + 6 ≤ room_1.slots) (hI : LI Γ x mm G) (kk : ∀ (G' : zH) (f' : Nat → Int64), LI Γ x mm G' → V p l e room_1 s m args below meth c b Γ.2.2.2.1 7 (cells + 1) (slots + 6) Q 1210 [some (zr 202 scr), some (zr 9 x), some (zr 10 mm), some (zr 300 o), some (zi i), none, none] [] ([(o, zOut Γ f')] ++ zWd Γ G')) : V p l e room_1 s m args below meth c b Γ.2.2.2.1 7 cells slots Q 726 [some (zr 202 scr), some (zr 9 x), some (zr 10 mm), some (zr 300 o), some (zi i), none, none] [] ([(o, zOut Γ f)] ++ zWd Γ G) := by
  have hX := C.2.2.2.2.2.2.2.2
  have hc9 : cells ≤ room_1.cells ∧ slots ≤ room_1.slots := ⟨by omega, by omega⟩
  refine v_aload_n (pc := 726) C dL_law_726 rfl ?_
  refine v_arg (pc := 727) C hsc hi (by decide) dL_law_727 dL_law_728 dL_law_730 dL_law_731 dL_law_732 rfl rfl (fun a727 ea727 ra727 => ?_)
  obtain ⟨T, h1, h2, hp, hq, hv⟩ := LI_open hI
  have hg := hI.2.1
  have hB := hI.1
  refine v_ci1 (pc := 733) C dL_law_733 v_L_88 (by decide) (lC_days (T := T) hX hg h1 hp hq hv) hB (zk_of tx (by decide) (by decide)) ra727 ⟨Nat.le_of_ble_eq_true rfl, Nat.le_of_ble_eq_true rfl⟩ hc9 (Nat.le_of_ble_eq_true rfl) (fun r1 G1 hp1 hB1 => ?_)
  obtain ⟨H1, ⟨q1, e1⟩, rfl⟩ := hp1
  refine v_popi (pc := 736) C dL_law_736 ?_
  refine v_aload_n (pc := 737) C dL_law_737 rfl ?_
  refine v_arg (pc := 738) C hsc hi (by decide) dL_law_738 dL_law_739 dL_law_741 dL_law_742 dL_law_743 rfl rfl (fun a738 ea738 ra738 => ?_)
  obtain rfl : a738 = a727 := ea738.trans ea727.symm
  refine v_ci1 (pc := 744) C dL_law_744 v_L_91 (by decide) (lR_days (T := T) hX (SR_1 hB.1 tm h2) hp) hB1 (zk_of tm (by decide) (by decide)) ra738 ⟨Nat.le_of_ble_eq_true rfl, Nat.le_of_ble_eq_true rfl⟩ hc9 (Nat.le_of_ble_eq_true rfl) (fun r2 G2 hp2 hB2 => ?_)
  obtain ⟨H2, ⟨q2, e2⟩, rfl⟩ := hp2
  have hI2 := LI_step hg tx tm hB1 q1 q2 (SPs_days hp) hB2
  refine v_popi (pc := 747) C dL_law_747 ?_
  refine v_goto (pc := 748) (tgt := 1210) C dL_law_748 (by decide) ?_
  refine v_widen (k := cells + 1) (n := slots + 6) (by omega) (by omega) ?_
  exact kk _ _ hI2

set_option maxHeartbeats 2000000 in
set_option maxRecDepth 100000 in
theorem lc_16 {p : Program} {l : Launch} {e : Env} {s : State} {m : MethodId} {args : Array Value} {below : List Frame} {meth : Method} {c : Code} {Γ : zΓ} {b cells slots : Nat} {Q : State → Prop} {G : zH} {x mm o scr : Nat} {i : Int} {f : Nat → Int64} (C : zCv p s m args c Γ b cL_law 7 RL) (hst : l.stackTraces = false) (hTw : zTw (zAb b) s) (tx : Γ.1 x = 9) (tm : Γ.1 mm = 10) (hsc : scr = Γ.2.2.2.2.2.1 2) (hi : 0 ≤ i ∧ i + 6 ≤ (Γ.2.2.2.2.2.2.1 2 : Nat)) (hcs : cells + 1 ≤ room_1.cells ∧ slots + 6 ≤ room_1.slots) (hI : LI Γ x mm G) (kk : ∀ (G' : zH) (f' : Nat → Int64), LI Γ x mm G' → V p l e room_1 s m args below meth c b Γ.2.2.2.1 7 (cells + 1) (slots + 6) Q 1210 [some (zr 202 scr), some (zr 9 x), some (zr 10 mm), some (zr 300 o), some (zi i), none, none] [] ([(o, zOut Γ f')] ++ zWd Γ G')) : V p l e room_1 s m args below meth c b Γ.2.2.2.1 7 cells slots Q 751 [some (zr 202 scr), some (zr 9 x), some (zr 10 mm), some (zr 300 o), some (zi i), none, none] [] ([(o, zOut Γ f)] ++ zWd Γ G) := by
  have hX := C.2.2.2.2.2.2.2.2
  have hc9 : cells ≤ room_1.cells ∧ slots ≤ room_1.slots := ⟨by omega, by omega⟩
  refine v_aload_n (pc := 751) C dL_law_751 rfl ?_
  refine v_arg (pc := 752) C hsc hi (by decide) dL_law_752 dL_law_753 dL_law_755 dL_law_756 dL_law_757 rfl rfl (fun a752 ea752 ra752 => ?_)
  refine v_arg (pc := 758) C hsc hi (by decide) dL_law_758 dL_law_759 dL_law_761 dL_law_762 dL_law_763 rfl rfl (fun a758 ea758 ra758 => ?_)
  obtain ⟨T, h1, h2, hp, hq, hv⟩ := LI_open hI
  have hg := hI.2.1
  have hB := hI.1
  refine v_ci2 (pc := 764) C dL_law_764 v_L_92 (by decide) (lC_plan (T := T) hX hg h1 hp hq hv) hB (zk_of tx (by decide) (by decide)) ra752 ra758 ⟨Nat.le_of_ble_eq_true rfl, Nat.le_of_ble_eq_true rfl⟩ hc9 (Nat.le_of_ble_eq_true rfl) (fun r1 G1 hp1 hB1 => ?_)
  obtain ⟨H1, q1, rfl⟩ := hp1
  refine v_popi (pc := 767) C dL_law_767 ?_
  refine v_aload_n (pc := 768) C dL_law_768 rfl ?_
  refine v_arg (pc := 769) C hsc hi (by decide) dL_law_769 dL_law_770 dL_law_772 dL_law_773 dL_law_774 rfl rfl (fun a769 ea769 ra769 => ?_)
  refine v_arg (pc := 775) C hsc hi (by decide) dL_law_775 dL_law_776 dL_law_778 dL_law_779 dL_law_780 rfl rfl (fun a775 ea775 ra775 => ?_)
  obtain rfl : a769 = a752 := ea769.trans ea752.symm
  obtain rfl : a775 = a758 := ea775.trans ea758.symm
  refine v_ci2 (pc := 781) C dL_law_781 v_L_95 (by decide) (lR_plan (T := T) hX (SR_1 hB.1 tm h2) hp) hB1 (zk_of tm (by decide) (by decide)) ra769 ra775 ⟨Nat.le_of_ble_eq_true rfl, Nat.le_of_ble_eq_true rfl⟩ hc9 (Nat.le_of_ble_eq_true rfl) (fun r2 G2 hp2 hB2 => ?_)
  obtain ⟨H2, q2, rfl⟩ := hp2
  have hI2 := LI_step hg tx tm hB1 q1 q2 (hp) hB2
  refine v_popi (pc := 784) C dL_law_784 ?_
  refine v_goto (pc := 785) (tgt := 1210) C dL_law_785 (by decide) ?_
  refine v_widen (k := cells + 1) (n := slots + 6) (by omega) (by omega) ?_
  exact kk _ _ hI2

set_option maxHeartbeats 2000000 in
set_option maxRecDepth 100000 in
theorem lc_17 {p : Program} {l : Launch} {e : Env} {s : State} {m : MethodId} {args : Array Value} {below : List Frame} {meth : Method} {c : Code} {Γ : zΓ} {b cells slots : Nat} {Q : State → Prop} {G : zH} {x mm o scr : Nat} {i : Int} {f : Nat → Int64} (C : zCv p s m args c Γ b cL_law 7 RL) (hst : l.stackTraces = false) (hTw : zTw (zAb b) s) (tx : Γ.1 x = 9) (tm : Γ.1 mm = 10) (hsc : scr = Γ.2.2.2.2.2.1 2) (hi : 0 ≤ i ∧ i + 6 ≤ (Γ.2.2.2.2.2.2.1 2 : Nat)) (hcs : cells + 1 ≤ room_1.cells ∧ slots + 6 ≤ room_1.slots) (hI : LI Γ x mm G) (kk : ∀ (G' : zH) (f' : Nat → Int64), LI Γ x mm G' → V p l e room_1 s m args below meth c b Γ.2.2.2.1 7 (cells + 1) (slots + 6) Q 1210 [some (zr 202 scr), some (zr 9 x), some (zr 10 mm), some (zr 300 o), some (zi i), none, none] [] ([(o, zOut Γ f')] ++ zWd Γ G')) : V p l e room_1 s m args below meth c b Γ.2.2.2.1 7 cells slots Q 788 [some (zr 202 scr), some (zr 9 x), some (zr 10 mm), some (zr 300 o), some (zi i), none, none] [] ([(o, zOut Γ f)] ++ zWd Γ G) := by
  have hX := C.2.2.2.2.2.2.2.2
  have hc9 : cells ≤ room_1.cells ∧ slots ≤ room_1.slots := ⟨by omega, by omega⟩
  refine v_aload_n (pc := 788) C dL_law_788 rfl ?_
  refine v_arg (pc := 789) C hsc hi (by decide) dL_law_789 dL_law_790 dL_law_792 dL_law_793 dL_law_794 rfl rfl (fun a789 ea789 ra789 => ?_)
  refine v_arg (pc := 795) C hsc hi (by decide) dL_law_795 dL_law_796 dL_law_798 dL_law_799 dL_law_800 rfl rfl (fun a795 ea795 ra795 => ?_)
  refine v_arg (pc := 801) C hsc hi (by decide) dL_law_801 dL_law_802 dL_law_804 dL_law_805 dL_law_806 rfl rfl (fun a801 ea801 ra801 => ?_)
  obtain ⟨T, h1, h2, hp, hq, hv⟩ := LI_open hI
  have hg := hI.2.1
  have hB := hI.1
  refine v_ci3 (pc := 807) C dL_law_807 v_L_96 (by decide) (lC_planned (T := T) hX hg h1 hp hq hv) hB (zk_of tx (by decide) (by decide)) ra789 ra795 ra801 ⟨Nat.le_of_ble_eq_true rfl, Nat.le_of_ble_eq_true rfl⟩ hc9 (Nat.le_of_ble_eq_true rfl) (fun r1 G1 hp1 hB1 => ?_)
  obtain ⟨H1, q1, rfl⟩ := hp1
  refine v_popi (pc := 810) C dL_law_810 ?_
  refine v_aload_n (pc := 811) C dL_law_811 rfl ?_
  refine v_arg (pc := 812) C hsc hi (by decide) dL_law_812 dL_law_813 dL_law_815 dL_law_816 dL_law_817 rfl rfl (fun a812 ea812 ra812 => ?_)
  refine v_arg (pc := 818) C hsc hi (by decide) dL_law_818 dL_law_819 dL_law_821 dL_law_822 dL_law_823 rfl rfl (fun a818 ea818 ra818 => ?_)
  refine v_arg (pc := 824) C hsc hi (by decide) dL_law_824 dL_law_825 dL_law_827 dL_law_828 dL_law_829 rfl rfl (fun a824 ea824 ra824 => ?_)
  obtain rfl : a812 = a789 := ea812.trans ea789.symm
  obtain rfl : a818 = a795 := ea818.trans ea795.symm
  obtain rfl : a824 = a801 := ea824.trans ea801.symm
  refine v_ci3 (pc := 830) C dL_law_830 v_L_99 (by decide) (lR_planned (T := T) hX (SR_1 hB.1 tm h2) hp) hB1 (zk_of tm (by decide) (by decide)) ra812 ra818 ra824 ⟨Nat.le_of_ble_eq_true rfl, Nat.le_of_ble_eq_true rfl⟩ hc9 (Nat.le_of_ble_eq_true rfl) (fun r2 G2 hp2 hB2 => ?_)
  obtain ⟨H2, q2, rfl⟩ := hp2
  have hI2 := LI_step hg tx tm hB1 q1 q2 (hp) hB2
  refine v_popi (pc := 833) C dL_law_833 ?_
  refine v_goto (pc := 834) (tgt := 1210) C dL_law_834 (by decide) ?_
  refine v_widen (k := cells + 1) (n := slots + 6) (by omega) (by omega) ?_
  exact kk _ _ hI2

set_option maxHeartbeats 2000000 in
set_option maxRecDepth 100000 in
theorem lc_18 {p : Program} {l : Launch} {e : Env} {s : State} {m : MethodId} {args : Array Value} {below : List Frame} {meth : Method} {c : Code} {Γ : zΓ} {b cells slots : Nat} {Q : State → Prop} {G : zH} {x mm o scr : Nat} {i : Int} {f : Nat → Int64} (C : zCv p s m args c Γ b cL_law 7 RL) (hst : l.stackTraces = false) (hTw : zTw (zAb b) s) (tx : Γ.1 x = 9) (tm : Γ.1 mm = 10) (hsc : scr = Γ.2.2.2.2.2.1 2) (hi : 0 ≤ i ∧ i + 6 ≤ (Γ.2.2.2.2.2.2.1 2 : Nat)) (hcs : cells + 1 ≤ room_1.cells ∧ slots + 6 ≤ room_1.slots) (hI : LI Γ x mm G) (kk : ∀ (G' : zH) (f' : Nat → Int64), LI Γ x mm G' → V p l e room_1 s m args below meth c b Γ.2.2.2.1 7 (cells + 1) (slots + 6) Q 1210 [some (zr 202 scr), some (zr 9 x), some (zr 10 mm), some (zr 300 o), some (zi i), none, none] [] ([(o, zOut Γ f')] ++ zWd Γ G')) : V p l e room_1 s m args below meth c b Γ.2.2.2.1 7 cells slots Q 837 [some (zr 202 scr), some (zr 9 x), some (zr 10 mm), some (zr 300 o), some (zi i), none, none] [] ([(o, zOut Γ f)] ++ zWd Γ G) := by
  have hX := C.2.2.2.2.2.2.2.2
  have hc9 : cells ≤ room_1.cells ∧ slots ≤ room_1.slots := ⟨by omega, by omega⟩
  refine v_aload_n (pc := 837) C dL_law_837 rfl ?_
  refine v_arg (pc := 838) C hsc hi (by decide) dL_law_838 dL_law_839 dL_law_841 dL_law_842 dL_law_843 rfl rfl (fun a838 ea838 ra838 => ?_)
  refine v_arg (pc := 844) C hsc hi (by decide) dL_law_844 dL_law_845 dL_law_847 dL_law_848 dL_law_849 rfl rfl (fun a844 ea844 ra844 => ?_)
  obtain ⟨T, h1, h2, hp, hq, hv⟩ := LI_open hI
  have hg := hI.2.1
  have hB := hI.1
  refine v_ci2 (pc := 850) C dL_law_850 v_L_100 (by decide) (lC_crumb (T := T) hX hg h1 hp hq hv) hB (zk_of tx (by decide) (by decide)) ra838 ra844 ⟨Nat.le_of_ble_eq_true rfl, Nat.le_of_ble_eq_true rfl⟩ hc9 (Nat.le_of_ble_eq_true rfl) (fun r1 G1 hp1 hB1 => ?_)
  obtain ⟨H1, q1, rfl⟩ := hp1
  refine v_popi (pc := 853) C dL_law_853 ?_
  refine v_aload_n (pc := 854) C dL_law_854 rfl ?_
  refine v_arg (pc := 855) C hsc hi (by decide) dL_law_855 dL_law_856 dL_law_858 dL_law_859 dL_law_860 rfl rfl (fun a855 ea855 ra855 => ?_)
  refine v_arg (pc := 861) C hsc hi (by decide) dL_law_861 dL_law_862 dL_law_864 dL_law_865 dL_law_866 rfl rfl (fun a861 ea861 ra861 => ?_)
  obtain rfl : a855 = a838 := ea855.trans ea838.symm
  obtain rfl : a861 = a844 := ea861.trans ea844.symm
  refine v_ci2 (pc := 867) C dL_law_867 v_L_103 (by decide) (lR_crumb (T := T) hX (SR_1 hB.1 tm h2) hp) hB1 (zk_of tm (by decide) (by decide)) ra855 ra861 ⟨Nat.le_of_ble_eq_true rfl, Nat.le_of_ble_eq_true rfl⟩ hc9 (Nat.le_of_ble_eq_true rfl) (fun r2 G2 hp2 hB2 => ?_)
  obtain ⟨H2, q2, rfl⟩ := hp2
  have hI2 := LI_step hg tx tm hB1 q1 q2 (hp) hB2
  refine v_popi (pc := 870) C dL_law_870 ?_
  refine v_goto (pc := 871) (tgt := 1210) C dL_law_871 (by decide) ?_
  refine v_widen (k := cells + 1) (n := slots + 6) (by omega) (by omega) ?_
  exact kk _ _ hI2

set_option maxHeartbeats 2000000 in
set_option maxRecDepth 100000 in
theorem lc_19 {p : Program} {l : Launch} {e : Env} {s : State} {m : MethodId} {args : Array Value} {below : List Frame} {meth : Method} {c : Code} {Γ : zΓ} {b cells slots : Nat} {Q : State → Prop} {G : zH} {x mm o scr : Nat} {i : Int} {f : Nat → Int64} (C : zCv p s m args c Γ b cL_law 7 RL) (hst : l.stackTraces = false) (hTw : zTw (zAb b) s) (tx : Γ.1 x = 9) (tm : Γ.1 mm = 10) (hsc : scr = Γ.2.2.2.2.2.1 2) (hi : 0 ≤ i ∧ i + 6 ≤ (Γ.2.2.2.2.2.2.1 2 : Nat)) (hcs : cells + 1 ≤ room_1.cells ∧ slots + 6 ≤ room_1.slots) (hI : LI Γ x mm G) (kk : ∀ (G' : zH) (f' : Nat → Int64), LI Γ x mm G' → V p l e room_1 s m args below meth c b Γ.2.2.2.1 7 (cells + 1) (slots + 6) Q 1210 [some (zr 202 scr), some (zr 9 x), some (zr 10 mm), some (zr 300 o), some (zi i), none, none] [] ([(o, zOut Γ f')] ++ zWd Γ G')) : V p l e room_1 s m args below meth c b Γ.2.2.2.1 7 cells slots Q 874 [some (zr 202 scr), some (zr 9 x), some (zr 10 mm), some (zr 300 o), some (zi i), none, none] [] ([(o, zOut Γ f)] ++ zWd Γ G) := by
  have hX := C.2.2.2.2.2.2.2.2
  have hc9 : cells ≤ room_1.cells ∧ slots ≤ room_1.slots := ⟨by omega, by omega⟩
  refine v_aload_n (pc := 874) C dL_law_874 rfl ?_
  refine v_arg (pc := 875) C hsc hi (by decide) dL_law_875 dL_law_876 dL_law_878 dL_law_879 dL_law_880 rfl rfl (fun a875 ea875 ra875 => ?_)
  refine v_arg (pc := 881) C hsc hi (by decide) dL_law_881 dL_law_882 dL_law_884 dL_law_885 dL_law_886 rfl rfl (fun a881 ea881 ra881 => ?_)
  obtain ⟨T, h1, h2, hp, hq, hv⟩ := LI_open hI
  have hg := hI.2.1
  have hB := hI.1
  refine v_ci2 (pc := 887) C dL_law_887 v_L_104 (by decide) (lC_run (T := T) hX hg h1 hp hq hv) hB (zk_of tx (by decide) (by decide)) ra875 ra881 ⟨Nat.le_of_ble_eq_true rfl, Nat.le_of_ble_eq_true rfl⟩ hc9 (Nat.le_of_ble_eq_true rfl) (fun r1 G1 hp1 hB1 => ?_)
  obtain ⟨H1, ⟨q1, e1⟩, rfl⟩ := hp1
  refine v_popi (pc := 890) C dL_law_890 ?_
  refine v_aload_n (pc := 891) C dL_law_891 rfl ?_
  refine v_arg (pc := 892) C hsc hi (by decide) dL_law_892 dL_law_893 dL_law_895 dL_law_896 dL_law_897 rfl rfl (fun a892 ea892 ra892 => ?_)
  refine v_arg (pc := 898) C hsc hi (by decide) dL_law_898 dL_law_899 dL_law_901 dL_law_902 dL_law_903 rfl rfl (fun a898 ea898 ra898 => ?_)
  obtain rfl : a892 = a875 := ea892.trans ea875.symm
  obtain rfl : a898 = a881 := ea898.trans ea881.symm
  refine v_ci2 (pc := 904) C dL_law_904 v_L_107 (by decide) (lR_run (T := T) hX (SR_1 hB.1 tm h2) hp) hB1 (zk_of tm (by decide) (by decide)) ra892 ra898 ⟨Nat.le_of_ble_eq_true rfl, Nat.le_of_ble_eq_true rfl⟩ hc9 (Nat.le_of_ble_eq_true rfl) (fun r2 G2 hp2 hB2 => ?_)
  obtain ⟨H2, ⟨q2, e2⟩, rfl⟩ := hp2
  have hI2 := LI_step hg tx tm hB1 q1 q2 (hp) hB2
  refine v_popi (pc := 907) C dL_law_907 ?_
  refine v_goto (pc := 908) (tgt := 1210) C dL_law_908 (by decide) ?_
  refine v_widen (k := cells + 1) (n := slots + 6) (by omega) (by omega) ?_
  exact kk _ _ hI2

set_option maxHeartbeats 2000000 in
set_option maxRecDepth 100000 in
theorem lc_20 {p : Program} {l : Launch} {e : Env} {s : State} {m : MethodId} {args : Array Value} {below : List Frame} {meth : Method} {c : Code} {Γ : zΓ} {b cells slots : Nat} {Q : State → Prop} {G : zH} {x mm o scr : Nat} {i : Int} {f : Nat → Int64} (C : zCv p s m args c Γ b cL_law 7 RL) (hst : l.stackTraces = false) (hTw : zTw (zAb b) s) (tx : Γ.1 x = 9) (tm : Γ.1 mm = 10) (hsc : scr = Γ.2.2.2.2.2.1 2) (hi : 0 ≤ i ∧ i + 6 ≤ (Γ.2.2.2.2.2.2.1 2 : Nat)) (hcs : cells + 1 ≤ room_1.cells ∧ slots + 6 ≤ room_1.slots) (hI : LI Γ x mm G) (kk : ∀ (G' : zH) (f' : Nat → Int64), LI Γ x mm G' → V p l e room_1 s m args below meth c b Γ.2.2.2.1 7 (cells + 1) (slots + 6) Q 1210 [some (zr 202 scr), some (zr 9 x), some (zr 10 mm), some (zr 300 o), some (zi i), none, none] [] ([(o, zOut Γ f')] ++ zWd Γ G')) : V p l e room_1 s m args below meth c b Γ.2.2.2.1 7 cells slots Q 911 [some (zr 202 scr), some (zr 9 x), some (zr 10 mm), some (zr 300 o), some (zi i), none, none] [] ([(o, zOut Γ f)] ++ zWd Γ G) := by
  have hX := C.2.2.2.2.2.2.2.2
  have hc9 : cells ≤ room_1.cells ∧ slots ≤ room_1.slots := ⟨by omega, by omega⟩
  refine v_aload_n (pc := 911) C dL_law_911 rfl ?_
  refine v_arg (pc := 912) C hsc hi (by decide) dL_law_912 dL_law_913 dL_law_915 dL_law_916 dL_law_917 rfl rfl (fun a912 ea912 ra912 => ?_)
  refine v_arg (pc := 918) C hsc hi (by decide) dL_law_918 dL_law_919 dL_law_921 dL_law_922 dL_law_923 rfl rfl (fun a918 ea918 ra918 => ?_)
  refine v_arg (pc := 924) C hsc hi (by decide) dL_law_924 dL_law_925 dL_law_927 dL_law_928 dL_law_929 rfl rfl (fun a924 ea924 ra924 => ?_)
  refine v_arg (pc := 930) C hsc hi (by decide) dL_law_930 dL_law_931 dL_law_933 dL_law_934 dL_law_935 rfl rfl (fun a930 ea930 ra930 => ?_)
  obtain ⟨T, h1, h2, hp, hq, hv⟩ := LI_open hI
  have hg := hI.2.1
  have hB := hI.1
  refine v_ci4 (pc := 936) C dL_law_936 v_L_108 (by decide) (lC_tried (T := T) hX hg h1 hp hq hv) hB (zk_of tx (by decide) (by decide)) ra912 ra918 ra924 ra930 ⟨Nat.le_of_ble_eq_true rfl, Nat.le_of_ble_eq_true rfl⟩ hc9 (Nat.le_of_ble_eq_true rfl) (fun r1 G1 hp1 hB1 => ?_)
  obtain ⟨H1, ⟨q1, e1⟩, rfl⟩ := hp1
  refine v_popi (pc := 939) C dL_law_939 ?_
  refine v_aload_n (pc := 940) C dL_law_940 rfl ?_
  refine v_arg (pc := 941) C hsc hi (by decide) dL_law_941 dL_law_942 dL_law_944 dL_law_945 dL_law_946 rfl rfl (fun a941 ea941 ra941 => ?_)
  refine v_arg (pc := 947) C hsc hi (by decide) dL_law_947 dL_law_948 dL_law_950 dL_law_951 dL_law_952 rfl rfl (fun a947 ea947 ra947 => ?_)
  refine v_arg (pc := 953) C hsc hi (by decide) dL_law_953 dL_law_954 dL_law_956 dL_law_957 dL_law_958 rfl rfl (fun a953 ea953 ra953 => ?_)
  refine v_arg (pc := 959) C hsc hi (by decide) dL_law_959 dL_law_960 dL_law_962 dL_law_963 dL_law_964 rfl rfl (fun a959 ea959 ra959 => ?_)
  obtain rfl : a941 = a912 := ea941.trans ea912.symm
  obtain rfl : a947 = a918 := ea947.trans ea918.symm
  obtain rfl : a953 = a924 := ea953.trans ea924.symm
  obtain rfl : a959 = a930 := ea959.trans ea930.symm
  refine v_ci4 (pc := 965) C dL_law_965 v_L_112 (by decide) (lR_tried (T := T) hX (SR_1 hB.1 tm h2) hp) hB1 (zk_of tm (by decide) (by decide)) ra941 ra947 ra953 ra959 ⟨Nat.le_of_ble_eq_true rfl, Nat.le_of_ble_eq_true rfl⟩ hc9 (Nat.le_of_ble_eq_true rfl) (fun r2 G2 hp2 hB2 => ?_)
  obtain ⟨H2, ⟨q2, e2⟩, rfl⟩ := hp2
  have hI2 := LI_step hg tx tm hB1 q1 q2 (hp) hB2
  refine v_popi (pc := 968) C dL_law_968 ?_
  refine v_goto (pc := 969) (tgt := 1210) C dL_law_969 (by decide) ?_
  refine v_widen (k := cells + 1) (n := slots + 6) (by omega) (by omega) ?_
  exact kk _ _ hI2

set_option maxHeartbeats 2000000 in
set_option maxRecDepth 100000 in
theorem lc_21 {p : Program} {l : Launch} {e : Env} {s : State} {m : MethodId} {args : Array Value} {below : List Frame} {meth : Method} {c : Code} {Γ : zΓ} {b cells slots : Nat} {Q : State → Prop} {G : zH} {x mm o scr : Nat} {i : Int} {f : Nat → Int64} (C : zCv p s m args c Γ b cL_law 7 RL) (hst : l.stackTraces = false) (hTw : zTw (zAb b) s) (tx : Γ.1 x = 9) (tm : Γ.1 mm = 10) (hsc : scr = Γ.2.2.2.2.2.1 2) (hi : 0 ≤ i ∧ i + 6 ≤ (Γ.2.2.2.2.2.2.1 2 : Nat)) (hcs : cells + 1 ≤ room_1.cells ∧ slots + 6 ≤ room_1.slots) (hI : LI Γ x mm G) (kk : ∀ (G' : zH) (f' : Nat → Int64), LI Γ x mm G' → V p l e room_1 s m args below meth c b Γ.2.2.2.1 7 (cells + 1) (slots + 6) Q 1210 [some (zr 202 scr), some (zr 9 x), some (zr 10 mm), some (zr 300 o), some (zi i), none, none] [] ([(o, zOut Γ f')] ++ zWd Γ G')) : V p l e room_1 s m args below meth c b Γ.2.2.2.1 7 cells slots Q 972 [some (zr 202 scr), some (zr 9 x), some (zr 10 mm), some (zr 300 o), some (zi i), none, none] [] ([(o, zOut Γ f)] ++ zWd Γ G) := by
  have hX := C.2.2.2.2.2.2.2.2
  have hc9 : cells ≤ room_1.cells ∧ slots ≤ room_1.slots := ⟨by omega, by omega⟩
  refine v_aload_n (pc := 972) C dL_law_972 rfl ?_
  refine v_arg (pc := 973) C hsc hi (by decide) dL_law_973 dL_law_974 dL_law_976 dL_law_977 dL_law_978 rfl rfl (fun a973 ea973 ra973 => ?_)
  refine v_arg (pc := 979) C hsc hi (by decide) dL_law_979 dL_law_980 dL_law_982 dL_law_983 dL_law_984 rfl rfl (fun a979 ea979 ra979 => ?_)
  refine v_arg (pc := 985) C hsc hi (by decide) dL_law_985 dL_law_986 dL_law_988 dL_law_989 dL_law_990 rfl rfl (fun a985 ea985 ra985 => ?_)
  obtain ⟨T, h1, h2, hp, hq, hv⟩ := LI_open hI
  have hg := hI.2.1
  have hB := hI.1
  refine v_ci3 (pc := 991) C dL_law_991 v_L_113 (by decide) (lC_mills (T := T) hX hg h1 hp hq hv) hB (zk_of tx (by decide) (by decide)) ra973 ra979 ra985 ⟨Nat.le_of_ble_eq_true rfl, Nat.le_of_ble_eq_true rfl⟩ hc9 (Nat.le_of_ble_eq_true rfl) (fun r1 G1 hp1 hB1 => ?_)
  obtain ⟨H1, q1, rfl⟩ := hp1
  refine v_popi (pc := 994) C dL_law_994 ?_
  refine v_aload_n (pc := 995) C dL_law_995 rfl ?_
  refine v_arg (pc := 996) C hsc hi (by decide) dL_law_996 dL_law_997 dL_law_999 dL_law_1000 dL_law_1001 rfl rfl (fun a996 ea996 ra996 => ?_)
  refine v_arg (pc := 1002) C hsc hi (by decide) dL_law_1002 dL_law_1003 dL_law_1005 dL_law_1006 dL_law_1007 rfl rfl (fun a1002 ea1002 ra1002 => ?_)
  refine v_arg (pc := 1008) C hsc hi (by decide) dL_law_1008 dL_law_1009 dL_law_1011 dL_law_1012 dL_law_1013 rfl rfl (fun a1008 ea1008 ra1008 => ?_)
  obtain rfl : a996 = a973 := ea996.trans ea973.symm
  obtain rfl : a1002 = a979 := ea1002.trans ea979.symm
  obtain rfl : a1008 = a985 := ea1008.trans ea985.symm
  refine v_ci3 (pc := 1014) C dL_law_1014 v_L_116 (by decide) (lR_mills (T := T) hX (SR_1 hB.1 tm h2) hp) hB1 (zk_of tm (by decide) (by decide)) ra996 ra1002 ra1008 ⟨Nat.le_of_ble_eq_true rfl, Nat.le_of_ble_eq_true rfl⟩ hc9 (Nat.le_of_ble_eq_true rfl) (fun r2 G2 hp2 hB2 => ?_)
  obtain ⟨H2, q2, rfl⟩ := hp2
  have hI2 := LI_step hg tx tm hB1 q1 q2 (hp) hB2
  refine v_popi (pc := 1017) C dL_law_1017 ?_
  refine v_goto (pc := 1018) (tgt := 1210) C dL_law_1018 (by decide) ?_
  refine v_widen (k := cells + 1) (n := slots + 6) (by omega) (by omega) ?_
  exact kk _ _ hI2

set_option maxHeartbeats 2000000 in
set_option maxRecDepth 100000 in
theorem lc_22 {p : Program} {l : Launch} {e : Env} {s : State} {m : MethodId} {args : Array Value} {below : List Frame} {meth : Method} {c : Code} {Γ : zΓ} {b cells slots : Nat} {Q : State → Prop} {G : zH} {x mm o scr : Nat} {i : Int} {f : Nat → Int64} (C : zCv p s m args c Γ b cL_law 7 RL) (hst : l.stackTraces = false) (hTw : zTw (zAb b) s) (tx : Γ.1 x = 9) (tm : Γ.1 mm = 10) (hsc : scr = Γ.2.2.2.2.2.1 2) (hi : 0 ≤ i ∧ i + 6 ≤ (Γ.2.2.2.2.2.2.1 2 : Nat)) (hcs : cells + 1 ≤ room_1.cells ∧ slots + 6 ≤ room_1.slots) (hI : LI Γ x mm G) (kk : ∀ (G' : zH) (f' : Nat → Int64), LI Γ x mm G' → V p l e room_1 s m args below meth c b Γ.2.2.2.1 7 (cells + 1) (slots + 6) Q 1210 [some (zr 202 scr), some (zr 9 x), some (zr 10 mm), some (zr 300 o), some (zi i), none, none] [] ([(o, zOut Γ f')] ++ zWd Γ G')) : V p l e room_1 s m args below meth c b Γ.2.2.2.1 7 cells slots Q 1021 [some (zr 202 scr), some (zr 9 x), some (zr 10 mm), some (zr 300 o), some (zi i), none, none] [] ([(o, zOut Γ f)] ++ zWd Γ G) := by
  have hX := C.2.2.2.2.2.2.2.2
  have hc9 : cells ≤ room_1.cells ∧ slots ≤ room_1.slots := ⟨by omega, by omega⟩
  refine v_aload_n (pc := 1021) C dL_law_1021 rfl ?_
  obtain ⟨T, h1, h2, hp, hq, hv⟩ := LI_open hI
  have hg := hI.2.1
  have hB := hI.1
  refine v_cj0 (pc := 1022) C dL_law_1022 v_L_117 (by decide) (lC_pairs (T := T) hX hg h1 hp hq hv) hB (zk_of tx (by decide) (by decide))  ⟨Nat.le_of_ble_eq_true rfl, Nat.le_of_ble_eq_true rfl⟩ hc9 (Nat.le_of_ble_eq_true rfl) (fun r1 G1 hp1 hB1 => ?_)
  obtain ⟨H1, q1, rfl⟩ := hp1
  refine v_pop2 (pc := 1025) C dL_law_1025 ?_
  refine v_aload_n (pc := 1026) C dL_law_1026 rfl ?_
  refine v_cj0 (pc := 1027) C dL_law_1027 v_L_121 (by decide) (lR_pairs (T := T) hX (SR_1 hB.1 tm h2) hp) hB1 (zk_of tm (by decide) (by decide))  ⟨Nat.le_of_ble_eq_true rfl, Nat.le_of_ble_eq_true rfl⟩ hc9 (Nat.le_of_ble_eq_true rfl) (fun r2 G2 hp2 hB2 => ?_)
  obtain ⟨H2, q2, rfl⟩ := hp2
  have hI2 := LI_step hg tx tm hB1 q1 q2 (hp) hB2
  refine v_pop2 (pc := 1030) C dL_law_1030 ?_
  refine v_goto (pc := 1031) (tgt := 1210) C dL_law_1031 (by decide) ?_
  refine v_widen (k := cells + 1) (n := slots + 6) (by omega) (by omega) ?_
  exact kk _ _ hI2

set_option maxHeartbeats 2000000 in
set_option maxRecDepth 100000 in
theorem lc_23 {p : Program} {l : Launch} {e : Env} {s : State} {m : MethodId} {args : Array Value} {below : List Frame} {meth : Method} {c : Code} {Γ : zΓ} {b cells slots : Nat} {Q : State → Prop} {G : zH} {x mm o scr : Nat} {i : Int} {f : Nat → Int64} (C : zCv p s m args c Γ b cL_law 7 RL) (hst : l.stackTraces = false) (hTw : zTw (zAb b) s) (tx : Γ.1 x = 9) (tm : Γ.1 mm = 10) (hsc : scr = Γ.2.2.2.2.2.1 2) (hi : 0 ≤ i ∧ i + 6 ≤ (Γ.2.2.2.2.2.2.1 2 : Nat)) (hcs : cells + 1 ≤ room_1.cells ∧ slots + 6 ≤ room_1.slots) (hI : LI Γ x mm G) (kk : ∀ (G' : zH) (f' : Nat → Int64), LI Γ x mm G' → V p l e room_1 s m args below meth c b Γ.2.2.2.1 7 (cells + 1) (slots + 6) Q 1210 [some (zr 202 scr), some (zr 9 x), some (zr 10 mm), some (zr 300 o), some (zi i), none, none] [] ([(o, zOut Γ f')] ++ zWd Γ G')) : V p l e room_1 s m args below meth c b Γ.2.2.2.1 7 cells slots Q 1034 [some (zr 202 scr), some (zr 9 x), some (zr 10 mm), some (zr 300 o), some (zi i), none, none] [] ([(o, zOut Γ f)] ++ zWd Γ G) := by
  have hX := C.2.2.2.2.2.2.2.2
  have hc9 : cells ≤ room_1.cells ∧ slots ≤ room_1.slots := ⟨by omega, by omega⟩
  refine v_aload_n (pc := 1034) C dL_law_1034 rfl ?_
  refine v_arg (pc := 1035) C hsc hi (by decide) dL_law_1035 dL_law_1036 dL_law_1038 dL_law_1039 dL_law_1040 rfl rfl (fun a1035 ea1035 ra1035 => ?_)
  obtain ⟨T, h1, h2, hp, hq, hv⟩ := LI_open hI
  have hg := hI.2.1
  have hB := hI.1
  refine v_ci1 (pc := 1041) C dL_law_1041 v_L_122 (by decide) (lC_paired (T := T) hX hg h1 hp hq hv) hB (zk_of tx (by decide) (by decide)) ra1035 ⟨Nat.le_of_ble_eq_true rfl, Nat.le_of_ble_eq_true rfl⟩ hc9 (Nat.le_of_ble_eq_true rfl) (fun r1 G1 hp1 hB1 => ?_)
  obtain ⟨H1, q1, rfl⟩ := hp1
  refine v_popi (pc := 1044) C dL_law_1044 ?_
  refine v_aload_n (pc := 1045) C dL_law_1045 rfl ?_
  refine v_arg (pc := 1046) C hsc hi (by decide) dL_law_1046 dL_law_1047 dL_law_1049 dL_law_1050 dL_law_1051 rfl rfl (fun a1046 ea1046 ra1046 => ?_)
  obtain rfl : a1046 = a1035 := ea1046.trans ea1035.symm
  refine v_ci1 (pc := 1052) C dL_law_1052 v_L_125 (by decide) (lR_paired (T := T) hX (SR_1 hB.1 tm h2) hp) hB1 (zk_of tm (by decide) (by decide)) ra1046 ⟨Nat.le_of_ble_eq_true rfl, Nat.le_of_ble_eq_true rfl⟩ hc9 (Nat.le_of_ble_eq_true rfl) (fun r2 G2 hp2 hB2 => ?_)
  obtain ⟨H2, q2, rfl⟩ := hp2
  have hI2 := LI_step hg tx tm hB1 q1 q2 (hp) hB2
  refine v_popi (pc := 1055) C dL_law_1055 ?_
  refine v_goto (pc := 1056) (tgt := 1210) C dL_law_1056 (by decide) ?_
  refine v_widen (k := cells + 1) (n := slots + 6) (by omega) (by omega) ?_
  exact kk _ _ hI2

set_option maxHeartbeats 2000000 in
set_option maxRecDepth 100000 in
theorem lc_24 {p : Program} {l : Launch} {e : Env} {s : State} {m : MethodId} {args : Array Value} {below : List Frame} {meth : Method} {c : Code} {Γ : zΓ} {b cells slots : Nat} {Q : State → Prop} {G : zH} {x mm o scr : Nat} {i : Int} {f : Nat → Int64} (C : zCv p s m args c Γ b cL_law 7 RL) (hst : l.stackTraces = false) (hTw : zTw (zAb b) s) (tx : Γ.1 x = 9) (tm : Γ.1 mm = 10) (hsc : scr = Γ.2.2.2.2.2.1 2) (hi : 0 ≤ i ∧ i + 6 ≤ (Γ.2.2.2.2.2.2.1 2 : Nat)) (hcs : cells + 1 ≤ room_1.cells ∧ slots + 6 ≤ room_1.slots) (hI : LI Γ x mm G) (kk : ∀ (G' : zH) (f' : Nat → Int64), LI Γ x mm G' → V p l e room_1 s m args below meth c b Γ.2.2.2.1 7 (cells + 1) (slots + 6) Q 1210 [some (zr 202 scr), some (zr 9 x), some (zr 10 mm), some (zr 300 o), some (zi i), none, none] [] ([(o, zOut Γ f')] ++ zWd Γ G')) : V p l e room_1 s m args below meth c b Γ.2.2.2.1 7 cells slots Q 1059 [some (zr 202 scr), some (zr 9 x), some (zr 10 mm), some (zr 300 o), some (zi i), none, none] [] ([(o, zOut Γ f)] ++ zWd Γ G) := by
  have hX := C.2.2.2.2.2.2.2.2
  have hc9 : cells ≤ room_1.cells ∧ slots ≤ room_1.slots := ⟨by omega, by omega⟩
  refine v_aload_n (pc := 1059) C dL_law_1059 rfl ?_
  refine v_arg (pc := 1060) C hsc hi (by decide) dL_law_1060 dL_law_1061 dL_law_1063 dL_law_1064 dL_law_1065 rfl rfl (fun a1060 ea1060 ra1060 => ?_)
  refine v_arg (pc := 1066) C hsc hi (by decide) dL_law_1066 dL_law_1067 dL_law_1069 dL_law_1070 dL_law_1071 rfl rfl (fun a1066 ea1066 ra1066 => ?_)
  refine v_arg (pc := 1072) C hsc hi (by decide) dL_law_1072 dL_law_1073 dL_law_1075 dL_law_1076 dL_law_1077 rfl rfl (fun a1072 ea1072 ra1072 => ?_)
  obtain ⟨T, h1, h2, hp, hq, hv⟩ := LI_open hI
  have hg := hI.2.1
  have hB := hI.1
  refine v_ci3 (pc := 1078) C dL_law_1078 v_L_126 (by decide) (lC_lies (T := T) hX hg h1 hp hq hv) hB (zk_of tx (by decide) (by decide)) ra1060 ra1066 ra1072 ⟨Nat.le_of_ble_eq_true rfl, Nat.le_of_ble_eq_true rfl⟩ hc9 (Nat.le_of_ble_eq_true rfl) (fun r1 G1 hp1 hB1 => ?_)
  obtain ⟨H1, ⟨q1, e1⟩, rfl⟩ := hp1
  refine v_popi (pc := 1081) C dL_law_1081 ?_
  refine v_aload_n (pc := 1082) C dL_law_1082 rfl ?_
  refine v_arg (pc := 1083) C hsc hi (by decide) dL_law_1083 dL_law_1084 dL_law_1086 dL_law_1087 dL_law_1088 rfl rfl (fun a1083 ea1083 ra1083 => ?_)
  refine v_arg (pc := 1089) C hsc hi (by decide) dL_law_1089 dL_law_1090 dL_law_1092 dL_law_1093 dL_law_1094 rfl rfl (fun a1089 ea1089 ra1089 => ?_)
  refine v_arg (pc := 1095) C hsc hi (by decide) dL_law_1095 dL_law_1096 dL_law_1098 dL_law_1099 dL_law_1100 rfl rfl (fun a1095 ea1095 ra1095 => ?_)
  obtain rfl : a1083 = a1060 := ea1083.trans ea1060.symm
  obtain rfl : a1089 = a1066 := ea1089.trans ea1066.symm
  obtain rfl : a1095 = a1072 := ea1095.trans ea1072.symm
  refine v_ci3 (pc := 1101) C dL_law_1101 v_L_129 (by decide) (lR_lies (T := T) hX (SR_1 hB.1 tm h2) hp) hB1 (zk_of tm (by decide) (by decide)) ra1083 ra1089 ra1095 ⟨Nat.le_of_ble_eq_true rfl, Nat.le_of_ble_eq_true rfl⟩ hc9 (Nat.le_of_ble_eq_true rfl) (fun r2 G2 hp2 hB2 => ?_)
  obtain ⟨H2, ⟨q2, e2⟩, rfl⟩ := hp2
  have hI2 := LI_step hg tx tm hB1 q1 q2 (hp) hB2
  refine v_popi (pc := 1104) C dL_law_1104 ?_
  refine v_goto (pc := 1105) (tgt := 1210) C dL_law_1105 (by decide) ?_
  refine v_widen (k := cells + 1) (n := slots + 6) (by omega) (by omega) ?_
  exact kk _ _ hI2

set_option maxHeartbeats 2000000 in
set_option maxRecDepth 100000 in
theorem lc_25 {p : Program} {l : Launch} {e : Env} {s : State} {m : MethodId} {args : Array Value} {below : List Frame} {meth : Method} {c : Code} {Γ : zΓ} {b cells slots : Nat} {Q : State → Prop} {G : zH} {x mm o scr : Nat} {i : Int} {f : Nat → Int64} (C : zCv p s m args c Γ b cL_law 7 RL) (hst : l.stackTraces = false) (hTw : zTw (zAb b) s) (tx : Γ.1 x = 9) (tm : Γ.1 mm = 10) (hsc : scr = Γ.2.2.2.2.2.1 2) (hi : 0 ≤ i ∧ i + 6 ≤ (Γ.2.2.2.2.2.2.1 2 : Nat)) (hcs : cells + 1 ≤ room_1.cells ∧ slots + 6 ≤ room_1.slots) (hI : LI Γ x mm G) (kk : ∀ (G' : zH) (f' : Nat → Int64), LI Γ x mm G' → V p l e room_1 s m args below meth c b Γ.2.2.2.1 7 (cells + 1) (slots + 6) Q 1210 [some (zr 202 scr), some (zr 9 x), some (zr 10 mm), some (zr 300 o), some (zi i), none, none] [] ([(o, zOut Γ f')] ++ zWd Γ G')) : V p l e room_1 s m args below meth c b Γ.2.2.2.1 7 cells slots Q 1108 [some (zr 202 scr), some (zr 9 x), some (zr 10 mm), some (zr 300 o), some (zi i), none, none] [] ([(o, zOut Γ f)] ++ zWd Γ G) := by
  have hX := C.2.2.2.2.2.2.2.2
  have hc9 : cells ≤ room_1.cells ∧ slots ≤ room_1.slots := ⟨by omega, by omega⟩
  refine v_aload_n (pc := 1108) C dL_law_1108 rfl ?_
  refine v_arg (pc := 1109) C hsc hi (by decide) dL_law_1109 dL_law_1110 dL_law_1112 dL_law_1113 dL_law_1114 rfl rfl (fun a1109 ea1109 ra1109 => ?_)
  obtain ⟨T, h1, h2, hp, hq, hv⟩ := LI_open hI
  have hg := hI.2.1
  have hB := hI.1
  refine v_ci1 (pc := 1115) C dL_law_1115 v_L_130 (by decide) (lC_known (T := T) hX hg h1 hp hq hv) hB (zk_of tx (by decide) (by decide)) ra1109 ⟨Nat.le_of_ble_eq_true rfl, Nat.le_of_ble_eq_true rfl⟩ hc9 (Nat.le_of_ble_eq_true rfl) (fun r1 G1 hp1 hB1 => ?_)
  obtain ⟨H1, ⟨q1, e1⟩, rfl⟩ := hp1
  refine v_popi (pc := 1118) C dL_law_1118 ?_
  refine v_aload_n (pc := 1119) C dL_law_1119 rfl ?_
  refine v_arg (pc := 1120) C hsc hi (by decide) dL_law_1120 dL_law_1121 dL_law_1123 dL_law_1124 dL_law_1125 rfl rfl (fun a1120 ea1120 ra1120 => ?_)
  obtain rfl : a1120 = a1109 := ea1120.trans ea1109.symm
  refine v_ci1 (pc := 1126) C dL_law_1126 v_L_133 (by decide) (lR_known (T := T) hX (SR_1 hB.1 tm h2) hp) hB1 (zk_of tm (by decide) (by decide)) ra1120 ⟨Nat.le_of_ble_eq_true rfl, Nat.le_of_ble_eq_true rfl⟩ hc9 (Nat.le_of_ble_eq_true rfl) (fun r2 G2 hp2 hB2 => ?_)
  obtain ⟨H2, ⟨q2, e2⟩, rfl⟩ := hp2
  have hI2 := LI_step hg tx tm hB1 q1 q2 (SPs_known hp) hB2
  refine v_popi (pc := 1129) C dL_law_1129 ?_
  refine v_goto (pc := 1130) (tgt := 1210) C dL_law_1130 (by decide) ?_
  refine v_widen (k := cells + 1) (n := slots + 6) (by omega) (by omega) ?_
  exact kk _ _ hI2

set_option maxHeartbeats 2000000 in
set_option maxRecDepth 100000 in
theorem lc_26 {p : Program} {l : Launch} {e : Env} {s : State} {m : MethodId} {args : Array Value} {below : List Frame} {meth : Method} {c : Code} {Γ : zΓ} {b cells slots : Nat} {Q : State → Prop} {G : zH} {x mm o scr : Nat} {i : Int} {f : Nat → Int64} (C : zCv p s m args c Γ b cL_law 7 RL) (hst : l.stackTraces = false) (hTw : zTw (zAb b) s) (tx : Γ.1 x = 9) (tm : Γ.1 mm = 10) (hsc : scr = Γ.2.2.2.2.2.1 2) (hi : 0 ≤ i ∧ i + 6 ≤ (Γ.2.2.2.2.2.2.1 2 : Nat)) (hcs : cells + 1 ≤ room_1.cells ∧ slots + 6 ≤ room_1.slots) (hI : LI Γ x mm G) (kk : ∀ (G' : zH) (f' : Nat → Int64), LI Γ x mm G' → V p l e room_1 s m args below meth c b Γ.2.2.2.1 7 (cells + 1) (slots + 6) Q 1210 [some (zr 202 scr), some (zr 9 x), some (zr 10 mm), some (zr 300 o), some (zi i), none, none] [] ([(o, zOut Γ f')] ++ zWd Γ G')) : V p l e room_1 s m args below meth c b Γ.2.2.2.1 7 cells slots Q 1133 [some (zr 202 scr), some (zr 9 x), some (zr 10 mm), some (zr 300 o), some (zi i), none, none] [] ([(o, zOut Γ f)] ++ zWd Γ G) := by
  have hX := C.2.2.2.2.2.2.2.2
  have hc9 : cells ≤ room_1.cells ∧ slots ≤ room_1.slots := ⟨by omega, by omega⟩
  refine v_aload_n (pc := 1133) C dL_law_1133 rfl ?_
  obtain ⟨T, h1, h2, hp, hq, hv⟩ := LI_open hI
  have hg := hI.2.1
  have hB := hI.1
  refine v_ci0 (pc := 1134) C dL_law_1134 v_L_134 (by decide) (lC_fits (T := T) hX hg h1 hp hq hv) hB (zk_of tx (by decide) (by decide))  ⟨Nat.le_of_ble_eq_true rfl, Nat.le_of_ble_eq_true rfl⟩ hc9 (Nat.le_of_ble_eq_true rfl) (fun r1 G1 hp1 hB1 => ?_)
  obtain ⟨H1, ⟨q1, e1⟩, rfl⟩ := hp1
  refine v_popi (pc := 1137) C dL_law_1137 ?_
  refine v_aload_n (pc := 1138) C dL_law_1138 rfl ?_
  refine v_ci0 (pc := 1139) C dL_law_1139 v_L_138 (by decide) (lR_fits (T := T) hX (SR_1 hB.1 tm h2) hp) hB1 (zk_of tm (by decide) (by decide))  ⟨Nat.le_of_ble_eq_true rfl, Nat.le_of_ble_eq_true rfl⟩ hc9 (Nat.le_of_ble_eq_true rfl) (fun r2 G2 hp2 hB2 => ?_)
  obtain ⟨H2, ⟨q2, e2⟩, rfl⟩ := hp2
  have hI2 := LI_step hg tx tm hB1 q1 q2 (hp) hB2
  refine v_popi (pc := 1142) C dL_law_1142 ?_
  refine v_goto (pc := 1143) (tgt := 1210) C dL_law_1143 (by decide) ?_
  refine v_widen (k := cells + 1) (n := slots + 6) (by omega) (by omega) ?_
  exact kk _ _ hI2

set_option maxHeartbeats 2000000 in
set_option maxRecDepth 100000 in
theorem lc_27 {p : Program} {l : Launch} {e : Env} {s : State} {m : MethodId} {args : Array Value} {below : List Frame} {meth : Method} {c : Code} {Γ : zΓ} {b cells slots : Nat} {Q : State → Prop} {G : zH} {x mm o scr : Nat} {i : Int} {f : Nat → Int64} (C : zCv p s m args c Γ b cL_law 7 RL) (hst : l.stackTraces = false) (hTw : zTw (zAb b) s) (tx : Γ.1 x = 9) (tm : Γ.1 mm = 10) (hsc : scr = Γ.2.2.2.2.2.1 2) (hi : 0 ≤ i ∧ i + 6 ≤ (Γ.2.2.2.2.2.2.1 2 : Nat)) (hcs : cells + 1 ≤ room_1.cells ∧ slots + 6 ≤ room_1.slots) (hI : LI Γ x mm G) (kk : ∀ (G' : zH) (f' : Nat → Int64), LI Γ x mm G' → V p l e room_1 s m args below meth c b Γ.2.2.2.1 7 (cells + 1) (slots + 6) Q 1210 [some (zr 202 scr), some (zr 9 x), some (zr 10 mm), some (zr 300 o), some (zi i), none, none] [] ([(o, zOut Γ f')] ++ zWd Γ G')) : V p l e room_1 s m args below meth c b Γ.2.2.2.1 7 cells slots Q 1146 [some (zr 202 scr), some (zr 9 x), some (zr 10 mm), some (zr 300 o), some (zi i), none, none] [] ([(o, zOut Γ f)] ++ zWd Γ G) := by
  have hX := C.2.2.2.2.2.2.2.2
  have hc9 : cells ≤ room_1.cells ∧ slots ≤ room_1.slots := ⟨by omega, by omega⟩
  refine v_aload_n (pc := 1146) C dL_law_1146 rfl ?_
  obtain ⟨T, h1, h2, hp, hq, hv⟩ := LI_open hI
  have hg := hI.2.1
  have hB := hI.1
  refine v_ci0 (pc := 1147) C dL_law_1147 v_L_139 (by decide) (lC_undo (T := T) hX hg h1 hp hq hv) hB (zk_of tx (by decide) (by decide))  ⟨Nat.le_of_ble_eq_true rfl, Nat.le_of_ble_eq_true rfl⟩ hc9 (Nat.le_of_ble_eq_true rfl) (fun r1 G1 hp1 hB1 => ?_)
  obtain ⟨H1, ⟨q1, e1⟩, rfl⟩ := hp1
  refine v_popi (pc := 1150) C dL_law_1150 ?_
  refine v_aload_n (pc := 1151) C dL_law_1151 rfl ?_
  refine v_ci0 (pc := 1152) C dL_law_1152 v_L_142 (by decide) (lR_undo (T := T) hX (SR_1 hB.1 tm h2) hp) hB1 (zk_of tm (by decide) (by decide))  ⟨Nat.le_of_ble_eq_true rfl, Nat.le_of_ble_eq_true rfl⟩ hc9 (Nat.le_of_ble_eq_true rfl) (fun r2 G2 hp2 hB2 => ?_)
  obtain ⟨H2, ⟨q2, e2⟩, rfl⟩ := hp2
  have hI2 := LI_step hg tx tm hB1 q1 q2 (SPs_undo hp) hB2
  refine v_popi (pc := 1155) C dL_law_1155 ?_
  refine v_goto (pc := 1156) (tgt := 1210) C dL_law_1156 (by decide) ?_
  refine v_widen (k := cells + 1) (n := slots + 6) (by omega) (by omega) ?_
  exact kk _ _ hI2

set_option maxHeartbeats 2000000 in
set_option maxRecDepth 100000 in
theorem lc_28 {p : Program} {l : Launch} {e : Env} {s : State} {m : MethodId} {args : Array Value} {below : List Frame} {meth : Method} {c : Code} {Γ : zΓ} {b cells slots : Nat} {Q : State → Prop} {G : zH} {x mm o scr : Nat} {i : Int} {f : Nat → Int64} (C : zCv p s m args c Γ b cL_law 7 RL) (hst : l.stackTraces = false) (hTw : zTw (zAb b) s) (tx : Γ.1 x = 9) (tm : Γ.1 mm = 10) (hsc : scr = Γ.2.2.2.2.2.1 2) (hi : 0 ≤ i ∧ i + 6 ≤ (Γ.2.2.2.2.2.2.1 2 : Nat)) (hcs : cells + 1 ≤ room_1.cells ∧ slots + 6 ≤ room_1.slots) (hI : LI Γ x mm G) (kk : ∀ (G' : zH) (f' : Nat → Int64), LI Γ x mm G' → V p l e room_1 s m args below meth c b Γ.2.2.2.1 7 (cells + 1) (slots + 6) Q 1210 [some (zr 202 scr), some (zr 9 x), some (zr 10 mm), some (zr 300 o), some (zi i), none, none] [] ([(o, zOut Γ f')] ++ zWd Γ G')) : V p l e room_1 s m args below meth c b Γ.2.2.2.1 7 cells slots Q 1159 [some (zr 202 scr), some (zr 9 x), some (zr 10 mm), some (zr 300 o), some (zi i), none, none] [] ([(o, zOut Γ f)] ++ zWd Γ G) := by
  have hX := C.2.2.2.2.2.2.2.2
  have hc9 : cells ≤ room_1.cells ∧ slots ≤ room_1.slots := ⟨by omega, by omega⟩
  refine v_aload_n (pc := 1159) C dL_law_1159 rfl ?_
  obtain ⟨T, h1, h2, hp, hq, hv⟩ := LI_open hI
  have hg := hI.2.1
  have hB := hI.1
  refine v_ci0 (pc := 1160) C dL_law_1160 v_L_143 (by decide) (lC_keep (T := T) hX hg h1 hp hq hv) hB (zk_of tx (by decide) (by decide))  ⟨Nat.le_of_ble_eq_true rfl, Nat.le_of_ble_eq_true rfl⟩ hc9 (Nat.le_of_ble_eq_true rfl) (fun r1 G1 hp1 hB1 => ?_)
  obtain ⟨H1, ⟨U, q1, hU, e1⟩, rfl⟩ := hp1
  refine v_popi (pc := 1163) C dL_law_1163 ?_
  refine v_aload_n (pc := 1164) C dL_law_1164 rfl ?_
  refine v_ci0 (pc := 1165) C dL_law_1165 v_L_146 (by decide) (lR_keep (T := T) hX (SR_1 hB.1 tm h2) hp) hB1 (zk_of tm (by decide) (by decide))  ⟨Nat.le_of_ble_eq_true rfl, Nat.le_of_ble_eq_true rfl⟩ hc9 (Nat.le_of_ble_eq_true rfl) (fun r2 G2 hp2 hB2 => ?_)
  obtain ⟨H2, ⟨q2, e2⟩, rfl⟩ := hp2
  have hI2 := LI_step hg tx tm hB1 q1 (q2 U hU) (SPs_keep hp hU) hB2
  refine v_popi (pc := 1168) C dL_law_1168 ?_
  refine v_goto (pc := 1169) (tgt := 1210) C dL_law_1169 (by decide) ?_
  refine v_widen (k := cells + 1) (n := slots + 6) (by omega) (by omega) ?_
  exact kk _ _ hI2

set_option maxHeartbeats 2000000 in
set_option maxRecDepth 100000 in
theorem lc_29 {p : Program} {l : Launch} {e : Env} {s : State} {m : MethodId} {args : Array Value} {below : List Frame} {meth : Method} {c : Code} {Γ : zΓ} {b cells slots : Nat} {Q : State → Prop} {G : zH} {x mm o scr : Nat} {i : Int} {f : Nat → Int64} (C : zCv p s m args c Γ b cL_law 7 RL) (hst : l.stackTraces = false) (hTw : zTw (zAb b) s) (tx : Γ.1 x = 9) (tm : Γ.1 mm = 10) (hsc : scr = Γ.2.2.2.2.2.1 2) (hi : 0 ≤ i ∧ i + 6 ≤ (Γ.2.2.2.2.2.2.1 2 : Nat)) (hcs : cells + 1 ≤ room_1.cells ∧ slots + 6 ≤ room_1.slots) (hI : LI Γ x mm G) (kk : ∀ (G' : zH) (f' : Nat → Int64), LI Γ x mm G' → V p l e room_1 s m args below meth c b Γ.2.2.2.1 7 (cells + 1) (slots + 6) Q 1210 [some (zr 202 scr), some (zr 9 x), some (zr 10 mm), some (zr 300 o), some (zi i), none, none] [] ([(o, zOut Γ f')] ++ zWd Γ G')) : V p l e room_1 s m args below meth c b Γ.2.2.2.1 7 cells slots Q 1172 [some (zr 202 scr), some (zr 9 x), some (zr 10 mm), some (zr 300 o), some (zi i), none, none] [] ([(o, zOut Γ f)] ++ zWd Γ G) := by
  have hX := C.2.2.2.2.2.2.2.2
  have hc9 : cells ≤ room_1.cells ∧ slots ≤ room_1.slots := ⟨by omega, by omega⟩
  refine v_aload_n (pc := 1172) C dL_law_1172 rfl ?_
  obtain ⟨T, h1, h2, hp, hq, hv⟩ := LI_open hI
  have hg := hI.2.1
  have hB := hI.1
  refine v_ci0 (pc := 1173) C dL_law_1173 v_L_147 (by decide) (lC_back (T := T) hX hg h1 hp hq hv) hB (zk_of tx (by decide) (by decide))  ⟨Nat.le_of_ble_eq_true rfl, Nat.le_of_ble_eq_true rfl⟩ hc9 (Nat.le_of_ble_eq_true rfl) (fun r1 G1 hp1 hB1 => ?_)
  obtain ⟨H1, ⟨U, hU, q1, e1⟩, rfl⟩ := hp1
  refine v_popi (pc := 1176) C dL_law_1176 ?_
  refine v_aload_n (pc := 1177) C dL_law_1177 rfl ?_
  refine v_ci0 (pc := 1178) C dL_law_1178 v_L_150 (by decide) (lR_back (T := T) hX (SR_1 hB.1 tm h2) hp) hB1 (zk_of tm (by decide) (by decide))  ⟨Nat.le_of_ble_eq_true rfl, Nat.le_of_ble_eq_true rfl⟩ hc9 (Nat.le_of_ble_eq_true rfl) (fun r2 G2 hp2 hB2 => ?_)
  obtain ⟨H2, ⟨q2, e2⟩, rfl⟩ := hp2
  have hI2 := LI_step hg tx tm hB1 q1 (q2 U (fun z => (hU z).1)) (SPs_back hp hU) hB2
  refine v_popi (pc := 1181) C dL_law_1181 ?_
  refine v_goto (pc := 1182) (tgt := 1210) C dL_law_1182 (by decide) ?_
  refine v_widen (k := cells + 1) (n := slots + 6) (by omega) (by omega) ?_
  exact kk _ _ hI2

set_option maxHeartbeats 2000000 in
set_option maxRecDepth 100000 in
theorem lc_30 {p : Program} {l : Launch} {e : Env} {s : State} {m : MethodId} {args : Array Value} {below : List Frame} {meth : Method} {c : Code} {Γ : zΓ} {b cells slots : Nat} {Q : State → Prop} {G : zH} {x mm o scr : Nat} {i : Int} {f : Nat → Int64} (C : zCv p s m args c Γ b cL_law 7 RL) (hst : l.stackTraces = false) (hTw : zTw (zAb b) s) (tx : Γ.1 x = 9) (tm : Γ.1 mm = 10) (hsc : scr = Γ.2.2.2.2.2.1 2) (hi : 0 ≤ i ∧ i + 6 ≤ (Γ.2.2.2.2.2.2.1 2 : Nat)) (hcs : cells + 1 ≤ room_1.cells ∧ slots + 6 ≤ room_1.slots) (hI : LI Γ x mm G) (kk : ∀ (G' : zH) (f' : Nat → Int64), LI Γ x mm G' → V p l e room_1 s m args below meth c b Γ.2.2.2.1 7 (cells + 1) (slots + 6) Q 1210 [some (zr 202 scr), some (zr 9 x), some (zr 10 mm), some (zr 300 o), some (zi i), none, none] [] ([(o, zOut Γ f')] ++ zWd Γ G')) : V p l e room_1 s m args below meth c b Γ.2.2.2.1 7 cells slots Q 1185 [some (zr 202 scr), some (zr 9 x), some (zr 10 mm), some (zr 300 o), some (zi i), none, none] [] ([(o, zOut Γ f)] ++ zWd Γ G) := by
  have hX := C.2.2.2.2.2.2.2.2
  have hc9 : cells ≤ room_1.cells ∧ slots ≤ room_1.slots := ⟨by omega, by omega⟩
  refine v_aload_n (pc := 1185) C dL_law_1185 rfl ?_
  refine v_arg (pc := 1186) C hsc hi (by decide) dL_law_1186 dL_law_1187 dL_law_1189 dL_law_1190 dL_law_1191 rfl rfl (fun a1186 ea1186 ra1186 => ?_)
  obtain ⟨T, h1, h2, hp, hq, hv⟩ := LI_open hI
  have hg := hI.2.1
  have hB := hI.1
  refine v_ci1 (pc := 1192) C dL_law_1192 v_L_151 (by decide) (lC_count (T := T) hX hg h1 hp hq hv) hB (zk_of tx (by decide) (by decide)) ra1186 ⟨Nat.le_of_ble_eq_true rfl, Nat.le_of_ble_eq_true rfl⟩ hc9 (Nat.le_of_ble_eq_true rfl) (fun r1 G1 hp1 hB1 => ?_)
  obtain ⟨H1, q1, rfl⟩ := hp1
  refine v_popi (pc := 1195) C dL_law_1195 ?_
  refine v_aload_n (pc := 1196) C dL_law_1196 rfl ?_
  refine v_arg (pc := 1197) C hsc hi (by decide) dL_law_1197 dL_law_1198 dL_law_1200 dL_law_1201 dL_law_1202 rfl rfl (fun a1197 ea1197 ra1197 => ?_)
  obtain rfl : a1197 = a1186 := ea1197.trans ea1186.symm
  refine v_ci1 (pc := 1203) C dL_law_1203 v_L_154 (by decide) (lR_count (T := T) hX (SR_1 hB.1 tm h2) hp) hB1 (zk_of tm (by decide) (by decide)) ra1197 ⟨Nat.le_of_ble_eq_true rfl, Nat.le_of_ble_eq_true rfl⟩ hc9 (Nat.le_of_ble_eq_true rfl) (fun r2 G2 hp2 hB2 => ?_)
  obtain ⟨H2, q2, rfl⟩ := hp2
  have hI2 := LI_step hg tx tm hB1 q1 q2 (hp) hB2
  refine v_popi (pc := 1206) C dL_law_1206 ?_
  refine v_goto (pc := 1207) (tgt := 1210) C dL_law_1207 (by decide) ?_
  refine v_widen (k := cells + 1) (n := slots + 6) (by omega) (by omega) ?_
  exact kk _ _ hI2
