section ZL
variable {p : Program} {l : Launch} {e : Env} {R : Room} {s : State} {m : MethodId} {args : Array Value} {below : List Frame} {meth : Method} {c : Code} {Γ : zΓ} {b : Nat} {cc : ByteArray} {nL : Nat} {own : String} {cells slots : Nat} {Q : State → Prop} {pc : Nat} {ls : List (Option zV)} {st : List zV} {G : zH} {ws X : va_W} {D : va_G}
theorem v_iload_n6d (C : zCv p s m args c Γ b cc nL own) {k : Fin 4} {x : Int} (d : decode cc pc = .ok (.iload_n k, 1)) (h : ls[(k : Nat)]? = some (some (zi x))) (kk : V p l e R s m args below meth c b D nL cells slots Q (pc + 1) ls (zi x :: st) ws) : V p l e R s m args below meth c b D nL cells slots Q pc ls st ws := by
  intro H locs rl hP hD hS hL
  exact lv_iload_n C.1 C.2.1 d rfl (hL.2.2 _ _ h) (kk H locs rl hP hD hS hL)
theorem v_iload6d (C : zCv p s m args c Γ b cc nL own) {k : Nat} {x : Int} (d : decode cc pc = .ok (.iload k, 2)) (h : ls[k]? = some (some (zi x))) (kk : V p l e R s m args below meth c b D nL cells slots Q (pc + 2) ls (zi x :: st) ws) : V p l e R s m args below meth c b D nL cells slots Q pc ls st ws := by
  intro H locs rl hP hD hS hL
  exact lv_iload C.1 C.2.1 d (hL.2.2 _ _ h) (kk H locs rl hP hD hS hL)
theorem v_istore6d (C : zCv p s m args c Γ b cc nL own) {k : Nat} {x : Int} (d : decode cc pc = .ok (.istore k, 2)) (hn : k < nL) (kk : V p l e R s m args below meth c b D nL cells slots Q (pc + 2) (zset ls k (zi x)) st ws) : V p l e R s m args below meth c b D nL cells slots Q pc ls (zi x :: st) ws := by
  intro H locs rl hP hD hS hL
  exact lv_istore C.1 C.2.1 d (zL_has hL) hn rfl (fun rl' h' => kk H locs rl' hP hD hS (zL_set1 (v := zi x) h'))
theorem v_astore6d (C : zCv p s m args c Γ b cc nL own) {k t a : Nat} (d : decode cc pc = .ok (.astore k, 2)) (hn : k < nL) (kk : V p l e R s m args below meth c b D nL cells slots Q (pc + 2) (zset ls k (zr t a)) st ws) : V p l e R s m args below meth c b D nL cells slots Q pc ls (zr t a :: st) ws := by
  intro H locs rl hP hD hS hL
  exact lv_astore C.1 C.2.1 d (zL_has hL) hn rfl (fun rl' h' => kk H locs rl' hP hD hS (zL_set1 (v := zr t a) h'))
theorem v_astore_n6d (C : zCv p s m args c Γ b cc nL own) {k : Fin 4} {t a : Nat} (d : decode cc pc = .ok (.astore_n k, 1)) (hn : (k : Nat) < nL) (kk : V p l e R s m args below meth c b D nL cells slots Q (pc + 1) (zset ls (k : Nat) (zr t a)) st ws) : V p l e R s m args below meth c b D nL cells slots Q pc ls (zr t a :: st) ws := by
  intro H locs rl hP hD hS hL
  exact lv_astore_n C.1 C.2.1 d rfl (zL_has hL) hn rfl (fun rl' h' => kk H locs rl' hP hD hS (zL_set1 (v := zr t a) h'))
theorem v_iinc6d (C : zCv p s m args c Γ b cc nL own) {k : Nat} {n x : Int} (d : decode cc pc = .ok (.iinc k n, 3)) (h : ls[k]? = some (some (zi x))) (hn : k < nL) (kk : V p l e R s m args below meth c b D nL cells slots Q (pc + 3) (zset ls k (zi (x + n))) st ws) : V p l e R s m args below meth c b D nL cells slots Q pc ls st ws := by
  intro H locs rl hP hD hS hL
  obtain ⟨j, hj⟩ := List.getElem?_of_mem (zas_mem h)
  refine lv_iinc (v := Int32.ofInt (x + n)) C.1 C.2.1 d (zL_has hL) (k := j) hj ?_ hn rfl (fun rl' h' => kk H locs rl' hP hD hS (zL_set1 (v := zi (x + n)) h'))
  rw [Int32.ofInt_add]
theorem v_iadd6d (C : zCv p s m args c Γ b cc nL own) {x y : Int} (d : decode cc pc = .ok (.iadd, 1)) (kk : V p l e R s m args below meth c b D nL cells slots Q (pc + 1) ls (zi (x + y) :: st) ws) : V p l e R s m args below meth c b D nL cells slots Q pc ls (zi y :: zi x :: st) ws := by
  intro H locs rl hP hD hS hL
  have h9 := kk H locs rl hP hD hS hL
  rw [List.map_cons, show zc (zi (x + y)) = .int (Int32.ofInt x + Int32.ofInt y) from congrArg Value.int (Int32.ofInt_add ..)] at h9
  exact lv_iadd C.1 C.2.1 d h9
theorem v_isub6d (C : zCv p s m args c Γ b cc nL own) {x y : Int} (d : decode cc pc = .ok (.isub, 1)) (kk : V p l e R s m args below meth c b D nL cells slots Q (pc + 1) ls (zi (x - y) :: st) ws) : V p l e R s m args below meth c b D nL cells slots Q pc ls (zi y :: zi x :: st) ws := by
  intro H locs rl hP hD hS hL
  have h9 := kk H locs rl hP hD hS hL
  rw [List.map_cons, show zc (zi (x - y)) = .int (Int32.ofInt x - Int32.ofInt y) from congrArg Value.int (Int32.ofInt_sub ..)] at h9
  exact lv_isub C.1 C.2.1 d h9
theorem v_goto6d (C : zCv p s m args c Γ b cc nL own) {off : Int} {tgt : Nat} (d : decode cc pc = .ok (.goto off, 3)) (ht : (pc : Int) + off = (tgt : Int)) (kk : V p l e R s m args below meth c b D nL cells slots Q tgt ls st ws) : V p l e R s m args below meth c b D nL cells slots Q pc ls st ws := by
  intro H locs rl hP hD hS hL
  exact lv_goto C.1 C.2.1 d ht (kk H locs rl hP hD hS hL)
theorem v_pop26d (C : zCv p s m args c Γ b cc nL own) {x : Int} (d : decode cc pc = .ok (.pop2, 1)) (kk : V p l e R s m args below meth c b D nL cells slots Q (pc + 1) ls st ws) : V p l e R s m args below meth c b D nL cells slots Q pc ls (zj x :: st) ws := by
  intro H locs rl hP hD hS hL
  exact lv_pop2_2 C.1 C.2.1 d rfl (kk H locs rl hP hD hS hL)
theorem v_i2l6d (C : zCv p s m args c Γ b cc nL own) {x : Int} (d : decode cc pc = .ok (.i2l, 1)) (hx : -2147483648 ≤ x ∧ x ≤ 2147483647) (kk : V p l e R s m args below meth c b D nL cells slots Q (pc + 1) ls (zj x :: st) ws) : V p l e R s m args below meth c b D nL cells slots Q pc ls (zi x :: st) ws := by
  intro H locs rl hP hD hS hL
  refine lv_i2l C.1 C.2.1 d (v := Int64.ofInt x) ?_ (kk H locs rl hP hD hS hL)
  apply Int64.toInt_inj.mp
  rw [Int32.toInt_toInt64, Int32.toInt_ofInt_of_le (by omega) (by omega), Int64.toInt_ofInt_of_le (by omega) (by omega)]
theorem v_icmp_gt6d (C : zCv p s m args c Γ b cc nL own) {x y : Int} {off : Int} {tgt : Nat} (d : decode cc pc = .ok (.if_icmp .gt off, 3)) (ht : (pc : Int) + off = (tgt : Int)) (hx : -2147483648 ≤ x ∧ x ≤ 2147483647) (hy : -2147483648 ≤ y ∧ y ≤ 2147483647) (kt : y < x → V p l e R s m args below meth c b D nL cells slots Q tgt ls st ws) (kf : ¬ (y < x) → V p l e R s m args below meth c b D nL cells slots Q (pc + 3) ls st ws) : V p l e R s m args below meth c b D nL cells slots Q pc ls (zi y :: zi x :: st) ws := by
  intro H locs rl hP hD hS hL
  exact lv_icmp_gt C.1 C.2.1 d ht (fun h => kt ((zi_lt hy hx).mp h) H locs rl hP hD hS hL) (fun h => kf (fun q => h ((zi_lt hy hx).mpr q)) H locs rl hP hD hS hL)
theorem v_icmp_eq6d (C : zCv p s m args c Γ b cc nL own) {x y : Int} {off : Int} {tgt : Nat} (d : decode cc pc = .ok (.if_icmp .eq off, 3)) (ht : (pc : Int) + off = (tgt : Int)) (hxy : x = y) (kt : V p l e R s m args below meth c b D nL cells slots Q tgt ls st ws) : V p l e R s m args below meth c b D nL cells slots Q pc ls (zi y :: zi x :: st) ws := by
  intro H locs rl hP hD hS hL
  subst hxy
  exact lv_icmp_eq C.1 C.2.1 d ht (fun h => kt H locs rl hP hD hS hL) (fun h => absurd rfl h)
theorem v_iand6d (C : zCv p s m args c Γ b cc nL own) {x y : Int} (k : Nat) (d : decode cc pc = .ok (.iand, 1)) (hm : (Int32.ofInt y).toBitVec.toNat = 2 ^ k - 1) (kk : ∀ z : Int, 0 ≤ z → z < 2 ^ k → V p l e R s m args below meth c b D nL cells slots Q (pc + 1) ls (zi z :: st) ws) : V p l e R s m args below meth c b D nL cells slots Q pc ls (zi y :: zi x :: st) ws := by
  intro H locs rl hP hD hS hL
  refine lv_iand C.1 C.2.1 d ?_
  obtain ⟨j, hj, ej⟩ := pk_andE (Int32.ofInt x) k hm
  rw [ej]
  have hz := kk (j : Int) (by omega) (by exact_mod_cast hj) H locs rl hP hD hS hL
  have e9 : zc (zi (j : Int)) = .int (nI j) := by simp [zc, nI, Int32.ofInt_eq_ofNat]
  rwa [List.map_cons, e9] at hz
theorem v_tabIn6d (C : zCv p s m args c Γ b cc nL own) {dflt lo hi : Int} {offs : Array Int} {len tgt : Nat} {x : Int} (k : Int) {off : Int} (d : decode cc pc = .ok (.tableswitch dflt lo hi offs, len)) (hk : x = k) (hx : -2147483648 ≤ k ∧ k ≤ 2147483647) (h1 : lo ≤ k ∧ k ≤ hi) (ho : offs[(k - lo).toNat]? = some off) (ht : (pc : Int) + off = (tgt : Int)) (kk : V p l e R s m args below meth c b D nL cells slots Q tgt ls st ws) : V p l e R s m args below meth c b D nL cells slots Q pc ls (zi x :: st) ws := by
  intro H locs rl hP hD hS hL
  subst hk
  have e9 : (Int32.ofInt x).toInt = x := Int32.toInt_ofInt_of_le (by omega) (by omega)
  exact lv_tableIn C.1 C.2.1 d (by rw [e9]; omega) (by rw [e9]; omega) (by rw [e9]; exact ho) ht (kk H locs rl hP hD hS hL)
theorem v_tabOut6d (C : zCv p s m args c Γ b cc nL own) {dflt lo hi : Int} {offs : Array Int} {len tgt : Nat} {x : Int} (d : decode cc pc = .ok (.tableswitch dflt lo hi offs, len)) (hx : -2147483648 ≤ x ∧ x ≤ 2147483647) (h : x < lo ∨ hi < x) (ht : (pc : Int) + dflt = (tgt : Int)) (kk : V p l e R s m args below meth c b D nL cells slots Q tgt ls st ws) : V p l e R s m args below meth c b D nL cells slots Q pc ls (zi x :: st) ws := by
  intro H locs rl hP hD hS hL
  exact lv_tableOut C.1 C.2.1 d (by rw [Int32.toInt_ofInt_of_le (by omega) (by omega)]; exact h) ht (kk H locs rl hP hD hS hL)
theorem v_xlen6d (C : zCv p s m args c Γ b cc nL own) {t a : Nat} (ha : a = Γ.2.2.2.2.2.1 2) (d : decode cc pc = .ok (.arraylength, 1)) (kk : V p l e R s m args below meth c b D nL cells slots Q (pc + 1) ls (zi (Γ.2.2.2.2.2.2.1 2 : Nat) :: st) ws) : V p l e R s m args below meth c b D nL cells slots Q pc ls (zr t a :: st) ws := by
  intro H locs rl hP hD hS hL
  subst ha
  have h9 := kk H locs rl hP hD hS hL
  refine va_tlen C.1 C.2.1 (C.2.2.2.2.2.2.1.1.2.2 2 (by decide)).1 hS (v := Int32.ofInt (Γ.2.2.2.2.2.2.1 2 : Nat)) Int32.ofInt_eq_ofNat.symm d h9
theorem v_xald6d (C : zCv p s m args c Γ b cc nL own) {t a : Nat} {i : Int} (ha : a = Γ.2.2.2.2.2.1 2) (hi : 0 ≤ i ∧ i < (Γ.2.2.2.2.2.2.1 2 : Nat)) (d : decode cc pc = .ok (.iaload, 1)) (kk : ∀ v : Int, v = Γ.2.2.2.2.2.2.2 2 i.toNat → -2147483648 ≤ v ∧ v ≤ 2147483647 → V p l e R s m args below meth c b D nL cells slots Q (pc + 1) ls (zi v :: st) ws) : V p l e R s m args below meth c b D nL cells slots Q pc ls (zi i :: zr t a :: st) ws := by
  intro H locs rl hP hD hS hL
  subst ha
  obtain ⟨h1, h2, h3⟩ := C.2.2.2.2.2.2.1.1.2.2 2 (by decide)
  have h9 := kk _ rfl (h2 i.toNat) H locs rl hP hD hS hL
  exact va_ti C.1 C.2.1 h1 hS (zi_in hi (by omega)) (v := .int (Int32.ofInt (Γ.2.2.2.2.2.2.2 2 i.toNat))) (by rw [zi_nat hi.1 (by omega)]) d h9
/-- the array of one long -/
def zOut6d (Γ : zΓ) (f : Nat → Int64) : va_E := .inl (Γ.2.2.1 1, 1, .inr (.inl f))
theorem v_out6d (C : zCv p s m args c Γ b cc nL own) {t a : Nat} {x : Int} {f : Nat → Int64} (d : decode cc pc = .ok (.lastore, 1)) (kk : ∀ f1 : Nat → Int64, V p l e R s m args below meth c b Γ.2.2.2.1 nL cells slots Q (pc + 1) ls st ((a, zOut6d Γ f1) :: ws)) : V p l e R s m args below meth c b Γ.2.2.2.1 nL cells slots Q pc ls (zj x :: zi 0 :: zr t a :: st) ((a, zOut6d Γ f) :: ws) := by
  intro H locs rl hP hD hS hL
  exact va_last C.1 C.2.1 C.2.2.2.2.2.1 hP hD hS 0 1 rfl rfl (zi_in (by omega) (by omega)) d (fun H1 locs1 h1 h2 h3 => kk _ H1 locs1 rl h1 h2 h3 hL)
theorem v_outV (C : zCv p s m args c Γ b cc nL own) {t a : Nat} {x : Int} {f : Nat → Int64} (d : decode cc pc = .ok (.lastore, 1)) (kk : ∀ f1 : Nat → Int64, f1 0 = Int64.ofInt x → V p l e R s m args below meth c b Γ.2.2.2.1 nL cells slots Q (pc + 1) ls st ((a, zOut6d Γ f1) :: ws)) : V p l e R s m args below meth c b Γ.2.2.2.1 nL cells slots Q pc ls (zj x :: zi 0 :: zr t a :: st) ((a, zOut6d Γ f) :: ws) := by
  intro H locs rl hP hD hS hL
  exact va_last C.1 C.2.1 C.2.2.2.2.2.1 hP hD hS 0 1 rfl rfl (zi_in (by omega) (by omega)) d (fun H1 locs1 h1 h2 h3 => kk _ (show (if (0 : Nat) = (Int32.ofInt 0).toNatClampNeg then Int64.ofInt x else f 0) = _ from if_pos (by decide)) H1 locs1 rl h1 h2 h3 hL)
theorem v_laldO (C : zCv p s m args c Γ b cc nL own) {t a : Nat} {y : Int} {f : Nat → Int64} (hf : f 0 = Int64.ofInt y) (d : decode cc pc = .ok (.laload, 1)) (kk : V p l e R s m args below meth c b Γ.2.2.2.1 nL cells slots Q (pc + 1) ls (zj y :: st) ((a, zOut6d Γ f) :: ws)) : V p l e R s m args below meth c b Γ.2.2.2.1 nL cells slots Q pc ls (zi 0 :: zr t a :: st) ((a, zOut6d Γ f) :: ws) := by
  intro H locs rl hP hD hS hL
  have h9 := kk H locs rl hP hD hS hL
  rw [List.map_cons, show zc (zj y) = .long (f (Int32.ofInt 0).toNatClampNeg) from congrArg Value.long hf.symm] at h9
  exact va_lald C.1 C.2.1 C.2.2.2.2.2.1 hP 0 1 rfl rfl (zi_in (by omega) (by omega)) d h9
theorem v_if_neV (C : zCv p s m args c Γ b cc nL own) {x : Int} {off : Int} {tgt : Nat} (d : decode cc pc = .ok (.ifCond .ne off, 3)) (ht : (pc : Int) + off = (tgt : Int)) (hx : -2147483648 ≤ x ∧ x ≤ 2147483647) (kt : x ≠ 0 → V p l e R s m args below meth c b D nL cells slots Q tgt ls st ws) (kf : x = 0 → V p l e R s m args below meth c b D nL cells slots Q (pc + 3) ls st ws) : V p l e R s m args below meth c b D nL cells slots Q pc ls (zi x :: st) ws := by
  intro H locs rl hP hD hS hL
  exact lv_if_ne C.1 C.2.1 d ht (fun h => kt (fun q => h ((zi_eq hx (show (-2147483648 : Int) ≤ 0 ∧ (0 : Int) ≤ 2147483647 by decide)).mpr q)) H locs rl hP hD hS hL) (fun h => kf ((zi_eq hx (show (-2147483648 : Int) ≤ 0 ∧ (0 : Int) ≤ 2147483647 by decide)).mp h) H locs rl hP hD hS hL)
/-- the call of the class's look, which may throw -/
theorem v_lookX6d {K : String → Prop} {PV : Int → Prop} (C : zCv p s m args c Γ b cc nL own) (hB : zBn Γ G) {w idx lv : Nat} {a1 b1 : Int} (hw : Γ.1 w = 9) (ha1 : -2147483648 ≤ a1 ∧ a1 ≤ 2147483647) (hb1 : -2147483648 ≤ b1 ∧ b1 ≤ 2147483647) (hTw : zTw (zAb b) s) (d : decode cc pc = .ok (.invokevirtual idx, 3)) (wv : zWv own idx yX8_look 9 cX8_look 3 (some .int) 2) (hM : zMxk K l Γ yX8_look cX8_look 3 (some .int) lv [zr 9 w, zi a1, zi b1] G (zpi (fun x G' => G' = G ∧ PV x))) (hR : lv + 1 ≤ R.frames ∧ 8 + (3 + 11) + 40 * lv ≤ R.locals) (hc : cells + 1 ≤ R.cells ∧ slots + 6 ≤ R.slots) (hw2 : ((st.map zc).map fun v => v.category).sum ≤ 8)
    (kx : ∀ (E : String) (ce : Cell) (q9 : Addr) (H1 : Heap) (locs1 : List Loc) (rl : Array Slot), K E → va_P Γ.2.2.2.1 vwCl (X ++ zWd Γ G) H1 → va_D (zAb b) (X ++ zWd Γ G) → va_S (zAb b) s.heap H1 locs1 → H1[q9]? = some ce → ce.vm = .none → s.vm.findClass E = some ce.cls → zL rl nL ls → vx_W p l e R s m args below meth c H1 locs1 (cells + 1) (slots + 6) Q (F0 m pc rl (st.map zc)) q9)
    (kk : ∀ (x : Int) (G' : zH), (-2147483648 ≤ x ∧ x ≤ 2147483647) → G' = G → PV x → zBn Γ (zno Γ G') → V p l e R s m args below meth c b Γ.2.2.2.1 nL (cells + 1) (slots + 6) Q (pc + 3) ls (zi x :: st) (X ++ zWd Γ (zno Γ G'))) : V p l e R s m args below meth c b Γ.2.2.2.1 nL cells slots Q pc ls (zi b1 :: zi a1 :: zr 9 w :: st) (X ++ zWd Γ G) := by
  intro H locs rl hP hD hS hL
  obtain ⟨⟨w1, w2, w3, w4, w5⟩, hcl, hy1, hy2, hnp⟩ := wv
  have hts := C.2.2.2.2.1
  obtain ⟨hXb, hNk, hNm⟩ := C.2.2.2.2.2.2.1
  have hAb := zA_of hB.1 hD
  have hPz : va_P Γ.2.2.2.1 vwCl (zWd Γ G) H := zP_mem hP (fun x hx => List.mem_append_right _ hx)
  obtain ⟨q0, hq0⟩ := va_pl_get (X := []) (f := zE Γ G) ((hB.1.2.1 w).mpr (by omega))
  rw [zE_cls hw (by decide)] at hq0
  have hav : ∀ x ∈ [zr 9 w, zi a1, zi b1], zk Γ x := by
    intro x hx
    rcases List.mem_cons.mp hx with h | h
    · rw [h]; exact zk_of hw (by decide) (by decide)
    · rcases List.mem_cons.mp h with h | h
      · rw [h]; exact ha1
      · rw [List.mem_singleton.mp h]; exact hb1
  have hrun := vx_runV (H := H) (e := e) (below := below) (meth := meth) (locs := locs) (cells := cells) (slots := slots) (As := [.int (Int32.ofInt a1), .int (Int32.ofInt b1)]) (rest := st.map zc) (b := w) (C := zCn 9) (g := F0 m pc rl ((zi b1 :: zi a1 :: zr 9 w :: st).map zc)) (n := 2) ⟨C.1, C.2.1, C.2.2.1, C.2.2.2.1, hts⟩ hM
    ⟨callB_of 2 hts (zTb_good w5) rfl rfl rfl (by rw [hcl]; exact hts _ w4) (hts _ w1) ⟨hy1, hy2, hnp⟩ hR, hts _ w2, hts _ w3⟩
    ⟨fun a U g mk h => ⟨zPc_blind a U g mk h.1, zTw_keep (U := U) (U1 := U.calling g mk a) h.2 (State.WarmedH.refl U) (fun _ _ _ => rfl)⟩, va_recv C.2.2.2.2.2.1 hPz (zcl_at (by decide) (by decide)) hq0, fun U hU hW => ⟨⟨rfl, ⟨va_K.moved hW.alike C.2.2.2.2.2.1, hB.1, zXb_f (zXb_keep hXb hW.alike (fun x h1 h2 => by rw [hU]; exact hS.2.1 x h1 h2)) hAb, fun x hx => va_Nw.warmF hW (hNk x hx)⟩, hB.2.1, hav, by rw [hU]; exact hPz⟩, zTw_nar (zTw_keep hTw hW (fun x h1 h2 => by rw [hU]; exact hS.2.1 x h1 h2)) hAb⟩⟩
    rfl rfl hL.1 rfl (lv_room hw2) d hc
  have keep : ∀ (st₀ t9 : State) (L : List Loc), st₀.heap = H → va_F (zA Γ) st₀ t9 → (∀ z ∈ L, zA Γ z.base) → va_S (zAb b) s.heap t9.heap (locs ++ L) ∧ va_P Γ.2.2.2.1 vwCl X t9.heap := by
    intro st₀ t9 L h01 hF hL'
    refine ⟨⟨Nat.le_trans hS.1 (by rw [← h01]; exact hF.1), fun q h1 h2 => ?_, fun l hl => ?_⟩, fun k q hk => ?_⟩
    · rw [hF.2 q (by rw [h01]; exact Nat.lt_of_lt_of_le h1 hS.1) (fun h => h2 (hAb q h)), h01]
      exact hS.2.1 q h1 h2
    · rcases List.mem_append.mp hl with q | q
      · exact hS.2.2 l q
      · exact hAb _ (hL' l q)
    · have hk1 : (X ++ zWd Γ G)[k]? = some q := by rw [List.getElem?_append_left (List.getElem?_eq_some_iff.mp hk).1]; exact hk
      have h1 := hP k q hk1
      refine h1.kept ?_
      rw [hF.2 q.1 (by rw [h01]; exact h1.lt) (fun h => ?_), h01]
      have hm : q.1 ∈ Γ.2.2.2.2.1 := (hB.1.2.1 q.1).mpr h
      have h2 : (q.1, zE Γ G q.1) ∈ zWd Γ G := List.mem_map.mpr ⟨q.1, hm, rfl⟩
      obtain ⟨j, hj⟩ := List.getElem?_of_mem h2
      have hj1 : (X ++ zWd Γ G)[X.length + j]? = some (q.1, zE Γ G q.1) := by rw [List.getElem?_append_right (by omega), Nat.add_sub_cancel_left]; exact hj
      have h3 := hD.1 k (X.length + j) q _ hk1 hj1 rfl
      have h4 := (List.getElem?_eq_some_iff.mp hk).1
      omega
  intro T hT X1
  rcases hrun T hT X1 with ⟨v, st₀, t9, T', L, h01, X', hL', e1, e2, ⟨⟨r, G', hv, hz, hp, hG', hP'⟩, hF⟩, go⟩ | ⟨q, st₀, t9, T', L, E, ce, h01, X', hL', e1, e2, ⟨hE, hP', hF⟩, hce, hcv, hcl9, go⟩
  · have hv' : v = r.map zc := by cases hv; rfl
    subst hv'
    obtain ⟨x, rfl, hp1, hp9⟩ := hp
    obtain ⟨k1, k2⟩ := keep st₀ t9 L h01 hF hL'
    have hBn := zBn_no hB.1 hG'
    have hD' : va_D (zAb b) (X ++ zWd Γ (zno Γ G')) := by
      rw [zD_iff] at hD ⊢
      have e8 : (X ++ zWd Γ (zno Γ G')).map (fun q => q.1) = (X ++ zWd Γ G).map (fun q => q.1) := by
        rw [List.map_append, List.map_append]
        unfold zWd va_pl
        rw [List.map_map, List.map_map]
        rfl
      refine ⟨by rw [e8]; exact hD.1, fun q hq => ?_⟩
      have h1 : q.1 ∈ (X ++ zWd Γ (zno Γ G')).map (fun q => q.1) := List.mem_map.mpr ⟨q, hq, rfl⟩
      rw [e8] at h1
      obtain ⟨q2, h2, h3⟩ := List.mem_map.mp h1
      rw [← h3]
      exact hD.2 q2 h2
    obtain ⟨t8, a9, b9⟩ := kk x G' (hz _ rfl) hp1 hp9 hBn t9.heap (locs ++ L) rl (k2.app (by rw [zWd_no hB.1]; exact hP')) hD' k1 hL T' e1 X'
    exact ⟨t8, go t8 a9, b9⟩
  · obtain ⟨k1, k2⟩ := keep st₀ t9 L h01 hF hL'
    obtain ⟨t8, a9, b9⟩ := kx E ce q t9.heap (locs ++ L) rl hE (k2.app hP') hD k1 hce hcv hcl9 hL T' e1 X'
    exact ⟨t8, go.trans a9, b9⟩
end ZL
/-! the law's own look -/
abbrev lkH6d : List (Nat × Nat × Nat × Nat) := [(0, 10, 13, 13), (0, 10, 17, 15)]
def zPl6d (b : Nat) (Γ : zΓ) (G : zH) (w o : Nat) (a1 b1 : Int) (f : Nat → Int64) : Array Value → State → Prop := fun v U =>
  v = #[.ref w, .int (Int32.ofInt a1), .int (Int32.ofInt b1), .ref o] ∧ va_K Γ.2.2.2.1 vwCl (ztys Γ) U ∧ (zXb b Γ.2.2.2.2.2 U U.heap ∧ zNk U ∧ zNm U) ∧ b ≤ U.heap.size ∧ va_P Γ.2.2.2.1 vwCl ([(o, zOut6d Γ f)] ++ zWd Γ G) U.heap ∧ va_D (zAb b) ([(o, zOut6d Γ f)] ++ zWd Γ G) ∧ zTw (zAb b) U
/-- what the own look says -/
def LKO (A W : aS) (a b : Int) (r : Int) (f : Nat → Int64) : Prop := r = LKT A a b ∧ (r = 0 → f 0 = Int64.ofInt (LKV A W a b))
def zQl6d (LL : Int → (Nat → Int64) → Prop) (b : Nat) (Γ : zΓ) (G : zH) (o : Nat) : Array Value → State → Outcome → State → Prop := fun _ st oc t =>
  (∃ (r : Int32) (f' : Nat → Int64) (G' : zH), oc = .returned (some (.int r)) ∧ zBn Γ G' ∧ ((∀ q a i, Γ.1 a ≠ 0 → G'.1 q a i = G.1 q a i) ∧ (∀ q a i, Γ.1 a ≠ 0 → G'.2.1 q a i = G.2.1 q a i) ∧ G'.2.2 = G.2.2) ∧ LL r.toInt f' ∧ va_P Γ.2.2.2.1 vwCl ([(o, zOut6d Γ f')] ++ zWd Γ G') t.heap ∧ va_D (zAb b) ([(o, zOut6d Γ f')] ++ zWd Γ G')) ∧ va_F (zAb b) st t
theorem zPl_blind6d {b : Nat} {Γ : zΓ} {G : zH} {w o : Nat} {a1 b1 : Int} {f : Nat → Int64} : FrameBlind (zPl6d b Γ G w o a1 b1 f) := by
  intro a U g mk h
  obtain ⟨h1, h2, ⟨h3, h4, h5⟩, h6, h7, h8, h9⟩ := h
  exact ⟨h1, va_K.moved (u := U) (U := U.calling g mk a) (Vm.Alike.refl U.vm) h2, ⟨zXb_keep (U := U) (U1 := U.calling g mk a) h3 (Vm.Alike.refl U.vm) (fun _ _ _ => rfl), fun q hq => va_Nw.warmF (s := U) (U := U.calling g mk a) (State.WarmedH.refl U) (h4 q hq), fun q hq => va_Nw.warmM (s := U) (U := U.calling g mk a) (State.WarmedH.refl U) (h5 q hq)⟩, h6, h7, h8, zTw_keep (U := U) (U1 := U.calling g mk a) h9 (State.WarmedH.refl U) (fun _ _ _ => rfl)⟩
theorem lk_v6d : zWv RL 7 yX8_look 9 cX8_look 3 (some .int) 2 := ⟨⟨(zTb_5 184 rfl rfl), (zTb_5 185 rfl rfl), (zTb_5 186 rfl rfl), (zTb_1 1 rfl rfl), (zTb_5 187 rfl rfl)⟩, by decide +kernel, by decide +kernel, by decide +kernel, by decide +kernel⟩
theorem lk_16d : Cond.classLink RL 13 "java/lang/IndexOutOfBoundsException" ∈ zTb := (zTb_5 182 rfl rfl)
theorem lk_26d : Cond.classLink RL 15 "java/util/NoSuchElementException" ∈ zTb := (zTb_5 183 rfl rfl)
set_option maxRecDepth 100000 in
theorem lk_36d : Cond.castable "java/lang/IndexOutOfBoundsException" "java/lang/IndexOutOfBoundsException" ∈ zwB := by decide +kernel
set_option maxRecDepth 100000 in
theorem lk_46d : Cond.castable "java/util/NoSuchElementException" "java/util/NoSuchElementException" ∈ zwB := by decide +kernel
theorem lk_w6d : Cond.codeWith yL_look cL_look 5 (some .int) lkH6d ∈ zTb := (zTb_5 181 rfl rfl)
set_option maxHeartbeats 4000000 in
set_option maxRecDepth 100000 in
theorem c_L_look6d {l : Launch} {b : Nat} {Γ : zΓ} {G : zH} {w o : Nat} {a1 b1 : Int} {f : Nat → Int64} {A W0 : aS} {tt : Nat} (hX : zXs Γ) (hst : l.stackTraces = false) (hB : zBn Γ G) (hZ : QQ Γ (Γ.2.1 w 4) tt A W0 G) (hI9 : G.2.2 903 w = tt) (hW9 : WI A W0) (hT9 : TA A) (hw : Γ.1 w = 9) (ha1 : -2147483648 ≤ a1 ∧ a1 ≤ 2147483647) (hb1 : -2147483648 ≤ b1 ∧ b1 ≤ 2147483647) :
    Met l yL_look (Cond.codeWith yL_look cL_look 5 (some .int) lkH6d :: zTb) (zrC 9 1 6) (zPl6d b Γ G w o a1 b1 f) (zQl6d (LKO A W0 a1 b1) b Γ G o) 1 6 (zAb b) := by
  refine va_MetW (cc := cL_look) (maxL := 5) (ret := some .int) (hh := lkH6d) (by decide) rfl ?_
  intro p e s m args below meth c s₁ B hml hv
  obtain ⟨rfl, h2, h3, h4, h7, h8, hTw⟩ := hv
  have hts := atoms_spec (ws := Cond.codeWith yL_look cL_look 5 (some .int) lkH6d :: zTb) B.pre
  have hown : s.vm.findClass RL = some m.cls := findClass_of_methodNamed B.named
  have htab : c.exceptionTable.toList = tableOf lkH6d := vx_table (x := yL_look) B (hts _ List.mem_cons_self)
  have hr := B.returns
  have hlk := B.notSynchronized
  have C : zCv p s m #[.ref w, .int (Int32.ofInt a1), .int (Int32.ofInt b1), .ref o] c Γ b cL_look 5 RL := ⟨B.exec, B.bytes, hml, hown, fun w hw => hts w (List.mem_cons_of_mem _ hw), h2, h3, h4, hX⟩
  have hl := lv_entry [.ref w, .int (Int32.ofInt a1), .int (Int32.ofInt b1), .ref o] (n := 5) (Nat.le_of_ble_eq_true rfl)
  have e0 : entryFrame m #[.ref w, .int (Int32.ofInt a1), .int (Int32.ofInt b1), .ref o] 5 = entryFrame m ([.ref w, .int (Int32.ofInt a1), .int (Int32.ofInt b1), .ref o] : List Value).toArray 5 := rfl
  rw [e0, lg_entry_eq]
  generalize (lg_sl ([.ref w, .int (Int32.ofInt a1), .int (Int32.ofInt b1), .ref o] : List Value) ++ List.replicate (5 - (lg_sl ([.ref w, .int (Int32.ofInt a1), .int (Int32.ofInt b1), .ref o] : List Value)).length) Slot.unset).toArray = rl at hl ⊢
  have hL : zL rl 5 (zent [zr 9 w, zi a1, zi b1, zr 300 o] 5) := ⟨hl.1, hl.2.1, fun i v hi => hl.2.2 _ (zent_args (av := [zr 9 w, zi a1, zi b1, zr 300 o]) hi)⟩
  have ret9 : ∀ (pc : Nat) (r : Int) (ls : List (Option zV)) (f' : Nat → Int64) (G' : zH), decode cL_look pc = .ok (.ireturn, 1) → zBn Γ G' → ((∀ q a i, Γ.1 a ≠ 0 → G'.1 q a i = G.1 q a i) ∧ (∀ q a i, Γ.1 a ≠ 0 → G'.2.1 q a i = G.2.1 q a i) ∧ G'.2.2 = G.2.2) → LKO A W0 a1 b1 (Int32.ofInt r).toInt f' → V p l e (zrC 9 1 6) s m #[.ref w, .int (Int32.ofInt a1), .int (Int32.ofInt b1), .ref o] below meth c b Γ.2.2.2.1 5 1 6 (MQ below (zQl6d (LKO A W0 a1 b1) b Γ G o) #[.ref w, .int (Int32.ofInt a1), .int (Int32.ofInt b1), .ref o] s 1 6 (zAb b)) pc ls [zi r] ([(o, zOut6d Γ f')] ++ zWd Γ G') := by
    intro pc r ls f' G' d hB' hsame hLK H locs rl hP hD hS hL
    exact W.iret (v := Int32.ofInt r) C.1 C.2.1 hr (fun t ht hW => ⟨⟨Int32.ofInt r, f', G', rfl, hB', hsame, hLK, by rw [ht]; exact hP, hD⟩, hS.F ht⟩) hS.2.2 d hlk
  have hbody : V p l e (zrC 9 1 6) s m #[.ref w, .int (Int32.ofInt a1), .int (Int32.ofInt b1), .ref o] below meth c b Γ.2.2.2.1 5 0 0 (MQ below (zQl6d (LKO A W0 a1 b1) b Γ G o) #[.ref w, .int (Int32.ofInt a1), .int (Int32.ofInt b1), .ref o] s 1 6 (zAb b)) 0 [some (zr 9 w), some (zi a1), some (zi b1), some (zr 300 o), none] [] ([(o, zOut6d Γ f)] ++ zWd Γ G) := by
    refine v_aload_n (pc := 0) C dL_look_0 rfl ?_
    refine v_iconst (pc := 1) C dL_look_1 ?_
    refine v_aload_n (pc := 2) C dL_look_2 rfl ?_
    refine v_iload_n6d (pc := 3) C dL_look_3 rfl ?_
    refine v_iload_n6d (pc := 4) C dL_look_4 rfl ?_
    refine v_lookX6d (pc := 5) C hB hw ha1 hb1 hTw dL_look_5 lk_v6d (c_X8_lookK hX hZ hI9 hW9 hT9 hst) ⟨Nat.le_of_ble_eq_true rfl, Nat.le_of_ble_eq_true rfl⟩ ⟨Nat.le_of_ble_eq_true rfl, Nat.le_of_ble_eq_true rfl⟩ (Nat.le_of_ble_eq_true rfl) ?_ ?_
    · intro E ce q9 H1 locs1 rl1 hE hP1 hD1 hS1 hc1 hc2 hc3 hL1
      rcases hE with ⟨rfl, hE⟩ | ⟨rfl, hE⟩
      · refine vx_catch (own := RL) (name := "java/lang/IndexOutOfBoundsException") hown [] ⟨0, 10, 13, 13⟩ [⟨0, 10, 17, 15⟩] htab (fun z hz => by cases hz) (by decide) (by decide) (C.2.2.2.2.1 _ lk_16d) (va_tabs rfl rfl (hTw.2.2.2.2.2 _ lk_36d)) hc1 hc2 hc3 ?_
        have hV : V p l e (zrC 9 1 6) s m #[.ref w, .int (Int32.ofInt a1), .int (Int32.ofInt b1), .ref o] below meth c b Γ.2.2.2.1 5 1 6 (MQ below (zQl6d (LKO A W0 a1 b1) b Γ G o) #[.ref w, .int (Int32.ofInt a1), .int (Int32.ofInt b1), .ref o] s 1 6 (zAb b)) 13 [some (zr 9 w), some (zi a1), some (zi b1), some (zr 300 o), none] [zr 301 q9] ([(o, zOut6d Γ f)] ++ zWd Γ G) := by
          refine v_astore6d (pc := 13) C dL_look_13 (by decide) ?_
          refine v_iconst (pc := 15) C dL_look_15 ?_
          exact ret9 16 1 _ f G dL_look_16 hB ⟨fun _ _ _ _ => rfl, fun _ _ _ _ => rfl, rfl⟩ ⟨(show (Int32.ofInt 1).toInt = 1 by decide).trans hE.symm, fun z => absurd z (by decide)⟩
        exact hV H1 locs1 rl1 hP1 hD1 hS1 hL1
      · refine vx_catch (own := RL) (name := "java/util/NoSuchElementException") hown [⟨0, 10, 13, 13⟩] ⟨0, 10, 17, 15⟩ [] htab (fun z hz => by rw [List.mem_singleton.mp hz]; exact Or.inr ⟨by decide, "java/lang/IndexOutOfBoundsException", C.2.2.2.2.1 _ lk_16d, hTw.2.2.2.2.1⟩) (by decide) (by decide) (C.2.2.2.2.1 _ lk_26d) (va_tabs rfl rfl (hTw.2.2.2.2.2 _ lk_46d)) hc1 hc2 hc3 ?_
        have hV : V p l e (zrC 9 1 6) s m #[.ref w, .int (Int32.ofInt a1), .int (Int32.ofInt b1), .ref o] below meth c b Γ.2.2.2.1 5 1 6 (MQ below (zQl6d (LKO A W0 a1 b1) b Γ G o) #[.ref w, .int (Int32.ofInt a1), .int (Int32.ofInt b1), .ref o] s 1 6 (zAb b)) 17 [some (zr 9 w), some (zi a1), some (zi b1), some (zr 300 o), none] [zr 301 q9] ([(o, zOut6d Γ f)] ++ zWd Γ G) := by
          refine v_astore6d (pc := 17) C dL_look_17 (by decide) ?_
          refine v_iconst (pc := 19) C dL_look_19 ?_
          exact ret9 20 2 _ f G dL_look_20 hB ⟨fun _ _ _ _ => rfl, fun _ _ _ _ => rfl, rfl⟩ ⟨(show (Int32.ofInt 2).toInt = 2 by decide).trans hE.symm, fun z => absurd z (by decide)⟩
        exact hV H1 locs1 rl1 hP1 hD1 hS1 hL1
    · intro x G1 hx hz hPV hB1
      refine v_i2l6d (pc := 8) C dL_look_8 hx ?_
      refine v_outV (pc := 9) C dL_look_9 (fun f1 hf1 => ?_)
      refine v_goto6d (pc := 10) (tgt := 21) C dL_look_10 (by decide) ?_
      refine v_iconst (pc := 21) C dL_look_21 ?_
      exact ret9 22 0 _ f1 (zno Γ G1) dL_look_22 hB1 (by subst hz; exact ⟨fun q a i ha => zno_1 ha q i, fun q a i ha => if_neg ha, rfl⟩) ⟨(show (Int32.ofInt 0).toInt = 0 by decide).trans hPV.1.symm, fun _ => hf1.trans (by rw [hPV.2])⟩
  exact hbody s.heap [] rl h7 h8 va_S.rf hL
