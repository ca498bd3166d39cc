section ZR
variable {p : Program} {l : Launch} {e : Env} {R : Room} {s : State} {m : MethodId} {args : Array Value} {below : List Frame} {meth : Method} {c : Code} {Γ : zΓ} {cc : ByteArray} {nL : Nat} {own : String} {cells slots : Nat} {Q : State → Prop} {pc : Nat} {ls : List (Option zV)} {st : List zV} {G : zH}
theorem zs_cons {v : zV} (h : zk Γ v) (hs : ∀ w ∈ st, zk Γ w) : ∀ w ∈ v :: st, zk Γ w := List.forall_mem_cons.mpr ⟨h, hs⟩
theorem zs_tl {v : zV} (hs : ∀ w ∈ v :: st, zk Γ w) : ∀ w ∈ st, zk Γ w := (List.forall_mem_cons.mp hs).2
theorem zs_hd {v : zV} (hs : ∀ w ∈ v :: st, zk Γ w) : zk Γ v := (List.forall_mem_cons.mp hs).1
theorem zi_lt {x y : Int} (hx : -2147483648 ≤ x ∧ x ≤ 2147483647) (hy : -2147483648 ≤ y ∧ y ≤ 2147483647) : Int32.ofInt x < Int32.ofInt y ↔ x < y := by
  rw [Int32.lt_iff_toInt_lt, Int32.toInt_ofInt_of_le (by omega) (by omega), Int32.toInt_ofInt_of_le (by omega) (by omega)]
theorem zi_le {x y : Int} (hx : -2147483648 ≤ x ∧ x ≤ 2147483647) (hy : -2147483648 ≤ y ∧ y ≤ 2147483647) : Int32.ofInt x ≤ Int32.ofInt y ↔ x ≤ y := by
  rw [Int32.le_iff_toInt_le, Int32.toInt_ofInt_of_le (by omega) (by omega), Int32.toInt_ofInt_of_le (by omega) (by omega)]
theorem zi_eq {x y : Int} (hx : -2147483648 ≤ x ∧ x ≤ 2147483647) (hy : -2147483648 ≤ y ∧ y ≤ 2147483647) : Int32.ofInt x = Int32.ofInt y ↔ x = y := by
  rw [← Int32.toInt_inj, Int32.toInt_ofInt_of_le (by omega) (by omega), Int32.toInt_ofInt_of_le (by omega) (by omega)]
theorem zi_0 : (0 : Int32) = Int32.ofInt 0 := rfl
theorem zi_in {x : Int} {n : Nat} (hx : 0 ≤ x ∧ x < n) (hn : x ≤ 2147483647) : vp_in (Int32.ofInt x) n := by
  rw [vp_in_iff, Int32.toInt_ofInt_of_le (by omega) (by omega)]
  exact hx
theorem zi_nat {x : Int} (hx : 0 ≤ x) (hn : x ≤ 2147483647) : (Int32.ofInt x).toNatClampNeg = x.toNat := Int32.toNatClampNeg_ofInt_of_le (by omega) (by omega)
/-- any int -/
theorem zW_int {H : Heap} {locs : List Loc} {rl : Array Slot} {w : Int32} (kk : ∀ z : Int, -2147483648 ≤ z → z ≤ 2147483647 → Z p l e R s m args below meth c Γ nL cells slots Q pc ls (zi z :: st) G) (hG : zG Γ G) (hl : ∀ v, some v ∈ ls → zk Γ v) (hs : ∀ v ∈ st, zk Γ v) (hP : va_P Γ.2.2.2.1 vwCl (zWd Γ G) H) (hS : va_S (zA Γ) s.heap H locs) (hL : zL rl nL ls) : W p l e R s m args below meth c H locs cells slots Q (F0 m pc rl (.int w :: st.map zc)) := by
  have h1 := Int32.le_toInt w
  have h2 := Int32.toInt_lt w
  have h := kk w.toInt (by omega) (by omega) hG hl (zs_cons ⟨by omega, by omega⟩ hs) H locs rl hP hS hL
  have e : zc (zi w.toInt) = .int w := by simp [zc]
  rwa [List.map_cons, e] at h
theorem zW_long {H : Heap} {locs : List Loc} {rl : Array Slot} {w : Int64} (kk : ∀ z : Int, -9223372036854775808 ≤ z → z ≤ 9223372036854775807 → Z p l e R s m args below meth c Γ nL cells slots Q pc ls (zj z :: st) G) (hG : zG Γ G) (hl : ∀ v, some v ∈ ls → zk Γ v) (hs : ∀ v ∈ st, zk Γ v) (hP : va_P Γ.2.2.2.1 vwCl (zWd Γ G) H) (hS : va_S (zA Γ) s.heap H locs) (hL : zL rl nL ls) : W p l e R s m args below meth c H locs cells slots Q (F0 m pc rl (.long w :: st.map zc)) := by
  have h1 := Int64.le_toInt w
  have h2 := Int64.toInt_lt w
  have h := kk w.toInt (by omega) (by omega) hG hl (zs_cons ⟨by omega, by omega⟩ hs) H locs rl hP hS hL
  have e : zc (zj w.toInt) = .long w := by simp [zc]
  rwa [List.map_cons, e] at h
/-- more may be forgotten -/
theorem zs_any {w : Int} (kk : ∀ z : Int, -2147483648 ≤ z → z ≤ 2147483647 → Z p l e R s m args below meth c Γ nL cells slots Q pc ls (zi z :: st) G) : Z p l e R s m args below meth c Γ nL cells slots Q pc ls (zi w :: st) G := by
  intro hG hl hs
  exact kk w (zs_hd hs).1 (zs_hd hs).2 hG hl hs
/-- what an int on the stack is known to be -/
theorem zs_top {w : Int} (kk : -2147483648 ≤ w → w ≤ 2147483647 → Z p l e R s m args below meth c Γ nL cells slots Q pc ls (zi w :: st) G) : Z p l e R s m args below meth c Γ nL cells slots Q pc ls (zi w :: st) G := by
  intro hG hl hs
  exact kk (zs_hd hs).1 (zs_hd hs).2 hG hl hs
theorem zs_good (kk : zG Γ G → Z p l e R s m args below meth c Γ nL cells slots Q pc ls st G) : Z p l e R s m args below meth c Γ nL cells slots Q pc ls st G := fun hG => kk hG hG
/-- an int local is in the ints -/
theorem zs_loc {w : Int} (i : Nat) (h : ls[i]? = some (some (zi w))) (kk : -2147483648 ≤ w → w ≤ 2147483647 → Z p l e R s m args below meth c Γ nL cells slots Q pc ls st G) : Z p l e R s m args below meth c Γ nL cells slots Q pc ls st G := by
  intro hG hl hs
  have h9 := hl _ (List.mem_of_getElem? h)
  exact kk h9.1 h9.2 hG hl hs
theorem zs_iconst (C : zCx p s m args c Γ cc nL own) {n : Int} (d : decode cc pc = .ok (.iconst n, 1)) (hn : (-2147483648 ≤ n ∧ n ≤ 2147483647)) (kk : Z p l e R s m args below meth c Γ nL cells slots Q (pc + 1) ls (zi n :: st) G) : Z p l e R s m args below meth c Γ nL cells slots Q pc ls st G := by
  intro hG hl hs H locs rl hP hS hL
  exact lv_iconst C.1 C.2.1 d rfl (kk hG hl (zs_cons hn hs) H locs rl hP hS hL)
theorem zs_bipush (C : zCx p s m args c Γ cc nL own) {n : Int} (d : decode cc pc = .ok (.bipush n, 2)) (hn : (-2147483648 ≤ n ∧ n ≤ 2147483647)) (hv : (Int8.ofInt n).toInt32 = Int32.ofInt n) (kk : Z p l e R s m args below meth c Γ nL cells slots Q (pc + 2) ls (zi n :: st) G) : Z p l e R s m args below meth c Γ nL cells slots Q pc ls st G := by
  intro hG hl hs H locs rl hP hS hL
  exact lv_bipush C.1 C.2.1 d hv (kk hG hl (zs_cons hn hs) H locs rl hP hS hL)
theorem zs_sipush (C : zCx p s m args c Γ cc nL own) {n : Int} (d : decode cc pc = .ok (.sipush n, 3)) (hn : (-2147483648 ≤ n ∧ n ≤ 2147483647)) (hv : (Int16.ofInt n).toInt32 = Int32.ofInt n) (kk : Z p l e R s m args below meth c Γ nL cells slots Q (pc + 3) ls (zi n :: st) G) : Z p l e R s m args below meth c Γ nL cells slots Q pc ls st G := by
  intro hG hl hs H locs rl hP hS hL
  exact lv_sipush C.1 C.2.1 d hv (kk hG hl (zs_cons hn hs) H locs rl hP hS hL)
theorem zs_ldc (C : zCx p s m args c Γ cc nL own) {i : Nat} {n : Int} {v : Int32} (d : decode cc pc = .ok (.ldc i, 2)) (w : Jvm.Cond.constant own i v ∈ zTb) (hv : v = Int32.ofInt n) (hn : (-2147483648 ≤ n ∧ n ≤ 2147483647)) (kk : Z p l e R s m args below meth c Γ nL cells slots Q (pc + 2) ls (zi n :: st) G) : Z p l e R s m args below meth c Γ nL cells slots Q pc ls st G := by
  intro hG hl hs H locs rl hP hS hL
  subst hv
  exact lv_ldc C.1 C.2.1 C.2.2.2.1 (C.2.2.2.2.1 _ w) d (kk hG hl (zs_cons hn hs) H locs rl hP hS hL)
theorem zs_ldcw (C : zCx p s m args c Γ cc nL own) {i : Nat} {n : Int} {v : Int32} (d : decode cc pc = .ok (.ldc_w i, 3)) (w : Jvm.Cond.constant own i v ∈ zTb) (hv : v = Int32.ofInt n) (hn : (-2147483648 ≤ n ∧ n ≤ 2147483647)) (kk : Z p l e R s m args below meth c Γ nL cells slots Q (pc + 3) ls (zi n :: st) G) : Z p l e R s m args below meth c Γ nL cells slots Q pc ls st G := by
  intro hG hl hs H locs rl hP hS hL
  subst hv
  exact lv_ldcw C.1 C.2.1 C.2.2.2.1 (C.2.2.2.2.1 _ w) d (kk hG hl (zs_cons hn hs) H locs rl hP hS hL)
theorem zs_ldc2 (C : zCx p s m args c Γ cc nL own) {i : Nat} {n : Int} {v : Int64} (d : decode cc pc = .ok (.ldc2_w i, 3)) (w : Jvm.Cond.constantLong own i v ∈ zTb) (hv : v = Int64.ofInt n) (hn : (-9223372036854775808 ≤ n ∧ n ≤ 9223372036854775807)) (kk : Z p l e R s m args below meth c Γ nL cells slots Q (pc + 3) ls (zj n :: st) G) : Z p l e R s m args below meth c Γ nL cells slots Q pc ls st G := by
  intro hG hl hs H locs rl hP hS hL
  subst hv
  exact lv_ldc2 C.1 C.2.1 C.2.2.2.1 (C.2.2.2.2.1 _ w) d (kk hG hl (zs_cons hn hs) H locs rl hP hS hL)
theorem zs_lconst (C : zCx p s m args c Γ cc nL own) {k : Fin 2} {n : Int} (d : decode cc pc = .ok (.lconst k, 1)) (hv : Int64.ofNat (k : Nat) = Int64.ofInt n) (hn : (-9223372036854775808 ≤ n ∧ n ≤ 9223372036854775807)) (kk : Z p l e R s m args below meth c Γ nL cells slots Q (pc + 1) ls (zj n :: st) G) : Z p l e R s m args below meth c Γ nL cells slots Q pc ls st G := by
  intro hG hl hs H locs rl hP hS hL
  exact lv_lconst C.1 C.2.1 d hv (kk hG hl (zs_cons hn hs) H locs rl hP hS hL)
theorem zs_iload_n (C : zCx p s m args c Γ cc nL own) {k : Fin 4} {x : Int} (d : decode cc pc = .ok (.iload_n k, 1)) (h : ls[(k : Nat)]? = some (some (zi x))) (kk : Z p l e R s m args below meth c Γ nL cells slots Q (pc + 1) ls (zi x :: st) G) : Z p l e R s m args below meth c Γ nL cells slots Q pc ls st G := by
  intro hG hl hs H locs rl hP hS hL
  exact lv_iload_n C.1 C.2.1 d rfl (hL.2.2 _ _ h) (kk hG hl (zs_cons (hl _ (List.mem_of_getElem? h)) hs) H locs rl hP hS hL)
theorem zs_iload (C : zCx p s m args c Γ cc nL own) {k : Nat} {x : Int} (d : decode cc pc = .ok (.iload k, 2)) (h : ls[k]? = some (some (zi x))) (kk : Z p l e R s m args below meth c Γ nL cells slots Q (pc + 2) ls (zi x :: st) G) : Z p l e R s m args below meth c Γ nL cells slots Q pc ls st G := by
  intro hG hl hs H locs rl hP hS hL
  exact lv_iload C.1 C.2.1 d (hL.2.2 _ _ h) (kk hG hl (zs_cons (hl _ (List.mem_of_getElem? h)) hs) H locs rl hP hS hL)
theorem zs_lload_n (C : zCx p s m args c Γ cc nL own) {k : Fin 4} {x : Int} (d : decode cc pc = .ok (.lload_n k, 1)) (h : ls[(k : Nat)]? = some (some (zj x))) (kk : Z p l e R s m args below meth c Γ nL cells slots Q (pc + 1) ls (zj x :: st) G) : Z p l e R s m args below meth c Γ nL cells slots Q pc ls st G := by
  intro hG hl hs H locs rl hP hS hL
  exact lv_lload_n C.1 C.2.1 d rfl (hL.2.2 _ _ h) (kk hG hl (zs_cons (hl _ (List.mem_of_getElem? h)) hs) H locs rl hP hS hL)
theorem zs_lload (C : zCx p s m args c Γ cc nL own) {k : Nat} {x : Int} (d : decode cc pc = .ok (.lload k, 2)) (h : ls[k]? = some (some (zj x))) (kk : Z p l e R s m args below meth c Γ nL cells slots Q (pc + 2) ls (zj x :: st) G) : Z p l e R s m args below meth c Γ nL cells slots Q pc ls st G := by
  intro hG hl hs H locs rl hP hS hL
  exact lv_lload C.1 C.2.1 d (hL.2.2 _ _ h) (kk hG hl (zs_cons (hl _ (List.mem_of_getElem? h)) hs) H locs rl hP hS hL)
theorem zs_aload_n (C : zCx p s m args c Γ cc nL own) {k : Fin 4} {t a : Nat} (d : decode cc pc = .ok (.aload_n k, 1)) (h : ls[(k : Nat)]? = some (some (zr t a))) (kk : Z p l e R s m args below meth c Γ nL cells slots Q (pc + 1) ls (zr t a :: st) G) : Z p l e R s m args below meth c Γ nL cells slots Q pc ls st G := by
  intro hG hl hs H locs rl hP hS hL
  exact lv_aload_n C.1 C.2.1 d rfl (hL.2.2 _ _ h) (kk hG hl (zs_cons (hl _ (List.mem_of_getElem? h)) hs) H locs rl hP hS hL)
theorem zs_aload (C : zCx p s m args c Γ cc nL own) {k : Nat} {t a : Nat} (d : decode cc pc = .ok (.aload k, 2)) (h : ls[k]? = some (some (zr t a))) (kk : Z p l e R s m args below meth c Γ nL cells slots Q (pc + 2) ls (zr t a :: st) G) : Z p l e R s m args below meth c Γ nL cells slots Q pc ls st G := by
  intro hG hl hs H locs rl hP hS hL
  exact lv_aload C.1 C.2.1 d (hL.2.2 _ _ h) (kk hG hl (zs_cons (hl _ (List.mem_of_getElem? h)) hs) H locs rl hP hS hL)
theorem zset_mem {i : Nat} {v w : zV} (h : some w ∈ zset ls i v) : w = v ∨ some w ∈ ls := by
  obtain ⟨j, hj⟩ := List.getElem?_of_mem h
  rcases zset_get ls i v j w hj with ⟨-, h2⟩ | ⟨-, h2, -⟩
  · exact Or.inl h2
  · exact Or.inr (List.mem_of_getElem? h2)
theorem znone_mem {i : Nat} {w : zV} (h : some w ∈ znone ls i) : some w ∈ ls := by
  obtain ⟨j, hj⟩ := List.getElem?_of_mem h
  exact List.mem_of_getElem? (znone_get ls i j w hj).2
theorem zs_hset {i : Nat} {v : zV} (hl : ∀ v, some v ∈ ls → zk Γ v) (h : zk Γ v) : ∀ w, some w ∈ zset ls i v → zk Γ w := fun w hw => (zset_mem hw).elim (fun e => e ▸ h) (hl w)
theorem zs_istore_n (C : zCx p s m args c Γ cc nL own) {k : Fin 4} {x : Int} (d : decode cc pc = .ok (.istore_n k, 1)) (hn : (k : Nat) < nL) (kk : Z p l e R s m args below meth c Γ nL cells slots Q (pc + 1) (zset ls (k : Nat) (zi x)) st G) : Z p l e R s m args below meth c Γ nL cells slots Q pc ls (zi x :: st) G := by
  intro hG hl hs H locs rl hP hS hL
  exact lv_istore_n C.1 C.2.1 d rfl (zL_has hL) hn rfl (fun rl' h' => kk hG (zs_hset hl (zs_hd hs)) (zs_tl hs) H locs rl' hP hS (zL_set1 (v := zi x) h'))
theorem zs_istore (C : zCx p s m args c Γ cc nL own) {k : Nat} {x : Int} (d : decode cc pc = .ok (.istore k, 2)) (hn : k < nL) (kk : Z p l e R s m args below meth c Γ nL cells slots Q (pc + 2) (zset ls k (zi x)) st G) : Z p l e R s m args below meth c Γ nL cells slots Q pc ls (zi x :: st) G := by
  intro hG hl hs H locs rl hP hS hL
  exact lv_istore C.1 C.2.1 d (zL_has hL) hn rfl (fun rl' h' => kk hG (zs_hset hl (zs_hd hs)) (zs_tl hs) H locs rl' hP hS (zL_set1 (v := zi x) h'))
theorem zs_astore_n (C : zCx p s m args c Γ cc nL own) {k : Fin 4} {t a : Nat} (d : decode cc pc = .ok (.astore_n k, 1)) (hn : (k : Nat) < nL) (kk : Z p l e R s m args below meth c Γ nL cells slots Q (pc + 1) (zset ls (k : Nat) (zr t a)) st G) : Z p l e R s m args below meth c Γ nL cells slots Q pc ls (zr t a :: st) G := by
  intro hG hl hs H locs rl hP hS hL
  exact lv_astore_n C.1 C.2.1 d rfl (zL_has hL) hn rfl (fun rl' h' => kk hG (zs_hset hl (zs_hd hs)) (zs_tl hs) H locs rl' hP hS (zL_set1 (v := zr t a) h'))
theorem zs_astore (C : zCx p s m args c Γ cc nL own) {k : Nat} {t a : Nat} (d : decode cc pc = .ok (.astore k, 2)) (hn : k < nL) (kk : Z p l e R s m args below meth c Γ nL cells slots Q (pc + 2) (zset ls k (zr t a)) st G) : Z p l e R s m args below meth c Γ nL cells slots Q pc ls (zr t a :: st) G := by
  intro hG hl hs H locs rl hP hS hL
  exact lv_astore C.1 C.2.1 d (zL_has hL) hn rfl (fun rl' h' => kk hG (zs_hset hl (zs_hd hs)) (zs_tl hs) H locs rl' hP hS (zL_set1 (v := zr t a) h'))
theorem zs_lstore_n (C : zCx p s m args c Γ cc nL own) {k : Fin 4} {x : Int} (d : decode cc pc = .ok (.lstore_n k, 1)) (hn : (k : Nat) + 1 < nL) (kk : Z p l e R s m args below meth c Γ nL cells slots Q (pc + 1) (znone (zset ls (k : Nat) (zj x)) ((k : Nat) + 1)) st G) : Z p l e R s m args below meth c Γ nL cells slots Q pc ls (zj x :: st) G := by
  intro hG hl hs H locs rl hP hS hL
  exact lv_lstore_n C.1 C.2.1 d rfl (zL_has hL) hn rfl (fun rl' h' => kk hG (fun w hw => zs_hset hl (zs_hd hs) w (znone_mem hw)) (zs_tl hs) H locs rl' hP hS (zL_set2 (v := zj x) h'))
theorem zs_lstore (C : zCx p s m args c Γ cc nL own) {k : Nat} {x : Int} (d : decode cc pc = .ok (.lstore k, 2)) (hn : k + 1 < nL) (kk : Z p l e R s m args below meth c Γ nL cells slots Q (pc + 2) (znone (zset ls k (zj x)) (k + 1)) st G) : Z p l e R s m args below meth c Γ nL cells slots Q pc ls (zj x :: st) G := by
  intro hG hl hs H locs rl hP hS hL
  exact lv_lstore C.1 C.2.1 d (zL_has hL) hn rfl (fun rl' h' => kk hG (fun w hw => zs_hset hl (zs_hd hs) w (znone_mem hw)) (zs_tl hs) H locs rl' hP hS (zL_set2 (v := zj x) h'))
theorem zs_iinc (C : zCx p s m args c Γ cc nL own) {k : Nat} {n x : Int} (d : decode cc pc = .ok (.iinc k n, 3)) (h : ls[k]? = some (some (zi x))) (hn : k < nL) (hr : -2147483648 ≤ x + n ∧ x + n ≤ 2147483647) (kk : Z p l e R s m args below meth c Γ nL cells slots Q (pc + 3) (zset ls k (zi (x + n))) st G) : Z p l e R s m args below meth c Γ nL cells slots Q pc ls st G := by
  intro hG hl hs H locs rl hP hS hL
  obtain ⟨j, hj⟩ := List.getElem?_of_mem (zas_mem h)
  refine lv_iinc (v := Int32.ofInt (x + n)) C.1 C.2.1 d (zL_has hL) (k := j) hj ?_ hn rfl (fun rl' h' => kk hG (zs_hset hl hr) hs H locs rl' hP hS (zL_set1 (v := zi (x + n)) h'))
  rw [Int32.ofInt_add]
theorem zs_iincF (C : zCx p s m args c Γ cc nL own) {k : Nat} {n x : Int} (d : decode cc pc = .ok (.iinc k n, 3)) (h : ls[k]? = some (some (zi x))) (hn : k < nL) (kk : ∀ z : Int, -2147483648 ≤ z → z ≤ 2147483647 → Z p l e R s m args below meth c Γ nL cells slots Q (pc + 3) (zset ls k (zi z)) st G) : Z p l e R s m args below meth c Γ nL cells slots Q pc ls st G := by
  intro hG hl hs H locs rl hP hS hL
  obtain ⟨j, hj⟩ := List.getElem?_of_mem (zas_mem h)
  have h1 := Int32.le_toInt (Int32.ofInt (x + n))
  have h2 := Int32.toInt_lt (Int32.ofInt (x + n))
  have hr : -2147483648 ≤ (Int32.ofInt (x + n)).toInt ∧ (Int32.ofInt (x + n)).toInt ≤ 2147483647 := by omega
  refine lv_iinc (v := Int32.ofInt (Int32.ofInt (x + n)).toInt) C.1 C.2.1 d (zL_has hL) (k := j) hj ?_ hn rfl (fun rl' h' => kk _ hr.1 hr.2 hG (zs_hset hl hr) hs H locs rl' hP hS (zL_set1 (v := zi (Int32.ofInt (x + n)).toInt) h'))
  rw [Int32.ofInt_toInt, Int32.ofInt_add]
theorem zs_iadd (C : zCx p s m args c Γ cc nL own) {x y : Int} (d : decode cc pc = .ok (.iadd, 1)) (hr : -2147483648 ≤ x + y ∧ x + y ≤ 2147483647) (kk : Z p l e R s m args below meth c Γ nL cells slots Q (pc + 1) ls (zi (x + y) :: st) G) : Z p l e R s m args below meth c Γ nL cells slots Q pc ls (zi y :: zi x :: st) G := by
  intro hG hl hs H locs rl hP hS hL
  refine lv_iadd C.1 C.2.1 d ?_
  rw [← Int32.ofInt_add]
  exact kk hG hl (zs_cons hr (zs_tl (zs_tl hs))) H locs rl hP hS hL
theorem zs_isub (C : zCx p s m args c Γ cc nL own) {x y : Int} (d : decode cc pc = .ok (.isub, 1)) (hr : -2147483648 ≤ x - y ∧ x - y ≤ 2147483647) (kk : Z p l e R s m args below meth c Γ nL cells slots Q (pc + 1) ls (zi (x - y) :: st) G) : Z p l e R s m args below meth c Γ nL cells slots Q pc ls (zi y :: zi x :: st) G := by
  intro hG hl hs H locs rl hP hS hL
  refine lv_isub C.1 C.2.1 d ?_
  rw [← Int32.ofInt_sub]
  exact kk hG hl (zs_cons hr (zs_tl (zs_tl hs))) H locs rl hP hS hL
theorem zs_imul (C : zCx p s m args c Γ cc nL own) {x y : Int} (d : decode cc pc = .ok (.imul, 1)) (hr : -2147483648 ≤ x * y ∧ x * y ≤ 2147483647) (kk : Z p l e R s m args below meth c Γ nL cells slots Q (pc + 1) ls (zi (x * y) :: st) G) : Z p l e R s m args below meth c Γ nL cells slots Q pc ls (zi y :: zi x :: st) G := by
  intro hG hl hs H locs rl hP hS hL
  refine lv_imul C.1 C.2.1 d ?_
  rw [← Int32.ofInt_mul]
  exact kk hG hl (zs_cons hr (zs_tl (zs_tl hs))) H locs rl hP hS hL
theorem zs_iaddF (C : zCx p s m args c Γ cc nL own) {x y : Int} (d : decode cc pc = .ok (.iadd, 1)) (kk : ∀ z : Int, -2147483648 ≤ z → z ≤ 2147483647 → Z p l e R s m args below meth c Γ nL cells slots Q (pc + 1) ls (zi z :: st) G) : Z p l e R s m args below meth c Γ nL cells slots Q pc ls (zi y :: zi x :: st) G := by
  intro hG hl hs H locs rl hP hS hL
  exact lv_iadd C.1 C.2.1 d (zW_int kk hG hl (zs_tl (zs_tl hs)) hP hS hL)
theorem zs_isubF (C : zCx p s m args c Γ cc nL own) {x y : Int} (d : decode cc pc = .ok (.isub, 1)) (kk : ∀ z : Int, -2147483648 ≤ z → z ≤ 2147483647 → Z p l e R s m args below meth c Γ nL cells slots Q (pc + 1) ls (zi z :: st) G) : Z p l e R s m args below meth c Γ nL cells slots Q pc ls (zi y :: zi x :: st) G := by
  intro hG hl hs H locs rl hP hS hL
  exact lv_isub C.1 C.2.1 d (zW_int kk hG hl (zs_tl (zs_tl hs)) hP hS hL)
theorem zs_imulF (C : zCx p s m args c Γ cc nL own) {x y : Int} (d : decode cc pc = .ok (.imul, 1)) (kk : ∀ z : Int, -2147483648 ≤ z → z ≤ 2147483647 → Z p l e R s m args below meth c Γ nL cells slots Q (pc + 1) ls (zi z :: st) G) : Z p l e R s m args below meth c Γ nL cells slots Q pc ls (zi y :: zi x :: st) G := by
  intro hG hl hs H locs rl hP hS hL
  exact lv_imul C.1 C.2.1 d (zW_int kk hG hl (zs_tl (zs_tl hs)) hP hS hL)
theorem zs_iandF (C : zCx p s m args c Γ cc nL own) {x y : Int} (d : decode cc pc = .ok (.iand, 1)) (kk : ∀ z : Int, -2147483648 ≤ z → z ≤ 2147483647 → Z p l e R s m args below meth c Γ nL cells slots Q (pc + 1) ls (zi z :: st) G) : Z p l e R s m args below meth c Γ nL cells slots Q pc ls (zi y :: zi x :: st) G := by
  intro hG hl hs H locs rl hP hS hL
  exact lv_iand C.1 C.2.1 d (zW_int kk hG hl (zs_tl (zs_tl hs)) hP hS hL)
theorem zs_iorF (C : zCx p s m args c Γ cc nL own) {x y : Int} (d : decode cc pc = .ok (.ior, 1)) (kk : ∀ z : Int, -2147483648 ≤ z → z ≤ 2147483647 → Z p l e R s m args below meth c Γ nL cells slots Q (pc + 1) ls (zi z :: st) G) : Z p l e R s m args below meth c Γ nL cells slots Q pc ls (zi y :: zi x :: st) G := by
  intro hG hl hs H locs rl hP hS hL
  exact lv_ior C.1 C.2.1 d (zW_int kk hG hl (zs_tl (zs_tl hs)) hP hS hL)
theorem zs_ishlF (C : zCx p s m args c Γ cc nL own) {x y : Int} (d : decode cc pc = .ok (.ishl, 1)) (kk : ∀ z : Int, -2147483648 ≤ z → z ≤ 2147483647 → Z p l e R s m args below meth c Γ nL cells slots Q (pc + 1) ls (zi z :: st) G) : Z p l e R s m args below meth c Γ nL cells slots Q pc ls (zi y :: zi x :: st) G := by
  intro hG hl hs H locs rl hP hS hL
  exact lv_ishl C.1 C.2.1 d (zW_int kk hG hl (zs_tl (zs_tl hs)) hP hS hL)
theorem zs_ishrF (C : zCx p s m args c Γ cc nL own) {x y : Int} (d : decode cc pc = .ok (.ishr, 1)) (kk : ∀ z : Int, -2147483648 ≤ z → z ≤ 2147483647 → Z p l e R s m args below meth c Γ nL cells slots Q (pc + 1) ls (zi z :: st) G) : Z p l e R s m args below meth c Γ nL cells slots Q pc ls (zi y :: zi x :: st) G := by
  intro hG hl hs H locs rl hP hS hL
  exact lv_ishr C.1 C.2.1 d (zW_int kk hG hl (zs_tl (zs_tl hs)) hP hS hL)
theorem zs_iushrF (C : zCx p s m args c Γ cc nL own) {x y : Int} (d : decode cc pc = .ok (.iushr, 1)) (kk : ∀ z : Int, -2147483648 ≤ z → z ≤ 2147483647 → Z p l e R s m args below meth c Γ nL cells slots Q (pc + 1) ls (zi z :: st) G) : Z p l e R s m args below meth c Γ nL cells slots Q pc ls (zi y :: zi x :: st) G := by
  intro hG hl hs H locs rl hP hS hL
  exact lv_iushr C.1 C.2.1 d rfl (zW_int kk hG hl (zs_tl (zs_tl hs)) hP hS hL)
theorem zs_idivF (C : zCx p s m args c Γ cc nL own) {x y : Int} (d : decode cc pc = .ok (.idiv, 1)) (hy : y ≠ 0) (kk : ∀ z : Int, -2147483648 ≤ z → z ≤ 2147483647 → Z p l e R s m args below meth c Γ nL cells slots Q (pc + 1) ls (zi z :: st) G) : Z p l e R s m args below meth c Γ nL cells slots Q pc ls (zi y :: zi x :: st) G := by
  intro hG hl hs H locs rl hP hS hL
  refine lv_idiv C.1 C.2.1 d (fun h => hy ?_) (zW_int kk hG hl (zs_tl (zs_tl hs)) hP hS hL)
  rw [zi_0, zi_eq (zs_hd hs) (by omega)] at h
  exact h
theorem zs_iremF (C : zCx p s m args c Γ cc nL own) {x y : Int} (d : decode cc pc = .ok (.irem, 1)) (hy : y ≠ 0) (kk : ∀ z : Int, -2147483648 ≤ z → z ≤ 2147483647 → Z p l e R s m args below meth c Γ nL cells slots Q (pc + 1) ls (zi z :: st) G) : Z p l e R s m args below meth c Γ nL cells slots Q pc ls (zi y :: zi x :: st) G := by
  intro hG hl hs H locs rl hP hS hL
  refine lv_irem C.1 C.2.1 d (fun h => hy ?_) (zW_int kk hG hl (zs_tl (zs_tl hs)) hP hS hL)
  rw [zi_0, zi_eq (zs_hd hs) (by omega)] at h
  exact h
theorem zi_div {x y : Int} (hx : 0 ≤ x ∧ x ≤ 2147483647) (hy : 0 < y ∧ y ≤ 2147483647) : Int32.ofInt x / Int32.ofInt y = Int32.ofInt (x / y) := by
  obtain ⟨n, rfl⟩ := Int.eq_ofNat_of_zero_le hx.1
  obtain ⟨k, rfl⟩ := Int.eq_ofNat_of_zero_le (Int.le_of_lt hy.1)
  have h := pk_div (a := n) (d := k) (by omega) (by omega) (by omega)
  rw [← Int.natCast_ediv]
  simpa only [nI, Int32.ofInt_eq_ofNat] using h
theorem zi_rem {x y : Int} (hx : 0 ≤ x ∧ x ≤ 2147483647) (hy : 0 < y ∧ y ≤ 2147483647) : Int32.ofInt x - Int32.ofInt x / Int32.ofInt y * Int32.ofInt y = Int32.ofInt (x % y) := by
  obtain ⟨n, rfl⟩ := Int.eq_ofNat_of_zero_le hx.1
  obtain ⟨k, rfl⟩ := Int.eq_ofNat_of_zero_le (Int.le_of_lt hy.1)
  have h := pk_rem (a := n) (d := k) (by omega) (by omega) (by omega)
  rw [← Int.natCast_emod]
  simpa only [nI, Int32.ofInt_eq_ofNat] using h
theorem zs_idiv (C : zCx p s m args c Γ cc nL own) {x y : Int} (d : decode cc pc = .ok (.idiv, 1)) (hx : 0 ≤ x) (hy : 0 < y) (kk : 0 ≤ x / y → x / y ≤ x → Z p l e R s m args below meth c Γ nL cells slots Q (pc + 1) ls (zi (x / y) :: st) G) : Z p l e R s m args below meth c Γ nL cells slots Q pc ls (zi y :: zi x :: st) G := by
  intro hG hl hs H locs rl hP hS hL
  have hxk := zs_hd (zs_tl hs)
  have hyk := zs_hd hs
  have h1 : 0 ≤ x / y := Int.ediv_nonneg hx (Int.le_of_lt hy)
  have h2 : x / y ≤ x := Int.ediv_le_self y hx
  refine lv_idiv C.1 C.2.1 d (fun h => ?_) ?_
  · rw [zi_0, zi_eq (zs_hd hs) (by omega)] at h
    omega
  · rw [zi_div ⟨hx, hxk.2⟩ ⟨hy, hyk.2⟩]
    exact kk h1 h2 hG hl (zs_cons (v := zi (x / y)) ⟨Int.le_trans (by decide) h1, Int.le_trans h2 hxk.2⟩ (zs_tl (zs_tl hs))) H locs rl hP hS hL
theorem zs_irem (C : zCx p s m args c Γ cc nL own) {x y : Int} (d : decode cc pc = .ok (.irem, 1)) (hx : 0 ≤ x) (hy : 0 < y) (kk : 0 ≤ x % y → x % y < y → Z p l e R s m args below meth c Γ nL cells slots Q (pc + 1) ls (zi (x % y) :: st) G) : Z p l e R s m args below meth c Γ nL cells slots Q pc ls (zi y :: zi x :: st) G := by
  intro hG hl hs H locs rl hP hS hL
  have hxk := zs_hd (zs_tl hs)
  have hyk := zs_hd hs
  have h1 : 0 ≤ x % y := Int.emod_nonneg x (by omega)
  have h2 : x % y < y := Int.emod_lt_of_pos x hy
  refine lv_irem C.1 C.2.1 d (fun h => ?_) ?_
  · rw [zi_0, zi_eq (zs_hd hs) (by omega)] at h
    omega
  · rw [zi_rem ⟨hx, hxk.2⟩ ⟨hy, hyk.2⟩]
    exact kk h1 h2 hG hl (zs_cons (v := zi (x % y)) ⟨Int.le_trans (by decide) h1, Int.le_trans (Int.le_of_lt h2) hyk.2⟩ (zs_tl (zs_tl hs))) H locs rl hP hS hL
/-- and with a mask of k ones -/
theorem zs_iand (C : zCx p s m args c Γ cc nL own) {x y : Int} (k : Nat) (d : decode cc pc = .ok (.iand, 1)) (hm : (Int32.ofInt y).toBitVec.toNat = 2 ^ k - 1) (hk : k ≤ 30) (kk : ∀ z : Int, 0 ≤ z → z < 2 ^ k → Z p l e R s m args below meth c Γ nL cells slots Q (pc + 1) ls (zi z :: st) G) : Z p l e R s m args below meth c Γ nL cells slots Q pc ls (zi y :: zi x :: st) G := by
  intro hG hl hs H locs rl hP hS hL
  refine lv_iand C.1 C.2.1 d ?_
  obtain ⟨j, hj, ej⟩ := pk_andE (Int32.ofInt x) k hm
  rw [ej]
  have h9 : (2 : Nat) ^ k ≤ 2 ^ 30 := Nat.pow_le_pow_right (by decide) hk
  have hz := kk (j : Int) (by omega) (by exact_mod_cast hj) hG hl (zs_cons (v := zi (j : Int)) ⟨by omega, by omega⟩ (zs_tl (zs_tl hs))) H locs rl hP hS hL
  have e : zc (zi (j : Int)) = .int (nI j) := by simp [zc, nI, Int32.ofInt_eq_ofNat]
  rwa [List.map_cons, e] at hz
theorem zs_laddF (C : zCx p s m args c Γ cc nL own) {x y : Int} (d : decode cc pc = .ok (.ladd, 1)) (kk : ∀ z : Int, -9223372036854775808 ≤ z → z ≤ 9223372036854775807 → Z p l e R s m args below meth c Γ nL cells slots Q (pc + 1) ls (zj z :: st) G) : Z p l e R s m args below meth c Γ nL cells slots Q pc ls (zj y :: zj x :: st) G := by
  intro hG hl hs H locs rl hP hS hL
  exact lv_ladd C.1 C.2.1 d (zW_long kk hG hl (zs_tl (zs_tl hs)) hP hS hL)
theorem zs_lsubF (C : zCx p s m args c Γ cc nL own) {x y : Int} (d : decode cc pc = .ok (.lsub, 1)) (kk : ∀ z : Int, -9223372036854775808 ≤ z → z ≤ 9223372036854775807 → Z p l e R s m args below meth c Γ nL cells slots Q (pc + 1) ls (zj z :: st) G) : Z p l e R s m args below meth c Γ nL cells slots Q pc ls (zj y :: zj x :: st) G := by
  intro hG hl hs H locs rl hP hS hL
  exact lv_lsub C.1 C.2.1 d (zW_long kk hG hl (zs_tl (zs_tl hs)) hP hS hL)
theorem zs_lmulF (C : zCx p s m args c Γ cc nL own) {x y : Int} (d : decode cc pc = .ok (.lmul, 1)) (kk : ∀ z : Int, -9223372036854775808 ≤ z → z ≤ 9223372036854775807 → Z p l e R s m args below meth c Γ nL cells slots Q (pc + 1) ls (zj z :: st) G) : Z p l e R s m args below meth c Γ nL cells slots Q pc ls (zj y :: zj x :: st) G := by
  intro hG hl hs H locs rl hP hS hL
  exact lv_lmul C.1 C.2.1 d (zW_long kk hG hl (zs_tl (zs_tl hs)) hP hS hL)
theorem zs_landF (C : zCx p s m args c Γ cc nL own) {x y : Int} (d : decode cc pc = .ok (.land, 1)) (kk : ∀ z : Int, -9223372036854775808 ≤ z → z ≤ 9223372036854775807 → Z p l e R s m args below meth c Γ nL cells slots Q (pc + 1) ls (zj z :: st) G) : Z p l e R s m args below meth c Γ nL cells slots Q pc ls (zj y :: zj x :: st) G := by
  intro hG hl hs H locs rl hP hS hL
  exact lv_land C.1 C.2.1 d (zW_long kk hG hl (zs_tl (zs_tl hs)) hP hS hL)
theorem zl_eq {x y : Int} (hx : -9223372036854775808 ≤ x ∧ x ≤ 9223372036854775807) (hy : -9223372036854775808 ≤ y ∧ y ≤ 9223372036854775807) : Int64.ofInt x = Int64.ofInt y ↔ x = y := by
  rw [← Int64.toInt_inj, Int64.toInt_ofInt_of_le (by omega) (by omega), Int64.toInt_ofInt_of_le (by omega) (by omega)]
theorem zl_lt {x y : Int} (hx : -9223372036854775808 ≤ x ∧ x ≤ 9223372036854775807) (hy : -9223372036854775808 ≤ y ∧ y ≤ 9223372036854775807) : Int64.ofInt x < Int64.ofInt y ↔ x < y := by
  rw [Int64.lt_iff_toInt_lt, Int64.toInt_ofInt_of_le (by omega) (by omega), Int64.toInt_ofInt_of_le (by omega) (by omega)]
theorem zs_lneg (C : zCx p s m args c Γ cc nL own) {x : Int} (d : decode cc pc = .ok (.lneg, 1)) (kk : ∀ z : Int, -9223372036854775808 ≤ z → z ≤ 9223372036854775807 → (x ≠ 0 → z ≠ 0) → Z p l e R s m args below meth c Γ nL cells slots Q (pc + 1) ls (zj z :: st) G) : Z p l e R s m args below meth c Γ nL cells slots Q pc ls (zj x :: st) G := by
  intro hG hl hs H locs rl hP hS hL
  have hx := zs_hd hs
  refine lv_lneg C.1 C.2.1 d ?_
  have h1 := Int64.le_toInt (-Int64.ofInt x)
  have h2 := Int64.toInt_lt (-Int64.ofInt x)
  have hz := kk (-Int64.ofInt x).toInt (by omega) (by omega) (fun h0 h3 => h0 ?_) hG hl (zs_cons (v := zj (-Int64.ofInt x).toInt) ⟨by omega, by omega⟩ (zs_tl hs)) H locs rl hP hS hL
  · have e : zc (zj (-Int64.ofInt x).toInt) = .long (-Int64.ofInt x) := by
      show Value.long (Int64.ofInt _) = _
      rw [Int64.ofInt_toInt]
    rwa [List.map_cons, e] at hz
  · have h4 : -Int64.ofInt x = 0 := Int64.toInt_inj.mp (by rw [h3]; rfl)
    have h5 : Int64.ofInt x = Int64.ofInt 0 := by
      have h6 := congrArg (fun z : Int64 => -z) h4
      simpa using h6
    exact (zl_eq hx (by omega)).mp h5
theorem zs_ldiv (C : zCx p s m args c Γ cc nL own) {x y : Int} (d : decode cc pc = .ok (.ldiv, 1)) (hy : y ≠ 0) (kk : ∀ z : Int, -9223372036854775808 ≤ z → z ≤ 9223372036854775807 → Z p l e R s m args below meth c Γ nL cells slots Q (pc + 1) ls (zj z :: st) G) : Z p l e R s m args below meth c Γ nL cells slots Q pc ls (zj y :: zj x :: st) G := by
  intro hG hl hs H locs rl hP hS hL
  refine lv_ldiv C.1 C.2.1 d (fun h => hy ?_) (zW_long kk hG hl (zs_tl (zs_tl hs)) hP hS hL)
  exact (zl_eq (zs_hd hs) (by omega)).mp (h.trans (by rfl))
theorem zs_lrem (C : zCx p s m args c Γ cc nL own) {x y : Int} (d : decode cc pc = .ok (.lrem, 1)) (hy : y ≠ 0) (kk : ∀ z : Int, -9223372036854775808 ≤ z → z ≤ 9223372036854775807 → Z p l e R s m args below meth c Γ nL cells slots Q (pc + 1) ls (zj z :: st) G) : Z p l e R s m args below meth c Γ nL cells slots Q pc ls (zj y :: zj x :: st) G := by
  intro hG hl hs H locs rl hP hS hL
  refine lv_lrem C.1 C.2.1 d (fun h => hy ?_) (zW_long kk hG hl (zs_tl (zs_tl hs)) hP hS hL)
  exact (zl_eq (zs_hd hs) (by omega)).mp (h.trans (by rfl))
theorem zs_lcmp (C : zCx p s m args c Γ cc nL own) {x y : Int} (d : decode cc pc = .ok (.lcmp, 1)) (kk : ∀ z : Int, (z = -1 ∧ x < y) ∨ (z = 0 ∧ x = y) ∨ (z = 1 ∧ y < x) → Z p l e R s m args below meth c Γ nL cells slots Q (pc + 1) ls (zi z :: st) G) : Z p l e R s m args below meth c Γ nL cells slots Q pc ls (zj y :: zj x :: st) G := by
  intro hG hl hs H locs rl hP hS hL
  have hy := zs_hd hs
  have hx := zs_hd (zs_tl hs)
  refine W.lcmp C.1 C.2.1 d ?_
  unfold lg_cmp
  by_cases h1 : Int64.ofInt x > Int64.ofInt y
  · rw [if_pos h1]
    exact kk 1 (Or.inr (Or.inr ⟨rfl, (zl_lt hy hx).mp h1⟩)) hG hl (zs_cons (v := zi 1) ⟨by decide, by decide⟩ (zs_tl (zs_tl hs))) H locs rl hP hS hL
  · rw [if_neg h1]
    by_cases h2 : Int64.ofInt x = Int64.ofInt y
    · rw [if_pos h2]
      exact kk 0 (Or.inr (Or.inl ⟨rfl, (zl_eq hx hy).mp h2⟩)) hG hl (zs_cons (v := zi 0) ⟨by decide, by decide⟩ (zs_tl (zs_tl hs))) H locs rl hP hS hL
    · rw [if_neg h2]
      have h3 : ¬ y < x := fun q => h1 ((zl_lt hy hx).mpr q)
      have h4 : ¬ x = y := fun q => h2 ((zl_eq hx hy).mpr q)
      exact kk (-1) (Or.inl ⟨rfl, by omega⟩) hG hl (zs_cons (v := zi (-1)) ⟨by decide, by decide⟩ (zs_tl (zs_tl hs))) H locs rl hP hS hL
theorem zs_i2l (C : zCx p s m args c Γ cc nL own) {x : Int} (d : decode cc pc = .ok (.i2l, 1)) (kk : Z p l e R s m args below meth c Γ nL cells slots Q (pc + 1) ls (zj x :: st) G) : Z p l e R s m args below meth c Γ nL cells slots Q pc ls (zi x :: st) G := by
  intro hG hl hs H locs rl hP hS hL
  have hx := zs_hd hs
  refine lv_i2l C.1 C.2.1 d (v := Int64.ofInt x) ?_ (kk hG hl (zs_cons (v := zj x) ⟨by have := hx.1; omega, by have := hx.2; omega⟩ (zs_tl hs)) H locs rl hP hS hL)
  apply Int64.toInt_inj.mp
  rw [Int32.toInt_toInt64, Int32.toInt_ofInt_of_le (by have := hx.1; omega) (by have := hx.2; omega), Int64.toInt_ofInt_of_le (by have := hx.1; omega) (by have := hx.2; omega)]
theorem zs_l2iF (C : zCx p s m args c Γ cc nL own) {x : Int} (d : decode cc pc = .ok (.l2i, 1)) (kk : ∀ z : Int, -2147483648 ≤ z → z ≤ 2147483647 → Z p l e R s m args below meth c Γ nL cells slots Q (pc + 1) ls (zi z :: st) G) : Z p l e R s m args below meth c Γ nL cells slots Q pc ls (zj x :: st) G := by
  intro hG hl hs H locs rl hP hS hL
  exact lv_l2i C.1 C.2.1 d rfl (zW_int kk hG hl (zs_tl hs) hP hS hL)
theorem zs_l2i (C : zCx p s m args c Γ cc nL own) {x : Int} (d : decode cc pc = .ok (.l2i, 1)) (hx : -2147483648 ≤ x ∧ x ≤ 2147483647) (kk : Z p l e R s m args below meth c Γ nL cells slots Q (pc + 1) ls (zi x :: st) G) : Z p l e R s m args below meth c Γ nL cells slots Q pc ls (zj x :: st) G := by
  intro hG hl hs H locs rl hP hS hL
  refine lv_l2i C.1 C.2.1 d (v := Int32.ofInt x) ?_ (kk hG hl (zs_cons (v := zi x) hx (zs_tl hs)) H locs rl hP hS hL)
  have e : Int64.ofInt x = (Int32.ofInt x).toInt64 := by
    apply Int64.toInt_inj.mp
    rw [Int32.toInt_toInt64, Int32.toInt_ofInt_of_le (by omega) (by omega), Int64.toInt_ofInt_of_le (by omega) (by omega)]
  rw [e]
  simp
theorem zc_cat {v : zV} (h : ∀ x, v ≠ zj x) : (zc v).category = 1 := by
  rcases v with x | x | x
  · rfl
  · exact absurd rfl (h x)
  · rfl
theorem zs_dupi (C : zCx p s m args c Γ cc nL own) {x : Int} (d : decode cc pc = .ok (.dup, 1)) (kk : Z p l e R s m args below meth c Γ nL cells slots Q (pc + 1) ls (zi x :: zi x :: st) G) : Z p l e R s m args below meth c Γ nL cells slots Q pc ls (zi x :: st) G := by
  intro hG hl hs H locs rl hP hS hL
  exact lv_dup C.1 C.2.1 d rfl (kk hG hl (zs_cons (zs_hd hs) hs) H locs rl hP hS hL)
theorem zs_dupa (C : zCx p s m args c Γ cc nL own) {t a : Nat} (d : decode cc pc = .ok (.dup, 1)) (kk : Z p l e R s m args below meth c Γ nL cells slots Q (pc + 1) ls (zr t a :: zr t a :: st) G) : Z p l e R s m args below meth c Γ nL cells slots Q pc ls (zr t a :: st) G := by
  intro hG hl hs H locs rl hP hS hL
  exact lv_dup C.1 C.2.1 d rfl (kk hG hl (zs_cons (zs_hd hs) hs) H locs rl hP hS hL)
theorem zs_dup2 (C : zCx p s m args c Γ cc nL own) {x : Int} {t a : Nat} (d : decode cc pc = .ok (.dup2, 1)) (kk : Z p l e R s m args below meth c Γ nL cells slots Q (pc + 1) ls (zi x :: zr t a :: zi x :: zr t a :: st) G) : Z p l e R s m args below meth c Γ nL cells slots Q pc ls (zi x :: zr t a :: st) G := by
  intro hG hl hs H locs rl hP hS hL
  exact lv_dup2_11 C.1 C.2.1 d rfl rfl (kk hG hl (zs_cons (zs_hd hs) (zs_cons (zs_hd (zs_tl hs)) hs)) H locs rl hP hS hL)
theorem zs_popi (C : zCx p s m args c Γ cc nL own) {x : Int} (d : decode cc pc = .ok (.pop, 1)) (kk : Z p l e R s m args below meth c Γ nL cells slots Q (pc + 1) ls st G) : Z p l e R s m args below meth c Γ nL cells slots Q pc ls (zi x :: st) G := by
  intro hG hl hs H locs rl hP hS hL
  exact lv_pop C.1 C.2.1 d rfl (kk hG hl (zs_tl hs) H locs rl hP hS hL)
theorem zs_pop2 (C : zCx p s m args c Γ cc nL own) {x : Int} (d : decode cc pc = .ok (.pop2, 1)) (kk : Z p l e R s m args below meth c Γ nL cells slots Q (pc + 1) ls st G) : Z p l e R s m args below meth c Γ nL cells slots Q pc ls (zj x :: st) G := by
  intro hG hl hs H locs rl hP hS hL
  exact lv_pop2_2 C.1 C.2.1 d rfl (kk hG hl (zs_tl hs) H locs rl hP hS hL)
theorem zs_goto (C : zCx p s m args c Γ cc nL own) {off : Int} {tgt : Nat} (d : decode cc pc = .ok (.goto off, 3)) (ht : (pc : Int) + off = (tgt : Int)) (kk : Z p l e R s m args below meth c Γ nL cells slots Q tgt ls st G) : Z p l e R s m args below meth c Γ nL cells slots Q pc ls st G := by
  intro hG hl hs H locs rl hP hS hL
  exact lv_goto C.1 C.2.1 d ht (kk hG hl hs H locs rl hP hS hL)
theorem zs_at {pc' : Nat} (h : pc = pc') (kk : Z p l e R s m args below meth c Γ nL cells slots Q pc' ls st G) : Z p l e R s m args below meth c Γ nL cells slots Q pc ls st G := h ▸ kk
theorem zs_icmp_lt (C : zCx p s m args c Γ cc nL own) {x y : Int} {off : Int} {tgt : Nat} (d : decode cc pc = .ok (.if_icmp .lt off, 3)) (ht : (pc : Int) + off = (tgt : Int)) (kt : x < y → Z p l e R s m args below meth c Γ nL cells slots Q tgt ls st G) (kf : ¬ (x < y) → Z p l e R s m args below meth c Γ nL cells slots Q (pc + 3) ls st G) : Z p l e R s m args below meth c Γ nL cells slots Q pc ls (zi y :: zi x :: st) G := by
  intro hG hl hs H locs rl hP hS hL
  exact lv_icmp_lt C.1 C.2.1 d ht (fun h => kt ((zi_lt (zs_hd (zs_tl hs)) (zs_hd hs)).mp h) hG hl (zs_tl (zs_tl hs)) H locs rl hP hS hL) (fun h => kf (fun q => h ((zi_lt (zs_hd (zs_tl hs)) (zs_hd hs)).mpr q)) hG hl (zs_tl (zs_tl hs)) H locs rl hP hS hL)
theorem zs_if_lt (C : zCx p s m args c Γ cc nL own) {x : Int} {off : Int} {tgt : Nat} (d : decode cc pc = .ok (.ifCond .lt off, 3)) (ht : (pc : Int) + off = (tgt : Int)) (kt : x < 0 → Z p l e R s m args below meth c Γ nL cells slots Q tgt ls st G) (kf : ¬ (x < 0) → Z p l e R s m args below meth c Γ nL cells slots Q (pc + 3) ls st G) : Z p l e R s m args below meth c Γ nL cells slots Q pc ls (zi x :: st) G := by
  intro hG hl hs H locs rl hP hS hL
  exact lv_if_lt C.1 C.2.1 d ht (fun h => kt ((zi_lt (zs_hd hs) (show (-2147483648 : Int) ≤ 0 ∧ (0 : Int) ≤ 2147483647 by decide)).mp h) hG hl (zs_tl hs) H locs rl hP hS hL) (fun h => kf (fun q => h ((zi_lt (zs_hd hs) (show (-2147483648 : Int) ≤ 0 ∧ (0 : Int) ≤ 2147483647 by decide)).mpr q)) hG hl (zs_tl hs) H locs rl hP hS hL)
theorem zs_icmp_ge (C : zCx p s m args c Γ cc nL own) {x y : Int} {off : Int} {tgt : Nat} (d : decode cc pc = .ok (.if_icmp .ge off, 3)) (ht : (pc : Int) + off = (tgt : Int)) (kt : y ≤ x → Z p l e R s m args below meth c Γ nL cells slots Q tgt ls st G) (kf : ¬ (y ≤ x) → Z p l e R s m args below meth c Γ nL cells slots Q (pc + 3) ls st G) : Z p l e R s m args below meth c Γ nL cells slots Q pc ls (zi y :: zi x :: st) G := by
  intro hG hl hs H locs rl hP hS hL
  exact lv_icmp_ge C.1 C.2.1 d ht (fun h => kt ((zi_le (zs_hd hs) (zs_hd (zs_tl hs))).mp h) hG hl (zs_tl (zs_tl hs)) H locs rl hP hS hL) (fun h => kf (fun q => h ((zi_le (zs_hd hs) (zs_hd (zs_tl hs))).mpr q)) hG hl (zs_tl (zs_tl hs)) H locs rl hP hS hL)
theorem zs_if_ge (C : zCx p s m args c Γ cc nL own) {x : Int} {off : Int} {tgt : Nat} (d : decode cc pc = .ok (.ifCond .ge off, 3)) (ht : (pc : Int) + off = (tgt : Int)) (kt : 0 ≤ x → Z p l e R s m args below meth c Γ nL cells slots Q tgt ls st G) (kf : ¬ (0 ≤ x) → Z p l e R s m args below meth c Γ nL cells slots Q (pc + 3) ls st G) : Z p l e R s m args below meth c Γ nL cells slots Q pc ls (zi x :: st) G := by
  intro hG hl hs H locs rl hP hS hL
  exact lv_if_ge C.1 C.2.1 d ht (fun h => kt ((zi_le (show (-2147483648 : Int) ≤ 0 ∧ (0 : Int) ≤ 2147483647 by decide) (zs_hd hs)).mp h) hG hl (zs_tl hs) H locs rl hP hS hL) (fun h => kf (fun q => h ((zi_le (show (-2147483648 : Int) ≤ 0 ∧ (0 : Int) ≤ 2147483647 by decide) (zs_hd hs)).mpr q)) hG hl (zs_tl hs) H locs rl hP hS hL)
theorem zs_icmp_gt (C : zCx p s m args c Γ cc nL own) {x y : Int} {off : Int} {tgt : Nat} (d : decode cc pc = .ok (.if_icmp .gt off, 3)) (ht : (pc : Int) + off = (tgt : Int)) (kt : y < x → Z p l e R s m args below meth c Γ nL cells slots Q tgt ls st G) (kf : ¬ (y < x) → Z p l e R s m args below meth c Γ nL cells slots Q (pc + 3) ls st G) : Z p l e R s m args below meth c Γ nL cells slots Q pc ls (zi y :: zi x :: st) G := by
  intro hG hl hs H locs rl hP hS hL
  exact lv_icmp_gt C.1 C.2.1 d ht (fun h => kt ((zi_lt (zs_hd hs) (zs_hd (zs_tl hs))).mp h) hG hl (zs_tl (zs_tl hs)) H locs rl hP hS hL) (fun h => kf (fun q => h ((zi_lt (zs_hd hs) (zs_hd (zs_tl hs))).mpr q)) hG hl (zs_tl (zs_tl hs)) H locs rl hP hS hL)
theorem zs_if_gt (C : zCx p s m args c Γ cc nL own) {x : Int} {off : Int} {tgt : Nat} (d : decode cc pc = .ok (.ifCond .gt off, 3)) (ht : (pc : Int) + off = (tgt : Int)) (kt : 0 < x → Z p l e R s m args below meth c Γ nL cells slots Q tgt ls st G) (kf : ¬ (0 < x) → Z p l e R s m args below meth c Γ nL cells slots Q (pc + 3) ls st G) : Z p l e R s m args below meth c Γ nL cells slots Q pc ls (zi x :: st) G := by
  intro hG hl hs H locs rl hP hS hL
  exact lv_if_gt C.1 C.2.1 d ht (fun h => kt ((zi_lt (show (-2147483648 : Int) ≤ 0 ∧ (0 : Int) ≤ 2147483647 by decide) (zs_hd hs)).mp h) hG hl (zs_tl hs) H locs rl hP hS hL) (fun h => kf (fun q => h ((zi_lt (show (-2147483648 : Int) ≤ 0 ∧ (0 : Int) ≤ 2147483647 by decide) (zs_hd hs)).mpr q)) hG hl (zs_tl hs) H locs rl hP hS hL)
theorem zs_icmp_le (C : zCx p s m args c Γ cc nL own) {x y : Int} {off : Int} {tgt : Nat} (d : decode cc pc = .ok (.if_icmp .le off, 3)) (ht : (pc : Int) + off = (tgt : Int)) (kt : x ≤ y → Z p l e R s m args below meth c Γ nL cells slots Q tgt ls st G) (kf : ¬ (x ≤ y) → Z p l e R s m args below meth c Γ nL cells slots Q (pc + 3) ls st G) : Z p l e R s m args below meth c Γ nL cells slots Q pc ls (zi y :: zi x :: st) G := by
  intro hG hl hs H locs rl hP hS hL
  exact lv_icmp_le C.1 C.2.1 d ht (fun h => kt ((zi_le (zs_hd (zs_tl hs)) (zs_hd hs)).mp h) hG hl (zs_tl (zs_tl hs)) H locs rl hP hS hL) (fun h => kf (fun q => h ((zi_le (zs_hd (zs_tl hs)) (zs_hd hs)).mpr q)) hG hl (zs_tl (zs_tl hs)) H locs rl hP hS hL)
theorem zs_if_le (C : zCx p s m args c Γ cc nL own) {x : Int} {off : Int} {tgt : Nat} (d : decode cc pc = .ok (.ifCond .le off, 3)) (ht : (pc : Int) + off = (tgt : Int)) (kt : x ≤ 0 → Z p l e R s m args below meth c Γ nL cells slots Q tgt ls st G) (kf : ¬ (x ≤ 0) → Z p l e R s m args below meth c Γ nL cells slots Q (pc + 3) ls st G) : Z p l e R s m args below meth c Γ nL cells slots Q pc ls (zi x :: st) G := by
  intro hG hl hs H locs rl hP hS hL
  exact lv_if_le C.1 C.2.1 d ht (fun h => kt ((zi_le (zs_hd hs) (show (-2147483648 : Int) ≤ 0 ∧ (0 : Int) ≤ 2147483647 by decide)).mp h) hG hl (zs_tl hs) H locs rl hP hS hL) (fun h => kf (fun q => h ((zi_le (zs_hd hs) (show (-2147483648 : Int) ≤ 0 ∧ (0 : Int) ≤ 2147483647 by decide)).mpr q)) hG hl (zs_tl hs) H locs rl hP hS hL)
theorem zs_icmp_eq (C : zCx p s m args c Γ cc nL own) {x y : Int} {off : Int} {tgt : Nat} (d : decode cc pc = .ok (.if_icmp .eq off, 3)) (ht : (pc : Int) + off = (tgt : Int)) (kt : x = y → Z p l e R s m args below meth c Γ nL cells slots Q tgt ls st G) (kf : ¬ (x = y) → Z p l e R s m args below meth c Γ nL cells slots Q (pc + 3) ls st G) : Z p l e R s m args below meth c Γ nL cells slots Q pc ls (zi y :: zi x :: st) G := by
  intro hG hl hs H locs rl hP hS hL
  exact lv_icmp_eq C.1 C.2.1 d ht (fun h => kt ((zi_eq (zs_hd (zs_tl hs)) (zs_hd hs)).mp h) hG hl (zs_tl (zs_tl hs)) H locs rl hP hS hL) (fun h => kf (fun q => h ((zi_eq (zs_hd (zs_tl hs)) (zs_hd hs)).mpr q)) hG hl (zs_tl (zs_tl hs)) H locs rl hP hS hL)
theorem zs_icmp_ne (C : zCx p s m args c Γ cc nL own) {x y : Int} {off : Int} {tgt : Nat} (d : decode cc pc = .ok (.if_icmp .ne off, 3)) (ht : (pc : Int) + off = (tgt : Int)) (kt : ¬ (x = y) → Z p l e R s m args below meth c Γ nL cells slots Q tgt ls st G) (kf : x = y → Z p l e R s m args below meth c Γ nL cells slots Q (pc + 3) ls st G) : Z p l e R s m args below meth c Γ nL cells slots Q pc ls (zi y :: zi x :: st) G := by
  intro hG hl hs H locs rl hP hS hL
  exact lv_icmp_ne C.1 C.2.1 d ht (fun h => kt (fun q => h ((zi_eq (zs_hd (zs_tl hs)) (zs_hd hs)).mpr q)) hG hl (zs_tl (zs_tl hs)) H locs rl hP hS hL) (fun h => kf ((zi_eq (zs_hd (zs_tl hs)) (zs_hd hs)).mp h) hG hl (zs_tl (zs_tl hs)) H locs rl hP hS hL)
theorem zs_if_eq (C : zCx p s m args c Γ cc nL own) {x : Int} {off : Int} {tgt : Nat} (d : decode cc pc = .ok (.ifCond .eq off, 3)) (ht : (pc : Int) + off = (tgt : Int)) (kt : x = 0 → Z p l e R s m args below meth c Γ nL cells slots Q tgt ls st G) (kf : ¬ (x = 0) → Z p l e R s m args below meth c Γ nL cells slots Q (pc + 3) ls st G) : Z p l e R s m args below meth c Γ nL cells slots Q pc ls (zi x :: st) G := by
  intro hG hl hs H locs rl hP hS hL
  exact lv_if_eq C.1 C.2.1 d ht (fun h => kt ((zi_eq (zs_hd hs) (show (-2147483648 : Int) ≤ 0 ∧ (0 : Int) ≤ 2147483647 by decide)).mp h) hG hl (zs_tl hs) H locs rl hP hS hL) (fun h => kf (fun q => h ((zi_eq (zs_hd hs) (show (-2147483648 : Int) ≤ 0 ∧ (0 : Int) ≤ 2147483647 by decide)).mpr q)) hG hl (zs_tl hs) H locs rl hP hS hL)
theorem zs_if_ne (C : zCx p s m args c Γ cc nL own) {x : Int} {off : Int} {tgt : Nat} (d : decode cc pc = .ok (.ifCond .ne off, 3)) (ht : (pc : Int) + off = (tgt : Int)) (kt : ¬ (x = 0) → Z p l e R s m args below meth c Γ nL cells slots Q tgt ls st G) (kf : x = 0 → Z p l e R s m args below meth c Γ nL cells slots Q (pc + 3) ls st G) : Z p l e R s m args below meth c Γ nL cells slots Q pc ls (zi x :: st) G := by
  intro hG hl hs H locs rl hP hS hL
  exact lv_if_ne C.1 C.2.1 d ht (fun h => kt (fun q => h ((zi_eq (zs_hd hs) (show (-2147483648 : Int) ≤ 0 ∧ (0 : Int) ≤ 2147483647 by decide)).mpr q)) hG hl (zs_tl hs) H locs rl hP hS hL) (fun h => kf ((zi_eq (zs_hd hs) (show (-2147483648 : Int) ≤ 0 ∧ (0 : Int) ≤ 2147483647 by decide)).mp h) hG hl (zs_tl hs) H locs rl hP hS hL)
theorem zs_tabOut (C : zCx p s m args c Γ cc nL own) {dflt lo hi : Int} {offs : Array Int} {len tgt : Nat} {x : Int} (d : decode cc pc = .ok (.tableswitch dflt lo hi offs, len)) (h : x < lo ∨ hi < x) (ht : (pc : Int) + dflt = (tgt : Int)) (kk : Z p l e R s m args below meth c Γ nL cells slots Q tgt ls st G) : Z p l e R s m args below meth c Γ nL cells slots Q pc ls (zi x :: st) G := by
  intro hG hl hs H locs rl hP hS hL
  have hx := zs_hd hs
  exact lv_tableOut C.1 C.2.1 d (by rw [Int32.toInt_ofInt_of_le (by have := hx.1; omega) (by have := hx.2; omega)]; exact h) ht (kk hG hl (zs_tl hs) H locs rl hP hS hL)
theorem zs_tabIn (C : zCx p s m args c Γ cc nL own) {dflt lo hi : Int} {offs : Array Int} {len tgt : Nat} {x : Int} (k : Int) {off : Int} (d : decode cc pc = .ok (.tableswitch dflt lo hi offs, len)) (hk : x = k) (h1 : lo ≤ k ∧ k ≤ hi) (ho : offs[(k - lo).toNat]? = some off) (ht : (pc : Int) + off = (tgt : Int)) (kk : Z p l e R s m args below meth c Γ nL cells slots Q tgt ls st G) : Z p l e R s m args below meth c Γ nL cells slots Q pc ls (zi x :: st) G := by
  intro hG hl hs H locs rl hP hS hL
  have hx := zs_hd hs
  subst hk
  have e : (Int32.ofInt x).toInt = x := Int32.toInt_ofInt_of_le (by have := hx.1; omega) (by have := hx.2; omega)
  exact lv_tableIn C.1 C.2.1 d (by rw [e]; omega) (by rw [e]; omega) (by rw [e]; exact ho) ht (kk hG hl (zs_tl hs) H locs rl hP hS hL)
theorem zs_look (C : zCx p s m args c Γ cc nL own) {dflt : Int} {ps : Array (Int × Int)} {len tgt : Nat} {x off : Int} (d : decode cc pc = .ok (.lookupswitch dflt ps, len)) (hp : (ps.toList.zip (ps.toList.drop 1)).all (fun (a, next) => a.1 < next.1) = true) (ho : Op.lookupswitch.offset ps.toList dflt x = off) (ht : (pc : Int) + off = (tgt : Int)) (kk : Z p l e R s m args below meth c Γ nL cells slots Q tgt ls st G) : Z p l e R s m args below meth c Γ nL cells slots Q pc ls (zi x :: st) G := by
  intro hG hl hs H locs rl hP hS hL
  have hx := zs_hd hs
  exact lv_lookup C.1 C.2.1 d hp (by rw [Int32.toInt_ofInt_of_le (by have := hx.1; omega) (by have := hx.2; omega)]; exact ho) ht (kk hG hl (zs_tl hs) H locs rl hP hS hL)
end ZR
