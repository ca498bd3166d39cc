/-! a row written whole; what is the same -/
def zuC (G : zH) (r a : Nat) (f : Nat → Int) : zH := (fun r' a' i' => if r' = r ∧ a' = a then f i' else G.1 r' a' i', G.2.1, G.2.2)
theorem zuC_1 (G : zH) (r a : Nat) (f : Nat → Int) (r' a' i' : Nat) : (zuC G r a f).1 r' a' i' = if r' = r ∧ a' = a then f i' else G.1 r' a' i' := rfl
theorem zuC_2 (G : zH) (r a : Nat) (f : Nat → Int) : (zuC G r a f).2 = G.2 := rfl
/-- only these regions of ints have changed; references none -/
def zsm (rs : List Nat) (G G' : zH) : Prop := (∀ r, r ∉ rs → G'.1 r = G.1 r) ∧ G'.2.2 = G.2.2
theorem zsm_rf {rs : List Nat} {G : zH} : zsm rs G G := ⟨fun _ _ => rfl, rfl⟩
theorem zsm_tr {rs : List Nat} {G G1 G2 : zH} (h1 : zsm rs G G1) (h2 : zsm rs G1 G2) : zsm rs G G2 := ⟨fun r hr => (h2.1 r hr).trans (h1.1 r hr), h2.2.trans h1.2⟩
theorem zsm_mo {rs rs' : List Nat} {G G1 : zH} (h : zsm rs G G1) (hs : ∀ r ∈ rs, r ∈ rs') : zsm rs' G G1 := ⟨fun r hr => h.1 r (fun q => hr (hs r q)), h.2⟩
theorem zsm_I {rs : List Nat} {G G1 : zH} {r a i : Nat} {x : Int} (hr : r ∈ rs) (h : zsm rs G G1) : zsm rs G (zuI G1 r a i x) := by
  refine ⟨fun r' hr' => ?_, h.2⟩
  rw [← h.1 r' hr']
  funext a' i'
  rw [zuI_1, if_neg (fun q : r' = r ∧ a' = a ∧ i' = i => hr' (q.1 ▸ hr))]
theorem zsm_C {rs : List Nat} {G G1 : zH} {r a : Nat} {f : Nat → Int} (hr : r ∈ rs) (h : zsm rs G G1) : zsm rs G (zuC G1 r a f) := by
  refine ⟨fun r' hr' => ?_, h.2⟩
  rw [← h.1 r' hr']
  funext a' i'
  rw [zuC_1, if_neg (fun q : r' = r ∧ a' = a => hr' (q.1 ▸ hr))]
theorem zsm_J {rs : List Nat} {G G1 : zH} {r a i : Nat} {x : Int} (h : zsm rs G G1) : zsm rs G (zuJ G1 r a i x) := h
/-- behind a callee that changes less -/
theorem zsm_c {rs rs' : List Nat} {G G1 G2 : zH} (h2 : zsm rs' G1 G2) (hs : ∀ r ∈ rs', r ∈ rs) (h1 : zsm rs G G1) : zsm rs G G2 := zsm_tr h1 (zsm_mo h2 hs)
theorem zsm_at {rs : List Nat} {G G1 : zH} (h : zsm rs G G1) (r a i : Nat) (hr : r ∉ rs) : G1.1 r a i = G.1 r a i := by rw [h.1 r hr]
/-- only these regions of ints have changed; references may have -/
def zsn (rs : List Nat) (G G' : zH) : Prop := ∀ r, r ∉ rs → G'.1 r = G.1 r
theorem zsn_rf {rs : List Nat} {G : zH} : zsn rs G G := fun _ _ => rfl
theorem zsn_I {rs : List Nat} {G G1 : zH} {r a i : Nat} {x : Int} (hr : r ∈ rs) (h : zsn rs G G1) : zsn rs G (zuI G1 r a i x) := fun r' hr' => by
  rw [← h r' hr']
  funext a' i'
  rw [zuI_1, if_neg (fun q : r' = r ∧ a' = a ∧ i' = i => hr' (q.1 ▸ hr))]
theorem zsn_C {rs : List Nat} {G G1 : zH} {r a : Nat} {f : Nat → Int} (hr : r ∈ rs) (h : zsn rs G G1) : zsn rs G (zuC G1 r a f) := fun r' hr' => by
  rw [← h r' hr']
  funext a' i'
  rw [zuC_1, if_neg (fun q : r' = r ∧ a' = a => hr' (q.1 ▸ hr))]
theorem zsn_J {rs : List Nat} {G G1 : zH} {r a i : Nat} {x : Int} (h : zsn rs G G1) : zsn rs G (zuJ G1 r a i x) := h
theorem zsn_P {rs : List Nat} {G G1 : zH} {r a b : Nat} (h : zsn rs G G1) : zsn rs G (zuP G1 r a b) := h
theorem zsn_c {rs rs' : List Nat} {G G1 G2 : zH} (h2 : zsn rs' G1 G2) (hs : ∀ r ∈ rs', r ∈ rs) (h1 : zsn rs G G1) : zsn rs G G2 := fun r hr => (h2 r (fun q => hr (hs r q))).trans (h1 r hr)
theorem zsn_m {rs rs' : List Nat} {G G1 G2 : zH} (h2 : zsm rs' G1 G2) (hs : ∀ r ∈ rs', r ∈ rs) (h1 : zsn rs G G1) : zsn rs G G2 := fun r hr => (h2.1 r (fun q => hr (hs r q))).trans (h1 r hr)
theorem zsn_at {rs : List Nat} {G G1 : zH} (h : zsn rs G G1) (r a i : Nat) (hr : r ∉ rs) : G1.1 r a i = G.1 r a i := by rw [h r hr]
/-- locals of which less is said -/
def zwk (l' l : List (Option zV)) : Prop := ∀ (i : Nat) (v : zV), l'[i]? = some (some v) → l[i]? = some (some v)
theorem zwk_0 {b : List (Option zV)} : zwk [] b := fun i v h => by simp at h
theorem zwk_s {x y : Option zV} {a b : List (Option zV)} (h : x = y) (t : zwk a b) : zwk (x :: a) (y :: b) := by
  subst h
  intro i v hv
  cases i with
  | zero => exact hv
  | succ i => exact t i v hv
theorem zwk_n {y : Option zV} {a b : List (Option zV)} (t : zwk a b) : zwk (none :: a) (y :: b) := by
  intro i v hv
  cases i with
  | zero => simp at hv
  | succ i => exact t i v hv
section ZS
variable {p : Program} {l : Launch} {e : Env} {R : Room} {s : State} {m : MethodId} {args : Array Value} {below : List Frame} {meth : Method} {c : Code} {Γ : zΓ} {cc : ByteArray} {nL : Nat} {own : String} {cells slots : Nat} {Q : State → Prop} {pc : Nat} {ls : List (Option zV)} {st : List zV} {G : zH}
theorem zs_wk {ls' : List (Option zV)} (kk : Z p l e R s m args below meth c Γ nL cells slots Q pc ls' st G) (h : zwk ls' ls) : Z p l e R s m args below meth c Γ nL cells slots Q pc ls st G := by
  intro hG hl hs H locs rl hP hS hL
  refine kk hG (fun v hv => ?_) hs H locs rl hP hS ⟨hL.1, hL.2.1, fun i v hv => hL.2.2 i v (h i v hv)⟩
  obtain ⟨i, hi⟩ := List.getElem?_of_mem hv
  exact hl v (List.mem_of_getElem? (h i v hi))
theorem zs_name {x : Int} (kk : ∀ y : Int, y = x → Z p l e R s m args below meth c Γ nL cells slots Q pc ls (zi y :: st) G) : Z p l e R s m args below meth c Γ nL cells slots Q pc ls (zi x :: st) G := kk x rfl
/-- the heap gets a name; what is known of it is said -/
theorem zs_heap {P : zH → Prop} (h : P G) (kk : ∀ G1 : zH, P G1 → Z p l e R s m args below meth c Γ nL cells slots Q pc ls st G1) : Z p l e R s m args below meth c Γ nL cells slots Q pc ls st G := kk G h
theorem zG_C {r a : Nat} {f : Nat → Int} (h : zG Γ G) (hf : ∀ i, (zrg r i).1 ≤ f i ∧ f i ≤ (zrg r i).2) : zG Γ (zuC G r a f) := by
  refine ⟨fun r' a' i' => ?_, h.2.1, h.2.2⟩
  rw [zuC_1]
  split
  · next q => obtain ⟨rfl, -⟩ := q; exact hf i'
  · exact h.1 r' a' i'
theorem zE_uC {r a b : Nat} {f : Nat → Int} (h : b ≠ a) : zE Γ (zuC G r a f) b = zE Γ G b := zE_same (fun r' i' => by rw [zuC_1, if_neg (fun q => h q.2)]) (fun _ _ => rfl) (fun _ => rfl)
def zcp (G : zH) (r0 a0 r1 a1 sp dp n : Nat) : Nat → Int := fun j => if dp ≤ j ∧ j < dp + n then G.1 r0 a0 (sp + (j - dp)) else G.1 r1 a1 j
theorem zs_acopy (C : zCx p s m args c Γ cc nL own) {idx t0 t1 a0 a1 n0 n1 r0 r1 : Nat} {sp dp n : Int} (d : decode cc pc = .ok (.invokestatic idx, 3)) (w : zWc own idx) (hz0 : zat t0 = (0, n0)) (hz1 : zat t1 = (0, n1)) (ht0 : t0 < 200) (ht1 : t1 < 200) (h1 : 0 ≤ sp) (h2 : 0 ≤ dp) (h3 : 0 ≤ n) (h4 : sp + n ≤ n0) (h5 : dp + n ≤ n1) (hr0 : 2000 + t0 = r0) (hr1 : 2000 + t1 = r1)
    (hrg : ∀ i j, (zrg r1 j).1 ≤ (zrg r0 i).1 ∧ (zrg r0 i).2 ≤ (zrg r1 j).2 ∨ (r0 = r1 ∧ sp = dp)) (hR : 1 ≤ R.frames) (hRl : ((st.map zc).map fun v => v.category).sum + (nativeFrameWords "java/lang/System" "arraycopy" 5 + 11) ≤ R.locals)
    (kk : Z p l e R s m args below meth c Γ nL cells slots Q (pc + 3) ls st (zuC G r1 a1 (zcp G r0 a0 r1 a1 sp.toNat dp.toNat n.toNat))) : Z p l e R s m args below meth c Γ nL cells slots Q pc ls (zi n :: zi dp :: zr t1 a1 :: zi sp :: zr t0 a0 :: st) G := by
  intro hG hl hs H locs rl hP hS hL
  have kn := zs_hd hs
  have kd := zs_hd (zs_tl hs)
  have ks := zs_hd (zs_tl (zs_tl (zs_tl hs)))
  obtain ⟨hta1, hk1⟩ := zk_ty (zs_hd (zs_tl (zs_tl hs))) ht1
  obtain ⟨hta0, hk0⟩ := zk_ty (zs_hd (zs_tl (zs_tl (zs_tl (zs_tl hs))))) ht0
  have hst := zs_tl (zs_tl (zs_tl (zs_tl (zs_tl hs))))
  obtain ⟨hK, hLk, hX, hN⟩ := C.2.2.2.2.2.1
  have hm1 : a1 ∈ Γ.2.2.2.2.1 := (hLk.2.1 a1).mpr (by omega)
  obtain ⟨q0, hq0⟩ := va_pl_get (X := []) (f := zE Γ G) ((hLk.2.1 a0).mpr (by omega))
  obtain ⟨q1, hq1⟩ := va_pl_get (X := []) (f := zE Γ G) hm1
  have hq9 := hq1
  rw [zE_int hta0 hz0] at hq0
  rw [zE_int hta1 hz1] at hq1
  have hD := zD_ok hLk (zE Γ G)
  have es : (Int32.ofInt sp).toNatClampNeg = sp.toNat := zi_nat h1 ks.2
  have ed : (Int32.ofInt dp).toNatClampNeg = dp.toNat := zi_nat h2 kd.2
  have en : (Int32.ofInt n).toNatClampNeg = n.toNat := zi_nat h3 kn.2
  have neg : ∀ x : Int, 0 ≤ x → x ≤ 2147483647 → ¬ Int32.ofInt x < 0 := fun x hx hx2 hq => by
    rw [zi_0, zi_lt ⟨by omega, hx2⟩ (by omega)] at hq
    omega
  subst hr0; subst hr1
  refine va_copyi C.1 C.2.1 (by rw [C.2.2.1, hL.1]) C.2.2.2.1 (C.2.2.2.2.1 _ w.1) (C.2.2.2.2.1 _ w.2.1) (C.2.2.2.2.1 _ w.2.2.1) (C.2.2.2.2.1 _ w.2.2.2) hK hP hD hS q0 q1 0 0 hq0 hq1 rfl rfl rfl (neg sp h1 ks.2) (neg dp h2 kd.2) (neg n h3 kn.2) (by rw [es, en]; omega) (by rw [ed, en]; omega) (fun _ _ => rfl) hR hRl d (fun H1 locs1 hP1 _ hS1 => ?_)
  rw [es, ed, en] at hP1
  have ef : va_cpy (fun j => Int32.ofInt (G.1 (2000 + t0) a0 j)) (fun j => Int32.ofInt (G.1 (2000 + t1) a1 j)) sp.toNat dp.toNat n.toNat = fun j => Int32.ofInt ((zuC G (2000 + t1) a1 (zcp G (2000 + t0) a0 (2000 + t1) a1 sp.toNat dp.toNat n.toNat)).1 (2000 + t1) a1 j) := by
    funext j
    rw [zuC_1, if_pos ⟨rfl, rfl⟩]
    unfold va_cpy zcp
    split <;> rfl
  rw [ef] at hP1
  have hset := (va_pl_set (A := zA Γ) (X := []) (f := zE Γ G) (e := .inl (Γ.2.2.1 0, n1, .inl (fun j => Int32.ofInt ((zuC G (2000 + t1) a1 (zcp G (2000 + t0) a0 (2000 + t1) a1 sp.toNat dp.toNat n.toNat)).1 (2000 + t1) a1 j)))) hD hm1 hq9).trans (zW_up (G' := zuC G (2000 + t1) a1 (zcp G (2000 + t0) a0 (2000 + t1) a1 sp.toNat dp.toNat n.toNat)) (by rw [zE_int hta1 hz1]) (fun b hb => zE_uC hb))
  refine kk (zG_C hG (fun j => ?_)) hl hst H1 locs1 rl (hset ▸ hP1) hS1 hL
  unfold zcp
  split
  · next q =>
    rcases hrg (sp.toNat + (j - dp.toNat)) j with h9 | ⟨h9, h8⟩
    · have h7 := hG.1 (2000 + t0) a0 (sp.toNat + (j - dp.toNat))
      omega
    · have h7 := hG.1 (2000 + t0) a0 (sp.toNat + (j - dp.toNat))
      subst h8
      rw [show sp.toNat + (j - sp.toNat) = j by omega] at h7 ⊢
      rw [h9] at h7
      rw [h9]
      exact h7
  · exact hG.1 (2000 + t1) a1 j
theorem zs_minI (C : zCx p s m args c Γ cc nL own) {idx : Nat} {x y : Int} (d : decode cc pc = .ok (.invokestatic idx, 3)) (w : zWs own idx yJ9_min_7cf53 cJ9_min_7cf53 2 (some .int) 2) (hR : 1 ≤ R.frames) (hRl : ((st.map zc).map fun v => v.category).sum + 13 ≤ R.locals) (hc : cells ≤ R.cells ∧ slots ≤ R.slots)
    (kk : ∀ z : Int, z = min x y → Z p l e R s m args below meth c Γ nL cells slots Q (pc + 3) ls (zi z :: st) G) : Z p l e R s m args below meth c Γ nL cells slots Q pc ls (zi y :: zi x :: st) G := by
  intro hG hl hs H locs rl hP hS hL
  have hy := zs_hd hs
  have hx := zs_hd (zs_tl hs)
  have hst := zs_tl (zs_tl hs)
  refine va_mmin C.1 C.2.1 (by rw [C.2.2.1, hL.1]) C.2.2.2.1 (C.2.2.2.2.1 _ w.1.1) (C.2.2.2.2.1 _ w.1.2.1) (C.2.2.2.2.1 _ w.1.2.2.1) (C.2.2.2.2.1 _ w.1.2.2.2) hR hRl hc.1 hc.2 d ?_
  split
  · next q =>
    rw [zi_lt (by first | exact hx | exact hy) (by first | exact hy | exact hx)] at q
    first
      | exact kk y (by omega) hG hl (zs_cons (v := zi y) hy hst) H locs rl hP hS hL
      | exact kk x (by omega) hG hl (zs_cons (v := zi x) hx hst) H locs rl hP hS hL
  · next q =>
    rw [zi_lt (by first | exact hx | exact hy) (by first | exact hy | exact hx)] at q
    first
      | exact kk y (by omega) hG hl (zs_cons (v := zi y) hy hst) H locs rl hP hS hL
      | exact kk x (by omega) hG hl (zs_cons (v := zi x) hx hst) H locs rl hP hS hL
theorem zs_maxI (C : zCx p s m args c Γ cc nL own) {idx : Nat} {x y : Int} (d : decode cc pc = .ok (.invokestatic idx, 3)) (w : zWs own idx yJ9_max_7cf53 cJ9_max_7cf53 2 (some .int) 2) (hR : 1 ≤ R.frames) (hRl : ((st.map zc).map fun v => v.category).sum + 13 ≤ R.locals) (hc : cells ≤ R.cells ∧ slots ≤ R.slots)
    (kk : ∀ z : Int, z = max x y → Z p l e R s m args below meth c Γ nL cells slots Q (pc + 3) ls (zi z :: st) G) : Z p l e R s m args below meth c Γ nL cells slots Q pc ls (zi y :: zi x :: st) G := by
  intro hG hl hs H locs rl hP hS hL
  have hy := zs_hd hs
  have hx := zs_hd (zs_tl hs)
  have hst := zs_tl (zs_tl hs)
  refine va_mmax C.1 C.2.1 (by rw [C.2.2.1, hL.1]) C.2.2.2.1 (C.2.2.2.2.1 _ w.1.1) (C.2.2.2.2.1 _ w.1.2.1) (C.2.2.2.2.1 _ w.1.2.2.1) (C.2.2.2.2.1 _ w.1.2.2.2) hR hRl hc.1 hc.2 d ?_
  split
  · next q =>
    rw [zi_lt (by first | exact hx | exact hy) (by first | exact hy | exact hx)] at q
    first
      | exact kk y (by omega) hG hl (zs_cons (v := zi y) hy hst) H locs rl hP hS hL
      | exact kk x (by omega) hG hl (zs_cons (v := zi x) hx hst) H locs rl hP hS hL
  · next q =>
    rw [zi_lt (by first | exact hx | exact hy) (by first | exact hy | exact hx)] at q
    first
      | exact kk y (by omega) hG hl (zs_cons (v := zi y) hy hst) H locs rl hP hS hL
      | exact kk x (by omega) hG hl (zs_cons (v := zi x) hx hst) H locs rl hP hS hL
theorem zs_minL (C : zCx p s m args c Γ cc nL own) {idx : Nat} {x y : Int} (d : decode cc pc = .ok (.invokestatic idx, 3)) (w : zWs own idx yJ9_min_f86c9 cJ9_min_f86c9 4 (some .long) 2) (hR : 1 ≤ R.frames) (hRl : ((st.map zc).map fun v => v.category).sum + 15 ≤ R.locals) (hc : cells ≤ R.cells ∧ slots ≤ R.slots)
    (kk : ∀ z : Int, z = min x y → Z p l e R s m args below meth c Γ nL cells slots Q (pc + 3) ls (zj z :: st) G) : Z p l e R s m args below meth c Γ nL cells slots Q pc ls (zj y :: zj x :: st) G := by
  intro hG hl hs H locs rl hP hS hL
  have hy := zs_hd hs
  have hx := zs_hd (zs_tl hs)
  have hst := zs_tl (zs_tl hs)
  refine va_mmin_long C.1 C.2.1 (by rw [C.2.2.1, hL.1]) C.2.2.2.1 (C.2.2.2.2.1 _ w.1.1) (C.2.2.2.2.1 _ w.1.2.1) (C.2.2.2.2.1 _ w.1.2.2.1) (C.2.2.2.2.1 _ w.1.2.2.2) hR hRl hc.1 hc.2 d ?_
  split
  · next q =>
    rw [zl_lt (by first | exact hx | exact hy) (by first | exact hy | exact hx)] at q
    first
      | exact kk y (by omega) hG hl (zs_cons (v := zj y) hy hst) H locs rl hP hS hL
      | exact kk x (by omega) hG hl (zs_cons (v := zj x) hx hst) H locs rl hP hS hL
  · next q =>
    rw [zl_lt (by first | exact hx | exact hy) (by first | exact hy | exact hx)] at q
    first
      | exact kk y (by omega) hG hl (zs_cons (v := zj y) hy hst) H locs rl hP hS hL
      | exact kk x (by omega) hG hl (zs_cons (v := zj x) hx hst) H locs rl hP hS hL
theorem zs_maxL (C : zCx p s m args c Γ cc nL own) {idx : Nat} {x y : Int} (d : decode cc pc = .ok (.invokestatic idx, 3)) (w : zWs own idx yJ9_max_f86c9 cJ9_max_f86c9 4 (some .long) 2) (hR : 1 ≤ R.frames) (hRl : ((st.map zc).map fun v => v.category).sum + 15 ≤ R.locals) (hc : cells ≤ R.cells ∧ slots ≤ R.slots)
    (kk : ∀ z : Int, z = max x y → Z p l e R s m args below meth c Γ nL cells slots Q (pc + 3) ls (zj z :: st) G) : Z p l e R s m args below meth c Γ nL cells slots Q pc ls (zj y :: zj x :: st) G := by
  intro hG hl hs H locs rl hP hS hL
  have hy := zs_hd hs
  have hx := zs_hd (zs_tl hs)
  have hst := zs_tl (zs_tl hs)
  refine va_mmax_long C.1 C.2.1 (by rw [C.2.2.1, hL.1]) C.2.2.2.1 (C.2.2.2.2.1 _ w.1.1) (C.2.2.2.2.1 _ w.1.2.1) (C.2.2.2.2.1 _ w.1.2.2.1) (C.2.2.2.2.1 _ w.1.2.2.2) hR hRl hc.1 hc.2 d ?_
  split
  · next q =>
    rw [zl_lt (by first | exact hx | exact hy) (by first | exact hy | exact hx)] at q
    first
      | exact kk y (by omega) hG hl (zs_cons (v := zj y) hy hst) H locs rl hP hS hL
      | exact kk x (by omega) hG hl (zs_cons (v := zj x) hx hst) H locs rl hP hS hL
  · next q =>
    rw [zl_lt (by first | exact hx | exact hy) (by first | exact hy | exact hx)] at q
    first
      | exact kk y (by omega) hG hl (zs_cons (v := zj y) hy hst) H locs rl hP hS hL
      | exact kk x (by omega) hG hl (zs_cons (v := zj x) hx hst) H locs rl hP hS hL
end ZS
