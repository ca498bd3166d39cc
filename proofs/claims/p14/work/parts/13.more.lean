section
/-! a row written whole; what is the same -/
def zuC (G : zH) (r a : Nat) (f : Nat → Int) : zH := (fun r' a' i' => if r' = r ∧ a' = a then f i' else G.1 r' a' i', G.2.1, G.2.2)
theorem zuC_1 (G : zH) (r a : Nat) (f : Nat → Int) (r' a' i' : Nat) : (zuC G r a f).1 r' a' i' = if r' = r ∧ a' = a then f i' else G.1 r' a' i' := rfl
theorem zuC_2 (G : zH) (r a : Nat) (f : Nat → Int) : (zuC G r a f).2 = G.2 := rfl
/-- only these regions of ints have changed; references none -/
def zsm (rs : List Nat) (G G' : zH) : Prop := (∀ r, r ∉ rs → G'.1 r = G.1 r) ∧ G'.2.2 = G.2.2
theorem zsm_rf {rs : List Nat} {G : zH} : zsm rs G G := ⟨fun _ _ => rfl, rfl⟩
theorem zsm_tr {rs : List Nat} {G G1 G2 : zH} (h1 : zsm rs G G1) (h2 : zsm rs G1 G2) : zsm rs G G2 := ⟨fun r hr => (h2.1 r hr).trans (h1.1 r hr), h2.2.trans h1.2⟩
theorem zsm_mo {rs rs' : List Nat} {G G1 : zH} (h : zsm rs G G1) (hs : ∀ r ∈ rs, r ∈ rs') : zsm rs' G G1 := ⟨fun r hr => h.1 r (fun q => hr (hs r q)), h.2⟩
theorem zsm_I {rs : List Nat} {G G1 : zH} {r a i : Nat} {x : Int} (hr : r ∈ rs) (h : zsm rs G G1) : zsm rs G (zuI G1 r a i x) := by
  refine ⟨fun r' hr' => ?_, h.2⟩
  rw [← h.1 r' hr']
  funext a' i'
  rw [zuI_1, if_neg (fun q : r' = r ∧ a' = a ∧ i' = i => hr' (q.1 ▸ hr))]
theorem zsm_C {rs : List Nat} {G G1 : zH} {r a : Nat} {f : Nat → Int} (hr : r ∈ rs) (h : zsm rs G G1) : zsm rs G (zuC G1 r a f) := by
  refine ⟨fun r' hr' => ?_, h.2⟩
  rw [← h.1 r' hr']
  funext a' i'
  rw [zuC_1, if_neg (fun q : r' = r ∧ a' = a => hr' (q.1 ▸ hr))]
theorem zsm_J {rs : List Nat} {G G1 : zH} {r a i : Nat} {x : Int} (h : zsm rs G G1) : zsm rs G (zuJ G1 r a i x) := h
/-- behind a callee that changes less -/
theorem zsm_c {rs rs' : List Nat} {G G1 G2 : zH} (h2 : zsm rs' G1 G2) (hs : ∀ r ∈ rs', r ∈ rs) (h1 : zsm rs G G1) : zsm rs G G2 := zsm_tr h1 (zsm_mo h2 hs)
theorem zsm_at {rs : List Nat} {G G1 : zH} (h : zsm rs G G1) (r a i : Nat) (hr : r ∉ rs) : G1.1 r a i = G.1 r a i := by rw [h.1 r hr]
/-- only these regions of ints have changed; references may have -/
def zsn (rs : List Nat) (G G' : zH) : Prop := ∀ r, r ∉ rs → G'.1 r = G.1 r
theorem zsn_rf {rs : List Nat} {G : zH} : zsn rs G G := fun _ _ => rfl
theorem zsn_I {rs : List Nat} {G G1 : zH} {r a i : Nat} {x : Int} (hr : r ∈ rs) (h : zsn rs G G1) : zsn rs G (zuI G1 r a i x) := fun r' hr' => by
  rw [← h r' hr']
  funext a' i'
  rw [zuI_1, if_neg (fun q : r' = r ∧ a' = a ∧ i' = i => hr' (q.1 ▸ hr))]
theorem zsn_C {rs : List Nat} {G G1 : zH} {r a : Nat} {f : Nat → Int} (hr : r ∈ rs) (h : zsn rs G G1) : zsn rs G (zuC G1 r a f) := fun r' hr' => by
  rw [← h r' hr']
  funext a' i'
  rw [zuC_1, if_neg (fun q : r' = r ∧ a' = a => hr' (q.1 ▸ hr))]
theorem zsn_J {rs : List Nat} {G G1 : zH} {r a i : Nat} {x : Int} (h : zsn rs G G1) : zsn rs G (zuJ G1 r a i x) := h
theorem zsn_P {rs : List Nat} {G G1 : zH} {r a b : Nat} (h : zsn rs G G1) : zsn rs G (zuP G1 r a b) := h
theorem zsn_c {rs rs' : List Nat} {G G1 G2 : zH} (h2 : zsn rs' G1 G2) (hs : ∀ r ∈ rs', r ∈ rs) (h1 : zsn rs G G1) : zsn rs G G2 := fun r hr => (h2 r (fun q => hr (hs r q))).trans (h1 r hr)
theorem zsn_m {rs rs' : List Nat} {G G1 G2 : zH} (h2 : zsm rs' G1 G2) (hs : ∀ r ∈ rs', r ∈ rs) (h1 : zsn rs G G1) : zsn rs G G2 := fun r hr => (h2.1 r (fun q => hr (hs r q))).trans (h1 r hr)
theorem zsn_at {rs : List Nat} {G G1 : zH} (h : zsn rs G G1) (r a i : Nat) (hr : r ∉ rs) : G1.1 r a i = G.1 r a i := by rw [h r hr]
/-- locals of which less is said -/
def zwk (l' l : List (Option zV)) : Prop := ∀ (i : Nat) (v : zV), l'[i]? = some (some v) → l[i]? = some (some v)
theorem zwk_0 {b : List (Option zV)} : zwk [] b := fun i v h => by simp at h
theorem zwk_s {x y : Option zV} {a b : List (Option zV)} (h : x = y) (t : zwk a b) : zwk (x :: a) (y :: b) := by
  subst h
  intro i v hv
  cases i with
  | zero => exact hv
  | succ i => exact t i v hv
theorem zwk_n {y : Option zV} {a b : List (Option zV)} (t : zwk a b) : zwk (none :: a) (y :: b) := by
  intro i v hv
  cases i with
  | zero => simp at hv
  | succ i => exact t i v hv
section ZS
variable {p : Program} {l : Launch} {e : Env} {R : Room} {s : State} {m : MethodId} {args : Array Value} {below : List Frame} {meth : Method} {c : Code} {Γ : zΓ} {cc : ByteArray} {nL : Nat} {own : String} {cells slots : Nat} {Q : State → Prop} {pc : Nat} {ls : List (Option zV)} {st : List zV} {G : zH}
theorem zs_wk {ls' : List (Option zV)} (kk : Z p l e R s m args below meth c Γ nL cells slots Q pc ls' st G) (h : zwk ls' ls) : Z p l e R s m args below meth c Γ nL cells slots Q pc ls st G := by
  intro hG hl hs H locs rl hP hS hL
  refine kk hG (fun v hv => ?_) hs H locs rl hP hS ⟨hL.1, hL.2.1, fun i v hv => hL.2.2 i v (h i v hv)⟩
  obtain ⟨i, hi⟩ := List.getElem?_of_mem hv
  exact hl v (List.mem_of_getElem? (h i v hi))
theorem zs_name {x : Int} (kk : ∀ y : Int, y = x → Z p l e R s m args below meth c Γ nL cells slots Q pc ls (zi y :: st) G) : Z p l e R s m args below meth c Γ nL cells slots Q pc ls (zi x :: st) G := kk x rfl
/-- the heap gets a name; what is known of it is said -/
theorem zs_heap {P : zH → Prop} (h : P G) (kk : ∀ G1 : zH, P G1 → Z p l e R s m args below meth c Γ nL cells slots Q pc ls st G1) : Z p l e R s m args below meth c Γ nL cells slots Q pc ls st G := kk G h
theorem zG_C {r a : Nat} {f : Nat → Int} (h : zG Γ G) (hf : ∀ i, (zrg r i).1 ≤ f i ∧ f i ≤ (zrg r i).2) : zG Γ (zuC G r a f) := by
  refine ⟨fun r' a' i' => ?_, h.2.1, h.2.2⟩
  rw [zuC_1]
  split
  · next q => obtain ⟨rfl, -⟩ := q; exact hf i'
  · exact h.1 r' a' i'
theorem zE_uC {r a b : Nat} {f : Nat → Int} (h : b ≠ a) : zE Γ (zuC G r a f) b = zE Γ G b := zE_same (fun r' i' => by rw [zuC_1, if_neg (fun q => h q.2)]) (fun _ _ => rfl) (fun _ => rfl)
def zcp (G : zH) (r0 a0 r1 a1 sp dp n : Nat) : Nat → Int := fun j => if dp ≤ j ∧ j < dp + n then G.1 r0 a0 (sp + (j - dp)) else G.1 r1 a1 j
theorem zs_acopy (C : zCx p s m args c Γ cc nL own) {idx t0 t1 a0 a1 n0 n1 r0 r1 : Nat} {sp dp n : Int} (d : decode cc pc = .ok (.invokestatic idx, 3)) (w : zWc own idx) (hz0 : zat t0 = (0, n0)) (hz1 : zat t1 = (0, n1)) (ht0 : t0 < 200) (ht1 : t1 < 200) (h1 : 0 ≤ sp) (h2 : 0 ≤ dp) (h3 : 0 ≤ n) (h4 : sp + n ≤ n0) (h5 : dp + n ≤ n1) (hr0 : 2000 + t0 = r0) (hr1 : 2000 + t1 = r1)
    (hrg : ∀ i j, (zrg r1 j).1 ≤ (zrg r0 i).1 ∧ (zrg r0 i).2 ≤ (zrg r1 j).2 ∨ (r0 = r1 ∧ sp = dp)) (hR : 1 ≤ R.frames) (hRl : ((st.map zc).map fun v => v.category).sum + (nativeFrameWords "java/lang/System" "arraycopy" 5 + 11) ≤ R.locals)
    (kk : Z p l e R s m args below meth c Γ nL cells slots Q (pc + 3) ls st (zuC G r1 a1 (zcp G r0 a0 r1 a1 sp.toNat dp.toNat n.toNat))) : Z p l e R s m args below meth c Γ nL cells slots Q pc ls (zi n :: zi dp :: zr t1 a1 :: zi sp :: zr t0 a0 :: st) G := by
  intro hG hl hs H locs rl hP hS hL
  have kn := zs_hd hs
  have kd := zs_hd (zs_tl hs)
  have ks := zs_hd (zs_tl (zs_tl (zs_tl hs)))
  obtain ⟨hta1, hk1⟩ := zk_ty (zs_hd (zs_tl (zs_tl hs))) ht1
  obtain ⟨hta0, hk0⟩ := zk_ty (zs_hd (zs_tl (zs_tl (zs_tl (zs_tl hs))))) ht0
  have hst := zs_tl (zs_tl (zs_tl (zs_tl (zs_tl hs))))
  obtain ⟨hK, hLk, hX, hN⟩ := C.2.2.2.2.2.1
  have hm1 : a1 ∈ Γ.2.2.2.2.1 := (hLk.2.1 a1).mpr (by omega)
  obtain ⟨q0, hq0⟩ := va_pl_get (X := []) (f := zE Γ G) ((hLk.2.1 a0).mpr (by omega))
  obtain ⟨q1, hq1⟩ := va_pl_get (X := []) (f := zE Γ G) hm1
  have hq9 := hq1
  rw [zE_int hta0 hz0] at hq0
  rw [zE_int hta1 hz1] at hq1
  have hD := zD_ok hLk (zE Γ G)
  have es : (Int32.ofInt sp).toNatClampNeg = sp.toNat := zi_nat h1 ks.2
  have ed : (Int32.ofInt dp).toNatClampNeg = dp.toNat := zi_nat h2 kd.2
  have en : (Int32.ofInt n).toNatClampNeg = n.toNat := zi_nat h3 kn.2
  have neg : ∀ x : Int, 0 ≤ x → x ≤ 2147483647 → ¬ Int32.ofInt x < 0 := fun x hx hx2 hq => by
    rw [zi_0, zi_lt ⟨by omega, hx2⟩ (by omega)] at hq
    omega
  subst hr0; subst hr1
  refine va_copyi C.1 C.2.1 (by rw [C.2.2.1, hL.1]) C.2.2.2.1 (C.2.2.2.2.1 _ w.1) (C.2.2.2.2.1 _ w.2.1) (C.2.2.2.2.1 _ w.2.2.1) (C.2.2.2.2.1 _ w.2.2.2) hK hP hD hS q0 q1 0 0 hq0 hq1 rfl rfl rfl (neg sp h1 ks.2) (neg dp h2 kd.2) (neg n h3 kn.2) (by rw [es, en]; omega) (by rw [ed, en]; omega) (fun _ _ => rfl) hR hRl d (fun H1 locs1 hP1 _ hS1 => ?_)
  rw [es, ed, en] at hP1
  have ef : va_cpy (fun j => Int32.ofInt (G.1 (2000 + t0) a0 j)) (fun j => Int32.ofInt (G.1 (2000 + t1) a1 j)) sp.toNat dp.toNat n.toNat = fun j => Int32.ofInt ((zuC G (2000 + t1) a1 (zcp G (2000 + t0) a0 (2000 + t1) a1 sp.toNat dp.toNat n.toNat)).1 (2000 + t1) a1 j) := by
    funext j
    rw [zuC_1, if_pos ⟨rfl, rfl⟩]
    unfold va_cpy zcp
    split <;> rfl
  rw [ef] at hP1
  have hset := (va_pl_set (A := zA Γ) (X := []) (f := zE Γ G) (e := .inl (Γ.2.2.1 0, n1, .inl (fun j => Int32.ofInt ((zuC G (2000 + t1) a1 (zcp G (2000 + t0) a0 (2000 + t1) a1 sp.toNat dp.toNat n.toNat)).1 (2000 + t1) a1 j)))) hD hm1 hq9).trans (zW_up (G' := zuC G (2000 + t1) a1 (zcp G (2000 + t0) a0 (2000 + t1) a1 sp.toNat dp.toNat n.toNat)) (by rw [zE_int hta1 hz1]) (fun b hb => zE_uC hb))
  refine kk (zG_C hG (fun j => ?_)) hl hst H1 locs1 rl (hset ▸ hP1) hS1 hL
  unfold zcp
  split
  · next q =>
    rcases hrg (sp.toNat + (j - dp.toNat)) j with h9 | ⟨h9, h8⟩
    · have h7 := hG.1 (2000 + t0) a0 (sp.toNat + (j - dp.toNat))
      omega
    · have h7 := hG.1 (2000 + t0) a0 (sp.toNat + (j - dp.toNat))
      subst h8
      rw [show sp.toNat + (j - sp.toNat) = j by omega] at h7 ⊢
      rw [h9] at h7
      rw [h9]
      exact h7
  · exact hG.1 (2000 + t1) a1 j
theorem zs_minI (C : zCx p s m args c Γ cc nL own) {idx : Nat} {x y : Int} (d : decode cc pc = .ok (.invokestatic idx, 3)) (w : zWs own idx yJ9_min_7cf53 cJ9_min_7cf53 2 (some .int) 2) (hR : 1 ≤ R.frames) (hRl : ((st.map zc).map fun v => v.category).sum + 13 ≤ R.locals) (hc : cells ≤ R.cells ∧ slots ≤ R.slots)
    (kk : ∀ z : Int, z = min x y → Z p l e R s m args below meth c Γ nL cells slots Q (pc + 3) ls (zi z :: st) G) : Z p l e R s m args below meth c Γ nL cells slots Q pc ls (zi y :: zi x :: st) G := by
  intro hG hl hs H locs rl hP hS hL
  have hy := zs_hd hs
  have hx := zs_hd (zs_tl hs)
  have hst := zs_tl (zs_tl hs)
  refine va_mmin C.1 C.2.1 (by rw [C.2.2.1, hL.1]) C.2.2.2.1 (C.2.2.2.2.1 _ w.1.1) (C.2.2.2.2.1 _ w.1.2.1) (C.2.2.2.2.1 _ w.1.2.2.1) (C.2.2.2.2.1 _ w.1.2.2.2) hR hRl hc.1 hc.2 d ?_
  split
  · next q =>
    rw [zi_lt (by first | exact hx | exact hy) (by first | exact hy | exact hx)] at q
    first
      | exact kk y (by omega) hG hl (zs_cons (v := zi y) hy hst) H locs rl hP hS hL
      | exact kk x (by omega) hG hl (zs_cons (v := zi x) hx hst) H locs rl hP hS hL
  · next q =>
    rw [zi_lt (by first | exact hx | exact hy) (by first | exact hy | exact hx)] at q
    first
      | exact kk y (by omega) hG hl (zs_cons (v := zi y) hy hst) H locs rl hP hS hL
      | exact kk x (by omega) hG hl (zs_cons (v := zi x) hx hst) H locs rl hP hS hL
theorem zs_maxI (C : zCx p s m args c Γ cc nL own) {idx : Nat} {x y : Int} (d : decode cc pc = .ok (.invokestatic idx, 3)) (w : zWs own idx yJ9_max_7cf53 cJ9_max_7cf53 2 (some .int) 2) (hR : 1 ≤ R.frames) (hRl : ((st.map zc).map fun v => v.category).sum + 13 ≤ R.locals) (hc : cells ≤ R.cells ∧ slots ≤ R.slots)
    (kk : ∀ z : Int, z = max x y → Z p l e R s m args below meth c Γ nL cells slots Q (pc + 3) ls (zi z :: st) G) : Z p l e R s m args below meth c Γ nL cells slots Q pc ls (zi y :: zi x :: st) G := by
  intro hG hl hs H locs rl hP hS hL
  have hy := zs_hd hs
  have hx := zs_hd (zs_tl hs)
  have hst := zs_tl (zs_tl hs)
  refine va_mmax C.1 C.2.1 (by rw [C.2.2.1, hL.1]) C.2.2.2.1 (C.2.2.2.2.1 _ w.1.1) (C.2.2.2.2.1 _ w.1.2.1) (C.2.2.2.2.1 _ w.1.2.2.1) (C.2.2.2.2.1 _ w.1.2.2.2) hR hRl hc.1 hc.2 d ?_
  split
  · next q =>
    rw [zi_lt (by first | exact hx | exact hy) (by first | exact hy | exact hx)] at q
    first
      | exact kk y (by omega) hG hl (zs_cons (v := zi y) hy hst) H locs rl hP hS hL
      | exact kk x (by omega) hG hl (zs_cons (v := zi x) hx hst) H locs rl hP hS hL
  · next q =>
    rw [zi_lt (by first | exact hx | exact hy) (by first | exact hy | exact hx)] at q
    first
      | exact kk y (by omega) hG hl (zs_cons (v := zi y) hy hst) H locs rl hP hS hL
      | exact kk x (by omega) hG hl (zs_cons (v := zi x) hx hst) H locs rl hP hS hL
theorem zs_minL (C : zCx p s m args c Γ cc nL own) {idx : Nat} {x y : Int} (d : decode cc pc = .ok (.invokestatic idx, 3)) (w : zWs own idx yJ9_min_f86c9 cJ9_min_f86c9 4 (some .long) 2) (hR : 1 ≤ R.frames) (hRl : ((st.map zc).map fun v => v.category).sum + 15 ≤ R.locals) (hc : cells ≤ R.cells ∧ slots ≤ R.slots)
    (kk : ∀ z : Int, z = min x y → Z p l e R s m args below meth c Γ nL cells slots Q (pc + 3) ls (zj z :: st) G) : Z p l e R s m args below meth c Γ nL cells slots Q pc ls (zj y :: zj x :: st) G := by
  intro hG hl hs H locs rl hP hS hL
  have hy := zs_hd hs
  have hx := zs_hd (zs_tl hs)
  have hst := zs_tl (zs_tl hs)
  refine va_mmin_long C.1 C.2.1 (by rw [C.2.2.1, hL.1]) C.2.2.2.1 (C.2.2.2.2.1 _ w.1.1) (C.2.2.2.2.1 _ w.1.2.1) (C.2.2.2.2.1 _ w.1.2.2.1) (C.2.2.2.2.1 _ w.1.2.2.2) hR hRl hc.1 hc.2 d ?_
  split
  · next q =>
    rw [zl_lt (by first | exact hx | exact hy) (by first | exact hy | exact hx)] at q
    first
      | exact kk y (by omega) hG hl (zs_cons (v := zj y) hy hst) H locs rl hP hS hL
      | exact kk x (by omega) hG hl (zs_cons (v := zj x) hx hst) H locs rl hP hS hL
  · next q =>
    rw [zl_lt (by first | exact hx | exact hy) (by first | exact hy | exact hx)] at q
    first
      | exact kk y (by omega) hG hl (zs_cons (v := zj y) hy hst) H locs rl hP hS hL
      | exact kk x (by omega) hG hl (zs_cons (v := zj x) hx hst) H locs rl hP hS hL
theorem zs_maxL (C : zCx p s m args c Γ cc nL own) {idx : Nat} {x y : Int} (d : decode cc pc = .ok (.invokestatic idx, 3)) (w : zWs own idx yJ9_max_f86c9 cJ9_max_f86c9 4 (some .long) 2) (hR : 1 ≤ R.frames) (hRl : ((st.map zc).map fun v => v.category).sum + 15 ≤ R.locals) (hc : cells ≤ R.cells ∧ slots ≤ R.slots)
    (kk : ∀ z : Int, z = max x y → Z p l e R s m args below meth c Γ nL cells slots Q (pc + 3) ls (zj z :: st) G) : Z p l e R s m args below meth c Γ nL cells slots Q pc ls (zj y :: zj x :: st) G := by
  intro hG hl hs H locs rl hP hS hL
  have hy := zs_hd hs
  have hx := zs_hd (zs_tl hs)
  have hst := zs_tl (zs_tl hs)
  refine va_mmax_long C.1 C.2.1 (by rw [C.2.2.1, hL.1]) C.2.2.2.1 (C.2.2.2.2.1 _ w.1.1) (C.2.2.2.2.1 _ w.1.2.1) (C.2.2.2.2.1 _ w.1.2.2.1) (C.2.2.2.2.1 _ w.1.2.2.2) hR hRl hc.1 hc.2 d ?_
  split
  · next q =>
    rw [zl_lt (by first | exact hx | exact hy) (by first | exact hy | exact hx)] at q
    first
      | exact kk y (by omega) hG hl (zs_cons (v := zj y) hy hst) H locs rl hP hS hL
      | exact kk x (by omega) hG hl (zs_cons (v := zj x) hx hst) H locs rl hP hS hL
  · next q =>
    rw [zl_lt (by first | exact hx | exact hy) (by first | exact hy | exact hx)] at q
    first
      | exact kk y (by omega) hG hl (zs_cons (v := zj y) hy hst) H locs rl hP hS hL
      | exact kk x (by omega) hG hl (zs_cons (v := zj x) hx hst) H locs rl hP hS hL
end ZS
end
section
/-! ranges that hang on the place -/
theorem rs_2037 (i : Nat) : (zrg 2037 i).1 = 0 ∧ (zrg 2037 i).2 ≤ 5 ∧ (zrg 2037 i).2 ≥ 3 ∧ (i = 0 → (zrg 2037 i).2 = 4) ∧ (i = 3 → (zrg 2037 i).2 = 3) ∧ (i ≠ 0 → i ≠ 3 → (zrg 2037 i).2 = 5) := by
  have e : zrg 2037 i = zcl (0, if i = 0 then 4 else if i = 3 then 3 else 5) := rfl
  rw [e]
  simp only [zcl]
  omega
theorem zX0_2037 : ∀ j, j < 4 → zX0.getD j 0 = (zrg 2037 j).2 := by decide +kernel
end
section
set_option maxHeartbeats 4000000 in
set_option maxRecDepth 100000 in
theorem c_X4_has {l : Launch} {Γ : zΓ} {G : zH} {w : Nat} {k : Int} (hX : zXs Γ)  : zMet l Γ yX4_has cX4_has 2 (some .boolean) 0 [zr 5 w, zi k] G (zpi (fun x G' => G' = G ∧ ((x = 0 ∨ x = 1) ∧ (x = 1 ↔ 0 ≤ k ∧ k < G.1 510 w 0) ∧ (x = 1 → k < 60)))) := by
  refine zMet_of RX4 hX (by decide) rfl (Nat.le_of_ble_eq_true rfl) ?_
  intro p e s m args below meth c C hr hlk
  show Z p l e (zrm 0) s m args below meth c Γ 2 0 0 (MQ below (zQc Γ (zpi (fun x G' => G' = G ∧ ((x = 0 ∨ x = 1) ∧ (x = 1 ↔ 0 ≤ k ∧ k < G.1 510 w 0) ∧ (x = 1 → k < 60))))) args s 0 0 (zA Γ)) 0 [some (zr 5 w), some (zi k)] [] G
  refine zs_loc 1 rfl (fun ha1 hb1 => ?_)
  refine zs_iload_n (pc := 0) C dX4_has_0 rfl ?_
  refine zs_if_lt (tgt := 16) (pc := 1) C dX4_has_1 (by decide) (fun h1 => ?_) (fun h1 => ?_)
  · skip
    refine zs_iconst (pc := 16) C dX4_has_16 (by decide) ?_
    exact zs_zret (pc := 17) C hr hlk dX4_has_17 (by omega) ⟨rfl, by first | omega | (simp only [zuI_1, zuI_2, zuJ_1, zuJ_2, zuJ_3, zuP_1, zuP_2, zuP_3, zuC_1, zuC_2, reduceIte, Nat.reduceEqDiff, false_and, and_false, true_and, and_true, and_self, or_true, true_or, or_false, false_or]; omega)⟩
  · skip
    refine zs_iload_n (pc := 4) C dX4_has_4 rfl ?_
    refine zs_aload_n (pc := 5) C dX4_has_5 rfl ?_
    refine zs_geti (r := 510) (pc := 6) C dX4_has_6 w_X4_42 f_5_10 rfl (r_510 0) (fun v6 e6 l6 u6 => ?_)
    refine zs_icmp_ge (tgt := 16) (pc := 9) C dX4_has_9 (by decide) (fun h9 => ?_) (fun h9 => ?_)
    · skip
      refine zs_iconst (pc := 16) C dX4_has_16 (by decide) ?_
      exact zs_zret (pc := 17) C hr hlk dX4_has_17 (by omega) ⟨rfl, by first | omega | (simp only [zuI_1, zuI_2, zuJ_1, zuJ_2, zuJ_3, zuP_1, zuP_2, zuP_3, zuC_1, zuC_2, reduceIte, Nat.reduceEqDiff, false_and, and_false, true_and, and_true, and_self, or_true, true_or, or_false, false_or]; omega)⟩
    · skip
      refine zs_iconst (pc := 12) C dX4_has_12 (by decide) ?_
      refine zs_goto (tgt := 17) (pc := 13) C dX4_has_13 (by decide) ?_
      exact zs_zret (pc := 17) C hr hlk dX4_has_17 (by omega) ⟨rfl, by first | omega | (simp only [zuI_1, zuI_2, zuJ_1, zuJ_2, zuJ_3, zuP_1, zuP_2, zuP_3, zuC_1, zuC_2, reduceIte, Nat.reduceEqDiff, false_and, and_false, true_and, and_true, and_self, or_true, true_or, or_false, false_or]; omega)⟩

set_option maxHeartbeats 4000000 in
set_option maxRecDepth 100000 in
theorem c_X4_isFull {l : Launch} {Γ : zΓ} {G : zH} {w : Nat} (hX : zXs Γ)  : zMet l Γ yX4_isFull cX4_isFull 1 (some .boolean) 0 [zr 5 w] G (zpi (fun x G' => G' = G ∧ ((x = 0 ∨ x = 1) ∧ (x = 1 ↔ 60 ≤ G.1 510 w 0)))) := by
  refine zMet_of RX4 hX (by decide) rfl (Nat.le_of_ble_eq_true rfl) ?_
  intro p e s m args below meth c C hr hlk
  show Z p l e (zrm 0) s m args below meth c Γ 1 0 0 (MQ below (zQc Γ (zpi (fun x G' => G' = G ∧ ((x = 0 ∨ x = 1) ∧ (x = 1 ↔ 60 ≤ G.1 510 w 0))))) args s 0 0 (zA Γ)) 0 [some (zr 5 w)] [] G
  refine zs_aload_n (pc := 0) C dX4_isFull_0 rfl ?_
  refine zs_geti (r := 510) (pc := 1) C dX4_isFull_1 w_X4_42 f_5_10 rfl (r_510 0) (fun v1 e1 l1 u1 => ?_)
  refine zs_bipush (pc := 4) C dX4_isFull_4 (by decide) (by decide) ?_
  refine zs_icmp_lt (tgt := 13) (pc := 6) C dX4_isFull_6 (by decide) (fun h6 => ?_) (fun h6 => ?_)
  · skip
    refine zs_iconst (pc := 13) C dX4_isFull_13 (by decide) ?_
    exact zs_zret (pc := 14) C hr hlk dX4_isFull_14 (by omega) ⟨rfl, by first | omega | (simp only [zuI_1, zuI_2, zuJ_1, zuJ_2, zuJ_3, zuP_1, zuP_2, zuP_3, zuC_1, zuC_2, reduceIte, Nat.reduceEqDiff, false_and, and_false, true_and, and_true, and_self, or_true, true_or, or_false, false_or]; omega)⟩
  · skip
    refine zs_iconst (pc := 9) C dX4_isFull_9 (by decide) ?_
    refine zs_goto (tgt := 14) (pc := 10) C dX4_isFull_10 (by decide) ?_
    exact zs_zret (pc := 14) C hr hlk dX4_isFull_14 (by omega) ⟨rfl, by first | omega | (simp only [zuI_1, zuI_2, zuJ_1, zuJ_2, zuJ_3, zuP_1, zuP_2, zuP_3, zuC_1, zuC_2, reduceIte, Nat.reduceEqDiff, false_and, and_false, true_and, and_true, and_self, or_true, true_or, or_false, false_or]; omega)⟩

set_option maxHeartbeats 4000000 in
set_option maxRecDepth 100000 in
theorem c_X4_lieBy {l : Launch} {Γ : zΓ} {G : zH} {w : Nat} {k sn : Int} (hX : zXs Γ) (hk : 0 ≤ k ∧ k < 60) : zMet l Γ yX4_lieBy cX4_lieBy 3 (some .int) 0 [zr 5 w, zi k, zi sn] G (zpi (fun x G' => G' = G ∧ (x = 0 ∨ x = 1))) := by
  refine zMet_of RX4 hX (by decide) rfl (Nat.le_of_ble_eq_true rfl) ?_
  intro p e s m args below meth c C hr hlk
  show Z p l e (zrm 0) s m args below meth c Γ 3 0 0 (MQ below (zQc Γ (zpi (fun x G' => G' = G ∧ (x = 0 ∨ x = 1)))) args s 0 0 (zA Γ)) 0 [some (zr 5 w), some (zi k), some (zi sn)] [] G
  refine zs_loc 1 rfl (fun ha1 hb1 => ?_)
  refine zs_loc 2 rfl (fun ha2 hb2 => ?_)
  refine zs_aload_n (pc := 0) C dX4_lieBy_0 rfl ?_
  refine zs_getf (pc := 1) C dX4_lieBy_1 w_X4_39 f_5_9 (by decide) ?_
  refine zs_iload_n (pc := 4) C dX4_lieBy_4 rfl ?_
  refine zs_iald (r := 2035) (pc := 5) C dX4_lieBy_5 a_35 (by decide) (by omega) rfl (r_2035 _) (fun v5 e5 l5 u5 => ?_)
  refine zs_iload_n (pc := 6) C dX4_lieBy_6 rfl ?_
  refine zs_ishrF (pc := 7) C dX4_lieBy_7 (fun z7 hz71 hz72 => ?_)
  refine zs_iconst (pc := 8) C dX4_lieBy_8 (by decide) ?_
  first | refine zs_iand (pc := 9) C 1 dX4_lieBy_9 (by decide) (by decide) (fun z9 hz91 hz92 => ?_) | refine zs_iand (pc := 9) C 2 dX4_lieBy_9 (by decide) (by decide) (fun z9 hz91 hz92 => ?_) | refine zs_iand (pc := 9) C 8 dX4_lieBy_9 (by decide) (by decide) (fun z9 hz91 hz92 => ?_) | refine zs_iandF (pc := 9) C dX4_lieBy_9 (fun z9 hz91 hz92 => ?_)
  refine zs_if_ne (tgt := 17) (pc := 10) C dX4_lieBy_10 (by decide) (fun h10 => ?_) (fun h10 => ?_)
  · skip
    refine zs_iconst (pc := 17) C dX4_lieBy_17 (by decide) ?_
    exact zs_iret (pc := 18) C hr hlk dX4_lieBy_18 ⟨rfl, by first | omega | (simp only [zuI_1, zuI_2, zuJ_1, zuJ_2, zuJ_3, zuP_1, zuP_2, zuP_3, zuC_1, zuC_2, reduceIte, Nat.reduceEqDiff, false_and, and_false, true_and, and_true, and_self, or_true, true_or, or_false, false_or]; omega)⟩
  · skip
    refine zs_iconst (pc := 13) C dX4_lieBy_13 (by decide) ?_
    refine zs_goto (tgt := 18) (pc := 14) C dX4_lieBy_14 (by decide) ?_
    exact zs_iret (pc := 18) C hr hlk dX4_lieBy_18 ⟨rfl, by first | omega | (simp only [zuI_1, zuI_2, zuJ_1, zuJ_2, zuJ_3, zuP_1, zuP_2, zuP_3, zuC_1, zuC_2, reduceIte, Nat.reduceEqDiff, false_and, and_false, true_and, and_true, and_self, or_true, true_or, or_false, false_or]; omega)⟩

set_option maxHeartbeats 4000000 in
set_option maxRecDepth 100000 in
theorem c_X4_flourFrom {l : Launch} {Γ : zΓ} {G : zH} {w : Nat} {q : Int} (hX : zXs Γ)  : zMet l Γ yX4_flourFrom cX4_flourFrom 4 (some .int) 0 [zr 5 w, zi q] G (zpi (fun x G' => G' = G ∧ True)) := by
  refine zMet_of RX4 hX (by decide) rfl (Nat.le_of_ble_eq_true rfl) ?_
  intro p e s m args below meth c C hr hlk
  show Z p l e (zrm 0) s m args below meth c Γ 4 0 0 (MQ below (zQc Γ (zpi (fun x G' => G' = G ∧ True))) args s 0 0 (zA Γ)) 0 [some (zr 5 w), some (zi q), none, none] [] G
  refine zs_loc 1 rfl (fun ha1 hb1 => ?_)
  refine zs_iconst (pc := 0) C dX4_flourFrom_0 (by decide) ?_
  refine zs_istore_n (pc := 1) C dX4_flourFrom_1 (by decide) ?_
  dsimp only [zset, zclr, znone]
  refine zs_iconst (pc := 2) C dX4_flourFrom_2 (by decide) ?_
  refine zs_istore_n (pc := 3) C dX4_flourFrom_3 (by decide) ?_
  dsimp only [zset, zclr, znone]
  have L4 : ∀ (nn : Nat) (x2 x3 : Int), (0 ≤ x3 ∧ x3 ≤ 60) → (60 - x3).toNat < nn → Z p l e (zrm 0) s m args below meth c Γ 4 0 0 (MQ below (zQc Γ (zpi (fun x G' => G' = G ∧ True))) args s 0 0 (zA Γ)) 4 [some (zr 5 w), some (zi q), some (zi x2), some (zi x3)] [] G := by
    intro nn
    induction nn with
    | zero => intro x2 x3 h4_0 hm; exact absurd hm (Nat.not_lt_zero _)
    | succ nn ih4 =>
      intro x2 x3 h4_0 hm4
      refine zs_iload_n (pc := 4) C dX4_flourFrom_4 rfl ?_
      refine zs_aload_n (pc := 5) C dX4_flourFrom_5 rfl ?_
      refine zs_geti (r := 510) (pc := 6) C dX4_flourFrom_6 w_X4_42 f_5_10 rfl (r_510 0) (fun v6 e6 l6 u6 => ?_)
      refine zs_icmp_ge (tgt := 41) (pc := 9) C dX4_flourFrom_9 (by decide) (fun h9 => ?_) (fun h9 => ?_)
      · skip
        refine zs_iload_n (pc := 41) C dX4_flourFrom_41 rfl ?_
        exact zs_iret (pc := 42) C hr hlk dX4_flourFrom_42 ⟨rfl, trivial⟩
      · skip
        refine zs_iload_n (pc := 12) C dX4_flourFrom_12 rfl ?_
        refine zs_aload_n (pc := 13) C dX4_flourFrom_13 rfl ?_
        refine zs_getf (pc := 14) C dX4_flourFrom_14 w_X4_18 f_5_2 (by decide) ?_
        refine zs_iload_n (pc := 17) C dX4_flourFrom_17 rfl ?_
        refine zs_iald (r := 2028) (pc := 18) C dX4_flourFrom_18 a_28 (by decide) (by omega) rfl (r_2028 _) (fun v18 e18 l18 u18 => ?_)
        refine zs_iload_n (pc := 19) C dX4_flourFrom_19 rfl ?_
        refine zs_icmp_lt (tgt := 32) (pc := 20) C dX4_flourFrom_20 (by decide) (fun h20 => ?_) (fun h20 => ?_)
        · skip
          refine zs_iconst (pc := 32) C dX4_flourFrom_32 (by decide) ?_
          first | refine zs_iadd (pc := 33) C dX4_flourFrom_33 (by omega) ?_ | refine zs_iaddF (pc := 33) C dX4_flourFrom_33 (fun z33 hz331 hz332 => ?_)
          refine zs_istore_n (pc := 34) C dX4_flourFrom_34 (by decide) ?_
          dsimp only [zset, zclr, znone]
          first | refine zs_iinc (pc := 35) C dX4_flourFrom_35 rfl (by decide) (by omega) ?_ | refine zs_iincF (pc := 35) C dX4_flourFrom_35 rfl (by decide) (fun z35 hz351 hz352 => ?_)
          dsimp only [zset, zclr, znone]
          refine zs_goto (tgt := 4) (pc := 38) C dX4_flourFrom_38 (by decide) ?_
          exact zs_wk (ih4 _ _ (by first | omega | (simp only [zuI_1, zuI_2, zuJ_1, zuJ_2, zuJ_3, zuP_1, zuP_2, zuP_3, zuC_1, zuC_2, reduceIte, Nat.reduceEqDiff, false_and, and_false, true_and, and_true, and_self, or_true, true_or, or_false, false_or]; omega)) (by first | omega | (simp only [zuI_1, zuI_2, zuJ_1, zuJ_2, zuJ_3, zuP_1, zuP_2, zuP_3, zuC_1, zuC_2, reduceIte, Nat.reduceEqDiff, false_and, and_false, true_and, and_true, and_self, or_true, true_or, or_false, false_or]; omega))) (zwk_s rfl (zwk_s rfl (zwk_s rfl (zwk_s rfl zwk_0))))
        · skip
          refine zs_aload_n (pc := 23) C dX4_flourFrom_23 rfl ?_
          refine zs_getf (pc := 24) C dX4_flourFrom_24 w_X4_24 f_5_4 (by decide) ?_
          refine zs_iload_n (pc := 27) C dX4_flourFrom_27 rfl ?_
          refine zs_iald (r := 2030) (pc := 28) C dX4_flourFrom_28 a_30 (by decide) (by omega) rfl (r_2030 _) (fun v28 e28 l28 u28 => ?_)
          refine zs_goto (tgt := 33) (pc := 29) C dX4_flourFrom_29 (by decide) ?_
          first | refine zs_iadd (pc := 33) C dX4_flourFrom_33 (by omega) ?_ | refine zs_iaddF (pc := 33) C dX4_flourFrom_33 (fun z33 hz331 hz332 => ?_)
          refine zs_istore_n (pc := 34) C dX4_flourFrom_34 (by decide) ?_
          dsimp only [zset, zclr, znone]
          first | refine zs_iinc (pc := 35) C dX4_flourFrom_35 rfl (by decide) (by omega) ?_ | refine zs_iincF (pc := 35) C dX4_flourFrom_35 rfl (by decide) (fun z35 hz351 hz352 => ?_)
          dsimp only [zset, zclr, znone]
          refine zs_goto (tgt := 4) (pc := 38) C dX4_flourFrom_38 (by decide) ?_
          exact zs_wk (ih4 _ _ (by first | omega | (simp only [zuI_1, zuI_2, zuJ_1, zuJ_2, zuJ_3, zuP_1, zuP_2, zuP_3, zuC_1, zuC_2, reduceIte, Nat.reduceEqDiff, false_and, and_false, true_and, and_true, and_self, or_true, true_or, or_false, false_or]; omega)) (by first | omega | (simp only [zuI_1, zuI_2, zuJ_1, zuJ_2, zuJ_3, zuP_1, zuP_2, zuP_3, zuC_1, zuC_2, reduceIte, Nat.reduceEqDiff, false_and, and_false, true_and, and_true, and_self, or_true, true_or, or_false, false_or]; omega))) (zwk_s rfl (zwk_s rfl (zwk_s rfl (zwk_s rfl zwk_0))))
  exact zs_wk (L4 _ _ _ (by first | omega | (simp only [zuI_1, zuI_2, zuJ_1, zuJ_2, zuJ_3, zuP_1, zuP_2, zuP_3, zuC_1, zuC_2, reduceIte, Nat.reduceEqDiff, false_and, and_false, true_and, and_true, and_self, or_true, true_or, or_false, false_or]; omega)) (Nat.lt_succ_self _)) (zwk_s rfl (zwk_s rfl (zwk_s rfl (zwk_s rfl zwk_0))))
end
section
set_option maxHeartbeats 4000000 in
set_option maxRecDepth 100000 in
theorem c_J6_bitCount_0f7a4 {l : Launch} {Γ : zΓ} {G : zH} {k : Int} (hX : zXs Γ)  : zMet l Γ yJ6_bitCount_0f7a4 cJ6_bitCount_0f7a4 1 (some .int) 0 [zi k] G (zpi (fun x G' => G' = G ∧ True)) := by
  refine zMet_of RJ6 hX (by decide) rfl (Nat.le_of_ble_eq_true rfl) ?_
  intro p e s m args below meth c C hr hlk
  show Z p l e (zrm 0) s m args below meth c Γ 1 0 0 (MQ below (zQc Γ (zpi (fun x G' => G' = G ∧ True))) args s 0 0 (zA Γ)) 0 [some (zi k)] [] G
  refine zs_loc 0 rfl (fun ha0 hb0 => ?_)
  refine zs_iload_n (pc := 0) C dJ6_bitCount_0f7a4_0 rfl ?_
  refine zs_iload_n (pc := 1) C dJ6_bitCount_0f7a4_1 rfl ?_
  refine zs_iconst (pc := 2) C dJ6_bitCount_0f7a4_2 (by decide) ?_
  refine zs_iushrF (pc := 3) C dJ6_bitCount_0f7a4_3 (fun z3 hz31 hz32 => ?_)
  refine zs_ldcw (n := 1431655765) (pc := 4) C dJ6_bitCount_0f7a4_4 q_J6_265 (by decide) (by decide) ?_
  first | refine zs_iand (pc := 7) C 1 dJ6_bitCount_0f7a4_7 (by decide) (by decide) (fun z7 hz71 hz72 => ?_) | refine zs_iand (pc := 7) C 2 dJ6_bitCount_0f7a4_7 (by decide) (by decide) (fun z7 hz71 hz72 => ?_) | refine zs_iand (pc := 7) C 8 dJ6_bitCount_0f7a4_7 (by decide) (by decide) (fun z7 hz71 hz72 => ?_) | refine zs_iandF (pc := 7) C dJ6_bitCount_0f7a4_7 (fun z7 hz71 hz72 => ?_)
  first | refine zs_isub (pc := 8) C dJ6_bitCount_0f7a4_8 (by omega) ?_ | refine zs_isubF (pc := 8) C dJ6_bitCount_0f7a4_8 (fun z8 hz81 hz82 => ?_)
  refine zs_istore_n (pc := 9) C dJ6_bitCount_0f7a4_9 (by decide) ?_
  dsimp only [zset, zclr, znone]
  refine zs_iload_n (pc := 10) C dJ6_bitCount_0f7a4_10 rfl ?_
  refine zs_ldcw (n := 858993459) (pc := 11) C dJ6_bitCount_0f7a4_11 q_J6_266 (by decide) (by decide) ?_
  first | refine zs_iand (pc := 14) C 1 dJ6_bitCount_0f7a4_14 (by decide) (by decide) (fun z14 hz141 hz142 => ?_) | refine zs_iand (pc := 14) C 2 dJ6_bitCount_0f7a4_14 (by decide) (by decide) (fun z14 hz141 hz142 => ?_) | refine zs_iand (pc := 14) C 8 dJ6_bitCount_0f7a4_14 (by decide) (by decide) (fun z14 hz141 hz142 => ?_) | refine zs_iandF (pc := 14) C dJ6_bitCount_0f7a4_14 (fun z14 hz141 hz142 => ?_)
  refine zs_iload_n (pc := 15) C dJ6_bitCount_0f7a4_15 rfl ?_
  refine zs_iconst (pc := 16) C dJ6_bitCount_0f7a4_16 (by decide) ?_
  refine zs_iushrF (pc := 17) C dJ6_bitCount_0f7a4_17 (fun z17 hz171 hz172 => ?_)
  refine zs_ldcw (n := 858993459) (pc := 18) C dJ6_bitCount_0f7a4_18 q_J6_266 (by decide) (by decide) ?_
  first | refine zs_iand (pc := 21) C 1 dJ6_bitCount_0f7a4_21 (by decide) (by decide) (fun z21 hz211 hz212 => ?_) | refine zs_iand (pc := 21) C 2 dJ6_bitCount_0f7a4_21 (by decide) (by decide) (fun z21 hz211 hz212 => ?_) | refine zs_iand (pc := 21) C 8 dJ6_bitCount_0f7a4_21 (by decide) (by decide) (fun z21 hz211 hz212 => ?_) | refine zs_iandF (pc := 21) C dJ6_bitCount_0f7a4_21 (fun z21 hz211 hz212 => ?_)
  first | refine zs_iadd (pc := 22) C dJ6_bitCount_0f7a4_22 (by omega) ?_ | refine zs_iaddF (pc := 22) C dJ6_bitCount_0f7a4_22 (fun z22 hz221 hz222 => ?_)
  refine zs_istore_n (pc := 23) C dJ6_bitCount_0f7a4_23 (by decide) ?_
  dsimp only [zset, zclr, znone]
  refine zs_iload_n (pc := 24) C dJ6_bitCount_0f7a4_24 rfl ?_
  refine zs_iload_n (pc := 25) C dJ6_bitCount_0f7a4_25 rfl ?_
  refine zs_iconst (pc := 26) C dJ6_bitCount_0f7a4_26 (by decide) ?_
  refine zs_iushrF (pc := 27) C dJ6_bitCount_0f7a4_27 (fun z27 hz271 hz272 => ?_)
  first | refine zs_iadd (pc := 28) C dJ6_bitCount_0f7a4_28 (by omega) ?_ | refine zs_iaddF (pc := 28) C dJ6_bitCount_0f7a4_28 (fun z28 hz281 hz282 => ?_)
  refine zs_ldcw (n := 252645135) (pc := 29) C dJ6_bitCount_0f7a4_29 q_J6_267 (by decide) (by decide) ?_
  first | refine zs_iand (pc := 32) C 1 dJ6_bitCount_0f7a4_32 (by decide) (by decide) (fun z32 hz321 hz322 => ?_) | refine zs_iand (pc := 32) C 2 dJ6_bitCount_0f7a4_32 (by decide) (by decide) (fun z32 hz321 hz322 => ?_) | refine zs_iand (pc := 32) C 8 dJ6_bitCount_0f7a4_32 (by decide) (by decide) (fun z32 hz321 hz322 => ?_) | refine zs_iandF (pc := 32) C dJ6_bitCount_0f7a4_32 (fun z32 hz321 hz322 => ?_)
  refine zs_istore_n (pc := 33) C dJ6_bitCount_0f7a4_33 (by decide) ?_
  dsimp only [zset, zclr, znone]
  refine zs_iload_n (pc := 34) C dJ6_bitCount_0f7a4_34 rfl ?_
  refine zs_iload_n (pc := 35) C dJ6_bitCount_0f7a4_35 rfl ?_
  refine zs_bipush (pc := 36) C dJ6_bitCount_0f7a4_36 (by decide) (by decide) ?_
  refine zs_iushrF (pc := 38) C dJ6_bitCount_0f7a4_38 (fun z38 hz381 hz382 => ?_)
  first | refine zs_iadd (pc := 39) C dJ6_bitCount_0f7a4_39 (by omega) ?_ | refine zs_iaddF (pc := 39) C dJ6_bitCount_0f7a4_39 (fun z39 hz391 hz392 => ?_)
  refine zs_istore_n (pc := 40) C dJ6_bitCount_0f7a4_40 (by decide) ?_
  dsimp only [zset, zclr, znone]
  refine zs_iload_n (pc := 41) C dJ6_bitCount_0f7a4_41 rfl ?_
  refine zs_iload_n (pc := 42) C dJ6_bitCount_0f7a4_42 rfl ?_
  refine zs_bipush (pc := 43) C dJ6_bitCount_0f7a4_43 (by decide) (by decide) ?_
  refine zs_iushrF (pc := 45) C dJ6_bitCount_0f7a4_45 (fun z45 hz451 hz452 => ?_)
  first | refine zs_iadd (pc := 46) C dJ6_bitCount_0f7a4_46 (by omega) ?_ | refine zs_iaddF (pc := 46) C dJ6_bitCount_0f7a4_46 (fun z46 hz461 hz462 => ?_)
  refine zs_istore_n (pc := 47) C dJ6_bitCount_0f7a4_47 (by decide) ?_
  dsimp only [zset, zclr, znone]
  refine zs_iload_n (pc := 48) C dJ6_bitCount_0f7a4_48 rfl ?_
  refine zs_bipush (pc := 49) C dJ6_bitCount_0f7a4_49 (by decide) (by decide) ?_
  first | refine zs_iand (pc := 51) C 1 dJ6_bitCount_0f7a4_51 (by decide) (by decide) (fun z51 hz511 hz512 => ?_) | refine zs_iand (pc := 51) C 2 dJ6_bitCount_0f7a4_51 (by decide) (by decide) (fun z51 hz511 hz512 => ?_) | refine zs_iand (pc := 51) C 8 dJ6_bitCount_0f7a4_51 (by decide) (by decide) (fun z51 hz511 hz512 => ?_) | refine zs_iandF (pc := 51) C dJ6_bitCount_0f7a4_51 (fun z51 hz511 hz512 => ?_)
  exact zs_iret (pc := 52) C hr hlk dJ6_bitCount_0f7a4_52 ⟨rfl, trivial⟩

set_option maxHeartbeats 4000000 in
set_option maxRecDepth 100000 in
theorem c_J7_fill_53178 {l : Launch} {Γ : zΓ} {G : zH} {t a n : Nat} {k : Int} (hX : zXs Γ) (hz : zat t = (0, n)) (ht : t < 200) (hn : n ≤ 10000) (hv : ∀ i, (zrg (2000 + t) i).1 ≤ k ∧ k ≤ (zrg (2000 + t) i).2) : zMet l Γ yJ7_fill_53178 cJ7_fill_53178 4 none 0 [zr t a, zi k] G (zpv (fun G' => zsm [2000 + t] G G' ∧ True)) := by
  refine zMet_of RJ7 hX (by decide) rfl (Nat.le_of_ble_eq_true rfl) ?_
  intro p e s m args below meth c C hr hlk
  show Z p l e (zrm 0) s m args below meth c Γ 4 0 0 (MQ below (zQc Γ (zpv (fun G' => zsm [2000 + t] G G' ∧ True))) args s 0 0 (zA Γ)) 0 [some (zr t a), some (zi k), none, none] [] G
  refine zs_loc 1 rfl (fun ha1 hb1 => ?_)
  refine zs_iconst (pc := 0) C dJ7_fill_53178_0 (by decide) ?_
  refine zs_istore_n (pc := 1) C dJ7_fill_53178_1 (by decide) ?_
  dsimp only [zset, zclr, znone]
  refine zs_aload_n (pc := 2) C dJ7_fill_53178_2 rfl ?_
  refine zs_alen (pc := 3) C dJ7_fill_53178_3 hz ht (by omega) ?_
  refine zs_istore_n (pc := 4) C dJ7_fill_53178_4 (by decide) ?_
  dsimp only [zset, zclr, znone]
  have L5 : ∀ (nn : Nat) (x2 : Int) (G1 : zH), (0 ≤ x2 ∧ x2 ≤ n) → (zsm [2000 + t] G G1) → ((n : Int) - x2).toNat < nn → Z p l e (zrm 0) s m args below meth c Γ 4 0 0 (MQ below (zQc Γ (zpv (fun G' => zsm [2000 + t] G G' ∧ True))) args s 0 0 (zA Γ)) 5 [some (zr t a), some (zi k), some (zi x2), some (zi (n : Int))] [] G1 := by
    intro nn
    induction nn with
    | zero => intro x2 G1 h5_0 h5_1 hm; exact absurd hm (Nat.not_lt_zero _)
    | succ nn ih5 =>
      intro x2 G1 h5_0 h5_1 hm5
      refine zs_iload_n (pc := 5) C dJ7_fill_53178_5 rfl ?_
      refine zs_iload_n (pc := 6) C dJ7_fill_53178_6 rfl ?_
      refine zs_icmp_ge (tgt := 20) (pc := 7) C dJ7_fill_53178_7 (by decide) (fun h7 => ?_) (fun h7 => ?_)
      · skip
        exact zs_vret (pc := 20) C hr hlk dJ7_fill_53178_20 ⟨h5_1, trivial⟩
      · skip
        refine zs_aload_n (pc := 10) C dJ7_fill_53178_10 rfl ?_
        refine zs_iload_n (pc := 11) C dJ7_fill_53178_11 rfl ?_
        refine zs_iload_n (pc := 12) C dJ7_fill_53178_12 rfl ?_
        refine zs_iast (r := (2000 + t)) (pc := 13) C dJ7_fill_53178_13 hz ht (by omega) rfl rfl (hv _) ?_
        first | refine zs_iinc (pc := 14) C dJ7_fill_53178_14 rfl (by decide) (by omega) ?_ | refine zs_iincF (pc := 14) C dJ7_fill_53178_14 rfl (by decide) (fun z14 hz141 hz142 => ?_)
        dsimp only [zset, zclr, znone]
        refine zs_goto (tgt := 5) (pc := 17) C dJ7_fill_53178_17 (by decide) ?_
        exact zs_wk (ih5 _ _ (by omega) (zsm_I (by simp) h5_1) (by first | omega | (simp only [zuI_1, zuI_2, zuJ_1, zuJ_2, zuJ_3, zuP_1, zuP_2, zuP_3, zuC_1, zuC_2, reduceIte, Nat.reduceEqDiff, false_and, and_false, true_and, and_true, and_self, or_true, true_or, or_false, false_or]; omega))) (zwk_s rfl (zwk_s rfl (zwk_s rfl (zwk_s rfl zwk_0))))
  exact zs_wk (L5 _ _ _ (by omega) zsm_rf (Nat.lt_succ_self _)) (zwk_s rfl (zwk_s rfl (zwk_s rfl (zwk_s rfl zwk_0))))
end
section
set_option maxHeartbeats 4000000 in
set_option maxRecDepth 100000 in
theorem c_X1_isTold {l : Launch} {Γ : zΓ} {G : zH} {w : Nat} {k : Int} (hX : zXs Γ)  : zMet l Γ yX1_isTold cX1_isTold 2 (some .boolean) 0 [zr 2 w, zi k] G (zpi (fun x G' => G' = G ∧ ((x = 0 ∨ x = 1) ∧ (x = 1 → 0 ≤ k ∧ k < 7)))) := by
  refine zMet_of RX1 hX (by decide) rfl (Nat.le_of_ble_eq_true rfl) ?_
  intro p e s m args below meth c C hr hlk
  show Z p l e (zrm 0) s m args below meth c Γ 2 0 0 (MQ below (zQc Γ (zpi (fun x G' => G' = G ∧ ((x = 0 ∨ x = 1) ∧ (x = 1 → 0 ≤ k ∧ k < 7))))) args s 0 0 (zA Γ)) 0 [some (zr 2 w), some (zi k)] [] G
  refine zs_loc 1 rfl (fun ha1 hb1 => ?_)
  refine zs_iload_n (pc := 0) C dX1_isTold_0 rfl ?_
  refine zs_if_lt (tgt := 29) (pc := 1) C dX1_isTold_1 (by decide) (fun h1 => ?_) (fun h1 => ?_)
  · skip
    refine zs_iconst (pc := 29) C dX1_isTold_29 (by decide) ?_
    exact zs_zret (pc := 30) C hr hlk dX1_isTold_30 (by omega) ⟨rfl, by first | omega | (simp only [zuI_1, zuI_2, zuJ_1, zuJ_2, zuJ_3, zuP_1, zuP_2, zuP_3, zuC_1, zuC_2, reduceIte, Nat.reduceEqDiff, false_and, and_false, true_and, and_true, and_self, or_true, true_or, or_false, false_or]; omega)⟩
  · skip
    refine zs_iload_n (pc := 4) C dX1_isTold_4 rfl ?_
    refine zs_bipush (pc := 5) C dX1_isTold_5 (by decide) (by decide) ?_
    refine zs_icmp_ge (tgt := 29) (pc := 7) C dX1_isTold_7 (by decide) (fun h7 => ?_) (fun h7 => ?_)
    · skip
      refine zs_iconst (pc := 29) C dX1_isTold_29 (by decide) ?_
      exact zs_zret (pc := 30) C hr hlk dX1_isTold_30 (by omega) ⟨rfl, by first | omega | (simp only [zuI_1, zuI_2, zuJ_1, zuJ_2, zuJ_3, zuP_1, zuP_2, zuP_3, zuC_1, zuC_2, reduceIte, Nat.reduceEqDiff, false_and, and_false, true_and, and_true, and_self, or_true, true_or, or_false, false_or]; omega)⟩
    · skip
      refine zs_aload_n (pc := 10) C dX1_isTold_10 rfl ?_
      refine zs_getf (pc := 11) C dX1_isTold_11 w_X1_21 f_2_3 (by decide) ?_
      refine zs_iload_n (pc := 14) C dX1_isTold_14 rfl ?_
      refine zs_iald (r := 2017) (pc := 15) C dX1_isTold_15 a_17 (by decide) (by omega) rfl (r_2017 _) (fun v15 e15 l15 u15 => ?_)
      refine zs_aload_n (pc := 16) C dX1_isTold_16 rfl ?_
      refine zs_getf (pc := 17) C dX1_isTold_17 w_X1_18 f_2_2 (by decide) ?_
      refine zs_iload_n (pc := 20) C dX1_isTold_20 rfl ?_
      refine zs_iald (r := 2016) (pc := 21) C dX1_isTold_21 a_16 (by decide) (by omega) rfl (r_2016 _) (fun v21 e21 l21 u21 => ?_)
      refine zs_icmp_le (tgt := 29) (pc := 22) C dX1_isTold_22 (by decide) (fun h22 => ?_) (fun h22 => ?_)
      · skip
        refine zs_iconst (pc := 29) C dX1_isTold_29 (by decide) ?_
        exact zs_zret (pc := 30) C hr hlk dX1_isTold_30 (by omega) ⟨rfl, by first | omega | (simp only [zuI_1, zuI_2, zuJ_1, zuJ_2, zuJ_3, zuP_1, zuP_2, zuP_3, zuC_1, zuC_2, reduceIte, Nat.reduceEqDiff, false_and, and_false, true_and, and_true, and_self, or_true, true_or, or_false, false_or]; omega)⟩
      · skip
        refine zs_iconst (pc := 25) C dX1_isTold_25 (by decide) ?_
        refine zs_goto (tgt := 30) (pc := 26) C dX1_isTold_26 (by decide) ?_
        exact zs_zret (pc := 30) C hr hlk dX1_isTold_30 (by omega) ⟨rfl, by first | omega | (simp only [zuI_1, zuI_2, zuJ_1, zuJ_2, zuJ_3, zuP_1, zuP_2, zuP_3, zuC_1, zuC_2, reduceIte, Nat.reduceEqDiff, false_and, and_false, true_and, and_true, and_self, or_true, true_or, or_false, false_or]; omega)⟩

set_option maxHeartbeats 4000000 in
set_option maxRecDepth 100000 in
theorem c_X1_setNames {l : Launch} {Γ : zΓ} {G : zH} {w : Nat} {q1 q2 q3 q4 q5 q6 q7 : Int} (hX : zXs Γ)  : zMet l Γ yX1_setNames cX1_setNames 8 none 0 [zr 2 w, zi q1, zi q2, zi q3, zi q4, zi q5, zi q6, zi q7] G (zpv (fun G' => zsm [] G G' ∧ True)) := by
  refine zMet_of RX1 hX (by decide) rfl (Nat.le_of_ble_eq_true rfl) ?_
  intro p e s m args below meth c C hr hlk
  show Z p l e (zrm 0) s m args below meth c Γ 8 0 0 (MQ below (zQc Γ (zpv (fun G' => zsm [] G G' ∧ True))) args s 0 0 (zA Γ)) 0 [some (zr 2 w), some (zi q1), some (zi q2), some (zi q3), some (zi q4), some (zi q5), some (zi q6), some (zi q7)] [] G
  refine zs_loc 1 rfl (fun ha1 hb1 => ?_)
  refine zs_loc 2 rfl (fun ha2 hb2 => ?_)
  refine zs_loc 3 rfl (fun ha3 hb3 => ?_)
  refine zs_loc 4 rfl (fun ha4 hb4 => ?_)
  refine zs_loc 5 rfl (fun ha5 hb5 => ?_)
  refine zs_loc 6 rfl (fun ha6 hb6 => ?_)
  refine zs_loc 7 rfl (fun ha7 hb7 => ?_)
  refine zs_aload_n (pc := 0) C dX1_setNames_0 rfl ?_
  refine zs_getf (pc := 1) C dX1_setNames_1 w_X1_24 f_2_4 (by decide) ?_
  refine zs_iconst (pc := 4) C dX1_setNames_4 (by decide) ?_
  refine zs_iload_n (pc := 5) C dX1_setNames_5 rfl ?_
  refine zs_i2l (pc := 6) C dX1_setNames_6 ?_
  refine zs_last (r := 2018) (pc := 7) C dX1_setNames_7 a_18 (by decide) (by omega) rfl ?_
  refine zs_aload_n (pc := 8) C dX1_setNames_8 rfl ?_
  refine zs_getf (pc := 9) C dX1_setNames_9 w_X1_24 f_2_4 (by decide) ?_
  refine zs_iconst (pc := 12) C dX1_setNames_12 (by decide) ?_
  refine zs_iload_n (pc := 13) C dX1_setNames_13 rfl ?_
  refine zs_i2l (pc := 14) C dX1_setNames_14 ?_
  refine zs_last (r := 2018) (pc := 15) C dX1_setNames_15 a_18 (by decide) (by omega) rfl ?_
  refine zs_aload_n (pc := 16) C dX1_setNames_16 rfl ?_
  refine zs_getf (pc := 17) C dX1_setNames_17 w_X1_24 f_2_4 (by decide) ?_
  refine zs_iconst (pc := 20) C dX1_setNames_20 (by decide) ?_
  refine zs_iload_n (pc := 21) C dX1_setNames_21 rfl ?_
  refine zs_i2l (pc := 22) C dX1_setNames_22 ?_
  refine zs_last (r := 2018) (pc := 23) C dX1_setNames_23 a_18 (by decide) (by omega) rfl ?_
  refine zs_aload_n (pc := 24) C dX1_setNames_24 rfl ?_
  refine zs_getf (pc := 25) C dX1_setNames_25 w_X1_24 f_2_4 (by decide) ?_
  refine zs_iconst (pc := 28) C dX1_setNames_28 (by decide) ?_
  refine zs_iload (pc := 29) C dX1_setNames_29 rfl ?_
  refine zs_i2l (pc := 31) C dX1_setNames_31 ?_
  refine zs_last (r := 2018) (pc := 32) C dX1_setNames_32 a_18 (by decide) (by omega) rfl ?_
  refine zs_aload_n (pc := 33) C dX1_setNames_33 rfl ?_
  refine zs_getf (pc := 34) C dX1_setNames_34 w_X1_24 f_2_4 (by decide) ?_
  refine zs_iconst (pc := 37) C dX1_setNames_37 (by decide) ?_
  refine zs_iload (pc := 38) C dX1_setNames_38 rfl ?_
  refine zs_i2l (pc := 40) C dX1_setNames_40 ?_
  refine zs_last (r := 2018) (pc := 41) C dX1_setNames_41 a_18 (by decide) (by omega) rfl ?_
  refine zs_aload_n (pc := 42) C dX1_setNames_42 rfl ?_
  refine zs_getf (pc := 43) C dX1_setNames_43 w_X1_24 f_2_4 (by decide) ?_
  refine zs_iconst (pc := 46) C dX1_setNames_46 (by decide) ?_
  refine zs_iload (pc := 47) C dX1_setNames_47 rfl ?_
  refine zs_i2l (pc := 49) C dX1_setNames_49 ?_
  refine zs_last (r := 2018) (pc := 50) C dX1_setNames_50 a_18 (by decide) (by omega) rfl ?_
  refine zs_aload_n (pc := 51) C dX1_setNames_51 rfl ?_
  refine zs_getf (pc := 52) C dX1_setNames_52 w_X1_24 f_2_4 (by decide) ?_
  refine zs_bipush (pc := 55) C dX1_setNames_55 (by decide) (by decide) ?_
  refine zs_iload (pc := 57) C dX1_setNames_57 rfl ?_
  refine zs_i2l (pc := 59) C dX1_setNames_59 ?_
  refine zs_last (r := 2018) (pc := 60) C dX1_setNames_60 a_18 (by decide) (by omega) rfl ?_
  exact zs_vret (pc := 61) C hr hlk dX1_setNames_61 ⟨by repeat (first | exact zsm_rf | assumption | refine zsm_C (by decide) ?_ | refine zsm_I (by decide) ?_ | refine zsm_J ?_ | refine zsm_c (by assumption) (by decide) ?_), trivial⟩

set_option maxHeartbeats 4000000 in
set_option maxRecDepth 100000 in
theorem c_X1_join {l : Launch} {Γ : zΓ} {G : zH} {k a b : Int} (hX : zXs Γ)  : zMet l Γ yX1_join cX1_join 7 (some .long) 0 [zi k, zj a, zj b] G (zpj (fun x G' => G' = G ∧ True)) := by
  refine zMet_of RX1 hX (by decide) rfl (Nat.le_of_ble_eq_true rfl) ?_
  intro p e s m args below meth c C hr hlk
  show Z p l e (zrm 0) s m args below meth c Γ 7 0 0 (MQ below (zQc Γ (zpj (fun x G' => G' = G ∧ True))) args s 0 0 (zA Γ)) 0 [some (zi k), some (zj a), none, some (zj b), none, none, none] [] G
  refine zs_loc 0 rfl (fun ha0 hb0 => ?_)
  refine zs_iload_n (pc := 0) C dX1_join_0 rfl ?_
  refine zs_name (fun y1 ey1 => ?_)
  rcases (show y1 = 2 ∨ y1 = 3 ∨ y1 = 4 ∨ y1 = 5 ∨ y1 = 6 ∨ y1 = 7 ∨ y1 = 8 ∨ y1 = 9 ∨ y1 = 10 ∨ y1 = 11 ∨ y1 = 12 ∨ y1 = 13 ∨ y1 = 14 ∨ (y1 < 2 ∨ 14 < y1) by omega) with h1 | h1 | h1 | h1 | h1 | h1 | h1 | h1 | h1 | h1 | h1 | h1 | h1 | h1
  · skip
    refine zs_tabIn (pc := 1) (tgt := 68) C 2 dX1_join_1 h1 (by decide) rfl (by decide) ?_
    refine zs_lload_n (pc := 68) C dX1_join_68 rfl ?_
    refine zs_lconst (n := 0) (pc := 69) C dX1_join_69 rfl (by decide) ?_
    refine zs_lcmp (pc := 70) C dX1_join_70 (fun z70 hz70 => ?_)
    refine zs_if_ne (tgt := 80) (pc := 71) C dX1_join_71 (by decide) (fun h71 => ?_) (fun h71 => ?_)
    · skip
      refine zs_lconst (n := 1) (pc := 80) C dX1_join_80 rfl (by decide) ?_
      refine zs_goto (tgt := 85) (pc := 81) C dX1_join_81 (by decide) ?_
      exact zs_lret (pc := 85) C hr hlk dX1_join_85 ⟨rfl, trivial⟩
    · skip
      refine zs_lload_n (pc := 74) C dX1_join_74 rfl ?_
      refine zs_lconst (n := 0) (pc := 75) C dX1_join_75 rfl (by decide) ?_
      refine zs_lcmp (pc := 76) C dX1_join_76 (fun z76 hz76 => ?_)
      refine zs_if_eq (tgt := 84) (pc := 77) C dX1_join_77 (by decide) (fun h77 => ?_) (fun h77 => ?_)
      · skip
        refine zs_lconst (n := 0) (pc := 84) C dX1_join_84 rfl (by decide) ?_
        exact zs_lret (pc := 85) C hr hlk dX1_join_85 ⟨rfl, trivial⟩
      · skip
        refine zs_lconst (n := 1) (pc := 80) C dX1_join_80 rfl (by decide) ?_
        refine zs_goto (tgt := 85) (pc := 81) C dX1_join_81 (by decide) ?_
        exact zs_lret (pc := 85) C hr hlk dX1_join_85 ⟨rfl, trivial⟩
  · skip
    refine zs_tabIn (pc := 1) (tgt := 86) C 3 dX1_join_1 h1 (by decide) rfl (by decide) ?_
    refine zs_lload_n (pc := 86) C dX1_join_86 rfl ?_
    refine zs_lconst (n := 0) (pc := 87) C dX1_join_87 rfl (by decide) ?_
    refine zs_lcmp (pc := 88) C dX1_join_88 (fun z88 hz88 => ?_)
    refine zs_if_eq (tgt := 102) (pc := 89) C dX1_join_89 (by decide) (fun h89 => ?_) (fun h89 => ?_)
    · skip
      refine zs_lconst (n := 0) (pc := 102) C dX1_join_102 rfl (by decide) ?_
      exact zs_lret (pc := 103) C hr hlk dX1_join_103 ⟨rfl, trivial⟩
    · skip
      refine zs_lload_n (pc := 92) C dX1_join_92 rfl ?_
      refine zs_lconst (n := 0) (pc := 93) C dX1_join_93 rfl (by decide) ?_
      refine zs_lcmp (pc := 94) C dX1_join_94 (fun z94 hz94 => ?_)
      refine zs_if_eq (tgt := 102) (pc := 95) C dX1_join_95 (by decide) (fun h95 => ?_) (fun h95 => ?_)
      · skip
        refine zs_lconst (n := 0) (pc := 102) C dX1_join_102 rfl (by decide) ?_
        exact zs_lret (pc := 103) C hr hlk dX1_join_103 ⟨rfl, trivial⟩
      · skip
        refine zs_lconst (n := 1) (pc := 98) C dX1_join_98 rfl (by decide) ?_
        refine zs_goto (tgt := 103) (pc := 99) C dX1_join_99 (by decide) ?_
        exact zs_lret (pc := 103) C hr hlk dX1_join_103 ⟨rfl, trivial⟩
  · skip
    refine zs_tabIn (pc := 1) (tgt := 200) C 4 dX1_join_1 h1 (by decide) rfl (by decide) ?_
    refine zs_lload_n (pc := 200) C dX1_join_200 rfl ?_
    refine zs_lconst (n := 0) (pc := 201) C dX1_join_201 rfl (by decide) ?_
    refine zs_lcmp (pc := 202) C dX1_join_202 (fun z202 hz202 => ?_)
    refine zs_if_ne (tgt := 212) (pc := 203) C dX1_join_203 (by decide) (fun h203 => ?_) (fun h203 => ?_)
    · skip
      refine zs_ldc2 (n := 1000000000000) (pc := 212) C dX1_join_212 q_X1_54 (by decide) (by decide) ?_
      refine zs_lload_n (pc := 215) C dX1_join_215 rfl ?_
      refine zs_lconst (n := 0) (pc := 216) C dX1_join_216 rfl (by decide) ?_
      refine zs_lcmp (pc := 217) C dX1_join_217 (fun z217 hz217 => ?_)
      refine zs_if_ge (tgt := 226) (pc := 218) C dX1_join_218 (by decide) (fun h218 => ?_) (fun h218 => ?_)
      · skip
        refine zs_lload_n (pc := 226) C dX1_join_226 rfl ?_
        refine zs_ldiv (pc := 227) C dX1_join_227 (by omega) (fun z227 hz2271 hz2272 => ?_)
        refine zs_lstore (pc := 228) C dX1_join_228 (by decide) ?_
        dsimp only [zset, zclr, znone]
        refine zs_lload_n (pc := 230) C dX1_join_230 rfl ?_
        refine zs_lload (pc := 231) C dX1_join_231 rfl ?_
        refine zs_lcmp (pc := 233) C dX1_join_233 (fun z233 hz233 => ?_)
        refine zs_if_gt (tgt := 245) (pc := 234) C dX1_join_234 (by decide) (fun h234 => ?_) (fun h234 => ?_)
        · skip
          refine zs_ldc2 (n := -9223372036854775808) (pc := 245) C dX1_join_245 q_X1_48 (by decide) (by decide) ?_
          refine zs_goto (tgt := 254) (pc := 248) C dX1_join_248 (by decide) ?_
          exact zs_lret (pc := 254) C hr hlk dX1_join_254 ⟨rfl, trivial⟩
        · skip
          refine zs_lload_n (pc := 237) C dX1_join_237 rfl ?_
          refine zs_lload (pc := 238) C dX1_join_238 rfl ?_
          refine zs_lneg (pc := 240) C dX1_join_240 (fun z240 hz2401 hz2402 hz2403 => ?_)
          refine zs_lcmp (pc := 241) C dX1_join_241 (fun z241 hz241 => ?_)
          refine zs_if_ge (tgt := 251) (pc := 242) C dX1_join_242 (by decide) (fun h242 => ?_) (fun h242 => ?_)
          · skip
            refine zs_lload_n (pc := 251) C dX1_join_251 rfl ?_
            refine zs_lload_n (pc := 252) C dX1_join_252 rfl ?_
            refine zs_lmulF (pc := 253) C dX1_join_253 (fun z253 hz2531 hz2532 => ?_)
            exact zs_lret (pc := 254) C hr hlk dX1_join_254 ⟨rfl, trivial⟩
          · skip
            refine zs_ldc2 (n := -9223372036854775808) (pc := 245) C dX1_join_245 q_X1_48 (by decide) (by decide) ?_
            refine zs_goto (tgt := 254) (pc := 248) C dX1_join_248 (by decide) ?_
            exact zs_lret (pc := 254) C hr hlk dX1_join_254 ⟨rfl, trivial⟩
      · skip
        refine zs_lload_n (pc := 221) C dX1_join_221 rfl ?_
        refine zs_lneg (pc := 222) C dX1_join_222 (fun z222 hz2221 hz2222 hz2223 => ?_)
        refine zs_goto (tgt := 227) (pc := 223) C dX1_join_223 (by decide) ?_
        refine zs_ldiv (pc := 227) C dX1_join_227 (by omega) (fun z227 hz2271 hz2272 => ?_)
        refine zs_lstore (pc := 228) C dX1_join_228 (by decide) ?_
        dsimp only [zset, zclr, znone]
        refine zs_lload_n (pc := 230) C dX1_join_230 rfl ?_
        refine zs_lload (pc := 231) C dX1_join_231 rfl ?_
        refine zs_lcmp (pc := 233) C dX1_join_233 (fun z233 hz233 => ?_)
        refine zs_if_gt (tgt := 245) (pc := 234) C dX1_join_234 (by decide) (fun h234 => ?_) (fun h234 => ?_)
        · skip
          refine zs_ldc2 (n := -9223372036854775808) (pc := 245) C dX1_join_245 q_X1_48 (by decide) (by decide) ?_
          refine zs_goto (tgt := 254) (pc := 248) C dX1_join_248 (by decide) ?_
          exact zs_lret (pc := 254) C hr hlk dX1_join_254 ⟨rfl, trivial⟩
        · skip
          refine zs_lload_n (pc := 237) C dX1_join_237 rfl ?_
          refine zs_lload (pc := 238) C dX1_join_238 rfl ?_
          refine zs_lneg (pc := 240) C dX1_join_240 (fun z240 hz2401 hz2402 hz2403 => ?_)
          refine zs_lcmp (pc := 241) C dX1_join_241 (fun z241 hz241 => ?_)
          refine zs_if_ge (tgt := 251) (pc := 242) C dX1_join_242 (by decide) (fun h242 => ?_) (fun h242 => ?_)
          · skip
            refine zs_lload_n (pc := 251) C dX1_join_251 rfl ?_
            refine zs_lload_n (pc := 252) C dX1_join_252 rfl ?_
            refine zs_lmulF (pc := 253) C dX1_join_253 (fun z253 hz2531 hz2532 => ?_)
            exact zs_lret (pc := 254) C hr hlk dX1_join_254 ⟨rfl, trivial⟩
          · skip
            refine zs_ldc2 (n := -9223372036854775808) (pc := 245) C dX1_join_245 q_X1_48 (by decide) (by decide) ?_
            refine zs_goto (tgt := 254) (pc := 248) C dX1_join_248 (by decide) ?_
            exact zs_lret (pc := 254) C hr hlk dX1_join_254 ⟨rfl, trivial⟩
    · skip
      refine zs_ldc2 (n := 1000000000000) (pc := 206) C dX1_join_206 q_X1_54 (by decide) (by decide) ?_
      refine zs_goto (tgt := 228) (pc := 209) C dX1_join_209 (by decide) ?_
      refine zs_lstore (pc := 228) C dX1_join_228 (by decide) ?_
      dsimp only [zset, zclr, znone]
      refine zs_lload_n (pc := 230) C dX1_join_230 rfl ?_
      refine zs_lload (pc := 231) C dX1_join_231 rfl ?_
      refine zs_lcmp (pc := 233) C dX1_join_233 (fun z233 hz233 => ?_)
      refine zs_if_gt (tgt := 245) (pc := 234) C dX1_join_234 (by decide) (fun h234 => ?_) (fun h234 => ?_)
      · skip
        refine zs_ldc2 (n := -9223372036854775808) (pc := 245) C dX1_join_245 q_X1_48 (by decide) (by decide) ?_
        refine zs_goto (tgt := 254) (pc := 248) C dX1_join_248 (by decide) ?_
        exact zs_lret (pc := 254) C hr hlk dX1_join_254 ⟨rfl, trivial⟩
      · skip
        refine zs_lload_n (pc := 237) C dX1_join_237 rfl ?_
        refine zs_lload (pc := 238) C dX1_join_238 rfl ?_
        refine zs_lneg (pc := 240) C dX1_join_240 (fun z240 hz2401 hz2402 hz2403 => ?_)
        refine zs_lcmp (pc := 241) C dX1_join_241 (fun z241 hz241 => ?_)
        refine zs_if_ge (tgt := 251) (pc := 242) C dX1_join_242 (by decide) (fun h242 => ?_) (fun h242 => ?_)
        · skip
          refine zs_lload_n (pc := 251) C dX1_join_251 rfl ?_
          refine zs_lload_n (pc := 252) C dX1_join_252 rfl ?_
          refine zs_lmulF (pc := 253) C dX1_join_253 (fun z253 hz2531 hz2532 => ?_)
          exact zs_lret (pc := 254) C hr hlk dX1_join_254 ⟨rfl, trivial⟩
        · skip
          refine zs_ldc2 (n := -9223372036854775808) (pc := 245) C dX1_join_245 q_X1_48 (by decide) (by decide) ?_
          refine zs_goto (tgt := 254) (pc := 248) C dX1_join_248 (by decide) ?_
          exact zs_lret (pc := 254) C hr hlk dX1_join_254 ⟨rfl, trivial⟩
  · skip
    refine zs_tabIn (pc := 1) (tgt := 104) C 5 dX1_join_1 h1 (by decide) rfl (by decide) ?_
    refine zs_lload_n (pc := 104) C dX1_join_104 rfl ?_
    refine zs_lload_n (pc := 105) C dX1_join_105 rfl ?_
    refine zs_lcmp (pc := 106) C dX1_join_106 (fun z106 hz106 => ?_)
    refine zs_if_ge (tgt := 114) (pc := 107) C dX1_join_107 (by decide) (fun h107 => ?_) (fun h107 => ?_)
    · skip
      refine zs_lconst (n := 0) (pc := 114) C dX1_join_114 rfl (by decide) ?_
      exact zs_lret (pc := 115) C hr hlk dX1_join_115 ⟨rfl, trivial⟩
    · skip
      refine zs_lconst (n := 1) (pc := 110) C dX1_join_110 rfl (by decide) ?_
      refine zs_goto (tgt := 115) (pc := 111) C dX1_join_111 (by decide) ?_
      exact zs_lret (pc := 115) C hr hlk dX1_join_115 ⟨rfl, trivial⟩
  · skip
    refine zs_tabIn (pc := 1) (tgt := 116) C 6 dX1_join_1 h1 (by decide) rfl (by decide) ?_
    refine zs_lload_n (pc := 116) C dX1_join_116 rfl ?_
    refine zs_lload_n (pc := 117) C dX1_join_117 rfl ?_
    refine zs_lcmp (pc := 118) C dX1_join_118 (fun z118 hz118 => ?_)
    refine zs_if_gt (tgt := 126) (pc := 119) C dX1_join_119 (by decide) (fun h119 => ?_) (fun h119 => ?_)
    · skip
      refine zs_lconst (n := 0) (pc := 126) C dX1_join_126 rfl (by decide) ?_
      exact zs_lret (pc := 127) C hr hlk dX1_join_127 ⟨rfl, trivial⟩
    · skip
      refine zs_lconst (n := 1) (pc := 122) C dX1_join_122 rfl (by decide) ?_
      refine zs_goto (tgt := 127) (pc := 123) C dX1_join_123 (by decide) ?_
      exact zs_lret (pc := 127) C hr hlk dX1_join_127 ⟨rfl, trivial⟩
  · skip
    refine zs_tabIn (pc := 1) (tgt := 128) C 7 dX1_join_1 h1 (by decide) rfl (by decide) ?_
    refine zs_lload_n (pc := 128) C dX1_join_128 rfl ?_
    refine zs_lload_n (pc := 129) C dX1_join_129 rfl ?_
    refine zs_lcmp (pc := 130) C dX1_join_130 (fun z130 hz130 => ?_)
    refine zs_if_ne (tgt := 138) (pc := 131) C dX1_join_131 (by decide) (fun h131 => ?_) (fun h131 => ?_)
    · skip
      refine zs_lconst (n := 0) (pc := 138) C dX1_join_138 rfl (by decide) ?_
      exact zs_lret (pc := 139) C hr hlk dX1_join_139 ⟨rfl, trivial⟩
    · skip
      refine zs_lconst (n := 1) (pc := 134) C dX1_join_134 rfl (by decide) ?_
      refine zs_goto (tgt := 139) (pc := 135) C dX1_join_135 (by decide) ?_
      exact zs_lret (pc := 139) C hr hlk dX1_join_139 ⟨rfl, trivial⟩
  · skip
    refine zs_tabIn (pc := 1) (tgt := 140) C 8 dX1_join_1 h1 (by decide) rfl (by decide) ?_
    refine zs_lload_n (pc := 140) C dX1_join_140 rfl ?_
    refine zs_lload_n (pc := 141) C dX1_join_141 rfl ?_
    refine zs_lcmp (pc := 142) C dX1_join_142 (fun z142 hz142 => ?_)
    refine zs_if_eq (tgt := 150) (pc := 143) C dX1_join_143 (by decide) (fun h143 => ?_) (fun h143 => ?_)
    · skip
      refine zs_lconst (n := 0) (pc := 150) C dX1_join_150 rfl (by decide) ?_
      exact zs_lret (pc := 151) C hr hlk dX1_join_151 ⟨rfl, trivial⟩
    · skip
      refine zs_lconst (n := 1) (pc := 146) C dX1_join_146 rfl (by decide) ?_
      refine zs_goto (tgt := 151) (pc := 147) C dX1_join_147 (by decide) ?_
      exact zs_lret (pc := 151) C hr hlk dX1_join_151 ⟨rfl, trivial⟩
  · skip
    refine zs_tabIn (pc := 1) (tgt := 152) C 9 dX1_join_1 h1 (by decide) rfl (by decide) ?_
    refine zs_lload_n (pc := 152) C dX1_join_152 rfl ?_
    refine zs_lload_n (pc := 153) C dX1_join_153 rfl ?_
    refine zs_lcmp (pc := 154) C dX1_join_154 (fun z154 hz154 => ?_)
    refine zs_if_lt (tgt := 162) (pc := 155) C dX1_join_155 (by decide) (fun h155 => ?_) (fun h155 => ?_)
    · skip
      refine zs_lconst (n := 0) (pc := 162) C dX1_join_162 rfl (by decide) ?_
      exact zs_lret (pc := 163) C hr hlk dX1_join_163 ⟨rfl, trivial⟩
    · skip
      refine zs_lconst (n := 1) (pc := 158) C dX1_join_158 rfl (by decide) ?_
      refine zs_goto (tgt := 163) (pc := 159) C dX1_join_159 (by decide) ?_
      exact zs_lret (pc := 163) C hr hlk dX1_join_163 ⟨rfl, trivial⟩
  · skip
    refine zs_tabIn (pc := 1) (tgt := 164) C 10 dX1_join_1 h1 (by decide) rfl (by decide) ?_
    refine zs_lload_n (pc := 164) C dX1_join_164 rfl ?_
    refine zs_lload_n (pc := 165) C dX1_join_165 rfl ?_
    refine zs_lcmp (pc := 166) C dX1_join_166 (fun z166 hz166 => ?_)
    refine zs_if_le (tgt := 174) (pc := 167) C dX1_join_167 (by decide) (fun h167 => ?_) (fun h167 => ?_)
    · skip
      refine zs_lconst (n := 0) (pc := 174) C dX1_join_174 rfl (by decide) ?_
      exact zs_lret (pc := 175) C hr hlk dX1_join_175 ⟨rfl, trivial⟩
    · skip
      refine zs_lconst (n := 1) (pc := 170) C dX1_join_170 rfl (by decide) ?_
      refine zs_goto (tgt := 175) (pc := 171) C dX1_join_171 (by decide) ?_
      exact zs_lret (pc := 175) C hr hlk dX1_join_175 ⟨rfl, trivial⟩
  · skip
    refine zs_tabIn (pc := 1) (tgt := 176) C 11 dX1_join_1 h1 (by decide) rfl (by decide) ?_
    refine zs_lload_n (pc := 176) C dX1_join_176 rfl ?_
    refine zs_lload_n (pc := 177) C dX1_join_177 rfl ?_
    refine zs_laddF (pc := 178) C dX1_join_178 (fun z178 hz1781 hz1782 => ?_)
    exact zs_lret (pc := 179) C hr hlk dX1_join_179 ⟨rfl, trivial⟩
  · skip
    refine zs_tabIn (pc := 1) (tgt := 180) C 12 dX1_join_1 h1 (by decide) rfl (by decide) ?_
    refine zs_lload_n (pc := 180) C dX1_join_180 rfl ?_
    refine zs_lload_n (pc := 181) C dX1_join_181 rfl ?_
    refine zs_lsubF (pc := 182) C dX1_join_182 (fun z182 hz1821 hz1822 => ?_)
    exact zs_lret (pc := 183) C hr hlk dX1_join_183 ⟨rfl, trivial⟩
  · skip
    refine zs_tabIn (pc := 1) (tgt := 200) C 13 dX1_join_1 h1 (by decide) rfl (by decide) ?_
    refine zs_lload_n (pc := 200) C dX1_join_200 rfl ?_
    refine zs_lconst (n := 0) (pc := 201) C dX1_join_201 rfl (by decide) ?_
    refine zs_lcmp (pc := 202) C dX1_join_202 (fun z202 hz202 => ?_)
    refine zs_if_ne (tgt := 212) (pc := 203) C dX1_join_203 (by decide) (fun h203 => ?_) (fun h203 => ?_)
    · skip
      refine zs_ldc2 (n := 1000000000000) (pc := 212) C dX1_join_212 q_X1_54 (by decide) (by decide) ?_
      refine zs_lload_n (pc := 215) C dX1_join_215 rfl ?_
      refine zs_lconst (n := 0) (pc := 216) C dX1_join_216 rfl (by decide) ?_
      refine zs_lcmp (pc := 217) C dX1_join_217 (fun z217 hz217 => ?_)
      refine zs_if_ge (tgt := 226) (pc := 218) C dX1_join_218 (by decide) (fun h218 => ?_) (fun h218 => ?_)
      · skip
        refine zs_lload_n (pc := 226) C dX1_join_226 rfl ?_
        refine zs_ldiv (pc := 227) C dX1_join_227 (by omega) (fun z227 hz2271 hz2272 => ?_)
        refine zs_lstore (pc := 228) C dX1_join_228 (by decide) ?_
        dsimp only [zset, zclr, znone]
        refine zs_lload_n (pc := 230) C dX1_join_230 rfl ?_
        refine zs_lload (pc := 231) C dX1_join_231 rfl ?_
        refine zs_lcmp (pc := 233) C dX1_join_233 (fun z233 hz233 => ?_)
        refine zs_if_gt (tgt := 245) (pc := 234) C dX1_join_234 (by decide) (fun h234 => ?_) (fun h234 => ?_)
        · skip
          refine zs_ldc2 (n := -9223372036854775808) (pc := 245) C dX1_join_245 q_X1_48 (by decide) (by decide) ?_
          refine zs_goto (tgt := 254) (pc := 248) C dX1_join_248 (by decide) ?_
          exact zs_lret (pc := 254) C hr hlk dX1_join_254 ⟨rfl, trivial⟩
        · skip
          refine zs_lload_n (pc := 237) C dX1_join_237 rfl ?_
          refine zs_lload (pc := 238) C dX1_join_238 rfl ?_
          refine zs_lneg (pc := 240) C dX1_join_240 (fun z240 hz2401 hz2402 hz2403 => ?_)
          refine zs_lcmp (pc := 241) C dX1_join_241 (fun z241 hz241 => ?_)
          refine zs_if_ge (tgt := 251) (pc := 242) C dX1_join_242 (by decide) (fun h242 => ?_) (fun h242 => ?_)
          · skip
            refine zs_lload_n (pc := 251) C dX1_join_251 rfl ?_
            refine zs_lload_n (pc := 252) C dX1_join_252 rfl ?_
            refine zs_lmulF (pc := 253) C dX1_join_253 (fun z253 hz2531 hz2532 => ?_)
            exact zs_lret (pc := 254) C hr hlk dX1_join_254 ⟨rfl, trivial⟩
          · skip
            refine zs_ldc2 (n := -9223372036854775808) (pc := 245) C dX1_join_245 q_X1_48 (by decide) (by decide) ?_
            refine zs_goto (tgt := 254) (pc := 248) C dX1_join_248 (by decide) ?_
            exact zs_lret (pc := 254) C hr hlk dX1_join_254 ⟨rfl, trivial⟩
      · skip
        refine zs_lload_n (pc := 221) C dX1_join_221 rfl ?_
        refine zs_lneg (pc := 222) C dX1_join_222 (fun z222 hz2221 hz2222 hz2223 => ?_)
        refine zs_goto (tgt := 227) (pc := 223) C dX1_join_223 (by decide) ?_
        refine zs_ldiv (pc := 227) C dX1_join_227 (by omega) (fun z227 hz2271 hz2272 => ?_)
        refine zs_lstore (pc := 228) C dX1_join_228 (by decide) ?_
        dsimp only [zset, zclr, znone]
        refine zs_lload_n (pc := 230) C dX1_join_230 rfl ?_
        refine zs_lload (pc := 231) C dX1_join_231 rfl ?_
        refine zs_lcmp (pc := 233) C dX1_join_233 (fun z233 hz233 => ?_)
        refine zs_if_gt (tgt := 245) (pc := 234) C dX1_join_234 (by decide) (fun h234 => ?_) (fun h234 => ?_)
        · skip
          refine zs_ldc2 (n := -9223372036854775808) (pc := 245) C dX1_join_245 q_X1_48 (by decide) (by decide) ?_
          refine zs_goto (tgt := 254) (pc := 248) C dX1_join_248 (by decide) ?_
          exact zs_lret (pc := 254) C hr hlk dX1_join_254 ⟨rfl, trivial⟩
        · skip
          refine zs_lload_n (pc := 237) C dX1_join_237 rfl ?_
          refine zs_lload (pc := 238) C dX1_join_238 rfl ?_
          refine zs_lneg (pc := 240) C dX1_join_240 (fun z240 hz2401 hz2402 hz2403 => ?_)
          refine zs_lcmp (pc := 241) C dX1_join_241 (fun z241 hz241 => ?_)
          refine zs_if_ge (tgt := 251) (pc := 242) C dX1_join_242 (by decide) (fun h242 => ?_) (fun h242 => ?_)
          · skip
            refine zs_lload_n (pc := 251) C dX1_join_251 rfl ?_
            refine zs_lload_n (pc := 252) C dX1_join_252 rfl ?_
            refine zs_lmulF (pc := 253) C dX1_join_253 (fun z253 hz2531 hz2532 => ?_)
            exact zs_lret (pc := 254) C hr hlk dX1_join_254 ⟨rfl, trivial⟩
          · skip
            refine zs_ldc2 (n := -9223372036854775808) (pc := 245) C dX1_join_245 q_X1_48 (by decide) (by decide) ?_
            refine zs_goto (tgt := 254) (pc := 248) C dX1_join_248 (by decide) ?_
            exact zs_lret (pc := 254) C hr hlk dX1_join_254 ⟨rfl, trivial⟩
    · skip
      refine zs_ldc2 (n := 1000000000000) (pc := 206) C dX1_join_206 q_X1_54 (by decide) (by decide) ?_
      refine zs_goto (tgt := 228) (pc := 209) C dX1_join_209 (by decide) ?_
      refine zs_lstore (pc := 228) C dX1_join_228 (by decide) ?_
      dsimp only [zset, zclr, znone]
      refine zs_lload_n (pc := 230) C dX1_join_230 rfl ?_
      refine zs_lload (pc := 231) C dX1_join_231 rfl ?_
      refine zs_lcmp (pc := 233) C dX1_join_233 (fun z233 hz233 => ?_)
      refine zs_if_gt (tgt := 245) (pc := 234) C dX1_join_234 (by decide) (fun h234 => ?_) (fun h234 => ?_)
      · skip
        refine zs_ldc2 (n := -9223372036854775808) (pc := 245) C dX1_join_245 q_X1_48 (by decide) (by decide) ?_
        refine zs_goto (tgt := 254) (pc := 248) C dX1_join_248 (by decide) ?_
        exact zs_lret (pc := 254) C hr hlk dX1_join_254 ⟨rfl, trivial⟩
      · skip
        refine zs_lload_n (pc := 237) C dX1_join_237 rfl ?_
        refine zs_lload (pc := 238) C dX1_join_238 rfl ?_
        refine zs_lneg (pc := 240) C dX1_join_240 (fun z240 hz2401 hz2402 hz2403 => ?_)
        refine zs_lcmp (pc := 241) C dX1_join_241 (fun z241 hz241 => ?_)
        refine zs_if_ge (tgt := 251) (pc := 242) C dX1_join_242 (by decide) (fun h242 => ?_) (fun h242 => ?_)
        · skip
          refine zs_lload_n (pc := 251) C dX1_join_251 rfl ?_
          refine zs_lload_n (pc := 252) C dX1_join_252 rfl ?_
          refine zs_lmulF (pc := 253) C dX1_join_253 (fun z253 hz2531 hz2532 => ?_)
          exact zs_lret (pc := 254) C hr hlk dX1_join_254 ⟨rfl, trivial⟩
        · skip
          refine zs_ldc2 (n := -9223372036854775808) (pc := 245) C dX1_join_245 q_X1_48 (by decide) (by decide) ?_
          refine zs_goto (tgt := 254) (pc := 248) C dX1_join_248 (by decide) ?_
          exact zs_lret (pc := 254) C hr hlk dX1_join_254 ⟨rfl, trivial⟩
  · skip
    refine zs_tabIn (pc := 1) (tgt := 184) C 14 dX1_join_1 h1 (by decide) rfl (by decide) ?_
    refine zs_lload_n (pc := 184) C dX1_join_184 rfl ?_
    refine zs_lconst (n := 0) (pc := 185) C dX1_join_185 rfl (by decide) ?_
    refine zs_lcmp (pc := 186) C dX1_join_186 (fun z186 hz186 => ?_)
    refine zs_if_ne (tgt := 196) (pc := 187) C dX1_join_187 (by decide) (fun h187 => ?_) (fun h187 => ?_)
    · skip
      refine zs_lload_n (pc := 196) C dX1_join_196 rfl ?_
      refine zs_lload_n (pc := 197) C dX1_join_197 rfl ?_
      refine zs_ldiv (pc := 198) C dX1_join_198 (by omega) (fun z198 hz1981 hz1982 => ?_)
      exact zs_lret (pc := 199) C hr hlk dX1_join_199 ⟨rfl, trivial⟩
    · skip
      refine zs_ldc2 (n := -9223372036854775808) (pc := 190) C dX1_join_190 q_X1_48 (by decide) (by decide) ?_
      refine zs_goto (tgt := 199) (pc := 193) C dX1_join_193 (by decide) ?_
      exact zs_lret (pc := 199) C hr hlk dX1_join_199 ⟨rfl, trivial⟩
  · skip
    refine zs_tabOut (tgt := 200) (pc := 1) C dX1_join_1 h1 (by decide) ?_
    refine zs_lload_n (pc := 200) C dX1_join_200 rfl ?_
    refine zs_lconst (n := 0) (pc := 201) C dX1_join_201 rfl (by decide) ?_
    refine zs_lcmp (pc := 202) C dX1_join_202 (fun z202 hz202 => ?_)
    refine zs_if_ne (tgt := 212) (pc := 203) C dX1_join_203 (by decide) (fun h203 => ?_) (fun h203 => ?_)
    · skip
      refine zs_ldc2 (n := 1000000000000) (pc := 212) C dX1_join_212 q_X1_54 (by decide) (by decide) ?_
      refine zs_lload_n (pc := 215) C dX1_join_215 rfl ?_
      refine zs_lconst (n := 0) (pc := 216) C dX1_join_216 rfl (by decide) ?_
      refine zs_lcmp (pc := 217) C dX1_join_217 (fun z217 hz217 => ?_)
      refine zs_if_ge (tgt := 226) (pc := 218) C dX1_join_218 (by decide) (fun h218 => ?_) (fun h218 => ?_)
      · skip
        refine zs_lload_n (pc := 226) C dX1_join_226 rfl ?_
        refine zs_ldiv (pc := 227) C dX1_join_227 (by omega) (fun z227 hz2271 hz2272 => ?_)
        refine zs_lstore (pc := 228) C dX1_join_228 (by decide) ?_
        dsimp only [zset, zclr, znone]
        refine zs_lload_n (pc := 230) C dX1_join_230 rfl ?_
        refine zs_lload (pc := 231) C dX1_join_231 rfl ?_
        refine zs_lcmp (pc := 233) C dX1_join_233 (fun z233 hz233 => ?_)
        refine zs_if_gt (tgt := 245) (pc := 234) C dX1_join_234 (by decide) (fun h234 => ?_) (fun h234 => ?_)
        · skip
          refine zs_ldc2 (n := -9223372036854775808) (pc := 245) C dX1_join_245 q_X1_48 (by decide) (by decide) ?_
          refine zs_goto (tgt := 254) (pc := 248) C dX1_join_248 (by decide) ?_
          exact zs_lret (pc := 254) C hr hlk dX1_join_254 ⟨rfl, trivial⟩
        · skip
          refine zs_lload_n (pc := 237) C dX1_join_237 rfl ?_
          refine zs_lload (pc := 238) C dX1_join_238 rfl ?_
          refine zs_lneg (pc := 240) C dX1_join_240 (fun z240 hz2401 hz2402 hz2403 => ?_)
          refine zs_lcmp (pc := 241) C dX1_join_241 (fun z241 hz241 => ?_)
          refine zs_if_ge (tgt := 251) (pc := 242) C dX1_join_242 (by decide) (fun h242 => ?_) (fun h242 => ?_)
          · skip
            refine zs_lload_n (pc := 251) C dX1_join_251 rfl ?_
            refine zs_lload_n (pc := 252) C dX1_join_252 rfl ?_
            refine zs_lmulF (pc := 253) C dX1_join_253 (fun z253 hz2531 hz2532 => ?_)
            exact zs_lret (pc := 254) C hr hlk dX1_join_254 ⟨rfl, trivial⟩
          · skip
            refine zs_ldc2 (n := -9223372036854775808) (pc := 245) C dX1_join_245 q_X1_48 (by decide) (by decide) ?_
            refine zs_goto (tgt := 254) (pc := 248) C dX1_join_248 (by decide) ?_
            exact zs_lret (pc := 254) C hr hlk dX1_join_254 ⟨rfl, trivial⟩
      · skip
        refine zs_lload_n (pc := 221) C dX1_join_221 rfl ?_
        refine zs_lneg (pc := 222) C dX1_join_222 (fun z222 hz2221 hz2222 hz2223 => ?_)
        refine zs_goto (tgt := 227) (pc := 223) C dX1_join_223 (by decide) ?_
        refine zs_ldiv (pc := 227) C dX1_join_227 (by omega) (fun z227 hz2271 hz2272 => ?_)
        refine zs_lstore (pc := 228) C dX1_join_228 (by decide) ?_
        dsimp only [zset, zclr, znone]
        refine zs_lload_n (pc := 230) C dX1_join_230 rfl ?_
        refine zs_lload (pc := 231) C dX1_join_231 rfl ?_
        refine zs_lcmp (pc := 233) C dX1_join_233 (fun z233 hz233 => ?_)
        refine zs_if_gt (tgt := 245) (pc := 234) C dX1_join_234 (by decide) (fun h234 => ?_) (fun h234 => ?_)
        · skip
          refine zs_ldc2 (n := -9223372036854775808) (pc := 245) C dX1_join_245 q_X1_48 (by decide) (by decide) ?_
          refine zs_goto (tgt := 254) (pc := 248) C dX1_join_248 (by decide) ?_
          exact zs_lret (pc := 254) C hr hlk dX1_join_254 ⟨rfl, trivial⟩
        · skip
          refine zs_lload_n (pc := 237) C dX1_join_237 rfl ?_
          refine zs_lload (pc := 238) C dX1_join_238 rfl ?_
          refine zs_lneg (pc := 240) C dX1_join_240 (fun z240 hz2401 hz2402 hz2403 => ?_)
          refine zs_lcmp (pc := 241) C dX1_join_241 (fun z241 hz241 => ?_)
          refine zs_if_ge (tgt := 251) (pc := 242) C dX1_join_242 (by decide) (fun h242 => ?_) (fun h242 => ?_)
          · skip
            refine zs_lload_n (pc := 251) C dX1_join_251 rfl ?_
            refine zs_lload_n (pc := 252) C dX1_join_252 rfl ?_
            refine zs_lmulF (pc := 253) C dX1_join_253 (fun z253 hz2531 hz2532 => ?_)
            exact zs_lret (pc := 254) C hr hlk dX1_join_254 ⟨rfl, trivial⟩
          · skip
            refine zs_ldc2 (n := -9223372036854775808) (pc := 245) C dX1_join_245 q_X1_48 (by decide) (by decide) ?_
            refine zs_goto (tgt := 254) (pc := 248) C dX1_join_248 (by decide) ?_
            exact zs_lret (pc := 254) C hr hlk dX1_join_254 ⟨rfl, trivial⟩
    · skip
      refine zs_ldc2 (n := 1000000000000) (pc := 206) C dX1_join_206 q_X1_54 (by decide) (by decide) ?_
      refine zs_goto (tgt := 228) (pc := 209) C dX1_join_209 (by decide) ?_
      refine zs_lstore (pc := 228) C dX1_join_228 (by decide) ?_
      dsimp only [zset, zclr, znone]
      refine zs_lload_n (pc := 230) C dX1_join_230 rfl ?_
      refine zs_lload (pc := 231) C dX1_join_231 rfl ?_
      refine zs_lcmp (pc := 233) C dX1_join_233 (fun z233 hz233 => ?_)
      refine zs_if_gt (tgt := 245) (pc := 234) C dX1_join_234 (by decide) (fun h234 => ?_) (fun h234 => ?_)
      · skip
        refine zs_ldc2 (n := -9223372036854775808) (pc := 245) C dX1_join_245 q_X1_48 (by decide) (by decide) ?_
        refine zs_goto (tgt := 254) (pc := 248) C dX1_join_248 (by decide) ?_
        exact zs_lret (pc := 254) C hr hlk dX1_join_254 ⟨rfl, trivial⟩
      · skip
        refine zs_lload_n (pc := 237) C dX1_join_237 rfl ?_
        refine zs_lload (pc := 238) C dX1_join_238 rfl ?_
        refine zs_lneg (pc := 240) C dX1_join_240 (fun z240 hz2401 hz2402 hz2403 => ?_)
        refine zs_lcmp (pc := 241) C dX1_join_241 (fun z241 hz241 => ?_)
        refine zs_if_ge (tgt := 251) (pc := 242) C dX1_join_242 (by decide) (fun h242 => ?_) (fun h242 => ?_)
        · skip
          refine zs_lload_n (pc := 251) C dX1_join_251 rfl ?_
          refine zs_lload_n (pc := 252) C dX1_join_252 rfl ?_
          refine zs_lmulF (pc := 253) C dX1_join_253 (fun z253 hz2531 hz2532 => ?_)
          exact zs_lret (pc := 254) C hr hlk dX1_join_254 ⟨rfl, trivial⟩
        · skip
          refine zs_ldc2 (n := -9223372036854775808) (pc := 245) C dX1_join_245 q_X1_48 (by decide) (by decide) ?_
          refine zs_goto (tgt := 254) (pc := 248) C dX1_join_248 (by decide) ?_
          exact zs_lret (pc := 254) C hr hlk dX1_join_254 ⟨rfl, trivial⟩

set_option maxHeartbeats 4000000 in
set_option maxRecDepth 100000 in
theorem c_X1_value {l : Launch} {Γ : zΓ} {G : zH} {w : Nat} {k : Int} (hX : zXs Γ)  : zMet l Γ yX1_value cX1_value 8 (some .long) 1 [zr 2 w, zi k] G (zpj (fun x G' => zsm [] G G' ∧ True)) := by
  refine zMet_of RX1 hX (by decide) rfl (Nat.le_of_ble_eq_true rfl) ?_
  intro p e s m args below meth c C hr hlk
  show Z p l e (zrm 1) s m args below meth c Γ 8 0 0 (MQ below (zQc Γ (zpj (fun x G' => zsm [] G G' ∧ True))) args s 0 0 (zA Γ)) 0 [some (zr 2 w), some (zi k), none, none, none, none, none, none] [] G
  refine zs_loc 1 rfl (fun ha1 hb1 => ?_)
  refine zs_aload_n (pc := 0) C dX1_value_0 rfl ?_
  refine zs_iload_n (pc := 1) C dX1_value_1 rfl ?_
  refine zVip1 (pc := 2) C dX1_value_2 v_X1_44 (c_X1_isTold hX ) (by decide) (by decide) ⟨Nat.zero_le _, Nat.zero_le _⟩ (Nat.le_of_ble_eq_true rfl) (fun x2 l2 u2 hp2 => ?_)
  have hq2 := hp2
  refine zs_if_ne (tgt := 12) (pc := 5) C dX1_value_5 (by decide) (fun h5 => ?_) (fun h5 => ?_)
  · skip
    refine zs_iconst (pc := 12) C dX1_value_12 (by decide) ?_
    refine zs_istore_n (pc := 13) C dX1_value_13 (by decide) ?_
    dsimp only [zset, zclr, znone]
    refine zs_aload_n (pc := 14) C dX1_value_14 rfl ?_
    refine zs_getf (pc := 15) C dX1_value_15 w_X1_18 f_2_2 (by decide) ?_
    refine zs_iload_n (pc := 18) C dX1_value_18 rfl ?_
    refine zs_iald (r := 2016) (pc := 19) C dX1_value_19 a_16 (by decide) (by omega) rfl (r_2016 _) (fun v19 e19 l19 u19 => ?_)
    refine zs_istore_n (pc := 20) C dX1_value_20 (by decide) ?_
    dsimp only [zset, zclr, znone]
    have L21 : ∀ (nn : Nat) (x2 x3 : Int) (G1 : zH), (0 ≤ x2 ∧ x2 ≤ 64) → (0 ≤ x3 ∧ x3 ≤ 64) → (zsm [] G G1) → (64 - x3).toNat < nn → Z p l e (zrm 1) s m args below meth c Γ 8 0 0 (MQ below (zQc Γ (zpj (fun x G' => zsm [] G G' ∧ True))) args s 0 0 (zA Γ)) 21 [some (zr 2 w), some (zi k), some (zi x2), some (zi x3), none, none, none, none] [] G1 := by
      intro nn
      induction nn with
      | zero => intro x2 x3 G1 h21_0 h21_1 h21_2 hm; exact absurd hm (Nat.not_lt_zero _)
      | succ nn ih21 =>
        intro x2 x3 G1 h21_0 h21_1 h21_2 hm21
        refine zs_iload_n (pc := 21) C dX1_value_21 rfl ?_
        refine zs_aload_n (pc := 22) C dX1_value_22 rfl ?_
        refine zs_getf (pc := 23) C dX1_value_23 w_X1_21 f_2_3 (by decide) ?_
        refine zs_iload_n (pc := 26) C dX1_value_26 rfl ?_
        refine zs_iald (r := 2017) (pc := 27) C dX1_value_27 a_17 (by decide) (by omega) rfl (r_2017 _) (fun v27 e27 l27 u27 => ?_)
        refine zs_icmp_ge (tgt := 215) (pc := 28) C dX1_value_28 (by decide) (fun h28 => ?_) (fun h28 => ?_)
        · skip
          refine zs_aload_n (pc := 215) C dX1_value_215 rfl ?_
          refine zs_getf (pc := 216) C dX1_value_216 w_X1_28 f_2_5 (by decide) ?_
          refine zs_iconst (pc := 219) C dX1_value_219 (by decide) ?_
          refine zs_lald (r := 2019) (pc := 220) C dX1_value_220 a_19 (by decide) (by omega) rfl (fun v220 e220 l220 u220 => ?_)
          exact zs_lret (pc := 221) C hr hlk dX1_value_221 ⟨by repeat (first | exact zsm_rf | assumption | refine zsm_C (by decide) ?_ | refine zsm_I (by decide) ?_ | refine zsm_J ?_ | refine zsm_c (by assumption) (by decide) ?_), trivial⟩
        · skip
          refine zs_iload_n (pc := 31) C dX1_value_31 rfl ?_
          refine zs_bipush (pc := 32) C dX1_value_32 (by decide) (by decide) ?_
          refine zs_icmp_ge (tgt := 215) (pc := 34) C dX1_value_34 (by decide) (fun h34 => ?_) (fun h34 => ?_)
          · skip
            refine zs_aload_n (pc := 215) C dX1_value_215 rfl ?_
            refine zs_getf (pc := 216) C dX1_value_216 w_X1_28 f_2_5 (by decide) ?_
            refine zs_iconst (pc := 219) C dX1_value_219 (by decide) ?_
            refine zs_lald (r := 2019) (pc := 220) C dX1_value_220 a_19 (by decide) (by omega) rfl (fun v220 e220 l220 u220 => ?_)
            exact zs_lret (pc := 221) C hr hlk dX1_value_221 ⟨by repeat (first | exact zsm_rf | assumption | refine zsm_C (by decide) ?_ | refine zsm_I (by decide) ?_ | refine zsm_J ?_ | refine zsm_c (by assumption) (by decide) ?_), trivial⟩
          · skip
            refine zs_aload_n (pc := 37) C dX1_value_37 rfl ?_
            refine zs_getf (pc := 38) C dX1_value_38 w_X1_11 f_2_0 (by decide) ?_
            refine zs_iload_n (pc := 41) C dX1_value_41 rfl ?_
            refine zs_iald (r := 2014) (pc := 42) C dX1_value_42 a_14 (by decide) (by omega) rfl (r_2014 _) (fun v42 e42 l42 u42 => ?_)
            refine zs_istore (pc := 43) C dX1_value_43 (by decide) ?_
            dsimp only [zset, zclr, znone]
            refine zs_aload_n (pc := 45) C dX1_value_45 rfl ?_
            refine zs_getf (pc := 46) C dX1_value_46 w_X1_15 f_2_1 (by decide) ?_
            refine zs_iload_n (pc := 49) C dX1_value_49 rfl ?_
            refine zs_iald (r := 2015) (pc := 50) C dX1_value_50 a_15 (by decide) (by omega) rfl (r_2015 _) (fun v50 e50 l50 u50 => ?_)
            refine zs_istore (pc := 51) C dX1_value_51 (by decide) ?_
            dsimp only [zset, zclr, znone]
            refine zs_iload (pc := 53) C dX1_value_53 rfl ?_
            refine zs_iconst (pc := 55) C dX1_value_55 (by decide) ?_
            refine zs_icmp_gt (tgt := 108) (pc := 56) C dX1_value_56 (by decide) (fun h56 => ?_) (fun h56 => ?_)
            · skip
              refine zs_iload (pc := 108) C dX1_value_108 rfl ?_
              refine zs_iconst (pc := 110) C dX1_value_110 (by decide) ?_
              refine zs_icmp_ne (tgt := 148) (pc := 111) C dX1_value_111 (by decide) (fun h111 => ?_) (fun h111 => ?_)
              · skip
                refine zs_iload_n (pc := 148) C dX1_value_148 rfl ?_
                refine zs_iconst (pc := 149) C dX1_value_149 (by decide) ?_
                refine zs_icmp_lt (tgt := 209) (pc := 150) C dX1_value_150 (by decide) (fun h150 => ?_) (fun h150 => ?_)
                · skip
                  first | refine zs_iinc (pc := 209) C dX1_value_209 rfl (by decide) (by omega) ?_ | refine zs_iincF (pc := 209) C dX1_value_209 rfl (by decide) (fun z209 hz2091 hz2092 => ?_)
                  dsimp only [zset, zclr, znone]
                  refine zs_goto (tgt := 21) (pc := 212) C dX1_value_212 (by decide) ?_
                  exact zs_wk (ih21 _ _ _ (by first | omega | (simp only [zuI_1, zuI_2, zuJ_1, zuJ_2, zuJ_3, zuP_1, zuP_2, zuP_3, zuC_1, zuC_2, reduceIte, Nat.reduceEqDiff, false_and, and_false, true_and, and_true, and_self, or_true, true_or, or_false, false_or]; omega)) (by first | omega | (simp only [zuI_1, zuI_2, zuJ_1, zuJ_2, zuJ_3, zuP_1, zuP_2, zuP_3, zuC_1, zuC_2, reduceIte, Nat.reduceEqDiff, false_and, and_false, true_and, and_true, and_self, or_true, true_or, or_false, false_or]; omega)) (by repeat (first | exact zsm_rf | assumption | refine zsm_C (by decide) ?_ | refine zsm_I (by decide) ?_ | refine zsm_J ?_ | refine zsm_c (by assumption) (by decide) ?_)) (by first | omega | (simp only [zuI_1, zuI_2, zuJ_1, zuJ_2, zuJ_3, zuP_1, zuP_2, zuP_3, zuC_1, zuC_2, reduceIte, Nat.reduceEqDiff, false_and, and_false, true_and, and_true, and_self, or_true, true_or, or_false, false_or]; omega))) (zwk_s rfl (zwk_s rfl (zwk_s rfl (zwk_s rfl (zwk_n (zwk_n (zwk_n (zwk_n zwk_0))))))))
                · skip
                  first | refine zs_iinc (pc := 153) C dX1_value_153 rfl (by decide) (by omega) ?_ | refine zs_iincF (pc := 153) C dX1_value_153 rfl (by decide) (fun z153 hz1531 hz1532 => ?_)
                  dsimp only [zset, zclr, znone]
                  refine zs_iload (pc := 156) C dX1_value_156 rfl ?_
                  refine zs_aload_n (pc := 158) C dX1_value_158 rfl ?_
                  refine zs_getf (pc := 159) C dX1_value_159 w_X1_28 f_2_5 (by decide) ?_
                  refine zs_iload_n (pc := 162) C dX1_value_162 rfl ?_
                  refine zs_iconst (pc := 163) C dX1_value_163 (by decide) ?_
                  first | refine zs_isub (pc := 164) C dX1_value_164 (by omega) ?_ | refine zs_isubF (pc := 164) C dX1_value_164 (fun z164 hz1641 hz1642 => ?_)
                  refine zs_lald (r := 2019) (pc := 165) C dX1_value_165 a_19 (by decide) (by omega) rfl (fun v165 e165 l165 u165 => ?_)
                  refine zs_aload_n (pc := 166) C dX1_value_166 rfl ?_
                  refine zs_getf (pc := 167) C dX1_value_167 w_X1_28 f_2_5 (by decide) ?_
                  refine zs_iload_n (pc := 170) C dX1_value_170 rfl ?_
                  refine zs_lald (r := 2019) (pc := 171) C dX1_value_171 a_19 (by decide) (by omega) rfl (fun v171 e171 l171 u171 => ?_)
                  refine zSjp3 (pc := 172) C dX1_value_172 s_X1_50 (c_X1_join hX ) (by decide) ⟨Nat.zero_le _, Nat.zero_le _⟩ (Nat.le_of_ble_eq_true rfl) (fun x172 l172 u172 hp172 => ?_)
                  have hq172 := hp172
                  refine zs_lstore (pc := 175) C dX1_value_175 (by decide) ?_
                  dsimp only [zset, zclr, znone]
                  refine zs_lload (pc := 177) C dX1_value_177 rfl ?_
                  refine zs_ldc2 (n := 1000000000000) (pc := 179) C dX1_value_179 q_X1_54 (by decide) (by decide) ?_
                  refine zs_lcmp (pc := 182) C dX1_value_182 (fun z182 hz182 => ?_)
                  refine zs_if_gt (tgt := 195) (pc := 183) C dX1_value_183 (by decide) (fun h183 => ?_) (fun h183 => ?_)
                  · skip
                    refine zs_ldc2 (n := -9223372036854775808) (pc := 195) C dX1_value_195 q_X1_48 (by decide) (by decide) ?_
                    exact zs_lret (pc := 198) C hr hlk dX1_value_198 ⟨by repeat (first | exact zsm_rf | assumption | refine zsm_C (by decide) ?_ | refine zsm_I (by decide) ?_ | refine zsm_J ?_ | refine zsm_c (by assumption) (by decide) ?_), trivial⟩
                  · skip
                    refine zs_lload (pc := 186) C dX1_value_186 rfl ?_
                    refine zs_ldc2 (n := -1000000000000) (pc := 188) C dX1_value_188 q_X1_56 (by decide) (by decide) ?_
                    refine zs_lcmp (pc := 191) C dX1_value_191 (fun z191 hz191 => ?_)
                    refine zs_if_ge (tgt := 199) (pc := 192) C dX1_value_192 (by decide) (fun h192 => ?_) (fun h192 => ?_)
                    · skip
                      refine zs_aload_n (pc := 199) C dX1_value_199 rfl ?_
                      refine zs_getf (pc := 200) C dX1_value_200 w_X1_28 f_2_5 (by decide) ?_
                      refine zs_iload_n (pc := 203) C dX1_value_203 rfl ?_
                      refine zs_iconst (pc := 204) C dX1_value_204 (by decide) ?_
                      first | refine zs_isub (pc := 205) C dX1_value_205 (by omega) ?_ | refine zs_isubF (pc := 205) C dX1_value_205 (fun z205 hz2051 hz2052 => ?_)
                      refine zs_lload (pc := 206) C dX1_value_206 rfl ?_
                      refine zs_last (r := 2019) (pc := 208) C dX1_value_208 a_19 (by decide) (by omega) rfl ?_
                      first | refine zs_iinc (pc := 209) C dX1_value_209 rfl (by decide) (by omega) ?_ | refine zs_iincF (pc := 209) C dX1_value_209 rfl (by decide) (fun z209 hz2091 hz2092 => ?_)
                      dsimp only [zset, zclr, znone]
                      refine zs_goto (tgt := 21) (pc := 212) C dX1_value_212 (by decide) ?_
                      exact zs_wk (ih21 _ _ _ (by first | omega | (simp only [zuI_1, zuI_2, zuJ_1, zuJ_2, zuJ_3, zuP_1, zuP_2, zuP_3, zuC_1, zuC_2, reduceIte, Nat.reduceEqDiff, false_and, and_false, true_and, and_true, and_self, or_true, true_or, or_false, false_or]; omega)) (by first | omega | (simp only [zuI_1, zuI_2, zuJ_1, zuJ_2, zuJ_3, zuP_1, zuP_2, zuP_3, zuC_1, zuC_2, reduceIte, Nat.reduceEqDiff, false_and, and_false, true_and, and_true, and_self, or_true, true_or, or_false, false_or]; omega)) (by repeat (first | exact zsm_rf | assumption | refine zsm_C (by decide) ?_ | refine zsm_I (by decide) ?_ | refine zsm_J ?_ | refine zsm_c (by assumption) (by decide) ?_)) (by first | omega | (simp only [zuI_1, zuI_2, zuJ_1, zuJ_2, zuJ_3, zuP_1, zuP_2, zuP_3, zuC_1, zuC_2, reduceIte, Nat.reduceEqDiff, false_and, and_false, true_and, and_true, and_self, or_true, true_or, or_false, false_or]; omega))) (zwk_s rfl (zwk_s rfl (zwk_s rfl (zwk_s rfl (zwk_n (zwk_n (zwk_n (zwk_n zwk_0))))))))
                    · skip
                      refine zs_ldc2 (n := -9223372036854775808) (pc := 195) C dX1_value_195 q_X1_48 (by decide) (by decide) ?_
                      exact zs_lret (pc := 198) C hr hlk dX1_value_198 ⟨by repeat (first | exact zsm_rf | assumption | refine zsm_C (by decide) ?_ | refine zsm_I (by decide) ?_ | refine zsm_J ?_ | refine zsm_c (by assumption) (by decide) ?_), trivial⟩
              · skip
                refine zs_iload_n (pc := 114) C dX1_value_114 rfl ?_
                refine zs_iconst (pc := 115) C dX1_value_115 (by decide) ?_
                refine zs_icmp_lt (tgt := 148) (pc := 116) C dX1_value_116 (by decide) (fun h116 => ?_) (fun h116 => ?_)
                · skip
                  refine zs_iload_n (pc := 148) C dX1_value_148 rfl ?_
                  refine zs_iconst (pc := 149) C dX1_value_149 (by decide) ?_
                  refine zs_icmp_lt (tgt := 209) (pc := 150) C dX1_value_150 (by decide) (fun h150 => ?_) (fun h150 => ?_)
                  · skip
                    first | refine zs_iinc (pc := 209) C dX1_value_209 rfl (by decide) (by omega) ?_ | refine zs_iincF (pc := 209) C dX1_value_209 rfl (by decide) (fun z209 hz2091 hz2092 => ?_)
                    dsimp only [zset, zclr, znone]
                    refine zs_goto (tgt := 21) (pc := 212) C dX1_value_212 (by decide) ?_
                    exact zs_wk (ih21 _ _ _ (by first | omega | (simp only [zuI_1, zuI_2, zuJ_1, zuJ_2, zuJ_3, zuP_1, zuP_2, zuP_3, zuC_1, zuC_2, reduceIte, Nat.reduceEqDiff, false_and, and_false, true_and, and_true, and_self, or_true, true_or, or_false, false_or]; omega)) (by first | omega | (simp only [zuI_1, zuI_2, zuJ_1, zuJ_2, zuJ_3, zuP_1, zuP_2, zuP_3, zuC_1, zuC_2, reduceIte, Nat.reduceEqDiff, false_and, and_false, true_and, and_true, and_self, or_true, true_or, or_false, false_or]; omega)) (by repeat (first | exact zsm_rf | assumption | refine zsm_C (by decide) ?_ | refine zsm_I (by decide) ?_ | refine zsm_J ?_ | refine zsm_c (by assumption) (by decide) ?_)) (by first | omega | (simp only [zuI_1, zuI_2, zuJ_1, zuJ_2, zuJ_3, zuP_1, zuP_2, zuP_3, zuC_1, zuC_2, reduceIte, Nat.reduceEqDiff, false_and, and_false, true_and, and_true, and_self, or_true, true_or, or_false, false_or]; omega))) (zwk_s rfl (zwk_s rfl (zwk_s rfl (zwk_s rfl (zwk_n (zwk_n (zwk_n (zwk_n zwk_0))))))))
                  · skip
                    first | refine zs_iinc (pc := 153) C dX1_value_153 rfl (by decide) (by omega) ?_ | refine zs_iincF (pc := 153) C dX1_value_153 rfl (by decide) (fun z153 hz1531 hz1532 => ?_)
                    dsimp only [zset, zclr, znone]
                    refine zs_iload (pc := 156) C dX1_value_156 rfl ?_
                    refine zs_aload_n (pc := 158) C dX1_value_158 rfl ?_
                    refine zs_getf (pc := 159) C dX1_value_159 w_X1_28 f_2_5 (by decide) ?_
                    refine zs_iload_n (pc := 162) C dX1_value_162 rfl ?_
                    refine zs_iconst (pc := 163) C dX1_value_163 (by decide) ?_
                    first | refine zs_isub (pc := 164) C dX1_value_164 (by omega) ?_ | refine zs_isubF (pc := 164) C dX1_value_164 (fun z164 hz1641 hz1642 => ?_)
                    refine zs_lald (r := 2019) (pc := 165) C dX1_value_165 a_19 (by decide) (by omega) rfl (fun v165 e165 l165 u165 => ?_)
                    refine zs_aload_n (pc := 166) C dX1_value_166 rfl ?_
                    refine zs_getf (pc := 167) C dX1_value_167 w_X1_28 f_2_5 (by decide) ?_
                    refine zs_iload_n (pc := 170) C dX1_value_170 rfl ?_
                    refine zs_lald (r := 2019) (pc := 171) C dX1_value_171 a_19 (by decide) (by omega) rfl (fun v171 e171 l171 u171 => ?_)
                    refine zSjp3 (pc := 172) C dX1_value_172 s_X1_50 (c_X1_join hX ) (by decide) ⟨Nat.zero_le _, Nat.zero_le _⟩ (Nat.le_of_ble_eq_true rfl) (fun x172 l172 u172 hp172 => ?_)
                    have hq172 := hp172
                    refine zs_lstore (pc := 175) C dX1_value_175 (by decide) ?_
                    dsimp only [zset, zclr, znone]
                    refine zs_lload (pc := 177) C dX1_value_177 rfl ?_
                    refine zs_ldc2 (n := 1000000000000) (pc := 179) C dX1_value_179 q_X1_54 (by decide) (by decide) ?_
                    refine zs_lcmp (pc := 182) C dX1_value_182 (fun z182 hz182 => ?_)
                    refine zs_if_gt (tgt := 195) (pc := 183) C dX1_value_183 (by decide) (fun h183 => ?_) (fun h183 => ?_)
                    · skip
                      refine zs_ldc2 (n := -9223372036854775808) (pc := 195) C dX1_value_195 q_X1_48 (by decide) (by decide) ?_
                      exact zs_lret (pc := 198) C hr hlk dX1_value_198 ⟨by repeat (first | exact zsm_rf | assumption | refine zsm_C (by decide) ?_ | refine zsm_I (by decide) ?_ | refine zsm_J ?_ | refine zsm_c (by assumption) (by decide) ?_), trivial⟩
                    · skip
                      refine zs_lload (pc := 186) C dX1_value_186 rfl ?_
                      refine zs_ldc2 (n := -1000000000000) (pc := 188) C dX1_value_188 q_X1_56 (by decide) (by decide) ?_
                      refine zs_lcmp (pc := 191) C dX1_value_191 (fun z191 hz191 => ?_)
                      refine zs_if_ge (tgt := 199) (pc := 192) C dX1_value_192 (by decide) (fun h192 => ?_) (fun h192 => ?_)
                      · skip
                        refine zs_aload_n (pc := 199) C dX1_value_199 rfl ?_
                        refine zs_getf (pc := 200) C dX1_value_200 w_X1_28 f_2_5 (by decide) ?_
                        refine zs_iload_n (pc := 203) C dX1_value_203 rfl ?_
                        refine zs_iconst (pc := 204) C dX1_value_204 (by decide) ?_
                        first | refine zs_isub (pc := 205) C dX1_value_205 (by omega) ?_ | refine zs_isubF (pc := 205) C dX1_value_205 (fun z205 hz2051 hz2052 => ?_)
                        refine zs_lload (pc := 206) C dX1_value_206 rfl ?_
                        refine zs_last (r := 2019) (pc := 208) C dX1_value_208 a_19 (by decide) (by omega) rfl ?_
                        first | refine zs_iinc (pc := 209) C dX1_value_209 rfl (by decide) (by omega) ?_ | refine zs_iincF (pc := 209) C dX1_value_209 rfl (by decide) (fun z209 hz2091 hz2092 => ?_)
                        dsimp only [zset, zclr, znone]
                        refine zs_goto (tgt := 21) (pc := 212) C dX1_value_212 (by decide) ?_
                        exact zs_wk (ih21 _ _ _ (by first | omega | (simp only [zuI_1, zuI_2, zuJ_1, zuJ_2, zuJ_3, zuP_1, zuP_2, zuP_3, zuC_1, zuC_2, reduceIte, Nat.reduceEqDiff, false_and, and_false, true_and, and_true, and_self, or_true, true_or, or_false, false_or]; omega)) (by first | omega | (simp only [zuI_1, zuI_2, zuJ_1, zuJ_2, zuJ_3, zuP_1, zuP_2, zuP_3, zuC_1, zuC_2, reduceIte, Nat.reduceEqDiff, false_and, and_false, true_and, and_true, and_self, or_true, true_or, or_false, false_or]; omega)) (by repeat (first | exact zsm_rf | assumption | refine zsm_C (by decide) ?_ | refine zsm_I (by decide) ?_ | refine zsm_J ?_ | refine zsm_c (by assumption) (by decide) ?_)) (by first | omega | (simp only [zuI_1, zuI_2, zuJ_1, zuJ_2, zuJ_3, zuP_1, zuP_2, zuP_3, zuC_1, zuC_2, reduceIte, Nat.reduceEqDiff, false_and, and_false, true_and, and_true, and_self, or_true, true_or, or_false, false_or]; omega))) (zwk_s rfl (zwk_s rfl (zwk_s rfl (zwk_s rfl (zwk_n (zwk_n (zwk_n (zwk_n zwk_0))))))))
                      · skip
                        refine zs_ldc2 (n := -9223372036854775808) (pc := 195) C dX1_value_195 q_X1_48 (by decide) (by decide) ?_
                        exact zs_lret (pc := 198) C hr hlk dX1_value_198 ⟨by repeat (first | exact zsm_rf | assumption | refine zsm_C (by decide) ?_ | refine zsm_I (by decide) ?_ | refine zsm_J ?_ | refine zsm_c (by assumption) (by decide) ?_), trivial⟩
                · skip
                  refine zs_aload_n (pc := 119) C dX1_value_119 rfl ?_
                  refine zs_getf (pc := 120) C dX1_value_120 w_X1_28 f_2_5 (by decide) ?_
                  refine zs_iload_n (pc := 123) C dX1_value_123 rfl ?_
                  refine zs_iconst (pc := 124) C dX1_value_124 (by decide) ?_
                  first | refine zs_isub (pc := 125) C dX1_value_125 (by omega) ?_ | refine zs_isubF (pc := 125) C dX1_value_125 (fun z125 hz1251 hz1252 => ?_)
                  refine zs_aload_n (pc := 126) C dX1_value_126 rfl ?_
                  refine zs_getf (pc := 127) C dX1_value_127 w_X1_28 f_2_5 (by decide) ?_
                  refine zs_iload_n (pc := 130) C dX1_value_130 rfl ?_
                  refine zs_iconst (pc := 131) C dX1_value_131 (by decide) ?_
                  first | refine zs_isub (pc := 132) C dX1_value_132 (by omega) ?_ | refine zs_isubF (pc := 132) C dX1_value_132 (fun z132 hz1321 hz1322 => ?_)
                  refine zs_lald (r := 2019) (pc := 133) C dX1_value_133 a_19 (by decide) (by omega) rfl (fun v133 e133 l133 u133 => ?_)
                  refine zs_lconst (n := 0) (pc := 134) C dX1_value_134 rfl (by decide) ?_
                  refine zs_lcmp (pc := 135) C dX1_value_135 (fun z135 hz135 => ?_)
                  refine zs_if_ne (tgt := 143) (pc := 136) C dX1_value_136 (by decide) (fun h136 => ?_) (fun h136 => ?_)
                  · skip
                    refine zs_lconst (n := 0) (pc := 143) C dX1_value_143 rfl (by decide) ?_
                    refine zs_last (r := 2019) (pc := 144) C dX1_value_144 a_19 (by decide) (by omega) rfl ?_
                    refine zs_goto (tgt := 209) (pc := 145) C dX1_value_145 (by decide) ?_
                    first | refine zs_iinc (pc := 209) C dX1_value_209 rfl (by decide) (by omega) ?_ | refine zs_iincF (pc := 209) C dX1_value_209 rfl (by decide) (fun z209 hz2091 hz2092 => ?_)
                    dsimp only [zset, zclr, znone]
                    refine zs_goto (tgt := 21) (pc := 212) C dX1_value_212 (by decide) ?_
                    exact zs_wk (ih21 _ _ _ (by first | omega | (simp only [zuI_1, zuI_2, zuJ_1, zuJ_2, zuJ_3, zuP_1, zuP_2, zuP_3, zuC_1, zuC_2, reduceIte, Nat.reduceEqDiff, false_and, and_false, true_and, and_true, and_self, or_true, true_or, or_false, false_or]; omega)) (by first | omega | (simp only [zuI_1, zuI_2, zuJ_1, zuJ_2, zuJ_3, zuP_1, zuP_2, zuP_3, zuC_1, zuC_2, reduceIte, Nat.reduceEqDiff, false_and, and_false, true_and, and_true, and_self, or_true, true_or, or_false, false_or]; omega)) (by repeat (first | exact zsm_rf | assumption | refine zsm_C (by decide) ?_ | refine zsm_I (by decide) ?_ | refine zsm_J ?_ | refine zsm_c (by assumption) (by decide) ?_)) (by first | omega | (simp only [zuI_1, zuI_2, zuJ_1, zuJ_2, zuJ_3, zuP_1, zuP_2, zuP_3, zuC_1, zuC_2, reduceIte, Nat.reduceEqDiff, false_and, and_false, true_and, and_true, and_self, or_true, true_or, or_false, false_or]; omega))) (zwk_s rfl (zwk_s rfl (zwk_s rfl (zwk_s rfl (zwk_n (zwk_n (zwk_n (zwk_n zwk_0))))))))
                  · skip
                    refine zs_lconst (n := 1) (pc := 139) C dX1_value_139 rfl (by decide) ?_
                    refine zs_goto (tgt := 144) (pc := 140) C dX1_value_140 (by decide) ?_
                    refine zs_last (r := 2019) (pc := 144) C dX1_value_144 a_19 (by decide) (by omega) rfl ?_
                    refine zs_goto (tgt := 209) (pc := 145) C dX1_value_145 (by decide) ?_
                    first | refine zs_iinc (pc := 209) C dX1_value_209 rfl (by decide) (by omega) ?_ | refine zs_iincF (pc := 209) C dX1_value_209 rfl (by decide) (fun z209 hz2091 hz2092 => ?_)
                    dsimp only [zset, zclr, znone]
                    refine zs_goto (tgt := 21) (pc := 212) C dX1_value_212 (by decide) ?_
                    exact zs_wk (ih21 _ _ _ (by first | omega | (simp only [zuI_1, zuI_2, zuJ_1, zuJ_2, zuJ_3, zuP_1, zuP_2, zuP_3, zuC_1, zuC_2, reduceIte, Nat.reduceEqDiff, false_and, and_false, true_and, and_true, and_self, or_true, true_or, or_false, false_or]; omega)) (by first | omega | (simp only [zuI_1, zuI_2, zuJ_1, zuJ_2, zuJ_3, zuP_1, zuP_2, zuP_3, zuC_1, zuC_2, reduceIte, Nat.reduceEqDiff, false_and, and_false, true_and, and_true, and_self, or_true, true_or, or_false, false_or]; omega)) (by repeat (first | exact zsm_rf | assumption | refine zsm_C (by decide) ?_ | refine zsm_I (by decide) ?_ | refine zsm_J ?_ | refine zsm_c (by assumption) (by decide) ?_)) (by first | omega | (simp only [zuI_1, zuI_2, zuJ_1, zuJ_2, zuJ_3, zuP_1, zuP_2, zuP_3, zuC_1, zuC_2, reduceIte, Nat.reduceEqDiff, false_and, and_false, true_and, and_true, and_self, or_true, true_or, or_false, false_or]; omega))) (zwk_s rfl (zwk_s rfl (zwk_s rfl (zwk_s rfl (zwk_n (zwk_n (zwk_n (zwk_n zwk_0))))))))
            · skip
              refine zs_iload_n (pc := 59) C dX1_value_59 rfl ?_
              refine zs_bipush (pc := 60) C dX1_value_60 (by decide) (by decide) ?_
              refine zs_icmp_ge (tgt := 108) (pc := 62) C dX1_value_62 (by decide) (fun h62 => ?_) (fun h62 => ?_)
              · skip
                refine zs_iload (pc := 108) C dX1_value_108 rfl ?_
                refine zs_iconst (pc := 110) C dX1_value_110 (by decide) ?_
                refine zs_icmp_ne (tgt := 148) (pc := 111) C dX1_value_111 (by decide) (fun h111 => ?_) (fun h111 => ?_)
                · skip
                  refine zs_iload_n (pc := 148) C dX1_value_148 rfl ?_
                  refine zs_iconst (pc := 149) C dX1_value_149 (by decide) ?_
                  refine zs_icmp_lt (tgt := 209) (pc := 150) C dX1_value_150 (by decide) (fun h150 => ?_) (fun h150 => ?_)
                  · skip
                    first | refine zs_iinc (pc := 209) C dX1_value_209 rfl (by decide) (by omega) ?_ | refine zs_iincF (pc := 209) C dX1_value_209 rfl (by decide) (fun z209 hz2091 hz2092 => ?_)
                    dsimp only [zset, zclr, znone]
                    refine zs_goto (tgt := 21) (pc := 212) C dX1_value_212 (by decide) ?_
                    exact zs_wk (ih21 _ _ _ (by first | omega | (simp only [zuI_1, zuI_2, zuJ_1, zuJ_2, zuJ_3, zuP_1, zuP_2, zuP_3, zuC_1, zuC_2, reduceIte, Nat.reduceEqDiff, false_and, and_false, true_and, and_true, and_self, or_true, true_or, or_false, false_or]; omega)) (by first | omega | (simp only [zuI_1, zuI_2, zuJ_1, zuJ_2, zuJ_3, zuP_1, zuP_2, zuP_3, zuC_1, zuC_2, reduceIte, Nat.reduceEqDiff, false_and, and_false, true_and, and_true, and_self, or_true, true_or, or_false, false_or]; omega)) (by repeat (first | exact zsm_rf | assumption | refine zsm_C (by decide) ?_ | refine zsm_I (by decide) ?_ | refine zsm_J ?_ | refine zsm_c (by assumption) (by decide) ?_)) (by first | omega | (simp only [zuI_1, zuI_2, zuJ_1, zuJ_2, zuJ_3, zuP_1, zuP_2, zuP_3, zuC_1, zuC_2, reduceIte, Nat.reduceEqDiff, false_and, and_false, true_and, and_true, and_self, or_true, true_or, or_false, false_or]; omega))) (zwk_s rfl (zwk_s rfl (zwk_s rfl (zwk_s rfl (zwk_n (zwk_n (zwk_n (zwk_n zwk_0))))))))
                  · skip
                    first | refine zs_iinc (pc := 153) C dX1_value_153 rfl (by decide) (by omega) ?_ | refine zs_iincF (pc := 153) C dX1_value_153 rfl (by decide) (fun z153 hz1531 hz1532 => ?_)
                    dsimp only [zset, zclr, znone]
                    refine zs_iload (pc := 156) C dX1_value_156 rfl ?_
                    refine zs_aload_n (pc := 158) C dX1_value_158 rfl ?_
                    refine zs_getf (pc := 159) C dX1_value_159 w_X1_28 f_2_5 (by decide) ?_
                    refine zs_iload_n (pc := 162) C dX1_value_162 rfl ?_
                    refine zs_iconst (pc := 163) C dX1_value_163 (by decide) ?_
                    first | refine zs_isub (pc := 164) C dX1_value_164 (by omega) ?_ | refine zs_isubF (pc := 164) C dX1_value_164 (fun z164 hz1641 hz1642 => ?_)
                    refine zs_lald (r := 2019) (pc := 165) C dX1_value_165 a_19 (by decide) (by omega) rfl (fun v165 e165 l165 u165 => ?_)
                    refine zs_aload_n (pc := 166) C dX1_value_166 rfl ?_
                    refine zs_getf (pc := 167) C dX1_value_167 w_X1_28 f_2_5 (by decide) ?_
                    refine zs_iload_n (pc := 170) C dX1_value_170 rfl ?_
                    refine zs_lald (r := 2019) (pc := 171) C dX1_value_171 a_19 (by decide) (by omega) rfl (fun v171 e171 l171 u171 => ?_)
                    refine zSjp3 (pc := 172) C dX1_value_172 s_X1_50 (c_X1_join hX ) (by decide) ⟨Nat.zero_le _, Nat.zero_le _⟩ (Nat.le_of_ble_eq_true rfl) (fun x172 l172 u172 hp172 => ?_)
                    have hq172 := hp172
                    refine zs_lstore (pc := 175) C dX1_value_175 (by decide) ?_
                    dsimp only [zset, zclr, znone]
                    refine zs_lload (pc := 177) C dX1_value_177 rfl ?_
                    refine zs_ldc2 (n := 1000000000000) (pc := 179) C dX1_value_179 q_X1_54 (by decide) (by decide) ?_
                    refine zs_lcmp (pc := 182) C dX1_value_182 (fun z182 hz182 => ?_)
                    refine zs_if_gt (tgt := 195) (pc := 183) C dX1_value_183 (by decide) (fun h183 => ?_) (fun h183 => ?_)
                    · skip
                      refine zs_ldc2 (n := -9223372036854775808) (pc := 195) C dX1_value_195 q_X1_48 (by decide) (by decide) ?_
                      exact zs_lret (pc := 198) C hr hlk dX1_value_198 ⟨by repeat (first | exact zsm_rf | assumption | refine zsm_C (by decide) ?_ | refine zsm_I (by decide) ?_ | refine zsm_J ?_ | refine zsm_c (by assumption) (by decide) ?_), trivial⟩
                    · skip
                      refine zs_lload (pc := 186) C dX1_value_186 rfl ?_
                      refine zs_ldc2 (n := -1000000000000) (pc := 188) C dX1_value_188 q_X1_56 (by decide) (by decide) ?_
                      refine zs_lcmp (pc := 191) C dX1_value_191 (fun z191 hz191 => ?_)
                      refine zs_if_ge (tgt := 199) (pc := 192) C dX1_value_192 (by decide) (fun h192 => ?_) (fun h192 => ?_)
                      · skip
                        refine zs_aload_n (pc := 199) C dX1_value_199 rfl ?_
                        refine zs_getf (pc := 200) C dX1_value_200 w_X1_28 f_2_5 (by decide) ?_
                        refine zs_iload_n (pc := 203) C dX1_value_203 rfl ?_
                        refine zs_iconst (pc := 204) C dX1_value_204 (by decide) ?_
                        first | refine zs_isub (pc := 205) C dX1_value_205 (by omega) ?_ | refine zs_isubF (pc := 205) C dX1_value_205 (fun z205 hz2051 hz2052 => ?_)
                        refine zs_lload (pc := 206) C dX1_value_206 rfl ?_
                        refine zs_last (r := 2019) (pc := 208) C dX1_value_208 a_19 (by decide) (by omega) rfl ?_
                        first | refine zs_iinc (pc := 209) C dX1_value_209 rfl (by decide) (by omega) ?_ | refine zs_iincF (pc := 209) C dX1_value_209 rfl (by decide) (fun z209 hz2091 hz2092 => ?_)
                        dsimp only [zset, zclr, znone]
                        refine zs_goto (tgt := 21) (pc := 212) C dX1_value_212 (by decide) ?_
                        exact zs_wk (ih21 _ _ _ (by first | omega | (simp only [zuI_1, zuI_2, zuJ_1, zuJ_2, zuJ_3, zuP_1, zuP_2, zuP_3, zuC_1, zuC_2, reduceIte, Nat.reduceEqDiff, false_and, and_false, true_and, and_true, and_self, or_true, true_or, or_false, false_or]; omega)) (by first | omega | (simp only [zuI_1, zuI_2, zuJ_1, zuJ_2, zuJ_3, zuP_1, zuP_2, zuP_3, zuC_1, zuC_2, reduceIte, Nat.reduceEqDiff, false_and, and_false, true_and, and_true, and_self, or_true, true_or, or_false, false_or]; omega)) (by repeat (first | exact zsm_rf | assumption | refine zsm_C (by decide) ?_ | refine zsm_I (by decide) ?_ | refine zsm_J ?_ | refine zsm_c (by assumption) (by decide) ?_)) (by first | omega | (simp only [zuI_1, zuI_2, zuJ_1, zuJ_2, zuJ_3, zuP_1, zuP_2, zuP_3, zuC_1, zuC_2, reduceIte, Nat.reduceEqDiff, false_and, and_false, true_and, and_true, and_self, or_true, true_or, or_false, false_or]; omega))) (zwk_s rfl (zwk_s rfl (zwk_s rfl (zwk_s rfl (zwk_n (zwk_n (zwk_n (zwk_n zwk_0))))))))
                      · skip
                        refine zs_ldc2 (n := -9223372036854775808) (pc := 195) C dX1_value_195 q_X1_48 (by decide) (by decide) ?_
                        exact zs_lret (pc := 198) C hr hlk dX1_value_198 ⟨by repeat (first | exact zsm_rf | assumption | refine zsm_C (by decide) ?_ | refine zsm_I (by decide) ?_ | refine zsm_J ?_ | refine zsm_c (by assumption) (by decide) ?_), trivial⟩
                · skip
                  refine zs_iload_n (pc := 114) C dX1_value_114 rfl ?_
                  refine zs_iconst (pc := 115) C dX1_value_115 (by decide) ?_
                  refine zs_icmp_lt (tgt := 148) (pc := 116) C dX1_value_116 (by decide) (fun h116 => ?_) (fun h116 => ?_)
                  · skip
                    refine zs_iload_n (pc := 148) C dX1_value_148 rfl ?_
                    refine zs_iconst (pc := 149) C dX1_value_149 (by decide) ?_
                    refine zs_icmp_lt (tgt := 209) (pc := 150) C dX1_value_150 (by decide) (fun h150 => ?_) (fun h150 => ?_)
                    · skip
                      first | refine zs_iinc (pc := 209) C dX1_value_209 rfl (by decide) (by omega) ?_ | refine zs_iincF (pc := 209) C dX1_value_209 rfl (by decide) (fun z209 hz2091 hz2092 => ?_)
                      dsimp only [zset, zclr, znone]
                      refine zs_goto (tgt := 21) (pc := 212) C dX1_value_212 (by decide) ?_
                      exact zs_wk (ih21 _ _ _ (by first | omega | (simp only [zuI_1, zuI_2, zuJ_1, zuJ_2, zuJ_3, zuP_1, zuP_2, zuP_3, zuC_1, zuC_2, reduceIte, Nat.reduceEqDiff, false_and, and_false, true_and, and_true, and_self, or_true, true_or, or_false, false_or]; omega)) (by first | omega | (simp only [zuI_1, zuI_2, zuJ_1, zuJ_2, zuJ_3, zuP_1, zuP_2, zuP_3, zuC_1, zuC_2, reduceIte, Nat.reduceEqDiff, false_and, and_false, true_and, and_true, and_self, or_true, true_or, or_false, false_or]; omega)) (by repeat (first | exact zsm_rf | assumption | refine zsm_C (by decide) ?_ | refine zsm_I (by decide) ?_ | refine zsm_J ?_ | refine zsm_c (by assumption) (by decide) ?_)) (by first | omega | (simp only [zuI_1, zuI_2, zuJ_1, zuJ_2, zuJ_3, zuP_1, zuP_2, zuP_3, zuC_1, zuC_2, reduceIte, Nat.reduceEqDiff, false_and, and_false, true_and, and_true, and_self, or_true, true_or, or_false, false_or]; omega))) (zwk_s rfl (zwk_s rfl (zwk_s rfl (zwk_s rfl (zwk_n (zwk_n (zwk_n (zwk_n zwk_0))))))))
                    · skip
                      first | refine zs_iinc (pc := 153) C dX1_value_153 rfl (by decide) (by omega) ?_ | refine zs_iincF (pc := 153) C dX1_value_153 rfl (by decide) (fun z153 hz1531 hz1532 => ?_)
                      dsimp only [zset, zclr, znone]
                      refine zs_iload (pc := 156) C dX1_value_156 rfl ?_
                      refine zs_aload_n (pc := 158) C dX1_value_158 rfl ?_
                      refine zs_getf (pc := 159) C dX1_value_159 w_X1_28 f_2_5 (by decide) ?_
                      refine zs_iload_n (pc := 162) C dX1_value_162 rfl ?_
                      refine zs_iconst (pc := 163) C dX1_value_163 (by decide) ?_
                      first | refine zs_isub (pc := 164) C dX1_value_164 (by omega) ?_ | refine zs_isubF (pc := 164) C dX1_value_164 (fun z164 hz1641 hz1642 => ?_)
                      refine zs_lald (r := 2019) (pc := 165) C dX1_value_165 a_19 (by decide) (by omega) rfl (fun v165 e165 l165 u165 => ?_)
                      refine zs_aload_n (pc := 166) C dX1_value_166 rfl ?_
                      refine zs_getf (pc := 167) C dX1_value_167 w_X1_28 f_2_5 (by decide) ?_
                      refine zs_iload_n (pc := 170) C dX1_value_170 rfl ?_
                      refine zs_lald (r := 2019) (pc := 171) C dX1_value_171 a_19 (by decide) (by omega) rfl (fun v171 e171 l171 u171 => ?_)
                      refine zSjp3 (pc := 172) C dX1_value_172 s_X1_50 (c_X1_join hX ) (by decide) ⟨Nat.zero_le _, Nat.zero_le _⟩ (Nat.le_of_ble_eq_true rfl) (fun x172 l172 u172 hp172 => ?_)
                      have hq172 := hp172
                      refine zs_lstore (pc := 175) C dX1_value_175 (by decide) ?_
                      dsimp only [zset, zclr, znone]
                      refine zs_lload (pc := 177) C dX1_value_177 rfl ?_
                      refine zs_ldc2 (n := 1000000000000) (pc := 179) C dX1_value_179 q_X1_54 (by decide) (by decide) ?_
                      refine zs_lcmp (pc := 182) C dX1_value_182 (fun z182 hz182 => ?_)
                      refine zs_if_gt (tgt := 195) (pc := 183) C dX1_value_183 (by decide) (fun h183 => ?_) (fun h183 => ?_)
                      · skip
                        refine zs_ldc2 (n := -9223372036854775808) (pc := 195) C dX1_value_195 q_X1_48 (by decide) (by decide) ?_
                        exact zs_lret (pc := 198) C hr hlk dX1_value_198 ⟨by repeat (first | exact zsm_rf | assumption | refine zsm_C (by decide) ?_ | refine zsm_I (by decide) ?_ | refine zsm_J ?_ | refine zsm_c (by assumption) (by decide) ?_), trivial⟩
                      · skip
                        refine zs_lload (pc := 186) C dX1_value_186 rfl ?_
                        refine zs_ldc2 (n := -1000000000000) (pc := 188) C dX1_value_188 q_X1_56 (by decide) (by decide) ?_
                        refine zs_lcmp (pc := 191) C dX1_value_191 (fun z191 hz191 => ?_)
                        refine zs_if_ge (tgt := 199) (pc := 192) C dX1_value_192 (by decide) (fun h192 => ?_) (fun h192 => ?_)
                        · skip
                          refine zs_aload_n (pc := 199) C dX1_value_199 rfl ?_
                          refine zs_getf (pc := 200) C dX1_value_200 w_X1_28 f_2_5 (by decide) ?_
                          refine zs_iload_n (pc := 203) C dX1_value_203 rfl ?_
                          refine zs_iconst (pc := 204) C dX1_value_204 (by decide) ?_
                          first | refine zs_isub (pc := 205) C dX1_value_205 (by omega) ?_ | refine zs_isubF (pc := 205) C dX1_value_205 (fun z205 hz2051 hz2052 => ?_)
                          refine zs_lload (pc := 206) C dX1_value_206 rfl ?_
                          refine zs_last (r := 2019) (pc := 208) C dX1_value_208 a_19 (by decide) (by omega) rfl ?_
                          first | refine zs_iinc (pc := 209) C dX1_value_209 rfl (by decide) (by omega) ?_ | refine zs_iincF (pc := 209) C dX1_value_209 rfl (by decide) (fun z209 hz2091 hz2092 => ?_)
                          dsimp only [zset, zclr, znone]
                          refine zs_goto (tgt := 21) (pc := 212) C dX1_value_212 (by decide) ?_
                          exact zs_wk (ih21 _ _ _ (by first | omega | (simp only [zuI_1, zuI_2, zuJ_1, zuJ_2, zuJ_3, zuP_1, zuP_2, zuP_3, zuC_1, zuC_2, reduceIte, Nat.reduceEqDiff, false_and, and_false, true_and, and_true, and_self, or_true, true_or, or_false, false_or]; omega)) (by first | omega | (simp only [zuI_1, zuI_2, zuJ_1, zuJ_2, zuJ_3, zuP_1, zuP_2, zuP_3, zuC_1, zuC_2, reduceIte, Nat.reduceEqDiff, false_and, and_false, true_and, and_true, and_self, or_true, true_or, or_false, false_or]; omega)) (by repeat (first | exact zsm_rf | assumption | refine zsm_C (by decide) ?_ | refine zsm_I (by decide) ?_ | refine zsm_J ?_ | refine zsm_c (by assumption) (by decide) ?_)) (by first | omega | (simp only [zuI_1, zuI_2, zuJ_1, zuJ_2, zuJ_3, zuP_1, zuP_2, zuP_3, zuC_1, zuC_2, reduceIte, Nat.reduceEqDiff, false_and, and_false, true_and, and_true, and_self, or_true, true_or, or_false, false_or]; omega))) (zwk_s rfl (zwk_s rfl (zwk_s rfl (zwk_s rfl (zwk_n (zwk_n (zwk_n (zwk_n zwk_0))))))))
                        · skip
                          refine zs_ldc2 (n := -9223372036854775808) (pc := 195) C dX1_value_195 q_X1_48 (by decide) (by decide) ?_
                          exact zs_lret (pc := 198) C hr hlk dX1_value_198 ⟨by repeat (first | exact zsm_rf | assumption | refine zsm_C (by decide) ?_ | refine zsm_I (by decide) ?_ | refine zsm_J ?_ | refine zsm_c (by assumption) (by decide) ?_), trivial⟩
                  · skip
                    refine zs_aload_n (pc := 119) C dX1_value_119 rfl ?_
                    refine zs_getf (pc := 120) C dX1_value_120 w_X1_28 f_2_5 (by decide) ?_
                    refine zs_iload_n (pc := 123) C dX1_value_123 rfl ?_
                    refine zs_iconst (pc := 124) C dX1_value_124 (by decide) ?_
                    first | refine zs_isub (pc := 125) C dX1_value_125 (by omega) ?_ | refine zs_isubF (pc := 125) C dX1_value_125 (fun z125 hz1251 hz1252 => ?_)
                    refine zs_aload_n (pc := 126) C dX1_value_126 rfl ?_
                    refine zs_getf (pc := 127) C dX1_value_127 w_X1_28 f_2_5 (by decide) ?_
                    refine zs_iload_n (pc := 130) C dX1_value_130 rfl ?_
                    refine zs_iconst (pc := 131) C dX1_value_131 (by decide) ?_
                    first | refine zs_isub (pc := 132) C dX1_value_132 (by omega) ?_ | refine zs_isubF (pc := 132) C dX1_value_132 (fun z132 hz1321 hz1322 => ?_)
                    refine zs_lald (r := 2019) (pc := 133) C dX1_value_133 a_19 (by decide) (by omega) rfl (fun v133 e133 l133 u133 => ?_)
                    refine zs_lconst (n := 0) (pc := 134) C dX1_value_134 rfl (by decide) ?_
                    refine zs_lcmp (pc := 135) C dX1_value_135 (fun z135 hz135 => ?_)
                    refine zs_if_ne (tgt := 143) (pc := 136) C dX1_value_136 (by decide) (fun h136 => ?_) (fun h136 => ?_)
                    · skip
                      refine zs_lconst (n := 0) (pc := 143) C dX1_value_143 rfl (by decide) ?_
                      refine zs_last (r := 2019) (pc := 144) C dX1_value_144 a_19 (by decide) (by omega) rfl ?_
                      refine zs_goto (tgt := 209) (pc := 145) C dX1_value_145 (by decide) ?_
                      first | refine zs_iinc (pc := 209) C dX1_value_209 rfl (by decide) (by omega) ?_ | refine zs_iincF (pc := 209) C dX1_value_209 rfl (by decide) (fun z209 hz2091 hz2092 => ?_)
                      dsimp only [zset, zclr, znone]
                      refine zs_goto (tgt := 21) (pc := 212) C dX1_value_212 (by decide) ?_
                      exact zs_wk (ih21 _ _ _ (by first | omega | (simp only [zuI_1, zuI_2, zuJ_1, zuJ_2, zuJ_3, zuP_1, zuP_2, zuP_3, zuC_1, zuC_2, reduceIte, Nat.reduceEqDiff, false_and, and_false, true_and, and_true, and_self, or_true, true_or, or_false, false_or]; omega)) (by first | omega | (simp only [zuI_1, zuI_2, zuJ_1, zuJ_2, zuJ_3, zuP_1, zuP_2, zuP_3, zuC_1, zuC_2, reduceIte, Nat.reduceEqDiff, false_and, and_false, true_and, and_true, and_self, or_true, true_or, or_false, false_or]; omega)) (by repeat (first | exact zsm_rf | assumption | refine zsm_C (by decide) ?_ | refine zsm_I (by decide) ?_ | refine zsm_J ?_ | refine zsm_c (by assumption) (by decide) ?_)) (by first | omega | (simp only [zuI_1, zuI_2, zuJ_1, zuJ_2, zuJ_3, zuP_1, zuP_2, zuP_3, zuC_1, zuC_2, reduceIte, Nat.reduceEqDiff, false_and, and_false, true_and, and_true, and_self, or_true, true_or, or_false, false_or]; omega))) (zwk_s rfl (zwk_s rfl (zwk_s rfl (zwk_s rfl (zwk_n (zwk_n (zwk_n (zwk_n zwk_0))))))))
                    · skip
                      refine zs_lconst (n := 1) (pc := 139) C dX1_value_139 rfl (by decide) ?_
                      refine zs_goto (tgt := 144) (pc := 140) C dX1_value_140 (by decide) ?_
                      refine zs_last (r := 2019) (pc := 144) C dX1_value_144 a_19 (by decide) (by omega) rfl ?_
                      refine zs_goto (tgt := 209) (pc := 145) C dX1_value_145 (by decide) ?_
                      first | refine zs_iinc (pc := 209) C dX1_value_209 rfl (by decide) (by omega) ?_ | refine zs_iincF (pc := 209) C dX1_value_209 rfl (by decide) (fun z209 hz2091 hz2092 => ?_)
                      dsimp only [zset, zclr, znone]
                      refine zs_goto (tgt := 21) (pc := 212) C dX1_value_212 (by decide) ?_
                      exact zs_wk (ih21 _ _ _ (by first | omega | (simp only [zuI_1, zuI_2, zuJ_1, zuJ_2, zuJ_3, zuP_1, zuP_2, zuP_3, zuC_1, zuC_2, reduceIte, Nat.reduceEqDiff, false_and, and_false, true_and, and_true, and_self, or_true, true_or, or_false, false_or]; omega)) (by first | omega | (simp only [zuI_1, zuI_2, zuJ_1, zuJ_2, zuJ_3, zuP_1, zuP_2, zuP_3, zuC_1, zuC_2, reduceIte, Nat.reduceEqDiff, false_and, and_false, true_and, and_true, and_self, or_true, true_or, or_false, false_or]; omega)) (by repeat (first | exact zsm_rf | assumption | refine zsm_C (by decide) ?_ | refine zsm_I (by decide) ?_ | refine zsm_J ?_ | refine zsm_c (by assumption) (by decide) ?_)) (by first | omega | (simp only [zuI_1, zuI_2, zuJ_1, zuJ_2, zuJ_3, zuP_1, zuP_2, zuP_3, zuC_1, zuC_2, reduceIte, Nat.reduceEqDiff, false_and, and_false, true_and, and_true, and_self, or_true, true_or, or_false, false_or]; omega))) (zwk_s rfl (zwk_s rfl (zwk_s rfl (zwk_s rfl (zwk_n (zwk_n (zwk_n (zwk_n zwk_0))))))))
              · skip
                refine zs_aload_n (pc := 65) C dX1_value_65 rfl ?_
                refine zs_getf (pc := 66) C dX1_value_66 w_X1_28 f_2_5 (by decide) ?_
                refine zs_iload_n (pc := 69) C dX1_value_69 rfl ?_
                refine zs_iload (pc := 70) C dX1_value_70 rfl ?_
                refine zs_iconst (pc := 72) C dX1_value_72 (by decide) ?_
                refine zs_icmp_ne (tgt := 98) (pc := 73) C dX1_value_73 (by decide) (fun h73 => ?_) (fun h73 => ?_)
                · skip
                  refine zs_iload (pc := 98) C dX1_value_98 rfl ?_
                  refine zs_i2l (pc := 100) C dX1_value_100 ?_
                  refine zs_last (r := 2019) (pc := 101) C dX1_value_101 a_19 (by decide) (by omega) rfl ?_
                  first | refine zs_iinc (pc := 102) C dX1_value_102 rfl (by decide) (by omega) ?_ | refine zs_iincF (pc := 102) C dX1_value_102 rfl (by decide) (fun z102 hz1021 hz1022 => ?_)
                  dsimp only [zset, zclr, znone]
                  refine zs_goto (tgt := 209) (pc := 105) C dX1_value_105 (by decide) ?_
                  first | refine zs_iinc (pc := 209) C dX1_value_209 rfl (by decide) (by omega) ?_ | refine zs_iincF (pc := 209) C dX1_value_209 rfl (by decide) (fun z209 hz2091 hz2092 => ?_)
                  dsimp only [zset, zclr, znone]
                  refine zs_goto (tgt := 21) (pc := 212) C dX1_value_212 (by decide) ?_
                  exact zs_wk (ih21 _ _ _ (by first | omega | (simp only [zuI_1, zuI_2, zuJ_1, zuJ_2, zuJ_3, zuP_1, zuP_2, zuP_3, zuC_1, zuC_2, reduceIte, Nat.reduceEqDiff, false_and, and_false, true_and, and_true, and_self, or_true, true_or, or_false, false_or]; omega)) (by first | omega | (simp only [zuI_1, zuI_2, zuJ_1, zuJ_2, zuJ_3, zuP_1, zuP_2, zuP_3, zuC_1, zuC_2, reduceIte, Nat.reduceEqDiff, false_and, and_false, true_and, and_true, and_self, or_true, true_or, or_false, false_or]; omega)) (by repeat (first | exact zsm_rf | assumption | refine zsm_C (by decide) ?_ | refine zsm_I (by decide) ?_ | refine zsm_J ?_ | refine zsm_c (by assumption) (by decide) ?_)) (by first | omega | (simp only [zuI_1, zuI_2, zuJ_1, zuJ_2, zuJ_3, zuP_1, zuP_2, zuP_3, zuC_1, zuC_2, reduceIte, Nat.reduceEqDiff, false_and, and_false, true_and, and_true, and_self, or_true, true_or, or_false, false_or]; omega))) (zwk_s rfl (zwk_s rfl (zwk_s rfl (zwk_s rfl (zwk_n (zwk_n (zwk_n (zwk_n zwk_0))))))))
                · skip
                  refine zs_iload (pc := 76) C dX1_value_76 rfl ?_
                  refine zs_if_lt (tgt := 98) (pc := 78) C dX1_value_78 (by decide) (fun h78 => ?_) (fun h78 => ?_)
                  · skip
                    refine zs_iload (pc := 98) C dX1_value_98 rfl ?_
                    refine zs_i2l (pc := 100) C dX1_value_100 ?_
                    refine zs_last (r := 2019) (pc := 101) C dX1_value_101 a_19 (by decide) (by omega) rfl ?_
                    first | refine zs_iinc (pc := 102) C dX1_value_102 rfl (by decide) (by omega) ?_ | refine zs_iincF (pc := 102) C dX1_value_102 rfl (by decide) (fun z102 hz1021 hz1022 => ?_)
                    dsimp only [zset, zclr, znone]
                    refine zs_goto (tgt := 209) (pc := 105) C dX1_value_105 (by decide) ?_
                    first | refine zs_iinc (pc := 209) C dX1_value_209 rfl (by decide) (by omega) ?_ | refine zs_iincF (pc := 209) C dX1_value_209 rfl (by decide) (fun z209 hz2091 hz2092 => ?_)
                    dsimp only [zset, zclr, znone]
                    refine zs_goto (tgt := 21) (pc := 212) C dX1_value_212 (by decide) ?_
                    exact zs_wk (ih21 _ _ _ (by first | omega | (simp only [zuI_1, zuI_2, zuJ_1, zuJ_2, zuJ_3, zuP_1, zuP_2, zuP_3, zuC_1, zuC_2, reduceIte, Nat.reduceEqDiff, false_and, and_false, true_and, and_true, and_self, or_true, true_or, or_false, false_or]; omega)) (by first | omega | (simp only [zuI_1, zuI_2, zuJ_1, zuJ_2, zuJ_3, zuP_1, zuP_2, zuP_3, zuC_1, zuC_2, reduceIte, Nat.reduceEqDiff, false_and, and_false, true_and, and_true, and_self, or_true, true_or, or_false, false_or]; omega)) (by repeat (first | exact zsm_rf | assumption | refine zsm_C (by decide) ?_ | refine zsm_I (by decide) ?_ | refine zsm_J ?_ | refine zsm_c (by assumption) (by decide) ?_)) (by first | omega | (simp only [zuI_1, zuI_2, zuJ_1, zuJ_2, zuJ_3, zuP_1, zuP_2, zuP_3, zuC_1, zuC_2, reduceIte, Nat.reduceEqDiff, false_and, and_false, true_and, and_true, and_self, or_true, true_or, or_false, false_or]; omega))) (zwk_s rfl (zwk_s rfl (zwk_s rfl (zwk_s rfl (zwk_n (zwk_n (zwk_n (zwk_n zwk_0))))))))
                  · skip
                    refine zs_iload (pc := 81) C dX1_value_81 rfl ?_
                    refine zs_bipush (pc := 83) C dX1_value_83 (by decide) (by decide) ?_
                    refine zs_icmp_ge (tgt := 98) (pc := 85) C dX1_value_85 (by decide) (fun h85 => ?_) (fun h85 => ?_)
                    · skip
                      refine zs_iload (pc := 98) C dX1_value_98 rfl ?_
                      refine zs_i2l (pc := 100) C dX1_value_100 ?_
                      refine zs_last (r := 2019) (pc := 101) C dX1_value_101 a_19 (by decide) (by omega) rfl ?_
                      first | refine zs_iinc (pc := 102) C dX1_value_102 rfl (by decide) (by omega) ?_ | refine zs_iincF (pc := 102) C dX1_value_102 rfl (by decide) (fun z102 hz1021 hz1022 => ?_)
                      dsimp only [zset, zclr, znone]
                      refine zs_goto (tgt := 209) (pc := 105) C dX1_value_105 (by decide) ?_
                      first | refine zs_iinc (pc := 209) C dX1_value_209 rfl (by decide) (by omega) ?_ | refine zs_iincF (pc := 209) C dX1_value_209 rfl (by decide) (fun z209 hz2091 hz2092 => ?_)
                      dsimp only [zset, zclr, znone]
                      refine zs_goto (tgt := 21) (pc := 212) C dX1_value_212 (by decide) ?_
                      exact zs_wk (ih21 _ _ _ (by first | omega | (simp only [zuI_1, zuI_2, zuJ_1, zuJ_2, zuJ_3, zuP_1, zuP_2, zuP_3, zuC_1, zuC_2, reduceIte, Nat.reduceEqDiff, false_and, and_false, true_and, and_true, and_self, or_true, true_or, or_false, false_or]; omega)) (by first | omega | (simp only [zuI_1, zuI_2, zuJ_1, zuJ_2, zuJ_3, zuP_1, zuP_2, zuP_3, zuC_1, zuC_2, reduceIte, Nat.reduceEqDiff, false_and, and_false, true_and, and_true, and_self, or_true, true_or, or_false, false_or]; omega)) (by repeat (first | exact zsm_rf | assumption | refine zsm_C (by decide) ?_ | refine zsm_I (by decide) ?_ | refine zsm_J ?_ | refine zsm_c (by assumption) (by decide) ?_)) (by first | omega | (simp only [zuI_1, zuI_2, zuJ_1, zuJ_2, zuJ_3, zuP_1, zuP_2, zuP_3, zuC_1, zuC_2, reduceIte, Nat.reduceEqDiff, false_and, and_false, true_and, and_true, and_self, or_true, true_or, or_false, false_or]; omega))) (zwk_s rfl (zwk_s rfl (zwk_s rfl (zwk_s rfl (zwk_n (zwk_n (zwk_n (zwk_n zwk_0))))))))
                    · skip
                      refine zs_aload_n (pc := 88) C dX1_value_88 rfl ?_
                      refine zs_getf (pc := 89) C dX1_value_89 w_X1_24 f_2_4 (by decide) ?_
                      refine zs_iload (pc := 92) C dX1_value_92 rfl ?_
                      refine zs_lald (r := 2018) (pc := 94) C dX1_value_94 a_18 (by decide) (by omega) rfl (fun v94 e94 l94 u94 => ?_)
                      refine zs_goto (tgt := 101) (pc := 95) C dX1_value_95 (by decide) ?_
                      refine zs_last (r := 2019) (pc := 101) C dX1_value_101 a_19 (by decide) (by omega) rfl ?_
                      first | refine zs_iinc (pc := 102) C dX1_value_102 rfl (by decide) (by omega) ?_ | refine zs_iincF (pc := 102) C dX1_value_102 rfl (by decide) (fun z102 hz1021 hz1022 => ?_)
                      dsimp only [zset, zclr, znone]
                      refine zs_goto (tgt := 209) (pc := 105) C dX1_value_105 (by decide) ?_
                      first | refine zs_iinc (pc := 209) C dX1_value_209 rfl (by decide) (by omega) ?_ | refine zs_iincF (pc := 209) C dX1_value_209 rfl (by decide) (fun z209 hz2091 hz2092 => ?_)
                      dsimp only [zset, zclr, znone]
                      refine zs_goto (tgt := 21) (pc := 212) C dX1_value_212 (by decide) ?_
                      exact zs_wk (ih21 _ _ _ (by first | omega | (simp only [zuI_1, zuI_2, zuJ_1, zuJ_2, zuJ_3, zuP_1, zuP_2, zuP_3, zuC_1, zuC_2, reduceIte, Nat.reduceEqDiff, false_and, and_false, true_and, and_true, and_self, or_true, true_or, or_false, false_or]; omega)) (by first | omega | (simp only [zuI_1, zuI_2, zuJ_1, zuJ_2, zuJ_3, zuP_1, zuP_2, zuP_3, zuC_1, zuC_2, reduceIte, Nat.reduceEqDiff, false_and, and_false, true_and, and_true, and_self, or_true, true_or, or_false, false_or]; omega)) (by repeat (first | exact zsm_rf | assumption | refine zsm_C (by decide) ?_ | refine zsm_I (by decide) ?_ | refine zsm_J ?_ | refine zsm_c (by assumption) (by decide) ?_)) (by first | omega | (simp only [zuI_1, zuI_2, zuJ_1, zuJ_2, zuJ_3, zuP_1, zuP_2, zuP_3, zuC_1, zuC_2, reduceIte, Nat.reduceEqDiff, false_and, and_false, true_and, and_true, and_self, or_true, true_or, or_false, false_or]; omega))) (zwk_s rfl (zwk_s rfl (zwk_s rfl (zwk_s rfl (zwk_n (zwk_n (zwk_n (zwk_n zwk_0))))))))
    exact zs_wk (L21 _ _ _ _ (by first | omega | (simp only [zuI_1, zuI_2, zuJ_1, zuJ_2, zuJ_3, zuP_1, zuP_2, zuP_3, zuC_1, zuC_2, reduceIte, Nat.reduceEqDiff, false_and, and_false, true_and, and_true, and_self, or_true, true_or, or_false, false_or]; omega)) (by first | omega | (simp only [zuI_1, zuI_2, zuJ_1, zuJ_2, zuJ_3, zuP_1, zuP_2, zuP_3, zuC_1, zuC_2, reduceIte, Nat.reduceEqDiff, false_and, and_false, true_and, and_true, and_self, or_true, true_or, or_false, false_or]; omega)) (by repeat (first | exact zsm_rf | assumption | refine zsm_C (by decide) ?_ | refine zsm_I (by decide) ?_ | refine zsm_J ?_ | refine zsm_c (by assumption) (by decide) ?_)) (Nat.lt_succ_self _)) (zwk_s rfl (zwk_s rfl (zwk_s rfl (zwk_s rfl (zwk_n (zwk_n (zwk_n (zwk_n zwk_0))))))))
  · skip
    refine zs_ldc2 (n := -9223372036854775808) (pc := 8) C dX1_value_8 q_X1_48 (by decide) (by decide) ?_
    exact zs_lret (pc := 11) C hr hlk dX1_value_11 ⟨by repeat (first | exact zsm_rf | assumption | refine zsm_C (by decide) ?_ | refine zsm_I (by decide) ?_ | refine zsm_J ?_ | refine zsm_c (by assumption) (by decide) ?_), trivial⟩
end
section
set_option maxHeartbeats 4000000 in
set_option maxRecDepth 100000 in
theorem c_X5_has {l : Launch} {Γ : zΓ} {G : zH} {w : Nat} {kd k : Int} (hX : zXs Γ) (hk : 0 ≤ kd ∧ kd ≤ 3) : zMet l Γ yX5_has cX5_has 3 (some .boolean) 0 [zr 6 w, zi kd, zi k] G (zpi (fun x G' => G' = G ∧ ((x = 0 ∨ x = 1) ∧ (x = 1 → 0 ≤ k ∧ k < 5 ∧ (kd = 0 → k < 4) ∧ (kd = 3 → k < 3))))) := by
  refine zMet_of RX5 hX (by decide) rfl (Nat.le_of_ble_eq_true rfl) ?_
  intro p e s m args below meth c C hr hlk
  show Z p l e (zrm 0) s m args below meth c Γ 3 0 0 (MQ below (zQc Γ (zpi (fun x G' => G' = G ∧ ((x = 0 ∨ x = 1) ∧ (x = 1 → 0 ≤ k ∧ k < 5 ∧ (kd = 0 → k < 4) ∧ (kd = 3 → k < 3)))))) args s 0 0 (zA Γ)) 0 [some (zr 6 w), some (zi kd), some (zi k)] [] G
  refine zs_loc 1 rfl (fun ha1 hb1 => ?_)
  refine zs_loc 2 rfl (fun ha2 hb2 => ?_)
  refine zs_iload_n (pc := 0) C dX5_has_0 rfl ?_
  refine zs_if_lt (tgt := 18) (pc := 1) C dX5_has_1 (by decide) (fun h1 => ?_) (fun h1 => ?_)
  · skip
    refine zs_iconst (pc := 18) C dX5_has_18 (by decide) ?_
    exact zs_zret (pc := 19) C hr hlk dX5_has_19 (by omega) ⟨rfl, by first | omega | (simp only [zuI_1, zuI_2, zuJ_1, zuJ_2, zuJ_3, zuP_1, zuP_2, zuP_3, zuC_1, zuC_2, reduceIte, Nat.reduceEqDiff, false_and, and_false, true_and, and_true, and_self, or_true, true_or, or_false, false_or]; omega)⟩
  · skip
    refine zs_iload_n (pc := 4) C dX5_has_4 rfl ?_
    refine zs_aload_n (pc := 5) C dX5_has_5 rfl ?_
    refine zs_getf (pc := 6) C dX5_has_6 w_X5_22 f_6_2 (by decide) ?_
    refine zs_iload_n (pc := 9) C dX5_has_9 rfl ?_
    refine zs_iald (r := 2037) (pc := 10) C dX5_has_10 a_37 (by decide) (by omega) rfl rfl (fun v10 e10 l10 u10 => ?_)
    have hs := rs_2037 kd.toNat
    refine zs_icmp_ge (tgt := 18) (pc := 11) C dX5_has_11 (by decide) (fun h11 => ?_) (fun h11 => ?_)
    · skip
      refine zs_iconst (pc := 18) C dX5_has_18 (by decide) ?_
      exact zs_zret (pc := 19) C hr hlk dX5_has_19 (by omega) ⟨rfl, by first | omega | (simp only [zuI_1, zuI_2, zuJ_1, zuJ_2, zuJ_3, zuP_1, zuP_2, zuP_3, zuC_1, zuC_2, reduceIte, Nat.reduceEqDiff, false_and, and_false, true_and, and_true, and_self, or_true, true_or, or_false, false_or]; omega)⟩
    · skip
      refine zs_iconst (pc := 14) C dX5_has_14 (by decide) ?_
      refine zs_goto (tgt := 19) (pc := 15) C dX5_has_15 (by decide) ?_
      exact zs_zret (pc := 19) C hr hlk dX5_has_19 (by omega) ⟨rfl, by first | omega | (simp only [zuI_1, zuI_2, zuJ_1, zuJ_2, zuJ_3, zuP_1, zuP_2, zuP_3, zuC_1, zuC_2, reduceIte, Nat.reduceEqDiff, false_and, and_false, true_and, and_true, and_self, or_true, true_or, or_false, false_or]; omega)⟩

set_option maxHeartbeats 4000000 in
set_option maxRecDepth 100000 in
theorem c_X5_fineness {l : Launch} {Γ : zΓ} {G : zH} {w : Nat} {k s0 : Int} (hX : zXs Γ) (hs : 0 ≤ s0 ∧ s0 ≤ 3) : zMet l Γ yX5_fineness cX5_fineness 5 (some .int) 2 [zr 6 w, zi k, zi s0] G (zpi (fun x G' => zsm [] G G' ∧ True)) := by
  refine zMet_of RX5 hX (by decide) rfl (Nat.le_of_ble_eq_true rfl) ?_
  intro p e s m args below meth c C hr hlk
  show Z p l e (zrm 2) s m args below meth c Γ 5 0 0 (MQ below (zQc Γ (zpi (fun x G' => zsm [] G G' ∧ True))) args s 0 0 (zA Γ)) 0 [some (zr 6 w), some (zi k), some (zi s0), none, none] [] G
  refine zs_loc 1 rfl (fun ha1 hb1 => ?_)
  refine zs_loc 2 rfl (fun ha2 hb2 => ?_)
  refine zs_aload_n (pc := 0) C dX5_fineness_0 rfl ?_
  refine zs_getf (pc := 1) C dX5_fineness_1 w_X5_12 f_6_0 (by decide) ?_
  refine zs_iload_n (pc := 4) C dX5_fineness_4 rfl ?_
  refine zVj1 (pc := 5) C dX5_fineness_5 v_X5_76 (c_X1_value hX ) (by decide) (by decide) ⟨Nat.zero_le _, Nat.zero_le _⟩ (Nat.le_of_ble_eq_true rfl) (fun x5 G5 l5 u5 hp5 => ?_)
  obtain ⟨hz5, hq5⟩ := hp5
  refine zs_lstore_n (pc := 8) C dX5_fineness_8 (by decide) ?_
  dsimp only [zset, zclr, znone]
  refine zs_lload_n (pc := 9) C dX5_fineness_9 rfl ?_
  refine zs_ldc2 (n := -9223372036854775808) (pc := 10) C dX5_fineness_10 q_X5_80 (by decide) (by decide) ?_
  refine zs_lcmp (pc := 13) C dX5_fineness_13 (fun z13 hz13 => ?_)
  refine zs_if_ne (tgt := 26) (pc := 14) C dX5_fineness_14 (by decide) (fun h14 => ?_) (fun h14 => ?_)
  · skip
    refine zs_lconst (n := 0) (pc := 26) C dX5_fineness_26 rfl (by decide) ?_
    refine zs_ldc2 (n := 999) (pc := 27) C dX5_fineness_27 q_X5_82 (by decide) (by decide) ?_
    refine zs_lload_n (pc := 30) C dX5_fineness_30 rfl ?_
    refine zs_minL (pc := 31) C dX5_fineness_31 s_X5_84 (by decide) (Nat.le_of_ble_eq_true rfl) ⟨Nat.zero_le _, Nat.zero_le _⟩ (fun z31 hz31 => ?_)
    refine zs_maxL (pc := 34) C dX5_fineness_34 s_X5_90 (by decide) (Nat.le_of_ble_eq_true rfl) ⟨Nat.zero_le _, Nat.zero_le _⟩ (fun z34 hz34 => ?_)
    first | refine zs_l2i (pc := 37) C dX5_fineness_37 (by omega) ?_ | refine zs_l2iF (pc := 37) C dX5_fineness_37 (fun z37 hz371 hz372 => ?_)
    exact zs_iret (pc := 38) C hr hlk dX5_fineness_38 ⟨by repeat (first | exact zsm_rf | assumption | refine zsm_C (by decide) ?_ | refine zsm_I (by decide) ?_ | refine zsm_J ?_ | refine zsm_c (by assumption) (by decide) ?_), trivial⟩
  · skip
    refine zs_aload_n (pc := 17) C dX5_fineness_17 rfl ?_
    refine zs_getf (pc := 18) C dX5_fineness_18 w_X5_25 f_6_3 (by decide) ?_
    refine zs_iload_n (pc := 21) C dX5_fineness_21 rfl ?_
    refine zs_iald (r := 2038) (pc := 22) C dX5_fineness_22 a_38 (by decide) (by omega) rfl (r_2038 _) (fun v22 e22 l22 u22 => ?_)
    refine zs_goto (tgt := 38) (pc := 23) C dX5_fineness_23 (by decide) ?_
    exact zs_iret (pc := 38) C hr hlk dX5_fineness_38 ⟨by repeat (first | exact zsm_rf | assumption | refine zsm_C (by decide) ?_ | refine zsm_I (by decide) ?_ | refine zsm_J ?_ | refine zsm_c (by assumption) (by decide) ?_), trivial⟩
end
