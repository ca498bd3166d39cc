section ZH
variable {p : Program} {l : Launch} {e : Env} {R : Room} {s : State} {m : MethodId} {args : Array Value} {below : List Frame} {meth : Method} {c : Code} {Γ : zΓ} {cc : ByteArray} {nL : Nat} {own : String} {cells slots : Nat} {Q : State → Prop} {pc : Nat} {ls : List (Option zV)} {st : List zV} {G : zH}
theorem zk_ty {t a : Nat} (h : zk Γ (zr t a)) (ht : t < 200) : Γ.1 a = t ∧ t ≠ 0 := by
  rcases h with h | h
  · exact ⟨h.2.2, h.2.1⟩
  · exact absurd h.1 (Nat.not_le.mpr ht)
theorem zk_of {t a : Nat} (h : Γ.1 a = t) (h0 : t ≠ 0) (ht : t < 200) : zk Γ (zr t a) := Or.inl ⟨ht, h0, h⟩
theorem zs_getW (C : zCx p s m args c Γ cc nL own) {t k a idx : Nat} {v : zV} (d : decode cc pc = .ok (.getfield idx, 3)) (w : zLk own idx t k) (hk : (zfk t k).1 ≠ 9) (hv : zc v = zF Γ G t k a) (hz : zG Γ G → Γ.1 a = t → zk Γ v) (kk : Z p l e R s m args below meth c Γ nL cells slots Q (pc + 3) ls (v :: st) G) : Z p l e R s m args below meth c Γ nL cells slots Q pc ls (zr t a :: st) G := by
  intro hG hl hs H locs rl hP hS hL
  obtain ⟨t1, t2, hkn⟩ := zfk_lt hk
  obtain ⟨hta, -⟩ := zk_ty (zs_hd hs) (by omega)
  obtain ⟨hK, hLk, hX, hN⟩ := C.2.2.2.2.2.1
  obtain ⟨q0, hq0⟩ := va_pl_get (X := []) (f := zE Γ G) ((hLk.2.1 a).mpr (by omega))
  rw [zE_cls hta t2] at hq0
  have hkk := kk hG hl (zs_cons (hz hG hta) (zs_tl hs)) H locs rl hP hS hL
  rw [List.map_cons, hv] at hkk
  rcases w with w | ⟨host, w⟩
  · exact va_get C.1 C.2.1 C.2.2.2.2.1 (zcl_in t1 t2) C.2.2.2.1 hK hP q0 hq0 (zcl_at t1 t2) k hkn (C.2.2.2.2.1 _ w) (fun x hx => by rw [zcl_cls t1 t2 k hkn] at hx; exact hx) (by simp [hkn]) d hkk
  · exact va_getN C.1 C.2.1 C.2.2.2.2.1 (zcl_in t1 t2) C.2.2.2.1 hK hP q0 hq0 (zcl_at t1 t2) k hkn (va_Nw.use rfl (hN _ w)) (fun x hx => by rw [zcl_cls t1 t2 k hkn] at hx; exact hx) (by simp [hkn]) d hkk
theorem zs_geti (C : zCx p s m args c Γ cc nL own) {t k a idx r : Nat} {lo hi : Int} (d : decode cc pc = .ok (.getfield idx, 3)) (w : zLk own idx t k) (hf : zfk t k = (0, 0)) (hr0 : 100 * t + k = r) (hr : zrg r 0 = (lo, hi)) (kk : ∀ v : Int, v = G.1 r a 0 → lo ≤ v → v ≤ hi → Z p l e R s m args below meth c Γ nL cells slots Q (pc + 3) ls (zi v :: st) G) : Z p l e R s m args below meth c Γ nL cells slots Q pc ls (zr t a :: st) G := by
  intro hG
  have h1 := hG.1 r a 0
  have h2 := zrg_in r 0
  rw [hr] at h1 h2
  exact zs_getW C d w (by rw [hf]; simp) (v := zi (G.1 r a 0)) (by rw [zF, hf, ← hr0]; rfl) (fun _ _ => ⟨by simp at h1 h2; omega, by simp at h1 h2; omega⟩) (kk _ rfl h1.1 h1.2) hG
theorem zs_getz (C : zCx p s m args c Γ cc nL own) {t k a idx r : Nat} {lo hi : Int} (d : decode cc pc = .ok (.getfield idx, 3)) (w : zLk own idx t k) (hf : zfk t k = (4, 0)) (hr0 : 100 * t + k = r) (hr : zrg r 0 = (lo, hi)) (kk : ∀ v : Int, v = G.1 r a 0 → lo ≤ v → v ≤ hi → Z p l e R s m args below meth c Γ nL cells slots Q (pc + 3) ls (zi v :: st) G) : Z p l e R s m args below meth c Γ nL cells slots Q pc ls (zr t a :: st) G := by
  intro hG
  have h1 := hG.1 r a 0
  have h2 := zrg_in r 0
  rw [hr] at h1 h2
  exact zs_getW C d w (by rw [hf]; simp) (v := zi (G.1 r a 0)) (by rw [zF, hf, ← hr0]; rfl) (fun _ _ => ⟨by simp at h1 h2; omega, by simp at h1 h2; omega⟩) (kk _ rfl h1.1 h1.2) hG
theorem zs_getj (C : zCx p s m args c Γ cc nL own) {t k a idx r : Nat} (d : decode cc pc = .ok (.getfield idx, 3)) (w : zLk own idx t k) (hf : zfk t k = (1, 0)) (hr0 : 100 * t + k = r) (kk : ∀ v : Int, v = G.2.1 r a 0 → -9223372036854775808 ≤ v → v ≤ 9223372036854775807 → Z p l e R s m args below meth c Γ nL cells slots Q (pc + 3) ls (zj v :: st) G) : Z p l e R s m args below meth c Γ nL cells slots Q pc ls (zr t a :: st) G := by
  intro hG
  have h1 := hG.2.1 r a 0
  exact zs_getW C d w (by rw [hf]; simp) (v := zj (G.2.1 r a 0)) (by rw [zF, hf, ← hr0]; rfl) (fun _ _ => h1) (kk _ rfl h1.1 h1.2) hG
/-- a final reference -/
theorem zs_getf (C : zCx p s m args c Γ cc nL own) {t k a idx t' : Nat} (d : decode cc pc = .ok (.getfield idx, 3)) (w : zLk own idx t k) (hf : zfk t k = (2, t')) (ht : t' ≠ 0 ∧ t' < 200) (kk : Z p l e R s m args below meth c Γ nL cells slots Q (pc + 3) ls (zr t' (Γ.2.1 a k) :: st) G) : Z p l e R s m args below meth c Γ nL cells slots Q pc ls (zr t a :: st) G := by
  refine zs_getW C d w (by rw [hf]; simp) (v := zr t' (Γ.2.1 a k)) (by rw [zF, hf]; rfl) (fun _ hta => ?_) kk
  have h9 := C.2.2.2.2.2.1.2.1.2.2 t k a hta (by rw [hf])
  rw [hf] at h9
  exact zk_of h9 ht.1 ht.2
/-- another reference -/
theorem zs_getd (C : zCx p s m args c Γ cc nL own) {t k a idx t' r : Nat} (d : decode cc pc = .ok (.getfield idx, 3)) (w : zLk own idx t k) (hf : zfk t k = (3, t')) (ht : t' ≠ 0 ∧ t' < 200) (hr0 : 100 * t + k = r) (kk : ∀ b : Nat, b = G.2.2 r a → Γ.1 b = t' → Z p l e R s m args below meth c Γ nL cells slots Q (pc + 3) ls (zr t' b :: st) G) : Z p l e R s m args below meth c Γ nL cells slots Q pc ls (zr t a :: st) G := by
  intro hG hl hs
  have hta := (zk_ty (zs_hd hs) (by have := (zfk_lt (t := t) (k := k) (by rw [hf]; simp)).2.1; omega)).1
  have h9 := hG.2.2 t k a hta (by rw [hf])
  rw [hf, hr0] at h9
  exact zs_getW C d w (by rw [hf]; simp) (v := zr t' (G.2.2 r a)) (by rw [zF, hf, ← hr0]; rfl) (fun _ _ => zk_of h9 ht.1 ht.2) (kk _ rfl h9) hG hl hs
theorem zN_100 {t : Nat} (h1 : 1 ≤ t) (h2 : t ≤ 10) : zN t < 100 := zt_cases (P := fun t => zN t < 100) h1 h2 (by decide) (by decide) (by decide) (by decide) (by decide) (by decide) (by decide) (by decide) (by decide) (by decide)
theorem zs_putW (C : zCx p s m args c Γ cc nL own) {t k a idx : Nat} {v : zV} {G' : zH} {ty : FieldType} (d : decode cc pc = .ok (.putfield idx, 3)) (w : zLk own idx t k) (hk : (zfk t k).1 ≠ 9) (hk2 : (zfk t k).1 ≠ 2) (hty : zty0 t k = ty) (hn : narrow ty (zc v) = zc v) (hfit : fits ty (zc v) = true)
    (hv : zc v = zF Γ G' t k a) (hsame : ∀ j, j ≠ k → j < zN t → zF Γ G' t j a = zF Γ G t j a) (hne : ∀ b, b ≠ a → zE Γ G' b = zE Γ G b) (hG' : zG Γ G → zG Γ G') (kk : Z p l e R s m args below meth c Γ nL cells slots Q (pc + 3) ls st G') : Z p l e R s m args below meth c Γ nL cells slots Q pc ls (v :: zr t a :: st) G := by
  intro hG hl hs H locs rl hP hS hL
  obtain ⟨t1, t2, hkn⟩ := zfk_lt hk
  obtain ⟨hta, -⟩ := zk_ty (zs_hd (zs_tl hs)) (by omega)
  obtain ⟨hK, hLk, hX, hN⟩ := C.2.2.2.2.2.1
  have hm : a ∈ Γ.2.2.2.2.1 := (hLk.2.1 a).mpr (by omega)
  obtain ⟨q0, hq0⟩ := va_pl_get (X := []) (f := zE Γ G) hm
  have hq1 := hq0
  rw [zE_cls hta t2] at hq0
  have hD := zD_ok hLk (zE Γ G)
  have hset : (va_pl Γ.2.2.2.2.1 (zE Γ G)).set q0 (a, .inr (t - 1, ((List.range (zN t)).map (fun j => zF Γ G t j a)).set k (zc v))) = zWd Γ G' := by
    have h1 := va_pl_set (A := zA Γ) (X := []) (f := zE Γ G) (e := .inr (t - 1, ((List.range (zN t)).map (fun j => zF Γ G t j a)).set k (zc v))) hD hm hq1
    refine h1.trans (zW_up ?_ hne)
    rw [zE_cls hta t2, zfs_set hv hsame]
  subst hty
  rcases w with w | ⟨host, w⟩
  · refine va_put C.1 C.2.1 C.2.2.2.2.1 (zcl_in t1 t2) (zty0 t) (zcl_ty t1 t2) (zcl_nm t1 t2) C.2.2.2.1 hK hP hD hS q0 hq0 (zcl_at t1 t2) k hkn (C.2.2.2.2.1 _ w) (fun x hx => by rw [zcl_cls t1 t2 k hkn] at hx; exact hx) (zcl_fin t1 t2 k hkn hk2) (zcl_ty t1 t2 k hkn) hn hfit (by simp [hkn]) d (fun H1 locs1 hP1 _ hS1 => ?_)
    exact kk (hG' hG) hl (zs_tl (zs_tl hs)) H1 locs1 rl (hset ▸ hP1) hS1 hL
  · refine va_putN C.1 C.2.1 C.2.2.2.2.1 (zcl_in t1 t2) (zty0 t) (zcl_ty t1 t2) (zcl_nm t1 t2) C.2.2.2.1 hK hP hD hS q0 hq0 (zcl_at t1 t2) k hkn (va_Nw.use rfl (hN _ w)) (fun x hx => by rw [zcl_cls t1 t2 k hkn] at hx; exact hx) (zcl_fin t1 t2 k hkn hk2) (zcl_ty t1 t2 k hkn) hn hfit (by simp [hkn]) d (fun H1 locs1 hP1 _ hS1 => ?_)
    exact kk (hG' hG) hl (zs_tl (zs_tl hs)) H1 locs1 rl (hset ▸ hP1) hS1 hL
theorem zF_uI {t k j a r : Nat} {x : Int} (hr : 100 * t + k = r) (hj : j ≠ k) : zF Γ (zuI G r a 0 x) t j a = zF Γ G t j a := by
  unfold zF
  rw [zuI_1, if_neg (fun q => hj (by omega))]
  rfl
theorem zF_uJ {t k j a r : Nat} {x : Int} (hr : 100 * t + k = r) (hj : j ≠ k) : zF Γ (zuJ G r a 0 x) t j a = zF Γ G t j a := by
  unfold zF
  rw [zuJ_2, if_neg (fun q => hj (by omega))]
  rfl
theorem zF_uP {t k j a r b : Nat} (hr : 100 * t + k = r) (hj : j ≠ k) : zF Γ (zuP G r a b) t j a = zF Γ G t j a := by
  unfold zF
  rw [zuP_3, if_neg (fun q => hj (by omega))]
  rfl
theorem zE_uI {r a i b : Nat} {x : Int} (h : b ≠ a) : zE Γ (zuI G r a i x) b = zE Γ G b := zE_same (fun r' i' => by rw [zuI_1, if_neg (fun q => h q.2.1)]) (fun _ _ => rfl) (fun _ => rfl)
theorem zE_uJ {r a i b : Nat} {x : Int} (h : b ≠ a) : zE Γ (zuJ G r a i x) b = zE Γ G b := zE_same (fun _ _ => rfl) (fun r' i' => by rw [zuJ_2, if_neg (fun q => h q.2.1)]) (fun _ => rfl)
theorem zE_uP {r a c b : Nat} (h : b ≠ a) : zE Γ (zuP G r a c) b = zE Γ G b := zE_same (fun _ _ => rfl) (fun _ _ => rfl) (fun r' => by rw [zuP_3, if_neg (fun q => h q.2)])
theorem zkty_0 {ty : FieldType} (h : zkty 0 ty = true) : ty = .int := by simpa [zkty] using h
theorem zkty_4 {ty : FieldType} (h : zkty 4 ty = true) : ty = .boolean := by simpa [zkty] using h
theorem zkty_1 {ty : FieldType} (h : zkty 1 ty = true) : ty = .long := by simpa [zkty] using h
theorem zkty_3 {ty : FieldType} (h : zkty 3 ty = true) : (∃ C, ty = .object C) ∨ ∃ t, ty = .array t := by
  cases ty <;> simp [zkty] at h ⊢
theorem zs_puti (C : zCx p s m args c Γ cc nL own) {t k a idx r : Nat} {lo hi x : Int} (d : decode cc pc = .ok (.putfield idx, 3)) (w : zLk own idx t k) (hf : zfk t k = (0, 0)) (hr0 : 100 * t + k = r) (hr : zrg r 0 = (lo, hi)) (hx : lo ≤ x ∧ x ≤ hi) (kk : Z p l e R s m args below meth c Γ nL cells slots Q (pc + 3) ls st (zuI G r a 0 x)) : Z p l e R s m args below meth c Γ nL cells slots Q pc ls (zi x :: zr t a :: st) G := by
  obtain ⟨t1, t2, hkn⟩ := zfk_lt (t := t) (k := k) (by rw [hf]; simp)
  have hty : zty0 t k = .int := zkty_0 (by have := zcl_k t1 t2 k hkn; rwa [hf] at this)
  exact zs_putW C d w (by rw [hf]; simp) (by rw [hf]; simp) hty rfl rfl (by rw [zF, hf, hr0, zuI_1, if_pos ⟨rfl, rfl, rfl⟩]; rfl) (fun j hj _ => zF_uI hr0 hj) (fun b hb => zE_uI hb) (fun hG => zG_I hG (by rw [hr]; exact hx.1) (by rw [hr]; exact hx.2)) kk
theorem zs_putz (C : zCx p s m args c Γ cc nL own) {t k a idx r : Nat} {lo hi x : Int} (d : decode cc pc = .ok (.putfield idx, 3)) (w : zLk own idx t k) (hf : zfk t k = (4, 0)) (hr0 : 100 * t + k = r) (hr : zrg r 0 = (lo, hi)) (hx : lo ≤ x ∧ x ≤ hi) (hb : 0 ≤ x ∧ x ≤ 1) (kk : Z p l e R s m args below meth c Γ nL cells slots Q (pc + 3) ls st (zuI G r a 0 x)) : Z p l e R s m args below meth c Γ nL cells slots Q pc ls (zi x :: zr t a :: st) G := by
  obtain ⟨t1, t2, hkn⟩ := zfk_lt (t := t) (k := k) (by rw [hf]; simp)
  have hty : zty0 t k = .boolean := zkty_4 (by have := zcl_k t1 t2 k hkn; rwa [hf] at this)
  have h01 : x = 0 ∨ x = 1 := by omega
  exact zs_putW C d w (by rw [hf]; simp) (by rw [hf]; simp) hty (by rcases h01 with rfl | rfl <;> rfl) (by rcases h01 with rfl | rfl <;> rfl) (by rw [zF, hf, hr0, zuI_1, if_pos ⟨rfl, rfl, rfl⟩]; rfl) (fun j hj _ => zF_uI hr0 hj) (fun b hb => zE_uI hb) (fun hG => zG_I hG (by rw [hr]; exact hx.1) (by rw [hr]; exact hx.2)) kk
theorem zs_putj (C : zCx p s m args c Γ cc nL own) {t k a idx r : Nat} {x : Int} (d : decode cc pc = .ok (.putfield idx, 3)) (w : zLk own idx t k) (hf : zfk t k = (1, 0)) (hr0 : 100 * t + k = r) (kk : Z p l e R s m args below meth c Γ nL cells slots Q (pc + 3) ls st (zuJ G r a 0 x)) : Z p l e R s m args below meth c Γ nL cells slots Q pc ls (zj x :: zr t a :: st) G := by
  intro hG hl hs
  obtain ⟨t1, t2, hkn⟩ := zfk_lt (t := t) (k := k) (by rw [hf]; simp)
  have hty : zty0 t k = .long := zkty_1 (by have := zcl_k t1 t2 k hkn; rwa [hf] at this)
  have hx := zs_hd hs
  exact zs_putW C d w (by rw [hf]; simp) (by rw [hf]; simp) hty rfl rfl (by rw [zF, hf, hr0, zuJ_2, if_pos ⟨rfl, rfl, rfl⟩]; rfl) (fun j hj _ => zF_uJ hr0 hj) (fun b hb => zE_uJ hb) (fun hG => zG_J hG hx) kk hG hl hs
theorem zs_putd (C : zCx p s m args c Γ cc nL own) {t k a idx r t' b : Nat} (d : decode cc pc = .ok (.putfield idx, 3)) (w : zLk own idx t k) (hf : zfk t k = (3, t')) (ht : t' < 200) (hr0 : 100 * t + k = r) (kk : Z p l e R s m args below meth c Γ nL cells slots Q (pc + 3) ls st (zuP G r a b)) : Z p l e R s m args below meth c Γ nL cells slots Q pc ls (zr t' b :: zr t a :: st) G := by
  intro hG hl hs
  obtain ⟨t1, t2, hkn⟩ := zfk_lt (t := t) (k := k) (by rw [hf]; simp)
  have hty := zkty_3 (ty := zty0 t k) (by have := zcl_k t1 t2 k hkn; rwa [hf] at this)
  have hb := (zk_ty (zs_hd hs) ht).1
  have h100 := zN_100 t1 t2
  exact zs_putW C d w (by rw [hf]; simp) (by rw [hf]; simp) rfl (by rcases hty with ⟨q, e⟩ | ⟨q, e⟩ <;> rw [e] <;> rfl) (by rcases hty with ⟨q, e⟩ | ⟨q, e⟩ <;> rw [e] <;> rfl) (by rw [zF, hf, hr0, zuP_3, if_pos ⟨rfl, rfl⟩]; rfl) (fun j hj _ => zF_uP hr0 hj) (fun b hb => zE_uP hb) (fun hG => by rw [← hr0]; exact zG_P hG (by omega) (by rw [hf]) (by rw [hf]; exact hb)) kk hG hl hs
/-! arrays -/
theorem zs_iald (C : zCx p s m args c Γ cc nL own) {t a n r : Nat} {i lo hi : Int} (d : decode cc pc = .ok (.iaload, 1)) (hz : zat t = (0, n)) (ht : t < 200) (hi0 : 0 ≤ i ∧ i < n) (hr0 : 2000 + t = r) (hr : zrg r i.toNat = (lo, hi)) (kk : ∀ v : Int, v = G.1 r a i.toNat → lo ≤ v → v ≤ hi → Z p l e R s m args below meth c Γ nL cells slots Q (pc + 1) ls (zi v :: st) G) : Z p l e R s m args below meth c Γ nL cells slots Q pc ls (zi i :: zr t a :: st) G := by
  intro hG hl hs H locs rl hP hS hL
  obtain ⟨hta, ht0⟩ := zk_ty (zs_hd (zs_tl hs)) ht
  obtain ⟨hK, hLk, hX, hN⟩ := C.2.2.2.2.2.1
  obtain ⟨q0, hq0⟩ := va_pl_get (X := []) (f := zE Γ G) ((hLk.2.1 a).mpr (by omega))
  rw [zE_int hta hz] at hq0
  have hik := zs_hd hs
  have h1 := hG.1 r a i.toNat
  have h2 := zrg_in r i.toNat
  rw [hr] at h1 h2
  refine va_iald C.1 C.2.1 hK hP q0 0 hq0 rfl (zi_in hi0 hik.2) d ?_
  rw [zi_nat hi0.1 hik.2, hr0]
  exact kk _ rfl h1.1 h1.2 hG hl (zs_cons (v := zi (G.1 r a i.toNat)) ⟨by simp at h1 h2; omega, by simp at h1 h2; omega⟩ (zs_tl (zs_tl hs))) H locs rl hP hS hL
theorem zs_zald (C : zCx p s m args c Γ cc nL own) {t a n r : Nat} {i lo hi : Int} (d : decode cc pc = .ok (.baload, 1)) (hz : zat t = (2, n)) (ht : t < 200) (hi0 : 0 ≤ i ∧ i < n) (hr0 : 2000 + t = r) (hr : zrg r i.toNat = (lo, hi)) (kk : ∀ v : Int, v = G.1 r a i.toNat → lo ≤ v → v ≤ hi → Z p l e R s m args below meth c Γ nL cells slots Q (pc + 1) ls (zi v :: st) G) : Z p l e R s m args below meth c Γ nL cells slots Q pc ls (zi i :: zr t a :: st) G := by
  intro hG hl hs H locs rl hP hS hL
  obtain ⟨hta, ht0⟩ := zk_ty (zs_hd (zs_tl hs)) ht
  obtain ⟨hK, hLk, hX, hN⟩ := C.2.2.2.2.2.1
  obtain ⟨q0, hq0⟩ := va_pl_get (X := []) (f := zE Γ G) ((hLk.2.1 a).mpr (by omega))
  rw [zE_bool hta hz] at hq0
  have hik := zs_hd hs
  have h1 := hG.1 r a i.toNat
  have h2 := zrg_in r i.toNat
  rw [hr] at h1 h2
  refine va_zald C.1 C.2.1 hK hP q0 2 hq0 rfl (zi_in hi0 hik.2) d ?_
  rw [zi_nat hi0.1 hik.2, hr0]
  exact kk _ rfl h1.1 h1.2 hG hl (zs_cons (v := zi (G.1 r a i.toNat)) ⟨by simp at h1 h2; omega, by simp at h1 h2; omega⟩ (zs_tl (zs_tl hs))) H locs rl hP hS hL
theorem zs_lald (C : zCx p s m args c Γ cc nL own) {t a n r : Nat} {i : Int} (d : decode cc pc = .ok (.laload, 1)) (hz : zat t = (1, n)) (ht : t < 200) (hi0 : 0 ≤ i ∧ i < n) (hr0 : 2000 + t = r) (kk : ∀ v : Int, v = G.2.1 r a i.toNat → -9223372036854775808 ≤ v → v ≤ 9223372036854775807 → Z p l e R s m args below meth c Γ nL cells slots Q (pc + 1) ls (zj v :: st) G) : Z p l e R s m args below meth c Γ nL cells slots Q pc ls (zi i :: zr t a :: st) G := by
  intro hG hl hs H locs rl hP hS hL
  obtain ⟨hta, ht0⟩ := zk_ty (zs_hd (zs_tl hs)) ht
  obtain ⟨hK, hLk, hX, hN⟩ := C.2.2.2.2.2.1
  obtain ⟨q0, hq0⟩ := va_pl_get (X := []) (f := zE Γ G) ((hLk.2.1 a).mpr (by omega))
  rw [zE_long hta hz] at hq0
  have hik := zs_hd hs
  have h1 := hG.2.1 r a i.toNat
  refine va_lald C.1 C.2.1 hK hP q0 1 hq0 rfl (zi_in hi0 hik.2) d ?_
  rw [zi_nat hi0.1 hik.2, hr0]
  exact kk _ rfl h1.1 h1.2 hG hl (zs_cons (v := zj (G.2.1 r a i.toNat)) h1 (zs_tl (zs_tl hs))) H locs rl hP hS hL
theorem zupd_I {t a i : Nat} {x : Int} {f : Nat → Int32} (hf : f = fun j => Int32.ofInt (G.1 (2000 + t) a j)) : upd f i (Int32.ofInt x) = fun j => Int32.ofInt ((zuI G (2000 + t) a i x).1 (2000 + t) a j) := by
  subst hf
  funext j
  rw [zuI_1]
  by_cases h : j = i
  · rw [if_pos ⟨rfl, rfl, h⟩]
    simp [upd, h]
  · rw [if_neg (fun q => h q.2.2)]
    simp [upd, h]
theorem zupd_J {t a i : Nat} {x : Int} {f : Nat → Int64} (hf : f = fun j => Int64.ofInt (G.2.1 (2000 + t) a j)) : vp_updL f i (Int64.ofInt x) = fun j => Int64.ofInt ((zuJ G (2000 + t) a i x).2.1 (2000 + t) a j) := by
  subst hf
  funext j
  rw [zuJ_2]
  by_cases h : j = i
  · rw [if_pos ⟨rfl, rfl, h⟩]
    simp [vp_updL, h]
  · rw [if_neg (fun q => h q.2.2)]
    simp [vp_updL, h]
theorem zs_iast (C : zCx p s m args c Γ cc nL own) {t a n r : Nat} {i x lo hi : Int} (d : decode cc pc = .ok (.iastore, 1)) (hz : zat t = (0, n)) (ht : t < 200) (hi0 : 0 ≤ i ∧ i < n) (hr0 : 2000 + t = r) (hr : zrg r i.toNat = (lo, hi)) (hx : lo ≤ x ∧ x ≤ hi) (kk : Z p l e R s m args below meth c Γ nL cells slots Q (pc + 1) ls st (zuI G r a i.toNat x)) : Z p l e R s m args below meth c Γ nL cells slots Q pc ls (zi x :: zi i :: zr t a :: st) G := by
  intro hG hl hs H locs rl hP hS hL
  obtain ⟨hta, ht0⟩ := zk_ty (zs_hd (zs_tl (zs_tl hs))) ht
  obtain ⟨hK, hLk, hX, hN⟩ := C.2.2.2.2.2.1
  have hm : a ∈ Γ.2.2.2.2.1 := (hLk.2.1 a).mpr (by omega)
  obtain ⟨q0, hq0⟩ := va_pl_get (X := []) (f := zE Γ G) hm
  have hq1 := hq0
  rw [zE_int hta hz] at hq0
  have hik := zs_hd (zs_tl hs)
  have hD := zD_ok hLk (zE Γ G)
  refine va_iast C.1 C.2.1 hK hP hD hS q0 0 hq0 rfl (zi_in hi0 hik.2) d (fun H1 locs1 hP1 _ hS1 => ?_)
  rw [zi_nat hi0.1 hik.2, zupd_I rfl] at hP1
  have hset := (va_pl_set (A := zA Γ) (X := []) (f := zE Γ G) (e := .inl (Γ.2.2.1 0, n, .inl (fun j => Int32.ofInt ((zuI G (2000 + t) a i.toNat x).1 (2000 + t) a j)))) hD hm hq1).trans (zW_up (G' := zuI G (2000 + t) a i.toNat x) (by rw [zE_int hta hz]) (fun b hb => zE_uI hb))
  subst hr0
  exact kk (zG_I hG (by rw [hr]; exact hx.1) (by rw [hr]; exact hx.2)) hl (zs_tl (zs_tl (zs_tl hs))) H1 locs1 rl (hset ▸ hP1) hS1 hL
theorem zs_zast (C : zCx p s m args c Γ cc nL own) {t a n r : Nat} {i x lo hi : Int} (d : decode cc pc = .ok (.bastore, 1)) (hz : zat t = (2, n)) (ht : t < 200) (hi0 : 0 ≤ i ∧ i < n) (hr0 : 2000 + t = r) (hr : zrg r i.toNat = (lo, hi)) (hx : lo ≤ x ∧ x ≤ hi) (hb : 0 ≤ x ∧ x ≤ 1) (kk : Z p l e R s m args below meth c Γ nL cells slots Q (pc + 1) ls st (zuI G r a i.toNat x)) : Z p l e R s m args below meth c Γ nL cells slots Q pc ls (zi x :: zi i :: zr t a :: st) G := by
  intro hG hl hs H locs rl hP hS hL
  obtain ⟨hta, ht0⟩ := zk_ty (zs_hd (zs_tl (zs_tl hs))) ht
  obtain ⟨hK, hLk, hX, hN⟩ := C.2.2.2.2.2.1
  have hm : a ∈ Γ.2.2.2.2.1 := (hLk.2.1 a).mpr (by omega)
  obtain ⟨q0, hq0⟩ := va_pl_get (X := []) (f := zE Γ G) hm
  have hq1 := hq0
  rw [zE_bool hta hz] at hq0
  have hik := zs_hd (zs_tl hs)
  have hD := zD_ok hLk (zE Γ G)
  have h01 : x = 0 ∨ x = 1 := by omega
  have hnar : vp_nar .boolean (Int32.ofInt x) = Int32.ofInt x := by rcases h01 with rfl | rfl <;> rfl
  refine va_zast C.1 C.2.1 hK hP hD hS q0 2 hq0 rfl (zi_in hi0 hik.2) d (fun H1 locs1 hP1 _ hS1 => ?_)
  rw [zi_nat hi0.1 hik.2, hnar, zupd_I rfl] at hP1
  have hset := (va_pl_set (A := zA Γ) (X := []) (f := zE Γ G) (e := .inl (Γ.2.2.1 2, n, .inl (fun j => Int32.ofInt ((zuI G (2000 + t) a i.toNat x).1 (2000 + t) a j)))) hD hm hq1).trans (zW_up (G' := zuI G (2000 + t) a i.toNat x) (by rw [zE_bool hta hz]) (fun b hb => zE_uI hb))
  subst hr0
  exact kk (zG_I hG (by rw [hr]; exact hx.1) (by rw [hr]; exact hx.2)) hl (zs_tl (zs_tl (zs_tl hs))) H1 locs1 rl (hset ▸ hP1) hS1 hL
theorem zs_last (C : zCx p s m args c Γ cc nL own) {t a n r : Nat} {i x : Int} (d : decode cc pc = .ok (.lastore, 1)) (hz : zat t = (1, n)) (ht : t < 200) (hi0 : 0 ≤ i ∧ i < n) (hr0 : 2000 + t = r) (kk : Z p l e R s m args below meth c Γ nL cells slots Q (pc + 1) ls st (zuJ G r a i.toNat x)) : Z p l e R s m args below meth c Γ nL cells slots Q pc ls (zj x :: zi i :: zr t a :: st) G := by
  intro hG hl hs H locs rl hP hS hL
  obtain ⟨hta, ht0⟩ := zk_ty (zs_hd (zs_tl (zs_tl hs))) ht
  obtain ⟨hK, hLk, hX, hN⟩ := C.2.2.2.2.2.1
  have hm : a ∈ Γ.2.2.2.2.1 := (hLk.2.1 a).mpr (by omega)
  obtain ⟨q0, hq0⟩ := va_pl_get (X := []) (f := zE Γ G) hm
  have hq1 := hq0
  rw [zE_long hta hz] at hq0
  have hik := zs_hd (zs_tl hs)
  have hD := zD_ok hLk (zE Γ G)
  refine va_last C.1 C.2.1 hK hP hD hS q0 1 hq0 rfl (zi_in hi0 hik.2) d (fun H1 locs1 hP1 _ hS1 => ?_)
  rw [zi_nat hi0.1 hik.2, zupd_J rfl] at hP1
  have hset := (va_pl_set (A := zA Γ) (X := []) (f := zE Γ G) (e := .inl (Γ.2.2.1 1, n, .inr (.inl (fun j => Int64.ofInt ((zuJ G (2000 + t) a i.toNat x).2.1 (2000 + t) a j))))) hD hm hq1).trans (zW_up (G' := zuJ G (2000 + t) a i.toNat x) (by rw [zE_long hta hz]) (fun b hb => zE_uJ hb))
  subst hr0
  exact kk (zG_J hG (zs_hd hs)) hl (zs_tl (zs_tl (zs_tl hs))) H1 locs1 rl (hset ▸ hP1) hS1 hL
theorem zs_alen (C : zCx p s m args c Γ cc nL own) {t a n : Nat} (d : decode cc pc = .ok (.arraylength, 1)) (hz : zat t = (0, n)) (ht : t < 200) (hn : n ≤ 2147483647) (kk : Z p l e R s m args below meth c Γ nL cells slots Q (pc + 1) ls (zi (n : Int) :: st) G) : Z p l e R s m args below meth c Γ nL cells slots Q pc ls (zr t a :: st) G := by
  intro hG hl hs H locs rl hP hS hL
  obtain ⟨hta, ht0⟩ := zk_ty (zs_hd hs) ht
  obtain ⟨hK, hLk, hX, hN⟩ := C.2.2.2.2.2.1
  obtain ⟨q0, hq0⟩ := va_pl_get (X := []) (f := zE Γ G) ((hLk.2.1 a).mpr (by omega))
  rw [zE_int hta hz] at hq0
  exact va_alen C.1 C.2.1 hK hP q0 0 hq0 (ty := .int) rfl (v := Int32.ofInt (n : Int)) (by rw [Int32.ofInt_eq_ofNat]) d (kk hG hl (zs_cons (v := zi (n : Int)) ⟨by omega, by omega⟩ (zs_tl hs)) H locs rl hP hS hL)
/-! the arrays outside: type 200 + e -/
theorem zs_xald (C : zCx p s m args c Γ cc nL own) {t x : Nat} {i : Int} (ex : Nat) (d : decode cc pc = .ok (.iaload, 1)) (he : ex < 3) (ht : t = 200 + ex) (hi0 : 0 ≤ i ∧ i < Γ.2.2.2.2.2.2.1 ex) (kk : ∀ v : Int, v = Γ.2.2.2.2.2.2.2 ex i.toNat → -2147483648 ≤ v → v ≤ 2147483647 → Z p l e R s m args below meth c Γ nL cells slots Q (pc + 1) ls (zi v :: st) G) : Z p l e R s m args below meth c Γ nL cells slots Q pc ls (zi i :: zr t x :: st) G := by
  intro hG hl hs H locs rl hP hS hL
  obtain ⟨hK, hLk, hX, hN⟩ := C.2.2.2.2.2.1
  have hik := zs_hd hs
  have hx : x = Γ.2.2.2.2.2.1 ex := by
    rcases zs_hd (zs_tl hs) with q | q
    · exact absurd q.1 (by omega)
    · have := q.2
      simp only [show t - 200 = ex by omega] at this
      exact this
  subst hx
  obtain ⟨hT, hr, -⟩ := hX.2.2 ex he
  refine va_ti C.1 C.2.1 hT hS (zi_in hi0 hik.2) (v := .int (Int32.ofInt (Γ.2.2.2.2.2.2.2 ex i.toNat))) (by rw [zi_nat hi0.1 hik.2]) d ?_
  exact kk _ rfl (hr _).1 (hr _).2 hG hl (zs_cons (v := zi (Γ.2.2.2.2.2.2.2 ex i.toNat)) (hr _) (zs_tl (zs_tl hs))) H locs rl hP hS hL
theorem zs_most (C : zCx p s m args c Γ cc nL own) {idx : Nat} {host : String} (d : decode cc pc = .ok (.getstatic idx, 3)) (w : (own, idx, "ConfessionMill", "MOST", "[I", host) ∈ zNs) (kk : Z p l e R s m args below meth c Γ nL cells slots Q (pc + 3) ls (zr 200 (Γ.2.2.2.2.2.1 0) :: st) G) : Z p l e R s m args below meth c Γ nL cells slots Q pc ls st G := by
  intro hG hl hs H locs rl hP hS hL
  obtain ⟨hK, hLk, hX, hN⟩ := C.2.2.2.2.2.1
  exact va_getsN C.1 C.2.1 hX.1 hS C.2.2.2.1 (va_Nw.use rfl (hN _ w)) (fun x hx => hx) d (kk hG hl (zs_cons (v := zr 200 (Γ.2.2.2.2.2.1 0)) (Or.inr ⟨by simp, congrArg Γ.2.2.2.2.2.1 (show 0 = 200 - 200 by decide)⟩) hs) H locs rl hP hS hL)
theorem zs_binds (C : zCx p s m args c Γ cc nL own) {idx : Nat} (d : decode cc pc = .ok (.getstatic idx, 3)) (w : Cond.fieldLink own idx "ConfessionMill$Reader" "BINDS" "[I" ∈ zTb) (kk : Z p l e R s m args below meth c Γ nL cells slots Q (pc + 3) ls (zr 201 (Γ.2.2.2.2.2.1 1) :: st) G) : Z p l e R s m args below meth c Γ nL cells slots Q pc ls st G := by
  intro hG hl hs H locs rl hP hS hL
  obtain ⟨hK, hLk, hX, hN⟩ := C.2.2.2.2.2.1
  exact va_gets C.1 C.2.1 hX.2.1 hS C.2.2.2.1 (C.2.2.2.2.1 _ w) (fun x hx => hx) d (kk hG hl (zs_cons (v := zr 201 (Γ.2.2.2.2.2.1 1)) (Or.inr ⟨by simp, congrArg Γ.2.2.2.2.2.1 (show 1 = 201 - 200 by decide)⟩) hs) H locs rl hP hS hL)
end ZH
