/-! the classes by their types -/
def zCn (t : Nat) : String := match t with
  | 1 => RX0
  | 2 => RX1
  | 3 => RX2
  | 4 => RX3
  | 5 => RX4
  | 6 => RX5
  | 7 => RX6
  | 8 => RX7
  | 9 => RX8
  | _ => RX9
def zT (t : Nat) : u_T := match t with
  | 1 => TX0
  | 2 => TX1
  | 3 => TX2
  | 4 => TX3
  | 5 => TX4
  | 6 => TX5
  | 7 => TX6
  | 8 => TX7
  | 9 => TX8
  | _ => TX9
def zty0 (t : Nat) : Nat → FieldType := match t with
  | 1 => tyX0
  | 2 => tyX1
  | 3 => tyX2
  | 4 => tyX3
  | 5 => tyX4
  | 6 => tyX5
  | 7 => tyX6
  | 8 => tyX7
  | 9 => tyX8
  | _ => tyX9
theorem zt_cases {t : Nat} (h1 : 1 ≤ t) (h2 : t ≤ 10) {P : Nat → Prop} (a1 : P 1) (a2 : P 2) (a3 : P 3) (a4 : P 4) (a5 : P 5) (a6 : P 6) (a7 : P 7) (a8 : P 8) (a9 : P 9) (a10 : P 10) : P t := by
  rcases (show t = 1 ∨ t = 2 ∨ t = 3 ∨ t = 4 ∨ t = 5 ∨ t = 6 ∨ t = 7 ∨ t = 8 ∨ t = 9 ∨ t = 10 by omega) with rfl | rfl | rfl | rfl | rfl | rfl | rfl | rfl | rfl | rfl <;> assumption
theorem zcl_at {t : Nat} (h1 : 1 ≤ t) (h2 : t ≤ 10) : vwCl[t - 1]? = some (zCn t, zT t, zN t) := zt_cases (P := fun t => vwCl[t - 1]? = some (zCn t, zT t, zN t)) h1 h2 rfl rfl rfl rfl rfl rfl rfl rfl rfl rfl
theorem zin_mk {ws : List Cond} (h : ∀ w ∈ ws, w ∈ lw_tbl) (g : ws.all goodWord = true) : ∀ w ∈ ws, w ∈ zTb := fun w hw => List.mem_filter.mpr ⟨h w hw, List.all_eq_true.mp g w hw⟩
theorem zcl_in {t : Nat} (h1 : 1 ≤ t) (h2 : t ≤ 10) : ∀ w ∈ u_ws (zCn t) (zT t) (zN t), w ∈ zTb :=
  zt_cases (P := fun t => ∀ w ∈ u_ws (zCn t) (zT t) (zN t), w ∈ zTb) h1 h2 (zin_mk inX0 (by decide +kernel)) (zin_mk inX1 (by decide +kernel)) (zin_mk inX2 (by decide +kernel)) (zin_mk inX3 (by decide +kernel)) (zin_mk inX4 (by decide +kernel)) (zin_mk inX5 (by decide +kernel)) (zin_mk inX6 (by decide +kernel)) (zin_mk inX7 (by decide +kernel)) (zin_mk inX8 (by decide +kernel)) (zin_mk inX9 (by decide +kernel))
theorem zcl_ty {t : Nat} (h1 : 1 ≤ t) (h2 : t ≤ 10) : ∀ k, k < zN t → parseFieldDescriptor (zT t k).2.2.1 = some (zty0 t k) :=
  zt_cases (P := fun t => ∀ k, k < zN t → parseFieldDescriptor (zT t k).2.2.1 = some (zty0 t k)) h1 h2 tyX0_ok tyX1_ok tyX2_ok tyX3_ok tyX4_ok tyX5_ok tyX6_ok tyX7_ok tyX8_ok tyX9_ok
theorem zcl_nm {t : Nat} (h1 : 1 ≤ t) (h2 : t ≤ 10) : ∀ a, a < zN t → ∀ b, b < zN t → a ≠ b → (zT t a).2.1 ≠ (zT t b).2.1 :=
  zt_cases (P := fun t => ∀ a, a < zN t → ∀ b, b < zN t → a ≠ b → (zT t a).2.1 ≠ (zT t b).2.1) h1 h2 nmX0 nmX1 nmX2 nmX3 nmX4 nmX5 nmX6 nmX7 nmX8 nmX9
set_option maxRecDepth 100000 in
theorem zcl_cls {t : Nat} (h1 : 1 ≤ t) (h2 : t ≤ 10) : ∀ k, k < zN t → (zT t k).1 = zCn t :=
  zt_cases (P := fun t => ∀ k, k < zN t → (zT t k).1 = zCn t) h1 h2 (by decide +kernel) (by decide +kernel) (by decide +kernel) (by decide +kernel) (by decide +kernel) (by decide +kernel) (by decide +kernel) (by decide +kernel) (by decide +kernel) (by decide +kernel)
set_option maxRecDepth 100000 in
theorem zcl_fin {t : Nat} (h1 : 1 ≤ t) (h2 : t ≤ 10) : ∀ k, k < zN t → (zfk t k).1 ≠ 2 → (zT t k).2.2.2 = false :=
  zt_cases (P := fun t => ∀ k, k < zN t → (zfk t k).1 ≠ 2 → (zT t k).2.2.2 = false) h1 h2 (by decide +kernel) (by decide +kernel) (by decide +kernel) (by decide +kernel) (by decide +kernel) (by decide +kernel) (by decide +kernel) (by decide +kernel) (by decide +kernel) (by decide +kernel)
def zkty (k : Nat) (ty : FieldType) : Bool := match k with
  | 0 => ty == .int
  | 4 => ty == .boolean
  | 1 => ty == .long
  | _ => match ty with
    | .object _ => true
    | .array _ => true
    | _ => false
set_option maxRecDepth 100000 in
theorem zcl_k {t : Nat} (h1 : 1 ≤ t) (h2 : t ≤ 10) : ∀ k, k < zN t → zkty (zfk t k).1 (zty0 t k) = true :=
  zt_cases (P := fun t => ∀ k, k < zN t → zkty (zfk t k).1 (zty0 t k) = true) h1 h2 (by decide +kernel) (by decide +kernel) (by decide +kernel) (by decide +kernel) (by decide +kernel) (by decide +kernel) (by decide +kernel) (by decide +kernel) (by decide +kernel) (by decide +kernel)
theorem zfk_lt {t k : Nat} (h : (zfk t k).1 ≠ 9) : 1 ≤ t ∧ t ≤ 10 ∧ k < zN t := by
  have e : zFT.length = 11 := rfl
  have ht : t < 11 := by
    rcases Nat.lt_or_ge t 11 with q | q
    · exact q
    · exfalso
      apply h
      simp [zfk, List.getD_eq_getElem?_getD, List.getElem?_eq_none (l := zFT) (i := t) (by omega)]
  have h0 : t ≠ 0 := by
    rintro rfl
    exact h rfl
  refine ⟨by omega, by omega, ?_⟩
  have h9 : (zFT.getD t []).length = zN t := zt_cases (P := fun t => (zFT.getD t []).length = zN t) (by omega) (by omega) rfl rfl rfl rfl rfl rfl rfl rfl rfl rfl
  rcases Nat.lt_or_ge k (zN t) with q | q
  · exact q
  · exfalso
    apply h
    rw [zfk, List.getD_eq_getElem?_getD, List.getElem?_eq_none (by omega)]
    rfl
/-- a field's link, in the class or in its nest -/
def zLk (own : String) (idx t k : Nat) : Prop := Cond.fieldLink own idx (zCn t) (zT t k).2.1 (zT t k).2.2.1 ∈ zTb ∨ ∃ host, (own, idx, zCn t, (zT t k).2.1, (zT t k).2.2.1, host) ∈ zNs
/-! the heap written -/
def zuI (G : zH) (r a i : Nat) (x : Int) : zH := (fun r' a' i' => if r' = r ∧ a' = a ∧ i' = i then x else G.1 r' a' i', G.2.1, G.2.2)
def zuJ (G : zH) (r a i : Nat) (x : Int) : zH := (G.1, fun r' a' i' => if r' = r ∧ a' = a ∧ i' = i then x else G.2.1 r' a' i', G.2.2)
def zuP (G : zH) (r a b : Nat) : zH := (G.1, G.2.1, fun r' a' => if r' = r ∧ a' = a then b else G.2.2 r' a')
theorem zuI_1 (G : zH) (r a i : Nat) (x : Int) (r' a' i' : Nat) : (zuI G r a i x).1 r' a' i' = if r' = r ∧ a' = a ∧ i' = i then x else G.1 r' a' i' := rfl
theorem zuI_2 (G : zH) (r a i : Nat) (x : Int) : (zuI G r a i x).2 = G.2 := rfl
theorem zuJ_1 (G : zH) (r a i : Nat) (x : Int) : (zuJ G r a i x).1 = G.1 := rfl
theorem zuJ_2 (G : zH) (r a i : Nat) (x : Int) (r' a' i' : Nat) : (zuJ G r a i x).2.1 r' a' i' = if r' = r ∧ a' = a ∧ i' = i then x else G.2.1 r' a' i' := rfl
theorem zuJ_3 (G : zH) (r a i : Nat) (x : Int) : (zuJ G r a i x).2.2 = G.2.2 := rfl
theorem zuP_1 (G : zH) (r a b : Nat) : (zuP G r a b).1 = G.1 := rfl
theorem zuP_2 (G : zH) (r a b : Nat) : (zuP G r a b).2.1 = G.2.1 := rfl
theorem zuP_3 (G : zH) (r a b : Nat) (r' a' : Nat) : (zuP G r a b).2.2 r' a' = if r' = r ∧ a' = a then b else G.2.2 r' a' := rfl
theorem zG_I {Γ : zΓ} {G : zH} {r a i : Nat} {x : Int} (h : zG Γ G) (h1 : (zrg r i).1 ≤ x) (h2 : x ≤ (zrg r i).2) : zG Γ (zuI G r a i x) := by
  refine ⟨fun r' a' i' => ?_, h.2.1, h.2.2⟩
  rw [zuI_1]
  split
  · next q => obtain ⟨rfl, -, rfl⟩ := q; exact ⟨h1, h2⟩
  · exact h.1 r' a' i'
theorem zG_J {Γ : zΓ} {G : zH} {r a i : Nat} {x : Int} (h : zG Γ G) (h1 : -9223372036854775808 ≤ x ∧ x ≤ 9223372036854775807) : zG Γ (zuJ G r a i x) := by
  refine ⟨h.1, fun r' a' i' => ?_, h.2.2⟩
  rw [zuJ_2]
  split
  · exact h1
  · exact h.2.1 r' a' i'
theorem zG_P {Γ : zΓ} {G : zH} {t k a b : Nat} (h : zG Γ G) (hk : k < 100) (hf : (zfk t k).1 = 3) (hb : Γ.1 b = (zfk t k).2) : zG Γ (zuP G (100 * t + k) a b) := by
  refine ⟨h.1, h.2.1, fun t' k' a' ht' hf' => ?_⟩
  rw [zuP_3]
  split
  · next q =>
    have hk' : k' < 100 := by
      obtain ⟨q1, q2, q3⟩ := zfk_lt (t := t') (k := k') (by rw [hf']; decide)
      have h9 : zN t' < 100 := zt_cases (P := fun t => zN t < 100) q1 q2 (by decide) (by decide) (by decide) (by decide) (by decide) (by decide) (by decide) (by decide) (by decide) (by decide)
      omega
    have e1 : t' = t := by omega
    have e2 : k' = k := by omega
    subst e1; subst e2
    exact hb
  · exact h.2.2 t' k' a' ht' hf'
theorem zF_same {Γ : zΓ} {G G' : zH} {a : Nat} (h1 : ∀ r i, G'.1 r a i = G.1 r a i) (h2 : ∀ r i, G'.2.1 r a i = G.2.1 r a i) (h3 : ∀ r, G'.2.2 r a = G.2.2 r a) (t k : Nat) : zF Γ G' t k a = zF Γ G t k a := by
  unfold zF
  rw [h1, h2, h3]
theorem zE_same {Γ : zΓ} {G G' : zH} {a : Nat} (h1 : ∀ r i, G'.1 r a i = G.1 r a i) (h2 : ∀ r i, G'.2.1 r a i = G.2.1 r a i) (h3 : ∀ r, G'.2.2 r a = G.2.2 r a) : zE Γ G' a = zE Γ G a := by
  unfold zE
  simp only [zF_same h1 h2 h3, h1, h2]
theorem zW_up {Γ : zΓ} {G G' : zH} {a : Nat} {e : va_E} (he : e = zE Γ G' a) (hn : ∀ b, b ≠ a → zE Γ G' b = zE Γ G b) : va_pl Γ.2.2.2.2.1 (va_up (zE Γ G) a e) = zWd Γ G' := by
  apply va_pl_congr
  intro b
  unfold va_up
  split
  · next q => subst q; exact he
  · next q => exact (hn b q).symm
theorem zfs_set {Γ : zΓ} {G G' : zH} {t k a : Nat} {v : Value} (hv : v = zF Γ G' t k a) (hn : ∀ j, j ≠ k → j < zN t → zF Γ G' t j a = zF Γ G t j a) : ((List.range (zN t)).map (fun j => zF Γ G t j a)).set k v = (List.range (zN t)).map (fun j => zF Γ G' t j a) := by
  apply List.ext_getElem?
  intro j
  rw [List.getElem?_set]
  by_cases hj : j < zN t
  · by_cases hk : k = j
    · subst hk
      simp [hj, hv]
    · rw [if_neg hk]
      simp [hj, hn j (Ne.symm hk) hj]
  · by_cases hk : k = j
    · subst hk
      simp [hj]
    · rw [if_neg hk]
      simp [hj]
