/-! a part of the world, by types -/
def zre (P : Nat → Bool) (Γ : zΓ) : zΓ := (fun a => if P (Γ.1 a) = true then Γ.1 a else 0, Γ.2.1, Γ.2.2.1, Γ.2.2.2.1, Γ.2.2.2.2.1.filter (fun a => P (Γ.1 a)), Γ.2.2.2.2.2)
def zmx (P : Nat → Bool) (Γ : zΓ) (G' G : zH) : zH := (fun r a i => if P (Γ.1 a) = true then G'.1 r a i else G.1 r a i, fun r a i => if P (Γ.1 a) = true then G'.2.1 r a i else G.2.1 r a i, fun r a => if P (Γ.1 a) = true then G'.2.2 r a else G.2.2 r a)
def zcls (P : Nat → Bool) : Prop := ∀ t : Nat, t < 11 → ∀ k : Nat, k < 91 → P t = true → ((zfk t k).1 = 2 ∨ (zfk t k).1 = 3) → P (zfk t k).2 = true
def cT (t : Nat) : Bool := decide (t ≤ 9) || (decide (11 ≤ t) && decide (t ≤ 56))
def rT (t : Nat) : Bool := !cT t
set_option maxRecDepth 100000 in
theorem cT_c : zcls cT := by unfold zcls; decide +kernel
set_option maxRecDepth 100000 in
theorem rT_c : zcls rT := by unfold zcls; decide +kernel
theorem zfk_91 {t k : Nat} (h : (zfk t k).1 = 2 ∨ (zfk t k).1 = 3) : t < 11 ∧ k < 91 := by
  obtain ⟨h1, h2, h3⟩ := zfk_lt (t := t) (k := k) (by omega)
  have h4 : zN t ≤ 91 := zt_cases (P := fun t => zN t ≤ 91) h1 h2 (by decide) (by decide) (by decide) (by decide) (by decide) (by decide) (by decide) (by decide) (by decide) (by decide)
  omega
set_option maxRecDepth 100000 in
theorem zfk_n0 : ∀ t : Nat, t < 11 → ∀ k : Nat, k < 91 → ((zfk t k).1 = 2 ∨ (zfk t k).1 = 3) → (zfk t k).2 ≠ 0 := by decide +kernel
theorem zre_1 {P : Nat → Bool} {Γ : zΓ} {a : Nat} (h : P (Γ.1 a) = true) : (zre P Γ).1 a = Γ.1 a := if_pos h
theorem zre_0 {P : Nat → Bool} {Γ : zΓ} {a : Nat} (h : ¬ P (Γ.1 a) = true) : (zre P Γ).1 a = 0 := if_neg h
theorem zre_n {P : Nat → Bool} {Γ : zΓ} {a t : Nat} (h : (zre P Γ).1 a = t) (h0 : t ≠ 0) : P (Γ.1 a) = true ∧ Γ.1 a = t := by
  by_cases q : P (Γ.1 a) = true
  · exact ⟨q, (zre_1 q).symm.trans h⟩
  · rw [zre_0 q] at h
    exact absurd h.symm h0
theorem zA_re {P : Nat → Bool} {Γ : zΓ} {a : Nat} (h : zA (zre P Γ) a) : zA Γ a := fun q => h (by
  show (if P (Γ.1 a) = true then Γ.1 a else 0) = 0
  rw [q]
  split <;> rfl)
theorem zLok_re {P : Nat → Bool} (hP : zcls P) {Γ : zΓ} (h : zLok Γ) : zLok (zre P Γ) := by
  obtain ⟨h1, h2, h3⟩ := h
  refine ⟨h1.filter _, fun a => ?_, fun t k a ht hk => ?_⟩
  · show a ∈ Γ.2.2.2.2.1.filter _ ↔ _
    rw [List.mem_filter, h2 a]
    show Γ.1 a ≠ 0 ∧ P (Γ.1 a) = true ↔ (if P (Γ.1 a) = true then Γ.1 a else 0) ≠ 0
    by_cases q : P (Γ.1 a) = true
    · rw [if_pos q]; exact ⟨fun z => z.1, fun z => ⟨z, q⟩⟩
    · rw [if_neg q]; exact ⟨fun z => absurd z.2 q, fun z => absurd rfl z⟩
  · obtain ⟨b1, b2⟩ := zfk_91 (Or.inl hk)
    have t0 : t ≠ 0 := by
      rintro rfl
      have : (zfk 0 k).1 = 9 := rfl
      omega
    obtain ⟨q1, q2⟩ := zre_n ht t0
    have e := h3 t k a q2 hk
    show (zre P Γ).1 (Γ.2.1 a k) = _
    rw [zre_1 (by rw [e]; exact hP t b1 k b2 (by rw [← q2]; exact q1) (Or.inl hk))]
    exact e
theorem zG_re {P : Nat → Bool} (hP : zcls P) {Γ : zΓ} {G : zH} (h : zG Γ G) : zG (zre P Γ) G := by
  refine ⟨h.1, h.2.1, fun t k a ht hk => ?_⟩
  obtain ⟨b1, b2⟩ := zfk_91 (Or.inr hk)
  have t0 : t ≠ 0 := by
    rintro rfl
    have : (zfk 0 k).1 = 9 := rfl
    omega
  obtain ⟨q1, q2⟩ := zre_n ht t0
  have e := h.2.2 t k a q2 hk
  rw [zre_1 (by rw [e]; exact hP t b1 k b2 (by rw [← q2]; exact q1) (Or.inr hk))]
  exact e
theorem zG_mx {P : Nat → Bool} {Γ : zΓ} {G G' : zH} (h : zG Γ G) (h' : zG (zre P Γ) G') : zG Γ (zmx P Γ G' G) := by
  refine ⟨fun r a i => ?_, fun r a i => ?_, fun t k a ht hk => ?_⟩
  · show _ ≤ (if P (Γ.1 a) = true then G'.1 r a i else G.1 r a i) ∧ (if P (Γ.1 a) = true then G'.1 r a i else G.1 r a i) ≤ _
    split
    · exact h'.1 r a i
    · exact h.1 r a i
  · show _ ≤ (if P (Γ.1 a) = true then G'.2.1 r a i else G.2.1 r a i) ∧ (if P (Γ.1 a) = true then G'.2.1 r a i else G.2.1 r a i) ≤ _
    split
    · exact h'.2.1 r a i
    · exact h.2.1 r a i
  · obtain ⟨b1, b2⟩ := zfk_91 (Or.inr hk)
    show Γ.1 (if P (Γ.1 a) = true then G'.2.2 (100 * t + k) a else G.2.2 (100 * t + k) a) = _
    by_cases q : P (Γ.1 a) = true
    · rw [if_pos q]
      exact (zre_n (h'.2.2 t k a ((zre_1 q).trans ht) hk) (zfk_n0 t b1 k b2 (Or.inr hk))).2
    · rw [if_neg q]
      exact h.2.2 t k a ht hk
theorem va_P_of {D : va_G} {cl : List vw_C} {L : List Nat} {f : Nat → va_E} {H : Heap} (h : ∀ a ∈ L, va_at D cl (a, f a) H) : va_P D cl (va_pl L f) H := fun k q hk => by
  obtain ⟨a, ha, rfl⟩ := List.mem_map.mp (List.mem_of_getElem? hk)
  exact h a ha
theorem va_P_at {D : va_G} {cl : List vw_C} {L : List Nat} {f : Nat → va_E} {H : Heap} (h : va_P D cl (va_pl L f) H) {a : Nat} (ha : a ∈ L) : va_at D cl (a, f a) H := by
  obtain ⟨k, hk⟩ := List.getElem?_of_mem (List.mem_map.mpr ⟨a, ha, rfl⟩ : (a, f a) ∈ va_pl L f)
  exact h k _ hk
theorem zE_re {P : Nat → Bool} {Γ : zΓ} {G : zH} {a : Nat} (h : P (Γ.1 a) = true) : zE (zre P Γ) G a = zE Γ G a := by
  have e1 : (zre P Γ).1 a = Γ.1 a := zre_1 h
  have e3 : (zre P Γ).2.2.1 = Γ.2.2.1 := rfl
  unfold zE
  rw [e1, e3]
  rfl
theorem zMet_re {P : Nat → Bool} (hP : zcls P) {l : Launch} {Γ : zΓ} {y : MethodName} {b : ByteArray} {mx lv : Nat} {ret : Option FieldType} {av : List zV} {G : zH} {post : Option zV → zH → Prop} (hav : ∀ x ∈ av, zk Γ x → zk (zre P Γ) x) (h : zMet l (zre P Γ) y b mx ret lv av G post) : zMet l Γ y b mx ret lv av G (fun r G2 => ∃ G' : zH, post r G' ∧ G2 = zmx P Γ G' G) := by
  intro p e h1 h2 h3 s m args below h4 h5 h6 h7
  obtain ⟨a1, ⟨a2, aL, ⟨x1, x2, x3⟩, aN⟩, a3, a4, a5⟩ := h6
  have h6' : zPc (zre P Γ) av G args s := by
    refine ⟨a1, ⟨a2, zLok_re hP aL, ⟨?_, ?_, fun e9 he => ?_⟩, aN⟩, zG_re hP a3, fun x hx => hav x hx (a4 x hx), ?_⟩
    · obtain ⟨cf, kf, fi, f, a, cell, z1, z2, z3, z4, z5, z6, z7, z8⟩ := x1
      exact ⟨cf, kf, fi, f, a, cell, z1, z2, z3, z4, z5, z6, z7, fun q => z8 (zA_re q)⟩
    · obtain ⟨cf, kf, fi, f, a, cell, z1, z2, z3, z4, z5, z6, z7, z8⟩ := x2
      exact ⟨cf, kf, fi, f, a, cell, z1, z2, z3, z4, z5, z6, z7, fun q => z8 (zA_re q)⟩
    · obtain ⟨⟨cell, z1, z2, z3, z4, z5, z6, z7⟩, y2, y3⟩ := x3 e9 he
      exact ⟨⟨cell, z1, z2, z3, z4, z5, z6, fun q => z7 (zA_re q)⟩, y2, y3⟩
    · refine va_P_of (fun a ha => ?_)
      obtain ⟨m1, m2⟩ := List.mem_filter.mp (show a ∈ Γ.2.2.2.2.1.filter (fun a => P (Γ.1 a)) from ha)
      rw [zE_re m2]
      exact va_P_at a5 m1
  obtain ⟨n, o, k1, k2, k3, ⟨⟨⟨r, G', q1, q2, q3, q4, q5⟩, q6⟩, L9, q7, q8⟩⟩ := h p e h1 h2 h3 s m args below h4 h5 h6' h7
  refine ⟨n, o, k1, k2, k3, ⟨⟨⟨r, zmx P Γ G' G, q1, fun x hx => ?_, ⟨G', q3, rfl⟩, zG_mx a3 q4, va_P_of (fun a ha => ?_)⟩, q6.1, fun q hq hn => q6.2 q hq (fun z => hn (zA_re z))⟩, L9, q7, fun q hq => zA_re (q8 q hq)⟩⟩
  · have z := q2 x hx
    rcases x with x | x | ⟨t, a⟩
    · exact z
    · exact z
    · rcases z with ⟨z1, z2, z3⟩ | z
      · exact Or.inl ⟨z1, z2, (zre_n z3 z2).2⟩
      · exact Or.inr z
  · by_cases q : P (Γ.1 a) = true
    · have e : zE Γ (zmx P Γ G' G) a = zE (zre P Γ) G' a := by
        rw [zE_re q]
        exact zE_same (fun r i => if_pos q) (fun r i => if_pos q) (fun r => if_pos q)
      rw [e]
      exact va_P_at q5 (List.mem_filter.mpr ⟨ha, q⟩ : a ∈ Γ.2.2.2.2.1.filter (fun a => P (Γ.1 a)))
    · have e : zE Γ (zmx P Γ G' G) a = zE Γ G a := zE_same (fun r i => if_neg q) (fun r i => if_neg q) (fun r => if_neg q)
      rw [e]
      have z := va_P_at a5 ha
      exact z.kept (q6.2 a z.lt (fun z9 => z9 (zre_0 q)))
theorem zk_re {P : Nat → Bool} {Γ : zΓ} {av : List zV} (h : ∀ t a, zr t a ∈ av → t < 200 → P t = true) : ∀ x ∈ av, zk Γ x → zk (zre P Γ) x := fun x hx hk => by
  rcases x with x | x | ⟨t, a⟩
  · exact hk
  · exact hk
  · rcases hk with ⟨z1, z2, z3⟩ | z
    · exact Or.inl ⟨z1, z2, (zre_1 (by rw [z3]; exact h t a hx z1)).trans z3⟩
    · exact Or.inr z
theorem zMet_rei {P : Nat → Bool} (hP : zcls P) {l : Launch} {Γ : zΓ} {y : MethodName} {b : ByteArray} {mx lv : Nat} {ret : Option FieldType} {av : List zV} {G : zH} {post : Int → zH → Prop} (hav : ∀ t a, zr t a ∈ av → t < 200 → P t = true) (h : zMet l (zre P Γ) y b mx ret lv av G (zpi post)) : zMet l Γ y b mx ret lv av G (zpi (fun x G2 => ∃ G' : zH, post x G' ∧ G2 = zmx P Γ G' G)) :=
  zMet_mo (zMet_re hP (zk_re hav) h) (fun r G2 q => by
    obtain ⟨G', ⟨x, e, q1⟩, q2⟩ := q
    exact ⟨x, e, G', q1, q2⟩)
theorem zMet_rej {P : Nat → Bool} (hP : zcls P) {l : Launch} {Γ : zΓ} {y : MethodName} {b : ByteArray} {mx lv : Nat} {ret : Option FieldType} {av : List zV} {G : zH} {post : Int → zH → Prop} (hav : ∀ t a, zr t a ∈ av → t < 200 → P t = true) (h : zMet l (zre P Γ) y b mx ret lv av G (zpj post)) : zMet l Γ y b mx ret lv av G (zpj (fun x G2 => ∃ G' : zH, post x G' ∧ G2 = zmx P Γ G' G)) :=
  zMet_mo (zMet_re hP (zk_re hav) h) (fun r G2 q => by
    obtain ⟨G', ⟨x, e, q1⟩, q2⟩ := q
    exact ⟨x, e, G', q1, q2⟩)
