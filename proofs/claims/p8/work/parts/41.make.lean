/-! making: things that are not yet whole -/
def zAb (b : Nat) : Nat → Prop := fun q => b ≤ q
def zdf (r i : Nat) : Int := if r = 2058 then zWD.getD i 32 else 0
theorem zRT_0 : ∀ q ∈ zRT, q.2.1 ≤ 0 ∧ 0 ≤ q.2.2 := by decide +kernel
theorem zlook_0 : ∀ (l : List (Nat × Int × Int)), (∀ q ∈ l, q.2.1 ≤ 0 ∧ 0 ≤ q.2.2) → ∀ r : Nat, ((l.lookup r).getD zfull).1 ≤ 0 ∧ 0 ≤ ((l.lookup r).getD zfull).2
  | [], _, r => by
    rw [List.lookup]
    exact ⟨by decide, by decide⟩
  | (k, v) :: l, h, r => by
    rw [List.lookup]
    split
    · exact h (k, v) List.mem_cons_self
    · exact zlook_0 l (fun q hq => h q (List.mem_cons_of_mem _ hq)) r
theorem zWD_0 : ∀ x ∈ zWD, 0 ≤ x ∧ x ≤ 255 := by decide +kernel
theorem zWD_in (i : Nat) : 0 ≤ zWD.getD i 32 ∧ zWD.getD i 32 ≤ 255 := by
  rw [List.getD_eq_getElem?_getD]
  cases h : zWD[i]? with
  | none => exact ⟨by decide, by decide⟩
  | some x => exact zWD_0 x (List.mem_of_getElem? h)
theorem zdf_in (r i : Nat) : (zrg r i).1 ≤ zdf r i ∧ zdf r i ≤ (zrg r i).2 := by
  have hw := zWD_in i
  have hl := zlook_0 zRT zRT_0 r
  unfold zdf zrg
  repeat' split
  all_goals first | omega | (simp only [zcl]; omega) | (simp only [zcl, zfull]; omega)
/-- outside of the addresses all is as it begins -/
def zdo (Γ : zΓ) (G : zH) : Prop := ∀ a, Γ.1 a = 0 → (∀ r i, G.1 r a i = zdf r i) ∧ ∀ r i, G.2.1 r a i = 0
def zBn (Γ : zΓ) (G : zH) : Prop := zLok Γ ∧ zG Γ G ∧ zdo Γ G
/-- more things, the same world outside -/
def zxt (Γ Γ' : zΓ) : Prop := Γ'.2.2.1 = Γ.2.2.1 ∧ Γ'.2.2.2.1 = Γ.2.2.2.1 ∧ Γ'.2.2.2.2.2 = Γ.2.2.2.2.2 ∧ ∀ a, Γ.1 a ≠ 0 → Γ'.1 a = Γ.1 a ∧ Γ'.2.1 a = Γ.2.1 a
theorem zxt_rf {Γ : zΓ} : zxt Γ Γ := ⟨rfl, rfl, rfl, fun _ _ => ⟨rfl, rfl⟩⟩
theorem zxt_tr {Γ Γ1 Γ2 : zΓ} (h1 : zxt Γ Γ1) (h2 : zxt Γ1 Γ2) : zxt Γ Γ2 := ⟨h2.1.trans h1.1, h2.2.1.trans h1.2.1, h2.2.2.1.trans h1.2.2.1, fun a h => by
  have q1 := h1.2.2.2 a h
  have q2 := h2.2.2.2 a (by rw [q1.1]; exact h)
  exact ⟨q2.1.trans q1.1, q2.2.trans q1.2⟩⟩
theorem zxt_ty {Γ Γ' : zΓ} (h : zxt Γ Γ') {a t : Nat} (ht : Γ.1 a = t) (h0 : t ≠ 0) : Γ'.1 a = t := by rw [(h.2.2.2 a (by rw [ht]; exact h0)).1, ht]
theorem zxt_0 {Γ Γ' : zΓ} (h : zxt Γ Γ') {a : Nat} (h0 : Γ'.1 a = 0) : Γ.1 a = 0 := by
  rcases Nat.decEq (Γ.1 a) 0 with q | q
  · exact absurd (h.2.2.2 a q).1 (by rw [h0]; exact fun e => q e.symm)
  · exact q
theorem zxt_Xs {Γ Γ' : zΓ} (h : zxt Γ Γ') (hX : zXs Γ) : zXs Γ' := by
  unfold zXs
  rw [h.2.2.1]
  exact hX
/-- one thing more -/
def zad (Γ : zΓ) (q t : Nat) (fr : Nat → Nat) : zΓ := (fun a => if a = q then t else Γ.1 a, fun a k => if a = q then fr k else Γ.2.1 a k, Γ.2.2.1, Γ.2.2.2.1, Γ.2.2.2.2.1 ++ [q], Γ.2.2.2.2.2)
theorem zad_1 (Γ : zΓ) (q t : Nat) (fr : Nat → Nat) (a : Nat) : (zad Γ q t fr).1 a = if a = q then t else Γ.1 a := rfl
theorem zad_2 (Γ : zΓ) (q t : Nat) (fr : Nat → Nat) (a k : Nat) : (zad Γ q t fr).2.1 a k = if a = q then fr k else Γ.2.1 a k := rfl
theorem zad_q (Γ : zΓ) (q t : Nat) (fr : Nat → Nat) : (zad Γ q t fr).1 q = t := by rw [zad_1, if_pos rfl]
theorem zad_n {Γ : zΓ} {q t : Nat} {fr : Nat → Nat} {a : Nat} (h : a ≠ q) : (zad Γ q t fr).1 a = Γ.1 a := by rw [zad_1, if_neg h]
theorem zad_xt {Γ : zΓ} {q t : Nat} {fr : Nat → Nat} (hq : Γ.1 q = 0) : zxt Γ (zad Γ q t fr) := ⟨rfl, rfl, rfl, fun a h => ⟨zad_n (fun e => h (by rw [e]; exact hq)), funext fun k => by rw [zad_2, if_neg (fun e => h (by rw [e]; exact hq))]⟩⟩
theorem zE_ad {Γ : zΓ} {G : zH} {q t : Nat} {fr : Nat → Nat} {a : Nat} (h : a ≠ q) : zE (zad Γ q t fr) G a = zE Γ G a := by
  have e1 : (zad Γ q t fr).1 a = Γ.1 a := zad_n h
  have e2 : ∀ k, (zad Γ q t fr).2.1 a k = Γ.2.1 a k := fun k => by rw [zad_2, if_neg h]
  have e3 : (zad Γ q t fr).2.2.1 = Γ.2.2.1 := rfl
  unfold zE
  rw [e1, e3]
  have e4 : ∀ k, zF (zad Γ q t fr) G (Γ.1 a) k a = zF Γ G (Γ.1 a) k a := fun k => by unfold zF; rw [e2]
  simp only [e4]
theorem zWd_ad {Γ : zΓ} {G G' : zH} {q t : Nat} {fr : Nat → Nat} (hL : zLok Γ) (hq : Γ.1 q = 0) (hE : ∀ a, a ≠ q → zE Γ G' a = zE Γ G a) : zWd (zad Γ q t fr) G' = zWd Γ G ++ [(q, zE (zad Γ q t fr) G' q)] := by
  unfold zWd va_pl
  show (Γ.2.2.2.2.1 ++ [q]).map _ = _
  rw [List.map_append]
  refine congrArg (fun l => l ++ _) (List.map_congr_left (fun a ha => ?_))
  have hne : a ≠ q := fun e => (hL.2.1 a).mp ha (by rw [e]; exact hq)
  rw [zE_ad hne, hE a hne]
set_option maxRecDepth 100000 in
theorem zfk_nz {t k : Nat} (h : (zfk t k).1 = 2 ∨ (zfk t k).1 = 3) : (zfk t k).2 ≠ 0 := by
  obtain ⟨h1, h2, h3⟩ := zfk_lt (t := t) (k := k) (by rcases h with h | h <;> rw [h] <;> decide)
  exact zt_cases (P := fun t => ∀ k, k < zN t → ((zfk t k).1 = 2 ∨ (zfk t k).1 = 3) → (zfk t k).2 ≠ 0) h1 h2 (by decide +kernel) (by decide +kernel) (by decide +kernel) (by decide +kernel) (by decide +kernel) (by decide +kernel) (by decide +kernel) (by decide +kernel) (by decide +kernel) (by decide +kernel) k h3 h
theorem zLok_ad {Γ : zΓ} {q t : Nat} {fr : Nat → Nat} (hL : zLok Γ) (hq : Γ.1 q = 0) (ht : t ≠ 0) (hf : ∀ k, (zfk t k).1 = 2 → Γ.1 (fr k) = (zfk t k).2) : zLok (zad Γ q t fr) := by
  have hqL : q ∉ Γ.2.2.2.2.1 := fun h => (hL.2.1 q).mp h hq
  refine ⟨?_, fun a => ?_, fun t' k a h1 h2 => ?_⟩
  · show (Γ.2.2.2.2.1 ++ [q]).Nodup
    rw [List.nodup_append]
    refine ⟨hL.1, by simp, fun a ha b hb => ?_⟩
    rw [List.mem_singleton] at hb
    rw [hb]
    exact fun e => hqL (e ▸ ha)
  · show a ∈ Γ.2.2.2.2.1 ++ [q] ↔ _
    rw [List.mem_append, List.mem_singleton, zad_1]
    by_cases e : a = q
    · rw [if_pos e]
      exact ⟨fun _ => ht, fun _ => Or.inr e⟩
    · rw [if_neg e, hL.2.1 a]
      exact ⟨fun h => h.resolve_right e, Or.inl⟩
  · have hz := zfk_nz (t := t') (k := k) (Or.inl h2)
    have key : ∀ x, Γ.1 x = (zfk t' k).2 → (zad Γ q t fr).1 x = (zfk t' k).2 := fun x hx => by
      rw [zad_n (fun e => hz (by rw [← hx, e]; exact hq))]
      exact hx
    rw [zad_2]
    by_cases e : a = q
    · rw [if_pos e]
      have e1 : t = t' := by rw [zad_1, if_pos e] at h1; exact h1
      subst e1
      exact key _ (hf k h2)
    · rw [if_neg e]
      rw [zad_n e] at h1
      exact key _ (hL.2.2 t' k a h1 h2)
theorem zfk_big {t k : Nat} (h : 11 ≤ t) : (zfk t k).1 = 9 := by
  rcases Nat.decEq (zfk t k).1 9 with q | q
  · have := (zfk_lt q).2.1
    omega
  · exact q
/-- an array that is new -/
theorem zBn_arr {Γ : zΓ} {G : zH} {q t : Nat} {fr : Nat → Nat} (hB : zBn Γ G) (hq : Γ.1 q = 0) (ht : 11 ≤ t) : zBn (zad Γ q t fr) G := by
  obtain ⟨hL, hG, hd⟩ := hB
  refine ⟨zLok_ad hL hq (by omega) (fun k h => by rw [zfk_big ht] at h; exact absurd h (by decide)), ⟨hG.1, hG.2.1, fun t' k a h1 h2 => ?_⟩, fun a ha => ?_⟩
  · have hz := zfk_nz (t := t') (k := k) (Or.inr h2)
    by_cases e : a = q
    · rw [e, zad_q] at h1
      rw [← h1, zfk_big ht] at h2
      exact absurd h2 (by decide)
    · rw [zad_n e] at h1
      have h3 := hG.2.2 t' k a h1 h2
      rw [zad_n (fun e2 => hz (by rw [← h3, e2]; exact hq))]
      exact h3
  · by_cases e : a = q
    · rw [e, zad_q] at ha
      omega
    · rw [zad_n e] at ha
      exact hd a ha
/-! a thing that is not yet whole: which references are there, where they lead, the numbers -/
def zFu (t : Nat) (S : Nat → Bool) (fr : Nat → Nat) (iv : Nat → Int) (k : Nat) : Value := match (zfk t k).1 with
  | 0 => .int (Int32.ofInt (iv k))
  | 4 => .int (Int32.ofInt (iv k))
  | 1 => .long (Int64.ofInt 0)
  | _ => if S k then .ref (fr k) else .null
def zOb (t : Nat) (S : Nat → Bool) (fr : Nat → Nat) (iv : Nat → Int) : va_E := .inr (t - 1, (List.range (zN t)).map (zFu t S fr iv))
def zO0 (t : Nat) : va_E := zOb t (fun _ => false) (fun _ => 0) (fun _ => 0)
def zag (G : zH) (t q : Nat) (fr : Nat → Nat) (iv : Nat → Int) : zH := (fun r a i => if a = q ∧ i = 0 ∧ 100 * t ≤ r ∧ r < 100 * t + zN t then iv (r - 100 * t) else G.1 r a i, G.2.1, fun r a => if a = q then fr (r - 100 * t) else G.2.2 r a)
theorem zag_n {G : zH} {t q : Nat} {fr : Nat → Nat} {iv : Nat → Int} {a : Nat} (h : a ≠ q) (Γ : zΓ) : zE Γ (zag G t q fr iv) a = zE Γ G a :=
  zE_same (fun r i => by show (if _ then _ else _) = _; rw [if_neg (fun e => h e.1)]) (fun _ _ => rfl) (fun r => by show (if _ then _ else _) = _; rw [if_neg h])
theorem zag_at {G : zH} {t q k : Nat} {fr : Nat → Nat} {iv : Nat → Int} (hk : k < zN t) : (zag G t q fr iv).1 (100 * t + k) q 0 = iv k := by
  show (if _ then _ else _) = _
  rw [if_pos ⟨rfl, rfl, by omega, by omega⟩, show 100 * t + k - 100 * t = k by omega]
/-- which references are there: each leads to a thing of its type -/
def zOk (Γ : zΓ) (t : Nat) (S : Nat → Bool) (fr : Nat → Nat) : Prop := ∀ k, S k = true → Γ.1 (fr k) = (zfk t k).2 ∧ (zfk t k).2 ≠ 0
theorem zOk_0 {Γ : zΓ} {t : Nat} : zOk Γ t (fun _ => false) (fun _ => 0) := fun k h => absurd h (by simp)
def zuS (S : Nat → Bool) (k : Nat) : Nat → Bool := fun j => if j = k then true else S j
def zuR (fr : Nat → Nat) (k b : Nat) : Nat → Nat := fun j => if j = k then b else fr j
def zuV (iv : Nat → Int) (k : Nat) (x : Int) : Nat → Int := fun j => if j = k then x else iv j
theorem zOk_s {Γ : zΓ} {t : Nat} {S : Nat → Bool} {fr : Nat → Nat} {k b t' : Nat} (h : zOk Γ t S fr) (hf : (zfk t k).2 = t') (h0 : t' ≠ 0) (hb : Γ.1 b = t') : zOk Γ t (zuS S k) (zuR fr k b) := by
  intro j hj
  unfold zuR
  by_cases e : j = k
  · rw [if_pos e, e, hf]
    exact ⟨hb, h0⟩
  · rw [if_neg e]
    unfold zuS at hj
    rw [if_neg e] at hj
    exact h j hj
theorem zxt_fr {Γ Γ' : zΓ} (h : zxt Γ Γ') {a : Nat} (ha : Γ.1 a ≠ 0) : Γ'.2.1 a = Γ.2.1 a := (h.2.2.2 a ha).2
theorem zOk_x {Γ Γ' : zΓ} {t : Nat} {S : Nat → Bool} {fr : Nat → Nat} (hx : zxt Γ Γ') (h : zOk Γ t S fr) : zOk Γ' t S fr := fun k hk => ⟨zxt_ty hx (h k hk).1 (h k hk).2, (h k hk).2⟩
/-- the thing is whole -/
theorem zE_ob {Γ : zΓ} {G : zH} {q t : Nat} {S : Nat → Bool} {fr : Nat → Nat} {iv : Nat → Int} (hd : zdo Γ G) (hq : Γ.1 q = 0) (h1 : 1 ≤ t) (h2 : t ≤ 10) (hS : ∀ k, k < zN t → 2 ≤ (zfk t k).1 → (zfk t k).1 ≤ 3 → S k = true) (hk : ∀ k, k < zN t → (zfk t k).1 ≤ 4) : zE (zad Γ q t fr) (zag G t q fr iv) q = zOb t S fr iv := by
  rw [zE_cls (zad_q Γ q t fr) h2]
  unfold zOb
  refine congrArg (fun l => Sum.inr (t - 1, l)) (List.map_congr_left (fun k hk2 => ?_))
  rw [List.mem_range] at hk2
  have hN := zN_100 h1 h2
  have h4 := hk k hk2
  have hs := hS k hk2
  have e1 : (zag G t q fr iv).1 (100 * t + k) q 0 = iv k := by
    show (if _ then _ else _) = _
    rw [if_pos ⟨rfl, rfl, by omega, by omega⟩, show 100 * t + k - 100 * t = k by omega]
  have e2 : (zag G t q fr iv).2.1 (100 * t + k) q 0 = 0 := (hd q hq).2 _ _
  have e3 : (zag G t q fr iv).2.2 (100 * t + k) q = fr k := by
    show (if _ then _ else _) = _
    rw [if_pos rfl, show 100 * t + k - 100 * t = k by omega]
  have e4 : (zad Γ q t fr).2.1 q k = fr k := by rw [zad_2, if_pos rfl]
  unfold zF zFu
  rw [e1, e2, e3, e4]
  revert hs h4
  generalize (zfk t k).1 = n
  intro h4 hs
  rcases (show n = 0 ∨ n = 1 ∨ n = 2 ∨ n = 3 ∨ n = 4 by omega) with rfl | rfl | rfl | rfl | rfl
  · rfl
  · rfl
  · rw [hs (by omega) (by omega)]; rfl
  · rw [hs (by omega) (by omega)]; rfl
  · rfl
theorem zWd_ob {Γ : zΓ} {G : zH} {q t : Nat} {S : Nat → Bool} {fr : Nat → Nat} {iv : Nat → Int} (hB : zBn Γ G) (hq : Γ.1 q = 0) (h1 : 1 ≤ t) (h2 : t ≤ 10) (hS : ∀ k, k < zN t → 2 ≤ (zfk t k).1 → (zfk t k).1 ≤ 3 → S k = true) (hk : ∀ k, k < zN t → (zfk t k).1 ≤ 4) : zWd (zad Γ q t fr) (zag G t q fr iv) = zWd Γ G ++ [(q, zOb t S fr iv)] := by
  rw [zWd_ad hB.1 hq (fun a ha => zag_n ha Γ), zE_ob hB.2.2 hq h1 h2 hS hk]
theorem zBn_ob {Γ : zΓ} {G : zH} {q t : Nat} {S : Nat → Bool} {fr : Nat → Nat} {iv : Nat → Int} (hB : zBn Γ G) (hq : Γ.1 q = 0) (h1 : 1 ≤ t) (h2 : t ≤ 10) (hS : ∀ k, k < zN t → 2 ≤ (zfk t k).1 → (zfk t k).1 ≤ 3 → S k = true) (hO : zOk Γ t S fr) (hiv : ∀ k, k < zN t → (zrg (100 * t + k) 0).1 ≤ iv k ∧ iv k ≤ (zrg (100 * t + k) 0).2) : zBn (zad Γ q t fr) (zag G t q fr iv) := by
  obtain ⟨hL, hG, hd⟩ := hB
  have hfr : ∀ k, (zfk t k).1 = 2 ∨ (zfk t k).1 = 3 → Γ.1 (fr k) = (zfk t k).2 := fun k h => by
    have h3 := (zfk_lt (t := t) (k := k) (by rcases h with h | h <;> rw [h] <;> decide)).2.2
    exact (hO k (hS k h3 (by rcases h with h | h <;> omega) (by rcases h with h | h <;> omega))).1
  refine ⟨zLok_ad hL hq (by omega) (fun k h => hfr k (Or.inl h)), ⟨fun r a i => ?_, hG.2.1, fun t' k a e1 e2 => ?_⟩, fun a ha => ?_⟩
  · show _ ≤ (if _ then _ else _) ∧ (if _ then _ else _) ≤ _
    split
    · next e =>
      obtain ⟨-, e2, e3, e4⟩ := e
      have e5 := hiv (r - 100 * t) (by omega)
      rw [show 100 * t + (r - 100 * t) = r by omega] at e5
      rw [e2]
      exact e5
    · exact hG.1 r a i
  · have hz := zfk_nz (t := t') (k := k) (Or.inr e2)
    have key : ∀ x, Γ.1 x = (zfk t' k).2 → (zad Γ q t fr).1 x = (zfk t' k).2 := fun x hx => by
      rw [zad_n (fun e => hz (by rw [← hx, e]; exact hq))]
      exact hx
    show (zad Γ q t fr).1 (if _ then _ else _) = _
    by_cases e : a = q
    · rw [if_pos e]
      have e9 : t = t' := by rw [zad_1, if_pos e] at e1; exact e1
      subst e9
      rw [show 100 * t + k - 100 * t = k by omega]
      exact key _ (hfr k (Or.inr e2))
    · rw [if_neg e]
      rw [zad_n e] at e1
      exact key _ (hG.2.2 t' k a e1 e2)
  · by_cases e : a = q
    · rw [e, zad_q] at ha
      omega
    · rw [zad_n e] at ha
      refine ⟨fun r i => ?_, (hd a ha).2⟩
      show (if _ then _ else _) = _
      rw [if_neg (fun q2 => e q2.1)]
      exact (hd a ha).1 r i
/-- what lies outside of the addresses is laid as it began -/
def zno (Γ : zΓ) (G : zH) : zH := (fun r a i => if Γ.1 a = 0 then zdf r i else G.1 r a i, fun r a i => if Γ.1 a = 0 then 0 else G.2.1 r a i, G.2.2)
theorem zno_1 {Γ : zΓ} {G : zH} {a : Nat} (h : Γ.1 a ≠ 0) (r i : Nat) : (zno Γ G).1 r a i = G.1 r a i := by
  show (if _ then _ else _) = _
  rw [if_neg h]
theorem zWd_no {Γ : zΓ} {G : zH} (hL : zLok Γ) : zWd Γ (zno Γ G) = zWd Γ G := by
  unfold zWd va_pl
  refine List.map_congr_left (fun a ha => ?_)
  have h := (hL.2.1 a).mp ha
  rw [zE_same (G := G) (G' := zno Γ G) (fun r i => zno_1 h r i) (fun r i => by show (if _ then _ else _) = _; rw [if_neg h]) (fun _ => rfl)]
theorem zBn_no {Γ : zΓ} {G : zH} (hL : zLok Γ) (hG : zG Γ G) : zBn Γ (zno Γ G) := by
  refine ⟨hL, ⟨fun r a i => ?_, fun r a i => ?_, hG.2.2⟩, fun a ha => ⟨fun r i => ?_, fun r i => ?_⟩⟩
  · show _ ≤ (if _ then _ else _) ∧ (if _ then _ else _) ≤ _
    split
    · exact zdf_in r i
    · exact hG.1 r a i
  · show _ ≤ (if _ then _ else _) ∧ (if _ then _ else _) ≤ _
    split
    · exact ⟨by decide, by decide⟩
    · exact hG.2.1 r a i
  · show (if _ then _ else _) = _
    rw [if_pos ha]
  · show (if _ then _ else _) = _
    rw [if_pos ha]
/-! worlds by their members -/
theorem zP_mem {D : va_G} {cl : List vw_C} {ws ws' : va_W} {H : Heap} (h : va_P D cl ws H) (hs : ∀ q ∈ ws', q ∈ ws) : va_P D cl ws' H := fun k q hk => by
  obtain ⟨i, hi⟩ := List.getElem?_of_mem (hs q (List.mem_of_getElem? hk))
  exact h i q hi
theorem zD_iff {A : Nat → Prop} {ws : va_W} : va_D A ws ↔ (ws.map (fun q => q.1)).Nodup ∧ ∀ q ∈ ws, A q.1 := by
  constructor
  · intro h
    refine ⟨?_, fun q hq => ?_⟩
    · rw [List.nodup_iff_pairwise_ne, List.pairwise_iff_getElem]
      intro i j hi hj hij he
      rw [List.length_map] at hi hj
      rw [List.getElem_map, List.getElem_map] at he
      exact absurd (h.1 i j _ _ (List.getElem?_eq_getElem hi) (List.getElem?_eq_getElem hj) he) (by omega)
    · obtain ⟨i, hi⟩ := List.getElem?_of_mem hq
      exact h.2 i q hi
  · intro h
    refine ⟨fun i j p q hi hj he => ?_, fun k q hk => h.2 q (List.mem_of_getElem? hk)⟩
    obtain ⟨i1, i2⟩ := List.getElem?_eq_some_iff.mp hi
    obtain ⟨j1, j2⟩ := List.getElem?_eq_some_iff.mp hj
    have hn := h.1
    have l1 : i < (ws.map (fun q => q.1)).length := by rw [List.length_map]; exact i1
    have l2 : j < (ws.map (fun q => q.1)).length := by rw [List.length_map]; exact j1
    refine (List.getElem_inj (h₀ := l1) (h₁ := l2) hn).mp ?_
    rw [List.getElem_map, List.getElem_map, i2, j2]
    exact he
theorem zD_perm {A : Nat → Prop} {ws ws' : va_W} (h : va_D A ws) (hp : ws'.Perm ws) : va_D A ws' := by
  rw [zD_iff] at h ⊢
  exact ⟨(hp.map (fun q => q.1)).nodup_iff.mpr h.1, fun q hq => h.2 q (hp.mem_iff.mp hq)⟩
