/-! people paired -/
def prV (A W : aS) (p q : Nat) : Int := if wPair A W p q = -9223372036854775808 then 0 else wPair A W p q
theorem prV_in {A W : aS} (hT : TA A) (p q : Nat) : -1000000000000 ≤ prV A W p q ∧ prV A W p q ≤ 1000000000000 := by
  unfold prV
  split
  · decide
  · rename_i h
    by_cases hl : A 16 3 < A 17 3
    · exact (lV_in (hT.2.2.2.2.2.2.2 3 (by decide) hl).1).resolve_left h
    · exact absurd (lV_no (fun z => hl z.1)) h
/-- the best so far: whether there is one, its sum, whose partners -/
abbrev cpT : Type := Int × Int × (Nat → Int)
def ctk (q : Int) (m : Nat → Int) (x : cpT) : cpT := if x.1 = 0 ∨ x.2.1 < q then (1, q, m) else x
def mU (m : Nat → Int) (p o : Nat) : Nat → Int := fun j => if j = o then (p : Int) else if j = p then (o : Int) else m j
def mL (m : Nat → Int) (p : Nat) : Nat → Int := fun j => if j = p then -1 else m j
def sO (S : Nat → Bool) (o : Nat) : Nat → Bool := fun j => if j = o then true else S j
def clp (F : (Nat → Bool) → Int → (Nat → Int) → cpT → cpT) (v : Nat → Nat → Int) (p : Nat) (S : Nat → Bool) (q : Int) (m : Nat → Int) : Nat → cpT → cpT
  | 0, x => x
  | k + 1, x => if S (p + 1 + k) = true then clp F v p S q m k x else F (sO S (p + 1 + k)) (q + v p (p + 1 + k)) (mU m p (p + 1 + k)) (clp F v p S q m k x)
def cpf (n : Nat) (v : Nat → Nat → Int) : Nat → Nat → (Nat → Bool) → Bool → Int → (Nat → Int) → cpT → cpT
  | 0, _, _, _, _, _, x => x
  | d + 1, p, S, l, q, m, x => if n ≤ p then ctk q m x else if S p = true then cpf n v d (p + 1) S l q m x else if l = true then cpf n v d (p + 1) S false q (mL m p) (clp (fun S' q' m' y => cpf n v d (p + 1) S' l q' m' y) v p S q m (n - (p + 1)) x) else clp (fun S' q' m' y => cpf n v d (p + 1) S' l q' m' y) v p S q m (n - (p + 1)) x
theorem cpf_0 {n d p : Nat} {v : Nat → Nat → Int} {S : Nat → Bool} {l : Bool} {q : Int} {m : Nat → Int} {x : cpT} (h : n ≤ p) : cpf n v (d + 1) p S l q m x = ctk q m x := if_pos h
theorem cpf_1 {n d p : Nat} {v : Nat → Nat → Int} {S : Nat → Bool} {l : Bool} {q : Int} {m : Nat → Int} {x : cpT} (h : ¬ n ≤ p) (hs : S p = true) : cpf n v (d + 1) p S l q m x = cpf n v d (p + 1) S l q m x := (if_neg h).trans (if_pos hs)
theorem cpf_2 {n d p : Nat} {v : Nat → Nat → Int} {S : Nat → Bool} {l : Bool} {q : Int} {m : Nat → Int} {x : cpT} (h : ¬ n ≤ p) (hs : ¬ S p = true) (hl : l = true) : cpf n v (d + 1) p S l q m x = cpf n v d (p + 1) S false q (mL m p) (clp (fun S' q' m' y => cpf n v d (p + 1) S' l q' m' y) v p S q m (n - (p + 1)) x) := (if_neg h).trans ((if_neg hs).trans (if_pos hl))
theorem cpf_3 {n d p : Nat} {v : Nat → Nat → Int} {S : Nat → Bool} {l : Bool} {q : Int} {m : Nat → Int} {x : cpT} (h : ¬ n ≤ p) (hs : ¬ S p = true) (hl : ¬ l = true) : cpf n v (d + 1) p S l q m x = clp (fun S' q' m' y => cpf n v d (p + 1) S' l q' m' y) v p S q m (n - (p + 1)) x := (if_neg h).trans ((if_neg hs).trans (if_neg hl))
theorem clp_1 {F : (Nat → Bool) → Int → (Nat → Int) → cpT → cpT} {v : Nat → Nat → Int} {p o : Nat} {S : Nat → Bool} {q : Int} {m : Nat → Int} {x : cpT} (h : p + 1 ≤ o) (hs : S o = true) : clp F v p S q m (o + 1 - (p + 1)) x = clp F v p S q m (o - (p + 1)) x := by
  rw [show o + 1 - (p + 1) = (o - (p + 1)) + 1 by omega, clp, show p + 1 + (o - (p + 1)) = o by omega, if_pos hs]
theorem clp_0 {F : (Nat → Bool) → Int → (Nat → Int) → cpT → cpT} {v : Nat → Nat → Int} {p o : Nat} {S : Nat → Bool} {q : Int} {m : Nat → Int} {x : cpT} (h : p + 1 ≤ o) (hs : ¬ S o = true) : clp F v p S q m (o + 1 - (p + 1)) x = F (sO S o) (q + v p o) (mU m p o) (clp F v p S q m (o - (p + 1)) x) := by
  rw [show o + 1 - (p + 1) = (o - (p + 1)) + 1 by omega, clp, show p + 1 + (o - (p + 1)) = o by omega, if_neg hs]
/-- who is paired, in bits -/
def sB (a : Int) (S : Nat → Bool) : Prop := (0 ≤ a ∧ a ≤ 31) ∧ ∀ j : Nat, j < 5 → band (bshr a j) 1 = if S j = true then 1 else 0
theorem sB_n : ∀ a : Nat, a < 32 → ∀ o : Nat, o < 5 → (0 ≤ bor a (bshl 1 o) ∧ bor a (bshl 1 o) ≤ 31) ∧ ∀ j : Nat, j < 5 → band (bshr (bor a (bshl 1 o)) j) 1 = if j = o then 1 else band (bshr a j) 1 := by decide +kernel
theorem sB_o {a : Int} {S : Nat → Bool} {o : Nat} (h : sB a S) (ho : o < 5) : sB (bor a (bshl 1 o)) (sO S o) := by
  obtain ⟨h1, h2⟩ := h
  have q := sB_n a.toNat (by omega) o ho
  rw [show ((a.toNat : Nat) : Int) = a by omega] at q
  refine ⟨q.1, fun j hj => ?_⟩
  rw [q.2 j hj]
  unfold sO
  by_cases e : j = o
  · rw [if_pos e, if_pos e, if_pos rfl]
  · rw [if_neg e, if_neg e]
    exact h2 j hj
theorem sB_0 : sB 0 (fun _ => false) := ⟨by decide, fun j hj => by
  rw [if_neg (show ¬ (fun _ : Nat => false) j = true by intro z; cases z)]
  exact (show ∀ j : Nat, j < 5 → band (bshr 0 j) 1 = 0 by decide +kernel) j hj⟩
/-- the class's couples hold x; how many people, what each pair is worth; the path's partners -/
def cqS (Γ : zΓ) (w n : Nat) (x : cpT) (G : zH) : Prop := G.1 105 w 0 = x.1 ∧ G.2.1 104 w 0 = x.2.1 ∧ (x.1 = 0 ∨ ∀ j : Nat, j < n → G.1 2012 (Γ.2.1 w 1) j = x.2.2 j)
def cpV (Γ : zΓ) (w n : Nat) (v : Nat → Nat → Int) (G : zH) : Prop := G.1 103 w 0 = n ∧ ∀ p q : Nat, p < q → q < n → G.2.1 2013 (Γ.2.1 w 2) (p * 5 + q) = v p q
def cpM (Γ : zΓ) (w p : Nat) (S : Nat → Bool) (m : Nat → Int) (G : zH) : Prop := ∀ j : Nat, j < 5 → (j < p ∨ S j = true) → G.1 2011 (Γ.2.1 w 0) j = m j
theorem cpV_I {Γ : zΓ} {w n r a i : Nat} {v : Nat → Nat → Int} {y : Int} {G : zH} (hr : r ≠ 103) (h : cpV Γ w n v G) : cpV Γ w n v (zuI G r a i y) := ⟨by rw [zuI_1, if_neg (fun z => hr z.1.symm)]; exact h.1, h.2⟩
theorem cpS_I {Γ : zΓ} {w n r a i : Nat} {x : cpT} {y : Int} {G : zH} (hr : r ≠ 105 ∧ r ≠ 2012) (h : cqS Γ w n x G) : cqS Γ w n x (zuI G r a i y) := by
  obtain ⟨h1, h2, h3⟩ := h
  refine ⟨by rw [zuI_1, if_neg (fun z => hr.1 z.1.symm)]; exact h1, h2, h3.imp id (fun z j hj => ?_)⟩
  rw [zuI_1, if_neg (fun z => hr.2 z.1.symm)]
  exact z j hj
theorem cpV_t {Γ : zΓ} {w n : Nat} {v : Nat → Nat → Int} {G G1 : zH} {rs js : List Nat} (hz : zsm rs G G1) (hr : 103 ∉ rs) (hj : zsj js G G1) (hj2 : 2013 ∉ js) (h : cpV Γ w n v G) : cpV Γ w n v G1 := ⟨by rw [hz.1 103 hr]; exact h.1, fun p q a b => by rw [hj 2013 hj2]; exact h.2 p q a b⟩
theorem cpM_st {Γ : zΓ} {w p o : Nat} {S : Nat → Bool} {m : Nat → Int} {p0 o0 : Int} {G : zH} (h1 : p0 = (p : Int)) (h2 : o0 = (o : Int)) (hM : cpM Γ w p S m G) : cpM Γ w (p + 1) (sO S o) (mU m p o) (zuI (zuI G 2011 (Γ.2.1 w 0) p0.toNat o0) 2011 (Γ.2.1 w 0) o0.toNat p0) := by
  subst h1 h2
  intro j hj h
  rw [show ((o : Int)).toNat = o by omega, show ((p : Int)).toNat = p by omega, zuI_1, zuI_1]
  unfold mU
  by_cases e : j = o
  · rw [if_pos ⟨rfl, rfl, e⟩, if_pos e]
  · rw [if_neg (fun z => e z.2.2), if_neg e]
    by_cases f : j = p
    · rw [if_pos ⟨rfl, rfl, f⟩, if_pos f]
    · rw [if_neg (fun z => f z.2.2), if_neg f]
      refine hM j hj ?_
      rcases h with h | h
      · exact Or.inl (by omega)
      · unfold sO at h
        rw [if_neg e] at h
        exact Or.inr h
theorem cpM_sl {Γ : zΓ} {w p : Nat} {S : Nat → Bool} {m : Nat → Int} {p0 : Int} {G : zH} (h1 : p0 = (p : Int)) (hM : cpM Γ w p S m G) : cpM Γ w (p + 1) S (mL m p) (zuI G 2011 (Γ.2.1 w 0) p0.toNat (-1)) := by
  subst h1
  intro j hj h
  rw [show ((p : Int)).toNat = p by omega, zuI_1]
  unfold mL
  by_cases f : j = p
  · rw [if_pos ⟨rfl, rfl, f⟩, if_pos f]
  · rw [if_neg (fun z => f z.2.2), if_neg f]
    exact hM j hj (h.imp (fun z => by omega) id)
theorem cpM_s {Γ : zΓ} {w p : Nat} {S : Nat → Bool} {m : Nat → Int} {G : zH} (hs : S p = true) (hM : cpM Γ w p S m G) : cpM Γ w (p + 1) S m G := fun j hj h => hM j hj (by
  rcases h with h | h
  · by_cases f : j = p
    · exact Or.inr (by rw [f]; exact hs)
    · exact Or.inl (by omega)
  · exact Or.inr h)
theorem cpM_f {Γ : zΓ} {w p : Nat} {S : Nat → Bool} {m : Nat → Int} {G G1 : zH} (hM : cpM Γ w p S m G) (h : ∀ j : Nat, j < 5 → (j < p ∨ S j = true) → G1.1 2011 (Γ.2.1 w 0) j = G.1 2011 (Γ.2.1 w 0) j) : cpM Γ w p S m G1 := fun j hj q => (h j hj q).trans (hM j hj q)
theorem cvs {G : zH} {a i j n : Nat} {v : Nat → Nat → Int} {val i0 j0 : Int} (h1 : i0 = (i : Int)) (h2 : j0 = (j : Int)) (hij : i < j) (hj : j < n) (hn : n ≤ 5) (hval : val = v i j) (h : ∀ p q : Nat, p < q → q < n → (p < i ∨ (p = i ∧ q < j)) → G.2.1 2013 a (p * 5 + q) = v p q) : ∀ p q : Nat, p < q → q < n → (p < i ∨ (p = i ∧ q < j + 1)) → (zuJ G 2013 a (i0 * 5 + j0).toNat val).2.1 2013 a (p * 5 + q) = v p q := by
  subst h1 h2
  intro p q a1 a2 a3
  rw [zuJ_2, show ((i : Int) * 5 + (j : Int)).toNat = i * 5 + j by omega]
  by_cases e : p = i ∧ q = j
  · rw [e.1, e.2, if_pos ⟨rfl, rfl, rfl⟩]; exact hval
  · rw [if_neg (fun z => e ⟨by omega, by omega⟩)]
    exact h p q a1 a2 (by omega)

set_option maxHeartbeats 4000000 in
set_option maxRecDepth 100000 in
theorem c_X0_takeIfMoreP {l : Launch} {Γ : zΓ} {G : zH} {w n : Nat} {q : Int} {m : Nat → Int} {x : cpT} (hX : zXs Γ) (hC : cqS Γ w n x G) (hn5 : n ≤ 5) (hM : ∀ j : Nat, j < n → G.1 2011 (Γ.2.1 w 0) j = m j) : zMet l Γ yX0_takeIfMore cX0_takeIfMore 3 none 1 [zr 1 w, zj q] G (zpv (fun G' => zsm [105, 2012] G G' ∧ (zsj [104] G G' ∧ cqS Γ w n (ctk q m x) G'))) := by
  refine zMet_of RX0 hX (by decide) rfl (Nat.le_of_ble_eq_true rfl) ?_
  intro p e s mx9 args below meth c C hr hlk
  show Z p l e (zrm 1) s mx9 args below meth c Γ 3 0 0 (MQ below (zQc Γ (zpv (fun G' => zsm [105, 2012] G G' ∧ (zsj [104] G G' ∧ cqS Γ w n (ctk q m x) G')))) args s 0 0 (zA Γ)) 0 [some (zr 1 w), some (zj q), none] [] G
  refine zs_aload_n (pc := 0) C dX0_takeIfMore_0 rfl ?_
  refine zs_getz (r := 105) (pc := 1) C dX0_takeIfMore_1 w_X0_43 f_1_5 rfl (r_105 0) (fun v1 e1 l1 u1 => ?_)
  have y1 : v1 = x.1 := e1.trans hC.1
  refine zs_if_eq (tgt := 16) (pc := 4) C dX0_takeIfMore_4 (by decide) (fun h4 => ?_) (fun h4 => ?_)
  · skip
    have hk : ctk q m x = (1, q, m) := (show (if x.1 = 0 ∨ x.2.1 < q then ((1 : Int), q, m) else x) = (1, q, m) from if_pos (by omega))
    refine zs_aload_n (pc := 16) C dX0_takeIfMore_16 rfl ?_
    refine zs_iconst (pc := 17) C dX0_takeIfMore_17 (by decide) ?_
    refine zs_putz (r := 105) (pc := 18) C dX0_takeIfMore_18 w_X0_43 f_1_5 rfl (r_105 0) (by omega) (by omega) ?_
    refine zs_aload_n (pc := 21) C dX0_takeIfMore_21 rfl ?_
    refine zs_lload_n (pc := 22) C dX0_takeIfMore_22 rfl ?_
    refine zs_putj (r := 104) (pc := 23) C dX0_takeIfMore_23 w_X0_47 f_1_4 rfl ?_
    refine zs_aload_n (pc := 26) C dX0_takeIfMore_26 rfl ?_
    refine zs_getf (pc := 27) C dX0_takeIfMore_27 w_X0_9 f_1_0 (by decide) ?_
    refine zs_iconst (pc := 30) C dX0_takeIfMore_30 (by decide) ?_
    refine zs_aload_n (pc := 31) C dX0_takeIfMore_31 rfl ?_
    refine zs_getf (pc := 32) C dX0_takeIfMore_32 w_X0_15 f_1_1 (by decide) ?_
    refine zs_iconst (pc := 35) C dX0_takeIfMore_35 (by decide) ?_
    refine zs_iconst (pc := 36) C dX0_takeIfMore_36 (by decide) ?_
    refine zs_acopy (r0 := 2011) (r1 := 2012) (pc := 37) C dX0_takeIfMore_37 ac_X0_59 a_11 a_12 (by decide) (by decide) (by omega) (by omega) (by omega) (by omega) (by omega) rfl rfl (fun i j => Or.inl (by rw [r_2011, r_2012]; decide)) (by decide) (Nat.le_of_ble_eq_true rfl) ?_
    exact zs_vret (pc := 40) C hr hlk dX0_takeIfMore_40 (by first | (exact ⟨zsm_rf, ⟨zsj_rf, by rw [hk]; exact hC⟩⟩) | (refine ⟨(by repeat (first | exact zsm_rf | assumption | refine zsm_C (by decide) ?_ | refine zsm_I (by decide) ?_ | refine zsm_J ?_ | refine zsm_c (by assumption) (by decide) ?_)), ⟨(by repeat (first | exact zsj_rf | assumption | refine zsj_I ?_ | refine zsj_J (by decide) ?_ | refine zsj_e (by assumption) ?_ | refine zsj_c (by assumption) (by decide) ?_)), ?_⟩⟩; rw [hk]; refine ⟨by simp only [zuI_1, zuI_2, zuJ_1, zuJ_2, zuJ_3, zuP_1, zuP_2, zuP_3, zuC_1, zuC_2, reduceIte, Nat.reduceEqDiff, false_and, and_false, true_and, and_true, and_self, or_true, true_or, or_false, false_or], by simp only [zuI_1, zuI_2, zuJ_1, zuJ_2, zuJ_3, zuP_1, zuP_2, zuP_3, zuC_1, zuC_2, reduceIte, Nat.reduceEqDiff, false_and, and_false, true_and, and_true, and_self, or_true, true_or, or_false, false_or], Or.inr (fun j hj => ?_)⟩; simp only [zuI_1, zuI_2, zuJ_1, zuJ_2, zuJ_3, zuP_1, zuP_2, zuP_3, zuC_1, zuC_2, reduceIte, Nat.reduceEqDiff, false_and, and_false, true_and, and_true, and_self, or_true, true_or, or_false, false_or]; exact (zcp_0 (n := 5) (by omega)).trans (by simp only [zuI_1, zuI_2, zuJ_1, zuJ_2, zuJ_3, zuP_1, zuP_2, zuP_3, zuC_1, zuC_2, reduceIte, Nat.reduceEqDiff, false_and, and_false, true_and, and_true, and_self, or_true, true_or, or_false, false_or]; exact hM j hj)))
  · skip
    refine zs_lload_n (pc := 7) C dX0_takeIfMore_7 rfl ?_
    refine zs_aload_n (pc := 8) C dX0_takeIfMore_8 rfl ?_
    refine zs_getj (r := 104) (pc := 9) C dX0_takeIfMore_9 w_X0_47 f_1_4 rfl (fun v9 e9 l9 u9 => ?_)
    have y9 : v9 = x.2.1 := e9.trans hC.2.1
    refine zs_lcmp (pc := 12) C dX0_takeIfMore_12 (fun z12 hz12 => ?_)
    refine zs_if_le (tgt := 40) (pc := 13) C dX0_takeIfMore_13 (by decide) (fun h13 => ?_) (fun h13 => ?_)
    · skip
      have hk : ctk q m x = x := (show (if x.1 = 0 ∨ x.2.1 < q then ((1 : Int), q, m) else x) = x from if_neg (by omega))
      exact zs_vret (pc := 40) C hr hlk dX0_takeIfMore_40 (by first | (exact ⟨zsm_rf, ⟨zsj_rf, by rw [hk]; exact hC⟩⟩) | (refine ⟨(by repeat (first | exact zsm_rf | assumption | refine zsm_C (by decide) ?_ | refine zsm_I (by decide) ?_ | refine zsm_J ?_ | refine zsm_c (by assumption) (by decide) ?_)), ⟨(by repeat (first | exact zsj_rf | assumption | refine zsj_I ?_ | refine zsj_J (by decide) ?_ | refine zsj_e (by assumption) ?_ | refine zsj_c (by assumption) (by decide) ?_)), ?_⟩⟩; rw [hk]; refine ⟨by simp only [zuI_1, zuI_2, zuJ_1, zuJ_2, zuJ_3, zuP_1, zuP_2, zuP_3, zuC_1, zuC_2, reduceIte, Nat.reduceEqDiff, false_and, and_false, true_and, and_true, and_self, or_true, true_or, or_false, false_or], by simp only [zuI_1, zuI_2, zuJ_1, zuJ_2, zuJ_3, zuP_1, zuP_2, zuP_3, zuC_1, zuC_2, reduceIte, Nat.reduceEqDiff, false_and, and_false, true_and, and_true, and_self, or_true, true_or, or_false, false_or], Or.inr (fun j hj => ?_)⟩; simp only [zuI_1, zuI_2, zuJ_1, zuJ_2, zuJ_3, zuP_1, zuP_2, zuP_3, zuC_1, zuC_2, reduceIte, Nat.reduceEqDiff, false_and, and_false, true_and, and_true, and_self, or_true, true_or, or_false, false_or]; exact (zcp_0 (n := 5) (by omega)).trans (by simp only [zuI_1, zuI_2, zuJ_1, zuJ_2, zuJ_3, zuP_1, zuP_2, zuP_3, zuC_1, zuC_2, reduceIte, Nat.reduceEqDiff, false_and, and_false, true_and, and_true, and_self, or_true, true_or, or_false, false_or]; exact hM j hj)))
    · skip
      have hk : ctk q m x = (1, q, m) := (show (if x.1 = 0 ∨ x.2.1 < q then ((1 : Int), q, m) else x) = (1, q, m) from if_pos (by omega))
      refine zs_aload_n (pc := 16) C dX0_takeIfMore_16 rfl ?_
      refine zs_iconst (pc := 17) C dX0_takeIfMore_17 (by decide) ?_
      refine zs_putz (r := 105) (pc := 18) C dX0_takeIfMore_18 w_X0_43 f_1_5 rfl (r_105 0) (by omega) (by omega) ?_
      refine zs_aload_n (pc := 21) C dX0_takeIfMore_21 rfl ?_
      refine zs_lload_n (pc := 22) C dX0_takeIfMore_22 rfl ?_
      refine zs_putj (r := 104) (pc := 23) C dX0_takeIfMore_23 w_X0_47 f_1_4 rfl ?_
      refine zs_aload_n (pc := 26) C dX0_takeIfMore_26 rfl ?_
      refine zs_getf (pc := 27) C dX0_takeIfMore_27 w_X0_9 f_1_0 (by decide) ?_
      refine zs_iconst (pc := 30) C dX0_takeIfMore_30 (by decide) ?_
      refine zs_aload_n (pc := 31) C dX0_takeIfMore_31 rfl ?_
      refine zs_getf (pc := 32) C dX0_takeIfMore_32 w_X0_15 f_1_1 (by decide) ?_
      refine zs_iconst (pc := 35) C dX0_takeIfMore_35 (by decide) ?_
      refine zs_iconst (pc := 36) C dX0_takeIfMore_36 (by decide) ?_
      refine zs_acopy (r0 := 2011) (r1 := 2012) (pc := 37) C dX0_takeIfMore_37 ac_X0_59 a_11 a_12 (by decide) (by decide) (by omega) (by omega) (by omega) (by omega) (by omega) rfl rfl (fun i j => Or.inl (by rw [r_2011, r_2012]; decide)) (by decide) (Nat.le_of_ble_eq_true rfl) ?_
      exact zs_vret (pc := 40) C hr hlk dX0_takeIfMore_40 (by first | (exact ⟨zsm_rf, ⟨zsj_rf, by rw [hk]; exact hC⟩⟩) | (refine ⟨(by repeat (first | exact zsm_rf | assumption | refine zsm_C (by decide) ?_ | refine zsm_I (by decide) ?_ | refine zsm_J ?_ | refine zsm_c (by assumption) (by decide) ?_)), ⟨(by repeat (first | exact zsj_rf | assumption | refine zsj_I ?_ | refine zsj_J (by decide) ?_ | refine zsj_e (by assumption) ?_ | refine zsj_c (by assumption) (by decide) ?_)), ?_⟩⟩; rw [hk]; refine ⟨by simp only [zuI_1, zuI_2, zuJ_1, zuJ_2, zuJ_3, zuP_1, zuP_2, zuP_3, zuC_1, zuC_2, reduceIte, Nat.reduceEqDiff, false_and, and_false, true_and, and_true, and_self, or_true, true_or, or_false, false_or], by simp only [zuI_1, zuI_2, zuJ_1, zuJ_2, zuJ_3, zuP_1, zuP_2, zuP_3, zuC_1, zuC_2, reduceIte, Nat.reduceEqDiff, false_and, and_false, true_and, and_true, and_self, or_true, true_or, or_false, false_or], Or.inr (fun j hj => ?_)⟩; simp only [zuI_1, zuI_2, zuJ_1, zuJ_2, zuJ_3, zuP_1, zuP_2, zuP_3, zuC_1, zuC_2, reduceIte, Nat.reduceEqDiff, false_and, and_false, true_and, and_true, and_self, or_true, true_or, or_false, false_or]; exact (zcp_0 (n := 5) (by omega)).trans (by simp only [zuI_1, zuI_2, zuJ_1, zuJ_2, zuJ_3, zuP_1, zuP_2, zuP_3, zuC_1, zuC_2, reduceIte, Nat.reduceEqDiff, false_and, and_false, true_and, and_true, and_self, or_true, true_or, or_false, false_or]; exact hM j hj)))

set_option maxHeartbeats 4000000 in
set_option maxRecDepth 100000 in
theorem c_X0_pairFromP_s {l : Launch} {Γ : zΓ} {G : zH} {w n : Nat} {v : Nat → Nat → Int} {p0 a b q : Int} {p : Nat} {S : Nat → Bool} {l9 : Bool} {m : Nat → Int} {x : cpT} (d : Nat) (hX : zXs Γ) (hih : ∀ {G : zH} {p0 a b q : Int} {p : Nat} {S : Nat → Bool} {l9 : Bool} {m : Nat → Int} {x : cpT}, (p ≤ 5 ∧ 5 < p + d) → p0 = (p : Int) → sB a S → (b = if l9 = true then 1 else 0) → (-1000000000000 * (p : Int) ≤ q ∧ q ≤ 1000000000000 * (p : Int)) → cpV Γ w n v G → cqS Γ w n x G → cpM Γ w p S m G → zMet l Γ yX0_pairFrom cX0_pairFrom 7 none (2 + d) [zr 1 w, zi p0, zi a, zi b, zj q] G (zpv (fun G' => zsm [105, 2011, 2012] G G' ∧ (zsj [104] G G' ∧ cqS Γ w n (cpf n v d p S l9 q m x) G' ∧ ∀ j : Nat, j < 5 → (j < p ∨ S j = true) → G'.1 2011 (Γ.2.1 w 0) j = G.1 2011 (Γ.2.1 w 0) j)))) (hn5 : n ≤ 5) (hv : ∀ i j : Nat, -1000000000000 ≤ v i j ∧ v i j ≤ 1000000000000) (hd : p ≤ 5 ∧ 5 < p + (d + 1)) (hpp : p0 = (p : Int)) (hS : sB a S) (hl : b = if l9 = true then 1 else 0) (hq : (-1000000000000 * (p : Int) ≤ q ∧ q ≤ 1000000000000 * (p : Int))) (hV : cpV Γ w n v G) (hC : cqS Γ w n x G) (hM : cpM Γ w p S m G)  : zMet l Γ yX0_pairFrom cX0_pairFrom 7 none (2 + (d + 1)) [zr 1 w, zi p0, zi a, zi b, zj q] G (zpv (fun G' => zsm [105, 2011, 2012] G G' ∧ (zsj [104] G G' ∧ cqS Γ w n (cpf n v (d + 1) p S l9 q m x) G' ∧ ∀ j : Nat, j < 5 → (j < p ∨ S j = true) → G'.1 2011 (Γ.2.1 w 0) j = G.1 2011 (Γ.2.1 w 0) j))) := by
  refine zMet_of RX0 hX (by decide) rfl (Nat.le_of_ble_eq_true rfl) ?_
  intro px9 e s mx9 args below meth c C hr hlk
  show Z px9 l e (zrm (2 + (d + 1))) s mx9 args below meth c Γ 7 0 0 (MQ below (zQc Γ (zpv (fun G' => zsm [105, 2011, 2012] G G' ∧ (zsj [104] G G' ∧ cqS Γ w n (cpf n v (d + 1) p S l9 q m x) G' ∧ ∀ j : Nat, j < 5 → (j < p ∨ S j = true) → G'.1 2011 (Γ.2.1 w 0) j = G.1 2011 (Γ.2.1 w 0) j)))) args s 0 0 (zA Γ)) 0 [some (zr 1 w), some (zi p0), some (zi a), some (zi b), some (zj q), none, none] [] G
  refine zs_loc 1 rfl (fun ha1 hb1 => ?_)
  refine zs_loc 2 rfl (fun ha2 hb2 => ?_)
  refine zs_loc 3 rfl (fun ha3 hb3 => ?_)
  refine zs_iload_n (pc := 0) C dX0_pairFrom_0 rfl ?_
  refine zs_aload_n (pc := 1) C dX0_pairFrom_1 rfl ?_
  refine zs_geti (r := 103) (pc := 2) C dX0_pairFrom_2 w_X0_33 f_1_3 rfl (r_103 0) (fun v2 e2 l2 u2 => ?_)
  have y2 : v2 = n := e2.trans hV.1
  refine zs_icmp_lt (tgt := 15) (pc := 5) C dX0_pairFrom_5 (by decide) (fun h5 => ?_) (fun h5 => ?_)
  · skip
    have hnp : ¬ n ≤ p := by omega
    refine zs_iload_n (pc := 15) C dX0_pairFrom_15 rfl ?_
    refine zs_iload_n (pc := 16) C dX0_pairFrom_16 rfl ?_
    refine zs_ishrX (pc := 17) C dX0_pairFrom_17 (fun z17 ez17 hz171 hz172 => ?_)
    refine zs_iconst (pc := 18) C dX0_pairFrom_18 (by decide) ?_
    refine zs_iandX (pc := 19) C dX0_pairFrom_19 (fun z19 ez19 hz191 hz192 => ?_)
    have hbp := hS.2 p (by omega)
    rw [← hpp, ← ez17, ← ez19] at hbp
    refine zs_if_eq (tgt := 35) (pc := 20) C dX0_pairFrom_20 (by decide) (fun h20 => ?_) (fun h20 => ?_)
    · skip
      have hsp : ¬ S p = true := fun y => by rw [if_pos y] at hbp; omega
      refine zs_iload_n (pc := 35) C dX0_pairFrom_35 rfl ?_
      refine zs_iconst (pc := 36) C dX0_pairFrom_36 (by decide) ?_
      first | refine zs_iadd (pc := 37) C dX0_pairFrom_37 (by omega) ?_ | refine zs_iaddF (pc := 37) C dX0_pairFrom_37 (fun z37 hz371 hz372 => ?_)
      refine zs_istore (pc := 38) C dX0_pairFrom_38 (by decide) ?_
      dsimp only [zset, zclr, znone]
      have L40 : ∀ (nn : Nat) (x6 : Int) (G1 : zH), (p0 + 1 ≤ x6 ∧ x6 ≤ (n : Int)) → (zsm [105, 2011, 2012] G G1) → (zsj [104] G G1) → (cqS Γ w n (clp (fun S' q' m' y => cpf n v d (p + 1) S' l9 q' m' y) v p S q m (x6.toNat - (p + 1)) x) G1) → (∀ j : Nat, j < 5 → (j < p ∨ S j = true) → G1.1 2011 (Γ.2.1 w 0) j = G.1 2011 (Γ.2.1 w 0) j) → (5 - x6).toNat < nn → Z px9 l e (zrm (2 + (d + 1))) s mx9 args below meth c Γ 7 0 0 (MQ below (zQc Γ (zpv (fun G' => zsm [105, 2011, 2012] G G' ∧ (zsj [104] G G' ∧ cqS Γ w n (cpf n v (d + 1) p S l9 q m x) G' ∧ ∀ j : Nat, j < 5 → (j < p ∨ S j = true) → G'.1 2011 (Γ.2.1 w 0) j = G.1 2011 (Γ.2.1 w 0) j)))) args s 0 0 (zA Γ)) 40 [some (zr 1 w), some (zi p0), some (zi a), some (zi b), some (zj q), none, some (zi x6)] [] G1 := by
        intro nn
        induction nn with
        | zero => intro x6 G1 h40_0 h40_1 h40_2 h40_3 h40_4 hm; exact absurd hm (Nat.not_lt_zero _)
        | succ nn ih40 =>
          intro x6 G1 h40_0 h40_1 h40_2 h40_3 h40_4 hm40
          have hV1 := cpV_t h40_1 (by decide) h40_2 (by decide) hV
          refine zs_iload (pc := 40) C dX0_pairFrom_40 rfl ?_
          refine zs_aload_n (pc := 42) C dX0_pairFrom_42 rfl ?_
          refine zs_geti (r := 103) (pc := 43) C dX0_pairFrom_43 w_X0_33 f_1_3 rfl (r_103 0) (fun v43 e43 l43 u43 => ?_)
          have y43 : v43 = n := e43.trans (by rw [h40_1.1 103 (by decide)]; exact hV.1)
          have hx6 : x6 = ((x6.toNat : Nat) : Int) := by omega
          refine zs_icmp_ge (tgt := 108) (pc := 46) C dX0_pairFrom_46 (by decide) (fun h46 => ?_) (fun h46 => ?_)
          · skip
            have hxn : x6.toNat = n := by omega
            rw [hxn] at h40_3
            refine zs_iload_n (pc := 108) C dX0_pairFrom_108 rfl ?_
            refine zs_if_eq (tgt := 130) (pc := 109) C dX0_pairFrom_109 (by decide) (fun h109 => ?_) (fun h109 => ?_)
            · skip
              have hlf : ¬ l9 = true := fun y => by rw [if_pos y] at hl; omega
              exact zs_vret (pc := 130) C hr hlk dX0_pairFrom_130 (by first | (exact ⟨h40_1, ⟨h40_2, by rw [cpf_3 hnp hsp hlf]; exact h40_3, h40_4⟩⟩) | (refine ⟨(by repeat (first | exact zsm_rf | assumption | refine zsm_C (by decide) ?_ | refine zsm_I (by decide) ?_ | refine zsm_J ?_ | refine zsm_c (by assumption) (by decide) ?_)), ⟨(by repeat (first | exact zsj_rf | assumption | refine zsj_I ?_ | refine zsj_J (by decide) ?_ | refine zsj_e (by assumption) ?_ | refine zsj_c (by assumption) (by decide) ?_)), by rw [cpf_2 hnp hsp hlt]; exact hq127.2.1, fun j hj h => ?_⟩⟩; refine ((hq127.2.2 j hj (h.imp (fun y => by omega) id)).trans ?_).trans (h40_4 j hj h); rw [zuI_1, if_neg (fun y => ?_)]; rcases h with h | h; (have := y.2.2; omega); (exact hsp (by rw [y.2.2, show p0.toNat = p by omega] at h; exact h))))
            · skip
              have hlt : l9 = true := by
                by_cases y : l9 = true
                · exact y
                · rw [if_neg y] at hl; omega
              refine zs_aload_n (pc := 112) C dX0_pairFrom_112 rfl ?_
              refine zs_getf (pc := 113) C dX0_pairFrom_113 w_X0_9 f_1_0 (by decide) ?_
              refine zs_iload_n (pc := 116) C dX0_pairFrom_116 rfl ?_
              refine zs_iconst (pc := 117) C dX0_pairFrom_117 (by decide) ?_
              refine zs_iast (r := 2011) (pc := 118) C dX0_pairFrom_118 a_11 (by decide) (by omega) rfl (r_2011 _) (by omega) ?_
              refine zs_aload_n (pc := 119) C dX0_pairFrom_119 rfl ?_
              refine zs_iload_n (pc := 120) C dX0_pairFrom_120 rfl ?_
              refine zs_iconst (pc := 121) C dX0_pairFrom_121 (by decide) ?_
              first | refine zs_iadd (pc := 122) C dX0_pairFrom_122 (by omega) ?_ | refine zs_iaddF (pc := 122) C dX0_pairFrom_122 (fun z122 hz1221 hz1222 => ?_)
              refine zs_iload_n (pc := 123) C dX0_pairFrom_123 rfl ?_
              refine zs_iconst (pc := 124) C dX0_pairFrom_124 (by decide) ?_
              refine zs_lload (pc := 125) C dX0_pairFrom_125 rfl ?_
              refine zVv4 (pc := 127) C dX0_pairFrom_127 v_X0_51 (hih (p := p + 1) (S := S) (l9 := false) (m := mL m p) (x := clp (fun S' q' m' y => cpf n v d (p + 1) S' l9 q' m' y) v p S q m (n - (p + 1)) x) (by omega) (by omega) hS (by decide) (by omega) (cpV_I (by decide) hV1) (cpS_I (by decide) h40_3) (cpM_sl hpp (cpM_f hM h40_4))) (by decide) (by simp only [zrm]; omega) ⟨Nat.zero_le _, Nat.zero_le _⟩ (Nat.le_of_ble_eq_true rfl) (fun G127 hp127 => ?_)
              obtain ⟨hz127, hq127⟩ := hp127
              try simp only [zuI_1, zuI_2, zuJ_1, zuJ_2, zuJ_3, zuP_1, zuP_2, zuP_3, zuC_1, zuC_2, reduceIte, Nat.reduceEqDiff, false_and, and_false, true_and, and_true, and_self, or_true, true_or, or_false, false_or] at hq127
              exact zs_vret (pc := 130) C hr hlk dX0_pairFrom_130 (by first | (exact ⟨h40_1, ⟨h40_2, by rw [cpf_3 hnp hsp hlf]; exact h40_3, h40_4⟩⟩) | (refine ⟨(by repeat (first | exact zsm_rf | assumption | refine zsm_C (by decide) ?_ | refine zsm_I (by decide) ?_ | refine zsm_J ?_ | refine zsm_c (by assumption) (by decide) ?_)), ⟨(by repeat (first | exact zsj_rf | assumption | refine zsj_I ?_ | refine zsj_J (by decide) ?_ | refine zsj_e (by assumption) ?_ | refine zsj_c (by assumption) (by decide) ?_)), by rw [cpf_2 hnp hsp hlt]; exact hq127.2.1, fun j hj h => ?_⟩⟩; refine ((hq127.2.2 j hj (h.imp (fun y => by omega) id)).trans ?_).trans (h40_4 j hj h); rw [zuI_1, if_neg (fun y => ?_)]; rcases h with h | h; (have := y.2.2; omega); (exact hsp (by rw [y.2.2, show p0.toNat = p by omega] at h; exact h))))
          · skip
            refine zs_iload_n (pc := 49) C dX0_pairFrom_49 rfl ?_
            refine zs_iload (pc := 50) C dX0_pairFrom_50 rfl ?_
            refine zs_ishrX (pc := 52) C dX0_pairFrom_52 (fun z52 ez52 hz521 hz522 => ?_)
            refine zs_iconst (pc := 53) C dX0_pairFrom_53 (by decide) ?_
            refine zs_iandX (pc := 54) C dX0_pairFrom_54 (fun z54 ez54 hz541 hz542 => ?_)
            have hb := hS.2 x6.toNat (by omega)
            rw [← hx6, ← ez52, ← ez54] at hb
            have hnx : (x6 + 1).toNat = x6.toNat + 1 := by omega
            refine zs_if_ne (tgt := 102) (pc := 55) C dX0_pairFrom_55 (by decide) (fun h55 => ?_) (fun h55 => ?_)
            · skip
              have hs : S x6.toNat = true := by
                by_cases y : S x6.toNat = true
                · exact y
                · rw [if_neg y] at hb; omega
              have stC : cqS Γ w n (clp (fun S' q' m' y => cpf n v d (p + 1) S' l9 q' m' y) v p S q m ((x6 + 1).toNat - (p + 1)) x) G1 := by rw [hnx, clp_1 (by omega) hs]; exact h40_3
              have stF := h40_4
              first | refine zs_iinc (pc := 102) C dX0_pairFrom_102 rfl (by decide) (by omega) ?_ | refine zs_iincF (pc := 102) C dX0_pairFrom_102 rfl (by decide) (fun z102 hz1021 hz1022 => ?_)
              dsimp only [zset, zclr, znone]
              refine zs_goto (tgt := 40) (pc := 105) C dX0_pairFrom_105 (by decide) ?_
              exact zs_wk (ih40 _ _ (by omega) (by repeat (first | exact zsm_rf | assumption | refine zsm_C (by decide) ?_ | refine zsm_I (by decide) ?_ | refine zsm_J ?_ | refine zsm_c (by assumption) (by decide) ?_)) (by repeat (first | exact zsj_rf | assumption | refine zsj_I ?_ | refine zsj_J (by decide) ?_ | refine zsj_e (by assumption) ?_ | refine zsj_c (by assumption) (by decide) ?_)) stC stF (by first | omega | (simp only [zuI_1, zuI_2, zuJ_1, zuJ_2, zuJ_3, zuP_1, zuP_2, zuP_3, zuC_1, zuC_2, reduceIte, Nat.reduceEqDiff, false_and, and_false, true_and, and_true, and_self, or_true, true_or, or_false, false_or]; omega))) (zwk_s rfl (zwk_s rfl (zwk_s rfl (zwk_s rfl (zwk_s rfl (zwk_n (zwk_s rfl zwk_0)))))))
            · skip
              have hs : ¬ S x6.toNat = true := fun y => by rw [if_pos y] at hb; omega
              refine zs_aload_n (pc := 58) C dX0_pairFrom_58 rfl ?_
              refine zs_getf (pc := 59) C dX0_pairFrom_59 w_X0_9 f_1_0 (by decide) ?_
              refine zs_iload_n (pc := 62) C dX0_pairFrom_62 rfl ?_
              refine zs_iload (pc := 63) C dX0_pairFrom_63 rfl ?_
              refine zs_iast (r := 2011) (pc := 65) C dX0_pairFrom_65 a_11 (by decide) (by omega) rfl (r_2011 _) (by omega) ?_
              refine zs_aload_n (pc := 66) C dX0_pairFrom_66 rfl ?_
              refine zs_getf (pc := 67) C dX0_pairFrom_67 w_X0_9 f_1_0 (by decide) ?_
              refine zs_iload (pc := 70) C dX0_pairFrom_70 rfl ?_
              refine zs_iload_n (pc := 72) C dX0_pairFrom_72 rfl ?_
              refine zs_iast (r := 2011) (pc := 73) C dX0_pairFrom_73 a_11 (by decide) (by omega) rfl (r_2011 _) (by omega) ?_
              refine zs_aload_n (pc := 74) C dX0_pairFrom_74 rfl ?_
              refine zs_iload_n (pc := 75) C dX0_pairFrom_75 rfl ?_
              refine zs_iconst (pc := 76) C dX0_pairFrom_76 (by decide) ?_
              first | refine zs_iadd (pc := 77) C dX0_pairFrom_77 (by omega) ?_ | refine zs_iaddF (pc := 77) C dX0_pairFrom_77 (fun z77 hz771 hz772 => ?_)
              refine zs_iload_n (pc := 78) C dX0_pairFrom_78 rfl ?_
              refine zs_iconst (pc := 79) C dX0_pairFrom_79 (by decide) ?_
              refine zs_iload (pc := 80) C dX0_pairFrom_80 rfl ?_
              refine zs_ishlX (pc := 82) C dX0_pairFrom_82 (fun z82 ez82 hz821 hz822 => ?_)
              refine zs_iorX (pc := 83) C dX0_pairFrom_83 (fun z83 ez83 hz831 hz832 => ?_)
              have hSo : sB z83 (sO S x6.toNat) := by
                have y := sB_o hS (o := x6.toNat) (by omega)
                rw [← hx6] at y
                rw [ez83, ez82]
                exact y
              refine zs_iload_n (pc := 84) C dX0_pairFrom_84 rfl ?_
              refine zs_lload (pc := 85) C dX0_pairFrom_85 rfl ?_
              refine zs_aload_n (pc := 87) C dX0_pairFrom_87 rfl ?_
              refine zs_getf (pc := 88) C dX0_pairFrom_88 w_X0_18 f_1_2 (by decide) ?_
              refine zs_iload_n (pc := 91) C dX0_pairFrom_91 rfl ?_
              refine zs_iconst (pc := 92) C dX0_pairFrom_92 (by decide) ?_
              first | refine zs_imul (pc := 93) C dX0_pairFrom_93 (by omega) ?_ | refine zs_imulF (pc := 93) C dX0_pairFrom_93 (fun z93 hz931 hz932 => ?_)
              refine zs_iload (pc := 94) C dX0_pairFrom_94 rfl ?_
              first | refine zs_iadd (pc := 96) C dX0_pairFrom_96 (by omega) ?_ | refine zs_iaddF (pc := 96) C dX0_pairFrom_96 (fun z96 hz961 hz962 => ?_)
              refine zs_lald (r := 2013) (pc := 97) C dX0_pairFrom_97 a_13 (by decide) (by omega) rfl (fun v97 e97 l97 u97 => ?_)
              try simp only [zuI_1, zuI_2, zuJ_1, zuJ_2, zuJ_3, zuP_1, zuP_2, zuP_3, zuC_1, zuC_2, reduceIte, Nat.reduceEqDiff, false_and, and_false, true_and, and_true, and_self, or_true, true_or, or_false, false_or] at e97
              have y97 : v97 = v p x6.toNat := e97.trans (by rw [show (p0 * 5 + x6).toNat = p * 5 + x6.toNat by omega]; exact hV1.2 p x6.toNat (by omega) (by omega))
              have hv9 := hv p x6.toNat
              subst y97
              refine zs_laddE (pc := 98) C dX0_pairFrom_98 (by omega) ?_
              refine zVv4 (pc := 99) C dX0_pairFrom_99 v_X0_51 (hih (p := p + 1) (S := sO S x6.toNat) (l9 := l9) (m := mU m p x6.toNat) (x := (clp (fun S' q' m' y => cpf n v d (p + 1) S' l9 q' m' y) v p S q m (x6.toNat - (p + 1)) x)) (by omega) (by omega) hSo hl (by omega) (cpV_I (by decide) (cpV_I (by decide) hV1)) (cpS_I (by decide) (cpS_I (by decide) h40_3)) (cpM_st hpp hx6 (cpM_f hM h40_4))) (by decide) (by simp only [zrm]; omega) ⟨Nat.zero_le _, Nat.zero_le _⟩ (Nat.le_of_ble_eq_true rfl) (fun G99 hp99 => ?_)
              obtain ⟨hz99, hq99⟩ := hp99
              try simp only [zuI_1, zuI_2, zuJ_1, zuJ_2, zuJ_3, zuP_1, zuP_2, zuP_3, zuC_1, zuC_2, reduceIte, Nat.reduceEqDiff, false_and, and_false, true_and, and_true, and_self, or_true, true_or, or_false, false_or] at hq99
              have stC : cqS Γ w n (clp (fun S' q' m' y => cpf n v d (p + 1) S' l9 q' m' y) v p S q m ((x6 + 1).toNat - (p + 1)) x) G99 := by rw [hnx, clp_0 (by omega) hs]; exact hq99.2.1
              have stF : ∀ j : Nat, j < 5 → (j < p ∨ S j = true) → G99.1 2011 (Γ.2.1 w 0) j = G.1 2011 (Γ.2.1 w 0) j := fun j hj h => by
                have hjo : j ≠ x6.toNat := fun y => by
                  rcases h with h | h
                  · omega
                  · rw [y] at h; exact hs h
                have hjp : j ≠ p0.toNat := fun y => by
                  rcases h with h | h
                  · omega
                  · rw [y, show p0.toNat = p by omega] at h; exact hsp h
                refine ((hq99.2.2 j hj (h.imp (fun y => by omega) (fun y => by unfold sO; rw [if_neg hjo]; exact y))).trans ?_).trans (h40_4 j hj h)
                rw [zuI_1, if_neg (fun y => hjo y.2.2), zuI_1, if_neg (fun y => hjp y.2.2)]
              first | refine zs_iinc (pc := 102) C dX0_pairFrom_102 rfl (by decide) (by omega) ?_ | refine zs_iincF (pc := 102) C dX0_pairFrom_102 rfl (by decide) (fun z102 hz1021 hz1022 => ?_)
              dsimp only [zset, zclr, znone]
              refine zs_goto (tgt := 40) (pc := 105) C dX0_pairFrom_105 (by decide) ?_
              exact zs_wk (ih40 _ _ (by omega) (by repeat (first | exact zsm_rf | assumption | refine zsm_C (by decide) ?_ | refine zsm_I (by decide) ?_ | refine zsm_J ?_ | refine zsm_c (by assumption) (by decide) ?_)) (by repeat (first | exact zsj_rf | assumption | refine zsj_I ?_ | refine zsj_J (by decide) ?_ | refine zsj_e (by assumption) ?_ | refine zsj_c (by assumption) (by decide) ?_)) stC stF (by first | omega | (simp only [zuI_1, zuI_2, zuJ_1, zuJ_2, zuJ_3, zuP_1, zuP_2, zuP_3, zuC_1, zuC_2, reduceIte, Nat.reduceEqDiff, false_and, and_false, true_and, and_true, and_self, or_true, true_or, or_false, false_or]; omega))) (zwk_s rfl (zwk_s rfl (zwk_s rfl (zwk_s rfl (zwk_s rfl (zwk_n (zwk_s rfl zwk_0)))))))
      exact zs_wk (L40 _ _ _ (by omega) zsm_rf zsj_rf (by rw [show (p0 + 1).toNat - (p + 1) = 0 by omega]; exact hC) (fun _ _ _ => rfl) (Nat.lt_succ_self _)) (zwk_s rfl (zwk_s rfl (zwk_s rfl (zwk_s rfl (zwk_s rfl (zwk_n (zwk_s rfl zwk_0)))))))
    · skip
      have hsp : S p = true := by
        by_cases y : S p = true
        · exact y
        · rw [if_neg y] at hbp; omega
      refine zs_aload_n (pc := 23) C dX0_pairFrom_23 rfl ?_
      refine zs_iload_n (pc := 24) C dX0_pairFrom_24 rfl ?_
      refine zs_iconst (pc := 25) C dX0_pairFrom_25 (by decide) ?_
      first | refine zs_iadd (pc := 26) C dX0_pairFrom_26 (by omega) ?_ | refine zs_iaddF (pc := 26) C dX0_pairFrom_26 (fun z26 hz261 hz262 => ?_)
      refine zs_iload_n (pc := 27) C dX0_pairFrom_27 rfl ?_
      refine zs_iload_n (pc := 28) C dX0_pairFrom_28 rfl ?_
      refine zs_lload (pc := 29) C dX0_pairFrom_29 rfl ?_
      refine zVv4 (pc := 31) C dX0_pairFrom_31 v_X0_51 (hih (p := p + 1) (S := S) (l9 := l9) (m := m) (x := x) (by omega) (by omega) hS hl (by omega) hV hC (cpM_s hsp hM)) (by decide) (by simp only [zrm]; omega) ⟨Nat.zero_le _, Nat.zero_le _⟩ (Nat.le_of_ble_eq_true rfl) (fun G31 hp31 => ?_)
      obtain ⟨hz31, hq31⟩ := hp31
      exact zs_vret (pc := 34) C hr hlk dX0_pairFrom_34 ⟨(by repeat (first | exact zsm_rf | assumption | refine zsm_C (by decide) ?_ | refine zsm_I (by decide) ?_ | refine zsm_J ?_ | refine zsm_c (by assumption) (by decide) ?_)), ⟨(by repeat (first | exact zsj_rf | assumption | refine zsj_I ?_ | refine zsj_J (by decide) ?_ | refine zsj_e (by assumption) ?_ | refine zsj_c (by assumption) (by decide) ?_)), by rw [cpf_1 hnp hsp]; exact hq31.2.1, fun j hj h => hq31.2.2 j hj (h.imp (fun y => by omega) id)⟩⟩
  · skip
    have hnp : n ≤ p := by omega
    refine zs_aload_n (pc := 8) C dX0_pairFrom_8 rfl ?_
    refine zs_lload (pc := 9) C dX0_pairFrom_9 rfl ?_
    refine zVv1 (pc := 11) C dX0_pairFrom_11 v_X0_55 (c_X0_takeIfMoreP (n := n) (m := m) (x := x) hX hC hn5 (fun j hj => hM j (by omega) (Or.inl (by omega)))) (by decide) (by simp only [zrm]; omega) ⟨Nat.zero_le _, Nat.zero_le _⟩ (Nat.le_of_ble_eq_true rfl) (fun G11 hp11 => ?_)
    obtain ⟨hz11, hq11⟩ := hp11
    exact zs_vret (pc := 14) C hr hlk dX0_pairFrom_14 ⟨(by repeat (first | exact zsm_rf | assumption | refine zsm_C (by decide) ?_ | refine zsm_I (by decide) ?_ | refine zsm_J ?_ | refine zsm_c (by assumption) (by decide) ?_)), ⟨hq11.1, by rw [cpf_0 hnp]; exact hq11.2, fun j hj _ => by rw [hz11.1 2011 (by decide)]⟩⟩

theorem c_X0_pairFromP_all {l : Launch} {Γ : zΓ} {w n : Nat} {v : Nat → Nat → Int} (hX : zXs Γ) (hn5 : n ≤ 5) (hv : ∀ i j : Nat, -1000000000000 ≤ v i j ∧ v i j ≤ 1000000000000) : ∀ (d : Nat) {G : zH} {p0 a b q : Int} {p : Nat} {S : Nat → Bool} {l9 : Bool} {m : Nat → Int} {x : cpT}, (p ≤ 5 ∧ 5 < p + d) → p0 = (p : Int) → sB a S → (b = if l9 = true then 1 else 0) → (-1000000000000 * (p : Int) ≤ q ∧ q ≤ 1000000000000 * (p : Int)) → cpV Γ w n v G → cqS Γ w n x G → cpM Γ w p S m G → zMet l Γ yX0_pairFrom cX0_pairFrom 7 none (2 + d) [zr 1 w, zi p0, zi a, zi b, zj q] G (zpv (fun G' => zsm [105, 2011, 2012] G G' ∧ (zsj [104] G G' ∧ cqS Γ w n (cpf n v d p S l9 q m x) G' ∧ ∀ j : Nat, j < 5 → (j < p ∨ S j = true) → G'.1 2011 (Γ.2.1 w 0) j = G.1 2011 (Γ.2.1 w 0) j)))
  | 0, _, _, _, _, _, _, _, _, _, _, h => absurd h (by omega)
  | d + 1, _, _, _, _, _, _, _, _, _, _, h => fun h1 h2 h3 h4 h5 h6 h7 => c_X0_pairFromP_s d hX (fun a1 a2 a3 a4 a5 a6 a7 a8 => c_X0_pairFromP_all hX hn5 hv d a1 a2 a3 a4 a5 a6 a7 a8) hn5 hv (by omega) h1 h2 h3 h4 h5 h6 h7

def prX (n : Nat) (v : Nat → Nat → Int) : cpT := cpf n v 6 0 (fun _ => false) (decide (n % 2 ≠ 0)) 0 (fun _ => 0) (0, 0, fun _ => 0)

set_option maxHeartbeats 4000000 in
set_option maxRecDepth 100000 in
theorem c_X0_bringTogetherP {l : Launch} {Γ : zΓ} {G : zH} {w u t : Nat} {A W : aS} (hX : zXs Γ) (hZ : QQ Γ u t A W G) (hW : WI A W) (hT : TA A)  : zMet l Γ yX0_bringTogether cX0_bringTogether 6 none 9 [zr 1 w, zr 8 u] G (zpv (fun G' => zsm [103, 105, 2011, 2012] G G' ∧ (zsj [104, 2013] G G' ∧ cqS Γ w (A 4 1).toNat (prX (A 4 1).toNat (prV A W)) G'))) := by
  have hI := QQ_t hZ
  refine zMet_of RX0 hX (by decide) rfl (Nat.le_of_ble_eq_true rfl) ?_
  intro p e s m args below meth c C hr hlk
  show Z p l e (zrm 9) s m args below meth c Γ 6 0 0 (MQ below (zQc Γ (zpv (fun G' => zsm [103, 105, 2011, 2012] G G' ∧ (zsj [104, 2013] G G' ∧ cqS Γ w (A 4 1).toNat (prX (A 4 1).toNat (prV A W)) G')))) args s 0 0 (zA Γ)) 0 [some (zr 1 w), some (zr 8 u), none, none, none, none] [] G
  have hT0 := hT.1
  refine zs_aload_n (pc := 0) C dX0_bringTogether_0 rfl ?_
  refine zs_aload_n (pc := 1) C dX0_bringTogether_1 rfl ?_
  refine zs_getd (r := 800) (pc := 2) C dX0_bringTogether_2 w_X0_22 f_8_0 (by decide) rfl (fun v2 e2 t2 => ?_)
  rw [hI] at e2
  subst v2
  refine zs_getf (pc := 5) C dX0_bringTogether_5 w_X0_28 f_6_2 (by decide) ?_
  refine zs_iconst (pc := 8) C dX0_bringTogether_8 (by decide) ?_
  refine zs_iald (r := 2037) (pc := 9) C dX0_bringTogether_9 a_37 (by decide) (by omega) rfl rfl (fun v9 e9 l9 u9 => ?_)
  try simp only [QQ_2037 hZ, Int.reduceToNat] at e9
  try subst v9
  refine zs_puti (r := 103) (pc := 10) C dX0_bringTogether_10 w_X0_33 f_1_3 rfl (r_103 0) (by omega) ?_
  refine zs_iconst (pc := 13) C dX0_bringTogether_13 (by decide) ?_
  refine zs_istore_n (pc := 14) C dX0_bringTogether_14 (by decide) ?_
  dsimp only [zset, zclr, znone]
  have L15 : ∀ (nn : Nat) (x2 : Int) (G1 : zH), (0 ≤ x2 ∧ x2 ≤ A 4 1) → (zsm [103] G G1) → (G1.1 103 w 0 = A 4 1) → (zsj [2013] G G1) → (∀ i j : Nat, i < j → j < (A 4 1).toNat → i < x2.toNat → G1.2.1 2013 (Γ.2.1 w 2) (i * 5 + j) = prV A W i j) → (5 - x2).toNat < nn → Z p l e (zrm 9) s m args below meth c Γ 6 0 0 (MQ below (zQc Γ (zpv (fun G' => zsm [103, 105, 2011, 2012] G G' ∧ (zsj [104, 2013] G G' ∧ cqS Γ w (A 4 1).toNat (prX (A 4 1).toNat (prV A W)) G')))) args s 0 0 (zA Γ)) 15 [some (zr 1 w), some (zr 8 u), some (zi x2), none, none, none] [] G1 := by
    intro nn
    induction nn with
    | zero => intro x2 G1 h15_0 h15_1 h15_2 h15_3 h15_4 hm; exact absurd hm (Nat.not_lt_zero _)
    | succ nn ih15 =>
      intro x2 G1 h15_0 h15_1 h15_2 h15_3 h15_4 hm15
      refine zs_iload_n (pc := 15) C dX0_bringTogether_15 rfl ?_
      refine zs_aload_n (pc := 16) C dX0_bringTogether_16 rfl ?_
      refine zs_geti (r := 103) (pc := 17) C dX0_bringTogether_17 w_X0_33 f_1_3 rfl (r_103 0) (fun v17 e17 l17 u17 => ?_)
      have y17 : v17 = A 4 1 := e17.trans h15_2
      subst y17
      refine zs_icmp_ge (tgt := 80) (pc := 20) C dX0_bringTogether_20 (by decide) (fun h20 => ?_) (fun h20 => ?_)
      · skip
        refine zs_aload_n (pc := 80) C dX0_bringTogether_80 rfl ?_
        refine zs_iconst (pc := 81) C dX0_bringTogether_81 (by decide) ?_
        refine zs_putz (r := 105) (pc := 82) C dX0_bringTogether_82 w_X0_43 f_1_5 rfl (r_105 0) (by omega) (by omega) ?_
        refine zs_aload_n (pc := 85) C dX0_bringTogether_85 rfl ?_
        refine zs_lconst (n := 0) (pc := 86) C dX0_bringTogether_86 rfl (by decide) ?_
        refine zs_putj (r := 104) (pc := 87) C dX0_bringTogether_87 w_X0_47 f_1_4 rfl ?_
        refine zs_aload_n (pc := 90) C dX0_bringTogether_90 rfl ?_
        refine zs_iconst (pc := 91) C dX0_bringTogether_91 (by decide) ?_
        refine zs_iconst (pc := 92) C dX0_bringTogether_92 (by decide) ?_
        refine zs_aload_n (pc := 93) C dX0_bringTogether_93 rfl ?_
        refine zs_geti (r := 103) (pc := 94) C dX0_bringTogether_94 w_X0_33 f_1_3 rfl (r_103 0) (fun v94 e94 l94 u94 => ?_)
        try simp only [zuI_1, zuI_2, zuJ_1, zuJ_2, zuJ_3, zuP_1, zuP_2, zuP_3, zuC_1, zuC_2, reduceIte, Nat.reduceEqDiff, false_and, and_false, true_and, and_true, and_self, or_true, true_or, or_false, false_or] at e94
        have y94 : v94 = A 4 1 := e94.trans h15_2
        subst y94
        refine zs_iconst (pc := 97) C dX0_bringTogether_97 (by decide) ?_
        first | refine zs_irem (pc := 98) C dX0_bringTogether_98 (by omega) (by omega) (fun hz981 hz982 => ?_) | refine zs_iremF (pc := 98) C dX0_bringTogether_98 (by omega) (fun z98 hz981 hz982 => ?_)
        refine zs_if_eq (tgt := 106) (pc := 99) C dX0_bringTogether_99 (by decide) (fun h99 => ?_) (fun h99 => ?_)
        · skip
          refine zs_iconst (pc := 106) C dX0_bringTogether_106 (by decide) ?_
          have hl9 : True := trivial
          refine zs_lconst (n := 0) (pc := 107) C dX0_bringTogether_107 rfl (by decide) ?_
          refine zVv4 (pc := 108) C dX0_bringTogether_108 v_X0_51 (c_X0_pairFromP_all (n := (A 4 1).toNat) (v := prV A W) hX (by omega) (prV_in hT) 6 (p := 0) (S := fun _ => false) (l9 := decide ((A 4 1).toNat % 2 ≠ 0)) (m := fun _ => 0) (x := (0, 0, fun _ => 0)) (by omega) rfl sB_0 hl9 (by omega) hV8 hC8 (fun j hj z => by rcases z with z | z; (omega); (cases z))) (by decide) (by decide) ⟨Nat.zero_le _, Nat.zero_le _⟩ (Nat.le_of_ble_eq_true rfl) (fun G108 hp108 => ?_)
          obtain ⟨hz108, hq108⟩ := hp108
          try simp only [zuI_1, zuI_2, zuJ_1, zuJ_2, zuJ_3, zuP_1, zuP_2, zuP_3, zuC_1, zuC_2, reduceIte, Nat.reduceEqDiff, false_and, and_false, true_and, and_true, and_self, or_true, true_or, or_false, false_or] at hq108
          exact zs_vret (pc := 111) C hr hlk dX0_bringTogether_111 ⟨by repeat (first | exact zsm_rf | assumption | refine zsm_C (by decide) ?_ | refine zsm_I (by decide) ?_ | refine zsm_J ?_ | refine zsm_c (by assumption) (by decide) ?_), by first | omega | (simp only [zuI_1, zuI_2, zuJ_1, zuJ_2, zuJ_3, zuP_1, zuP_2, zuP_3, zuC_1, zuC_2, reduceIte, Nat.reduceEqDiff, false_and, and_false, true_and, and_true, and_self, or_true, true_or, or_false, false_or]; omega)⟩
        · skip
          refine zs_iconst (pc := 102) C dX0_bringTogether_102 (by decide) ?_
          refine zs_goto (tgt := 107) (pc := 103) C dX0_bringTogether_103 (by decide) ?_
          have hl9 : True := trivial
          refine zs_lconst (n := 0) (pc := 107) C dX0_bringTogether_107 rfl (by decide) ?_
          refine zVv4 (pc := 108) C dX0_bringTogether_108 v_X0_51 (c_X0_pairFromP_all (n := (A 4 1).toNat) (v := prV A W) hX (by omega) (prV_in hT) 6 (p := 0) (S := fun _ => false) (l9 := decide ((A 4 1).toNat % 2 ≠ 0)) (m := fun _ => 0) (x := (0, 0, fun _ => 0)) (by omega) rfl sB_0 hl9 (by omega) hV8 hC8 (fun j hj z => by rcases z with z | z; (omega); (cases z))) (by decide) (by decide) ⟨Nat.zero_le _, Nat.zero_le _⟩ (Nat.le_of_ble_eq_true rfl) (fun G108 hp108 => ?_)
          obtain ⟨hz108, hq108⟩ := hp108
          try simp only [zuI_1, zuI_2, zuJ_1, zuJ_2, zuJ_3, zuP_1, zuP_2, zuP_3, zuC_1, zuC_2, reduceIte, Nat.reduceEqDiff, false_and, and_false, true_and, and_true, and_self, or_true, true_or, or_false, false_or] at hq108
          exact zs_vret (pc := 111) C hr hlk dX0_bringTogether_111 ⟨by repeat (first | exact zsm_rf | assumption | refine zsm_C (by decide) ?_ | refine zsm_I (by decide) ?_ | refine zsm_J ?_ | refine zsm_c (by assumption) (by decide) ?_), by first | omega | (simp only [zuI_1, zuI_2, zuJ_1, zuJ_2, zuJ_3, zuP_1, zuP_2, zuP_3, zuC_1, zuC_2, reduceIte, Nat.reduceEqDiff, false_and, and_false, true_and, and_true, and_self, or_true, true_or, or_false, false_or]; omega)⟩
      · skip
        refine zs_iload_n (pc := 23) C dX0_bringTogether_23 rfl ?_
        refine zs_iconst (pc := 24) C dX0_bringTogether_24 (by decide) ?_
        first | refine zs_iadd (pc := 25) C dX0_bringTogether_25 (by omega) ?_ | refine zs_iaddF (pc := 25) C dX0_bringTogether_25 (fun z25 hz251 hz252 => ?_)
        refine zs_istore_n (pc := 26) C dX0_bringTogether_26 (by decide) ?_
        dsimp only [zset, zclr, znone]
        have L27 : ∀ (nn : Nat) (x3 : Int) (G2 : zH), (x2 + 1 ≤ x3 ∧ x3 ≤ A 4 1) → (zsm [103] G G2) → (G2.1 103 w 0 = A 4 1) → (zsj [2013] G G2) → (∀ i j : Nat, i < j → j < (A 4 1).toNat → (i < x2.toNat ∨ (i = x2.toNat ∧ j < x3.toNat)) → G2.2.1 2013 (Γ.2.1 w 2) (i * 5 + j) = prV A W i j) → (5 - x3).toNat < nn → Z p l e (zrm 9) s m args below meth c Γ 6 0 0 (MQ below (zQc Γ (zpv (fun G' => zsm [103, 105, 2011, 2012] G G' ∧ (zsj [104, 2013] G G' ∧ cqS Γ w (A 4 1).toNat (prX (A 4 1).toNat (prV A W)) G')))) args s 0 0 (zA Γ)) 27 [some (zr 1 w), some (zr 8 u), some (zi x2), some (zi x3), none, none] [] G2 := by
          intro nn
          induction nn with
          | zero => intro x3 G2 h27_0 h27_1 h27_2 h27_3 h27_4 hm; exact absurd hm (Nat.not_lt_zero _)
          | succ nn ih27 =>
            intro x3 G2 h27_0 h27_1 h27_2 h27_3 h27_4 hm27
            refine zs_iload_n (pc := 27) C dX0_bringTogether_27 rfl ?_
            refine zs_aload_n (pc := 28) C dX0_bringTogether_28 rfl ?_
            refine zs_geti (r := 103) (pc := 29) C dX0_bringTogether_29 w_X0_33 f_1_3 rfl (r_103 0) (fun v29 e29 l29 u29 => ?_)
            have y29 : v29 = A 4 1 := e29.trans h27_2
            subst y29
            refine zs_icmp_ge (tgt := 74) (pc := 32) C dX0_bringTogether_32 (by decide) (fun h32 => ?_) (fun h32 => ?_)
            · skip
              first | refine zs_iinc (pc := 74) C dX0_bringTogether_74 rfl (by decide) (by omega) ?_ | refine zs_iincF (pc := 74) C dX0_bringTogether_74 rfl (by decide) (fun z74 hz741 hz742 => ?_)
              dsimp only [zset, zclr, znone]
              refine zs_goto (tgt := 15) (pc := 77) C dX0_bringTogether_77 (by decide) ?_
              exact zs_wk (ih15 _ _ (by omega) h27_1 h27_2 h27_3 (fun i j a b z => h27_4 i j a b (by omega)) (by first | omega | (simp only [zuI_1, zuI_2, zuJ_1, zuJ_2, zuJ_3, zuP_1, zuP_2, zuP_3, zuC_1, zuC_2, reduceIte, Nat.reduceEqDiff, false_and, and_false, true_and, and_true, and_self, or_true, true_or, or_false, false_or]; omega))) (zwk_s rfl (zwk_s rfl (zwk_s rfl (zwk_n (zwk_n (zwk_n zwk_0))))))
            · skip
              refine zs_aload_n (pc := 35) C dX0_bringTogether_35 rfl ?_
              refine zs_iload_n (pc := 36) C dX0_bringTogether_36 rfl ?_
              refine zs_iload_n (pc := 37) C dX0_bringTogether_37 rfl ?_
              refine zVj2 (pc := 38) C dX0_bringTogether_38 v_X0_37 (c_X7_pairValueK hX (QQ_sm h27_1 (by decide) (by decide +kernel) hZ) hW hT (by omega) (by omega) ⟨by omega, by omega⟩) (by decide) (by decide) ⟨Nat.zero_le _, Nat.zero_le _⟩ (Nat.le_of_ble_eq_true rfl) (fun x38 G38 l38 u38 hp38 => ?_)
              obtain ⟨hz38, hq38⟩ := hp38
              have hx38 : x38 = wPair A W x2 x3 := hq38
              refine zs_lstore (pc := 41) C dX0_bringTogether_41 (by decide) ?_
              dsimp only [zset, zclr, znone]
              refine zs_aload_n (pc := 43) C dX0_bringTogether_43 rfl ?_
              refine zs_getf (pc := 44) C dX0_bringTogether_44 w_X0_18 f_1_2 (by decide) ?_
              refine zs_iload_n (pc := 47) C dX0_bringTogether_47 rfl ?_
              refine zs_iconst (pc := 48) C dX0_bringTogether_48 (by decide) ?_
              first | refine zs_imul (pc := 49) C dX0_bringTogether_49 (by omega) ?_ | refine zs_imulF (pc := 49) C dX0_bringTogether_49 (fun z49 hz491 hz492 => ?_)
              refine zs_iload_n (pc := 50) C dX0_bringTogether_50 rfl ?_
              first | refine zs_iadd (pc := 51) C dX0_bringTogether_51 (by omega) ?_ | refine zs_iaddF (pc := 51) C dX0_bringTogether_51 (fun z51 hz511 hz512 => ?_)
              refine zs_lload (pc := 52) C dX0_bringTogether_52 rfl ?_
              refine zs_ldc2 (n := -9223372036854775808) (pc := 54) C dX0_bringTogether_54 q_X0_41 (by decide) (by decide) ?_
              refine zs_lcmp (pc := 57) C dX0_bringTogether_57 (fun z57 hz57 => ?_)
              refine zs_if_ne (tgt := 65) (pc := 58) C dX0_bringTogether_58 (by decide) (fun h58 => ?_) (fun h58 => ?_)
              · skip
                have hvl : x38 = prV A W x2.toNat x3.toNat := by unfold prV; rw [show ((x2.toNat : Nat) : Int) = x2 by omega, show ((x3.toNat : Nat) : Int) = x3 by omega, ← hx38, if_neg (by omega)]
                refine zs_lload (pc := 65) C dX0_bringTogether_65 rfl ?_
                refine zs_last (r := 2013) (pc := 67) C dX0_bringTogether_67 a_13 (by decide) (by omega) rfl ?_
                first | refine zs_iinc (pc := 68) C dX0_bringTogether_68 rfl (by decide) (by omega) ?_ | refine zs_iincF (pc := 68) C dX0_bringTogether_68 rfl (by decide) (fun z68 hz681 hz682 => ?_)
                dsimp only [zset, zclr, znone]
                refine zs_goto (tgt := 27) (pc := 71) C dX0_bringTogether_71 (by decide) ?_
                exact zs_wk (ih27 _ _ (by omega) (by repeat (first | exact zsm_rf | assumption | refine zsm_C (by decide) ?_ | refine zsm_I (by decide) ?_ | refine zsm_J ?_ | refine zsm_c (by assumption) (by decide) ?_)) (by first | exact h27_2 | (rw [← h27_2]; exact (hz38.1 103 (by decide) ▸ rfl))) (by repeat (first | exact zsj_rf | assumption | refine zsj_I ?_ | refine zsj_J (by decide) ?_ | refine zsj_e (by assumption) ?_ | refine zsj_c (by assumption) (by decide) ?_)) (fun i j a b z => cvs (i := x2.toNat) (j := x3.toNat) (n := (A 4 1).toNat) (v := prV A W) (by omega) (by omega) (by omega) (by omega) (by omega) hvl (fun p q a1 a2 a3 => h27_4 p q a1 a2 a3) i j a b (by omega)) (by first | omega | (simp only [zuI_1, zuI_2, zuJ_1, zuJ_2, zuJ_3, zuP_1, zuP_2, zuP_3, zuC_1, zuC_2, reduceIte, Nat.reduceEqDiff, false_and, and_false, true_and, and_true, and_self, or_true, true_or, or_false, false_or]; omega))) (zwk_s rfl (zwk_s rfl (zwk_s rfl (zwk_s rfl (zwk_n (zwk_n zwk_0))))))
              · skip
                have hvl : (0 : Int) = prV A W x2.toNat x3.toNat := by unfold prV; rw [show ((x2.toNat : Nat) : Int) = x2 by omega, show ((x3.toNat : Nat) : Int) = x3 by omega, ← hx38, if_pos (by omega)]
                refine zs_lconst (n := 0) (pc := 61) C dX0_bringTogether_61 rfl (by decide) ?_
                refine zs_goto (tgt := 67) (pc := 62) C dX0_bringTogether_62 (by decide) ?_
                refine zs_last (r := 2013) (pc := 67) C dX0_bringTogether_67 a_13 (by decide) (by omega) rfl ?_
                first | refine zs_iinc (pc := 68) C dX0_bringTogether_68 rfl (by decide) (by omega) ?_ | refine zs_iincF (pc := 68) C dX0_bringTogether_68 rfl (by decide) (fun z68 hz681 hz682 => ?_)
                dsimp only [zset, zclr, znone]
                refine zs_goto (tgt := 27) (pc := 71) C dX0_bringTogether_71 (by decide) ?_
                exact zs_wk (ih27 _ _ (by omega) (by repeat (first | exact zsm_rf | assumption | refine zsm_C (by decide) ?_ | refine zsm_I (by decide) ?_ | refine zsm_J ?_ | refine zsm_c (by assumption) (by decide) ?_)) (by first | exact h27_2 | (rw [← h27_2]; exact (hz38.1 103 (by decide) ▸ rfl))) (by repeat (first | exact zsj_rf | assumption | refine zsj_I ?_ | refine zsj_J (by decide) ?_ | refine zsj_e (by assumption) ?_ | refine zsj_c (by assumption) (by decide) ?_)) (fun i j a b z => cvs (i := x2.toNat) (j := x3.toNat) (n := (A 4 1).toNat) (v := prV A W) (by omega) (by omega) (by omega) (by omega) (by omega) hvl (fun p q a1 a2 a3 => h27_4 p q a1 a2 a3) i j a b (by omega)) (by first | omega | (simp only [zuI_1, zuI_2, zuJ_1, zuJ_2, zuJ_3, zuP_1, zuP_2, zuP_3, zuC_1, zuC_2, reduceIte, Nat.reduceEqDiff, false_and, and_false, true_and, and_true, and_self, or_true, true_or, or_false, false_or]; omega))) (zwk_s rfl (zwk_s rfl (zwk_s rfl (zwk_s rfl (zwk_n (zwk_n zwk_0))))))
        exact zs_wk (L27 _ _ _ (by omega) h15_1 h15_2 h15_3 (fun i j a b z => h15_4 i j a b (by omega)) (Nat.lt_succ_self _)) (zwk_s rfl (zwk_s rfl (zwk_s rfl (zwk_s rfl (zwk_n (zwk_n zwk_0))))))
  exact zs_wk (L15 _ _ _ (by omega) (by repeat (first | exact zsm_rf | assumption | refine zsm_C (by decide) ?_ | refine zsm_I (by decide) ?_ | refine zsm_J ?_ | refine zsm_c (by assumption) (by decide) ?_)) (by simp only [zuI_1, zuI_2, zuJ_1, zuJ_2, zuJ_3, zuP_1, zuP_2, zuP_3, zuC_1, zuC_2, reduceIte, Nat.reduceEqDiff, false_and, and_false, true_and, and_true, and_self, or_true, true_or, or_false, false_or]) (by repeat (first | exact zsj_rf | assumption | refine zsj_I ?_ | refine zsj_J (by decide) ?_ | refine zsj_e (by assumption) ?_ | refine zsj_c (by assumption) (by decide) ?_)) (fun i j _ _ z => by omega) (Nat.lt_succ_self _)) (zwk_s rfl (zwk_s rfl (zwk_s rfl (zwk_n (zwk_n (zwk_n zwk_0))))))
