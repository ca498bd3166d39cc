theorem zag_r {G : zH} {t q r a i : Nat} {fr : Nat → Nat} {iv : Nat → Int} (hr : r < 100 * t ∨ 100 * t + zN t ≤ r) : (zag G t q fr iv).1 r a i = G.1 r a i := by
  show (if _ then _ else _) = _
  rw [if_neg (fun h => by omega)]
theorem MI_mk {Γ : zΓ} {w : Nat} {G : zH} (h1 : ∀ k, G.1 2071 (Γ.2.1 w 34) k = 0) (h2 : ∀ i, G.1 2074 (Γ.2.1 w 37) i = 0) : MI Γ w G :=
  ⟨fun k _ h => by rw [h1] at h; exact absurd h (by decide), fun i _ => by rw [h2]; exact ⟨fun q => absurd q (by decide), fun q => absurd q (by decide), fun q => absurd q (by decide)⟩⟩
theorem zno_f {Γ : zΓ} {w : Nat} {G : zH} (hL : zLok Γ) (hw : Γ.1 w = 10) (k t' : Nat) (hf : zfk 10 k = (2, t')) (h0 : t' ≠ 0) (r i : Nat) : (zno Γ G).1 r (Γ.2.1 w k) i = G.1 r (Γ.2.1 w k) i :=
  zno_1 (by rw [hL.2.2 10 k w hw (by rw [hf]), hf]; exact h0) r i
theorem MI_no {Γ : zΓ} {w : Nat} {G : zH} (hL : zLok Γ) (hw : Γ.1 w = 10) (h : MI Γ w G) : MI Γ w (zno Γ G) := by
  refine ⟨fun k hk => ?_, fun i hi => ?_⟩
  · rw [zno_f hL hw 34 71 f_10_34 (by decide), zno_f hL hw 36 73 f_10_36 (by decide)]
    exact h.1 k hk
  · rw [zno_f hL hw 37 74 f_10_37 (by decide), zno_f hL hw 38 75 f_10_38 (by decide), zno_f hL hw 39 76 f_10_39 (by decide)]
    exact h.2 i hi
theorem RC_no {Γ : zΓ} {w : Nat} {G : zH} (hL : zLok Γ) (hw : Γ.1 w = 10) (h : RC Γ w G) : RC Γ w (zno Γ G) := by
  have hw0 : Γ.1 w ≠ 0 := by rw [hw]; decide
  refine ⟨?_, fun j h1 h2 => ?_⟩
  · rw [zno_1 hw0, zno_1 hw0]
    exact h.1
  · rw [zno_f hL hw 34 71 f_10_34 (by decide), zno_f hL hw 36 73 f_10_36 (by decide)]
    exact h.2 j h1 h2

