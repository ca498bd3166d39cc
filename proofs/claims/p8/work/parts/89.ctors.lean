/-- these regions stay, at all that lay there -/
def zpr (rs : List Nat) (Γ : zΓ) (G G1 : zH) : Prop := ∀ r ∈ rs, ∀ a, Γ.1 a ≠ 0 → ∀ i, G1.1 r a i = G.1 r a i
theorem zpr_rf {rs : List Nat} {Γ : zΓ} {G : zH} : zpr rs Γ G G := fun _ _ _ _ _ => rfl
theorem zpr_ag {rs : List Nat} {Γ : zΓ} {G G1 : zH} {t q : Nat} {fr : Nat → Nat} {iv : Nat → Int} (h : zpr rs Γ G G1) (hr : ∀ r ∈ rs, r < 100 * t ∨ 100 * t + zN t ≤ r) : zpr rs Γ G (zag G1 t q fr iv) := fun r h1 a ha i => by
  rw [zag_r (hr r h1)]
  exact h r h1 a ha i
theorem zpr_tr {rs rs' : List Nat} {Γ Γ1 : zΓ} {G G1 G2 : zH} (h1 : zpr rs Γ G G1) (hx : zxt Γ Γ1) (h2 : zpr rs' Γ1 G1 G2) (hs : ∀ r ∈ rs, r ∈ rs') : zpr rs Γ G G2 := fun r h a ha i => (h2 r (hs r h) a (by rw [(hx.2.2.2 a ha).1]; exact ha) i).trans (h1 r h a ha i)
theorem zpr_no {rs ms : List Nat} {Γ Γ1 : zΓ} {G G1 G2 : zH} (h1 : zpr rs Γ G G1) (hx : zxt Γ Γ1) (hz : zsm ms G1 G2) (hr : ∀ r ∈ rs, r ∉ ms) : zpr rs Γ G (zno Γ1 G2) := fun r h a ha i => by
  rw [zno_1 (by rw [(hx.2.2.2 a ha).1]; exact ha), hz.1 r (hr r h)]
  exact h1 r h a ha i
theorem zpr_nn {rs ms : List Nat} {Γ Γ1 : zΓ} {G G1 G2 : zH} (h1 : zpr rs Γ G G1) (hx : zxt Γ Γ1) (hz : zsn ms G1 G2) (hr : ∀ r ∈ rs, r ∉ ms) : zpr rs Γ G (zno Γ1 G2) := fun r h a ha i => by
  rw [zno_1 (by rw [(hx.2.2.2 a ha).1]; exact ha), hz r (hr r h)]
  exact h1 r h a ha i
def zTxF (b : Nat) (o : (Nat → Nat) × (Nat → Nat) × (Nat → Nat → Int)) (U : State) : Prop :=
  (vk_R RX6 24 "or and not worth times worn pride lie honest day " (o.1 3) U ∧ vk_R RX6 26 "sin person did cake grain grist stone seed law may grind wear want pair " (o.1 4) U) ∧
  ∃ (v1 v2 : Nat), jStr (zAb b) (o.1 3) v1 49 (fun j => sB1.getD j 0) U U.heap ∧ jStr (zAb b) (o.1 4) v2 72 (fun j => sB2.getD j 0) U U.heap
theorem zTxF_sty {b : Nat} {o : (Nat → Nat) × (Nat → Nat) × (Nat → Nat → Int)} : zSty b (zTxF b o) := by
  intro U U1 h hW hq
  obtain ⟨⟨h1, h2⟩, v1, v2, h3, h4⟩ := h
  exact ⟨⟨vk_R.warm hW h1, vk_R.warm hW h2⟩, v1, v2, jStr_keep h3 hW.alike hq, jStr_keep h4 hW.alike hq⟩

section ZYF
variable {p : Program} {l : Launch} {e : Env} {R : Room} {s : State} {m : MethodId} {args : Array Value} {below : List Frame} {meth : Method} {c : Code} {Γ Γ0 : zΓ} {b : Nat} {cc : ByteArray} {nL : Nat} {own : String} {cells slots : Nat} {Q : State → Prop} {pc : Nat} {ls : List (Option zV)} {st : List zV} {G : zH} {ws X : va_W} {D : va_G}
theorem v_learnF {post : Int → zH → Prop} (C : zCv p s m args c Γ0 b cc nL own) (hx : zxt Γ0 Γ) {bs : ByteArray} {idx w0 a t v n : Nat} {k : Int} {f : Nat → Int32} {y : MethodName} (d : decode cc pc = .ok (.invokevirtual idx, 3)) (w : zWv own idx y 7 bs 7 (some .int) 2) (hM : zMt l Γ (fun U => jStr (zA Γ) a v n f U U.heap) y bs 7 (some .int) 4 [zr 7 w0, zr t a, zi k] G (zpi post)) (hB : zBn Γ G) (ht0 : Γ.1 w0 = 7) (ha : a = Γ.2.2.2.2.2.1 (t - 200)) (hJ : jStr (zAb b) a v n f s s.heap) (ht : 200 ≤ t) (hR : 5 ≤ R.frames ∧ 200 ≤ R.locals) (hc : cells ≤ R.cells ∧ slots ≤ R.slots) (hw : ((st.map zc).map fun v => v.category).sum ≤ 8) (hk : -2147483648 ≤ k ∧ k ≤ 2147483647)
    (kk : ∀ (x : Int) (G' : zH), post x G' → (-2147483648 ≤ x ∧ x ≤ 2147483647) → zBn Γ (zno Γ G') → V p l e R s m args below meth c b Γ0.2.2.2.1 nL cells slots Q (pc + 3) ls (zi x :: st) (X ++ zWd Γ (zno Γ G'))) : V p l e R s m args below meth c b Γ0.2.2.2.1 nL cells slots Q pc ls (zi k :: zr t a :: zr 7 w0 :: st) (X ++ zWd Γ G) := by
  rw [← hx.2.1]
  refine v_callT (av := [zr t a, zi k]) (zCv_x C hx) d w (by decide) rfl hM hB ?_ (fun U H hU hvm hq hA => by rw [hU]; exact jStr_nar (jStr_keep hJ hvm hq) hA) ?_ (by show 4 + 1 ≤ R.frames ∧ 8 + (7 + 11) + 40 * 4 ≤ R.locals; omega) hc hw (fun r G' hp hz hB' => ?_)
  · intro x hx
    rcases List.mem_cons.mp hx with h | h
    · rw [h]; exact zk_of ht0 (by decide) (by decide)
    · rcases List.mem_cons.mp h with h | h
      · rw [h]; exact Or.inr ⟨ht, ha⟩
      · rw [List.mem_singleton.mp h]; exact hk
  · intro a U g mk h
    exact jStr_keep (U := U) (U1 := U.calling g mk a) h (Vm.Alike.refl U.vm) (fun _ _ _ => rfl)
  · obtain ⟨x, rfl, hp⟩ := hp
    have h := kk x G' hp (hz _ rfl) hB'
    rw [← hx.2.1] at h
    exact h
end ZYF

