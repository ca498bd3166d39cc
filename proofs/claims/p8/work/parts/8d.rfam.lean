/-- the changing references stay, but those of works to a telling -/
def RF (G G1 : zH) : Prop := ∀ r a : Nat, r ≠ 800 → G1.2.2 r a = G.2.2 r a
theorem RF_rf {G : zH} : RF G G := fun _ _ _ => rfl
theorem RF_c {G G1 G2 : zH} (h2 : RF G1 G2) (h : RF G G1) : RF G G2 := fun r a hr => (h2 r a hr).trans (h r a hr)
theorem RF_m {G G1 G2 : zH} {rs : List Nat} (h2 : zsm rs G1 G2) (h : RF G G1) : RF G G2 := fun r a hr => by rw [h2.2]; exact h r a hr
theorem RF_I {G G1 : zH} {r a i : Nat} {x : Int} (h : RF G G1) : RF G (zuI G1 r a i x) := h
theorem RF_J {G G1 : zH} {r a i : Nat} {x : Int} (h : RF G G1) : RF G (zuJ G1 r a i x) := h
theorem RF_C {G G1 : zH} {r a : Nat} {f : Nat → Int} (h : RF G G1) : RF G (zuC G1 r a f) := h
theorem RF_P {G G1 : zH} {a b : Nat} (h : RF G G1) : RF G (zuP G1 800 a b) := fun r a' hr => by
  rw [zuP_3, if_neg (fun q => hr q.1)]
  exact h r a' hr

