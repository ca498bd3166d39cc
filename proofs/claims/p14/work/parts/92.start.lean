theorem kd_dt {α : Type} {L : List α} {f : Nat → α} (p n : Nat) (h : (L.drop p).take n = (List.range n).map f) : ∀ j : Nat, j < n → f j ∈ L := fun j hj => List.mem_of_mem_drop (i := p) (List.mem_of_mem_take (i := n) (by rw [h]; exact List.mem_map.mpr ⟨j, List.mem_range.mpr hj, rfl⟩))
def kd_sb {α : Type} (tb : List Cond) (f : α → Cond) : List α → List Nat → Bool
  | [], _ => true
  | a :: L, i :: ix => decide (tb[i]? = some (f a)) && kd_sb tb f L ix
  | _ :: _, [] => false
theorem kd_sub {α : Type} {tb : List Cond} {f : α → Cond} : ∀ (L : List α) (ix : List Nat), kd_sb tb f L ix = true → ∀ q ∈ L, f q ∈ tb
  | [], _, _, _, h => absurd h List.not_mem_nil
  | a :: L, [], h, _, _ => absurd (show false = true from h) (by decide)
  | a :: L, i :: ix, h, q, hq => by
    have h3 : (decide (tb[i]? = some (f a)) && kd_sb tb f L ix) = true := h
    rw [Bool.and_eq_true] at h3
    rcases List.mem_cons.mp hq with e | e
    · rw [e]; exact List.mem_of_getElem? (of_decide_eq_true h3.1)
    · exact kd_sub L ix h3.2 q e
/-! the start of the law -/
theorem s_eq {t : Term} {n : Int32} {args : Array Value} {s : State} (h : (Cond.eq t (.int n)).before args s = true) : t.eval args s none [] s = some (.int n) := by
  have h9 : ((Cond.eq t (.int n)).value args s none s [] == some true) = true := h
  exact va_eqI (beq_iff_eq.mp h9) rfl
theorem s_ref {t : Term} {cls : String} {args : Array Value} {s : State} (h : (Cond.exactly t cls).before args s = true) : ∃ a : Nat, t.eval args s none [] s = some (.ref a) := by
  obtain ⟨a, c, cell, k, h1, -⟩ := Cond.exactly_spec h
  exact ⟨a, h1⟩
theorem s_getD {Q : Int → Prop} {l : List Int} (h : ∀ x ∈ l, Q x) (h0 : Q 0) (j : Nat) : Q (l.getD j 0) := by
  rw [List.getD_eq_getElem?_getD]
  cases e : l[j]? with
  | none => exact h0
  | some x => exact h x (List.mem_of_getElem? e)
set_option maxRecDepth 100000 in
theorem sa_m : Cond.arrayOf (.static "ConfessionMill" "MOST" "[I") .int ∈ flatC (Jvm.Cond.and given_1 narrow_1) := List.mem_of_getElem? (i := 10) (by decide +kernel)
set_option maxRecDepth 100000 in
theorem sl_m : Cond.eq (.length (.static "ConfessionMill" "MOST" "[I")) (.int (Int32.ofNat 4)) ∈ flatC (Jvm.Cond.and given_1 narrow_1) := List.mem_of_getElem? (i := 11) (by decide +kernel)
set_option maxRecDepth 100000 in
theorem se_m : ∀ j : Nat, j < 4 → Cond.eq (.elem (.static "ConfessionMill" "MOST" "[I") (.int (Int32.ofNat j))) (.int (Int32.ofInt (zX0.getD j 0))) ∈ flatC (Jvm.Cond.and given_1 narrow_1) := kd_dt (f := fun j => Cond.eq (.elem (.static "ConfessionMill" "MOST" "[I") (.int (Int32.ofNat j))) (.int (Int32.ofInt (zX0.getD j 0)))) 12 4 (by decide +kernel)
set_option maxRecDepth 100000 in
theorem sa_b : Cond.arrayOf (.static "ConfessionMill$Reader" "BINDS" "[I") .int ∈ flatC (Jvm.Cond.and given_1 narrow_1) := List.mem_of_getElem? (i := 17) (by decide +kernel)
set_option maxRecDepth 100000 in
theorem sl_b : Cond.eq (.length (.static "ConfessionMill$Reader" "BINDS" "[I")) (.int (Int32.ofNat 16)) ∈ flatC (Jvm.Cond.and given_1 narrow_1) := List.mem_of_getElem? (i := 18) (by decide +kernel)
set_option maxRecDepth 100000 in
theorem se_b : ∀ j : Nat, j < 16 → Cond.eq (.elem (.static "ConfessionMill$Reader" "BINDS" "[I") (.int (Int32.ofNat j))) (.int (Int32.ofInt (zX1.getD j 0))) ∈ flatC (Jvm.Cond.and given_1 narrow_1) := kd_dt (f := fun j => Cond.eq (.elem (.static "ConfessionMill$Reader" "BINDS" "[I") (.int (Int32.ofNat j))) (.int (Int32.ofInt (zX1.getD j 0)))) 19 16 (by decide +kernel)
set_option maxRecDepth 100000 in
theorem sx_1 : Cond.exactly (.string "ConfessionMill$Tokens" 24) "java/lang/String" ∈ flatC (Jvm.Cond.and given_1 narrow_1) := List.mem_of_getElem? (i := 59) (by decide +kernel)
set_option maxRecDepth 100000 in
theorem sc_1 : Cond.eq (.field (.string "ConfessionMill$Tokens" 24) "java/lang/String" "coder" "B") (.int 0) ∈ flatC (Jvm.Cond.and given_1 narrow_1) := List.mem_of_getElem? (i := 60) (by decide +kernel)
set_option maxRecDepth 100000 in
theorem sa_1 : Cond.arrayOf (.field (.string "ConfessionMill$Tokens" 24) "java/lang/String" "value" "[B") .byte ∈ flatC (Jvm.Cond.and given_1 narrow_1) := List.mem_of_getElem? (i := 61) (by decide +kernel)
set_option maxRecDepth 100000 in
theorem sl_1 : Cond.eq (.length (.field (.string "ConfessionMill$Tokens" 24) "java/lang/String" "value" "[B")) (.int (Int32.ofNat 49)) ∈ flatC (Jvm.Cond.and given_1 narrow_1) := List.mem_of_getElem? (i := 62) (by decide +kernel)
set_option maxRecDepth 100000 in
theorem se_1 : ∀ j : Nat, j < 49 → Cond.eq (.elem (.field (.string "ConfessionMill$Tokens" 24) "java/lang/String" "value" "[B") (.int (Int32.ofNat j))) (.int (sB1.getD j 0)) ∈ flatC (Jvm.Cond.and given_1 narrow_1) := kd_dt (f := fun j => Cond.eq (.elem (.field (.string "ConfessionMill$Tokens" 24) "java/lang/String" "value" "[B") (.int (Int32.ofNat j))) (.int (sB1.getD j 0))) 63 49 (by decide +kernel)
set_option maxRecDepth 100000 in
theorem sx_2 : Cond.exactly (.string "ConfessionMill$Tokens" 26) "java/lang/String" ∈ flatC (Jvm.Cond.and given_1 narrow_1) := List.mem_of_getElem? (i := 112) (by decide +kernel)
set_option maxRecDepth 100000 in
theorem sc_2 : Cond.eq (.field (.string "ConfessionMill$Tokens" 26) "java/lang/String" "coder" "B") (.int 0) ∈ flatC (Jvm.Cond.and given_1 narrow_1) := List.mem_of_getElem? (i := 113) (by decide +kernel)
set_option maxRecDepth 100000 in
theorem sa_2 : Cond.arrayOf (.field (.string "ConfessionMill$Tokens" 26) "java/lang/String" "value" "[B") .byte ∈ flatC (Jvm.Cond.and given_1 narrow_1) := List.mem_of_getElem? (i := 114) (by decide +kernel)
set_option maxRecDepth 100000 in
theorem sl_2 : Cond.eq (.length (.field (.string "ConfessionMill$Tokens" 26) "java/lang/String" "value" "[B")) (.int (Int32.ofNat 72)) ∈ flatC (Jvm.Cond.and given_1 narrow_1) := List.mem_of_getElem? (i := 115) (by decide +kernel)
set_option maxRecDepth 100000 in
theorem se_2 : ∀ j : Nat, j < 72 → Cond.eq (.elem (.field (.string "ConfessionMill$Tokens" 26) "java/lang/String" "value" "[B") (.int (Int32.ofNat j))) (.int (sB2.getD j 0)) ∈ flatC (Jvm.Cond.and given_1 narrow_1) := kd_dt (f := fun j => Cond.eq (.elem (.field (.string "ConfessionMill$Tokens" 26) "java/lang/String" "value" "[B") (.int (Int32.ofNat j))) (.int (sB2.getD j 0))) 116 72 (by decide +kernel)
set_option maxRecDepth 100000 in
theorem sx_3 : Cond.exactly (.string "ConfessionMill" 110) "java/lang/String" ∈ flatC (Jvm.Cond.and given_1 narrow_1) := List.mem_of_getElem? (i := 189) (by decide +kernel)
set_option maxRecDepth 100000 in
theorem sx_4 : Cond.exactly (.string "ConfessionMill" 133) "java/lang/String" ∈ flatC (Jvm.Cond.and given_1 narrow_1) := List.mem_of_getElem? (i := 209) (by decide +kernel)
set_option maxRecDepth 100000 in
theorem s_cs : Cond.eq (.static "java/lang/String" "COMPACT_STRINGS" "Z") (.int 1) ∈ flatC (Jvm.Cond.and given_1 narrow_1) := List.mem_of_getElem? (i := 4) (by decide +kernel)
set_option maxRecDepth 100000 in
theorem s_sf : Cond.isRef (.static "jdk/internal/util/Preconditions" "SIOOBE_FORMATTER" "Ljava/util/function/BiFunction;") ∈ flatC (Jvm.Cond.and given_1 narrow_1) := List.mem_of_getElem? (i := 5) (by decide +kernel)
set_option maxRecDepth 100000 in
theorem s_us : Cond.isRef (.static Bundle.tN "UNASSIGNED_STACK" Bundle.steD) ∈ flatC (Jvm.Cond.and given_1 narrow_1) := by decide +kernel
set_option maxRecDepth 100000 in
theorem s_ss : Cond.isRef (.static Bundle.tN "SUPPRESSED_SENTINEL" Bundle.listD) ∈ flatC (Jvm.Cond.and given_1 narrow_1) := by decide +kernel
set_option maxRecDepth 100000 in
theorem s_nc : Cond.not (.castable "java/util/NoSuchElementException" "java/lang/IndexOutOfBoundsException") ∈ flatC (Jvm.Cond.and given_1 narrow_1) := List.mem_of_getElem? (i := 47) (by decide +kernel)
set_option maxRecDepth 100000 in
theorem ws_m : Cond.laysStatic "ConfessionMill" "MOST" "[I" ∈ lw_tbl := List.mem_append_right _ (lw_T3 (i := 123) rfl)
set_option maxRecDepth 100000 in
theorem wn_m : Cond.initialized "ConfessionMill" ∈ lw_tbl := List.mem_append_right _ (lw_T1 (i := 1) rfl)
set_option maxRecDepth 100000 in
theorem ws_b : Cond.laysStatic "ConfessionMill$Reader" "BINDS" "[I" ∈ lw_tbl := List.mem_append_right _ (lw_T3 (i := 215) rfl)
set_option maxRecDepth 100000 in
theorem wn_b : Cond.initialized "ConfessionMill$Reader" ∈ lw_tbl := List.mem_append_right _ (lw_T1 (i := 2) rfl)
set_option maxRecDepth 100000 in
theorem ws_cs : Cond.laysStatic "java/lang/String" "COMPACT_STRINGS" "Z" ∈ lw_tbl := List.mem_append_right _ (lw_T1 (i := 59) rfl)
set_option maxRecDepth 100000 in
theorem wn_cs : Cond.initialized "java/lang/String" ∈ lw_tbl := List.mem_append_right _ (lw_T1 (i := 4) rfl)
set_option maxRecDepth 100000 in
theorem ws_sf : Cond.laysStatic "jdk/internal/util/Preconditions" "SIOOBE_FORMATTER" "Ljava/util/function/BiFunction;" ∈ lw_tbl := List.mem_append_right _ (lw_T1 (i := 75) rfl)
set_option maxRecDepth 100000 in
theorem wn_sf : Cond.initialized "jdk/internal/util/Preconditions" ∈ lw_tbl := List.mem_append_right _ (lw_T1 (i := 6) rfl)
set_option maxRecDepth 100000 in
theorem ws_us : Cond.laysStatic Bundle.tN "UNASSIGNED_STACK" Bundle.steD ∈ lw_tbl := by decide +kernel
set_option maxRecDepth 100000 in
theorem wn_us : Cond.initialized Bundle.tN ∈ lw_tbl := by decide +kernel
set_option maxRecDepth 100000 in
theorem ws_ss : Cond.laysStatic Bundle.tN "SUPPRESSED_SENTINEL" Bundle.listD ∈ lw_tbl := by decide +kernel
set_option maxRecDepth 100000 in
theorem wr_1 : Cond.stringRef RX6 24 "or and not worth times worn pride lie honest day " ∈ lw_tbl := List.mem_append_right _ (lw_T1 (i := 44) rfl)
set_option maxRecDepth 100000 in
theorem wr_2 : Cond.stringRef RX6 26 "sin person did cake grain grist stone seed law may grind wear want pair " ∈ lw_tbl := List.mem_append_right _ (lw_T1 (i := 45) rfl)
set_option maxRecDepth 100000 in
theorem wr_3 : Cond.stringRef RX8 110 "no such person" ∈ lw_tbl := List.mem_append_right _ (lw_T5 (i := 228) rfl)
set_option maxRecDepth 100000 in
theorem wr_4 : Cond.stringRef RX8 133 "no such what" ∈ lw_tbl := List.mem_append_right _ (lw_T6 (i := 24) rfl)
set_option maxRecDepth 100000 in
theorem wk_0 : Cond.instantiable RX0 6 ∈ lw_tbl := List.mem_append_right _ (lw_T2 (i := 214) rfl)
set_option maxRecDepth 100000 in
theorem wk_1 : Cond.instantiable RX1 8 ∈ lw_tbl := List.mem_append_right _ (lw_T1 (i := 136) rfl)
set_option maxRecDepth 100000 in
theorem wk_2 : Cond.instantiable RX2 8 ∈ lw_tbl := List.mem_append_right _ (lw_T2 (i := 181) rfl)
set_option maxRecDepth 100000 in
theorem wk_3 : Cond.instantiable RX3 14 ∈ lw_tbl := List.mem_append_right _ (lw_T1 (i := 33) rfl)
set_option maxRecDepth 100000 in
theorem wk_4 : Cond.instantiable RX4 11 ∈ lw_tbl := List.mem_append_right _ (lw_T2 (i := 57) rfl)
set_option maxRecDepth 100000 in
theorem wk_5 : Cond.instantiable RX5 13 ∈ lw_tbl := List.mem_append_right _ (lw_T1 (i := 130) rfl)
set_option maxRecDepth 100000 in
theorem wk_6 : Cond.instantiable RX6 7 ∈ lw_tbl := List.mem_append_right _ (lw_T1 (i := 39) rfl)
set_option maxRecDepth 100000 in
theorem wk_7 : Cond.instantiable RX7 14 ∈ lw_tbl := List.mem_append_right _ (lw_T2 (i := 51) rfl)
set_option maxRecDepth 100000 in
theorem wk_8 : Cond.instantiable RX8 14 ∈ lw_tbl := List.mem_append_right _ (lw_T1 (i := 25) rfl)
set_option maxRecDepth 100000 in
theorem wk_9 : Cond.instantiable RX9 91 ∈ lw_tbl := List.mem_append_right _ (lw_T6 (i := 32) rfl)
set_option maxRecDepth 100000 in
theorem zNs_in : ∀ q ∈ zNs, Cond.fieldLinkNest q.1 q.2.1 q.2.2.1 q.2.2.2.1 q.2.2.2.2.1 q.2.2.2.2.2 ∈ lw_tbl := fun q hq => List.mem_append_right _ (kd_sub (tb := tables_1) (f := fun q => Cond.fieldLinkNest q.1 q.2.1 q.2.2.1 q.2.2.2.1 q.2.2.2.2.1 q.2.2.2.2.2) zNs [103, 105, 107, 108, 149, 150, 170, 171, 172, 175, 176, 177, 178, 179, 181, 182, 183, 185, 186, 187, 189, 190, 192, 193, 194, 196, 197, 198, 200, 201, 202, 204, 205, 207, 208, 209, 211, 212, 214, 215, 251, 253, 303, 304, 306, 307, 309, 310, 312, 314, 315, 317, 319, 321, 323, 325, 327, 328, 363, 364, 366, 367, 369, 372, 374, 376, 378, 381, 383, 384, 386, 388, 390, 429, 431, 461, 465, 602] (by decide +kernel) q hq)
set_option maxRecDepth 100000 in
theorem zNc_in : ∀ q ∈ zNc, Cond.methodLinkNest q.1 q.2.1 q.2.2.1 q.2.2.2 ∈ lw_tbl := fun q hq => List.mem_append_right _ (kd_sub (tb := tables_1) (f := fun q => Cond.methodLinkNest q.1 q.2.1 q.2.2.1 q.2.2.2) zNc [34, 131, 137, 289, 298, 455] (by decide +kernel) q hq)
theorem s_arr {s : State} {args : Array Value} {ty : FieldType} (h : (Cond.arrayClass ty).before args s = true) : ∃ cA : ClassId, ArrOfT s cA ty ∧ s.vm.findClass ("[" ++ ty.toString) = some cA := by
  obtain ⟨c, k, comp, h1, h2, h3⟩ := Cond.arrayClass_spec h
  exact ⟨c, fun n z => ⟨fun k h => (by cases h), k, h2, comp, h3⟩, h1⟩
theorem s_known {s : State} {args : Array Value} (hts : ∀ w ∈ lw_tbl, w.before args s = true) : ∃ D : va_G, ∀ (c : Nat) (q : vw_C), vwCl[c]? = some q → u_Kn s q.1 q.2.1 q.2.2 (D.1 c) (D.2 c) := by
  obtain ⟨c0, i0, k0⟩ := u_known hts inX0 (hts _ wk_0)
  obtain ⟨c1, i1, k1⟩ := u_known hts inX1 (hts _ wk_1)
  obtain ⟨c2, i2, k2⟩ := u_known hts inX2 (hts _ wk_2)
  obtain ⟨c3, i3, k3⟩ := u_known hts inX3 (hts _ wk_3)
  obtain ⟨c4, i4, k4⟩ := u_known hts inX4 (hts _ wk_4)
  obtain ⟨c5, i5, k5⟩ := u_known hts inX5 (hts _ wk_5)
  obtain ⟨c6, i6, k6⟩ := u_known hts inX6 (hts _ wk_6)
  obtain ⟨c7, i7, k7⟩ := u_known hts inX7 (hts _ wk_7)
  obtain ⟨c8, i8, k8⟩ := u_known hts inX8 (hts _ wk_8)
  obtain ⟨c9, i9, k9⟩ := u_known hts inX9 (hts _ wk_9)
  refine ⟨(fun k => match k with | 0 => c0 | 1 => c1 | 2 => c2 | 3 => c3 | 4 => c4 | 5 => c5 | 6 => c6 | 7 => c7 | 8 => c8 | _ => c9, fun k => match k with | 0 => i0 | 1 => i1 | 2 => i2 | 3 => i3 | 4 => i4 | 5 => i5 | 6 => i6 | 7 => i7 | 8 => i8 | _ => i9), ?_⟩
  intro c q h
  have hc : c < 10 := (List.getElem?_eq_some_iff.mp h).1
  rcases (show c = 0 ∨ c = 1 ∨ c = 2 ∨ c = 3 ∨ c = 4 ∨ c = 5 ∨ c = 6 ∨ c = 7 ∨ c = 8 ∨ c = 9 by omega) with rfl | rfl | rfl | rfl | rfl | rfl | rfl | rfl | rfl | rfl
  · have e9 : (RX0, TX0, 6) = q := Option.some.inj h
    subst e9
    exact k0
  · have e9 : (RX1, TX1, 8) = q := Option.some.inj h
    subst e9
    exact k1
  · have e9 : (RX2, TX2, 8) = q := Option.some.inj h
    subst e9
    exact k2
  · have e9 : (RX3, TX3, 14) = q := Option.some.inj h
    subst e9
    exact k3
  · have e9 : (RX4, TX4, 11) = q := Option.some.inj h
    subst e9
    exact k4
  · have e9 : (RX5, TX5, 13) = q := Option.some.inj h
    subst e9
    exact k5
  · have e9 : (RX6, TX6, 7) = q := Option.some.inj h
    subst e9
    exact k6
  · have e9 : (RX7, TX7, 14) = q := Option.some.inj h
    subst e9
    exact k7
  · have e9 : (RX8, TX8, 14) = q := Option.some.inj h
    subst e9
    exact k8
  · have e9 : (RX9, TX9, 91) = q := Option.some.inj h
    subst e9
    exact k9
theorem s_str {s : State} {args : Array Value} {k N : Nat} {l : List Int32} (hts : ∀ w ∈ lw_tbl, w.before args s = true) (hs : ∀ c ∈ flatC (Jvm.Cond.and given_1 narrow_1), c.before args s = true) (hx : Cond.exactly (.string "ConfessionMill$Tokens" k) "java/lang/String" ∈ flatC (Jvm.Cond.and given_1 narrow_1)) (hc : Cond.eq (.field (.string "ConfessionMill$Tokens" k) "java/lang/String" "coder" "B") (.int 0) ∈ flatC (Jvm.Cond.and given_1 narrow_1)) (ha : Cond.arrayOf (.field (.string "ConfessionMill$Tokens" k) "java/lang/String" "value" "[B") .byte ∈ flatC (Jvm.Cond.and given_1 narrow_1)) (hl : Cond.eq (.length (.field (.string "ConfessionMill$Tokens" k) "java/lang/String" "value" "[B")) (.int (Int32.ofNat N)) ∈ flatC (Jvm.Cond.and given_1 narrow_1)) (he : ∀ j : Nat, j < N → Cond.eq (.elem (.field (.string "ConfessionMill$Tokens" k) "java/lang/String" "value" "[B") (.int (Int32.ofNat j))) (.int (l.getD j 0)) ∈ flatC (Jvm.Cond.and given_1 narrow_1)) (hN : N < 2 ^ 31) :
    ∃ (q v : Nat), (Term.string "ConfessionMill$Tokens" k).eval args s none [] s = some (.ref q) ∧ jStr (zAb s.heap.size) q v N (fun j => l.getD j 0) s s.heap := by
  have hA : ∀ a : Nat, a < s.heap.size → ¬ zAb s.heap.size a := fun a h => Nat.not_le.mpr h
  obtain ⟨q, h3⟩ := s_ref (hs _ hx)
  obtain ⟨v, e3, T3⟩ := va_Tof (A := zAb s.heap.size) (f := fun j => .int (l.getD j 0)) hN (hs _ ha) (s_eq (hs _ hl)) (fun j hj => s_eq (hs _ (he j hj))) hA
  exact ⟨q, v, h3, va_Oof (hs _ hx) h3 hA, vk_OFof h3 (s_eq (hs _ hc)) hA, vk_OFof h3 e3 hA, T3, hN, va_Zof (hts _ ws_cs) (hts _ wn_cs) (s_eq (hs _ s_cs)) hA, va_Zqof (hts _ ws_sf) (hts _ wn_sf) (hs _ s_sf) hA⟩
theorem s_throw {s : State} {args : Array Value} (hts : ∀ w ∈ lw_tbl, w.before args s = true) (hs : ∀ c ∈ flatC (Jvm.Cond.and given_1 narrow_1), c.before args s = true) : zTw (zAb s.heap.size) s := by
  have hA : ∀ a : Nat, a < s.heap.size → ¬ zAb s.heap.size a := fun a h => Nat.not_le.mpr h
  obtain ⟨q3, h3⟩ := s_ref (hs _ sx_3)
  obtain ⟨q4, h4⟩ := s_ref (hs _ sx_4)
  exact ⟨⟨q3, vk_R.of (hts _ wr_3) h3⟩, ⟨q4, vk_R.of (hts _ wr_4) h4⟩, vx_Zqof (hts _ ws_us) (hts _ wn_us) (hs _ s_us) hA, vx_Zqof (hts _ ws_ss) (hts _ wn_us) (hs _ s_ss) hA, va_Nc.of (hs _ s_nc), fun w hw => va_Nw.of (zwB_f w hw).2 (hts w (zwB_in w hw))⟩
theorem s_world {s : State} {sb L : Nat} {xs : Nat → Int32} (hts : ∀ w ∈ lw_tbl, w.before #[Value.ref sb] s = true) (hX : va_X sb L xs s s.heap) (hb : sb < s.heap.size) (hL : L ≤ 3072) (hs : ∀ c ∈ flatC (Jvm.Cond.and given_1 narrow_1), c.before #[Value.ref sb] s = true) :
    ∃ Γ : zΓ, (∀ a, Γ.1 a = 0) ∧ Γ.2.2.2.2.1 = [] ∧ Γ.2.2.2.2.2.1 2 = sb ∧ Γ.2.2.2.2.2.2.1 2 = L ∧ va_K Γ.2.2.2.1 vwCl (ztys Γ) s ∧ zXb s.heap.size Γ.2.2.2.2.2 s s.heap ∧ zXs Γ ∧ zTxF s.heap.size Γ.2.2.2.2.2 s := by
  have hA : ∀ a : Nat, a < s.heap.size → ¬ zAb s.heap.size a := fun a h => Nat.not_le.mpr h
  obtain ⟨D, hD⟩ := s_known hts
  obtain ⟨a0, p0, f0⟩ := s_arr (hts _ (zTb_in ac_int))
  obtain ⟨a1, p1, f1⟩ := s_arr (hts _ (zTb_in ac_long))
  obtain ⟨a2, p2, f2⟩ := s_arr (hts _ (zTb_in ac_boolean))
  obtain ⟨t0, e0, T0⟩ := va_Tof (A := zAb s.heap.size) (f := fun j => .int (Int32.ofInt (zX0.getD j 0))) (N := 4) (by decide) (hs _ sa_m) (s_eq (hs _ sl_m)) (fun j hj => s_eq (hs _ (se_m j hj))) hA
  obtain ⟨t1, e1, T1⟩ := va_Tof (A := zAb s.heap.size) (f := fun j => .int (Int32.ofInt (zX1.getD j 0))) (N := 16) (by decide) (hs _ sa_b) (s_eq (hs _ sl_b)) (fun j hj => s_eq (hs _ (se_b j hj))) hA
  obtain ⟨q1, v1, x1, J1⟩ := s_str (k := 24) (N := 49) hts hs sx_1 sc_1 sa_1 sl_1 se_1 (by decide)
  obtain ⟨q2, v2, x2, J2⟩ := s_str (k := 26) (N := 72) hts hs sx_2 sc_2 sa_2 sl_2 se_2 (by decide)
  have Z0 := va_Zof (hts _ ws_m) (hts _ wn_m) e0 hA
  have Z1 := va_Zof (hts _ ws_b) (hts _ wn_b) e1 hA
  have T2 : va_T .int sb L (fun j => .int (Int32.ofInt (xs j).toInt)) (zAb s.heap.size) s s.heap := by
    obtain ⟨cell, g1, g2, g3, g4, g5⟩ := hX
    refine ⟨cell, g1, g2, g3, by omega, by rw [g4], fun j hj => ?_, hA sb hb⟩
    rw [g5 j hj]
    show some (Value.int (xs j)) = some (Value.int (Int32.ofInt (xs j).toInt))
    rw [Int32.ofInt_toInt]
  refine ⟨(fun _ => 0, fun _ _ => 0, fun k => match k with | 0 => a0 | 1 => a1 | _ => a2, D, [], fun k => match k with | 0 => t0 | 1 => t1 | 2 => sb | 3 => q1 | _ => q2, fun k => match k with | 0 => 4 | 1 => 16 | _ => L, fun k j => match k with | 0 => zX0.getD j 0 | 1 => zX1.getD j 0 | _ => (xs j).toInt), fun _ => rfl, rfl, rfl, rfl, ⟨hD, ?_⟩, ⟨Z0, Z1, ?_⟩, ⟨rfl, rfl, fun _ _ => rfl, fun _ _ => rfl⟩, ⟨⟨vk_R.of (hts _ wr_1) x1, vk_R.of (hts _ wr_2) x2⟩, v1, v2, J1, J2⟩⟩
  · intro k q h
    have hk : k < 3 := (List.getElem?_eq_some_iff.mp h).1
    rcases (show k = 0 ∨ k = 1 ∨ k = 2 by omega) with rfl | rfl | rfl
    · have e9 : (a0, FieldType.int) = q := Option.some.inj h
      subst e9
      exact ⟨p0, f0⟩
    · have e9 : (a1, FieldType.long) = q := Option.some.inj h
      subst e9
      exact ⟨p1, f1⟩
    · have e9 : (a2, FieldType.boolean) = q := Option.some.inj h
      subst e9
      exact ⟨p2, f2⟩
  · intro k hk
    rcases (show k = 0 ∨ k = 1 ∨ k = 2 by omega) with rfl | rfl | rfl
    · exact ⟨T0, s_getD (Q := fun x => -2147483648 ≤ x ∧ x ≤ 2147483647) (by decide) (by decide), show (4 : Nat) < 2147483648 by decide⟩
    · exact ⟨T1, s_getD (Q := fun x => -2147483648 ≤ x ∧ x ≤ 2147483647) (by decide) (by decide), show (16 : Nat) < 2147483648 by decide⟩
    · refine ⟨T2, fun j => ?_, show L < 2147483648 by omega⟩
      show -2147483648 ≤ (xs j).toInt ∧ (xs j).toInt ≤ 2147483647
      have h1 := Int32.le_toInt (xs j)
      have h2 := Int32.toInt_lt (xs j)
      omega
theorem zf_0 (k : Nat) : zfk 0 k = (9, 0) := by
  show (([] : List (Nat × Nat)).getD k (9, 0)) = (9, 0)
  simp
def zG0 : zH := (fun r _ i => zdf r i, fun _ _ _ => 0, fun _ _ => 0)
theorem s_bn {Γ : zΓ} (h0 : ∀ a, Γ.1 a = 0) (hE : Γ.2.2.2.2.1 = []) : zBn Γ zG0 ∧ zWd Γ zG0 = [] := by
  have hw : zWd Γ zG0 = [] := by
    unfold zWd va_pl
    rw [hE]
    rfl
  refine ⟨⟨⟨by rw [hE]; exact List.nodup_nil, fun a => by rw [hE, h0 a]; simp, fun t k a h1 h2 => ?_⟩, ⟨fun r a i => zdf_in r i, fun r a i => ⟨show (-9223372036854775808 : Int) ≤ 0 by decide, show (0 : Int) ≤ 9223372036854775807 by decide⟩, fun t k a h1 h2 => ?_⟩, fun a _ => ⟨fun r i => rfl, fun r i => rfl⟩⟩, hw⟩
  · have e9 : t = 0 := by rw [← h1]; exact h0 a
    subst e9
    rw [zf_0] at h2
    exact absurd h2 (by decide)
  · have e9 : t = 0 := by rw [← h1]; exact h0 a
    subst e9
    rw [zf_0] at h2
    exact absurd h2 (by decide)
theorem cl_L8 : Cond.classLink RL 8 (zCn 9) ∈ zTb := (zTb_1 24 rfl rfl)
theorem cl_L18 : Cond.classLink RL 18 (zCn 10) ∈ zTb := (zTb_6 31 rfl rfl)
theorem in_L9 : Cond.instantiable (zCn 9) (zN 9) ∈ zTb := (zTb_1 25 rfl rfl)
theorem iz_L9 : Cond.initialized (zCn 9) ∈ zTb := (zTb_1 1 rfl rfl)
theorem in_L10 : Cond.instantiable (zCn 10) (zN 10) ∈ zTb := (zTb_6 32 rfl rfl)
theorem iz_L10 : Cond.initialized (zCn 10) ∈ zTb := (zTb_1 16 rfl rfl)
theorem wi_L8 (idx : Nat) : zWi idx yX8_init cX8_init 1 0 := ⟨⟨(zTb_1 27 rfl rfl), (zTb_1 1 rfl rfl), (zTb_1 28 rfl rfl)⟩, rfl, by decide +kernel, by decide +kernel, by decide +kernel⟩
theorem wi_L9 (idx : Nat) : zWi idx yX9_init cX9_init 1 0 := ⟨⟨(zTb_6 34 rfl rfl), (zTb_1 16 rfl rfl), (zTb_6 35 rfl rfl)⟩, rfl, by decide +kernel, by decide +kernel, by decide +kernel⟩
theorem li_L17 : zLi RL 17 yX8_init := Or.inl (zTb_1 26 rfl rfl)
theorem li_L20 : zLi RL 20 yX9_init := Or.inl (zTb_6 33 rfl rfl)
