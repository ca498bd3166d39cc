section
/-! the words that are used everywhere -/
def zTb : List Cond := lw_tbl.filter goodWord
theorem zTb_in {w : Cond} (h : w ∈ zTb) : w ∈ lw_tbl := (List.mem_filter.mp h).1
theorem lw_in {w : Cond} (h : w ∈ tables_1) : w ∈ lw_tbl := List.mem_append_right _ h
theorem zTb_s {y : MethodName} {n : Nat} (h : (y, n) ∈ lw_privs) (g : goodWord (Cond.selects y.cls y y) = true) : Cond.selects y.cls y y ∈ zTb := List.mem_filter.mpr ⟨List.mem_append_left _ (List.mem_map.mpr ⟨(y, n), h, rfl⟩), g⟩
theorem zTb_1 {w : Cond} (i : Nat) (h : tables_1_1[i]? = some w) (g : goodWord w = true) : w ∈ zTb := List.mem_filter.mpr ⟨lw_in (List.mem_append_left _ (List.mem_of_getElem? h)), g⟩
theorem zTb_2 {w : Cond} (i : Nat) (h : tables_1_2[i]? = some w) (g : goodWord w = true) : w ∈ zTb := List.mem_filter.mpr ⟨lw_in (List.mem_append_right _ (List.mem_append_left _ (List.mem_of_getElem? h))), g⟩
theorem zTb_3 {w : Cond} (i : Nat) (h : tables_1_3[i]? = some w) (g : goodWord w = true) : w ∈ zTb := List.mem_filter.mpr ⟨lw_in (List.mem_append_right _ (List.mem_append_right _ (List.mem_append_left _ (List.mem_of_getElem? h)))), g⟩
theorem zTb_4 {w : Cond} (i : Nat) (h : tables_1_4[i]? = some w) (g : goodWord w = true) : w ∈ zTb := List.mem_filter.mpr ⟨lw_in (List.mem_append_right _ (List.mem_append_right _ (List.mem_append_right _ (List.mem_append_left _ (List.mem_of_getElem? h))))), g⟩
theorem zTb_5 {w : Cond} (i : Nat) (h : tables_1_5[i]? = some w) (g : goodWord w = true) : w ∈ zTb := List.mem_filter.mpr ⟨lw_in (List.mem_append_right _ (List.mem_append_right _ (List.mem_append_right _ (List.mem_append_right _ (List.mem_append_left _ (List.mem_of_getElem? h)))))), g⟩
theorem zTb_6 {w : Cond} (i : Nat) (h : tables_1_6[i]? = some w) (g : goodWord w = true) : w ∈ zTb := List.mem_filter.mpr ⟨lw_in (List.mem_append_right _ (List.mem_append_right _ (List.mem_append_right _ (List.mem_append_right _ (List.mem_append_right _ (List.mem_append_left _ (List.mem_of_getElem? h))))))), g⟩
theorem zTb_7 {w : Cond} (i : Nat) (h : tables_1_7[i]? = some w) (g : goodWord w = true) : w ∈ zTb := List.mem_filter.mpr ⟨lw_in (List.mem_append_right _ (List.mem_append_right _ (List.mem_append_right _ (List.mem_append_right _ (List.mem_append_right _ (List.mem_append_right _ (List.mem_append_left _ (List.mem_of_getElem? h)))))))), g⟩
theorem zTb_8 {w : Cond} (i : Nat) (h : tables_1_8[i]? = some w) (g : goodWord w = true) : w ∈ zTb := List.mem_filter.mpr ⟨lw_in (List.mem_append_right _ (List.mem_append_right _ (List.mem_append_right _ (List.mem_append_right _ (List.mem_append_right _ (List.mem_append_right _ (List.mem_append_right _ (List.mem_append_left _ (List.mem_of_getElem? h))))))))), g⟩
theorem zTb_9 {w : Cond} (i : Nat) (h : tables_1_9[i]? = some w) (g : goodWord w = true) : w ∈ zTb := List.mem_filter.mpr ⟨lw_in (List.mem_append_right _ (List.mem_append_right _ (List.mem_append_right _ (List.mem_append_right _ (List.mem_append_right _ (List.mem_append_right _ (List.mem_append_right _ (List.mem_append_right _ ((List.mem_of_getElem? h)))))))))), g⟩
theorem zTb_good {y : MethodName} {b : ByteArray} {n : Nat} {r : Option FieldType} (h : Cond.code y b n r ∈ zTb) : GoodIn zTb (Cond.code y b n r :: zTb) := by
  intro w hw
  have hz : w ∈ zTb := (List.mem_cons.mp hw).elim (fun e => e ▸ h) id
  exact ⟨hz, good_of_word (List.mem_filter.mp hz).2⟩
/-! ideal values: an int, a long, a reference with the type of what it refers to -/
abbrev zV : Type := Int ⊕ Int ⊕ (Nat × Nat)
abbrev zi (x : Int) : zV := Sum.inl x
abbrev zj (x : Int) : zV := Sum.inr (Sum.inl x)
abbrev zr (t a : Nat) : zV := Sum.inr (Sum.inr (t, a))
def zc : zV → Value
  | .inl x => .int (Int32.ofInt x)
  | .inr (.inl x) => .long (Int64.ofInt x)
  | .inr (.inr q) => .ref q.2
/-- the heap: ints, longs, references by region, address, place -/
abbrev zH : Type := (Nat → Nat → Nat → Int) × (Nat → Nat → Nat → Int) × (Nat → Nat → Nat)
/-- what stays: types of addresses, final references, array classes, tables, the addresses, the arrays outside (address, length, contents) -/
abbrev zΓ : Type := (Nat → Nat) × (Nat → Nat → Nat) × (Nat → ClassId) × va_G × List Nat × (Nat → Nat) × (Nat → Nat) × (Nat → Nat → Int)
def zA (Γ : zΓ) : Nat → Prop := fun q => Γ.1 q ≠ 0
def zk (Γ : zΓ) : zV → Prop
  | .inl x => -2147483648 ≤ x ∧ x ≤ 2147483647
  | .inr (.inl x) => -9223372036854775808 ≤ x ∧ x ≤ 9223372036854775807
  | .inr (.inr q) => (q.1 < 200 ∧ q.1 ≠ 0 ∧ Γ.1 q.2 = q.1) ∨ (200 ≤ q.1 ∧ q.2 = Γ.2.2.2.2.2.1 (q.1 - 200))
def zF (Γ : zΓ) (G : zH) (t k a : Nat) : Value := match (zfk t k).1 with
  | 0 => .int (Int32.ofInt (G.1 (100 * t + k) a 0))
  | 4 => .int (Int32.ofInt (G.1 (100 * t + k) a 0))
  | 1 => .long (Int64.ofInt (G.2.1 (100 * t + k) a 0))
  | 2 => .ref (Γ.2.1 a k)
  | _ => .ref (G.2.2 (100 * t + k) a)
def zE (Γ : zΓ) (G : zH) (a : Nat) : va_E :=
  if Γ.1 a ≤ 10 then .inr (Γ.1 a - 1, (List.range (zN (Γ.1 a))).map (fun k => zF Γ G (Γ.1 a) k a))
  else match (zat (Γ.1 a)).1 with
    | 0 => .inl (Γ.2.2.1 0, (zat (Γ.1 a)).2, .inl (fun j => Int32.ofInt (G.1 (2000 + Γ.1 a) a j)))
    | 1 => .inl (Γ.2.2.1 1, (zat (Γ.1 a)).2, .inr (.inl (fun j => Int64.ofInt (G.2.1 (2000 + Γ.1 a) a j))))
    | _ => .inl (Γ.2.2.1 2, (zat (Γ.1 a)).2, .inl (fun j => Int32.ofInt (G.1 (2000 + Γ.1 a) a j)))
def zWd (Γ : zΓ) (G : zH) : va_W := va_pl Γ.2.2.2.2.1 (zE Γ G)
def zG (Γ : zΓ) (G : zH) : Prop :=
  (∀ r a i, (zrg r i).1 ≤ G.1 r a i ∧ G.1 r a i ≤ (zrg r i).2) ∧ (∀ r a i, -9223372036854775808 ≤ G.2.1 r a i ∧ G.2.1 r a i ≤ 9223372036854775807) ∧
  (∀ t k a, Γ.1 a = t → (zfk t k).1 = 3 → Γ.1 (G.2.2 (100 * t + k) a) = (zfk t k).2)
def ztys (Γ : zΓ) : List (ClassId × FieldType) := [(Γ.2.2.1 0, .int), (Γ.2.2.1 1, .long), (Γ.2.2.1 2, .boolean)]
def zLok (Γ : zΓ) : Prop := Γ.2.2.2.2.1.Nodup ∧ (∀ a, a ∈ Γ.2.2.2.2.1 ↔ Γ.1 a ≠ 0) ∧ ∀ t k a, Γ.1 a = t → (zfk t k).1 = 2 → Γ.1 (Γ.2.1 a k) = (zfk t k).2
/-- the arrays outside: two statics, and the law's script -/
def zXf (Γ : zΓ) (U : State) (H : Heap) : Prop :=
  va_Z "ConfessionMill" "MOST" "[I" (.ref (Γ.2.2.2.2.2.1 0)) (zA Γ) U H ∧ va_Z "ConfessionMill$Reader" "BINDS" "[I" (.ref (Γ.2.2.2.2.2.1 1)) (zA Γ) U H ∧
  ∀ e, e < 3 → va_T .int (Γ.2.2.2.2.2.1 e) (Γ.2.2.2.2.2.2.1 e) (fun j => .int (Int32.ofInt (Γ.2.2.2.2.2.2.2 e j))) (zA Γ) U H ∧ (∀ j, -2147483648 ≤ Γ.2.2.2.2.2.2.2 e j ∧ Γ.2.2.2.2.2.2.2 e j ≤ 2147483647) ∧ Γ.2.2.2.2.2.2.1 e < 2147483648
def zNk (U : State) : Prop := ∀ q ∈ zNs, va_Nw (.fieldLinkNest q.1 q.2.1 q.2.2.1 q.2.2.2.1 q.2.2.2.2.1 q.2.2.2.2.2) U
def zSt (Γ : zΓ) (U : State) : Prop := va_K Γ.2.2.2.1 vwCl (ztys Γ) U ∧ zLok Γ ∧ zXf Γ U U.heap ∧ zNk U
def zX0 : List Int := [4, 5, 5, 3]
def zX1 : List Int := [0, 0, 1, 2, 3, 4, 4, 4, 4, 4, 4, 5, 5, 6, 6, 0]
/-- what the two statics hold -/
def zXs (Γ : zΓ) : Prop := Γ.2.2.2.2.2.2.1 0 = 4 ∧ Γ.2.2.2.2.2.2.1 1 = 16 ∧ (∀ j, j < 4 → Γ.2.2.2.2.2.2.2 0 j = zX0.getD j 0) ∧ ∀ j, j < 16 → Γ.2.2.2.2.2.2.2 1 j = zX1.getD j 0
/-! contracts -/
def zrm (lv : Nat) : Room := { frames := lv, cells := 0, slots := 0, locals := 40 * lv }
def zPc (Γ : zΓ) (av : List zV) (G : zH) : Array Value → State → Prop := fun v U => v = (av.map zc).toArray ∧ zSt Γ U ∧ zG Γ G ∧ (∀ x ∈ av, zk Γ x) ∧ va_P Γ.2.2.2.1 vwCl (zWd Γ G) U.heap
def zQc (Γ : zΓ) (post : Option zV → zH → Prop) : Array Value → State → Outcome → State → Prop := fun _ st oc t =>
  (∃ (r : Option zV) (G' : zH), oc = .returned (r.map zc) ∧ (∀ x, r = some x → zk Γ x) ∧ post r G' ∧ zG Γ G' ∧ va_P Γ.2.2.2.1 vwCl (zWd Γ G') t.heap) ∧ va_F (zA Γ) st t
def zM (l : Launch) (y : MethodName) (b : ByteArray) (mx : Nat) (ret : Option FieldType) (lv : Nat) (pre : zΓ → List zV → zH → Prop) (post : zΓ → List zV → zH → Option zV → zH → Prop) : Prop :=
  ∀ (Γ : zΓ) (av : List zV) (G : zH), zXs Γ → pre Γ av G → Met l y (Cond.code y b mx ret :: zTb) (zrm lv) (zPc Γ av G) (zQc Γ (post Γ av G)) 0 0 (zA Γ)
/-! locals -/
def zclr : Option zV → Option zV
  | some (.inr (.inl _)) => none
  | x => x
def zset : List (Option zV) → Nat → zV → List (Option zV)
  | [], _, _ => []
  | _ :: r, 0, v => some v :: r
  | x :: r, 1, v => zclr x :: zset r 0 v
  | x :: r, i + 2, v => x :: zset r (i + 1) v
def znone : List (Option zV) → Nat → List (Option zV)
  | [], _ => []
  | _ :: r, 0 => none :: r
  | x :: r, i + 1 => x :: znone r i
def zL (rl : Array Slot) (nL : Nat) (ls : List (Option zV)) : Prop := rl.size = nL ∧ lv_wf rl ∧ ∀ (i : Nat) (v : zV), ls[i]? = some (some v) → rl[i]? = some (.val (zc v))
def zas (ls : List (Option zV)) : List (Nat × Value) := (List.range ls.length).filterMap (fun i => match ls[i]? with
  | some (some v) => some (i, zc v)
  | _ => none)
theorem zas_mem {ls : List (Option zV)} {i : Nat} {v : zV} (h : ls[i]? = some (some v)) : (i, zc v) ∈ zas ls := by
  refine List.mem_filterMap.mpr ⟨i, List.mem_range.mpr (List.getElem?_eq_some_iff.mp h).1, ?_⟩
  rw [h]
theorem zas_inv {ls : List (Option zV)} {q : Nat × Value} (h : q ∈ zas ls) : ∃ v, ls[q.1]? = some (some v) ∧ q.2 = zc v := by
  obtain ⟨i, -, hi⟩ := List.mem_filterMap.mp h
  split at hi
  · next v hv => cases hi; exact ⟨v, hv, rfl⟩
  · cases hi
theorem zL_has {rl : Array Slot} {nL : Nat} {ls : List (Option zV)} (h : zL rl nL ls) : lv_has rl nL (zas ls) := by
  refine ⟨h.1, h.2.1, fun q hq => ?_⟩
  obtain ⟨v, h1, h2⟩ := zas_inv hq
  rw [h2]
  exact h.2.2 _ _ h1
theorem zset_get : ∀ (ls : List (Option zV)) (i : Nat) (v : zV) (j : Nat) (w : zV), (zset ls i v)[j]? = some (some w) → (j = i ∧ w = v) ∨ (j ≠ i ∧ ls[j]? = some (some w) ∧ ¬ (j + 1 = i ∧ (zc w).category = 2))
  | [], i, v, j, w, h => by simp [zset] at h
  | x :: r, 0, v, j, w, h => by
    cases j with
    | zero => simp [zset] at h; exact Or.inl ⟨rfl, h.symm⟩
    | succ j => simp [zset] at h; exact Or.inr ⟨by omega, by simpa using h, by omega⟩
  | x :: r, 1, v, j, w, h => by
    cases j with
    | zero =>
      simp only [zset, List.getElem?_cons_zero, Option.some.injEq] at h
      refine Or.inr ⟨by omega, ?_, ?_⟩
      · unfold zclr at h
        split at h
        · cases h
        · simp [h]
      · rintro ⟨-, hc⟩
        unfold zclr at h
        split at h
        · cases h
        · next h9 =>
          rcases w with x9 | x9 | x9
          · cases hc
          · exact h9 _ h
          · cases hc
    | succ j =>
      simp only [zset, List.getElem?_cons_succ] at h
      rcases zset_get r 0 v j w h with ⟨h1, h2⟩ | ⟨h1, h2, h3⟩
      · exact Or.inl ⟨by omega, h2⟩
      · exact Or.inr ⟨by omega, by simpa using h2, by omega⟩
  | x :: r, i + 2, v, j, w, h => by
    cases j with
    | zero => simp [zset] at h; exact Or.inr ⟨by omega, by simp [h], by omega⟩
    | succ j =>
      simp only [zset, List.getElem?_cons_succ] at h
      rcases zset_get r (i + 1) v j w h with ⟨h1, h2⟩ | ⟨h1, h2, h3⟩
      · exact Or.inl ⟨by omega, h2⟩
      · exact Or.inr ⟨by omega, by simpa using h2, fun q => h3 ⟨by omega, q.2⟩⟩
theorem znone_get : ∀ (ls : List (Option zV)) (i j : Nat) (w : zV), (znone ls i)[j]? = some (some w) → j ≠ i ∧ ls[j]? = some (some w)
  | [], i, j, w, h => by simp [znone] at h
  | x :: r, 0, j, w, h => by
    cases j with
    | zero => simp [znone] at h
    | succ j => simp [znone] at h; exact ⟨by omega, by simpa using h⟩
  | x :: r, i + 1, j, w, h => by
    cases j with
    | zero => simp [znone] at h; exact ⟨by omega, by simp [h]⟩
    | succ j =>
      simp only [znone, List.getElem?_cons_succ] at h
      obtain ⟨h1, h2⟩ := znone_get r i j w h
      exact ⟨by omega, by simpa using h2⟩
theorem zL_set1 {rl : Array Slot} {nL i : Nat} {ls : List (Option zV)} {v : zV} (h : lv_has rl nL ((i, zc v) :: (zas ls).filter (fun q => !(q.1 == i) && !(q.1 + 1 == i && q.2.category == 2)))) : zL rl nL (zset ls i v) := by
  refine ⟨h.1, h.2.1, fun j w hw => ?_⟩
  rcases zset_get ls i v j w hw with ⟨rfl, rfl⟩ | ⟨h1, h2, h3⟩
  · exact h.2.2 (j, zc w) List.mem_cons_self
  · refine h.2.2 (j, zc w) (List.mem_cons_of_mem _ (List.mem_filter.mpr ⟨zas_mem h2, ?_⟩))
    simp only [Bool.and_eq_true, Bool.not_eq_true', beq_eq_false_iff_ne, ne_eq, Bool.and_eq_false_iff]
    refine ⟨h1, ?_⟩
    by_cases q : j + 1 = i
    · exact Or.inr (fun q2 => h3 ⟨q, q2⟩)
    · exact Or.inl q
theorem zL_set2 {rl : Array Slot} {nL i : Nat} {ls : List (Option zV)} {v : zV} (h : lv_has rl nL ((i, zc v) :: (zas ls).filter (fun q => !(q.1 == i) && (!(q.1 == i + 1) && !(q.1 + 1 == i && q.2.category == 2))))) : zL rl nL (znone (zset ls i v) (i + 1)) := by
  refine ⟨h.1, h.2.1, fun j w hw => ?_⟩
  obtain ⟨h0, hw⟩ := znone_get _ _ _ _ hw
  rcases zset_get ls i v j w hw with ⟨rfl, rfl⟩ | ⟨h1, h2, h3⟩
  · exact h.2.2 (j, zc w) List.mem_cons_self
  · refine h.2.2 (j, zc w) (List.mem_cons_of_mem _ (List.mem_filter.mpr ⟨zas_mem h2, ?_⟩))
    simp only [Bool.and_eq_true, Bool.not_eq_true', beq_eq_false_iff_ne, ne_eq, Bool.and_eq_false_iff]
    refine ⟨h1, h0, ?_⟩
    by_cases q : j + 1 = i
    · exact Or.inr (fun q2 => h3 ⟨q, q2⟩)
    · exact Or.inl q
/-! the judgement: from here, with these ideal locals, stack and heap, the machine comes to Q -/
def zCx (p : Program) (s : State) (m : MethodId) (args : Array Value) (c : Code) (Γ : zΓ) (cc : ByteArray) (nL : Nat) (own : String) : Prop :=
  p.tables.exec = Jvm.exec ∧ c.code = cc ∧ c.maxLocals = nL ∧ s.vm.findClass own = some m.cls ∧ (∀ w ∈ zTb, w.before args s = true) ∧ zSt Γ s ∧ zXs Γ
def Z (p : Program) (l : Launch) (e : Env) (R : Room) (s : State) (m : MethodId) (args : Array Value) (below : List Frame) (meth : Method) (c : Code) (Γ : zΓ) (nL cells slots : Nat) (Q : State → Prop) (pc : Nat) (ls : List (Option zV)) (st : List zV) (G : zH) : Prop :=
  zG Γ G → (∀ v, some v ∈ ls → zk Γ v) → (∀ v ∈ st, zk Γ v) → ∀ (H : Heap) (locs : List Loc) (rl : Array Slot), va_P Γ.2.2.2.1 vwCl (zWd Γ G) H → va_S (zA Γ) s.heap H locs → zL rl nL ls → W p l e R s m args below meth c H locs cells slots Q (F0 m pc rl (st.map zc))
theorem zD_ok {Γ : zΓ} (h : zLok Γ) (f : Nat → va_E) : va_D (zA Γ) (va_pl Γ.2.2.2.2.1 f) := by
  constructor
  · intro i j p q hi hj hpq
    rw [va_pl, List.getElem?_map] at hi hj
    obtain ⟨a, ha, rfl⟩ := Option.map_eq_some_iff.mp hi
    obtain ⟨b, hb, rfl⟩ := Option.map_eq_some_iff.mp hj
    have hab : a = b := hpq
    subst hab
    obtain ⟨h1, h2⟩ := List.getElem?_eq_some_iff.mp ha
    obtain ⟨h3, h4⟩ := List.getElem?_eq_some_iff.mp hb
    exact (List.getElem_inj h.1).mp (h2.trans h4.symm)
  · intro k q hk
    rw [va_pl, List.getElem?_map] at hk
    obtain ⟨a, ha, rfl⟩ := Option.map_eq_some_iff.mp hk
    exact (h.2.1 a).mp (List.mem_of_getElem? ha)
theorem zE_cls {Γ : zΓ} {G : zH} {a t : Nat} (h : Γ.1 a = t) (ht : t ≤ 10) : zE Γ G a = .inr (t - 1, (List.range (zN t)).map (fun k => zF Γ G t k a)) := by
  subst h
  unfold zE
  rw [if_pos ht]
theorem zE_int {Γ : zΓ} {G : zH} {a t n : Nat} (h : Γ.1 a = t) (hz : zat t = (0, n)) : zE Γ G a = .inl (Γ.2.2.1 0, n, .inl (fun j => Int32.ofInt (G.1 (2000 + t) a j))) := by
  subst h
  have h9 : ¬ Γ.1 a ≤ 10 := fun q => by simp [zat, show Γ.1 a < 11 by omega] at hz
  unfold zE
  rw [if_neg h9, hz]
  rfl
theorem zE_long {Γ : zΓ} {G : zH} {a t n : Nat} (h : Γ.1 a = t) (hz : zat t = (1, n)) : zE Γ G a = .inl (Γ.2.2.1 1, n, .inr (.inl (fun j => Int64.ofInt (G.2.1 (2000 + t) a j)))) := by
  subst h
  have h9 : ¬ Γ.1 a ≤ 10 := fun q => by simp [zat, show Γ.1 a < 11 by omega] at hz
  unfold zE
  rw [if_neg h9, hz]
  rfl
theorem zE_bool {Γ : zΓ} {G : zH} {a t n : Nat} (h : Γ.1 a = t) (hz : zat t = (2, n)) : zE Γ G a = .inl (Γ.2.2.1 2, n, .inl (fun j => Int32.ofInt (G.1 (2000 + t) a j))) := by
  subst h
  have h9 : ¬ Γ.1 a ≤ 10 := fun q => by simp [zat, show Γ.1 a < 11 by omega] at hz
  unfold zE
  rw [if_neg h9, hz]
  rfl
theorem zX_keep {Γ : zΓ} {U U1 : State} {H H1 : Heap} (h : zXf Γ U H) (hvm : U.vm.Alike U1.vm) (hq : ∀ a : Nat, a < H.size → ¬ zA Γ a → H1[a]? = H[a]?) : zXf Γ U1 H1 := by
  refine ⟨(h.1.moved hvm).kept hq, (h.2.1.moved hvm).kept hq, fun e he => ⟨((h.2.2 e he).1.moved hvm).kept hq, (h.2.2 e he).2⟩⟩
theorem zSt_keep {Γ : zΓ} {U U1 : State} (h : zSt Γ U) (hW : U.WarmedH U1.vm) (hq : ∀ a : Nat, a < U.heap.size → ¬ zA Γ a → U1.heap[a]? = U.heap[a]?) : zSt Γ U1 :=
  ⟨h.1.moved hW.alike, h.2.1, zX_keep h.2.2.1 hW.alike hq, fun q h9 => va_Nw.warmF hW (h.2.2.2 q h9)⟩
end
section
section ZR
variable {p : Program} {l : Launch} {e : Env} {R : Room} {s : State} {m : MethodId} {args : Array Value} {below : List Frame} {meth : Method} {c : Code} {Γ : zΓ} {cc : ByteArray} {nL : Nat} {own : String} {cells slots : Nat} {Q : State → Prop} {pc : Nat} {ls : List (Option zV)} {st : List zV} {G : zH}
theorem zs_cons {v : zV} (h : zk Γ v) (hs : ∀ w ∈ st, zk Γ w) : ∀ w ∈ v :: st, zk Γ w := List.forall_mem_cons.mpr ⟨h, hs⟩
theorem zs_tl {v : zV} (hs : ∀ w ∈ v :: st, zk Γ w) : ∀ w ∈ st, zk Γ w := (List.forall_mem_cons.mp hs).2
theorem zs_hd {v : zV} (hs : ∀ w ∈ v :: st, zk Γ w) : zk Γ v := (List.forall_mem_cons.mp hs).1
theorem zi_lt {x y : Int} (hx : -2147483648 ≤ x ∧ x ≤ 2147483647) (hy : -2147483648 ≤ y ∧ y ≤ 2147483647) : Int32.ofInt x < Int32.ofInt y ↔ x < y := by
  rw [Int32.lt_iff_toInt_lt, Int32.toInt_ofInt_of_le (by omega) (by omega), Int32.toInt_ofInt_of_le (by omega) (by omega)]
theorem zi_le {x y : Int} (hx : -2147483648 ≤ x ∧ x ≤ 2147483647) (hy : -2147483648 ≤ y ∧ y ≤ 2147483647) : Int32.ofInt x ≤ Int32.ofInt y ↔ x ≤ y := by
  rw [Int32.le_iff_toInt_le, Int32.toInt_ofInt_of_le (by omega) (by omega), Int32.toInt_ofInt_of_le (by omega) (by omega)]
theorem zi_eq {x y : Int} (hx : -2147483648 ≤ x ∧ x ≤ 2147483647) (hy : -2147483648 ≤ y ∧ y ≤ 2147483647) : Int32.ofInt x = Int32.ofInt y ↔ x = y := by
  rw [← Int32.toInt_inj, Int32.toInt_ofInt_of_le (by omega) (by omega), Int32.toInt_ofInt_of_le (by omega) (by omega)]
theorem zi_0 : (0 : Int32) = Int32.ofInt 0 := rfl
theorem zi_in {x : Int} {n : Nat} (hx : 0 ≤ x ∧ x < n) (hn : x ≤ 2147483647) : vp_in (Int32.ofInt x) n := by
  rw [vp_in_iff, Int32.toInt_ofInt_of_le (by omega) (by omega)]
  exact hx
theorem zi_nat {x : Int} (hx : 0 ≤ x) (hn : x ≤ 2147483647) : (Int32.ofInt x).toNatClampNeg = x.toNat := Int32.toNatClampNeg_ofInt_of_le (by omega) (by omega)
/-- any int -/
theorem zW_int {H : Heap} {locs : List Loc} {rl : Array Slot} {w : Int32} (kk : ∀ z : Int, -2147483648 ≤ z → z ≤ 2147483647 → Z p l e R s m args below meth c Γ nL cells slots Q pc ls (zi z :: st) G) (hG : zG Γ G) (hl : ∀ v, some v ∈ ls → zk Γ v) (hs : ∀ v ∈ st, zk Γ v) (hP : va_P Γ.2.2.2.1 vwCl (zWd Γ G) H) (hS : va_S (zA Γ) s.heap H locs) (hL : zL rl nL ls) : W p l e R s m args below meth c H locs cells slots Q (F0 m pc rl (.int w :: st.map zc)) := by
  have h1 := Int32.le_toInt w
  have h2 := Int32.toInt_lt w
  have h := kk w.toInt (by omega) (by omega) hG hl (zs_cons ⟨by omega, by omega⟩ hs) H locs rl hP hS hL
  have e : zc (zi w.toInt) = .int w := by simp [zc]
  rwa [List.map_cons, e] at h
theorem zW_long {H : Heap} {locs : List Loc} {rl : Array Slot} {w : Int64} (kk : ∀ z : Int, -9223372036854775808 ≤ z → z ≤ 9223372036854775807 → Z p l e R s m args below meth c Γ nL cells slots Q pc ls (zj z :: st) G) (hG : zG Γ G) (hl : ∀ v, some v ∈ ls → zk Γ v) (hs : ∀ v ∈ st, zk Γ v) (hP : va_P Γ.2.2.2.1 vwCl (zWd Γ G) H) (hS : va_S (zA Γ) s.heap H locs) (hL : zL rl nL ls) : W p l e R s m args below meth c H locs cells slots Q (F0 m pc rl (.long w :: st.map zc)) := by
  have h1 := Int64.le_toInt w
  have h2 := Int64.toInt_lt w
  have h := kk w.toInt (by omega) (by omega) hG hl (zs_cons ⟨by omega, by omega⟩ hs) H locs rl hP hS hL
  have e : zc (zj w.toInt) = .long w := by simp [zc]
  rwa [List.map_cons, e] at h
/-- more may be forgotten -/
theorem zs_any {w : Int} (kk : ∀ z : Int, -2147483648 ≤ z → z ≤ 2147483647 → Z p l e R s m args below meth c Γ nL cells slots Q pc ls (zi z :: st) G) : Z p l e R s m args below meth c Γ nL cells slots Q pc ls (zi w :: st) G := by
  intro hG hl hs
  exact kk w (zs_hd hs).1 (zs_hd hs).2 hG hl hs
/-- what an int on the stack is known to be -/
theorem zs_top {w : Int} (kk : -2147483648 ≤ w → w ≤ 2147483647 → Z p l e R s m args below meth c Γ nL cells slots Q pc ls (zi w :: st) G) : Z p l e R s m args below meth c Γ nL cells slots Q pc ls (zi w :: st) G := by
  intro hG hl hs
  exact kk (zs_hd hs).1 (zs_hd hs).2 hG hl hs
theorem zs_good (kk : zG Γ G → Z p l e R s m args below meth c Γ nL cells slots Q pc ls st G) : Z p l e R s m args below meth c Γ nL cells slots Q pc ls st G := fun hG => kk hG hG
/-- an int local is in the ints -/
theorem zs_loc {w : Int} (i : Nat) (h : ls[i]? = some (some (zi w))) (kk : -2147483648 ≤ w → w ≤ 2147483647 → Z p l e R s m args below meth c Γ nL cells slots Q pc ls st G) : Z p l e R s m args below meth c Γ nL cells slots Q pc ls st G := by
  intro hG hl hs
  have h9 := hl _ (List.mem_of_getElem? h)
  exact kk h9.1 h9.2 hG hl hs
theorem zs_iconst (C : zCx p s m args c Γ cc nL own) {n : Int} (d : decode cc pc = .ok (.iconst n, 1)) (hn : (-2147483648 ≤ n ∧ n ≤ 2147483647)) (kk : Z p l e R s m args below meth c Γ nL cells slots Q (pc + 1) ls (zi n :: st) G) : Z p l e R s m args below meth c Γ nL cells slots Q pc ls st G := by
  intro hG hl hs H locs rl hP hS hL
  exact lv_iconst C.1 C.2.1 d rfl (kk hG hl (zs_cons hn hs) H locs rl hP hS hL)
theorem zs_bipush (C : zCx p s m args c Γ cc nL own) {n : Int} (d : decode cc pc = .ok (.bipush n, 2)) (hn : (-2147483648 ≤ n ∧ n ≤ 2147483647)) (hv : (Int8.ofInt n).toInt32 = Int32.ofInt n) (kk : Z p l e R s m args below meth c Γ nL cells slots Q (pc + 2) ls (zi n :: st) G) : Z p l e R s m args below meth c Γ nL cells slots Q pc ls st G := by
  intro hG hl hs H locs rl hP hS hL
  exact lv_bipush C.1 C.2.1 d hv (kk hG hl (zs_cons hn hs) H locs rl hP hS hL)
theorem zs_sipush (C : zCx p s m args c Γ cc nL own) {n : Int} (d : decode cc pc = .ok (.sipush n, 3)) (hn : (-2147483648 ≤ n ∧ n ≤ 2147483647)) (hv : (Int16.ofInt n).toInt32 = Int32.ofInt n) (kk : Z p l e R s m args below meth c Γ nL cells slots Q (pc + 3) ls (zi n :: st) G) : Z p l e R s m args below meth c Γ nL cells slots Q pc ls st G := by
  intro hG hl hs H locs rl hP hS hL
  exact lv_sipush C.1 C.2.1 d hv (kk hG hl (zs_cons hn hs) H locs rl hP hS hL)
theorem zs_ldc (C : zCx p s m args c Γ cc nL own) {i : Nat} {n : Int} {v : Int32} (d : decode cc pc = .ok (.ldc i, 2)) (w : Jvm.Cond.constant own i v ∈ zTb) (hv : v = Int32.ofInt n) (hn : (-2147483648 ≤ n ∧ n ≤ 2147483647)) (kk : Z p l e R s m args below meth c Γ nL cells slots Q (pc + 2) ls (zi n :: st) G) : Z p l e R s m args below meth c Γ nL cells slots Q pc ls st G := by
  intro hG hl hs H locs rl hP hS hL
  subst hv
  exact lv_ldc C.1 C.2.1 C.2.2.2.1 (C.2.2.2.2.1 _ w) d (kk hG hl (zs_cons hn hs) H locs rl hP hS hL)
theorem zs_ldcw (C : zCx p s m args c Γ cc nL own) {i : Nat} {n : Int} {v : Int32} (d : decode cc pc = .ok (.ldc_w i, 3)) (w : Jvm.Cond.constant own i v ∈ zTb) (hv : v = Int32.ofInt n) (hn : (-2147483648 ≤ n ∧ n ≤ 2147483647)) (kk : Z p l e R s m args below meth c Γ nL cells slots Q (pc + 3) ls (zi n :: st) G) : Z p l e R s m args below meth c Γ nL cells slots Q pc ls st G := by
  intro hG hl hs H locs rl hP hS hL
  subst hv
  exact lv_ldcw C.1 C.2.1 C.2.2.2.1 (C.2.2.2.2.1 _ w) d (kk hG hl (zs_cons hn hs) H locs rl hP hS hL)
theorem zs_ldc2 (C : zCx p s m args c Γ cc nL own) {i : Nat} {n : Int} {v : Int64} (d : decode cc pc = .ok (.ldc2_w i, 3)) (w : Jvm.Cond.constantLong own i v ∈ zTb) (hv : v = Int64.ofInt n) (hn : (-9223372036854775808 ≤ n ∧ n ≤ 9223372036854775807)) (kk : Z p l e R s m args below meth c Γ nL cells slots Q (pc + 3) ls (zj n :: st) G) : Z p l e R s m args below meth c Γ nL cells slots Q pc ls st G := by
  intro hG hl hs H locs rl hP hS hL
  subst hv
  exact lv_ldc2 C.1 C.2.1 C.2.2.2.1 (C.2.2.2.2.1 _ w) d (kk hG hl (zs_cons hn hs) H locs rl hP hS hL)
theorem zs_lconst (C : zCx p s m args c Γ cc nL own) {k : Fin 2} {n : Int} (d : decode cc pc = .ok (.lconst k, 1)) (hv : Int64.ofNat (k : Nat) = Int64.ofInt n) (hn : (-9223372036854775808 ≤ n ∧ n ≤ 9223372036854775807)) (kk : Z p l e R s m args below meth c Γ nL cells slots Q (pc + 1) ls (zj n :: st) G) : Z p l e R s m args below meth c Γ nL cells slots Q pc ls st G := by
  intro hG hl hs H locs rl hP hS hL
  exact lv_lconst C.1 C.2.1 d hv (kk hG hl (zs_cons hn hs) H locs rl hP hS hL)
theorem zs_iload_n (C : zCx p s m args c Γ cc nL own) {k : Fin 4} {x : Int} (d : decode cc pc = .ok (.iload_n k, 1)) (h : ls[(k : Nat)]? = some (some (zi x))) (kk : Z p l e R s m args below meth c Γ nL cells slots Q (pc + 1) ls (zi x :: st) G) : Z p l e R s m args below meth c Γ nL cells slots Q pc ls st G := by
  intro hG hl hs H locs rl hP hS hL
  exact lv_iload_n C.1 C.2.1 d rfl (hL.2.2 _ _ h) (kk hG hl (zs_cons (hl _ (List.mem_of_getElem? h)) hs) H locs rl hP hS hL)
theorem zs_iload (C : zCx p s m args c Γ cc nL own) {k : Nat} {x : Int} (d : decode cc pc = .ok (.iload k, 2)) (h : ls[k]? = some (some (zi x))) (kk : Z p l e R s m args below meth c Γ nL cells slots Q (pc + 2) ls (zi x :: st) G) : Z p l e R s m args below meth c Γ nL cells slots Q pc ls st G := by
  intro hG hl hs H locs rl hP hS hL
  exact lv_iload C.1 C.2.1 d (hL.2.2 _ _ h) (kk hG hl (zs_cons (hl _ (List.mem_of_getElem? h)) hs) H locs rl hP hS hL)
theorem zs_lload_n (C : zCx p s m args c Γ cc nL own) {k : Fin 4} {x : Int} (d : decode cc pc = .ok (.lload_n k, 1)) (h : ls[(k : Nat)]? = some (some (zj x))) (kk : Z p l e R s m args below meth c Γ nL cells slots Q (pc + 1) ls (zj x :: st) G) : Z p l e R s m args below meth c Γ nL cells slots Q pc ls st G := by
  intro hG hl hs H locs rl hP hS hL
  exact lv_lload_n C.1 C.2.1 d rfl (hL.2.2 _ _ h) (kk hG hl (zs_cons (hl _ (List.mem_of_getElem? h)) hs) H locs rl hP hS hL)
theorem zs_lload (C : zCx p s m args c Γ cc nL own) {k : Nat} {x : Int} (d : decode cc pc = .ok (.lload k, 2)) (h : ls[k]? = some (some (zj x))) (kk : Z p l e R s m args below meth c Γ nL cells slots Q (pc + 2) ls (zj x :: st) G) : Z p l e R s m args below meth c Γ nL cells slots Q pc ls st G := by
  intro hG hl hs H locs rl hP hS hL
  exact lv_lload C.1 C.2.1 d (hL.2.2 _ _ h) (kk hG hl (zs_cons (hl _ (List.mem_of_getElem? h)) hs) H locs rl hP hS hL)
theorem zs_aload_n (C : zCx p s m args c Γ cc nL own) {k : Fin 4} {t a : Nat} (d : decode cc pc = .ok (.aload_n k, 1)) (h : ls[(k : Nat)]? = some (some (zr t a))) (kk : Z p l e R s m args below meth c Γ nL cells slots Q (pc + 1) ls (zr t a :: st) G) : Z p l e R s m args below meth c Γ nL cells slots Q pc ls st G := by
  intro hG hl hs H locs rl hP hS hL
  exact lv_aload_n C.1 C.2.1 d rfl (hL.2.2 _ _ h) (kk hG hl (zs_cons (hl _ (List.mem_of_getElem? h)) hs) H locs rl hP hS hL)
theorem zs_aload (C : zCx p s m args c Γ cc nL own) {k : Nat} {t a : Nat} (d : decode cc pc = .ok (.aload k, 2)) (h : ls[k]? = some (some (zr t a))) (kk : Z p l e R s m args below meth c Γ nL cells slots Q (pc + 2) ls (zr t a :: st) G) : Z p l e R s m args below meth c Γ nL cells slots Q pc ls st G := by
  intro hG hl hs H locs rl hP hS hL
  exact lv_aload C.1 C.2.1 d (hL.2.2 _ _ h) (kk hG hl (zs_cons (hl _ (List.mem_of_getElem? h)) hs) H locs rl hP hS hL)
theorem zset_mem {i : Nat} {v w : zV} (h : some w ∈ zset ls i v) : w = v ∨ some w ∈ ls := by
  obtain ⟨j, hj⟩ := List.getElem?_of_mem h
  rcases zset_get ls i v j w hj with ⟨-, h2⟩ | ⟨-, h2, -⟩
  · exact Or.inl h2
  · exact Or.inr (List.mem_of_getElem? h2)
theorem znone_mem {i : Nat} {w : zV} (h : some w ∈ znone ls i) : some w ∈ ls := by
  obtain ⟨j, hj⟩ := List.getElem?_of_mem h
  exact List.mem_of_getElem? (znone_get ls i j w hj).2
theorem zs_hset {i : Nat} {v : zV} (hl : ∀ v, some v ∈ ls → zk Γ v) (h : zk Γ v) : ∀ w, some w ∈ zset ls i v → zk Γ w := fun w hw => (zset_mem hw).elim (fun e => e ▸ h) (hl w)
theorem zs_istore_n (C : zCx p s m args c Γ cc nL own) {k : Fin 4} {x : Int} (d : decode cc pc = .ok (.istore_n k, 1)) (hn : (k : Nat) < nL) (kk : Z p l e R s m args below meth c Γ nL cells slots Q (pc + 1) (zset ls (k : Nat) (zi x)) st G) : Z p l e R s m args below meth c Γ nL cells slots Q pc ls (zi x :: st) G := by
  intro hG hl hs H locs rl hP hS hL
  exact lv_istore_n C.1 C.2.1 d rfl (zL_has hL) hn rfl (fun rl' h' => kk hG (zs_hset hl (zs_hd hs)) (zs_tl hs) H locs rl' hP hS (zL_set1 (v := zi x) h'))
theorem zs_istore (C : zCx p s m args c Γ cc nL own) {k : Nat} {x : Int} (d : decode cc pc = .ok (.istore k, 2)) (hn : k < nL) (kk : Z p l e R s m args below meth c Γ nL cells slots Q (pc + 2) (zset ls k (zi x)) st G) : Z p l e R s m args below meth c Γ nL cells slots Q pc ls (zi x :: st) G := by
  intro hG hl hs H locs rl hP hS hL
  exact lv_istore C.1 C.2.1 d (zL_has hL) hn rfl (fun rl' h' => kk hG (zs_hset hl (zs_hd hs)) (zs_tl hs) H locs rl' hP hS (zL_set1 (v := zi x) h'))
theorem zs_astore_n (C : zCx p s m args c Γ cc nL own) {k : Fin 4} {t a : Nat} (d : decode cc pc = .ok (.astore_n k, 1)) (hn : (k : Nat) < nL) (kk : Z p l e R s m args below meth c Γ nL cells slots Q (pc + 1) (zset ls (k : Nat) (zr t a)) st G) : Z p l e R s m args below meth c Γ nL cells slots Q pc ls (zr t a :: st) G := by
  intro hG hl hs H locs rl hP hS hL
  exact lv_astore_n C.1 C.2.1 d rfl (zL_has hL) hn rfl (fun rl' h' => kk hG (zs_hset hl (zs_hd hs)) (zs_tl hs) H locs rl' hP hS (zL_set1 (v := zr t a) h'))
theorem zs_astore (C : zCx p s m args c Γ cc nL own) {k : Nat} {t a : Nat} (d : decode cc pc = .ok (.astore k, 2)) (hn : k < nL) (kk : Z p l e R s m args below meth c Γ nL cells slots Q (pc + 2) (zset ls k (zr t a)) st G) : Z p l e R s m args below meth c Γ nL cells slots Q pc ls (zr t a :: st) G := by
  intro hG hl hs H locs rl hP hS hL
  exact lv_astore C.1 C.2.1 d (zL_has hL) hn rfl (fun rl' h' => kk hG (zs_hset hl (zs_hd hs)) (zs_tl hs) H locs rl' hP hS (zL_set1 (v := zr t a) h'))
theorem zs_lstore_n (C : zCx p s m args c Γ cc nL own) {k : Fin 4} {x : Int} (d : decode cc pc = .ok (.lstore_n k, 1)) (hn : (k : Nat) + 1 < nL) (kk : Z p l e R s m args below meth c Γ nL cells slots Q (pc + 1) (znone (zset ls (k : Nat) (zj x)) ((k : Nat) + 1)) st G) : Z p l e R s m args below meth c Γ nL cells slots Q pc ls (zj x :: st) G := by
  intro hG hl hs H locs rl hP hS hL
  exact lv_lstore_n C.1 C.2.1 d rfl (zL_has hL) hn rfl (fun rl' h' => kk hG (fun w hw => zs_hset hl (zs_hd hs) w (znone_mem hw)) (zs_tl hs) H locs rl' hP hS (zL_set2 (v := zj x) h'))
theorem zs_lstore (C : zCx p s m args c Γ cc nL own) {k : Nat} {x : Int} (d : decode cc pc = .ok (.lstore k, 2)) (hn : k + 1 < nL) (kk : Z p l e R s m args below meth c Γ nL cells slots Q (pc + 2) (znone (zset ls k (zj x)) (k + 1)) st G) : Z p l e R s m args below meth c Γ nL cells slots Q pc ls (zj x :: st) G := by
  intro hG hl hs H locs rl hP hS hL
  exact lv_lstore C.1 C.2.1 d (zL_has hL) hn rfl (fun rl' h' => kk hG (fun w hw => zs_hset hl (zs_hd hs) w (znone_mem hw)) (zs_tl hs) H locs rl' hP hS (zL_set2 (v := zj x) h'))
theorem zs_iinc (C : zCx p s m args c Γ cc nL own) {k : Nat} {n x : Int} (d : decode cc pc = .ok (.iinc k n, 3)) (h : ls[k]? = some (some (zi x))) (hn : k < nL) (hr : -2147483648 ≤ x + n ∧ x + n ≤ 2147483647) (kk : Z p l e R s m args below meth c Γ nL cells slots Q (pc + 3) (zset ls k (zi (x + n))) st G) : Z p l e R s m args below meth c Γ nL cells slots Q pc ls st G := by
  intro hG hl hs H locs rl hP hS hL
  obtain ⟨j, hj⟩ := List.getElem?_of_mem (zas_mem h)
  refine lv_iinc (v := Int32.ofInt (x + n)) C.1 C.2.1 d (zL_has hL) (k := j) hj ?_ hn rfl (fun rl' h' => kk hG (zs_hset hl hr) hs H locs rl' hP hS (zL_set1 (v := zi (x + n)) h'))
  rw [Int32.ofInt_add]
theorem zs_iincF (C : zCx p s m args c Γ cc nL own) {k : Nat} {n x : Int} (d : decode cc pc = .ok (.iinc k n, 3)) (h : ls[k]? = some (some (zi x))) (hn : k < nL) (kk : ∀ z : Int, -2147483648 ≤ z → z ≤ 2147483647 → Z p l e R s m args below meth c Γ nL cells slots Q (pc + 3) (zset ls k (zi z)) st G) : Z p l e R s m args below meth c Γ nL cells slots Q pc ls st G := by
  intro hG hl hs H locs rl hP hS hL
  obtain ⟨j, hj⟩ := List.getElem?_of_mem (zas_mem h)
  have h1 := Int32.le_toInt (Int32.ofInt (x + n))
  have h2 := Int32.toInt_lt (Int32.ofInt (x + n))
  have hr : -2147483648 ≤ (Int32.ofInt (x + n)).toInt ∧ (Int32.ofInt (x + n)).toInt ≤ 2147483647 := by omega
  refine lv_iinc (v := Int32.ofInt (Int32.ofInt (x + n)).toInt) C.1 C.2.1 d (zL_has hL) (k := j) hj ?_ hn rfl (fun rl' h' => kk _ hr.1 hr.2 hG (zs_hset hl hr) hs H locs rl' hP hS (zL_set1 (v := zi (Int32.ofInt (x + n)).toInt) h'))
  rw [Int32.ofInt_toInt, Int32.ofInt_add]
theorem zs_iadd (C : zCx p s m args c Γ cc nL own) {x y : Int} (d : decode cc pc = .ok (.iadd, 1)) (hr : -2147483648 ≤ x + y ∧ x + y ≤ 2147483647) (kk : Z p l e R s m args below meth c Γ nL cells slots Q (pc + 1) ls (zi (x + y) :: st) G) : Z p l e R s m args below meth c Γ nL cells slots Q pc ls (zi y :: zi x :: st) G := by
  intro hG hl hs H locs rl hP hS hL
  refine lv_iadd C.1 C.2.1 d ?_
  rw [← Int32.ofInt_add]
  exact kk hG hl (zs_cons hr (zs_tl (zs_tl hs))) H locs rl hP hS hL
theorem zs_isub (C : zCx p s m args c Γ cc nL own) {x y : Int} (d : decode cc pc = .ok (.isub, 1)) (hr : -2147483648 ≤ x - y ∧ x - y ≤ 2147483647) (kk : Z p l e R s m args below meth c Γ nL cells slots Q (pc + 1) ls (zi (x - y) :: st) G) : Z p l e R s m args below meth c Γ nL cells slots Q pc ls (zi y :: zi x :: st) G := by
  intro hG hl hs H locs rl hP hS hL
  refine lv_isub C.1 C.2.1 d ?_
  rw [← Int32.ofInt_sub]
  exact kk hG hl (zs_cons hr (zs_tl (zs_tl hs))) H locs rl hP hS hL
theorem zs_imul (C : zCx p s m args c Γ cc nL own) {x y : Int} (d : decode cc pc = .ok (.imul, 1)) (hr : -2147483648 ≤ x * y ∧ x * y ≤ 2147483647) (kk : Z p l e R s m args below meth c Γ nL cells slots Q (pc + 1) ls (zi (x * y) :: st) G) : Z p l e R s m args below meth c Γ nL cells slots Q pc ls (zi y :: zi x :: st) G := by
  intro hG hl hs H locs rl hP hS hL
  refine lv_imul C.1 C.2.1 d ?_
  rw [← Int32.ofInt_mul]
  exact kk hG hl (zs_cons hr (zs_tl (zs_tl hs))) H locs rl hP hS hL
theorem zs_iaddF (C : zCx p s m args c Γ cc nL own) {x y : Int} (d : decode cc pc = .ok (.iadd, 1)) (kk : ∀ z : Int, -2147483648 ≤ z → z ≤ 2147483647 → Z p l e R s m args below meth c Γ nL cells slots Q (pc + 1) ls (zi z :: st) G) : Z p l e R s m args below meth c Γ nL cells slots Q pc ls (zi y :: zi x :: st) G := by
  intro hG hl hs H locs rl hP hS hL
  exact lv_iadd C.1 C.2.1 d (zW_int kk hG hl (zs_tl (zs_tl hs)) hP hS hL)
theorem zs_isubF (C : zCx p s m args c Γ cc nL own) {x y : Int} (d : decode cc pc = .ok (.isub, 1)) (kk : ∀ z : Int, -2147483648 ≤ z → z ≤ 2147483647 → Z p l e R s m args below meth c Γ nL cells slots Q (pc + 1) ls (zi z :: st) G) : Z p l e R s m args below meth c Γ nL cells slots Q pc ls (zi y :: zi x :: st) G := by
  intro hG hl hs H locs rl hP hS hL
  exact lv_isub C.1 C.2.1 d (zW_int kk hG hl (zs_tl (zs_tl hs)) hP hS hL)
theorem zs_imulF (C : zCx p s m args c Γ cc nL own) {x y : Int} (d : decode cc pc = .ok (.imul, 1)) (kk : ∀ z : Int, -2147483648 ≤ z → z ≤ 2147483647 → Z p l e R s m args below meth c Γ nL cells slots Q (pc + 1) ls (zi z :: st) G) : Z p l e R s m args below meth c Γ nL cells slots Q pc ls (zi y :: zi x :: st) G := by
  intro hG hl hs H locs rl hP hS hL
  exact lv_imul C.1 C.2.1 d (zW_int kk hG hl (zs_tl (zs_tl hs)) hP hS hL)
theorem zs_iandF (C : zCx p s m args c Γ cc nL own) {x y : Int} (d : decode cc pc = .ok (.iand, 1)) (kk : ∀ z : Int, -2147483648 ≤ z → z ≤ 2147483647 → Z p l e R s m args below meth c Γ nL cells slots Q (pc + 1) ls (zi z :: st) G) : Z p l e R s m args below meth c Γ nL cells slots Q pc ls (zi y :: zi x :: st) G := by
  intro hG hl hs H locs rl hP hS hL
  exact lv_iand C.1 C.2.1 d (zW_int kk hG hl (zs_tl (zs_tl hs)) hP hS hL)
theorem zs_iorF (C : zCx p s m args c Γ cc nL own) {x y : Int} (d : decode cc pc = .ok (.ior, 1)) (kk : ∀ z : Int, -2147483648 ≤ z → z ≤ 2147483647 → Z p l e R s m args below meth c Γ nL cells slots Q (pc + 1) ls (zi z :: st) G) : Z p l e R s m args below meth c Γ nL cells slots Q pc ls (zi y :: zi x :: st) G := by
  intro hG hl hs H locs rl hP hS hL
  exact lv_ior C.1 C.2.1 d (zW_int kk hG hl (zs_tl (zs_tl hs)) hP hS hL)
theorem zs_ishlF (C : zCx p s m args c Γ cc nL own) {x y : Int} (d : decode cc pc = .ok (.ishl, 1)) (kk : ∀ z : Int, -2147483648 ≤ z → z ≤ 2147483647 → Z p l e R s m args below meth c Γ nL cells slots Q (pc + 1) ls (zi z :: st) G) : Z p l e R s m args below meth c Γ nL cells slots Q pc ls (zi y :: zi x :: st) G := by
  intro hG hl hs H locs rl hP hS hL
  exact lv_ishl C.1 C.2.1 d (zW_int kk hG hl (zs_tl (zs_tl hs)) hP hS hL)
theorem zs_ishrF (C : zCx p s m args c Γ cc nL own) {x y : Int} (d : decode cc pc = .ok (.ishr, 1)) (kk : ∀ z : Int, -2147483648 ≤ z → z ≤ 2147483647 → Z p l e R s m args below meth c Γ nL cells slots Q (pc + 1) ls (zi z :: st) G) : Z p l e R s m args below meth c Γ nL cells slots Q pc ls (zi y :: zi x :: st) G := by
  intro hG hl hs H locs rl hP hS hL
  exact lv_ishr C.1 C.2.1 d (zW_int kk hG hl (zs_tl (zs_tl hs)) hP hS hL)
theorem zs_iushrF (C : zCx p s m args c Γ cc nL own) {x y : Int} (d : decode cc pc = .ok (.iushr, 1)) (kk : ∀ z : Int, -2147483648 ≤ z → z ≤ 2147483647 → Z p l e R s m args below meth c Γ nL cells slots Q (pc + 1) ls (zi z :: st) G) : Z p l e R s m args below meth c Γ nL cells slots Q pc ls (zi y :: zi x :: st) G := by
  intro hG hl hs H locs rl hP hS hL
  exact lv_iushr C.1 C.2.1 d rfl (zW_int kk hG hl (zs_tl (zs_tl hs)) hP hS hL)
theorem zs_idivF (C : zCx p s m args c Γ cc nL own) {x y : Int} (d : decode cc pc = .ok (.idiv, 1)) (hy : y ≠ 0) (kk : ∀ z : Int, -2147483648 ≤ z → z ≤ 2147483647 → Z p l e R s m args below meth c Γ nL cells slots Q (pc + 1) ls (zi z :: st) G) : Z p l e R s m args below meth c Γ nL cells slots Q pc ls (zi y :: zi x :: st) G := by
  intro hG hl hs H locs rl hP hS hL
  refine lv_idiv C.1 C.2.1 d (fun h => hy ?_) (zW_int kk hG hl (zs_tl (zs_tl hs)) hP hS hL)
  rw [zi_0, zi_eq (zs_hd hs) (by omega)] at h
  exact h
theorem zs_iremF (C : zCx p s m args c Γ cc nL own) {x y : Int} (d : decode cc pc = .ok (.irem, 1)) (hy : y ≠ 0) (kk : ∀ z : Int, -2147483648 ≤ z → z ≤ 2147483647 → Z p l e R s m args below meth c Γ nL cells slots Q (pc + 1) ls (zi z :: st) G) : Z p l e R s m args below meth c Γ nL cells slots Q pc ls (zi y :: zi x :: st) G := by
  intro hG hl hs H locs rl hP hS hL
  refine lv_irem C.1 C.2.1 d (fun h => hy ?_) (zW_int kk hG hl (zs_tl (zs_tl hs)) hP hS hL)
  rw [zi_0, zi_eq (zs_hd hs) (by omega)] at h
  exact h
theorem zi_div {x y : Int} (hx : 0 ≤ x ∧ x ≤ 2147483647) (hy : 0 < y ∧ y ≤ 2147483647) : Int32.ofInt x / Int32.ofInt y = Int32.ofInt (x / y) := by
  obtain ⟨n, rfl⟩ := Int.eq_ofNat_of_zero_le hx.1
  obtain ⟨k, rfl⟩ := Int.eq_ofNat_of_zero_le (Int.le_of_lt hy.1)
  have h := pk_div (a := n) (d := k) (by omega) (by omega) (by omega)
  rw [← Int.natCast_ediv]
  simpa only [nI, Int32.ofInt_eq_ofNat] using h
theorem zi_rem {x y : Int} (hx : 0 ≤ x ∧ x ≤ 2147483647) (hy : 0 < y ∧ y ≤ 2147483647) : Int32.ofInt x - Int32.ofInt x / Int32.ofInt y * Int32.ofInt y = Int32.ofInt (x % y) := by
  obtain ⟨n, rfl⟩ := Int.eq_ofNat_of_zero_le hx.1
  obtain ⟨k, rfl⟩ := Int.eq_ofNat_of_zero_le (Int.le_of_lt hy.1)
  have h := pk_rem (a := n) (d := k) (by omega) (by omega) (by omega)
  rw [← Int.natCast_emod]
  simpa only [nI, Int32.ofInt_eq_ofNat] using h
theorem zs_idiv (C : zCx p s m args c Γ cc nL own) {x y : Int} (d : decode cc pc = .ok (.idiv, 1)) (hx : 0 ≤ x) (hy : 0 < y) (kk : 0 ≤ x / y → x / y ≤ x → Z p l e R s m args below meth c Γ nL cells slots Q (pc + 1) ls (zi (x / y) :: st) G) : Z p l e R s m args below meth c Γ nL cells slots Q pc ls (zi y :: zi x :: st) G := by
  intro hG hl hs H locs rl hP hS hL
  have hxk := zs_hd (zs_tl hs)
  have hyk := zs_hd hs
  have h1 : 0 ≤ x / y := Int.ediv_nonneg hx (Int.le_of_lt hy)
  have h2 : x / y ≤ x := Int.ediv_le_self y hx
  refine lv_idiv C.1 C.2.1 d (fun h => ?_) ?_
  · rw [zi_0, zi_eq (zs_hd hs) (by omega)] at h
    omega
  · rw [zi_div ⟨hx, hxk.2⟩ ⟨hy, hyk.2⟩]
    exact kk h1 h2 hG hl (zs_cons (v := zi (x / y)) ⟨Int.le_trans (by decide) h1, Int.le_trans h2 hxk.2⟩ (zs_tl (zs_tl hs))) H locs rl hP hS hL
theorem zs_irem (C : zCx p s m args c Γ cc nL own) {x y : Int} (d : decode cc pc = .ok (.irem, 1)) (hx : 0 ≤ x) (hy : 0 < y) (kk : 0 ≤ x % y → x % y < y → Z p l e R s m args below meth c Γ nL cells slots Q (pc + 1) ls (zi (x % y) :: st) G) : Z p l e R s m args below meth c Γ nL cells slots Q pc ls (zi y :: zi x :: st) G := by
  intro hG hl hs H locs rl hP hS hL
  have hxk := zs_hd (zs_tl hs)
  have hyk := zs_hd hs
  have h1 : 0 ≤ x % y := Int.emod_nonneg x (by omega)
  have h2 : x % y < y := Int.emod_lt_of_pos x hy
  refine lv_irem C.1 C.2.1 d (fun h => ?_) ?_
  · rw [zi_0, zi_eq (zs_hd hs) (by omega)] at h
    omega
  · rw [zi_rem ⟨hx, hxk.2⟩ ⟨hy, hyk.2⟩]
    exact kk h1 h2 hG hl (zs_cons (v := zi (x % y)) ⟨Int.le_trans (by decide) h1, Int.le_trans (Int.le_of_lt h2) hyk.2⟩ (zs_tl (zs_tl hs))) H locs rl hP hS hL
/-- and with a mask of k ones -/
theorem zs_iand (C : zCx p s m args c Γ cc nL own) {x y : Int} (k : Nat) (d : decode cc pc = .ok (.iand, 1)) (hm : (Int32.ofInt y).toBitVec.toNat = 2 ^ k - 1) (hk : k ≤ 30) (kk : ∀ z : Int, 0 ≤ z → z < 2 ^ k → Z p l e R s m args below meth c Γ nL cells slots Q (pc + 1) ls (zi z :: st) G) : Z p l e R s m args below meth c Γ nL cells slots Q pc ls (zi y :: zi x :: st) G := by
  intro hG hl hs H locs rl hP hS hL
  refine lv_iand C.1 C.2.1 d ?_
  obtain ⟨j, hj, ej⟩ := pk_andE (Int32.ofInt x) k hm
  rw [ej]
  have h9 : (2 : Nat) ^ k ≤ 2 ^ 30 := Nat.pow_le_pow_right (by decide) hk
  have hz := kk (j : Int) (by omega) (by exact_mod_cast hj) hG hl (zs_cons (v := zi (j : Int)) ⟨by omega, by omega⟩ (zs_tl (zs_tl hs))) H locs rl hP hS hL
  have e : zc (zi (j : Int)) = .int (nI j) := by simp [zc, nI, Int32.ofInt_eq_ofNat]
  rwa [List.map_cons, e] at hz
theorem zs_laddF (C : zCx p s m args c Γ cc nL own) {x y : Int} (d : decode cc pc = .ok (.ladd, 1)) (kk : ∀ z : Int, -9223372036854775808 ≤ z → z ≤ 9223372036854775807 → Z p l e R s m args below meth c Γ nL cells slots Q (pc + 1) ls (zj z :: st) G) : Z p l e R s m args below meth c Γ nL cells slots Q pc ls (zj y :: zj x :: st) G := by
  intro hG hl hs H locs rl hP hS hL
  exact lv_ladd C.1 C.2.1 d (zW_long kk hG hl (zs_tl (zs_tl hs)) hP hS hL)
theorem zs_lsubF (C : zCx p s m args c Γ cc nL own) {x y : Int} (d : decode cc pc = .ok (.lsub, 1)) (kk : ∀ z : Int, -9223372036854775808 ≤ z → z ≤ 9223372036854775807 → Z p l e R s m args below meth c Γ nL cells slots Q (pc + 1) ls (zj z :: st) G) : Z p l e R s m args below meth c Γ nL cells slots Q pc ls (zj y :: zj x :: st) G := by
  intro hG hl hs H locs rl hP hS hL
  exact lv_lsub C.1 C.2.1 d (zW_long kk hG hl (zs_tl (zs_tl hs)) hP hS hL)
theorem zs_lmulF (C : zCx p s m args c Γ cc nL own) {x y : Int} (d : decode cc pc = .ok (.lmul, 1)) (kk : ∀ z : Int, -9223372036854775808 ≤ z → z ≤ 9223372036854775807 → Z p l e R s m args below meth c Γ nL cells slots Q (pc + 1) ls (zj z :: st) G) : Z p l e R s m args below meth c Γ nL cells slots Q pc ls (zj y :: zj x :: st) G := by
  intro hG hl hs H locs rl hP hS hL
  exact lv_lmul C.1 C.2.1 d (zW_long kk hG hl (zs_tl (zs_tl hs)) hP hS hL)
theorem zs_landF (C : zCx p s m args c Γ cc nL own) {x y : Int} (d : decode cc pc = .ok (.land, 1)) (kk : ∀ z : Int, -9223372036854775808 ≤ z → z ≤ 9223372036854775807 → Z p l e R s m args below meth c Γ nL cells slots Q (pc + 1) ls (zj z :: st) G) : Z p l e R s m args below meth c Γ nL cells slots Q pc ls (zj y :: zj x :: st) G := by
  intro hG hl hs H locs rl hP hS hL
  exact lv_land C.1 C.2.1 d (zW_long kk hG hl (zs_tl (zs_tl hs)) hP hS hL)
theorem zl_eq {x y : Int} (hx : -9223372036854775808 ≤ x ∧ x ≤ 9223372036854775807) (hy : -9223372036854775808 ≤ y ∧ y ≤ 9223372036854775807) : Int64.ofInt x = Int64.ofInt y ↔ x = y := by
  rw [← Int64.toInt_inj, Int64.toInt_ofInt_of_le (by omega) (by omega), Int64.toInt_ofInt_of_le (by omega) (by omega)]
theorem zl_lt {x y : Int} (hx : -9223372036854775808 ≤ x ∧ x ≤ 9223372036854775807) (hy : -9223372036854775808 ≤ y ∧ y ≤ 9223372036854775807) : Int64.ofInt x < Int64.ofInt y ↔ x < y := by
  rw [Int64.lt_iff_toInt_lt, Int64.toInt_ofInt_of_le (by omega) (by omega), Int64.toInt_ofInt_of_le (by omega) (by omega)]
theorem zs_lneg (C : zCx p s m args c Γ cc nL own) {x : Int} (d : decode cc pc = .ok (.lneg, 1)) (kk : ∀ z : Int, -9223372036854775808 ≤ z → z ≤ 9223372036854775807 → (x ≠ 0 → z ≠ 0) → Z p l e R s m args below meth c Γ nL cells slots Q (pc + 1) ls (zj z :: st) G) : Z p l e R s m args below meth c Γ nL cells slots Q pc ls (zj x :: st) G := by
  intro hG hl hs H locs rl hP hS hL
  have hx := zs_hd hs
  refine lv_lneg C.1 C.2.1 d ?_
  have h1 := Int64.le_toInt (-Int64.ofInt x)
  have h2 := Int64.toInt_lt (-Int64.ofInt x)
  have hz := kk (-Int64.ofInt x).toInt (by omega) (by omega) (fun h0 h3 => h0 ?_) hG hl (zs_cons (v := zj (-Int64.ofInt x).toInt) ⟨by omega, by omega⟩ (zs_tl hs)) H locs rl hP hS hL
  · have e : zc (zj (-Int64.ofInt x).toInt) = .long (-Int64.ofInt x) := by
      show Value.long (Int64.ofInt _) = _
      rw [Int64.ofInt_toInt]
    rwa [List.map_cons, e] at hz
  · have h4 : -Int64.ofInt x = 0 := Int64.toInt_inj.mp (by rw [h3]; rfl)
    have h5 : Int64.ofInt x = Int64.ofInt 0 := by
      have h6 := congrArg (fun z : Int64 => -z) h4
      simpa using h6
    exact (zl_eq hx (by omega)).mp h5
theorem zs_ldiv (C : zCx p s m args c Γ cc nL own) {x y : Int} (d : decode cc pc = .ok (.ldiv, 1)) (hy : y ≠ 0) (kk : ∀ z : Int, -9223372036854775808 ≤ z → z ≤ 9223372036854775807 → Z p l e R s m args below meth c Γ nL cells slots Q (pc + 1) ls (zj z :: st) G) : Z p l e R s m args below meth c Γ nL cells slots Q pc ls (zj y :: zj x :: st) G := by
  intro hG hl hs H locs rl hP hS hL
  refine lv_ldiv C.1 C.2.1 d (fun h => hy ?_) (zW_long kk hG hl (zs_tl (zs_tl hs)) hP hS hL)
  exact (zl_eq (zs_hd hs) (by omega)).mp (h.trans (by rfl))
theorem zs_lrem (C : zCx p s m args c Γ cc nL own) {x y : Int} (d : decode cc pc = .ok (.lrem, 1)) (hy : y ≠ 0) (kk : ∀ z : Int, -9223372036854775808 ≤ z → z ≤ 9223372036854775807 → Z p l e R s m args below meth c Γ nL cells slots Q (pc + 1) ls (zj z :: st) G) : Z p l e R s m args below meth c Γ nL cells slots Q pc ls (zj y :: zj x :: st) G := by
  intro hG hl hs H locs rl hP hS hL
  refine lv_lrem C.1 C.2.1 d (fun h => hy ?_) (zW_long kk hG hl (zs_tl (zs_tl hs)) hP hS hL)
  exact (zl_eq (zs_hd hs) (by omega)).mp (h.trans (by rfl))
theorem zs_lcmp (C : zCx p s m args c Γ cc nL own) {x y : Int} (d : decode cc pc = .ok (.lcmp, 1)) (kk : ∀ z : Int, (z = -1 ∧ x < y) ∨ (z = 0 ∧ x = y) ∨ (z = 1 ∧ y < x) → Z p l e R s m args below meth c Γ nL cells slots Q (pc + 1) ls (zi z :: st) G) : Z p l e R s m args below meth c Γ nL cells slots Q pc ls (zj y :: zj x :: st) G := by
  intro hG hl hs H locs rl hP hS hL
  have hy := zs_hd hs
  have hx := zs_hd (zs_tl hs)
  refine W.lcmp C.1 C.2.1 d ?_
  unfold lg_cmp
  by_cases h1 : Int64.ofInt x > Int64.ofInt y
  · rw [if_pos h1]
    exact kk 1 (Or.inr (Or.inr ⟨rfl, (zl_lt hy hx).mp h1⟩)) hG hl (zs_cons (v := zi 1) ⟨by decide, by decide⟩ (zs_tl (zs_tl hs))) H locs rl hP hS hL
  · rw [if_neg h1]
    by_cases h2 : Int64.ofInt x = Int64.ofInt y
    · rw [if_pos h2]
      exact kk 0 (Or.inr (Or.inl ⟨rfl, (zl_eq hx hy).mp h2⟩)) hG hl (zs_cons (v := zi 0) ⟨by decide, by decide⟩ (zs_tl (zs_tl hs))) H locs rl hP hS hL
    · rw [if_neg h2]
      have h3 : ¬ y < x := fun q => h1 ((zl_lt hy hx).mpr q)
      have h4 : ¬ x = y := fun q => h2 ((zl_eq hx hy).mpr q)
      exact kk (-1) (Or.inl ⟨rfl, by omega⟩) hG hl (zs_cons (v := zi (-1)) ⟨by decide, by decide⟩ (zs_tl (zs_tl hs))) H locs rl hP hS hL
theorem zs_i2l (C : zCx p s m args c Γ cc nL own) {x : Int} (d : decode cc pc = .ok (.i2l, 1)) (kk : Z p l e R s m args below meth c Γ nL cells slots Q (pc + 1) ls (zj x :: st) G) : Z p l e R s m args below meth c Γ nL cells slots Q pc ls (zi x :: st) G := by
  intro hG hl hs H locs rl hP hS hL
  have hx := zs_hd hs
  refine lv_i2l C.1 C.2.1 d (v := Int64.ofInt x) ?_ (kk hG hl (zs_cons (v := zj x) ⟨by have := hx.1; omega, by have := hx.2; omega⟩ (zs_tl hs)) H locs rl hP hS hL)
  apply Int64.toInt_inj.mp
  rw [Int32.toInt_toInt64, Int32.toInt_ofInt_of_le (by have := hx.1; omega) (by have := hx.2; omega), Int64.toInt_ofInt_of_le (by have := hx.1; omega) (by have := hx.2; omega)]
theorem zs_l2iF (C : zCx p s m args c Γ cc nL own) {x : Int} (d : decode cc pc = .ok (.l2i, 1)) (kk : ∀ z : Int, -2147483648 ≤ z → z ≤ 2147483647 → Z p l e R s m args below meth c Γ nL cells slots Q (pc + 1) ls (zi z :: st) G) : Z p l e R s m args below meth c Γ nL cells slots Q pc ls (zj x :: st) G := by
  intro hG hl hs H locs rl hP hS hL
  exact lv_l2i C.1 C.2.1 d rfl (zW_int kk hG hl (zs_tl hs) hP hS hL)
theorem zs_l2i (C : zCx p s m args c Γ cc nL own) {x : Int} (d : decode cc pc = .ok (.l2i, 1)) (hx : -2147483648 ≤ x ∧ x ≤ 2147483647) (kk : Z p l e R s m args below meth c Γ nL cells slots Q (pc + 1) ls (zi x :: st) G) : Z p l e R s m args below meth c Γ nL cells slots Q pc ls (zj x :: st) G := by
  intro hG hl hs H locs rl hP hS hL
  refine lv_l2i C.1 C.2.1 d (v := Int32.ofInt x) ?_ (kk hG hl (zs_cons (v := zi x) hx (zs_tl hs)) H locs rl hP hS hL)
  have e : Int64.ofInt x = (Int32.ofInt x).toInt64 := by
    apply Int64.toInt_inj.mp
    rw [Int32.toInt_toInt64, Int32.toInt_ofInt_of_le (by omega) (by omega), Int64.toInt_ofInt_of_le (by omega) (by omega)]
  rw [e]
  simp
theorem zc_cat {v : zV} (h : ∀ x, v ≠ zj x) : (zc v).category = 1 := by
  rcases v with x | x | x
  · rfl
  · exact absurd rfl (h x)
  · rfl
theorem zs_dupi (C : zCx p s m args c Γ cc nL own) {x : Int} (d : decode cc pc = .ok (.dup, 1)) (kk : Z p l e R s m args below meth c Γ nL cells slots Q (pc + 1) ls (zi x :: zi x :: st) G) : Z p l e R s m args below meth c Γ nL cells slots Q pc ls (zi x :: st) G := by
  intro hG hl hs H locs rl hP hS hL
  exact lv_dup C.1 C.2.1 d rfl (kk hG hl (zs_cons (zs_hd hs) hs) H locs rl hP hS hL)
theorem zs_dupa (C : zCx p s m args c Γ cc nL own) {t a : Nat} (d : decode cc pc = .ok (.dup, 1)) (kk : Z p l e R s m args below meth c Γ nL cells slots Q (pc + 1) ls (zr t a :: zr t a :: st) G) : Z p l e R s m args below meth c Γ nL cells slots Q pc ls (zr t a :: st) G := by
  intro hG hl hs H locs rl hP hS hL
  exact lv_dup C.1 C.2.1 d rfl (kk hG hl (zs_cons (zs_hd hs) hs) H locs rl hP hS hL)
theorem zs_dup2 (C : zCx p s m args c Γ cc nL own) {x : Int} {t a : Nat} (d : decode cc pc = .ok (.dup2, 1)) (kk : Z p l e R s m args below meth c Γ nL cells slots Q (pc + 1) ls (zi x :: zr t a :: zi x :: zr t a :: st) G) : Z p l e R s m args below meth c Γ nL cells slots Q pc ls (zi x :: zr t a :: st) G := by
  intro hG hl hs H locs rl hP hS hL
  exact lv_dup2_11 C.1 C.2.1 d rfl rfl (kk hG hl (zs_cons (zs_hd hs) (zs_cons (zs_hd (zs_tl hs)) hs)) H locs rl hP hS hL)
theorem zs_popi (C : zCx p s m args c Γ cc nL own) {x : Int} (d : decode cc pc = .ok (.pop, 1)) (kk : Z p l e R s m args below meth c Γ nL cells slots Q (pc + 1) ls st G) : Z p l e R s m args below meth c Γ nL cells slots Q pc ls (zi x :: st) G := by
  intro hG hl hs H locs rl hP hS hL
  exact lv_pop C.1 C.2.1 d rfl (kk hG hl (zs_tl hs) H locs rl hP hS hL)
theorem zs_pop2 (C : zCx p s m args c Γ cc nL own) {x : Int} (d : decode cc pc = .ok (.pop2, 1)) (kk : Z p l e R s m args below meth c Γ nL cells slots Q (pc + 1) ls st G) : Z p l e R s m args below meth c Γ nL cells slots Q pc ls (zj x :: st) G := by
  intro hG hl hs H locs rl hP hS hL
  exact lv_pop2_2 C.1 C.2.1 d rfl (kk hG hl (zs_tl hs) H locs rl hP hS hL)
theorem zs_goto (C : zCx p s m args c Γ cc nL own) {off : Int} {tgt : Nat} (d : decode cc pc = .ok (.goto off, 3)) (ht : (pc : Int) + off = (tgt : Int)) (kk : Z p l e R s m args below meth c Γ nL cells slots Q tgt ls st G) : Z p l e R s m args below meth c Γ nL cells slots Q pc ls st G := by
  intro hG hl hs H locs rl hP hS hL
  exact lv_goto C.1 C.2.1 d ht (kk hG hl hs H locs rl hP hS hL)
theorem zs_at {pc' : Nat} (h : pc = pc') (kk : Z p l e R s m args below meth c Γ nL cells slots Q pc' ls st G) : Z p l e R s m args below meth c Γ nL cells slots Q pc ls st G := h ▸ kk
theorem zs_icmp_lt (C : zCx p s m args c Γ cc nL own) {x y : Int} {off : Int} {tgt : Nat} (d : decode cc pc = .ok (.if_icmp .lt off, 3)) (ht : (pc : Int) + off = (tgt : Int)) (kt : x < y → Z p l e R s m args below meth c Γ nL cells slots Q tgt ls st G) (kf : ¬ (x < y) → Z p l e R s m args below meth c Γ nL cells slots Q (pc + 3) ls st G) : Z p l e R s m args below meth c Γ nL cells slots Q pc ls (zi y :: zi x :: st) G := by
  intro hG hl hs H locs rl hP hS hL
  exact lv_icmp_lt C.1 C.2.1 d ht (fun h => kt ((zi_lt (zs_hd (zs_tl hs)) (zs_hd hs)).mp h) hG hl (zs_tl (zs_tl hs)) H locs rl hP hS hL) (fun h => kf (fun q => h ((zi_lt (zs_hd (zs_tl hs)) (zs_hd hs)).mpr q)) hG hl (zs_tl (zs_tl hs)) H locs rl hP hS hL)
theorem zs_if_lt (C : zCx p s m args c Γ cc nL own) {x : Int} {off : Int} {tgt : Nat} (d : decode cc pc = .ok (.ifCond .lt off, 3)) (ht : (pc : Int) + off = (tgt : Int)) (kt : x < 0 → Z p l e R s m args below meth c Γ nL cells slots Q tgt ls st G) (kf : ¬ (x < 0) → Z p l e R s m args below meth c Γ nL cells slots Q (pc + 3) ls st G) : Z p l e R s m args below meth c Γ nL cells slots Q pc ls (zi x :: st) G := by
  intro hG hl hs H locs rl hP hS hL
  exact lv_if_lt C.1 C.2.1 d ht (fun h => kt ((zi_lt (zs_hd hs) (show (-2147483648 : Int) ≤ 0 ∧ (0 : Int) ≤ 2147483647 by decide)).mp h) hG hl (zs_tl hs) H locs rl hP hS hL) (fun h => kf (fun q => h ((zi_lt (zs_hd hs) (show (-2147483648 : Int) ≤ 0 ∧ (0 : Int) ≤ 2147483647 by decide)).mpr q)) hG hl (zs_tl hs) H locs rl hP hS hL)
theorem zs_icmp_ge (C : zCx p s m args c Γ cc nL own) {x y : Int} {off : Int} {tgt : Nat} (d : decode cc pc = .ok (.if_icmp .ge off, 3)) (ht : (pc : Int) + off = (tgt : Int)) (kt : y ≤ x → Z p l e R s m args below meth c Γ nL cells slots Q tgt ls st G) (kf : ¬ (y ≤ x) → Z p l e R s m args below meth c Γ nL cells slots Q (pc + 3) ls st G) : Z p l e R s m args below meth c Γ nL cells slots Q pc ls (zi y :: zi x :: st) G := by
  intro hG hl hs H locs rl hP hS hL
  exact lv_icmp_ge C.1 C.2.1 d ht (fun h => kt ((zi_le (zs_hd hs) (zs_hd (zs_tl hs))).mp h) hG hl (zs_tl (zs_tl hs)) H locs rl hP hS hL) (fun h => kf (fun q => h ((zi_le (zs_hd hs) (zs_hd (zs_tl hs))).mpr q)) hG hl (zs_tl (zs_tl hs)) H locs rl hP hS hL)
theorem zs_if_ge (C : zCx p s m args c Γ cc nL own) {x : Int} {off : Int} {tgt : Nat} (d : decode cc pc = .ok (.ifCond .ge off, 3)) (ht : (pc : Int) + off = (tgt : Int)) (kt : 0 ≤ x → Z p l e R s m args below meth c Γ nL cells slots Q tgt ls st G) (kf : ¬ (0 ≤ x) → Z p l e R s m args below meth c Γ nL cells slots Q (pc + 3) ls st G) : Z p l e R s m args below meth c Γ nL cells slots Q pc ls (zi x :: st) G := by
  intro hG hl hs H locs rl hP hS hL
  exact lv_if_ge C.1 C.2.1 d ht (fun h => kt ((zi_le (show (-2147483648 : Int) ≤ 0 ∧ (0 : Int) ≤ 2147483647 by decide) (zs_hd hs)).mp h) hG hl (zs_tl hs) H locs rl hP hS hL) (fun h => kf (fun q => h ((zi_le (show (-2147483648 : Int) ≤ 0 ∧ (0 : Int) ≤ 2147483647 by decide) (zs_hd hs)).mpr q)) hG hl (zs_tl hs) H locs rl hP hS hL)
theorem zs_icmp_gt (C : zCx p s m args c Γ cc nL own) {x y : Int} {off : Int} {tgt : Nat} (d : decode cc pc = .ok (.if_icmp .gt off, 3)) (ht : (pc : Int) + off = (tgt : Int)) (kt : y < x → Z p l e R s m args below meth c Γ nL cells slots Q tgt ls st G) (kf : ¬ (y < x) → Z p l e R s m args below meth c Γ nL cells slots Q (pc + 3) ls st G) : Z p l e R s m args below meth c Γ nL cells slots Q pc ls (zi y :: zi x :: st) G := by
  intro hG hl hs H locs rl hP hS hL
  exact lv_icmp_gt C.1 C.2.1 d ht (fun h => kt ((zi_lt (zs_hd hs) (zs_hd (zs_tl hs))).mp h) hG hl (zs_tl (zs_tl hs)) H locs rl hP hS hL) (fun h => kf (fun q => h ((zi_lt (zs_hd hs) (zs_hd (zs_tl hs))).mpr q)) hG hl (zs_tl (zs_tl hs)) H locs rl hP hS hL)
theorem zs_if_gt (C : zCx p s m args c Γ cc nL own) {x : Int} {off : Int} {tgt : Nat} (d : decode cc pc = .ok (.ifCond .gt off, 3)) (ht : (pc : Int) + off = (tgt : Int)) (kt : 0 < x → Z p l e R s m args below meth c Γ nL cells slots Q tgt ls st G) (kf : ¬ (0 < x) → Z p l e R s m args below meth c Γ nL cells slots Q (pc + 3) ls st G) : Z p l e R s m args below meth c Γ nL cells slots Q pc ls (zi x :: st) G := by
  intro hG hl hs H locs rl hP hS hL
  exact lv_if_gt C.1 C.2.1 d ht (fun h => kt ((zi_lt (show (-2147483648 : Int) ≤ 0 ∧ (0 : Int) ≤ 2147483647 by decide) (zs_hd hs)).mp h) hG hl (zs_tl hs) H locs rl hP hS hL) (fun h => kf (fun q => h ((zi_lt (show (-2147483648 : Int) ≤ 0 ∧ (0 : Int) ≤ 2147483647 by decide) (zs_hd hs)).mpr q)) hG hl (zs_tl hs) H locs rl hP hS hL)
theorem zs_icmp_le (C : zCx p s m args c Γ cc nL own) {x y : Int} {off : Int} {tgt : Nat} (d : decode cc pc = .ok (.if_icmp .le off, 3)) (ht : (pc : Int) + off = (tgt : Int)) (kt : x ≤ y → Z p l e R s m args below meth c Γ nL cells slots Q tgt ls st G) (kf : ¬ (x ≤ y) → Z p l e R s m args below meth c Γ nL cells slots Q (pc + 3) ls st G) : Z p l e R s m args below meth c Γ nL cells slots Q pc ls (zi y :: zi x :: st) G := by
  intro hG hl hs H locs rl hP hS hL
  exact lv_icmp_le C.1 C.2.1 d ht (fun h => kt ((zi_le (zs_hd (zs_tl hs)) (zs_hd hs)).mp h) hG hl (zs_tl (zs_tl hs)) H locs rl hP hS hL) (fun h => kf (fun q => h ((zi_le (zs_hd (zs_tl hs)) (zs_hd hs)).mpr q)) hG hl (zs_tl (zs_tl hs)) H locs rl hP hS hL)
theorem zs_if_le (C : zCx p s m args c Γ cc nL own) {x : Int} {off : Int} {tgt : Nat} (d : decode cc pc = .ok (.ifCond .le off, 3)) (ht : (pc : Int) + off = (tgt : Int)) (kt : x ≤ 0 → Z p l e R s m args below meth c Γ nL cells slots Q tgt ls st G) (kf : ¬ (x ≤ 0) → Z p l e R s m args below meth c Γ nL cells slots Q (pc + 3) ls st G) : Z p l e R s m args below meth c Γ nL cells slots Q pc ls (zi x :: st) G := by
  intro hG hl hs H locs rl hP hS hL
  exact lv_if_le C.1 C.2.1 d ht (fun h => kt ((zi_le (zs_hd hs) (show (-2147483648 : Int) ≤ 0 ∧ (0 : Int) ≤ 2147483647 by decide)).mp h) hG hl (zs_tl hs) H locs rl hP hS hL) (fun h => kf (fun q => h ((zi_le (zs_hd hs) (show (-2147483648 : Int) ≤ 0 ∧ (0 : Int) ≤ 2147483647 by decide)).mpr q)) hG hl (zs_tl hs) H locs rl hP hS hL)
theorem zs_icmp_eq (C : zCx p s m args c Γ cc nL own) {x y : Int} {off : Int} {tgt : Nat} (d : decode cc pc = .ok (.if_icmp .eq off, 3)) (ht : (pc : Int) + off = (tgt : Int)) (kt : x = y → Z p l e R s m args below meth c Γ nL cells slots Q tgt ls st G) (kf : ¬ (x = y) → Z p l e R s m args below meth c Γ nL cells slots Q (pc + 3) ls st G) : Z p l e R s m args below meth c Γ nL cells slots Q pc ls (zi y :: zi x :: st) G := by
  intro hG hl hs H locs rl hP hS hL
  exact lv_icmp_eq C.1 C.2.1 d ht (fun h => kt ((zi_eq (zs_hd (zs_tl hs)) (zs_hd hs)).mp h) hG hl (zs_tl (zs_tl hs)) H locs rl hP hS hL) (fun h => kf (fun q => h ((zi_eq (zs_hd (zs_tl hs)) (zs_hd hs)).mpr q)) hG hl (zs_tl (zs_tl hs)) H locs rl hP hS hL)
theorem zs_icmp_ne (C : zCx p s m args c Γ cc nL own) {x y : Int} {off : Int} {tgt : Nat} (d : decode cc pc = .ok (.if_icmp .ne off, 3)) (ht : (pc : Int) + off = (tgt : Int)) (kt : ¬ (x = y) → Z p l e R s m args below meth c Γ nL cells slots Q tgt ls st G) (kf : x = y → Z p l e R s m args below meth c Γ nL cells slots Q (pc + 3) ls st G) : Z p l e R s m args below meth c Γ nL cells slots Q pc ls (zi y :: zi x :: st) G := by
  intro hG hl hs H locs rl hP hS hL
  exact lv_icmp_ne C.1 C.2.1 d ht (fun h => kt (fun q => h ((zi_eq (zs_hd (zs_tl hs)) (zs_hd hs)).mpr q)) hG hl (zs_tl (zs_tl hs)) H locs rl hP hS hL) (fun h => kf ((zi_eq (zs_hd (zs_tl hs)) (zs_hd hs)).mp h) hG hl (zs_tl (zs_tl hs)) H locs rl hP hS hL)
theorem zs_if_eq (C : zCx p s m args c Γ cc nL own) {x : Int} {off : Int} {tgt : Nat} (d : decode cc pc = .ok (.ifCond .eq off, 3)) (ht : (pc : Int) + off = (tgt : Int)) (kt : x = 0 → Z p l e R s m args below meth c Γ nL cells slots Q tgt ls st G) (kf : ¬ (x = 0) → Z p l e R s m args below meth c Γ nL cells slots Q (pc + 3) ls st G) : Z p l e R s m args below meth c Γ nL cells slots Q pc ls (zi x :: st) G := by
  intro hG hl hs H locs rl hP hS hL
  exact lv_if_eq C.1 C.2.1 d ht (fun h => kt ((zi_eq (zs_hd hs) (show (-2147483648 : Int) ≤ 0 ∧ (0 : Int) ≤ 2147483647 by decide)).mp h) hG hl (zs_tl hs) H locs rl hP hS hL) (fun h => kf (fun q => h ((zi_eq (zs_hd hs) (show (-2147483648 : Int) ≤ 0 ∧ (0 : Int) ≤ 2147483647 by decide)).mpr q)) hG hl (zs_tl hs) H locs rl hP hS hL)
theorem zs_if_ne (C : zCx p s m args c Γ cc nL own) {x : Int} {off : Int} {tgt : Nat} (d : decode cc pc = .ok (.ifCond .ne off, 3)) (ht : (pc : Int) + off = (tgt : Int)) (kt : ¬ (x = 0) → Z p l e R s m args below meth c Γ nL cells slots Q tgt ls st G) (kf : x = 0 → Z p l e R s m args below meth c Γ nL cells slots Q (pc + 3) ls st G) : Z p l e R s m args below meth c Γ nL cells slots Q pc ls (zi x :: st) G := by
  intro hG hl hs H locs rl hP hS hL
  exact lv_if_ne C.1 C.2.1 d ht (fun h => kt (fun q => h ((zi_eq (zs_hd hs) (show (-2147483648 : Int) ≤ 0 ∧ (0 : Int) ≤ 2147483647 by decide)).mpr q)) hG hl (zs_tl hs) H locs rl hP hS hL) (fun h => kf ((zi_eq (zs_hd hs) (show (-2147483648 : Int) ≤ 0 ∧ (0 : Int) ≤ 2147483647 by decide)).mp h) hG hl (zs_tl hs) H locs rl hP hS hL)
theorem zs_tabOut (C : zCx p s m args c Γ cc nL own) {dflt lo hi : Int} {offs : Array Int} {len tgt : Nat} {x : Int} (d : decode cc pc = .ok (.tableswitch dflt lo hi offs, len)) (h : x < lo ∨ hi < x) (ht : (pc : Int) + dflt = (tgt : Int)) (kk : Z p l e R s m args below meth c Γ nL cells slots Q tgt ls st G) : Z p l e R s m args below meth c Γ nL cells slots Q pc ls (zi x :: st) G := by
  intro hG hl hs H locs rl hP hS hL
  have hx := zs_hd hs
  exact lv_tableOut C.1 C.2.1 d (by rw [Int32.toInt_ofInt_of_le (by have := hx.1; omega) (by have := hx.2; omega)]; exact h) ht (kk hG hl (zs_tl hs) H locs rl hP hS hL)
theorem zs_tabIn (C : zCx p s m args c Γ cc nL own) {dflt lo hi : Int} {offs : Array Int} {len tgt : Nat} {x : Int} (k : Int) {off : Int} (d : decode cc pc = .ok (.tableswitch dflt lo hi offs, len)) (hk : x = k) (h1 : lo ≤ k ∧ k ≤ hi) (ho : offs[(k - lo).toNat]? = some off) (ht : (pc : Int) + off = (tgt : Int)) (kk : Z p l e R s m args below meth c Γ nL cells slots Q tgt ls st G) : Z p l e R s m args below meth c Γ nL cells slots Q pc ls (zi x :: st) G := by
  intro hG hl hs H locs rl hP hS hL
  have hx := zs_hd hs
  subst hk
  have e : (Int32.ofInt x).toInt = x := Int32.toInt_ofInt_of_le (by have := hx.1; omega) (by have := hx.2; omega)
  exact lv_tableIn C.1 C.2.1 d (by rw [e]; omega) (by rw [e]; omega) (by rw [e]; exact ho) ht (kk hG hl (zs_tl hs) H locs rl hP hS hL)
theorem zs_look (C : zCx p s m args c Γ cc nL own) {dflt : Int} {ps : Array (Int × Int)} {len tgt : Nat} {x off : Int} (d : decode cc pc = .ok (.lookupswitch dflt ps, len)) (hp : (ps.toList.zip (ps.toList.drop 1)).all (fun (a, next) => a.1 < next.1) = true) (ho : Op.lookupswitch.offset ps.toList dflt x = off) (ht : (pc : Int) + off = (tgt : Int)) (kk : Z p l e R s m args below meth c Γ nL cells slots Q tgt ls st G) : Z p l e R s m args below meth c Γ nL cells slots Q pc ls (zi x :: st) G := by
  intro hG hl hs H locs rl hP hS hL
  have hx := zs_hd hs
  exact lv_lookup C.1 C.2.1 d hp (by rw [Int32.toInt_ofInt_of_le (by have := hx.1; omega) (by have := hx.2; omega)]; exact ho) ht (kk hG hl (zs_tl hs) H locs rl hP hS hL)
end ZR
end
section
/-! the classes by their types -/
def zCn (t : Nat) : String := match t with
  | 1 => RX0
  | 2 => RX1
  | 3 => RX2
  | 4 => RX3
  | 5 => RX4
  | 6 => RX5
  | 7 => RX6
  | 8 => RX7
  | 9 => RX8
  | _ => RX9
def zT (t : Nat) : u_T := match t with
  | 1 => TX0
  | 2 => TX1
  | 3 => TX2
  | 4 => TX3
  | 5 => TX4
  | 6 => TX5
  | 7 => TX6
  | 8 => TX7
  | 9 => TX8
  | _ => TX9
def zty0 (t : Nat) : Nat → FieldType := match t with
  | 1 => tyX0
  | 2 => tyX1
  | 3 => tyX2
  | 4 => tyX3
  | 5 => tyX4
  | 6 => tyX5
  | 7 => tyX6
  | 8 => tyX7
  | 9 => tyX8
  | _ => tyX9
theorem zt_cases {t : Nat} (h1 : 1 ≤ t) (h2 : t ≤ 10) {P : Nat → Prop} (a1 : P 1) (a2 : P 2) (a3 : P 3) (a4 : P 4) (a5 : P 5) (a6 : P 6) (a7 : P 7) (a8 : P 8) (a9 : P 9) (a10 : P 10) : P t := by
  rcases (show t = 1 ∨ t = 2 ∨ t = 3 ∨ t = 4 ∨ t = 5 ∨ t = 6 ∨ t = 7 ∨ t = 8 ∨ t = 9 ∨ t = 10 by omega) with rfl | rfl | rfl | rfl | rfl | rfl | rfl | rfl | rfl | rfl <;> assumption
theorem zcl_at {t : Nat} (h1 : 1 ≤ t) (h2 : t ≤ 10) : vwCl[t - 1]? = some (zCn t, zT t, zN t) := zt_cases (P := fun t => vwCl[t - 1]? = some (zCn t, zT t, zN t)) h1 h2 rfl rfl rfl rfl rfl rfl rfl rfl rfl rfl
theorem zin_mk {ws : List Cond} (h : ∀ w ∈ ws, w ∈ lw_tbl) (g : ws.all goodWord = true) : ∀ w ∈ ws, w ∈ zTb := fun w hw => List.mem_filter.mpr ⟨h w hw, List.all_eq_true.mp g w hw⟩
theorem zcl_in {t : Nat} (h1 : 1 ≤ t) (h2 : t ≤ 10) : ∀ w ∈ u_ws (zCn t) (zT t) (zN t), w ∈ zTb :=
  zt_cases (P := fun t => ∀ w ∈ u_ws (zCn t) (zT t) (zN t), w ∈ zTb) h1 h2 (zin_mk inX0 (by decide +kernel)) (zin_mk inX1 (by decide +kernel)) (zin_mk inX2 (by decide +kernel)) (zin_mk inX3 (by decide +kernel)) (zin_mk inX4 (by decide +kernel)) (zin_mk inX5 (by decide +kernel)) (zin_mk inX6 (by decide +kernel)) (zin_mk inX7 (by decide +kernel)) (zin_mk inX8 (by decide +kernel)) (zin_mk inX9 (by decide +kernel))
theorem zcl_ty {t : Nat} (h1 : 1 ≤ t) (h2 : t ≤ 10) : ∀ k, k < zN t → parseFieldDescriptor (zT t k).2.2.1 = some (zty0 t k) :=
  zt_cases (P := fun t => ∀ k, k < zN t → parseFieldDescriptor (zT t k).2.2.1 = some (zty0 t k)) h1 h2 tyX0_ok tyX1_ok tyX2_ok tyX3_ok tyX4_ok tyX5_ok tyX6_ok tyX7_ok tyX8_ok tyX9_ok
theorem zcl_nm {t : Nat} (h1 : 1 ≤ t) (h2 : t ≤ 10) : ∀ a, a < zN t → ∀ b, b < zN t → a ≠ b → (zT t a).2.1 ≠ (zT t b).2.1 :=
  zt_cases (P := fun t => ∀ a, a < zN t → ∀ b, b < zN t → a ≠ b → (zT t a).2.1 ≠ (zT t b).2.1) h1 h2 nmX0 nmX1 nmX2 nmX3 nmX4 nmX5 nmX6 nmX7 nmX8 nmX9
set_option maxRecDepth 100000 in
theorem zcl_cls {t : Nat} (h1 : 1 ≤ t) (h2 : t ≤ 10) : ∀ k, k < zN t → (zT t k).1 = zCn t :=
  zt_cases (P := fun t => ∀ k, k < zN t → (zT t k).1 = zCn t) h1 h2 (by decide +kernel) (by decide +kernel) (by decide +kernel) (by decide +kernel) (by decide +kernel) (by decide +kernel) (by decide +kernel) (by decide +kernel) (by decide +kernel) (by decide +kernel)
set_option maxRecDepth 100000 in
theorem zcl_fin {t : Nat} (h1 : 1 ≤ t) (h2 : t ≤ 10) : ∀ k, k < zN t → (zfk t k).1 ≠ 2 → (zT t k).2.2.2 = false :=
  zt_cases (P := fun t => ∀ k, k < zN t → (zfk t k).1 ≠ 2 → (zT t k).2.2.2 = false) h1 h2 (by decide +kernel) (by decide +kernel) (by decide +kernel) (by decide +kernel) (by decide +kernel) (by decide +kernel) (by decide +kernel) (by decide +kernel) (by decide +kernel) (by decide +kernel)
def zkty (k : Nat) (ty : FieldType) : Bool := match k with
  | 0 => ty == .int
  | 4 => ty == .boolean
  | 1 => ty == .long
  | _ => match ty with
    | .object _ => true
    | .array _ => true
    | _ => false
set_option maxRecDepth 100000 in
theorem zcl_k {t : Nat} (h1 : 1 ≤ t) (h2 : t ≤ 10) : ∀ k, k < zN t → zkty (zfk t k).1 (zty0 t k) = true :=
  zt_cases (P := fun t => ∀ k, k < zN t → zkty (zfk t k).1 (zty0 t k) = true) h1 h2 (by decide +kernel) (by decide +kernel) (by decide +kernel) (by decide +kernel) (by decide +kernel) (by decide +kernel) (by decide +kernel) (by decide +kernel) (by decide +kernel) (by decide +kernel)
theorem zfk_lt {t k : Nat} (h : (zfk t k).1 ≠ 9) : 1 ≤ t ∧ t ≤ 10 ∧ k < zN t := by
  have e : zFT.length = 11 := rfl
  have ht : t < 11 := by
    rcases Nat.lt_or_ge t 11 with q | q
    · exact q
    · exfalso
      apply h
      simp [zfk, List.getD_eq_getElem?_getD, List.getElem?_eq_none (l := zFT) (i := t) (by omega)]
  have h0 : t ≠ 0 := by
    rintro rfl
    exact h rfl
  refine ⟨by omega, by omega, ?_⟩
  have h9 : (zFT.getD t []).length = zN t := zt_cases (P := fun t => (zFT.getD t []).length = zN t) (by omega) (by omega) rfl rfl rfl rfl rfl rfl rfl rfl rfl rfl
  rcases Nat.lt_or_ge k (zN t) with q | q
  · exact q
  · exfalso
    apply h
    rw [zfk, List.getD_eq_getElem?_getD, List.getElem?_eq_none (by omega)]
    rfl
/-- a field's link, in the class or in its nest -/
def zLk (own : String) (idx t k : Nat) : Prop := Cond.fieldLink own idx (zCn t) (zT t k).2.1 (zT t k).2.2.1 ∈ zTb ∨ ∃ host, (own, idx, zCn t, (zT t k).2.1, (zT t k).2.2.1, host) ∈ zNs
/-! the heap written -/
def zuI (G : zH) (r a i : Nat) (x : Int) : zH := (fun r' a' i' => if r' = r ∧ a' = a ∧ i' = i then x else G.1 r' a' i', G.2.1, G.2.2)
def zuJ (G : zH) (r a i : Nat) (x : Int) : zH := (G.1, fun r' a' i' => if r' = r ∧ a' = a ∧ i' = i then x else G.2.1 r' a' i', G.2.2)
def zuP (G : zH) (r a b : Nat) : zH := (G.1, G.2.1, fun r' a' => if r' = r ∧ a' = a then b else G.2.2 r' a')
theorem zuI_1 (G : zH) (r a i : Nat) (x : Int) (r' a' i' : Nat) : (zuI G r a i x).1 r' a' i' = if r' = r ∧ a' = a ∧ i' = i then x else G.1 r' a' i' := rfl
theorem zuI_2 (G : zH) (r a i : Nat) (x : Int) : (zuI G r a i x).2 = G.2 := rfl
theorem zuJ_1 (G : zH) (r a i : Nat) (x : Int) : (zuJ G r a i x).1 = G.1 := rfl
theorem zuJ_2 (G : zH) (r a i : Nat) (x : Int) (r' a' i' : Nat) : (zuJ G r a i x).2.1 r' a' i' = if r' = r ∧ a' = a ∧ i' = i then x else G.2.1 r' a' i' := rfl
theorem zuJ_3 (G : zH) (r a i : Nat) (x : Int) : (zuJ G r a i x).2.2 = G.2.2 := rfl
theorem zuP_1 (G : zH) (r a b : Nat) : (zuP G r a b).1 = G.1 := rfl
theorem zuP_2 (G : zH) (r a b : Nat) : (zuP G r a b).2.1 = G.2.1 := rfl
theorem zuP_3 (G : zH) (r a b : Nat) (r' a' : Nat) : (zuP G r a b).2.2 r' a' = if r' = r ∧ a' = a then b else G.2.2 r' a' := rfl
theorem zG_I {Γ : zΓ} {G : zH} {r a i : Nat} {x : Int} (h : zG Γ G) (h1 : (zrg r i).1 ≤ x) (h2 : x ≤ (zrg r i).2) : zG Γ (zuI G r a i x) := by
  refine ⟨fun r' a' i' => ?_, h.2.1, h.2.2⟩
  rw [zuI_1]
  split
  · next q => obtain ⟨rfl, -, rfl⟩ := q; exact ⟨h1, h2⟩
  · exact h.1 r' a' i'
theorem zG_J {Γ : zΓ} {G : zH} {r a i : Nat} {x : Int} (h : zG Γ G) (h1 : -9223372036854775808 ≤ x ∧ x ≤ 9223372036854775807) : zG Γ (zuJ G r a i x) := by
  refine ⟨h.1, fun r' a' i' => ?_, h.2.2⟩
  rw [zuJ_2]
  split
  · exact h1
  · exact h.2.1 r' a' i'
theorem zG_P {Γ : zΓ} {G : zH} {t k a b : Nat} (h : zG Γ G) (hk : k < 100) (hf : (zfk t k).1 = 3) (hb : Γ.1 b = (zfk t k).2) : zG Γ (zuP G (100 * t + k) a b) := by
  refine ⟨h.1, h.2.1, fun t' k' a' ht' hf' => ?_⟩
  rw [zuP_3]
  split
  · next q =>
    have hk' : k' < 100 := by
      obtain ⟨q1, q2, q3⟩ := zfk_lt (t := t') (k := k') (by rw [hf']; decide)
      have h9 : zN t' < 100 := zt_cases (P := fun t => zN t < 100) q1 q2 (by decide) (by decide) (by decide) (by decide) (by decide) (by decide) (by decide) (by decide) (by decide) (by decide)
      omega
    have e1 : t' = t := by omega
    have e2 : k' = k := by omega
    subst e1; subst e2
    exact hb
  · exact h.2.2 t' k' a' ht' hf'
theorem zF_same {Γ : zΓ} {G G' : zH} {a : Nat} (h1 : ∀ r i, G'.1 r a i = G.1 r a i) (h2 : ∀ r i, G'.2.1 r a i = G.2.1 r a i) (h3 : ∀ r, G'.2.2 r a = G.2.2 r a) (t k : Nat) : zF Γ G' t k a = zF Γ G t k a := by
  unfold zF
  rw [h1, h2, h3]
theorem zE_same {Γ : zΓ} {G G' : zH} {a : Nat} (h1 : ∀ r i, G'.1 r a i = G.1 r a i) (h2 : ∀ r i, G'.2.1 r a i = G.2.1 r a i) (h3 : ∀ r, G'.2.2 r a = G.2.2 r a) : zE Γ G' a = zE Γ G a := by
  unfold zE
  simp only [zF_same h1 h2 h3, h1, h2]
theorem zW_up {Γ : zΓ} {G G' : zH} {a : Nat} {e : va_E} (he : e = zE Γ G' a) (hn : ∀ b, b ≠ a → zE Γ G' b = zE Γ G b) : va_pl Γ.2.2.2.2.1 (va_up (zE Γ G) a e) = zWd Γ G' := by
  apply va_pl_congr
  intro b
  unfold va_up
  split
  · next q => subst q; exact he
  · next q => exact (hn b q).symm
theorem zfs_set {Γ : zΓ} {G G' : zH} {t k a : Nat} {v : Value} (hv : v = zF Γ G' t k a) (hn : ∀ j, j ≠ k → j < zN t → zF Γ G' t j a = zF Γ G t j a) : ((List.range (zN t)).map (fun j => zF Γ G t j a)).set k v = (List.range (zN t)).map (fun j => zF Γ G' t j a) := by
  apply List.ext_getElem?
  intro j
  rw [List.getElem?_set]
  by_cases hj : j < zN t
  · by_cases hk : k = j
    · subst hk
      simp [hj, hv]
    · rw [if_neg hk]
      simp [hj, hn j (Ne.symm hk) hj]
  · by_cases hk : k = j
    · subst hk
      simp [hj]
    · rw [if_neg hk]
      simp [hj]
end
