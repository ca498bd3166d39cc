/-! the words that are used everywhere -/
def zTb : List Cond := lw_tbl.filter goodWord
theorem zTb_in {w : Cond} (h : w ∈ zTb) : w ∈ lw_tbl := (List.mem_filter.mp h).1
theorem lw_in {w : Cond} (h : w ∈ tables_1) : w ∈ lw_tbl := List.mem_append_right _ h
theorem zTb_s {y : MethodName} {n : Nat} (h : (y, n) ∈ lw_privs) (g : goodWord (Cond.selects y.cls y y) = true) : Cond.selects y.cls y y ∈ zTb := List.mem_filter.mpr ⟨List.mem_append_left _ (List.mem_map.mpr ⟨(y, n), h, rfl⟩), g⟩
theorem zTb_1 {w : Cond} (i : Nat) (h : tables_1_1[i]? = some w) (g : goodWord w = true) : w ∈ zTb := List.mem_filter.mpr ⟨lw_in (List.mem_append_left _ (List.mem_of_getElem? h)), g⟩
theorem zTb_2 {w : Cond} (i : Nat) (h : tables_1_2[i]? = some w) (g : goodWord w = true) : w ∈ zTb := List.mem_filter.mpr ⟨lw_in (List.mem_append_right _ (List.mem_append_left _ (List.mem_of_getElem? h))), g⟩
theorem zTb_3 {w : Cond} (i : Nat) (h : tables_1_3[i]? = some w) (g : goodWord w = true) : w ∈ zTb := List.mem_filter.mpr ⟨lw_in (List.mem_append_right _ (List.mem_append_right _ (List.mem_append_left _ (List.mem_of_getElem? h)))), g⟩
theorem zTb_4 {w : Cond} (i : Nat) (h : tables_1_4[i]? = some w) (g : goodWord w = true) : w ∈ zTb := List.mem_filter.mpr ⟨lw_in (List.mem_append_right _ (List.mem_append_right _ (List.mem_append_right _ (List.mem_append_left _ (List.mem_of_getElem? h))))), g⟩
theorem zTb_5 {w : Cond} (i : Nat) (h : tables_1_5[i]? = some w) (g : goodWord w = true) : w ∈ zTb := List.mem_filter.mpr ⟨lw_in (List.mem_append_right _ (List.mem_append_right _ (List.mem_append_right _ (List.mem_append_right _ (List.mem_append_left _ (List.mem_of_getElem? h)))))), g⟩
theorem zTb_6 {w : Cond} (i : Nat) (h : tables_1_6[i]? = some w) (g : goodWord w = true) : w ∈ zTb := List.mem_filter.mpr ⟨lw_in (List.mem_append_right _ (List.mem_append_right _ (List.mem_append_right _ (List.mem_append_right _ (List.mem_append_right _ (List.mem_append_left _ (List.mem_of_getElem? h))))))), g⟩
theorem zTb_7 {w : Cond} (i : Nat) (h : tables_1_7[i]? = some w) (g : goodWord w = true) : w ∈ zTb := List.mem_filter.mpr ⟨lw_in (List.mem_append_right _ (List.mem_append_right _ (List.mem_append_right _ (List.mem_append_right _ (List.mem_append_right _ (List.mem_append_right _ (List.mem_append_left _ (List.mem_of_getElem? h)))))))), g⟩
theorem zTb_8 {w : Cond} (i : Nat) (h : tables_1_8[i]? = some w) (g : goodWord w = true) : w ∈ zTb := List.mem_filter.mpr ⟨lw_in (List.mem_append_right _ (List.mem_append_right _ (List.mem_append_right _ (List.mem_append_right _ (List.mem_append_right _ (List.mem_append_right _ (List.mem_append_right _ (List.mem_append_left _ (List.mem_of_getElem? h))))))))), g⟩
theorem zTb_9 {w : Cond} (i : Nat) (h : tables_1_9[i]? = some w) (g : goodWord w = true) : w ∈ zTb := List.mem_filter.mpr ⟨lw_in (List.mem_append_right _ (List.mem_append_right _ (List.mem_append_right _ (List.mem_append_right _ (List.mem_append_right _ (List.mem_append_right _ (List.mem_append_right _ (List.mem_append_right _ ((List.mem_of_getElem? h)))))))))), g⟩
theorem zTb_good {y : MethodName} {b : ByteArray} {n : Nat} {r : Option FieldType} (h : Cond.code y b n r ∈ zTb) : GoodIn zTb (Cond.code y b n r :: zTb) := by
  intro w hw
  have hz : w ∈ zTb := (List.mem_cons.mp hw).elim (fun e => e ▸ h) id
  exact ⟨hz, good_of_word (List.mem_filter.mp hz).2⟩
/-! ideal values: an int, a long, a reference with the type of what it refers to -/
abbrev zV : Type := Int ⊕ Int ⊕ (Nat × Nat)
abbrev zi (x : Int) : zV := Sum.inl x
abbrev zj (x : Int) : zV := Sum.inr (Sum.inl x)
abbrev zr (t a : Nat) : zV := Sum.inr (Sum.inr (t, a))
def zc : zV → Value
  | .inl x => .int (Int32.ofInt x)
  | .inr (.inl x) => .long (Int64.ofInt x)
  | .inr (.inr q) => .ref q.2
/-- the heap: ints, longs, references by region, address, place -/
abbrev zH : Type := (Nat → Nat → Nat → Int) × (Nat → Nat → Nat → Int) × (Nat → Nat → Nat)
/-- what stays: types of addresses, final references, array classes, tables, the addresses, the arrays outside (address, length, contents) -/
abbrev zΓ : Type := (Nat → Nat) × (Nat → Nat → Nat) × (Nat → ClassId) × va_G × List Nat × (Nat → Nat) × (Nat → Nat) × (Nat → Nat → Int)
def zA (Γ : zΓ) : Nat → Prop := fun q => Γ.1 q ≠ 0
def zk (Γ : zΓ) : zV → Prop
  | .inl x => -2147483648 ≤ x ∧ x ≤ 2147483647
  | .inr (.inl x) => -9223372036854775808 ≤ x ∧ x ≤ 9223372036854775807
  | .inr (.inr q) => (q.1 < 200 ∧ q.1 ≠ 0 ∧ Γ.1 q.2 = q.1) ∨ (200 ≤ q.1 ∧ q.2 = Γ.2.2.2.2.2.1 (q.1 - 200))
def zF (Γ : zΓ) (G : zH) (t k a : Nat) : Value := match (zfk t k).1 with
  | 0 => .int (Int32.ofInt (G.1 (100 * t + k) a 0))
  | 4 => .int (Int32.ofInt (G.1 (100 * t + k) a 0))
  | 1 => .long (Int64.ofInt (G.2.1 (100 * t + k) a 0))
  | 2 => .ref (Γ.2.1 a k)
  | _ => .ref (G.2.2 (100 * t + k) a)
def zE (Γ : zΓ) (G : zH) (a : Nat) : va_E :=
  if Γ.1 a ≤ 10 then .inr (Γ.1 a - 1, (List.range (zN (Γ.1 a))).map (fun k => zF Γ G (Γ.1 a) k a))
  else match (zat (Γ.1 a)).1 with
    | 0 => .inl (Γ.2.2.1 0, (zat (Γ.1 a)).2, .inl (fun j => Int32.ofInt (G.1 (2000 + Γ.1 a) a j)))
    | 1 => .inl (Γ.2.2.1 1, (zat (Γ.1 a)).2, .inr (.inl (fun j => Int64.ofInt (G.2.1 (2000 + Γ.1 a) a j))))
    | _ => .inl (Γ.2.2.1 2, (zat (Γ.1 a)).2, .inl (fun j => Int32.ofInt (G.1 (2000 + Γ.1 a) a j)))
def zWd (Γ : zΓ) (G : zH) : va_W := va_pl Γ.2.2.2.2.1 (zE Γ G)
def zG (Γ : zΓ) (G : zH) : Prop :=
  (∀ r a i, (zrg r i).1 ≤ G.1 r a i ∧ G.1 r a i ≤ (zrg r i).2) ∧ (∀ r a i, -9223372036854775808 ≤ G.2.1 r a i ∧ G.2.1 r a i ≤ 9223372036854775807) ∧
  (∀ t k a, Γ.1 a = t → (zfk t k).1 = 3 → Γ.1 (G.2.2 (100 * t + k) a) = (zfk t k).2)
def ztys (Γ : zΓ) : List (ClassId × FieldType) := [(Γ.2.2.1 0, .int), (Γ.2.2.1 1, .long), (Γ.2.2.1 2, .boolean)]
def zLok (Γ : zΓ) : Prop := Γ.2.2.2.2.1.Nodup ∧ (∀ a, a ∈ Γ.2.2.2.2.1 ↔ Γ.1 a ≠ 0) ∧ ∀ t k a, Γ.1 a = t → (zfk t k).1 = 2 → Γ.1 (Γ.2.1 a k) = (zfk t k).2
/-- the arrays outside: two statics, and the law's script -/
def zXf (Γ : zΓ) (U : State) (H : Heap) : Prop :=
  va_Z "ConfessionMill" "MOST" "[I" (.ref (Γ.2.2.2.2.2.1 0)) (zA Γ) U H ∧ va_Z "ConfessionMill$Reader" "BINDS" "[I" (.ref (Γ.2.2.2.2.2.1 1)) (zA Γ) U H ∧
  ∀ e, e < 3 → va_T .int (Γ.2.2.2.2.2.1 e) (Γ.2.2.2.2.2.2.1 e) (fun j => .int (Int32.ofInt (Γ.2.2.2.2.2.2.2 e j))) (zA Γ) U H ∧ (∀ j, -2147483648 ≤ Γ.2.2.2.2.2.2.2 e j ∧ Γ.2.2.2.2.2.2.2 e j ≤ 2147483647) ∧ Γ.2.2.2.2.2.2.1 e < 2147483648
def zNk (U : State) : Prop := ∀ q ∈ zNs, va_Nw (.fieldLinkNest q.1 q.2.1 q.2.2.1 q.2.2.2.1 q.2.2.2.2.1 q.2.2.2.2.2) U
def zSt (Γ : zΓ) (U : State) : Prop := va_K Γ.2.2.2.1 vwCl (ztys Γ) U ∧ zLok Γ ∧ zXf Γ U U.heap ∧ zNk U
def zX0 : List Int := [4, 5, 5, 3]
def zX1 : List Int := [0, 0, 1, 2, 3, 4, 4, 4, 4, 4, 4, 5, 5, 6, 6, 0]
/-- what the two statics hold -/
def zXs (Γ : zΓ) : Prop := Γ.2.2.2.2.2.2.1 0 = 4 ∧ Γ.2.2.2.2.2.2.1 1 = 16 ∧ (∀ j, j < 4 → Γ.2.2.2.2.2.2.2 0 j = zX0.getD j 0) ∧ ∀ j, j < 16 → Γ.2.2.2.2.2.2.2 1 j = zX1.getD j 0
/-! contracts -/
def zrm (lv : Nat) : Room := { frames := lv, cells := 0, slots := 0, locals := 40 * lv }
def zPc (Γ : zΓ) (av : List zV) (G : zH) : Array Value → State → Prop := fun v U => v = (av.map zc).toArray ∧ zSt Γ U ∧ zG Γ G ∧ (∀ x ∈ av, zk Γ x) ∧ va_P Γ.2.2.2.1 vwCl (zWd Γ G) U.heap
def zQc (Γ : zΓ) (post : Option zV → zH → Prop) : Array Value → State → Outcome → State → Prop := fun _ st oc t =>
  (∃ (r : Option zV) (G' : zH), oc = .returned (r.map zc) ∧ (∀ x, r = some x → zk Γ x) ∧ post r G' ∧ zG Γ G' ∧ va_P Γ.2.2.2.1 vwCl (zWd Γ G') t.heap) ∧ va_F (zA Γ) st t
def zM (l : Launch) (y : MethodName) (b : ByteArray) (mx : Nat) (ret : Option FieldType) (lv : Nat) (pre : zΓ → List zV → zH → Prop) (post : zΓ → List zV → zH → Option zV → zH → Prop) : Prop :=
  ∀ (Γ : zΓ) (av : List zV) (G : zH), zXs Γ → pre Γ av G → Met l y (Cond.code y b mx ret :: zTb) (zrm lv) (zPc Γ av G) (zQc Γ (post Γ av G)) 0 0 (zA Γ)
/-! locals -/
def zclr : Option zV → Option zV
  | some (.inr (.inl _)) => none
  | x => x
def zset : List (Option zV) → Nat → zV → List (Option zV)
  | [], _, _ => []
  | _ :: r, 0, v => some v :: r
  | x :: r, 1, v => zclr x :: zset r 0 v
  | x :: r, i + 2, v => x :: zset r (i + 1) v
def znone : List (Option zV) → Nat → List (Option zV)
  | [], _ => []
  | _ :: r, 0 => none :: r
  | x :: r, i + 1 => x :: znone r i
def zL (rl : Array Slot) (nL : Nat) (ls : List (Option zV)) : Prop := rl.size = nL ∧ lv_wf rl ∧ ∀ (i : Nat) (v : zV), ls[i]? = some (some v) → rl[i]? = some (.val (zc v))
def zas (ls : List (Option zV)) : List (Nat × Value) := (List.range ls.length).filterMap (fun i => match ls[i]? with
  | some (some v) => some (i, zc v)
  | _ => none)
theorem zas_mem {ls : List (Option zV)} {i : Nat} {v : zV} (h : ls[i]? = some (some v)) : (i, zc v) ∈ zas ls := by
  refine List.mem_filterMap.mpr ⟨i, List.mem_range.mpr (List.getElem?_eq_some_iff.mp h).1, ?_⟩
  rw [h]
theorem zas_inv {ls : List (Option zV)} {q : Nat × Value} (h : q ∈ zas ls) : ∃ v, ls[q.1]? = some (some v) ∧ q.2 = zc v := by
  obtain ⟨i, -, hi⟩ := List.mem_filterMap.mp h
  split at hi
  · next v hv => cases hi; exact ⟨v, hv, rfl⟩
  · cases hi
theorem zL_has {rl : Array Slot} {nL : Nat} {ls : List (Option zV)} (h : zL rl nL ls) : lv_has rl nL (zas ls) := by
  refine ⟨h.1, h.2.1, fun q hq => ?_⟩
  obtain ⟨v, h1, h2⟩ := zas_inv hq
  rw [h2]
  exact h.2.2 _ _ h1
theorem zset_get : ∀ (ls : List (Option zV)) (i : Nat) (v : zV) (j : Nat) (w : zV), (zset ls i v)[j]? = some (some w) → (j = i ∧ w = v) ∨ (j ≠ i ∧ ls[j]? = some (some w) ∧ ¬ (j + 1 = i ∧ (zc w).category = 2))
  | [], i, v, j, w, h => by simp [zset] at h
  | x :: r, 0, v, j, w, h => by
    cases j with
    | zero => simp [zset] at h; exact Or.inl ⟨rfl, h.symm⟩
    | succ j => simp [zset] at h; exact Or.inr ⟨by omega, by simpa using h, by omega⟩
  | x :: r, 1, v, j, w, h => by
    cases j with
    | zero =>
      simp only [zset, List.getElem?_cons_zero, Option.some.injEq] at h
      refine Or.inr ⟨by omega, ?_, ?_⟩
      · unfold zclr at h
        split at h
        · cases h
        · simp [h]
      · rintro ⟨-, hc⟩
        unfold zclr at h
        split at h
        · cases h
        · next h9 =>
          rcases w with x9 | x9 | x9
          · cases hc
          · exact h9 _ h
          · cases hc
    | succ j =>
      simp only [zset, List.getElem?_cons_succ] at h
      rcases zset_get r 0 v j w h with ⟨h1, h2⟩ | ⟨h1, h2, h3⟩
      · exact Or.inl ⟨by omega, h2⟩
      · exact Or.inr ⟨by omega, by simpa using h2, by omega⟩
  | x :: r, i + 2, v, j, w, h => by
    cases j with
    | zero => simp [zset] at h; exact Or.inr ⟨by omega, by simp [h], by omega⟩
    | succ j =>
      simp only [zset, List.getElem?_cons_succ] at h
      rcases zset_get r (i + 1) v j w h with ⟨h1, h2⟩ | ⟨h1, h2, h3⟩
      · exact Or.inl ⟨by omega, h2⟩
      · exact Or.inr ⟨by omega, by simpa using h2, fun q => h3 ⟨by omega, q.2⟩⟩
theorem znone_get : ∀ (ls : List (Option zV)) (i j : Nat) (w : zV), (znone ls i)[j]? = some (some w) → j ≠ i ∧ ls[j]? = some (some w)
  | [], i, j, w, h => by simp [znone] at h
  | x :: r, 0, j, w, h => by
    cases j with
    | zero => simp [znone] at h
    | succ j => simp [znone] at h; exact ⟨by omega, by simpa using h⟩
  | x :: r, i + 1, j, w, h => by
    cases j with
    | zero => simp [znone] at h; exact ⟨by omega, by simp [h]⟩
    | succ j =>
      simp only [znone, List.getElem?_cons_succ] at h
      obtain ⟨h1, h2⟩ := znone_get r i j w h
      exact ⟨by omega, by simpa using h2⟩
theorem zL_set1 {rl : Array Slot} {nL i : Nat} {ls : List (Option zV)} {v : zV} (h : lv_has rl nL ((i, zc v) :: (zas ls).filter (fun q => !(q.1 == i) && !(q.1 + 1 == i && q.2.category == 2)))) : zL rl nL (zset ls i v) := by
  refine ⟨h.1, h.2.1, fun j w hw => ?_⟩
  rcases zset_get ls i v j w hw with ⟨rfl, rfl⟩ | ⟨h1, h2, h3⟩
  · exact h.2.2 (j, zc w) List.mem_cons_self
  · refine h.2.2 (j, zc w) (List.mem_cons_of_mem _ (List.mem_filter.mpr ⟨zas_mem h2, ?_⟩))
    simp only [Bool.and_eq_true, Bool.not_eq_true', beq_eq_false_iff_ne, ne_eq, Bool.and_eq_false_iff]
    refine ⟨h1, ?_⟩
    by_cases q : j + 1 = i
    · exact Or.inr (fun q2 => h3 ⟨q, q2⟩)
    · exact Or.inl q
theorem zL_set2 {rl : Array Slot} {nL i : Nat} {ls : List (Option zV)} {v : zV} (h : lv_has rl nL ((i, zc v) :: (zas ls).filter (fun q => !(q.1 == i) && (!(q.1 == i + 1) && !(q.1 + 1 == i && q.2.category == 2))))) : zL rl nL (znone (zset ls i v) (i + 1)) := by
  refine ⟨h.1, h.2.1, fun j w hw => ?_⟩
  obtain ⟨h0, hw⟩ := znone_get _ _ _ _ hw
  rcases zset_get ls i v j w hw with ⟨rfl, rfl⟩ | ⟨h1, h2, h3⟩
  · exact h.2.2 (j, zc w) List.mem_cons_self
  · refine h.2.2 (j, zc w) (List.mem_cons_of_mem _ (List.mem_filter.mpr ⟨zas_mem h2, ?_⟩))
    simp only [Bool.and_eq_true, Bool.not_eq_true', beq_eq_false_iff_ne, ne_eq, Bool.and_eq_false_iff]
    refine ⟨h1, h0, ?_⟩
    by_cases q : j + 1 = i
    · exact Or.inr (fun q2 => h3 ⟨q, q2⟩)
    · exact Or.inl q
/-! the judgement: from here, with these ideal locals, stack and heap, the machine comes to Q -/
def zCx (p : Program) (s : State) (m : MethodId) (args : Array Value) (c : Code) (Γ : zΓ) (cc : ByteArray) (nL : Nat) (own : String) : Prop :=
  p.tables.exec = Jvm.exec ∧ c.code = cc ∧ c.maxLocals = nL ∧ s.vm.findClass own = some m.cls ∧ (∀ w ∈ zTb, w.before args s = true) ∧ zSt Γ s ∧ zXs Γ
def Z (p : Program) (l : Launch) (e : Env) (R : Room) (s : State) (m : MethodId) (args : Array Value) (below : List Frame) (meth : Method) (c : Code) (Γ : zΓ) (nL cells slots : Nat) (Q : State → Prop) (pc : Nat) (ls : List (Option zV)) (st : List zV) (G : zH) : Prop :=
  zG Γ G → (∀ v, some v ∈ ls → zk Γ v) → (∀ v ∈ st, zk Γ v) → ∀ (H : Heap) (locs : List Loc) (rl : Array Slot), va_P Γ.2.2.2.1 vwCl (zWd Γ G) H → va_S (zA Γ) s.heap H locs → zL rl nL ls → W p l e R s m args below meth c H locs cells slots Q (F0 m pc rl (st.map zc))
theorem zD_ok {Γ : zΓ} (h : zLok Γ) (f : Nat → va_E) : va_D (zA Γ) (va_pl Γ.2.2.2.2.1 f) := by
  constructor
  · intro i j p q hi hj hpq
    rw [va_pl, List.getElem?_map] at hi hj
    obtain ⟨a, ha, rfl⟩ := Option.map_eq_some_iff.mp hi
    obtain ⟨b, hb, rfl⟩ := Option.map_eq_some_iff.mp hj
    have hab : a = b := hpq
    subst hab
    obtain ⟨h1, h2⟩ := List.getElem?_eq_some_iff.mp ha
    obtain ⟨h3, h4⟩ := List.getElem?_eq_some_iff.mp hb
    exact (List.getElem_inj h.1).mp (h2.trans h4.symm)
  · intro k q hk
    rw [va_pl, List.getElem?_map] at hk
    obtain ⟨a, ha, rfl⟩ := Option.map_eq_some_iff.mp hk
    exact (h.2.1 a).mp (List.mem_of_getElem? ha)
theorem zE_cls {Γ : zΓ} {G : zH} {a t : Nat} (h : Γ.1 a = t) (ht : t ≤ 10) : zE Γ G a = .inr (t - 1, (List.range (zN t)).map (fun k => zF Γ G t k a)) := by
  subst h
  unfold zE
  rw [if_pos ht]
theorem zE_int {Γ : zΓ} {G : zH} {a t n : Nat} (h : Γ.1 a = t) (hz : zat t = (0, n)) : zE Γ G a = .inl (Γ.2.2.1 0, n, .inl (fun j => Int32.ofInt (G.1 (2000 + t) a j))) := by
  subst h
  have h9 : ¬ Γ.1 a ≤ 10 := fun q => by simp [zat, show Γ.1 a < 11 by omega] at hz
  unfold zE
  rw [if_neg h9, hz]
  rfl
theorem zE_long {Γ : zΓ} {G : zH} {a t n : Nat} (h : Γ.1 a = t) (hz : zat t = (1, n)) : zE Γ G a = .inl (Γ.2.2.1 1, n, .inr (.inl (fun j => Int64.ofInt (G.2.1 (2000 + t) a j)))) := by
  subst h
  have h9 : ¬ Γ.1 a ≤ 10 := fun q => by simp [zat, show Γ.1 a < 11 by omega] at hz
  unfold zE
  rw [if_neg h9, hz]
  rfl
theorem zE_bool {Γ : zΓ} {G : zH} {a t n : Nat} (h : Γ.1 a = t) (hz : zat t = (2, n)) : zE Γ G a = .inl (Γ.2.2.1 2, n, .inl (fun j => Int32.ofInt (G.1 (2000 + t) a j))) := by
  subst h
  have h9 : ¬ Γ.1 a ≤ 10 := fun q => by simp [zat, show Γ.1 a < 11 by omega] at hz
  unfold zE
  rw [if_neg h9, hz]
  rfl
theorem zX_keep {Γ : zΓ} {U U1 : State} {H H1 : Heap} (h : zXf Γ U H) (hvm : U.vm.Alike U1.vm) (hq : ∀ a : Nat, a < H.size → ¬ zA Γ a → H1[a]? = H[a]?) : zXf Γ U1 H1 := by
  refine ⟨(h.1.moved hvm).kept hq, (h.2.1.moved hvm).kept hq, fun e he => ⟨((h.2.2 e he).1.moved hvm).kept hq, (h.2.2 e he).2⟩⟩
theorem zSt_keep {Γ : zΓ} {U U1 : State} (h : zSt Γ U) (hW : U.WarmedH U1.vm) (hq : ∀ a : Nat, a < U.heap.size → ¬ zA Γ a → U1.heap[a]? = U.heap[a]?) : zSt Γ U1 :=
  ⟨h.1.moved hW.alike, h.2.1, zX_keep h.2.2.1 hW.alike hq, fun q h9 => va_Nw.warmF hW (h.2.2.2 q h9)⟩
