/-! more rows: exact differences, whole numbers among the longs -/
theorem zl_and (x : Int64) : 0 ≤ (x &&& 2147483647).toInt ∧ (x &&& 2147483647).toInt ≤ 2147483647 := by
  have h : (x &&& 2147483647).toBitVec.toNat ≤ 2147483647 := by
    rw [Int64.toBitVec_and, BitVec.toNat_and]
    exact Nat.and_le_right
  have e : (x &&& 2147483647).toInt = ((x &&& 2147483647).toBitVec.toNat : Int) := BitVec.toInt_eq_toNat_of_lt (by omega)
  omega
theorem zl_div {x y : Int} (hx : 0 ≤ x ∧ x ≤ 9223372036854775807) (hy : 0 < y ∧ y ≤ 9223372036854775807) : Int64.ofInt x / Int64.ofInt y = Int64.ofInt (x / y) := by
  obtain ⟨n, rfl⟩ := Int.eq_ofNat_of_zero_le hx.1
  obtain ⟨k, rfl⟩ := Int.eq_ofNat_of_zero_le (Int.le_of_lt hy.1)
  have h := pk_lDiv (a := n) (b := k) (by omega) (by omega) (by omega)
  rw [← Int.natCast_ediv]
  simpa only [lN, Int64.ofInt_eq_ofNat] using h
theorem zl_rem {x y : Int} (hx : 0 ≤ x ∧ x ≤ 9223372036854775807) (hy : 0 < y ∧ y ≤ 9223372036854775807) : Int64.ofInt x - Int64.ofInt x / Int64.ofInt y * Int64.ofInt y = Int64.ofInt (x % y) := by
  obtain ⟨n, rfl⟩ := Int.eq_ofNat_of_zero_le hx.1
  obtain ⟨k, rfl⟩ := Int.eq_ofNat_of_zero_le (Int.le_of_lt hy.1)
  have h := pk_lRem (a := n) (b := k) (by omega) (by omega) (by omega)
  rw [← Int.natCast_emod]
  simpa only [lN, Int64.ofInt_eq_ofNat] using h
def wr (z : Int) : Int := (z + 2147483648) % 4294967296 - 2147483648
theorem wr_of (z : Int) : Int32.ofInt (wr z) = Int32.ofInt z := by
  apply Int32.toInt_inj.mp
  rw [Int32.toInt_ofInt, Int32.toInt_ofInt]
  unfold wr
  simp only [Int.bmod, Int32.size]
  omega
section Z2
variable {p : Program} {l : Launch} {e : Env} {R : Room} {s : State} {m : MethodId} {args : Array Value} {below : List Frame} {meth : Method} {c : Code} {Γ : zΓ} {cc : ByteArray} {nL : Nat} {own : String} {cells slots : Nat} {Q : State → Prop} {pc : Nat} {ls : List (Option zV)} {st : List zV} {G : zH}
theorem zs_isubE (C : zCx p s m args c Γ cc nL own) {x y : Int} (d : decode cc pc = .ok (.isub, 1)) (kk : Z p l e R s m args below meth c Γ nL cells slots Q (pc + 1) ls (zi (wr (x - y)) :: st) G) : Z p l e R s m args below meth c Γ nL cells slots Q pc ls (zi y :: zi x :: st) G := by
  intro hG hl hs H locs rl hP hS hL
  refine lv_isub C.1 C.2.1 d ?_
  rw [← Int32.ofInt_sub, ← wr_of]
  exact kk hG hl (zs_cons (v := zi (wr (x - y))) ⟨by unfold wr; omega, by unfold wr; omega⟩ (zs_tl (zs_tl hs))) H locs rl hP hS hL
theorem zs_landM (C : zCx p s m args c Γ cc nL own) {x : Int} (d : decode cc pc = .ok (.land, 1)) (kk : ∀ z : Int, 0 ≤ z → z ≤ 2147483647 → Z p l e R s m args below meth c Γ nL cells slots Q (pc + 1) ls (zj z :: st) G) : Z p l e R s m args below meth c Γ nL cells slots Q pc ls (zj 2147483647 :: zj x :: st) G := by
  intro hG hl hs H locs rl hP hS hL
  refine lv_land C.1 C.2.1 d ?_
  have h1 := zl_and (Int64.ofInt x)
  have h := kk _ h1.1 h1.2 hG hl (zs_cons (v := zj (Int64.ofInt x &&& 2147483647).toInt) ⟨by omega, by omega⟩ (zs_tl (zs_tl hs))) H locs rl hP hS hL
  have e9 : zc (zj (Int64.ofInt x &&& 2147483647).toInt) = .long (Int64.ofInt x &&& Int64.ofInt 2147483647) := by
    show Value.long (Int64.ofInt _) = _
    rw [Int64.ofInt_toInt]
    rfl
  rwa [List.map_cons, e9] at h
theorem zs_ldivP (C : zCx p s m args c Γ cc nL own) {x y : Int} (d : decode cc pc = .ok (.ldiv, 1)) (hx : 0 ≤ x) (hy : 0 < y) (kk : 0 ≤ x / y → x / y ≤ x → Z p l e R s m args below meth c Γ nL cells slots Q (pc + 1) ls (zj (x / y) :: st) G) : Z p l e R s m args below meth c Γ nL cells slots Q pc ls (zj y :: zj x :: st) G := by
  intro hG hl hs H locs rl hP hS hL
  have hxk := zs_hd (zs_tl hs)
  have hyk := zs_hd hs
  have h1 : 0 ≤ x / y := Int.ediv_nonneg hx (Int.le_of_lt hy)
  have h2 : x / y ≤ x := Int.ediv_le_self y hx
  refine lv_ldiv C.1 C.2.1 d (fun h => ?_) ?_
  · have := (zl_eq hyk (by omega)).mp (h.trans (show (0 : Int64) = Int64.ofInt 0 from rfl))
    omega
  · rw [zl_div ⟨hx, hxk.2⟩ ⟨hy, hyk.2⟩]
    exact kk h1 h2 hG hl (zs_cons (v := zj (x / y)) ⟨Int.le_trans (by decide) h1, Int.le_trans h2 hxk.2⟩ (zs_tl (zs_tl hs))) H locs rl hP hS hL
theorem zs_lremP (C : zCx p s m args c Γ cc nL own) {x y : Int} (d : decode cc pc = .ok (.lrem, 1)) (hx : 0 ≤ x) (hy : 0 < y) (kk : 0 ≤ x % y → x % y < y → Z p l e R s m args below meth c Γ nL cells slots Q (pc + 1) ls (zj (x % y) :: st) G) : Z p l e R s m args below meth c Γ nL cells slots Q pc ls (zj y :: zj x :: st) G := by
  intro hG hl hs H locs rl hP hS hL
  have hxk := zs_hd (zs_tl hs)
  have hyk := zs_hd hs
  have h1 : 0 ≤ x % y := Int.emod_nonneg x (by omega)
  have h2 : x % y < y := Int.emod_lt_of_pos x hy
  refine lv_lrem C.1 C.2.1 d (fun h => ?_) ?_
  · have := (zl_eq hyk (by omega)).mp (h.trans (show (0 : Int64) = Int64.ofInt 0 from rfl))
    omega
  · rw [zl_rem ⟨hx, hxk.2⟩ ⟨hy, hyk.2⟩]
    exact kk h1 h2 hG hl (zs_cons (v := zj (x % y)) ⟨Int.le_trans (by decide) h1, Int.le_trans (Int.le_of_lt h2) hyk.2⟩ (zs_tl (zs_tl hs))) H locs rl hP hS hL
end Z2
/-! counts and sums over rows of ints -/
def zct (f : Nat → Bool) : Nat → Int
  | 0 => 0
  | n + 1 => zct f n + (if f n then 1 else 0)
theorem zct_0 (f : Nat → Bool) : zct f 0 = 0 := rfl
theorem zct_s (f : Nat → Bool) (n : Nat) : zct f (n + 1) = zct f n + (if f n then 1 else 0) := rfl
theorem zct_le (f : Nat → Bool) : ∀ n, 0 ≤ zct f n ∧ zct f n ≤ n
  | 0 => ⟨Int.le_refl 0, Int.le_refl 0⟩
  | n + 1 => by
    have h := zct_le f n
    rw [zct_s]
    split <;> omega
theorem zct_mono (f : Nat → Bool) {n m : Nat} (h : n ≤ m) : zct f n ≤ zct f m := by
  induction m with
  | zero => rw [show n = 0 by omega]; exact Int.le_refl _
  | succ m ih =>
    rcases Nat.lt_or_ge n (m + 1) with q | q
    · have := ih (by omega)
      rw [zct_s]
      split <;> omega
    · rw [show n = m + 1 by omega]; exact Int.le_refl _
theorem zct_cg {f g : Nat → Bool} : ∀ n, (∀ i, i < n → f i = g i) → zct f n = zct g n
  | 0, _ => rfl
  | n + 1, h => by rw [zct_s, zct_s, zct_cg n (fun i hi => h i (by omega)), h n (by omega)]
/-- the flour of n sacks from base on with a fineness of at least q -/
def zfl (fi ha : Nat → Int) (q : Int) (base : Nat) : Nat → Int
  | 0 => 0
  | n + 1 => zfl fi ha q base n + (if q ≤ fi (base + n) then ha (base + n) else 0)
theorem zfl_s (fi ha : Nat → Int) (q : Int) (base n : Nat) : zfl fi ha q base (n + 1) = zfl fi ha q base n + (if q ≤ fi (base + n) then ha (base + n) else 0) := rfl
theorem zfl_b {fi ha : Nat → Int} {q : Int} {base : Nat} (h : ∀ i, 0 ≤ ha i ∧ ha i ≤ 99) : ∀ n, 0 ≤ zfl fi ha q base n ∧ zfl fi ha q base n ≤ 99 * n
  | 0 => ⟨Int.le_refl 0, Int.le_refl 0⟩
  | n + 1 => by
    have h1 := zfl_b (fi := fi) (q := q) (base := base) h n
    have h2 := h (base + n)
    rw [zfl_s]
    split <;> omega
/-- none has any: none is there -/
theorem zfl_none {fi ha : Nat → Int} {q : Int} {base : Nat} : ∀ n, (∀ k, k < n → ha (base + k) = 0 ∨ fi (base + k) < q) → zfl fi ha q base n = 0
  | 0, _ => rfl
  | n + 1, h => by
    rw [zfl_s, zfl_none n (fun k hk => h k (by omega))]
    have h1 := h n (by omega)
    split <;> omega
/-- some is taken from one of them -/
theorem zfl_upd {fi ha ha' : Nat → Int} {q : Int} {base k : Nat} {x : Int} (h1 : ha' (base + k) = ha (base + k) - x) (h2 : ∀ i, i ≠ base + k → ha' i = ha i) (h3 : q ≤ fi (base + k)) : ∀ n, k < n → zfl fi ha' q base n = zfl fi ha q base n - x
  | 0, h => absurd h (by omega)
  | n + 1, h => by
    rw [zfl_s, zfl_s]
    rcases Nat.lt_or_ge k n with q1 | q1
    · rw [zfl_upd h1 h2 h3 n q1, h2 (base + n) (by omega)]
      omega
    · have e : k = n := by omega
      subst e
      have e2 : zfl fi ha' q base k = zfl fi ha q base k := by
        clear h h3 q1
        have gen : ∀ j, j ≤ k → zfl fi ha' q base j = zfl fi ha q base j := by
          intro j
          induction j with
          | zero => intro _; rfl
          | succ j ih =>
            intro hj
            rw [zfl_s, zfl_s, ih (by omega), h2 (base + j) (by omega)]
        exact gen k (Nat.le_refl k)
      rw [e2, if_pos h3, if_pos h3, h1]
      omega
/-! rows that are counted on -/
def zod (b : Int) (f : Nat → Int) : Nat → Int
  | 0 => 0
  | n + 1 => zod b f n * b + f n
theorem zod5 (f : Nat → Int) : zod 7 f 5 = f 0 * 2401 + f 1 * 343 + f 2 * 49 + f 3 * 7 + f 4 := by
  simp only [zod]
  omega
theorem zod4 (f : Nat → Int) : zod 25 f 4 = f 0 * 15625 + f 1 * 625 + f 2 * 25 + f 3 := by
  simp only [zod]
  omega
theorem zod_up5 {f g : Nat → Int} {k n : Nat} (hk : k < 5) (hf : ∀ i, 0 ≤ f i ∧ f i ≤ 6) (hg : ∀ i, 0 ≤ g i) (h1 : f k < g k) (h2 : ∀ i, i < k → g i = f i) (h3 : ∀ i, n ≤ i → g i = f i ∨ True) : zod 7 f 5 < zod 7 g 5 := by
  rw [zod5, zod5]
  have f0 := hf 0; have f1 := hf 1; have f2 := hf 2; have f3 := hf 3; have f4 := hf 4
  have g0 := hg 0; have g1 := hg 1; have g2 := hg 2; have g3 := hg 3; have g4 := hg 4
  rcases (show k = 0 ∨ k = 1 ∨ k = 2 ∨ k = 3 ∨ k = 4 by omega) with rfl | rfl | rfl | rfl | rfl
  · omega
  · have := h2 0 (by omega); omega
  · have := h2 0 (by omega); have := h2 1 (by omega); omega
  · have := h2 0 (by omega); have := h2 1 (by omega); have := h2 2 (by omega); omega
  · have := h2 0 (by omega); have := h2 1 (by omega); have := h2 2 (by omega); have := h2 3 (by omega); omega
theorem zod_up4 {f g : Nat → Int} {k : Nat} (hk : k < 4) (hf : ∀ i, 0 ≤ f i ∧ f i ≤ 24) (hg : ∀ i, 0 ≤ g i) (h1 : f k < g k) (h2 : ∀ i, i < k → g i = f i) : zod 25 f 4 < zod 25 g 4 := by
  rw [zod4, zod4]
  have f0 := hf 0; have f1 := hf 1; have f2 := hf 2; have f3 := hf 3
  have g0 := hg 0; have g1 := hg 1; have g2 := hg 2; have g3 := hg 3
  rcases (show k = 0 ∨ k = 1 ∨ k = 2 ∨ k = 3 by omega) with rfl | rfl | rfl | rfl
  · omega
  · have := h2 0 (by omega); omega
  · have := h2 0 (by omega); have := h2 1 (by omega); omega
  · have := h2 0 (by omega); have := h2 1 (by omega); have := h2 2 (by omega); omega
