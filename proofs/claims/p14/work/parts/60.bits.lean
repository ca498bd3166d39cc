section
/-! exact bits -/
def bor (x y : Int) : Int := (Int32.ofInt x ||| Int32.ofInt y).toInt
def band (x y : Int) : Int := (Int32.ofInt x &&& Int32.ofInt y).toInt
def bshl (x y : Int) : Int := (Int32.ofInt x <<< (Int32.ofInt y &&& 31)).toInt
def bshr (x y : Int) : Int := (Int32.ofInt x >>> (Int32.ofInt y &&& 31)).toInt
def bushr (x y : Int) : Int := ((Int32.ofInt x).toUInt32 >>> ((Int32.ofInt y).toUInt32 &&& Int32.toUInt32 31)).toInt32.toInt
section ZX
variable {p : Program} {l : Launch} {e : Env} {R : Room} {s : State} {m : MethodId} {args : Array Value} {below : List Frame} {meth : Method} {c : Code} {Γ : zΓ} {cc : ByteArray} {nL : Nat} {own : String} {cells slots : Nat} {Q : State → Prop} {pc : Nat} {ls : List (Option zV)} {st : List zV} {G : zH}
theorem zW_intX {H : Heap} {locs : List Loc} {rl : Array Slot} {w : Int32} (kk : ∀ z : Int, z = w.toInt → -2147483648 ≤ z → z ≤ 2147483647 → Z p l e R s m args below meth c Γ nL cells slots Q pc ls (zi z :: st) G) (hG : zG Γ G) (hl : ∀ v, some v ∈ ls → zk Γ v) (hs : ∀ v ∈ st, zk Γ v) (hP : va_P Γ.2.2.2.1 vwCl (zWd Γ G) H) (hS : va_S (zA Γ) s.heap H locs) (hL : zL rl nL ls) : W p l e R s m args below meth c H locs cells slots Q (F0 m pc rl (.int w :: st.map zc)) := by
  have h1 := Int32.le_toInt w
  have h2 := Int32.toInt_lt w
  have h := kk w.toInt rfl (by omega) (by omega) hG hl (zs_cons ⟨by omega, by omega⟩ hs) H locs rl hP hS hL
  have e : zc (zi w.toInt) = .int w := by simp [zc]
  rwa [List.map_cons, e] at h
theorem zs_iorX (C : zCx p s m args c Γ cc nL own) {x y : Int} (d : decode cc pc = .ok (.ior, 1)) (kk : ∀ z : Int, z = bor x y → -2147483648 ≤ z → z ≤ 2147483647 → Z p l e R s m args below meth c Γ nL cells slots Q (pc + 1) ls (zi z :: st) G) : Z p l e R s m args below meth c Γ nL cells slots Q pc ls (zi y :: zi x :: st) G := by
  intro hG hl hs H locs rl hP hS hL
  exact lv_ior C.1 C.2.1 d (zW_intX kk hG hl (zs_tl (zs_tl hs)) hP hS hL)
theorem zs_iandX (C : zCx p s m args c Γ cc nL own) {x y : Int} (d : decode cc pc = .ok (.iand, 1)) (kk : ∀ z : Int, z = band x y → -2147483648 ≤ z → z ≤ 2147483647 → Z p l e R s m args below meth c Γ nL cells slots Q (pc + 1) ls (zi z :: st) G) : Z p l e R s m args below meth c Γ nL cells slots Q pc ls (zi y :: zi x :: st) G := by
  intro hG hl hs H locs rl hP hS hL
  exact lv_iand C.1 C.2.1 d (zW_intX kk hG hl (zs_tl (zs_tl hs)) hP hS hL)
theorem zs_ishlX (C : zCx p s m args c Γ cc nL own) {x y : Int} (d : decode cc pc = .ok (.ishl, 1)) (kk : ∀ z : Int, z = bshl x y → -2147483648 ≤ z → z ≤ 2147483647 → Z p l e R s m args below meth c Γ nL cells slots Q (pc + 1) ls (zi z :: st) G) : Z p l e R s m args below meth c Γ nL cells slots Q pc ls (zi y :: zi x :: st) G := by
  intro hG hl hs H locs rl hP hS hL
  exact lv_ishl C.1 C.2.1 d (zW_intX kk hG hl (zs_tl (zs_tl hs)) hP hS hL)
theorem zs_ishrX (C : zCx p s m args c Γ cc nL own) {x y : Int} (d : decode cc pc = .ok (.ishr, 1)) (kk : ∀ z : Int, z = bshr x y → -2147483648 ≤ z → z ≤ 2147483647 → Z p l e R s m args below meth c Γ nL cells slots Q (pc + 1) ls (zi z :: st) G) : Z p l e R s m args below meth c Γ nL cells slots Q pc ls (zi y :: zi x :: st) G := by
  intro hG hl hs H locs rl hP hS hL
  exact lv_ishr C.1 C.2.1 d (zW_intX kk hG hl (zs_tl (zs_tl hs)) hP hS hL)
theorem zs_iushrX (C : zCx p s m args c Γ cc nL own) {x y : Int} (d : decode cc pc = .ok (.iushr, 1)) (kk : ∀ z : Int, z = bushr x y → -2147483648 ≤ z → z ≤ 2147483647 → Z p l e R s m args below meth c Γ nL cells slots Q (pc + 1) ls (zi z :: st) G) : Z p l e R s m args below meth c Γ nL cells slots Q pc ls (zi y :: zi x :: st) G := by
  intro hG hl hs H locs rl hP hS hL
  exact lv_iushr C.1 C.2.1 d rfl (zW_intX kk hG hl (zs_tl (zs_tl hs)) hP hS hL)
end ZX
/-- a byte of a number -/
def byt (x s : Int) : Int := band (bshr x s) 255
theorem bit_255 : ∀ i : Nat, i < 32 → 8 ≤ i → (255#32).getLsbD i = false := by decide
theorem byt_bv (x : BitVec 32) (k : Nat) (hk : k ≤ 24) : (x >>> k) &&& 255#32 = (x.sshiftRight k) &&& 255#32 := by
  apply BitVec.eq_of_getLsbD_eq
  intro i hi
  rw [BitVec.getLsbD_and, BitVec.getLsbD_and, BitVec.getLsbD_ushiftRight, BitVec.getLsbD_sshiftRight]
  rcases Nat.lt_or_ge i 8 with h8 | h8
  · have h9 : k + i < 32 := by omega
    have h7 : ¬ 32 ≤ i := by omega
    simp [h9, h7]
  · rw [bit_255 i hi h8, Bool.and_false, Bool.and_false]
theorem byt_u {x s : Int} (hs : s = 24 ∨ s = 16 ∨ s = 8 ∨ s = 0) : band (bushr x s) 255 = byt x s := by
  unfold byt band bushr bshr
  rw [Int32.ofInt_toInt, Int32.ofInt_toInt]
  congr 1
  apply Int32.toBitVec_inj.mp
  rcases hs with rfl | rfl | rfl | rfl
  · exact byt_bv (Int32.ofInt x).toBitVec 24 (by decide)
  · exact byt_bv (Int32.ofInt x).toBitVec 16 (by decide)
  · exact byt_bv (Int32.ofInt x).toBitVec 8 (by decide)
  · exact byt_bv (Int32.ofInt x).toBitVec 0 (by decide)
theorem byt_in (x s : Int) : 0 ≤ byt x s ∧ byt x s ≤ 255 := by
  unfold byt band
  obtain ⟨j, hj, ej⟩ := pk_andE (Int32.ofInt (bshr x s)) (m := Int32.ofInt 255) 8 (by decide)
  rw [ej, nI_toInt (by omega)]
  omega
theorem bor_add {x y : Int} (k : Nat) (hx : 0 ≤ x) (hm : x % ((2 ^ k : Nat) : Int) = 0) (hy : 0 ≤ y) (hk : y < ((2 ^ k : Nat) : Int)) (hb : x + y < 2147483648) : bor x y = x + y := by
  obtain ⟨a, rfl⟩ := Int.eq_ofNat_of_zero_le hx
  obtain ⟨b, rfl⟩ := Int.eq_ofNat_of_zero_le hy
  have ha : a % 2 ^ k = 0 := by omega
  have hc : b < 2 ^ k := by omega
  have e : a ||| b = a + b := by
    have h := Nat.two_pow_add_eq_or_of_lt hc (a / 2 ^ k)
    rw [Nat.mul_div_cancel' (Nat.dvd_of_mod_eq_zero ha)] at h
    exact h.symm
  have e2 : Int32.ofInt (a : Int) ||| Int32.ofInt (b : Int) = Int32.ofInt ((a + b : Nat) : Int) := by
    apply Int32.toBitVec_inj.mp
    rw [Int32.toBitVec_or, Int32.toBitVec_ofInt, Int32.toBitVec_ofInt, Int32.toBitVec_ofInt, BitVec.ofInt_natCast, BitVec.ofInt_natCast, BitVec.ofInt_natCast]
    apply BitVec.eq_of_toNat_eq
    rw [BitVec.toNat_or, BitVec.toNat_ofNat, BitVec.toNat_ofNat, BitVec.toNat_ofNat, Nat.mod_eq_of_lt (by omega), Nat.mod_eq_of_lt (by omega), Nat.mod_eq_of_lt (by omega), e]
  unfold bor
  rw [e2, Int32.toInt_ofInt_of_le (by omega) (by omega)]
  omega
theorem bshl_5 : ∀ x : Nat, x < 32 → bshl (x : Int) 25 = x * 33554432 ∧ bshl (x : Int) 20 = x * 1048576 ∧ bshl (x : Int) 15 = x * 32768 ∧ bshl (x : Int) 10 = x * 1024 ∧ bshl (x : Int) 5 = x * 32 ∧ bshl (x : Int) 0 = x := by decide +kernel
end
section
/-- what comes behind the tape -/
def ff (a b c d e k : Int) : Int := if k < 4 then byt a (24 - 8 * k) else if k < 8 then byt b (24 - 8 * (k - 4)) else if k < 12 then byt c (24 - 8 * (k - 8)) else if k < 16 then byt d (24 - 8 * (k - 12)) else byt e (24 - 8 * (k - 16))
theorem fill_step {f g h : Nat → Int} {T M v : Int} {n : Nat} (hinv : ∀ i : Nat, f i = if T ≤ (i : Int) ∧ (i : Int) < M then h i else g i) (hn : (n : Int) = M) (hT : T ≤ M) (hv : v = h n) : ∀ i : Nat, (if i = n then v else f i) = if T ≤ (i : Int) ∧ (i : Int) < M + 1 then h i else g i := by
  intro i
  by_cases hi : i = n
  · subst hi
    rw [if_pos rfl, if_pos ⟨by omega, by omega⟩]
    exact hv
  · rw [if_neg hi, hinv i]
    by_cases h1 : T ≤ (i : Int) ∧ (i : Int) < M
    · rw [if_pos h1, if_pos ⟨h1.1, by omega⟩]
    · rw [if_neg h1, if_neg (by omega)]
end
section
/-! the tokens of a text, as numbers alone: b its bytes, n its length -/
def fB (c : Int) : Bool := decide (c = 10 ∨ c = 32)
def fL (c : Int) : Bool := decide (97 ≤ c ∧ c ≤ 122)
def fD (c : Int) : Bool := decide (48 ≤ c ∧ c ≤ 57)
def spn (f : Int → Bool) (b : Nat → Int) (n : Int) : Nat → Int → Int
  | 0, p => p
  | k + 1, p => if p < n ∧ f (b p.toNat) = true then spn f b n k (p + 1) else p
/-- where a row of such bytes ends -/
def sp (f : Int → Bool) (b : Nat → Int) (n p : Int) : Int := spn f b n (n - p).toNat p
theorem sp_s {f : Int → Bool} {b : Nat → Int} {n p : Int} (h : p < n) (hf : f (b p.toNat) = true) : sp f b n p = sp f b n (p + 1) := by
  unfold sp
  rw [show (n - p).toNat = (n - (p + 1)).toNat + 1 by omega, spn, if_pos ⟨h, hf⟩]
theorem sp_e {f : Int → Bool} {b : Nat → Int} {n p : Int} (h : ¬ (p < n ∧ f (b p.toNat) = true)) : sp f b n p = p := by
  unfold sp
  cases (n - p).toNat with
  | zero => rfl
  | succ k => rw [spn, if_neg h]
theorem spn_in {f : Int → Bool} {b : Nat → Int} {n : Int} : ∀ (k : Nat) (p : Int), p ≤ spn f b n k p ∧ (p ≤ n → spn f b n k p ≤ n) ∧ ∀ i : Int, p ≤ i → i < spn f b n k p → f (b i.toNat) = true
  | 0, p => ⟨Int.le_refl _, fun h => h, fun i h1 h2 => by rw [spn] at h2; omega⟩
  | k + 1, p => by
    rw [spn]
    by_cases h : p < n ∧ f (b p.toNat) = true
    · rw [if_pos h]
      obtain ⟨h1, h2, h3⟩ := spn_in (f := f) (b := b) (n := n) k (p + 1)
      refine ⟨by omega, fun _ => h2 (by omega), fun i h4 h5 => ?_⟩
      rcases Int.lt_or_eq_of_le h4 with h6 | h6
      · exact h3 i (by omega) h5
      · rw [← h6]; exact h.2
    · rw [if_neg h]
      exact ⟨Int.le_refl _, fun h => h, fun i h1 h2 => by omega⟩
theorem sp_ge {f : Int → Bool} {b : Nat → Int} {n p : Int} : p ≤ sp f b n p := (spn_in _ _).1
theorem sp_le {f : Int → Bool} {b : Nat → Int} {n p : Int} (h : p ≤ n) : sp f b n p ≤ n := (spn_in _ _).2.1 h
theorem sp_all {f : Int → Bool} {b : Nat → Int} {n p i : Int} (h1 : p ≤ i) (h2 : i < sp f b n p) : f (b i.toNat) = true := (spn_in _ _).2.2 i h1 h2
def dgn (b : Nat → Int) (n : Int) : Nat → Int → Int → Int
  | 0, _, a => a
  | k + 1, p, a => if p < n ∧ fD (b p.toNat) = true then dgn b n k (p + 1) (min 100000 (a * 10 + b p.toNat - 48)) else a
/-- the number of a row of digits, 100000 where it is more -/
def dg (b : Nat → Int) (n p a : Int) : Int := dgn b n (n - p).toNat p a
theorem dg_s {b : Nat → Int} {n p a : Int} (h : p < n) (hf : fD (b p.toNat) = true) : dg b n p a = dg b n (p + 1) (min 100000 (a * 10 + b p.toNat - 48)) := by
  unfold dg
  rw [show (n - p).toNat = (n - (p + 1)).toNat + 1 by omega, dgn, if_pos ⟨h, hf⟩]
theorem dg_e {b : Nat → Int} {n p a : Int} (h : ¬ (p < n ∧ fD (b p.toNat) = true)) : dg b n p a = a := by
  unfold dg
  cases (n - p).toNat with
  | zero => rfl
  | succ k => rw [dgn, if_neg h]
/-- a word's letters in one number -/
def cdd (b : Nat → Int) (p q i : Int) : Int := if p + i < q then b (p + i).toNat - 96 else 0
def cd (b : Nat → Int) (p q : Int) : Int := cdd b p q 0 * 33554432 + cdd b p q 1 * 1048576 + cdd b p q 2 * 32768 + cdd b p q 3 * 1024 + cdd b p q 4 * 32 + cdd b p q 5
/-- the words of the language, in the class's order, as such numbers -/
def wS (s : List Int) : Int := s.getD 0 0 * 33554432 + s.getD 1 0 * 1048576 + s.getD 2 0 * 32768 + s.getD 3 0 * 1024 + s.getD 4 0 * 32 + s.getD 5 0
def wl : List Int := [647430144, 542723566, 143785984, 102077440, 253797824, 254070400, 659011744, 642945024, 404455424, 438075392, 254064768, 777046016, 773279744, 538232832, 522190848, 48365568, 486146048, 788091136, 680957536, 788084736, 556044448, 412254208, 284628596, 136085504]
def lwn : List Int → Int → Int → Int
  | [], _, _ => -1
  | x :: r, c, k => if x = c then k else lwn r c (k + 1)
def lw (c : Int) : Int := lwn wl c 0
/-- signs -/
def sgV (c d : Int) : Int := if c = 59 then 17 else if c = 40 then 15 else if c = 41 then 16 else if c = 43 then 11 else if c = 45 then 12 else if c = 42 then 13 else if c = 47 then 14 else if c = 61 then 7 else if c = 60 then (if d = 61 then 6 else if d = 62 then 8 else 5) else if c = 62 then (if d = 61 then 9 else 10) else 0
def sgW (c d : Int) : Int := if c = 60 ∧ (d = 61 ∨ d = 62) ∨ c = 62 ∧ d = 61 then 2 else 1
/-- the byte behind, 0 at the end -/
def bh (b : Nat → Int) (n p : Int) : Int := if p + 1 < n then b (p + 1).toNat else 0
def tkK (b : Nat → Int) (n p : Int) : Int :=
  if ¬ p < n then 0 else if fL (b p.toNat) = true then (if 6 < sp fL b n p - p then 5 else if 0 ≤ lw (cd b p (sp fL b n p)) then 2 else 1)
  else if fD (b p.toNat) = true then 3 else if sgV (b p.toNat) (bh b n p) = 0 then 5 else 4
def tkV (b : Nat → Int) (n p : Int) : Int :=
  if ¬ p < n then 0 else if fL (b p.toNat) = true then (if 6 < sp fL b n p - p then 0 else if 0 ≤ lw (cd b p (sp fL b n p)) then lw (cd b p (sp fL b n p)) else cd b p (sp fL b n p))
  else if fD (b p.toNat) = true then dg b n p 0 else sgV (b p.toNat) (bh b n p)
def tkN (b : Nat → Int) (n p : Int) : Int :=
  if ¬ p < n then p else if fL (b p.toNat) = true then sp fL b n p else if fD (b p.toNat) = true then sp fD b n p else p + sgW (b p.toNat) (bh b n p)
/-- blanks are passed over -/
def sk (b : Nat → Int) (n p : Int) : Int := sp fB b n p
/-- where the i-th token begins -/
def stn (b : Nat → Int) (n : Int) : Nat → Int
  | 0 => sk b n 0
  | i + 1 => if stn b n i < n then sk b n (tkN b n (stn b n i)) else stn b n i
theorem stn_s {b : Nat → Int} {n : Int} {i : Nat} (h : stn b n i < n) : stn b n (i + 1) = sk b n (tkN b n (stn b n i)) := by rw [stn, if_pos h]
theorem tkN_gt {b : Nat → Int} {n p : Int} (h : p < n) : p < tkN b n p ∧ tkN b n p ≤ n := by
  unfold tkN
  rw [if_neg (by omega)]
  split
  · rename_i h1
    rw [sp_s h h1]
    have h2 := sp_ge (f := fL) (b := b) (n := n) (p := p + 1)
    have h3 := sp_le (f := fL) (b := b) (n := n) (p := p + 1) (by omega)
    omega
  · split
    · rename_i h1
      rw [sp_s h h1]
      have h2 := sp_ge (f := fD) (b := b) (n := n) (p := p + 1)
      have h3 := sp_le (f := fD) (b := b) (n := n) (p := p + 1) (by omega)
      omega
    · unfold sgW bh
      by_cases h5 : p + 1 < n
      · rw [if_pos h5]
        split <;> omega
      · rw [if_neg h5]
        split <;> omega
theorem fL_i {c : Int} : fL c = true ↔ 97 ≤ c ∧ c ≤ 122 := by unfold fL; exact decide_eq_true_iff
theorem fD_i {c : Int} : fD c = true ↔ 48 ≤ c ∧ c ≤ 57 := by unfold fD; exact decide_eq_true_iff
theorem fB_i {c : Int} : fB c = true ↔ c = 10 ∨ c = 32 := by unfold fB; exact decide_eq_true_iff
end
