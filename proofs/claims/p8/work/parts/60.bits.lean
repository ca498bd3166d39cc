/-! exact bits -/
def bor (x y : Int) : Int := (Int32.ofInt x ||| Int32.ofInt y).toInt
def band (x y : Int) : Int := (Int32.ofInt x &&& Int32.ofInt y).toInt
def bshl (x y : Int) : Int := (Int32.ofInt x <<< (Int32.ofInt y &&& 31)).toInt
def bshr (x y : Int) : Int := (Int32.ofInt x >>> (Int32.ofInt y &&& 31)).toInt
def bushr (x y : Int) : Int := ((Int32.ofInt x).toUInt32 >>> ((Int32.ofInt y).toUInt32 &&& Int32.toUInt32 31)).toInt32.toInt
section ZX
variable {p : Program} {l : Launch} {e : Env} {R : Room} {s : State} {m : MethodId} {args : Array Value} {below : List Frame} {meth : Method} {c : Code} {Γ : zΓ} {cc : ByteArray} {nL : Nat} {own : String} {cells slots : Nat} {Q : State → Prop} {pc : Nat} {ls : List (Option zV)} {st : List zV} {G : zH}
theorem zW_intX {H : Heap} {locs : List Loc} {rl : Array Slot} {w : Int32} (kk : ∀ z : Int, z = w.toInt → -2147483648 ≤ z → z ≤ 2147483647 → Z p l e R s m args below meth c Γ nL cells slots Q pc ls (zi z :: st) G) (hG : zG Γ G) (hl : ∀ v, some v ∈ ls → zk Γ v) (hs : ∀ v ∈ st, zk Γ v) (hP : va_P Γ.2.2.2.1 vwCl (zWd Γ G) H) (hS : va_S (zA Γ) s.heap H locs) (hL : zL rl nL ls) : W p l e R s m args below meth c H locs cells slots Q (F0 m pc rl (.int w :: st.map zc)) := by
  have h1 := Int32.le_toInt w
  have h2 := Int32.toInt_lt w
  have h := kk w.toInt rfl (by omega) (by omega) hG hl (zs_cons ⟨by omega, by omega⟩ hs) H locs rl hP hS hL
  have e : zc (zi w.toInt) = .int w := by simp [zc]
  rwa [List.map_cons, e] at h
theorem zs_iorX (C : zCx p s m args c Γ cc nL own) {x y : Int} (d : decode cc pc = .ok (.ior, 1)) (kk : ∀ z : Int, z = bor x y → -2147483648 ≤ z → z ≤ 2147483647 → Z p l e R s m args below meth c Γ nL cells slots Q (pc + 1) ls (zi z :: st) G) : Z p l e R s m args below meth c Γ nL cells slots Q pc ls (zi y :: zi x :: st) G := by
  intro hG hl hs H locs rl hP hS hL
  exact lv_ior C.1 C.2.1 d (zW_intX kk hG hl (zs_tl (zs_tl hs)) hP hS hL)
theorem zs_iandX (C : zCx p s m args c Γ cc nL own) {x y : Int} (d : decode cc pc = .ok (.iand, 1)) (kk : ∀ z : Int, z = band x y → -2147483648 ≤ z → z ≤ 2147483647 → Z p l e R s m args below meth c Γ nL cells slots Q (pc + 1) ls (zi z :: st) G) : Z p l e R s m args below meth c Γ nL cells slots Q pc ls (zi y :: zi x :: st) G := by
  intro hG hl hs H locs rl hP hS hL
  exact lv_iand C.1 C.2.1 d (zW_intX kk hG hl (zs_tl (zs_tl hs)) hP hS hL)
theorem zs_ishlX (C : zCx p s m args c Γ cc nL own) {x y : Int} (d : decode cc pc = .ok (.ishl, 1)) (kk : ∀ z : Int, z = bshl x y → -2147483648 ≤ z → z ≤ 2147483647 → Z p l e R s m args below meth c Γ nL cells slots Q (pc + 1) ls (zi z :: st) G) : Z p l e R s m args below meth c Γ nL cells slots Q pc ls (zi y :: zi x :: st) G := by
  intro hG hl hs H locs rl hP hS hL
  exact lv_ishl C.1 C.2.1 d (zW_intX kk hG hl (zs_tl (zs_tl hs)) hP hS hL)
theorem zs_ishrX (C : zCx p s m args c Γ cc nL own) {x y : Int} (d : decode cc pc = .ok (.ishr, 1)) (kk : ∀ z : Int, z = bshr x y → -2147483648 ≤ z → z ≤ 2147483647 → Z p l e R s m args below meth c Γ nL cells slots Q (pc + 1) ls (zi z :: st) G) : Z p l e R s m args below meth c Γ nL cells slots Q pc ls (zi y :: zi x :: st) G := by
  intro hG hl hs H locs rl hP hS hL
  exact lv_ishr C.1 C.2.1 d (zW_intX kk hG hl (zs_tl (zs_tl hs)) hP hS hL)
theorem zs_iushrX (C : zCx p s m args c Γ cc nL own) {x y : Int} (d : decode cc pc = .ok (.iushr, 1)) (kk : ∀ z : Int, z = bushr x y → -2147483648 ≤ z → z ≤ 2147483647 → Z p l e R s m args below meth c Γ nL cells slots Q (pc + 1) ls (zi z :: st) G) : Z p l e R s m args below meth c Γ nL cells slots Q pc ls (zi y :: zi x :: st) G := by
  intro hG hl hs H locs rl hP hS hL
  exact lv_iushr C.1 C.2.1 d rfl (zW_intX kk hG hl (zs_tl (zs_tl hs)) hP hS hL)
end ZX
/-- a byte of a number -/
def byt (x s : Int) : Int := band (bshr x s) 255
theorem bit_255 : ∀ i : Nat, i < 32 → 8 ≤ i → (255#32).getLsbD i = false := by decide
theorem byt_bv (x : BitVec 32) (k : Nat) (hk : k ≤ 24) : (x >>> k) &&& 255#32 = (x.sshiftRight k) &&& 255#32 := by
  apply BitVec.eq_of_getLsbD_eq
  intro i hi
  rw [BitVec.getLsbD_and, BitVec.getLsbD_and, BitVec.getLsbD_ushiftRight, BitVec.getLsbD_sshiftRight]
  rcases Nat.lt_or_ge i 8 with h8 | h8
  · have h9 : k + i < 32 := by omega
    have h7 : ¬ 32 ≤ i := by omega
    simp [h9, h7]
  · rw [bit_255 i hi h8, Bool.and_false, Bool.and_false]
theorem byt_u {x s : Int} (hs : s = 24 ∨ s = 16 ∨ s = 8 ∨ s = 0) : band (bushr x s) 255 = byt x s := by
  unfold byt band bushr bshr
  rw [Int32.ofInt_toInt, Int32.ofInt_toInt]
  congr 1
  apply Int32.toBitVec_inj.mp
  rcases hs with rfl | rfl | rfl | rfl
  · exact byt_bv (Int32.ofInt x).toBitVec 24 (by decide)
  · exact byt_bv (Int32.ofInt x).toBitVec 16 (by decide)
  · exact byt_bv (Int32.ofInt x).toBitVec 8 (by decide)
  · exact byt_bv (Int32.ofInt x).toBitVec 0 (by decide)
theorem byt_in (x s : Int) : 0 ≤ byt x s ∧ byt x s ≤ 255 := by
  unfold byt band
  obtain ⟨j, hj, ej⟩ := pk_andE (Int32.ofInt (bshr x s)) (m := Int32.ofInt 255) 8 (by decide)
  rw [ej, nI_toInt (by omega)]
  omega
theorem bor_add {x y : Int} (k : Nat) (hx : 0 ≤ x) (hm : x % ((2 ^ k : Nat) : Int) = 0) (hy : 0 ≤ y) (hk : y < ((2 ^ k : Nat) : Int)) (hb : x + y < 2147483648) : bor x y = x + y := by
  obtain ⟨a, rfl⟩ := Int.eq_ofNat_of_zero_le hx
  obtain ⟨b, rfl⟩ := Int.eq_ofNat_of_zero_le hy
  have ha : a % 2 ^ k = 0 := by omega
  have hc : b < 2 ^ k := by omega
  have e : a ||| b = a + b := by
    have h := Nat.two_pow_add_eq_or_of_lt hc (a / 2 ^ k)
    rw [Nat.mul_div_cancel' (Nat.dvd_of_mod_eq_zero ha)] at h
    exact h.symm
  have e2 : Int32.ofInt (a : Int) ||| Int32.ofInt (b : Int) = Int32.ofInt ((a + b : Nat) : Int) := by
    apply Int32.toBitVec_inj.mp
    rw [Int32.toBitVec_or, Int32.toBitVec_ofInt, Int32.toBitVec_ofInt, Int32.toBitVec_ofInt, BitVec.ofInt_natCast, BitVec.ofInt_natCast, BitVec.ofInt_natCast]
    apply BitVec.eq_of_toNat_eq
    rw [BitVec.toNat_or, BitVec.toNat_ofNat, BitVec.toNat_ofNat, BitVec.toNat_ofNat, Nat.mod_eq_of_lt (by omega), Nat.mod_eq_of_lt (by omega), Nat.mod_eq_of_lt (by omega), e]
  unfold bor
  rw [e2, Int32.toInt_ofInt_of_le (by omega) (by omega)]
  omega
theorem bshl_5 : ∀ x : Nat, x < 32 → bshl (x : Int) 25 = x * 33554432 ∧ bshl (x : Int) 20 = x * 1048576 ∧ bshl (x : Int) 15 = x * 32768 ∧ bshl (x : Int) 10 = x * 1024 ∧ bshl (x : Int) 5 = x * 32 ∧ bshl (x : Int) 0 = x := by decide +kernel
