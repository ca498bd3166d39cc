/-! two mills -/
theorem band_3 (x : Int) : 0 ≤ band x 3 ∧ band x 3 ≤ 3 := by
  unfold band
  obtain ⟨j, hj, ej⟩ := pk_andE (Int32.ofInt x) (m := Int32.ofInt 3) 2 (by decide)
  rw [ej, nI_toInt (by omega)]
  omega
theorem band_1 (x : Int) : 0 ≤ band x 1 ∧ band x 1 ≤ 1 := by
  unfold band
  obtain ⟨j, hj, ej⟩ := pk_andE (Int32.ofInt x) (m := Int32.ofInt 1) 1 (by decide)
  rw [ej, nI_toInt (by omega)]
  omega
def mdg (row k : Int) : Int := band (bshr row (2 * k)) 3
def mbt (q k : Int) : Int := band (bshr q k) 1
theorem mdg_in (row k : Int) : 0 ≤ mdg row k ∧ mdg row k ≤ 3 := band_3 _
theorem mbt_in (q k : Int) : 0 ≤ mbt q k ∧ mbt q k ≤ 1 := band_1 _
def msF (W : Nat → Int) (row q : Int) : Nat → Int
  | 0 => 0
  | k + 1 => msF W row q k + (if mbt q k = 0 then W (mdg row k).toNat else 0)
def msS (W : Nat → Int) (row q : Int) : Nat → Int
  | 0 => 0
  | k + 1 => msS W row q k + (if mbt q k = 0 then 0 else W (mdg row k).toNat)
def msA (W : Nat → Int) (row : Int) : Nat → Int
  | 0 => 0
  | k + 1 => msA W row k + W (mdg row k).toNat
theorem msF_s {W : Nat → Int} {row q k : Int} (h : 0 ≤ k) : msF W row q (k + 1).toNat = msF W row q k.toNat + (if mbt q k = 0 then W (mdg row k).toNat else 0) := by
  rw [show (k + 1).toNat = k.toNat + 1 by omega, msF, show ((k.toNat : Nat) : Int) = k by omega]
theorem msS_s {W : Nat → Int} {row q k : Int} (h : 0 ≤ k) : msS W row q (k + 1).toNat = msS W row q k.toNat + (if mbt q k = 0 then 0 else W (mdg row k).toNat) := by
  rw [show (k + 1).toNat = k.toNat + 1 by omega, msS, show ((k.toNat : Nat) : Int) = k by omega]
theorem msA_s {W : Nat → Int} {row k : Int} (h : 0 ≤ k) : msA W row (k + 1).toNat = msA W row k.toNat + W (mdg row k).toNat := by
  rw [show (k + 1).toNat = k.toNat + 1 by omega, msA, show ((k.toNat : Nat) : Int) = k by omega]
theorem msAFS (W : Nat → Int) (row q : Int) : ∀ k : Nat, msA W row k = msF W row q k + msS W row q k
  | 0 => rfl
  | k + 1 => by
    rw [msA, msF, msS, msAFS W row q k]
    by_cases h : mbt q k = 0
    · rw [if_pos h, if_pos h]; omega
    · rw [if_neg h, if_neg h]; omega
theorem msFS_in {W : Nat → Int} {row q : Int} : ∀ k : Nat, (∀ j : Nat, j < k → 0 ≤ W (mdg row j).toNat ∧ W (mdg row j).toNat ≤ 99) → (0 ≤ msF W row q k ∧ msF W row q k ≤ 99 * k) ∧ 0 ≤ msS W row q k ∧ msS W row q k ≤ 99 * k
  | 0, _ => by simp [msF, msS]
  | k + 1, h => by
    have h1 := msFS_in (q := q) k (fun j hj => h j (by omega))
    have h2 := h k (by omega)
    rw [msF, msS]
    by_cases hb : mbt q k = 0
    · rw [if_pos hb, if_pos hb]; omega
    · rw [if_neg hb, if_neg hb]; omega
def mmn (f : Nat → Int) : Nat → Int × Int
  | 0 => (2147483647, 0)
  | k + 1 => if f k < (mmn f k).1 then (f k, (k : Int)) else mmn f k
theorem mmn_s {f : Nat → Int} {k : Int} (h : 0 ≤ k) : mmn f (k + 1).toNat = if f k.toNat < (mmn f k.toNat).1 then (f k.toNat, k) else mmn f k.toNat := by
  rw [show (k + 1).toNat = k.toNat + 1 by omega, mmn, show ((k.toNat : Nat) : Int) = k by omega]
def mfn (W : Nat → Int) (row n : Int) : Nat → Int := fun m => max (msF W row m n.toNat) (msS W row m n.toNat)
theorem mfn_at {W : Nat → Int} {row n k : Int} (h : 0 ≤ k) : mfn W row n k.toNat = max (msF W row k n.toNat) (msS W row k n.toNat) := by
  unfold mfn
  rw [show ((k.toNat : Nat) : Int) = k by omega]
theorem bsh1 : ∀ k : Nat, k < 11 → 1 ≤ bshl 1 k ∧ bshl 1 k ≤ 1024 := by decide +kernel
theorem bsh1_i {k : Int} (h : 1 ≤ k ∧ k ≤ 10) : 1 ≤ bshl 1 k ∧ bshl 1 k ≤ 1024 := by
  have q := bsh1 k.toNat (by omega)
  rwa [show ((k.toNat : Nat) : Int) = k by omega] at q
/-- what two mills are worth: a row of n, what is asked -/
def mV (W : Nat → Int) (n row k : Int) : Int := if k = 0 then (mmn (mfn W row n) (bshl 1 n).toNat).1 else (mmn (mfn W row n) (bshl 1 n).toNat).2
def mOK (S n row k : Int) : Prop := (1 ≤ n ∧ n ≤ 10 ∧ 0 ≤ k ∧ k ≤ 1) ∧ ∀ j : Nat, (j : Int) < n → mdg row j < S
theorem msFS_cg {W V : Nat → Int} {row q : Int} : ∀ k : Nat, (∀ j : Nat, j < k → W (mdg row j).toNat = V (mdg row j).toNat) → msF W row q k = msF V row q k ∧ msS W row q k = msS V row q k
  | 0, _ => ⟨rfl, rfl⟩
  | k + 1, h => by
    have h1 := msFS_cg (q := q) k (fun j hj => h j (by omega))
    rw [msF, msS, msF, msS, h1.1, h1.2, h k (by omega)]
    exact ⟨rfl, rfl⟩
theorem mmn_cg {f g : Nat → Int} (h : ∀ m, f m = g m) : ∀ k, mmn f k = mmn g k
  | 0 => rfl
  | k + 1 => by rw [mmn, mmn, mmn_cg h k, h k]
theorem mV_cg {W V : Nat → Int} {n row k : Int} (h : ∀ j : Nat, (j : Int) < n → W (mdg row j).toNat = V (mdg row j).toNat) : mV W n row k = mV V n row k := by
  have e : ∀ m, mfn W row n m = mfn V row n m := fun m => by
    have q := msFS_cg (W := W) (V := V) (row := row) (q := m) n.toNat (fun j hj => h j (by omega))
    unfold mfn
    rw [q.1, q.2]
  unfold mV
  rw [mmn_cg e]

