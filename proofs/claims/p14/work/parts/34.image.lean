theorem rg5_h {i : Int} (h : 0 ≤ i ∧ 60 ≤ i % 127 ∧ i % 127 < 120) : zrg 2105 i.toNat = (0, 99) := by
  have e : zrg 2105 i.toNat = zcl (if i.toNat % 127 = 120 then (0, 60) else if 60 ≤ i.toNat % 127 ∧ i.toNat % 127 < 120 then (0, 99) else zfull) := rfl
  rw [e, if_neg (by omega), if_pos (by omega)]
  rfl
theorem rg5_n {i : Int} (h : 0 ≤ i ∧ i % 127 = 120) : zrg 2105 i.toNat = (0, 60) := by
  have e : zrg 2105 i.toNat = zcl (if i.toNat % 127 = 120 then (0, 60) else if 60 ≤ i.toNat % 127 ∧ i.toNat % 127 < 120 then (0, 99) else zfull) := rfl
  rw [e, if_pos (by omega)]
  rfl
theorem rg5_o {i : Int} (h : 0 ≤ i ∧ (i % 127 < 60 ∨ 120 < i % 127)) : zrg 2105 i.toNat = (-2147483648, 2147483647) := by
  have e : zrg 2105 i.toNat = zcl (if i.toNat % 127 = 120 then (0, 60) else if 60 ≤ i.toNat % 127 ∧ i.toNat % 127 < 120 then (0, 99) else zfull) := rfl
  rw [e, if_neg (by omega), if_neg (by omega)]
  rfl
theorem rg6_h {i : Int} (h : 0 ≤ i ∧ 60 ≤ i % 127 ∧ i % 127 < 120) : zrg 2106 i.toNat = (0, 99) := by
  have e : zrg 2106 i.toNat = zcl (if i.toNat % 127 = 120 then (0, 60) else if 60 ≤ i.toNat % 127 ∧ i.toNat % 127 < 120 then (0, 99) else zfull) := rfl
  rw [e, if_neg (by omega), if_pos (by omega)]
  rfl
theorem rg6_n {i : Int} (h : 0 ≤ i ∧ i % 127 = 120) : zrg 2106 i.toNat = (0, 60) := by
  have e : zrg 2106 i.toNat = zcl (if i.toNat % 127 = 120 then (0, 60) else if 60 ≤ i.toNat % 127 ∧ i.toNat % 127 < 120 then (0, 99) else zfull) := rfl
  rw [e, if_pos (by omega)]
  rfl
theorem rg6_o {i : Int} (h : 0 ≤ i ∧ (i % 127 < 60 ∨ 120 < i % 127)) : zrg 2106 i.toNat = (-2147483648, 2147483647) := by
  have e : zrg 2106 i.toNat = zcl (if i.toNat % 127 = 120 then (0, 60) else if 60 ≤ i.toNat % 127 ∧ i.toNat % 127 < 120 then (0, 99) else zfull) := rfl
  rw [e, if_neg (by omega), if_neg (by omega)]
  rfl
theorem rg5_sh {i : Int} (h : 0 ≤ i) : zrg 2105 (i + 127).toNat = zrg 2105 i.toNat := by
  have e : ∀ k : Nat, zrg 2105 k = zcl (if k % 127 = 120 then (0, 60) else if 60 ≤ k % 127 ∧ k % 127 < 120 then (0, 99) else zfull) := fun _ => rfl
  rw [e, e, show (i + 127).toNat = i.toNat + 127 by omega, Nat.add_mod_right]
theorem rg7_a {i : Int} (h : 0 ≤ i ∧ i < 60) : zrg 2107 i.toNat = (0, 4) := by
  have e : zrg 2107 i.toNat = zcl (if i.toNat < 60 then (0, 4) else if i.toNat < 120 then (0, 3) else zfull) := rfl
  rw [e, if_pos (by omega)]
  rfl
theorem rg7_b {i : Int} (h : 60 ≤ i ∧ i < 120) : zrg 2107 i.toNat = (0, 3) := by
  have e : zrg 2107 i.toNat = zcl (if i.toNat < 60 then (0, 4) else if i.toNat < 120 then (0, 3) else zfull) := rfl
  rw [e, if_neg (by omega), if_pos (by omega)]
  rfl
theorem rg7_c {i : Int} (h : 120 ≤ i) : zrg 2107 i.toNat = (-2147483648, 2147483647) := by
  have e : zrg 2107 i.toNat = zcl (if i.toNat < 60 then (0, 4) else if i.toNat < 120 then (0, 3) else zfull) := rfl
  rw [e, if_neg (by omega), if_neg (by omega)]
  rfl

