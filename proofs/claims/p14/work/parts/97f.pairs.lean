/-! the reference's: rows of partners as numbers -/
def arS (n : Nat) (f : Nat → Int) : Nat → Int
  | 0 => 0
  | k + 1 => if arS n f k = -1 then -1 else if f k = k ∨ (f k < n ∧ f (f k).toNat ≠ k) then -1 else arS n f k + (if f k = n then 1 else 0)
theorem arS_s {n : Nat} {f : Nat → Int} {k : Int} (h : 0 ≤ k) : arS n f (k + 1).toNat = if arS n f k.toNat = -1 then -1 else if f k.toNat = k ∨ (f k.toNat < n ∧ f (f k.toNat).toNat ≠ k) then -1 else arS n f k.toNat + (if f k.toNat = n then 1 else 0) := by
  have e : ((k.toNat : Nat) : Int) = k := by omega
  rw [show (k + 1).toNat = k.toNat + 1 by omega, arS, e]
theorem arS_no {n k : Nat} {f : Nat → Int} (h : arS n f k = -1) : ∀ t : Nat, arS n f (k + t) = -1
  | 0 => h
  | t + 1 => by
    rw [show k + (t + 1) = (k + t) + 1 by omega, arS, if_pos (arS_no h t)]
def smS (n : Nat) (v : Nat → Nat → Int) (f : Nat → Int) : Nat → Int
  | 0 => 0
  | k + 1 => smS n v f k + (if f k < n ∧ (k : Int) ≤ f k then v k (f k).toNat else 0)
theorem smS_s {n : Nat} {v : Nat → Nat → Int} {f : Nat → Int} {k : Int} (h : 0 ≤ k) : smS n v f (k + 1).toNat = smS n v f k.toNat + (if f k.toNat < n ∧ k ≤ f k.toNat then v k.toNat (f k.toNat).toNat else 0) := by
  have e : ((k.toNat : Nat) : Int) = k := by omega
  rw [show (k + 1).toNat = k.toNat + 1 by omega, smS, e]
theorem smS_0 {n : Nat} {v : Nat → Nat → Int} {f : Nat → Int} (hv : ∀ i j, v i j = 0) : ∀ k : Nat, smS n v f k = 0
  | 0 => rfl
  | k + 1 => by
    rw [smS, smS_0 hv k, hv]
    split <;> rfl
theorem prV_0 {A W : aS} (h : ¬ A 16 3 < A 17 3) (i j : Nat) : prV A W i j = 0 := if_pos (lV_no (fun z => h z.1))
def nxS (n : Nat) : Nat → (Nat → Int) → Int × (Nat → Int)
  | 0, f => (0, f)
  | k + 1, f => if f k + 1 ≤ n then (1, fun j => if j = k then f k + 1 else f j) else nxS n k (fun j => if j = k then 0 else f j)
def dgf (n k : Nat) : Nat → Int := fun j => if j < n then (((k / (n + 1) ^ (n - 1 - j)) % (n + 1) : Nat) : Int) else 0
theorem dgf_in {n k j : Nat} : 0 ≤ dgf n k j ∧ dgf n k j ≤ n := by
  unfold dgf
  split
  · have := Nat.mod_lt (k / (n + 1) ^ (n - 1 - j)) (show 0 < n + 1 by omega)
    omega
  · omega
def nxP (n : Nat) : Prop := ∀ k : Nat, k < (n + 1) ^ n → (nxS n n (dgf n k)).1 = (if k + 1 < (n + 1) ^ n then 1 else 0) ∧ (k + 1 < (n + 1) ^ n → ∀ j : Nat, j < n → (nxS n n (dgf n k)).2 j = dgf n (k + 1) j)
theorem nxP_1 : nxP 1 := by unfold nxP; decide +kernel
theorem nxP_2 : nxP 2 := by unfold nxP; decide +kernel
theorem nxP_3 : nxP 3 := by unfold nxP; decide +kernel
theorem nxP_4 : nxP 4 := by unfold nxP; decide +kernel
theorem nxP_5 : nxP 5 := by unfold nxP; decide +kernel
theorem nxP_n {n : Nat} (h : 1 ≤ n ∧ n ≤ 5) : nxP n := by
  rcases (show n = 1 ∨ n = 2 ∨ n = 3 ∨ n = 4 ∨ n = 5 by omega) with rfl | rfl | rfl | rfl | rfl
  · exact nxP_1
  · exact nxP_2
  · exact nxP_3
  · exact nxP_4
  · exact nxP_5
def rfo (n : Nat) (v : Nat → Nat → Int) : Nat → cpT
  | 0 => (0, 0, fun _ => 0)
  | k + 1 => if arS n (dgf n k) n = ((n % 2 : Nat) : Int) then ctk (smS n v (dgf n k) n) (dgf n k) (rfo n v k) else rfo n v k
theorem rfo_f {n : Nat} {v : Nat → Nat → Int} : ∀ K : Nat, rfo n v K = ((List.range K).filter (fun k => decide (arS n (dgf n k) n = ((n % 2 : Nat) : Int)))).foldl (fun x k => ctk (smS n v (dgf n k) n) (dgf n k) x) (0, 0, fun _ => 0)
  | 0 => rfl
  | K + 1 => by
    rw [rfo, List.range_succ, List.filter_append, List.foldl_append, ← rfo_f K]
    by_cases h : arS n (dgf n K) n = ((n % 2 : Nat) : Int)
    · rw [if_pos h, List.filter_cons_of_pos (by exact decide_eq_true h)]
      rfl
    · rw [if_neg h, List.filter_cons_of_neg (by exact fun z => h (of_decide_eq_true z))]
      rfl
/-- the reference's best -/
def rBs (Γ : zΓ) (w n : Nat) (x : cpT) (G : zH) : Prop := x.1 = 0 ∨ (G.2.1 1082 w 0 = x.2.1 ∧ ∀ j : Nat, j < n → G.1 2104 (Γ.2.1 w 81) j = x.2.2 j)
theorem ctk_01 {q : Int} {m : Nat → Int} {x : cpT} (h : x.1 = 0 ∨ x.1 = 1) : (ctk q m x).1 = 0 ∨ (ctk q m x).1 = 1 := by
  unfold ctk
  split
  · exact Or.inr rfl
  · exact h
theorem rfo_01 {n : Nat} {v : Nat → Nat → Int} : ∀ k : Nat, (rfo n v k).1 = 0 ∨ (rfo n v k).1 = 1
  | 0 => Or.inl rfl
  | k + 1 => by
    rw [rfo]
    split
    · exact ctk_01 (rfo_01 k)
    · exact rfo_01 k
/-- both alike: who is left is -1 here, n there -/
def prR (n : Nat) (x y : cpT) : Prop := x.1 = y.1 ∧ (x.1 = 0 ∨ (x.2.1 = y.2.1 ∧ ∀ j : Nat, j < n → x.2.2 j = if y.2.2 j = n then -1 else y.2.2 j))
theorem prR_0 {n : Nat} {x y : cpT} (hx : x.1 = 0) (hy : y.1 = 0) : prR n x y := ⟨by rw [hx, hy], Or.inl hx⟩
theorem prR_t {n : Nat} {x y : cpT} {s s' : Int} {m m' : Nat → Int} (h : prR n x y) (hs : s = s') (hm : ∀ j : Nat, j < n → m j = if m' j = n then -1 else m' j) : prR n (ctk s m x) (ctk s' m' y) := by
  subst hs
  obtain ⟨h1, h2⟩ := h
  unfold ctk
  rcases h2 with h2 | ⟨h2, h3⟩
  · rw [if_pos (Or.inl h2), if_pos (Or.inl (h1.symm.trans h2))]
    exact ⟨rfl, Or.inr ⟨rfl, hm⟩⟩
  · rw [h1, h2]
    by_cases q : y.1 = 0 ∨ y.2.1 < s
    · rw [if_pos q, if_pos q]
      exact ⟨rfl, Or.inr ⟨rfl, hm⟩⟩
    · rw [if_neg q, if_neg q]
      exact ⟨h1, Or.inr ⟨h2, h3⟩⟩

theorem prX_1 (v : Nat → Nat → Int) : prX 1 v = (ctk 0 (mL (fun _ => 0) 0) (0, 0, fun _ => 0)) := rfl
set_option maxRecDepth 100000 in
theorem rfl_1 : (List.range ((1 + 1) ^ 1)).filter (fun k => decide (arS 1 (dgf 1 k) 1 = ((1 % 2 : Nat) : Int))) = [1] := by decide +kernel
theorem prR_1 (v : Nat → Nat → Int) : prR 1 (prX 1 v) (rfo 1 v ((1 + 1) ^ 1)) ∧ (prX 1 v).1 = 1 := by
  refine ⟨?_, ?_⟩
  · rw [prX_1, rfo_f, rfl_1]
    simp only [List.foldl]
    refine prR_t ?_ ?_ ?_
    · exact prR_0 rfl rfl
    · have z : smS 1 v (dgf 1 1) 1 = (0 + 0) := rfl
      omega
    · decide +kernel
  · rw [prX_1]
    have h1 : ∀ (q : Int) (m : Nat → Int) (x : cpT), x.1 = 0 ∨ x.1 = 1 → (ctk q m x).1 = 1 := fun q m x h => by
      unfold ctk
      split
      · rfl
      · rename_i z
        rcases h with h | h
        · exact absurd (Or.inl h) z
        · exact h
    exact h1 _ _ _ (Or.inl rfl)
theorem prX_2 (v : Nat → Nat → Int) : prX 2 v = (ctk (0 + v 0 1) (mU (fun _ => 0) 0 1) (0, 0, fun _ => 0)) := rfl
set_option maxRecDepth 100000 in
theorem rfl_2 : (List.range ((2 + 1) ^ 2)).filter (fun k => decide (arS 2 (dgf 2 k) 2 = ((2 % 2 : Nat) : Int))) = [3] := by decide +kernel
theorem prR_2 (v : Nat → Nat → Int) : prR 2 (prX 2 v) (rfo 2 v ((2 + 1) ^ 2)) ∧ (prX 2 v).1 = 1 := by
  refine ⟨?_, ?_⟩
  · rw [prX_2, rfo_f, rfl_2]
    simp only [List.foldl]
    refine prR_t ?_ ?_ ?_
    · exact prR_0 rfl rfl
    · have z : smS 2 v (dgf 2 3) 2 = ((0 + v 0 1) + 0) := rfl
      omega
    · decide +kernel
  · rw [prX_2]
    have h1 : ∀ (q : Int) (m : Nat → Int) (x : cpT), x.1 = 0 ∨ x.1 = 1 → (ctk q m x).1 = 1 := fun q m x h => by
      unfold ctk
      split
      · rfl
      · rename_i z
        rcases h with h | h
        · exact absurd (Or.inl h) z
        · exact h
    exact h1 _ _ _ (Or.inl rfl)
theorem prX_3 (v : Nat → Nat → Int) : prX 3 v = (ctk (0 + v 1 2) (mU (mL (fun _ => 0) 0) 1 2) (ctk (0 + v 0 2) (mL (mU (fun _ => 0) 0 2) 1) (ctk (0 + v 0 1) (mL (mU (fun _ => 0) 0 1) 2) (0, 0, fun _ => 0)))) := rfl
set_option maxRecDepth 100000 in
theorem rfl_3 : (List.range ((3 + 1) ^ 3)).filter (fun k => decide (arS 3 (dgf 3 k) 3 = ((3 % 2 : Nat) : Int))) = [19, 44, 57] := by decide +kernel
theorem prR_3 (v : Nat → Nat → Int) : prR 3 (prX 3 v) (rfo 3 v ((3 + 1) ^ 3)) ∧ (prX 3 v).1 = 1 := by
  refine ⟨?_, ?_⟩
  · rw [prX_3, rfo_f, rfl_3]
    simp only [List.foldl]
    refine prR_t ?_ ?_ ?_
    refine prR_t ?_ ?_ ?_
    refine prR_t ?_ ?_ ?_
    · exact prR_0 rfl rfl
    · have z : smS 3 v (dgf 3 19) 3 = (((0 + v 0 1) + 0) + 0) := rfl
      omega
    · decide +kernel
    · have z : smS 3 v (dgf 3 44) 3 = (((0 + v 0 2) + 0) + 0) := rfl
      omega
    · decide +kernel
    · have z : smS 3 v (dgf 3 57) 3 = (((0 + 0) + v 1 2) + 0) := rfl
      omega
    · decide +kernel
  · rw [prX_3]
    have h1 : ∀ (q : Int) (m : Nat → Int) (x : cpT), x.1 = 0 ∨ x.1 = 1 → (ctk q m x).1 = 1 := fun q m x h => by
      unfold ctk
      split
      · rfl
      · rename_i z
        rcases h with h | h
        · exact absurd (Or.inl h) z
        · exact h
    refine h1 _ _ _ (Or.inr ?_)
    refine h1 _ _ _ (Or.inr ?_)
    exact h1 _ _ _ (Or.inl rfl)
theorem prX_4 (v : Nat → Nat → Int) : prX 4 v = (ctk ((0 + v 0 3) + v 1 2) (mU (mU (fun _ => 0) 0 3) 1 2) (ctk ((0 + v 0 2) + v 1 3) (mU (mU (fun _ => 0) 0 2) 1 3) (ctk ((0 + v 0 1) + v 2 3) (mU (mU (fun _ => 0) 0 1) 2 3) (0, 0, fun _ => 0)))) := rfl
set_option maxRecDepth 100000 in
theorem rfl_4 : (List.range ((4 + 1) ^ 4)).filter (fun k => decide (arS 4 (dgf 4 k) 4 = ((4 % 2 : Nat) : Int))) = [142, 326, 430] := by decide +kernel
theorem prR_4 (v : Nat → Nat → Int) : prR 4 (prX 4 v) (rfo 4 v ((4 + 1) ^ 4)) ∧ (prX 4 v).1 = 1 := by
  refine ⟨?_, ?_⟩
  · rw [prX_4, rfo_f, rfl_4]
    simp only [List.foldl]
    refine prR_t ?_ ?_ ?_
    refine prR_t ?_ ?_ ?_
    refine prR_t ?_ ?_ ?_
    · exact prR_0 rfl rfl
    · have z : smS 4 v (dgf 4 142) 4 = ((((0 + v 0 1) + 0) + v 2 3) + 0) := rfl
      omega
    · decide +kernel
    · have z : smS 4 v (dgf 4 326) 4 = ((((0 + v 0 2) + v 1 3) + 0) + 0) := rfl
      omega
    · decide +kernel
    · have z : smS 4 v (dgf 4 430) 4 = ((((0 + v 0 3) + v 1 2) + 0) + 0) := rfl
      omega
    · decide +kernel
  · rw [prX_4]
    have h1 : ∀ (q : Int) (m : Nat → Int) (x : cpT), x.1 = 0 ∨ x.1 = 1 → (ctk q m x).1 = 1 := fun q m x h => by
      unfold ctk
      split
      · rfl
      · rename_i z
        rcases h with h | h
        · exact absurd (Or.inl h) z
        · exact h
    refine h1 _ _ _ (Or.inr ?_)
    refine h1 _ _ _ (Or.inr ?_)
    exact h1 _ _ _ (Or.inl rfl)
theorem prX_5 (v : Nat → Nat → Int) : prX 5 v = (ctk ((0 + v 1 4) + v 2 3) (mU (mU (mL (fun _ => 0) 0) 1 4) 2 3) (ctk ((0 + v 1 3) + v 2 4) (mU (mU (mL (fun _ => 0) 0) 1 3) 2 4) (ctk ((0 + v 1 2) + v 3 4) (mU (mU (mL (fun _ => 0) 0) 1 2) 3 4) (ctk ((0 + v 0 4) + v 2 3) (mU (mL (mU (fun _ => 0) 0 4) 1) 2 3) (ctk ((0 + v 0 4) + v 1 3) (mL (mU (mU (fun _ => 0) 0 4) 1 3) 2) (ctk ((0 + v 0 4) + v 1 2) (mL (mU (mU (fun _ => 0) 0 4) 1 2) 3) (ctk ((0 + v 0 3) + v 2 4) (mU (mL (mU (fun _ => 0) 0 3) 1) 2 4) (ctk ((0 + v 0 3) + v 1 4) (mL (mU (mU (fun _ => 0) 0 3) 1 4) 2) (ctk ((0 + v 0 3) + v 1 2) (mL (mU (mU (fun _ => 0) 0 3) 1 2) 4) (ctk ((0 + v 0 2) + v 3 4) (mU (mL (mU (fun _ => 0) 0 2) 1) 3 4) (ctk ((0 + v 0 2) + v 1 4) (mL (mU (mU (fun _ => 0) 0 2) 1 4) 3) (ctk ((0 + v 0 2) + v 1 3) (mL (mU (mU (fun _ => 0) 0 2) 1 3) 4) (ctk ((0 + v 0 1) + v 3 4) (mU (mL (mU (fun _ => 0) 0 1) 2) 3 4) (ctk ((0 + v 0 1) + v 2 4) (mL (mU (mU (fun _ => 0) 0 1) 2 4) 3) (ctk ((0 + v 0 1) + v 2 3) (mL (mU (mU (fun _ => 0) 0 1) 2 3) 4) (0, 0, fun _ => 0)))))))))))))))) := rfl
set_option maxRecDepth 100000 in
theorem rfl_5 : (List.range ((5 + 1) ^ 5)).filter (fun k => decide (arS 5 (dgf 5 k) 5 = ((5 % 2 : Nat) : Int))) = [1421, 1472, 1503, 3251, 3487, 3699, 4361, 4933, 5114, 5682, 6018, 6384, 6975, 7280, 7465] := by decide +kernel
theorem prR_5 (v : Nat → Nat → Int) : prR 5 (prX 5 v) (rfo 5 v ((5 + 1) ^ 5)) ∧ (prX 5 v).1 = 1 := by
  refine ⟨?_, ?_⟩
  · rw [prX_5, rfo_f, rfl_5]
    simp only [List.foldl]
    refine prR_t ?_ ?_ ?_
    refine prR_t ?_ ?_ ?_
    refine prR_t ?_ ?_ ?_
    refine prR_t ?_ ?_ ?_
    refine prR_t ?_ ?_ ?_
    refine prR_t ?_ ?_ ?_
    refine prR_t ?_ ?_ ?_
    refine prR_t ?_ ?_ ?_
    refine prR_t ?_ ?_ ?_
    refine prR_t ?_ ?_ ?_
    refine prR_t ?_ ?_ ?_
    refine prR_t ?_ ?_ ?_
    refine prR_t ?_ ?_ ?_
    refine prR_t ?_ ?_ ?_
    refine prR_t ?_ ?_ ?_
    · exact prR_0 rfl rfl
    · have z : smS 5 v (dgf 5 1421) 5 = (((((0 + v 0 1) + 0) + v 2 3) + 0) + 0) := rfl
      omega
    · decide +kernel
    · have z : smS 5 v (dgf 5 1472) 5 = (((((0 + v 0 1) + 0) + v 2 4) + 0) + 0) := rfl
      omega
    · decide +kernel
    · have z : smS 5 v (dgf 5 1503) 5 = (((((0 + v 0 1) + 0) + 0) + v 3 4) + 0) := rfl
      omega
    · decide +kernel
    · have z : smS 5 v (dgf 5 3251) 5 = (((((0 + v 0 2) + v 1 3) + 0) + 0) + 0) := rfl
      omega
    · decide +kernel
    · have z : smS 5 v (dgf 5 3487) 5 = (((((0 + v 0 2) + v 1 4) + 0) + 0) + 0) := rfl
      omega
    · decide +kernel
    · have z : smS 5 v (dgf 5 3699) 5 = (((((0 + v 0 2) + 0) + 0) + v 3 4) + 0) := rfl
      omega
    · decide +kernel
    · have z : smS 5 v (dgf 5 4361) 5 = (((((0 + v 0 3) + v 1 2) + 0) + 0) + 0) := rfl
      omega
    · decide +kernel
    · have z : smS 5 v (dgf 5 4933) 5 = (((((0 + v 0 3) + v 1 4) + 0) + 0) + 0) := rfl
      omega
    · decide +kernel
    · have z : smS 5 v (dgf 5 5114) 5 = (((((0 + v 0 3) + 0) + v 2 4) + 0) + 0) := rfl
      omega
    · decide +kernel
    · have z : smS 5 v (dgf 5 5682) 5 = (((((0 + v 0 4) + v 1 2) + 0) + 0) + 0) := rfl
      omega
    · decide +kernel
    · have z : smS 5 v (dgf 5 6018) 5 = (((((0 + v 0 4) + v 1 3) + 0) + 0) + 0) := rfl
      omega
    · decide +kernel
    · have z : smS 5 v (dgf 5 6384) 5 = (((((0 + v 0 4) + 0) + v 2 3) + 0) + 0) := rfl
      omega
    · decide +kernel
    · have z : smS 5 v (dgf 5 6975) 5 = (((((0 + 0) + v 1 2) + 0) + v 3 4) + 0) := rfl
      omega
    · decide +kernel
    · have z : smS 5 v (dgf 5 7280) 5 = (((((0 + 0) + v 1 3) + v 2 4) + 0) + 0) := rfl
      omega
    · decide +kernel
    · have z : smS 5 v (dgf 5 7465) 5 = (((((0 + 0) + v 1 4) + v 2 3) + 0) + 0) := rfl
      omega
    · decide +kernel
  · rw [prX_5]
    have h1 : ∀ (q : Int) (m : Nat → Int) (x : cpT), x.1 = 0 ∨ x.1 = 1 → (ctk q m x).1 = 1 := fun q m x h => by
      unfold ctk
      split
      · rfl
      · rename_i z
        rcases h with h | h
        · exact absurd (Or.inl h) z
        · exact h
    refine h1 _ _ _ (Or.inr ?_)
    refine h1 _ _ _ (Or.inr ?_)
    refine h1 _ _ _ (Or.inr ?_)
    refine h1 _ _ _ (Or.inr ?_)
    refine h1 _ _ _ (Or.inr ?_)
    refine h1 _ _ _ (Or.inr ?_)
    refine h1 _ _ _ (Or.inr ?_)
    refine h1 _ _ _ (Or.inr ?_)
    refine h1 _ _ _ (Or.inr ?_)
    refine h1 _ _ _ (Or.inr ?_)
    refine h1 _ _ _ (Or.inr ?_)
    refine h1 _ _ _ (Or.inr ?_)
    refine h1 _ _ _ (Or.inr ?_)
    refine h1 _ _ _ (Or.inr ?_)
    exact h1 _ _ _ (Or.inl rfl)
theorem prR_n {n : Nat} (h : 1 ≤ n ∧ n ≤ 5) (v : Nat → Nat → Int) : prR n (prX n v) (rfo n v ((n + 1) ^ n)) ∧ (prX n v).1 = 1 := by
  rcases (show n = 1 ∨ n = 2 ∨ n = 3 ∨ n = 4 ∨ n = 5 by omega) with rfl | rfl | rfl | rfl | rfl
  · exact prR_1 v
  · exact prR_2 v
  · exact prR_3 v
  · exact prR_4 v
  · exact prR_5 v

set_option maxHeartbeats 4000000 in
set_option maxRecDepth 100000 in
theorem c_X9_areMatesP {l : Launch} {Γ : zΓ} {G : zH} {w : Nat} {n : Nat} {f : Nat → Int}  (hX : zXs Γ) (hn : G.1 1013 w 0 = (n : Int)) (hn5 : n ≤ 5) (hf : ∀ j : Nat, j < n → G.1 2103 (Γ.2.1 w 80) j = f j ∧ 0 ≤ f j)  : zMet l Γ yX9_areMates cX9_areMates 4 (some .boolean) 0 [zr 10 w] G (zpi (fun x G' => G' = G ∧ ((x = 0 ∨ x = 1) ∧ (x = 1 ↔ arS n f n = ((n % 2 : Nat) : Int))))) := by
  refine zMet_of RX9 hX (by decide) rfl (Nat.le_of_ble_eq_true rfl) ?_
  intro p e s m args below meth c C hr hlk
  show Z p l e (zrm 0) s m args below meth c Γ 4 0 0 (MQ below (zQc Γ (zpi (fun x G' => G' = G ∧ ((x = 0 ∨ x = 1) ∧ (x = 1 ↔ arS n f n = ((n % 2 : Nat) : Int)))))) args s 0 0 (zA Γ)) 0 [some (zr 10 w), none, none, none] [] G
  refine zs_iconst (pc := 0) C dX9_areMates_0 (by decide) ?_
  refine zs_istore_n (pc := 1) C dX9_areMates_1 (by decide) ?_
  dsimp only [zset, zclr, znone]
  refine zs_iconst (pc := 2) C dX9_areMates_2 (by decide) ?_
  refine zs_istore_n (pc := 3) C dX9_areMates_3 (by decide) ?_
  dsimp only [zset, zclr, znone]
  have L4 : ∀ (nn : Nat) (x1 x2 : Int), (0 ≤ x2 ∧ x2 ≤ (n : Int)) → (x1 = arS n f x2.toNat) → (0 ≤ x1 ∧ x1 ≤ x2) → (5 - x2).toNat < nn → Z p l e (zrm 0) s m args below meth c Γ 4 0 0 (MQ below (zQc Γ (zpi (fun x G' => G' = G ∧ ((x = 0 ∨ x = 1) ∧ (x = 1 ↔ arS n f n = ((n % 2 : Nat) : Int)))))) args s 0 0 (zA Γ)) 4 [some (zr 10 w), some (zi x1), some (zi x2), none] [] G := by
    intro nn
    induction nn with
    | zero => intro x1 x2 h4_0 h4_1 h4_2 hm; exact absurd hm (Nat.not_lt_zero _)
    | succ nn ih4 =>
      intro x1 x2 h4_0 h4_1 h4_2 hm4
      refine zs_iload_n (pc := 4) C dX9_areMates_4 rfl ?_
      refine zs_aload_n (pc := 5) C dX9_areMates_5 rfl ?_
      refine zs_geti (r := 1013) (pc := 6) C dX9_areMates_6 w_X9_261 f_10_13 rfl (r_1013 0) (fun v6 e6 l6 u6 => ?_)
      have y6 : v6 = n := e6.trans hn
      refine zs_icmp_ge (tgt := 68) (pc := 9) C dX9_areMates_9 (by decide) (fun h9 => ?_) (fun h9 => ?_)
      · skip
        have hx2 : x2.toNat = n := by omega
        have hx1 := h4_1
        rw [hx2] at hx1
        refine zs_iload_n (pc := 68) C dX9_areMates_68 rfl ?_
        refine zs_aload_n (pc := 69) C dX9_areMates_69 rfl ?_
        refine zs_geti (r := 1013) (pc := 70) C dX9_areMates_70 w_X9_261 f_10_13 rfl (r_1013 0) (fun v70 e70 l70 u70 => ?_)
        have y70 : v70 = n := e70.trans hn
        subst y70
        refine zs_iconst (pc := 73) C dX9_areMates_73 (by decide) ?_
        first | refine zs_irem (pc := 74) C dX9_areMates_74 (by omega) (by omega) (fun hz741 hz742 => ?_) | refine zs_iremF (pc := 74) C dX9_areMates_74 (by omega) (fun z74 hz741 hz742 => ?_)
        refine zs_icmp_ne (tgt := 82) (pc := 75) C dX9_areMates_75 (by decide) (fun h75 => ?_) (fun h75 => ?_)
        · skip
          refine zs_iconst (pc := 82) C dX9_areMates_82 (by decide) ?_
          exact zs_zret (pc := 83) C hr hlk dX9_areMates_83 (by omega) ⟨rfl, ⟨by omega, by constructor <;> intro z <;> omega⟩⟩
        · skip
          refine zs_iconst (pc := 78) C dX9_areMates_78 (by decide) ?_
          refine zs_goto (tgt := 83) (pc := 79) C dX9_areMates_79 (by decide) ?_
          exact zs_zret (pc := 83) C hr hlk dX9_areMates_83 (by omega) ⟨rfl, ⟨by omega, by constructor <;> intro z <;> omega⟩⟩
      · skip
        refine zs_aload_n (pc := 12) C dX9_areMates_12 rfl ?_
        refine zs_getf (pc := 13) C dX9_areMates_13 w_X9_157 f_10_80 (by decide) ?_
        refine zs_iload_n (pc := 16) C dX9_areMates_16 rfl ?_
        refine zs_iald (r := 2103) (pc := 17) C dX9_areMates_17 a_103 (by decide) (by omega) rfl (r_2103 _) (fun v17 e17 l17 u17 => ?_)
        have y17 : v17 = f x2.toNat := e17.trans (hf x2.toNat (by omega)).1
        have h0f := (hf x2.toNat (by omega)).2
        have hst := arS_s (n := n) (f := f) (k := x2) (by omega)
        rw [← h4_1, if_neg (by omega)] at hst
        refine zs_istore_n (pc := 18) C dX9_areMates_18 (by decide) ?_
        dsimp only [zset, zclr, znone]
        refine zs_iload_n (pc := 19) C dX9_areMates_19 rfl ?_
        refine zs_iload_n (pc := 20) C dX9_areMates_20 rfl ?_
        refine zs_icmp_ne (tgt := 26) (pc := 21) C dX9_areMates_21 (by decide) (fun h21 => ?_) (fun h21 => ?_)
        · skip
          refine zs_iload_n (pc := 26) C dX9_areMates_26 rfl ?_
          refine zs_aload_n (pc := 27) C dX9_areMates_27 rfl ?_
          refine zs_geti (r := 1013) (pc := 28) C dX9_areMates_28 w_X9_261 f_10_13 rfl (r_1013 0) (fun v28 e28 l28 u28 => ?_)
          have y28 : v28 = n := e28.trans hn
          refine zs_icmp_ge (tgt := 46) (pc := 31) C dX9_areMates_31 (by decide) (fun h31 => ?_) (fun h31 => ?_)
          · skip
            have hok : ¬ (f x2.toNat = x2 ∨ (f x2.toNat < n ∧ f (f x2.toNat).toNat ≠ x2)) := by omega
            refine zs_iload_n (pc := 46) C dX9_areMates_46 rfl ?_
            refine zs_iload_n (pc := 47) C dX9_areMates_47 rfl ?_
            refine zs_aload_n (pc := 48) C dX9_areMates_48 rfl ?_
            refine zs_geti (r := 1013) (pc := 49) C dX9_areMates_49 w_X9_261 f_10_13 rfl (r_1013 0) (fun v49 e49 l49 u49 => ?_)
            have y49 : v49 = n := e49.trans hn
            refine zs_icmp_ne (tgt := 59) (pc := 52) C dX9_areMates_52 (by decide) (fun h52 => ?_) (fun h52 => ?_)
            · skip
              have he : ¬ f x2.toNat = (n : Int) := by omega
              have hs9 : x1 + 0 = arS n f (x2 + 1).toNat := by rw [hst, if_neg hok, if_neg he]
              refine zs_iconst (pc := 59) C dX9_areMates_59 (by decide) ?_
              first | refine zs_iadd (pc := 60) C dX9_areMates_60 (by omega) ?_ | refine zs_iaddF (pc := 60) C dX9_areMates_60 (fun z60 hz601 hz602 => ?_)
              refine zs_istore_n (pc := 61) C dX9_areMates_61 (by decide) ?_
              dsimp only [zset, zclr, znone]
              first | refine zs_iinc (pc := 62) C dX9_areMates_62 rfl (by decide) (by omega) ?_ | refine zs_iincF (pc := 62) C dX9_areMates_62 rfl (by decide) (fun z62 hz621 hz622 => ?_)
              dsimp only [zset, zclr, znone]
              refine zs_goto (tgt := 4) (pc := 65) C dX9_areMates_65 (by decide) ?_
              exact zs_wk (ih4 _ _ (by omega) hs9 (by omega) (by first | omega | (simp only [zuI_1, zuI_2, zuJ_1, zuJ_2, zuJ_3, zuP_1, zuP_2, zuP_3, zuC_1, zuC_2, reduceIte, Nat.reduceEqDiff, false_and, and_false, true_and, and_true, and_self, or_true, true_or, or_false, false_or]; omega))) (zwk_s rfl (zwk_s rfl (zwk_s rfl (zwk_n zwk_0))))
            · skip
              have he : f x2.toNat = (n : Int) := by omega
              have hs9 : x1 + 1 = arS n f (x2 + 1).toNat := by rw [hst, if_neg hok, if_pos he]
              refine zs_iconst (pc := 55) C dX9_areMates_55 (by decide) ?_
              refine zs_goto (tgt := 60) (pc := 56) C dX9_areMates_56 (by decide) ?_
              first | refine zs_iadd (pc := 60) C dX9_areMates_60 (by omega) ?_ | refine zs_iaddF (pc := 60) C dX9_areMates_60 (fun z60 hz601 hz602 => ?_)
              refine zs_istore_n (pc := 61) C dX9_areMates_61 (by decide) ?_
              dsimp only [zset, zclr, znone]
              first | refine zs_iinc (pc := 62) C dX9_areMates_62 rfl (by decide) (by omega) ?_ | refine zs_iincF (pc := 62) C dX9_areMates_62 rfl (by decide) (fun z62 hz621 hz622 => ?_)
              dsimp only [zset, zclr, znone]
              refine zs_goto (tgt := 4) (pc := 65) C dX9_areMates_65 (by decide) ?_
              exact zs_wk (ih4 _ _ (by omega) hs9 (by omega) (by first | omega | (simp only [zuI_1, zuI_2, zuJ_1, zuJ_2, zuJ_3, zuP_1, zuP_2, zuP_3, zuC_1, zuC_2, reduceIte, Nat.reduceEqDiff, false_and, and_false, true_and, and_true, and_self, or_true, true_or, or_false, false_or]; omega))) (zwk_s rfl (zwk_s rfl (zwk_s rfl (zwk_n zwk_0))))
          · skip
            refine zs_aload_n (pc := 34) C dX9_areMates_34 rfl ?_
            refine zs_getf (pc := 35) C dX9_areMates_35 w_X9_157 f_10_80 (by decide) ?_
            refine zs_iload_n (pc := 38) C dX9_areMates_38 rfl ?_
            refine zs_iald (r := 2103) (pc := 39) C dX9_areMates_39 a_103 (by decide) (by omega) rfl (r_2103 _) (fun v39 e39 l39 u39 => ?_)
            have y39 : v39 = f v17.toNat := e39.trans (hf v17.toNat (by omega)).1
            rw [y17] at y39
            refine zs_iload_n (pc := 40) C dX9_areMates_40 rfl ?_
            refine zs_icmp_eq (tgt := 46) (pc := 41) C dX9_areMates_41 (by decide) (fun h41 => ?_) (fun h41 => ?_)
            · skip
              have hok : ¬ (f x2.toNat = x2 ∨ (f x2.toNat < n ∧ f (f x2.toNat).toNat ≠ x2)) := by omega
              refine zs_iload_n (pc := 46) C dX9_areMates_46 rfl ?_
              refine zs_iload_n (pc := 47) C dX9_areMates_47 rfl ?_
              refine zs_aload_n (pc := 48) C dX9_areMates_48 rfl ?_
              refine zs_geti (r := 1013) (pc := 49) C dX9_areMates_49 w_X9_261 f_10_13 rfl (r_1013 0) (fun v49 e49 l49 u49 => ?_)
              have y49 : v49 = n := e49.trans hn
              refine zs_icmp_ne (tgt := 59) (pc := 52) C dX9_areMates_52 (by decide) (fun h52 => ?_) (fun h52 => ?_)
              · skip
                have he : ¬ f x2.toNat = (n : Int) := by omega
                have hs9 : x1 + 0 = arS n f (x2 + 1).toNat := by rw [hst, if_neg hok, if_neg he]
                refine zs_iconst (pc := 59) C dX9_areMates_59 (by decide) ?_
                first | refine zs_iadd (pc := 60) C dX9_areMates_60 (by omega) ?_ | refine zs_iaddF (pc := 60) C dX9_areMates_60 (fun z60 hz601 hz602 => ?_)
                refine zs_istore_n (pc := 61) C dX9_areMates_61 (by decide) ?_
                dsimp only [zset, zclr, znone]
                first | refine zs_iinc (pc := 62) C dX9_areMates_62 rfl (by decide) (by omega) ?_ | refine zs_iincF (pc := 62) C dX9_areMates_62 rfl (by decide) (fun z62 hz621 hz622 => ?_)
                dsimp only [zset, zclr, znone]
                refine zs_goto (tgt := 4) (pc := 65) C dX9_areMates_65 (by decide) ?_
                exact zs_wk (ih4 _ _ (by omega) hs9 (by omega) (by first | omega | (simp only [zuI_1, zuI_2, zuJ_1, zuJ_2, zuJ_3, zuP_1, zuP_2, zuP_3, zuC_1, zuC_2, reduceIte, Nat.reduceEqDiff, false_and, and_false, true_and, and_true, and_self, or_true, true_or, or_false, false_or]; omega))) (zwk_s rfl (zwk_s rfl (zwk_s rfl (zwk_n zwk_0))))
              · skip
                have he : f x2.toNat = (n : Int) := by omega
                have hs9 : x1 + 1 = arS n f (x2 + 1).toNat := by rw [hst, if_neg hok, if_pos he]
                refine zs_iconst (pc := 55) C dX9_areMates_55 (by decide) ?_
                refine zs_goto (tgt := 60) (pc := 56) C dX9_areMates_56 (by decide) ?_
                first | refine zs_iadd (pc := 60) C dX9_areMates_60 (by omega) ?_ | refine zs_iaddF (pc := 60) C dX9_areMates_60 (fun z60 hz601 hz602 => ?_)
                refine zs_istore_n (pc := 61) C dX9_areMates_61 (by decide) ?_
                dsimp only [zset, zclr, znone]
                first | refine zs_iinc (pc := 62) C dX9_areMates_62 rfl (by decide) (by omega) ?_ | refine zs_iincF (pc := 62) C dX9_areMates_62 rfl (by decide) (fun z62 hz621 hz622 => ?_)
                dsimp only [zset, zclr, znone]
                refine zs_goto (tgt := 4) (pc := 65) C dX9_areMates_65 (by decide) ?_
                exact zs_wk (ih4 _ _ (by omega) hs9 (by omega) (by first | omega | (simp only [zuI_1, zuI_2, zuJ_1, zuJ_2, zuJ_3, zuP_1, zuP_2, zuP_3, zuC_1, zuC_2, reduceIte, Nat.reduceEqDiff, false_and, and_false, true_and, and_true, and_self, or_true, true_or, or_false, false_or]; omega))) (zwk_s rfl (zwk_s rfl (zwk_s rfl (zwk_n zwk_0))))
            · skip
              have hz9 : f x2.toNat < n ∧ f (f x2.toNat).toNat ≠ x2 := ⟨by omega, by omega⟩
              have hno : arS n f (x2 + 1).toNat = -1 := by rw [hst, if_pos (Or.inr hz9)]
              have hn9 := arS_no hno (n - (x2 + 1).toNat)
              rw [show (x2 + 1).toNat + (n - (x2 + 1).toNat) = n by omega] at hn9
              refine zs_iconst (pc := 44) C dX9_areMates_44 (by decide) ?_
              exact zs_zret (pc := 45) C hr hlk dX9_areMates_45 (by omega) ⟨rfl, ⟨Or.inl rfl, ⟨fun z => absurd z (by decide), fun z => by rw [hn9] at z; omega⟩⟩⟩
        · skip
          have hz9 : f x2.toNat = x2 := by omega
          have hno : arS n f (x2 + 1).toNat = -1 := by rw [hst, if_pos (Or.inl hz9)]
          have hn9 := arS_no hno (n - (x2 + 1).toNat)
          rw [show (x2 + 1).toNat + (n - (x2 + 1).toNat) = n by omega] at hn9
          refine zs_iconst (pc := 24) C dX9_areMates_24 (by decide) ?_
          exact zs_zret (pc := 25) C hr hlk dX9_areMates_25 (by omega) ⟨rfl, ⟨Or.inl rfl, ⟨fun z => absurd z (by decide), fun z => by rw [hn9] at z; omega⟩⟩⟩
  exact zs_wk (L4 _ _ _ (by omega) rfl (by omega) (Nat.lt_succ_self _)) (zwk_s rfl (zwk_s rfl (zwk_s rfl (zwk_n zwk_0))))

set_option maxHeartbeats 4000000 in
set_option maxRecDepth 100000 in
theorem c_X9_nextMatesP {l : Launch} {Γ : zΓ} {G : zH} {w : Nat} {n : Nat} {f : Nat → Int}  (hX : zXs Γ) (hn : G.1 1013 w 0 = (n : Int)) (hn5 : n ≤ 5) (hf : ∀ j : Nat, j < n → G.1 2103 (Γ.2.1 w 80) j = f j ∧ 0 ≤ f j ∧ f j ≤ n)  : zMet l Γ yX9_nextMates cX9_nextMates 2 (some .boolean) 0 [zr 10 w] G (zpi (fun x G' => zsm [2103] G G' ∧ (x = (nxS n n f).1 ∧ (∀ j : Nat, j < n → G'.1 2103 (Γ.2.1 w 80) j = (nxS n n f).2 j) ∧ zsj [] G G'))) := by
  refine zMet_of RX9 hX (by decide) rfl (Nat.le_of_ble_eq_true rfl) ?_
  intro p e s m args below meth c C hr hlk
  show Z p l e (zrm 0) s m args below meth c Γ 2 0 0 (MQ below (zQc Γ (zpi (fun x G' => zsm [2103] G G' ∧ (x = (nxS n n f).1 ∧ (∀ j : Nat, j < n → G'.1 2103 (Γ.2.1 w 80) j = (nxS n n f).2 j) ∧ zsj [] G G')))) args s 0 0 (zA Γ)) 0 [some (zr 10 w), none] [] G
  refine zs_aload_n (pc := 0) C dX9_nextMates_0 rfl ?_
  refine zs_geti (r := 1013) (pc := 1) C dX9_nextMates_1 w_X9_261 f_10_13 rfl (r_1013 0) (fun v1 e1 l1 u1 => ?_)
  have y1 : v1 = n := e1.trans hn
  subst y1
  refine zs_iconst (pc := 4) C dX9_nextMates_4 (by decide) ?_
  first | refine zs_isub (pc := 5) C dX9_nextMates_5 (by omega) ?_ | refine zs_isubF (pc := 5) C dX9_nextMates_5 (fun z5 hz51 hz52 => ?_)
  refine zs_istore_n (pc := 6) C dX9_nextMates_6 (by decide) ?_
  dsimp only [zset, zclr, znone]
  have L7 : ∀ (nn : Nat) (x1 : Int) (g : Nat → Int) (G1 : zH), (-1 ≤ x1 ∧ x1 < (n : Int)) → (zsm [2103] G G1) → (nxS n (x1 + 1).toNat g = nxS n n f) → (∀ j : Nat, j < n → G1.1 2103 (Γ.2.1 w 80) j = g j ∧ 0 ≤ g j ∧ g j ≤ n) → (zsj [] G G1) → (x1 + 1).toNat < nn → Z p l e (zrm 0) s m args below meth c Γ 2 0 0 (MQ below (zQc Γ (zpi (fun x G' => zsm [2103] G G' ∧ (x = (nxS n n f).1 ∧ (∀ j : Nat, j < n → G'.1 2103 (Γ.2.1 w 80) j = (nxS n n f).2 j) ∧ zsj [] G G')))) args s 0 0 (zA Γ)) 7 [some (zr 10 w), some (zi x1)] [] G1 := by
    intro nn
    induction nn with
    | zero => intro x1 g G1 h7_0 h7_1 h7_2 h7_3 h7_4 hm; exact absurd hm (Nat.not_lt_zero _)
    | succ nn ih7 =>
      intro x1 g G1 h7_0 h7_1 h7_2 h7_3 h7_4 hm7
      refine zs_iload_n (pc := 7) C dX9_nextMates_7 rfl ?_
      refine zs_if_lt (tgt := 49) (pc := 8) C dX9_nextMates_8 (by decide) (fun h8 => ?_) (fun h8 => ?_)
      · skip
        refine zs_iconst (pc := 49) C dX9_nextMates_49 (by decide) ?_
        exact zs_zret (pc := 50) C hr hlk dX9_nextMates_50 (by omega) ⟨(by repeat (first | exact zsm_rf | assumption | refine zsm_C (by decide) ?_ | refine zsm_I (by decide) ?_ | refine zsm_J ?_ | refine zsm_c (by assumption) (by decide) ?_)), ⟨by have e : x1 = -1 := (by omega); rw [← h7_2, e]; rfl, fun j hj => by have e : x1 = -1 := (by omega); rw [← h7_2, e]; exact (h7_3 j hj).1, h7_4⟩⟩
      · skip
        refine zs_aload_n (pc := 11) C dX9_nextMates_11 rfl ?_
        refine zs_getf (pc := 12) C dX9_nextMates_12 w_X9_157 f_10_80 (by decide) ?_
        refine zs_iload_n (pc := 15) C dX9_nextMates_15 rfl ?_
        refine zs_dup2 (pc := 16) C dX9_nextMates_16 ?_
        refine zs_iald (r := 2103) (pc := 17) C dX9_nextMates_17 a_103 (by decide) (by omega) rfl (r_2103 _) (fun v17 e17 l17 u17 => ?_)
        have y17 : v17 = g x1.toNat := e17.trans (h7_3 x1.toNat (by omega)).1
        have hg1 := (h7_3 x1.toNat (by omega)).2
        have hgs : nxS n (x1 + 1).toNat g = if g x1.toNat + 1 ≤ n then (1, fun j => if j = x1.toNat then g x1.toNat + 1 else g j) else nxS n x1.toNat (fun j => if j = x1.toNat then 0 else g j) := by rw [show (x1 + 1).toNat = x1.toNat + 1 by omega, nxS]
        rw [h7_2] at hgs
        refine zs_iconst (pc := 18) C dX9_nextMates_18 (by decide) ?_
        first | refine zs_iadd (pc := 19) C dX9_nextMates_19 (by omega) ?_ | refine zs_iaddF (pc := 19) C dX9_nextMates_19 (fun z19 hz191 hz192 => ?_)
        refine zs_iast (r := 2103) (pc := 20) C dX9_nextMates_20 a_103 (by decide) (by omega) rfl (r_2103 _) (by omega) ?_
        refine zs_aload_n (pc := 21) C dX9_nextMates_21 rfl ?_
        refine zs_getf (pc := 22) C dX9_nextMates_22 w_X9_157 f_10_80 (by decide) ?_
        refine zs_iload_n (pc := 25) C dX9_nextMates_25 rfl ?_
        refine zs_iald (r := 2103) (pc := 26) C dX9_nextMates_26 a_103 (by decide) (by omega) rfl (r_2103 _) (fun v26 e26 l26 u26 => ?_)
        try simp only [zuI_1, zuI_2, zuJ_1, zuJ_2, zuJ_3, zuP_1, zuP_2, zuP_3, zuC_1, zuC_2, reduceIte, Nat.reduceEqDiff, false_and, and_false, true_and, and_true, and_self, or_true, true_or, or_false, false_or] at e26
        have y26 : v26 = g x1.toNat + 1 := by rw [e26, y17]
        refine zs_aload_n (pc := 27) C dX9_nextMates_27 rfl ?_
        refine zs_geti (r := 1013) (pc := 28) C dX9_nextMates_28 w_X9_261 f_10_13 rfl (r_1013 0) (fun v28 e28 l28 u28 => ?_)
        try simp only [zuI_1, zuI_2, zuJ_1, zuJ_2, zuJ_3, zuP_1, zuP_2, zuP_3, zuC_1, zuC_2, reduceIte, Nat.reduceEqDiff, false_and, and_false, true_and, and_true, and_self, or_true, true_or, or_false, false_or] at e28
        have y28 : v28 = n := e28.trans (by rw [h7_1.1 1013 (by decide)]; exact hn)
        refine zs_icmp_gt (tgt := 36) (pc := 31) C dX9_nextMates_31 (by decide) (fun h31 => ?_) (fun h31 => ?_)
        · skip
          rw [if_neg (by omega)] at hgs
          refine zs_aload_n (pc := 36) C dX9_nextMates_36 rfl ?_
          refine zs_getf (pc := 37) C dX9_nextMates_37 w_X9_157 f_10_80 (by decide) ?_
          refine zs_iload_n (pc := 40) C dX9_nextMates_40 rfl ?_
          refine zs_iconst (pc := 41) C dX9_nextMates_41 (by decide) ?_
          refine zs_iast (r := 2103) (pc := 42) C dX9_nextMates_42 a_103 (by decide) (by omega) rfl (r_2103 _) (by omega) ?_
          have st2 : nxS n (x1 - 1 + 1).toNat (fun j => if j = x1.toNat then 0 else g j) = nxS n n f := by rw [show (x1 - 1 + 1).toNat = x1.toNat by omega]; exact hgs.symm
          first | refine zs_iinc (pc := 43) C dX9_nextMates_43 rfl (by decide) (by omega) ?_ | refine zs_iincF (pc := 43) C dX9_nextMates_43 rfl (by decide) (fun z43 hz431 hz432 => ?_)
          dsimp only [zset, zclr, znone]
          refine zs_goto (tgt := 7) (pc := 46) C dX9_nextMates_46 (by decide) ?_
          exact zs_wk (ih7 _ _ _ (by omega) (by repeat (first | exact zsm_rf | assumption | refine zsm_C (by decide) ?_ | refine zsm_I (by decide) ?_ | refine zsm_J ?_ | refine zsm_c (by assumption) (by decide) ?_)) st2 (fun j hj => by simp only [zuI_1, zuI_2, zuJ_1, zuJ_2, zuJ_3, zuP_1, zuP_2, zuP_3, zuC_1, zuC_2, reduceIte, Nat.reduceEqDiff, false_and, and_false, true_and, and_true, and_self, or_true, true_or, or_false, false_or]; by_cases y : j = x1.toNat; (rw [if_pos y]; refine ⟨?_, by omega, by omega⟩; first | (rw [if_pos y]; done) | (simp only [y, if_true, and_self])); (rw [if_neg y]; refine ⟨?_, (h7_3 j hj).2⟩; first | (rw [if_neg y, if_neg y]; exact (h7_3 j hj).1) | (rw [if_neg y]; exact (h7_3 j hj).1) | exact (h7_3 j hj).1)) (by repeat (first | exact zsj_rf | assumption | refine zsj_I ?_ | refine zsj_J (by decide) ?_ | refine zsj_e (by assumption) ?_ | refine zsj_c (by assumption) (by decide) ?_)) (by first | omega | (simp only [zuI_1, zuI_2, zuJ_1, zuJ_2, zuJ_3, zuP_1, zuP_2, zuP_3, zuC_1, zuC_2, reduceIte, Nat.reduceEqDiff, false_and, and_false, true_and, and_true, and_self, or_true, true_or, or_false, false_or]; omega))) (zwk_s rfl (zwk_s rfl zwk_0))
        · skip
          rw [if_pos (by omega)] at hgs
          refine zs_iconst (pc := 34) C dX9_nextMates_34 (by decide) ?_
          exact zs_zret (pc := 35) C hr hlk dX9_nextMates_35 (by omega) ⟨(by repeat (first | exact zsm_rf | assumption | refine zsm_C (by decide) ?_ | refine zsm_I (by decide) ?_ | refine zsm_J ?_ | refine zsm_c (by assumption) (by decide) ?_)), ⟨by rw [hgs], fun j hj => by rw [hgs]; simp only [zuI_1, zuI_2, zuJ_1, zuJ_2, zuJ_3, zuP_1, zuP_2, zuP_3, zuC_1, zuC_2, reduceIte, Nat.reduceEqDiff, false_and, and_false, true_and, and_true, and_self, or_true, true_or, or_false, false_or]; by_cases y : j = x1.toNat; (rw [if_pos y]; first | (rw [if_pos y, y17]; done) | (simp only [y, if_true, and_self]; omega)); (rw [if_neg y]; first | (rw [if_neg y]; exact (h7_3 j hj).1) | exact (h7_3 j hj).1), (by repeat (first | exact zsj_rf | assumption | refine zsj_I ?_ | refine zsj_J (by decide) ?_ | refine zsj_e (by assumption) ?_ | refine zsj_c (by assumption) (by decide) ?_))⟩⟩
  exact zs_wk (L7 _ _ _ _ (by omega) zsm_rf (by rw [show ((n : Int) - 1 + 1).toNat = n by omega]) hf zsj_rf (Nat.lt_succ_self _)) (zwk_s rfl (zwk_s rfl zwk_0))

set_option maxHeartbeats 4000000 in
set_option maxRecDepth 100000 in
theorem c_X9_sumOfMatesP {l : Launch} {Γ : zΓ} {G : zH} {w : Nat} {n : Nat} {f : Nat → Int} {A W : aS}  (hX : zXs Γ) (hR : rW Γ w 0 W G) (hK : kR Γ w A G) (hW : WI A W) (hT : TA A) (hnA : A 4 1 = (n : Int)) (hf : ∀ j : Nat, j < n → G.1 2103 (Γ.2.1 w 80) j = f j ∧ 0 ≤ f j)  : zMet l Γ yX9_sumOfMates cX9_sumOfMates 4 (some .long) 3 [zr 10 w] G (zpj (fun x G' => zsm [1050] G G' ∧ (x = smS n (prV A W) f n ∧ zsj [2079, 2080] G G'))) := by
  refine zMet_of RX9 hX (by decide) rfl (Nat.le_of_ble_eq_true rfl) ?_
  intro p e s m args below meth c C hr hlk
  show Z p l e (zrm 3) s m args below meth c Γ 4 0 0 (MQ below (zQc Γ (zpj (fun x G' => zsm [1050] G G' ∧ (x = smS n (prV A W) f n ∧ zsj [2079, 2080] G G')))) args s 0 0 (zA Γ)) 0 [some (zr 10 w), none, none, none] [] G
  have hT0 := hT.1
  have hn := hK.1.2.1
  have hL3 := kR_L hK (k := 3) (by decide)
  refine zs_lconst (n := 0) (pc := 0) C dX9_sumOfMates_0 rfl (by decide) ?_
  refine zs_lstore_n (pc := 1) C dX9_sumOfMates_1 (by decide) ?_
  dsimp only [zset, zclr, znone]
  refine zs_iconst (pc := 2) C dX9_sumOfMates_2 (by decide) ?_
  refine zs_istore_n (pc := 3) C dX9_sumOfMates_3 (by decide) ?_
  dsimp only [zset, zclr, znone]
  have L4 : ∀ (nn : Nat) (x1 x3 : Int) (G1 : zH), (0 ≤ x3 ∧ x3 ≤ A 4 1) → (x1 = smS n (prV A W) f x3.toNat) → (-1000000000000 * x3 ≤ x1 ∧ x1 ≤ 1000000000000 * x3) → (zsm [1050] G G1) → (zsj [2079, 2080] G G1) → (5 - x3).toNat < nn → Z p l e (zrm 3) s m args below meth c Γ 4 0 0 (MQ below (zQc Γ (zpj (fun x G' => zsm [1050] G G' ∧ (x = smS n (prV A W) f n ∧ zsj [2079, 2080] G G')))) args s 0 0 (zA Γ)) 4 [some (zr 10 w), some (zj x1), none, some (zi x3)] [] G1 := by
    intro nn
    induction nn with
    | zero => intro x1 x3 G1 h4_0 h4_1 h4_2 h4_3 h4_4 hm; exact absurd hm (Nat.not_lt_zero _)
    | succ nn ih4 =>
      intro x1 x3 G1 h4_0 h4_1 h4_2 h4_3 h4_4 hm4
      refine zs_iload_n (pc := 4) C dX9_sumOfMates_4 rfl ?_
      refine zs_aload_n (pc := 5) C dX9_sumOfMates_5 rfl ?_
      refine zs_geti (r := 1013) (pc := 6) C dX9_sumOfMates_6 w_X9_261 f_10_13 rfl (r_1013 0) (fun v6 e6 l6 u6 => ?_)
      have y6 : v6 = A 4 1 := e6.trans (by rw [h4_3.1 1013 (by decide)]; exact hn)
      refine zs_icmp_ge (tgt := 72) (pc := 9) C dX9_sumOfMates_9 (by decide) (fun h9 => ?_) (fun h9 => ?_)
      · skip
        refine zs_lload_n (pc := 72) C dX9_sumOfMates_72 rfl ?_
        exact zs_lret (pc := 73) C hr hlk dX9_sumOfMates_73 ⟨(by repeat (first | exact zsm_rf | assumption | refine zsm_C (by decide) ?_ | refine zsm_I (by decide) ?_ | refine zsm_J ?_ | refine zsm_c (by assumption) (by decide) ?_)), ⟨(by first | (have e : x3.toNat = n := (by omega); rw [← e]; exact h4_1) | (rw [h4_1, smS_0 (prV_0 hnl), smS_0 (prV_0 hnl)])), (by repeat (first | exact zsj_rf | assumption | refine zsj_I ?_ | refine zsj_J (by decide) ?_ | refine zsj_e (by assumption) ?_ | refine zsj_c (by assumption) (by decide) ?_))⟩⟩
      · skip
        refine zs_aload_n (pc := 12) C dX9_sumOfMates_12 rfl ?_
        refine zs_getf (pc := 13) C dX9_sumOfMates_13 w_X9_57 f_10_34 (by decide) ?_
        refine zs_iconst (pc := 16) C dX9_sumOfMates_16 (by decide) ?_
        refine zs_zald (r := 2071) (pc := 17) C dX9_sumOfMates_17 a_71 (by decide) (by omega) rfl (r_2071 _) (fun v17 e17 l17 u17 => ?_)
        have y17 : v17 = G.1 2071 (Γ.2.1 w 34) (3 : Int).toNat := e17.trans (by rw [h4_3.1 2071 (by decide)])
        refine zs_if_eq (tgt := 72) (pc := 18) C dX9_sumOfMates_18 (by decide) (fun h18 => ?_) (fun h18 => ?_)
        · skip
          have hnl : ¬ A 16 3 < A 17 3 := fun z => by have := (hL3.1 z).1; omega
          refine zs_lload_n (pc := 72) C dX9_sumOfMates_72 rfl ?_
          exact zs_lret (pc := 73) C hr hlk dX9_sumOfMates_73 ⟨(by repeat (first | exact zsm_rf | assumption | refine zsm_C (by decide) ?_ | refine zsm_I (by decide) ?_ | refine zsm_J ?_ | refine zsm_c (by assumption) (by decide) ?_)), ⟨(by first | (have e : x3.toNat = n := (by omega); rw [← e]; exact h4_1) | (rw [h4_1, smS_0 (prV_0 hnl), smS_0 (prV_0 hnl)])), (by repeat (first | exact zsj_rf | assumption | refine zsj_I ?_ | refine zsj_J (by decide) ?_ | refine zsj_e (by assumption) ?_ | refine zsj_c (by assumption) (by decide) ?_))⟩⟩
        · skip
          have hnl : A 16 (3 : Int).toNat < A 17 (3 : Int).toNat := Decidable.byContradiction (fun z => by have := hL3.2 z; omega)
          have hst := smS_s (n := n) (v := (prV A W)) (f := f) (k := x3) (by omega)
          have hfx := hf x3.toNat (by omega)
          refine zs_aload_n (pc := 21) C dX9_sumOfMates_21 rfl ?_
          refine zs_getf (pc := 22) C dX9_sumOfMates_22 w_X9_157 f_10_80 (by decide) ?_
          refine zs_iload_n (pc := 25) C dX9_sumOfMates_25 rfl ?_
          refine zs_iald (r := 2103) (pc := 26) C dX9_sumOfMates_26 a_103 (by decide) (by omega) rfl (r_2103 _) (fun v26 e26 l26 u26 => ?_)
          have y26 : v26 = f x3.toNat := e26.trans (by rw [h4_3.1 2103 (by decide)]; exact hfx.1)
          refine zs_aload_n (pc := 27) C dX9_sumOfMates_27 rfl ?_
          refine zs_geti (r := 1013) (pc := 28) C dX9_sumOfMates_28 w_X9_261 f_10_13 rfl (r_1013 0) (fun v28 e28 l28 u28 => ?_)
          have y28 : v28 = A 4 1 := e28.trans (by rw [h4_3.1 1013 (by decide)]; exact hn)
          refine zs_icmp_ge (tgt := 66) (pc := 31) C dX9_sumOfMates_31 (by decide) (fun h31 => ?_) (fun h31 => ?_)
          · skip
            have st1 : x1 = smS n (prV A W) f (x3 + 1).toNat := by rw [hst, if_neg (by omega)]; omega
            have stB : -1000000000000 * (x3 + 1) ≤ x1 ∧ x1 ≤ 1000000000000 * (x3 + 1) := by omega
            first | refine zs_iinc (pc := 66) C dX9_sumOfMates_66 rfl (by decide) (by omega) ?_ | refine zs_iincF (pc := 66) C dX9_sumOfMates_66 rfl (by decide) (fun z66 hz661 hz662 => ?_)
            dsimp only [zset, zclr, znone]
            refine zs_goto (tgt := 4) (pc := 69) C dX9_sumOfMates_69 (by decide) ?_
            exact zs_wk (ih4 _ _ _ (by omega) st1 stB (by repeat (first | exact zsm_rf | assumption | refine zsm_C (by decide) ?_ | refine zsm_I (by decide) ?_ | refine zsm_J ?_ | refine zsm_c (by assumption) (by decide) ?_)) (by repeat (first | exact zsj_rf | assumption | refine zsj_I ?_ | refine zsj_J (by decide) ?_ | refine zsj_e (by assumption) ?_ | refine zsj_c (by assumption) (by decide) ?_)) (by first | omega | (simp only [zuI_1, zuI_2, zuJ_1, zuJ_2, zuJ_3, zuP_1, zuP_2, zuP_3, zuC_1, zuC_2, reduceIte, Nat.reduceEqDiff, false_and, and_false, true_and, and_true, and_self, or_true, true_or, or_false, false_or]; omega))) (zwk_s rfl (zwk_s rfl (zwk_n (zwk_s rfl zwk_0))))
          · skip
            refine zs_aload_n (pc := 34) C dX9_sumOfMates_34 rfl ?_
            refine zs_getf (pc := 35) C dX9_sumOfMates_35 w_X9_157 f_10_80 (by decide) ?_
            refine zs_iload_n (pc := 38) C dX9_sumOfMates_38 rfl ?_
            refine zs_iald (r := 2103) (pc := 39) C dX9_sumOfMates_39 a_103 (by decide) (by omega) rfl (r_2103 _) (fun v39 e39 l39 u39 => ?_)
            have y39 : v39 = f x3.toNat := e39.trans (by rw [h4_3.1 2103 (by decide)]; exact hfx.1)
            refine zs_iload_n (pc := 40) C dX9_sumOfMates_40 rfl ?_
            refine zs_icmp_ge (tgt := 47) (pc := 41) C dX9_sumOfMates_41 (by decide) (fun h41 => ?_) (fun h41 => ?_)
            · skip
              refine zs_aload_n (pc := 47) C dX9_sumOfMates_47 rfl ?_
              refine zs_iload_n (pc := 48) C dX9_sumOfMates_48 rfl ?_
              refine zs_aload_n (pc := 49) C dX9_sumOfMates_49 rfl ?_
              refine zs_getf (pc := 50) C dX9_sumOfMates_50 w_X9_157 f_10_80 (by decide) ?_
              refine zs_iload_n (pc := 53) C dX9_sumOfMates_53 rfl ?_
              refine zs_iald (r := 2103) (pc := 54) C dX9_sumOfMates_54 a_103 (by decide) (by omega) rfl (r_2103 _) (fun v54 e54 l54 u54 => ?_)
              have y54 : v54 = f x3.toNat := e54.trans (by rw [h4_3.1 2103 (by decide)]; exact hfx.1)
              subst y54
              refine zVv2 (pc := 55) C dX9_sumOfMates_55 v_X9_435 (c_X9_layPairW (A := A) (W := W) hX (by omega) (by omega) (rW_sm h4_3 (by decide) hR) (kR_sm h4_3 (by decide) hK) hW hT (by omega)) (by decide) (by decide) ⟨Nat.zero_le _, Nat.zero_le _⟩ (Nat.le_of_ble_eq_true rfl) (fun G55 hp55 => ?_)
              obtain ⟨hz55, hq55⟩ := hp55
              have hj55 := hq55.2
              refine zs_lload_n (pc := 58) C dX9_sumOfMates_58 rfl ?_
              refine zs_aload_n (pc := 59) C dX9_sumOfMates_59 rfl ?_
              refine zs_iconst (pc := 60) C dX9_sumOfMates_60 (by decide) ?_
              refine zVj1 (pc := 61) C dX9_sumOfMates_61 v_X9_418 (c_X9_lawOfW (A := A) (nm := wNp A W x3 (f x3.toNat)) hX (kR_sm hz55 (by decide) (kR_sm h4_3 (by decide) hK)) hT.2.2.2.2.2.2 (by decide) hnl hq55.1 (wNp_in hT hW (by omega) (by omega) ⟨by omega, by omega⟩)) (by decide) (by decide) ⟨Nat.zero_le _, Nat.zero_le _⟩ (Nat.le_of_ble_eq_true rfl) (fun x61 G61 l61 u61 hp61 => ?_)
              obtain ⟨hz61, hq61⟩ := hp61
              have hj61 := hq61.2.2
              have hx61 : x61 = (prV A W) x3.toNat (f x3.toNat).toNat := by unfold prV wPair; rw [show ((x3.toNat : Nat) : Int) = x3 by omega, show (((f x3.toNat).toNat : Nat) : Int) = f x3.toNat by omega]; exact hq61.2.1
              have hv9 := prV_in hT x3.toNat (f x3.toNat).toNat (W := W)
              rw [← hx61] at hv9
              have st1 : x1 + x61 = smS n (prV A W) f (x3 + 1).toNat := by rw [hst, if_pos (by omega), hx61]; omega
              have stB : -1000000000000 * (x3 + 1) ≤ x1 + x61 ∧ x1 + x61 ≤ 1000000000000 * (x3 + 1) := by omega
              refine zs_laddE (pc := 64) C dX9_sumOfMates_64 (by omega) ?_
              refine zs_lstore_n (pc := 65) C dX9_sumOfMates_65 (by decide) ?_
              dsimp only [zset, zclr, znone]
              first | refine zs_iinc (pc := 66) C dX9_sumOfMates_66 rfl (by decide) (by omega) ?_ | refine zs_iincF (pc := 66) C dX9_sumOfMates_66 rfl (by decide) (fun z66 hz661 hz662 => ?_)
              dsimp only [zset, zclr, znone]
              refine zs_goto (tgt := 4) (pc := 69) C dX9_sumOfMates_69 (by decide) ?_
              exact zs_wk (ih4 _ _ _ (by omega) st1 stB (by repeat (first | exact zsm_rf | assumption | refine zsm_C (by decide) ?_ | refine zsm_I (by decide) ?_ | refine zsm_J ?_ | refine zsm_c (by assumption) (by decide) ?_)) (by repeat (first | exact zsj_rf | assumption | refine zsj_I ?_ | refine zsj_J (by decide) ?_ | refine zsj_e (by assumption) ?_ | refine zsj_c (by assumption) (by decide) ?_)) (by first | omega | (simp only [zuI_1, zuI_2, zuJ_1, zuJ_2, zuJ_3, zuP_1, zuP_2, zuP_3, zuC_1, zuC_2, reduceIte, Nat.reduceEqDiff, false_and, and_false, true_and, and_true, and_self, or_true, true_or, or_false, false_or]; omega))) (zwk_s rfl (zwk_s rfl (zwk_n (zwk_s rfl zwk_0))))
            · skip
              have st1 : x1 = smS n (prV A W) f (x3 + 1).toNat := by rw [hst, if_neg (by omega)]; omega
              have stB : -1000000000000 * (x3 + 1) ≤ x1 ∧ x1 ≤ 1000000000000 * (x3 + 1) := by omega
              refine zs_goto (tgt := 66) (pc := 44) C dX9_sumOfMates_44 (by decide) ?_
              first | refine zs_iinc (pc := 66) C dX9_sumOfMates_66 rfl (by decide) (by omega) ?_ | refine zs_iincF (pc := 66) C dX9_sumOfMates_66 rfl (by decide) (fun z66 hz661 hz662 => ?_)
              dsimp only [zset, zclr, znone]
              refine zs_goto (tgt := 4) (pc := 69) C dX9_sumOfMates_69 (by decide) ?_
              exact zs_wk (ih4 _ _ _ (by omega) st1 stB (by repeat (first | exact zsm_rf | assumption | refine zsm_C (by decide) ?_ | refine zsm_I (by decide) ?_ | refine zsm_J ?_ | refine zsm_c (by assumption) (by decide) ?_)) (by repeat (first | exact zsj_rf | assumption | refine zsj_I ?_ | refine zsj_J (by decide) ?_ | refine zsj_e (by assumption) ?_ | refine zsj_c (by assumption) (by decide) ?_)) (by first | omega | (simp only [zuI_1, zuI_2, zuJ_1, zuJ_2, zuJ_3, zuP_1, zuP_2, zuP_3, zuC_1, zuC_2, reduceIte, Nat.reduceEqDiff, false_and, and_false, true_and, and_true, and_self, or_true, true_or, or_false, false_or]; omega))) (zwk_s rfl (zwk_s rfl (zwk_n (zwk_s rfl zwk_0))))
  exact zs_wk (L4 _ _ _ _ (by omega) rfl (by omega) zsm_rf zsj_rf (Nat.lt_succ_self _)) (zwk_s rfl (zwk_s rfl (zwk_n (zwk_s rfl zwk_0))))
