section ZKX
variable {p : Program} {l : Launch} {e : Env} {R : Room} {s : State} {m : MethodId} {args : Array Value} {below : List Frame} {meth : Method} {c : Code} {Γ : zΓ} {cc : ByteArray} {nL : Nat} {own : String} {cells slots : Nat} {Q : State → Prop} {pc : Nat} {ls : List (Option zV)} {st : List zV} {G : zH}
theorem zs_scharX (C : zCx p s m args c Γ cc nL own) {q v n t idx : Nat} {x : Int} {f : Nat → Int32} (hJ : jStr (zA Γ) q v n f s s.heap) (hx : 0 ≤ x ∧ x < n) (d : decode cc pc = .ok (.invokevirtual idx, 3)) (w : jWv own idx yJ0_charAt_5068e RJ0 cJ0_charAt_5068e 2 (some .char) 1) (hR : 4 ≤ R.frames ∧ 150 ≤ R.locals) (hc : cells ≤ R.cells ∧ slots ≤ R.slots) (hw : ((st.map zc).map fun v => v.category).sum ≤ 8)
    (kk : ∀ z : Int, z = (f x.toNat &&& 255).toInt → -2147483648 ≤ z → z ≤ 2147483647 → Z p l e R s m args below meth c Γ nL cells slots Q (pc + 3) ls (zi z :: st) G) : Z p l e R s m args below meth c Γ nL cells slots Q pc ls (zi x :: zr t q :: st) G := by
  intro hG hl hs H locs rl hP hS hL
  obtain ⟨i, rfl⟩ : ∃ i : Nat, x = i := ⟨x.toNat, by omega⟩
  obtain ⟨cell, h1, h2, h3, h4⟩ := hJ.1
  have hq : H[q]? = some cell := by rw [hS.2.1 q (Array.getElem?_eq_some_iff.mp h1).1 h4]; exact h1
  have hrun := va_runV (H := H) (e := e) (below := below) (meth := meth) (locs := locs) (cells := cells) (slots := slots) (As := [.int (nI i)]) (rest := st.map zc) (b := q) (C := RJ0) (g := F0 m pc rl ((zi i :: zr t q :: st).map zc)) (n := 1) ⟨C.1, C.2.1, C.2.2.1, C.2.2.2.1, C.2.2.2.2.1⟩ (j_charAt (l := l) (q := q) (v := v) (n := n) (i := i) (f := f) (by omega))
    ⟨callB_of 1 C.2.2.2.2.1 (zTb_good w.1.2.2.2.2) rfl rfl rfl (by rw [w.2.1]; exact C.2.2.2.2.1 _ w.1.2.2.2.1) (C.2.2.2.2.1 _ w.1.1) w.2.2 (by show 3 + 1 ≤ R.frames ∧ 8 + (2 + 11) + 40 * 3 ≤ R.locals; omega), C.2.2.2.2.1 _ w.1.2.1, C.2.2.2.2.1 _ w.1.2.2.1⟩
    ⟨fun a U g mk h => ⟨h.1, jStr_keep (U := U) (U1 := U.calling g mk a) h.2 (Vm.Alike.refl U.vm) (fun _ _ _ => rfl)⟩, ⟨cell, hq, h2, h3⟩, fun U hU hW => ⟨rfl, jStr_nar (jStr_keep hJ hW.alike (fun x y1 y2 => by rw [hU]; exact hS.2.1 x y1 y2)) (fun _ h => h.elim)⟩⟩
    rfl rfl hL.1 (by rw [List.map_cons, List.map_cons, show zc (zi (i : Int)) = .int (nI i) from congrArg Value.int zi_nI]; rfl) (lv_room hw) d ⟨by simpa using hc.1, by simpa using hc.2⟩
  refine j_back hrun hS (fun r H1 locs1 hr1 hk hS1 => ?_)
  subst hr1
  have e1 := Int32.le_toInt (f i &&& 255)
  have e2 := Int32.toInt_lt (f i &&& 255)
  have h9 := kk (f i &&& 255).toInt rfl (by omega) (by omega) hG hl (zs_cons (v := zi (f i &&& 255).toInt) ⟨by omega, by omega⟩ (zs_tl (zs_tl hs))) H1 locs1 rl (hP.kept (fun k x hx => hk x.1 (hP k x hx).lt)) hS1 hL
  rw [List.map_cons, show zc (zi (f i &&& 255).toInt) = .int (f i &&& 255) from congrArg Value.int (Int32.ofInt_toInt _)] at h9
  exact h9
end ZKX
/-- words learnt from a row of bytes: how many bytes, from which on, the word, its letters, the words -/
def lrn (g : Nat → Int) (n : Int) : Nat → Int → Int → Int → (Nat → Int) → (Nat → Int) × Int
  | 0, _, w, _, W => (W, w)
  | m + 1, k, w, c, W => if k < n ∧ w < 24 then (if g k.toNat = 32 then lrn g n m (k + 1) (w + 1) 0 W else lrn g n m (k + 1) w (c + 1) (fun j => if j = w.toNat then bor (W j) (pkc (g k.toNat) c) else W j)) else (W, w)
theorem lrn_e {g : Nat → Int} {n k w c : Int} {W : Nat → Int} (h : ¬ (k < n ∧ w < 24)) : ∀ m : Nat, lrn g n m k w c W = (W, w)
  | 0 => rfl
  | m + 1 => by rw [lrn, if_neg h]
theorem lrn_s {g : Nat → Int} {n k w c : Int} {W : Nat → Int} (h : k < n) (hw : w < 24) : lrn g n (n - k).toNat k w c W = if g k.toNat = 32 then lrn g n (n - (k + 1)).toNat (k + 1) (w + 1) 0 W else lrn g n (n - (k + 1)).toNat (k + 1) w (c + 1) (fun j => if j = w.toNat then bor (W j) (pkc (g k.toNat) c) else W j) := by
  rw [show (n - k).toNat = (n - (k + 1)).toNat + 1 by omega, lrn, if_pos ⟨h, hw⟩]

set_option maxHeartbeats 4000000 in
set_option maxRecDepth 100000 in
theorem c_X6_learnF {l : Launch} {Γ : zΓ} {G : zH} {w t a v n : Nat} {k : Int} {f : Nat → Int32} (hX : zXs Γ) (hk : 0 ≤ k) (hn7 : n ≤ 700) (hf : ∀ i : Nat, i < n → (f i &&& 255).toInt = 32 ∨ (97 ≤ (f i &&& 255).toInt ∧ (f i &&& 255).toInt ≤ 122)) : zMt l Γ (fun U => jStr (zA Γ) a v n f U U.heap) yX6_learn cX6_learn 7 (some .int) 4 [zr 7 w, zr t a, zi k] G (zpi (fun x G' => zsm [2044] G G' ∧ (0 ≤ x ∧ (G'.1 2044 (Γ.2.1 w 0), x) = lrn (fun i => (f i &&& 255).toInt) (n : Int) ((n : Int) - 0).toNat 0 k 0 (G.1 2044 (Γ.2.1 w 0))))) := by
  refine zMt_of RX6 hX (by decide) rfl (Nat.le_of_ble_eq_true rfl) ?_
  intro p e s m args below meth c C hr hlk hJ
  show Z p l e (zrm 4) s m args below meth c Γ 7 0 0 (MQ below (zQc Γ (zpi (fun x G' => zsm [2044] G G' ∧ (0 ≤ x ∧ (G'.1 2044 (Γ.2.1 w 0), x) = lrn (fun i => (f i &&& 255).toInt) (n : Int) ((n : Int) - 0).toNat 0 k 0 (G.1 2044 (Γ.2.1 w 0)))))) args s 0 0 (zA Γ)) 0 [some (zr 7 w), some (zr t a), some (zi k), none, none, none, none] [] G
  refine zs_loc 2 rfl (fun ha2 hb2 => ?_)
  have hn2 : n < 2147483648 := hJ.2.2.2.2.1
  refine zs_iload_n (pc := 0) C dX6_learn_0 rfl ?_
  refine zs_istore_n (pc := 1) C dX6_learn_1 (by decide) ?_
  dsimp only [zset, zclr, znone]
  refine zs_iconst (pc := 2) C dX6_learn_2 (by decide) ?_
  refine zs_istore (pc := 3) C dX6_learn_3 (by decide) ?_
  dsimp only [zset, zclr, znone]
  refine zs_iconst (pc := 5) C dX6_learn_5 (by decide) ?_
  refine zs_istore (pc := 6) C dX6_learn_6 (by decide) ?_
  dsimp only [zset, zclr, znone]
  have L8 : ∀ (nn : Nat) (x3 x4 x5 : Int) (G1 : zH), (0 ≤ x3) → (0 ≤ x5 ∧ x5 ≤ (n : Int) ∧ 0 ≤ x4 ∧ x4 ≤ x5) → (zsm [2044] G G1) → (lrn (fun i => (f i &&& 255).toInt) (n : Int) ((n : Int) - x5).toNat x5 x3 x4 (G1.1 2044 (Γ.2.1 w 0)) = lrn (fun i => (f i &&& 255).toInt) (n : Int) ((n : Int) - 0).toNat 0 k 0 (G.1 2044 (Γ.2.1 w 0))) → ((n : Int) - x5).toNat < nn → Z p l e (zrm 4) s m args below meth c Γ 7 0 0 (MQ below (zQc Γ (zpi (fun x G' => zsm [2044] G G' ∧ (0 ≤ x ∧ (G'.1 2044 (Γ.2.1 w 0), x) = lrn (fun i => (f i &&& 255).toInt) (n : Int) ((n : Int) - 0).toNat 0 k 0 (G.1 2044 (Γ.2.1 w 0)))))) args s 0 0 (zA Γ)) 8 [some (zr 7 w), some (zr t a), some (zi k), some (zi x3), some (zi x4), some (zi x5), none] [] G1 := by
    intro nn
    induction nn with
    | zero => intro x3 x4 x5 G1 h8_0 h8_1 h8_2 h8_3 hm; exact absurd hm (Nat.not_lt_zero _)
    | succ nn ih8 =>
      intro x3 x4 x5 G1 h8_0 h8_1 h8_2 h8_3 hm8
      refine zs_iload (pc := 8) C dX6_learn_8 rfl ?_
      refine zs_aload_n (pc := 10) C dX6_learn_10 rfl ?_
      refine zs_slen (pc := 11) C hJ dX6_learn_11 jw_length (by decide) ⟨Nat.zero_le _, Nat.zero_le _⟩ (Nat.le_of_ble_eq_true rfl) ?_
      refine zs_icmp_ge (tgt := 72) (pc := 14) C dX6_learn_14 (by decide) (fun h14 => ?_) (fun h14 => ?_)
      · skip
        refine zs_iload_n (pc := 72) C dX6_learn_72 rfl ?_
        exact zs_iret (pc := 73) C hr hlk dX6_learn_73 ⟨by repeat (first | exact zsm_rf | assumption | refine zsm_C (by decide) ?_ | refine zsm_I (by decide) ?_ | refine zsm_J ?_ | refine zsm_c (by assumption) (by decide) ?_), ⟨by omega, (by rw [← h8_3]; exact (lrn_e (by omega) _).symm)⟩⟩
      · skip
        refine zs_iload_n (pc := 17) C dX6_learn_17 rfl ?_
        refine zs_bipush (pc := 18) C dX6_learn_18 (by decide) (by decide) ?_
        refine zs_icmp_ge (tgt := 72) (pc := 20) C dX6_learn_20 (by decide) (fun h20 => ?_) (fun h20 => ?_)
        · skip
          refine zs_iload_n (pc := 72) C dX6_learn_72 rfl ?_
          exact zs_iret (pc := 73) C hr hlk dX6_learn_73 ⟨by repeat (first | exact zsm_rf | assumption | refine zsm_C (by decide) ?_ | refine zsm_I (by decide) ?_ | refine zsm_J ?_ | refine zsm_c (by assumption) (by decide) ?_), ⟨by omega, (by rw [← h8_3]; exact (lrn_e (by omega) _).symm)⟩⟩
        · skip
          refine zs_aload_n (pc := 23) C dX6_learn_23 rfl ?_
          refine zs_iload (pc := 24) C dX6_learn_24 rfl ?_
          refine zs_scharX (pc := 26) C hJ (by omega) dX6_learn_26 jw_charAt (by decide) ⟨Nat.zero_le _, Nat.zero_le _⟩ (Nat.le_of_ble_eq_true rfl) (fun z26 ez26 hz261 hz262 => ?_)
          refine zs_istore (pc := 29) C dX6_learn_29 (by decide) ?_
          dsimp only [zset, zclr, znone]
          refine zs_iload (pc := 31) C dX6_learn_31 rfl ?_
          refine zs_bipush (pc := 33) C dX6_learn_33 (by decide) (by decide) ?_
          have hf9 := hf x5.toNat (by omega)
          rw [← ez26] at hf9
          refine zs_icmp_ne (tgt := 47) (pc := 35) C dX6_learn_35 (by decide) (fun h35 => ?_) (fun h35 => ?_)
          · skip
            refine zs_aload_n (pc := 47) C dX6_learn_47 rfl ?_
            refine zs_getf (pc := 48) C dX6_learn_48 w_X6_11 f_7_0 (by decide) ?_
            refine zs_iload_n (pc := 51) C dX6_learn_51 rfl ?_
            refine zs_dup2 (pc := 52) C dX6_learn_52 ?_
            refine zs_iald (r := 2044) (pc := 53) C dX6_learn_53 a_44 (by decide) (by omega) rfl (r_2044 _) (fun v53 e53 l53 u53 => ?_)
            refine zs_iload (pc := 54) C dX6_learn_54 rfl ?_
            refine zs_iload (pc := 56) C dX6_learn_56 rfl ?_
            refine zSip2 (pc := 58) C dX6_learn_58 s_X6_42 (c_X6_packedF hX (by omega)) (by decide) ⟨Nat.zero_le _, Nat.zero_le _⟩ (Nat.le_of_ble_eq_true rfl) (fun x58 l58 u58 hp58 => ?_)
            have hq58 := hp58
            refine zs_iorX (pc := 61) C dX6_learn_61 (fun z61 ez61 hz611 hz612 => ?_)
            refine zs_iast (r := 2044) (pc := 62) C dX6_learn_62 a_44 (by decide) (by omega) rfl (r_2044 _) (by omega) ?_
            first | refine zs_iinc (pc := 63) C dX6_learn_63 rfl (by decide) (by omega) ?_ | refine zs_iincF (pc := 63) C dX6_learn_63 rfl (by decide) (fun z63 hz631 hz632 => ?_)
            dsimp only [zset, zclr, znone]
            first | refine zs_iinc (pc := 66) C dX6_learn_66 rfl (by decide) (by omega) ?_ | refine zs_iincF (pc := 66) C dX6_learn_66 rfl (by decide) (fun z66 hz661 hz662 => ?_)
            dsimp only [zset, zclr, znone]
            refine zs_goto (tgt := 8) (pc := 69) C dX6_learn_69 (by decide) ?_
            exact zs_wk (ih8 _ _ _ _ (by omega) (by omega) (by repeat (first | exact zsm_rf | assumption | refine zsm_C (by decide) ?_ | refine zsm_I (by decide) ?_ | refine zsm_J ?_ | refine zsm_c (by assumption) (by decide) ?_)) (by have q9 := h8_3; rw [lrn_s (k := x5) (w := x3) (by omega) (by omega)] at q9; (try dsimp only at q9); first | (rw [if_pos (ez26.symm.trans h35)] at q9; exact q9) | (rw [if_neg (fun q8 => h35 (ez26.trans q8))] at q9; rw [← q9]; congr 1; funext j; simp only [zuI_1, zuI_2, zuJ_1, zuJ_2, zuJ_3, zuP_1, zuP_2, zuP_3, zuC_1, zuC_2, reduceIte, Nat.reduceEqDiff, false_and, and_false, true_and, and_true, and_self, or_true, true_or, or_false, false_or]; by_cases q : j = x3.toNat; (rw [if_pos q, if_pos q, q, ez61, hq58, e53, ez26]); (rw [if_neg q, if_neg q]))) (by first | omega | (simp only [zuI_1, zuI_2, zuJ_1, zuJ_2, zuJ_3, zuP_1, zuP_2, zuP_3, zuC_1, zuC_2, reduceIte, Nat.reduceEqDiff, false_and, and_false, true_and, and_true, and_self, or_true, true_or, or_false, false_or]; omega))) (zwk_s rfl (zwk_s rfl (zwk_s rfl (zwk_s rfl (zwk_s rfl (zwk_s rfl (zwk_n zwk_0)))))))
          · skip
            first | refine zs_iinc (pc := 38) C dX6_learn_38 rfl (by decide) (by omega) ?_ | refine zs_iincF (pc := 38) C dX6_learn_38 rfl (by decide) (fun z38 hz381 hz382 => ?_)
            dsimp only [zset, zclr, znone]
            refine zs_iconst (pc := 41) C dX6_learn_41 (by decide) ?_
            refine zs_istore (pc := 42) C dX6_learn_42 (by decide) ?_
            dsimp only [zset, zclr, znone]
            refine zs_goto (tgt := 66) (pc := 44) C dX6_learn_44 (by decide) ?_
            first | refine zs_iinc (pc := 66) C dX6_learn_66 rfl (by decide) (by omega) ?_ | refine zs_iincF (pc := 66) C dX6_learn_66 rfl (by decide) (fun z66 hz661 hz662 => ?_)
            dsimp only [zset, zclr, znone]
            refine zs_goto (tgt := 8) (pc := 69) C dX6_learn_69 (by decide) ?_
            exact zs_wk (ih8 _ _ _ _ (by omega) (by omega) (by repeat (first | exact zsm_rf | assumption | refine zsm_C (by decide) ?_ | refine zsm_I (by decide) ?_ | refine zsm_J ?_ | refine zsm_c (by assumption) (by decide) ?_)) (by have q9 := h8_3; rw [lrn_s (k := x5) (w := x3) (by omega) (by omega)] at q9; (try dsimp only at q9); first | (rw [if_pos (ez26.symm.trans h35)] at q9; exact q9) | (rw [if_neg (fun q8 => h35 (ez26.trans q8))] at q9; rw [← q9]; congr 1; funext j; simp only [zuI_1, zuI_2, zuJ_1, zuJ_2, zuJ_3, zuP_1, zuP_2, zuP_3, zuC_1, zuC_2, reduceIte, Nat.reduceEqDiff, false_and, and_false, true_and, and_true, and_self, or_true, true_or, or_false, false_or]; by_cases q : j = x3.toNat; (rw [if_pos q, if_pos q, q, ez61, hq58, e53, ez26]); (rw [if_neg q, if_neg q]))) (by first | omega | (simp only [zuI_1, zuI_2, zuJ_1, zuJ_2, zuJ_3, zuP_1, zuP_2, zuP_3, zuC_1, zuC_2, reduceIte, Nat.reduceEqDiff, false_and, and_false, true_and, and_true, and_self, or_true, true_or, or_false, false_or]; omega))) (zwk_s rfl (zwk_s rfl (zwk_s rfl (zwk_s rfl (zwk_s rfl (zwk_s rfl (zwk_n zwk_0)))))))
  exact zs_wk (L8 _ _ _ _ _ (by omega) (by omega) zsm_rf rfl (Nat.lt_succ_self _)) (zwk_s rfl (zwk_s rfl (zwk_s rfl (zwk_s rfl (zwk_s rfl (zwk_s rfl (zwk_n zwk_0)))))))

def sB1 : List Int32 := [111, 114, 32, 97, 110, 100, 32, 110, 111, 116, 32, 119, 111, 114, 116, 104, 32, 116, 105, 109, 101, 115, 32, 119, 111, 114, 110, 32, 112, 114, 105, 100, 101, 32, 108, 105, 101, 32, 104, 111, 110, 101, 115, 116, 32, 100, 97, 121, 32]
def sB2 : List Int32 := [115, 105, 110, 32, 112, 101, 114, 115, 111, 110, 32, 100, 105, 100, 32, 99, 97, 107, 101, 32, 103, 114, 97, 105, 110, 32, 103, 114, 105, 115, 116, 32, 115, 116, 111, 110, 101, 32, 115, 101, 101, 100, 32, 108, 97, 119, 32, 109, 97, 121, 32, 103, 114, 105, 110, 100, 32, 119, 101, 97, 114, 32, 119, 97, 110, 116, 32, 112, 97, 105, 114, 32]
def gB1 : Nat → Int := fun i => (sB1.getD i 0 &&& 255).toInt
def gB2 : Nat → Int := fun i => (sB2.getD i 0 &&& 255).toInt
theorem sB1_f : ∀ i : Nat, i < 49 → (sB1.getD i 0 &&& 255).toInt = 32 ∨ (97 ≤ (sB1.getD i 0 &&& 255).toInt ∧ (sB1.getD i 0 &&& 255).toInt ≤ 122) := by decide +kernel
theorem sB2_f : ∀ i : Nat, i < 72 → (sB2.getD i 0 &&& 255).toInt = 32 ∨ (97 ≤ (sB2.getD i 0 &&& 255).toInt ∧ (sB2.getD i 0 &&& 255).toInt ≤ 122) := by decide +kernel
theorem lrn_2 : (lrn gB2 72 72 0 0 0 (fun _ => 0)).2 = 14 := by decide +kernel
theorem lrn_1 : ∀ q : Nat, q < 24 → (lrn gB1 49 49 0 14 0 (lrn gB2 72 72 0 0 0 (fun _ => 0)).1).1 q = wl.getD q 0 := by decide +kernel
