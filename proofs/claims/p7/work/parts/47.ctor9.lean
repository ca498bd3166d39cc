theorem zag_r {G : zH} {t q r a i : Nat} {fr : Nat → Nat} {iv : Nat → Int} (hr : r < 100 * t ∨ 100 * t + zN t ≤ r) : (zag G t q fr iv).1 r a i = G.1 r a i := by
  show (if _ then _ else _) = _
  rw [if_neg (fun h => by omega)]
theorem MI_mk {Γ : zΓ} {w : Nat} {G : zH} (h1 : ∀ k, G.1 2071 (Γ.2.1 w 34) k = 0) (h2 : ∀ i, G.1 2074 (Γ.2.1 w 37) i = 0) : MI Γ w G :=
  ⟨fun k _ h => by rw [h1] at h; exact absurd h (by decide), fun i _ => by rw [h2]; exact ⟨fun q => absurd q (by decide), fun q => absurd q (by decide), fun q => absurd q (by decide)⟩⟩
theorem zno_f {Γ : zΓ} {w : Nat} {G : zH} (hL : zLok Γ) (hw : Γ.1 w = 10) (k t' : Nat) (hf : zfk 10 k = (2, t')) (h0 : t' ≠ 0) (r i : Nat) : (zno Γ G).1 r (Γ.2.1 w k) i = G.1 r (Γ.2.1 w k) i :=
  zno_1 (by rw [hL.2.2 10 k w hw (by rw [hf]), hf]; exact h0) r i
theorem MI_no {Γ : zΓ} {w : Nat} {G : zH} (hL : zLok Γ) (hw : Γ.1 w = 10) (h : MI Γ w G) : MI Γ w (zno Γ G) := by
  refine ⟨fun k hk => ?_, fun i hi => ?_⟩
  · rw [zno_f hL hw 34 71 f_10_34 (by decide), zno_f hL hw 36 73 f_10_36 (by decide)]
    exact h.1 k hk
  · rw [zno_f hL hw 37 74 f_10_37 (by decide), zno_f hL hw 38 75 f_10_38 (by decide), zno_f hL hw 39 76 f_10_39 (by decide)]
    exact h.2 i hi
theorem RC_no {Γ : zΓ} {w : Nat} {G : zH} (hL : zLok Γ) (hw : Γ.1 w = 10) (h : RC Γ w G) : RC Γ w (zno Γ G) := by
  have hw0 : Γ.1 w ≠ 0 := by rw [hw]; decide
  refine ⟨?_, fun j h1 h2 => ?_⟩
  · rw [zno_1 hw0, zno_1 hw0]
    exact h.1
  · rw [zno_f hL hw 34 71 f_10_34 (by decide), zno_f hL hw 36 73 f_10_36 (by decide)]
    exact h.2 j h1 h2
theorem ol_X9 : Cond.methodLink RX9 1 Lib.objectInit ∈ zTb := (zTb_6 36 rfl rfl)
theorem fl_X9_7 : Cond.fieldLink RX9 7 (zCn 10) (zT 10 0).2.1 (zT 10 0).2.2.1 ∈ zTb := (zTb_6 52 rfl rfl)
theorem fl_X9_13 : Cond.fieldLink RX9 13 (zCn 10) (zT 10 3).2.1 (zT 10 3).2.2.1 ∈ zTb := (zTb_6 55 rfl rfl)
theorem fl_X9_16 : Cond.fieldLink RX9 16 (zCn 10) (zT 10 5).2.1 (zT 10 5).2.2.1 ∈ zTb := (zTb_6 57 rfl rfl)
theorem fl_X9_20 : Cond.fieldLink RX9 20 (zCn 10) (zT 10 22).2.1 (zT 10 22).2.2.1 ∈ zTb := (zTb_6 74 rfl rfl)
theorem ac_boolean : Cond.arrayClass .boolean ∈ zTb := (zTb_7 86 rfl rfl)
theorem fl_X9_23 : Cond.fieldLink RX9 23 (zCn 10) (zT 10 23).2.1 (zT 10 23).2.2.1 ∈ zTb := (zTb_6 75 rfl rfl)
theorem fl_X9_27 : Cond.fieldLink RX9 27 (zCn 10) (zT 10 24).2.1 (zT 10 24).2.2.1 ∈ zTb := (zTb_6 76 rfl rfl)
theorem fl_X9_30 : Cond.fieldLink RX9 30 (zCn 10) (zT 10 25).2.1 (zT 10 25).2.2.1 ∈ zTb := (zTb_6 77 rfl rfl)
theorem fl_X9_33 : Cond.fieldLink RX9 33 (zCn 10) (zT 10 26).2.1 (zT 10 26).2.2.1 ∈ zTb := (zTb_6 78 rfl rfl)
theorem fl_X9_36 : Cond.fieldLink RX9 36 (zCn 10) (zT 10 27).2.1 (zT 10 27).2.2.1 ∈ zTb := (zTb_6 79 rfl rfl)
theorem fl_X9_39 : Cond.fieldLink RX9 39 (zCn 10) (zT 10 28).2.1 (zT 10 28).2.2.1 ∈ zTb := (zTb_6 80 rfl rfl)
theorem fl_X9_42 : Cond.fieldLink RX9 42 (zCn 10) (zT 10 29).2.1 (zT 10 29).2.2.1 ∈ zTb := (zTb_6 81 rfl rfl)
theorem fl_X9_45 : Cond.fieldLink RX9 45 (zCn 10) (zT 10 30).2.1 (zT 10 30).2.2.1 ∈ zTb := (zTb_6 82 rfl rfl)
theorem fl_X9_48 : Cond.fieldLink RX9 48 (zCn 10) (zT 10 31).2.1 (zT 10 31).2.2.1 ∈ zTb := (zTb_6 83 rfl rfl)
theorem fl_X9_51 : Cond.fieldLink RX9 51 (zCn 10) (zT 10 32).2.1 (zT 10 32).2.2.1 ∈ zTb := (zTb_6 84 rfl rfl)
theorem fl_X9_54 : Cond.fieldLink RX9 54 (zCn 10) (zT 10 33).2.1 (zT 10 33).2.2.1 ∈ zTb := (zTb_6 85 rfl rfl)
theorem fl_X9_57 : Cond.fieldLink RX9 57 (zCn 10) (zT 10 34).2.1 (zT 10 34).2.2.1 ∈ zTb := (zTb_6 86 rfl rfl)
theorem fl_X9_60 : Cond.fieldLink RX9 60 (zCn 10) (zT 10 35).2.1 (zT 10 35).2.2.1 ∈ zTb := (zTb_6 87 rfl rfl)
theorem fl_X9_63 : Cond.fieldLink RX9 63 (zCn 10) (zT 10 36).2.1 (zT 10 36).2.2.1 ∈ zTb := (zTb_6 88 rfl rfl)
theorem fl_X9_66 : Cond.fieldLink RX9 66 (zCn 10) (zT 10 37).2.1 (zT 10 37).2.2.1 ∈ zTb := (zTb_6 89 rfl rfl)
theorem fl_X9_69 : Cond.fieldLink RX9 69 (zCn 10) (zT 10 38).2.1 (zT 10 38).2.2.1 ∈ zTb := (zTb_6 90 rfl rfl)
theorem fl_X9_72 : Cond.fieldLink RX9 72 (zCn 10) (zT 10 39).2.1 (zT 10 39).2.2.1 ∈ zTb := (zTb_6 91 rfl rfl)
theorem fl_X9_75 : Cond.fieldLink RX9 75 (zCn 10) (zT 10 40).2.1 (zT 10 40).2.2.1 ∈ zTb := (zTb_6 92 rfl rfl)
theorem fl_X9_78 : Cond.fieldLink RX9 78 (zCn 10) (zT 10 41).2.1 (zT 10 41).2.2.1 ∈ zTb := (zTb_6 93 rfl rfl)
theorem fl_X9_81 : Cond.fieldLink RX9 81 (zCn 10) (zT 10 48).2.1 (zT 10 48).2.2.1 ∈ zTb := (zTb_6 100 rfl rfl)
theorem fl_X9_85 : Cond.fieldLink RX9 85 (zCn 10) (zT 10 49).2.1 (zT 10 49).2.2.1 ∈ zTb := (zTb_6 101 rfl rfl)
theorem fl_X9_88 : Cond.fieldLink RX9 88 (zCn 10) (zT 10 51).2.1 (zT 10 51).2.2.1 ∈ zTb := (zTb_6 103 rfl rfl)
theorem fl_X9_91 : Cond.fieldLink RX9 91 (zCn 10) (zT 10 52).2.1 (zT 10 52).2.2.1 ∈ zTb := (zTb_6 104 rfl rfl)
theorem fl_X9_94 : Cond.fieldLink RX9 94 (zCn 10) (zT 10 53).2.1 (zT 10 53).2.2.1 ∈ zTb := (zTb_6 105 rfl rfl)
theorem fl_X9_97 : Cond.fieldLink RX9 97 (zCn 10) (zT 10 54).2.1 (zT 10 54).2.2.1 ∈ zTb := (zTb_6 106 rfl rfl)
theorem fl_X9_100 : Cond.fieldLink RX9 100 (zCn 10) (zT 10 55).2.1 (zT 10 55).2.2.1 ∈ zTb := (zTb_6 107 rfl rfl)
theorem fl_X9_103 : Cond.fieldLink RX9 103 (zCn 10) (zT 10 56).2.1 (zT 10 56).2.2.1 ∈ zTb := (zTb_6 108 rfl rfl)
theorem fl_X9_106 : Cond.fieldLink RX9 106 (zCn 10) (zT 10 57).2.1 (zT 10 57).2.2.1 ∈ zTb := (zTb_6 109 rfl rfl)
theorem fl_X9_109 : Cond.fieldLink RX9 109 (zCn 10) (zT 10 58).2.1 (zT 10 58).2.2.1 ∈ zTb := (zTb_6 110 rfl rfl)
theorem fl_X9_112 : Cond.fieldLink RX9 112 (zCn 10) (zT 10 59).2.1 (zT 10 59).2.2.1 ∈ zTb := (zTb_6 111 rfl rfl)
theorem fl_X9_115 : Cond.fieldLink RX9 115 (zCn 10) (zT 10 60).2.1 (zT 10 60).2.2.1 ∈ zTb := (zTb_6 112 rfl rfl)
theorem fl_X9_118 : Cond.fieldLink RX9 118 (zCn 10) (zT 10 62).2.1 (zT 10 62).2.2.1 ∈ zTb := (zTb_6 114 rfl rfl)
theorem fl_X9_121 : Cond.fieldLink RX9 121 (zCn 10) (zT 10 63).2.1 (zT 10 63).2.2.1 ∈ zTb := (zTb_6 115 rfl rfl)
theorem fl_X9_124 : Cond.fieldLink RX9 124 (zCn 10) (zT 10 64).2.1 (zT 10 64).2.2.1 ∈ zTb := (zTb_6 116 rfl rfl)
theorem fl_X9_127 : Cond.fieldLink RX9 127 (zCn 10) (zT 10 65).2.1 (zT 10 65).2.2.1 ∈ zTb := (zTb_6 117 rfl rfl)
theorem fl_X9_130 : Cond.fieldLink RX9 130 (zCn 10) (zT 10 66).2.1 (zT 10 66).2.2.1 ∈ zTb := (zTb_6 118 rfl rfl)
theorem fl_X9_133 : Cond.fieldLink RX9 133 (zCn 10) (zT 10 67).2.1 (zT 10 67).2.2.1 ∈ zTb := (zTb_6 119 rfl rfl)
theorem fl_X9_136 : Cond.fieldLink RX9 136 (zCn 10) (zT 10 68).2.1 (zT 10 68).2.2.1 ∈ zTb := (zTb_6 120 rfl rfl)
theorem fl_X9_139 : Cond.fieldLink RX9 139 (zCn 10) (zT 10 69).2.1 (zT 10 69).2.2.1 ∈ zTb := (zTb_6 121 rfl rfl)
theorem fl_X9_142 : Cond.fieldLink RX9 142 (zCn 10) (zT 10 70).2.1 (zT 10 70).2.2.1 ∈ zTb := (zTb_6 122 rfl rfl)
theorem fl_X9_145 : Cond.fieldLink RX9 145 (zCn 10) (zT 10 71).2.1 (zT 10 71).2.2.1 ∈ zTb := (zTb_6 123 rfl rfl)
theorem fl_X9_148 : Cond.fieldLink RX9 148 (zCn 10) (zT 10 74).2.1 (zT 10 74).2.2.1 ∈ zTb := (zTb_6 126 rfl rfl)
theorem fl_X9_151 : Cond.fieldLink RX9 151 (zCn 10) (zT 10 76).2.1 (zT 10 76).2.2.1 ∈ zTb := (zTb_6 128 rfl rfl)
theorem fl_X9_154 : Cond.fieldLink RX9 154 (zCn 10) (zT 10 77).2.1 (zT 10 77).2.2.1 ∈ zTb := (zTb_6 129 rfl rfl)
theorem fl_X9_157 : Cond.fieldLink RX9 157 (zCn 10) (zT 10 80).2.1 (zT 10 80).2.2.1 ∈ zTb := (zTb_6 132 rfl rfl)
theorem fl_X9_160 : Cond.fieldLink RX9 160 (zCn 10) (zT 10 81).2.1 (zT 10 81).2.2.1 ∈ zTb := (zTb_6 133 rfl rfl)
theorem fl_X9_163 : Cond.fieldLink RX9 163 (zCn 10) (zT 10 85).2.1 (zT 10 85).2.2.1 ∈ zTb := (zTb_6 137 rfl rfl)
theorem fl_X9_166 : Cond.fieldLink RX9 166 (zCn 10) (zT 10 89).2.1 (zT 10 89).2.2.1 ∈ zTb := (zTb_6 141 rfl rfl)
theorem fl_X9_169 : Cond.fieldLink RX9 169 (zCn 10) (zT 10 90).2.1 (zT 10 90).2.2.1 ∈ zTb := (zTb_6 142 rfl rfl)
