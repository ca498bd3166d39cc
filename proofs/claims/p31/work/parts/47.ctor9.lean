theorem zag_r {G : zH} {t q r a i : Nat} {fr : Nat → Nat} {iv : Nat → Int} (hr : r < 100 * t ∨ 100 * t + zN t ≤ r) : (zag G t q fr iv).1 r a i = G.1 r a i := by
  show (if _ then _ else _) = _
  rw [if_neg (fun h => by omega)]
theorem MI_mk {Γ : zΓ} {w : Nat} {G : zH} (h1 : ∀ k, G.1 2071 (Γ.2.1 w 34) k = 0) (h2 : ∀ i, G.1 2074 (Γ.2.1 w 37) i = 0) : MI Γ w G :=
  ⟨fun k _ h => by rw [h1] at h; exact absurd h (by decide), fun i _ => by rw [h2]; exact ⟨fun q => absurd q (by decide), fun q => absurd q (by decide), fun q => absurd q (by decide)⟩⟩
theorem zno_f {Γ : zΓ} {w : Nat} {G : zH} (hL : zLok Γ) (hw : Γ.1 w = 10) (k t' : Nat) (hf : zfk 10 k = (2, t')) (h0 : t' ≠ 0) (r i : Nat) : (zno Γ G).1 r (Γ.2.1 w k) i = G.1 r (Γ.2.1 w k) i :=
  zno_1 (by rw [hL.2.2 10 k w hw (by rw [hf]), hf]; exact h0) r i
theorem MI_no {Γ : zΓ} {w : Nat} {G : zH} (hL : zLok Γ) (hw : Γ.1 w = 10) (h : MI Γ w G) : MI Γ w (zno Γ G) := by
  refine ⟨fun k hk => ?_, fun i hi => ?_⟩
  · rw [zno_f hL hw 34 71 f_10_34 (by decide), zno_f hL hw 36 73 f_10_36 (by decide)]
    exact h.1 k hk
  · rw [zno_f hL hw 37 74 f_10_37 (by decide), zno_f hL hw 38 75 f_10_38 (by decide), zno_f hL hw 39 76 f_10_39 (by decide)]
    exact h.2 i hi
theorem RC_no {Γ : zΓ} {w : Nat} {G : zH} (hL : zLok Γ) (hw : Γ.1 w = 10) (h : RC Γ w G) : RC Γ w (zno Γ G) := by
  have hw0 : Γ.1 w ≠ 0 := by rw [hw]; decide
  refine ⟨?_, fun j h1 h2 => ?_⟩
  · rw [zno_1 hw0, zno_1 hw0]
    exact h.1
  · rw [zno_f hL hw 34 71 f_10_34 (by decide), zno_f hL hw 36 73 f_10_36 (by decide)]
    exact h.2 j h1 h2
theorem ol_X9 : Cond.methodLink RX9 1 Lib.objectInit ∈ zTb := (zTb_6 36 rfl rfl)
theorem fl_X9_7 : Cond.fieldLink RX9 7 (zCn 10) (zT 10 0).2.1 (zT 10 0).2.2.1 ∈ zTb := (zTb_6 52 rfl rfl)
theorem fl_X9_13 : Cond.fieldLink RX9 13 (zCn 10) (zT 10 3).2.1 (zT 10 3).2.2.1 ∈ zTb := (zTb_6 55 rfl rfl)
theorem fl_X9_16 : Cond.fieldLink RX9 16 (zCn 10) (zT 10 5).2.1 (zT 10 5).2.2.1 ∈ zTb := (zTb_6 57 rfl rfl)
theorem fl_X9_20 : Cond.fieldLink RX9 20 (zCn 10) (zT 10 22).2.1 (zT 10 22).2.2.1 ∈ zTb := (zTb_6 74 rfl rfl)
theorem ac_boolean : Cond.arrayClass .boolean ∈ zTb := (zTb_7 86 rfl rfl)
theorem fl_X9_23 : Cond.fieldLink RX9 23 (zCn 10) (zT 10 23).2.1 (zT 10 23).2.2.1 ∈ zTb := (zTb_6 75 rfl rfl)
theorem fl_X9_27 : Cond.fieldLink RX9 27 (zCn 10) (zT 10 24).2.1 (zT 10 24).2.2.1 ∈ zTb := (zTb_6 76 rfl rfl)
theorem fl_X9_30 : Cond.fieldLink RX9 30 (zCn 10) (zT 10 25).2.1 (zT 10 25).2.2.1 ∈ zTb := (zTb_6 77 rfl rfl)
theorem fl_X9_33 : Cond.fieldLink RX9 33 (zCn 10) (zT 10 26).2.1 (zT 10 26).2.2.1 ∈ zTb := (zTb_6 78 rfl rfl)
theorem fl_X9_36 : Cond.fieldLink RX9 36 (zCn 10) (zT 10 27).2.1 (zT 10 27).2.2.1 ∈ zTb := (zTb_6 79 rfl rfl)
theorem fl_X9_39 : Cond.fieldLink RX9 39 (zCn 10) (zT 10 28).2.1 (zT 10 28).2.2.1 ∈ zTb := (zTb_6 80 rfl rfl)
theorem fl_X9_42 : Cond.fieldLink RX9 42 (zCn 10) (zT 10 29).2.1 (zT 10 29).2.2.1 ∈ zTb := (zTb_6 81 rfl rfl)
theorem fl_X9_45 : Cond.fieldLink RX9 45 (zCn 10) (zT 10 30).2.1 (zT 10 30).2.2.1 ∈ zTb := (zTb_6 82 rfl rfl)
theorem fl_X9_48 : Cond.fieldLink RX9 48 (zCn 10) (zT 10 31).2.1 (zT 10 31).2.2.1 ∈ zTb := (zTb_6 83 rfl rfl)
theorem fl_X9_51 : Cond.fieldLink RX9 51 (zCn 10) (zT 10 32).2.1 (zT 10 32).2.2.1 ∈ zTb := (zTb_6 84 rfl rfl)
theorem fl_X9_54 : Cond.fieldLink RX9 54 (zCn 10) (zT 10 33).2.1 (zT 10 33).2.2.1 ∈ zTb := (zTb_6 85 rfl rfl)
theorem fl_X9_57 : Cond.fieldLink RX9 57 (zCn 10) (zT 10 34).2.1 (zT 10 34).2.2.1 ∈ zTb := (zTb_6 86 rfl rfl)
theorem fl_X9_60 : Cond.fieldLink RX9 60 (zCn 10) (zT 10 35).2.1 (zT 10 35).2.2.1 ∈ zTb := (zTb_6 87 rfl rfl)
theorem fl_X9_63 : Cond.fieldLink RX9 63 (zCn 10) (zT 10 36).2.1 (zT 10 36).2.2.1 ∈ zTb := (zTb_6 88 rfl rfl)
theorem fl_X9_66 : Cond.fieldLink RX9 66 (zCn 10) (zT 10 37).2.1 (zT 10 37).2.2.1 ∈ zTb := (zTb_6 89 rfl rfl)
theorem fl_X9_69 : Cond.fieldLink RX9 69 (zCn 10) (zT 10 38).2.1 (zT 10 38).2.2.1 ∈ zTb := (zTb_6 90 rfl rfl)
theorem fl_X9_72 : Cond.fieldLink RX9 72 (zCn 10) (zT 10 39).2.1 (zT 10 39).2.2.1 ∈ zTb := (zTb_6 91 rfl rfl)
theorem fl_X9_75 : Cond.fieldLink RX9 75 (zCn 10) (zT 10 40).2.1 (zT 10 40).2.2.1 ∈ zTb := (zTb_6 92 rfl rfl)
theorem fl_X9_78 : Cond.fieldLink RX9 78 (zCn 10) (zT 10 41).2.1 (zT 10 41).2.2.1 ∈ zTb := (zTb_6 93 rfl rfl)
theorem fl_X9_81 : Cond.fieldLink RX9 81 (zCn 10) (zT 10 48).2.1 (zT 10 48).2.2.1 ∈ zTb := (zTb_6 100 rfl rfl)
theorem fl_X9_85 : Cond.fieldLink RX9 85 (zCn 10) (zT 10 49).2.1 (zT 10 49).2.2.1 ∈ zTb := (zTb_6 101 rfl rfl)
theorem fl_X9_88 : Cond.fieldLink RX9 88 (zCn 10) (zT 10 51).2.1 (zT 10 51).2.2.1 ∈ zTb := (zTb_6 103 rfl rfl)
theorem fl_X9_91 : Cond.fieldLink RX9 91 (zCn 10) (zT 10 52).2.1 (zT 10 52).2.2.1 ∈ zTb := (zTb_6 104 rfl rfl)
theorem fl_X9_94 : Cond.fieldLink RX9 94 (zCn 10) (zT 10 53).2.1 (zT 10 53).2.2.1 ∈ zTb := (zTb_6 105 rfl rfl)
theorem fl_X9_97 : Cond.fieldLink RX9 97 (zCn 10) (zT 10 54).2.1 (zT 10 54).2.2.1 ∈ zTb := (zTb_6 106 rfl rfl)
theorem fl_X9_100 : Cond.fieldLink RX9 100 (zCn 10) (zT 10 55).2.1 (zT 10 55).2.2.1 ∈ zTb := (zTb_6 107 rfl rfl)
theorem fl_X9_103 : Cond.fieldLink RX9 103 (zCn 10) (zT 10 56).2.1 (zT 10 56).2.2.1 ∈ zTb := (zTb_6 108 rfl rfl)
theorem fl_X9_106 : Cond.fieldLink RX9 106 (zCn 10) (zT 10 57).2.1 (zT 10 57).2.2.1 ∈ zTb := (zTb_6 109 rfl rfl)
theorem fl_X9_109 : Cond.fieldLink RX9 109 (zCn 10) (zT 10 58).2.1 (zT 10 58).2.2.1 ∈ zTb := (zTb_6 110 rfl rfl)
theorem fl_X9_112 : Cond.fieldLink RX9 112 (zCn 10) (zT 10 59).2.1 (zT 10 59).2.2.1 ∈ zTb := (zTb_6 111 rfl rfl)
theorem fl_X9_115 : Cond.fieldLink RX9 115 (zCn 10) (zT 10 60).2.1 (zT 10 60).2.2.1 ∈ zTb := (zTb_6 112 rfl rfl)
theorem fl_X9_118 : Cond.fieldLink RX9 118 (zCn 10) (zT 10 62).2.1 (zT 10 62).2.2.1 ∈ zTb := (zTb_6 114 rfl rfl)
theorem fl_X9_121 : Cond.fieldLink RX9 121 (zCn 10) (zT 10 63).2.1 (zT 10 63).2.2.1 ∈ zTb := (zTb_6 115 rfl rfl)
theorem fl_X9_124 : Cond.fieldLink RX9 124 (zCn 10) (zT 10 64).2.1 (zT 10 64).2.2.1 ∈ zTb := (zTb_6 116 rfl rfl)
theorem fl_X9_127 : Cond.fieldLink RX9 127 (zCn 10) (zT 10 65).2.1 (zT 10 65).2.2.1 ∈ zTb := (zTb_6 117 rfl rfl)
theorem fl_X9_130 : Cond.fieldLink RX9 130 (zCn 10) (zT 10 66).2.1 (zT 10 66).2.2.1 ∈ zTb := (zTb_6 118 rfl rfl)
theorem fl_X9_133 : Cond.fieldLink RX9 133 (zCn 10) (zT 10 67).2.1 (zT 10 67).2.2.1 ∈ zTb := (zTb_6 119 rfl rfl)
theorem fl_X9_136 : Cond.fieldLink RX9 136 (zCn 10) (zT 10 68).2.1 (zT 10 68).2.2.1 ∈ zTb := (zTb_6 120 rfl rfl)
theorem fl_X9_139 : Cond.fieldLink RX9 139 (zCn 10) (zT 10 69).2.1 (zT 10 69).2.2.1 ∈ zTb := (zTb_6 121 rfl rfl)
theorem fl_X9_142 : Cond.fieldLink RX9 142 (zCn 10) (zT 10 70).2.1 (zT 10 70).2.2.1 ∈ zTb := (zTb_6 122 rfl rfl)
theorem fl_X9_145 : Cond.fieldLink RX9 145 (zCn 10) (zT 10 71).2.1 (zT 10 71).2.2.1 ∈ zTb := (zTb_6 123 rfl rfl)
theorem fl_X9_148 : Cond.fieldLink RX9 148 (zCn 10) (zT 10 74).2.1 (zT 10 74).2.2.1 ∈ zTb := (zTb_6 126 rfl rfl)
theorem fl_X9_151 : Cond.fieldLink RX9 151 (zCn 10) (zT 10 76).2.1 (zT 10 76).2.2.1 ∈ zTb := (zTb_6 128 rfl rfl)
theorem fl_X9_154 : Cond.fieldLink RX9 154 (zCn 10) (zT 10 77).2.1 (zT 10 77).2.2.1 ∈ zTb := (zTb_6 129 rfl rfl)
theorem fl_X9_157 : Cond.fieldLink RX9 157 (zCn 10) (zT 10 80).2.1 (zT 10 80).2.2.1 ∈ zTb := (zTb_6 132 rfl rfl)
theorem fl_X9_160 : Cond.fieldLink RX9 160 (zCn 10) (zT 10 81).2.1 (zT 10 81).2.2.1 ∈ zTb := (zTb_6 133 rfl rfl)
theorem fl_X9_163 : Cond.fieldLink RX9 163 (zCn 10) (zT 10 85).2.1 (zT 10 85).2.2.1 ∈ zTb := (zTb_6 137 rfl rfl)
theorem fl_X9_166 : Cond.fieldLink RX9 166 (zCn 10) (zT 10 89).2.1 (zT 10 89).2.2.1 ∈ zTb := (zTb_6 141 rfl rfl)
theorem fl_X9_169 : Cond.fieldLink RX9 169 (zCn 10) (zT 10 90).2.1 (zT 10 90).2.2.1 ∈ zTb := (zTb_6 142 rfl rfl)
set_option maxHeartbeats 4000000 in
set_option maxRecDepth 100000 in
theorem c_X9_init {l : Launch} {b : Nat} {Γ : zΓ} {G : zH} {X : va_W} {h0 : Nat} (hX : zXs Γ) : zMi l yX9_init cX9_init 1 3 51 5897 b Γ G X 10 h0 [] (fun _ => True) (fun Γ' G' => MI Γ' h0 G' ∧ G'.1 1001 h0 0 = 0 ∧ ∀ a, Γ.1 a ≠ 0 → G'.1 901 a 0 = G.1 901 a 0) := by
  refine zMi_of RX9 hX (by decide) rfl rfl (Nat.le_of_ble_eq_true rfl) ?_
  intro p e s m args below meth c C hr hlk hin hB hav hT
  show V p l e (zrC 3 51 5897) s m args below meth c b Γ.2.2.2.1 1 0 0 (MQ below (zQi b Γ X 10 h0 (fun Γ' G' => MI Γ' h0 G' ∧ G'.1 1001 h0 0 = 0 ∧ ∀ a, Γ.1 a ≠ 0 → G'.1 901 a 0 = G.1 901 a 0)) args s 51 5897 (zAb b)) 0 [some (zr 10 h0)] [] ((h0, zOb 10 (fun _ => false) (fun _ => 0) (fun _ => 0)) :: (X ++ zWd Γ G))
  have hx0 : zxt Γ Γ := zxt_rf
  have hO : zOk Γ 10 (fun _ => false) (fun _ => 0) := zOk_0
  refine v_aload_n (pc := 0) C dX9_init_0 rfl ?_
  refine v_obj (pc := 1) C dX9_init_1 ol_X9 oi_ oc_ ⟨Nat.le_of_ble_eq_true rfl, Nat.le_of_ble_eq_true rfl⟩ (Nat.le_of_ble_eq_true rfl) ?_
  refine v_aload_n (pc := 4) C dX9_init_4 rfl ?_
  refine v_sipush (pc := 5) C dX9_init_5 (by decide) ?_
  refine v_newi0 (pc := 8) C hx0 hB 57 dX9_init_8 ac_int a_57 rfl (by decide) (by decide) ⟨Nat.le_of_ble_eq_true rfl, Nat.le_of_ble_eq_true rfl⟩ (fun Γ1 q1 fq1 hs1 hB1 tq1 => ?_)
  have hx1 := zxt_tr hx0 hs1
  replace hO := zOk_x hs1 hO
  refine v_putr (pc := 10) (k := 0) C hin dX9_init_10 fl_X9_7 rfl (by decide) (by decide) ?_
  replace hO := zOk_s (k := 0) hO (by decide) (by decide) tq1
  refine v_aload_n (pc := 13) C dX9_init_13 rfl ?_
  refine v_bipush (pc := 14) C dX9_init_14 (by decide) ?_
  refine v_newx (pc := 16) C dX9_init_16 ac_int rfl (by decide) ⟨Nat.le_of_ble_eq_true rfl, Nat.le_of_ble_eq_true rfl⟩ (fun qw => ?_)
  refine v_word5 (pc := 18) (k := 0) C dX9_init_18 dX9_init_19 dX9_init_20 dX9_init_22 (by decide) rfl (by decide) (by decide +kernel) ?_
  refine v_word5 (pc := 23) (k := 1) C dX9_init_23 dX9_init_24 dX9_init_25 dX9_init_27 (by decide) rfl (by decide) (by decide +kernel) ?_
  refine v_word5 (pc := 28) (k := 2) C dX9_init_28 dX9_init_29 dX9_init_30 dX9_init_32 (by decide) rfl (by decide) (by decide +kernel) ?_
  refine v_word5 (pc := 33) (k := 3) C dX9_init_33 dX9_init_34 dX9_init_35 dX9_init_37 (by decide) rfl (by decide) (by decide +kernel) ?_
  refine v_word5 (pc := 38) (k := 4) C dX9_init_38 dX9_init_39 dX9_init_40 dX9_init_42 (by decide) rfl (by decide) (by decide +kernel) ?_
  refine v_word5 (pc := 43) (k := 5) C dX9_init_43 dX9_init_44 dX9_init_45 dX9_init_47 (by decide) rfl (by decide) (by decide +kernel) ?_
  refine v_word6 (pc := 48) (k := 6) C dX9_init_48 dX9_init_49 dX9_init_51 dX9_init_53 (by decide) (by decide) rfl (by decide) (by decide +kernel) ?_
  refine v_word6 (pc := 54) (k := 7) C dX9_init_54 dX9_init_55 dX9_init_57 dX9_init_59 (by decide) (by decide) rfl (by decide) (by decide +kernel) ?_
  refine v_word6 (pc := 60) (k := 8) C dX9_init_60 dX9_init_61 dX9_init_63 dX9_init_65 (by decide) (by decide) rfl (by decide) (by decide +kernel) ?_
  refine v_word6 (pc := 66) (k := 9) C dX9_init_66 dX9_init_67 dX9_init_69 dX9_init_71 (by decide) (by decide) rfl (by decide) (by decide +kernel) ?_
  refine v_word6 (pc := 72) (k := 10) C dX9_init_72 dX9_init_73 dX9_init_75 dX9_init_77 (by decide) (by decide) rfl (by decide) (by decide +kernel) ?_
  refine v_word6 (pc := 78) (k := 11) C dX9_init_78 dX9_init_79 dX9_init_81 dX9_init_83 (by decide) (by decide) rfl (by decide) (by decide +kernel) ?_
  refine v_word6 (pc := 84) (k := 12) C dX9_init_84 dX9_init_85 dX9_init_87 dX9_init_89 (by decide) (by decide) rfl (by decide) (by decide +kernel) ?_
  refine v_word6 (pc := 90) (k := 13) C dX9_init_90 dX9_init_91 dX9_init_93 dX9_init_95 (by decide) (by decide) rfl (by decide) (by decide +kernel) ?_
  refine v_word6 (pc := 96) (k := 14) C dX9_init_96 dX9_init_97 dX9_init_99 dX9_init_101 (by decide) (by decide) rfl (by decide) (by decide +kernel) ?_
  refine v_word6 (pc := 102) (k := 15) C dX9_init_102 dX9_init_103 dX9_init_105 dX9_init_107 (by decide) (by decide) rfl (by decide) (by decide +kernel) ?_
  refine v_word6 (pc := 108) (k := 16) C dX9_init_108 dX9_init_109 dX9_init_111 dX9_init_113 (by decide) (by decide) rfl (by decide) (by decide +kernel) ?_
  refine v_word6 (pc := 114) (k := 17) C dX9_init_114 dX9_init_115 dX9_init_117 dX9_init_119 (by decide) (by decide) rfl (by decide) (by decide +kernel) ?_
  refine v_word6 (pc := 120) (k := 18) C dX9_init_120 dX9_init_121 dX9_init_123 dX9_init_125 (by decide) (by decide) rfl (by decide) (by decide +kernel) ?_
  refine v_word6 (pc := 126) (k := 19) C dX9_init_126 dX9_init_127 dX9_init_129 dX9_init_131 (by decide) (by decide) rfl (by decide) (by decide +kernel) ?_
  refine v_word6 (pc := 132) (k := 20) C dX9_init_132 dX9_init_133 dX9_init_135 dX9_init_137 (by decide) (by decide) rfl (by decide) (by decide +kernel) ?_
  refine v_word6 (pc := 138) (k := 21) C dX9_init_138 dX9_init_139 dX9_init_141 dX9_init_143 (by decide) (by decide) rfl (by decide) (by decide +kernel) ?_
  refine v_word6 (pc := 144) (k := 22) C dX9_init_144 dX9_init_145 dX9_init_147 dX9_init_149 (by decide) (by decide) rfl (by decide) (by decide +kernel) ?_
  refine v_word6 (pc := 150) (k := 23) C dX9_init_150 dX9_init_151 dX9_init_153 dX9_init_155 (by decide) (by decide) rfl (by decide) (by decide +kernel) ?_
  refine v_word6 (pc := 156) (k := 24) C dX9_init_156 dX9_init_157 dX9_init_159 dX9_init_161 (by decide) (by decide) rfl (by decide) (by decide +kernel) ?_
  refine v_word6 (pc := 162) (k := 25) C dX9_init_162 dX9_init_163 dX9_init_165 dX9_init_167 (by decide) (by decide) rfl (by decide) (by decide +kernel) ?_
  refine v_word6 (pc := 168) (k := 26) C dX9_init_168 dX9_init_169 dX9_init_171 dX9_init_173 (by decide) (by decide) rfl (by decide) (by decide +kernel) ?_
  refine v_word6 (pc := 174) (k := 27) C dX9_init_174 dX9_init_175 dX9_init_177 dX9_init_179 (by decide) (by decide) rfl (by decide) (by decide +kernel) ?_
  refine v_word6 (pc := 180) (k := 28) C dX9_init_180 dX9_init_181 dX9_init_183 dX9_init_185 (by decide) (by decide) rfl (by decide) (by decide +kernel) ?_
  refine v_word6 (pc := 186) (k := 29) C dX9_init_186 dX9_init_187 dX9_init_189 dX9_init_191 (by decide) (by decide) rfl (by decide) (by decide +kernel) ?_
  refine v_word6 (pc := 192) (k := 30) C dX9_init_192 dX9_init_193 dX9_init_195 dX9_init_197 (by decide) (by decide) rfl (by decide) (by decide +kernel) ?_
  refine v_word6 (pc := 198) (k := 31) C dX9_init_198 dX9_init_199 dX9_init_201 dX9_init_203 (by decide) (by decide) rfl (by decide) (by decide +kernel) ?_
  refine v_word6 (pc := 204) (k := 32) C dX9_init_204 dX9_init_205 dX9_init_207 dX9_init_209 (by decide) (by decide) rfl (by decide) (by decide +kernel) ?_
  refine v_word6 (pc := 210) (k := 33) C dX9_init_210 dX9_init_211 dX9_init_213 dX9_init_215 (by decide) (by decide) rfl (by decide) (by decide +kernel) ?_
  refine v_word6 (pc := 216) (k := 34) C dX9_init_216 dX9_init_217 dX9_init_219 dX9_init_221 (by decide) (by decide) rfl (by decide) (by decide +kernel) ?_
  refine v_word6 (pc := 222) (k := 35) C dX9_init_222 dX9_init_223 dX9_init_225 dX9_init_227 (by decide) (by decide) rfl (by decide) (by decide +kernel) ?_
  refine v_word6 (pc := 228) (k := 36) C dX9_init_228 dX9_init_229 dX9_init_231 dX9_init_233 (by decide) (by decide) rfl (by decide) (by decide +kernel) ?_
  refine v_word6 (pc := 234) (k := 37) C dX9_init_234 dX9_init_235 dX9_init_237 dX9_init_239 (by decide) (by decide) rfl (by decide) (by decide +kernel) ?_
  refine v_word6 (pc := 240) (k := 38) C dX9_init_240 dX9_init_241 dX9_init_243 dX9_init_245 (by decide) (by decide) rfl (by decide) (by decide +kernel) ?_
  refine v_word6 (pc := 246) (k := 39) C dX9_init_246 dX9_init_247 dX9_init_249 dX9_init_251 (by decide) (by decide) rfl (by decide) (by decide +kernel) ?_
  refine v_word6 (pc := 252) (k := 40) C dX9_init_252 dX9_init_253 dX9_init_255 dX9_init_257 (by decide) (by decide) rfl (by decide) (by decide +kernel) ?_
  refine v_word6 (pc := 258) (k := 41) C dX9_init_258 dX9_init_259 dX9_init_261 dX9_init_263 (by decide) (by decide) rfl (by decide) (by decide +kernel) ?_
  refine v_word6 (pc := 264) (k := 42) C dX9_init_264 dX9_init_265 dX9_init_267 dX9_init_269 (by decide) (by decide) rfl (by decide) (by decide +kernel) ?_
  refine v_word6 (pc := 270) (k := 43) C dX9_init_270 dX9_init_271 dX9_init_273 dX9_init_275 (by decide) (by decide) rfl (by decide) (by decide +kernel) ?_
  refine v_word6 (pc := 276) (k := 44) C dX9_init_276 dX9_init_277 dX9_init_279 dX9_init_281 (by decide) (by decide) rfl (by decide) (by decide +kernel) ?_
  refine v_word6 (pc := 282) (k := 45) C dX9_init_282 dX9_init_283 dX9_init_285 dX9_init_287 (by decide) (by decide) rfl (by decide) (by decide +kernel) ?_
  refine v_word6 (pc := 288) (k := 46) C dX9_init_288 dX9_init_289 dX9_init_291 dX9_init_293 (by decide) (by decide) rfl (by decide) (by decide +kernel) ?_
  refine v_word6 (pc := 294) (k := 47) C dX9_init_294 dX9_init_295 dX9_init_297 dX9_init_299 (by decide) (by decide) rfl (by decide) (by decide +kernel) ?_
  refine v_word6 (pc := 300) (k := 48) C dX9_init_300 dX9_init_301 dX9_init_303 dX9_init_305 (by decide) (by decide) rfl (by decide) (by decide +kernel) ?_
  refine v_word6 (pc := 306) (k := 49) C dX9_init_306 dX9_init_307 dX9_init_309 dX9_init_311 (by decide) (by decide) rfl (by decide) (by decide +kernel) ?_
  refine v_word6 (pc := 312) (k := 50) C dX9_init_312 dX9_init_313 dX9_init_315 dX9_init_317 (by decide) (by decide) rfl (by decide) (by decide +kernel) ?_
  refine v_word6 (pc := 318) (k := 51) C dX9_init_318 dX9_init_319 dX9_init_321 dX9_init_323 (by decide) (by decide) rfl (by decide) (by decide +kernel) ?_
  refine v_word6 (pc := 324) (k := 52) C dX9_init_324 dX9_init_325 dX9_init_327 dX9_init_329 (by decide) (by decide) rfl (by decide) (by decide +kernel) ?_
  refine v_word6 (pc := 330) (k := 53) C dX9_init_330 dX9_init_331 dX9_init_333 dX9_init_335 (by decide) (by decide) rfl (by decide) (by decide +kernel) ?_
  refine v_word6 (pc := 336) (k := 54) C dX9_init_336 dX9_init_337 dX9_init_339 dX9_init_341 (by decide) (by decide) rfl (by decide) (by decide +kernel) ?_
  refine v_word6 (pc := 342) (k := 55) C dX9_init_342 dX9_init_343 dX9_init_345 dX9_init_347 (by decide) (by decide) rfl (by decide) (by decide +kernel) ?_
  refine v_word6 (pc := 348) (k := 56) C dX9_init_348 dX9_init_349 dX9_init_351 dX9_init_353 (by decide) (by decide) rfl (by decide) (by decide +kernel) ?_
  refine v_word6 (pc := 354) (k := 57) C dX9_init_354 dX9_init_355 dX9_init_357 dX9_init_359 (by decide) (by decide) rfl (by decide) (by decide +kernel) ?_
  refine v_word6 (pc := 360) (k := 58) C dX9_init_360 dX9_init_361 dX9_init_363 dX9_init_365 (by decide) (by decide) rfl (by decide) (by decide +kernel) ?_
  refine v_word6 (pc := 366) (k := 59) C dX9_init_366 dX9_init_367 dX9_init_369 dX9_init_371 (by decide) (by decide) rfl (by decide) (by decide +kernel) ?_
  refine v_word6 (pc := 372) (k := 60) C dX9_init_372 dX9_init_373 dX9_init_375 dX9_init_377 (by decide) (by decide) rfl (by decide) (by decide +kernel) ?_
  refine v_word6 (pc := 378) (k := 61) C dX9_init_378 dX9_init_379 dX9_init_381 dX9_init_383 (by decide) (by decide) rfl (by decide) (by decide +kernel) ?_
  refine v_word6 (pc := 384) (k := 62) C dX9_init_384 dX9_init_385 dX9_init_387 dX9_init_389 (by decide) (by decide) rfl (by decide) (by decide +kernel) ?_
  refine v_word6 (pc := 390) (k := 63) C dX9_init_390 dX9_init_391 dX9_init_393 dX9_init_395 (by decide) (by decide) rfl (by decide) (by decide +kernel) ?_
  refine v_word6 (pc := 396) (k := 64) C dX9_init_396 dX9_init_397 dX9_init_399 dX9_init_401 (by decide) (by decide) rfl (by decide) (by decide +kernel) ?_
  refine v_word6 (pc := 402) (k := 65) C dX9_init_402 dX9_init_403 dX9_init_405 dX9_init_407 (by decide) (by decide) rfl (by decide) (by decide +kernel) ?_
  refine v_word6 (pc := 408) (k := 66) C dX9_init_408 dX9_init_409 dX9_init_411 dX9_init_413 (by decide) (by decide) rfl (by decide) (by decide +kernel) ?_
  refine v_word6 (pc := 414) (k := 67) C dX9_init_414 dX9_init_415 dX9_init_417 dX9_init_419 (by decide) (by decide) rfl (by decide) (by decide +kernel) ?_
  refine v_word6 (pc := 420) (k := 68) C dX9_init_420 dX9_init_421 dX9_init_423 dX9_init_425 (by decide) (by decide) rfl (by decide) (by decide +kernel) ?_
  refine v_word6 (pc := 426) (k := 69) C dX9_init_426 dX9_init_427 dX9_init_429 dX9_init_431 (by decide) (by decide) rfl (by decide) (by decide +kernel) ?_
  refine v_word6 (pc := 432) (k := 70) C dX9_init_432 dX9_init_433 dX9_init_435 dX9_init_437 (by decide) (by decide) rfl (by decide) (by decide +kernel) ?_
  refine v_word6 (pc := 438) (k := 71) C dX9_init_438 dX9_init_439 dX9_init_441 dX9_init_443 (by decide) (by decide) rfl (by decide) (by decide +kernel) ?_
  refine v_word6 (pc := 444) (k := 72) C dX9_init_444 dX9_init_445 dX9_init_447 dX9_init_449 (by decide) (by decide) rfl (by decide) (by decide +kernel) ?_
  refine v_word6 (pc := 450) (k := 73) C dX9_init_450 dX9_init_451 dX9_init_453 dX9_init_455 (by decide) (by decide) rfl (by decide) (by decide +kernel) ?_
  refine v_word6 (pc := 456) (k := 74) C dX9_init_456 dX9_init_457 dX9_init_459 dX9_init_461 (by decide) (by decide) rfl (by decide) (by decide +kernel) ?_
  refine v_word6 (pc := 462) (k := 75) C dX9_init_462 dX9_init_463 dX9_init_465 dX9_init_467 (by decide) (by decide) rfl (by decide) (by decide +kernel) ?_
  refine v_word6 (pc := 468) (k := 76) C dX9_init_468 dX9_init_469 dX9_init_471 dX9_init_473 (by decide) (by decide) rfl (by decide) (by decide +kernel) ?_
  refine v_word6 (pc := 474) (k := 77) C dX9_init_474 dX9_init_475 dX9_init_477 dX9_init_479 (by decide) (by decide) rfl (by decide) (by decide +kernel) ?_
  refine v_word6 (pc := 480) (k := 78) C dX9_init_480 dX9_init_481 dX9_init_483 dX9_init_485 (by decide) (by decide) rfl (by decide) (by decide +kernel) ?_
  refine v_word6 (pc := 486) (k := 79) C dX9_init_486 dX9_init_487 dX9_init_489 dX9_init_491 (by decide) (by decide) rfl (by decide) (by decide +kernel) ?_
  refine v_word6 (pc := 492) (k := 80) C dX9_init_492 dX9_init_493 dX9_init_495 dX9_init_497 (by decide) (by decide) rfl (by decide) (by decide +kernel) ?_
  refine v_word6 (pc := 498) (k := 81) C dX9_init_498 dX9_init_499 dX9_init_501 dX9_init_503 (by decide) (by decide) rfl (by decide) (by decide +kernel) ?_
  refine v_word6 (pc := 504) (k := 82) C dX9_init_504 dX9_init_505 dX9_init_507 dX9_init_509 (by decide) (by decide) rfl (by decide) (by decide +kernel) ?_
  refine v_word6 (pc := 510) (k := 83) C dX9_init_510 dX9_init_511 dX9_init_513 dX9_init_515 (by decide) (by decide) rfl (by decide) (by decide +kernel) ?_
  refine v_word6 (pc := 516) (k := 84) C dX9_init_516 dX9_init_517 dX9_init_519 dX9_init_521 (by decide) (by decide) rfl (by decide) (by decide +kernel) ?_
  refine v_word6 (pc := 522) (k := 85) C dX9_init_522 dX9_init_523 dX9_init_525 dX9_init_527 (by decide) (by decide) rfl (by decide) (by decide +kernel) ?_
  refine v_word6 (pc := 528) (k := 86) C dX9_init_528 dX9_init_529 dX9_init_531 dX9_init_533 (by decide) (by decide) rfl (by decide) (by decide +kernel) ?_
  refine v_word6 (pc := 534) (k := 87) C dX9_init_534 dX9_init_535 dX9_init_537 dX9_init_539 (by decide) (by decide) rfl (by decide) (by decide +kernel) ?_
  refine v_word6 (pc := 540) (k := 88) C dX9_init_540 dX9_init_541 dX9_init_543 dX9_init_545 (by decide) (by decide) rfl (by decide) (by decide +kernel) ?_
  refine v_word6 (pc := 546) (k := 89) C dX9_init_546 dX9_init_547 dX9_init_549 dX9_init_551 (by decide) (by decide) rfl (by decide) (by decide +kernel) ?_
  refine v_word6 (pc := 552) (k := 90) C dX9_init_552 dX9_init_553 dX9_init_555 dX9_init_557 (by decide) (by decide) rfl (by decide) (by decide +kernel) ?_
  refine v_word6 (pc := 558) (k := 91) C dX9_init_558 dX9_init_559 dX9_init_561 dX9_init_563 (by decide) (by decide) rfl (by decide) (by decide +kernel) ?_
  refine v_word6 (pc := 564) (k := 92) C dX9_init_564 dX9_init_565 dX9_init_567 dX9_init_569 (by decide) (by decide) rfl (by decide) (by decide +kernel) ?_
  refine v_word6 (pc := 570) (k := 93) C dX9_init_570 dX9_init_571 dX9_init_573 dX9_init_575 (by decide) (by decide) rfl (by decide) (by decide +kernel) ?_
  refine v_word6 (pc := 576) (k := 94) C dX9_init_576 dX9_init_577 dX9_init_579 dX9_init_581 (by decide) (by decide) rfl (by decide) (by decide +kernel) ?_
  refine v_word6 (pc := 582) (k := 95) C dX9_init_582 dX9_init_583 dX9_init_585 dX9_init_587 (by decide) (by decide) rfl (by decide) (by decide +kernel) ?_
  refine v_word6 (pc := 588) (k := 96) C dX9_init_588 dX9_init_589 dX9_init_591 dX9_init_593 (by decide) (by decide) rfl (by decide) (by decide +kernel) ?_
  refine v_word6 (pc := 594) (k := 97) C dX9_init_594 dX9_init_595 dX9_init_597 dX9_init_599 (by decide) (by decide) rfl (by decide) (by decide +kernel) ?_
  refine v_word6 (pc := 600) (k := 98) C dX9_init_600 dX9_init_601 dX9_init_603 dX9_init_605 (by decide) (by decide) rfl (by decide) (by decide +kernel) ?_
  refine v_word6 (pc := 606) (k := 99) C dX9_init_606 dX9_init_607 dX9_init_609 dX9_init_611 (by decide) (by decide) rfl (by decide) (by decide +kernel) ?_
  refine v_word6 (pc := 612) (k := 100) C dX9_init_612 dX9_init_613 dX9_init_615 dX9_init_617 (by decide) (by decide) rfl (by decide) (by decide +kernel) ?_
  refine v_word6 (pc := 618) (k := 101) C dX9_init_618 dX9_init_619 dX9_init_621 dX9_init_623 (by decide) (by decide) rfl (by decide) (by decide +kernel) ?_
  refine v_word6 (pc := 624) (k := 102) C dX9_init_624 dX9_init_625 dX9_init_627 dX9_init_629 (by decide) (by decide) rfl (by decide) (by decide +kernel) ?_
  refine v_word6 (pc := 630) (k := 103) C dX9_init_630 dX9_init_631 dX9_init_633 dX9_init_635 (by decide) (by decide) rfl (by decide) (by decide +kernel) ?_
  refine v_word6 (pc := 636) (k := 104) C dX9_init_636 dX9_init_637 dX9_init_639 dX9_init_641 (by decide) (by decide) rfl (by decide) (by decide +kernel) ?_
  refine v_word6 (pc := 642) (k := 105) C dX9_init_642 dX9_init_643 dX9_init_645 dX9_init_647 (by decide) (by decide) rfl (by decide) (by decide +kernel) ?_
  refine v_word6 (pc := 648) (k := 106) C dX9_init_648 dX9_init_649 dX9_init_651 dX9_init_653 (by decide) (by decide) rfl (by decide) (by decide +kernel) ?_
  refine v_word6 (pc := 654) (k := 107) C dX9_init_654 dX9_init_655 dX9_init_657 dX9_init_659 (by decide) (by decide) rfl (by decide) (by decide +kernel) ?_
  refine v_word6 (pc := 660) (k := 108) C dX9_init_660 dX9_init_661 dX9_init_663 dX9_init_665 (by decide) (by decide) rfl (by decide) (by decide +kernel) ?_
  refine v_word6 (pc := 666) (k := 109) C dX9_init_666 dX9_init_667 dX9_init_669 dX9_init_671 (by decide) (by decide) rfl (by decide) (by decide +kernel) ?_
  refine v_word6 (pc := 672) (k := 110) C dX9_init_672 dX9_init_673 dX9_init_675 dX9_init_677 (by decide) (by decide) rfl (by decide) (by decide +kernel) ?_
  refine v_word6 (pc := 678) (k := 111) C dX9_init_678 dX9_init_679 dX9_init_681 dX9_init_683 (by decide) (by decide) rfl (by decide) (by decide +kernel) ?_
  refine v_word6 (pc := 684) (k := 112) C dX9_init_684 dX9_init_685 dX9_init_687 dX9_init_689 (by decide) (by decide) rfl (by decide) (by decide +kernel) ?_
  refine v_word6 (pc := 690) (k := 113) C dX9_init_690 dX9_init_691 dX9_init_693 dX9_init_695 (by decide) (by decide) rfl (by decide) (by decide +kernel) ?_
  refine v_word6 (pc := 696) (k := 114) C dX9_init_696 dX9_init_697 dX9_init_699 dX9_init_701 (by decide) (by decide) rfl (by decide) (by decide +kernel) ?_
  refine v_word6 (pc := 702) (k := 115) C dX9_init_702 dX9_init_703 dX9_init_705 dX9_init_707 (by decide) (by decide) rfl (by decide) (by decide +kernel) ?_
  refine v_word6 (pc := 708) (k := 116) C dX9_init_708 dX9_init_709 dX9_init_711 dX9_init_713 (by decide) (by decide) rfl (by decide) (by decide +kernel) ?_
  refine v_word6 (pc := 714) (k := 117) C dX9_init_714 dX9_init_715 dX9_init_717 dX9_init_719 (by decide) (by decide) rfl (by decide) (by decide +kernel) ?_
  refine v_word6 (pc := 720) (k := 118) C dX9_init_720 dX9_init_721 dX9_init_723 dX9_init_725 (by decide) (by decide) rfl (by decide) (by decide +kernel) ?_
  refine v_word6 (pc := 726) (k := 119) C dX9_init_726 dX9_init_727 dX9_init_729 dX9_init_731 (by decide) (by decide) rfl (by decide) (by decide +kernel) ?_
  refine v_word6 (pc := 732) (k := 120) C dX9_init_732 dX9_init_733 dX9_init_735 dX9_init_737 (by decide) (by decide) rfl (by decide) (by decide +kernel) ?_
  refine v_words (Γ0 := Γ) hx1 hB1 (fun Γw hsw hBw tqw => ?_)
  have hx2 := zxt_tr hx1 hsw
  replace hO := zOk_x hsw hO
  refine v_putr (pc := 738) (k := 3) C hin dX9_init_738 fl_X9_13 rfl (by decide) (by decide) ?_
  replace hO := zOk_s (k := 3) hO (by decide) (by decide) tqw
  refine v_aload_n (pc := 741) C dX9_init_741 rfl ?_
  refine v_iconst (pc := 742) C dX9_init_742 ?_
  refine v_puti (pc := 743) (k := 5) C dX9_init_743 fl_X9_16 f_10_5 ?_
  refine v_aload_n (pc := 746) C dX9_init_746 rfl ?_
  refine v_bipush (pc := 747) C dX9_init_747 (by decide) ?_
  refine v_newi0 (pc := 749) C hx2 hBw 59 dX9_init_749 ac_int a_59 rfl (by decide) (by decide) ⟨Nat.le_of_ble_eq_true rfl, Nat.le_of_ble_eq_true rfl⟩ (fun Γ3 q3 fq3 hs3 hB3 tq3 => ?_)
  have hx3 := zxt_tr hx2 hs3
  replace hO := zOk_x hs3 hO
  refine v_putr (pc := 751) (k := 22) C hin dX9_init_751 fl_X9_20 rfl (by decide) (by decide) ?_
  replace hO := zOk_s (k := 22) hO (by decide) (by decide) tq3
  refine v_aload_n (pc := 754) C dX9_init_754 rfl ?_
  refine v_iconst (pc := 755) C dX9_init_755 ?_
  refine v_newz0 (pc := 756) C hx3 hB3 60 dX9_init_756 ac_boolean a_60 rfl (by decide) (by decide) ⟨Nat.le_of_ble_eq_true rfl, Nat.le_of_ble_eq_true rfl⟩ (fun Γ4 q4 fq4 hs4 hB4 tq4 => ?_)
  have hx4 := zxt_tr hx3 hs4
  replace hO := zOk_x hs4 hO
  refine v_putr (pc := 758) (k := 23) C hin dX9_init_758 fl_X9_23 rfl (by decide) (by decide) ?_
  replace hO := zOk_s (k := 23) hO (by decide) (by decide) tq4
  refine v_aload_n (pc := 761) C dX9_init_761 rfl ?_
  refine v_bipush (pc := 762) C dX9_init_762 (by decide) ?_
  refine v_newi0 (pc := 764) C hx4 hB4 61 dX9_init_764 ac_int a_61 rfl (by decide) (by decide) ⟨Nat.le_of_ble_eq_true rfl, Nat.le_of_ble_eq_true rfl⟩ (fun Γ5 q5 fq5 hs5 hB5 tq5 => ?_)
  have hx5 := zxt_tr hx4 hs5
  replace hO := zOk_x hs5 hO
  refine v_putr (pc := 766) (k := 24) C hin dX9_init_766 fl_X9_27 rfl (by decide) (by decide) ?_
  replace hO := zOk_s (k := 24) hO (by decide) (by decide) tq5
  refine v_aload_n (pc := 769) C dX9_init_769 rfl ?_
  refine v_bipush (pc := 770) C dX9_init_770 (by decide) ?_
  refine v_newi0 (pc := 772) C hx5 hB5 62 dX9_init_772 ac_int a_62 rfl (by decide) (by decide) ⟨Nat.le_of_ble_eq_true rfl, Nat.le_of_ble_eq_true rfl⟩ (fun Γ6 q6 fq6 hs6 hB6 tq6 => ?_)
  have hx6 := zxt_tr hx5 hs6
  replace hO := zOk_x hs6 hO
  refine v_putr (pc := 774) (k := 25) C hin dX9_init_774 fl_X9_30 rfl (by decide) (by decide) ?_
  replace hO := zOk_s (k := 25) hO (by decide) (by decide) tq6
  refine v_aload_n (pc := 777) C dX9_init_777 rfl ?_
  refine v_bipush (pc := 778) C dX9_init_778 (by decide) ?_
  refine v_newi0 (pc := 780) C hx6 hB6 63 dX9_init_780 ac_int a_63 rfl (by decide) (by decide) ⟨Nat.le_of_ble_eq_true rfl, Nat.le_of_ble_eq_true rfl⟩ (fun Γ7 q7 fq7 hs7 hB7 tq7 => ?_)
  have hx7 := zxt_tr hx6 hs7
  replace hO := zOk_x hs7 hO
  refine v_putr (pc := 782) (k := 26) C hin dX9_init_782 fl_X9_33 rfl (by decide) (by decide) ?_
  replace hO := zOk_s (k := 26) hO (by decide) (by decide) tq7
  refine v_aload_n (pc := 785) C dX9_init_785 rfl ?_
  refine v_bipush (pc := 786) C dX9_init_786 (by decide) ?_
  refine v_newi0 (pc := 788) C hx7 hB7 64 dX9_init_788 ac_int a_64 rfl (by decide) (by decide) ⟨Nat.le_of_ble_eq_true rfl, Nat.le_of_ble_eq_true rfl⟩ (fun Γ8 q8 fq8 hs8 hB8 tq8 => ?_)
  have hx8 := zxt_tr hx7 hs8
  replace hO := zOk_x hs8 hO
  refine v_putr (pc := 790) (k := 27) C hin dX9_init_790 fl_X9_36 rfl (by decide) (by decide) ?_
  replace hO := zOk_s (k := 27) hO (by decide) (by decide) tq8
  refine v_aload_n (pc := 793) C dX9_init_793 rfl ?_
  refine v_bipush (pc := 794) C dX9_init_794 (by decide) ?_
  refine v_newi0 (pc := 796) C hx8 hB8 65 dX9_init_796 ac_int a_65 rfl (by decide) (by decide) ⟨Nat.le_of_ble_eq_true rfl, Nat.le_of_ble_eq_true rfl⟩ (fun Γ9 q9 fq9 hs9 hB9 tq9 => ?_)
  have hx9 := zxt_tr hx8 hs9
  replace hO := zOk_x hs9 hO
  refine v_putr (pc := 798) (k := 28) C hin dX9_init_798 fl_X9_39 rfl (by decide) (by decide) ?_
  replace hO := zOk_s (k := 28) hO (by decide) (by decide) tq9
  refine v_aload_n (pc := 801) C dX9_init_801 rfl ?_
  refine v_bipush (pc := 802) C dX9_init_802 (by decide) ?_
  refine v_newi0 (pc := 804) C hx9 hB9 66 dX9_init_804 ac_int a_66 rfl (by decide) (by decide) ⟨Nat.le_of_ble_eq_true rfl, Nat.le_of_ble_eq_true rfl⟩ (fun Γ10 q10 fq10 hs10 hB10 tq10 => ?_)
  have hx10 := zxt_tr hx9 hs10
  replace hO := zOk_x hs10 hO
  refine v_putr (pc := 806) (k := 29) C hin dX9_init_806 fl_X9_42 rfl (by decide) (by decide) ?_
  replace hO := zOk_s (k := 29) hO (by decide) (by decide) tq10
  refine v_aload_n (pc := 809) C dX9_init_809 rfl ?_
  refine v_bipush (pc := 810) C dX9_init_810 (by decide) ?_
  refine v_newi0 (pc := 812) C hx10 hB10 67 dX9_init_812 ac_int a_67 rfl (by decide) (by decide) ⟨Nat.le_of_ble_eq_true rfl, Nat.le_of_ble_eq_true rfl⟩ (fun Γ11 q11 fq11 hs11 hB11 tq11 => ?_)
  have hx11 := zxt_tr hx10 hs11
  replace hO := zOk_x hs11 hO
  refine v_putr (pc := 814) (k := 30) C hin dX9_init_814 fl_X9_45 rfl (by decide) (by decide) ?_
  replace hO := zOk_s (k := 30) hO (by decide) (by decide) tq11
  refine v_aload_n (pc := 817) C dX9_init_817 rfl ?_
  refine v_bipush (pc := 818) C dX9_init_818 (by decide) ?_
  refine v_newi0 (pc := 820) C hx11 hB11 68 dX9_init_820 ac_int a_68 rfl (by decide) (by decide) ⟨Nat.le_of_ble_eq_true rfl, Nat.le_of_ble_eq_true rfl⟩ (fun Γ12 q12 fq12 hs12 hB12 tq12 => ?_)
  have hx12 := zxt_tr hx11 hs12
  replace hO := zOk_x hs12 hO
  refine v_putr (pc := 822) (k := 31) C hin dX9_init_822 fl_X9_48 rfl (by decide) (by decide) ?_
  replace hO := zOk_s (k := 31) hO (by decide) (by decide) tq12
  refine v_aload_n (pc := 825) C dX9_init_825 rfl ?_
  refine v_bipush (pc := 826) C dX9_init_826 (by decide) ?_
  refine v_newi0 (pc := 828) C hx12 hB12 69 dX9_init_828 ac_int a_69 rfl (by decide) (by decide) ⟨Nat.le_of_ble_eq_true rfl, Nat.le_of_ble_eq_true rfl⟩ (fun Γ13 q13 fq13 hs13 hB13 tq13 => ?_)
  have hx13 := zxt_tr hx12 hs13
  replace hO := zOk_x hs13 hO
  refine v_putr (pc := 830) (k := 32) C hin dX9_init_830 fl_X9_51 rfl (by decide) (by decide) ?_
  replace hO := zOk_s (k := 32) hO (by decide) (by decide) tq13
  refine v_aload_n (pc := 833) C dX9_init_833 rfl ?_
  refine v_bipush (pc := 834) C dX9_init_834 (by decide) ?_
  refine v_newi0 (pc := 836) C hx13 hB13 70 dX9_init_836 ac_int a_70 rfl (by decide) (by decide) ⟨Nat.le_of_ble_eq_true rfl, Nat.le_of_ble_eq_true rfl⟩ (fun Γ14 q14 fq14 hs14 hB14 tq14 => ?_)
  have hx14 := zxt_tr hx13 hs14
  replace hO := zOk_x hs14 hO
  refine v_putr (pc := 838) (k := 33) C hin dX9_init_838 fl_X9_54 rfl (by decide) (by decide) ?_
  replace hO := zOk_s (k := 33) hO (by decide) (by decide) tq14
  refine v_aload_n (pc := 841) C dX9_init_841 rfl ?_
  refine v_bipush (pc := 842) C dX9_init_842 (by decide) ?_
  refine v_newz0 (pc := 844) C hx14 hB14 71 dX9_init_844 ac_boolean a_71 rfl (by decide) (by decide) ⟨Nat.le_of_ble_eq_true rfl, Nat.le_of_ble_eq_true rfl⟩ (fun Γ15 q15 fq15 hs15 hB15 tq15 => ?_)
  have fz34 := zxt_0 hx14 fq15
  have ez34 : q15 = q15 := rfl
  have hx15 := zxt_tr hx14 hs15
  replace hO := zOk_x hs15 hO
  refine v_putr (pc := 846) (k := 34) C hin dX9_init_846 fl_X9_57 rfl (by decide) (by decide) ?_
  replace hO := zOk_s (k := 34) hO (by decide) (by decide) tq15
  refine v_aload_n (pc := 849) C dX9_init_849 rfl ?_
  refine v_bipush (pc := 850) C dX9_init_850 (by decide) ?_
  refine v_newi0 (pc := 852) C hx15 hB15 72 dX9_init_852 ac_int a_72 rfl (by decide) (by decide) ⟨Nat.le_of_ble_eq_true rfl, Nat.le_of_ble_eq_true rfl⟩ (fun Γ16 q16 fq16 hs16 hB16 tq16 => ?_)
  have hx16 := zxt_tr hx15 hs16
  replace hO := zOk_x hs16 hO
  refine v_putr (pc := 854) (k := 35) C hin dX9_init_854 fl_X9_60 rfl (by decide) (by decide) ?_
  replace hO := zOk_s (k := 35) hO (by decide) (by decide) tq16
  refine v_aload_n (pc := 857) C dX9_init_857 rfl ?_
  refine v_bipush (pc := 858) C dX9_init_858 (by decide) ?_
  refine v_newi0 (pc := 860) C hx16 hB16 73 dX9_init_860 ac_int a_73 rfl (by decide) (by decide) ⟨Nat.le_of_ble_eq_true rfl, Nat.le_of_ble_eq_true rfl⟩ (fun Γ17 q17 fq17 hs17 hB17 tq17 => ?_)
  have hx17 := zxt_tr hx16 hs17
  replace hO := zOk_x hs17 hO
  refine v_putr (pc := 862) (k := 36) C hin dX9_init_862 fl_X9_63 rfl (by decide) (by decide) ?_
  replace hO := zOk_s (k := 36) hO (by decide) (by decide) tq17
  refine v_aload_n (pc := 865) C dX9_init_865 rfl ?_
  refine v_sipush (pc := 866) C dX9_init_866 (by decide) ?_
  refine v_newi0 (pc := 869) C hx17 hB17 74 dX9_init_869 ac_int a_74 rfl (by decide) (by decide) ⟨Nat.le_of_ble_eq_true rfl, Nat.le_of_ble_eq_true rfl⟩ (fun Γ18 q18 fq18 hs18 hB18 tq18 => ?_)
  have fz37 := zxt_0 hx17 fq18
  have ez37 : q18 = q18 := rfl
  have hx18 := zxt_tr hx17 hs18
  replace hO := zOk_x hs18 hO
  refine v_putr (pc := 871) (k := 37) C hin dX9_init_871 fl_X9_66 rfl (by decide) (by decide) ?_
  replace hO := zOk_s (k := 37) hO (by decide) (by decide) tq18
  refine v_aload_n (pc := 874) C dX9_init_874 rfl ?_
  refine v_sipush (pc := 875) C dX9_init_875 (by decide) ?_
  refine v_newi0 (pc := 878) C hx18 hB18 75 dX9_init_878 ac_int a_75 rfl (by decide) (by decide) ⟨Nat.le_of_ble_eq_true rfl, Nat.le_of_ble_eq_true rfl⟩ (fun Γ19 q19 fq19 hs19 hB19 tq19 => ?_)
  have hx19 := zxt_tr hx18 hs19
  replace hO := zOk_x hs19 hO
  refine v_putr (pc := 880) (k := 38) C hin dX9_init_880 fl_X9_69 rfl (by decide) (by decide) ?_
  replace hO := zOk_s (k := 38) hO (by decide) (by decide) tq19
  refine v_aload_n (pc := 883) C dX9_init_883 rfl ?_
  refine v_sipush (pc := 884) C dX9_init_884 (by decide) ?_
  refine v_newi0 (pc := 887) C hx19 hB19 76 dX9_init_887 ac_int a_76 rfl (by decide) (by decide) ⟨Nat.le_of_ble_eq_true rfl, Nat.le_of_ble_eq_true rfl⟩ (fun Γ20 q20 fq20 hs20 hB20 tq20 => ?_)
  have hx20 := zxt_tr hx19 hs20
  replace hO := zOk_x hs20 hO
  refine v_putr (pc := 889) (k := 39) C hin dX9_init_889 fl_X9_72 rfl (by decide) (by decide) ?_
  replace hO := zOk_s (k := 39) hO (by decide) (by decide) tq20
  refine v_aload_n (pc := 892) C dX9_init_892 rfl ?_
  refine v_bipush (pc := 893) C dX9_init_893 (by decide) ?_
  refine v_newi0 (pc := 895) C hx20 hB20 77 dX9_init_895 ac_int a_77 rfl (by decide) (by decide) ⟨Nat.le_of_ble_eq_true rfl, Nat.le_of_ble_eq_true rfl⟩ (fun Γ21 q21 fq21 hs21 hB21 tq21 => ?_)
  have hx21 := zxt_tr hx20 hs21
  replace hO := zOk_x hs21 hO
  refine v_putr (pc := 897) (k := 40) C hin dX9_init_897 fl_X9_75 rfl (by decide) (by decide) ?_
  replace hO := zOk_s (k := 40) hO (by decide) (by decide) tq21
  refine v_aload_n (pc := 900) C dX9_init_900 rfl ?_
  refine v_bipush (pc := 901) C dX9_init_901 (by decide) ?_
  refine v_newi0 (pc := 903) C hx21 hB21 78 dX9_init_903 ac_int a_78 rfl (by decide) (by decide) ⟨Nat.le_of_ble_eq_true rfl, Nat.le_of_ble_eq_true rfl⟩ (fun Γ22 q22 fq22 hs22 hB22 tq22 => ?_)
  have hx22 := zxt_tr hx21 hs22
  replace hO := zOk_x hs22 hO
  refine v_putr (pc := 905) (k := 41) C hin dX9_init_905 fl_X9_78 rfl (by decide) (by decide) ?_
  replace hO := zOk_s (k := 41) hO (by decide) (by decide) tq22
  refine v_aload_n (pc := 908) C dX9_init_908 rfl ?_
  refine v_bipush (pc := 909) C dX9_init_909 (by decide) ?_
  refine v_newj0 (pc := 911) C hx22 hB22 79 dX9_init_911 ac_long a_79 rfl (by decide) (by decide) ⟨Nat.le_of_ble_eq_true rfl, Nat.le_of_ble_eq_true rfl⟩ (fun Γ23 q23 fq23 hs23 hB23 tq23 => ?_)
  have hx23 := zxt_tr hx22 hs23
  replace hO := zOk_x hs23 hO
  refine v_putr (pc := 913) (k := 48) C hin dX9_init_913 fl_X9_81 rfl (by decide) (by decide) ?_
  replace hO := zOk_s (k := 48) hO (by decide) (by decide) tq23
  refine v_aload_n (pc := 916) C dX9_init_916 rfl ?_
  refine v_bipush (pc := 917) C dX9_init_917 (by decide) ?_
  refine v_newj0 (pc := 919) C hx23 hB23 80 dX9_init_919 ac_long a_80 rfl (by decide) (by decide) ⟨Nat.le_of_ble_eq_true rfl, Nat.le_of_ble_eq_true rfl⟩ (fun Γ24 q24 fq24 hs24 hB24 tq24 => ?_)
  have hx24 := zxt_tr hx23 hs24
  replace hO := zOk_x hs24 hO
  refine v_putr (pc := 921) (k := 49) C hin dX9_init_921 fl_X9_85 rfl (by decide) (by decide) ?_
  replace hO := zOk_s (k := 49) hO (by decide) (by decide) tq24
  refine v_aload_n (pc := 924) C dX9_init_924 rfl ?_
  refine v_bipush (pc := 925) C dX9_init_925 (by decide) ?_
  refine v_newi0 (pc := 927) C hx24 hB24 81 dX9_init_927 ac_int a_81 rfl (by decide) (by decide) ⟨Nat.le_of_ble_eq_true rfl, Nat.le_of_ble_eq_true rfl⟩ (fun Γ25 q25 fq25 hs25 hB25 tq25 => ?_)
  have hx25 := zxt_tr hx24 hs25
  replace hO := zOk_x hs25 hO
  refine v_putr (pc := 929) (k := 51) C hin dX9_init_929 fl_X9_88 rfl (by decide) (by decide) ?_
  replace hO := zOk_s (k := 51) hO (by decide) (by decide) tq25
  refine v_aload_n (pc := 932) C dX9_init_932 rfl ?_
  refine v_bipush (pc := 933) C dX9_init_933 (by decide) ?_
  refine v_newi0 (pc := 935) C hx25 hB25 82 dX9_init_935 ac_int a_82 rfl (by decide) (by decide) ⟨Nat.le_of_ble_eq_true rfl, Nat.le_of_ble_eq_true rfl⟩ (fun Γ26 q26 fq26 hs26 hB26 tq26 => ?_)
  have hx26 := zxt_tr hx25 hs26
  replace hO := zOk_x hs26 hO
  refine v_putr (pc := 937) (k := 52) C hin dX9_init_937 fl_X9_91 rfl (by decide) (by decide) ?_
  replace hO := zOk_s (k := 52) hO (by decide) (by decide) tq26
  refine v_aload_n (pc := 940) C dX9_init_940 rfl ?_
  refine v_bipush (pc := 941) C dX9_init_941 (by decide) ?_
  refine v_newi0 (pc := 943) C hx26 hB26 83 dX9_init_943 ac_int a_83 rfl (by decide) (by decide) ⟨Nat.le_of_ble_eq_true rfl, Nat.le_of_ble_eq_true rfl⟩ (fun Γ27 q27 fq27 hs27 hB27 tq27 => ?_)
  have hx27 := zxt_tr hx26 hs27
  replace hO := zOk_x hs27 hO
  refine v_putr (pc := 945) (k := 53) C hin dX9_init_945 fl_X9_94 rfl (by decide) (by decide) ?_
  replace hO := zOk_s (k := 53) hO (by decide) (by decide) tq27
  refine v_aload_n (pc := 948) C dX9_init_948 rfl ?_
  refine v_bipush (pc := 949) C dX9_init_949 (by decide) ?_
  refine v_newi0 (pc := 951) C hx27 hB27 84 dX9_init_951 ac_int a_84 rfl (by decide) (by decide) ⟨Nat.le_of_ble_eq_true rfl, Nat.le_of_ble_eq_true rfl⟩ (fun Γ28 q28 fq28 hs28 hB28 tq28 => ?_)
  have hx28 := zxt_tr hx27 hs28
  replace hO := zOk_x hs28 hO
  refine v_putr (pc := 953) (k := 54) C hin dX9_init_953 fl_X9_97 rfl (by decide) (by decide) ?_
  replace hO := zOk_s (k := 54) hO (by decide) (by decide) tq28
  refine v_aload_n (pc := 956) C dX9_init_956 rfl ?_
  refine v_bipush (pc := 957) C dX9_init_957 (by decide) ?_
  refine v_newi0 (pc := 959) C hx28 hB28 85 dX9_init_959 ac_int a_85 rfl (by decide) (by decide) ⟨Nat.le_of_ble_eq_true rfl, Nat.le_of_ble_eq_true rfl⟩ (fun Γ29 q29 fq29 hs29 hB29 tq29 => ?_)
  have hx29 := zxt_tr hx28 hs29
  replace hO := zOk_x hs29 hO
  refine v_putr (pc := 961) (k := 55) C hin dX9_init_961 fl_X9_100 rfl (by decide) (by decide) ?_
  replace hO := zOk_s (k := 55) hO (by decide) (by decide) tq29
  refine v_aload_n (pc := 964) C dX9_init_964 rfl ?_
  refine v_bipush (pc := 965) C dX9_init_965 (by decide) ?_
  refine v_newi0 (pc := 967) C hx29 hB29 86 dX9_init_967 ac_int a_86 rfl (by decide) (by decide) ⟨Nat.le_of_ble_eq_true rfl, Nat.le_of_ble_eq_true rfl⟩ (fun Γ30 q30 fq30 hs30 hB30 tq30 => ?_)
  have hx30 := zxt_tr hx29 hs30
  replace hO := zOk_x hs30 hO
  refine v_putr (pc := 969) (k := 56) C hin dX9_init_969 fl_X9_103 rfl (by decide) (by decide) ?_
  replace hO := zOk_s (k := 56) hO (by decide) (by decide) tq30
  refine v_aload_n (pc := 972) C dX9_init_972 rfl ?_
  refine v_iconst (pc := 973) C dX9_init_973 ?_
  refine v_newi0 (pc := 974) C hx30 hB30 87 dX9_init_974 ac_int a_87 rfl (by decide) (by decide) ⟨Nat.le_of_ble_eq_true rfl, Nat.le_of_ble_eq_true rfl⟩ (fun Γ31 q31 fq31 hs31 hB31 tq31 => ?_)
  have hx31 := zxt_tr hx30 hs31
  replace hO := zOk_x hs31 hO
  refine v_putr (pc := 976) (k := 57) C hin dX9_init_976 fl_X9_106 rfl (by decide) (by decide) ?_
  replace hO := zOk_s (k := 57) hO (by decide) (by decide) tq31
  refine v_aload_n (pc := 979) C dX9_init_979 rfl ?_
  refine v_iconst (pc := 980) C dX9_init_980 ?_
  refine v_newi0 (pc := 981) C hx31 hB31 88 dX9_init_981 ac_int a_88 rfl (by decide) (by decide) ⟨Nat.le_of_ble_eq_true rfl, Nat.le_of_ble_eq_true rfl⟩ (fun Γ32 q32 fq32 hs32 hB32 tq32 => ?_)
  have hx32 := zxt_tr hx31 hs32
  replace hO := zOk_x hs32 hO
  refine v_putr (pc := 983) (k := 58) C hin dX9_init_983 fl_X9_109 rfl (by decide) (by decide) ?_
  replace hO := zOk_s (k := 58) hO (by decide) (by decide) tq32
  refine v_aload_n (pc := 986) C dX9_init_986 rfl ?_
  refine v_iconst (pc := 987) C dX9_init_987 ?_
  refine v_newi0 (pc := 988) C hx32 hB32 89 dX9_init_988 ac_int a_89 rfl (by decide) (by decide) ⟨Nat.le_of_ble_eq_true rfl, Nat.le_of_ble_eq_true rfl⟩ (fun Γ33 q33 fq33 hs33 hB33 tq33 => ?_)
  have hx33 := zxt_tr hx32 hs33
  replace hO := zOk_x hs33 hO
  refine v_putr (pc := 990) (k := 59) C hin dX9_init_990 fl_X9_112 rfl (by decide) (by decide) ?_
  replace hO := zOk_s (k := 59) hO (by decide) (by decide) tq33
  refine v_aload_n (pc := 993) C dX9_init_993 rfl ?_
  refine v_iconst (pc := 994) C dX9_init_994 ?_
  refine v_newi0 (pc := 995) C hx33 hB33 90 dX9_init_995 ac_int a_90 rfl (by decide) (by decide) ⟨Nat.le_of_ble_eq_true rfl, Nat.le_of_ble_eq_true rfl⟩ (fun Γ34 q34 fq34 hs34 hB34 tq34 => ?_)
  have hx34 := zxt_tr hx33 hs34
  replace hO := zOk_x hs34 hO
  refine v_putr (pc := 997) (k := 60) C hin dX9_init_997 fl_X9_115 rfl (by decide) (by decide) ?_
  replace hO := zOk_s (k := 60) hO (by decide) (by decide) tq34
  refine v_aload_n (pc := 1000) C dX9_init_1000 rfl ?_
  refine v_bipush (pc := 1001) C dX9_init_1001 (by decide) ?_
  refine v_newi0 (pc := 1003) C hx34 hB34 91 dX9_init_1003 ac_int a_91 rfl (by decide) (by decide) ⟨Nat.le_of_ble_eq_true rfl, Nat.le_of_ble_eq_true rfl⟩ (fun Γ35 q35 fq35 hs35 hB35 tq35 => ?_)
  have hx35 := zxt_tr hx34 hs35
  replace hO := zOk_x hs35 hO
  refine v_putr (pc := 1005) (k := 62) C hin dX9_init_1005 fl_X9_118 rfl (by decide) (by decide) ?_
  replace hO := zOk_s (k := 62) hO (by decide) (by decide) tq35
  refine v_aload_n (pc := 1008) C dX9_init_1008 rfl ?_
  refine v_bipush (pc := 1009) C dX9_init_1009 (by decide) ?_
  refine v_newi0 (pc := 1011) C hx35 hB35 92 dX9_init_1011 ac_int a_92 rfl (by decide) (by decide) ⟨Nat.le_of_ble_eq_true rfl, Nat.le_of_ble_eq_true rfl⟩ (fun Γ36 q36 fq36 hs36 hB36 tq36 => ?_)
  have hx36 := zxt_tr hx35 hs36
  replace hO := zOk_x hs36 hO
  refine v_putr (pc := 1013) (k := 63) C hin dX9_init_1013 fl_X9_121 rfl (by decide) (by decide) ?_
  replace hO := zOk_s (k := 63) hO (by decide) (by decide) tq36
  refine v_aload_n (pc := 1016) C dX9_init_1016 rfl ?_
  refine v_bipush (pc := 1017) C dX9_init_1017 (by decide) ?_
  refine v_newi0 (pc := 1019) C hx36 hB36 93 dX9_init_1019 ac_int a_93 rfl (by decide) (by decide) ⟨Nat.le_of_ble_eq_true rfl, Nat.le_of_ble_eq_true rfl⟩ (fun Γ37 q37 fq37 hs37 hB37 tq37 => ?_)
  have hx37 := zxt_tr hx36 hs37
  replace hO := zOk_x hs37 hO
  refine v_putr (pc := 1021) (k := 64) C hin dX9_init_1021 fl_X9_124 rfl (by decide) (by decide) ?_
  replace hO := zOk_s (k := 64) hO (by decide) (by decide) tq37
  refine v_aload_n (pc := 1024) C dX9_init_1024 rfl ?_
  refine v_bipush (pc := 1025) C dX9_init_1025 (by decide) ?_
  refine v_newi0 (pc := 1027) C hx37 hB37 94 dX9_init_1027 ac_int a_94 rfl (by decide) (by decide) ⟨Nat.le_of_ble_eq_true rfl, Nat.le_of_ble_eq_true rfl⟩ (fun Γ38 q38 fq38 hs38 hB38 tq38 => ?_)
  have hx38 := zxt_tr hx37 hs38
  replace hO := zOk_x hs38 hO
  refine v_putr (pc := 1029) (k := 65) C hin dX9_init_1029 fl_X9_127 rfl (by decide) (by decide) ?_
  replace hO := zOk_s (k := 65) hO (by decide) (by decide) tq38
  refine v_aload_n (pc := 1032) C dX9_init_1032 rfl ?_
  refine v_bipush (pc := 1033) C dX9_init_1033 (by decide) ?_
  refine v_newi0 (pc := 1035) C hx38 hB38 95 dX9_init_1035 ac_int a_95 rfl (by decide) (by decide) ⟨Nat.le_of_ble_eq_true rfl, Nat.le_of_ble_eq_true rfl⟩ (fun Γ39 q39 fq39 hs39 hB39 tq39 => ?_)
  have hx39 := zxt_tr hx38 hs39
  replace hO := zOk_x hs39 hO
  refine v_putr (pc := 1037) (k := 66) C hin dX9_init_1037 fl_X9_130 rfl (by decide) (by decide) ?_
  replace hO := zOk_s (k := 66) hO (by decide) (by decide) tq39
  refine v_aload_n (pc := 1040) C dX9_init_1040 rfl ?_
  refine v_bipush (pc := 1041) C dX9_init_1041 (by decide) ?_
  refine v_newi0 (pc := 1043) C hx39 hB39 96 dX9_init_1043 ac_int a_96 rfl (by decide) (by decide) ⟨Nat.le_of_ble_eq_true rfl, Nat.le_of_ble_eq_true rfl⟩ (fun Γ40 q40 fq40 hs40 hB40 tq40 => ?_)
  have hx40 := zxt_tr hx39 hs40
  replace hO := zOk_x hs40 hO
  refine v_putr (pc := 1045) (k := 67) C hin dX9_init_1045 fl_X9_133 rfl (by decide) (by decide) ?_
  replace hO := zOk_s (k := 67) hO (by decide) (by decide) tq40
  refine v_aload_n (pc := 1048) C dX9_init_1048 rfl ?_
  refine v_bipush (pc := 1049) C dX9_init_1049 (by decide) ?_
  refine v_newi0 (pc := 1051) C hx40 hB40 97 dX9_init_1051 ac_int a_97 rfl (by decide) (by decide) ⟨Nat.le_of_ble_eq_true rfl, Nat.le_of_ble_eq_true rfl⟩ (fun Γ41 q41 fq41 hs41 hB41 tq41 => ?_)
  have hx41 := zxt_tr hx40 hs41
  replace hO := zOk_x hs41 hO
  refine v_putr (pc := 1053) (k := 68) C hin dX9_init_1053 fl_X9_136 rfl (by decide) (by decide) ?_
  replace hO := zOk_s (k := 68) hO (by decide) (by decide) tq41
  refine v_aload_n (pc := 1056) C dX9_init_1056 rfl ?_
  refine v_bipush (pc := 1057) C dX9_init_1057 (by decide) ?_
  refine v_newi0 (pc := 1059) C hx41 hB41 98 dX9_init_1059 ac_int a_98 rfl (by decide) (by decide) ⟨Nat.le_of_ble_eq_true rfl, Nat.le_of_ble_eq_true rfl⟩ (fun Γ42 q42 fq42 hs42 hB42 tq42 => ?_)
  have hx42 := zxt_tr hx41 hs42
  replace hO := zOk_x hs42 hO
  refine v_putr (pc := 1061) (k := 69) C hin dX9_init_1061 fl_X9_139 rfl (by decide) (by decide) ?_
  replace hO := zOk_s (k := 69) hO (by decide) (by decide) tq42
  refine v_aload_n (pc := 1064) C dX9_init_1064 rfl ?_
  refine v_bipush (pc := 1065) C dX9_init_1065 (by decide) ?_
  refine v_newi0 (pc := 1067) C hx42 hB42 99 dX9_init_1067 ac_int a_99 rfl (by decide) (by decide) ⟨Nat.le_of_ble_eq_true rfl, Nat.le_of_ble_eq_true rfl⟩ (fun Γ43 q43 fq43 hs43 hB43 tq43 => ?_)
  have hx43 := zxt_tr hx42 hs43
  replace hO := zOk_x hs43 hO
  refine v_putr (pc := 1069) (k := 70) C hin dX9_init_1069 fl_X9_142 rfl (by decide) (by decide) ?_
  replace hO := zOk_s (k := 70) hO (by decide) (by decide) tq43
  refine v_aload_n (pc := 1072) C dX9_init_1072 rfl ?_
  refine v_bipush (pc := 1073) C dX9_init_1073 (by decide) ?_
  refine v_newi0 (pc := 1075) C hx43 hB43 100 dX9_init_1075 ac_int a_100 rfl (by decide) (by decide) ⟨Nat.le_of_ble_eq_true rfl, Nat.le_of_ble_eq_true rfl⟩ (fun Γ44 q44 fq44 hs44 hB44 tq44 => ?_)
  have hx44 := zxt_tr hx43 hs44
  replace hO := zOk_x hs44 hO
  refine v_putr (pc := 1077) (k := 71) C hin dX9_init_1077 fl_X9_145 rfl (by decide) (by decide) ?_
  replace hO := zOk_s (k := 71) hO (by decide) (by decide) tq44
  refine v_aload_n (pc := 1080) C dX9_init_1080 rfl ?_
  refine v_iconst (pc := 1081) C dX9_init_1081 ?_
  refine v_puti (pc := 1082) (k := 74) C dX9_init_1082 fl_X9_148 f_10_74 ?_
  refine v_aload_n (pc := 1085) C dX9_init_1085 rfl ?_
  refine v_iconst (pc := 1086) C dX9_init_1086 ?_
  refine v_newi0 (pc := 1087) C hx44 hB44 101 dX9_init_1087 ac_int a_101 rfl (by decide) (by decide) ⟨Nat.le_of_ble_eq_true rfl, Nat.le_of_ble_eq_true rfl⟩ (fun Γ45 q45 fq45 hs45 hB45 tq45 => ?_)
  have hx45 := zxt_tr hx44 hs45
  replace hO := zOk_x hs45 hO
  refine v_putr (pc := 1089) (k := 76) C hin dX9_init_1089 fl_X9_151 rfl (by decide) (by decide) ?_
  replace hO := zOk_s (k := 76) hO (by decide) (by decide) tq45
  refine v_aload_n (pc := 1092) C dX9_init_1092 rfl ?_
  refine v_iconst (pc := 1093) C dX9_init_1093 ?_
  refine v_newi0 (pc := 1094) C hx45 hB45 102 dX9_init_1094 ac_int a_102 rfl (by decide) (by decide) ⟨Nat.le_of_ble_eq_true rfl, Nat.le_of_ble_eq_true rfl⟩ (fun Γ46 q46 fq46 hs46 hB46 tq46 => ?_)
  have hx46 := zxt_tr hx45 hs46
  replace hO := zOk_x hs46 hO
  refine v_putr (pc := 1096) (k := 77) C hin dX9_init_1096 fl_X9_154 rfl (by decide) (by decide) ?_
  replace hO := zOk_s (k := 77) hO (by decide) (by decide) tq46
  refine v_aload_n (pc := 1099) C dX9_init_1099 rfl ?_
  refine v_iconst (pc := 1100) C dX9_init_1100 ?_
  refine v_newi0 (pc := 1101) C hx46 hB46 103 dX9_init_1101 ac_int a_103 rfl (by decide) (by decide) ⟨Nat.le_of_ble_eq_true rfl, Nat.le_of_ble_eq_true rfl⟩ (fun Γ47 q47 fq47 hs47 hB47 tq47 => ?_)
  have hx47 := zxt_tr hx46 hs47
  replace hO := zOk_x hs47 hO
  refine v_putr (pc := 1103) (k := 80) C hin dX9_init_1103 fl_X9_157 rfl (by decide) (by decide) ?_
  replace hO := zOk_s (k := 80) hO (by decide) (by decide) tq47
  refine v_aload_n (pc := 1106) C dX9_init_1106 rfl ?_
  refine v_iconst (pc := 1107) C dX9_init_1107 ?_
  refine v_newi0 (pc := 1108) C hx47 hB47 104 dX9_init_1108 ac_int a_104 rfl (by decide) (by decide) ⟨Nat.le_of_ble_eq_true rfl, Nat.le_of_ble_eq_true rfl⟩ (fun Γ48 q48 fq48 hs48 hB48 tq48 => ?_)
  have hx48 := zxt_tr hx47 hs48
  replace hO := zOk_x hs48 hO
  refine v_putr (pc := 1110) (k := 81) C hin dX9_init_1110 fl_X9_160 rfl (by decide) (by decide) ?_
  replace hO := zOk_s (k := 81) hO (by decide) (by decide) tq48
  refine v_aload_n (pc := 1113) C dX9_init_1113 rfl ?_
  refine v_sipush (pc := 1114) C dX9_init_1114 (by decide) ?_
  refine v_newi0 (pc := 1117) C hx48 hB48 105 dX9_init_1117 ac_int a_105 rfl (by decide) (by decide) ⟨Nat.le_of_ble_eq_true rfl, Nat.le_of_ble_eq_true rfl⟩ (fun Γ49 q49 fq49 hs49 hB49 tq49 => ?_)
  have hx49 := zxt_tr hx48 hs49
  replace hO := zOk_x hs49 hO
  refine v_putr (pc := 1119) (k := 85) C hin dX9_init_1119 fl_X9_163 rfl (by decide) (by decide) ?_
  replace hO := zOk_s (k := 85) hO (by decide) (by decide) tq49
  refine v_aload_n (pc := 1122) C dX9_init_1122 rfl ?_
  refine v_bipush (pc := 1123) C dX9_init_1123 (by decide) ?_
  refine v_newi0 (pc := 1125) C hx49 hB49 106 dX9_init_1125 ac_int a_106 rfl (by decide) (by decide) ⟨Nat.le_of_ble_eq_true rfl, Nat.le_of_ble_eq_true rfl⟩ (fun Γ50 q50 fq50 hs50 hB50 tq50 => ?_)
  have hx50 := zxt_tr hx49 hs50
  replace hO := zOk_x hs50 hO
  refine v_putr (pc := 1127) (k := 89) C hin dX9_init_1127 fl_X9_166 rfl (by decide) (by decide) ?_
  replace hO := zOk_s (k := 89) hO (by decide) (by decide) tq50
  refine v_aload_n (pc := 1130) C dX9_init_1130 rfl ?_
  refine v_sipush (pc := 1131) C dX9_init_1131 (by decide) ?_
  refine v_newi0 (pc := 1134) C hx50 hB50 107 dX9_init_1134 ac_int a_107 rfl (by decide) (by decide) ⟨Nat.le_of_ble_eq_true rfl, Nat.le_of_ble_eq_true rfl⟩ (fun Γ51 q51 fq51 hs51 hB51 tq51 => ?_)
  have hx51 := zxt_tr hx50 hs51
  replace hO := zOk_x hs51 hO
  refine v_putr (pc := 1136) (k := 90) C hin dX9_init_1136 fl_X9_169 rfl (by decide) (by decide) ?_
  replace hO := zOk_s (k := 90) hO (by decide) (by decide) tq51
  refine v_adopt0 (Γ0 := Γ) hB51 (by decide) (by decide) (by decide +kernel) (by decide +kernel) hO (by decide +kernel) (fun Γe Ge hse hBe the eΓ eG => ?_)
  have hx52 := zxt_tr hx51 hse
  have th0 := the
  refine v_aload_n (pc := 1139) C dX9_init_1139 rfl ?_
  have m0 : MI Γe h0 Ge := by
    refine MI_mk (fun k => ?_) (fun i => ?_)
    · rw [eG, zag_r (Or.inr (by decide)), eΓ, zad_2, if_pos rfl]
      exact (hB.2.2 q15 fz34).1 2071 k
    · rw [eG, zag_r (Or.inr (by decide)), eΓ, zad_2, if_pos rfl]
      exact (hB.2.2 q18 fz37).1 2074 i
  refine v_call00 (pc := 1140) C hx52 dX9_init_1140 v_X9_172 (by decide) (c_X9_plain (zxt_Xs hx52 hX) m0) hBe (zk_of th0 (by decide) (by decide)) ⟨Nat.le_of_ble_eq_true rfl, Nat.le_of_ble_eq_true rfl⟩ ⟨Nat.le_of_ble_eq_true rfl, Nat.le_of_ble_eq_true rfl⟩ (Nat.le_of_ble_eq_true rfl) (fun Gp hpp hBp => ?_)
  obtain ⟨zp, mp, rp⟩ := hpp
  have mp2 := MI_no hBp.1 th0 mp
  have rp2 := RC_no hBp.1 th0 rp
  refine v_aload_n (pc := 1143) C dX9_init_1143 rfl ?_
  refine v_call00 (pc := 1144) C hx52 dX9_init_1144 v_X9_175 (by decide) (c_X9_keepText (zxt_Xs hx52 hX) mp2 rp2) hBp (zk_of th0 (by decide) (by decide)) ⟨Nat.le_of_ble_eq_true rfl, Nat.le_of_ble_eq_true rfl⟩ ⟨Nat.le_of_ble_eq_true rfl, Nat.le_of_ble_eq_true rfl⟩ (Nat.le_of_ble_eq_true rfl) (fun Gk hpk hBk => ?_)
  obtain ⟨zk9, mk9⟩ := hpk
  have mk2 := MI_no hBk.1 th0 mk9
  have key : ∀ (r a : Nat), Γe.1 a ≠ 0 → (r = 901 ∨ r = 1001) → (zno Γe Gk).1 r a 0 = Ge.1 r a 0 := by
    intro r a ha hr9
    rw [zno_1 ha, zk9.1 r (by rcases hr9 with rfl | rfl <;> decide), zno_1 ha, zp.1 r (by rcases hr9 with rfl | rfl <;> decide)]
  have hpost : MI Γe h0 (zno Γe Gk) ∧ (zno Γe Gk).1 1001 h0 0 = 0 ∧ ∀ a, Γ.1 a ≠ 0 → (zno Γe Gk).1 901 a 0 = G.1 901 a 0 := by
    refine ⟨mk2, ?_, fun a ha => ?_⟩
    · rw [key 1001 h0 (by rw [th0]; decide) (Or.inr rfl), eG]
      exact zag_at (t := 10) (k := 1) (by decide)
    · rw [key 901 a (by rw [(hx52.2.2.2 a ha).1]; exact ha) (Or.inl rfl), eG, zag_r (Or.inl (by decide))]
  refine v_widen (k := 51) (n := 5897) (Nat.le_of_ble_eq_true rfl) (Nat.le_of_ble_eq_true rfl) ?_
  exact v_ret (Γ0 := Γ) (zCv_x C hx52) hr hlk dX9_init_1147 hx52 hBk th0 hpost
