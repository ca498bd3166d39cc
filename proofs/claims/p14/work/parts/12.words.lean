theorem lw_q1 {q : MethodName × Nat} (h : q ∈ lw_privs_1) : q ∈ lw_privs := List.mem_append_left _ (h)
theorem lw_q2 {q : MethodName × Nat} (h : q ∈ lw_privs_2) : q ∈ lw_privs := List.mem_append_right _ (List.mem_append_left _ (h))
theorem lw_q3 {q : MethodName × Nat} (h : q ∈ lw_privs_3) : q ∈ lw_privs := List.mem_append_right _ (List.mem_append_right _ (List.mem_append_left _ (h)))
theorem lw_q4 {q : MethodName × Nat} (h : q ∈ lw_privs_4) : q ∈ lw_privs := List.mem_append_right _ (List.mem_append_right _ (List.mem_append_right _ (List.mem_append_left _ (h))))
theorem lw_q5 {q : MethodName × Nat} (h : q ∈ lw_privs_5) : q ∈ lw_privs := List.mem_append_right _ (List.mem_append_right _ (List.mem_append_right _ (List.mem_append_right _ (List.mem_append_left _ (h)))))
theorem lw_q6 {q : MethodName × Nat} (h : q ∈ lw_privs_6) : q ∈ lw_privs := List.mem_append_right _ (List.mem_append_right _ (List.mem_append_right _ (List.mem_append_right _ (List.mem_append_right _ (List.mem_append_left _ (h))))))
theorem lw_q7 {q : MethodName × Nat} (h : q ∈ lw_privs_7) : q ∈ lw_privs := List.mem_append_right _ (List.mem_append_right _ (List.mem_append_right _ (List.mem_append_right _ (List.mem_append_right _ (List.mem_append_right _ (List.mem_append_left _ (h)))))))
theorem lw_q8 {q : MethodName × Nat} (h : q ∈ lw_privs_8) : q ∈ lw_privs := List.mem_append_right _ (List.mem_append_right _ (List.mem_append_right _ (List.mem_append_right _ (List.mem_append_right _ (List.mem_append_right _ (List.mem_append_right _ ((h))))))))
def zWc (own : String) (idx : Nat) : Prop := Cond.methodLink own idx arraycopyName ∈ zTb ∧ Cond.native arraycopyName ∈ zTb ∧ Cond.static arraycopyName ∈ zTb ∧ Cond.initialized "java/lang/System" ∈ zTb
theorem w_X0_9 : zLk RX0 9 1 0 := Or.inl (zTb_2 219 rfl rfl)
theorem w_X0_15 : zLk RX0 15 1 1 := Or.inl (zTb_2 220 rfl rfl)
theorem w_X0_18 : zLk RX0 18 1 2 := Or.inl (zTb_2 222 rfl rfl)
theorem w_X0_22 : zLk RX0 22 8 0 := Or.inr ⟨"ConfessionMill", List.mem_of_getElem? (i := 58) rfl⟩
theorem w_X0_28 : zLk RX0 28 6 2 := Or.inr ⟨"ConfessionMill", List.mem_of_getElem? (i := 9) rfl⟩
theorem w_X0_33 : zLk RX0 33 1 3 := Or.inl (zTb_2 223 rfl rfl)
theorem im_X7_pairValue : Cond.instanceMethod yX7_pairValue ∈ zTb := zTb_4 76 rfl rfl
theorem se_X7_pairValue : Cond.selects RX7 yX7_pairValue yX7_pairValue ∈ zTb := zTb_4 77 rfl rfl
theorem i_X7 : Cond.initialized RX7 ∈ zTb := zTb_1 10 rfl rfl
theorem k_X7_pairValue : Cond.code yX7_pairValue cX7_pairValue 3 (some .long) ∈ zTb := zTb_4 78 rfl rfl
theorem v_X0_37 : zWv RX0 37 yX7_pairValue 8 cX7_pairValue 3 (some .long) 2 := ⟨⟨zTb_5 125 rfl rfl, im_X7_pairValue, se_X7_pairValue, i_X7, k_X7_pairValue⟩, by decide +kernel, by decide +kernel, by decide +kernel, by decide +kernel⟩
theorem q_X0_41 : Jvm.Cond.constantLong RX0 41 (-9223372036854775808) ∈ zTb := zTb_5 126 rfl rfl
theorem w_X0_43 : zLk RX0 43 1 5 := Or.inl (zTb_2 226 rfl rfl)
theorem w_X0_47 : zLk RX0 47 1 4 := Or.inl (zTb_2 224 rfl rfl)
theorem im_X0_pairFrom : Cond.instanceMethod yX0_pairFrom ∈ zTb := zTb_5 129 rfl rfl
theorem se_X0_pairFrom : Cond.selects RX0 yX0_pairFrom yX0_pairFrom ∈ zTb := zTb_s (n := 6) (lw_q4 (List.mem_of_getElem? (i := 2) rfl)) rfl
theorem i_X0 : Cond.initialized RX0 ∈ zTb := zTb_1 15 rfl rfl
theorem k_X0_pairFrom : Cond.code yX0_pairFrom cX0_pairFrom 7 none ∈ zTb := zTb_5 130 rfl rfl
theorem v_X0_51 : zWv RX0 51 yX0_pairFrom 1 cX0_pairFrom 7 none 4 := ⟨⟨zTb_5 127 rfl rfl, im_X0_pairFrom, se_X0_pairFrom, i_X0, k_X0_pairFrom⟩, by decide +kernel, by decide +kernel, by decide +kernel, by decide +kernel⟩
theorem im_X0_takeIfMore : Cond.instanceMethod yX0_takeIfMore ∈ zTb := zTb_5 133 rfl rfl
theorem se_X0_takeIfMore : Cond.selects RX0 yX0_takeIfMore yX0_takeIfMore ∈ zTb := zTb_s (n := 6) (lw_q4 (List.mem_of_getElem? (i := 3) rfl)) rfl
theorem k_X0_takeIfMore : Cond.code yX0_takeIfMore cX0_takeIfMore 3 none ∈ zTb := zTb_5 134 rfl rfl
theorem v_X0_55 : zWv RX0 55 yX0_takeIfMore 1 cX0_takeIfMore 3 none 1 := ⟨⟨zTb_5 131 rfl rfl, im_X0_takeIfMore, se_X0_takeIfMore, i_X0, k_X0_takeIfMore⟩, by decide +kernel, by decide +kernel, by decide +kernel, by decide +kernel⟩
theorem ac_X0_59 : zWc RX0 59 := ⟨zTb_5 135 rfl rfl, zTb_2 118 rfl rfl, zTb_2 117 rfl rfl, zTb_1 12 rfl rfl⟩
theorem w_X1_11 : zLk RX1 11 2 0 := Or.inl (zTb_1 141 rfl rfl)
theorem w_X1_15 : zLk RX1 15 2 1 := Or.inl (zTb_1 142 rfl rfl)
theorem w_X1_18 : zLk RX1 18 2 2 := Or.inl (zTb_1 143 rfl rfl)
theorem w_X1_21 : zLk RX1 21 2 3 := Or.inl (zTb_1 144 rfl rfl)
theorem w_X1_24 : zLk RX1 24 2 4 := Or.inl (zTb_1 145 rfl rfl)
theorem w_X1_28 : zLk RX1 28 2 5 := Or.inl (zTb_1 146 rfl rfl)
theorem sm_J7_fill_53178 : Cond.static yJ7_fill_53178 ∈ zTb := zTb_2 120 rfl rfl
theorem i_J7 : Cond.initialized RJ7 ∈ zTb := zTb_1 13 rfl rfl
theorem k_J7_fill_53178 : Cond.code yJ7_fill_53178 cJ7_fill_53178 4 none ∈ zTb := zTb_2 121 rfl rfl
theorem s_X1_31 : zWs RX1 31 yJ7_fill_53178 cJ7_fill_53178 4 none 2 := ⟨⟨zTb_3 100 rfl rfl, sm_J7_fill_53178, i_J7, k_J7_fill_53178⟩, by decide +kernel, by decide +kernel, by decide +kernel⟩
theorem w_X1_37 : zLk RX1 37 2 6 := Or.inl (zTb_1 147 rfl rfl)
theorem w_X1_41 : zLk RX1 41 2 7 := Or.inl (zTb_1 148 rfl rfl)
theorem im_X1_isTold : Cond.instanceMethod yX1_isTold ∈ zTb := zTb_3 163 rfl rfl
theorem se_X1_isTold : Cond.selects RX1 yX1_isTold yX1_isTold ∈ zTb := zTb_3 164 rfl rfl
theorem i_X1 : Cond.initialized RX1 ∈ zTb := zTb_1 9 rfl rfl
theorem k_X1_isTold : Cond.code yX1_isTold cX1_isTold 2 (some .boolean) ∈ zTb := zTb_3 165 rfl rfl
theorem v_X1_44 : zWv RX1 44 yX1_isTold 2 cX1_isTold 2 (some .boolean) 1 := ⟨⟨zTb_4 49 rfl rfl, im_X1_isTold, se_X1_isTold, i_X1, k_X1_isTold⟩, by decide +kernel, by decide +kernel, by decide +kernel, by decide +kernel⟩
theorem q_X1_48 : Jvm.Cond.constantLong RX1 48 (-9223372036854775808) ∈ zTb := zTb_4 50 rfl rfl
theorem sm_X1_join : Cond.static yX1_join ∈ zTb := zTb_4 52 rfl rfl
theorem k_X1_join : Cond.code yX1_join cX1_join 7 (some .long) ∈ zTb := zTb_4 53 rfl rfl
theorem s_X1_50 : zWs RX1 50 yX1_join cX1_join 7 (some .long) 3 := ⟨⟨zTb_4 51 rfl rfl, sm_X1_join, i_X1, k_X1_join⟩, by decide +kernel, by decide +kernel, by decide +kernel⟩
theorem q_X1_54 : Jvm.Cond.constantLong RX1 54 (1000000000000) ∈ zTb := zTb_4 54 rfl rfl
theorem q_X1_56 : Jvm.Cond.constantLong RX1 56 (-1000000000000) ∈ zTb := zTb_4 55 rfl rfl
theorem w_X2_9 : zLk RX2 9 3 1 := Or.inl (zTb_2 187 rfl rfl)
theorem w_X2_15 : zLk RX2 15 3 2 := Or.inl (zTb_2 188 rfl rfl)
theorem w_X2_18 : zLk RX2 18 3 3 := Or.inl (zTb_2 190 rfl rfl)
theorem w_X2_21 : zLk RX2 21 3 4 := Or.inl (zTb_2 192 rfl rfl)
theorem w_X2_24 : zLk RX2 24 3 5 := Or.inl (zTb_2 193 rfl rfl)
theorem w_X2_27 : zLk RX2 27 3 0 := Or.inl (zTb_2 186 rfl rfl)
theorem s_X2_31 : zWs RX2 31 yJ7_fill_53178 cJ7_fill_53178 4 none 2 := ⟨⟨zTb_3 234 rfl rfl, sm_J7_fill_53178, i_J7, k_J7_fill_53178⟩, by decide +kernel, by decide +kernel, by decide +kernel⟩
theorem w_X2_37 : zLk RX2 37 3 6 := Or.inl (zTb_2 194 rfl rfl)
theorem im_X7_copyFrom : Cond.instanceMethod yX7_copyFrom ∈ zTb := zTb_5 12 rfl rfl
theorem se_X7_copyFrom : Cond.selects RX7 yX7_copyFrom yX7_copyFrom ∈ zTb := zTb_5 13 rfl rfl
theorem k_X7_copyFrom : Cond.code yX7_copyFrom cX7_copyFrom 2 none ∈ zTb := zTb_5 14 rfl rfl
theorem v_X2_41 : zWv RX2 41 yX7_copyFrom 8 cX7_copyFrom 2 none 1 := ⟨⟨zTb_5 11 rfl rfl, im_X7_copyFrom, se_X7_copyFrom, i_X7, k_X7_copyFrom⟩, by decide +kernel, by decide +kernel, by decide +kernel, by decide +kernel⟩
theorem w_X2_47 : zLk RX2 47 8 0 := Or.inr ⟨"ConfessionMill", List.mem_of_getElem? (i := 59) rfl⟩
theorem w_X2_51 : zLk RX2 51 6 6 := Or.inr ⟨"ConfessionMill", List.mem_of_getElem? (i := 22) rfl⟩
theorem w_X2_56 : zLk RX2 56 3 7 := Or.inl (zTb_2 195 rfl rfl)
theorem w_X2_59 : zLk RX2 59 6 7 := Or.inr ⟨"ConfessionMill", List.mem_of_getElem? (i := 25) rfl⟩
theorem w_X2_62 : zLk RX2 62 8 1 := Or.inr ⟨"ConfessionMill", List.mem_of_getElem? (i := 60) rfl⟩
theorem im_X4_flourFrom : Cond.instanceMethod yX4_flourFrom ∈ zTb := zTb_4 190 rfl rfl
theorem se_X4_flourFrom : Cond.selects RX4 yX4_flourFrom yX4_flourFrom ∈ zTb := zTb_4 191 rfl rfl
theorem i_X4 : Cond.initialized RX4 ∈ zTb := zTb_1 11 rfl rfl
theorem k_X4_flourFrom : Cond.code yX4_flourFrom cX4_flourFrom 4 (some .int) ∈ zTb := zTb_4 192 rfl rfl
theorem v_X2_66 : zWv RX2 66 yX4_flourFrom 5 cX4_flourFrom 4 (some .int) 1 := ⟨⟨zTb_5 20 rfl rfl, im_X4_flourFrom, se_X4_flourFrom, i_X4, k_X4_flourFrom⟩, by decide +kernel, by decide +kernel, by decide +kernel, by decide +kernel⟩
theorem im_X2_take : Cond.instanceMethod yX2_take ∈ zTb := zTb_5 23 rfl rfl
theorem se_X2_take : Cond.selects RX2 yX2_take yX2_take ∈ zTb := zTb_s (n := 8) (lw_q3 (List.mem_of_getElem? (i := 8) rfl)) rfl
theorem i_X2 : Cond.initialized RX2 ∈ zTb := zTb_1 14 rfl rfl
theorem k_X2_take : Cond.code yX2_take cX2_take 3 none ∈ zTb := zTb_5 24 rfl rfl
theorem v_X2_72 : zWv RX2 72 yX2_take 3 cX2_take 3 none 2 := ⟨⟨zTb_5 21 rfl rfl, im_X2_take, se_X2_take, i_X2, k_X2_take⟩, by decide +kernel, by decide +kernel, by decide +kernel, by decide +kernel⟩
theorem im_X2_isHopeful : Cond.instanceMethod yX2_isHopeful ∈ zTb := zTb_5 28 rfl rfl
theorem se_X2_isHopeful : Cond.selects RX2 yX2_isHopeful yX2_isHopeful ∈ zTb := zTb_s (n := 8) (lw_q3 (List.mem_of_getElem? (i := 9) rfl)) rfl
theorem k_X2_isHopeful : Cond.code yX2_isHopeful cX2_isHopeful 6 (some .boolean) ∈ zTb := zTb_5 29 rfl rfl
theorem v_X2_76 : zWv RX2 76 yX2_isHopeful 3 cX2_isHopeful 6 (some .boolean) 3 := ⟨⟨zTb_5 26 rfl rfl, im_X2_isHopeful, se_X2_isHopeful, i_X2, k_X2_isHopeful⟩, by decide +kernel, by decide +kernel, by decide +kernel, by decide +kernel⟩
theorem im_X2_seek : Cond.instanceMethod yX2_seek ∈ zTb := zTb_5 37 rfl rfl
theorem se_X2_seek : Cond.selects RX2 yX2_seek yX2_seek ∈ zTb := zTb_s (n := 8) (lw_q3 (List.mem_of_getElem? (i := 11) rfl)) rfl
theorem k_X2_seek : Cond.code yX2_seek cX2_seek 6 none ∈ zTb := zTb_5 38 rfl rfl
theorem v_X2_80 : zWv RX2 80 yX2_seek 3 cX2_seek 6 none 3 := ⟨⟨zTb_5 35 rfl rfl, im_X2_seek, se_X2_seek, i_X2, k_X2_seek⟩, by decide +kernel, by decide +kernel, by decide +kernel, by decide +kernel⟩
theorem w_X2_84 : zLk RX2 84 6 2 := Or.inr ⟨"ConfessionMill", List.mem_of_getElem? (i := 11) rfl⟩
theorem im_X7_leftOf : Cond.instanceMethod yX7_leftOf ∈ zTb := zTb_4 17 rfl rfl
theorem se_X7_leftOf : Cond.selects RX7 yX7_leftOf yX7_leftOf ∈ zTb := zTb_4 18 rfl rfl
theorem k_X7_leftOf : Cond.code yX7_leftOf cX7_leftOf 3 (some .int) ∈ zTb := zTb_4 19 rfl rfl
theorem v_X2_87 : zWv RX2 87 yX7_leftOf 8 cX7_leftOf 3 (some .int) 2 := ⟨⟨zTb_5 39 rfl rfl, im_X7_leftOf, se_X7_leftOf, i_X7, k_X7_leftOf⟩, by decide +kernel, by decide +kernel, by decide +kernel, by decide +kernel⟩
theorem im_X2_step : Cond.instanceMethod yX2_step ∈ zTb := zTb_5 42 rfl rfl
theorem se_X2_step : Cond.selects RX2 yX2_step yX2_step ∈ zTb := zTb_s (n := 8) (lw_q3 (List.mem_of_getElem? (i := 12) rfl)) rfl
theorem k_X2_step : Cond.code yX2_step cX2_step 8 none ∈ zTb := zTb_5 43 rfl rfl
theorem v_X2_91 : zWv RX2 91 yX2_step 3 cX2_step 8 none 3 := ⟨⟨zTb_5 40 rfl rfl, im_X2_step, se_X2_step, i_X2, k_X2_step⟩, by decide +kernel, by decide +kernel, by decide +kernel, by decide +kernel⟩
theorem im_X7_canFall : Cond.instanceMethod yX7_canFall ∈ zTb := zTb_4 166 rfl rfl
theorem se_X7_canFall : Cond.selects RX7 yX7_canFall yX7_canFall ∈ zTb := zTb_4 167 rfl rfl
theorem k_X7_canFall : Cond.code yX7_canFall cX7_canFall 3 (some .boolean) ∈ zTb := zTb_4 168 rfl rfl
theorem v_X2_94 : zWv RX2 94 yX7_canFall 8 cX7_canFall 3 (some .boolean) 2 := ⟨⟨zTb_5 52 rfl rfl, im_X7_canFall, se_X7_canFall, i_X7, k_X7_canFall⟩, by decide +kernel, by decide +kernel, by decide +kernel, by decide +kernel⟩
theorem im_X2_isBetter : Cond.instanceMethod yX2_isBetter ∈ zTb := zTb_5 33 rfl rfl
theorem se_X2_isBetter : Cond.selects RX2 yX2_isBetter yX2_isBetter ∈ zTb := zTb_s (n := 8) (lw_q3 (List.mem_of_getElem? (i := 10) rfl)) rfl
theorem k_X2_isBetter : Cond.code yX2_isBetter cX2_isBetter 3 (some .boolean) ∈ zTb := zTb_5 34 rfl rfl
theorem v_X2_98 : zWv RX2 98 yX2_isBetter 3 cX2_isBetter 3 (some .boolean) 2 := ⟨⟨zTb_5 31 rfl rfl, im_X2_isBetter, se_X2_isBetter, i_X2, k_X2_isBetter⟩, by decide +kernel, by decide +kernel, by decide +kernel, by decide +kernel⟩
theorem im_X7_fallOnce : Cond.instanceMethod yX7_fallOnce ∈ zTb := zTb_4 170 rfl rfl
theorem se_X7_fallOnce : Cond.selects RX7 yX7_fallOnce yX7_fallOnce ∈ zTb := zTb_4 171 rfl rfl
theorem k_X7_fallOnce : Cond.code yX7_fallOnce cX7_fallOnce 3 none ∈ zTb := zTb_4 172 rfl rfl
theorem v_X2_101 : zWv RX2 101 yX7_fallOnce 8 cX7_fallOnce 3 none 2 := ⟨⟨zTb_5 53 rfl rfl, im_X7_fallOnce, se_X7_fallOnce, i_X7, k_X7_fallOnce⟩, by decide +kernel, by decide +kernel, by decide +kernel, by decide +kernel⟩
theorem im_X7_unfall : Cond.instanceMethod yX7_unfall ∈ zTb := zTb_5 55 rfl rfl
theorem se_X7_unfall : Cond.selects RX7 yX7_unfall yX7_unfall ∈ zTb := zTb_5 56 rfl rfl
theorem k_X7_unfall : Cond.code yX7_unfall cX7_unfall 3 none ∈ zTb := zTb_5 57 rfl rfl
theorem v_X2_104 : zWv RX2 104 yX7_unfall 8 cX7_unfall 3 none 2 := ⟨⟨zTb_5 54 rfl rfl, im_X7_unfall, se_X7_unfall, i_X7, k_X7_unfall⟩, by decide +kernel, by decide +kernel, by decide +kernel, by decide +kernel⟩
theorem im_X7_portion : Cond.instanceMethod yX7_portion ∈ zTb := zTb_4 105 rfl rfl
theorem se_X7_portion : Cond.selects RX7 yX7_portion yX7_portion ∈ zTb := zTb_4 106 rfl rfl
theorem k_X7_portion : Cond.code yX7_portion cX7_portion 1 (some .int) ∈ zTb := zTb_4 107 rfl rfl
theorem v_X2_107 : zWv RX2 107 yX7_portion 8 cX7_portion 1 (some .int) 0 := ⟨⟨zTb_5 44 rfl rfl, im_X7_portion, se_X7_portion, i_X7, k_X7_portion⟩, by decide +kernel, by decide +kernel, by decide +kernel, by decide +kernel⟩
theorem im_X7_canGrind : Cond.instanceMethod yX7_canGrind ∈ zTb := zTb_4 88 rfl rfl
theorem se_X7_canGrind : Cond.selects RX7 yX7_canGrind yX7_canGrind ∈ zTb := zTb_4 89 rfl rfl
theorem k_X7_canGrind : Cond.code yX7_canGrind cX7_canGrind 1 (some .boolean) ∈ zTb := zTb_4 90 rfl rfl
theorem v_X2_111 : zWv RX2 111 yX7_canGrind 8 cX7_canGrind 1 (some .boolean) 0 := ⟨⟨zTb_5 45 rfl rfl, im_X7_canGrind, se_X7_canGrind, i_X7, k_X7_canGrind⟩, by decide +kernel, by decide +kernel, by decide +kernel, by decide +kernel⟩
theorem im_X7_fineOf : Cond.instanceMethod yX7_fineOf ∈ zTb := zTb_4 25 rfl rfl
theorem se_X7_fineOf : Cond.selects RX7 yX7_fineOf yX7_fineOf ∈ zTb := zTb_4 26 rfl rfl
theorem k_X7_fineOf : Cond.code yX7_fineOf cX7_fineOf 3 (some .int) ∈ zTb := zTb_4 27 rfl rfl
theorem v_X2_115 : zWv RX2 115 yX7_fineOf 8 cX7_fineOf 3 (some .int) 2 := ⟨⟨zTb_5 46 rfl rfl, im_X7_fineOf, se_X7_fineOf, i_X7, k_X7_fineOf⟩, by decide +kernel, by decide +kernel, by decide +kernel, by decide +kernel⟩
theorem w_X2_118 : zLk RX2 118 8 10 := Or.inr ⟨"ConfessionMill", List.mem_of_getElem? (i := 68) rfl⟩
theorem im_X7_grindOne : Cond.instanceMethod yX7_grindOne ∈ zTb := zTb_4 100 rfl rfl
theorem se_X7_grindOne : Cond.selects RX7 yX7_grindOne yX7_grindOne ∈ zTb := zTb_4 101 rfl rfl
theorem k_X7_grindOne : Cond.code yX7_grindOne cX7_grindOne 5 none ∈ zTb := zTb_4 102 rfl rfl
theorem v_X2_121 : zWv RX2 121 yX7_grindOne 8 cX7_grindOne 5 none 3 := ⟨⟨zTb_5 47 rfl rfl, im_X7_grindOne, se_X7_grindOne, i_X7, k_X7_grindOne⟩, by decide +kernel, by decide +kernel, by decide +kernel, by decide +kernel⟩
theorem im_X7_ungrind : Cond.instanceMethod yX7_ungrind ∈ zTb := zTb_5 49 rfl rfl
theorem se_X7_ungrind : Cond.selects RX7 yX7_ungrind yX7_ungrind ∈ zTb := zTb_5 50 rfl rfl
theorem k_X7_ungrind : Cond.code yX7_ungrind cX7_ungrind 4 none ∈ zTb := zTb_5 51 rfl rfl
theorem v_X2_125 : zWv RX2 125 yX7_ungrind 8 cX7_ungrind 4 none 0 := ⟨⟨zTb_5 48 rfl rfl, im_X7_ungrind, se_X7_ungrind, i_X7, k_X7_ungrind⟩, by decide +kernel, by decide +kernel, by decide +kernel, by decide +kernel⟩
theorem w_X2_128 : zLk RX2 128 6 10 := Or.inr ⟨"ConfessionMill", List.mem_of_getElem? (i := 34) rfl⟩
theorem sm_J9_max_7cf53 : Cond.static yJ9_max_7cf53 ∈ zTb := zTb_3 67 rfl rfl
theorem i_J9 : Cond.initialized RJ9 ∈ zTb := zTb_1 17 rfl rfl
theorem k_J9_max_7cf53 : Cond.code yJ9_max_7cf53 cJ9_max_7cf53 2 (some .int) ∈ zTb := zTb_3 68 rfl rfl
theorem s_X2_131 : zWs RX2 131 yJ9_max_7cf53 cJ9_max_7cf53 2 (some .int) 2 := ⟨⟨zTb_5 30 rfl rfl, sm_J9_max_7cf53, i_J9, k_J9_max_7cf53⟩, by decide +kernel, by decide +kernel, by decide +kernel⟩
theorem ac_X2_136 : zWc RX2 136 := ⟨zTb_5 25 rfl rfl, zTb_2 118 rfl rfl, zTb_2 117 rfl rfl, zTb_1 12 rfl rfl⟩
theorem w_X3_12 : zLk RX3 12 4 0 := Or.inl (zTb_2 3 rfl rfl)
theorem w_X3_21 : zLk RX3 21 4 1 := Or.inl (zTb_2 4 rfl rfl)
theorem w_X3_27 : zLk RX3 27 4 9 := Or.inl (zTb_2 14 rfl rfl)
theorem im_X6_readAll : Cond.instanceMethod yX6_readAll ∈ zTb := zTb_3 60 rfl rfl
theorem se_X6_readAll : Cond.selects RX6 yX6_readAll yX6_readAll ∈ zTb := zTb_3 61 rfl rfl
theorem i_X6 : Cond.initialized RX6 ∈ zTb := zTb_1 3 rfl rfl
theorem k_X6_readAll : Cond.code yX6_readAll cX6_readAll 5 none ∈ zTb := zTb_3 62 rfl rfl
theorem v_X3_31 : zWv RX3 31 yX6_readAll 7 cX6_readAll 5 none 2 := ⟨⟨zTb_3 59 rfl rfl, im_X6_readAll, se_X6_readAll, i_X6, k_X6_readAll⟩, by decide +kernel, by decide +kernel, by decide +kernel, by decide +kernel⟩
theorem im_X5_clear : Cond.instanceMethod yX5_clear ∈ zTb := zTb_3 93 rfl rfl
theorem se_X5_clear : Cond.selects RX5 yX5_clear yX5_clear ∈ zTb := zTb_3 94 rfl rfl
theorem i_X5 : Cond.initialized RX5 ∈ zTb := zTb_1 8 rfl rfl
theorem k_X5_clear : Cond.code yX5_clear cX5_clear 1 none ∈ zTb := zTb_3 95 rfl rfl
theorem v_X3_35 : zWv RX3 35 yX5_clear 6 cX5_clear 1 none 0 := ⟨⟨zTb_3 92 rfl rfl, im_X5_clear, se_X5_clear, i_X5, k_X5_clear⟩, by decide +kernel, by decide +kernel, by decide +kernel, by decide +kernel⟩
theorem w_X3_38 : zLk RX3 38 4 7 := Or.inl (zTb_2 10 rfl rfl)
theorem w_X3_42 : zLk RX3 42 4 8 := Or.inl (zTb_2 12 rfl rfl)
theorem w_X3_45 : zLk RX3 45 4 6 := Or.inl (zTb_2 9 rfl rfl)
theorem w_X3_48 : zLk RX3 48 4 2 := Or.inl (zTb_2 5 rfl rfl)
theorem im_X3_next : Cond.instanceMethod yX3_next ∈ zTb := zTb_3 104 rfl rfl
theorem se_X3_next : Cond.selects RX3 yX3_next yX3_next ∈ zTb := zTb_s (n := 14) (lw_q1 (List.mem_of_getElem? (i := 6) rfl)) rfl
theorem i_X3 : Cond.initialized RX3 ∈ zTb := zTb_1 2 rfl rfl
theorem k_X3_next : Cond.code yX3_next cX3_next 1 none ∈ zTb := zTb_3 105 rfl rfl
theorem v_X3_51 : zWv RX3 51 yX3_next 4 cX3_next 1 none 0 := ⟨⟨zTb_3 102 rfl rfl, im_X3_next, se_X3_next, i_X3, k_X3_next⟩, by decide +kernel, by decide +kernel, by decide +kernel, by decide +kernel⟩
theorem w_X3_54 : zLk RX3 54 4 3 := Or.inl (zTb_2 6 rfl rfl)
theorem im_X3_readLine : Cond.instanceMethod yX3_readLine ∈ zTb := zTb_3 108 rfl rfl
theorem se_X3_readLine : Cond.selects RX3 yX3_readLine yX3_readLine ∈ zTb := zTb_s (n := 14) (lw_q1 (List.mem_of_getElem? (i := 7) rfl)) rfl
theorem k_X3_readLine : Cond.code yX3_readLine cX3_readLine 1 none ∈ zTb := zTb_3 109 rfl rfl
theorem v_X3_57 : zWv RX3 57 yX3_readLine 4 cX3_readLine 1 none 0 := ⟨⟨zTb_3 106 rfl rfl, im_X3_readLine, se_X3_readLine, i_X3, k_X3_readLine⟩, by decide +kernel, by decide +kernel, by decide +kernel, by decide +kernel⟩
theorem w_X3_60 : zLk RX3 60 7 4 := Or.inr ⟨"ConfessionMill", List.mem_of_getElem? (i := 3) rfl⟩
theorem w_X3_63 : zLk RX3 63 7 1 := Or.inr ⟨"ConfessionMill", List.mem_of_getElem? (i := 0) rfl⟩
theorem w_X3_65 : zLk RX3 65 7 3 := Or.inr ⟨"ConfessionMill", List.mem_of_getElem? (i := 2) rfl⟩
theorem w_X3_68 : zLk RX3 68 4 4 := Or.inl (zTb_2 7 rfl rfl)
theorem w_X3_70 : zLk RX3 70 4 5 := Or.inl (zTb_2 8 rfl rfl)
theorem w_X3_73 : zLk RX3 73 7 2 := Or.inr ⟨"ConfessionMill", List.mem_of_getElem? (i := 1) rfl⟩
theorem im_X3_readSin : Cond.instanceMethod yX3_readSin ∈ zTb := zTb_3 112 rfl rfl
theorem se_X3_readSin : Cond.selects RX3 yX3_readSin yX3_readSin ∈ zTb := zTb_s (n := 14) (lw_q1 (List.mem_of_getElem? (i := 8) rfl)) rfl
theorem k_X3_readSin : Cond.code yX3_readSin cX3_readSin 3 none ∈ zTb := zTb_3 113 rfl rfl
theorem v_X3_76 : zWv RX3 76 yX3_readSin 4 cX3_readSin 3 none 0 := ⟨⟨zTb_3 110 rfl rfl, im_X3_readSin, se_X3_readSin, i_X3, k_X3_readSin⟩, by decide +kernel, by decide +kernel, by decide +kernel, by decide +kernel⟩
theorem im_X3_readPerson : Cond.instanceMethod yX3_readPerson ∈ zTb := zTb_3 143 rfl rfl
theorem se_X3_readPerson : Cond.selects RX3 yX3_readPerson yX3_readPerson ∈ zTb := zTb_s (n := 14) (lw_q1 (List.mem_of_getElem? (i := 12) rfl)) rfl
theorem k_X3_readPerson : Cond.code yX3_readPerson cX3_readPerson 4 none ∈ zTb := zTb_3 144 rfl rfl
theorem v_X3_79 : zWv RX3 79 yX3_readPerson 4 cX3_readPerson 4 none 0 := ⟨⟨zTb_3 141 rfl rfl, im_X3_readPerson, se_X3_readPerson, i_X3, k_X3_readPerson⟩, by decide +kernel, by decide +kernel, by decide +kernel, by decide +kernel⟩
theorem im_X3_readCake : Cond.instanceMethod yX3_readCake ∈ zTb := zTb_3 151 rfl rfl
theorem se_X3_readCake : Cond.selects RX3 yX3_readCake yX3_readCake ∈ zTb := zTb_s (n := 14) (lw_q1 (List.mem_of_getElem? (i := 14) rfl)) rfl
theorem k_X3_readCake : Cond.code yX3_readCake cX3_readCake 5 none ∈ zTb := zTb_3 152 rfl rfl
theorem v_X3_82 : zWv RX3 82 yX3_readCake 4 cX3_readCake 5 none 0 := ⟨⟨zTb_3 149 rfl rfl, im_X3_readCake, se_X3_readCake, i_X3, k_X3_readCake⟩, by decide +kernel, by decide +kernel, by decide +kernel, by decide +kernel⟩
theorem im_X3_readOnce : Cond.instanceMethod yX3_readOnce ∈ zTb := zTb_3 155 rfl rfl
theorem se_X3_readOnce : Cond.selects RX3 yX3_readOnce yX3_readOnce ∈ zTb := zTb_s (n := 14) (lw_q1 (List.mem_of_getElem? (i := 15) rfl)) rfl
theorem k_X3_readOnce : Cond.code yX3_readOnce cX3_readOnce 4 (some .int) ∈ zTb := zTb_3 156 rfl rfl
theorem v_X3_85 : zWv RX3 85 yX3_readOnce 4 cX3_readOnce 4 (some .int) 2 := ⟨⟨zTb_3 153 rfl rfl, im_X3_readOnce, se_X3_readOnce, i_X3, k_X3_readOnce⟩, by decide +kernel, by decide +kernel, by decide +kernel, by decide +kernel⟩
theorem w_X3_89 : zLk RX3 89 6 9 := Or.inr ⟨"ConfessionMill", List.mem_of_getElem? (i := 32) rfl⟩
theorem w_X3_92 : zLk RX3 92 6 10 := Or.inr ⟨"ConfessionMill", List.mem_of_getElem? (i := 33) rfl⟩
theorem w_X3_95 : zLk RX3 95 6 11 := Or.inr ⟨"ConfessionMill", List.mem_of_getElem? (i := 37) rfl⟩
theorem q_X3_98 : Jvm.Cond.constant RX3 98 (99999) ∈ zTb := zTb_3 157 rfl rfl
theorem w_X3_99 : zLk RX3 99 6 12 := Or.inr ⟨"ConfessionMill", List.mem_of_getElem? (i := 39) rfl⟩
theorem im_X3_readKind : Cond.instanceMethod yX3_readKind ∈ zTb := zTb_3 160 rfl rfl
theorem se_X3_readKind : Cond.selects RX3 yX3_readKind yX3_readKind ∈ zTb := zTb_s (n := 14) (lw_q2 (List.mem_of_getElem? (i := 0) rfl)) rfl
theorem k_X3_readKind : Cond.code yX3_readKind cX3_readKind 2 (some .int) ∈ zTb := zTb_3 161 rfl rfl
theorem v_X3_102 : zWv RX3 102 yX3_readKind 4 cX3_readKind 2 (some .int) 0 := ⟨⟨zTb_3 158 rfl rfl, im_X3_readKind, se_X3_readKind, i_X3, k_X3_readKind⟩, by decide +kernel, by decide +kernel, by decide +kernel, by decide +kernel⟩
theorem im_X3_readE : Cond.instanceMethod yX3_readE ∈ zTb := zTb_3 168 rfl rfl
theorem se_X3_readE : Cond.selects RX3 yX3_readE yX3_readE ∈ zTb := zTb_s (n := 14) (lw_q2 (List.mem_of_getElem? (i := 1) rfl)) rfl
theorem k_X3_readE : Cond.code yX3_readE cX3_readE 4 none ∈ zTb := zTb_3 169 rfl rfl
theorem v_X3_106 : zWv RX3 106 yX3_readE 4 cX3_readE 4 none 1 := ⟨⟨zTb_3 166 rfl rfl, im_X3_readE, se_X3_readE, i_X3, k_X3_readE⟩, by decide +kernel, by decide +kernel, by decide +kernel, by decide +kernel⟩
theorem im_X3_readNew : Cond.instanceMethod yX3_readNew ∈ zTb := zTb_3 116 rfl rfl
theorem se_X3_readNew : Cond.selects RX3 yX3_readNew yX3_readNew ∈ zTb := zTb_s (n := 14) (lw_q1 (List.mem_of_getElem? (i := 9) rfl)) rfl
theorem k_X3_readNew : Cond.code yX3_readNew cX3_readNew 3 (some .int) ∈ zTb := zTb_3 117 rfl rfl
theorem v_X3_110 : zWv RX3 110 yX3_readNew 4 cX3_readNew 3 (some .int) 1 := ⟨⟨zTb_3 114 rfl rfl, im_X3_readNew, se_X3_readNew, i_X3, k_X3_readNew⟩, by decide +kernel, by decide +kernel, by decide +kernel, by decide +kernel⟩
theorem im_X3_fail : Cond.instanceMethod yX3_fail ∈ zTb := zTb_3 126 rfl rfl
theorem se_X3_fail : Cond.selects RX3 yX3_fail yX3_fail ∈ zTb := zTb_s (n := 14) (lw_q1 (List.mem_of_getElem? (i := 10) rfl)) rfl
theorem k_X3_fail : Cond.code yX3_fail cX3_fail 2 none ∈ zTb := zTb_3 127 rfl rfl
theorem v_X3_114 : zWv RX3 114 yX3_fail 4 cX3_fail 2 none 1 := ⟨⟨zTb_3 124 rfl rfl, im_X3_fail, se_X3_fail, i_X3, k_X3_fail⟩, by decide +kernel, by decide +kernel, by decide +kernel, by decide +kernel⟩
theorem im_X3_isSign : Cond.instanceMethod yX3_isSign ∈ zTb := zTb_3 180 rfl rfl
theorem se_X3_isSign : Cond.selects RX3 yX3_isSign yX3_isSign ∈ zTb := zTb_s (n := 14) (lw_q2 (List.mem_of_getElem? (i := 3) rfl)) rfl
theorem k_X3_isSign : Cond.code yX3_isSign cX3_isSign 2 (some .boolean) ∈ zTb := zTb_3 181 rfl rfl
theorem v_X3_117 : zWv RX3 117 yX3_isSign 4 cX3_isSign 2 (some .boolean) 1 := ⟨⟨zTb_3 178 rfl rfl, im_X3_isSign, se_X3_isSign, i_X3, k_X3_isSign⟩, by decide +kernel, by decide +kernel, by decide +kernel, by decide +kernel⟩
theorem im_X3_readNumber : Cond.instanceMethod yX3_readNumber ∈ zTb := zTb_3 139 rfl rfl
theorem se_X3_readNumber : Cond.selects RX3 yX3_readNumber yX3_readNumber ∈ zTb := zTb_s (n := 14) (lw_q1 (List.mem_of_getElem? (i := 11) rfl)) rfl
theorem k_X3_readNumber : Cond.code yX3_readNumber cX3_readNumber 4 (some .int) ∈ zTb := zTb_3 140 rfl rfl
theorem v_X3_121 : zWv RX3 121 yX3_readNumber 4 cX3_readNumber 4 (some .int) 2 := ⟨⟨zTb_3 137 rfl rfl, im_X3_readNumber, se_X3_readNumber, i_X3, k_X3_readNumber⟩, by decide +kernel, by decide +kernel, by decide +kernel, by decide +kernel⟩
theorem w_X3_124 : zLk RX3 124 6 3 := Or.inr ⟨"ConfessionMill", List.mem_of_getElem? (i := 15) rfl⟩
theorem w_X3_127 : zLk RX3 127 6 4 := Or.inr ⟨"ConfessionMill", List.mem_of_getElem? (i := 19) rfl⟩
theorem im_X3_readDeed : Cond.instanceMethod yX3_readDeed ∈ zTb := zTb_3 147 rfl rfl
theorem se_X3_readDeed : Cond.selects RX3 yX3_readDeed yX3_readDeed ∈ zTb := zTb_s (n := 14) (lw_q1 (List.mem_of_getElem? (i := 13) rfl)) rfl
theorem k_X3_readDeed : Cond.code yX3_readDeed cX3_readDeed 3 none ∈ zTb := zTb_3 148 rfl rfl
theorem v_X3_130 : zWv RX3 130 yX3_readDeed 4 cX3_readDeed 3 none 1 := ⟨⟨zTb_3 145 rfl rfl, im_X3_readDeed, se_X3_readDeed, i_X3, k_X3_readDeed⟩, by decide +kernel, by decide +kernel, by decide +kernel, by decide +kernel⟩
theorem im_X5_find : Cond.instanceMethod yX5_find ∈ zTb := zTb_3 129 rfl rfl
theorem se_X5_find : Cond.selects RX5 yX5_find yX5_find ∈ zTb := zTb_3 130 rfl rfl
theorem k_X5_find : Cond.code yX5_find cX5_find 4 (some .int) ∈ zTb := zTb_3 131 rfl rfl
theorem v_X3_133 : zWv RX3 133 yX5_find 6 cX5_find 4 (some .int) 2 := ⟨⟨zTb_3 128 rfl rfl, im_X5_find, se_X5_find, i_X5, k_X5_find⟩, by decide +kernel, by decide +kernel, by decide +kernel, by decide +kernel⟩
theorem w_X3_136 : zLk RX3 136 6 5 := Or.inr ⟨"ConfessionMill", List.mem_of_getElem? (i := 21) rfl⟩
theorem w_X3_139 : zLk RX3 139 6 6 := Or.inr ⟨"ConfessionMill", List.mem_of_getElem? (i := 23) rfl⟩
theorem w_X3_142 : zLk RX3 142 6 7 := Or.inr ⟨"ConfessionMill", List.mem_of_getElem? (i := 26) rfl⟩
theorem w_X3_145 : zLk RX3 145 6 8 := Or.inr ⟨"ConfessionMill", List.mem_of_getElem? (i := 28) rfl⟩
theorem w_X3_148 : zLk RX3 148 6 0 := Or.inr ⟨"ConfessionMill", List.mem_of_getElem? (i := 7) rfl⟩
theorem v_X3_152 : zWv RX3 152 yX1_isTold 2 cX1_isTold 2 (some .boolean) 1 := ⟨⟨zTb_3 162 rfl rfl, im_X1_isTold, se_X1_isTold, i_X1, k_X1_isTold⟩, by decide +kernel, by decide +kernel, by decide +kernel, by decide +kernel⟩
theorem w_X3_155 : zLk RX3 155 6 2 := Or.inr ⟨"ConfessionMill", List.mem_of_getElem? (i := 12) rfl⟩
theorem im_X5_isFull : Cond.instanceMethod yX5_isFull ∈ zTb := zTb_3 119 rfl rfl
theorem se_X5_isFull : Cond.selects RX5 yX5_isFull yX5_isFull ∈ zTb := zTb_3 120 rfl rfl
theorem k_X5_isFull : Cond.code yX5_isFull cX5_isFull 2 (some .boolean) ∈ zTb := zTb_3 121 rfl rfl
theorem v_X3_158 : zWv RX3 158 yX5_isFull 6 cX5_isFull 2 (some .boolean) 1 := ⟨⟨zTb_3 118 rfl rfl, im_X5_isFull, se_X5_isFull, i_X5, k_X5_isFull⟩, by decide +kernel, by decide +kernel, by decide +kernel, by decide +kernel⟩
theorem im_X5_add : Cond.instanceMethod yX5_add ∈ zTb := zTb_3 133 rfl rfl
theorem se_X5_add : Cond.selects RX5 yX5_add yX5_add ∈ zTb := zTb_3 134 rfl rfl
theorem k_X5_add : Cond.code yX5_add cX5_add 3 none ∈ zTb := zTb_3 135 rfl rfl
theorem v_X3_161 : zWv RX3 161 yX5_add 6 cX5_add 3 none 2 := ⟨⟨zTb_3 132 rfl rfl, im_X5_add, se_X5_add, i_X5, k_X5_add⟩, by decide +kernel, by decide +kernel, by decide +kernel, by decide +kernel⟩
theorem w_X3_165 : zLk RX3 165 4 10 := Or.inl (zTb_2 15 rfl rfl)
theorem w_X3_168 : zLk RX3 168 4 11 := Or.inl (zTb_2 16 rfl rfl)
theorem w_X3_171 : zLk RX3 171 4 12 := Or.inl (zTb_2 17 rfl rfl)
theorem w_X3_175 : zLk RX3 175 4 13 := Or.inl (zTb_2 18 rfl rfl)
theorem im_X1_begin : Cond.instanceMethod yX1_begin ∈ zTb := zTb_3 171 rfl rfl
theorem se_X1_begin : Cond.selects RX1 yX1_begin yX1_begin ∈ zTb := zTb_3 172 rfl rfl
theorem k_X1_begin : Cond.code yX1_begin cX1_begin 2 none ∈ zTb := zTb_3 173 rfl rfl
theorem v_X3_178 : zWv RX3 178 yX1_begin 2 cX1_begin 2 none 1 := ⟨⟨zTb_3 170 rfl rfl, im_X1_begin, se_X1_begin, i_X1, k_X1_begin⟩, by decide +kernel, by decide +kernel, by decide +kernel, by decide +kernel⟩
theorem im_X3_readSide : Cond.instanceMethod yX3_readSide ∈ zTb := zTb_3 176 rfl rfl
theorem se_X3_readSide : Cond.selects RX3 yX3_readSide yX3_readSide ∈ zTb := zTb_s (n := 14) (lw_q2 (List.mem_of_getElem? (i := 2) rfl)) rfl
theorem k_X3_readSide : Cond.code yX3_readSide cX3_readSide 1 none ∈ zTb := zTb_3 177 rfl rfl
theorem v_X3_181 : zWv RX3 181 yX3_readSide 4 cX3_readSide 1 none 0 := ⟨⟨zTb_3 174 rfl rfl, im_X3_readSide, se_X3_readSide, i_X3, k_X3_readSide⟩, by decide +kernel, by decide +kernel, by decide +kernel, by decide +kernel⟩
theorem im_X3_readBehindSide : Cond.instanceMethod yX3_readBehindSide ∈ zTb := zTb_3 204 rfl rfl
theorem se_X3_readBehindSide : Cond.selects RX3 yX3_readBehindSide yX3_readBehindSide ∈ zTb := zTb_s (n := 14) (lw_q2 (List.mem_of_getElem? (i := 8) rfl)) rfl
theorem k_X3_readBehindSide : Cond.code yX3_readBehindSide cX3_readBehindSide 2 (some .boolean) ∈ zTb := zTb_3 205 rfl rfl
theorem v_X3_184 : zWv RX3 184 yX3_readBehindSide 4 cX3_readBehindSide 2 (some .boolean) 0 := ⟨⟨zTb_3 202 rfl rfl, im_X3_readBehindSide, se_X3_readBehindSide, i_X3, k_X3_readBehindSide⟩, by decide +kernel, by decide +kernel, by decide +kernel, by decide +kernel⟩
theorem im_X3_release : Cond.instanceMethod yX3_release ∈ zTb := zTb_3 218 rfl rfl
theorem se_X3_release : Cond.selects RX3 yX3_release yX3_release ∈ zTb := zTb_s (n := 14) (lw_q2 (List.mem_of_getElem? (i := 11) rfl)) rfl
theorem k_X3_release : Cond.code yX3_release cX3_release 2 none ∈ zTb := zTb_3 219 rfl rfl
theorem v_X3_188 : zWv RX3 188 yX3_release 4 cX3_release 2 none 1 := ⟨⟨zTb_3 216 rfl rfl, im_X3_release, se_X3_release, i_X3, k_X3_release⟩, by decide +kernel, by decide +kernel, by decide +kernel, by decide +kernel⟩
theorem im_X1_finish : Cond.instanceMethod yX1_finish ∈ zTb := zTb_3 222 rfl rfl
theorem se_X1_finish : Cond.selects RX1 yX1_finish yX1_finish ∈ zTb := zTb_3 223 rfl rfl
theorem k_X1_finish : Cond.code yX1_finish cX1_finish 2 none ∈ zTb := zTb_3 224 rfl rfl
theorem v_X3_191 : zWv RX3 191 yX1_finish 2 cX1_finish 2 none 1 := ⟨⟨zTb_3 221 rfl rfl, im_X1_finish, se_X1_finish, i_X1, k_X1_finish⟩, by decide +kernel, by decide +kernel, by decide +kernel, by decide +kernel⟩
theorem im_X3_readOpen : Cond.instanceMethod yX3_readOpen ∈ zTb := zTb_3 184 rfl rfl
theorem se_X3_readOpen : Cond.selects RX3 yX3_readOpen yX3_readOpen ∈ zTb := zTb_s (n := 14) (lw_q2 (List.mem_of_getElem? (i := 4) rfl)) rfl
theorem k_X3_readOpen : Cond.code yX3_readOpen cX3_readOpen 1 none ∈ zTb := zTb_3 185 rfl rfl
theorem v_X3_194 : zWv RX3 194 yX3_readOpen 4 cX3_readOpen 1 none 0 := ⟨⟨zTb_3 182 rfl rfl, im_X3_readOpen, se_X3_readOpen, i_X3, k_X3_readOpen⟩, by decide +kernel, by decide +kernel, by decide +kernel, by decide +kernel⟩
theorem im_X3_countKnot : Cond.instanceMethod yX3_countKnot ∈ zTb := zTb_3 192 rfl rfl
theorem se_X3_countKnot : Cond.selects RX3 yX3_countKnot yX3_countKnot ∈ zTb := zTb_s (n := 14) (lw_q2 (List.mem_of_getElem? (i := 6) rfl)) rfl
theorem k_X3_countKnot : Cond.code yX3_countKnot cX3_countKnot 1 (some .boolean) ∈ zTb := zTb_3 193 rfl rfl
theorem v_X3_197 : zWv RX3 197 yX3_countKnot 4 cX3_countKnot 1 (some .boolean) 0 := ⟨⟨zTb_3 190 rfl rfl, im_X3_countKnot, se_X3_countKnot, i_X3, k_X3_countKnot⟩, by decide +kernel, by decide +kernel, by decide +kernel, by decide +kernel⟩
theorem im_X3_push : Cond.instanceMethod yX3_push ∈ zTb := zTb_3 188 rfl rfl
theorem se_X3_push : Cond.selects RX3 yX3_push yX3_push ∈ zTb := zTb_s (n := 14) (lw_q2 (List.mem_of_getElem? (i := 5) rfl)) rfl
theorem k_X3_push : Cond.code yX3_push cX3_push 2 none ∈ zTb := zTb_3 189 rfl rfl
theorem v_X3_200 : zWv RX3 200 yX3_push 4 cX3_push 2 none 1 := ⟨⟨zTb_3 186 rfl rfl, im_X3_push, se_X3_push, i_X3, k_X3_push⟩, by decide +kernel, by decide +kernel, by decide +kernel, by decide +kernel⟩
theorem im_X3_writeSide : Cond.instanceMethod yX3_writeSide ∈ zTb := zTb_3 196 rfl rfl
theorem se_X3_writeSide : Cond.selects RX3 yX3_writeSide yX3_writeSide ∈ zTb := zTb_s (n := 14) (lw_q2 (List.mem_of_getElem? (i := 7) rfl)) rfl
theorem k_X3_writeSide : Cond.code yX3_writeSide cX3_writeSide 3 none ∈ zTb := zTb_3 197 rfl rfl
theorem v_X3_203 : zWv RX3 203 yX3_writeSide 4 cX3_writeSide 3 none 2 := ⟨⟨zTb_3 194 rfl rfl, im_X3_writeSide, se_X3_writeSide, i_X3, k_X3_writeSide⟩, by decide +kernel, by decide +kernel, by decide +kernel, by decide +kernel⟩
theorem im_X1_write : Cond.instanceMethod yX1_write ∈ zTb := zTb_3 199 rfl rfl
theorem se_X1_write : Cond.selects RX1 yX1_write yX1_write ∈ zTb := zTb_3 200 rfl rfl
theorem k_X1_write : Cond.code yX1_write cX1_write 3 none ∈ zTb := zTb_3 201 rfl rfl
theorem v_X3_206 : zWv RX3 206 yX1_write 2 cX1_write 3 none 2 := ⟨⟨zTb_3 198 rfl rfl, im_X1_write, se_X1_write, i_X1, k_X1_write⟩, by decide +kernel, by decide +kernel, by decide +kernel, by decide +kernel⟩
theorem im_X3_knotHere : Cond.instanceMethod yX3_knotHere ∈ zTb := zTb_3 208 rfl rfl
theorem se_X3_knotHere : Cond.selects RX3 yX3_knotHere yX3_knotHere ∈ zTb := zTb_s (n := 14) (lw_q2 (List.mem_of_getElem? (i := 9) rfl)) rfl
theorem k_X3_knotHere : Cond.code yX3_knotHere cX3_knotHere 1 (some .int) ∈ zTb := zTb_3 209 rfl rfl
theorem v_X3_209 : zWv RX3 209 yX3_knotHere 4 cX3_knotHere 1 (some .int) 0 := ⟨⟨zTb_3 206 rfl rfl, im_X3_knotHere, se_X3_knotHere, i_X3, k_X3_knotHere⟩, by decide +kernel, by decide +kernel, by decide +kernel, by decide +kernel⟩
theorem im_X3_readJoint : Cond.instanceMethod yX3_readJoint ∈ zTb := zTb_3 212 rfl rfl
theorem se_X3_readJoint : Cond.selects RX3 yX3_readJoint yX3_readJoint ∈ zTb := zTb_s (n := 14) (lw_q2 (List.mem_of_getElem? (i := 10) rfl)) rfl
theorem k_X3_readJoint : Cond.code yX3_readJoint cX3_readJoint 4 none ∈ zTb := zTb_3 213 rfl rfl
theorem v_X3_212 : zWv RX3 212 yX3_readJoint 4 cX3_readJoint 4 none 1 := ⟨⟨zTb_3 210 rfl rfl, im_X3_readJoint, se_X3_readJoint, i_X3, k_X3_readJoint⟩, by decide +kernel, by decide +kernel, by decide +kernel, by decide +kernel⟩
theorem s_X3_215 : zWs RX3 215 yJ9_max_7cf53 cJ9_max_7cf53 2 (some .int) 2 := ⟨⟨zTb_3 220 rfl rfl, sm_J9_max_7cf53, i_J9, k_J9_max_7cf53⟩, by decide +kernel, by decide +kernel, by decide +kernel⟩
theorem q_X3_220 : Cond.fieldLink RX3 220 "ConfessionMill$Reader" "BINDS" "[I" ∈ zTb := zTb_3 214 rfl rfl
theorem w_X3_223 : zLk RX3 223 2 7 := Or.inr ⟨"ConfessionMill", List.mem_of_getElem? (i := 4) rfl⟩
theorem w_X4_9 : zLk RX4 9 5 0 := Or.inl (zTb_2 62 rfl rfl)
theorem w_X4_15 : zLk RX4 15 5 1 := Or.inl (zTb_2 65 rfl rfl)
theorem w_X4_18 : zLk RX4 18 5 2 := Or.inl (zTb_2 68 rfl rfl)
theorem w_X4_21 : zLk RX4 21 5 3 := Or.inl (zTb_2 71 rfl rfl)
theorem w_X4_24 : zLk RX4 24 5 4 := Or.inl (zTb_2 73 rfl rfl)
theorem w_X4_27 : zLk RX4 27 5 5 := Or.inl (zTb_2 76 rfl rfl)
theorem w_X4_30 : zLk RX4 30 5 6 := Or.inl (zTb_2 78 rfl rfl)
theorem w_X4_33 : zLk RX4 33 5 7 := Or.inl (zTb_2 80 rfl rfl)
theorem w_X4_36 : zLk RX4 36 5 8 := Or.inl (zTb_2 82 rfl rfl)
theorem w_X4_39 : zLk RX4 39 5 9 := Or.inl (zTb_2 84 rfl rfl)
theorem w_X4_42 : zLk RX4 42 5 10 := Or.inl (zTb_2 86 rfl rfl)
theorem ac_X4_46 : zWc RX4 46 := ⟨zTb_5 19 rfl rfl, zTb_2 118 rfl rfl, zTb_2 117 rfl rfl, zTb_1 12 rfl rfl⟩
theorem w_X5_12 : zLk RX5 12 6 0 := Or.inl (zTb_1 169 rfl rfl)
theorem w_X5_18 : zLk RX5 18 6 1 := Or.inl (zTb_1 173 rfl rfl)
theorem w_X5_22 : zLk RX5 22 6 2 := Or.inl (zTb_1 174 rfl rfl)
theorem w_X5_25 : zLk RX5 25 6 3 := Or.inl (zTb_1 180 rfl rfl)
theorem w_X5_28 : zLk RX5 28 6 4 := Or.inl (zTb_1 184 rfl rfl)
theorem w_X5_31 : zLk RX5 31 6 5 := Or.inl (zTb_1 188 rfl rfl)
theorem w_X5_34 : zLk RX5 34 6 6 := Or.inl (zTb_1 191 rfl rfl)
theorem w_X5_37 : zLk RX5 37 6 7 := Or.inl (zTb_1 195 rfl rfl)
theorem w_X5_40 : zLk RX5 40 6 8 := Or.inl (zTb_1 199 rfl rfl)
theorem w_X5_43 : zLk RX5 43 6 9 := Or.inl (zTb_1 203 rfl rfl)
theorem w_X5_47 : zLk RX5 47 6 10 := Or.inl (zTb_1 206 rfl rfl)
theorem im_X1_clear : Cond.instanceMethod yX1_clear ∈ zTb := zTb_3 97 rfl rfl
theorem se_X1_clear : Cond.selects RX1 yX1_clear yX1_clear ∈ zTb := zTb_3 98 rfl rfl
theorem k_X1_clear : Cond.code yX1_clear cX1_clear 1 none ∈ zTb := zTb_3 99 rfl rfl
theorem v_X5_50 : zWv RX5 50 yX1_clear 2 cX1_clear 1 none 0 := ⟨⟨zTb_3 96 rfl rfl, im_X1_clear, se_X1_clear, i_X1, k_X1_clear⟩, by decide +kernel, by decide +kernel, by decide +kernel, by decide +kernel⟩
theorem s_X5_53 : zWs RX5 53 yJ7_fill_53178 cJ7_fill_53178 4 none 2 := ⟨⟨zTb_3 101 rfl rfl, sm_J7_fill_53178, i_J7, k_J7_fill_53178⟩, by decide +kernel, by decide +kernel, by decide +kernel⟩
theorem w_X5_59 : zLk RX5 59 6 11 := Or.inl (zTb_1 210 rfl rfl)
theorem w_X5_62 : zLk RX5 62 6 12 := Or.inl (zTb_1 213 rfl rfl)
theorem im_X5_has : Cond.instanceMethod yX5_has ∈ zTb := zTb_4 13 rfl rfl
theorem se_X5_has : Cond.selects RX5 yX5_has yX5_has ∈ zTb := zTb_4 14 rfl rfl
theorem k_X5_has : Cond.code yX5_has cX5_has 3 (some .boolean) ∈ zTb := zTb_4 15 rfl rfl
theorem v_X5_65 : zWv RX5 65 yX5_has 6 cX5_has 3 (some .boolean) 2 := ⟨⟨zTb_4 12 rfl rfl, im_X5_has, se_X5_has, i_X5, k_X5_has⟩, by decide +kernel, by decide +kernel, by decide +kernel, by decide +kernel⟩
theorem q_X5_69 : (RX5, 69, "ConfessionMill", "MOST", "[I", "ConfessionMill") ∈ zNs := List.mem_of_getElem? (i := 77) rfl
theorem v_X5_72 : zWv RX5 72 yX5_isFull 6 cX5_isFull 2 (some .boolean) 1 := ⟨⟨zTb_3 136 rfl rfl, im_X5_isFull, se_X5_isFull, i_X5, k_X5_isFull⟩, by decide +kernel, by decide +kernel, by decide +kernel, by decide +kernel⟩
theorem im_X1_value : Cond.instanceMethod yX1_value ∈ zTb := zTb_4 46 rfl rfl
theorem se_X1_value : Cond.selects RX1 yX1_value yX1_value ∈ zTb := zTb_4 47 rfl rfl
theorem k_X1_value : Cond.code yX1_value cX1_value 8 (some .long) ∈ zTb := zTb_4 48 rfl rfl
theorem v_X5_76 : zWv RX5 76 yX1_value 2 cX1_value 8 (some .long) 1 := ⟨⟨zTb_4 45 rfl rfl, im_X1_value, se_X1_value, i_X1, k_X1_value⟩, by decide +kernel, by decide +kernel, by decide +kernel, by decide +kernel⟩
theorem q_X5_80 : Jvm.Cond.constantLong RX5 80 (-9223372036854775808) ∈ zTb := zTb_4 56 rfl rfl
theorem q_X5_82 : Jvm.Cond.constantLong RX5 82 (999) ∈ zTb := zTb_4 57 rfl rfl
theorem sm_J9_min_f86c9 : Cond.static yJ9_min_f86c9 ∈ zTb := zTb_4 59 rfl rfl
theorem k_J9_min_f86c9 : Cond.code yJ9_min_f86c9 cJ9_min_f86c9 4 (some .long) ∈ zTb := zTb_4 60 rfl rfl
theorem s_X5_84 : zWs RX5 84 yJ9_min_f86c9 cJ9_min_f86c9 4 (some .long) 2 := ⟨⟨zTb_4 58 rfl rfl, sm_J9_min_f86c9, i_J9, k_J9_min_f86c9⟩, by decide +kernel, by decide +kernel, by decide +kernel⟩
theorem sm_J9_max_f86c9 : Cond.static yJ9_max_f86c9 ∈ zTb := zTb_4 62 rfl rfl
theorem k_J9_max_f86c9 : Cond.code yJ9_max_f86c9 cJ9_max_f86c9 4 (some .long) ∈ zTb := zTb_4 63 rfl rfl
theorem s_X5_90 : zWs RX5 90 yJ9_max_f86c9 cJ9_max_f86c9 4 (some .long) 2 := ⟨⟨zTb_4 61 rfl rfl, sm_J9_max_f86c9, i_J9, k_J9_max_f86c9⟩, by decide +kernel, by decide +kernel, by decide +kernel⟩
theorem w_X6_11 : zLk RX6 11 7 0 := Or.inl (zTb_1 101 rfl rfl)
theorem w_X6_15 : zLk RX6 15 7 1 := Or.inl (zTb_1 102 rfl rfl)
theorem w_X6_18 : zLk RX6 18 7 2 := Or.inl (zTb_1 104 rfl rfl)
theorem w_X6_21 : zLk RX6 21 7 3 := Or.inl (zTb_1 106 rfl rfl)
theorem im_X6_learn : Cond.instanceMethod yX6_learn ∈ zTb := zTb_1 48 rfl rfl
theorem se_X6_learn : Cond.selects RX6 yX6_learn yX6_learn ∈ zTb := zTb_s (n := 7) (lw_q1 (List.mem_of_getElem? (i := 0) rfl)) rfl
theorem k_X6_learn : Cond.code yX6_learn cX6_learn 7 (some .int) ∈ zTb := zTb_1 49 rfl rfl
theorem v_X6_28 : zWv RX6 28 yX6_learn 7 cX6_learn 7 (some .int) 2 := ⟨⟨zTb_1 46 rfl rfl, im_X6_learn, se_X6_learn, i_X6, k_X6_learn⟩, by decide +kernel, by decide +kernel, by decide +kernel, by decide +kernel⟩
theorem sm_X6_packed : Cond.static yX6_packed ∈ zTb := zTb_1 99 rfl rfl
theorem k_X6_packed : Cond.code yX6_packed cX6_packed 2 (some .int) ∈ zTb := zTb_1 100 rfl rfl
theorem s_X6_42 : zWs RX6 42 yX6_packed cX6_packed 2 (some .int) 2 := ⟨⟨zTb_1 98 rfl rfl, sm_X6_packed, i_X6, k_X6_packed⟩, by decide +kernel, by decide +kernel, by decide +kernel⟩
theorem sm_J9_min_7cf53 : Cond.static yJ9_min_7cf53 ∈ zTb := zTb_3 64 rfl rfl
theorem k_J9_min_7cf53 : Cond.code yJ9_min_7cf53 cJ9_min_7cf53 2 (some .int) ∈ zTb := zTb_3 65 rfl rfl
theorem s_X6_46 : zWs RX6 46 yJ9_min_7cf53 cJ9_min_7cf53 2 (some .int) 2 := ⟨⟨zTb_3 63 rfl rfl, sm_J9_min_7cf53, i_J9, k_J9_min_7cf53⟩, by decide +kernel, by decide +kernel, by decide +kernel⟩
theorem s_X6_51 : zWs RX6 51 yJ9_max_7cf53 cJ9_max_7cf53 2 (some .int) 2 := ⟨⟨zTb_3 66 rfl rfl, sm_J9_max_7cf53, i_J9, k_J9_max_7cf53⟩, by decide +kernel, by decide +kernel, by decide +kernel⟩
theorem w_X6_54 : zLk RX6 54 7 5 := Or.inl (zTb_1 110 rfl rfl)
theorem w_X6_57 : zLk RX6 57 7 4 := Or.inl (zTb_1 109 rfl rfl)
theorem w_X6_60 : zLk RX6 60 7 6 := Or.inl (zTb_1 111 rfl rfl)
theorem sm_X6_isLetter : Cond.static yX6_isLetter ∈ zTb := zTb_3 70 rfl rfl
theorem k_X6_isLetter : Cond.code yX6_isLetter cX6_isLetter 1 (some .boolean) ∈ zTb := zTb_3 71 rfl rfl
theorem s_X6_63 : zWs RX6 63 yX6_isLetter cX6_isLetter 1 (some .boolean) 1 := ⟨⟨zTb_3 69 rfl rfl, sm_X6_isLetter, i_X6, k_X6_isLetter⟩, by decide +kernel, by decide +kernel, by decide +kernel⟩
theorem im_X6_readWord : Cond.instanceMethod yX6_readWord ∈ zTb := zTb_3 74 rfl rfl
theorem se_X6_readWord : Cond.selects RX6 yX6_readWord yX6_readWord ∈ zTb := zTb_s (n := 7) (lw_q1 (List.mem_of_getElem? (i := 2) rfl)) rfl
theorem k_X6_readWord : Cond.code yX6_readWord cX6_readWord 5 none ∈ zTb := zTb_3 75 rfl rfl
theorem v_X6_67 : zWv RX6 67 yX6_readWord 7 cX6_readWord 5 none 1 := ⟨⟨zTb_3 72 rfl rfl, im_X6_readWord, se_X6_readWord, i_X6, k_X6_readWord⟩, by decide +kernel, by decide +kernel, by decide +kernel, by decide +kernel⟩
theorem sm_X6_isDigit : Cond.static yX6_isDigit ∈ zTb := zTb_3 81 rfl rfl
theorem k_X6_isDigit : Cond.code yX6_isDigit cX6_isDigit 1 (some .boolean) ∈ zTb := zTb_3 82 rfl rfl
theorem s_X6_71 : zWs RX6 71 yX6_isDigit cX6_isDigit 1 (some .boolean) 1 := ⟨⟨zTb_3 80 rfl rfl, sm_X6_isDigit, i_X6, k_X6_isDigit⟩, by decide +kernel, by decide +kernel, by decide +kernel⟩
theorem im_X6_readDigits : Cond.instanceMethod yX6_readDigits ∈ zTb := zTb_3 85 rfl rfl
theorem se_X6_readDigits : Cond.selects RX6 yX6_readDigits yX6_readDigits ∈ zTb := zTb_s (n := 7) (lw_q1 (List.mem_of_getElem? (i := 4) rfl)) rfl
theorem k_X6_readDigits : Cond.code yX6_readDigits cX6_readDigits 3 none ∈ zTb := zTb_3 86 rfl rfl
theorem v_X6_74 : zWv RX6 74 yX6_readDigits 7 cX6_readDigits 3 none 1 := ⟨⟨zTb_3 83 rfl rfl, im_X6_readDigits, se_X6_readDigits, i_X6, k_X6_readDigits⟩, by decide +kernel, by decide +kernel, by decide +kernel, by decide +kernel⟩
theorem im_X6_readSign : Cond.instanceMethod yX6_readSign ∈ zTb := zTb_3 90 rfl rfl
theorem se_X6_readSign : Cond.selects RX6 yX6_readSign yX6_readSign ∈ zTb := zTb_s (n := 7) (lw_q1 (List.mem_of_getElem? (i := 5) rfl)) rfl
theorem k_X6_readSign : Cond.code yX6_readSign cX6_readSign 3 none ∈ zTb := zTb_3 91 rfl rfl
theorem v_X6_77 : zWv RX6 77 yX6_readSign 7 cX6_readSign 3 none 2 := ⟨⟨zTb_3 88 rfl rfl, im_X6_readSign, se_X6_readSign, i_X6, k_X6_readSign⟩, by decide +kernel, by decide +kernel, by decide +kernel, by decide +kernel⟩
theorem im_X6_add : Cond.instanceMethod yX6_add ∈ zTb := zTb_3 78 rfl rfl
theorem se_X6_add : Cond.selects RX6 yX6_add yX6_add ∈ zTb := zTb_s (n := 7) (lw_q1 (List.mem_of_getElem? (i := 3) rfl)) rfl
theorem k_X6_add : Cond.code yX6_add cX6_add 3 none ∈ zTb := zTb_3 79 rfl rfl
theorem v_X6_81 : zWv RX6 81 yX6_add 7 cX6_add 3 none 2 := ⟨⟨zTb_3 76 rfl rfl, im_X6_add, se_X6_add, i_X6, k_X6_add⟩, by decide +kernel, by decide +kernel, by decide +kernel, by decide +kernel⟩
theorem q_X6_84 : Jvm.Cond.constant RX6 84 (1000000) ∈ zTb := zTb_3 87 rfl rfl
theorem w_X7_12 : zLk RX7 12 8 1 := Or.inl (zTb_2 125 rfl rfl)
theorem w_X7_18 : zLk RX7 18 8 2 := Or.inl (zTb_2 128 rfl rfl)
theorem w_X7_22 : zLk RX7 22 8 3 := Or.inl (zTb_2 130 rfl rfl)
theorem w_X7_25 : zLk RX7 25 8 4 := Or.inl (zTb_2 131 rfl rfl)
theorem w_X7_28 : zLk RX7 28 8 5 := Or.inl (zTb_2 133 rfl rfl)
theorem w_X7_31 : zLk RX7 31 8 6 := Or.inl (zTb_2 135 rfl rfl)
theorem w_X7_34 : zLk RX7 34 8 7 := Or.inl (zTb_2 137 rfl rfl)
theorem w_X7_37 : zLk RX7 37 8 8 := Or.inl (zTb_2 139 rfl rfl)
theorem w_X7_40 : zLk RX7 40 8 0 := Or.inl (zTb_2 122 rfl rfl)
theorem im_X7_begin : Cond.instanceMethod yX7_begin ∈ zTb := zTb_2 113 rfl rfl
theorem se_X7_begin : Cond.selects RX7 yX7_begin yX7_begin ∈ zTb := zTb_2 114 rfl rfl
theorem k_X7_begin : Cond.code yX7_begin cX7_begin 2 none ∈ zTb := zTb_2 115 rfl rfl
theorem v_X7_44 : zWv RX7 44 yX7_begin 8 cX7_begin 2 none 1 := ⟨⟨zTb_2 112 rfl rfl, im_X7_begin, se_X7_begin, i_X7, k_X7_begin⟩, by decide +kernel, by decide +kernel, by decide +kernel, by decide +kernel⟩
theorem w_X7_48 : zLk RX7 48 5 10 := Or.inr ⟨"ConfessionMill", List.mem_of_getElem? (i := 56) rfl⟩
theorem w_X7_52 : zLk RX7 52 6 5 := Or.inr ⟨"ConfessionMill", List.mem_of_getElem? (i := 20) rfl⟩
theorem ac_X7_57 : zWc RX7 57 := ⟨zTb_2 116 rfl rfl, zTb_2 118 rfl rfl, zTb_2 117 rfl rfl, zTb_1 12 rfl rfl⟩
theorem s_X7_63 : zWs RX7 63 yJ7_fill_53178 cJ7_fill_53178 4 none 2 := ⟨⟨zTb_2 119 rfl rfl, sm_J7_fill_53178, i_J7, k_J7_fill_53178⟩, by decide +kernel, by decide +kernel, by decide +kernel⟩
theorem w_X7_69 : zLk RX7 69 8 9 := Or.inl (zTb_2 140 rfl rfl)
theorem w_X7_72 : zLk RX7 72 6 9 := Or.inr ⟨"ConfessionMill", List.mem_of_getElem? (i := 31) rfl⟩
theorem w_X7_75 : zLk RX7 75 8 10 := Or.inl (zTb_2 142 rfl rfl)
theorem w_X7_76 : zLk RX7 76 6 11 := Or.inr ⟨"ConfessionMill", List.mem_of_getElem? (i := 36) rfl⟩
theorem w_X7_79 : zLk RX7 79 8 11 := Or.inl (zTb_2 145 rfl rfl)
theorem w_X7_82 : zLk RX7 82 6 12 := Or.inr ⟨"ConfessionMill", List.mem_of_getElem? (i := 38) rfl⟩
theorem w_X7_85 : zLk RX7 85 8 12 := Or.inl (zTb_2 147 rfl rfl)
theorem w_X7_88 : zLk RX7 88 8 13 := Or.inl (zTb_2 149 rfl rfl)
theorem im_X4_copyFrom : Cond.instanceMethod yX4_copyFrom ∈ zTb := zTb_5 16 rfl rfl
theorem se_X4_copyFrom : Cond.selects RX4 yX4_copyFrom yX4_copyFrom ∈ zTb := zTb_5 17 rfl rfl
theorem k_X4_copyFrom : Cond.code yX4_copyFrom cX4_copyFrom 2 none ∈ zTb := zTb_5 18 rfl rfl
theorem v_X7_91 : zWv RX7 91 yX4_copyFrom 5 cX4_copyFrom 2 none 1 := ⟨⟨zTb_5 15 rfl rfl, im_X4_copyFrom, se_X4_copyFrom, i_X4, k_X4_copyFrom⟩, by decide +kernel, by decide +kernel, by decide +kernel, by decide +kernel⟩
theorem w_X7_95 : zLk RX7 95 6 2 := Or.inr ⟨"ConfessionMill", List.mem_of_getElem? (i := 10) rfl⟩
theorem w_X7_98 : zLk RX7 98 6 3 := Or.inr ⟨"ConfessionMill", List.mem_of_getElem? (i := 14) rfl⟩
theorem v_X7_101 : zWv RX7 101 yX7_leftOf 8 cX7_leftOf 3 (some .int) 2 := ⟨⟨zTb_4 32 rfl rfl, im_X7_leftOf, se_X7_leftOf, i_X7, k_X7_leftOf⟩, by decide +kernel, by decide +kernel, by decide +kernel, by decide +kernel⟩
theorem w_X7_105 : zLk RX7 105 6 0 := Or.inr ⟨"ConfessionMill", List.mem_of_getElem? (i := 6) rfl⟩
theorem im_X7_prideOf : Cond.instanceMethod yX7_prideOf ∈ zTb := zTb_4 34 rfl rfl
theorem se_X7_prideOf : Cond.selects RX7 yX7_prideOf yX7_prideOf ∈ zTb := zTb_4 35 rfl rfl
theorem k_X7_prideOf : Cond.code yX7_prideOf cX7_prideOf 4 (some .int) ∈ zTb := zTb_4 36 rfl rfl
theorem v_X7_109 : zWv RX7 109 yX7_prideOf 8 cX7_prideOf 4 (some .int) 1 := ⟨⟨zTb_4 33 rfl rfl, im_X7_prideOf, se_X7_prideOf, i_X7, k_X7_prideOf⟩, by decide +kernel, by decide +kernel, by decide +kernel, by decide +kernel⟩
theorem w_X7_113 : zLk RX7 113 6 4 := Or.inr ⟨"ConfessionMill", List.mem_of_getElem? (i := 18) rfl⟩
theorem im_X1_setNames : Cond.instanceMethod yX1_setNames ∈ zTb := zTb_4 38 rfl rfl
theorem se_X1_setNames : Cond.selects RX1 yX1_setNames yX1_setNames ∈ zTb := zTb_4 39 rfl rfl
theorem k_X1_setNames : Cond.code yX1_setNames cX1_setNames 8 none ∈ zTb := zTb_4 40 rfl rfl
theorem v_X7_116 : zWv RX7 116 yX1_setNames 2 cX1_setNames 8 none 7 := ⟨⟨zTb_4 37 rfl rfl, im_X1_setNames, se_X1_setNames, i_X1, k_X1_setNames⟩, by decide +kernel, by decide +kernel, by decide +kernel, by decide +kernel⟩
theorem im_X7_setNames : Cond.instanceMethod yX7_setNames ∈ zTb := zTb_4 30 rfl rfl
theorem se_X7_setNames : Cond.selects RX7 yX7_setNames yX7_setNames ∈ zTb := zTb_s (n := 14) (lw_q2 (List.mem_of_getElem? (i := 12) rfl)) rfl
theorem k_X7_setNames : Cond.code yX7_setNames cX7_setNames 4 none ∈ zTb := zTb_4 31 rfl rfl
theorem v_X7_122 : zWv RX7 122 yX7_setNames 8 cX7_setNames 4 none 2 := ⟨⟨zTb_4 28 rfl rfl, im_X7_setNames, se_X7_setNames, i_X7, k_X7_setNames⟩, by decide +kernel, by decide +kernel, by decide +kernel, by decide +kernel⟩
theorem v_X7_125 : zWv RX7 125 yX1_value 2 cX1_value 8 (some .long) 1 := ⟨⟨zTb_4 72 rfl rfl, im_X1_value, se_X1_value, i_X1, k_X1_value⟩, by decide +kernel, by decide +kernel, by decide +kernel, by decide +kernel⟩
theorem im_X7_worthLeft : Cond.instanceMethod yX7_worthLeft ∈ zTb := zTb_4 81 rfl rfl
theorem se_X7_worthLeft : Cond.selects RX7 yX7_worthLeft yX7_worthLeft ∈ zTb := zTb_s (n := 14) (lw_q2 (List.mem_of_getElem? (i := 13) rfl)) rfl
theorem k_X7_worthLeft : Cond.code yX7_worthLeft cX7_worthLeft 4 (some .int) ∈ zTb := zTb_4 82 rfl rfl
theorem v_X7_129 : zWv RX7 129 yX7_worthLeft 8 cX7_worthLeft 4 (some .int) 1 := ⟨⟨zTb_4 79 rfl rfl, im_X7_worthLeft, se_X7_worthLeft, i_X7, k_X7_worthLeft⟩, by decide +kernel, by decide +kernel, by decide +kernel, by decide +kernel⟩
theorem im_X5_fineness : Cond.instanceMethod yX5_fineness ∈ zTb := zTb_4 42 rfl rfl
theorem se_X5_fineness : Cond.selects RX5 yX5_fineness yX5_fineness ∈ zTb := zTb_4 43 rfl rfl
theorem k_X5_fineness : Cond.code yX5_fineness cX5_fineness 5 (some .int) ∈ zTb := zTb_4 44 rfl rfl
theorem v_X7_132 : zWv RX7 132 yX5_fineness 6 cX5_fineness 5 (some .int) 2 := ⟨⟨zTb_4 41 rfl rfl, im_X5_fineness, se_X5_fineness, i_X5, k_X5_fineness⟩, by decide +kernel, by decide +kernel, by decide +kernel, by decide +kernel⟩
theorem w_X7_135 : zLk RX7 135 5 5 := Or.inr ⟨"ConfessionMill", List.mem_of_getElem? (i := 51) rfl⟩
theorem w_X7_136 : zLk RX7 136 5 6 := Or.inr ⟨"ConfessionMill", List.mem_of_getElem? (i := 52) rfl⟩
theorem w_X7_138 : zLk RX7 138 5 7 := Or.inr ⟨"ConfessionMill", List.mem_of_getElem? (i := 53) rfl⟩
theorem im_X4_lieBy : Cond.instanceMethod yX4_lieBy ∈ zTb := zTb_4 123 rfl rfl
theorem se_X4_lieBy : Cond.selects RX4 yX4_lieBy yX4_lieBy ∈ zTb := zTb_4 124 rfl rfl
theorem k_X4_lieBy : Cond.code yX4_lieBy cX4_lieBy 3 (some .int) ∈ zTb := zTb_4 125 rfl rfl
theorem v_X7_141 : zWv RX7 141 yX4_lieBy 5 cX4_lieBy 3 (some .int) 2 := ⟨⟨zTb_4 122 rfl rfl, im_X4_lieBy, se_X4_lieBy, i_X4, k_X4_lieBy⟩, by decide +kernel, by decide +kernel, by decide +kernel, by decide +kernel⟩
theorem w_X7_144 : zLk RX7 144 5 0 := Or.inr ⟨"ConfessionMill", List.mem_of_getElem? (i := 42) rfl⟩
theorem w_X7_147 : zLk RX7 147 5 8 := Or.inr ⟨"ConfessionMill", List.mem_of_getElem? (i := 54) rfl⟩
theorem s_X7_149 : zWs RX7 149 yJ9_min_7cf53 cJ9_min_7cf53 2 (some .int) 2 := ⟨⟨zTb_4 108 rfl rfl, sm_J9_min_7cf53, i_J9, k_J9_min_7cf53⟩, by decide +kernel, by decide +kernel, by decide +kernel⟩
theorem w_X7_154 : zLk RX7 154 5 1 := Or.inr ⟨"ConfessionMill", List.mem_of_getElem? (i := 44) rfl⟩
theorem im_X7_fineThen : Cond.instanceMethod yX7_fineThen ∈ zTb := zTb_5 75 rfl rfl
theorem se_X7_fineThen : Cond.selects RX7 yX7_fineThen yX7_fineThen ∈ zTb := zTb_5 76 rfl rfl
theorem k_X7_fineThen : Cond.code yX7_fineThen cX7_fineThen 4 (some .int) ∈ zTb := zTb_5 77 rfl rfl
theorem v_X7_157 : zWv RX7 157 yX7_fineThen 8 cX7_fineThen 4 (some .int) 3 := ⟨⟨zTb_5 156 rfl rfl, im_X7_fineThen, se_X7_fineThen, i_X7, k_X7_fineThen⟩, by decide +kernel, by decide +kernel, by decide +kernel, by decide +kernel⟩
theorem w_X7_161 : zLk RX7 161 5 2 := Or.inr ⟨"ConfessionMill", List.mem_of_getElem? (i := 46) rfl⟩
theorem im_X4_isFull : Cond.instanceMethod yX4_isFull ∈ zTb := zTb_4 92 rfl rfl
theorem se_X4_isFull : Cond.selects RX4 yX4_isFull yX4_isFull ∈ zTb := zTb_4 93 rfl rfl
theorem k_X4_isFull : Cond.code yX4_isFull cX4_isFull 1 (some .boolean) ∈ zTb := zTb_4 94 rfl rfl
theorem v_X7_164 : zWv RX7 164 yX4_isFull 5 cX4_isFull 1 (some .boolean) 0 := ⟨⟨zTb_4 91 rfl rfl, im_X4_isFull, se_X4_isFull, i_X4, k_X4_isFull⟩, by decide +kernel, by decide +kernel, by decide +kernel, by decide +kernel⟩
theorem w_X7_168 : zLk RX7 168 6 10 := Or.inr ⟨"ConfessionMill", List.mem_of_getElem? (i := 35) rfl⟩
theorem v_X7_171 : zWv RX7 171 yX7_canGrind 8 cX7_canGrind 1 (some .boolean) 0 := ⟨⟨zTb_4 103 rfl rfl, im_X7_canGrind, se_X7_canGrind, i_X7, k_X7_canGrind⟩, by decide +kernel, by decide +kernel, by decide +kernel, by decide +kernel⟩
theorem w_X7_174 : zLk RX7 174 5 3 := Or.inr ⟨"ConfessionMill", List.mem_of_getElem? (i := 48) rfl⟩
theorem v_X7_177 : zWv RX7 177 yX7_portion 8 cX7_portion 1 (some .int) 0 := ⟨⟨zTb_4 104 rfl rfl, im_X7_portion, se_X7_portion, i_X7, k_X7_portion⟩, by decide +kernel, by decide +kernel, by decide +kernel, by decide +kernel⟩
theorem w_X7_181 : zLk RX7 181 5 4 := Or.inr ⟨"ConfessionMill", List.mem_of_getElem? (i := 49) rfl⟩
theorem w_X7_184 : zLk RX7 184 5 9 := Or.inr ⟨"ConfessionMill", List.mem_of_getElem? (i := 55) rfl⟩
theorem im_X7_leftBitsOf : Cond.instanceMethod yX7_leftBitsOf ∈ zTb := zTb_4 111 rfl rfl
theorem se_X7_leftBitsOf : Cond.selects RX7 yX7_leftBitsOf yX7_leftBitsOf ∈ zTb := zTb_s (n := 14) (lw_q2 (List.mem_of_getElem? (i := 15) rfl)) rfl
theorem k_X7_leftBitsOf : Cond.code yX7_leftBitsOf cX7_leftBitsOf 4 (some .int) ∈ zTb := zTb_4 112 rfl rfl
theorem v_X7_187 : zWv RX7 187 yX7_leftBitsOf 8 cX7_leftBitsOf 4 (some .int) 1 := ⟨⟨zTb_4 109 rfl rfl, im_X7_leftBitsOf, se_X7_leftBitsOf, i_X7, k_X7_leftBitsOf⟩, by decide +kernel, by decide +kernel, by decide +kernel, by decide +kernel⟩
theorem q_X7_190 : Jvm.Cond.constant RX7 190 (99999) ∈ zTb := zTb_4 113 rfl rfl
theorem im_X7_wearHere : Cond.instanceMethod yX7_wearHere ∈ zTb := zTb_4 116 rfl rfl
theorem se_X7_wearHere : Cond.selects RX7 yX7_wearHere yX7_wearHere ∈ zTb := zTb_s (n := 14) (lw_q3 (List.mem_of_getElem? (i := 0) rfl)) rfl
theorem k_X7_wearHere : Cond.code yX7_wearHere cX7_wearHere 3 (some .int) ∈ zTb := zTb_4 117 rfl rfl
theorem v_X7_191 : zWv RX7 191 yX7_wearHere 8 cX7_wearHere 3 (some .int) 0 := ⟨⟨zTb_4 114 rfl rfl, im_X7_wearHere, se_X7_wearHere, i_X7, k_X7_wearHere⟩, by decide +kernel, by decide +kernel, by decide +kernel, by decide +kernel⟩
theorem q_X7_194 : Jvm.Cond.constantLong RX7 194 (-9223372036854775808) ∈ zTb := zTb_4 118 rfl rfl
theorem q_X7_196 : Jvm.Cond.constantLong RX7 196 (99) ∈ zTb := zTb_4 119 rfl rfl
theorem s_X7_198 : zWs RX7 198 yJ9_min_f86c9 cJ9_min_f86c9 4 (some .long) 2 := ⟨⟨zTb_4 120 rfl rfl, sm_J9_min_f86c9, i_J9, k_J9_min_f86c9⟩, by decide +kernel, by decide +kernel, by decide +kernel⟩
theorem s_X7_201 : zWs RX7 201 yJ9_max_f86c9 cJ9_max_f86c9 4 (some .long) 2 := ⟨⟨zTb_4 121 rfl rfl, sm_J9_max_f86c9, i_J9, k_J9_max_f86c9⟩, by decide +kernel, by decide +kernel, by decide +kernel⟩
theorem q_X7_204 : Jvm.Cond.constantLong RX7 204 (1103515245) ∈ zTb := zTb_4 143 rfl rfl
theorem q_X7_206 : Jvm.Cond.constantLong RX7 206 (12345) ∈ zTb := zTb_4 144 rfl rfl
theorem q_X7_208 : Jvm.Cond.constantLong RX7 208 (2147483647) ∈ zTb := zTb_4 145 rfl rfl
theorem q_X7_210 : Jvm.Cond.constant RX7 210 (65536) ∈ zTb := zTb_4 146 rfl rfl
theorem im_X7_draw : Cond.instanceMethod yX7_draw ∈ zTb := zTb_4 141 rfl rfl
theorem se_X7_draw : Cond.selects RX7 yX7_draw yX7_draw ∈ zTb := zTb_s (n := 14) (lw_q3 (List.mem_of_getElem? (i := 2) rfl)) rfl
theorem k_X7_draw : Cond.code yX7_draw cX7_draw 1 (some .int) ∈ zTb := zTb_4 142 rfl rfl
theorem v_X7_211 : zWv RX7 211 yX7_draw 8 cX7_draw 1 (some .int) 0 := ⟨⟨zTb_4 139 rfl rfl, im_X7_draw, se_X7_draw, i_X7, k_X7_draw⟩, by decide +kernel, by decide +kernel, by decide +kernel, by decide +kernel⟩
theorem im_X7_worstLeft : Cond.instanceMethod yX7_worstLeft ∈ zTb := zTb_4 149 rfl rfl
theorem se_X7_worstLeft : Cond.selects RX7 yX7_worstLeft yX7_worstLeft ∈ zTb := zTb_s (n := 14) (lw_q3 (List.mem_of_getElem? (i := 3) rfl)) rfl
theorem k_X7_worstLeft : Cond.code yX7_worstLeft cX7_worstLeft 4 (some .int) ∈ zTb := zTb_4 150 rfl rfl
theorem v_X7_214 : zWv RX7 214 yX7_worstLeft 8 cX7_worstLeft 4 (some .int) 1 := ⟨⟨zTb_4 147 rfl rfl, im_X7_worstLeft, se_X7_worstLeft, i_X7, k_X7_worstLeft⟩, by decide +kernel, by decide +kernel, by decide +kernel, by decide +kernel⟩
theorem sm_J6_bitCount_0f7a4 : Cond.static yJ6_bitCount_0f7a4 ∈ zTb := zTb_4 152 rfl rfl
theorem i_J6 : Cond.initialized RJ6 ∈ zTb := zTb_1 23 rfl rfl
theorem k_J6_bitCount_0f7a4 : Cond.code yJ6_bitCount_0f7a4 cJ6_bitCount_0f7a4 1 (some .int) ∈ zTb := zTb_4 153 rfl rfl
theorem s_X7_217 : zWs RX7 217 yJ6_bitCount_0f7a4 cJ6_bitCount_0f7a4 1 (some .int) 1 := ⟨⟨zTb_4 151 rfl rfl, sm_J6_bitCount_0f7a4, i_J6, k_J6_bitCount_0f7a4⟩, by decide +kernel, by decide +kernel, by decide +kernel⟩
theorem im_X7_freeSin : Cond.instanceMethod yX7_freeSin ∈ zTb := zTb_4 159 rfl rfl
theorem se_X7_freeSin : Cond.selects RX7 yX7_freeSin yX7_freeSin ∈ zTb := zTb_s (n := 14) (lw_q3 (List.mem_of_getElem? (i := 4) rfl)) rfl
theorem k_X7_freeSin : Cond.code yX7_freeSin cX7_freeSin 5 (some .int) ∈ zTb := zTb_4 160 rfl rfl
theorem v_X7_222 : zWv RX7 222 yX7_freeSin 8 cX7_freeSin 5 (some .int) 2 := ⟨⟨zTb_4 157 rfl rfl, im_X7_freeSin, se_X7_freeSin, i_X7, k_X7_freeSin⟩, by decide +kernel, by decide +kernel, by decide +kernel, by decide +kernel⟩
theorem w_X7_225 : zLk RX7 225 6 6 := Or.inr ⟨"ConfessionMill", List.mem_of_getElem? (i := 24) rfl⟩
theorem w_X7_228 : zLk RX7 228 6 7 := Or.inr ⟨"ConfessionMill", List.mem_of_getElem? (i := 27) rfl⟩
theorem im_X7_isBaked : Cond.instanceMethod yX7_isBaked ∈ zTb := zTb_4 202 rfl rfl
theorem se_X7_isBaked : Cond.selects RX7 yX7_isBaked yX7_isBaked ∈ zTb := zTb_4 203 rfl rfl
theorem k_X7_isBaked : Cond.code yX7_isBaked cX7_isBaked 2 (some .boolean) ∈ zTb := zTb_4 204 rfl rfl
theorem v_X7_231 : zWv RX7 231 yX7_isBaked 8 cX7_isBaked 2 (some .boolean) 1 := ⟨⟨zTb_4 201 rfl rfl, im_X7_isBaked, se_X7_isBaked, i_X7, k_X7_isBaked⟩, by decide +kernel, by decide +kernel, by decide +kernel, by decide +kernel⟩
theorem v_X7_235 : zWv RX7 235 yX4_flourFrom 5 cX4_flourFrom 4 (some .int) 1 := ⟨⟨zTb_4 205 rfl rfl, im_X4_flourFrom, se_X4_flourFrom, i_X4, k_X4_flourFrom⟩, by decide +kernel, by decide +kernel, by decide +kernel, by decide +kernel⟩
theorem im_X4_coarsestFrom : Cond.instanceMethod yX4_coarsestFrom ∈ zTb := zTb_4 207 rfl rfl
theorem se_X4_coarsestFrom : Cond.selects RX4 yX4_coarsestFrom yX4_coarsestFrom ∈ zTb := zTb_4 208 rfl rfl
theorem k_X4_coarsestFrom : Cond.code yX4_coarsestFrom cX4_coarsestFrom 4 (some .int) ∈ zTb := zTb_4 209 rfl rfl
theorem v_X7_238 : zWv RX7 238 yX4_coarsestFrom 5 cX4_coarsestFrom 4 (some .int) 1 := ⟨⟨zTb_4 206 rfl rfl, im_X4_coarsestFrom, se_X4_coarsestFrom, i_X4, k_X4_coarsestFrom⟩, by decide +kernel, by decide +kernel, by decide +kernel, by decide +kernel⟩
theorem w_X7_241 : zLk RX7 241 6 8 := Or.inr ⟨"ConfessionMill", List.mem_of_getElem? (i := 30) rfl⟩
theorem im_X7_bakeOne : Cond.instanceMethod yX7_bakeOne ∈ zTb := zTb_4 198 rfl rfl
theorem se_X7_bakeOne : Cond.selects RX7 yX7_bakeOne yX7_bakeOne ∈ zTb := zTb_4 199 rfl rfl
theorem k_X7_bakeOne : Cond.code yX7_bakeOne cX7_bakeOne 7 (some .boolean) ∈ zTb := zTb_4 200 rfl rfl
theorem v_X7_244 : zWv RX7 244 yX7_bakeOne 8 cX7_bakeOne 7 (some .boolean) 1 := ⟨⟨zTb_4 238 rfl rfl, im_X7_bakeOne, se_X7_bakeOne, i_X7, k_X7_bakeOne⟩, by decide +kernel, by decide +kernel, by decide +kernel, by decide +kernel⟩
theorem im_X7_urgeOf : Cond.instanceMethod yX7_urgeOf ∈ zTb := zTb_4 229 rfl rfl
theorem se_X7_urgeOf : Cond.selects RX7 yX7_urgeOf yX7_urgeOf ∈ zTb := zTb_s (n := 14) (lw_q3 (List.mem_of_getElem? (i := 6) rfl)) rfl
theorem k_X7_urgeOf : Cond.code yX7_urgeOf cX7_urgeOf 7 (some .long) ∈ zTb := zTb_4 230 rfl rfl
theorem v_X7_247 : zWv RX7 247 yX7_urgeOf 8 cX7_urgeOf 7 (some .long) 4 := ⟨⟨zTb_4 227 rfl rfl, im_X7_urgeOf, se_X7_urgeOf, i_X7, k_X7_urgeOf⟩, by decide +kernel, by decide +kernel, by decide +kernel, by decide +kernel⟩
theorem v_X7_251 : zWv RX7 251 yX7_grindOne 8 cX7_grindOne 5 none 3 := ⟨⟨zTb_4 233 rfl rfl, im_X7_grindOne, se_X7_grindOne, i_X7, k_X7_grindOne⟩, by decide +kernel, by decide +kernel, by decide +kernel, by decide +kernel⟩
theorem v_X7_255 : zWv RX7 255 yX1_isTold 2 cX1_isTold 2 (some .boolean) 1 := ⟨⟨zTb_4 231 rfl rfl, im_X1_isTold, se_X1_isTold, i_X1, k_X1_isTold⟩, by decide +kernel, by decide +kernel, by decide +kernel, by decide +kernel⟩
theorem im_X7_valueOf : Cond.instanceMethod yX7_valueOf ∈ zTb := zTb_4 69 rfl rfl
theorem se_X7_valueOf : Cond.selects RX7 yX7_valueOf yX7_valueOf ∈ zTb := zTb_4 70 rfl rfl
theorem k_X7_valueOf : Cond.code yX7_valueOf cX7_valueOf 4 (some .long) ∈ zTb := zTb_4 71 rfl rfl
theorem v_X7_258 : zWv RX7 258 yX7_valueOf 8 cX7_valueOf 4 (some .long) 3 := ⟨⟨zTb_4 232 rfl rfl, im_X7_valueOf, se_X7_valueOf, i_X7, k_X7_valueOf⟩, by decide +kernel, by decide +kernel, by decide +kernel, by decide +kernel⟩
theorem w_X8_11 : zLk RX8 11 9 0 := Or.inl (zTb_3 0 rfl rfl)
theorem w_X8_18 : zLk RX8 18 9 2 := Or.inl (zTb_3 2 rfl rfl)
theorem w_X8_25 : zLk RX8 25 9 3 := Or.inl (zTb_3 3 rfl rfl)
theorem w_X8_34 : zLk RX8 34 9 4 := Or.inl (zTb_3 4 rfl rfl)
theorem w_X8_38 : zLk RX8 38 9 5 := Or.inl (zTb_3 5 rfl rfl)
theorem w_X8_41 : zLk RX8 41 9 6 := Or.inl (zTb_3 6 rfl rfl)
theorem w_X8_49 : zLk RX8 49 9 7 := Or.inl (zTb_3 7 rfl rfl)
theorem w_X8_56 : zLk RX8 56 9 8 := Or.inl (zTb_3 8 rfl rfl)
theorem w_X8_60 : zLk RX8 60 9 9 := Or.inl (zTb_3 9 rfl rfl)
theorem w_X8_63 : zLk RX8 63 9 13 := Or.inl (zTb_3 13 rfl rfl)
theorem w_X8_67 : zLk RX8 67 9 1 := Or.inl (zTb_3 1 rfl rfl)
theorem im_X8_putFour : Cond.instanceMethod yX8_putFour ∈ zTb := zTb_3 49 rfl rfl
theorem se_X8_putFour : Cond.selects RX8 yX8_putFour yX8_putFour ∈ zTb := zTb_s (n := 14) (lw_q1 (List.mem_of_getElem? (i := 1) rfl)) rfl
theorem i_X8 : Cond.initialized RX8 ∈ zTb := zTb_1 1 rfl rfl
theorem k_X8_putFour : Cond.code yX8_putFour cX8_putFour 3 none ∈ zTb := zTb_3 50 rfl rfl
theorem v_X8_70 : zWv RX8 70 yX8_putFour 9 cX8_putFour 3 none 1 := ⟨⟨zTb_3 47 rfl rfl, im_X8_putFour, se_X8_putFour, i_X8, k_X8_putFour⟩, by decide +kernel, by decide +kernel, by decide +kernel, by decide +kernel⟩
theorem im_X3_readAll : Cond.instanceMethod yX3_readAll ∈ zTb := zTb_3 56 rfl rfl
theorem se_X3_readAll : Cond.selects RX3 yX3_readAll yX3_readAll ∈ zTb := zTb_3 57 rfl rfl
theorem k_X3_readAll : Cond.code yX3_readAll cX3_readAll 4 (some .int) ∈ zTb := zTb_3 58 rfl rfl
theorem v_X8_74 : zWv RX8 74 yX3_readAll 4 cX3_readAll 4 (some .int) 2 := ⟨⟨zTb_3 55 rfl rfl, im_X3_readAll, se_X3_readAll, i_X3, k_X3_readAll⟩, by decide +kernel, by decide +kernel, by decide +kernel, by decide +kernel⟩
theorem w_X8_78 : zLk RX8 78 4 7 := Or.inr ⟨"ConfessionMill", List.mem_of_getElem? (i := 40) rfl⟩
theorem w_X8_81 : zLk RX8 81 9 12 := Or.inl (zTb_3 12 rfl rfl)
theorem w_X8_82 : zLk RX8 82 4 8 := Or.inr ⟨"ConfessionMill", List.mem_of_getElem? (i := 41) rfl⟩
theorem im_X3_handOver : Cond.instanceMethod yX3_handOver ∈ zTb := zTb_3 226 rfl rfl
theorem se_X3_handOver : Cond.selects RX3 yX3_handOver yX3_handOver ∈ zTb := zTb_3 227 rfl rfl
theorem k_X3_handOver : Cond.code yX3_handOver cX3_handOver 3 (some (.object "ConfessionMill$Telling")) ∈ zTb := zTb_3 228 rfl rfl
theorem v_X8_83 : zWv RX8 83 yX3_handOver 4 cX3_handOver 3 (some (.object "ConfessionMill$Telling")) 1 := ⟨⟨zTb_3 225 rfl rfl, im_X3_handOver, se_X3_handOver, i_X3, k_X3_handOver⟩, by decide +kernel, by decide +kernel, by decide +kernel, by decide +kernel⟩
theorem v_X8_87 : zWv RX8 87 yX7_begin 8 cX7_begin 2 none 1 := ⟨⟨zTb_3 229 rfl rfl, im_X7_begin, se_X7_begin, i_X7, k_X7_begin⟩, by decide +kernel, by decide +kernel, by decide +kernel, by decide +kernel⟩
theorem w_X8_90 : zLk RX8 90 9 11 := Or.inl (zTb_3 11 rfl rfl)
theorem w_X8_94 : zLk RX8 94 9 10 := Or.inl (zTb_3 10 rfl rfl)
theorem im_X2_forget : Cond.instanceMethod yX2_forget ∈ zTb := zTb_3 231 rfl rfl
theorem se_X2_forget : Cond.selects RX2 yX2_forget yX2_forget ∈ zTb := zTb_3 232 rfl rfl
theorem k_X2_forget : Cond.code yX2_forget cX2_forget 1 none ∈ zTb := zTb_3 233 rfl rfl
theorem v_X8_97 : zWv RX8 97 yX2_forget 3 cX2_forget 1 none 0 := ⟨⟨zTb_3 230 rfl rfl, im_X2_forget, se_X2_forget, i_X2, k_X2_forget⟩, by decide +kernel, by decide +kernel, by decide +kernel, by decide +kernel⟩
theorem v_X8_100 : zWv RX8 100 yX5_find 6 cX5_find 4 (some .int) 2 := ⟨⟨zTb_4 3 rfl rfl, im_X5_find, se_X5_find, i_X5, k_X5_find⟩, by decide +kernel, by decide +kernel, by decide +kernel, by decide +kernel⟩
theorem v_X8_104 : zWv RX8 104 yX5_has 6 cX5_has 3 (some .boolean) 2 := ⟨⟨zTb_4 74 rfl rfl, im_X5_has, se_X5_has, i_X5, k_X5_has⟩, by decide +kernel, by decide +kernel, by decide +kernel, by decide +kernel⟩
theorem w_X8_115 : zLk RX8 115 6 4 := Or.inr ⟨"ConfessionMill", List.mem_of_getElem? (i := 17) rfl⟩
theorem w_X8_118 : zLk RX8 118 8 4 := Or.inr ⟨"ConfessionMill", List.mem_of_getElem? (i := 63) rfl⟩
theorem w_X8_121 : zLk RX8 121 8 5 := Or.inr ⟨"ConfessionMill", List.mem_of_getElem? (i := 64) rfl⟩
theorem v_X8_124 : zWv RX8 124 yX7_prideOf 8 cX7_prideOf 4 (some .int) 1 := ⟨⟨zTb_6 14 rfl rfl, im_X7_prideOf, se_X7_prideOf, i_X7, k_X7_prideOf⟩, by decide +kernel, by decide +kernel, by decide +kernel, by decide +kernel⟩
theorem w_X8_128 : zLk RX8 128 8 6 := Or.inr ⟨"ConfessionMill", List.mem_of_getElem? (i := 65) rfl⟩
theorem im_X5_hasBoth : Cond.instanceMethod yX5_hasBoth ∈ zTb := zTb_4 9 rfl rfl
theorem se_X5_hasBoth : Cond.selects RX5 yX5_hasBoth yX5_hasBoth ∈ zTb := zTb_4 10 rfl rfl
theorem k_X5_hasBoth : Cond.code yX5_hasBoth cX5_hasBoth 3 (some .boolean) ∈ zTb := zTb_4 11 rfl rfl
theorem v_X8_136 : zWv RX8 136 yX5_hasBoth 6 cX5_hasBoth 3 (some .boolean) 2 := ⟨⟨zTb_4 8 rfl rfl, im_X5_hasBoth, se_X5_hasBoth, i_X5, k_X5_hasBoth⟩, by decide +kernel, by decide +kernel, by decide +kernel, by decide +kernel⟩
theorem w_X8_139 : zLk RX8 139 8 2 := Or.inr ⟨"ConfessionMill", List.mem_of_getElem? (i := 62) rfl⟩
theorem v_X8_142 : zWv RX8 142 yX7_leftOf 8 cX7_leftOf 3 (some .int) 2 := ⟨⟨zTb_4 16 rfl rfl, im_X7_leftOf, se_X7_leftOf, i_X7, k_X7_leftOf⟩, by decide +kernel, by decide +kernel, by decide +kernel, by decide +kernel⟩
theorem v_X8_145 : zWv RX8 145 yX7_fineOf 8 cX7_fineOf 3 (some .int) 2 := ⟨⟨zTb_4 24 rfl rfl, im_X7_fineOf, se_X7_fineOf, i_X7, k_X7_fineOf⟩, by decide +kernel, by decide +kernel, by decide +kernel, by decide +kernel⟩
theorem v_X8_148 : zWv RX8 148 yX7_valueOf 8 cX7_valueOf 4 (some .long) 3 := ⟨⟨zTb_4 68 rfl rfl, im_X7_valueOf, se_X7_valueOf, i_X7, k_X7_valueOf⟩, by decide +kernel, by decide +kernel, by decide +kernel, by decide +kernel⟩
theorem q_X8_152 : Jvm.Cond.constantLong RX8 152 (-9223372036854775808) ∈ zTb := zTb_4 73 rfl rfl
theorem v_X8_154 : zWv RX8 154 yX7_pairValue 8 cX7_pairValue 3 (some .long) 2 := ⟨⟨zTb_4 75 rfl rfl, im_X7_pairValue, se_X7_pairValue, i_X7, k_X7_pairValue⟩, by decide +kernel, by decide +kernel, by decide +kernel, by decide +kernel⟩
theorem v_X8_158 : zWv RX8 158 yX7_canGrind 8 cX7_canGrind 1 (some .boolean) 0 := ⟨⟨zTb_4 87 rfl rfl, im_X7_canGrind, se_X7_canGrind, i_X7, k_X7_canGrind⟩, by decide +kernel, by decide +kernel, by decide +kernel, by decide +kernel⟩
theorem im_X8_confessByCall : Cond.instanceMethod yX8_confessByCall ∈ zTb := zTb_4 97 rfl rfl
theorem se_X8_confessByCall : Cond.selects RX8 yX8_confessByCall yX8_confessByCall ∈ zTb := zTb_s (n := 14) (lw_q2 (List.mem_of_getElem? (i := 14) rfl)) rfl
theorem k_X8_confessByCall : Cond.code yX8_confessByCall cX8_confessByCall 3 (some .int) ∈ zTb := zTb_4 98 rfl rfl
theorem v_X8_162 : zWv RX8 162 yX8_confessByCall 9 cX8_confessByCall 3 (some .int) 2 := ⟨⟨zTb_4 95 rfl rfl, im_X8_confessByCall, se_X8_confessByCall, i_X8, k_X8_confessByCall⟩, by decide +kernel, by decide +kernel, by decide +kernel, by decide +kernel⟩
theorem v_X8_165 : zWv RX8 165 yX7_grindOne 8 cX7_grindOne 5 none 3 := ⟨⟨zTb_4 99 rfl rfl, im_X7_grindOne, se_X7_grindOne, i_X7, k_X7_grindOne⟩, by decide +kernel, by decide +kernel, by decide +kernel, by decide +kernel⟩
theorem im_X8_remember : Cond.instanceMethod yX8_remember ∈ zTb := zTb_4 128 rfl rfl
theorem se_X8_remember : Cond.selects RX8 yX8_remember yX8_remember ∈ zTb := zTb_s (n := 14) (lw_q3 (List.mem_of_getElem? (i := 1) rfl)) rfl
theorem k_X8_remember : Cond.code yX8_remember cX8_remember 2 none ∈ zTb := zTb_4 129 rfl rfl
theorem v_X8_169 : zWv RX8 169 yX8_remember 9 cX8_remember 2 none 1 := ⟨⟨zTb_4 126 rfl rfl, im_X8_remember, se_X8_remember, i_X8, k_X8_remember⟩, by decide +kernel, by decide +kernel, by decide +kernel, by decide +kernel⟩
theorem w_X8_172 : zLk RX8 172 8 1 := Or.inr ⟨"ConfessionMill", List.mem_of_getElem? (i := 61) rfl⟩
theorem w_X8_176 : zLk RX8 176 5 10 := Or.inr ⟨"ConfessionMill", List.mem_of_getElem? (i := 57) rfl⟩
theorem im_X7_sinByChance : Cond.instanceMethod yX7_sinByChance ∈ zTb := zTb_4 136 rfl rfl
theorem se_X7_sinByChance : Cond.selects RX7 yX7_sinByChance yX7_sinByChance ∈ zTb := zTb_4 137 rfl rfl
theorem k_X7_sinByChance : Cond.code yX7_sinByChance cX7_sinByChance 5 (some .int) ∈ zTb := zTb_4 138 rfl rfl
theorem v_X8_181 : zWv RX8 181 yX7_sinByChance 8 cX7_sinByChance 5 (some .int) 1 := ⟨⟨zTb_4 135 rfl rfl, im_X7_sinByChance, se_X7_sinByChance, i_X7, k_X7_sinByChance⟩, by decide +kernel, by decide +kernel, by decide +kernel, by decide +kernel⟩
theorem v_X8_184 : zWv RX8 184 yX7_canFall 8 cX7_canFall 3 (some .boolean) 2 := ⟨⟨zTb_4 165 rfl rfl, im_X7_canFall, se_X7_canFall, i_X7, k_X7_canFall⟩, by decide +kernel, by decide +kernel, by decide +kernel, by decide +kernel⟩
theorem v_X8_187 : zWv RX8 187 yX7_fallOnce 8 cX7_fallOnce 3 none 2 := ⟨⟨zTb_4 169 rfl rfl, im_X7_fallOnce, se_X7_fallOnce, i_X7, k_X7_fallOnce⟩, by decide +kernel, by decide +kernel, by decide +kernel, by decide +kernel⟩
theorem ac_X8_191 : zWc RX8 191 := ⟨zTb_4 130 rfl rfl, zTb_2 118 rfl rfl, zTb_2 117 rfl rfl, zTb_1 12 rfl rfl⟩
theorem im_X4_has : Cond.instanceMethod yX4_has ∈ zTb := zTb_4 178 rfl rfl
theorem se_X4_has : Cond.selects RX4 yX4_has yX4_has ∈ zTb := zTb_4 179 rfl rfl
theorem k_X4_has : Cond.code yX4_has cX4_has 2 (some .boolean) ∈ zTb := zTb_4 180 rfl rfl
theorem v_X8_197 : zWv RX8 197 yX4_has 5 cX4_has 2 (some .boolean) 1 := ⟨⟨zTb_4 177 rfl rfl, im_X4_has, se_X4_has, i_X4, k_X4_has⟩, by decide +kernel, by decide +kernel, by decide +kernel, by decide +kernel⟩
theorem w_X8_200 : zLk RX8 200 5 0 := Or.inr ⟨"ConfessionMill", List.mem_of_getElem? (i := 43) rfl⟩
theorem w_X8_203 : zLk RX8 203 5 1 := Or.inr ⟨"ConfessionMill", List.mem_of_getElem? (i := 45) rfl⟩
theorem w_X8_206 : zLk RX8 206 5 2 := Or.inr ⟨"ConfessionMill", List.mem_of_getElem? (i := 47) rfl⟩
theorem w_X8_209 : zLk RX8 209 5 4 := Or.inr ⟨"ConfessionMill", List.mem_of_getElem? (i := 50) rfl⟩
theorem v_X8_212 : zWv RX8 212 yX4_lieBy 5 cX4_lieBy 3 (some .int) 2 := ⟨⟨zTb_4 181 rfl rfl, im_X4_lieBy, se_X4_lieBy, i_X4, k_X4_lieBy⟩, by decide +kernel, by decide +kernel, by decide +kernel, by decide +kernel⟩
theorem sm_X8_isFine : Cond.static yX8_isFine ∈ zTb := zTb_4 187 rfl rfl
theorem k_X8_isFine : Cond.code yX8_isFine cX8_isFine 1 (some .boolean) ∈ zTb := zTb_4 188 rfl rfl
theorem s_X8_215 : zWs RX8 215 yX8_isFine cX8_isFine 1 (some .boolean) 1 := ⟨⟨zTb_4 186 rfl rfl, sm_X8_isFine, i_X8, k_X8_isFine⟩, by decide +kernel, by decide +kernel, by decide +kernel⟩
theorem v_X8_218 : zWv RX8 218 yX4_flourFrom 5 cX4_flourFrom 4 (some .int) 1 := ⟨⟨zTb_4 189 rfl rfl, im_X4_flourFrom, se_X4_flourFrom, i_X4, k_X4_flourFrom⟩, by decide +kernel, by decide +kernel, by decide +kernel, by decide +kernel⟩
theorem w_X8_221 : zLk RX8 221 8 9 := Or.inr ⟨"ConfessionMill", List.mem_of_getElem? (i := 67) rfl⟩
theorem w_X8_224 : zLk RX8 224 6 8 := Or.inr ⟨"ConfessionMill", List.mem_of_getElem? (i := 29) rfl⟩
theorem v_X8_227 : zWv RX8 227 yX7_bakeOne 8 cX7_bakeOne 7 (some .boolean) 1 := ⟨⟨zTb_4 197 rfl rfl, im_X7_bakeOne, se_X7_bakeOne, i_X7, k_X7_bakeOne⟩, by decide +kernel, by decide +kernel, by decide +kernel, by decide +kernel⟩
theorem v_X8_230 : zWv RX8 230 yX7_isBaked 8 cX7_isBaked 2 (some .boolean) 1 := ⟨⟨zTb_4 214 rfl rfl, im_X7_isBaked, se_X7_isBaked, i_X7, k_X7_isBaked⟩, by decide +kernel, by decide +kernel, by decide +kernel, by decide +kernel⟩
theorem w_X8_233 : zLk RX8 233 8 7 := Or.inr ⟨"ConfessionMill", List.mem_of_getElem? (i := 66) rfl⟩
theorem im_X8_areDays : Cond.instanceMethod yX8_areDays ∈ zTb := zTb_4 221 rfl rfl
theorem se_X8_areDays : Cond.selects RX8 yX8_areDays yX8_areDays ∈ zTb := zTb_s (n := 14) (lw_q3 (List.mem_of_getElem? (i := 5) rfl)) rfl
theorem k_X8_areDays : Cond.code yX8_areDays cX8_areDays 2 (some .boolean) ∈ zTb := zTb_4 222 rfl rfl
theorem v_X8_236 : zWv RX8 236 yX8_areDays 9 cX8_areDays 2 (some .boolean) 1 := ⟨⟨zTb_4 219 rfl rfl, im_X8_areDays, se_X8_areDays, i_X8, k_X8_areDays⟩, by decide +kernel, by decide +kernel, by decide +kernel, by decide +kernel⟩
theorem im_X7_confessOfDay : Cond.instanceMethod yX7_confessOfDay ∈ zTb := zTb_4 224 rfl rfl
theorem se_X7_confessOfDay : Cond.selects RX7 yX7_confessOfDay yX7_confessOfDay ∈ zTb := zTb_4 225 rfl rfl
theorem k_X7_confessOfDay : Cond.code yX7_confessOfDay cX7_confessOfDay 9 none ∈ zTb := zTb_4 226 rfl rfl
theorem v_X8_239 : zWv RX8 239 yX7_confessOfDay 8 cX7_confessOfDay 9 none 2 := ⟨⟨zTb_4 223 rfl rfl, im_X7_confessOfDay, se_X7_confessOfDay, i_X7, k_X7_confessOfDay⟩, by decide +kernel, by decide +kernel, by decide +kernel, by decide +kernel⟩
theorem im_X7_bakeOfDay : Cond.instanceMethod yX7_bakeOfDay ∈ zTb := zTb_4 235 rfl rfl
theorem se_X7_bakeOfDay : Cond.selects RX7 yX7_bakeOfDay yX7_bakeOfDay ∈ zTb := zTb_4 236 rfl rfl
theorem k_X7_bakeOfDay : Cond.code yX7_bakeOfDay cX7_bakeOfDay 2 none ∈ zTb := zTb_4 237 rfl rfl
theorem v_X8_242 : zWv RX8 242 yX7_bakeOfDay 8 cX7_bakeOfDay 2 none 0 := ⟨⟨zTb_4 234 rfl rfl, im_X7_bakeOfDay, se_X7_bakeOfDay, i_X7, k_X7_bakeOfDay⟩, by decide +kernel, by decide +kernel, by decide +kernel, by decide +kernel⟩
theorem im_X8_isOpen : Cond.instanceMethod yX8_isOpen ∈ zTb := zTb_5 5 rfl rfl
theorem se_X8_isOpen : Cond.selects RX8 yX8_isOpen yX8_isOpen ∈ zTb := zTb_s (n := 14) (lw_q3 (List.mem_of_getElem? (i := 7) rfl)) rfl
theorem k_X8_isOpen : Cond.code yX8_isOpen cX8_isOpen 2 (some .boolean) ∈ zTb := zTb_5 6 rfl rfl
theorem v_X8_245 : zWv RX8 245 yX8_isOpen 9 cX8_isOpen 2 (some .boolean) 1 := ⟨⟨zTb_5 3 rfl rfl, im_X8_isOpen, se_X8_isOpen, i_X8, k_X8_isOpen⟩, by decide +kernel, by decide +kernel, by decide +kernel, by decide +kernel⟩
theorem im_X2_planFor : Cond.instanceMethod yX2_planFor ∈ zTb := zTb_5 8 rfl rfl
theorem se_X2_planFor : Cond.selects RX2 yX2_planFor yX2_planFor ∈ zTb := zTb_5 9 rfl rfl
theorem k_X2_planFor : Cond.code yX2_planFor cX2_planFor 4 none ∈ zTb := zTb_5 10 rfl rfl
theorem v_X8_248 : zWv RX8 248 yX2_planFor 3 cX2_planFor 4 none 2 := ⟨⟨zTb_5 7 rfl rfl, im_X2_planFor, se_X2_planFor, i_X2, k_X2_planFor⟩, by decide +kernel, by decide +kernel, by decide +kernel, by decide +kernel⟩
theorem im_X2_isThere : Cond.instanceMethod yX2_isThere ∈ zTb := zTb_5 59 rfl rfl
theorem se_X2_isThere : Cond.selects RX2 yX2_isThere yX2_isThere ∈ zTb := zTb_5 60 rfl rfl
theorem k_X2_isThere : Cond.code yX2_isThere cX2_isThere 2 (some .boolean) ∈ zTb := zTb_5 61 rfl rfl
theorem v_X8_252 : zWv RX8 252 yX2_isThere 3 cX2_isThere 2 (some .boolean) 1 := ⟨⟨zTb_5 58 rfl rfl, im_X2_isThere, se_X2_isThere, i_X2, k_X2_isThere⟩, by decide +kernel, by decide +kernel, by decide +kernel, by decide +kernel⟩
theorem w_X8_255 : zLk RX8 255 3 2 := Or.inr ⟨"ConfessionMill", List.mem_of_getElem? (i := 73) rfl⟩
theorem w_X8_256 : zLk RX8 256 3 3 := Or.inr ⟨"ConfessionMill", List.mem_of_getElem? (i := 74) rfl⟩
theorem im_X2_stepOf : Cond.instanceMethod yX2_stepOf ∈ zTb := zTb_5 67 rfl rfl
theorem se_X2_stepOf : Cond.selects RX2 yX2_stepOf yX2_stepOf ∈ zTb := zTb_5 68 rfl rfl
theorem k_X2_stepOf : Cond.code yX2_stepOf cX2_stepOf 3 (some .int) ∈ zTb := zTb_5 69 rfl rfl
theorem v_X8_259 : zWv RX8 259 yX2_stepOf 3 cX2_stepOf 3 (some .int) 2 := ⟨⟨zTb_5 66 rfl rfl, im_X2_stepOf, se_X2_stepOf, i_X2, k_X2_stepOf⟩, by decide +kernel, by decide +kernel, by decide +kernel, by decide +kernel⟩
theorem w_X8_262 : zLk RX8 262 6 2 := Or.inr ⟨"ConfessionMill", List.mem_of_getElem? (i := 13) rfl⟩
theorem v_X8_265 : zWv RX8 265 yX7_fineThen 8 cX7_fineThen 4 (some .int) 3 := ⟨⟨zTb_5 74 rfl rfl, im_X7_fineThen, se_X7_fineThen, i_X7, k_X7_fineThen⟩, by decide +kernel, by decide +kernel, by decide +kernel, by decide +kernel⟩
theorem im_X8_oddsOfLie : Cond.instanceMethod yX8_oddsOfLie ∈ zTb := zTb_5 80 rfl rfl
theorem se_X8_oddsOfLie : Cond.selects RX8 yX8_oddsOfLie yX8_oddsOfLie ∈ zTb := zTb_s (n := 14) (lw_q3 (List.mem_of_getElem? (i := 13) rfl)) rfl
theorem k_X8_oddsOfLie : Cond.code yX8_oddsOfLie cX8_oddsOfLie 9 (some .int) ∈ zTb := zTb_5 81 rfl rfl
theorem v_X8_269 : zWv RX8 269 yX8_oddsOfLie 9 cX8_oddsOfLie 9 (some .int) 4 := ⟨⟨zTb_5 78 rfl rfl, im_X8_oddsOfLie, se_X8_oddsOfLie, i_X8, k_X8_oddsOfLie⟩, by decide +kernel, by decide +kernel, by decide +kernel, by decide +kernel⟩
theorem s_X8_273 : zWs RX8 273 yJ6_bitCount_0f7a4 cJ6_bitCount_0f7a4 1 (some .int) 1 := ⟨⟨zTb_5 82 rfl rfl, sm_J6_bitCount_0f7a4, i_J6, k_J6_bitCount_0f7a4⟩, by decide +kernel, by decide +kernel, by decide +kernel⟩
theorem sm_X8_commonDivisor : Cond.static yX8_commonDivisor ∈ zTb := zTb_5 84 rfl rfl
theorem k_X8_commonDivisor : Cond.code yX8_commonDivisor cX8_commonDivisor 6 (some .int) ∈ zTb := zTb_5 85 rfl rfl
theorem s_X8_278 : zWs RX8 278 yX8_commonDivisor cX8_commonDivisor 6 (some .int) 2 := ⟨⟨zTb_5 83 rfl rfl, sm_X8_commonDivisor, i_X8, k_X8_commonDivisor⟩, by decide +kernel, by decide +kernel, by decide +kernel⟩
theorem im_X8_flourOfRun : Cond.instanceMethod yX8_flourOfRun ∈ zTb := zTb_5 92 rfl rfl
theorem se_X8_flourOfRun : Cond.selects RX8 yX8_flourOfRun yX8_flourOfRun ∈ zTb := zTb_s (n := 14) (lw_q3 (List.mem_of_getElem? (i := 14) rfl)) rfl
theorem k_X8_flourOfRun : Cond.code yX8_flourOfRun cX8_flourOfRun 6 (some .int) ∈ zTb := zTb_5 93 rfl rfl
theorem v_X8_281 : zWv RX8 281 yX8_flourOfRun 9 cX8_flourOfRun 6 (some .int) 4 := ⟨⟨zTb_5 90 rfl rfl, im_X8_flourOfRun, se_X8_flourOfRun, i_X8, k_X8_flourOfRun⟩, by decide +kernel, by decide +kernel, by decide +kernel, by decide +kernel⟩
theorem im_X8_isTrial : Cond.instanceMethod yX8_isTrial ∈ zTb := zTb_5 101 rfl rfl
theorem se_X8_isTrial : Cond.selects RX8 yX8_isTrial yX8_isTrial ∈ zTb := zTb_s (n := 14) (lw_q3 (List.mem_of_getElem? (i := 15) rfl)) rfl
theorem k_X8_isTrial : Cond.code yX8_isTrial cX8_isTrial 3 (some .boolean) ∈ zTb := zTb_5 102 rfl rfl
theorem v_X8_285 : zWv RX8 285 yX8_isTrial 9 cX8_isTrial 3 (some .boolean) 2 := ⟨⟨zTb_5 99 rfl rfl, im_X8_isTrial, se_X8_isTrial, i_X8, k_X8_isTrial⟩, by decide +kernel, by decide +kernel, by decide +kernel, by decide +kernel⟩
theorem v_X8_288 : zWv RX8 288 yX7_copyFrom 8 cX7_copyFrom 2 none 1 := ⟨⟨zTb_5 94 rfl rfl, im_X7_copyFrom, se_X7_copyFrom, i_X7, k_X7_copyFrom⟩, by decide +kernel, by decide +kernel, by decide +kernel, by decide +kernel⟩
theorem im_X8_isRow : Cond.instanceMethod yX8_isRow ∈ zTb := zTb_5 109 rfl rfl
theorem se_X8_isRow : Cond.selects RX8 yX8_isRow yX8_isRow ∈ zTb := zTb_s (n := 14) (lw_q4 (List.mem_of_getElem? (i := 0) rfl)) rfl
theorem k_X8_isRow : Cond.code yX8_isRow cX8_isRow 4 (some .boolean) ∈ zTb := zTb_5 110 rfl rfl
theorem v_X8_291 : zWv RX8 291 yX8_isRow 9 cX8_isRow 4 (some .boolean) 2 := ⟨⟨zTb_5 107 rfl rfl, im_X8_isRow, se_X8_isRow, i_X8, k_X8_isRow⟩, by decide +kernel, by decide +kernel, by decide +kernel, by decide +kernel⟩
theorem q_X8_294 : Jvm.Cond.constant RX8 294 (2147483647) ∈ zTb := zTb_5 111 rfl rfl
theorem im_X8_greaterSum : Cond.instanceMethod yX8_greaterSum ∈ zTb := zTb_5 114 rfl rfl
theorem se_X8_greaterSum : Cond.selects RX8 yX8_greaterSum yX8_greaterSum ∈ zTb := zTb_s (n := 14) (lw_q4 (List.mem_of_getElem? (i := 1) rfl)) rfl
theorem k_X8_greaterSum : Cond.code yX8_greaterSum cX8_greaterSum 8 (some .int) ∈ zTb := zTb_5 115 rfl rfl
theorem v_X8_295 : zWv RX8 295 yX8_greaterSum 9 cX8_greaterSum 8 (some .int) 3 := ⟨⟨zTb_5 112 rfl rfl, im_X8_greaterSum, se_X8_greaterSum, i_X8, k_X8_greaterSum⟩, by decide +kernel, by decide +kernel, by decide +kernel, by decide +kernel⟩
theorem w_X8_298 : zLk RX8 298 6 3 := Or.inr ⟨"ConfessionMill", List.mem_of_getElem? (i := 16) rfl⟩
theorem s_X8_301 : zWs RX8 301 yJ9_max_7cf53 cJ9_max_7cf53 2 (some .int) 2 := ⟨⟨zTb_5 116 rfl rfl, sm_J9_max_7cf53, i_J9, k_J9_max_7cf53⟩, by decide +kernel, by decide +kernel, by decide +kernel⟩
theorem im_X0_bringTogether : Cond.instanceMethod yX0_bringTogether ∈ zTb := zTb_5 122 rfl rfl
theorem se_X0_bringTogether : Cond.selects RX0 yX0_bringTogether yX0_bringTogether ∈ zTb := zTb_5 123 rfl rfl
theorem k_X0_bringTogether : Cond.code yX0_bringTogether cX0_bringTogether 6 none ∈ zTb := zTb_5 124 rfl rfl
theorem v_X8_306 : zWv RX8 306 yX0_bringTogether 1 cX0_bringTogether 6 none 1 := ⟨⟨zTb_5 121 rfl rfl, im_X0_bringTogether, se_X0_bringTogether, i_X0, k_X0_bringTogether⟩, by decide +kernel, by decide +kernel, by decide +kernel, by decide +kernel⟩
theorem w_X8_309 : zLk RX8 309 1 4 := Or.inr ⟨"ConfessionMill", List.mem_of_getElem? (i := 76) rfl⟩
theorem w_X8_313 : zLk RX8 313 1 1 := Or.inr ⟨"ConfessionMill", List.mem_of_getElem? (i := 75) rfl⟩
theorem w_X8_316 : zLk RX8 316 8 12 := Or.inr ⟨"ConfessionMill", List.mem_of_getElem? (i := 71) rfl⟩
theorem w_X8_319 : zLk RX8 319 8 13 := Or.inr ⟨"ConfessionMill", List.mem_of_getElem? (i := 72) rfl⟩
theorem im_X7_isFitting : Cond.instanceMethod yX7_isFitting ∈ zTb := zTb_5 153 rfl rfl
theorem se_X7_isFitting : Cond.selects RX7 yX7_isFitting yX7_isFitting ∈ zTb := zTb_5 154 rfl rfl
theorem k_X7_isFitting : Cond.code yX7_isFitting cX7_isFitting 4 (some .boolean) ∈ zTb := zTb_5 155 rfl rfl
theorem v_X8_322 : zWv RX8 322 yX7_isFitting 8 cX7_isFitting 4 (some .boolean) 1 := ⟨⟨zTb_5 152 rfl rfl, im_X7_isFitting, se_X7_isFitting, i_X7, k_X7_isFitting⟩, by decide +kernel, by decide +kernel, by decide +kernel, by decide +kernel⟩
theorem im_X7_unbake : Cond.instanceMethod yX7_unbake ∈ zTb := zTb_5 162 rfl rfl
theorem se_X7_unbake : Cond.selects RX7 yX7_unbake yX7_unbake ∈ zTb := zTb_5 163 rfl rfl
theorem k_X7_unbake : Cond.code yX7_unbake cX7_unbake 3 none ∈ zTb := zTb_5 164 rfl rfl
theorem v_X8_325 : zWv RX8 325 yX7_unbake 8 cX7_unbake 3 none 1 := ⟨⟨zTb_5 161 rfl rfl, im_X7_unbake, se_X7_unbake, i_X7, k_X7_unbake⟩, by decide +kernel, by decide +kernel, by decide +kernel, by decide +kernel⟩
theorem v_X8_328 : zWv RX8 328 yX7_unfall 8 cX7_unfall 3 none 2 := ⟨⟨zTb_5 165 rfl rfl, im_X7_unfall, se_X7_unfall, i_X7, k_X7_unfall⟩, by decide +kernel, by decide +kernel, by decide +kernel, by decide +kernel⟩
theorem v_X8_331 : zWv RX8 331 yX7_ungrind 8 cX7_ungrind 4 none 0 := ⟨⟨zTb_5 166 rfl rfl, im_X7_ungrind, se_X7_ungrind, i_X7, k_X7_ungrind⟩, by decide +kernel, by decide +kernel, by decide +kernel, by decide +kernel⟩
theorem w_X8_334 : zLk RX8 334 6 0 := Or.inr ⟨"ConfessionMill", List.mem_of_getElem? (i := 8) rfl⟩
theorem w_X8_338 : zLk RX8 338 2 7 := Or.inr ⟨"ConfessionMill", List.mem_of_getElem? (i := 5) rfl⟩
theorem w_X8_343 : zLk RX8 343 8 10 := Or.inr ⟨"ConfessionMill", List.mem_of_getElem? (i := 69) rfl⟩
theorem w_X8_346 : zLk RX8 346 8 11 := Or.inr ⟨"ConfessionMill", List.mem_of_getElem? (i := 70) rfl⟩
theorem w_X9_7 : zLk RX9 7 10 0 := Or.inl (zTb_6 52 rfl rfl)
theorem w_X9_13 : zLk RX9 13 10 3 := Or.inl (zTb_6 55 rfl rfl)
theorem w_X9_16 : zLk RX9 16 10 5 := Or.inl (zTb_6 57 rfl rfl)
theorem w_X9_20 : zLk RX9 20 10 22 := Or.inl (zTb_6 74 rfl rfl)
theorem w_X9_23 : zLk RX9 23 10 23 := Or.inl (zTb_6 75 rfl rfl)
theorem w_X9_27 : zLk RX9 27 10 24 := Or.inl (zTb_6 76 rfl rfl)
theorem w_X9_30 : zLk RX9 30 10 25 := Or.inl (zTb_6 77 rfl rfl)
theorem w_X9_33 : zLk RX9 33 10 26 := Or.inl (zTb_6 78 rfl rfl)
theorem w_X9_36 : zLk RX9 36 10 27 := Or.inl (zTb_6 79 rfl rfl)
theorem w_X9_39 : zLk RX9 39 10 28 := Or.inl (zTb_6 80 rfl rfl)
theorem w_X9_42 : zLk RX9 42 10 29 := Or.inl (zTb_6 81 rfl rfl)
theorem w_X9_45 : zLk RX9 45 10 30 := Or.inl (zTb_6 82 rfl rfl)
theorem w_X9_48 : zLk RX9 48 10 31 := Or.inl (zTb_6 83 rfl rfl)
theorem w_X9_51 : zLk RX9 51 10 32 := Or.inl (zTb_6 84 rfl rfl)
theorem w_X9_54 : zLk RX9 54 10 33 := Or.inl (zTb_6 85 rfl rfl)
theorem w_X9_57 : zLk RX9 57 10 34 := Or.inl (zTb_6 86 rfl rfl)
theorem w_X9_60 : zLk RX9 60 10 35 := Or.inl (zTb_6 87 rfl rfl)
theorem w_X9_63 : zLk RX9 63 10 36 := Or.inl (zTb_6 88 rfl rfl)
theorem w_X9_66 : zLk RX9 66 10 37 := Or.inl (zTb_6 89 rfl rfl)
theorem w_X9_69 : zLk RX9 69 10 38 := Or.inl (zTb_6 90 rfl rfl)
theorem w_X9_72 : zLk RX9 72 10 39 := Or.inl (zTb_6 91 rfl rfl)
theorem w_X9_75 : zLk RX9 75 10 40 := Or.inl (zTb_6 92 rfl rfl)
theorem w_X9_78 : zLk RX9 78 10 41 := Or.inl (zTb_6 93 rfl rfl)
theorem w_X9_81 : zLk RX9 81 10 48 := Or.inl (zTb_6 100 rfl rfl)
theorem w_X9_85 : zLk RX9 85 10 49 := Or.inl (zTb_6 101 rfl rfl)
theorem w_X9_88 : zLk RX9 88 10 51 := Or.inl (zTb_6 103 rfl rfl)
theorem w_X9_91 : zLk RX9 91 10 52 := Or.inl (zTb_6 104 rfl rfl)
theorem w_X9_94 : zLk RX9 94 10 53 := Or.inl (zTb_6 105 rfl rfl)
theorem w_X9_97 : zLk RX9 97 10 54 := Or.inl (zTb_6 106 rfl rfl)
theorem w_X9_100 : zLk RX9 100 10 55 := Or.inl (zTb_6 107 rfl rfl)
theorem w_X9_103 : zLk RX9 103 10 56 := Or.inl (zTb_6 108 rfl rfl)
theorem w_X9_106 : zLk RX9 106 10 57 := Or.inl (zTb_6 109 rfl rfl)
theorem w_X9_109 : zLk RX9 109 10 58 := Or.inl (zTb_6 110 rfl rfl)
theorem w_X9_112 : zLk RX9 112 10 59 := Or.inl (zTb_6 111 rfl rfl)
theorem w_X9_115 : zLk RX9 115 10 60 := Or.inl (zTb_6 112 rfl rfl)
theorem w_X9_118 : zLk RX9 118 10 62 := Or.inl (zTb_6 114 rfl rfl)
theorem w_X9_121 : zLk RX9 121 10 63 := Or.inl (zTb_6 115 rfl rfl)
theorem w_X9_124 : zLk RX9 124 10 64 := Or.inl (zTb_6 116 rfl rfl)
theorem w_X9_127 : zLk RX9 127 10 65 := Or.inl (zTb_6 117 rfl rfl)
theorem w_X9_130 : zLk RX9 130 10 66 := Or.inl (zTb_6 118 rfl rfl)
theorem w_X9_133 : zLk RX9 133 10 67 := Or.inl (zTb_6 119 rfl rfl)
theorem w_X9_136 : zLk RX9 136 10 68 := Or.inl (zTb_6 120 rfl rfl)
theorem w_X9_139 : zLk RX9 139 10 69 := Or.inl (zTb_6 121 rfl rfl)
theorem w_X9_142 : zLk RX9 142 10 70 := Or.inl (zTb_6 122 rfl rfl)
theorem w_X9_145 : zLk RX9 145 10 71 := Or.inl (zTb_6 123 rfl rfl)
theorem w_X9_148 : zLk RX9 148 10 74 := Or.inl (zTb_6 126 rfl rfl)
theorem w_X9_151 : zLk RX9 151 10 76 := Or.inl (zTb_6 128 rfl rfl)
theorem w_X9_154 : zLk RX9 154 10 77 := Or.inl (zTb_6 129 rfl rfl)
theorem w_X9_157 : zLk RX9 157 10 80 := Or.inl (zTb_6 132 rfl rfl)
theorem w_X9_160 : zLk RX9 160 10 81 := Or.inl (zTb_6 133 rfl rfl)
theorem w_X9_163 : zLk RX9 163 10 85 := Or.inl (zTb_6 137 rfl rfl)
theorem w_X9_166 : zLk RX9 166 10 89 := Or.inl (zTb_6 141 rfl rfl)
theorem w_X9_169 : zLk RX9 169 10 90 := Or.inl (zTb_6 142 rfl rfl)
theorem im_X9_plain : Cond.instanceMethod yX9_plain ∈ zTb := zTb_6 39 rfl rfl
theorem se_X9_plain : Cond.selects RX9 yX9_plain yX9_plain ∈ zTb := zTb_s (n := 91) (lw_q4 (List.mem_of_getElem? (i := 5) rfl)) rfl
theorem i_X9 : Cond.initialized RX9 ∈ zTb := zTb_1 16 rfl rfl
theorem k_X9_plain : Cond.code yX9_plain cX9_plain 2 none ∈ zTb := zTb_6 40 rfl rfl
theorem v_X9_172 : zWv RX9 172 yX9_plain 10 cX9_plain 2 none 0 := ⟨⟨zTb_6 37 rfl rfl, im_X9_plain, se_X9_plain, i_X9, k_X9_plain⟩, by decide +kernel, by decide +kernel, by decide +kernel, by decide +kernel⟩
theorem im_X9_keepText : Cond.instanceMethod yX9_keepText ∈ zTb := zTb_6 43 rfl rfl
theorem se_X9_keepText : Cond.selects RX9 yX9_keepText yX9_keepText ∈ zTb := zTb_s (n := 91) (lw_q4 (List.mem_of_getElem? (i := 6) rfl)) rfl
theorem k_X9_keepText : Cond.code yX9_keepText cX9_keepText 2 none ∈ zTb := zTb_6 44 rfl rfl
theorem v_X9_175 : zWv RX9 175 yX9_keepText 10 cX9_keepText 2 none 0 := ⟨⟨zTb_6 41 rfl rfl, im_X9_keepText, se_X9_keepText, i_X9, k_X9_keepText⟩, by decide +kernel, by decide +kernel, by decide +kernel, by decide +kernel⟩
theorem w_X9_178 : zLk RX9 178 10 2 := Or.inl (zTb_6 54 rfl rfl)
theorem w_X9_181 : zLk RX9 181 10 1 := Or.inl (zTb_6 53 rfl rfl)
theorem w_X9_184 : zLk RX9 184 10 4 := Or.inl (zTb_6 56 rfl rfl)
theorem w_X9_187 : zLk RX9 187 10 10 := Or.inl (zTb_6 62 rfl rfl)
theorem w_X9_190 : zLk RX9 190 10 6 := Or.inl (zTb_6 58 rfl rfl)
theorem w_X9_193 : zLk RX9 193 10 7 := Or.inl (zTb_6 59 rfl rfl)
theorem w_X9_196 : zLk RX9 196 10 8 := Or.inl (zTb_6 60 rfl rfl)
theorem im_X9_isSmall : Cond.instanceMethod yX9_isSmall ∈ zTb := zTb_7 101 rfl rfl
theorem se_X9_isSmall : Cond.selects RX9 yX9_isSmall yX9_isSmall ∈ zTb := zTb_s (n := 91) (lw_q4 (List.mem_of_getElem? (i := 9) rfl)) rfl
theorem k_X9_isSmall : Cond.code yX9_isSmall cX9_isSmall 2 (some .boolean) ∈ zTb := zTb_7 102 rfl rfl
theorem v_X9_199 : zWv RX9 199 yX9_isSmall 10 cX9_isSmall 2 (some .boolean) 1 := ⟨⟨zTb_7 99 rfl rfl, im_X9_isSmall, se_X9_isSmall, i_X9, k_X9_isSmall⟩, by decide +kernel, by decide +kernel, by decide +kernel, by decide +kernel⟩
theorem im_X9_wordAt : Cond.instanceMethod yX9_wordAt ∈ zTb := zTb_7 105 rfl rfl
theorem se_X9_wordAt : Cond.selects RX9 yX9_wordAt yX9_wordAt ∈ zTb := zTb_s (n := 91) (lw_q4 (List.mem_of_getElem? (i := 10) rfl)) rfl
theorem k_X9_wordAt : Cond.code yX9_wordAt cX9_wordAt 8 (some .int) ∈ zTb := zTb_7 106 rfl rfl
theorem v_X9_203 : zWv RX9 203 yX9_wordAt 10 cX9_wordAt 8 (some .int) 2 := ⟨⟨zTb_7 103 rfl rfl, im_X9_wordAt, se_X9_wordAt, i_X9, k_X9_wordAt⟩, by decide +kernel, by decide +kernel, by decide +kernel, by decide +kernel⟩
theorem w_X9_207 : zLk RX9 207 10 9 := Or.inl (zTb_6 61 rfl rfl)
theorem im_X9_packed : Cond.instanceMethod yX9_packed ∈ zTb := zTb_7 109 rfl rfl
theorem se_X9_packed : Cond.selects RX9 yX9_packed yX9_packed ∈ zTb := zTb_s (n := 91) (lw_q4 (List.mem_of_getElem? (i := 11) rfl)) rfl
theorem k_X9_packed : Cond.code yX9_packed cX9_packed 5 (some .int) ∈ zTb := zTb_7 110 rfl rfl
theorem v_X9_210 : zWv RX9 210 yX9_packed 10 cX9_packed 5 (some .int) 2 := ⟨⟨zTb_7 107 rfl rfl, im_X9_packed, se_X9_packed, i_X9, k_X9_packed⟩, by decide +kernel, by decide +kernel, by decide +kernel, by decide +kernel⟩
theorem im_X9_isDigit : Cond.instanceMethod yX9_isDigit ∈ zTb := zTb_7 113 rfl rfl
theorem se_X9_isDigit : Cond.selects RX9 yX9_isDigit yX9_isDigit ∈ zTb := zTb_s (n := 91) (lw_q4 (List.mem_of_getElem? (i := 12) rfl)) rfl
theorem k_X9_isDigit : Cond.code yX9_isDigit cX9_isDigit 2 (some .boolean) ∈ zTb := zTb_7 114 rfl rfl
theorem v_X9_213 : zWv RX9 213 yX9_isDigit 10 cX9_isDigit 2 (some .boolean) 1 := ⟨⟨zTb_7 111 rfl rfl, im_X9_isDigit, se_X9_isDigit, i_X9, k_X9_isDigit⟩, by decide +kernel, by decide +kernel, by decide +kernel, by decide +kernel⟩
theorem q_X9_216 : Jvm.Cond.constant RX9 216 (99999) ∈ zTb := zTb_7 115 rfl rfl
theorem im_X9_signToken : Cond.instanceMethod yX9_signToken ∈ zTb := zTb_7 118 rfl rfl
theorem se_X9_signToken : Cond.selects RX9 yX9_signToken yX9_signToken ∈ zTb := zTb_s (n := 91) (lw_q4 (List.mem_of_getElem? (i := 13) rfl)) rfl
theorem k_X9_signToken : Cond.code yX9_signToken cX9_signToken 4 none ∈ zTb := zTb_7 119 rfl rfl
theorem v_X9_217 : zWv RX9 217 yX9_signToken 10 cX9_signToken 4 none 0 := ⟨⟨zTb_7 116 rfl rfl, im_X9_signToken, se_X9_signToken, i_X9, k_X9_signToken⟩, by decide +kernel, by decide +kernel, by decide +kernel, by decide +kernel⟩
theorem im_X9_wrong : Cond.instanceMethod yX9_wrong ∈ zTb := zTb_7 126 rfl rfl
theorem se_X9_wrong : Cond.selects RX9 yX9_wrong yX9_wrong ∈ zTb := zTb_s (n := 91) (lw_q4 (List.mem_of_getElem? (i := 15) rfl)) rfl
theorem k_X9_wrong : Cond.code yX9_wrong cX9_wrong 2 (some .boolean) ∈ zTb := zTb_7 127 rfl rfl
theorem v_X9_220 : zWv RX9 220 yX9_wrong 10 cX9_wrong 2 (some .boolean) 1 := ⟨⟨zTb_7 124 rfl rfl, im_X9_wrong, se_X9_wrong, i_X9, k_X9_wrong⟩, by decide +kernel, by decide +kernel, by decide +kernel, by decide +kernel⟩
theorem sm_X9_isIn : Cond.static yX9_isIn ∈ zTb := zTb_7 140 rfl rfl
theorem k_X9_isIn : Cond.code yX9_isIn cX9_isIn 3 (some .boolean) ∈ zTb := zTb_7 141 rfl rfl
theorem s_X9_223 : zWs RX9 223 yX9_isIn cX9_isIn 3 (some .boolean) 3 := ⟨⟨zTb_7 139 rfl rfl, sm_X9_isIn, i_X9, k_X9_isIn⟩, by decide +kernel, by decide +kernel, by decide +kernel⟩
theorem w_X9_227 : zLk RX9 227 10 11 := Or.inl (zTb_6 63 rfl rfl)
theorem im_X9_token : Cond.instanceMethod yX9_token ∈ zTb := zTb_7 97 rfl rfl
theorem se_X9_token : Cond.selects RX9 yX9_token yX9_token ∈ zTb := zTb_s (n := 91) (lw_q4 (List.mem_of_getElem? (i := 8) rfl)) rfl
theorem k_X9_token : Cond.code yX9_token cX9_token 1 none ∈ zTb := zTb_7 98 rfl rfl
theorem v_X9_230 : zWv RX9 230 yX9_token 10 cX9_token 1 none 0 := ⟨⟨zTb_7 95 rfl rfl, im_X9_token, se_X9_token, i_X9, k_X9_token⟩, by decide +kernel, by decide +kernel, by decide +kernel, by decide +kernel⟩
theorem w_X9_240 : zLk RX9 240 10 17 := Or.inl (zTb_6 69 rfl rfl)
theorem w_X9_243 : zLk RX9 243 10 18 := Or.inl (zTb_6 70 rfl rfl)
theorem w_X9_246 : zLk RX9 246 10 19 := Or.inl (zTb_6 71 rfl rfl)
theorem w_X9_249 : zLk RX9 249 10 20 := Or.inl (zTb_6 72 rfl rfl)
theorem w_X9_252 : zLk RX9 252 10 21 := Or.inl (zTb_6 73 rfl rfl)
theorem w_X9_255 : zLk RX9 255 10 45 := Or.inl (zTb_6 97 rfl rfl)
theorem w_X9_258 : zLk RX9 258 10 12 := Or.inl (zTb_6 64 rfl rfl)
theorem w_X9_261 : zLk RX9 261 10 13 := Or.inl (zTb_6 65 rfl rfl)
theorem w_X9_264 : zLk RX9 264 10 14 := Or.inl (zTb_6 66 rfl rfl)
theorem w_X9_267 : zLk RX9 267 10 15 := Or.inl (zTb_6 67 rfl rfl)
theorem w_X9_270 : zLk RX9 270 10 16 := Or.inl (zTb_6 68 rfl rfl)
theorem sm_X9_copies : Cond.static yX9_copies ∈ zTb := zTb_6 46 rfl rfl
theorem k_X9_copies : Cond.code yX9_copies cX9_copies 3 none ∈ zTb := zTb_6 47 rfl rfl
theorem s_X9_273 : zWs RX9 273 yX9_copies cX9_copies 3 none 2 := ⟨⟨zTb_6 45 rfl rfl, sm_X9_copies, i_X9, k_X9_copies⟩, by decide +kernel, by decide +kernel, by decide +kernel⟩
theorem im_X9_begin : Cond.instanceMethod yX9_begin ∈ zTb := zTb_6 50 rfl rfl
theorem se_X9_begin : Cond.selects RX9 yX9_begin yX9_begin ∈ zTb := zTb_s (n := 91) (lw_q4 (List.mem_of_getElem? (i := 7) rfl)) rfl
theorem k_X9_begin : Cond.code yX9_begin cX9_begin 2 none ∈ zTb := zTb_6 51 rfl rfl
theorem v_X9_277 : zWv RX9 277 yX9_begin 10 cX9_begin 2 none 0 := ⟨⟨zTb_6 48 rfl rfl, im_X9_begin, se_X9_begin, i_X9, k_X9_begin⟩, by decide +kernel, by decide +kernel, by decide +kernel, by decide +kernel⟩
theorem sm_X9_find : Cond.static yX9_find ∈ zTb := zTb_7 133 rfl rfl
theorem k_X9_find : Cond.code yX9_find cX9_find 5 (some .int) ∈ zTb := zTb_7 134 rfl rfl
theorem s_X9_280 : zWs RX9 280 yX9_find cX9_find 5 (some .int) 4 := ⟨⟨zTb_7 132 rfl rfl, sm_X9_find, i_X9, k_X9_find⟩, by decide +kernel, by decide +kernel, by decide +kernel⟩
theorem im_X9_newName : Cond.instanceMethod yX9_newName ∈ zTb := zTb_7 130 rfl rfl
theorem se_X9_newName : Cond.selects RX9 yX9_newName yX9_newName ∈ zTb := zTb_s (n := 91) (lw_q5 (List.mem_of_getElem? (i := 0) rfl)) rfl
theorem k_X9_newName : Cond.code yX9_newName cX9_newName 4 (some .boolean) ∈ zTb := zTb_7 131 rfl rfl
theorem v_X9_284 : zWv RX9 284 yX9_newName 10 cX9_newName 4 (some .boolean) 3 := ⟨⟨zTb_7 128 rfl rfl, im_X9_newName, se_X9_newName, i_X9, k_X9_newName⟩, by decide +kernel, by decide +kernel, by decide +kernel, by decide +kernel⟩
theorem im_X9_number : Cond.instanceMethod yX9_number ∈ zTb := zTb_7 137 rfl rfl
theorem se_X9_number : Cond.selects RX9 yX9_number yX9_number ∈ zTb := zTb_s (n := 91) (lw_q5 (List.mem_of_getElem? (i := 1) rfl)) rfl
theorem k_X9_number : Cond.code yX9_number cX9_number 3 (some .boolean) ∈ zTb := zTb_7 138 rfl rfl
theorem v_X9_236 : zWv RX9 236 yX9_number 10 cX9_number 3 (some .boolean) 2 := ⟨⟨zTb_7 135 rfl rfl, im_X9_number, se_X9_number, i_X9, k_X9_number⟩, by decide +kernel, by decide +kernel, by decide +kernel, by decide +kernel⟩
theorem im_X9_isKey : Cond.instanceMethod yX9_isKey ∈ zTb := zTb_7 148 rfl rfl
theorem se_X9_isKey : Cond.selects RX9 yX9_isKey yX9_isKey ∈ zTb := zTb_s (n := 91) (lw_q5 (List.mem_of_getElem? (i := 3) rfl)) rfl
theorem k_X9_isKey : Cond.code yX9_isKey cX9_isKey 2 (some .boolean) ∈ zTb := zTb_7 149 rfl rfl
theorem v_X9_288 : zWv RX9 288 yX9_isKey 10 cX9_isKey 2 (some .boolean) 1 := ⟨⟨zTb_7 146 rfl rfl, im_X9_isKey, se_X9_isKey, i_X9, k_X9_isKey⟩, by decide +kernel, by decide +kernel, by decide +kernel, by decide +kernel⟩
theorem im_X9_sumRead : Cond.instanceMethod yX9_sumRead ∈ zTb := zTb_7 160 rfl rfl
theorem se_X9_sumRead : Cond.selects RX9 yX9_sumRead yX9_sumRead ∈ zTb := zTb_s (n := 91) (lw_q5 (List.mem_of_getElem? (i := 6) rfl)) rfl
theorem k_X9_sumRead : Cond.code yX9_sumRead cX9_sumRead 1 (some .boolean) ∈ zTb := zTb_7 161 rfl rfl
theorem v_X9_291 : zWv RX9 291 yX9_sumRead 10 cX9_sumRead 1 (some .boolean) 0 := ⟨⟨zTb_7 158 rfl rfl, im_X9_sumRead, se_X9_sumRead, i_X9, k_X9_sumRead⟩, by decide +kernel, by decide +kernel, by decide +kernel, by decide +kernel⟩
theorem im_X9_personLine : Cond.instanceMethod yX9_personLine ∈ zTb := zTb_7 144 rfl rfl
theorem se_X9_personLine : Cond.selects RX9 yX9_personLine yX9_personLine ∈ zTb := zTb_s (n := 91) (lw_q5 (List.mem_of_getElem? (i := 2) rfl)) rfl
theorem k_X9_personLine : Cond.code yX9_personLine cX9_personLine 3 (some .boolean) ∈ zTb := zTb_7 145 rfl rfl
theorem v_X9_295 : zWv RX9 295 yX9_personLine 10 cX9_personLine 3 (some .boolean) 0 := ⟨⟨zTb_7 142 rfl rfl, im_X9_personLine, se_X9_personLine, i_X9, k_X9_personLine⟩, by decide +kernel, by decide +kernel, by decide +kernel, by decide +kernel⟩
theorem im_X9_cakeLine : Cond.instanceMethod yX9_cakeLine ∈ zTb := zTb_7 152 rfl rfl
theorem se_X9_cakeLine : Cond.selects RX9 yX9_cakeLine yX9_cakeLine ∈ zTb := zTb_s (n := 91) (lw_q5 (List.mem_of_getElem? (i := 4) rfl)) rfl
theorem k_X9_cakeLine : Cond.code yX9_cakeLine cX9_cakeLine 2 (some .boolean) ∈ zTb := zTb_7 153 rfl rfl
theorem v_X9_298 : zWv RX9 298 yX9_cakeLine 10 cX9_cakeLine 2 (some .boolean) 0 := ⟨⟨zTb_7 150 rfl rfl, im_X9_cakeLine, se_X9_cakeLine, i_X9, k_X9_cakeLine⟩, by decide +kernel, by decide +kernel, by decide +kernel, by decide +kernel⟩
theorem im_X9_lawRead : Cond.instanceMethod yX9_lawRead ∈ zTb := zTb_7 156 rfl rfl
theorem se_X9_lawRead : Cond.selects RX9 yX9_lawRead yX9_lawRead ∈ zTb := zTb_s (n := 91) (lw_q5 (List.mem_of_getElem? (i := 5) rfl)) rfl
theorem k_X9_lawRead : Cond.code yX9_lawRead cX9_lawRead 2 (some .boolean) ∈ zTb := zTb_7 157 rfl rfl
theorem v_X9_301 : zWv RX9 301 yX9_lawRead 10 cX9_lawRead 2 (some .boolean) 1 := ⟨⟨zTb_7 154 rfl rfl, im_X9_lawRead, se_X9_lawRead, i_X9, k_X9_lawRead⟩, by decide +kernel, by decide +kernel, by decide +kernel, by decide +kernel⟩
theorem im_X9_onceLine : Cond.instanceMethod yX9_onceLine ∈ zTb := zTb_7 203 rfl rfl
theorem se_X9_onceLine : Cond.selects RX9 yX9_onceLine yX9_onceLine ∈ zTb := zTb_s (n := 91) (lw_q6 (List.mem_of_getElem? (i := 0) rfl)) rfl
theorem k_X9_onceLine : Cond.code yX9_onceLine cX9_onceLine 3 (some .boolean) ∈ zTb := zTb_7 204 rfl rfl
theorem v_X9_304 : zWv RX9 304 yX9_onceLine 10 cX9_onceLine 3 (some .boolean) 1 := ⟨⟨zTb_7 201 rfl rfl, im_X9_onceLine, se_X9_onceLine, i_X9, k_X9_onceLine⟩, by decide +kernel, by decide +kernel, by decide +kernel, by decide +kernel⟩
theorem im_X9_isSign : Cond.instanceMethod yX9_isSign ∈ zTb := zTb_7 164 rfl rfl
theorem se_X9_isSign : Cond.selects RX9 yX9_isSign yX9_isSign ∈ zTb := zTb_s (n := 91) (lw_q5 (List.mem_of_getElem? (i := 7) rfl)) rfl
theorem k_X9_isSign : Cond.code yX9_isSign cX9_isSign 2 (some .boolean) ∈ zTb := zTb_7 165 rfl rfl
theorem v_X9_233 : zWv RX9 233 yX9_isSign 10 cX9_isSign 2 (some .boolean) 1 := ⟨⟨zTb_7 162 rfl rfl, im_X9_isSign, se_X9_isSign, i_X9, k_X9_isSign⟩, by decide +kernel, by decide +kernel, by decide +kernel, by decide +kernel⟩
theorem im_X9_lineRead : Cond.instanceMethod yX9_lineRead ∈ zTb := zTb_7 122 rfl rfl
theorem se_X9_lineRead : Cond.selects RX9 yX9_lineRead yX9_lineRead ∈ zTb := zTb_s (n := 91) (lw_q4 (List.mem_of_getElem? (i := 14) rfl)) rfl
theorem k_X9_lineRead : Cond.code yX9_lineRead cX9_lineRead 3 (some .boolean) ∈ zTb := zTb_7 123 rfl rfl
theorem v_X9_307 : zWv RX9 307 yX9_lineRead 10 cX9_lineRead 3 (some .boolean) 0 := ⟨⟨zTb_7 120 rfl rfl, im_X9_lineRead, se_X9_lineRead, i_X9, k_X9_lineRead⟩, by decide +kernel, by decide +kernel, by decide +kernel, by decide +kernel⟩
theorem w_X9_310 : zLk RX9 310 10 43 := Or.inl (zTb_6 95 rfl rfl)
theorem w_X9_313 : zLk RX9 313 10 42 := Or.inl (zTb_6 94 rfl rfl)
theorem sm_X9_rank : Cond.static yX9_rank ∈ zTb := zTb_7 195 rfl rfl
theorem k_X9_rank : Cond.code yX9_rank cX9_rank 1 (some .int) ∈ zTb := zTb_7 196 rfl rfl
theorem s_X9_316 : zWs RX9 316 yX9_rank cX9_rank 1 (some .int) 1 := ⟨⟨zTb_7 194 rfl rfl, sm_X9_rank, i_X9, k_X9_rank⟩, by decide +kernel, by decide +kernel, by decide +kernel⟩
theorem im_X9_dropHeld : Cond.instanceMethod yX9_dropHeld ∈ zTb := zTb_7 199 rfl rfl
theorem se_X9_dropHeld : Cond.selects RX9 yX9_dropHeld yX9_dropHeld ∈ zTb := zTb_s (n := 91) (lw_q5 (List.mem_of_getElem? (i := 15) rfl)) rfl
theorem k_X9_dropHeld : Cond.code yX9_dropHeld cX9_dropHeld 1 (some .int) ∈ zTb := zTb_7 200 rfl rfl
theorem v_X9_320 : zWv RX9 320 yX9_dropHeld 10 cX9_dropHeld 1 (some .int) 0 := ⟨⟨zTb_7 197 rfl rfl, im_X9_dropHeld, se_X9_dropHeld, i_X9, k_X9_dropHeld⟩, by decide +kernel, by decide +kernel, by decide +kernel, by decide +kernel⟩
theorem im_X9_grown : Cond.instanceMethod yX9_grown ∈ zTb := zTb_7 184 rfl rfl
theorem se_X9_grown : Cond.selects RX9 yX9_grown yX9_grown ∈ zTb := zTb_s (n := 91) (lw_q5 (List.mem_of_getElem? (i := 12) rfl)) rfl
theorem k_X9_grown : Cond.code yX9_grown cX9_grown 4 none ∈ zTb := zTb_7 185 rfl rfl
theorem v_X9_324 : zWv RX9 324 yX9_grown 10 cX9_grown 4 none 3 := ⟨⟨zTb_7 182 rfl rfl, im_X9_grown, se_X9_grown, i_X9, k_X9_grown⟩, by decide +kernel, by decide +kernel, by decide +kernel, by decide +kernel⟩
theorem w_X9_328 : zLk RX9 328 10 44 := Or.inl (zTb_6 96 rfl rfl)
theorem im_X9_waitsFor : Cond.instanceMethod yX9_waitsFor ∈ zTb := zTb_7 172 rfl rfl
theorem se_X9_waitsFor : Cond.selects RX9 yX9_waitsFor yX9_waitsFor ∈ zTb := zTb_s (n := 91) (lw_q5 (List.mem_of_getElem? (i := 9) rfl)) rfl
theorem k_X9_waitsFor : Cond.code yX9_waitsFor cX9_waitsFor 2 none ∈ zTb := zTb_7 173 rfl rfl
theorem v_X9_331 : zWv RX9 331 yX9_waitsFor 10 cX9_waitsFor 2 none 1 := ⟨⟨zTb_7 170 rfl rfl, im_X9_waitsFor, se_X9_waitsFor, i_X9, k_X9_waitsFor⟩, by decide +kernel, by decide +kernel, by decide +kernel, by decide +kernel⟩
theorem w_X9_335 : zLk RX9 335 10 47 := Or.inl (zTb_6 99 rfl rfl)
theorem im_X9_isCounted : Cond.instanceMethod yX9_isCounted ∈ zTb := zTb_7 176 rfl rfl
theorem se_X9_isCounted : Cond.selects RX9 yX9_isCounted yX9_isCounted ∈ zTb := zTb_s (n := 91) (lw_q5 (List.mem_of_getElem? (i := 10) rfl)) rfl
theorem k_X9_isCounted : Cond.code yX9_isCounted cX9_isCounted 1 (some .boolean) ∈ zTb := zTb_7 177 rfl rfl
theorem v_X9_339 : zWv RX9 339 yX9_isCounted 10 cX9_isCounted 1 (some .boolean) 0 := ⟨⟨zTb_7 174 rfl rfl, im_X9_isCounted, se_X9_isCounted, i_X9, k_X9_isCounted⟩, by decide +kernel, by decide +kernel, by decide +kernel, by decide +kernel⟩
theorem im_X9_nameMet : Cond.instanceMethod yX9_nameMet ∈ zTb := zTb_7 180 rfl rfl
theorem se_X9_nameMet : Cond.selects RX9 yX9_nameMet yX9_nameMet ∈ zTb := zTb_s (n := 91) (lw_q5 (List.mem_of_getElem? (i := 11) rfl)) rfl
theorem k_X9_nameMet : Cond.code yX9_nameMet cX9_nameMet 1 (some .int) ∈ zTb := zTb_7 181 rfl rfl
theorem v_X9_342 : zWv RX9 342 yX9_nameMet 10 cX9_nameMet 1 (some .int) 0 := ⟨⟨zTb_7 178 rfl rfl, im_X9_nameMet, se_X9_nameMet, i_X9, k_X9_nameMet⟩, by decide +kernel, by decide +kernel, by decide +kernel, by decide +kernel⟩
theorem w_X9_345 : zLk RX9 345 10 46 := Or.inl (zTb_6 98 rfl rfl)
theorem im_X9_bind : Cond.instanceMethod yX9_bind ∈ zTb := zTb_7 192 rfl rfl
theorem se_X9_bind : Cond.selects RX9 yX9_bind yX9_bind ∈ zTb := zTb_s (n := 91) (lw_q5 (List.mem_of_getElem? (i := 14) rfl)) rfl
theorem k_X9_bind : Cond.code yX9_bind cX9_bind 5 none ∈ zTb := zTb_7 193 rfl rfl
theorem v_X9_348 : zWv RX9 348 yX9_bind 10 cX9_bind 5 none 1 := ⟨⟨zTb_7 190 rfl rfl, im_X9_bind, se_X9_bind, i_X9, k_X9_bind⟩, by decide +kernel, by decide +kernel, by decide +kernel, by decide +kernel⟩
theorem im_X9_leafRead : Cond.instanceMethod yX9_leafRead ∈ zTb := zTb_7 168 rfl rfl
theorem se_X9_leafRead : Cond.selects RX9 yX9_leafRead yX9_leafRead ∈ zTb := zTb_s (n := 91) (lw_q5 (List.mem_of_getElem? (i := 8) rfl)) rfl
theorem k_X9_leafRead : Cond.code yX9_leafRead cX9_leafRead 2 (some .boolean) ∈ zTb := zTb_7 169 rfl rfl
theorem v_X9_351 : zWv RX9 351 yX9_leafRead 10 cX9_leafRead 2 (some .boolean) 0 := ⟨⟨zTb_7 166 rfl rfl, im_X9_leafRead, se_X9_leafRead, i_X9, k_X9_leafRead⟩, by decide +kernel, by decide +kernel, by decide +kernel, by decide +kernel⟩
theorem im_X9_signs : Cond.instanceMethod yX9_signs ∈ zTb := zTb_7 188 rfl rfl
theorem se_X9_signs : Cond.selects RX9 yX9_signs yX9_signs ∈ zTb := zTb_s (n := 91) (lw_q5 (List.mem_of_getElem? (i := 13) rfl)) rfl
theorem k_X9_signs : Cond.code yX9_signs cX9_signs 2 (some .boolean) ∈ zTb := zTb_7 189 rfl rfl
theorem v_X9_354 : zWv RX9 354 yX9_signs 10 cX9_signs 2 (some .boolean) 0 := ⟨⟨zTb_7 186 rfl rfl, im_X9_signs, se_X9_signs, i_X9, k_X9_signs⟩, by decide +kernel, by decide +kernel, by decide +kernel, by decide +kernel⟩
theorem w_X9_357 : zLk RX9 357 10 50 := Or.inl (zTb_6 102 rfl rfl)
theorem q_X9_360 : Jvm.Cond.constantLong RX9 360 (1000000000000) ∈ zTb := zTb_8 33 rfl rfl
theorem q_X9_362 : Jvm.Cond.constantLong RX9 362 (-1000000000000) ∈ zTb := zTb_8 34 rfl rfl
theorem im_X9_bounded : Cond.instanceMethod yX9_bounded ∈ zTb := zTb_8 31 rfl rfl
theorem se_X9_bounded : Cond.selects RX9 yX9_bounded yX9_bounded ∈ zTb := zTb_s (n := 91) (lw_q6 (List.mem_of_getElem? (i := 12) rfl)) rfl
theorem k_X9_bounded : Cond.code yX9_bounded cX9_bounded 3 (some .long) ∈ zTb := zTb_8 32 rfl rfl
theorem v_X9_364 : zWv RX9 364 yX9_bounded 10 cX9_bounded 3 (some .long) 1 := ⟨⟨zTb_8 29 rfl rfl, im_X9_bounded, se_X9_bounded, i_X9, k_X9_bounded⟩, by decide +kernel, by decide +kernel, by decide +kernel, by decide +kernel⟩
theorem im_X9_times : Cond.instanceMethod yX9_times ∈ zTb := zTb_8 37 rfl rfl
theorem se_X9_times : Cond.selects RX9 yX9_times yX9_times ∈ zTb := zTb_s (n := 91) (lw_q6 (List.mem_of_getElem? (i := 13) rfl)) rfl
theorem k_X9_times : Cond.code yX9_times cX9_times 6 (some .long) ∈ zTb := zTb_8 38 rfl rfl
theorem v_X9_368 : zWv RX9 368 yX9_times 10 cX9_times 6 (some .long) 2 := ⟨⟨zTb_8 35 rfl rfl, im_X9_times, se_X9_times, i_X9, k_X9_times⟩, by decide +kernel, by decide +kernel, by decide +kernel, by decide +kernel⟩
theorem sm_X9_compares : Cond.static yX9_compares ∈ zTb := zTb_8 40 rfl rfl
theorem k_X9_compares : Cond.code yX9_compares cX9_compares 5 (some .boolean) ∈ zTb := zTb_8 41 rfl rfl
theorem s_X9_371 : zWs RX9 371 yX9_compares cX9_compares 5 (some .boolean) 3 := ⟨⟨zTb_8 39 rfl rfl, sm_X9_compares, i_X9, k_X9_compares⟩, by decide +kernel, by decide +kernel, by decide +kernel⟩
theorem w_X9_375 : zLk RX9 375 10 61 := Or.inl (zTb_6 113 rfl rfl)
theorem w_X9_379 : zLk RX9 379 10 83 := Or.inl (zTb_6 135 rfl rfl)
theorem w_X9_382 : zLk RX9 382 10 84 := Or.inl (zTb_6 136 rfl rfl)
theorem w_X9_385 : zLk RX9 385 10 86 := Or.inl (zTb_6 138 rfl rfl)
theorem w_X9_388 : zLk RX9 388 10 73 := Or.inl (zTb_6 125 rfl rfl)
theorem w_X9_391 : zLk RX9 391 10 72 := Or.inl (zTb_6 124 rfl rfl)
theorem im_X9_leftOf : Cond.instanceMethod yX9_leftOf ∈ zTb := zTb_7 231 rfl rfl
theorem se_X9_leftOf : Cond.selects RX9 yX9_leftOf yX9_leftOf ∈ zTb := zTb_s (n := 91) (lw_q6 (List.mem_of_getElem? (i := 4) rfl)) rfl
theorem k_X9_leftOf : Cond.code yX9_leftOf cX9_leftOf 4 (some .int) ∈ zTb := zTb_7 232 rfl rfl
theorem v_X9_394 : zWv RX9 394 yX9_leftOf 10 cX9_leftOf 4 (some .int) 3 := ⟨⟨zTb_7 229 rfl rfl, im_X9_leftOf, se_X9_leftOf, i_X9, k_X9_leftOf⟩, by decide +kernel, by decide +kernel, by decide +kernel, by decide +kernel⟩
theorem im_X9_isPerson : Cond.instanceMethod yX9_isPerson ∈ zTb := zTb_7 219 rfl rfl
theorem se_X9_isPerson : Cond.selects RX9 yX9_isPerson yX9_isPerson ∈ zTb := zTb_s (n := 91) (lw_q6 (List.mem_of_getElem? (i := 1) rfl)) rfl
theorem k_X9_isPerson : Cond.code yX9_isPerson cX9_isPerson 2 (some .boolean) ∈ zTb := zTb_7 220 rfl rfl
theorem v_X9_398 : zWv RX9 398 yX9_isPerson 10 cX9_isPerson 2 (some .boolean) 1 := ⟨⟨zTb_7 217 rfl rfl, im_X9_isPerson, se_X9_isPerson, i_X9, k_X9_isPerson⟩, by decide +kernel, by decide +kernel, by decide +kernel, by decide +kernel⟩
theorem im_X9_fails : Cond.instanceMethod yX9_fails ∈ zTb := zTb_7 223 rfl rfl
theorem se_X9_fails : Cond.selects RX9 yX9_fails yX9_fails ∈ zTb := zTb_s (n := 91) (lw_q6 (List.mem_of_getElem? (i := 2) rfl)) rfl
theorem k_X9_fails : Cond.code yX9_fails cX9_fails 2 (some .int) ∈ zTb := zTb_7 224 rfl rfl
theorem v_X9_401 : zWv RX9 401 yX9_fails 10 cX9_fails 2 (some .int) 1 := ⟨⟨zTb_7 221 rfl rfl, im_X9_fails, se_X9_fails, i_X9, k_X9_fails⟩, by decide +kernel, by decide +kernel, by decide +kernel, by decide +kernel⟩
theorem im_X9_prideOf : Cond.instanceMethod yX9_prideOf ∈ zTb := zTb_7 227 rfl rfl
theorem se_X9_prideOf : Cond.selects RX9 yX9_prideOf yX9_prideOf ∈ zTb := zTb_s (n := 91) (lw_q6 (List.mem_of_getElem? (i := 3) rfl)) rfl
theorem k_X9_prideOf : Cond.code yX9_prideOf cX9_prideOf 5 (some .int) ∈ zTb := zTb_7 228 rfl rfl
theorem v_X9_404 : zWv RX9 404 yX9_prideOf 10 cX9_prideOf 5 (some .int) 2 := ⟨⟨zTb_7 225 rfl rfl, im_X9_prideOf, se_X9_prideOf, i_X9, k_X9_prideOf⟩, by decide +kernel, by decide +kernel, by decide +kernel, by decide +kernel⟩
theorem im_X9_isSin : Cond.instanceMethod yX9_isSin ∈ zTb := zTb_7 239 rfl rfl
theorem se_X9_isSin : Cond.selects RX9 yX9_isSin yX9_isSin ∈ zTb := zTb_s (n := 91) (lw_q6 (List.mem_of_getElem? (i := 5) rfl)) rfl
theorem k_X9_isSin : Cond.code yX9_isSin cX9_isSin 2 (some .boolean) ∈ zTb := zTb_8 0 rfl rfl
theorem v_X9_407 : zWv RX9 407 yX9_isSin 10 cX9_isSin 2 (some .boolean) 1 := ⟨⟨zTb_7 237 rfl rfl, im_X9_isSin, se_X9_isSin, i_X9, k_X9_isSin⟩, by decide +kernel, by decide +kernel, by decide +kernel, by decide +kernel⟩
theorem im_X9_layNames : Cond.instanceMethod yX9_layNames ∈ zTb := zTb_8 15 rfl rfl
theorem se_X9_layNames : Cond.selects RX9 yX9_layNames yX9_layNames ∈ zTb := zTb_s (n := 91) (lw_q6 (List.mem_of_getElem? (i := 8) rfl)) rfl
theorem k_X9_layNames : Cond.code yX9_layNames cX9_layNames 8 none ∈ zTb := zTb_8 16 rfl rfl
theorem v_X9_410 : zWv RX9 410 yX9_layNames 10 cX9_layNames 8 none 7 := ⟨⟨zTb_8 13 rfl rfl, im_X9_layNames, se_X9_layNames, i_X9, k_X9_layNames⟩, by decide +kernel, by decide +kernel, by decide +kernel, by decide +kernel⟩
theorem im_X9_valueOf : Cond.instanceMethod yX9_valueOf ∈ zTb := zTb_8 27 rfl rfl
theorem se_X9_valueOf : Cond.selects RX9 yX9_valueOf yX9_valueOf ∈ zTb := zTb_s (n := 91) (lw_q6 (List.mem_of_getElem? (i := 11) rfl)) rfl
theorem k_X9_valueOf : Cond.code yX9_valueOf cX9_valueOf 6 (some .long) ∈ zTb := zTb_8 28 rfl rfl
theorem v_X9_414 : zWv RX9 414 yX9_valueOf 10 cX9_valueOf 6 (some .long) 1 := ⟨⟨zTb_8 25 rfl rfl, im_X9_valueOf, se_X9_valueOf, i_X9, k_X9_valueOf⟩, by decide +kernel, by decide +kernel, by decide +kernel, by decide +kernel⟩
theorem im_X9_lawOf : Cond.instanceMethod yX9_lawOf ∈ zTb := zTb_8 23 rfl rfl
theorem se_X9_lawOf : Cond.selects RX9 yX9_lawOf yX9_lawOf ∈ zTb := zTb_s (n := 91) (lw_q6 (List.mem_of_getElem? (i := 10) rfl)) rfl
theorem k_X9_lawOf : Cond.code yX9_lawOf cX9_lawOf 3 (some .long) ∈ zTb := zTb_8 24 rfl rfl
theorem v_X9_418 : zWv RX9 418 yX9_lawOf 10 cX9_lawOf 3 (some .long) 1 := ⟨⟨zTb_8 21 rfl rfl, im_X9_lawOf, se_X9_lawOf, i_X9, k_X9_lawOf⟩, by decide +kernel, by decide +kernel, by decide +kernel, by decide +kernel⟩
theorem im_X9_layOf : Cond.instanceMethod yX9_layOf ∈ zTb := zTb_8 11 rfl rfl
theorem se_X9_layOf : Cond.selects RX9 yX9_layOf yX9_layOf ∈ zTb := zTb_s (n := 91) (lw_q6 (List.mem_of_getElem? (i := 7) rfl)) rfl
theorem k_X9_layOf : Cond.code yX9_layOf cX9_layOf 4 none ∈ zTb := zTb_8 12 rfl rfl
theorem v_X9_421 : zWv RX9 421 yX9_layOf 10 cX9_layOf 4 none 3 := ⟨⟨zTb_8 9 rfl rfl, im_X9_layOf, se_X9_layOf, i_X9, k_X9_layOf⟩, by decide +kernel, by decide +kernel, by decide +kernel, by decide +kernel⟩
theorem im_X9_boundLaw : Cond.instanceMethod yX9_boundLaw ∈ zTb := zTb_8 19 rfl rfl
theorem se_X9_boundLaw : Cond.selects RX9 yX9_boundLaw yX9_boundLaw ∈ zTb := zTb_s (n := 91) (lw_q6 (List.mem_of_getElem? (i := 9) rfl)) rfl
theorem k_X9_boundLaw : Cond.code yX9_boundLaw cX9_boundLaw 6 (some .int) ∈ zTb := zTb_8 20 rfl rfl
theorem v_X9_424 : zWv RX9 424 yX9_boundLaw 10 cX9_boundLaw 6 (some .int) 3 := ⟨⟨zTb_8 17 rfl rfl, im_X9_boundLaw, se_X9_boundLaw, i_X9, k_X9_boundLaw⟩, by decide +kernel, by decide +kernel, by decide +kernel, by decide +kernel⟩
theorem im_X9_fineOf : Cond.instanceMethod yX9_fineOf ∈ zTb := zTb_8 7 rfl rfl
theorem se_X9_fineOf : Cond.selects RX9 yX9_fineOf yX9_fineOf ∈ zTb := zTb_s (n := 91) (lw_q6 (List.mem_of_getElem? (i := 6) rfl)) rfl
theorem k_X9_fineOf : Cond.code yX9_fineOf cX9_fineOf 4 (some .int) ∈ zTb := zTb_8 8 rfl rfl
theorem v_X9_427 : zWv RX9 427 yX9_fineOf 10 cX9_fineOf 4 (some .int) 3 := ⟨⟨zTb_8 5 rfl rfl, im_X9_fineOf, se_X9_fineOf, i_X9, k_X9_fineOf⟩, by decide +kernel, by decide +kernel, by decide +kernel, by decide +kernel⟩
theorem im_X9_worthLeft : Cond.instanceMethod yX9_worthLeft ∈ zTb := zTb_8 53 rfl rfl
theorem se_X9_worthLeft : Cond.selects RX9 yX9_worthLeft yX9_worthLeft ∈ zTb := zTb_s (n := 91) (lw_q6 (List.mem_of_getElem? (i := 15) rfl)) rfl
theorem k_X9_worthLeft : Cond.code yX9_worthLeft cX9_worthLeft 4 (some .int) ∈ zTb := zTb_8 54 rfl rfl
theorem v_X9_430 : zWv RX9 430 yX9_worthLeft 10 cX9_worthLeft 4 (some .int) 1 := ⟨⟨zTb_8 51 rfl rfl, im_X9_worthLeft, se_X9_worthLeft, i_X9, k_X9_worthLeft⟩, by decide +kernel, by decide +kernel, by decide +kernel, by decide +kernel⟩
theorem q_X9_433 : Jvm.Cond.constantLong RX9 433 (-9223372036854775808) ∈ zTb := zTb_8 46 rfl rfl
theorem im_X9_layPair : Cond.instanceMethod yX9_layPair ∈ zTb := zTb_8 49 rfl rfl
theorem se_X9_layPair : Cond.selects RX9 yX9_layPair yX9_layPair ∈ zTb := zTb_s (n := 91) (lw_q6 (List.mem_of_getElem? (i := 14) rfl)) rfl
theorem k_X9_layPair : Cond.code yX9_layPair cX9_layPair 3 none ∈ zTb := zTb_8 50 rfl rfl
theorem v_X9_435 : zWv RX9 435 yX9_layPair 10 cX9_layPair 3 none 2 := ⟨⟨zTb_8 47 rfl rfl, im_X9_layPair, se_X9_layPair, i_X9, k_X9_layPair⟩, by decide +kernel, by decide +kernel, by decide +kernel, by decide +kernel⟩
theorem im_X9_canGrind : Cond.instanceMethod yX9_canGrind ∈ zTb := zTb_8 61 rfl rfl
theorem se_X9_canGrind : Cond.selects RX9 yX9_canGrind yX9_canGrind ∈ zTb := zTb_s (n := 91) (lw_q7 (List.mem_of_getElem? (i := 0) rfl)) rfl
theorem k_X9_canGrind : Cond.code yX9_canGrind cX9_canGrind 2 (some .boolean) ∈ zTb := zTb_8 62 rfl rfl
theorem v_X9_439 : zWv RX9 439 yX9_canGrind 10 cX9_canGrind 2 (some .boolean) 1 := ⟨⟨zTb_8 59 rfl rfl, im_X9_canGrind, se_X9_canGrind, i_X9, k_X9_canGrind⟩, by decide +kernel, by decide +kernel, by decide +kernel, by decide +kernel⟩
theorem im_X9_remember : Cond.instanceMethod yX9_remember ∈ zTb := zTb_8 65 rfl rfl
theorem se_X9_remember : Cond.selects RX9 yX9_remember yX9_remember ∈ zTb := zTb_s (n := 91) (lw_q7 (List.mem_of_getElem? (i := 1) rfl)) rfl
theorem k_X9_remember : Cond.code yX9_remember cX9_remember 2 none ∈ zTb := zTb_8 66 rfl rfl
theorem v_X9_442 : zWv RX9 442 yX9_remember 10 cX9_remember 2 none 0 := ⟨⟨zTb_8 63 rfl rfl, im_X9_remember, se_X9_remember, i_X9, k_X9_remember⟩, by decide +kernel, by decide +kernel, by decide +kernel, by decide +kernel⟩
theorem im_X9_grinds : Cond.instanceMethod yX9_grinds ∈ zTb := zTb_8 73 rfl rfl
theorem se_X9_grinds : Cond.selects RX9 yX9_grinds yX9_grinds ∈ zTb := zTb_s (n := 91) (lw_q7 (List.mem_of_getElem? (i := 3) rfl)) rfl
theorem k_X9_grinds : Cond.code yX9_grinds cX9_grinds 9 (some .int) ∈ zTb := zTb_8 74 rfl rfl
theorem v_X9_445 : zWv RX9 445 yX9_grinds 10 cX9_grinds 9 (some .int) 3 := ⟨⟨zTb_8 71 rfl rfl, im_X9_grinds, se_X9_grinds, i_X9, k_X9_grinds⟩, by decide +kernel, by decide +kernel, by decide +kernel, by decide +kernel⟩
theorem q_X9_448 : Jvm.Cond.constantLong RX9 448 (1103515245) ∈ zTb := zTb_8 91 rfl rfl
theorem q_X9_450 : Jvm.Cond.constantLong RX9 450 (12345) ∈ zTb := zTb_8 92 rfl rfl
theorem q_X9_452 : Jvm.Cond.constantLong RX9 452 (2147483647) ∈ zTb := zTb_8 93 rfl rfl
theorem q_X9_454 : Jvm.Cond.constantLong RX9 454 (65536) ∈ zTb := zTb_8 94 rfl rfl
theorem im_X9_heaviest : Cond.instanceMethod yX9_heaviest ∈ zTb := zTb_8 85 rfl rfl
theorem se_X9_heaviest : Cond.selects RX9 yX9_heaviest yX9_heaviest ∈ zTb := zTb_s (n := 91) (lw_q7 (List.mem_of_getElem? (i := 5) rfl)) rfl
theorem k_X9_heaviest : Cond.code yX9_heaviest cX9_heaviest 4 (some .int) ∈ zTb := zTb_8 86 rfl rfl
theorem v_X9_456 : zWv RX9 456 yX9_heaviest 10 cX9_heaviest 4 (some .int) 1 := ⟨⟨zTb_8 83 rfl rfl, im_X9_heaviest, se_X9_heaviest, i_X9, k_X9_heaviest⟩, by decide +kernel, by decide +kernel, by decide +kernel, by decide +kernel⟩
theorem im_X9_number1 : Cond.instanceMethod yX9_number1 ∈ zTb := zTb_8 89 rfl rfl
theorem se_X9_number1 : Cond.selects RX9 yX9_number1 yX9_number1 ∈ zTb := zTb_s (n := 91) (lw_q7 (List.mem_of_getElem? (i := 6) rfl)) rfl
theorem k_X9_number1 : Cond.code yX9_number1 cX9_number1 2 (some .int) ∈ zTb := zTb_8 90 rfl rfl
theorem v_X9_459 : zWv RX9 459 yX9_number1 10 cX9_number1 2 (some .int) 1 := ⟨⟨zTb_8 87 rfl rfl, im_X9_number1, se_X9_number1, i_X9, k_X9_number1⟩, by decide +kernel, by decide +kernel, by decide +kernel, by decide +kernel⟩
theorem im_X9_asked : Cond.instanceMethod yX9_asked ∈ zTb := zTb_8 81 rfl rfl
theorem se_X9_asked : Cond.selects RX9 yX9_asked yX9_asked ∈ zTb := zTb_s (n := 91) (lw_q7 (List.mem_of_getElem? (i := 4) rfl)) rfl
theorem k_X9_asked : Cond.code yX9_asked cX9_asked 6 (some .int) ∈ zTb := zTb_8 82 rfl rfl
theorem v_X9_462 : zWv RX9 462 yX9_asked 10 cX9_asked 6 (some .int) 1 := ⟨⟨zTb_8 79 rfl rfl, im_X9_asked, se_X9_asked, i_X9, k_X9_asked⟩, by decide +kernel, by decide +kernel, by decide +kernel, by decide +kernel⟩
theorem sm_X9_isFine : Cond.static yX9_isFine ∈ zTb := zTb_8 112 rfl rfl
theorem k_X9_isFine : Cond.code yX9_isFine cX9_isFine 1 (some .boolean) ∈ zTb := zTb_8 113 rfl rfl
theorem s_X9_465 : zWs RX9 465 yX9_isFine cX9_isFine 1 (some .boolean) 1 := ⟨⟨zTb_8 111 rfl rfl, sm_X9_isFine, i_X9, k_X9_isFine⟩, by decide +kernel, by decide +kernel, by decide +kernel⟩
theorem im_X9_flourOf : Cond.instanceMethod yX9_flourOf ∈ zTb := zTb_8 116 rfl rfl
theorem se_X9_flourOf : Cond.selects RX9 yX9_flourOf yX9_flourOf ∈ zTb := zTb_s (n := 91) (lw_q7 (List.mem_of_getElem? (i := 7) rfl)) rfl
theorem k_X9_flourOf : Cond.code yX9_flourOf cX9_flourOf 5 (some .int) ∈ zTb := zTb_8 117 rfl rfl
theorem v_X9_468 : zWv RX9 468 yX9_flourOf 10 cX9_flourOf 5 (some .int) 2 := ⟨⟨zTb_8 114 rfl rfl, im_X9_flourOf, se_X9_flourOf, i_X9, k_X9_flourOf⟩, by decide +kernel, by decide +kernel, by decide +kernel, by decide +kernel⟩
theorem im_X9_isCake : Cond.instanceMethod yX9_isCake ∈ zTb := zTb_8 124 rfl rfl
theorem se_X9_isCake : Cond.selects RX9 yX9_isCake yX9_isCake ∈ zTb := zTb_s (n := 91) (lw_q7 (List.mem_of_getElem? (i := 8) rfl)) rfl
theorem k_X9_isCake : Cond.code yX9_isCake cX9_isCake 2 (some .boolean) ∈ zTb := zTb_8 125 rfl rfl
theorem v_X9_471 : zWv RX9 471 yX9_isCake 10 cX9_isCake 2 (some .boolean) 1 := ⟨⟨zTb_8 122 rfl rfl, im_X9_isCake, se_X9_isCake, i_X9, k_X9_isCake⟩, by decide +kernel, by decide +kernel, by decide +kernel, by decide +kernel⟩
theorem im_X9_canBake : Cond.instanceMethod yX9_canBake ∈ zTb := zTb_8 128 rfl rfl
theorem se_X9_canBake : Cond.selects RX9 yX9_canBake yX9_canBake ∈ zTb := zTb_s (n := 91) (lw_q7 (List.mem_of_getElem? (i := 9) rfl)) rfl
theorem k_X9_canBake : Cond.code yX9_canBake cX9_canBake 3 (some .boolean) ∈ zTb := zTb_8 129 rfl rfl
theorem v_X9_474 : zWv RX9 474 yX9_canBake 10 cX9_canBake 3 (some .boolean) 2 := ⟨⟨zTb_8 126 rfl rfl, im_X9_canBake, se_X9_canBake, i_X9, k_X9_canBake⟩, by decide +kernel, by decide +kernel, by decide +kernel, by decide +kernel⟩
theorem im_X9_bakes : Cond.instanceMethod yX9_bakes ∈ zTb := zTb_8 132 rfl rfl
theorem se_X9_bakes : Cond.selects RX9 yX9_bakes yX9_bakes ∈ zTb := zTb_s (n := 91) (lw_q7 (List.mem_of_getElem? (i := 10) rfl)) rfl
theorem k_X9_bakes : Cond.code yX9_bakes cX9_bakes 7 none ∈ zTb := zTb_8 133 rfl rfl
theorem v_X9_477 : zWv RX9 477 yX9_bakes 10 cX9_bakes 7 none 2 := ⟨⟨zTb_8 130 rfl rfl, im_X9_bakes, se_X9_bakes, i_X9, k_X9_bakes⟩, by decide +kernel, by decide +kernel, by decide +kernel, by decide +kernel⟩
theorem q_X9_480 : Jvm.Cond.constantLong RX9 480 (100) ∈ zTb := zTb_8 150 rfl rfl
theorem w_X9_482 : zLk RX9 482 10 75 := Or.inl (zTb_6 127 rfl rfl)
theorem im_X9_wantOf : Cond.instanceMethod yX9_wantOf ∈ zTb := zTb_8 148 rfl rfl
theorem se_X9_wantOf : Cond.selects RX9 yX9_wantOf yX9_wantOf ∈ zTb := zTb_s (n := 91) (lw_q7 (List.mem_of_getElem? (i := 12) rfl)) rfl
theorem k_X9_wantOf : Cond.code yX9_wantOf cX9_wantOf 4 (some .long) ∈ zTb := zTb_8 149 rfl rfl
theorem v_X9_485 : zWv RX9 485 yX9_wantOf 10 cX9_wantOf 4 (some .long) 3 := ⟨⟨zTb_8 146 rfl rfl, im_X9_wantOf, se_X9_wantOf, i_X9, k_X9_wantOf⟩, by decide +kernel, by decide +kernel, by decide +kernel, by decide +kernel⟩
theorem im_X9_goesBy : Cond.instanceMethod yX9_goesBy ∈ zTb := zTb_8 144 rfl rfl
theorem se_X9_goesBy : Cond.selects RX9 yX9_goesBy yX9_goesBy ∈ zTb := zTb_s (n := 91) (lw_q7 (List.mem_of_getElem? (i := 11) rfl)) rfl
theorem k_X9_goesBy : Cond.code yX9_goesBy cX9_goesBy 9 none ∈ zTb := zTb_8 145 rfl rfl
theorem v_X9_489 : zWv RX9 489 yX9_goesBy 10 cX9_goesBy 9 none 1 := ⟨⟨zTb_8 142 rfl rfl, im_X9_goesBy, se_X9_goesBy, i_X9, k_X9_goesBy⟩, by decide +kernel, by decide +kernel, by decide +kernel, by decide +kernel⟩
theorem im_X9_isRun : Cond.instanceMethod yX9_isRun ∈ zTb := zTb_8 157 rfl rfl
theorem se_X9_isRun : Cond.selects RX9 yX9_isRun yX9_isRun ∈ zTb := zTb_s (n := 91) (lw_q7 (List.mem_of_getElem? (i := 13) rfl)) rfl
theorem k_X9_isRun : Cond.code yX9_isRun cX9_isRun 2 (some .boolean) ∈ zTb := zTb_8 158 rfl rfl
theorem v_X9_492 : zWv RX9 492 yX9_isRun 10 cX9_isRun 2 (some .boolean) 1 := ⟨⟨zTb_8 155 rfl rfl, im_X9_isRun, se_X9_isRun, i_X9, k_X9_isRun⟩, by decide +kernel, by decide +kernel, by decide +kernel, by decide +kernel⟩
theorem im_X9_layTried : Cond.instanceMethod yX9_layTried ∈ zTb := zTb_8 161 rfl rfl
theorem se_X9_layTried : Cond.selects RX9 yX9_layTried yX9_layTried ∈ zTb := zTb_s (n := 91) (lw_q7 (List.mem_of_getElem? (i := 14) rfl)) rfl
theorem k_X9_layTried : Cond.code yX9_layTried cX9_layTried 2 none ∈ zTb := zTb_8 162 rfl rfl
theorem v_X9_495 : zWv RX9 495 yX9_layTried 10 cX9_layTried 2 none 0 := ⟨⟨zTb_8 159 rfl rfl, im_X9_layTried, se_X9_layTried, i_X9, k_X9_layTried⟩, by decide +kernel, by decide +kernel, by decide +kernel, by decide +kernel⟩
theorem im_X9_runs : Cond.instanceMethod yX9_runs ∈ zTb := zTb_8 165 rfl rfl
theorem se_X9_runs : Cond.selects RX9 yX9_runs yX9_runs ∈ zTb := zTb_s (n := 91) (lw_q7 (List.mem_of_getElem? (i := 15) rfl)) rfl
theorem k_X9_runs : Cond.code yX9_runs cX9_runs 4 (some .int) ∈ zTb := zTb_8 166 rfl rfl
theorem v_X9_498 : zWv RX9 498 yX9_runs 10 cX9_runs 4 (some .int) 2 := ⟨⟨zTb_8 163 rfl rfl, im_X9_runs, se_X9_runs, i_X9, k_X9_runs⟩, by decide +kernel, by decide +kernel, by decide +kernel, by decide +kernel⟩
theorem w_X9_501 : zLk RX9 501 10 78 := Or.inl (zTb_6 130 rfl rfl)
theorem im_X9_fallsBy : Cond.instanceMethod yX9_fallsBy ∈ zTb := zTb_8 181 rfl rfl
theorem se_X9_fallsBy : Cond.selects RX9 yX9_fallsBy yX9_fallsBy ∈ zTb := zTb_s (n := 91) (lw_q8 (List.mem_of_getElem? (i := 1) rfl)) rfl
theorem k_X9_fallsBy : Cond.code yX9_fallsBy cX9_fallsBy 6 (some .int) ∈ zTb := zTb_8 182 rfl rfl
theorem v_X9_504 : zWv RX9 504 yX9_fallsBy 10 cX9_fallsBy 6 (some .int) 2 := ⟨⟨zTb_8 179 rfl rfl, im_X9_fallsBy, se_X9_fallsBy, i_X9, k_X9_fallsBy⟩, by decide +kernel, by decide +kernel, by decide +kernel, by decide +kernel⟩
theorem w_X9_507 : zLk RX9 507 10 79 := Or.inl (zTb_6 131 rfl rfl)
theorem im_X9_nextRow : Cond.instanceMethod yX9_nextRow ∈ zTb := zTb_8 185 rfl rfl
theorem se_X9_nextRow : Cond.selects RX9 yX9_nextRow yX9_nextRow ∈ zTb := zTb_s (n := 91) (lw_q8 (List.mem_of_getElem? (i := 2) rfl)) rfl
theorem k_X9_nextRow : Cond.code yX9_nextRow cX9_nextRow 3 (some .boolean) ∈ zTb := zTb_8 186 rfl rfl
theorem v_X9_510 : zWv RX9 510 yX9_nextRow 10 cX9_nextRow 3 (some .boolean) 1 := ⟨⟨zTb_8 183 rfl rfl, im_X9_nextRow, se_X9_nextRow, i_X9, k_X9_nextRow⟩, by decide +kernel, by decide +kernel, by decide +kernel, by decide +kernel⟩
theorem im_X9_layPlan : Cond.instanceMethod yX9_layPlan ∈ zTb := zTb_8 177 rfl rfl
theorem se_X9_layPlan : Cond.selects RX9 yX9_layPlan yX9_layPlan ∈ zTb := zTb_s (n := 91) (lw_q8 (List.mem_of_getElem? (i := 0) rfl)) rfl
theorem k_X9_layPlan : Cond.code yX9_layPlan cX9_layPlan 6 none ∈ zTb := zTb_8 178 rfl rfl
theorem v_X9_513 : zWv RX9 513 yX9_layPlan 10 cX9_layPlan 6 none 1 := ⟨⟨zTb_8 175 rfl rfl, im_X9_layPlan, se_X9_layPlan, i_X9, k_X9_layPlan⟩, by decide +kernel, by decide +kernel, by decide +kernel, by decide +kernel⟩
theorem sm_X9_isOf : Cond.static yX9_isOf ∈ zTb := zTb_8 200 rfl rfl
theorem k_X9_isOf : Cond.code yX9_isOf cX9_isOf 2 (some .boolean) ∈ zTb := zTb_8 201 rfl rfl
theorem s_X9_516 : zWs RX9 516 yX9_isOf cX9_isOf 2 (some .boolean) 2 := ⟨⟨zTb_8 199 rfl rfl, sm_X9_isOf, i_X9, k_X9_isOf⟩, by decide +kernel, by decide +kernel, by decide +kernel⟩
theorem im_X9_laySack : Cond.instanceMethod yX9_laySack ∈ zTb := zTb_8 197 rfl rfl
theorem se_X9_laySack : Cond.selects RX9 yX9_laySack yX9_laySack ∈ zTb := zTb_s (n := 91) (lw_q8 (List.mem_of_getElem? (i := 3) rfl)) rfl
theorem k_X9_laySack : Cond.code yX9_laySack cX9_laySack 3 none ∈ zTb := zTb_8 198 rfl rfl
theorem v_X9_519 : zWv RX9 519 yX9_laySack 10 cX9_laySack 3 none 2 := ⟨⟨zTb_8 195 rfl rfl, im_X9_laySack, se_X9_laySack, i_X9, k_X9_laySack⟩, by decide +kernel, by decide +kernel, by decide +kernel, by decide +kernel⟩
theorem sm_X9_common : Cond.static yX9_common ∈ zTb := zTb_8 203 rfl rfl
theorem k_X9_common : Cond.code yX9_common cX9_common 5 (some .int) ∈ zTb := zTb_8 204 rfl rfl
theorem s_X9_522 : zWs RX9 522 yX9_common cX9_common 5 (some .int) 2 := ⟨⟨zTb_8 202 rfl rfl, sm_X9_common, i_X9, k_X9_common⟩, by decide +kernel, by decide +kernel, by decide +kernel⟩
theorem im_X9_areMates : Cond.instanceMethod yX9_areMates ∈ zTb := zTb_8 219 rfl rfl
theorem se_X9_areMates : Cond.selects RX9 yX9_areMates yX9_areMates ∈ zTb := zTb_s (n := 91) (lw_q8 (List.mem_of_getElem? (i := 5) rfl)) rfl
theorem k_X9_areMates : Cond.code yX9_areMates cX9_areMates 4 (some .boolean) ∈ zTb := zTb_8 220 rfl rfl
theorem v_X9_525 : zWv RX9 525 yX9_areMates 10 cX9_areMates 4 (some .boolean) 0 := ⟨⟨zTb_8 217 rfl rfl, im_X9_areMates, se_X9_areMates, i_X9, k_X9_areMates⟩, by decide +kernel, by decide +kernel, by decide +kernel, by decide +kernel⟩
theorem im_X9_sumOfMates : Cond.instanceMethod yX9_sumOfMates ∈ zTb := zTb_8 223 rfl rfl
theorem se_X9_sumOfMates : Cond.selects RX9 yX9_sumOfMates yX9_sumOfMates ∈ zTb := zTb_s (n := 91) (lw_q8 (List.mem_of_getElem? (i := 6) rfl)) rfl
theorem k_X9_sumOfMates : Cond.code yX9_sumOfMates cX9_sumOfMates 4 (some .long) ∈ zTb := zTb_8 224 rfl rfl
theorem v_X9_528 : zWv RX9 528 yX9_sumOfMates 10 cX9_sumOfMates 4 (some .long) 0 := ⟨⟨zTb_8 221 rfl rfl, im_X9_sumOfMates, se_X9_sumOfMates, i_X9, k_X9_sumOfMates⟩, by decide +kernel, by decide +kernel, by decide +kernel, by decide +kernel⟩
theorem w_X9_532 : zLk RX9 532 10 82 := Or.inl (zTb_6 134 rfl rfl)
theorem im_X9_nextMates : Cond.instanceMethod yX9_nextMates ∈ zTb := zTb_8 227 rfl rfl
theorem se_X9_nextMates : Cond.selects RX9 yX9_nextMates yX9_nextMates ∈ zTb := zTb_s (n := 91) (lw_q8 (List.mem_of_getElem? (i := 7) rfl)) rfl
theorem k_X9_nextMates : Cond.code yX9_nextMates cX9_nextMates 2 (some .boolean) ∈ zTb := zTb_8 228 rfl rfl
theorem v_X9_535 : zWv RX9 535 yX9_nextMates 10 cX9_nextMates 2 (some .boolean) 0 := ⟨⟨zTb_8 225 rfl rfl, im_X9_nextMates, se_X9_nextMates, i_X9, k_X9_nextMates⟩, by decide +kernel, by decide +kernel, by decide +kernel, by decide +kernel⟩
theorem im_X9_layPairs : Cond.instanceMethod yX9_layPairs ∈ zTb := zTb_8 215 rfl rfl
theorem se_X9_layPairs : Cond.selects RX9 yX9_layPairs yX9_layPairs ∈ zTb := zTb_s (n := 91) (lw_q8 (List.mem_of_getElem? (i := 4) rfl)) rfl
theorem k_X9_layPairs : Cond.code yX9_layPairs cX9_layPairs 6 none ∈ zTb := zTb_8 216 rfl rfl
theorem v_X9_538 : zWv RX9 538 yX9_layPairs 10 cX9_layPairs 6 none 0 := ⟨⟨zTb_8 213 rfl rfl, im_X9_layPairs, se_X9_layPairs, i_X9, k_X9_layPairs⟩, by decide +kernel, by decide +kernel, by decide +kernel, by decide +kernel⟩
theorem im_X9_knownBy : Cond.instanceMethod yX9_knownBy ∈ zTb := zTb_9 7 rfl rfl
theorem se_X9_knownBy : Cond.selects RX9 yX9_knownBy yX9_knownBy ∈ zTb := zTb_s (n := 91) (lw_q8 (List.mem_of_getElem? (i := 9) rfl)) rfl
theorem k_X9_knownBy : Cond.code yX9_knownBy cX9_knownBy 1 (some .int) ∈ zTb := zTb_9 8 rfl rfl
theorem v_X9_541 : zWv RX9 541 yX9_knownBy 10 cX9_knownBy 1 (some .int) 0 := ⟨⟨zTb_9 5 rfl rfl, im_X9_knownBy, se_X9_knownBy, i_X9, k_X9_knownBy⟩, by decide +kernel, by decide +kernel, by decide +kernel, by decide +kernel⟩
theorem im_X9_isFit : Cond.instanceMethod yX9_isFit ∈ zTb := zTb_9 3 rfl rfl
theorem se_X9_isFit : Cond.selects RX9 yX9_isFit yX9_isFit ∈ zTb := zTb_s (n := 91) (lw_q8 (List.mem_of_getElem? (i := 8) rfl)) rfl
theorem k_X9_isFit : Cond.code yX9_isFit cX9_isFit 3 (some .boolean) ∈ zTb := zTb_9 4 rfl rfl
theorem v_X9_544 : zWv RX9 544 yX9_isFit 10 cX9_isFit 3 (some .boolean) 1 := ⟨⟨zTb_9 1 rfl rfl, im_X9_isFit, se_X9_isFit, i_X9, k_X9_isFit⟩, by decide +kernel, by decide +kernel, by decide +kernel, by decide +kernel⟩
theorem im_X9_put : Cond.instanceMethod yX9_put ∈ zTb := zTb_8 69 rfl rfl
theorem se_X9_put : Cond.selects RX9 yX9_put yX9_put ∈ zTb := zTb_s (n := 91) (lw_q7 (List.mem_of_getElem? (i := 2) rfl)) rfl
theorem k_X9_put : Cond.code yX9_put cX9_put 4 none ∈ zTb := zTb_8 70 rfl rfl
theorem v_X9_547 : zWv RX9 547 yX9_put 10 cX9_put 4 none 2 := ⟨⟨zTb_8 67 rfl rfl, im_X9_put, se_X9_put, i_X9, k_X9_put⟩, by decide +kernel, by decide +kernel, by decide +kernel, by decide +kernel⟩
theorem im_X9_take : Cond.instanceMethod yX9_take ∈ zTb := zTb_9 15 rfl rfl
theorem se_X9_take : Cond.selects RX9 yX9_take yX9_take ∈ zTb := zTb_s (n := 91) (lw_q8 (List.mem_of_getElem? (i := 10) rfl)) rfl
theorem k_X9_take : Cond.code yX9_take cX9_take 4 none ∈ zTb := zTb_9 16 rfl rfl
theorem v_X9_550 : zWv RX9 550 yX9_take 10 cX9_take 4 none 2 := ⟨⟨zTb_9 13 rfl rfl, im_X9_take, se_X9_take, i_X9, k_X9_take⟩, by decide +kernel, by decide +kernel, by decide +kernel, by decide +kernel⟩
theorem w_X9_553 : zLk RX9 553 10 88 := Or.inl (zTb_6 140 rfl rfl)
theorem w_X9_556 : zLk RX9 556 10 87 := Or.inl (zTb_6 139 rfl rfl)
theorem im_X8_look : Cond.instanceMethod yX8_look ∈ zTb := zTb_5 185 rfl rfl
theorem se_X8_look : Cond.selects RX8 yX8_look yX8_look ∈ zTb := zTb_5 186 rfl rfl
theorem k_X8_look : Cond.code yX8_look cX8_look 3 (some .int) ∈ zTb := zTb_5 187 rfl rfl
theorem v_L_7 : zWv RL 7 yX8_look 9 cX8_look 3 (some .int) 2 := ⟨⟨zTb_5 184 rfl rfl, im_X8_look, se_X8_look, i_X8, k_X8_look⟩, by decide +kernel, by decide +kernel, by decide +kernel, by decide +kernel⟩
theorem im_X8_feed : Cond.instanceMethod yX8_feed ∈ zTb := zTb_3 44 rfl rfl
theorem se_X8_feed : Cond.selects RX8 yX8_feed yX8_feed ∈ zTb := zTb_3 45 rfl rfl
theorem k_X8_feed : Cond.code yX8_feed cX8_feed 6 (some .int) ∈ zTb := zTb_3 46 rfl rfl
theorem v_L_21 : zWv RL 21 yX8_feed 9 cX8_feed 6 (some .int) 5 := ⟨⟨zTb_3 43 rfl rfl, im_X8_feed, se_X8_feed, i_X8, k_X8_feed⟩, by decide +kernel, by decide +kernel, by decide +kernel, by decide +kernel⟩
theorem im_X9_feed : Cond.instanceMethod yX9_feed ∈ zTb := zTb_7 88 rfl rfl
theorem se_X9_feed : Cond.selects RX9 yX9_feed yX9_feed ∈ zTb := zTb_7 89 rfl rfl
theorem k_X9_feed : Cond.code yX9_feed cX9_feed 8 (some .int) ∈ zTb := zTb_7 90 rfl rfl
theorem v_L_25 : zWv RL 25 yX9_feed 10 cX9_feed 8 (some .int) 5 := ⟨⟨zTb_7 87 rfl rfl, im_X9_feed, se_X9_feed, i_X9, k_X9_feed⟩, by decide +kernel, by decide +kernel, by decide +kernel, by decide +kernel⟩
theorem im_X8_text : Cond.instanceMethod yX8_text ∈ zTb := zTb_3 52 rfl rfl
theorem se_X8_text : Cond.selects RX8 yX8_text yX8_text ∈ zTb := zTb_3 53 rfl rfl
theorem k_X8_text : Cond.code yX8_text cX8_text 3 (some .int) ∈ zTb := zTb_3 54 rfl rfl
theorem v_L_26 : zWv RL 26 yX8_text 9 cX8_text 3 (some .int) 1 := ⟨⟨zTb_3 51 rfl rfl, im_X8_text, se_X8_text, i_X8, k_X8_text⟩, by decide +kernel, by decide +kernel, by decide +kernel, by decide +kernel⟩
theorem im_X9_text : Cond.instanceMethod yX9_text ∈ zTb := zTb_7 92 rfl rfl
theorem se_X9_text : Cond.selects RX9 yX9_text yX9_text ∈ zTb := zTb_7 93 rfl rfl
theorem k_X9_text : Cond.code yX9_text cX9_text 3 (some .int) ∈ zTb := zTb_7 94 rfl rfl
theorem v_L_30 : zWv RL 30 yX9_text 10 cX9_text 3 (some .int) 1 := ⟨⟨zTb_7 91 rfl rfl, im_X9_text, se_X9_text, i_X9, k_X9_text⟩, by decide +kernel, by decide +kernel, by decide +kernel, by decide +kernel⟩
theorem im_X8_fault : Cond.instanceMethod yX8_fault ∈ zTb := zTb_3 236 rfl rfl
theorem se_X8_fault : Cond.selects RX8 yX8_fault yX8_fault ∈ zTb := zTb_3 237 rfl rfl
theorem k_X8_fault : Cond.code yX8_fault cX8_fault 2 (some .int) ∈ zTb := zTb_3 238 rfl rfl
theorem v_L_31 : zWv RL 31 yX8_fault 9 cX8_fault 2 (some .int) 1 := ⟨⟨zTb_3 235 rfl rfl, im_X8_fault, se_X8_fault, i_X8, k_X8_fault⟩, by decide +kernel, by decide +kernel, by decide +kernel, by decide +kernel⟩
theorem im_X9_fault : Cond.instanceMethod yX9_fault ∈ zTb := zTb_7 206 rfl rfl
theorem se_X9_fault : Cond.selects RX9 yX9_fault yX9_fault ∈ zTb := zTb_7 207 rfl rfl
theorem k_X9_fault : Cond.code yX9_fault cX9_fault 2 (some .int) ∈ zTb := zTb_7 208 rfl rfl
theorem v_L_34 : zWv RL 34 yX9_fault 10 cX9_fault 2 (some .int) 1 := ⟨⟨zTb_7 205 rfl rfl, im_X9_fault, se_X9_fault, i_X9, k_X9_fault⟩, by decide +kernel, by decide +kernel, by decide +kernel, by decide +kernel⟩
theorem im_X8_named : Cond.instanceMethod yX8_named ∈ zTb := zTb_4 0 rfl rfl
theorem se_X8_named : Cond.selects RX8 yX8_named yX8_named ∈ zTb := zTb_4 1 rfl rfl
theorem k_X8_named : Cond.code yX8_named cX8_named 3 (some .int) ∈ zTb := zTb_4 2 rfl rfl
theorem v_L_35 : zWv RL 35 yX8_named 9 cX8_named 3 (some .int) 2 := ⟨⟨zTb_3 239 rfl rfl, im_X8_named, se_X8_named, i_X8, k_X8_named⟩, by decide +kernel, by decide +kernel, by decide +kernel, by decide +kernel⟩
theorem im_X9_named : Cond.instanceMethod yX9_named ∈ zTb := zTb_7 210 rfl rfl
theorem se_X9_named : Cond.selects RX9 yX9_named yX9_named ∈ zTb := zTb_7 211 rfl rfl
theorem k_X9_named : Cond.code yX9_named cX9_named 3 (some .int) ∈ zTb := zTb_7 212 rfl rfl
theorem v_L_38 : zWv RL 38 yX9_named 10 cX9_named 3 (some .int) 2 := ⟨⟨zTb_7 209 rfl rfl, im_X9_named, se_X9_named, i_X9, k_X9_named⟩, by decide +kernel, by decide +kernel, by decide +kernel, by decide +kernel⟩
theorem im_X9_look : Cond.instanceMethod yX9_look ∈ zTb := zTb_7 214 rfl rfl
theorem se_X9_look : Cond.selects RX9 yX9_look yX9_look ∈ zTb := zTb_7 215 rfl rfl
theorem k_X9_look : Cond.code yX9_look cX9_look 3 (some .int) ∈ zTb := zTb_7 216 rfl rfl
theorem v_L_44 : zWv RL 44 yX9_look 10 cX9_look 3 (some .int) 2 := ⟨⟨zTb_7 213 rfl rfl, im_X9_look, se_X9_look, i_X9, k_X9_look⟩, by decide +kernel, by decide +kernel, by decide +kernel, by decide +kernel⟩
theorem im_X8_did : Cond.instanceMethod yX8_did ∈ zTb := zTb_4 5 rfl rfl
theorem se_X8_did : Cond.selects RX8 yX8_did yX8_did ∈ zTb := zTb_4 6 rfl rfl
theorem k_X8_did : Cond.code yX8_did cX8_did 4 (some .int) ∈ zTb := zTb_4 7 rfl rfl
theorem v_L_45 : zWv RL 45 yX8_did 9 cX8_did 4 (some .int) 3 := ⟨⟨zTb_4 4 rfl rfl, im_X8_did, se_X8_did, i_X8, k_X8_did⟩, by decide +kernel, by decide +kernel, by decide +kernel, by decide +kernel⟩
theorem im_X9_did : Cond.instanceMethod yX9_did ∈ zTb := zTb_7 234 rfl rfl
theorem se_X9_did : Cond.selects RX9 yX9_did yX9_did ∈ zTb := zTb_7 235 rfl rfl
theorem k_X9_did : Cond.code yX9_did cX9_did 4 (some .int) ∈ zTb := zTb_7 236 rfl rfl
theorem v_L_49 : zWv RL 49 yX9_did 10 cX9_did 4 (some .int) 3 := ⟨⟨zTb_7 233 rfl rfl, im_X9_did, se_X9_did, i_X9, k_X9_did⟩, by decide +kernel, by decide +kernel, by decide +kernel, by decide +kernel⟩
theorem im_X8_fine : Cond.instanceMethod yX8_fine ∈ zTb := zTb_4 21 rfl rfl
theorem se_X8_fine : Cond.selects RX8 yX8_fine yX8_fine ∈ zTb := zTb_4 22 rfl rfl
theorem k_X8_fine : Cond.code yX8_fine cX8_fine 3 (some .int) ∈ zTb := zTb_4 23 rfl rfl
theorem v_L_50 : zWv RL 50 yX8_fine 9 cX8_fine 3 (some .int) 2 := ⟨⟨zTb_4 20 rfl rfl, im_X8_fine, se_X8_fine, i_X8, k_X8_fine⟩, by decide +kernel, by decide +kernel, by decide +kernel, by decide +kernel⟩
theorem im_X9_fine : Cond.instanceMethod yX9_fine ∈ zTb := zTb_8 2 rfl rfl
theorem se_X9_fine : Cond.selects RX9 yX9_fine yX9_fine ∈ zTb := zTb_8 3 rfl rfl
theorem k_X9_fine : Cond.code yX9_fine cX9_fine 3 (some .int) ∈ zTb := zTb_8 4 rfl rfl
theorem v_L_53 : zWv RL 53 yX9_fine 10 cX9_fine 3 (some .int) 2 := ⟨⟨zTb_8 1 rfl rfl, im_X9_fine, se_X9_fine, i_X9, k_X9_fine⟩, by decide +kernel, by decide +kernel, by decide +kernel, by decide +kernel⟩
theorem im_X8_law : Cond.instanceMethod yX8_law ∈ zTb := zTb_4 65 rfl rfl
theorem se_X8_law : Cond.selects RX8 yX8_law yX8_law ∈ zTb := zTb_4 66 rfl rfl
theorem k_X8_law : Cond.code yX8_law cX8_law 4 (some .long) ∈ zTb := zTb_4 67 rfl rfl
theorem v_L_54 : zWv RL 54 yX8_law 9 cX8_law 4 (some .long) 3 := ⟨⟨zTb_4 64 rfl rfl, im_X8_law, se_X8_law, i_X8, k_X8_law⟩, by decide +kernel, by decide +kernel, by decide +kernel, by decide +kernel⟩
theorem im_X9_law : Cond.instanceMethod yX9_law ∈ zTb := zTb_8 43 rfl rfl
theorem se_X9_law : Cond.selects RX9 yX9_law yX9_law ∈ zTb := zTb_8 44 rfl rfl
theorem k_X9_law : Cond.code yX9_law cX9_law 6 (some .long) ∈ zTb := zTb_8 45 rfl rfl
theorem v_L_58 : zWv RL 58 yX9_law 10 cX9_law 6 (some .long) 3 := ⟨⟨zTb_8 42 rfl rfl, im_X9_law, se_X9_law, i_X9, k_X9_law⟩, by decide +kernel, by decide +kernel, by decide +kernel, by decide +kernel⟩
theorem im_X8_confess : Cond.instanceMethod yX8_confess ∈ zTb := zTb_4 84 rfl rfl
theorem se_X8_confess : Cond.selects RX8 yX8_confess yX8_confess ∈ zTb := zTb_4 85 rfl rfl
theorem k_X8_confess : Cond.code yX8_confess cX8_confess 3 (some .int) ∈ zTb := zTb_4 86 rfl rfl
theorem v_L_59 : zWv RL 59 yX8_confess 9 cX8_confess 3 (some .int) 2 := ⟨⟨zTb_4 83 rfl rfl, im_X8_confess, se_X8_confess, i_X8, k_X8_confess⟩, by decide +kernel, by decide +kernel, by decide +kernel, by decide +kernel⟩
theorem im_X9_confess : Cond.instanceMethod yX9_confess ∈ zTb := zTb_8 56 rfl rfl
theorem se_X9_confess : Cond.selects RX9 yX9_confess yX9_confess ∈ zTb := zTb_8 57 rfl rfl
theorem k_X9_confess : Cond.code yX9_confess cX9_confess 3 (some .int) ∈ zTb := zTb_8 58 rfl rfl
theorem v_L_62 : zWv RL 62 yX9_confess 10 cX9_confess 3 (some .int) 2 := ⟨⟨zTb_8 55 rfl rfl, im_X9_confess, se_X9_confess, i_X9, k_X9_confess⟩, by decide +kernel, by decide +kernel, by decide +kernel, by decide +kernel⟩
theorem im_X8_ask : Cond.instanceMethod yX8_ask ∈ zTb := zTb_4 132 rfl rfl
theorem se_X8_ask : Cond.selects RX8 yX8_ask yX8_ask ∈ zTb := zTb_4 133 rfl rfl
theorem k_X8_ask : Cond.code yX8_ask cX8_ask 3 (some .int) ∈ zTb := zTb_4 134 rfl rfl
theorem v_L_63 : zWv RL 63 yX8_ask 9 cX8_ask 3 (some .int) 1 := ⟨⟨zTb_4 131 rfl rfl, im_X8_ask, se_X8_ask, i_X8, k_X8_ask⟩, by decide +kernel, by decide +kernel, by decide +kernel, by decide +kernel⟩
theorem im_X9_ask : Cond.instanceMethod yX9_ask ∈ zTb := zTb_8 76 rfl rfl
theorem se_X9_ask : Cond.selects RX9 yX9_ask yX9_ask ∈ zTb := zTb_8 77 rfl rfl
theorem k_X9_ask : Cond.code yX9_ask cX9_ask 3 (some .int) ∈ zTb := zTb_8 78 rfl rfl
theorem v_L_66 : zWv RL 66 yX9_ask 10 cX9_ask 3 (some .int) 1 := ⟨⟨zTb_8 75 rfl rfl, im_X9_ask, se_X9_ask, i_X9, k_X9_ask⟩, by decide +kernel, by decide +kernel, by decide +kernel, by decide +kernel⟩
theorem im_X8_fall : Cond.instanceMethod yX8_fall ∈ zTb := zTb_4 162 rfl rfl
theorem se_X8_fall : Cond.selects RX8 yX8_fall yX8_fall ∈ zTb := zTb_4 163 rfl rfl
theorem k_X8_fall : Cond.code yX8_fall cX8_fall 3 (some .int) ∈ zTb := zTb_4 164 rfl rfl
theorem v_L_67 : zWv RL 67 yX8_fall 9 cX8_fall 3 (some .int) 2 := ⟨⟨zTb_4 161 rfl rfl, im_X8_fall, se_X8_fall, i_X8, k_X8_fall⟩, by decide +kernel, by decide +kernel, by decide +kernel, by decide +kernel⟩
theorem im_X9_fall : Cond.instanceMethod yX9_fall ∈ zTb := zTb_8 100 rfl rfl
theorem se_X9_fall : Cond.selects RX9 yX9_fall yX9_fall ∈ zTb := zTb_8 101 rfl rfl
theorem k_X9_fall : Cond.code yX9_fall cX9_fall 3 (some .int) ∈ zTb := zTb_8 102 rfl rfl
theorem v_L_70 : zWv RL 70 yX9_fall 10 cX9_fall 3 (some .int) 2 := ⟨⟨zTb_8 99 rfl rfl, im_X9_fall, se_X9_fall, i_X9, k_X9_fall⟩, by decide +kernel, by decide +kernel, by decide +kernel, by decide +kernel⟩
theorem im_X8_sack : Cond.instanceMethod yX8_sack ∈ zTb := zTb_4 174 rfl rfl
theorem se_X8_sack : Cond.selects RX8 yX8_sack yX8_sack ∈ zTb := zTb_4 175 rfl rfl
theorem k_X8_sack : Cond.code yX8_sack cX8_sack 3 (some .int) ∈ zTb := zTb_4 176 rfl rfl
theorem v_L_71 : zWv RL 71 yX8_sack 9 cX8_sack 3 (some .int) 2 := ⟨⟨zTb_4 173 rfl rfl, im_X8_sack, se_X8_sack, i_X8, k_X8_sack⟩, by decide +kernel, by decide +kernel, by decide +kernel, by decide +kernel⟩
theorem im_X9_sack : Cond.instanceMethod yX9_sack ∈ zTb := zTb_8 104 rfl rfl
theorem se_X9_sack : Cond.selects RX9 yX9_sack yX9_sack ∈ zTb := zTb_8 105 rfl rfl
theorem k_X9_sack : Cond.code yX9_sack cX9_sack 3 (some .int) ∈ zTb := zTb_8 106 rfl rfl
theorem v_L_74 : zWv RL 74 yX9_sack 10 cX9_sack 3 (some .int) 2 := ⟨⟨zTb_8 103 rfl rfl, im_X9_sack, se_X9_sack, i_X9, k_X9_sack⟩, by decide +kernel, by decide +kernel, by decide +kernel, by decide +kernel⟩
theorem im_X8_flour : Cond.instanceMethod yX8_flour ∈ zTb := zTb_4 183 rfl rfl
theorem se_X8_flour : Cond.selects RX8 yX8_flour yX8_flour ∈ zTb := zTb_4 184 rfl rfl
theorem k_X8_flour : Cond.code yX8_flour cX8_flour 2 (some .int) ∈ zTb := zTb_4 185 rfl rfl
theorem v_L_75 : zWv RL 75 yX8_flour 9 cX8_flour 2 (some .int) 1 := ⟨⟨zTb_4 182 rfl rfl, im_X8_flour, se_X8_flour, i_X8, k_X8_flour⟩, by decide +kernel, by decide +kernel, by decide +kernel, by decide +kernel⟩
theorem im_X9_flour : Cond.instanceMethod yX9_flour ∈ zTb := zTb_8 108 rfl rfl
theorem se_X9_flour : Cond.selects RX9 yX9_flour yX9_flour ∈ zTb := zTb_8 109 rfl rfl
theorem k_X9_flour : Cond.code yX9_flour cX9_flour 2 (some .int) ∈ zTb := zTb_8 110 rfl rfl
theorem v_L_78 : zWv RL 78 yX9_flour 10 cX9_flour 2 (some .int) 1 := ⟨⟨zTb_8 107 rfl rfl, im_X9_flour, se_X9_flour, i_X9, k_X9_flour⟩, by decide +kernel, by decide +kernel, by decide +kernel, by decide +kernel⟩
theorem im_X8_bake : Cond.instanceMethod yX8_bake ∈ zTb := zTb_4 194 rfl rfl
theorem se_X8_bake : Cond.selects RX8 yX8_bake yX8_bake ∈ zTb := zTb_4 195 rfl rfl
theorem k_X8_bake : Cond.code yX8_bake cX8_bake 2 (some .boolean) ∈ zTb := zTb_4 196 rfl rfl
theorem v_L_79 : zWv RL 79 yX8_bake 9 cX8_bake 2 (some .boolean) 1 := ⟨⟨zTb_4 193 rfl rfl, im_X8_bake, se_X8_bake, i_X8, k_X8_bake⟩, by decide +kernel, by decide +kernel, by decide +kernel, by decide +kernel⟩
theorem im_X9_bake : Cond.instanceMethod yX9_bake ∈ zTb := zTb_8 119 rfl rfl
theorem se_X9_bake : Cond.selects RX9 yX9_bake yX9_bake ∈ zTb := zTb_8 120 rfl rfl
theorem k_X9_bake : Cond.code yX9_bake cX9_bake 2 (some .boolean) ∈ zTb := zTb_8 121 rfl rfl
theorem v_L_83 : zWv RL 83 yX9_bake 10 cX9_bake 2 (some .boolean) 1 := ⟨⟨zTb_8 118 rfl rfl, im_X9_bake, se_X9_bake, i_X9, k_X9_bake⟩, by decide +kernel, by decide +kernel, by decide +kernel, by decide +kernel⟩
theorem im_X8_baked : Cond.instanceMethod yX8_baked ∈ zTb := zTb_4 211 rfl rfl
theorem se_X8_baked : Cond.selects RX8 yX8_baked yX8_baked ∈ zTb := zTb_4 212 rfl rfl
theorem k_X8_baked : Cond.code yX8_baked cX8_baked 2 (some .int) ∈ zTb := zTb_4 213 rfl rfl
theorem v_L_84 : zWv RL 84 yX8_baked 9 cX8_baked 2 (some .int) 1 := ⟨⟨zTb_4 210 rfl rfl, im_X8_baked, se_X8_baked, i_X8, k_X8_baked⟩, by decide +kernel, by decide +kernel, by decide +kernel, by decide +kernel⟩
theorem im_X9_baked : Cond.instanceMethod yX9_baked ∈ zTb := zTb_8 135 rfl rfl
theorem se_X9_baked : Cond.selects RX9 yX9_baked yX9_baked ∈ zTb := zTb_8 136 rfl rfl
theorem k_X9_baked : Cond.code yX9_baked cX9_baked 2 (some .int) ∈ zTb := zTb_8 137 rfl rfl
theorem v_L_87 : zWv RL 87 yX9_baked 10 cX9_baked 2 (some .int) 1 := ⟨⟨zTb_8 134 rfl rfl, im_X9_baked, se_X9_baked, i_X9, k_X9_baked⟩, by decide +kernel, by decide +kernel, by decide +kernel, by decide +kernel⟩
theorem im_X8_days : Cond.instanceMethod yX8_days ∈ zTb := zTb_4 216 rfl rfl
theorem se_X8_days : Cond.selects RX8 yX8_days yX8_days ∈ zTb := zTb_4 217 rfl rfl
theorem k_X8_days : Cond.code yX8_days cX8_days 3 (some .int) ∈ zTb := zTb_4 218 rfl rfl
theorem v_L_88 : zWv RL 88 yX8_days 9 cX8_days 3 (some .int) 1 := ⟨⟨zTb_4 215 rfl rfl, im_X8_days, se_X8_days, i_X8, k_X8_days⟩, by decide +kernel, by decide +kernel, by decide +kernel, by decide +kernel⟩
theorem im_X9_days : Cond.instanceMethod yX9_days ∈ zTb := zTb_8 139 rfl rfl
theorem se_X9_days : Cond.selects RX9 yX9_days yX9_days ∈ zTb := zTb_8 140 rfl rfl
theorem k_X9_days : Cond.code yX9_days cX9_days 3 (some .int) ∈ zTb := zTb_8 141 rfl rfl
theorem v_L_91 : zWv RL 91 yX9_days 10 cX9_days 3 (some .int) 1 := ⟨⟨zTb_8 138 rfl rfl, im_X9_days, se_X9_days, i_X9, k_X9_days⟩, by decide +kernel, by decide +kernel, by decide +kernel, by decide +kernel⟩
theorem im_X8_plan : Cond.instanceMethod yX8_plan ∈ zTb := zTb_5 0 rfl rfl
theorem se_X8_plan : Cond.selects RX8 yX8_plan yX8_plan ∈ zTb := zTb_5 1 rfl rfl
theorem k_X8_plan : Cond.code yX8_plan cX8_plan 3 (some .int) ∈ zTb := zTb_5 2 rfl rfl
theorem v_L_92 : zWv RL 92 yX8_plan 9 cX8_plan 3 (some .int) 2 := ⟨⟨zTb_4 239 rfl rfl, im_X8_plan, se_X8_plan, i_X8, k_X8_plan⟩, by decide +kernel, by decide +kernel, by decide +kernel, by decide +kernel⟩
theorem im_X9_plan : Cond.instanceMethod yX9_plan ∈ zTb := zTb_8 172 rfl rfl
theorem se_X9_plan : Cond.selects RX9 yX9_plan yX9_plan ∈ zTb := zTb_8 173 rfl rfl
theorem k_X9_plan : Cond.code yX9_plan cX9_plan 3 (some .int) ∈ zTb := zTb_8 174 rfl rfl
theorem v_L_95 : zWv RL 95 yX9_plan 10 cX9_plan 3 (some .int) 2 := ⟨⟨zTb_8 171 rfl rfl, im_X9_plan, se_X9_plan, i_X9, k_X9_plan⟩, by decide +kernel, by decide +kernel, by decide +kernel, by decide +kernel⟩
theorem im_X8_planned : Cond.instanceMethod yX8_planned ∈ zTb := zTb_5 63 rfl rfl
theorem se_X8_planned : Cond.selects RX8 yX8_planned yX8_planned ∈ zTb := zTb_5 64 rfl rfl
theorem k_X8_planned : Cond.code yX8_planned cX8_planned 5 (some .int) ∈ zTb := zTb_5 65 rfl rfl
theorem v_L_96 : zWv RL 96 yX8_planned 9 cX8_planned 5 (some .int) 3 := ⟨⟨zTb_5 62 rfl rfl, im_X8_planned, se_X8_planned, i_X8, k_X8_planned⟩, by decide +kernel, by decide +kernel, by decide +kernel, by decide +kernel⟩
theorem im_X9_planned : Cond.instanceMethod yX9_planned ∈ zTb := zTb_8 188 rfl rfl
theorem se_X9_planned : Cond.selects RX9 yX9_planned yX9_planned ∈ zTb := zTb_8 189 rfl rfl
theorem k_X9_planned : Cond.code yX9_planned cX9_planned 4 (some .int) ∈ zTb := zTb_8 190 rfl rfl
theorem v_L_99 : zWv RL 99 yX9_planned 10 cX9_planned 4 (some .int) 3 := ⟨⟨zTb_8 187 rfl rfl, im_X9_planned, se_X9_planned, i_X9, k_X9_planned⟩, by decide +kernel, by decide +kernel, by decide +kernel, by decide +kernel⟩
theorem im_X8_crumb : Cond.instanceMethod yX8_crumb ∈ zTb := zTb_5 71 rfl rfl
theorem se_X8_crumb : Cond.selects RX8 yX8_crumb yX8_crumb ∈ zTb := zTb_5 72 rfl rfl
theorem k_X8_crumb : Cond.code yX8_crumb cX8_crumb 6 (some .int) ∈ zTb := zTb_5 73 rfl rfl
theorem v_L_100 : zWv RL 100 yX8_crumb 9 cX8_crumb 6 (some .int) 2 := ⟨⟨zTb_5 70 rfl rfl, im_X8_crumb, se_X8_crumb, i_X8, k_X8_crumb⟩, by decide +kernel, by decide +kernel, by decide +kernel, by decide +kernel⟩
theorem im_X9_crumb : Cond.instanceMethod yX9_crumb ∈ zTb := zTb_8 192 rfl rfl
theorem se_X9_crumb : Cond.selects RX9 yX9_crumb yX9_crumb ∈ zTb := zTb_8 193 rfl rfl
theorem k_X9_crumb : Cond.code yX9_crumb cX9_crumb 9 (some .int) ∈ zTb := zTb_8 194 rfl rfl
theorem v_L_103 : zWv RL 103 yX9_crumb 10 cX9_crumb 9 (some .int) 2 := ⟨⟨zTb_8 191 rfl rfl, im_X9_crumb, se_X9_crumb, i_X9, k_X9_crumb⟩, by decide +kernel, by decide +kernel, by decide +kernel, by decide +kernel⟩
theorem im_X8_run : Cond.instanceMethod yX8_run ∈ zTb := zTb_5 87 rfl rfl
theorem se_X8_run : Cond.selects RX8 yX8_run yX8_run ∈ zTb := zTb_5 88 rfl rfl
theorem k_X8_run : Cond.code yX8_run cX8_run 3 (some .int) ∈ zTb := zTb_5 89 rfl rfl
theorem v_L_104 : zWv RL 104 yX8_run 9 cX8_run 3 (some .int) 2 := ⟨⟨zTb_5 86 rfl rfl, im_X8_run, se_X8_run, i_X8, k_X8_run⟩, by decide +kernel, by decide +kernel, by decide +kernel, by decide +kernel⟩
theorem im_X9_run : Cond.instanceMethod yX9_run ∈ zTb := zTb_8 152 rfl rfl
theorem se_X9_run : Cond.selects RX9 yX9_run yX9_run ∈ zTb := zTb_8 153 rfl rfl
theorem k_X9_run : Cond.code yX9_run cX9_run 3 (some .int) ∈ zTb := zTb_8 154 rfl rfl
theorem v_L_107 : zWv RL 107 yX9_run 10 cX9_run 3 (some .int) 2 := ⟨⟨zTb_8 151 rfl rfl, im_X9_run, se_X9_run, i_X9, k_X9_run⟩, by decide +kernel, by decide +kernel, by decide +kernel, by decide +kernel⟩
theorem im_X8_tried : Cond.instanceMethod yX8_tried ∈ zTb := zTb_5 96 rfl rfl
theorem se_X8_tried : Cond.selects RX8 yX8_tried yX8_tried ∈ zTb := zTb_5 97 rfl rfl
theorem k_X8_tried : Cond.code yX8_tried cX8_tried 5 (some .int) ∈ zTb := zTb_5 98 rfl rfl
theorem v_L_108 : zWv RL 108 yX8_tried 9 cX8_tried 5 (some .int) 4 := ⟨⟨zTb_5 95 rfl rfl, im_X8_tried, se_X8_tried, i_X8, k_X8_tried⟩, by decide +kernel, by decide +kernel, by decide +kernel, by decide +kernel⟩
theorem im_X9_tried : Cond.instanceMethod yX9_tried ∈ zTb := zTb_8 168 rfl rfl
theorem se_X9_tried : Cond.selects RX9 yX9_tried yX9_tried ∈ zTb := zTb_8 169 rfl rfl
theorem k_X9_tried : Cond.code yX9_tried cX9_tried 5 (some .int) ∈ zTb := zTb_8 170 rfl rfl
theorem v_L_112 : zWv RL 112 yX9_tried 10 cX9_tried 5 (some .int) 4 := ⟨⟨zTb_8 167 rfl rfl, im_X9_tried, se_X9_tried, i_X9, k_X9_tried⟩, by decide +kernel, by decide +kernel, by decide +kernel, by decide +kernel⟩
theorem im_X8_mills : Cond.instanceMethod yX8_mills ∈ zTb := zTb_5 104 rfl rfl
theorem se_X8_mills : Cond.selects RX8 yX8_mills yX8_mills ∈ zTb := zTb_5 105 rfl rfl
theorem k_X8_mills : Cond.code yX8_mills cX8_mills 8 (some .int) ∈ zTb := zTb_5 106 rfl rfl
theorem v_L_113 : zWv RL 113 yX8_mills 9 cX8_mills 8 (some .int) 3 := ⟨⟨zTb_5 103 rfl rfl, im_X8_mills, se_X8_mills, i_X8, k_X8_mills⟩, by decide +kernel, by decide +kernel, by decide +kernel, by decide +kernel⟩
theorem im_X9_mills : Cond.instanceMethod yX9_mills ∈ zTb := zTb_8 206 rfl rfl
theorem se_X9_mills : Cond.selects RX9 yX9_mills yX9_mills ∈ zTb := zTb_8 207 rfl rfl
theorem k_X9_mills : Cond.code yX9_mills cX9_mills 10 (some .int) ∈ zTb := zTb_8 208 rfl rfl
theorem v_L_116 : zWv RL 116 yX9_mills 10 cX9_mills 10 (some .int) 3 := ⟨⟨zTb_8 205 rfl rfl, im_X9_mills, se_X9_mills, i_X9, k_X9_mills⟩, by decide +kernel, by decide +kernel, by decide +kernel, by decide +kernel⟩
theorem im_X8_pairs : Cond.instanceMethod yX8_pairs ∈ zTb := zTb_5 118 rfl rfl
theorem se_X8_pairs : Cond.selects RX8 yX8_pairs yX8_pairs ∈ zTb := zTb_5 119 rfl rfl
theorem k_X8_pairs : Cond.code yX8_pairs cX8_pairs 1 (some .long) ∈ zTb := zTb_5 120 rfl rfl
theorem v_L_117 : zWv RL 117 yX8_pairs 9 cX8_pairs 1 (some .long) 0 := ⟨⟨zTb_5 117 rfl rfl, im_X8_pairs, se_X8_pairs, i_X8, k_X8_pairs⟩, by decide +kernel, by decide +kernel, by decide +kernel, by decide +kernel⟩
theorem im_X9_pairs : Cond.instanceMethod yX9_pairs ∈ zTb := zTb_8 210 rfl rfl
theorem se_X9_pairs : Cond.selects RX9 yX9_pairs yX9_pairs ∈ zTb := zTb_8 211 rfl rfl
theorem k_X9_pairs : Cond.code yX9_pairs cX9_pairs 1 (some .long) ∈ zTb := zTb_8 212 rfl rfl
theorem v_L_121 : zWv RL 121 yX9_pairs 10 cX9_pairs 1 (some .long) 0 := ⟨⟨zTb_8 209 rfl rfl, im_X9_pairs, se_X9_pairs, i_X9, k_X9_pairs⟩, by decide +kernel, by decide +kernel, by decide +kernel, by decide +kernel⟩
theorem im_X8_paired : Cond.instanceMethod yX8_paired ∈ zTb := zTb_5 137 rfl rfl
theorem se_X8_paired : Cond.selects RX8 yX8_paired yX8_paired ∈ zTb := zTb_5 138 rfl rfl
theorem k_X8_paired : Cond.code yX8_paired cX8_paired 3 (some .int) ∈ zTb := zTb_5 139 rfl rfl
theorem v_L_122 : zWv RL 122 yX8_paired 9 cX8_paired 3 (some .int) 1 := ⟨⟨zTb_5 136 rfl rfl, im_X8_paired, se_X8_paired, i_X8, k_X8_paired⟩, by decide +kernel, by decide +kernel, by decide +kernel, by decide +kernel⟩
theorem im_X9_paired : Cond.instanceMethod yX9_paired ∈ zTb := zTb_8 230 rfl rfl
theorem se_X9_paired : Cond.selects RX9 yX9_paired yX9_paired ∈ zTb := zTb_8 231 rfl rfl
theorem k_X9_paired : Cond.code yX9_paired cX9_paired 2 (some .int) ∈ zTb := zTb_8 232 rfl rfl
theorem v_L_125 : zWv RL 125 yX9_paired 10 cX9_paired 2 (some .int) 1 := ⟨⟨zTb_8 229 rfl rfl, im_X9_paired, se_X9_paired, i_X9, k_X9_paired⟩, by decide +kernel, by decide +kernel, by decide +kernel, by decide +kernel⟩
theorem im_X8_lies : Cond.instanceMethod yX8_lies ∈ zTb := zTb_5 141 rfl rfl
theorem se_X8_lies : Cond.selects RX8 yX8_lies yX8_lies ∈ zTb := zTb_5 142 rfl rfl
theorem k_X8_lies : Cond.code yX8_lies cX8_lies 7 (some .int) ∈ zTb := zTb_5 143 rfl rfl
theorem v_L_126 : zWv RL 126 yX8_lies 9 cX8_lies 7 (some .int) 3 := ⟨⟨zTb_5 140 rfl rfl, im_X8_lies, se_X8_lies, i_X8, k_X8_lies⟩, by decide +kernel, by decide +kernel, by decide +kernel, by decide +kernel⟩
theorem im_X9_lies : Cond.instanceMethod yX9_lies ∈ zTb := zTb_8 96 rfl rfl
theorem se_X9_lies : Cond.selects RX9 yX9_lies yX9_lies ∈ zTb := zTb_8 97 rfl rfl
theorem k_X9_lies : Cond.code yX9_lies cX9_lies 9 (some .int) ∈ zTb := zTb_8 98 rfl rfl
theorem v_L_129 : zWv RL 129 yX9_lies 10 cX9_lies 9 (some .int) 3 := ⟨⟨zTb_8 95 rfl rfl, im_X9_lies, se_X9_lies, i_X9, k_X9_lies⟩, by decide +kernel, by decide +kernel, by decide +kernel, by decide +kernel⟩
theorem im_X8_known : Cond.instanceMethod yX8_known ∈ zTb := zTb_5 145 rfl rfl
theorem se_X8_known : Cond.selects RX8 yX8_known yX8_known ∈ zTb := zTb_5 146 rfl rfl
theorem k_X8_known : Cond.code yX8_known cX8_known 2 (some .boolean) ∈ zTb := zTb_5 147 rfl rfl
theorem v_L_130 : zWv RL 130 yX8_known 9 cX8_known 2 (some .boolean) 1 := ⟨⟨zTb_5 144 rfl rfl, im_X8_known, se_X8_known, i_X8, k_X8_known⟩, by decide +kernel, by decide +kernel, by decide +kernel, by decide +kernel⟩
theorem im_X9_known : Cond.instanceMethod yX9_known ∈ zTb := zTb_8 234 rfl rfl
theorem se_X9_known : Cond.selects RX9 yX9_known yX9_known ∈ zTb := zTb_8 235 rfl rfl
theorem k_X9_known : Cond.code yX9_known cX9_known 2 (some .boolean) ∈ zTb := zTb_8 236 rfl rfl
theorem v_L_133 : zWv RL 133 yX9_known 10 cX9_known 2 (some .boolean) 1 := ⟨⟨zTb_8 233 rfl rfl, im_X9_known, se_X9_known, i_X9, k_X9_known⟩, by decide +kernel, by decide +kernel, by decide +kernel, by decide +kernel⟩
theorem im_X8_fits : Cond.instanceMethod yX8_fits ∈ zTb := zTb_5 149 rfl rfl
theorem se_X8_fits : Cond.selects RX8 yX8_fits yX8_fits ∈ zTb := zTb_5 150 rfl rfl
theorem k_X8_fits : Cond.code yX8_fits cX8_fits 4 (some .int) ∈ zTb := zTb_5 151 rfl rfl
theorem v_L_134 : zWv RL 134 yX8_fits 9 cX8_fits 4 (some .int) 0 := ⟨⟨zTb_5 148 rfl rfl, im_X8_fits, se_X8_fits, i_X8, k_X8_fits⟩, by decide +kernel, by decide +kernel, by decide +kernel, by decide +kernel⟩
theorem im_X9_fits : Cond.instanceMethod yX9_fits ∈ zTb := zTb_8 238 rfl rfl
theorem se_X9_fits : Cond.selects RX9 yX9_fits yX9_fits ∈ zTb := zTb_8 239 rfl rfl
theorem k_X9_fits : Cond.code yX9_fits cX9_fits 3 (some .int) ∈ zTb := zTb_9 0 rfl rfl
theorem v_L_138 : zWv RL 138 yX9_fits 10 cX9_fits 3 (some .int) 0 := ⟨⟨zTb_8 237 rfl rfl, im_X9_fits, se_X9_fits, i_X9, k_X9_fits⟩, by decide +kernel, by decide +kernel, by decide +kernel, by decide +kernel⟩
theorem im_X8_undo : Cond.instanceMethod yX8_undo ∈ zTb := zTb_5 158 rfl rfl
theorem se_X8_undo : Cond.selects RX8 yX8_undo yX8_undo ∈ zTb := zTb_5 159 rfl rfl
theorem k_X8_undo : Cond.code yX8_undo cX8_undo 2 (some .int) ∈ zTb := zTb_5 160 rfl rfl
theorem v_L_139 : zWv RL 139 yX8_undo 9 cX8_undo 2 (some .int) 0 := ⟨⟨zTb_5 157 rfl rfl, im_X8_undo, se_X8_undo, i_X8, k_X8_undo⟩, by decide +kernel, by decide +kernel, by decide +kernel, by decide +kernel⟩
theorem im_X9_undo : Cond.instanceMethod yX9_undo ∈ zTb := zTb_9 10 rfl rfl
theorem se_X9_undo : Cond.selects RX9 yX9_undo yX9_undo ∈ zTb := zTb_9 11 rfl rfl
theorem k_X9_undo : Cond.code yX9_undo cX9_undo 1 (some .int) ∈ zTb := zTb_9 12 rfl rfl
theorem v_L_142 : zWv RL 142 yX9_undo 10 cX9_undo 1 (some .int) 0 := ⟨⟨zTb_9 9 rfl rfl, im_X9_undo, se_X9_undo, i_X9, k_X9_undo⟩, by decide +kernel, by decide +kernel, by decide +kernel, by decide +kernel⟩
theorem im_X8_keep : Cond.instanceMethod yX8_keep ∈ zTb := zTb_5 168 rfl rfl
theorem se_X8_keep : Cond.selects RX8 yX8_keep yX8_keep ∈ zTb := zTb_5 169 rfl rfl
theorem k_X8_keep : Cond.code yX8_keep cX8_keep 1 (some .int) ∈ zTb := zTb_5 170 rfl rfl
theorem v_L_143 : zWv RL 143 yX8_keep 9 cX8_keep 1 (some .int) 0 := ⟨⟨zTb_5 167 rfl rfl, im_X8_keep, se_X8_keep, i_X8, k_X8_keep⟩, by decide +kernel, by decide +kernel, by decide +kernel, by decide +kernel⟩
theorem im_X9_keep : Cond.instanceMethod yX9_keep ∈ zTb := zTb_9 18 rfl rfl
theorem se_X9_keep : Cond.selects RX9 yX9_keep yX9_keep ∈ zTb := zTb_9 19 rfl rfl
theorem k_X9_keep : Cond.code yX9_keep cX9_keep 2 (some .int) ∈ zTb := zTb_9 20 rfl rfl
theorem v_L_146 : zWv RL 146 yX9_keep 10 cX9_keep 2 (some .int) 0 := ⟨⟨zTb_9 17 rfl rfl, im_X9_keep, se_X9_keep, i_X9, k_X9_keep⟩, by decide +kernel, by decide +kernel, by decide +kernel, by decide +kernel⟩
theorem im_X8_back : Cond.instanceMethod yX8_back ∈ zTb := zTb_5 172 rfl rfl
theorem se_X8_back : Cond.selects RX8 yX8_back yX8_back ∈ zTb := zTb_5 173 rfl rfl
theorem k_X8_back : Cond.code yX8_back cX8_back 1 (some .int) ∈ zTb := zTb_5 174 rfl rfl
theorem v_L_147 : zWv RL 147 yX8_back 9 cX8_back 1 (some .int) 0 := ⟨⟨zTb_5 171 rfl rfl, im_X8_back, se_X8_back, i_X8, k_X8_back⟩, by decide +kernel, by decide +kernel, by decide +kernel, by decide +kernel⟩
theorem im_X9_back : Cond.instanceMethod yX9_back ∈ zTb := zTb_9 22 rfl rfl
theorem se_X9_back : Cond.selects RX9 yX9_back yX9_back ∈ zTb := zTb_9 23 rfl rfl
theorem k_X9_back : Cond.code yX9_back cX9_back 2 (some .int) ∈ zTb := zTb_9 24 rfl rfl
theorem v_L_150 : zWv RL 150 yX9_back 10 cX9_back 2 (some .int) 0 := ⟨⟨zTb_9 21 rfl rfl, im_X9_back, se_X9_back, i_X9, k_X9_back⟩, by decide +kernel, by decide +kernel, by decide +kernel, by decide +kernel⟩
theorem im_X8_count : Cond.instanceMethod yX8_count ∈ zTb := zTb_5 176 rfl rfl
theorem se_X8_count : Cond.selects RX8 yX8_count yX8_count ∈ zTb := zTb_5 177 rfl rfl
theorem k_X8_count : Cond.code yX8_count cX8_count 2 (some .int) ∈ zTb := zTb_5 178 rfl rfl
theorem v_L_151 : zWv RL 151 yX8_count 9 cX8_count 2 (some .int) 1 := ⟨⟨zTb_5 175 rfl rfl, im_X8_count, se_X8_count, i_X8, k_X8_count⟩, by decide +kernel, by decide +kernel, by decide +kernel, by decide +kernel⟩
theorem im_X9_count : Cond.instanceMethod yX9_count ∈ zTb := zTb_9 26 rfl rfl
theorem se_X9_count : Cond.selects RX9 yX9_count yX9_count ∈ zTb := zTb_9 27 rfl rfl
theorem k_X9_count : Cond.code yX9_count cX9_count 2 (some .int) ∈ zTb := zTb_9 28 rfl rfl
theorem v_L_154 : zWv RL 154 yX9_count 10 cX9_count 2 (some .int) 1 := ⟨⟨zTb_9 25 rfl rfl, im_X9_count, se_X9_count, i_X9, k_X9_count⟩, by decide +kernel, by decide +kernel, by decide +kernel, by decide +kernel⟩
theorem q_J6_265 : Jvm.Cond.constant RJ6 265 (1431655765) ∈ zTb := zTb_4 154 rfl rfl
theorem q_J6_266 : Jvm.Cond.constant RJ6 266 (858993459) ∈ zTb := zTb_4 155 rfl rfl
theorem q_J6_267 : Jvm.Cond.constant RJ6 267 (252645135) ∈ zTb := zTb_4 156 rfl rfl
theorem k_X0_init : Cond.code yX0_init cX0_init 1 none ∈ zTb := zTb_2 217 rfl rfl
theorem k_X1_init : Cond.code yX1_init cX1_init 1 none ∈ zTb := zTb_1 139 rfl rfl
theorem k_X2_init : Cond.code yX2_init cX2_init 2 none ∈ zTb := zTb_2 184 rfl rfl
theorem k_X3_init : Cond.code yX3_init cX3_init 1 none ∈ zTb := zTb_1 36 rfl rfl
theorem k_X4_init : Cond.code yX4_init cX4_init 1 none ∈ zTb := zTb_2 60 rfl rfl
theorem k_X5_init : Cond.code yX5_init cX5_init 1 none ∈ zTb := zTb_1 133 rfl rfl
theorem k_X6_init : Cond.code yX6_init cX6_init 1 none ∈ zTb := zTb_1 42 rfl rfl
theorem k_X7_init : Cond.code yX7_init cX7_init 2 none ∈ zTb := zTb_2 54 rfl rfl
theorem k_X8_init : Cond.code yX8_init cX8_init 1 none ∈ zTb := zTb_1 28 rfl rfl
theorem k_X9_init : Cond.code yX9_init cX9_init 1 none ∈ zTb := zTb_6 35 rfl rfl
