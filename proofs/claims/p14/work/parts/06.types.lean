/-! field kinds by class type t (class number + 1): (0 int, 1 long, 2 final reference, 3 reference; the type it has) -/
def zFT : List (List (Nat × Nat)) := [[],
  [(2, 11), (2, 12), (2, 13), (0, 0), (1, 0), (4, 0)],
  [(2, 14), (2, 15), (2, 16), (2, 17), (2, 18), (2, 19), (0, 0), (0, 0)],
  [(2, 8), (2, 20), (2, 21), (2, 22), (2, 23), (2, 24), (0, 0), (0, 0)],
  [(2, 7), (3, 6), (0, 0), (0, 0), (0, 0), (0, 0), (0, 0), (0, 0), (0, 0), (2, 25), (0, 0), (0, 0), (4, 0), (4, 0)],
  [(2, 26), (2, 27), (2, 28), (2, 29), (2, 30), (2, 31), (2, 32), (2, 33), (2, 34), (2, 35), (0, 0)],
  [(2, 2), (2, 36), (2, 37), (2, 38), (2, 39), (2, 40), (2, 41), (2, 42), (2, 43), (0, 0), (0, 0), (0, 0), (0, 0)],
  [(2, 44), (2, 45), (2, 46), (2, 47), (0, 0), (0, 0), (0, 0)],
  [(3, 6), (2, 5), (2, 48), (2, 49), (2, 50), (2, 51), (2, 52), (2, 53), (2, 54), (0, 0), (0, 0), (0, 0), (0, 0), (0, 0)],
  [(2, 55), (0, 0), (2, 4), (3, 6), (2, 8), (2, 8), (2, 8), (2, 3), (2, 1), (2, 56), (0, 0), (4, 0), (0, 0), (0, 0)],
  [(2, 57), (0, 0), (0, 0), (2, 58), (0, 0), (0, 0), (0, 0), (0, 0), (0, 0), (0, 0), (0, 0), (0, 0), (0, 0), (0, 0), (0, 0), (0, 0), (0, 0), (0, 0), (0, 0), (0, 0), (0, 0), (0, 0), (2, 59), (2, 60), (2, 61), (2, 62), (2, 63), (2, 64), (2, 65), (2, 66), (2, 67), (2, 68), (2, 69), (2, 70), (2, 71), (2, 72), (2, 73), (2, 74), (2, 75), (2, 76), (2, 77), (2, 78), (0, 0), (0, 0), (0, 0), (0, 0), (4, 0), (4, 0), (2, 79), (2, 80), (4, 0), (2, 81), (2, 82), (2, 83), (2, 84), (2, 85), (2, 86), (2, 87), (2, 88), (2, 89), (2, 90), (1, 0), (2, 91), (2, 92), (2, 93), (2, 94), (2, 95), (2, 96), (2, 97), (2, 98), (2, 99), (2, 100), (0, 0), (0, 0), (0, 0), (0, 0), (2, 101), (2, 102), (0, 0), (0, 0), (2, 103), (2, 104), (1, 0), (0, 0), (0, 0), (2, 105), (4, 0), (0, 0), (1, 0), (2, 106), (2, 107)]]
def zfk (t k : Nat) : Nat × Nat := (zFT.getD t []).getD k (9, 0)
def zAT : List (Nat × Nat) := [(0, 5), (0, 5), (1, 25), (0, 64), (0, 64), (0, 7), (0, 7), (1, 7), (1, 64), (0, 5), (0, 5), (0, 5), (0, 20), (0, 4), (0, 72), (0, 60), (0, 60), (0, 60), (0, 60), (0, 60), (0, 60), (0, 60), (0, 60), (0, 60), (0, 60), (0, 20), (0, 4), (0, 4), (0, 5), (0, 20), (0, 5), (0, 5), (0, 5), (0, 24), (0, 701), (0, 701), (0, 701), (0, 20), (0, 20), (0, 5), (0, 5), (0, 5), (0, 5), (0, 300), (0, 700), (0, 20), (0, 700), (0, 121), (0, 8), (2, 4), (0, 8), (0, 8), (0, 10), (0, 10), (0, 40), (0, 10), (0, 10), (0, 10), (0, 10), (0, 6), (2, 14), (0, 14), (0, 14), (0, 128), (0, 128), (0, 128), (0, 96), (0, 96), (1, 7), (1, 64), (0, 40), (0, 40), (0, 10), (0, 10), (0, 10), (0, 10), (0, 2), (0, 2), (0, 2), (0, 2), (0, 120), (0, 120), (0, 120), (0, 120), (0, 120), (0, 60), (0, 60), (0, 60), (0, 60), (0, 60), (0, 4), (0, 4), (0, 5), (0, 5), (0, 2540), (0, 127), (0, 540)]
def zat (t : Nat) : Nat × Nat := if t < 11 then (9, 0) else zAT.getD (t - 11) (9, 0)
def zRT : List (Nat × Int × Int) := [(103, 0, 5), (105, 0, 1), (206, 0, 64), (207, 0, 64), (306, 0, 4), (402, -1, 700), (410, 0, 72), (411, 0, 8), (412, 0, 1), (413, 0, 1), (510, 0, 60), (704, 0, 701), (705, 0, 700), (706, 0, 701), (901, 0, 700), (910, 0, 20), (911, 0, 1), (1001, 0, 700), (1006, 0, 700), (1007, 0, 700), (1008, 0, 6), (1010, 0, 700), (1012, 0, 4), (1013, 0, 5), (1014, 0, 5), (1015, 0, 3), (1016, 0, 64), (1017, 0, 4), (1018, 0, 5), (1019, 0, 5), (1020, 0, 3), (1021, 0, 64), (1042, 0, 96), (1043, 0, 96), (1044, 0, 8), (1045, 0, 64), (1046, 0, 1), (1047, 0, 1), (1050, 0, 1), (1079, 0, 4), (1084, 0, 20), (1086, 0, 1), (2016, 0, 64), (2024, 0, 19), (2025, 0, 15), (2026, 0, 4), (2027, 0, 3), (2055, 0, 255), (2056, 0, 25), (2057, 0, 255), (2060, 0, 1), (2062, 0, 99), (2064, 0, 100), (2071, 0, 1), (2072, 0, 64), (2073, 0, 64), (2074, 0, 14), (2075, 0, 9999), (2076, -1, 63), (2077, 0, 14), (2078, 0, 63), (2087, 0, 60), (2091, 0, 4), (2092, 0, 3), (2094, 0, 99), (2101, 0, 24), (2102, 0, 24), (2103, 0, 6), (2104, 0, 6)]
def zfull : Int × Int := (-2147483648, 2147483647)
def zWD : List Int := [115, 105, 110, 32, 112, 101, 114, 115, 111, 110, 32, 99, 97, 107, 101, 32, 103, 114, 97, 105, 110, 32, 103, 114, 105, 115, 116, 32, 115, 116, 111, 110, 101, 32, 115, 101, 101, 100, 32, 108, 97, 119, 32, 109, 97, 121, 32, 100, 105, 100, 32, 103, 114, 105, 110, 100, 32, 119, 101, 97, 114, 32, 119, 97, 110, 116, 32, 112, 97, 105, 114, 32, 97, 110, 100, 32, 111, 114, 32, 110, 111, 116, 32, 119, 111, 114, 116, 104, 32, 116, 105, 109, 101, 115, 32, 119, 111, 114, 110, 32, 112, 114, 105, 100, 101, 32, 108, 105, 101, 32, 104, 111, 110, 101, 115, 116, 32, 100, 97, 121, 32]
def zcl (q : Int × Int) : Int × Int := (max (-2147483648) q.1, min 2147483647 q.2)
def zrg (r i : Nat) : Int × Int := if r = 2058 then zcl ((zWD.getD i 32, zWD.getD i 32)) else if r = 2107 then zcl ((if i < 60 then (0, 4) else if i < 120 then (0, 3) else zfull)) else if r = 2106 then zcl ((if i % 127 = 120 then (0, 60) else if 60 ≤ i % 127 ∧ i % 127 < 120 then (0, 99) else zfull)) else if r = 2105 then zcl ((if i % 127 = 120 then (0, 60) else if 60 ≤ i % 127 ∧ i % 127 < 120 then (0, 99) else zfull)) else if r = 2059 then zcl ((if i = 1 ∨ i = 5 then (0, 99) else zfull)) else if r = 2037 then zcl ((0, if i = 0 then 4 else if i = 3 then 3 else 5)) else zcl ((zRT.lookup r).getD zfull)
theorem zrg_in (r i : Nat) : -2147483648 ≤ (zrg r i).1 ∧ (zrg r i).2 ≤ 2147483647 := by
  unfold zrg
  repeat' split
  all_goals (simp only [zcl]; omega)
theorem f_1_0 : zfk 1 0 = (2, 11) := by decide +kernel
theorem f_1_1 : zfk 1 1 = (2, 12) := by decide +kernel
theorem f_1_2 : zfk 1 2 = (2, 13) := by decide +kernel
theorem f_1_3 : zfk 1 3 = (0, 0) := by decide +kernel
theorem f_1_4 : zfk 1 4 = (1, 0) := by decide +kernel
theorem f_1_5 : zfk 1 5 = (4, 0) := by decide +kernel
theorem f_2_0 : zfk 2 0 = (2, 14) := by decide +kernel
theorem f_2_1 : zfk 2 1 = (2, 15) := by decide +kernel
theorem f_2_2 : zfk 2 2 = (2, 16) := by decide +kernel
theorem f_2_3 : zfk 2 3 = (2, 17) := by decide +kernel
theorem f_2_4 : zfk 2 4 = (2, 18) := by decide +kernel
theorem f_2_5 : zfk 2 5 = (2, 19) := by decide +kernel
theorem f_2_6 : zfk 2 6 = (0, 0) := by decide +kernel
theorem f_2_7 : zfk 2 7 = (0, 0) := by decide +kernel
theorem f_3_0 : zfk 3 0 = (2, 8) := by decide +kernel
theorem f_3_1 : zfk 3 1 = (2, 20) := by decide +kernel
theorem f_3_2 : zfk 3 2 = (2, 21) := by decide +kernel
theorem f_3_3 : zfk 3 3 = (2, 22) := by decide +kernel
theorem f_3_4 : zfk 3 4 = (2, 23) := by decide +kernel
theorem f_3_5 : zfk 3 5 = (2, 24) := by decide +kernel
theorem f_3_6 : zfk 3 6 = (0, 0) := by decide +kernel
theorem f_3_7 : zfk 3 7 = (0, 0) := by decide +kernel
theorem f_4_0 : zfk 4 0 = (2, 7) := by decide +kernel
theorem f_4_1 : zfk 4 1 = (3, 6) := by decide +kernel
theorem f_4_2 : zfk 4 2 = (0, 0) := by decide +kernel
theorem f_4_3 : zfk 4 3 = (0, 0) := by decide +kernel
theorem f_4_4 : zfk 4 4 = (0, 0) := by decide +kernel
theorem f_4_5 : zfk 4 5 = (0, 0) := by decide +kernel
theorem f_4_6 : zfk 4 6 = (0, 0) := by decide +kernel
theorem f_4_7 : zfk 4 7 = (0, 0) := by decide +kernel
theorem f_4_8 : zfk 4 8 = (0, 0) := by decide +kernel
theorem f_4_9 : zfk 4 9 = (2, 25) := by decide +kernel
theorem f_4_10 : zfk 4 10 = (0, 0) := by decide +kernel
theorem f_4_11 : zfk 4 11 = (0, 0) := by decide +kernel
theorem f_4_12 : zfk 4 12 = (4, 0) := by decide +kernel
theorem f_4_13 : zfk 4 13 = (4, 0) := by decide +kernel
theorem f_5_0 : zfk 5 0 = (2, 26) := by decide +kernel
theorem f_5_1 : zfk 5 1 = (2, 27) := by decide +kernel
theorem f_5_2 : zfk 5 2 = (2, 28) := by decide +kernel
theorem f_5_3 : zfk 5 3 = (2, 29) := by decide +kernel
theorem f_5_4 : zfk 5 4 = (2, 30) := by decide +kernel
theorem f_5_5 : zfk 5 5 = (2, 31) := by decide +kernel
theorem f_5_6 : zfk 5 6 = (2, 32) := by decide +kernel
theorem f_5_7 : zfk 5 7 = (2, 33) := by decide +kernel
theorem f_5_8 : zfk 5 8 = (2, 34) := by decide +kernel
theorem f_5_9 : zfk 5 9 = (2, 35) := by decide +kernel
theorem f_5_10 : zfk 5 10 = (0, 0) := by decide +kernel
theorem f_6_0 : zfk 6 0 = (2, 2) := by decide +kernel
theorem f_6_1 : zfk 6 1 = (2, 36) := by decide +kernel
theorem f_6_2 : zfk 6 2 = (2, 37) := by decide +kernel
theorem f_6_3 : zfk 6 3 = (2, 38) := by decide +kernel
theorem f_6_4 : zfk 6 4 = (2, 39) := by decide +kernel
theorem f_6_5 : zfk 6 5 = (2, 40) := by decide +kernel
theorem f_6_6 : zfk 6 6 = (2, 41) := by decide +kernel
theorem f_6_7 : zfk 6 7 = (2, 42) := by decide +kernel
theorem f_6_8 : zfk 6 8 = (2, 43) := by decide +kernel
theorem f_6_9 : zfk 6 9 = (0, 0) := by decide +kernel
theorem f_6_10 : zfk 6 10 = (0, 0) := by decide +kernel
theorem f_6_11 : zfk 6 11 = (0, 0) := by decide +kernel
theorem f_6_12 : zfk 6 12 = (0, 0) := by decide +kernel
theorem f_7_0 : zfk 7 0 = (2, 44) := by decide +kernel
theorem f_7_1 : zfk 7 1 = (2, 45) := by decide +kernel
theorem f_7_2 : zfk 7 2 = (2, 46) := by decide +kernel
theorem f_7_3 : zfk 7 3 = (2, 47) := by decide +kernel
theorem f_7_4 : zfk 7 4 = (0, 0) := by decide +kernel
theorem f_7_5 : zfk 7 5 = (0, 0) := by decide +kernel
theorem f_7_6 : zfk 7 6 = (0, 0) := by decide +kernel
theorem f_8_0 : zfk 8 0 = (3, 6) := by decide +kernel
theorem f_8_1 : zfk 8 1 = (2, 5) := by decide +kernel
theorem f_8_2 : zfk 8 2 = (2, 48) := by decide +kernel
theorem f_8_3 : zfk 8 3 = (2, 49) := by decide +kernel
theorem f_8_4 : zfk 8 4 = (2, 50) := by decide +kernel
theorem f_8_5 : zfk 8 5 = (2, 51) := by decide +kernel
theorem f_8_6 : zfk 8 6 = (2, 52) := by decide +kernel
theorem f_8_7 : zfk 8 7 = (2, 53) := by decide +kernel
theorem f_8_8 : zfk 8 8 = (2, 54) := by decide +kernel
theorem f_8_9 : zfk 8 9 = (0, 0) := by decide +kernel
theorem f_8_10 : zfk 8 10 = (0, 0) := by decide +kernel
theorem f_8_11 : zfk 8 11 = (0, 0) := by decide +kernel
theorem f_8_12 : zfk 8 12 = (0, 0) := by decide +kernel
theorem f_8_13 : zfk 8 13 = (0, 0) := by decide +kernel
theorem f_9_0 : zfk 9 0 = (2, 55) := by decide +kernel
theorem f_9_1 : zfk 9 1 = (0, 0) := by decide +kernel
theorem f_9_2 : zfk 9 2 = (2, 4) := by decide +kernel
theorem f_9_3 : zfk 9 3 = (3, 6) := by decide +kernel
theorem f_9_4 : zfk 9 4 = (2, 8) := by decide +kernel
theorem f_9_5 : zfk 9 5 = (2, 8) := by decide +kernel
theorem f_9_6 : zfk 9 6 = (2, 8) := by decide +kernel
theorem f_9_7 : zfk 9 7 = (2, 3) := by decide +kernel
theorem f_9_8 : zfk 9 8 = (2, 1) := by decide +kernel
theorem f_9_9 : zfk 9 9 = (2, 56) := by decide +kernel
theorem f_9_10 : zfk 9 10 = (0, 0) := by decide +kernel
theorem f_9_11 : zfk 9 11 = (4, 0) := by decide +kernel
theorem f_9_12 : zfk 9 12 = (0, 0) := by decide +kernel
theorem f_9_13 : zfk 9 13 = (0, 0) := by decide +kernel
theorem f_10_0 : zfk 10 0 = (2, 57) := by decide +kernel
theorem f_10_1 : zfk 10 1 = (0, 0) := by decide +kernel
theorem f_10_2 : zfk 10 2 = (0, 0) := by decide +kernel
theorem f_10_3 : zfk 10 3 = (2, 58) := by decide +kernel
theorem f_10_4 : zfk 10 4 = (0, 0) := by decide +kernel
theorem f_10_5 : zfk 10 5 = (0, 0) := by decide +kernel
theorem f_10_6 : zfk 10 6 = (0, 0) := by decide +kernel
theorem f_10_7 : zfk 10 7 = (0, 0) := by decide +kernel
theorem f_10_8 : zfk 10 8 = (0, 0) := by decide +kernel
theorem f_10_9 : zfk 10 9 = (0, 0) := by decide +kernel
theorem f_10_10 : zfk 10 10 = (0, 0) := by decide +kernel
theorem f_10_11 : zfk 10 11 = (0, 0) := by decide +kernel
theorem f_10_12 : zfk 10 12 = (0, 0) := by decide +kernel
theorem f_10_13 : zfk 10 13 = (0, 0) := by decide +kernel
theorem f_10_14 : zfk 10 14 = (0, 0) := by decide +kernel
theorem f_10_15 : zfk 10 15 = (0, 0) := by decide +kernel
theorem f_10_16 : zfk 10 16 = (0, 0) := by decide +kernel
theorem f_10_17 : zfk 10 17 = (0, 0) := by decide +kernel
theorem f_10_18 : zfk 10 18 = (0, 0) := by decide +kernel
theorem f_10_19 : zfk 10 19 = (0, 0) := by decide +kernel
theorem f_10_20 : zfk 10 20 = (0, 0) := by decide +kernel
theorem f_10_21 : zfk 10 21 = (0, 0) := by decide +kernel
theorem f_10_22 : zfk 10 22 = (2, 59) := by decide +kernel
theorem f_10_23 : zfk 10 23 = (2, 60) := by decide +kernel
theorem f_10_24 : zfk 10 24 = (2, 61) := by decide +kernel
theorem f_10_25 : zfk 10 25 = (2, 62) := by decide +kernel
theorem f_10_26 : zfk 10 26 = (2, 63) := by decide +kernel
theorem f_10_27 : zfk 10 27 = (2, 64) := by decide +kernel
theorem f_10_28 : zfk 10 28 = (2, 65) := by decide +kernel
theorem f_10_29 : zfk 10 29 = (2, 66) := by decide +kernel
theorem f_10_30 : zfk 10 30 = (2, 67) := by decide +kernel
theorem f_10_31 : zfk 10 31 = (2, 68) := by decide +kernel
theorem f_10_32 : zfk 10 32 = (2, 69) := by decide +kernel
theorem f_10_33 : zfk 10 33 = (2, 70) := by decide +kernel
theorem f_10_34 : zfk 10 34 = (2, 71) := by decide +kernel
theorem f_10_35 : zfk 10 35 = (2, 72) := by decide +kernel
theorem f_10_36 : zfk 10 36 = (2, 73) := by decide +kernel
theorem f_10_37 : zfk 10 37 = (2, 74) := by decide +kernel
theorem f_10_38 : zfk 10 38 = (2, 75) := by decide +kernel
theorem f_10_39 : zfk 10 39 = (2, 76) := by decide +kernel
theorem f_10_40 : zfk 10 40 = (2, 77) := by decide +kernel
theorem f_10_41 : zfk 10 41 = (2, 78) := by decide +kernel
theorem f_10_42 : zfk 10 42 = (0, 0) := by decide +kernel
theorem f_10_43 : zfk 10 43 = (0, 0) := by decide +kernel
theorem f_10_44 : zfk 10 44 = (0, 0) := by decide +kernel
theorem f_10_45 : zfk 10 45 = (0, 0) := by decide +kernel
theorem f_10_46 : zfk 10 46 = (4, 0) := by decide +kernel
theorem f_10_47 : zfk 10 47 = (4, 0) := by decide +kernel
theorem f_10_48 : zfk 10 48 = (2, 79) := by decide +kernel
theorem f_10_49 : zfk 10 49 = (2, 80) := by decide +kernel
theorem f_10_50 : zfk 10 50 = (4, 0) := by decide +kernel
theorem f_10_51 : zfk 10 51 = (2, 81) := by decide +kernel
theorem f_10_52 : zfk 10 52 = (2, 82) := by decide +kernel
theorem f_10_53 : zfk 10 53 = (2, 83) := by decide +kernel
theorem f_10_54 : zfk 10 54 = (2, 84) := by decide +kernel
theorem f_10_55 : zfk 10 55 = (2, 85) := by decide +kernel
theorem f_10_56 : zfk 10 56 = (2, 86) := by decide +kernel
theorem f_10_57 : zfk 10 57 = (2, 87) := by decide +kernel
theorem f_10_58 : zfk 10 58 = (2, 88) := by decide +kernel
theorem f_10_59 : zfk 10 59 = (2, 89) := by decide +kernel
theorem f_10_60 : zfk 10 60 = (2, 90) := by decide +kernel
theorem f_10_61 : zfk 10 61 = (1, 0) := by decide +kernel
theorem f_10_62 : zfk 10 62 = (2, 91) := by decide +kernel
theorem f_10_63 : zfk 10 63 = (2, 92) := by decide +kernel
theorem f_10_64 : zfk 10 64 = (2, 93) := by decide +kernel
theorem f_10_65 : zfk 10 65 = (2, 94) := by decide +kernel
theorem f_10_66 : zfk 10 66 = (2, 95) := by decide +kernel
theorem f_10_67 : zfk 10 67 = (2, 96) := by decide +kernel
theorem f_10_68 : zfk 10 68 = (2, 97) := by decide +kernel
theorem f_10_69 : zfk 10 69 = (2, 98) := by decide +kernel
theorem f_10_70 : zfk 10 70 = (2, 99) := by decide +kernel
theorem f_10_71 : zfk 10 71 = (2, 100) := by decide +kernel
theorem f_10_72 : zfk 10 72 = (0, 0) := by decide +kernel
theorem f_10_73 : zfk 10 73 = (0, 0) := by decide +kernel
theorem f_10_74 : zfk 10 74 = (0, 0) := by decide +kernel
theorem f_10_75 : zfk 10 75 = (0, 0) := by decide +kernel
theorem f_10_76 : zfk 10 76 = (2, 101) := by decide +kernel
theorem f_10_77 : zfk 10 77 = (2, 102) := by decide +kernel
theorem f_10_78 : zfk 10 78 = (0, 0) := by decide +kernel
theorem f_10_79 : zfk 10 79 = (0, 0) := by decide +kernel
theorem f_10_80 : zfk 10 80 = (2, 103) := by decide +kernel
theorem f_10_81 : zfk 10 81 = (2, 104) := by decide +kernel
theorem f_10_82 : zfk 10 82 = (1, 0) := by decide +kernel
theorem f_10_83 : zfk 10 83 = (0, 0) := by decide +kernel
theorem f_10_84 : zfk 10 84 = (0, 0) := by decide +kernel
theorem f_10_85 : zfk 10 85 = (2, 105) := by decide +kernel
theorem f_10_86 : zfk 10 86 = (4, 0) := by decide +kernel
theorem f_10_87 : zfk 10 87 = (0, 0) := by decide +kernel
theorem f_10_88 : zfk 10 88 = (1, 0) := by decide +kernel
theorem f_10_89 : zfk 10 89 = (2, 106) := by decide +kernel
theorem f_10_90 : zfk 10 90 = (2, 107) := by decide +kernel
theorem a_11 : zat 11 = (0, 5) := by decide +kernel
theorem a_12 : zat 12 = (0, 5) := by decide +kernel
theorem a_13 : zat 13 = (1, 25) := by decide +kernel
theorem a_14 : zat 14 = (0, 64) := by decide +kernel
theorem a_15 : zat 15 = (0, 64) := by decide +kernel
theorem a_16 : zat 16 = (0, 7) := by decide +kernel
theorem a_17 : zat 17 = (0, 7) := by decide +kernel
theorem a_18 : zat 18 = (1, 7) := by decide +kernel
theorem a_19 : zat 19 = (1, 64) := by decide +kernel
theorem a_20 : zat 20 = (0, 5) := by decide +kernel
theorem a_21 : zat 21 = (0, 5) := by decide +kernel
theorem a_22 : zat 22 = (0, 5) := by decide +kernel
theorem a_23 : zat 23 = (0, 20) := by decide +kernel
theorem a_24 : zat 24 = (0, 4) := by decide +kernel
theorem a_25 : zat 25 = (0, 72) := by decide +kernel
theorem a_26 : zat 26 = (0, 60) := by decide +kernel
theorem a_27 : zat 27 = (0, 60) := by decide +kernel
theorem a_28 : zat 28 = (0, 60) := by decide +kernel
theorem a_29 : zat 29 = (0, 60) := by decide +kernel
theorem a_30 : zat 30 = (0, 60) := by decide +kernel
theorem a_31 : zat 31 = (0, 60) := by decide +kernel
theorem a_32 : zat 32 = (0, 60) := by decide +kernel
theorem a_33 : zat 33 = (0, 60) := by decide +kernel
theorem a_34 : zat 34 = (0, 60) := by decide +kernel
theorem a_35 : zat 35 = (0, 60) := by decide +kernel
theorem a_36 : zat 36 = (0, 20) := by decide +kernel
theorem a_37 : zat 37 = (0, 4) := by decide +kernel
theorem a_38 : zat 38 = (0, 4) := by decide +kernel
theorem a_39 : zat 39 = (0, 5) := by decide +kernel
theorem a_40 : zat 40 = (0, 20) := by decide +kernel
theorem a_41 : zat 41 = (0, 5) := by decide +kernel
theorem a_42 : zat 42 = (0, 5) := by decide +kernel
theorem a_43 : zat 43 = (0, 5) := by decide +kernel
theorem a_44 : zat 44 = (0, 24) := by decide +kernel
theorem a_45 : zat 45 = (0, 701) := by decide +kernel
theorem a_46 : zat 46 = (0, 701) := by decide +kernel
theorem a_47 : zat 47 = (0, 701) := by decide +kernel
theorem a_48 : zat 48 = (0, 20) := by decide +kernel
theorem a_49 : zat 49 = (0, 20) := by decide +kernel
theorem a_50 : zat 50 = (0, 5) := by decide +kernel
theorem a_51 : zat 51 = (0, 5) := by decide +kernel
theorem a_52 : zat 52 = (0, 5) := by decide +kernel
theorem a_53 : zat 53 = (0, 5) := by decide +kernel
theorem a_54 : zat 54 = (0, 300) := by decide +kernel
theorem a_55 : zat 55 = (0, 700) := by decide +kernel
theorem a_56 : zat 56 = (0, 20) := by decide +kernel
theorem a_57 : zat 57 = (0, 700) := by decide +kernel
theorem a_58 : zat 58 = (0, 121) := by decide +kernel
theorem a_59 : zat 59 = (0, 8) := by decide +kernel
theorem a_60 : zat 60 = (2, 4) := by decide +kernel
theorem a_61 : zat 61 = (0, 8) := by decide +kernel
theorem a_62 : zat 62 = (0, 8) := by decide +kernel
theorem a_63 : zat 63 = (0, 10) := by decide +kernel
theorem a_64 : zat 64 = (0, 10) := by decide +kernel
theorem a_65 : zat 65 = (0, 40) := by decide +kernel
theorem a_66 : zat 66 = (0, 10) := by decide +kernel
theorem a_67 : zat 67 = (0, 10) := by decide +kernel
theorem a_68 : zat 68 = (0, 10) := by decide +kernel
theorem a_69 : zat 69 = (0, 10) := by decide +kernel
theorem a_70 : zat 70 = (0, 6) := by decide +kernel
theorem a_71 : zat 71 = (2, 14) := by decide +kernel
theorem a_72 : zat 72 = (0, 14) := by decide +kernel
theorem a_73 : zat 73 = (0, 14) := by decide +kernel
theorem a_74 : zat 74 = (0, 128) := by decide +kernel
theorem a_75 : zat 75 = (0, 128) := by decide +kernel
theorem a_76 : zat 76 = (0, 128) := by decide +kernel
theorem a_77 : zat 77 = (0, 96) := by decide +kernel
theorem a_78 : zat 78 = (0, 96) := by decide +kernel
theorem a_79 : zat 79 = (1, 7) := by decide +kernel
theorem a_80 : zat 80 = (1, 64) := by decide +kernel
theorem a_81 : zat 81 = (0, 40) := by decide +kernel
theorem a_82 : zat 82 = (0, 40) := by decide +kernel
theorem a_83 : zat 83 = (0, 10) := by decide +kernel
theorem a_84 : zat 84 = (0, 10) := by decide +kernel
theorem a_85 : zat 85 = (0, 10) := by decide +kernel
theorem a_86 : zat 86 = (0, 10) := by decide +kernel
theorem a_87 : zat 87 = (0, 2) := by decide +kernel
theorem a_88 : zat 88 = (0, 2) := by decide +kernel
theorem a_89 : zat 89 = (0, 2) := by decide +kernel
theorem a_90 : zat 90 = (0, 2) := by decide +kernel
theorem a_91 : zat 91 = (0, 120) := by decide +kernel
theorem a_92 : zat 92 = (0, 120) := by decide +kernel
theorem a_93 : zat 93 = (0, 120) := by decide +kernel
theorem a_94 : zat 94 = (0, 120) := by decide +kernel
theorem a_95 : zat 95 = (0, 120) := by decide +kernel
theorem a_96 : zat 96 = (0, 60) := by decide +kernel
theorem a_97 : zat 97 = (0, 60) := by decide +kernel
theorem a_98 : zat 98 = (0, 60) := by decide +kernel
theorem a_99 : zat 99 = (0, 60) := by decide +kernel
theorem a_100 : zat 100 = (0, 60) := by decide +kernel
theorem a_101 : zat 101 = (0, 4) := by decide +kernel
theorem a_102 : zat 102 = (0, 4) := by decide +kernel
theorem a_103 : zat 103 = (0, 5) := by decide +kernel
theorem a_104 : zat 104 = (0, 5) := by decide +kernel
theorem a_105 : zat 105 = (0, 2540) := by decide +kernel
theorem a_106 : zat 106 = (0, 127) := by decide +kernel
theorem a_107 : zat 107 = (0, 540) := by decide +kernel
theorem r_103 (i : Nat) : zrg 103 i = (0, 5) := by show zrg 103 0 = _; decide +kernel
theorem r_105 (i : Nat) : zrg 105 i = (0, 1) := by show zrg 105 0 = _; decide +kernel
theorem r_206 (i : Nat) : zrg 206 i = (0, 64) := by show zrg 206 0 = _; decide +kernel
theorem r_207 (i : Nat) : zrg 207 i = (0, 64) := by show zrg 207 0 = _; decide +kernel
theorem r_306 (i : Nat) : zrg 306 i = (0, 4) := by show zrg 306 0 = _; decide +kernel
theorem r_307 (i : Nat) : zrg 307 i = (-2147483648, 2147483647) := by show zrg 307 0 = _; decide +kernel
theorem r_402 (i : Nat) : zrg 402 i = (-1, 700) := by show zrg 402 0 = _; decide +kernel
theorem r_403 (i : Nat) : zrg 403 i = (-2147483648, 2147483647) := by show zrg 403 0 = _; decide +kernel
theorem r_404 (i : Nat) : zrg 404 i = (-2147483648, 2147483647) := by show zrg 404 0 = _; decide +kernel
theorem r_405 (i : Nat) : zrg 405 i = (-2147483648, 2147483647) := by show zrg 405 0 = _; decide +kernel
theorem r_406 (i : Nat) : zrg 406 i = (-2147483648, 2147483647) := by show zrg 406 0 = _; decide +kernel
theorem r_407 (i : Nat) : zrg 407 i = (-2147483648, 2147483647) := by show zrg 407 0 = _; decide +kernel
theorem r_408 (i : Nat) : zrg 408 i = (-2147483648, 2147483647) := by show zrg 408 0 = _; decide +kernel
theorem r_410 (i : Nat) : zrg 410 i = (0, 72) := by show zrg 410 0 = _; decide +kernel
theorem r_411 (i : Nat) : zrg 411 i = (0, 8) := by show zrg 411 0 = _; decide +kernel
theorem r_412 (i : Nat) : zrg 412 i = (0, 1) := by show zrg 412 0 = _; decide +kernel
theorem r_413 (i : Nat) : zrg 413 i = (0, 1) := by show zrg 413 0 = _; decide +kernel
theorem r_510 (i : Nat) : zrg 510 i = (0, 60) := by show zrg 510 0 = _; decide +kernel
theorem r_609 (i : Nat) : zrg 609 i = (-2147483648, 2147483647) := by show zrg 609 0 = _; decide +kernel
theorem r_610 (i : Nat) : zrg 610 i = (-2147483648, 2147483647) := by show zrg 610 0 = _; decide +kernel
theorem r_611 (i : Nat) : zrg 611 i = (-2147483648, 2147483647) := by show zrg 611 0 = _; decide +kernel
theorem r_612 (i : Nat) : zrg 612 i = (-2147483648, 2147483647) := by show zrg 612 0 = _; decide +kernel
theorem r_704 (i : Nat) : zrg 704 i = (0, 701) := by show zrg 704 0 = _; decide +kernel
theorem r_705 (i : Nat) : zrg 705 i = (0, 700) := by show zrg 705 0 = _; decide +kernel
theorem r_706 (i : Nat) : zrg 706 i = (0, 701) := by show zrg 706 0 = _; decide +kernel
theorem r_809 (i : Nat) : zrg 809 i = (-2147483648, 2147483647) := by show zrg 809 0 = _; decide +kernel
theorem r_810 (i : Nat) : zrg 810 i = (-2147483648, 2147483647) := by show zrg 810 0 = _; decide +kernel
theorem r_811 (i : Nat) : zrg 811 i = (-2147483648, 2147483647) := by show zrg 811 0 = _; decide +kernel
theorem r_812 (i : Nat) : zrg 812 i = (-2147483648, 2147483647) := by show zrg 812 0 = _; decide +kernel
theorem r_813 (i : Nat) : zrg 813 i = (-2147483648, 2147483647) := by show zrg 813 0 = _; decide +kernel
theorem r_901 (i : Nat) : zrg 901 i = (0, 700) := by show zrg 901 0 = _; decide +kernel
theorem r_910 (i : Nat) : zrg 910 i = (0, 20) := by show zrg 910 0 = _; decide +kernel
theorem r_911 (i : Nat) : zrg 911 i = (0, 1) := by show zrg 911 0 = _; decide +kernel
theorem r_912 (i : Nat) : zrg 912 i = (-2147483648, 2147483647) := by show zrg 912 0 = _; decide +kernel
theorem r_913 (i : Nat) : zrg 913 i = (-2147483648, 2147483647) := by show zrg 913 0 = _; decide +kernel
theorem r_1001 (i : Nat) : zrg 1001 i = (0, 700) := by show zrg 1001 0 = _; decide +kernel
theorem r_1002 (i : Nat) : zrg 1002 i = (-2147483648, 2147483647) := by show zrg 1002 0 = _; decide +kernel
theorem r_1004 (i : Nat) : zrg 1004 i = (-2147483648, 2147483647) := by show zrg 1004 0 = _; decide +kernel
theorem r_1005 (i : Nat) : zrg 1005 i = (-2147483648, 2147483647) := by show zrg 1005 0 = _; decide +kernel
theorem r_1006 (i : Nat) : zrg 1006 i = (0, 700) := by show zrg 1006 0 = _; decide +kernel
theorem r_1007 (i : Nat) : zrg 1007 i = (0, 700) := by show zrg 1007 0 = _; decide +kernel
theorem r_1008 (i : Nat) : zrg 1008 i = (0, 6) := by show zrg 1008 0 = _; decide +kernel
theorem r_1009 (i : Nat) : zrg 1009 i = (-2147483648, 2147483647) := by show zrg 1009 0 = _; decide +kernel
theorem r_1010 (i : Nat) : zrg 1010 i = (0, 700) := by show zrg 1010 0 = _; decide +kernel
theorem r_1011 (i : Nat) : zrg 1011 i = (-2147483648, 2147483647) := by show zrg 1011 0 = _; decide +kernel
theorem r_1012 (i : Nat) : zrg 1012 i = (0, 4) := by show zrg 1012 0 = _; decide +kernel
theorem r_1013 (i : Nat) : zrg 1013 i = (0, 5) := by show zrg 1013 0 = _; decide +kernel
theorem r_1014 (i : Nat) : zrg 1014 i = (0, 5) := by show zrg 1014 0 = _; decide +kernel
theorem r_1015 (i : Nat) : zrg 1015 i = (0, 3) := by show zrg 1015 0 = _; decide +kernel
theorem r_1016 (i : Nat) : zrg 1016 i = (0, 64) := by show zrg 1016 0 = _; decide +kernel
theorem r_1017 (i : Nat) : zrg 1017 i = (0, 4) := by show zrg 1017 0 = _; decide +kernel
theorem r_1018 (i : Nat) : zrg 1018 i = (0, 5) := by show zrg 1018 0 = _; decide +kernel
theorem r_1019 (i : Nat) : zrg 1019 i = (0, 5) := by show zrg 1019 0 = _; decide +kernel
theorem r_1020 (i : Nat) : zrg 1020 i = (0, 3) := by show zrg 1020 0 = _; decide +kernel
theorem r_1021 (i : Nat) : zrg 1021 i = (0, 64) := by show zrg 1021 0 = _; decide +kernel
theorem r_1042 (i : Nat) : zrg 1042 i = (0, 96) := by show zrg 1042 0 = _; decide +kernel
theorem r_1043 (i : Nat) : zrg 1043 i = (0, 96) := by show zrg 1043 0 = _; decide +kernel
theorem r_1044 (i : Nat) : zrg 1044 i = (0, 8) := by show zrg 1044 0 = _; decide +kernel
theorem r_1045 (i : Nat) : zrg 1045 i = (0, 64) := by show zrg 1045 0 = _; decide +kernel
theorem r_1046 (i : Nat) : zrg 1046 i = (0, 1) := by show zrg 1046 0 = _; decide +kernel
theorem r_1047 (i : Nat) : zrg 1047 i = (0, 1) := by show zrg 1047 0 = _; decide +kernel
theorem r_1050 (i : Nat) : zrg 1050 i = (0, 1) := by show zrg 1050 0 = _; decide +kernel
theorem r_1072 (i : Nat) : zrg 1072 i = (-2147483648, 2147483647) := by show zrg 1072 0 = _; decide +kernel
theorem r_1073 (i : Nat) : zrg 1073 i = (-2147483648, 2147483647) := by show zrg 1073 0 = _; decide +kernel
theorem r_1074 (i : Nat) : zrg 1074 i = (-2147483648, 2147483647) := by show zrg 1074 0 = _; decide +kernel
theorem r_1075 (i : Nat) : zrg 1075 i = (-2147483648, 2147483647) := by show zrg 1075 0 = _; decide +kernel
theorem r_1078 (i : Nat) : zrg 1078 i = (-2147483648, 2147483647) := by show zrg 1078 0 = _; decide +kernel
theorem r_1079 (i : Nat) : zrg 1079 i = (0, 4) := by show zrg 1079 0 = _; decide +kernel
theorem r_1083 (i : Nat) : zrg 1083 i = (-2147483648, 2147483647) := by show zrg 1083 0 = _; decide +kernel
theorem r_1084 (i : Nat) : zrg 1084 i = (0, 20) := by show zrg 1084 0 = _; decide +kernel
theorem r_1086 (i : Nat) : zrg 1086 i = (0, 1) := by show zrg 1086 0 = _; decide +kernel
theorem r_1087 (i : Nat) : zrg 1087 i = (-2147483648, 2147483647) := by show zrg 1087 0 = _; decide +kernel
theorem r_2011 (i : Nat) : zrg 2011 i = (-2147483648, 2147483647) := by show zrg 2011 0 = _; decide +kernel
theorem r_2012 (i : Nat) : zrg 2012 i = (-2147483648, 2147483647) := by show zrg 2012 0 = _; decide +kernel
theorem r_2014 (i : Nat) : zrg 2014 i = (-2147483648, 2147483647) := by show zrg 2014 0 = _; decide +kernel
theorem r_2015 (i : Nat) : zrg 2015 i = (-2147483648, 2147483647) := by show zrg 2015 0 = _; decide +kernel
theorem r_2016 (i : Nat) : zrg 2016 i = (0, 64) := by show zrg 2016 0 = _; decide +kernel
theorem r_2017 (i : Nat) : zrg 2017 i = (-2147483648, 2147483647) := by show zrg 2017 0 = _; decide +kernel
theorem r_2020 (i : Nat) : zrg 2020 i = (-2147483648, 2147483647) := by show zrg 2020 0 = _; decide +kernel
theorem r_2021 (i : Nat) : zrg 2021 i = (-2147483648, 2147483647) := by show zrg 2021 0 = _; decide +kernel
theorem r_2022 (i : Nat) : zrg 2022 i = (-2147483648, 2147483647) := by show zrg 2022 0 = _; decide +kernel
theorem r_2023 (i : Nat) : zrg 2023 i = (-2147483648, 2147483647) := by show zrg 2023 0 = _; decide +kernel
theorem r_2024 (i : Nat) : zrg 2024 i = (0, 19) := by show zrg 2024 0 = _; decide +kernel
theorem r_2025 (i : Nat) : zrg 2025 i = (0, 15) := by show zrg 2025 0 = _; decide +kernel
theorem r_2026 (i : Nat) : zrg 2026 i = (0, 4) := by show zrg 2026 0 = _; decide +kernel
theorem r_2027 (i : Nat) : zrg 2027 i = (0, 3) := by show zrg 2027 0 = _; decide +kernel
theorem r_2028 (i : Nat) : zrg 2028 i = (-2147483648, 2147483647) := by show zrg 2028 0 = _; decide +kernel
theorem r_2029 (i : Nat) : zrg 2029 i = (-2147483648, 2147483647) := by show zrg 2029 0 = _; decide +kernel
theorem r_2030 (i : Nat) : zrg 2030 i = (-2147483648, 2147483647) := by show zrg 2030 0 = _; decide +kernel
theorem r_2031 (i : Nat) : zrg 2031 i = (-2147483648, 2147483647) := by show zrg 2031 0 = _; decide +kernel
theorem r_2032 (i : Nat) : zrg 2032 i = (-2147483648, 2147483647) := by show zrg 2032 0 = _; decide +kernel
theorem r_2033 (i : Nat) : zrg 2033 i = (-2147483648, 2147483647) := by show zrg 2033 0 = _; decide +kernel
theorem r_2034 (i : Nat) : zrg 2034 i = (-2147483648, 2147483647) := by show zrg 2034 0 = _; decide +kernel
theorem r_2035 (i : Nat) : zrg 2035 i = (-2147483648, 2147483647) := by show zrg 2035 0 = _; decide +kernel
theorem r_2036 (i : Nat) : zrg 2036 i = (-2147483648, 2147483647) := by show zrg 2036 0 = _; decide +kernel
theorem r_2038 (i : Nat) : zrg 2038 i = (-2147483648, 2147483647) := by show zrg 2038 0 = _; decide +kernel
theorem r_2039 (i : Nat) : zrg 2039 i = (-2147483648, 2147483647) := by show zrg 2039 0 = _; decide +kernel
theorem r_2040 (i : Nat) : zrg 2040 i = (-2147483648, 2147483647) := by show zrg 2040 0 = _; decide +kernel
theorem r_2041 (i : Nat) : zrg 2041 i = (-2147483648, 2147483647) := by show zrg 2041 0 = _; decide +kernel
theorem r_2042 (i : Nat) : zrg 2042 i = (-2147483648, 2147483647) := by show zrg 2042 0 = _; decide +kernel
theorem r_2043 (i : Nat) : zrg 2043 i = (-2147483648, 2147483647) := by show zrg 2043 0 = _; decide +kernel
theorem r_2044 (i : Nat) : zrg 2044 i = (-2147483648, 2147483647) := by show zrg 2044 0 = _; decide +kernel
theorem r_2045 (i : Nat) : zrg 2045 i = (-2147483648, 2147483647) := by show zrg 2045 0 = _; decide +kernel
theorem r_2046 (i : Nat) : zrg 2046 i = (-2147483648, 2147483647) := by show zrg 2046 0 = _; decide +kernel
theorem r_2047 (i : Nat) : zrg 2047 i = (-2147483648, 2147483647) := by show zrg 2047 0 = _; decide +kernel
theorem r_2048 (i : Nat) : zrg 2048 i = (-2147483648, 2147483647) := by show zrg 2048 0 = _; decide +kernel
theorem r_2049 (i : Nat) : zrg 2049 i = (-2147483648, 2147483647) := by show zrg 2049 0 = _; decide +kernel
theorem r_2050 (i : Nat) : zrg 2050 i = (-2147483648, 2147483647) := by show zrg 2050 0 = _; decide +kernel
theorem r_2051 (i : Nat) : zrg 2051 i = (-2147483648, 2147483647) := by show zrg 2051 0 = _; decide +kernel
theorem r_2052 (i : Nat) : zrg 2052 i = (-2147483648, 2147483647) := by show zrg 2052 0 = _; decide +kernel
theorem r_2053 (i : Nat) : zrg 2053 i = (-2147483648, 2147483647) := by show zrg 2053 0 = _; decide +kernel
theorem r_2054 (i : Nat) : zrg 2054 i = (-2147483648, 2147483647) := by show zrg 2054 0 = _; decide +kernel
theorem r_2055 (i : Nat) : zrg 2055 i = (0, 255) := by show zrg 2055 0 = _; decide +kernel
theorem r_2056 (i : Nat) : zrg 2056 i = (0, 25) := by show zrg 2056 0 = _; decide +kernel
theorem r_2057 (i : Nat) : zrg 2057 i = (0, 255) := by show zrg 2057 0 = _; decide +kernel
theorem r_2060 (i : Nat) : zrg 2060 i = (0, 1) := by show zrg 2060 0 = _; decide +kernel
theorem r_2061 (i : Nat) : zrg 2061 i = (-2147483648, 2147483647) := by show zrg 2061 0 = _; decide +kernel
theorem r_2062 (i : Nat) : zrg 2062 i = (0, 99) := by show zrg 2062 0 = _; decide +kernel
theorem r_2063 (i : Nat) : zrg 2063 i = (-2147483648, 2147483647) := by show zrg 2063 0 = _; decide +kernel
theorem r_2064 (i : Nat) : zrg 2064 i = (0, 100) := by show zrg 2064 0 = _; decide +kernel
theorem r_2065 (i : Nat) : zrg 2065 i = (-2147483648, 2147483647) := by show zrg 2065 0 = _; decide +kernel
theorem r_2066 (i : Nat) : zrg 2066 i = (-2147483648, 2147483647) := by show zrg 2066 0 = _; decide +kernel
theorem r_2067 (i : Nat) : zrg 2067 i = (-2147483648, 2147483647) := by show zrg 2067 0 = _; decide +kernel
theorem r_2068 (i : Nat) : zrg 2068 i = (-2147483648, 2147483647) := by show zrg 2068 0 = _; decide +kernel
theorem r_2069 (i : Nat) : zrg 2069 i = (-2147483648, 2147483647) := by show zrg 2069 0 = _; decide +kernel
theorem r_2070 (i : Nat) : zrg 2070 i = (-2147483648, 2147483647) := by show zrg 2070 0 = _; decide +kernel
theorem r_2071 (i : Nat) : zrg 2071 i = (0, 1) := by show zrg 2071 0 = _; decide +kernel
theorem r_2072 (i : Nat) : zrg 2072 i = (0, 64) := by show zrg 2072 0 = _; decide +kernel
theorem r_2073 (i : Nat) : zrg 2073 i = (0, 64) := by show zrg 2073 0 = _; decide +kernel
theorem r_2074 (i : Nat) : zrg 2074 i = (0, 14) := by show zrg 2074 0 = _; decide +kernel
theorem r_2075 (i : Nat) : zrg 2075 i = (0, 9999) := by show zrg 2075 0 = _; decide +kernel
theorem r_2076 (i : Nat) : zrg 2076 i = (-1, 63) := by show zrg 2076 0 = _; decide +kernel
theorem r_2077 (i : Nat) : zrg 2077 i = (0, 14) := by show zrg 2077 0 = _; decide +kernel
theorem r_2078 (i : Nat) : zrg 2078 i = (0, 63) := by show zrg 2078 0 = _; decide +kernel
theorem r_2081 (i : Nat) : zrg 2081 i = (-2147483648, 2147483647) := by show zrg 2081 0 = _; decide +kernel
theorem r_2082 (i : Nat) : zrg 2082 i = (-2147483648, 2147483647) := by show zrg 2082 0 = _; decide +kernel
theorem r_2083 (i : Nat) : zrg 2083 i = (-2147483648, 2147483647) := by show zrg 2083 0 = _; decide +kernel
theorem r_2084 (i : Nat) : zrg 2084 i = (-2147483648, 2147483647) := by show zrg 2084 0 = _; decide +kernel
theorem r_2085 (i : Nat) : zrg 2085 i = (-2147483648, 2147483647) := by show zrg 2085 0 = _; decide +kernel
theorem r_2086 (i : Nat) : zrg 2086 i = (-2147483648, 2147483647) := by show zrg 2086 0 = _; decide +kernel
theorem r_2087 (i : Nat) : zrg 2087 i = (0, 60) := by show zrg 2087 0 = _; decide +kernel
theorem r_2088 (i : Nat) : zrg 2088 i = (-2147483648, 2147483647) := by show zrg 2088 0 = _; decide +kernel
theorem r_2089 (i : Nat) : zrg 2089 i = (-2147483648, 2147483647) := by show zrg 2089 0 = _; decide +kernel
theorem r_2090 (i : Nat) : zrg 2090 i = (-2147483648, 2147483647) := by show zrg 2090 0 = _; decide +kernel
theorem r_2091 (i : Nat) : zrg 2091 i = (0, 4) := by show zrg 2091 0 = _; decide +kernel
theorem r_2092 (i : Nat) : zrg 2092 i = (0, 3) := by show zrg 2092 0 = _; decide +kernel
theorem r_2093 (i : Nat) : zrg 2093 i = (-2147483648, 2147483647) := by show zrg 2093 0 = _; decide +kernel
theorem r_2094 (i : Nat) : zrg 2094 i = (0, 99) := by show zrg 2094 0 = _; decide +kernel
theorem r_2095 (i : Nat) : zrg 2095 i = (-2147483648, 2147483647) := by show zrg 2095 0 = _; decide +kernel
theorem r_2096 (i : Nat) : zrg 2096 i = (-2147483648, 2147483647) := by show zrg 2096 0 = _; decide +kernel
theorem r_2097 (i : Nat) : zrg 2097 i = (-2147483648, 2147483647) := by show zrg 2097 0 = _; decide +kernel
theorem r_2098 (i : Nat) : zrg 2098 i = (-2147483648, 2147483647) := by show zrg 2098 0 = _; decide +kernel
theorem r_2099 (i : Nat) : zrg 2099 i = (-2147483648, 2147483647) := by show zrg 2099 0 = _; decide +kernel
theorem r_2100 (i : Nat) : zrg 2100 i = (-2147483648, 2147483647) := by show zrg 2100 0 = _; decide +kernel
theorem r_2101 (i : Nat) : zrg 2101 i = (0, 24) := by show zrg 2101 0 = _; decide +kernel
theorem r_2102 (i : Nat) : zrg 2102 i = (0, 24) := by show zrg 2102 0 = _; decide +kernel
theorem r_2103 (i : Nat) : zrg 2103 i = (0, 6) := by show zrg 2103 0 = _; decide +kernel
theorem r_2104 (i : Nat) : zrg 2104 i = (0, 6) := by show zrg 2104 0 = _; decide +kernel
def zN (t : Nat) : Nat := ([0, 6, 8, 8, 14, 11, 13, 7, 14, 14, 91] : List Nat).getD t 0
def zNs : List (String × Nat × String × String × String × String) := [("ConfessionMill$Reader", 63, "ConfessionMill$Tokens", "kind", "[I", "ConfessionMill"), ("ConfessionMill$Reader", 73, "ConfessionMill$Tokens", "place", "[I", "ConfessionMill"), ("ConfessionMill$Reader", 65, "ConfessionMill$Tokens", "value", "[I", "ConfessionMill"), ("ConfessionMill$Reader", 60, "ConfessionMill$Tokens", "size", "I", "ConfessionMill"), ("ConfessionMill$Reader", 223, "ConfessionMill$Laws", "knots", "I", "ConfessionMill"), ("ConfessionMill", 338, "ConfessionMill$Laws", "knots", "I", "ConfessionMill"), ("ConfessionMill$Works", 105, "ConfessionMill$Telling", "laws", "LConfessionMill$Laws;", "ConfessionMill"), ("ConfessionMill$Reader", 148, "ConfessionMill$Telling", "laws", "LConfessionMill$Laws;", "ConfessionMill"), ("ConfessionMill", 334, "ConfessionMill$Telling", "laws", "LConfessionMill$Laws;", "ConfessionMill"), ("ConfessionMill$Couples", 28, "ConfessionMill$Telling", "sizes", "[I", "ConfessionMill"), ("ConfessionMill$Works", 95, "ConfessionMill$Telling", "sizes", "[I", "ConfessionMill"), ("ConfessionMill$Planner", 84, "ConfessionMill$Telling", "sizes", "[I", "ConfessionMill"), ("ConfessionMill$Reader", 155, "ConfessionMill$Telling", "sizes", "[I", "ConfessionMill"), ("ConfessionMill", 262, "ConfessionMill$Telling", "sizes", "[I", "ConfessionMill"), ("ConfessionMill$Works", 98, "ConfessionMill$Telling", "worth", "[I", "ConfessionMill"), ("ConfessionMill$Reader", 124, "ConfessionMill$Telling", "worth", "[I", "ConfessionMill"), ("ConfessionMill", 298, "ConfessionMill$Telling", "worth", "[I", "ConfessionMill"), ("ConfessionMill", 115, "ConfessionMill$Telling", "honest", "[I", "ConfessionMill"), ("ConfessionMill$Works", 113, "ConfessionMill$Telling", "honest", "[I", "ConfessionMill"), ("ConfessionMill$Reader", 127, "ConfessionMill$Telling", "honest", "[I", "ConfessionMill"), ("ConfessionMill$Works", 52, "ConfessionMill$Telling", "deeds", "[I", "ConfessionMill"), ("ConfessionMill$Reader", 136, "ConfessionMill$Telling", "deeds", "[I", "ConfessionMill"), ("ConfessionMill$Planner", 51, "ConfessionMill$Telling", "cakeFine", "[I", "ConfessionMill"), ("ConfessionMill$Reader", 139, "ConfessionMill$Telling", "cakeFine", "[I", "ConfessionMill"), ("ConfessionMill$Works", 225, "ConfessionMill$Telling", "cakeFine", "[I", "ConfessionMill"), ("ConfessionMill$Planner", 59, "ConfessionMill$Telling", "cakeFlour", "[I", "ConfessionMill"), ("ConfessionMill$Reader", 142, "ConfessionMill$Telling", "cakeFlour", "[I", "ConfessionMill"), ("ConfessionMill$Works", 228, "ConfessionMill$Telling", "cakeFlour", "[I", "ConfessionMill"), ("ConfessionMill$Reader", 145, "ConfessionMill$Telling", "cakeDay", "[I", "ConfessionMill"), ("ConfessionMill", 224, "ConfessionMill$Telling", "cakeDay", "[I", "ConfessionMill"), ("ConfessionMill$Works", 241, "ConfessionMill$Telling", "cakeDay", "[I", "ConfessionMill"), ("ConfessionMill$Works", 72, "ConfessionMill$Telling", "grain", "I", "ConfessionMill"), ("ConfessionMill$Reader", 89, "ConfessionMill$Telling", "grain", "I", "ConfessionMill"), ("ConfessionMill$Reader", 92, "ConfessionMill$Telling", "grist", "I", "ConfessionMill"), ("ConfessionMill$Planner", 128, "ConfessionMill$Telling", "grist", "I", "ConfessionMill"), ("ConfessionMill$Works", 168, "ConfessionMill$Telling", "grist", "I", "ConfessionMill"), ("ConfessionMill$Works", 76, "ConfessionMill$Telling", "stone", "I", "ConfessionMill"), ("ConfessionMill$Reader", 95, "ConfessionMill$Telling", "stone", "I", "ConfessionMill"), ("ConfessionMill$Works", 82, "ConfessionMill$Telling", "seed", "I", "ConfessionMill"), ("ConfessionMill$Reader", 99, "ConfessionMill$Telling", "seed", "I", "ConfessionMill"), ("ConfessionMill", 78, "ConfessionMill$Reader", "fault", "I", "ConfessionMill"), ("ConfessionMill", 82, "ConfessionMill$Reader", "faultPlace", "I", "ConfessionMill"), ("ConfessionMill$Works", 144, "ConfessionMill$Sacks", "person", "[I", "ConfessionMill"), ("ConfessionMill", 200, "ConfessionMill$Sacks", "person", "[I", "ConfessionMill"), ("ConfessionMill$Works", 154, "ConfessionMill$Sacks", "sin", "[I", "ConfessionMill"), ("ConfessionMill", 203, "ConfessionMill$Sacks", "sin", "[I", "ConfessionMill"), ("ConfessionMill$Works", 161, "ConfessionMill$Sacks", "fine", "[I", "ConfessionMill"), ("ConfessionMill", 206, "ConfessionMill$Sacks", "fine", "[I", "ConfessionMill"), ("ConfessionMill$Works", 174, "ConfessionMill$Sacks", "ground", "[I", "ConfessionMill"), ("ConfessionMill$Works", 181, "ConfessionMill$Sacks", "held", "[I", "ConfessionMill"), ("ConfessionMill", 209, "ConfessionMill$Sacks", "held", "[I", "ConfessionMill"), ("ConfessionMill$Works", 135, "ConfessionMill$Sacks", "times", "[I", "ConfessionMill"), ("ConfessionMill$Works", 136, "ConfessionMill$Sacks", "worn", "[I", "ConfessionMill"), ("ConfessionMill$Works", 138, "ConfessionMill$Sacks", "pride", "[I", "ConfessionMill"), ("ConfessionMill$Works", 147, "ConfessionMill$Sacks", "day", "[I", "ConfessionMill"), ("ConfessionMill$Works", 184, "ConfessionMill$Sacks", "leftBits", "[I", "ConfessionMill"), ("ConfessionMill$Works", 48, "ConfessionMill$Sacks", "size", "I", "ConfessionMill"), ("ConfessionMill", 176, "ConfessionMill$Sacks", "size", "I", "ConfessionMill"), ("ConfessionMill$Couples", 22, "ConfessionMill$Works", "told", "LConfessionMill$Telling;", "ConfessionMill"), ("ConfessionMill$Planner", 47, "ConfessionMill$Works", "told", "LConfessionMill$Telling;", "ConfessionMill"), ("ConfessionMill$Planner", 62, "ConfessionMill$Works", "sacks", "LConfessionMill$Sacks;", "ConfessionMill"), ("ConfessionMill", 172, "ConfessionMill$Works", "sacks", "LConfessionMill$Sacks;", "ConfessionMill"), ("ConfessionMill", 139, "ConfessionMill$Works", "done", "[I", "ConfessionMill"), ("ConfessionMill", 118, "ConfessionMill$Works", "times", "[I", "ConfessionMill"), ("ConfessionMill", 121, "ConfessionMill$Works", "invented", "[I", "ConfessionMill"), ("ConfessionMill", 128, "ConfessionMill$Works", "falls", "[I", "ConfessionMill"), ("ConfessionMill", 233, "ConfessionMill$Works", "bakedOn", "[I", "ConfessionMill"), ("ConfessionMill", 221, "ConfessionMill$Works", "day", "I", "ConfessionMill"), ("ConfessionMill$Planner", 118, "ConfessionMill$Works", "grain", "I", "ConfessionMill"), ("ConfessionMill", 343, "ConfessionMill$Works", "grain", "I", "ConfessionMill"), ("ConfessionMill", 346, "ConfessionMill$Works", "worn", "I", "ConfessionMill"), ("ConfessionMill", 316, "ConfessionMill$Works", "drawn", "I", "ConfessionMill"), ("ConfessionMill", 319, "ConfessionMill$Works", "known", "I", "ConfessionMill"), ("ConfessionMill", 255, "ConfessionMill$Planner", "falls", "[I", "ConfessionMill"), ("ConfessionMill", 256, "ConfessionMill$Planner", "steps", "[I", "ConfessionMill"), ("ConfessionMill", 313, "ConfessionMill$Couples", "best", "[I", "ConfessionMill"), ("ConfessionMill", 309, "ConfessionMill$Couples", "most", "J", "ConfessionMill"), ("ConfessionMill$Telling", 69, "ConfessionMill", "MOST", "[I", "ConfessionMill")]
