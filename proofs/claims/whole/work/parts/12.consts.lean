theorem mx_fv0 : ((0 : Fin 4) : Nat) = 0 := rfl
theorem mx_fv1 : ((1 : Fin 4) : Nat) = 1 := rfl
theorem mx_fv2 : ((2 : Fin 4) : Nat) = 2 := rfl
theorem mx_fv3 : ((3 : Fin 4) : Nat) = 3 := rfl
theorem mx_cm1 : Int32.ofInt (-1) = -1 := by decide +kernel
theorem mx_c0 : Int32.ofInt (0) = 0 := by decide +kernel
theorem mx_c1 : Int32.ofInt (1) = 1 := by decide +kernel
theorem mx_c2 : Int32.ofInt (2) = 2 := by decide +kernel
theorem mx_c3 : Int32.ofInt (3) = 3 := by decide +kernel
theorem mx_c4 : Int32.ofInt (4) = 4 := by decide +kernel
theorem mx_c5 : Int32.ofInt (5) = 5 := by decide +kernel
theorem mx_b7 : (Int8.ofInt (7)).toInt32 = 7 := by decide +kernel
theorem mx_b8 : (Int8.ofInt (8)).toInt32 = 8 := by decide +kernel
theorem mx_b9 : (Int8.ofInt (9)).toInt32 = 9 := by decide +kernel
theorem mx_b10 : (Int8.ofInt (10)).toInt32 = 10 := by decide +kernel
theorem mx_b12 : (Int8.ofInt (12)).toInt32 = 12 := by decide +kernel
theorem mx_b16 : (Int8.ofInt (16)).toInt32 = 16 := by decide +kernel
theorem mx_b28 : (Int8.ofInt (28)).toInt32 = 28 := by decide +kernel
theorem mx_b31 : (Int8.ofInt (31)).toInt32 = 31 := by decide +kernel
theorem mx_b60 : (Int8.ofInt (60)).toInt32 = 60 := by decide +kernel
theorem mx_b63 : (Int8.ofInt (63)).toInt32 = 63 := by decide +kernel
theorem mx_b96 : (Int8.ofInt (96)).toInt32 = 96 := by decide +kernel
theorem mx_s1000 : (Int16.ofInt (1000)).toInt32 = 1000 := by decide +kernel
theorem mx_s9999 : (Int16.ofInt (9999)).toInt32 = 9999 := by decide +kernel
theorem jt_1_13 : mTg 1 (13) = 14 := by decide
theorem jp_1_13 : (0 ≤ ((1 : Nat) : Int) + (13)) = True := by decide
theorem jt_1_15 : mTg 1 (15) = 16 := by decide
theorem jp_1_15 : (0 ≤ ((1 : Nat) : Int) + (15)) = True := by decide
theorem jt_1_17 : mTg 1 (17) = 18 := by decide
theorem jp_1_17 : (0 ≤ ((1 : Nat) : Int) + (17)) = True := by decide
theorem jt_1_22 : mTg 1 (22) = 23 := by decide
theorem jp_1_22 : (0 ≤ ((1 : Nat) : Int) + (22)) = True := by decide
theorem jt_1_51 : mTg 1 (51) = 52 := by decide
theorem jp_1_51 : (0 ≤ ((1 : Nat) : Int) + (51)) = True := by decide
theorem jt_1_56 : mTg 1 (56) = 57 := by decide
theorem jp_1_56 : (0 ≤ ((1 : Nat) : Int) + (56)) = True := by decide
theorem jt_1_61 : mTg 1 (61) = 62 := by decide
theorem jp_1_61 : (0 ≤ ((1 : Nat) : Int) + (61)) = True := by decide
theorem jt_1_66 : mTg 1 (66) = 67 := by decide
theorem jp_1_66 : (0 ≤ ((1 : Nat) : Int) + (66)) = True := by decide
theorem jt_1_71 : mTg 1 (71) = 72 := by decide
theorem jp_1_71 : (0 ≤ ((1 : Nat) : Int) + (71)) = True := by decide
theorem jt_1_73 : mTg 1 (73) = 74 := by decide
theorem jp_1_73 : (0 ≤ ((1 : Nat) : Int) + (73)) = True := by decide
theorem jt_1_76 : mTg 1 (76) = 77 := by decide
theorem jp_1_76 : (0 ≤ ((1 : Nat) : Int) + (76)) = True := by decide
theorem jt_1_80 : mTg 1 (80) = 81 := by decide
theorem jp_1_80 : (0 ≤ ((1 : Nat) : Int) + (80)) = True := by decide
theorem jt_1_81 : mTg 1 (81) = 82 := by decide
theorem jp_1_81 : (0 ≤ ((1 : Nat) : Int) + (81)) = True := by decide
theorem jt_1_86 : mTg 1 (86) = 87 := by decide
theorem jp_1_86 : (0 ≤ ((1 : Nat) : Int) + (86)) = True := by decide
theorem jt_1_87 : mTg 1 (87) = 88 := by decide
theorem jp_1_87 : (0 ≤ ((1 : Nat) : Int) + (87)) = True := by decide
theorem jt_1_91 : mTg 1 (91) = 92 := by decide
theorem jp_1_91 : (0 ≤ ((1 : Nat) : Int) + (91)) = True := by decide
theorem jt_1_94 : mTg 1 (94) = 95 := by decide
theorem jp_1_94 : (0 ≤ ((1 : Nat) : Int) + (94)) = True := by decide
theorem jt_1_96 : mTg 1 (96) = 97 := by decide
theorem jp_1_96 : (0 ≤ ((1 : Nat) : Int) + (96)) = True := by decide
theorem jt_1_99 : mTg 1 (99) = 100 := by decide
theorem jp_1_99 : (0 ≤ ((1 : Nat) : Int) + (99)) = True := by decide
theorem jt_1_104 : mTg 1 (104) = 105 := by decide
theorem jp_1_104 : (0 ≤ ((1 : Nat) : Int) + (104)) = True := by decide
theorem jt_2_7 : mTg 2 (7) = 9 := by decide
theorem jp_2_7 : (0 ≤ ((2 : Nat) : Int) + (7)) = True := by decide
theorem jt_2_12 : mTg 2 (12) = 14 := by decide
theorem jp_2_12 : (0 ≤ ((2 : Nat) : Int) + (12)) = True := by decide
theorem jt_4_5 : mTg 4 (5) = 9 := by decide
theorem jp_4_5 : (0 ≤ ((4 : Nat) : Int) + (5)) = True := by decide
theorem jt_4_11 : mTg 4 (11) = 15 := by decide
theorem jp_4_11 : (0 ≤ ((4 : Nat) : Int) + (11)) = True := by decide
theorem jt_4_12 : mTg 4 (12) = 16 := by decide
theorem jp_4_12 : (0 ≤ ((4 : Nat) : Int) + (12)) = True := by decide
theorem jt_4_17 : mTg 4 (17) = 21 := by decide
theorem jp_4_17 : (0 ≤ ((4 : Nat) : Int) + (17)) = True := by decide
theorem jt_4_20 : mTg 4 (20) = 24 := by decide
theorem jp_4_20 : (0 ≤ ((4 : Nat) : Int) + (20)) = True := by decide
theorem jt_4_24 : mTg 4 (24) = 28 := by decide
theorem jp_4_24 : (0 ≤ ((4 : Nat) : Int) + (24)) = True := by decide
theorem jt_4_28 : mTg 4 (28) = 32 := by decide
theorem jp_4_28 : (0 ≤ ((4 : Nat) : Int) + (28)) = True := by decide
theorem jt_4_31 : mTg 4 (31) = 35 := by decide
theorem jp_4_31 : (0 ≤ ((4 : Nat) : Int) + (31)) = True := by decide
theorem jt_4_68 : mTg 4 (68) = 72 := by decide
theorem jp_4_68 : (0 ≤ ((4 : Nat) : Int) + (68)) = True := by decide
theorem jt_5_5 : mTg 5 (5) = 10 := by decide
theorem jp_5_5 : (0 ≤ ((5 : Nat) : Int) + (5)) = True := by decide
theorem jt_5_11 : mTg 5 (11) = 16 := by decide
theorem jp_5_11 : (0 ≤ ((5 : Nat) : Int) + (11)) = True := by decide
theorem jt_5_15 : mTg 5 (15) = 20 := by decide
theorem jp_5_15 : (0 ≤ ((5 : Nat) : Int) + (15)) = True := by decide
theorem jt_5_17 : mTg 5 (17) = 22 := by decide
theorem jp_5_17 : (0 ≤ ((5 : Nat) : Int) + (17)) = True := by decide
theorem jt_5_20 : mTg 5 (20) = 25 := by decide
theorem jp_5_20 : (0 ≤ ((5 : Nat) : Int) + (20)) = True := by decide
theorem jt_5_24 : mTg 5 (24) = 29 := by decide
theorem jp_5_24 : (0 ≤ ((5 : Nat) : Int) + (24)) = True := by decide
theorem jt_5_25 : mTg 5 (25) = 30 := by decide
theorem jp_5_25 : (0 ≤ ((5 : Nat) : Int) + (25)) = True := by decide
theorem jt_5_39 : mTg 5 (39) = 44 := by decide
theorem jp_5_39 : (0 ≤ ((5 : Nat) : Int) + (39)) = True := by decide
theorem jt_6_4 : mTg 6 (4) = 10 := by decide
theorem jp_6_4 : (0 ≤ ((6 : Nat) : Int) + (4)) = True := by decide
theorem jt_6_5 : mTg 6 (5) = 11 := by decide
theorem jp_6_5 : (0 ≤ ((6 : Nat) : Int) + (5)) = True := by decide
theorem jt_6_7 : mTg 6 (7) = 13 := by decide
theorem jp_6_7 : (0 ≤ ((6 : Nat) : Int) + (7)) = True := by decide
theorem jt_6_12 : mTg 6 (12) = 18 := by decide
theorem jp_6_12 : (0 ≤ ((6 : Nat) : Int) + (12)) = True := by decide
theorem jt_6_17 : mTg 6 (17) = 23 := by decide
theorem jp_6_17 : (0 ≤ ((6 : Nat) : Int) + (17)) = True := by decide
theorem jt_6_30 : mTg 6 (30) = 36 := by decide
theorem jp_6_30 : (0 ≤ ((6 : Nat) : Int) + (30)) = True := by decide
theorem jt_7_5 : mTg 7 (5) = 12 := by decide
theorem jp_7_5 : (0 ≤ ((7 : Nat) : Int) + (5)) = True := by decide
theorem jt_7_7 : mTg 7 (7) = 14 := by decide
theorem jp_7_7 : (0 ≤ ((7 : Nat) : Int) + (7)) = True := by decide
theorem jt_7_17 : mTg 7 (17) = 24 := by decide
theorem jp_7_17 : (0 ≤ ((7 : Nat) : Int) + (17)) = True := by decide
theorem jt_7_29 : mTg 7 (29) = 36 := by decide
theorem jp_7_29 : (0 ≤ ((7 : Nat) : Int) + (29)) = True := by decide
theorem jt_7_35 : mTg 7 (35) = 42 := by decide
theorem jp_7_35 : (0 ≤ ((7 : Nat) : Int) + (35)) = True := by decide
theorem jt_8_7 : mTg 8 (7) = 15 := by decide
theorem jp_8_7 : (0 ≤ ((8 : Nat) : Int) + (7)) = True := by decide
theorem jt_8_20 : mTg 8 (20) = 28 := by decide
theorem jp_8_20 : (0 ≤ ((8 : Nat) : Int) + (20)) = True := by decide
theorem jt_8_30 : mTg 8 (30) = 38 := by decide
theorem jp_8_30 : (0 ≤ ((8 : Nat) : Int) + (30)) = True := by decide
theorem jt_9_7 : mTg 9 (7) = 16 := by decide
theorem jp_9_7 : (0 ≤ ((9 : Nat) : Int) + (7)) = True := by decide
theorem jt_9_12 : mTg 9 (12) = 21 := by decide
theorem jp_9_12 : (0 ≤ ((9 : Nat) : Int) + (12)) = True := by decide
theorem jt_9_13 : mTg 9 (13) = 22 := by decide
theorem jp_9_13 : (0 ≤ ((9 : Nat) : Int) + (13)) = True := by decide
theorem jt_9_26 : mTg 9 (26) = 35 := by decide
theorem jp_9_26 : (0 ≤ ((9 : Nat) : Int) + (26)) = True := by decide
theorem jt_9_28 : mTg 9 (28) = 37 := by decide
theorem jp_9_28 : (0 ≤ ((9 : Nat) : Int) + (28)) = True := by decide
theorem jt_9_31 : mTg 9 (31) = 40 := by decide
theorem jp_9_31 : (0 ≤ ((9 : Nat) : Int) + (31)) = True := by decide
theorem jt_9_32 : mTg 9 (32) = 41 := by decide
theorem jp_9_32 : (0 ≤ ((9 : Nat) : Int) + (32)) = True := by decide
theorem jt_9_35 : mTg 9 (35) = 44 := by decide
theorem jp_9_35 : (0 ≤ ((9 : Nat) : Int) + (35)) = True := by decide
theorem jt_9_97 : mTg 9 (97) = 106 := by decide
theorem jp_9_97 : (0 ≤ ((9 : Nat) : Int) + (97)) = True := by decide
theorem jt_10_4 : mTg 10 (4) = 14 := by decide
theorem jp_10_4 : (0 ≤ ((10 : Nat) : Int) + (4)) = True := by decide
theorem jt_10_8 : mTg 10 (8) = 18 := by decide
theorem jp_10_8 : (0 ≤ ((10 : Nat) : Int) + (8)) = True := by decide
theorem jt_11_4 : mTg 11 (4) = 15 := by decide
theorem jp_11_4 : (0 ≤ ((11 : Nat) : Int) + (4)) = True := by decide
theorem jt_11_5 : mTg 11 (5) = 16 := by decide
theorem jp_11_5 : (0 ≤ ((11 : Nat) : Int) + (5)) = True := by decide
theorem jt_11_12 : mTg 11 (12) = 23 := by decide
theorem jp_11_12 : (0 ≤ ((11 : Nat) : Int) + (12)) = True := by decide
theorem jt_11_19 : mTg 11 (19) = 30 := by decide
theorem jp_11_19 : (0 ≤ ((11 : Nat) : Int) + (19)) = True := by decide
theorem jt_11_25 : mTg 11 (25) = 36 := by decide
theorem jp_11_25 : (0 ≤ ((11 : Nat) : Int) + (25)) = True := by decide
theorem jt_11_32 : mTg 11 (32) = 43 := by decide
theorem jp_11_32 : (0 ≤ ((11 : Nat) : Int) + (32)) = True := by decide
theorem jt_11_34 : mTg 11 (34) = 45 := by decide
theorem jp_11_34 : (0 ≤ ((11 : Nat) : Int) + (34)) = True := by decide
theorem jt_11_39 : mTg 11 (39) = 50 := by decide
theorem jp_11_39 : (0 ≤ ((11 : Nat) : Int) + (39)) = True := by decide
theorem jt_11_46 : mTg 11 (46) = 57 := by decide
theorem jp_11_46 : (0 ≤ ((11 : Nat) : Int) + (46)) = True := by decide
theorem jt_11_47 : mTg 11 (47) = 58 := by decide
theorem jp_11_47 : (0 ≤ ((11 : Nat) : Int) + (47)) = True := by decide
theorem jt_12_4 : mTg 12 (4) = 16 := by decide
theorem jp_12_4 : (0 ≤ ((12 : Nat) : Int) + (4)) = True := by decide
theorem jt_12_5 : mTg 12 (5) = 17 := by decide
theorem jp_12_5 : (0 ≤ ((12 : Nat) : Int) + (5)) = True := by decide
theorem jt_12_6 : mTg 12 (6) = 18 := by decide
theorem jp_12_6 : (0 ≤ ((12 : Nat) : Int) + (6)) = True := by decide
theorem jt_12_7 : mTg 12 (7) = 19 := by decide
theorem jp_12_7 : (0 ≤ ((12 : Nat) : Int) + (7)) = True := by decide
theorem jt_12_12 : mTg 12 (12) = 24 := by decide
theorem jp_12_12 : (0 ≤ ((12 : Nat) : Int) + (12)) = True := by decide
theorem jt_12_16 : mTg 12 (16) = 28 := by decide
theorem jp_12_16 : (0 ≤ ((12 : Nat) : Int) + (16)) = True := by decide
theorem jt_13_4 : mTg 13 (4) = 17 := by decide
theorem jp_13_4 : (0 ≤ ((13 : Nat) : Int) + (4)) = True := by decide
theorem jt_13_5 : mTg 13 (5) = 18 := by decide
theorem jp_13_5 : (0 ≤ ((13 : Nat) : Int) + (5)) = True := by decide
theorem jt_13_7 : mTg 13 (7) = 20 := by decide
theorem jp_13_7 : (0 ≤ ((13 : Nat) : Int) + (7)) = True := by decide
theorem jt_13_12 : mTg 13 (12) = 25 := by decide
theorem jp_13_12 : (0 ≤ ((13 : Nat) : Int) + (12)) = True := by decide
theorem jt_13_17 : mTg 13 (17) = 30 := by decide
theorem jp_13_17 : (0 ≤ ((13 : Nat) : Int) + (17)) = True := by decide
theorem jt_13_31 : mTg 13 (31) = 44 := by decide
theorem jp_13_31 : (0 ≤ ((13 : Nat) : Int) + (31)) = True := by decide
theorem jt_13_43 : mTg 13 (43) = 56 := by decide
theorem jp_13_43 : (0 ≤ ((13 : Nat) : Int) + (43)) = True := by decide
theorem jt_14_7 : mTg 14 (7) = 21 := by decide
theorem jp_14_7 : (0 ≤ ((14 : Nat) : Int) + (7)) = True := by decide
theorem jt_15_5 : mTg 15 (5) = 20 := by decide
theorem jp_15_5 : (0 ≤ ((15 : Nat) : Int) + (5)) = True := by decide
theorem jt_15_6 : mTg 15 (6) = 21 := by decide
theorem jp_15_6 : (0 ≤ ((15 : Nat) : Int) + (6)) = True := by decide
theorem jt_15_15 : mTg 15 (15) = 30 := by decide
theorem jp_15_15 : (0 ≤ ((15 : Nat) : Int) + (15)) = True := by decide
theorem jt_15_21 : mTg 15 (21) = 36 := by decide
theorem jp_15_21 : (0 ≤ ((15 : Nat) : Int) + (21)) = True := by decide
theorem jt_15_32 : mTg 15 (32) = 47 := by decide
theorem jp_15_32 : (0 ≤ ((15 : Nat) : Int) + (32)) = True := by decide
theorem jt_16_12 : mTg 16 (12) = 28 := by decide
theorem jp_16_12 : (0 ≤ ((16 : Nat) : Int) + (12)) = True := by decide
theorem jt_16_14 : mTg 16 (14) = 30 := by decide
theorem jp_16_14 : (0 ≤ ((16 : Nat) : Int) + (14)) = True := by decide
theorem jt_16_21 : mTg 16 (21) = 37 := by decide
theorem jp_16_21 : (0 ≤ ((16 : Nat) : Int) + (21)) = True := by decide
theorem jt_17_5 : mTg 17 (5) = 22 := by decide
theorem jp_17_5 : (0 ≤ ((17 : Nat) : Int) + (5)) = True := by decide
theorem jt_17_7 : mTg 17 (7) = 24 := by decide
theorem jp_17_7 : (0 ≤ ((17 : Nat) : Int) + (7)) = True := by decide
theorem jt_17_12 : mTg 17 (12) = 29 := by decide
theorem jp_17_12 : (0 ≤ ((17 : Nat) : Int) + (12)) = True := by decide
theorem jt_17_22 : mTg 17 (22) = 39 := by decide
theorem jp_17_22 : (0 ≤ ((17 : Nat) : Int) + (22)) = True := by decide
theorem jt_17_31 : mTg 17 (31) = 48 := by decide
theorem jp_17_31 : (0 ≤ ((17 : Nat) : Int) + (31)) = True := by decide
theorem jt_17_51 : mTg 17 (51) = 68 := by decide
theorem jp_17_51 : (0 ≤ ((17 : Nat) : Int) + (51)) = True := by decide
theorem jt_18_4 : mTg 18 (4) = 22 := by decide
theorem jp_18_4 : (0 ≤ ((18 : Nat) : Int) + (4)) = True := by decide
theorem jt_18_7 : mTg 18 (7) = 25 := by decide
theorem jp_18_7 : (0 ≤ ((18 : Nat) : Int) + (7)) = True := by decide
theorem jt_18_12 : mTg 18 (12) = 30 := by decide
theorem jp_18_12 : (0 ≤ ((18 : Nat) : Int) + (12)) = True := by decide
theorem jt_18_26 : mTg 18 (26) = 44 := by decide
theorem jp_18_26 : (0 ≤ ((18 : Nat) : Int) + (26)) = True := by decide
theorem jt_18_38 : mTg 18 (38) = 56 := by decide
theorem jp_18_38 : (0 ≤ ((18 : Nat) : Int) + (38)) = True := by decide
theorem jt_18_41 : mTg 18 (41) = 59 := by decide
theorem jp_18_41 : (0 ≤ ((18 : Nat) : Int) + (41)) = True := by decide
theorem jt_19_5 : mTg 19 (5) = 24 := by decide
theorem jp_19_5 : (0 ≤ ((19 : Nat) : Int) + (5)) = True := by decide
theorem jt_19_10 : mTg 19 (10) = 29 := by decide
theorem jp_19_10 : (0 ≤ ((19 : Nat) : Int) + (10)) = True := by decide
theorem jt_19_12 : mTg 19 (12) = 31 := by decide
theorem jp_19_12 : (0 ≤ ((19 : Nat) : Int) + (12)) = True := by decide
theorem jt_19_24 : mTg 19 (24) = 43 := by decide
theorem jp_19_24 : (0 ≤ ((19 : Nat) : Int) + (24)) = True := by decide
theorem jt_19_25 : mTg 19 (25) = 44 := by decide
theorem jp_19_25 : (0 ≤ ((19 : Nat) : Int) + (25)) = True := by decide
theorem jt_19_30 : mTg 19 (30) = 49 := by decide
theorem jp_19_30 : (0 ≤ ((19 : Nat) : Int) + (30)) = True := by decide
theorem jt_19_32 : mTg 19 (32) = 51 := by decide
theorem jp_19_32 : (0 ≤ ((19 : Nat) : Int) + (32)) = True := by decide
theorem jt_19_39 : mTg 19 (39) = 58 := by decide
theorem jp_19_39 : (0 ≤ ((19 : Nat) : Int) + (39)) = True := by decide
theorem jt_20_4 : mTg 20 (4) = 24 := by decide
theorem jp_20_4 : (0 ≤ ((20 : Nat) : Int) + (4)) = True := by decide
theorem jt_20_5 : mTg 20 (5) = 25 := by decide
theorem jp_20_5 : (0 ≤ ((20 : Nat) : Int) + (5)) = True := by decide
theorem jt_20_12 : mTg 20 (12) = 32 := by decide
theorem jp_20_12 : (0 ≤ ((20 : Nat) : Int) + (12)) = True := by decide
theorem jt_20_25 : mTg 20 (25) = 45 := by decide
theorem jp_20_25 : (0 ≤ ((20 : Nat) : Int) + (25)) = True := by decide
theorem jt_20_26 : mTg 20 (26) = 46 := by decide
theorem jp_20_26 : (0 ≤ ((20 : Nat) : Int) + (26)) = True := by decide
theorem jt_20_35 : mTg 20 (35) = 55 := by decide
theorem jp_20_35 : (0 ≤ ((20 : Nat) : Int) + (35)) = True := by decide
theorem jt_20_36 : mTg 20 (36) = 56 := by decide
theorem jp_20_36 : (0 ≤ ((20 : Nat) : Int) + (36)) = True := by decide
theorem jt_21_m17 : mTg 21 (-17) = 4 := by decide
theorem jp_21_m17 : (0 ≤ ((21 : Nat) : Int) + (-17)) = True := by decide
theorem jt_21_4 : mTg 21 (4) = 25 := by decide
theorem jp_21_4 : (0 ≤ ((21 : Nat) : Int) + (4)) = True := by decide
theorem jt_21_5 : mTg 21 (5) = 26 := by decide
theorem jp_21_5 : (0 ≤ ((21 : Nat) : Int) + (5)) = True := by decide
theorem jt_21_6 : mTg 21 (6) = 27 := by decide
theorem jp_21_6 : (0 ≤ ((21 : Nat) : Int) + (6)) = True := by decide
theorem jt_21_7 : mTg 21 (7) = 28 := by decide
theorem jp_21_7 : (0 ≤ ((21 : Nat) : Int) + (7)) = True := by decide
theorem jt_21_12 : mTg 21 (12) = 33 := by decide
theorem jp_21_12 : (0 ≤ ((21 : Nat) : Int) + (12)) = True := by decide
theorem jt_21_16 : mTg 21 (16) = 37 := by decide
theorem jp_21_16 : (0 ≤ ((21 : Nat) : Int) + (16)) = True := by decide
theorem jt_22_4 : mTg 22 (4) = 26 := by decide
theorem jp_22_4 : (0 ≤ ((22 : Nat) : Int) + (4)) = True := by decide
theorem jt_22_28 : mTg 22 (28) = 50 := by decide
theorem jp_22_28 : (0 ≤ ((22 : Nat) : Int) + (28)) = True := by decide
theorem jt_24_5 : mTg 24 (5) = 29 := by decide
theorem jp_24_5 : (0 ≤ ((24 : Nat) : Int) + (5)) = True := by decide
theorem jt_24_8 : mTg 24 (8) = 32 := by decide
theorem jp_24_8 : (0 ≤ ((24 : Nat) : Int) + (8)) = True := by decide
theorem jt_24_17 : mTg 24 (17) = 41 := by decide
theorem jp_24_17 : (0 ≤ ((24 : Nat) : Int) + (17)) = True := by decide
theorem jt_24_63 : mTg 24 (63) = 87 := by decide
theorem jp_24_63 : (0 ≤ ((24 : Nat) : Int) + (63)) = True := by decide
theorem jt_25_4 : mTg 25 (4) = 29 := by decide
theorem jp_25_4 : (0 ≤ ((25 : Nat) : Int) + (4)) = True := by decide
theorem jt_25_5 : mTg 25 (5) = 30 := by decide
theorem jp_25_5 : (0 ≤ ((25 : Nat) : Int) + (5)) = True := by decide
theorem jt_25_9 : mTg 25 (9) = 34 := by decide
theorem jp_25_9 : (0 ≤ ((25 : Nat) : Int) + (9)) = True := by decide
theorem jt_26_5 : mTg 26 (5) = 31 := by decide
theorem jp_26_5 : (0 ≤ ((26 : Nat) : Int) + (5)) = True := by decide
theorem jt_26_9 : mTg 26 (9) = 35 := by decide
theorem jp_26_9 : (0 ≤ ((26 : Nat) : Int) + (9)) = True := by decide
theorem jt_26_12 : mTg 26 (12) = 38 := by decide
theorem jp_26_12 : (0 ≤ ((26 : Nat) : Int) + (12)) = True := by decide
theorem jt_26_13 : mTg 26 (13) = 39 := by decide
theorem jp_26_13 : (0 ≤ ((26 : Nat) : Int) + (13)) = True := by decide
theorem jt_26_19 : mTg 26 (19) = 45 := by decide
theorem jp_26_19 : (0 ≤ ((26 : Nat) : Int) + (19)) = True := by decide
theorem jt_26_23 : mTg 26 (23) = 49 := by decide
theorem jp_26_23 : (0 ≤ ((26 : Nat) : Int) + (23)) = True := by decide
theorem jt_26_27 : mTg 26 (27) = 53 := by decide
theorem jp_26_27 : (0 ≤ ((26 : Nat) : Int) + (27)) = True := by decide
theorem jt_26_32 : mTg 26 (32) = 58 := by decide
theorem jp_26_32 : (0 ≤ ((26 : Nat) : Int) + (32)) = True := by decide
theorem jt_27_5 : mTg 27 (5) = 32 := by decide
theorem jp_27_5 : (0 ≤ ((27 : Nat) : Int) + (5)) = True := by decide
theorem jt_27_22 : mTg 27 (22) = 49 := by decide
theorem jp_27_22 : (0 ≤ ((27 : Nat) : Int) + (22)) = True := by decide
theorem jt_28_81 : mTg 28 (81) = 109 := by decide
theorem jp_28_81 : (0 ≤ ((28 : Nat) : Int) + (81)) = True := by decide
theorem jt_29_4 : mTg 29 (4) = 33 := by decide
theorem jp_29_4 : (0 ≤ ((29 : Nat) : Int) + (4)) = True := by decide
theorem jt_29_5 : mTg 29 (5) = 34 := by decide
theorem jp_29_5 : (0 ≤ ((29 : Nat) : Int) + (5)) = True := by decide
theorem jt_29_6 : mTg 29 (6) = 35 := by decide
theorem jp_29_6 : (0 ≤ ((29 : Nat) : Int) + (6)) = True := by decide
theorem jt_29_8 : mTg 29 (8) = 37 := by decide
theorem jp_29_8 : (0 ≤ ((29 : Nat) : Int) + (8)) = True := by decide
theorem jt_29_11 : mTg 29 (11) = 40 := by decide
theorem jp_29_11 : (0 ≤ ((29 : Nat) : Int) + (11)) = True := by decide
theorem jt_29_18 : mTg 29 (18) = 47 := by decide
theorem jp_29_18 : (0 ≤ ((29 : Nat) : Int) + (18)) = True := by decide
theorem jt_29_45 : mTg 29 (45) = 74 := by decide
theorem jp_29_45 : (0 ≤ ((29 : Nat) : Int) + (45)) = True := by decide
theorem jt_30_8 : mTg 30 (8) = 38 := by decide
theorem jp_30_8 : (0 ≤ ((30 : Nat) : Int) + (8)) = True := by decide
theorem jt_30_18 : mTg 30 (18) = 48 := by decide
theorem jp_30_18 : (0 ≤ ((30 : Nat) : Int) + (18)) = True := by decide
theorem jt_30_30 : mTg 30 (30) = 60 := by decide
theorem jp_30_30 : (0 ≤ ((30 : Nat) : Int) + (30)) = True := by decide
theorem jt_31_12 : mTg 31 (12) = 43 := by decide
theorem jp_31_12 : (0 ≤ ((31 : Nat) : Int) + (12)) = True := by decide
theorem jt_32_m30 : mTg 32 (-30) = 2 := by decide
theorem jp_32_m30 : (0 ≤ ((32 : Nat) : Int) + (-30)) = True := by decide
theorem jt_32_m28 : mTg 32 (-28) = 4 := by decide
theorem jp_32_m28 : (0 ≤ ((32 : Nat) : Int) + (-28)) = True := by decide
theorem jt_32_4 : mTg 32 (4) = 36 := by decide
theorem jp_32_4 : (0 ≤ ((32 : Nat) : Int) + (4)) = True := by decide
theorem jt_32_5 : mTg 32 (5) = 37 := by decide
theorem jp_32_5 : (0 ≤ ((32 : Nat) : Int) + (5)) = True := by decide
theorem jt_32_7 : mTg 32 (7) = 39 := by decide
theorem jp_32_7 : (0 ≤ ((32 : Nat) : Int) + (7)) = True := by decide
theorem jt_32_11 : mTg 32 (11) = 43 := by decide
theorem jp_32_11 : (0 ≤ ((32 : Nat) : Int) + (11)) = True := by decide
theorem jt_33_m31 : mTg 33 (-31) = 2 := by decide
theorem jp_33_m31 : (0 ≤ ((33 : Nat) : Int) + (-31)) = True := by decide
theorem jt_33_5 : mTg 33 (5) = 38 := by decide
theorem jp_33_5 : (0 ≤ ((33 : Nat) : Int) + (5)) = True := by decide
theorem jt_33_6 : mTg 33 (6) = 39 := by decide
theorem jp_33_6 : (0 ≤ ((33 : Nat) : Int) + (6)) = True := by decide
theorem jt_33_17 : mTg 33 (17) = 50 := by decide
theorem jp_33_17 : (0 ≤ ((33 : Nat) : Int) + (17)) = True := by decide
theorem jt_34_m30 : mTg 34 (-30) = 4 := by decide
theorem jp_34_m30 : (0 ≤ ((34 : Nat) : Int) + (-30)) = True := by decide
theorem jt_34_5 : mTg 34 (5) = 39 := by decide
theorem jp_34_5 : (0 ≤ ((34 : Nat) : Int) + (5)) = True := by decide
theorem jt_35_m28 : mTg 35 (-28) = 7 := by decide
theorem jp_35_m28 : (0 ≤ ((35 : Nat) : Int) + (-28)) = True := by decide
theorem jt_35_5 : mTg 35 (5) = 40 := by decide
theorem jp_35_5 : (0 ≤ ((35 : Nat) : Int) + (5)) = True := by decide
theorem jt_35_9 : mTg 35 (9) = 44 := by decide
theorem jp_35_9 : (0 ≤ ((35 : Nat) : Int) + (9)) = True := by decide
theorem jt_35_12 : mTg 35 (12) = 47 := by decide
theorem jp_35_12 : (0 ≤ ((35 : Nat) : Int) + (12)) = True := by decide
theorem jt_36_4 : mTg 36 (4) = 40 := by decide
theorem jp_36_4 : (0 ≤ ((36 : Nat) : Int) + (4)) = True := by decide
theorem jt_36_13 : mTg 36 (13) = 49 := by decide
theorem jp_36_13 : (0 ≤ ((36 : Nat) : Int) + (13)) = True := by decide
theorem jt_37_m33 : mTg 37 (-33) = 4 := by decide
theorem jp_37_m33 : (0 ≤ ((37 : Nat) : Int) + (-33)) = True := by decide
theorem jt_37_12 : mTg 37 (12) = 49 := by decide
theorem jp_37_12 : (0 ≤ ((37 : Nat) : Int) + (12)) = True := by decide
theorem jt_37_25 : mTg 37 (25) = 62 := by decide
theorem jp_37_25 : (0 ≤ ((37 : Nat) : Int) + (25)) = True := by decide
theorem jt_38_m34 : mTg 38 (-34) = 4 := by decide
theorem jp_38_m34 : (0 ≤ ((38 : Nat) : Int) + (-34)) = True := by decide
theorem jt_38_11 : mTg 38 (11) = 49 := by decide
theorem jp_38_11 : (0 ≤ ((38 : Nat) : Int) + (11)) = True := by decide
theorem jt_39_m37 : mTg 39 (-37) = 2 := by decide
theorem jp_39_m37 : (0 ≤ ((39 : Nat) : Int) + (-37)) = True := by decide
theorem jt_39_6 : mTg 39 (6) = 45 := by decide
theorem jp_39_6 : (0 ≤ ((39 : Nat) : Int) + (6)) = True := by decide
theorem jt_39_11 : mTg 39 (11) = 50 := by decide
theorem jp_39_11 : (0 ≤ ((39 : Nat) : Int) + (11)) = True := by decide
theorem jt_40_m22 : mTg 40 (-22) = 18 := by decide
theorem jp_40_m22 : (0 ≤ ((40 : Nat) : Int) + (-22)) = True := by decide
theorem jt_40_7 : mTg 40 (7) = 47 := by decide
theorem jp_40_7 : (0 ≤ ((40 : Nat) : Int) + (7)) = True := by decide
theorem jt_40_18 : mTg 40 (18) = 58 := by decide
theorem jp_40_18 : (0 ≤ ((40 : Nat) : Int) + (18)) = True := by decide
theorem jt_41_m37 : mTg 41 (-37) = 4 := by decide
theorem jp_41_m37 : (0 ≤ ((41 : Nat) : Int) + (-37)) = True := by decide
theorem jt_41_5 : mTg 41 (5) = 46 := by decide
theorem jp_41_5 : (0 ≤ ((41 : Nat) : Int) + (5)) = True := by decide
theorem jt_41_27 : mTg 41 (27) = 68 := by decide
theorem jp_41_27 : (0 ≤ ((41 : Nat) : Int) + (27)) = True := by decide
theorem jt_41_36 : mTg 41 (36) = 77 := by decide
theorem jp_41_36 : (0 ≤ ((41 : Nat) : Int) + (36)) = True := by decide
theorem jt_41_37 : mTg 41 (37) = 78 := by decide
theorem jp_41_37 : (0 ≤ ((41 : Nat) : Int) + (37)) = True := by decide
theorem jt_41_43 : mTg 41 (43) = 84 := by decide
theorem jp_41_43 : (0 ≤ ((41 : Nat) : Int) + (43)) = True := by decide
theorem jt_42_m37 : mTg 42 (-37) = 5 := by decide
theorem jp_42_m37 : (0 ≤ ((42 : Nat) : Int) + (-37)) = True := by decide
theorem jt_42_m28 : mTg 42 (-28) = 14 := by decide
theorem jp_42_m28 : (0 ≤ ((42 : Nat) : Int) + (-28)) = True := by decide
theorem jt_42_7 : mTg 42 (7) = 49 := by decide
theorem jp_42_7 : (0 ≤ ((42 : Nat) : Int) + (7)) = True := by decide
theorem jt_42_8 : mTg 42 (8) = 50 := by decide
theorem jp_42_8 : (0 ≤ ((42 : Nat) : Int) + (8)) = True := by decide
theorem jt_42_30 : mTg 42 (30) = 72 := by decide
theorem jp_42_30 : (0 ≤ ((42 : Nat) : Int) + (30)) = True := by decide
theorem jt_42_61 : mTg 42 (61) = 103 := by decide
theorem jp_42_61 : (0 ≤ ((42 : Nat) : Int) + (61)) = True := by decide
theorem jt_43_m28 : mTg 43 (-28) = 15 := by decide
theorem jp_43_m28 : (0 ≤ ((43 : Nat) : Int) + (-28)) = True := by decide
theorem jt_44_m35 : mTg 44 (-35) = 9 := by decide
theorem jp_44_m35 : (0 ≤ ((44 : Nat) : Int) + (-35)) = True := by decide
theorem jt_44_4 : mTg 44 (4) = 48 := by decide
theorem jp_44_4 : (0 ≤ ((44 : Nat) : Int) + (4)) = True := by decide
theorem jt_45_12 : mTg 45 (12) = 57 := by decide
theorem jp_45_12 : (0 ≤ ((45 : Nat) : Int) + (12)) = True := by decide
theorem jt_46_m28 : mTg 46 (-28) = 18 := by decide
theorem jp_46_m28 : (0 ≤ ((46 : Nat) : Int) + (-28)) = True := by decide
theorem jt_46_4 : mTg 46 (4) = 50 := by decide
theorem jp_46_4 : (0 ≤ ((46 : Nat) : Int) + (4)) = True := by decide
theorem jt_46_8 : mTg 46 (8) = 54 := by decide
theorem jp_46_8 : (0 ≤ ((46 : Nat) : Int) + (8)) = True := by decide
theorem jt_46_10 : mTg 46 (10) = 56 := by decide
theorem jp_46_10 : (0 ≤ ((46 : Nat) : Int) + (10)) = True := by decide
theorem jt_47_34 : mTg 47 (34) = 81 := by decide
theorem jp_47_34 : (0 ≤ ((47 : Nat) : Int) + (34)) = True := by decide
theorem jt_48_76 : mTg 48 (76) = 124 := by decide
theorem jp_48_76 : (0 ≤ ((48 : Nat) : Int) + (76)) = True := by decide
theorem jt_49_13 : mTg 49 (13) = 62 := by decide
theorem jp_49_13 : (0 ≤ ((49 : Nat) : Int) + (13)) = True := by decide
theorem jt_50_16 : mTg 50 (16) = 66 := by decide
theorem jp_50_16 : (0 ≤ ((50 : Nat) : Int) + (16)) = True := by decide
theorem jt_52_m37 : mTg 52 (-37) = 15 := by decide
theorem jp_52_m37 : (0 ≤ ((52 : Nat) : Int) + (-37)) = True := by decide
theorem jt_52_11 : mTg 52 (11) = 63 := by decide
theorem jp_52_11 : (0 ≤ ((52 : Nat) : Int) + (11)) = True := by decide
theorem jt_52_47 : mTg 52 (47) = 99 := by decide
theorem jp_52_47 : (0 ≤ ((52 : Nat) : Int) + (47)) = True := by decide
theorem jt_53_m46 : mTg 53 (-46) = 7 := by decide
theorem jp_53_m46 : (0 ≤ ((53 : Nat) : Int) + (-46)) = True := by decide
theorem jt_53_m41 : mTg 53 (-41) = 12 := by decide
theorem jp_53_m41 : (0 ≤ ((53 : Nat) : Int) + (-41)) = True := by decide
theorem jt_53_m39 : mTg 53 (-39) = 14 := by decide
theorem jp_53_m39 : (0 ≤ ((53 : Nat) : Int) + (-39)) = True := by decide
theorem jt_54_4 : mTg 54 (4) = 58 := by decide
theorem jp_54_4 : (0 ≤ ((54 : Nat) : Int) + (4)) = True := by decide
theorem jt_55_m50 : mTg 55 (-50) = 5 := by decide
theorem jp_55_m50 : (0 ≤ ((55 : Nat) : Int) + (-50)) = True := by decide
theorem jt_55_25 : mTg 55 (25) = 80 := by decide
theorem jp_55_25 : (0 ≤ ((55 : Nat) : Int) + (25)) = True := by decide
theorem jt_55_28 : mTg 55 (28) = 83 := by decide
theorem jp_55_28 : (0 ≤ ((55 : Nat) : Int) + (28)) = True := by decide
theorem jt_55_36 : mTg 55 (36) = 91 := by decide
theorem jp_55_36 : (0 ≤ ((55 : Nat) : Int) + (36)) = True := by decide
theorem jt_55_44 : mTg 55 (44) = 99 := by decide
theorem jp_55_44 : (0 ≤ ((55 : Nat) : Int) + (44)) = True := by decide
theorem jt_56_m44 : mTg 56 (-44) = 12 := by decide
theorem jp_56_m44 : (0 ≤ ((56 : Nat) : Int) + (-44)) = True := by decide
theorem jt_56_22 : mTg 56 (22) = 78 := by decide
theorem jp_56_22 : (0 ≤ ((56 : Nat) : Int) + (22)) = True := by decide
theorem jt_57_m28 : mTg 57 (-28) = 29 := by decide
theorem jp_57_m28 : (0 ≤ ((57 : Nat) : Int) + (-28)) = True := by decide
theorem jt_58_28 : mTg 58 (28) = 86 := by decide
theorem jp_58_28 : (0 ≤ ((58 : Nat) : Int) + (28)) = True := by decide
theorem jt_59_m28 : mTg 59 (-28) = 31 := by decide
theorem jp_59_m28 : (0 ≤ ((59 : Nat) : Int) + (-28)) = True := by decide
theorem jt_59_42 : mTg 59 (42) = 101 := by decide
theorem jp_59_42 : (0 ≤ ((59 : Nat) : Int) + (42)) = True := by decide
theorem jt_59_105 : mTg 59 (105) = 164 := by decide
theorem jp_59_105 : (0 ≤ ((59 : Nat) : Int) + (105)) = True := by decide
theorem jt_60_21 : mTg 60 (21) = 81 := by decide
theorem jp_60_21 : (0 ≤ ((60 : Nat) : Int) + (21)) = True := by decide
theorem jt_61_5 : mTg 61 (5) = 66 := by decide
theorem jp_61_5 : (0 ≤ ((61 : Nat) : Int) + (5)) = True := by decide
theorem jt_61_23 : mTg 61 (23) = 84 := by decide
theorem jp_61_23 : (0 ≤ ((61 : Nat) : Int) + (23)) = True := by decide
theorem jt_61_33 : mTg 61 (33) = 94 := by decide
theorem jp_61_33 : (0 ≤ ((61 : Nat) : Int) + (33)) = True := by decide
theorem jt_63_30 : mTg 63 (30) = 93 := by decide
theorem jp_63_30 : (0 ≤ ((63 : Nat) : Int) + (30)) = True := by decide
theorem jt_63_46 : mTg 63 (46) = 109 := by decide
theorem jp_63_46 : (0 ≤ ((63 : Nat) : Int) + (46)) = True := by decide
theorem jt_64_36 : mTg 64 (36) = 100 := by decide
theorem jp_64_36 : (0 ≤ ((64 : Nat) : Int) + (36)) = True := by decide
theorem jt_65_m53 : mTg 65 (-53) = 12 := by decide
theorem jp_65_m53 : (0 ≤ ((65 : Nat) : Int) + (-53)) = True := by decide
theorem jt_65_11 : mTg 65 (11) = 76 := by decide
theorem jp_65_11 : (0 ≤ ((65 : Nat) : Int) + (11)) = True := by decide
theorem jt_69_m67 : mTg 69 (-67) = 2 := by decide
theorem jp_69_m67 : (0 ≤ ((69 : Nat) : Int) + (-67)) = True := by decide
theorem jt_69_m32 : mTg 69 (-32) = 37 := by decide
theorem jp_69_m32 : (0 ≤ ((69 : Nat) : Int) + (-32)) = True := by decide
theorem jt_69_20 : mTg 69 (20) = 89 := by decide
theorem jp_69_20 : (0 ≤ ((69 : Nat) : Int) + (20)) = True := by decide
theorem jt_71_7 : mTg 71 (7) = 78 := by decide
theorem jp_71_7 : (0 ≤ ((71 : Nat) : Int) + (7)) = True := by decide
theorem jt_73_8 : mTg 73 (8) = 81 := by decide
theorem jp_73_8 : (0 ≤ ((73 : Nat) : Int) + (8)) = True := by decide
theorem jt_73_30 : mTg 73 (30) = 103 := by decide
theorem jp_73_30 : (0 ≤ ((73 : Nat) : Int) + (30)) = True := by decide
theorem jt_75_4 : mTg 75 (4) = 79 := by decide
theorem jp_75_4 : (0 ≤ ((75 : Nat) : Int) + (4)) = True := by decide
theorem jt_75_6 : mTg 75 (6) = 81 := by decide
theorem jp_75_6 : (0 ≤ ((75 : Nat) : Int) + (6)) = True := by decide
theorem jt_78_18 : mTg 78 (18) = 96 := by decide
theorem jp_78_18 : (0 ≤ ((78 : Nat) : Int) + (18)) = True := by decide
theorem jt_78_25 : mTg 78 (25) = 103 := by decide
theorem jp_78_25 : (0 ≤ ((78 : Nat) : Int) + (25)) = True := by decide
theorem jt_79_20 : mTg 79 (20) = 99 := by decide
theorem jp_79_20 : (0 ≤ ((79 : Nat) : Int) + (20)) = True := by decide
theorem jt_79_31 : mTg 79 (31) = 110 := by decide
theorem jp_79_31 : (0 ≤ ((79 : Nat) : Int) + (31)) = True := by decide
theorem jt_80_27 : mTg 80 (27) = 107 := by decide
theorem jp_80_27 : (0 ≤ ((80 : Nat) : Int) + (27)) = True := by decide
theorem jt_81_m26 : mTg 81 (-26) = 55 := by decide
theorem jp_81_m26 : (0 ≤ ((81 : Nat) : Int) + (-26)) = True := by decide
theorem jt_83_m28 : mTg 83 (-28) = 55 := by decide
theorem jp_83_m28 : (0 ≤ ((83 : Nat) : Int) + (-28)) = True := by decide
theorem jt_84_m66 : mTg 84 (-66) = 18 := by decide
theorem jp_84_m66 : (0 ≤ ((84 : Nat) : Int) + (-66)) = True := by decide
theorem jt_84_44 : mTg 84 (44) = 128 := by decide
theorem jp_84_44 : (0 ≤ ((84 : Nat) : Int) + (44)) = True := by decide
theorem jt_86_7 : mTg 86 (7) = 93 := by decide
theorem jp_86_7 : (0 ≤ ((86 : Nat) : Int) + (7)) = True := by decide
theorem jt_87_20 : mTg 87 (20) = 107 := by decide
theorem jp_87_20 : (0 ≤ ((87 : Nat) : Int) + (20)) = True := by decide
theorem jt_88_16 : mTg 88 (16) = 104 := by decide
theorem jp_88_16 : (0 ≤ ((88 : Nat) : Int) + (16)) = True := by decide
theorem jt_90_7 : mTg 90 (7) = 97 := by decide
theorem jp_90_7 : (0 ≤ ((90 : Nat) : Int) + (7)) = True := by decide
theorem jt_91_m33 : mTg 91 (-33) = 58 := by decide
theorem jp_91_m33 : (0 ≤ ((91 : Nat) : Int) + (-33)) = True := by decide
theorem jt_92_6 : mTg 92 (6) = 98 := by decide
theorem jp_92_6 : (0 ≤ ((92 : Nat) : Int) + (6)) = True := by decide
theorem jt_92_11 : mTg 92 (11) = 103 := by decide
theorem jp_92_11 : (0 ≤ ((92 : Nat) : Int) + (11)) = True := by decide
theorem jt_93_8 : mTg 93 (8) = 101 := by decide
theorem jp_93_8 : (0 ≤ ((93 : Nat) : Int) + (8)) = True := by decide
theorem jt_94_4 : mTg 94 (4) = 98 := by decide
theorem jp_94_4 : (0 ≤ ((94 : Nat) : Int) + (4)) = True := by decide
theorem jt_95_27 : mTg 95 (27) = 122 := by decide
theorem jp_95_27 : (0 ≤ ((95 : Nat) : Int) + (27)) = True := by decide
theorem jt_96_m50 : mTg 96 (-50) = 46 := by decide
theorem jp_96_m50 : (0 ≤ ((96 : Nat) : Int) + (-50)) = True := by decide
theorem jt_96_7 : mTg 96 (7) = 103 := by decide
theorem jp_96_7 : (0 ≤ ((96 : Nat) : Int) + (7)) = True := by decide
theorem jt_97_4 : mTg 97 (4) = 101 := by decide
theorem jp_97_4 : (0 ≤ ((97 : Nat) : Int) + (4)) = True := by decide
theorem jt_99_5 : mTg 99 (5) = 104 := by decide
theorem jp_99_5 : (0 ≤ ((99 : Nat) : Int) + (5)) = True := by decide
theorem jt_100_7 : mTg 100 (7) = 107 := by decide
theorem jp_100_7 : (0 ≤ ((100 : Nat) : Int) + (7)) = True := by decide
theorem jt_102_6 : mTg 102 (6) = 108 := by decide
theorem jp_102_6 : (0 ≤ ((102 : Nat) : Int) + (6)) = True := by decide
theorem jt_103_m98 : mTg 103 (-98) = 5 := by decide
theorem jp_103_m98 : (0 ≤ ((103 : Nat) : Int) + (-98)) = True := by decide
theorem jt_104_4 : mTg 104 (4) = 108 := by decide
theorem jp_104_4 : (0 ≤ ((104 : Nat) : Int) + (4)) = True := by decide
theorem jt_105_154 : mTg 105 (154) = 259 := by decide
theorem jp_105_154 : (0 ≤ ((105 : Nat) : Int) + (154)) = True := by decide
theorem jt_106_m83 : mTg 106 (-83) = 23 := by decide
theorem jp_106_m83 : (0 ≤ ((106 : Nat) : Int) + (-83)) = True := by decide
theorem jt_106_m49 : mTg 106 (-49) = 57 := by decide
theorem jp_106_m49 : (0 ≤ ((106 : Nat) : Int) + (-49)) = True := by decide
theorem jt_107_m33 : mTg 107 (-33) = 74 := by decide
theorem jp_107_m33 : (0 ≤ ((107 : Nat) : Int) + (-33)) = True := by decide
theorem jt_109_8 : mTg 109 (8) = 117 := by decide
theorem jp_109_8 : (0 ≤ ((109 : Nat) : Int) + (8)) = True := by decide
theorem jt_112_46 : mTg 112 (46) = 158 := by decide
theorem jp_112_46 : (0 ≤ ((112 : Nat) : Int) + (46)) = True := by decide
theorem jt_114_25 : mTg 114 (25) = 139 := by decide
theorem jp_114_25 : (0 ≤ ((114 : Nat) : Int) + (25)) = True := by decide
theorem jt_114_139 : mTg 114 (139) = 253 := by decide
theorem jp_114_139 : (0 ≤ ((114 : Nat) : Int) + (139)) = True := by decide
theorem jt_119_13 : mTg 119 (13) = 132 := by decide
theorem jp_119_13 : (0 ≤ ((119 : Nat) : Int) + (13)) = True := by decide
theorem jt_121_m76 : mTg 121 (-76) = 45 := by decide
theorem jp_121_m76 : (0 ≤ ((121 : Nat) : Int) + (-76)) = True := by decide
theorem jt_121_37 : mTg 121 (37) = 158 := by decide
theorem jp_121_37 : (0 ≤ ((121 : Nat) : Int) + (37)) = True := by decide
theorem jt_123_130 : mTg 123 (130) = 253 := by decide
theorem jp_123_130 : (0 ≤ ((123 : Nat) : Int) + (130)) = True := by decide
theorem jt_125_m46 : mTg 125 (-46) = 79 := by decide
theorem jp_125_m46 : (0 ≤ ((125 : Nat) : Int) + (-46)) = True := by decide
theorem jt_129_10 : mTg 129 (10) = 139 := by decide
theorem jp_129_10 : (0 ≤ ((129 : Nat) : Int) + (10)) = True := by decide
theorem jt_136_10 : mTg 136 (10) = 146 := by decide
theorem jp_136_10 : (0 ≤ ((136 : Nat) : Int) + (10)) = True := by decide
theorem jt_138_115 : mTg 138 (115) = 253 := by decide
theorem jp_138_115 : (0 ≤ ((138 : Nat) : Int) + (115)) = True := by decide
theorem jt_143_11 : mTg 143 (11) = 154 := by decide
theorem jp_143_11 : (0 ≤ ((143 : Nat) : Int) + (11)) = True := by decide
theorem jt_143_15 : mTg 143 (15) = 158 := by decide
theorem jp_143_15 : (0 ≤ ((143 : Nat) : Int) + (15)) = True := by decide
theorem jt_151_102 : mTg 151 (102) = 253 := by decide
theorem jp_151_102 : (0 ≤ ((151 : Nat) : Int) + (102)) = True := by decide
theorem jt_160_6 : mTg 160 (6) = 166 := by decide
theorem jp_160_6 : (0 ≤ ((160 : Nat) : Int) + (6)) = True := by decide
theorem jt_161_m106 : mTg 161 (-106) = 55 := by decide
theorem jp_161_m106 : (0 ≤ ((161 : Nat) : Int) + (-106)) = True := by decide
theorem jt_163_90 : mTg 163 (90) = 253 := by decide
theorem jp_163_90 : (0 ≤ ((163 : Nat) : Int) + (90)) = True := by decide
theorem jt_178_36 : mTg 178 (36) = 214 := by decide
theorem jp_178_36 : (0 ≤ ((178 : Nat) : Int) + (36)) = True := by decide
theorem jt_191_13 : mTg 191 (13) = 204 := by decide
theorem jp_191_13 : (0 ≤ ((191 : Nat) : Int) + (13)) = True := by decide
theorem jt_201_4 : mTg 201 (4) = 205 := by decide
theorem jp_201_4 : (0 ≤ ((201 : Nat) : Int) + (4)) = True := by decide
theorem jt_211_m39 : mTg 211 (-39) = 172 := by decide
theorem jp_211_m39 : (0 ≤ ((211 : Nat) : Int) + (-39)) = True := by decide
theorem jt_226_15 : mTg 226 (15) = 241 := by decide
theorem jp_226_15 : (0 ≤ ((226 : Nat) : Int) + (15)) = True := by decide
theorem jt_235_6 : mTg 235 (6) = 241 := by decide
theorem jp_235_6 : (0 ≤ ((235 : Nat) : Int) + (6)) = True := by decide
theorem jt_238_15 : mTg 238 (15) = 253 := by decide
theorem jp_238_15 : (0 ≤ ((238 : Nat) : Int) + (15)) = True := by decide
theorem jt_256_m159 : mTg 256 (-159) = 97 := by decide
theorem jp_256_m159 : (0 ≤ ((256 : Nat) : Int) + (-159)) = True := by decide
theorem mI_0 (h : mH) (k : mK) (bl : Nat) (Q : Int32 → mS → Prop) (X : mT → Prop) (pc : Nat) (lv : List (Option Value)) (st : List Value) (σ : mS) (v : Int) : mIns h k bl Q X pc lv st σ (.iconst v) 1 = (X (pc + 1, lv, .int (Int32.ofInt v) :: st, σ)) := rfl
theorem mI_1 (h : mH) (k : mK) (bl : Nat) (Q : Int32 → mS → Prop) (X : mT → Prop) (pc : Nat) (lv : List (Option Value)) (st : List Value) (σ : mS) (v : Int) : mIns h k bl Q X pc lv st σ (.bipush v) 2 = (X (pc + 2, lv, .int (Int8.ofInt v).toInt32 :: st, σ)) := rfl
theorem mI_2 (h : mH) (k : mK) (bl : Nat) (Q : Int32 → mS → Prop) (X : mT → Prop) (pc : Nat) (lv : List (Option Value)) (st : List Value) (σ : mS) (v : Int) : mIns h k bl Q X pc lv st σ (.sipush v) 3 = (X (pc + 3, lv, .int (Int16.ofInt v).toInt32 :: st, σ)) := rfl
theorem mI_3 (h : mH) (k : mK) (bl : Nat) (Q : Int32 → mS → Prop) (X : mT → Prop) (pc : Nat) (lv : List (Option Value)) (st : List Value) (σ : mS) (j : Nat) : mIns h k bl Q X pc lv st σ (.ldc j) 2 = (mKon k X (pc + 2) lv st σ j) := rfl
theorem mI_4 (h : mH) (k : mK) (bl : Nat) (Q : Int32 → mS → Prop) (X : mT → Prop) (pc : Nat) (lv : List (Option Value)) (st : List Value) (σ : mS) (j : Nat) : mIns h k bl Q X pc lv st σ (.ldc_w j) 3 = (mKon k X (pc + 3) lv st σ j) := rfl
theorem mI_5 (h : mH) (k : mK) (bl : Nat) (Q : Int32 → mS → Prop) (X : mT → Prop) (pc : Nat) (lv : List (Option Value)) (st : List Value) (σ : mS) (j : Fin 4) : mIns h k bl Q X pc lv st σ (.iload_n j) 1 = (mLdI X (pc + 1) lv st σ j.val) := rfl
theorem mI_6 (h : mH) (k : mK) (bl : Nat) (Q : Int32 → mS → Prop) (X : mT → Prop) (pc : Nat) (lv : List (Option Value)) (st : List Value) (σ : mS) (j : Nat) : mIns h k bl Q X pc lv st σ (.iload j) 2 = (mLdI X (pc + 2) lv st σ j) := rfl
theorem mI_7 (h : mH) (k : mK) (bl : Nat) (Q : Int32 → mS → Prop) (X : mT → Prop) (pc : Nat) (lv : List (Option Value)) (st : List Value) (σ : mS) (j : Fin 4) : mIns h k bl Q X pc lv st σ (.aload_n j) 1 = (mLdA X (pc + 1) lv st σ j.val) := rfl
theorem mI_8 (h : mH) (k : mK) (bl : Nat) (Q : Int32 → mS → Prop) (X : mT → Prop) (pc : Nat) (lv : List (Option Value)) (st : List Value) (σ : mS) (j : Fin 4) : mIns h k bl Q X pc lv st σ (.istore_n j) 1 = (mStI X (pc + 1) lv st σ j.val) := rfl
theorem mI_9 (h : mH) (k : mK) (bl : Nat) (Q : Int32 → mS → Prop) (X : mT → Prop) (pc : Nat) (lv : List (Option Value)) (st : List Value) (σ : mS) (j : Nat) : mIns h k bl Q X pc lv st σ (.istore j) 2 = (mStI X (pc + 2) lv st σ j) := rfl
theorem mI_10 (h : mH) (k : mK) (bl : Nat) (Q : Int32 → mS → Prop) (X : mT → Prop) (pc : Nat) (lv : List (Option Value)) (st : List Value) (σ : mS) (j : Nat) (v : Int) : mIns h k bl Q X pc lv st σ (.iinc j v) 3 = (mInc X (pc + 3) lv st σ j (Int32.ofInt v)) := rfl
theorem mI_11 (h : mH) (k : mK) (bl : Nat) (Q : Int32 → mS → Prop) (X : mT → Prop) (pc : Nat) (lv : List (Option Value)) (st : List Value) (σ : mS)  : mIns h k bl Q X pc lv st σ .iadd 1 = (mBin X (pc + 1) lv st σ (fun x y => x + y)) := rfl
theorem mI_12 (h : mH) (k : mK) (bl : Nat) (Q : Int32 → mS → Prop) (X : mT → Prop) (pc : Nat) (lv : List (Option Value)) (st : List Value) (σ : mS)  : mIns h k bl Q X pc lv st σ .isub 1 = (mBin X (pc + 1) lv st σ (fun x y => x - y)) := rfl
theorem mI_13 (h : mH) (k : mK) (bl : Nat) (Q : Int32 → mS → Prop) (X : mT → Prop) (pc : Nat) (lv : List (Option Value)) (st : List Value) (σ : mS)  : mIns h k bl Q X pc lv st σ .imul 1 = (mBin X (pc + 1) lv st σ (fun x y => x * y)) := rfl
theorem mI_14 (h : mH) (k : mK) (bl : Nat) (Q : Int32 → mS → Prop) (X : mT → Prop) (pc : Nat) (lv : List (Option Value)) (st : List Value) (σ : mS)  : mIns h k bl Q X pc lv st σ .iand 1 = (mBin X (pc + 1) lv st σ (fun x y => x &&& y)) := rfl
theorem mI_15 (h : mH) (k : mK) (bl : Nat) (Q : Int32 → mS → Prop) (X : mT → Prop) (pc : Nat) (lv : List (Option Value)) (st : List Value) (σ : mS)  : mIns h k bl Q X pc lv st σ .ior 1 = (mBin X (pc + 1) lv st σ (fun x y => x ||| y)) := rfl
theorem mI_16 (h : mH) (k : mK) (bl : Nat) (Q : Int32 → mS → Prop) (X : mT → Prop) (pc : Nat) (lv : List (Option Value)) (st : List Value) (σ : mS)  : mIns h k bl Q X pc lv st σ .ixor 1 = (mBin X (pc + 1) lv st σ (fun x y => x ^^^ y)) := rfl
theorem mI_17 (h : mH) (k : mK) (bl : Nat) (Q : Int32 → mS → Prop) (X : mT → Prop) (pc : Nat) (lv : List (Option Value)) (st : List Value) (σ : mS)  : mIns h k bl Q X pc lv st σ .ishl 1 = (mBin X (pc + 1) lv st σ (fun x y => x <<< (y &&& 31))) := rfl
theorem mI_18 (h : mH) (k : mK) (bl : Nat) (Q : Int32 → mS → Prop) (X : mT → Prop) (pc : Nat) (lv : List (Option Value)) (st : List Value) (σ : mS)  : mIns h k bl Q X pc lv st σ .ishr 1 = (mBin X (pc + 1) lv st σ (fun x y => x >>> (y &&& 31))) := rfl
theorem mI_19 (h : mH) (k : mK) (bl : Nat) (Q : Int32 → mS → Prop) (X : mT → Prop) (pc : Nat) (lv : List (Option Value)) (st : List Value) (σ : mS)  : mIns h k bl Q X pc lv st σ .iushr 1 = (mBin X (pc + 1) lv st σ (fun x y => (x.toUInt32 >>> (y.toUInt32 &&& Int32.toUInt32 31)).toInt32)) := rfl
theorem mI_20 (h : mH) (k : mK) (bl : Nat) (Q : Int32 → mS → Prop) (X : mT → Prop) (pc : Nat) (lv : List (Option Value)) (st : List Value) (σ : mS)  : mIns h k bl Q X pc lv st σ .idiv 1 = (mDiv X (pc + 1) lv st σ (fun x y => x / y)) := rfl
theorem mI_21 (h : mH) (k : mK) (bl : Nat) (Q : Int32 → mS → Prop) (X : mT → Prop) (pc : Nat) (lv : List (Option Value)) (st : List Value) (σ : mS)  : mIns h k bl Q X pc lv st σ .irem 1 = (mDiv X (pc + 1) lv st σ (fun x y => x - x / y * y)) := rfl
theorem mI_22 (h : mH) (k : mK) (bl : Nat) (Q : Int32 → mS → Prop) (X : mT → Prop) (pc : Nat) (lv : List (Option Value)) (st : List Value) (σ : mS) (off : Int) : mIns h k bl Q X pc lv st σ (.ifCond .eq off) 3 = (mIf1 X pc off lv st σ (fun x => x = 0)) := rfl
theorem mI_23 (h : mH) (k : mK) (bl : Nat) (Q : Int32 → mS → Prop) (X : mT → Prop) (pc : Nat) (lv : List (Option Value)) (st : List Value) (σ : mS) (off : Int) : mIns h k bl Q X pc lv st σ (.ifCond .ne off) 3 = (mIfN1 X pc off lv st σ) := rfl
theorem mI_24 (h : mH) (k : mK) (bl : Nat) (Q : Int32 → mS → Prop) (X : mT → Prop) (pc : Nat) (lv : List (Option Value)) (st : List Value) (σ : mS) (off : Int) : mIns h k bl Q X pc lv st σ (.ifCond .lt off) 3 = (mIf1 X pc off lv st σ (fun x => x < 0)) := rfl
theorem mI_25 (h : mH) (k : mK) (bl : Nat) (Q : Int32 → mS → Prop) (X : mT → Prop) (pc : Nat) (lv : List (Option Value)) (st : List Value) (σ : mS) (off : Int) : mIns h k bl Q X pc lv st σ (.ifCond .ge off) 3 = (mIf1 X pc off lv st σ (fun x => 0 ≤ x)) := rfl
theorem mI_26 (h : mH) (k : mK) (bl : Nat) (Q : Int32 → mS → Prop) (X : mT → Prop) (pc : Nat) (lv : List (Option Value)) (st : List Value) (σ : mS) (off : Int) : mIns h k bl Q X pc lv st σ (.ifCond .gt off) 3 = (mIf1 X pc off lv st σ (fun x => 0 < x)) := rfl
theorem mI_27 (h : mH) (k : mK) (bl : Nat) (Q : Int32 → mS → Prop) (X : mT → Prop) (pc : Nat) (lv : List (Option Value)) (st : List Value) (σ : mS) (off : Int) : mIns h k bl Q X pc lv st σ (.ifCond .le off) 3 = (mIf1 X pc off lv st σ (fun x => x ≤ 0)) := rfl
theorem mI_28 (h : mH) (k : mK) (bl : Nat) (Q : Int32 → mS → Prop) (X : mT → Prop) (pc : Nat) (lv : List (Option Value)) (st : List Value) (σ : mS) (off : Int) : mIns h k bl Q X pc lv st σ (.if_icmp .eq off) 3 = (mIf2 X pc off lv st σ (fun x y => x = y)) := rfl
theorem mI_29 (h : mH) (k : mK) (bl : Nat) (Q : Int32 → mS → Prop) (X : mT → Prop) (pc : Nat) (lv : List (Option Value)) (st : List Value) (σ : mS) (off : Int) : mIns h k bl Q X pc lv st σ (.if_icmp .ne off) 3 = (mIfN2 X pc off lv st σ) := rfl
theorem mI_30 (h : mH) (k : mK) (bl : Nat) (Q : Int32 → mS → Prop) (X : mT → Prop) (pc : Nat) (lv : List (Option Value)) (st : List Value) (σ : mS) (off : Int) : mIns h k bl Q X pc lv st σ (.if_icmp .lt off) 3 = (mIf2 X pc off lv st σ (fun x y => x < y)) := rfl
theorem mI_31 (h : mH) (k : mK) (bl : Nat) (Q : Int32 → mS → Prop) (X : mT → Prop) (pc : Nat) (lv : List (Option Value)) (st : List Value) (σ : mS) (off : Int) : mIns h k bl Q X pc lv st σ (.if_icmp .ge off) 3 = (mIf2 X pc off lv st σ (fun x y => y ≤ x)) := rfl
theorem mI_32 (h : mH) (k : mK) (bl : Nat) (Q : Int32 → mS → Prop) (X : mT → Prop) (pc : Nat) (lv : List (Option Value)) (st : List Value) (σ : mS) (off : Int) : mIns h k bl Q X pc lv st σ (.if_icmp .gt off) 3 = (mIf2 X pc off lv st σ (fun x y => y < x)) := rfl
theorem mI_33 (h : mH) (k : mK) (bl : Nat) (Q : Int32 → mS → Prop) (X : mT → Prop) (pc : Nat) (lv : List (Option Value)) (st : List Value) (σ : mS) (off : Int) : mIns h k bl Q X pc lv st σ (.if_icmp .le off) 3 = (mIf2 X pc off lv st σ (fun x y => x ≤ y)) := rfl
theorem mI_34 (h : mH) (k : mK) (bl : Nat) (Q : Int32 → mS → Prop) (X : mT → Prop) (pc : Nat) (lv : List (Option Value)) (st : List Value) (σ : mS) (off : Int) : mIns h k bl Q X pc lv st σ (.goto off) 3 = (mJ X pc off lv st σ) := rfl
theorem mI_35 (h : mH) (k : mK) (bl : Nat) (Q : Int32 → mS → Prop) (X : mT → Prop) (pc : Nat) (lv : List (Option Value)) (st : List Value) (σ : mS)  : mIns h k bl Q X pc lv st σ .dup 1 = (mDup X (pc + 1) lv st σ) := rfl
theorem mI_36 (h : mH) (k : mK) (bl : Nat) (Q : Int32 → mS → Prop) (X : mT → Prop) (pc : Nat) (lv : List (Option Value)) (st : List Value) (σ : mS)  : mIns h k bl Q X pc lv st σ .dup2 1 = (mDup2 X (pc + 1) lv st σ) := rfl
theorem mI_37 (h : mH) (k : mK) (bl : Nat) (Q : Int32 → mS → Prop) (X : mT → Prop) (pc : Nat) (lv : List (Option Value)) (st : List Value) (σ : mS) (j : Nat) : mIns h k bl Q X pc lv st σ (.getfield j) 3 = (mGet h k X (pc + 3) lv st σ j) := rfl
theorem mI_38 (h : mH) (k : mK) (bl : Nat) (Q : Int32 → mS → Prop) (X : mT → Prop) (pc : Nat) (lv : List (Option Value)) (st : List Value) (σ : mS) (j : Nat) : mIns h k bl Q X pc lv st σ (.putfield j) 3 = (mPut h k X (pc + 3) lv st σ j) := rfl
theorem mI_39 (h : mH) (k : mK) (bl : Nat) (Q : Int32 → mS → Prop) (X : mT → Prop) (pc : Nat) (lv : List (Option Value)) (st : List Value) (σ : mS)  : mIns h k bl Q X pc lv st σ .iaload 1 = (mLdE h X (pc + 1) lv st σ) := rfl
theorem mI_40 (h : mH) (k : mK) (bl : Nat) (Q : Int32 → mS → Prop) (X : mT → Prop) (pc : Nat) (lv : List (Option Value)) (st : List Value) (σ : mS)  : mIns h k bl Q X pc lv st σ .iastore 1 = (mStE h X (pc + 1) lv st σ) := rfl
theorem mI_41 (h : mH) (k : mK) (bl : Nat) (Q : Int32 → mS → Prop) (X : mT → Prop) (pc : Nat) (lv : List (Option Value)) (st : List Value) (σ : mS)  : mIns h k bl Q X pc lv st σ .aaload 1 = (mLdR h X (pc + 1) lv st σ) := rfl
theorem mI_42 (h : mH) (k : mK) (bl : Nat) (Q : Int32 → mS → Prop) (X : mT → Prop) (pc : Nat) (lv : List (Option Value)) (st : List Value) (σ : mS) (d : Int) (lo : Int) (hi : Int) (os : Array Int) (n : Nat) : mIns h k bl Q X pc lv st σ (.tableswitch d lo hi os) n = (mTsw X pc lv st σ d lo hi os.toList) := rfl
theorem mI_43 (h : mH) (k : mK) (bl : Nat) (Q : Int32 → mS → Prop) (X : mT → Prop) (pc : Nat) (lv : List (Option Value)) (st : List Value) (σ : mS) (d : Int) (ps : Array (Int × Int)) (n : Nat) : mIns h k bl Q X pc lv st σ (.lookupswitch d ps) n = (mLsw X pc lv st σ d ps.toList) := rfl
theorem mI_44 (h : mH) (k : mK) (bl : Nat) (Q : Int32 → mS → Prop) (X : mT → Prop) (pc : Nat) (lv : List (Option Value)) (st : List Value) (σ : mS) (j : Nat) : mIns h k bl Q X pc lv st σ (.invokevirtual j) 3 = (mCaV k X (pc + 3) lv st σ j) := rfl
theorem mI_45 (h : mH) (k : mK) (bl : Nat) (Q : Int32 → mS → Prop) (X : mT → Prop) (pc : Nat) (lv : List (Option Value)) (st : List Value) (σ : mS) (j : Nat) : mIns h k bl Q X pc lv st σ (.invokestatic j) 3 = (mCaS k X (pc + 3) lv st σ j) := rfl
theorem mI_46 (h : mH) (k : mK) (bl : Nat) (Q : Int32 → mS → Prop) (X : mT → Prop) (pc : Nat) (lv : List (Option Value)) (st : List Value) (σ : mS)  : mIns h k bl Q X pc lv st σ .ireturn 1 = (mRetI bl Q st σ) := rfl
theorem mI_47 (h : mH) (k : mK) (bl : Nat) (Q : Int32 → mS → Prop) (X : mT → Prop) (pc : Nat) (lv : List (Option Value)) (st : List Value) (σ : mS)  : mIns h k bl Q X pc lv st σ .return_ 1 = (mRetV bl Q st σ) := rfl

def mArg : List Int32 → Nat → Int32
  | [], _ => 0
  | a :: _, 0 => a
  | _ :: l, k + 1 => mArg l k
theorem mx_l0 (xs : List Int32) (h : xs.length = 0) : xs = [] := List.eq_nil_of_length_eq_zero h
theorem mx_l1 (xs : List Int32) (h : xs.length = 1) : ∃ a, xs = [a] := match xs, h with
  | [a], _ => ⟨a, rfl⟩
theorem mx_l2 (xs : List Int32) (h : xs.length = 2) : ∃ a b, xs = [a, b] := match xs, h with
  | [a, b], _ => ⟨a, b, rfl⟩
theorem mx_l3 (xs : List Int32) (h : xs.length = 3) : ∃ a b c, xs = [a, b, c] := match xs, h with
  | [a, b, c], _ => ⟨a, b, c, rfl⟩
/-- a callee that answers an int (or a boolean) and leaves the store -/
abbrev mF (np : Nat) (stt : Bool) (pre : mS → List Int32 → Prop) (f : mS → List Int32 → Int32) : mC := (np, stt, false, pre, fun σ xs r σ' => σ' = σ ∧ r = f σ xs)
/-- a callee that may change the store: its answer and the new store -/
abbrev mG (np : Nat) (stt : Bool) (pre : mS → List Int32 → Prop) (f : mS → List Int32 → Int32 × mS) : mC := (np, stt, false, pre, fun σ xs r σ' => σ' = (f σ xs).2 ∧ r = (f σ xs).1)
/-- one that answers nothing -/
abbrev mGv (np : Nat) (stt : Bool) (pre : mS → List Int32 → Prop) (f : mS → List Int32 → mS) : mC := (np, stt, true, pre, fun σ xs r σ' => σ' = f σ xs ∧ r = 0)
theorem mx_u (f : Nat → Int32) (k : Nat) (x : Int32) (j : Nat) : upd f k x j = if j = k then x else f j := rfl
theorem mx_u2 (g : Nat → Nat → Int32) (a i : Nat) (x : Int32) (b : Nat) : up2 g a i x b = if b = a then upd (g b) i x else g b := rfl
def b32 (b : Bool) : Int32 := bif b then 1 else 0
theorem mx_b0 (b : Bool) : (b32 b = 0) = (b = false) := by cases b <;> decide
theorem mx_b1 (b : Bool) : (b32 b = 1) = (b = true) := by cases b <;> decide
theorem b32_or (b : Bool) : b32 b = 0 ∨ b32 b = 1 := by cases b <;> decide
