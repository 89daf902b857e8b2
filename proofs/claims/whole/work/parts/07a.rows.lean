/-! look-ups of the tables, by program (wip/whole/gen_rows.py) -/
theorem fT_0_22 : tlk2 fDT 0 22 = some ([0, 2, 3, 4, 6, 7], 1, 20) := by decide +kernel
theorem fT_1_9 : tlk2 fDT 1 9 = some ([1], 0, 13) := by decide +kernel
theorem fT_1_15 : tlk2 fDT 1 15 = some ([1], 1, 0) := by decide +kernel
theorem fT_1_19 : tlk2 fDT 1 19 = some ([1], 5, 0) := by decide +kernel
theorem fT_1_22 : tlk2 fDT 1 22 = some ([1], 4, 0) := by decide +kernel
theorem fT_1_28 : tlk2 fDT 1 28 = some ([1], 2, 0) := by decide +kernel
theorem fT_1_63 : tlk2 fDT 1 63 = some ([9], 6, 0) := by decide +kernel
theorem fT_1_68 : tlk2 fDT 1 68 = some ([1], 3, 0) := by decide +kernel
theorem fT_1_86 : tlk2 fDT 1 86 = some ([9], 10, 0) := by decide +kernel
theorem fT_1_115 : tlk2 fDT 1 115 = some ([9], 0, 23) := by decide +kernel
theorem fT_1_126 : tlk2 fDT 1 126 = some ([9], 2, 23) := by decide +kernel
theorem fT_1_129 : tlk2 fDT 1 129 = some ([9], 1, 23) := by decide +kernel
theorem fT_2_7 : tlk2 fDT 2 7 = some ([0, 2, 3, 4, 6, 7], 2, 20) := by decide +kernel
theorem fT_3_7 : tlk2 fDT 3 7 = some ([9], 6, 0) := by decide +kernel
theorem fT_3_34 : tlk2 fDT 3 34 = some ([0, 2, 3, 4, 6, 7], 1, 20) := by decide +kernel
theorem fT_4_9 : tlk2 fDT 4 9 = some ([0, 2, 3, 4, 6, 7], 0, 10) := by decide +kernel
theorem fT_4_15 : tlk2 fDT 4 15 = some ([0, 2, 3, 4, 6, 7], 1, 10) := by decide +kernel
theorem fT_4_18 : tlk2 fDT 4 18 = some ([0, 2, 3, 4, 6, 7], 2, 10) := by decide +kernel
theorem fT_4_27 : tlk2 fDT 4 27 = some ([8], 2, 1) := by decide +kernel
theorem fT_4_33 : tlk2 fDT 4 33 = some ([8], 1, 0) := by decide +kernel
theorem fT_4_36 : tlk2 fDT 4 36 = some ([8], 0, 23) := by decide +kernel
theorem fT_5_7 : tlk2 fDT 5 7 = some ([5], 0, 10) := by decide +kernel
theorem fT_5_13 : tlk2 fDT 5 13 = some ([5], 1, 13) := by decide +kernel
theorem fT_6_9 : tlk2 fDT 6 9 = some ([9], 6, 0) := by decide +kernel
theorem fT_6_23 : tlk2 fDT 6 23 = some ([0, 2, 3, 4, 6, 7], 2, 20) := by decide +kernel
theorem fT_6_48 : tlk2 fDT 6 48 = some ([0, 2, 3, 4, 6, 7], 1, 20) := by decide +kernel
theorem fT_7_9 : tlk2 fDT 7 9 = some ([9], 6, 0) := by decide +kernel
theorem fT_7_15 : tlk2 fDT 7 15 = some ([0, 2, 3, 4, 6, 7], 2, 20) := by decide +kernel
theorem fT_8_9 : tlk2 fDT 8 9 = some ([8], 0, 13) := by decide +kernel
theorem fT_8_15 : tlk2 fDT 8 15 = some ([8], 1, 0) := by decide +kernel
theorem fT_8_19 : tlk2 fDT 8 19 = some ([8], 2, 1) := by decide +kernel
theorem fT_9_9 : tlk2 fDT 9 9 = some ([9], 0, 13) := by decide +kernel
theorem fT_9_15 : tlk2 fDT 9 15 = some ([9], 1, 13) := by decide +kernel
theorem fT_9_18 : tlk2 fDT 9 18 = some ([9], 2, 13) := by decide +kernel
theorem fT_9_21 : tlk2 fDT 9 21 = some ([9], 3, 13) := by decide +kernel
theorem fT_9_24 : tlk2 fDT 9 24 = some ([9], 4, 13) := by decide +kernel
theorem fT_9_35 : tlk2 fDT 9 35 = some ([9], 5, 13) := by decide +kernel
theorem fT_9_38 : tlk2 fDT 9 38 = some ([9], 7, 0) := by decide +kernel
theorem fT_9_44 : tlk2 fDT 9 44 = some ([9], 8, 13) := by decide +kernel
theorem fT_9_48 : tlk2 fDT 9 48 = some ([9], 9, 13) := by decide +kernel
theorem fT_9_51 : tlk2 fDT 9 51 = some ([9], 11, 13) := by decide +kernel
theorem fT_9_54 : tlk2 fDT 9 54 = some ([9], 12, 13) := by decide +kernel
theorem fT_9_57 : tlk2 fDT 9 57 = some ([9], 13, 13) := by decide +kernel
theorem fT_9_67 : tlk2 fDT 9 67 = some ([9], 6, 0) := by decide +kernel
theorem fT_9_70 : tlk2 fDT 9 70 = some ([9], 10, 0) := by decide +kernel
theorem fT_9_73 : tlk2 fDT 9 73 = some ([9], 14, 0) := by decide +kernel
theorem fT_9_138 : tlk2 fDT 9 138 = some ([0, 2, 3, 4, 6, 7], 1, 20) := by decide +kernel
theorem fT_10_10 : tlk2 fDT 10 10 = some ([10], 0, 13) := by decide +kernel
theorem fT_10_16 : tlk2 fDT 10 16 = some ([10], 1, 13) := by decide +kernel
theorem fT_10_19 : tlk2 fDT 10 19 = some ([10], 2, 13) := by decide +kernel
theorem fT_10_25 : tlk2 fDT 10 25 = some ([10], 4, 13) := by decide +kernel
theorem fT_10_29 : tlk2 fDT 10 29 = some ([10], 5, 13) := by decide +kernel
theorem fT_10_35 : tlk2 fDT 10 35 = some ([10], 7, 13) := by decide +kernel
theorem fT_10_39 : tlk2 fDT 10 39 = some ([10], 8, 13) := by decide +kernel
theorem fT_10_42 : tlk2 fDT 10 42 = some ([10], 9, 13) := by decide +kernel
theorem fT_10_48 : tlk2 fDT 10 48 = some ([10], 10, 13) := by decide +kernel
theorem fT_10_52 : tlk2 fDT 10 52 = some ([1], 1, 0) := by decide +kernel
theorem fT_10_71 : tlk2 fDT 10 71 = some ([10], 6, 0) := by decide +kernel
theorem fT_10_74 : tlk2 fDT 10 74 = some ([9], 10, 0) := by decide +kernel
theorem fT_10_81 : tlk2 fDT 10 81 = some ([9], 0, 23) := by decide +kernel
theorem fT_10_87 : tlk2 fDT 10 87 = some ([9], 1, 23) := by decide +kernel
theorem fT_10_94 : tlk2 fDT 10 94 = some ([9], 2, 23) := by decide +kernel
theorem fT_10_101 : tlk2 fDT 10 101 = some ([9], 3, 23) := by decide +kernel
theorem fT_10_110 : tlk2 fDT 10 110 = some ([9], 4, 23) := by decide +kernel
theorem fT_10_119 : tlk2 fDT 10 119 = some ([9], 5, 23) := by decide +kernel
theorem fT_10_140 : tlk2 fDT 10 140 = some ([0, 2, 3, 4, 6, 7], 0, 20) := by decide +kernel
theorem fT_10_145 : tlk2 fDT 10 145 = some ([0, 2, 3, 4, 6, 7], 2, 20) := by decide +kernel
theorem fT_10_148 : tlk2 fDT 10 148 = some ([9], 9, 23) := by decide +kernel
theorem fT_10_155 : tlk2 fDT 10 155 = some ([9], 8, 23) := by decide +kernel
theorem fT_10_174 : tlk2 fDT 10 174 = some ([9], 14, 0) := by decide +kernel
theorem fT_10_177 : tlk2 fDT 10 177 = some ([9], 11, 23) := by decide +kernel
theorem fT_10_180 : tlk2 fDT 10 180 = some ([9], 12, 23) := by decide +kernel
theorem fT_10_183 : tlk2 fDT 10 183 = some ([9], 13, 23) := by decide +kernel
theorem fT_10_205 : tlk2 fDT 10 205 = some ([9], 6, 0) := by decide +kernel
theorem fT_10_251 : tlk2 fDT 10 251 = some ([9], 7, 0) := by decide +kernel
theorem fT_10_267 : tlk2 fDT 10 267 = some ([5], 0, 20) := by decide +kernel
theorem fT_10_270 : tlk2 fDT 10 270 = some ([5], 1, 23) := by decide +kernel
theorem fT_10_287 : tlk2 fDT 10 287 = some ([0, 2, 3, 4, 6, 7], 1, 20) := by decide +kernel
theorem fT_10_306 : tlk2 fDT 10 306 = some ([8], 2, 1) := by decide +kernel
theorem fT_10_310 : tlk2 fDT 10 310 = some ([8], 1, 0) := by decide +kernel
theorem fT_10_313 : tlk2 fDT 10 313 = some ([8], 0, 23) := by decide +kernel
theorem fT_10_316 : tlk2 fDT 10 316 = some ([10], 3, 1) := by decide +kernel
theorem fT_11_7 : tlk2 fDT 11 7 = some ([11], 0, 13) := by decide +kernel
theorem fT_11_13 : tlk2 fDT 11 13 = some ([11], 2, 13) := by decide +kernel
theorem fT_11_16 : tlk2 fDT 11 16 = some ([11], 3, 13) := by decide +kernel
theorem fT_11_19 : tlk2 fDT 11 19 = some ([11], 5, 13) := by decide +kernel
theorem fT_11_22 : tlk2 fDT 11 22 = some ([11], 6, 13) := by decide +kernel
theorem fT_11_25 : tlk2 fDT 11 25 = some ([11], 7, 13) := by decide +kernel
theorem fT_11_28 : tlk2 fDT 11 28 = some ([11], 8, 13) := by decide +kernel
theorem fT_11_31 : tlk2 fDT 11 31 = some ([11], 19, 13) := by decide +kernel
theorem fT_11_34 : tlk2 fDT 11 34 = some ([11], 20, 13) := by decide +kernel
theorem fT_11_37 : tlk2 fDT 11 37 = some ([11], 21, 13) := by decide +kernel
theorem fT_11_40 : tlk2 fDT 11 40 = some ([11], 22, 13) := by decide +kernel
theorem fT_11_43 : tlk2 fDT 11 43 = some ([11], 23, 13) := by decide +kernel
theorem fT_11_46 : tlk2 fDT 11 46 = some ([11], 24, 13) := by decide +kernel
theorem fT_11_49 : tlk2 fDT 11 49 = some ([11], 33, 13) := by decide +kernel
theorem fT_11_52 : tlk2 fDT 11 52 = some ([11], 34, 13) := by decide +kernel
theorem fT_11_55 : tlk2 fDT 11 55 = some ([11], 37, 13) := by decide +kernel
theorem fT_11_58 : tlk2 fDT 11 58 = some ([11], 38, 13) := by decide +kernel
theorem fT_11_61 : tlk2 fDT 11 61 = some ([11], 39, 13) := by decide +kernel
theorem fT_11_65 : tlk2 fDT 11 65 = some ([11], 40, 13) := by decide +kernel
theorem fT_11_68 : tlk2 fDT 11 68 = some ([11], 41, 13) := by decide +kernel
theorem fT_11_71 : tlk2 fDT 11 71 = some ([11], 42, 13) := by decide +kernel
theorem fT_11_74 : tlk2 fDT 11 74 = some ([11], 46, 13) := by decide +kernel
theorem fT_11_77 : tlk2 fDT 11 77 = some ([11], 50, 13) := by decide +kernel
theorem fT_11_80 : tlk2 fDT 11 80 = some ([11], 52, 13) := by decide +kernel
theorem fT_11_87 : tlk2 fDT 11 87 = some ([11], 4, 0) := by decide +kernel
theorem fT_11_91 : tlk2 fDT 11 91 = some ([11], 1, 0) := by decide +kernel
theorem fT_11_94 : tlk2 fDT 11 94 = some ([11], 9, 0) := by decide +kernel
theorem fT_11_99 : tlk2 fDT 11 99 = some ([11], 12, 0) := by decide +kernel
theorem fT_11_102 : tlk2 fDT 11 102 = some ([11], 11, 0) := by decide +kernel
theorem fT_11_116 : tlk2 fDT 11 116 = some ([11], 10, 0) := by decide +kernel
theorem fT_11_119 : tlk2 fDT 11 119 = some ([11], 13, 2) := by decide +kernel
theorem fT_11_123 : tlk2 fDT 11 123 = some ([11], 14, 0) := by decide +kernel
theorem fT_11_148 : tlk2 fDT 11 148 = some ([11], 15, 1) := by decide +kernel
theorem fT_11_174 : tlk2 fDT 11 174 = some ([11], 18, 0) := by decide +kernel
theorem fT_11_177 : tlk2 fDT 11 177 = some ([11], 17, 0) := by decide +kernel
theorem fT_11_196 : tlk2 fDT 11 196 = some ([11], 16, 0) := by decide +kernel
theorem fT_11_213 : tlk2 fDT 11 213 = some ([11], 35, 0) := by decide +kernel
theorem fT_11_261 : tlk2 fDT 11 261 = some ([11], 25, 0) := by decide +kernel
theorem fT_11_264 : tlk2 fDT 11 264 = some ([11], 26, 0) := by decide +kernel
theorem fT_11_267 : tlk2 fDT 11 267 = some ([11], 27, 0) := by decide +kernel
theorem fT_11_288 : tlk2 fDT 11 288 = some ([11], 28, 0) := by decide +kernel
theorem fT_11_294 : tlk2 fDT 11 294 = some ([11], 29, 2) := by decide +kernel
theorem fT_11_297 : tlk2 fDT 11 297 = some ([11], 30, 2) := by decide +kernel
theorem fT_11_326 : tlk2 fDT 11 326 = some ([11], 31, 0) := by decide +kernel
theorem fT_11_329 : tlk2 fDT 11 329 = some ([11], 32, 0) := by decide +kernel
theorem fT_11_335 : tlk2 fDT 11 335 = some ([11], 36, 0) := by decide +kernel
theorem fT_11_362 : tlk2 fDT 11 362 = some ([11], 47, 0) := by decide +kernel
theorem fT_11_368 : tlk2 fDT 11 368 = some ([11], 44, 0) := by decide +kernel
theorem fT_11_374 : tlk2 fDT 11 374 = some ([11], 43, 0) := by decide +kernel
theorem fT_11_386 : tlk2 fDT 11 386 = some ([11], 45, 0) := by decide +kernel
theorem fT_11_389 : tlk2 fDT 11 389 = some ([11], 48, 1) := by decide +kernel
theorem fT_11_407 : tlk2 fDT 11 407 = some ([11], 51, 0) := by decide +kernel
theorem fT_11_418 : tlk2 fDT 11 418 = some ([11], 49, 1) := by decide +kernel
theorem cT_0_3 : tlk2 cST 0 3 = some (3, 2, [(99, 21)]) := by decide +kernel
theorem cT_0_9 : tlk2 cST 0 9 = some (1, 0, [(8, 49)]) := by decide +kernel
theorem cT_0_15 : tlk2 cST 0 15 = some (2, 3, [(99, 34)]) := by decide +kernel
theorem cT_0_19 : tlk2 cST 0 19 = some (2, 3, [(99, 32)]) := by decide +kernel
theorem cT_1_3 : tlk2 cST 1 3 = some (0, 4, []) := by decide +kernel
theorem cT_1_25 : tlk2 cST 1 25 = some (0, 0, [(1, 19)]) := by decide +kernel
theorem cT_1_31 : tlk2 cST 1 31 = some (1, 0, [(1, 8)]) := by decide +kernel
theorem cT_1_35 : tlk2 cST 1 35 = some (0, 0, [(1, 9)]) := by decide +kernel
theorem cT_1_39 : tlk2 cST 1 39 = some (2, 0, [(1, 10)]) := by decide +kernel
theorem cT_1_45 : tlk2 cST 1 45 = some (1, 0, [(1, 18)]) := by decide +kernel
theorem cT_1_49 : tlk2 cST 1 49 = some (1, 0, [(1, 12)]) := by decide +kernel
theorem cT_1_54 : tlk2 cST 1 54 = some (1, 0, [(1, 11)]) := by decide +kernel
theorem cT_1_59 : tlk2 cST 1 59 = some (1, 0, [(1, 16)]) := by decide +kernel
theorem cT_1_71 : tlk2 cST 1 71 = some (0, 0, [(1, 15)]) := by decide +kernel
theorem cT_1_89 : tlk2 cST 1 89 = some (3, 1, [(99, 142)]) := by decide +kernel
theorem cT_1_93 : tlk2 cST 1 93 = some (1, 0, [(9, 63)]) := by decide +kernel
theorem cT_1_97 : tlk2 cST 1 97 = some (0, 0, [(9, 65)]) := by decide +kernel
theorem cT_1_100 : tlk2 cST 1 100 = some (2, 0, [(9, 64)]) := by decide +kernel
theorem cT_1_104 : tlk2 cST 1 104 = some (3, 0, [(9, 66)]) := by decide +kernel
theorem cT_1_108 : tlk2 cST 1 108 = some (0, 0, [(1, 14)]) := by decide +kernel
theorem cT_1_111 : tlk2 cST 1 111 = some (1, 0, [(9, 52)]) := by decide +kernel
theorem cT_1_121 : tlk2 cST 1 121 = some (2, 0, [(1, 13)]) := by decide +kernel
theorem cT_1_132 : tlk2 cST 1 132 = some (2, 0, [(9, 56)]) := by decide +kernel
theorem cT_1_138 : tlk2 cST 1 138 = some (0, 0, [(1, 17)]) := by decide +kernel
theorem cT_1_141 : tlk2 cST 1 141 = some (0, 5, []) := by decide +kernel
theorem cT_1_145 : tlk2 cST 1 145 = some (1, 6, []) := by decide +kernel
theorem cT_1_149 : tlk2 cST 1 149 = some (1, 1, [(99, 20)]) := by decide +kernel
theorem cT_2_1 : tlk2 cST 2 1 = some (3, 2, [(99, 28)]) := by decide +kernel
theorem cT_2_13 : tlk2 cST 2 13 = some (1, 0, [(9, 61)]) := by decide +kernel
theorem cT_2_19 : tlk2 cST 2 19 = some (1, 0, [(8, 49)]) := by decide +kernel
theorem cT_2_25 : tlk2 cST 2 25 = some (2, 3, [(99, 33)]) := by decide +kernel
theorem cT_3_1 : tlk2 cST 3 1 = some (3, 2, [(99, 28)]) := by decide +kernel
theorem cT_3_13 : tlk2 cST 3 13 = some (1, 0, [(9, 60)]) := by decide +kernel
theorem cT_3_17 : tlk2 cST 3 17 = some (2, 0, [(9, 64)]) := by decide +kernel
theorem cT_3_21 : tlk2 cST 3 21 = some (1, 0, [(8, 49)]) := by decide +kernel
theorem cT_3_27 : tlk2 cST 3 27 = some (2, 3, [(99, 32)]) := by decide +kernel
theorem cT_3_31 : tlk2 cST 3 31 = some (2, 3, [(99, 35)]) := by decide +kernel
theorem cT_3_39 : tlk2 cST 3 39 = some (2, 0, [(3, 34), (6, 34)]) := by decide +kernel
theorem cT_4_3 : tlk2 cST 4 3 = some (0, 4, []) := by decide +kernel
theorem cT_4_21 : tlk2 cST 4 21 = some (1, 0, [(9, 60)]) := by decide +kernel
theorem cT_4_40 : tlk2 cST 4 40 = some (1, 0, [(8, 49)]) := by decide +kernel
theorem cT_4_44 : tlk2 cST 4 44 = some (2, 0, [(0, 4), (2, 32), (3, 26), (4, 32), (6, 40), (7, 32)]) := by decide +kernel
theorem cT_4_48 : tlk2 cST 4 48 = some (2, 0, [(0, 23), (2, 23), (3, 33), (4, 33), (6, 41), (7, 33)]) := by decide +kernel
theorem cT_5_1 : tlk2 cST 5 1 = some (0, 4, []) := by decide +kernel
theorem cT_6_3 : tlk2 cST 6 3 = some (3, 2, [(99, 24)]) := by decide +kernel
theorem cT_6_15 : tlk2 cST 6 15 = some (1, 0, [(9, 60)]) := by decide +kernel
theorem cT_6_19 : tlk2 cST 6 19 = some (2, 0, [(9, 57)]) := by decide +kernel
theorem cT_6_28 : tlk2 cST 6 28 = some (1, 0, [(9, 58)]) := by decide +kernel
theorem cT_6_31 : tlk2 cST 6 31 = some (1, 3, [(99, 25)]) := by decide +kernel
theorem cT_6_35 : tlk2 cST 6 35 = some (1, 0, [(8, 49)]) := by decide +kernel
theorem cT_6_41 : tlk2 cST 6 41 = some (2, 3, [(99, 26)]) := by decide +kernel
theorem cT_6_45 : tlk2 cST 6 45 = some (2, 3, [(99, 33)]) := by decide +kernel
theorem cT_6_51 : tlk2 cST 6 51 = some (2, 0, [(6, 40)]) := by decide +kernel
theorem cT_7_3 : tlk2 cST 7 3 = some (3, 2, [(99, 28)]) := by decide +kernel
theorem cT_7_20 : tlk2 cST 7 20 = some (2, 0, [(9, 64)]) := by decide +kernel
theorem cT_7_24 : tlk2 cST 7 24 = some (1, 0, [(8, 49)]) := by decide +kernel
theorem cT_7_30 : tlk2 cST 7 30 = some (2, 3, [(99, 35)]) := by decide +kernel
theorem cT_7_34 : tlk2 cST 7 34 = some (2, 3, [(99, 34)]) := by decide +kernel
theorem cT_7_37 : tlk2 cST 7 37 = some (2, 0, [(7, 32)]) := by decide +kernel
theorem cT_8_3 : tlk2 cST 8 3 = some (0, 4, []) := by decide +kernel
theorem cT_9_3 : tlk2 cST 9 3 = some (0, 4, []) := by decide +kernel
theorem cT_9_30 : tlk2 cST 9 30 = some (0, 8, []) := by decide +kernel
theorem cT_9_60 : tlk2 cST 9 60 = some (0, 0, [(9, 51)]) := by decide +kernel
theorem cT_9_63 : tlk2 cST 9 63 = some (1, 0, [(9, 52)]) := by decide +kernel
theorem cT_9_76 : tlk2 cST 9 76 = some (5, 7, []) := by decide +kernel
theorem cT_9_82 : tlk2 cST 9 82 = some (3, 0, [(9, 55)]) := by decide +kernel
theorem cT_9_86 : tlk2 cST 9 86 = some (2, 0, [(9, 56)]) := by decide +kernel
theorem cT_9_90 : tlk2 cST 9 90 = some (2, 10, []) := by decide +kernel
theorem cT_9_95 : tlk2 cST 9 95 = some (3, 0, [(9, 66)]) := by decide +kernel
theorem cT_9_98 : tlk2 cST 9 98 = some (1, 0, [(9, 54)]) := by decide +kernel
theorem cT_9_102 : tlk2 cST 9 102 = some (1, 0, [(9, 69)]) := by decide +kernel
theorem cT_9_105 : tlk2 cST 9 105 = some (0, 0, [(9, 65)]) := by decide +kernel
theorem cT_9_109 : tlk2 cST 9 109 = some (1, 0, [(0, 22), (2, 22), (3, 25), (4, 29), (6, 39), (7, 43)]) := by decide +kernel
theorem cT_9_113 : tlk2 cST 9 113 = some (0, 0, [(0, 2), (2, 31), (3, 31), (4, 31), (6, 31), (7, 31)]) := by decide +kernel
theorem cT_9_116 : tlk2 cST 9 116 = some (1, 0, [(9, 77)]) := by decide +kernel
theorem cT_9_120 : tlk2 cST 9 120 = some (1, 0, [(9, 78)]) := by decide +kernel
theorem cT_9_124 : tlk2 cST 9 124 = some (1, 0, [(9, 79)]) := by decide +kernel
theorem cT_9_127 : tlk2 cST 9 127 = some (1, 0, [(9, 74)]) := by decide +kernel
theorem cT_9_131 : tlk2 cST 9 131 = some (2, 0, [(0, 1), (2, 30), (3, 30), (4, 30), (6, 30), (7, 44)]) := by decide +kernel
theorem cT_9_135 : tlk2 cST 9 135 = some (1, 0, [(9, 75)]) := by decide +kernel
theorem cT_9_141 : tlk2 cST 9 141 = some (3, 0, [(9, 67)]) := by decide +kernel
theorem cT_9_145 : tlk2 cST 9 145 = some (1, 0, [(9, 58)]) := by decide +kernel
theorem cT_9_148 : tlk2 cST 9 148 = some (2, 0, [(9, 57)]) := by decide +kernel
theorem cT_9_151 : tlk2 cST 9 151 = some (1, 0, [(9, 59)]) := by decide +kernel
theorem cT_9_154 : tlk2 cST 9 154 = some (1, 0, [(9, 72)]) := by decide +kernel
theorem cT_9_157 : tlk2 cST 9 157 = some (0, 0, [(9, 73)]) := by decide +kernel
theorem cT_9_160 : tlk2 cST 9 160 = some (3, 0, [(9, 81)]) := by decide +kernel
theorem cT_9_163 : tlk2 cST 9 163 = some (2, 0, [(9, 64)]) := by decide +kernel
theorem cT_9_167 : tlk2 cST 9 167 = some (3, 0, [(9, 82)]) := by decide +kernel
theorem cT_9_171 : tlk2 cST 9 171 = some (2, 11, []) := by decide +kernel
theorem cT_10_1 : tlk2 cST 10 1 = some (0, 4, []) := by decide +kernel
theorem cT_10_9 : tlk2 cST 10 9 = some (0, 2, [(99, 50)]) := by decide +kernel
theorem cT_10_24 : tlk2 cST 10 24 = some (0, 2, [(99, 5)]) := by decide +kernel
theorem cT_10_47 : tlk2 cST 10 47 = some (0, 2, [(99, 47)]) := by decide +kernel
theorem cT_10_56 : tlk2 cST 10 56 = some (1, 0, [(1, 6)]) := by decide +kernel
theorem cT_10_60 : tlk2 cST 10 60 = some (1, 0, [(9, 53)]) := by decide +kernel
theorem cT_10_64 : tlk2 cST 10 64 = some (0, 0, [(9, 51)]) := by decide +kernel
theorem cT_10_67 : tlk2 cST 10 67 = some (1, 0, [(1, 7)]) := by decide +kernel
theorem cT_10_77 : tlk2 cST 10 77 = some (1, 1, [(99, 129)]) := by decide +kernel
theorem cT_10_84 : tlk2 cST 10 84 = some (1, 1, [(99, 131)]) := by decide +kernel
theorem cT_10_90 : tlk2 cST 10 90 = some (2, 0, [(9, 56)]) := by decide +kernel
theorem cT_10_97 : tlk2 cST 10 97 = some (1, 1, [(99, 138)]) := by decide +kernel
theorem cT_10_104 : tlk2 cST 10 104 = some (1, 0, [(9, 59)]) := by decide +kernel
theorem cT_10_107 : tlk2 cST 10 107 = some (1, 0, [(9, 60)]) := by decide +kernel
theorem cT_10_113 : tlk2 cST 10 113 = some (2, 0, [(9, 57)]) := by decide +kernel
theorem cT_10_122 : tlk2 cST 10 122 = some (1, 1, [(99, 132)]) := by decide +kernel
theorem cT_10_125 : tlk2 cST 10 125 = some (1, 1, [(99, 133)]) := by decide +kernel
theorem cT_10_128 : tlk2 cST 10 128 = some (3, 1, [(99, 142)]) := by decide +kernel
theorem cT_10_132 : tlk2 cST 10 132 = some (1, 0, [(9, 63)]) := by decide +kernel
theorem cT_10_136 : tlk2 cST 10 136 = some (1, 0, [(9, 62)]) := by decide +kernel
theorem cT_10_152 : tlk2 cST 10 152 = some (1, 0, [(9, 68)]) := by decide +kernel
theorem cT_10_159 : tlk2 cST 10 159 = some (1, 0, [(10, 130)]) := by decide +kernel
theorem cT_10_162 : tlk2 cST 10 162 = some (2, 0, [(9, 64)]) := by decide +kernel
theorem cT_10_166 : tlk2 cST 10 166 = some (0, 0, [(9, 65)]) := by decide +kernel
theorem cT_10_170 : tlk2 cST 10 170 = some (3, 0, [(9, 67)]) := by decide +kernel
theorem cT_10_186 : tlk2 cST 10 186 = some (1, 0, [(9, 54)]) := by decide +kernel
theorem cT_10_189 : tlk2 cST 10 189 = some (1, 0, [(9, 69)]) := by decide +kernel
theorem cT_10_192 : tlk2 cST 10 192 = some (1, 0, [(9, 74)]) := by decide +kernel
theorem cT_10_195 : tlk2 cST 10 195 = some (2, 0, [(0, 1), (2, 30), (3, 30), (4, 30), (6, 30), (7, 44)]) := by decide +kernel
theorem cT_10_199 : tlk2 cST 10 199 = some (1, 0, [(9, 75)]) := by decide +kernel
theorem cT_10_202 : tlk2 cST 10 202 = some (0, 0, [(9, 76)]) := by decide +kernel
theorem cT_10_208 : tlk2 cST 10 208 = some (1, 0, [(9, 72)]) := by decide +kernel
theorem cT_10_211 : tlk2 cST 10 211 = some (1, 1, [(99, 134)]) := by decide +kernel
theorem cT_10_214 : tlk2 cST 10 214 = some (1, 0, [(9, 58)]) := by decide +kernel
theorem cT_10_217 : tlk2 cST 10 217 = some (3, 1, [(99, 139)]) := by decide +kernel
theorem cT_10_223 : tlk2 cST 10 223 = some (3, 0, [(9, 82)]) := by decide +kernel
theorem cT_10_227 : tlk2 cST 10 227 = some (2, 0, [(9, 83)]) := by decide +kernel
theorem cT_10_231 : tlk2 cST 10 231 = some (0, 0, [(9, 84)]) := by decide +kernel
theorem cT_10_236 : tlk2 cST 10 236 = some (1, 0, [(9, 85)]) := by decide +kernel
theorem cT_10_240 : tlk2 cST 10 240 = some (1, 0, [(9, 70)]) := by decide +kernel
theorem cT_10_243 : tlk2 cST 10 243 = some (1, 0, [(9, 71)]) := by decide +kernel
theorem cT_10_246 : tlk2 cST 10 246 = some (2, 9, []) := by decide +kernel
theorem cT_10_254 : tlk2 cST 10 254 = some (2, 10, []) := by decide +kernel
theorem cT_10_257 : tlk2 cST 10 257 = some (1, 0, [(9, 80)]) := by decide +kernel
theorem cT_10_260 : tlk2 cST 10 260 = some (2, 0, [(10, 137)]) := by decide +kernel
theorem cT_10_264 : tlk2 cST 10 264 = some (1, 1, [(99, 135)]) := by decide +kernel
theorem cT_10_274 : tlk2 cST 10 274 = some (2, 2, [(99, 36)]) := by decide +kernel
theorem cT_10_277 : tlk2 cST 10 277 = some (1, 0, [(5, 37)]) := by decide +kernel
theorem cT_10_280 : tlk2 cST 10 280 = some (1, 1, [(99, 136)]) := by decide +kernel
theorem cT_10_283 : tlk2 cST 10 283 = some (2, 1, [(99, 141)]) := by decide +kernel
theorem cT_10_290 : tlk2 cST 10 290 = some (0, 0, [(8, 48)]) := by decide +kernel
theorem cT_10_293 : tlk2 cST 10 293 = some (2, 0, [(0, 4), (2, 32), (3, 26), (4, 32), (6, 40), (7, 32)]) := by decide +kernel
theorem cT_10_297 : tlk2 cST 10 297 = some (2, 0, [(0, 23), (2, 23), (3, 33), (4, 33), (6, 41), (7, 33)]) := by decide +kernel
theorem cT_10_300 : tlk2 cST 10 300 = some (2, 0, [(0, 3), (2, 34), (3, 34), (4, 34), (6, 34), (7, 46)]) := by decide +kernel
theorem cT_10_303 : tlk2 cST 10 303 = some (2, 0, [(0, 35), (2, 35), (3, 27), (4, 35), (6, 27), (7, 45)]) := by decide +kernel
theorem cT_10_319 : tlk2 cST 10 319 = some (1, 12, []) := by decide +kernel
theorem cT_10_323 : tlk2 cST 10 323 = some (2, 1, [(99, 140)]) := by decide +kernel
theorem cT_10_337 : tlk2 cST 10 337 = some (3, 2, [(99, 21)]) := by decide +kernel
theorem cT_10_340 : tlk2 cST 10 340 = some (3, 2, [(99, 24)]) := by decide +kernel
theorem cT_10_341 : tlk2 cST 10 341 = some (2, 2, [(99, 38)]) := by decide +kernel
theorem cT_10_344 : tlk2 cST 10 344 = some (2, 2, [(99, 0)]) := by decide +kernel
theorem cT_10_345 : tlk2 cST 10 345 = some (2, 2, [(99, 42)]) := by decide +kernel
theorem cT_10_346 : tlk2 cST 10 346 = some (3, 2, [(99, 28)]) := by decide +kernel
theorem cT_11_1 : tlk2 cST 11 1 = some (0, 4, []) := by decide +kernel
theorem cT_11_83 : tlk2 cST 11 83 = some (3, 1, [(99, 144)]) := by decide +kernel
theorem cT_11_105 : tlk2 cST 11 105 = some (1, 0, [(11, 154)]) := by decide +kernel
theorem cT_11_109 : tlk2 cST 11 109 = some (1, 1, [(99, 155)]) := by decide +kernel
theorem cT_11_113 : tlk2 cST 11 113 = some (1, 1, [(99, 156)]) := by decide +kernel
theorem cT_11_134 : tlk2 cST 11 134 = some (1, 0, [(11, 158)]) := by decide +kernel
theorem cT_11_152 : tlk2 cST 11 152 = some (0, 0, [(11, 157)]) := by decide +kernel
theorem cT_11_155 : tlk2 cST 11 155 = some (1, 0, [(11, 159)]) := by decide +kernel
theorem cT_11_158 : tlk2 cST 11 158 = some (1, 0, [(11, 161)]) := by decide +kernel
theorem cT_11_163 : tlk2 cST 11 163 = some (1, 0, [(11, 162)]) := by decide +kernel
theorem cT_11_171 : tlk2 cST 11 171 = some (0, 0, [(11, 163)]) := by decide +kernel
theorem cT_11_180 : tlk2 cST 11 180 = some (2, 0, [(11, 165)]) := by decide +kernel
theorem cT_11_186 : tlk2 cST 11 186 = some (0, 0, [(11, 164)]) := by decide +kernel
theorem cT_11_191 : tlk2 cST 11 191 = some (0, 0, [(11, 166)]) := by decide +kernel
theorem cT_11_199 : tlk2 cST 11 199 = some (0, 0, [(11, 160)]) := by decide +kernel
theorem cT_11_203 : tlk2 cST 11 203 = some (1, 0, [(11, 167)]) := by decide +kernel
theorem cT_11_207 : tlk2 cST 11 207 = some (0, 0, [(11, 168)]) := by decide +kernel
theorem cT_11_210 : tlk2 cST 11 210 = some (0, 0, [(11, 170)]) := by decide +kernel
theorem cT_11_216 : tlk2 cST 11 216 = some (1, 1, [(99, 145)]) := by decide +kernel
theorem cT_11_219 : tlk2 cST 11 219 = some (1, 1, [(99, 146)]) := by decide +kernel
theorem cT_11_222 : tlk2 cST 11 222 = some (1, 0, [(11, 173)]) := by decide +kernel
theorem cT_11_225 : tlk2 cST 11 225 = some (1, 0, [(11, 149)]) := by decide +kernel
theorem cT_11_228 : tlk2 cST 11 228 = some (2, 0, [(11, 175)]) := by decide +kernel
theorem cT_11_232 : tlk2 cST 11 232 = some (2, 0, [(11, 150)]) := by decide +kernel
theorem cT_11_235 : tlk2 cST 11 235 = some (1, 1, [(99, 180)]) := by decide +kernel
theorem cT_11_238 : tlk2 cST 11 238 = some (1, 0, [(11, 177)]) := by decide +kernel
theorem cT_11_241 : tlk2 cST 11 241 = some (1, 0, [(11, 178)]) := by decide +kernel
theorem cT_11_244 : tlk2 cST 11 244 = some (1, 0, [(11, 179)]) := by decide +kernel
theorem cT_11_247 : tlk2 cST 11 247 = some (1, 0, [(11, 147)]) := by decide +kernel
theorem cT_11_250 : tlk2 cST 11 250 = some (1, 0, [(11, 151)]) := by decide +kernel
theorem cT_11_253 : tlk2 cST 11 253 = some (1, 0, [(11, 152)]) := by decide +kernel
theorem cT_11_257 : tlk2 cST 11 257 = some (3, 0, [(11, 187)]) := by decide +kernel
theorem cT_11_270 : tlk2 cST 11 270 = some (1, 0, [(11, 191)]) := by decide +kernel
theorem cT_11_273 : tlk2 cST 11 273 = some (2, 0, [(11, 190)]) := by decide +kernel
theorem cT_11_277 : tlk2 cST 11 277 = some (1, 0, [(11, 176)]) := by decide +kernel
theorem cT_11_280 : tlk2 cST 11 280 = some (1, 0, [(11, 192)]) := by decide +kernel
theorem cT_11_284 : tlk2 cST 11 284 = some (2, 0, [(11, 194)]) := by decide +kernel
theorem cT_11_291 : tlk2 cST 11 291 = some (0, 0, [(11, 195)]) := by decide +kernel
theorem cT_11_300 : tlk2 cST 11 300 = some (1, 0, [(11, 201)]) := by decide +kernel
theorem cT_11_303 : tlk2 cST 11 303 = some (1, 1, [(99, 148)]) := by decide +kernel
theorem cT_11_306 : tlk2 cST 11 306 = some (2, 0, [(11, 199)]) := by decide +kernel
theorem cT_11_310 : tlk2 cST 11 310 = some (1, 0, [(11, 200)]) := by decide +kernel
theorem cT_11_316 : tlk2 cST 11 316 = some (3, 0, [(11, 203)]) := by decide +kernel
theorem cT_11_320 : tlk2 cST 11 320 = some (2, 0, [(11, 205)]) := by decide +kernel
theorem cT_11_332 : tlk2 cST 11 332 = some (1, 0, [(11, 210)]) := by decide +kernel
theorem cT_11_338 : tlk2 cST 11 338 = some (1, 0, [(11, 215)]) := by decide +kernel
theorem cT_11_341 : tlk2 cST 11 341 = some (2, 0, [(11, 217)]) := by decide +kernel
theorem cT_11_345 : tlk2 cST 11 345 = some (1, 1, [(99, 222)]) := by decide +kernel
theorem cT_11_348 : tlk2 cST 11 348 = some (2, 0, [(11, 225)]) := by decide +kernel
theorem cT_11_353 : tlk2 cST 11 353 = some (2, 0, [(11, 227)]) := by decide +kernel
theorem cT_11_356 : tlk2 cST 11 356 = some (1, 0, [(11, 229)]) := by decide +kernel
theorem cT_11_359 : tlk2 cST 11 359 = some (2, 1, [(99, 230)]) := by decide +kernel
theorem cT_11_365 : tlk2 cST 11 365 = some (1, 0, [(11, 232)]) := by decide +kernel
theorem cT_11_371 : tlk2 cST 11 371 = some (1, 0, [(11, 233)]) := by decide +kernel
theorem cT_11_377 : tlk2 cST 11 377 = some (1, 0, [(11, 234)]) := by decide +kernel
theorem cT_11_380 : tlk2 cST 11 380 = some (1, 0, [(11, 235)]) := by decide +kernel
theorem cT_11_383 : tlk2 cST 11 383 = some (1, 0, [(11, 236)]) := by decide +kernel
theorem cT_11_392 : tlk2 cST 11 392 = some (1, 0, [(11, 238)]) := by decide +kernel
theorem cT_11_395 : tlk2 cST 11 395 = some (1, 0, [(11, 237)]) := by decide +kernel
theorem cT_11_398 : tlk2 cST 11 398 = some (1, 0, [(11, 240)]) := by decide +kernel
theorem cT_11_401 : tlk2 cST 11 401 = some (1, 0, [(11, 239)]) := by decide +kernel
theorem cT_11_404 : tlk2 cST 11 404 = some (1, 0, [(11, 241)]) := by decide +kernel
theorem cT_11_410 : tlk2 cST 11 410 = some (3, 0, [(11, 245)]) := by decide +kernel
theorem cT_11_414 : tlk2 cST 11 414 = some (1, 0, [(11, 246)]) := by decide +kernel
theorem cT_12_9 : tlk2 cST 12 9 = some (0, 2, [(99, 86)]) := by decide +kernel
theorem cT_12_12 : tlk2 cST 12 12 = some (0, 2, [(99, 143)]) := by decide +kernel
theorem cT_12_15 : tlk2 cST 12 15 = some (2, 0, [(10, 87)]) := by decide +kernel
theorem cT_12_19 : tlk2 cST 12 19 = some (2, 0, [(11, 153)]) := by decide +kernel
theorem cT_12_20 : tlk2 cST 12 20 = some (0, 0, [(10, 88)]) := by decide +kernel
theorem cT_12_24 : tlk2 cST 12 24 = some (0, 0, [(11, 169)]) := by decide +kernel
theorem cT_12_25 : tlk2 cST 12 25 = some (2, 0, [(10, 89)]) := by decide +kernel
theorem cT_12_29 : tlk2 cST 12 29 = some (2, 0, [(11, 171)]) := by decide +kernel
theorem cT_12_30 : tlk2 cST 12 30 = some (3, 0, [(10, 90)]) := by decide +kernel
theorem cT_12_34 : tlk2 cST 12 34 = some (3, 0, [(11, 172)]) := by decide +kernel
theorem cT_12_35 : tlk2 cST 12 35 = some (2, 0, [(10, 91)]) := by decide +kernel
theorem cT_12_38 : tlk2 cST 12 38 = some (2, 0, [(11, 174)]) := by decide +kernel
theorem cT_12_39 : tlk2 cST 12 39 = some (2, 0, [(10, 92)]) := by decide +kernel
theorem cT_12_42 : tlk2 cST 12 42 = some (2, 0, [(11, 181)]) := by decide +kernel
theorem cT_12_43 : tlk2 cST 12 43 = some (2, 0, [(10, 93)]) := by decide +kernel
theorem cT_12_46 : tlk2 cST 12 46 = some (2, 0, [(11, 182)]) := by decide +kernel
theorem cT_12_47 : tlk2 cST 12 47 = some (2, 0, [(10, 94)]) := by decide +kernel
theorem cT_12_50 : tlk2 cST 12 50 = some (2, 0, [(11, 183)]) := by decide +kernel
theorem cT_12_51 : tlk2 cST 12 51 = some (2, 0, [(10, 95)]) := by decide +kernel
theorem cT_12_54 : tlk2 cST 12 54 = some (2, 0, [(11, 184)]) := by decide +kernel
theorem cT_12_55 : tlk2 cST 12 55 = some (3, 0, [(10, 96)]) := by decide +kernel
theorem cT_12_58 : tlk2 cST 12 58 = some (3, 0, [(11, 185)]) := by decide +kernel
theorem cT_12_59 : tlk2 cST 12 59 = some (2, 0, [(10, 97)]) := by decide +kernel
theorem cT_12_62 : tlk2 cST 12 62 = some (2, 0, [(11, 186)]) := by decide +kernel
theorem cT_12_63 : tlk2 cST 12 63 = some (3, 0, [(10, 98)]) := by decide +kernel
theorem cT_12_66 : tlk2 cST 12 66 = some (3, 0, [(11, 188)]) := by decide +kernel
theorem cT_12_67 : tlk2 cST 12 67 = some (2, 0, [(10, 99)]) := by decide +kernel
theorem cT_12_70 : tlk2 cST 12 70 = some (2, 0, [(11, 189)]) := by decide +kernel
theorem cT_12_71 : tlk2 cST 12 71 = some (2, 0, [(10, 100)]) := by decide +kernel
theorem cT_12_74 : tlk2 cST 12 74 = some (2, 0, [(11, 193)]) := by decide +kernel
theorem cT_12_75 : tlk2 cST 12 75 = some (1, 0, [(10, 101)]) := by decide +kernel
theorem cT_12_79 : tlk2 cST 12 79 = some (1, 0, [(11, 196)]) := by decide +kernel
theorem cT_12_80 : tlk2 cST 12 80 = some (0, 0, [(10, 102)]) := by decide +kernel
theorem cT_12_83 : tlk2 cST 12 83 = some (0, 0, [(11, 197)]) := by decide +kernel
theorem cT_12_84 : tlk2 cST 12 84 = some (1, 0, [(10, 103)]) := by decide +kernel
theorem cT_12_87 : tlk2 cST 12 87 = some (1, 0, [(11, 198)]) := by decide +kernel
theorem cT_12_88 : tlk2 cST 12 88 = some (3, 0, [(10, 104)]) := by decide +kernel
theorem cT_12_91 : tlk2 cST 12 91 = some (3, 0, [(11, 202)]) := by decide +kernel
theorem cT_12_92 : tlk2 cST 12 92 = some (3, 0, [(10, 105)]) := by decide +kernel
theorem cT_12_96 : tlk2 cST 12 96 = some (3, 0, [(11, 204)]) := by decide +kernel
theorem cT_12_97 : tlk2 cST 12 97 = some (2, 0, [(10, 106)]) := by decide +kernel
theorem cT_12_101 : tlk2 cST 12 101 = some (2, 0, [(11, 206)]) := by decide +kernel
theorem cT_12_102 : tlk2 cST 12 102 = some (1, 0, [(10, 107)]) := by decide +kernel
theorem cT_12_105 : tlk2 cST 12 105 = some (1, 0, [(11, 207)]) := by decide +kernel
theorem cT_12_106 : tlk2 cST 12 106 = some (2, 0, [(10, 108)]) := by decide +kernel
theorem cT_12_109 : tlk2 cST 12 109 = some (2, 0, [(11, 208)]) := by decide +kernel
theorem cT_12_110 : tlk2 cST 12 110 = some (1, 0, [(10, 109)]) := by decide +kernel
theorem cT_12_114 : tlk2 cST 12 114 = some (1, 0, [(11, 209)]) := by decide +kernel
theorem cT_12_115 : tlk2 cST 12 115 = some (2, 0, [(10, 110)]) := by decide +kernel
theorem cT_12_118 : tlk2 cST 12 118 = some (2, 0, [(11, 211)]) := by decide +kernel
theorem cT_12_119 : tlk2 cST 12 119 = some (0, 0, [(10, 111)]) := by decide +kernel
theorem cT_12_122 : tlk2 cST 12 122 = some (0, 0, [(11, 212)]) := by decide +kernel
theorem cT_12_123 : tlk2 cST 12 123 = some (0, 0, [(10, 112)]) := by decide +kernel
theorem cT_12_126 : tlk2 cST 12 126 = some (0, 0, [(11, 213)]) := by decide +kernel
theorem cT_12_127 : tlk2 cST 12 127 = some (1, 0, [(10, 113)]) := by decide +kernel
theorem cT_12_130 : tlk2 cST 12 130 = some (1, 0, [(11, 214)]) := by decide +kernel
theorem cT_12_131 : tlk2 cST 12 131 = some (1, 0, [(10, 114)]) := by decide +kernel
theorem cT_12_134 : tlk2 cST 12 134 = some (1, 0, [(11, 216)]) := by decide +kernel
theorem cT_12_135 : tlk2 cST 12 135 = some (2, 0, [(10, 115)]) := by decide +kernel
theorem cT_12_138 : tlk2 cST 12 138 = some (2, 0, [(11, 218)]) := by decide +kernel
theorem cT_12_139 : tlk2 cST 12 139 = some (3, 0, [(10, 116)]) := by decide +kernel
theorem cT_12_142 : tlk2 cST 12 142 = some (3, 0, [(11, 219)]) := by decide +kernel
theorem cT_12_143 : tlk2 cST 12 143 = some (0, 0, [(10, 117)]) := by decide +kernel
theorem cT_12_146 : tlk2 cST 12 146 = some (0, 0, [(11, 220)]) := by decide +kernel
theorem cT_12_147 : tlk2 cST 12 147 = some (4, 0, [(10, 118)]) := by decide +kernel
theorem cT_12_151 : tlk2 cST 12 151 = some (4, 0, [(11, 221)]) := by decide +kernel
theorem cT_12_152 : tlk2 cST 12 152 = some (3, 0, [(10, 119)]) := by decide +kernel
theorem cT_12_155 : tlk2 cST 12 155 = some (3, 0, [(11, 223)]) := by decide +kernel
theorem cT_12_156 : tlk2 cST 12 156 = some (3, 0, [(10, 120)]) := by decide +kernel
theorem cT_12_159 : tlk2 cST 12 159 = some (3, 0, [(11, 224)]) := by decide +kernel
theorem cT_12_160 : tlk2 cST 12 160 = some (3, 0, [(10, 121)]) := by decide +kernel
theorem cT_12_163 : tlk2 cST 12 163 = some (3, 0, [(11, 226)]) := by decide +kernel
theorem cT_12_164 : tlk2 cST 12 164 = some (3, 0, [(10, 122)]) := by decide +kernel
theorem cT_12_167 : tlk2 cST 12 167 = some (3, 0, [(11, 228)]) := by decide +kernel
theorem cT_12_168 : tlk2 cST 12 168 = some (2, 0, [(10, 123)]) := by decide +kernel
theorem cT_12_171 : tlk2 cST 12 171 = some (2, 0, [(11, 231)]) := by decide +kernel
theorem cT_12_172 : tlk2 cST 12 172 = some (3, 0, [(10, 124)]) := by decide +kernel
theorem cT_12_175 : tlk2 cST 12 175 = some (3, 0, [(11, 242)]) := by decide +kernel
theorem cT_12_176 : tlk2 cST 12 176 = some (1, 0, [(10, 125)]) := by decide +kernel
theorem cT_12_179 : tlk2 cST 12 179 = some (1, 0, [(11, 243)]) := by decide +kernel
theorem cT_12_180 : tlk2 cST 12 180 = some (1, 0, [(10, 126)]) := by decide +kernel
theorem cT_12_183 : tlk2 cST 12 183 = some (1, 0, [(11, 244)]) := by decide +kernel
theorem cT_12_184 : tlk2 cST 12 184 = some (0, 0, [(10, 127)]) := by decide +kernel
theorem cT_12_187 : tlk2 cST 12 187 = some (0, 0, [(11, 247)]) := by decide +kernel
theorem cT_12_188 : tlk2 cST 12 188 = some (0, 0, [(10, 128)]) := by decide +kernel
theorem cT_12_191 : tlk2 cST 12 191 = some (0, 0, [(11, 248)]) := by decide +kernel
