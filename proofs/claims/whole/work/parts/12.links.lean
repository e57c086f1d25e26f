theorem f_10_9 : am_fT.lookup (10, 9) = some (10, 0) := by decide +kernel
theorem f_4_50 : am_fT.lookup (4, 50) = some (10, 0) := by decide +kernel
theorem f_10_15 : am_fT.lookup (10, 15) = some (10, 1) := by decide +kernel
theorem f_4_55 : am_fT.lookup (4, 55) = some (10, 1) := by decide +kernel
theorem f_5_131 : am_fT.lookup (5, 131) = some (10, 1) := by decide +kernel
theorem f_10_18 : am_fT.lookup (10, 18) = some (10, 2) := by decide +kernel
theorem f_4_58 : am_fT.lookup (4, 58) = some (10, 2) := by decide +kernel
theorem f_11_395 : am_fT.lookup (11, 395) = some (10, 2) := by decide +kernel
theorem f_10_21 : am_fT.lookup (10, 21) = some (10, 3) := by decide +kernel
theorem f_4_61 : am_fT.lookup (4, 61) = some (10, 3) := by decide +kernel
theorem f_11_398 : am_fT.lookup (11, 398) = some (10, 3) := by decide +kernel
theorem f_10_24 : am_fT.lookup (10, 24) = some (10, 4) := by decide +kernel
theorem f_11_68 : am_fT.lookup (11, 68) = some (10, 4) := by decide +kernel
theorem f_4_70 : am_fT.lookup (4, 70) = some (10, 4) := by decide +kernel
theorem f_5_52 : am_fT.lookup (5, 52) = some (10, 4) := by decide +kernel
theorem f_3_24 : am_fT.lookup (3, 24) = some (3, 0) := by decide +kernel
theorem f_8_108 : am_fT.lookup (8, 108) = some (3, 0) := by decide +kernel
theorem f_11_121 : am_fT.lookup (11, 121) = some (3, 0) := by decide +kernel
theorem f_5_61 : am_fT.lookup (5, 61) = some (3, 0) := by decide +kernel
theorem f_3_28 : am_fT.lookup (3, 28) = some (3, 1) := by decide +kernel
theorem f_5_113 : am_fT.lookup (5, 113) = some (3, 1) := by decide +kernel
theorem f_3_31 : am_fT.lookup (3, 31) = some (3, 2) := by decide +kernel
theorem f_5_120 : am_fT.lookup (5, 120) = some (3, 2) := by decide +kernel
theorem f_3_34 : am_fT.lookup (3, 34) = some (3, 3) := by decide +kernel
theorem f_5_92 : am_fT.lookup (5, 92) = some (3, 3) := by decide +kernel
theorem f_3_37 : am_fT.lookup (3, 37) = some (3, 4) := by decide +kernel
theorem f_5_83 : am_fT.lookup (5, 83) = some (3, 4) := by decide +kernel
theorem f_3_9 : am_fT.lookup (3, 9) = some (3, 5) := by decide +kernel
theorem f_5_86 : am_fT.lookup (5, 86) = some (3, 5) := by decide +kernel
theorem f_3_15 : am_fT.lookup (3, 15) = some (3, 6) := by decide +kernel
theorem f_5_89 : am_fT.lookup (5, 89) = some (3, 6) := by decide +kernel
theorem f_3_18 : am_fT.lookup (3, 18) = some (3, 7) := by decide +kernel
theorem f_8_114 : am_fT.lookup (8, 114) = some (3, 7) := by decide +kernel
theorem f_11_134 : am_fT.lookup (11, 134) = some (3, 7) := by decide +kernel
theorem f_5_146 : am_fT.lookup (5, 146) = some (3, 7) := by decide +kernel
theorem f_3_40 : am_fT.lookup (3, 40) = some (3, 8) := by decide +kernel
theorem f_5_110 : am_fT.lookup (5, 110) = some (3, 8) := by decide +kernel
theorem f_3_43 : am_fT.lookup (3, 43) = some (3, 9) := by decide +kernel
theorem f_5_107 : am_fT.lookup (5, 107) = some (3, 9) := by decide +kernel
theorem f_3_46 : am_fT.lookup (3, 46) = some (3, 10) := by decide +kernel
theorem f_4_41 : am_fT.lookup (4, 41) = some (3, 10) := by decide +kernel
theorem f_5_149 : am_fT.lookup (5, 149) = some (3, 10) := by decide +kernel
theorem f_3_49 : am_fT.lookup (3, 49) = some (3, 11) := by decide +kernel
theorem f_4_47 : am_fT.lookup (4, 47) = some (3, 11) := by decide +kernel
theorem f_5_156 : am_fT.lookup (5, 156) = some (3, 11) := by decide +kernel
theorem f_3_21 : am_fT.lookup (3, 21) = some (3, 12) := by decide +kernel
theorem f_5_153 : am_fT.lookup (5, 153) = some (3, 12) := by decide +kernel
theorem f_3_52 : am_fT.lookup (3, 52) = some (3, 13) := by decide +kernel
theorem f_5_75 : am_fT.lookup (5, 75) = some (3, 13) := by decide +kernel
theorem f_5_32 : am_fT.lookup (5, 32) = some (5, 0) := by decide +kernel
theorem f_11_127 : am_fT.lookup (11, 127) = some (5, 0) := by decide +kernel
theorem f_2_53 : am_fT.lookup (2, 53) = some (5, 0) := by decide +kernel
theorem f_5_35 : am_fT.lookup (5, 35) = some (5, 1) := by decide +kernel
theorem f_11_102 : am_fT.lookup (11, 102) = some (5, 1) := by decide +kernel
theorem f_4_73 : am_fT.lookup (4, 73) = some (5, 1) := by decide +kernel
theorem f_5_9 : am_fT.lookup (5, 9) = some (5, 2) := by decide +kernel
theorem f_11_85 : am_fT.lookup (11, 85) = some (5, 2) := by decide +kernel
theorem f_2_36 : am_fT.lookup (2, 36) = some (5, 3) := by decide +kernel
theorem f_5_38 : am_fT.lookup (5, 38) = some (5, 3) := by decide +kernel
theorem f_11_111 : am_fT.lookup (11, 111) = some (5, 3) := by decide +kernel
theorem f_5_41 : am_fT.lookup (5, 41) = some (5, 4) := by decide +kernel
theorem f_2_42 : am_fT.lookup (2, 42) = some (5, 4) := by decide +kernel
theorem f_11_140 : am_fT.lookup (11, 140) = some (5, 4) := by decide +kernel
theorem f_5_15 : am_fT.lookup (5, 15) = some (5, 5) := by decide +kernel
theorem f_11_98 : am_fT.lookup (11, 98) = some (5, 5) := by decide +kernel
theorem f_5_19 : am_fT.lookup (5, 19) = some (5, 6) := by decide +kernel
theorem f_11_259 : am_fT.lookup (11, 259) = some (5, 6) := by decide +kernel
theorem f_5_22 : am_fT.lookup (5, 22) = some (5, 7) := by decide +kernel
theorem f_11_256 : am_fT.lookup (11, 256) = some (5, 7) := by decide +kernel
theorem f_5_27 : am_fT.lookup (5, 27) = some (5, 8) := by decide +kernel
theorem f_4_35 : am_fT.lookup (4, 35) = some (5, 8) := by decide +kernel
theorem f_8_104 : am_fT.lookup (8, 104) = some (5, 8) := by decide +kernel
theorem f_11_117 : am_fT.lookup (11, 117) = some (5, 8) := by decide +kernel
theorem f_2_9 : am_fT.lookup (2, 9) = some (2, 0) := by decide +kernel
theorem f_2_15 : am_fT.lookup (2, 15) = some (2, 1) := by decide +kernel
theorem f_11_315 : am_fT.lookup (11, 315) = some (2, 1) := by decide +kernel
theorem f_2_18 : am_fT.lookup (2, 18) = some (2, 2) := by decide +kernel
theorem f_2_21 : am_fT.lookup (2, 21) = some (2, 3) := by decide +kernel
theorem f_2_24 : am_fT.lookup (2, 24) = some (2, 4) := by decide +kernel
theorem f_2_27 : am_fT.lookup (2, 27) = some (2, 5) := by decide +kernel
theorem f_2_30 : am_fT.lookup (2, 30) = some (2, 6) := by decide +kernel
theorem f_2_33 : am_fT.lookup (2, 33) = some (2, 7) := by decide +kernel
theorem f_0_9 : am_fT.lookup (0, 9) = some (0, 0) := by decide +kernel
theorem f_0_15 : am_fT.lookup (0, 15) = some (0, 1) := by decide +kernel
theorem f_0_18 : am_fT.lookup (0, 18) = some (0, 2) := by decide +kernel
theorem f_0_21 : am_fT.lookup (0, 21) = some (0, 3) := by decide +kernel
theorem f_11_226 : am_fT.lookup (11, 226) = some (0, 3) := by decide +kernel
theorem f_1_9 : am_fT.lookup (1, 9) = some (1, 0) := by decide +kernel
theorem f_1_15 : am_fT.lookup (1, 15) = some (1, 1) := by decide +kernel
theorem f_1_18 : am_fT.lookup (1, 18) = some (1, 2) := by decide +kernel
theorem f_11_239 : am_fT.lookup (11, 239) = some (1, 2) := by decide +kernel
theorem f_8_12 : am_fT.lookup (8, 12) = some (8, 0) := by decide +kernel
theorem f_11_64 : am_fT.lookup (11, 64) = some (8, 0) := by decide +kernel
theorem f_8_21 : am_fT.lookup (8, 21) = some (8, 1) := by decide +kernel
theorem f_11_82 : am_fT.lookup (11, 82) = some (8, 1) := by decide +kernel
theorem f_8_30 : am_fT.lookup (8, 30) = some (8, 2) := by decide +kernel
theorem f_11_108 : am_fT.lookup (11, 108) = some (8, 2) := by decide +kernel
theorem f_8_34 : am_fT.lookup (8, 34) = some (8, 3) := by decide +kernel
theorem f_8_74 : am_fT.lookup (8, 74) = some (8, 4) := by decide +kernel
theorem f_11_207 : am_fT.lookup (11, 207) = some (8, 4) := by decide +kernel
theorem f_8_77 : am_fT.lookup (8, 77) = some (8, 5) := by decide +kernel
theorem f_8_80 : am_fT.lookup (8, 80) = some (8, 6) := by decide +kernel
theorem f_11_162 : am_fT.lookup (11, 162) = some (8, 6) := by decide +kernel
theorem f_8_38 : am_fT.lookup (8, 38) = some (8, 7) := by decide +kernel
theorem f_11_171 : am_fT.lookup (11, 171) = some (8, 7) := by decide +kernel
theorem f_8_42 : am_fT.lookup (8, 42) = some (8, 8) := by decide +kernel
theorem f_11_279 : am_fT.lookup (11, 279) = some (8, 8) := by decide +kernel
theorem f_8_83 : am_fT.lookup (8, 83) = some (8, 9) := by decide +kernel
theorem f_11_213 : am_fT.lookup (11, 213) = some (8, 9) := by decide +kernel
theorem f_8_86 : am_fT.lookup (8, 86) = some (8, 10) := by decide +kernel
theorem f_11_216 : am_fT.lookup (11, 216) = some (8, 10) := by decide +kernel
theorem f_8_89 : am_fT.lookup (8, 89) = some (8, 11) := by decide +kernel
theorem f_11_219 : am_fT.lookup (11, 219) = some (8, 11) := by decide +kernel
theorem f_8_49 : am_fT.lookup (8, 49) = some (8, 12) := by decide +kernel
theorem f_11_222 : am_fT.lookup (11, 222) = some (8, 12) := by decide +kernel
theorem f_8_56 : am_fT.lookup (8, 56) = some (8, 13) := by decide +kernel
theorem f_11_235 : am_fT.lookup (11, 235) = some (8, 13) := by decide +kernel
theorem f_7_9 : am_fT.lookup (7, 9) = some (7, 0) := by decide +kernel
theorem f_7_31 : am_fT.lookup (7, 31) = some (7, 1) := by decide +kernel
theorem f_11_155 : am_fT.lookup (11, 155) = some (7, 1) := by decide +kernel
theorem f_7_15 : am_fT.lookup (7, 15) = some (7, 2) := by decide +kernel
theorem f_11_168 : am_fT.lookup (11, 168) = some (7, 2) := by decide +kernel
theorem f_7_19 : am_fT.lookup (7, 19) = some (7, 3) := by decide +kernel
theorem f_11_248 : am_fT.lookup (11, 248) = some (7, 3) := by decide +kernel
theorem f_7_34 : am_fT.lookup (7, 34) = some (7, 4) := by decide +kernel
theorem f_7_130 : am_fT.lookup (7, 130) = some (7, 5) := by decide +kernel
theorem f_7_22 : am_fT.lookup (7, 22) = some (7, 6) := by decide +kernel
theorem f_7_25 : am_fT.lookup (7, 25) = some (7, 7) := by decide +kernel
theorem f_7_28 : am_fT.lookup (7, 28) = some (7, 8) := by decide +kernel
theorem f_7_58 : am_fT.lookup (7, 58) = some (7, 9) := by decide +kernel
theorem f_7_52 : am_fT.lookup (7, 52) = some (7, 10) := by decide +kernel
theorem f_7_111 : am_fT.lookup (7, 111) = some (7, 11) := by decide +kernel
theorem f_7_114 : am_fT.lookup (7, 114) = some (7, 12) := by decide +kernel
theorem f_7_46 : am_fT.lookup (7, 46) = some (7, 13) := by decide +kernel
theorem f_4_18 : am_fT.lookup (4, 18) = some (4, 0) := by decide +kernel
theorem f_11_382 : am_fT.lookup (11, 382) = some (4, 0) := by decide +kernel
theorem f_4_11 : am_fT.lookup (4, 11) = some (4, 1) := by decide +kernel
theorem f_4_15 : am_fT.lookup (4, 15) = some (4, 2) := by decide +kernel
theorem f_4_76 : am_fT.lookup (4, 76) = some (4, 3) := by decide +kernel
theorem f_9_9 : am_fT.lookup (9, 9) = some (9, 0) := by decide +kernel
theorem f_11_183 : am_fT.lookup (11, 183) = some (9, 0) := by decide +kernel
theorem f_9_15 : am_fT.lookup (9, 15) = some (9, 1) := by decide +kernel
theorem f_11_177 : am_fT.lookup (11, 177) = some (9, 1) := by decide +kernel
theorem f_9_18 : am_fT.lookup (9, 18) = some (9, 2) := by decide +kernel
theorem f_11_180 : am_fT.lookup (11, 180) = some (9, 2) := by decide +kernel
theorem f_9_21 : am_fT.lookup (9, 21) = some (9, 3) := by decide +kernel
theorem f_11_199 : am_fT.lookup (11, 199) = some (9, 3) := by decide +kernel
theorem f_9_35 : am_fT.lookup (9, 35) = some (9, 4) := by decide +kernel
theorem f_11_174 : am_fT.lookup (11, 174) = some (9, 4) := by decide +kernel
theorem f_7_124 : am_fT.lookup (7, 124) = some (9, 4) := by decide +kernel
theorem f_9_26 : am_fT.lookup (9, 26) = some (9, 5) := by decide +kernel
theorem f_4_22 : am_fT.lookup (4, 22) = some (9, 5) := by decide +kernel
theorem f_7_121 : am_fT.lookup (7, 121) = some (9, 5) := by decide +kernel
theorem f_9_29 : am_fT.lookup (9, 29) = some (9, 6) := by decide +kernel
theorem f_4_79 : am_fT.lookup (4, 79) = some (9, 6) := by decide +kernel
theorem f_7_139 : am_fT.lookup (7, 139) = some (9, 6) := by decide +kernel
theorem f_9_32 : am_fT.lookup (9, 32) = some (9, 7) := by decide +kernel
theorem f_4_82 : am_fT.lookup (4, 82) = some (9, 7) := by decide +kernel
theorem f_9_39 : am_fT.lookup (9, 39) = some (9, 8) := by decide +kernel
theorem f_7_133 : am_fT.lookup (7, 133) = some (9, 8) := by decide +kernel
theorem f_11_10 : am_fT.lookup (11, 10) = some (11, 0) := by decide +kernel
theorem f_11_16 : am_fT.lookup (11, 16) = some (11, 1) := by decide +kernel
theorem f_11_22 : am_fT.lookup (11, 22) = some (11, 2) := by decide +kernel
theorem f_11_31 : am_fT.lookup (11, 31) = some (11, 3) := by decide +kernel
theorem f_11_37 : am_fT.lookup (11, 37) = some (11, 4) := by decide +kernel
theorem f_11_44 : am_fT.lookup (11, 44) = some (11, 5) := by decide +kernel
theorem f_11_51 : am_fT.lookup (11, 51) = some (11, 6) := by decide +kernel
theorem f_11_377 : am_fT.lookup (11, 377) = some (11, 7) := by decide +kernel
theorem f_6_9 : am_fT.lookup (6, 9) = some (6, 0) := by decide +kernel
theorem f_6_15 : am_fT.lookup (6, 15) = some (6, 1) := by decide +kernel
theorem f_6_45 : am_fT.lookup (6, 45) = some (6, 2) := by decide +kernel
theorem f_6_48 : am_fT.lookup (6, 48) = some (6, 3) := by decide +kernel
theorem f_6_20 : am_fT.lookup (6, 20) = some (6, 4) := by decide +kernel
theorem f_6_23 : am_fT.lookup (6, 23) = some (6, 5) := by decide +kernel
theorem f_6_26 : am_fT.lookup (6, 26) = some (6, 6) := by decide +kernel
theorem f_6_29 : am_fT.lookup (6, 29) = some (6, 7) := by decide +kernel
theorem f_6_32 : am_fT.lookup (6, 32) = some (6, 8) := by decide +kernel
theorem f_6_35 : am_fT.lookup (6, 35) = some (6, 9) := by decide +kernel
theorem f_6_55 : am_fT.lookup (6, 55) = some (6, 10) := by decide +kernel
theorem f_6_38 : am_fT.lookup (6, 38) = some (6, 11) := by decide +kernel
theorem f_11_354 : am_fT.lookup (11, 354) = some (6, 11) := by decide +kernel
theorem f_6_41 : am_fT.lookup (6, 41) = some (6, 12) := by decide +kernel
theorem f_11_351 : am_fT.lookup (11, 351) = some (6, 12) := by decide +kernel
theorem f_12_7 : am_fT.lookup (12, 7) = some (12, 0) := by decide +kernel
theorem f_12_13 : am_fT.lookup (12, 13) = some (12, 1) := by decide +kernel
theorem f_12_16 : am_fT.lookup (12, 16) = some (12, 2) := by decide +kernel
theorem f_12_194 : am_fT.lookup (12, 194) = some (12, 3) := by decide +kernel
theorem f_12_20 : am_fT.lookup (12, 20) = some (12, 4) := by decide +kernel
theorem f_12_24 : am_fT.lookup (12, 24) = some (12, 5) := by decide +kernel
theorem f_12_27 : am_fT.lookup (12, 27) = some (12, 6) := by decide +kernel
theorem f_12_30 : am_fT.lookup (12, 30) = some (12, 7) := by decide +kernel
theorem f_12_33 : am_fT.lookup (12, 33) = some (12, 8) := by decide +kernel
theorem f_12_36 : am_fT.lookup (12, 36) = some (12, 9) := by decide +kernel
theorem f_12_39 : am_fT.lookup (12, 39) = some (12, 10) := by decide +kernel
theorem f_12_42 : am_fT.lookup (12, 42) = some (12, 11) := by decide +kernel
theorem f_12_45 : am_fT.lookup (12, 45) = some (12, 12) := by decide +kernel
theorem f_12_48 : am_fT.lookup (12, 48) = some (12, 13) := by decide +kernel
theorem f_12_268 : am_fT.lookup (12, 268) = some (12, 14) := by decide +kernel
theorem f_12_265 : am_fT.lookup (12, 265) = some (12, 15) := by decide +kernel
theorem f_12_271 : am_fT.lookup (12, 271) = some (12, 16) := by decide +kernel
theorem f_12_274 : am_fT.lookup (12, 274) = some (12, 17) := by decide +kernel
theorem f_12_286 : am_fT.lookup (12, 286) = some (12, 18) := by decide +kernel
theorem f_12_290 : am_fT.lookup (12, 290) = some (12, 19) := by decide +kernel
theorem f_12_293 : am_fT.lookup (12, 293) = some (12, 20) := by decide +kernel
theorem f_12_302 : am_fT.lookup (12, 302) = some (12, 21) := by decide +kernel
theorem f_12_299 : am_fT.lookup (12, 299) = some (12, 22) := by decide +kernel
theorem f_12_51 : am_fT.lookup (12, 51) = some (12, 23) := by decide +kernel
theorem f_12_54 : am_fT.lookup (12, 54) = some (12, 24) := by decide +kernel
theorem f_12_314 : am_fT.lookup (12, 314) = some (12, 25) := by decide +kernel
theorem f_12_57 : am_fT.lookup (12, 57) = some (12, 26) := by decide +kernel
theorem f_12_60 : am_fT.lookup (12, 60) = some (12, 27) := by decide +kernel
theorem f_12_334 : am_fT.lookup (12, 334) = some (12, 28) := by decide +kernel
theorem f_12_63 : am_fT.lookup (12, 63) = some (12, 29) := by decide +kernel
theorem f_12_372 : am_fT.lookup (12, 372) = some (12, 30) := by decide +kernel
theorem f_12_344 : am_fT.lookup (12, 344) = some (12, 31) := by decide +kernel
theorem f_12_66 : am_fT.lookup (12, 66) = some (12, 32) := by decide +kernel
theorem f_12_69 : am_fT.lookup (12, 69) = some (12, 33) := by decide +kernel
theorem f_12_72 : am_fT.lookup (12, 72) = some (12, 34) := by decide +kernel
theorem f_12_75 : am_fT.lookup (12, 75) = some (12, 35) := by decide +kernel
theorem f_12_78 : am_fT.lookup (12, 78) = some (12, 36) := by decide +kernel
theorem f_12_296 : am_fT.lookup (12, 296) = some (12, 37) := by decide +kernel
theorem f_12_81 : am_fT.lookup (12, 81) = some (12, 38) := by decide +kernel
theorem f_12_84 : am_fT.lookup (12, 84) = some (12, 39) := by decide +kernel
theorem f_12_87 : am_fT.lookup (12, 87) = some (12, 40) := by decide +kernel
theorem f_12_90 : am_fT.lookup (12, 90) = some (12, 41) := by decide +kernel
theorem f_12_418 : am_fT.lookup (12, 418) = some (12, 42) := by decide +kernel
theorem f_12_421 : am_fT.lookup (12, 421) = some (12, 43) := by decide +kernel
theorem f_12_424 : am_fT.lookup (12, 424) = some (12, 44) := by decide +kernel
theorem f_12_427 : am_fT.lookup (12, 427) = some (12, 45) := by decide +kernel
theorem f_12_430 : am_fT.lookup (12, 430) = some (12, 46) := by decide +kernel
theorem f_12_433 : am_fT.lookup (12, 433) = some (12, 47) := by decide +kernel
theorem f_12_436 : am_fT.lookup (12, 436) = some (12, 48) := by decide +kernel
theorem f_12_439 : am_fT.lookup (12, 439) = some (12, 49) := by decide +kernel
theorem f_12_94 : am_fT.lookup (12, 94) = some (12, 50) := by decide +kernel
theorem f_12_97 : am_fT.lookup (12, 97) = some (12, 51) := by decide +kernel
theorem f_12_100 : am_fT.lookup (12, 100) = some (12, 52) := by decide +kernel
theorem f_12_103 : am_fT.lookup (12, 103) = some (12, 53) := by decide +kernel
theorem f_12_106 : am_fT.lookup (12, 106) = some (12, 54) := by decide +kernel
theorem f_12_109 : am_fT.lookup (12, 109) = some (12, 55) := by decide +kernel
theorem f_12_112 : am_fT.lookup (12, 112) = some (12, 56) := by decide +kernel
theorem f_12_115 : am_fT.lookup (12, 115) = some (12, 57) := by decide +kernel
theorem f_12_118 : am_fT.lookup (12, 118) = some (12, 58) := by decide +kernel
theorem f_12_121 : am_fT.lookup (12, 121) = some (12, 59) := by decide +kernel
theorem f_12_124 : am_fT.lookup (12, 124) = some (12, 60) := by decide +kernel
theorem f_12_127 : am_fT.lookup (12, 127) = some (12, 61) := by decide +kernel
theorem f_12_130 : am_fT.lookup (12, 130) = some (12, 62) := by decide +kernel
theorem f_12_133 : am_fT.lookup (12, 133) = some (12, 63) := by decide +kernel
theorem f_12_136 : am_fT.lookup (12, 136) = some (12, 64) := by decide +kernel
theorem f_12_139 : am_fT.lookup (12, 139) = some (12, 65) := by decide +kernel
theorem f_12_472 : am_fT.lookup (12, 472) = some (12, 66) := by decide +kernel
theorem f_12_465 : am_fT.lookup (12, 465) = some (12, 67) := by decide +kernel
theorem f_12_142 : am_fT.lookup (12, 142) = some (12, 68) := by decide +kernel
theorem f_12_481 : am_fT.lookup (12, 481) = some (12, 69) := by decide +kernel
theorem f_12_145 : am_fT.lookup (12, 145) = some (12, 70) := by decide +kernel
theorem f_12_148 : am_fT.lookup (12, 148) = some (12, 71) := by decide +kernel
theorem f_12_151 : am_fT.lookup (12, 151) = some (12, 72) := by decide +kernel
theorem f_12_154 : am_fT.lookup (12, 154) = some (12, 73) := by decide +kernel
theorem f_12_157 : am_fT.lookup (12, 157) = some (12, 74) := by decide +kernel
theorem f_12_160 : am_fT.lookup (12, 160) = some (12, 75) := by decide +kernel
theorem f_12_163 : am_fT.lookup (12, 163) = some (12, 76) := by decide +kernel
theorem f_12_166 : am_fT.lookup (12, 166) = some (12, 77) := by decide +kernel
theorem cl_13_7 : am_cT.lookup (13, 7) = some (11) := by decide +kernel
theorem cl_11_7 : am_cT.lookup (11, 7) = some (8) := by decide +kernel
theorem cl_8_9 : am_cT.lookup (8, 9) = some (10) := by decide +kernel
theorem cl_8_18 : am_cT.lookup (8, 18) = some (5) := by decide +kernel
theorem cl_5_25 : am_cT.lookup (5, 25) = some (3) := by decide +kernel
theorem cl_8_25 : am_cT.lookup (8, 25) = some (2) := by decide +kernel
theorem cl_8_46 : am_cT.lookup (8, 46) = some (0) := by decide +kernel
theorem cl_8_53 : am_cT.lookup (8, 53) = some (1) := by decide +kernel
theorem cl_11_19 : am_cT.lookup (11, 19) = some (5) := by decide +kernel
theorem cl_11_26 : am_cT.lookup (11, 26) = some (2) := by decide +kernel
theorem cl_11_35 : am_cT.lookup (11, 35) = some (9) := by decide +kernel
theorem cl_11_41 : am_cT.lookup (11, 41) = some (7) := by decide +kernel
theorem cl_11_48 : am_cT.lookup (11, 48) = some (4) := by decide +kernel
theorem cl_11_340 : am_cT.lookup (11, 340) = some (6) := by decide +kernel
theorem cl_6_18 : am_cT.lookup (6, 18) = some (26) := by decide +kernel
theorem cl_13_10 : am_cT.lookup (13, 10) = some (12) := by decide +kernel
theorem k_22_227 : am_kT.lookup (22, 227) = some (65536) := by decide +kernel
theorem k_31_110 : am_kT.lookup (31, 110) = some (55232) := by decide +kernel
theorem k_31_76 : am_kT.lookup (31, 76) = some (56320) := by decide +kernel
theorem k_26_265 : am_kT.lookup (26, 265) = some (1431655765) := by decide +kernel
theorem k_26_266 : am_kT.lookup (26, 266) = some (858993459) := by decide +kernel
theorem k_26_267 : am_kT.lookup (26, 267) = some (252645135) := by decide +kernel
theorem k_12_289 : am_kT.lookup (12, 289) = some (99999) := by decide +kernel
theorem j_4_116 : am_lT.lookup (4, 116) = some (-1000000) := by decide +kernel
theorem j_4_118 : am_lT.lookup (4, 118) = some (1000000) := by decide +kernel
theorem j_12_280 : am_lT.lookup (12, 280) = some (64) := by decide +kernel
theorem j_12_201 : am_lT.lookup (12, 201) = some (14555764) := by decide +kernel
theorem j_12_203 : am_lT.lookup (12, 203) = some (869465139) := by decide +kernel
theorem j_12_205 : am_lT.lookup (12, 205) = some (11729831) := by decide +kernel
theorem j_12_207 : am_lT.lookup (12, 207) = some (9370404) := by decide +kernel
theorem j_12_209 : am_lT.lookup (12, 209) = some (679951653) := by decide +kernel
theorem j_12_211 : am_lT.lookup (12, 211) = some (868374635) := by decide +kernel
theorem j_12_213 : am_lT.lookup (12, 213) = some (10706152) := by decide +kernel
theorem j_12_215 : am_lT.lookup (12, 215) = some (235891) := by decide +kernel
theorem j_12_217 : am_lT.lookup (12, 217) = some (2543) := by decide +kernel
theorem j_12_219 : am_lT.lookup (12, 219) = some (613861497) := by decide +kernel
theorem j_12_221 : am_lT.lookup (12, 221) = some (13327141) := by decide +kernel
theorem j_12_223 : am_lT.lookup (12, 223) = some (158706) := by decide +kernel
theorem j_12_225 : am_lT.lookup (12, 225) = some (3375) := by decide +kernel
theorem j_12_227 : am_lT.lookup (12, 227) = some (2233) := by decide +kernel
theorem j_12_229 : am_lT.lookup (12, 229) = some (3058) := by decide +kernel
theorem j_12_231 : am_lT.lookup (12, 231) = some (138148) := by decide +kernel
theorem j_12_233 : am_lT.lookup (12, 233) = some (191476) := by decide +kernel
theorem j_12_235 : am_lT.lookup (12, 235) = some (2662) := by decide +kernel
theorem j_12_237 : am_lT.lookup (12, 237) = some (13797742) := by decide +kernel
theorem j_12_239 : am_lT.lookup (12, 239) = some (9882853) := by decide +kernel
theorem j_12_241 : am_lT.lookup (12, 241) = some (154532) := by decide +kernel
theorem j_12_243 : am_lT.lookup (12, 243) = some (227887) := by decide +kernel
theorem j_12_245 : am_lT.lookup (12, 245) = some (9890099) := by decide +kernel
theorem j_12_247 : am_lT.lookup (12, 247) = some (852937060) := by decide +kernel
theorem j_12_249 : am_lT.lookup (12, 249) = some (886516659) := by decide +kernel
theorem j_12_251 : am_lT.lookup (12, 251) = some (146804) := by decide +kernel
theorem j_12_253 : am_lT.lookup (12, 253) = some (931568947) := by decide +kernel
theorem j_12_255 : am_lT.lookup (12, 255) = some (55579400292) := by decide +kernel
theorem j_12_257 : am_lT.lookup (12, 257) = some (13585392) := by decide +kernel
theorem j_12_259 : am_lT.lookup (12, 259) = some (47877618984) := by decide +kernel
theorem j_12_261 : am_lT.lookup (12, 261) = some (161904) := by decide +kernel
theorem j_12_263 : am_lT.lookup (12, 263) = some (10939695) := by decide +kernel
theorem j_12_403 : am_lT.lookup (12, 403) = some (1000000) := by decide +kernel
theorem j_12_405 : am_lT.lookup (12, 405) = some (-1000000) := by decide +kernel
theorem l_X11_init : m_l mX11_init = 2 := rfl
theorem o_X11_init : m_o mX11_init = 11 := rfl
theorem l_X8_init : m_l mX8_init = 1 := rfl
theorem o_X8_init : m_o mX8_init = 8 := rfl
theorem l_X10_init : m_l mX10_init = 1 := rfl
theorem o_X10_init : m_o mX10_init = 10 := rfl
theorem l_X5_init : m_l mX5_init = 2 := rfl
theorem o_X5_init : m_o mX5_init = 5 := rfl
theorem l_X3_init : m_l mX3_init = 1 := rfl
theorem o_X3_init : m_o mX3_init = 3 := rfl
theorem l_X2_init : m_l mX2_init = 3 := rfl
theorem o_X2_init : m_o mX2_init = 2 := rfl
theorem l_X0_init : m_l mX0_init = 1 := rfl
theorem o_X0_init : m_o mX0_init = 0 := rfl
theorem l_X1_init : m_l mX1_init = 1 := rfl
theorem o_X1_init : m_o mX1_init = 1 := rfl
theorem l_X7_init : m_l mX7_init = 1 := rfl
theorem o_X7_init : m_o mX7_init = 7 := rfl
theorem l_X4_init : m_l mX4_init = 1 := rfl
theorem o_X4_init : m_o mX4_init = 4 := rfl
theorem l_X9_init : m_l mX9_init = 1 := rfl
theorem o_X9_init : m_o mX9_init = 9 := rfl
theorem l_X11_tellEnd : m_l mX11_tellEnd = 5 := rfl
theorem o_X11_tellEnd : m_o mX11_tellEnd = 11 := rfl
theorem l_X11_within : m_l mX11_within = 3 := rfl
theorem o_X11_within : m_o mX11_within = 11 := rfl
theorem l_X11_refuse : m_l mX11_refuse = 3 := rfl
theorem o_X11_refuse : m_o mX11_refuse = 11 := rfl
theorem l_X10_add : m_l mX10_add = 6 := rfl
theorem o_X10_add : m_o mX10_add = 10 := rfl
theorem l_X11_seed : m_l mX11_seed = 2 := rfl
theorem o_X11_seed : m_o mX11_seed = 11 := rfl
theorem l_X11_refuseFlatly : m_l mX11_refuseFlatly = 2 := rfl
theorem o_X11_refuseFlatly : m_o mX11_refuseFlatly = 11 := rfl
theorem l_X11_delay : m_l mX11_delay = 4 := rfl
theorem o_X11_delay : m_o mX11_delay = 11 := rfl
theorem l_X11_areTwoEnds : m_l mX11_areTwoEnds = 3 := rfl
theorem o_X11_areTwoEnds : m_o mX11_areTwoEnds = 11 := rfl
theorem l_X11_isEnd : m_l mX11_isEnd = 2 := rfl
theorem o_X11_isEnd : m_o mX11_isEnd = 11 := rfl
theorem l_X5_delayOf : m_l mX5_delayOf = 3 := rfl
theorem o_X5_delayOf : m_o mX5_delayOf = 5 := rfl
theorem l_X8_keepStep : m_l mX8_keepStep = 1 := rfl
theorem o_X8_keepStep : m_o mX8_keepStep = 8 := rfl
theorem l_X8_stepRow : m_l mX8_stepRow = 2 := rfl
theorem o_X8_stepRow : m_o mX8_stepRow = 8 := rfl
theorem l_X5_copyFrom : m_l mX5_copyFrom = 3 := rfl
theorem o_X5_copyFrom : m_o mX5_copyFrom = 5 := rfl
theorem l_X3_copyFrom : m_l mX3_copyFrom = 2 := rfl
theorem o_X3_copyFrom : m_o mX3_copyFrom = 3 := rfl
theorem l_J9_min_7cf53 : m_l mJ9_min_7cf53 = 2 := rfl
theorem o_J9_min_7cf53 : m_o mJ9_min_7cf53 = 29 := rfl
theorem l_X11_rule : m_l mX11_rule = 2 := rfl
theorem o_X11_rule : m_o mX11_rule = 11 := rfl
theorem l_X11_speak : m_l mX11_speak = 3 := rfl
theorem o_X11_speak : m_o mX11_speak = 11 := rfl
theorem l_X2_isFull : m_l mX2_isFull = 2 := rfl
theorem o_X2_isFull : m_o mX2_isFull = 2 := rfl
theorem l_X5_openTurn : m_l mX5_openTurn = 6 := rfl
theorem o_X5_openTurn : m_o mX5_openTurn = 5 := rfl
theorem l_X2_openTurn : m_l mX2_openTurn = 5 := rfl
theorem o_X2_openTurn : m_o mX2_openTurn = 2 := rfl
theorem l_X2_hasRow : m_l mX2_hasRow = 2 := rfl
theorem o_X2_hasRow : m_o mX2_hasRow = 2 := rfl
theorem l_X11_hush : m_l mX11_hush = 2 := rfl
theorem o_X11_hush : m_o mX11_hush = 11 := rfl
theorem l_X5_closeTurn : m_l mX5_closeTurn = 6 := rfl
theorem o_X5_closeTurn : m_o mX5_closeTurn = 5 := rfl
theorem l_X2_closeTurn : m_l mX2_closeTurn = 4 := rfl
theorem o_X2_closeTurn : m_o mX2_closeTurn = 2 := rfl
theorem l_X11_yes : m_l mX11_yes = 2 := rfl
theorem o_X11_yes : m_o mX11_yes = 11 := rfl
theorem l_X2_addYes : m_l mX2_addYes = 4 := rfl
theorem o_X2_addYes : m_o mX2_addYes = 2 := rfl
theorem l_X2_heardOutLast : m_l mX2_heardOutLast = 7 := rfl
theorem o_X2_heardOutLast : m_o mX2_heardOutLast = 2 := rfl
theorem l_X2_isSpokenBy : m_l mX2_isSpokenBy = 3 := rfl
theorem o_X2_isSpokenBy : m_o mX2_isSpokenBy = 2 := rfl
theorem l_X5_lag : m_l mX5_lag = 3 := rfl
theorem o_X5_lag : m_o mX5_lag = 5 := rfl
theorem l_X11_go : m_l mX11_go = 2 := rfl
theorem o_X11_go : m_o mX11_go = 11 := rfl
theorem l_X11_lawsNow : m_l mX11_lawsNow = 1 := rfl
theorem o_X11_lawsNow : m_o mX11_lawsNow = 11 := rfl
theorem l_X5_pass : m_l mX5_pass = 8 := rfl
theorem o_X5_pass : m_o mX5_pass = 5 := rfl
theorem l_X5_listen : m_l mX5_listen = 6 := rfl
theorem o_X5_listen : m_o mX5_listen = 5 := rfl
theorem l_X3_spokeAgo : m_l mX3_spokeAgo = 2 := rfl
theorem o_X3_spokeAgo : m_o mX3_spokeAgo = 3 := rfl
theorem l_X5_speakOn : m_l mX5_speakOn = 6 := rfl
theorem o_X5_speakOn : m_o mX5_speakOn = 5 := rfl
theorem l_X4_ofEnd : m_l mX4_ofEnd = 5 := rfl
theorem o_X4_ofEnd : m_o mX4_ofEnd = 4 := rfl
theorem l_X4_has : m_l mX4_has = 2 := rfl
theorem o_X4_has : m_o mX4_has = 4 := rfl
theorem l_X4_nameAll : m_l mX4_nameAll = 4 := rfl
theorem o_X4_nameAll : m_o mX4_nameAll = 4 := rfl
theorem l_X4_valueOf : m_l mX4_valueOf = 8 := rfl
theorem o_X4_valueOf : m_o mX4_valueOf = 4 := rfl
theorem l_X4_push : m_l mX4_push = 2 := rfl
theorem o_X4_push : m_o mX4_push = 4 := rfl
theorem l_J9_max_7cf53 : m_l mJ9_max_7cf53 = 2 := rfl
theorem o_J9_max_7cf53 : m_o mJ9_max_7cf53 = 29 := rfl
theorem l_X4_pop : m_l mX4_pop = 1 := rfl
theorem o_X4_pop : m_o mX4_pop = 4 := rfl
theorem l_X4_reckon : m_l mX4_reckon = 7 := rfl
theorem o_X4_reckon : m_o mX4_reckon = 4 := rfl
theorem l_J9_min_f86c9 : m_l mJ9_min_f86c9 = 4 := rfl
theorem o_J9_min_f86c9 : m_o mJ9_min_f86c9 = 29 := rfl
theorem l_J9_max_f86c9 : m_l mJ9_max_f86c9 = 4 := rfl
theorem o_J9_max_f86c9 : m_o mJ9_max_f86c9 = 29 := rfl
theorem l_X4_asked : m_l mX4_asked = 4 := rfl
theorem o_X4_asked : m_o mX4_asked = 4 := rfl
theorem l_X5_keepSilence : m_l mX5_keepSilence = 7 := rfl
theorem o_X5_keepSilence : m_o mX5_keepSilence = 5 := rfl
theorem l_X5_findPatience : m_l mX5_findPatience = 5 := rfl
theorem o_X5_findPatience : m_o mX5_findPatience = 5 := rfl
theorem l_X5_draw : m_l mX5_draw = 3 := rfl
theorem o_X5_draw : m_o mX5_draw = 5 := rfl
theorem l_X3_wasCalled : m_l mX3_wasCalled = 1 := rfl
theorem o_X3_wasCalled : m_o mX3_wasCalled = 3 := rfl
theorem l_X5_isNextTo : m_l mX5_isNextTo = 3 := rfl
theorem o_X5_isNextTo : m_o mX5_isNextTo = 5 := rfl
theorem l_X5_countHeard : m_l mX5_countHeard = 7 := rfl
theorem o_X5_countHeard : m_o mX5_countHeard = 5 := rfl
theorem l_X11_feed : m_l mX11_feed = 6 := rfl
theorem o_X11_feed : m_o mX11_feed = 11 := rfl
theorem l_X7_take : m_l mX7_take = 3 := rfl
theorem o_X7_take : m_o mX7_take = 7 := rfl
theorem l_X11_end : m_l mX11_end = 2 := rfl
theorem o_X11_end : m_o mX11_end = 11 := rfl
theorem l_X11_text : m_l mX11_text = 1 := rfl
theorem o_X11_text : m_o mX11_text = 11 := rfl
theorem l_X7_readInto : m_l mX7_readInto = 3 := rfl
theorem o_X7_readInto : m_o mX7_readInto = 7 := rfl
theorem l_X9_empty : m_l mX9_empty = 2 := rfl
theorem o_X9_empty : m_o mX9_empty = 9 := rfl
theorem l_X7_splitTape : m_l mX7_splitTape = 4 := rfl
theorem o_X7_splitTape : m_o mX7_splitTape = 7 := rfl
theorem l_X7_isDigit : m_l mX7_isDigit = 1 := rfl
theorem o_X7_isDigit : m_o mX7_isDigit = 7 := rfl
theorem l_X7_splitNumber : m_l mX7_splitNumber = 4 := rfl
theorem o_X7_splitNumber : m_o mX7_splitNumber = 7 := rfl
theorem l_X7_addToken : m_l mX7_addToken = 4 := rfl
theorem o_X7_addToken : m_o mX7_addToken = 7 := rfl
theorem l_X7_isLetter : m_l mX7_isLetter = 1 := rfl
theorem o_X7_isLetter : m_o mX7_isLetter = 7 := rfl
theorem l_X7_splitWord : m_l mX7_splitWord = 3 := rfl
theorem o_X7_splitWord : m_o mX7_splitWord = 7 := rfl
theorem l_X7_numberOfWord : m_l mX7_numberOfWord = 5 := rfl
theorem o_X7_numberOfWord : m_o mX7_numberOfWord = 7 := rfl
theorem l_J0_length_8abf5 : m_l mJ0_length_8abf5 = 1 := rfl
theorem o_J0_length_8abf5 : m_o mJ0_length_8abf5 = 20 := rfl
theorem l_J0_coder_7d493 : m_l mJ0_coder_7d493 = 1 := rfl
theorem o_J0_coder_7d493 : m_o mJ0_coder_7d493 = 20 := rfl
theorem l_J0_charAt_5068e : m_l mJ0_charAt_5068e = 2 := rfl
theorem o_J0_charAt_5068e : m_o mJ0_charAt_5068e = 20 := rfl
theorem l_J0_isLatin1_aae02 : m_l mJ0_isLatin1_aae02 = 1 := rfl
theorem o_J0_isLatin1_aae02 : m_o mJ0_isLatin1_aae02 = 20 := rfl
theorem l_J1_charAt_3b067 : m_l mJ1_charAt_3b067 = 2 := rfl
theorem o_J1_charAt_3b067 : m_o mJ1_charAt_3b067 = 21 := rfl
theorem l_J0_checkIndex_df160 : m_l mJ0_checkIndex_df160 = 2 := rfl
theorem o_J0_checkIndex_df160 : m_o mJ0_checkIndex_df160 = 20 := rfl
theorem l_J3_checkIndex_8e157 : m_l mJ3_checkIndex_8e157 = 3 := rfl
theorem o_J3_checkIndex_8e157 : m_o mJ3_checkIndex_8e157 = 23 := rfl
theorem l_J2_charAt_3b067 : m_l mJ2_charAt_3b067 = 2 := rfl
theorem o_J2_charAt_3b067 : m_o mJ2_charAt_3b067 = 22 := rfl
theorem l_J2_checkIndex_2214a : m_l mJ2_checkIndex_2214a = 2 := rfl
theorem o_J2_checkIndex_2214a : m_o mJ2_checkIndex_2214a = 22 := rfl
theorem l_J2_length_9d52b : m_l mJ2_length_9d52b = 1 := rfl
theorem o_J2_length_9d52b : m_o mJ2_length_9d52b = 22 := rfl
theorem l_J2_getChar_3b067 : m_l mJ2_getChar_3b067 = 2 := rfl
theorem o_J2_getChar_3b067 : m_o mJ2_getChar_3b067 = 22 := rfl
theorem l_X7_isSpeltAt : m_l mX7_isSpeltAt = 6 := rfl
theorem o_X7_isSpeltAt : m_o mX7_isSpeltAt = 7 := rfl
theorem l_X7_splitSign : m_l mX7_splitSign = 3 := rfl
theorem o_X7_splitSign : m_o mX7_splitSign = 7 := rfl
theorem l_J0_indexOf_0f7a4 : m_l mJ0_indexOf_0f7a4 = 2 := rfl
theorem o_J0_indexOf_0f7a4 : m_o mJ0_indexOf_0f7a4 = 20 := rfl
theorem l_J0_indexOf_7cf53 : m_l mJ0_indexOf_7cf53 = 3 := rfl
theorem o_J0_indexOf_7cf53 : m_o mJ0_indexOf_7cf53 = 20 := rfl
theorem l_J1_indexOf_4cfef : m_l mJ1_indexOf_4cfef = 4 := rfl
theorem o_J1_indexOf_4cfef : m_o mJ1_indexOf_4cfef = 21 := rfl
theorem l_J1_canEncode_9a6ad : m_l mJ1_canEncode_9a6ad = 1 := rfl
theorem o_J1_canEncode_9a6ad : m_o mJ1_canEncode_9a6ad = 21 := rfl
theorem l_J1_indexOfChar_4cfef : m_l mJ1_indexOfChar_4cfef = 6 := rfl
theorem o_J1_indexOfChar_4cfef : m_o mJ1_indexOfChar_4cfef = 21 := rfl
theorem l_J2_indexOf_4cfef : m_l mJ2_indexOf_4cfef = 4 := rfl
theorem o_J2_indexOf_4cfef : m_o mJ2_indexOf_4cfef = 22 := rfl
theorem l_J2_indexOfChar_4cfef : m_l mJ2_indexOfChar_4cfef = 4 := rfl
theorem o_J2_indexOfChar_4cfef : m_o mJ2_indexOfChar_4cfef = 22 := rfl
theorem l_J2_checkBoundsBeginEnd_d044e : m_l mJ2_checkBoundsBeginEnd_d044e = 3 := rfl
theorem o_J2_checkBoundsBeginEnd_d044e : m_o mJ2_checkBoundsBeginEnd_d044e = 22 := rfl
theorem l_J0_checkBoundsBeginEnd_23922 : m_l mJ0_checkBoundsBeginEnd_23922 = 3 := rfl
theorem o_J0_checkBoundsBeginEnd_23922 : m_o mJ0_checkBoundsBeginEnd_23922 = 20 := rfl
theorem l_J3_checkFromToIndex_8c36e : m_l mJ3_checkFromToIndex_8c36e = 4 := rfl
theorem o_J3_checkFromToIndex_8c36e : m_o mJ3_checkFromToIndex_8c36e = 23 := rfl
theorem l_J2_indexOfCharUnsafe_4cfef : m_l mJ2_indexOfCharUnsafe_4cfef = 5 := rfl
theorem o_J2_indexOfCharUnsafe_4cfef : m_o mJ2_indexOfCharUnsafe_4cfef = 22 := rfl
theorem l_J2_indexOfSupplementary_4cfef : m_l mJ2_indexOfSupplementary_4cfef = 7 := rfl
theorem o_J2_indexOfSupplementary_4cfef : m_o mJ2_indexOfSupplementary_4cfef = 22 := rfl
theorem l_J11_isValidCodePoint_9a6ad : m_l mJ11_isValidCodePoint_9a6ad = 2 := rfl
theorem o_J11_isValidCodePoint_9a6ad : m_o mJ11_isValidCodePoint_9a6ad = 31 := rfl
theorem l_J11_highSurrogate_5068e : m_l mJ11_highSurrogate_5068e = 1 := rfl
theorem o_J11_highSurrogate_5068e : m_o mJ11_highSurrogate_5068e = 31 := rfl
theorem l_J11_lowSurrogate_5068e : m_l mJ11_lowSurrogate_5068e = 1 := rfl
theorem o_J11_lowSurrogate_5068e : m_o mJ11_lowSurrogate_5068e = 31 := rfl
theorem l_X7_come : m_l mX7_come = 1 := rfl
theorem o_X7_come : m_o mX7_come = 7 := rfl
theorem l_X7_readClause : m_l mX7_readClause = 2 := rfl
theorem o_X7_readClause : m_o mX7_readClause = 7 := rfl
theorem l_X7_fail : m_l mX7_fail = 2 := rfl
theorem o_X7_fail : m_o mX7_fail = 7 := rfl
theorem l_X9_addClause : m_l mX9_addClause = 2 := rfl
theorem o_X9_addClause : m_o mX9_addClause = 9 := rfl
theorem l_X7_readSum : m_l mX7_readSum = 4 := rfl
theorem o_X7_readSum : m_o mX7_readSum = 7 := rfl
theorem l_X7_readProduct : m_l mX7_readProduct = 4 := rfl
theorem o_X7_readProduct : m_o mX7_readProduct = 7 := rfl
theorem l_X7_readOne : m_l mX7_readOne = 2 := rfl
theorem o_X7_readOne : m_o mX7_readOne = 7 := rfl
theorem l_X7_expectNumber : m_l mX7_expectNumber = 4 := rfl
theorem o_X7_expectNumber : m_o mX7_expectNumber = 7 := rfl
theorem l_X9_emit : m_l mX9_emit = 3 := rfl
theorem o_X9_emit : m_o mX9_emit = 9 := rfl
theorem l_X7_isSign : m_l mX7_isSign = 2 := rfl
theorem o_X7_isSign : m_o mX7_isSign = 7 := rfl
theorem l_X7_mayOpen : m_l mX7_mayOpen = 2 := rfl
theorem o_X7_mayOpen : m_o mX7_mayOpen = 7 := rfl
theorem l_X7_expectSign : m_l mX7_expectSign = 2 := rfl
theorem o_X7_expectSign : m_o mX7_expectSign = 7 := rfl
theorem l_X7_isWord : m_l mX7_isWord = 2 := rfl
theorem o_X7_isWord : m_o mX7_isWord = 7 := rfl
theorem l_X7_readChoice : m_l mX7_readChoice = 4 := rfl
theorem o_X7_readChoice : m_o mX7_readChoice = 7 := rfl
theorem l_X7_readEither : m_l mX7_readEither = 3 := rfl
theorem o_X7_readEither : m_o mX7_readEither = 7 := rfl
theorem l_X7_readBoth : m_l mX7_readBoth = 3 := rfl
theorem o_X7_readBoth : m_o mX7_readBoth = 7 := rfl
theorem l_X7_readAsk : m_l mX7_readAsk = 3 := rfl
theorem o_X7_readAsk : m_o mX7_readAsk = 7 := rfl
theorem l_X7_comparison : m_l mX7_comparison = 1 := rfl
theorem o_X7_comparison : m_o mX7_comparison = 7 := rfl
theorem l_X7_expectWord : m_l mX7_expectWord = 2 := rfl
theorem o_X7_expectWord : m_o mX7_expectWord = 7 := rfl
theorem l_X9_landHere : m_l mX9_landHere = 2 := rfl
theorem o_X9_landHere : m_o mX9_landHere = 9 := rfl
theorem l_X7_readName : m_l mX7_readName = 1 := rfl
theorem o_X7_readName : m_o mX7_readName = 7 := rfl
theorem l_X7_isOfClause : m_l mX7_isOfClause = 2 := rfl
theorem o_X7_isOfClause : m_o mX7_isOfClause = 7 := rfl
theorem l_X7_readAct : m_l mX7_readAct = 6 := rfl
theorem o_X7_readAct : m_o mX7_readAct = 7 := rfl
theorem l_X9_setNumbers : m_l mX9_setNumbers = 4 := rfl
theorem o_X9_setNumbers : m_o mX9_setNumbers = 9 := rfl
theorem l_X11_by : m_l mX11_by = 2 := rfl
theorem o_X11_by : m_o mX11_by = 11 := rfl
theorem l_X11_played : m_l mX11_played = 7 := rfl
theorem o_X11_played : m_o mX11_played = 11 := rfl
theorem l_X11_undo : m_l mX11_undo = 1 := rfl
theorem o_X11_undo : m_o mX11_undo = 11 := rfl
theorem l_X8_takeStepBack : m_l mX8_takeStepBack = 2 := rfl
theorem o_X8_takeStepBack : m_o mX8_takeStepBack = 8 := rfl
theorem l_X2_reopen : m_l mX2_reopen = 2 := rfl
theorem o_X2_reopen : m_o mX2_reopen = 2 := rfl
theorem l_X11_price : m_l mX11_price = 4 := rfl
theorem o_X11_price : m_o mX11_price = 11 := rfl
theorem l_X11_agree : m_l mX11_agree = 4 := rfl
theorem o_X11_agree : m_o mX11_agree = 11 := rfl
theorem l_X0_areTold : m_l mX0_areTold = 2 := rfl
theorem o_X0_areTold : m_o mX0_areTold = 0 := rfl
theorem l_X0_add : m_l mX0_add = 4 := rfl
theorem o_X0_add : m_o mX0_add = 0 := rfl
theorem l_X11_heard : m_l mX11_heard = 5 := rfl
theorem o_X11_heard : m_o mX11_heard = 11 := rfl
theorem l_X1_add : m_l mX1_add = 3 := rfl
theorem o_X1_add : m_o mX1_add = 1 := rfl
theorem l_X11_image : m_l mX11_image = 1 := rfl
theorem o_X11_image : m_o mX11_image = 11 := rfl
theorem l_X8_copyFrom : m_l mX8_copyFrom = 3 := rfl
theorem o_X8_copyFrom : m_o mX8_copyFrom = 8 := rfl
theorem l_X10_copyFrom : m_l mX10_copyFrom = 3 := rfl
theorem o_X10_copyFrom : m_o mX10_copyFrom = 10 := rfl
theorem l_X2_copyFrom : m_l mX2_copyFrom = 4 := rfl
theorem o_X2_copyFrom : m_o mX2_copyFrom = 2 := rfl
theorem l_X0_copyFrom : m_l mX0_copyFrom = 3 := rfl
theorem o_X0_copyFrom : m_o mX0_copyFrom = 0 := rfl
theorem l_X1_copyFrom : m_l mX1_copyFrom = 3 := rfl
theorem o_X1_copyFrom : m_o mX1_copyFrom = 1 := rfl
theorem l_X11_back : m_l mX11_back = 1 := rfl
theorem o_X11_back : m_o mX11_back = 11 := rfl
theorem l_X11_fault : m_l mX11_fault = 2 := rfl
theorem o_X11_fault : m_o mX11_fault = 11 := rfl
theorem l_X11_of : m_l mX11_of = 4 := rfl
theorem o_X11_of : m_o mX11_of = 11 := rfl
theorem l_X10_number : m_l mX10_number = 3 := rfl
theorem o_X10_number : m_o mX10_number = 10 := rfl
theorem l_X3_number : m_l mX3_number = 2 := rfl
theorem o_X3_number : m_o mX3_number = 3 := rfl
theorem l_X11_through : m_l mX11_through = 5 := rfl
theorem o_X11_through : m_o mX11_through = 11 := rfl
theorem l_X11_turn : m_l mX11_turn = 3 := rfl
theorem o_X11_turn : m_o mX11_turn = 11 := rfl
theorem l_X11_isTurn : m_l mX11_isTurn = 2 := rfl
theorem o_X11_isTurn : m_o mX11_isTurn = 11 := rfl
theorem l_X2_turnNumber : m_l mX2_turnNumber = 3 := rfl
theorem o_X2_turnNumber : m_o mX2_turnNumber = 2 := rfl
theorem l_X11_said : m_l mX11_said = 4 := rfl
theorem o_X11_said : m_o mX11_said = 11 := rfl
theorem l_X2_takenFor : m_l mX2_takenFor = 7 := rfl
theorem o_X2_takenFor : m_o mX2_takenFor = 2 := rfl
theorem l_X2_yesHeardIn : m_l mX2_yesHeardIn = 4 := rfl
theorem o_X2_yesHeardIn : m_o mX2_yesHeardIn = 2 := rfl
theorem l_X2_yesNumber : m_l mX2_yesNumber = 3 := rfl
theorem o_X2_yesNumber : m_o mX2_yesNumber = 2 := rfl
theorem l_X11_misjoined : m_l mX11_misjoined = 3 := rfl
theorem o_X11_misjoined : m_o mX11_misjoined = 11 := rfl
theorem l_X2_isMisjoined : m_l mX2_isMisjoined = 5 := rfl
theorem o_X2_isMisjoined : m_o mX2_isMisjoined = 2 := rfl
theorem l_X11_refused : m_l mX11_refused = 2 := rfl
theorem o_X11_refused : m_o mX11_refused = 11 := rfl
theorem l_X11_about : m_l mX11_about = 2 := rfl
theorem o_X11_about : m_o mX11_about = 11 := rfl
theorem l_X11_whose : m_l mX11_whose = 9 := rfl
theorem o_X11_whose : m_o mX11_whose = 11 := rfl
theorem l_X2_endedLast : m_l mX2_endedLast = 6 := rfl
theorem o_X2_endedLast : m_o mX2_endedLast = 2 := rfl
theorem l_X11_lowestTerm : m_l mX11_lowestTerm = 7 := rfl
theorem o_X11_lowestTerm : m_o mX11_lowestTerm = 11 := rfl
theorem l_X11_first : m_l mX11_first = 6 := rfl
theorem o_X11_first : m_o mX11_first = 11 := rfl
theorem l_X2_beganAt : m_l mX2_beganAt = 4 := rfl
theorem o_X2_beganAt : m_o mX2_beganAt = 2 := rfl
theorem l_X11_cold : m_l mX11_cold = 8 := rfl
theorem o_X11_cold : m_o mX11_cold = 11 := rfl
theorem l_X2_gapBehind : m_l mX2_gapBehind = 8 := rfl
theorem o_X2_gapBehind : m_o mX2_gapBehind = 2 := rfl
theorem l_X2_beganWithin : m_l mX2_beganWithin = 6 := rfl
theorem o_X2_beganWithin : m_o mX2_beganWithin = 2 := rfl
theorem l_X4_coldOf : m_l mX4_coldOf = 5 := rfl
theorem o_X4_coldOf : m_o mX4_coldOf = 4 := rfl
theorem l_X11_haste : m_l mX11_haste = 8 := rfl
theorem o_X11_haste : m_o mX11_haste = 11 := rfl
theorem l_X2_turnBrokenInto : m_l mX2_turnBrokenInto = 7 := rfl
theorem o_X2_turnBrokenInto : m_o mX2_turnBrokenInto = 2 := rfl
theorem l_X2_couldHear : m_l mX2_couldHear = 4 := rfl
theorem o_X2_couldHear : m_o mX2_couldHear = 2 := rfl
theorem l_X4_hasteOf : m_l mX4_hasteOf = 5 := rfl
theorem o_X4_hasteOf : m_o mX4_hasteOf = 4 := rfl
theorem l_X11_rules : m_l mX11_rules = 4 := rfl
theorem o_X11_rules : m_o mX11_rules = 11 := rfl
theorem l_X11_tryRule : m_l mX11_tryRule = 3 := rfl
theorem o_X11_tryRule : m_o mX11_tryRule = 11 := rfl
theorem l_X5_forgetCounts : m_l mX5_forgetCounts = 2 := rfl
theorem o_X5_forgetCounts : m_o mX5_forgetCounts = 5 := rfl
theorem l_X11_total : m_l mX11_total = 6 := rfl
theorem o_X11_total : m_o mX11_total = 11 := rfl
theorem l_X11_bestRule : m_l mX11_bestRule = 8 := rfl
theorem o_X11_bestRule : m_o mX11_bestRule = 11 := rfl
theorem l_X11_pence : m_l mX11_pence = 2 := rfl
theorem o_X11_pence : m_o mX11_pence = 11 := rfl
theorem l_X8_penceFor : m_l mX8_penceFor = 3 := rfl
theorem o_X8_penceFor : m_o mX8_penceFor = 8 := rfl
theorem l_X11_forPence : m_l mX11_forPence = 4 := rfl
theorem o_X11_forPence : m_o mX11_forPence = 11 := rfl
theorem l_X11_comes : m_l mX11_comes = 8 := rfl
theorem o_X11_comes : m_o mX11_comes = 11 := rfl
theorem l_X11_arePairNumbers : m_l mX11_arePairNumbers = 4 := rfl
theorem o_X11_arePairNumbers : m_o mX11_arePairNumbers = 11 := rfl
theorem l_X11_areDelays : m_l mX11_areDelays = 2 := rfl
theorem o_X11_areDelays : m_o mX11_areDelays = 11 := rfl
theorem l_X11_pairNow : m_l mX11_pairNow = 1 := rfl
theorem o_X11_pairNow : m_o mX11_pairNow = 11 := rfl
theorem l_X6_init : m_l mX6_init = 1 := rfl
theorem o_X6_init : m_o mX6_init = 6 := rfl
theorem l_X6_set : m_l mX6_set = 5 := rfl
theorem o_X6_set : m_o mX6_set = 6 := rfl
theorem l_X6_comesAt : m_l mX6_comesAt = 7 := rfl
theorem o_X6_comesAt : m_o mX6_comesAt = 6 := rfl
theorem l_X6_begin : m_l mX6_begin = 3 := rfl
theorem o_X6_begin : m_o mX6_begin = 6 := rfl
theorem l_X6_isSettled : m_l mX6_isSettled = 1 := rfl
theorem o_X6_isSettled : m_o mX6_isSettled = 6 := rfl
theorem l_X6_isJudgedTo : m_l mX6_isJudgedTo = 3 := rfl
theorem o_X6_isJudgedTo : m_o mX6_isJudgedTo = 6 := rfl
theorem l_X6_nextChange : m_l mX6_nextChange = 4 := rfl
theorem o_X6_nextChange : m_o mX6_nextChange = 6 := rfl
theorem l_X6_isSpeaking : m_l mX6_isSpeaking = 2 := rfl
theorem o_X6_isSpeaking : m_o mX6_isSpeaking = 6 := rfl
theorem l_X6_passBy : m_l mX6_passBy = 4 := rfl
theorem o_X6_passBy : m_o mX6_passBy = 6 := rfl
theorem l_X6_yieldsIn : m_l mX6_yieldsIn = 3 := rfl
theorem o_X6_yieldsIn : m_o mX6_yieldsIn = 6 := rfl
theorem l_X6_beginsIn : m_l mX6_beginsIn = 6 := rfl
theorem o_X6_beginsIn : m_o mX6_beginsIn = 6 := rfl
theorem l_X6_judge : m_l mX6_judge = 6 := rfl
theorem o_X6_judge : m_o mX6_judge = 6 := rfl
theorem l_X6_isSilent : m_l mX6_isSilent = 5 := rfl
theorem o_X6_isSilent : m_o mX6_isSilent = 6 := rfl
theorem l_X6_change : m_l mX6_change = 4 := rfl
theorem o_X6_change : m_o mX6_change = 6 := rfl
theorem l_X11_apart : m_l mX11_apart = 7 := rfl
theorem o_X11_apart : m_o mX11_apart = 11 := rfl
theorem l_X6_findApart : m_l mX6_findApart = 2 := rfl
theorem o_X6_findApart : m_o mX6_findApart = 6 := rfl
theorem l_X11_drawn : m_l mX11_drawn = 6 := rfl
theorem o_X11_drawn : m_o mX11_drawn = 11 := rfl
theorem l_X11_apartDraws : m_l mX11_apartDraws = 7 := rfl
theorem o_X11_apartDraws : m_o mX11_apartDraws = 11 := rfl
theorem l_X11_wide : m_l mX11_wide = 13 := rfl
theorem o_X11_wide : m_o mX11_wide = 11 := rfl
theorem l_X11_worth : m_l mX11_worth = 6 := rfl
theorem o_X11_worth : m_o mX11_worth = 11 := rfl
theorem l_X11_least : m_l mX11_least = 2 := rfl
theorem o_X11_least : m_o mX11_least = 11 := rfl
theorem l_X0_leastSet : m_l mX0_leastSet = 7 := rfl
theorem o_X0_leastSet : m_o mX0_leastSet = 0 := rfl
theorem l_X0_hasAllItNeeds : m_l mX0_hasAllItNeeds = 3 := rfl
theorem o_X0_hasAllItNeeds : m_o mX0_hasAllItNeeds = 0 := rfl
theorem l_X0_sumOf : m_l mX0_sumOf = 5 := rfl
theorem o_X0_sumOf : m_o mX0_sumOf = 0 := rfl
theorem l_J6_bitCount_0f7a4 : m_l mJ6_bitCount_0f7a4 = 1 := rfl
theorem o_J6_bitCount_0f7a4 : m_o mJ6_bitCount_0f7a4 = 26 := rfl
theorem l_X11_span : m_l mX11_span = 4 := rfl
theorem o_X11_span : m_o mX11_span = 11 := rfl
theorem l_X1_leastWays : m_l mX1_leastWays = 3 := rfl
theorem o_X1_leastWays : m_o mX1_leastWays = 1 := rfl
theorem l_X1_mostWays : m_l mX1_mostWays = 3 := rfl
theorem o_X1_mostWays : m_o mX1_mostWays = 1 := rfl
theorem l_X11_way : m_l mX11_way = 4 := rfl
theorem o_X11_way : m_o mX11_way = 11 := rfl
theorem l_X11_whoYields : m_l mX11_whoYields = 15 := rfl
theorem o_X11_whoYields : m_o mX11_whoYields = 11 := rfl
theorem l_X11_isSpokenIn : m_l mX11_isSpokenIn = 3 := rfl
theorem o_X11_isSpokenIn : m_o mX11_isSpokenIn = 11 := rfl
theorem l_X12_init : m_l mX12_init = 2 := rfl
theorem o_X12_init : m_o mX12_init = 12 := rfl
theorem l_X12_copies : m_l mX12_copies = 3 := rfl
theorem o_X12_copies : m_o mX12_copies = 12 := rfl
theorem l_X12_tellEnd : m_l mX12_tellEnd = 6 := rfl
theorem o_X12_tellEnd : m_o mX12_tellEnd = 12 := rfl
theorem l_X12_in : m_l mX12_in = 3 := rfl
theorem o_X12_in : m_o mX12_in = 12 := rfl
theorem l_X12_refuses : m_l mX12_refuses = 3 := rfl
theorem o_X12_refuses : m_o mX12_refuses = 12 := rfl
theorem l_X12_seed : m_l mX12_seed = 2 := rfl
theorem o_X12_seed : m_o mX12_seed = 12 := rfl
theorem l_X12_refusesIt : m_l mX12_refusesIt = 2 := rfl
theorem o_X12_refusesIt : m_o mX12_refusesIt = 12 := rfl
theorem l_X12_undo : m_l mX12_undo = 2 := rfl
theorem o_X12_undo : m_o mX12_undo = 12 := rfl
theorem l_X12_delay : m_l mX12_delay = 4 := rfl
theorem o_X12_delay : m_o mX12_delay = 12 := rfl
theorem l_X12_isEnd : m_l mX12_isEnd = 2 := rfl
theorem o_X12_isEnd : m_o mX12_isEnd = 12 := rfl
theorem l_X12_delayOf : m_l mX12_delayOf = 3 := rfl
theorem o_X12_delayOf : m_o mX12_delayOf = 12 := rfl
theorem l_X12_keepsStep : m_l mX12_keepsStep = 2 := rfl
theorem o_X12_keepsStep : m_o mX12_keepsStep = 12 := rfl
theorem l_X12_rule : m_l mX12_rule = 2 := rfl
theorem o_X12_rule : m_o mX12_rule = 12 := rfl
theorem l_X12_feed : m_l mX12_feed = 6 := rfl
theorem o_X12_feed : m_o mX12_feed = 12 := rfl
theorem l_X12_put : m_l mX12_put = 3 := rfl
theorem o_X12_put : m_o mX12_put = 12 := rfl
theorem l_X12_end : m_l mX12_end = 2 := rfl
theorem o_X12_end : m_o mX12_end = 12 := rfl
theorem l_X12_text : m_l mX12_text = 4 := rfl
theorem o_X12_text : m_o mX12_text = 12 := rfl
theorem l_X12_next : m_l mX12_next = 5 := rfl
theorem o_X12_next : m_o mX12_next = 12 := rfl
theorem l_X12_isLetter : m_l mX12_isLetter = 1 := rfl
theorem o_X12_isLetter : m_o mX12_isLetter = 12 := rfl
theorem l_X12_wordOf : m_l mX12_wordOf = 2 := rfl
theorem o_X12_wordOf : m_o mX12_wordOf = 12 := rfl
theorem l_X12_asks : m_l mX12_asks = 2 := rfl
theorem o_X12_asks : m_o mX12_asks = 12 := rfl
theorem l_X12_isWord : m_l mX12_isWord = 2 := rfl
theorem o_X12_isWord : m_o mX12_isWord = 12 := rfl
theorem l_X12_opensSign : m_l mX12_opensSign = 2 := rfl
theorem o_X12_opensSign : m_o mX12_opensSign = 12 := rfl
theorem l_X12_errs : m_l mX12_errs = 2 := rfl
theorem o_X12_errs : m_o mX12_errs = 12 := rfl
theorem l_X12_opensFrame : m_l mX12_opensFrame = 2 := rfl
theorem o_X12_opensFrame : m_o mX12_opensFrame = 12 := rfl
theorem l_X12_begins : m_l mX12_begins = 3 := rfl
theorem o_X12_begins : m_o mX12_begins = 12 := rfl
theorem l_X12_nameNow : m_l mX12_nameNow = 1 := rfl
theorem o_X12_nameNow : m_o mX12_nameNow = 12 := rfl
theorem l_X12_emits : m_l mX12_emits = 3 := rfl
theorem o_X12_emits : m_o mX12_emits = 12 := rfl
theorem l_X12_oneIsOver : m_l mX12_oneIsOver = 1 := rfl
theorem o_X12_oneIsOver : m_o mX12_oneIsOver = 12 := rfl
theorem l_X12_top : m_l mX12_top = 1 := rfl
theorem o_X12_top : m_o mX12_top = 12 := rfl
theorem l_X12_mayName : m_l mX12_mayName = 2 := rfl
theorem o_X12_mayName : m_o mX12_mayName = 12 := rfl
theorem l_X12_isSign : m_l mX12_isSign = 2 := rfl
theorem o_X12_isSign : m_o mX12_isSign = 12 := rfl
theorem l_X12_goesOn : m_l mX12_goesOn = 3 := rfl
theorem o_X12_goesOn : m_o mX12_goesOn = 12 := rfl
theorem l_X12_waitsFor : m_l mX12_waitsFor = 2 := rfl
theorem o_X12_waitsFor : m_o mX12_waitsFor = 12 := rfl
theorem l_X12_rank : m_l mX12_rank = 1 := rfl
theorem o_X12_rank : m_o mX12_rank = 12 := rfl
theorem l_X12_works : m_l mX12_works = 2 := rfl
theorem o_X12_works : m_o mX12_works = 12 := rfl
theorem l_X12_turnsTo : m_l mX12_turnsTo = 4 := rfl
theorem o_X12_turnsTo : m_o mX12_turnsTo = 12 := rfl
theorem l_X12_isAsking : m_l mX12_isAsking = 1 := rfl
theorem o_X12_isAsking : m_o mX12_isAsking = 12 := rfl
theorem l_X12_askIsOver : m_l mX12_askIsOver = 1 := rfl
theorem o_X12_askIsOver : m_o mX12_askIsOver = 12 := rfl
theorem l_X12_clauseIsOver : m_l mX12_clauseIsOver = 1 := rfl
theorem o_X12_clauseIsOver : m_o mX12_clauseIsOver = 12 := rfl
theorem l_X12_asksOn : m_l mX12_asksOn = 1 := rfl
theorem o_X12_asksOn : m_o mX12_asksOn = 12 := rfl
theorem l_X12_clause : m_l mX12_clause = 1 := rfl
theorem o_X12_clause : m_o mX12_clause = 12 := rfl
theorem l_X12_wasTold : m_l mX12_wasTold = 4 := rfl
theorem o_X12_wasTold : m_o mX12_wasTold = 12 := rfl
theorem l_X12_doing : m_l mX12_doing = 4 := rfl
theorem o_X12_doing : m_o mX12_doing = 12 := rfl
theorem l_X12_number : m_l mX12_number = 4 := rfl
theorem o_X12_number : m_o mX12_number = 12 := rfl
theorem l_X12_numberBehind : m_l mX12_numberBehind = 4 := rfl
theorem o_X12_numberBehind : m_o mX12_numberBehind = 12 := rfl
theorem l_X12_fault : m_l mX12_fault = 2 := rfl
theorem o_X12_fault : m_o mX12_fault = 12 := rfl
theorem l_X12_by : m_l mX12_by = 2 := rfl
theorem o_X12_by : m_o mX12_by = 12 := rfl
theorem l_X12_go : m_l mX12_go = 3 := rfl
theorem o_X12_go : m_o mX12_go = 12 := rfl
theorem l_X12_laysNow : m_l mX12_laysNow = 3 := rfl
theorem o_X12_laysNow : m_o mX12_laysNow = 12 := rfl
theorem l_X12_laysTurn : m_l mX12_laysTurn = 5 := rfl
theorem o_X12_laysTurn : m_o mX12_laysTurn = 12 := rfl
theorem l_X12_ofTurn : m_l mX12_ofTurn = 3 := rfl
theorem o_X12_ofTurn : m_o mX12_ofTurn = 12 := rfl
theorem l_X12_wasSpoken : m_l mX12_wasSpoken = 2 := rfl
theorem o_X12_wasSpoken : m_o mX12_wasSpoken = 12 := rfl
theorem l_X12_tenthGoes : m_l mX12_tenthGoes = 2 := rfl
theorem o_X12_tenthGoes : m_o mX12_tenthGoes = 12 := rfl
theorem l_X12_hearsAll : m_l mX12_hearsAll = 4 := rfl
theorem o_X12_hearsAll : m_o mX12_hearsAll = 12 := rfl
theorem l_X12_lowestOf : m_l mX12_lowestOf = 2 := rfl
theorem o_X12_lowestOf : m_o mX12_lowestOf = 12 := rfl
theorem l_X12_goesSpeaking : m_l mX12_goesSpeaking = 3 := rfl
theorem o_X12_goesSpeaking : m_o mX12_goesSpeaking = 12 := rfl
theorem l_X12_stopsOf : m_l mX12_stopsOf = 2 := rfl
theorem o_X12_stopsOf : m_o mX12_stopsOf = 12 := rfl
theorem l_X12_told : m_l mX12_told = 3 := rfl
theorem o_X12_told : m_o mX12_told = 12 := rfl
theorem l_X12_lawOf : m_l mX12_lawOf = 7 := rfl
theorem o_X12_lawOf : m_o mX12_lawOf = 12 := rfl
theorem l_X12_ordersOf : m_l mX12_ordersOf = 5 := rfl
theorem o_X12_ordersOf : m_o mX12_ordersOf = 12 := rfl
theorem l_X12_names : m_l mX12_names = 2 := rfl
theorem o_X12_names : m_o mX12_names = 12 := rfl
theorem l_X12_saysOf : m_l mX12_saysOf = 5 := rfl
theorem o_X12_saysOf : m_o mX12_saysOf = 12 := rfl
theorem l_X12_worked : m_l mX12_worked = 5 := rfl
theorem o_X12_worked : m_o mX12_worked = 12 := rfl
theorem l_X12_bound : m_l mX12_bound = 2 := rfl
theorem o_X12_bound : m_o mX12_bound = 12 := rfl
theorem l_X12_held : m_l mX12_held = 4 := rfl
theorem o_X12_held : m_o mX12_held = 12 := rfl
theorem l_X12_endsTurn : m_l mX12_endsTurn = 3 := rfl
theorem o_X12_endsTurn : m_o mX12_endsTurn = 12 := rfl
theorem l_X12_saysNow : m_l mX12_saysNow = 2 := rfl
theorem o_X12_saysNow : m_o mX12_saysNow = 12 := rfl
theorem l_X12_goesSilent : m_l mX12_goesSilent = 2 := rfl
theorem o_X12_goesSilent : m_o mX12_goesSilent = 12 := rfl
theorem l_X12_findsPatience : m_l mX12_findsPatience = 3 := rfl
theorem o_X12_findsPatience : m_o mX12_findsPatience = 12 := rfl
theorem l_X12_draw : m_l mX12_draw = 3 := rfl
theorem o_X12_draw : m_o mX12_draw = 12 := rfl
theorem l_X12_beginsTurn : m_l mX12_beginsTurn = 4 := rfl
theorem o_X12_beginsTurn : m_o mX12_beginsTurn = 12 := rfl
theorem l_X12_longOf : m_l mX12_longOf = 2 := rfl
theorem o_X12_longOf : m_o mX12_longOf = 12 := rfl
theorem l_X12_talliesAll : m_l mX12_talliesAll = 4 := rfl
theorem o_X12_talliesAll : m_o mX12_talliesAll = 12 := rfl
theorem l_X12_keepsNow : m_l mX12_keepsNow = 2 := rfl
theorem o_X12_keepsNow : m_o mX12_keepsNow = 12 := rfl
theorem l_X12_speak : m_l mX12_speak = 4 := rfl
theorem o_X12_speak : m_o mX12_speak = 12 := rfl
theorem l_X12_hush : m_l mX12_hush = 3 := rfl
theorem o_X12_hush : m_o mX12_hush = 12 := rfl
theorem l_X12_turnGoingOn : m_l mX12_turnGoingOn = 3 := rfl
theorem o_X12_turnGoingOn : m_o mX12_turnGoingOn = 12 := rfl
theorem l_X12_yes : m_l mX12_yes = 3 := rfl
theorem o_X12_yes : m_o mX12_yes = 12 := rfl
theorem l_X12_heardOut : m_l mX12_heardOut = 7 := rfl
theorem o_X12_heardOut : m_o mX12_heardOut = 12 := rfl
theorem l_X12_played : m_l mX12_played = 5 := rfl
theorem o_X12_played : m_o mX12_played = 12 := rfl
theorem l_X12_of : m_l mX12_of = 3 := rfl
theorem o_X12_of : m_o mX12_of = 12 := rfl
theorem l_X12_countOf : m_l mX12_countOf = 5 := rfl
theorem o_X12_countOf : m_o mX12_countOf = 12 := rfl
theorem l_X12_through : m_l mX12_through = 4 := rfl
theorem o_X12_through : m_o mX12_through = 12 := rfl
theorem l_X12_turn : m_l mX12_turn = 3 := rfl
theorem o_X12_turn : m_o mX12_turn = 12 := rfl
theorem l_X12_said : m_l mX12_said = 4 := rfl
theorem o_X12_said : m_o mX12_said = 12 := rfl
theorem l_X12_takenAt : m_l mX12_takenAt = 7 := rfl
theorem o_X12_takenAt : m_o mX12_takenAt = 12 := rfl
theorem l_X12_heardThen : m_l mX12_heardThen = 3 := rfl
theorem o_X12_heardThen : m_o mX12_heardThen = 12 := rfl
theorem l_X12_misjoined : m_l mX12_misjoined = 5 := rfl
theorem o_X12_misjoined : m_o mX12_misjoined = 12 := rfl
theorem l_X12_whose : m_l mX12_whose = 9 := rfl
theorem o_X12_whose : m_o mX12_whose = 12 := rfl
theorem l_X12_endedBy : m_l mX12_endedBy = 6 := rfl
theorem o_X12_endedBy : m_o mX12_endedBy = 12 := rfl
theorem l_X12_inLowest : m_l mX12_inLowest = 4 := rfl
theorem o_X12_inLowest : m_o mX12_inLowest = 12 := rfl
theorem l_X12_common : m_l mX12_common = 5 := rfl
theorem o_X12_common : m_o mX12_common = 12 := rfl
theorem l_X12_first : m_l mX12_first = 6 := rfl
theorem o_X12_first : m_o mX12_first = 12 := rfl
theorem l_X12_beganAt : m_l mX12_beganAt = 4 := rfl
theorem o_X12_beganAt : m_o mX12_beganAt = 12 := rfl
theorem l_X12_cold : m_l mX12_cold = 10 := rfl
theorem o_X12_cold : m_o mX12_cold = 12 := rfl
theorem l_X12_heardBegin : m_l mX12_heardBegin = 7 := rfl
theorem o_X12_heardBegin : m_o mX12_heardBegin = 12 := rfl
theorem l_X12_hasBegun : m_l mX12_hasBegun = 6 := rfl
theorem o_X12_hasBegun : m_o mX12_hasBegun = 12 := rfl
theorem l_X12_seems : m_l mX12_seems = 6 := rfl
theorem o_X12_seems : m_o mX12_seems = 12 := rfl
theorem l_X12_haste : m_l mX12_haste = 8 := rfl
theorem o_X12_haste : m_o mX12_haste = 12 := rfl
theorem l_X12_turnAt : m_l mX12_turnAt = 5 := rfl
theorem o_X12_turnAt : m_o mX12_turnAt = 12 := rfl
theorem l_X12_rules : m_l mX12_rules = 4 := rfl
theorem o_X12_rules : m_o mX12_rules = 12 := rfl
theorem l_X12_laysRule : m_l mX12_laysRule = 4 := rfl
theorem o_X12_laysRule : m_o mX12_laysRule = 12 := rfl
theorem l_X12_bestRule : m_l mX12_bestRule = 6 := rfl
theorem o_X12_bestRule : m_o mX12_bestRule = 12 := rfl
theorem l_X12_price : m_l mX12_price = 4 := rfl
theorem o_X12_price : m_o mX12_price = 12 := rfl
theorem l_X12_pence : m_l mX12_pence = 2 := rfl
theorem o_X12_pence : m_o mX12_pence = 12 := rfl
theorem l_X12_penceOf : m_l mX12_penceOf = 3 := rfl
theorem o_X12_penceOf : m_o mX12_penceOf = 12 := rfl
theorem l_X12_forPence : m_l mX12_forPence = 4 := rfl
theorem o_X12_forPence : m_o mX12_forPence = 12 := rfl
theorem l_X12_comes : m_l mX12_comes = 7 := rfl
theorem o_X12_comes : m_o mX12_comes = 12 := rfl
theorem l_X12_isLine : m_l mX12_isLine = 2 := rfl
theorem o_X12_isLine : m_o mX12_isLine = 12 := rfl
theorem l_X12_comesOf : m_l mX12_comesOf = 9 := rfl
theorem o_X12_comesOf : m_o mX12_comesOf = 12 := rfl
theorem l_X12_laysFresh : m_l mX12_laysFresh = 9 := rfl
theorem o_X12_laysFresh : m_o mX12_laysFresh = 12 := rfl
theorem l_X12_cameThrough : m_l mX12_cameThrough = 3 := rfl
theorem o_X12_cameThrough : m_o mX12_cameThrough = 12 := rfl
theorem l_X12_apart : m_l mX12_apart = 9 := rfl
theorem o_X12_apart : m_o mX12_apart = 12 := rfl
theorem l_X12_drawn : m_l mX12_drawn = 6 := rfl
theorem o_X12_drawn : m_o mX12_drawn = 12 := rfl
theorem l_X12_comeApart : m_l mX12_comeApart = 7 := rfl
theorem o_X12_comeApart : m_o mX12_comeApart = 12 := rfl
theorem l_X12_wide : m_l mX12_wide = 9 := rfl
theorem o_X12_wide : m_o mX12_wide = 12 := rfl
theorem l_X12_worth : m_l mX12_worth = 6 := rfl
theorem o_X12_worth : m_o mX12_worth = 12 := rfl
theorem l_X12_agree : m_l mX12_agree = 5 := rfl
theorem o_X12_agree : m_o mX12_agree = 12 := rfl
theorem l_X12_least : m_l mX12_least = 11 := rfl
theorem o_X12_least : m_o mX12_least = 12 := rfl
theorem l_X12_heard : m_l mX12_heard = 6 := rfl
theorem o_X12_heard : m_o mX12_heard = 12 := rfl
theorem l_X12_span : m_l mX12_span = 8 := rfl
theorem o_X12_span : m_o mX12_span = 12 := rfl
theorem l_X12_way : m_l mX12_way = 11 := rfl
theorem o_X12_way : m_o mX12_way = 12 := rfl
theorem l_X12_refused : m_l mX12_refused = 2 := rfl
theorem o_X12_refused : m_o mX12_refused = 12 := rfl
theorem l_X12_image : m_l mX12_image = 1 := rfl
theorem o_X12_image : m_o mX12_image = 12 := rfl
theorem l_X12_back : m_l mX12_back = 1 := rfl
theorem o_X12_back : m_o mX12_back = 12 := rfl
theorem l_X12_about : m_l mX12_about = 2 := rfl
theorem o_X12_about : m_o mX12_about = 12 := rfl
section LNK
variable {d : Nat} {M : am_m} {pc : Nat} {L : am_L} {S : List Value} {h : am_h} {Q : Option Value → am_h → Prop}
set_option maxRecDepth 20000 in
theorem lk_13_9 : am_mT.lookup (13, 9) = some (mX11_init, 2) := rfl
theorem c_13_9 {p : Nat} (hd : decode (m_c M) pc = .ok (.invokespecial 9, 3)) (ho : m_o M = 13) : WP (d + 1) M pc L (.ref p :: S) h Q = ((S.map Value.category).sum ≤ 8 ∧ Cal d mX11_init [.ref p] h (Kn (d + 1) M (pc + 3) L S Q)) := by
  rw [w_ci (as := []) (S := S) hd (by rw [ho]; exact lk_13_9) (by decide) rfl]
  simp [am_ag, Value.category, l_X11_init, o_X11_init]
set_option maxRecDepth 20000 in
theorem lk_11_1 : am_mT.lookup (11, 1) = some (mL_law, 3) := rfl
set_option maxRecDepth 20000 in
theorem lk_11_9 : am_mT.lookup (11, 9) = some (mX8_init, 6) := rfl
theorem c_11_9 {p : Nat} (hd : decode (m_c M) pc = .ok (.invokespecial 9, 3)) (ho : m_o M = 11) : WP (d + 1) M pc L (.ref p :: S) h Q = ((S.map Value.category).sum ≤ 8 ∧ Cal d mX8_init [.ref p] h (Kn (d + 1) M (pc + 3) L S Q)) := by
  rw [w_ci (as := []) (S := S) hd (by rw [ho]; exact lk_11_9) (by decide) rfl]
  simp [am_ag, Value.category, l_X8_init, o_X8_init]
set_option maxRecDepth 20000 in
theorem lk_8_3 : am_mT.lookup (8, 3) = some (mL_law, 3) := rfl
set_option maxRecDepth 20000 in
theorem lk_8_11 : am_mT.lookup (8, 11) = some (mX10_init, 6) := rfl
theorem c_8_11 {p : Nat} (hd : decode (m_c M) pc = .ok (.invokespecial 11, 3)) (ho : m_o M = 8) : WP (d + 1) M pc L (.ref p :: S) h Q = ((S.map Value.category).sum ≤ 8 ∧ Cal d mX10_init [.ref p] h (Kn (d + 1) M (pc + 3) L S Q)) := by
  rw [w_ci (as := []) (S := S) hd (by rw [ho]; exact lk_8_11) (by decide) rfl]
  simp [am_ag, Value.category, l_X10_init, o_X10_init]
set_option maxRecDepth 20000 in
theorem lk_10_3 : am_mT.lookup (10, 3) = some (mL_law, 3) := rfl
set_option maxRecDepth 20000 in
theorem lk_8_20 : am_mT.lookup (8, 20) = some (mX5_init, 2) := rfl
theorem c_8_20 {p : Nat} (hd : decode (m_c M) pc = .ok (.invokespecial 20, 3)) (ho : m_o M = 8) : WP (d + 1) M pc L (.ref p :: S) h Q = ((S.map Value.category).sum ≤ 8 ∧ Cal d mX5_init [.ref p] h (Kn (d + 1) M (pc + 3) L S Q)) := by
  rw [w_ci (as := []) (S := S) hd (by rw [ho]; exact lk_8_20) (by decide) rfl]
  simp [am_ag, Value.category, l_X5_init, o_X5_init]
set_option maxRecDepth 20000 in
theorem lk_5_3 : am_mT.lookup (5, 3) = some (mL_law, 3) := rfl
set_option maxRecDepth 20000 in
theorem lk_5_31 : am_mT.lookup (5, 31) = some (mX3_init, 6) := rfl
theorem c_5_31 {p : Nat} (hd : decode (m_c M) pc = .ok (.invokespecial 31, 3)) (ho : m_o M = 5) : WP (d + 1) M pc L (.ref p :: S) h Q = ((S.map Value.category).sum ≤ 8 ∧ Cal d mX3_init [.ref p] h (Kn (d + 1) M (pc + 3) L S Q)) := by
  rw [w_ci (as := []) (S := S) hd (by rw [ho]; exact lk_5_31) (by decide) rfl]
  simp [am_ag, Value.category, l_X3_init, o_X3_init]
set_option maxRecDepth 20000 in
theorem lk_3_3 : am_mT.lookup (3, 3) = some (mL_law, 3) := rfl
set_option maxRecDepth 20000 in
theorem lk_8_27 : am_mT.lookup (8, 27) = some (mX2_init, 2) := rfl
theorem c_8_27 {p : Nat} {v0 : Int32} {v1 : Int32} (hd : decode (m_c M) pc = .ok (.invokespecial 27, 3)) (ho : m_o M = 8) : WP (d + 1) M pc L (.int v1 :: .int v0 :: .ref p :: S) h Q = ((S.map Value.category).sum ≤ 8 ∧ Cal d mX2_init [.ref p, .int v0, .int v1] h (Kn (d + 1) M (pc + 3) L S Q)) := by
  rw [w_ci (as := [.int v0, .int v1]) (S := S) hd (by rw [ho]; exact lk_8_27) (by decide) rfl]
  simp [am_ag, Value.category, l_X2_init, o_X2_init]
set_option maxRecDepth 20000 in
theorem lk_2_3 : am_mT.lookup (2, 3) = some (mL_law, 3) := rfl
set_option maxRecDepth 20000 in
theorem lk_8_48 : am_mT.lookup (8, 48) = some (mX0_init, 6) := rfl
theorem c_8_48 {p : Nat} (hd : decode (m_c M) pc = .ok (.invokespecial 48, 3)) (ho : m_o M = 8) : WP (d + 1) M pc L (.ref p :: S) h Q = ((S.map Value.category).sum ≤ 8 ∧ Cal d mX0_init [.ref p] h (Kn (d + 1) M (pc + 3) L S Q)) := by
  rw [w_ci (as := []) (S := S) hd (by rw [ho]; exact lk_8_48) (by decide) rfl]
  simp [am_ag, Value.category, l_X0_init, o_X0_init]
set_option maxRecDepth 20000 in
theorem lk_0_3 : am_mT.lookup (0, 3) = some (mL_law, 3) := rfl
set_option maxRecDepth 20000 in
theorem lk_8_55 : am_mT.lookup (8, 55) = some (mX1_init, 6) := rfl
theorem c_8_55 {p : Nat} (hd : decode (m_c M) pc = .ok (.invokespecial 55, 3)) (ho : m_o M = 8) : WP (d + 1) M pc L (.ref p :: S) h Q = ((S.map Value.category).sum ≤ 8 ∧ Cal d mX1_init [.ref p] h (Kn (d + 1) M (pc + 3) L S Q)) := by
  rw [w_ci (as := []) (S := S) hd (by rw [ho]; exact lk_8_55) (by decide) rfl]
  simp [am_ag, Value.category, l_X1_init, o_X1_init]
set_option maxRecDepth 20000 in
theorem lk_1_3 : am_mT.lookup (1, 3) = some (mL_law, 3) := rfl
set_option maxRecDepth 20000 in
theorem lk_11_21 : am_mT.lookup (11, 21) = some (mX5_init, 2) := rfl
theorem c_11_21 {p : Nat} (hd : decode (m_c M) pc = .ok (.invokespecial 21, 3)) (ho : m_o M = 11) : WP (d + 1) M pc L (.ref p :: S) h Q = ((S.map Value.category).sum ≤ 8 ∧ Cal d mX5_init [.ref p] h (Kn (d + 1) M (pc + 3) L S Q)) := by
  rw [w_ci (as := []) (S := S) hd (by rw [ho]; exact lk_11_21) (by decide) rfl]
  simp [am_ag, Value.category, l_X5_init, o_X5_init]
set_option maxRecDepth 20000 in
theorem lk_11_28 : am_mT.lookup (11, 28) = some (mX2_init, 2) := rfl
theorem c_11_28 {p : Nat} {v0 : Int32} {v1 : Int32} (hd : decode (m_c M) pc = .ok (.invokespecial 28, 3)) (ho : m_o M = 11) : WP (d + 1) M pc L (.int v1 :: .int v0 :: .ref p :: S) h Q = ((S.map Value.category).sum ≤ 8 ∧ Cal d mX2_init [.ref p, .int v0, .int v1] h (Kn (d + 1) M (pc + 3) L S Q)) := by
  rw [w_ci (as := [.int v0, .int v1]) (S := S) hd (by rw [ho]; exact lk_11_28) (by decide) rfl]
  simp [am_ag, Value.category, l_X2_init, o_X2_init]
set_option maxRecDepth 20000 in
theorem lk_11_43 : am_mT.lookup (11, 43) = some (mX7_init, 6) := rfl
theorem c_11_43 {p : Nat} (hd : decode (m_c M) pc = .ok (.invokespecial 43, 3)) (ho : m_o M = 11) : WP (d + 1) M pc L (.ref p :: S) h Q = ((S.map Value.category).sum ≤ 8 ∧ Cal d mX7_init [.ref p] h (Kn (d + 1) M (pc + 3) L S Q)) := by
  rw [w_ci (as := []) (S := S) hd (by rw [ho]; exact lk_11_43) (by decide) rfl]
  simp [am_ag, Value.category, l_X7_init, o_X7_init]
set_option maxRecDepth 20000 in
theorem lk_7_3 : am_mT.lookup (7, 3) = some (mL_law, 3) := rfl
set_option maxRecDepth 20000 in
theorem lk_11_50 : am_mT.lookup (11, 50) = some (mX4_init, 6) := rfl
theorem c_11_50 {p : Nat} (hd : decode (m_c M) pc = .ok (.invokespecial 50, 3)) (ho : m_o M = 11) : WP (d + 1) M pc L (.ref p :: S) h Q = ((S.map Value.category).sum ≤ 8 ∧ Cal d mX4_init [.ref p] h (Kn (d + 1) M (pc + 3) L S Q)) := by
  rw [w_ci (as := []) (S := S) hd (by rw [ho]; exact lk_11_50) (by decide) rfl]
  simp [am_ag, Value.category, l_X4_init, o_X4_init]
set_option maxRecDepth 20000 in
theorem lk_4_3 : am_mT.lookup (4, 3) = some (mL_law, 3) := rfl
set_option maxRecDepth 20000 in
theorem lk_11_55 : am_mT.lookup (11, 55) = some (mX9_init, 6) := rfl
theorem c_11_55 {p : Nat} (hd : decode (m_c M) pc = .ok (.invokespecial 55, 3)) (ho : m_o M = 11) : WP (d + 1) M pc L (.ref p :: S) h Q = ((S.map Value.category).sum ≤ 8 ∧ Cal d mX9_init [.ref p] h (Kn (d + 1) M (pc + 3) L S Q)) := by
  rw [w_ci (as := []) (S := S) hd (by rw [ho]; exact lk_11_55) (by decide) rfl]
  simp [am_ag, Value.category, l_X9_init, o_X9_init]
set_option maxRecDepth 20000 in
theorem lk_9_3 : am_mT.lookup (9, 3) = some (mL_law, 3) := rfl
set_option maxRecDepth 20000 in
theorem lk_13_13 : am_mT.lookup (13, 13) = some (mX11_tellEnd, 0) := rfl
theorem c_13_13 {p : Nat} {v0 : Int32} {v1 : Int32} {v2 : Int32} {v3 : Int32} (hd : decode (m_c M) pc = .ok (.invokevirtual 13, 3)) (ho : m_o M = 13) : WP (d + 1) M pc L (.int v3 :: .int v2 :: .int v1 :: .int v0 :: .ref p :: S) h Q = ((a_t h p).1 = 11 ∧ (S.map Value.category).sum ≤ 8 ∧ Cal d mX11_tellEnd [.ref p, .int v0, .int v1, .int v2, .int v3] h (Kn (d + 1) M (pc + 3) L S Q)) := by
  rw [w_cv (as := [.int v0, .int v1, .int v2, .int v3]) (S := S) hd (by rw [ho]; exact lk_13_13) rfl rfl]
  simp [am_ag, Value.category, l_X11_tellEnd, o_X11_tellEnd]
set_option maxRecDepth 20000 in
theorem lk_11_56 : am_mT.lookup (11, 56) = some (mX11_within, 1) := rfl
theorem c_11_56 {v0 : Int32} {v1 : Int32} {v2 : Int32} (hd : decode (m_c M) pc = .ok (.invokestatic 56, 3)) (ho : m_o M = 11) : WP (d + 1) M pc L (.int v2 :: .int v1 :: .int v0 :: S) h Q = ((S.map Value.category).sum ≤ 8 ∧ Cal d mX11_within [.int v0, .int v1, .int v2] h (Kn (d + 1) M (pc + 3) L S Q)) := by
  rw [w_cs (as := [.int v0, .int v1, .int v2]) (S := S) hd (by rw [ho]; exact lk_11_56) (by decide) rfl]
  simp [am_ag, Value.category, l_X11_within, o_X11_within]
set_option maxRecDepth 20000 in
theorem lk_11_60 : am_mT.lookup (11, 60) = some (mX11_refuse, 0) := rfl
theorem c_11_60 {p : Nat} {v0 : Int32} {v1 : Int32} (hd : decode (m_c M) pc = .ok (.invokevirtual 60, 3)) (ho : m_o M = 11) : WP (d + 1) M pc L (.int v1 :: .int v0 :: .ref p :: S) h Q = ((a_t h p).1 = 11 ∧ (S.map Value.category).sum ≤ 8 ∧ Cal d mX11_refuse [.ref p, .int v0, .int v1] h (Kn (d + 1) M (pc + 3) L S Q)) := by
  rw [w_cv (as := [.int v0, .int v1]) (S := S) hd (by rw [ho]; exact lk_11_60) rfl rfl]
  simp [am_ag, Value.category, l_X11_refuse, o_X11_refuse]
set_option maxRecDepth 20000 in
theorem lk_11_74 : am_mT.lookup (11, 74) = some (mX10_add, 0) := rfl
theorem c_11_74 {p : Nat} {v0 : Int32} {v1 : Int32} {v2 : Int32} {v3 : Int32} (hd : decode (m_c M) pc = .ok (.invokevirtual 74, 3)) (ho : m_o M = 11) : WP (d + 1) M pc L (.int v3 :: .int v2 :: .int v1 :: .int v0 :: .ref p :: S) h Q = ((a_t h p).1 = 10 ∧ (S.map Value.category).sum ≤ 8 ∧ Cal d mX10_add [.ref p, .int v0, .int v1, .int v2, .int v3] h (Kn (d + 1) M (pc + 3) L S Q)) := by
  rw [w_cv (as := [.int v0, .int v1, .int v2, .int v3]) (S := S) hd (by rw [ho]; exact lk_11_74) rfl rfl]
  simp [am_ag, Value.category, l_X10_add, o_X10_add]
set_option maxRecDepth 20000 in
theorem lk_13_18 : am_mT.lookup (13, 18) = some (mX11_seed, 0) := rfl
theorem c_13_18 {p : Nat} {v0 : Int32} (hd : decode (m_c M) pc = .ok (.invokevirtual 18, 3)) (ho : m_o M = 13) : WP (d + 1) M pc L (.int v0 :: .ref p :: S) h Q = ((a_t h p).1 = 11 ∧ (S.map Value.category).sum ≤ 8 ∧ Cal d mX11_seed [.ref p, .int v0] h (Kn (d + 1) M (pc + 3) L S Q)) := by
  rw [w_cv (as := [.int v0]) (S := S) hd (by rw [ho]; exact lk_13_18) rfl rfl]
  simp [am_ag, Value.category, l_X11_seed, o_X11_seed]
set_option maxRecDepth 20000 in
theorem lk_11_78 : am_mT.lookup (11, 78) = some (mX11_refuseFlatly, 0) := rfl
theorem c_11_78 {p : Nat} {v0 : Int32} (hd : decode (m_c M) pc = .ok (.invokevirtual 78, 3)) (ho : m_o M = 11) : WP (d + 1) M pc L (.int v0 :: .ref p :: S) h Q = ((a_t h p).1 = 11 ∧ (S.map Value.category).sum ≤ 8 ∧ Cal d mX11_refuseFlatly [.ref p, .int v0] h (Kn (d + 1) M (pc + 3) L S Q)) := by
  rw [w_cv (as := [.int v0]) (S := S) hd (by rw [ho]; exact lk_11_78) rfl rfl]
  simp [am_ag, Value.category, l_X11_refuseFlatly, o_X11_refuseFlatly]
set_option maxRecDepth 20000 in
theorem lk_13_23 : am_mT.lookup (13, 23) = some (mX11_delay, 0) := rfl
theorem c_13_23 {p : Nat} {v0 : Int32} {v1 : Int32} {v2 : Int32} (hd : decode (m_c M) pc = .ok (.invokevirtual 23, 3)) (ho : m_o M = 13) : WP (d + 1) M pc L (.int v2 :: .int v1 :: .int v0 :: .ref p :: S) h Q = ((a_t h p).1 = 11 ∧ (S.map Value.category).sum ≤ 8 ∧ Cal d mX11_delay [.ref p, .int v0, .int v1, .int v2] h (Kn (d + 1) M (pc + 3) L S Q)) := by
  rw [w_cv (as := [.int v0, .int v1, .int v2]) (S := S) hd (by rw [ho]; exact lk_13_23) rfl rfl]
  simp [am_ag, Value.category, l_X11_delay, o_X11_delay]
set_option maxRecDepth 20000 in
theorem lk_11_88 : am_mT.lookup (11, 88) = some (mX11_areTwoEnds, 0) := rfl
theorem c_11_88 {p : Nat} {v0 : Int32} {v1 : Int32} (hd : decode (m_c M) pc = .ok (.invokevirtual 88, 3)) (ho : m_o M = 11) : WP (d + 1) M pc L (.int v1 :: .int v0 :: .ref p :: S) h Q = ((a_t h p).1 = 11 ∧ (S.map Value.category).sum ≤ 8 ∧ Cal d mX11_areTwoEnds [.ref p, .int v0, .int v1] h (Kn (d + 1) M (pc + 3) L S Q)) := by
  rw [w_cv (as := [.int v0, .int v1]) (S := S) hd (by rw [ho]; exact lk_11_88) rfl rfl]
  simp [am_ag, Value.category, l_X11_areTwoEnds, o_X11_areTwoEnds]
set_option maxRecDepth 20000 in
theorem lk_11_105 : am_mT.lookup (11, 105) = some (mX11_isEnd, 0) := rfl
theorem c_11_105 {p : Nat} {v0 : Int32} (hd : decode (m_c M) pc = .ok (.invokevirtual 105, 3)) (ho : m_o M = 11) : WP (d + 1) M pc L (.int v0 :: .ref p :: S) h Q = ((a_t h p).1 = 11 ∧ (S.map Value.category).sum ≤ 8 ∧ Cal d mX11_isEnd [.ref p, .int v0] h (Kn (d + 1) M (pc + 3) L S Q)) := by
  rw [w_cv (as := [.int v0]) (S := S) hd (by rw [ho]; exact lk_11_105) rfl rfl]
  simp [am_ag, Value.category, l_X11_isEnd, o_X11_isEnd]
set_option maxRecDepth 20000 in
theorem lk_11_92 : am_mT.lookup (11, 92) = some (mX5_delayOf, 0) := rfl
theorem c_11_92 {p : Nat} {v0 : Int32} {v1 : Int32} (hd : decode (m_c M) pc = .ok (.invokevirtual 92, 3)) (ho : m_o M = 11) : WP (d + 1) M pc L (.int v1 :: .int v0 :: .ref p :: S) h Q = ((a_t h p).1 = 5 ∧ (S.map Value.category).sum ≤ 8 ∧ Cal d mX5_delayOf [.ref p, .int v0, .int v1] h (Kn (d + 1) M (pc + 3) L S Q)) := by
  rw [w_cv (as := [.int v0, .int v1]) (S := S) hd (by rw [ho]; exact lk_11_92) rfl rfl]
  simp [am_ag, Value.category, l_X5_delayOf, o_X5_delayOf]
set_option maxRecDepth 20000 in
theorem lk_11_95 : am_mT.lookup (11, 95) = some (mX8_keepStep, 0) := rfl
theorem c_11_95 {p : Nat} (hd : decode (m_c M) pc = .ok (.invokevirtual 95, 3)) (ho : m_o M = 11) : WP (d + 1) M pc L (.ref p :: S) h Q = ((a_t h p).1 = 8 ∧ (S.map Value.category).sum ≤ 8 ∧ Cal d mX8_keepStep [.ref p] h (Kn (d + 1) M (pc + 3) L S Q)) := by
  rw [w_cv (as := []) (S := S) hd (by rw [ho]; exact lk_11_95) rfl rfl]
  simp [am_ag, Value.category, l_X8_keepStep, o_X8_keepStep]
set_option maxRecDepth 20000 in
theorem lk_8_70 : am_mT.lookup (8, 70) = some (mX8_stepRow, 0) := rfl
theorem c_8_70 {p : Nat} {v0 : Int32} (hd : decode (m_c M) pc = .ok (.invokevirtual 70, 3)) (ho : m_o M = 8) : WP (d + 1) M pc L (.int v0 :: .ref p :: S) h Q = ((a_t h p).1 = 8 ∧ (S.map Value.category).sum ≤ 8 ∧ Cal d mX8_stepRow [.ref p, .int v0] h (Kn (d + 1) M (pc + 3) L S Q)) := by
  rw [w_cv (as := [.int v0]) (S := S) hd (by rw [ho]; exact lk_8_70) rfl rfl]
  simp [am_ag, Value.category, l_X8_stepRow, o_X8_stepRow]
set_option maxRecDepth 20000 in
theorem lk_8_64 : am_mT.lookup (8, 64) = some (mX5_copyFrom, 0) := rfl
theorem c_8_64 {p : Nat} {v0 : Nat} (hd : decode (m_c M) pc = .ok (.invokevirtual 64, 3)) (ho : m_o M = 8) : WP (d + 1) M pc L (.ref v0 :: .ref p :: S) h Q = ((a_t h p).1 = 5 ∧ (S.map Value.category).sum ≤ 8 ∧ Cal d mX5_copyFrom [.ref p, .ref v0] h (Kn (d + 1) M (pc + 3) L S Q)) := by
  rw [w_cv (as := [.ref v0]) (S := S) hd (by rw [ho]; exact lk_8_64) rfl rfl]
  simp [am_ag, Value.category, l_X5_copyFrom, o_X5_copyFrom]
set_option maxRecDepth 20000 in
theorem lk_5_44 : am_mT.lookup (5, 44) = some (mX3_copyFrom, 0) := rfl
theorem c_5_44 {p : Nat} {v0 : Nat} (hd : decode (m_c M) pc = .ok (.invokevirtual 44, 3)) (ho : m_o M = 5) : WP (d + 1) M pc L (.ref v0 :: .ref p :: S) h Q = ((a_t h p).1 = 3 ∧ (S.map Value.category).sum ≤ 8 ∧ Cal d mX3_copyFrom [.ref p, .ref v0] h (Kn (d + 1) M (pc + 3) L S Q)) := by
  rw [w_cv (as := [.ref v0]) (S := S) hd (by rw [ho]; exact lk_5_44) rfl rfl]
  simp [am_ag, Value.category, l_X3_copyFrom, o_X3_copyFrom]
set_option maxRecDepth 20000 in
theorem lk_8_98 : am_mT.lookup (8, 98) = some (mJ9_min_7cf53, 8) := rfl
set_option maxRecDepth 20000 in
theorem lk_13_28 : am_mT.lookup (13, 28) = some (mX11_rule, 0) := rfl
theorem c_13_28 {p : Nat} {v0 : Int32} (hd : decode (m_c M) pc = .ok (.invokevirtual 28, 3)) (ho : m_o M = 13) : WP (d + 1) M pc L (.int v0 :: .ref p :: S) h Q = ((a_t h p).1 = 11 ∧ (S.map Value.category).sum ≤ 8 ∧ Cal d mX11_rule [.ref p, .int v0] h (Kn (d + 1) M (pc + 3) L S Q)) := by
  rw [w_cv (as := [.int v0]) (S := S) hd (by rw [ho]; exact lk_13_28) rfl rfl]
  simp [am_ag, Value.category, l_X11_rule, o_X11_rule]
set_option maxRecDepth 20000 in
theorem lk_13_32 : am_mT.lookup (13, 32) = some (mX11_speak, 0) := rfl
theorem c_13_32 {p : Nat} {v0 : Int32} {v1 : Int32} (hd : decode (m_c M) pc = .ok (.invokevirtual 32, 3)) (ho : m_o M = 13) : WP (d + 1) M pc L (.int v1 :: .int v0 :: .ref p :: S) h Q = ((a_t h p).1 = 11 ∧ (S.map Value.category).sum ≤ 8 ∧ Cal d mX11_speak [.ref p, .int v0, .int v1] h (Kn (d + 1) M (pc + 3) L S Q)) := by
  rw [w_cv (as := [.int v0, .int v1]) (S := S) hd (by rw [ho]; exact lk_13_32) rfl rfl]
  simp [am_ag, Value.category, l_X11_speak, o_X11_speak]
set_option maxRecDepth 20000 in
theorem lk_11_114 : am_mT.lookup (11, 114) = some (mX2_isFull, 0) := rfl
theorem c_11_114 {p : Nat} {v0 : Int32} (hd : decode (m_c M) pc = .ok (.invokevirtual 114, 3)) (ho : m_o M = 11) : WP (d + 1) M pc L (.int v0 :: .ref p :: S) h Q = ((a_t h p).1 = 2 ∧ (S.map Value.category).sum ≤ 8 ∧ Cal d mX2_isFull [.ref p, .int v0] h (Kn (d + 1) M (pc + 3) L S Q)) := by
  rw [w_cv (as := [.int v0]) (S := S) hd (by rw [ho]; exact lk_11_114) rfl rfl]
  simp [am_ag, Value.category, l_X2_isFull, o_X2_isFull]
set_option maxRecDepth 20000 in
theorem lk_11_130 : am_mT.lookup (11, 130) = some (mX5_openTurn, 0) := rfl
theorem c_11_130 {p : Nat} {v0 : Int32} {v1 : Int32} {v2 : Int32} {v3 : Nat} (hd : decode (m_c M) pc = .ok (.invokevirtual 130, 3)) (ho : m_o M = 11) : WP (d + 1) M pc L (.ref v3 :: .int v2 :: .int v1 :: .int v0 :: .ref p :: S) h Q = ((a_t h p).1 = 5 ∧ (S.map Value.category).sum ≤ 8 ∧ Cal d mX5_openTurn [.ref p, .int v0, .int v1, .int v2, .ref v3] h (Kn (d + 1) M (pc + 3) L S Q)) := by
  rw [w_cv (as := [.int v0, .int v1, .int v2, .ref v3]) (S := S) hd (by rw [ho]; exact lk_11_130) rfl rfl]
  simp [am_ag, Value.category, l_X5_openTurn, o_X5_openTurn]
set_option maxRecDepth 20000 in
theorem lk_5_150 : am_mT.lookup (5, 150) = some (mX2_openTurn, 0) := rfl
theorem c_5_150 {p : Nat} {v0 : Int32} {v1 : Int32} {v2 : Int32} {v3 : Int32} (hd : decode (m_c M) pc = .ok (.invokevirtual 150, 3)) (ho : m_o M = 5) : WP (d + 1) M pc L (.int v3 :: .int v2 :: .int v1 :: .int v0 :: .ref p :: S) h Q = ((a_t h p).1 = 2 ∧ (S.map Value.category).sum ≤ 8 ∧ Cal d mX2_openTurn [.ref p, .int v0, .int v1, .int v2, .int v3] h (Kn (d + 1) M (pc + 3) L S Q)) := by
  rw [w_cv (as := [.int v0, .int v1, .int v2, .int v3]) (S := S) hd (by rw [ho]; exact lk_5_150) rfl rfl]
  simp [am_ag, Value.category, l_X2_openTurn, o_X2_openTurn]
set_option maxRecDepth 20000 in
theorem lk_2_45 : am_mT.lookup (2, 45) = some (mX2_hasRow, 0) := rfl
theorem c_2_45 {p : Nat} {v0 : Int32} (hd : decode (m_c M) pc = .ok (.invokevirtual 45, 3)) (ho : m_o M = 2) : WP (d + 1) M pc L (.int v0 :: .ref p :: S) h Q = ((a_t h p).1 = 2 ∧ (S.map Value.category).sum ≤ 8 ∧ Cal d mX2_hasRow [.ref p, .int v0] h (Kn (d + 1) M (pc + 3) L S Q)) := by
  rw [w_cv (as := [.int v0]) (S := S) hd (by rw [ho]; exact lk_2_45) rfl rfl]
  simp [am_ag, Value.category, l_X2_hasRow, o_X2_hasRow]
set_option maxRecDepth 20000 in
theorem lk_13_37 : am_mT.lookup (13, 37) = some (mX11_hush, 0) := rfl
theorem c_13_37 {p : Nat} {v0 : Int32} (hd : decode (m_c M) pc = .ok (.invokevirtual 37, 3)) (ho : m_o M = 13) : WP (d + 1) M pc L (.int v0 :: .ref p :: S) h Q = ((a_t h p).1 = 11 ∧ (S.map Value.category).sum ≤ 8 ∧ Cal d mX11_hush [.ref p, .int v0] h (Kn (d + 1) M (pc + 3) L S Q)) := by
  rw [w_cv (as := [.int v0]) (S := S) hd (by rw [ho]; exact lk_13_37) rfl rfl]
  simp [am_ag, Value.category, l_X11_hush, o_X11_hush]
set_option maxRecDepth 20000 in
theorem lk_11_137 : am_mT.lookup (11, 137) = some (mX5_closeTurn, 0) := rfl
theorem c_11_137 {p : Nat} {v0 : Int32} {v1 : Int32} {v2 : Int32} {v3 : Nat} (hd : decode (m_c M) pc = .ok (.invokevirtual 137, 3)) (ho : m_o M = 11) : WP (d + 1) M pc L (.ref v3 :: .int v2 :: .int v1 :: .int v0 :: .ref p :: S) h Q = ((a_t h p).1 = 5 ∧ (S.map Value.category).sum ≤ 8 ∧ Cal d mX5_closeTurn [.ref p, .int v0, .int v1, .int v2, .ref v3] h (Kn (d + 1) M (pc + 3) L S Q)) := by
  rw [w_cv (as := [.int v0, .int v1, .int v2, .ref v3]) (S := S) hd (by rw [ho]; exact lk_11_137) rfl rfl]
  simp [am_ag, Value.category, l_X5_closeTurn, o_X5_closeTurn]
set_option maxRecDepth 20000 in
theorem lk_5_159 : am_mT.lookup (5, 159) = some (mX2_closeTurn, 0) := rfl
theorem c_5_159 {p : Nat} {v0 : Int32} {v1 : Int32} {v2 : Int32} (hd : decode (m_c M) pc = .ok (.invokevirtual 159, 3)) (ho : m_o M = 5) : WP (d + 1) M pc L (.int v2 :: .int v1 :: .int v0 :: .ref p :: S) h Q = ((a_t h p).1 = 2 ∧ (S.map Value.category).sum ≤ 8 ∧ Cal d mX2_closeTurn [.ref p, .int v0, .int v1, .int v2] h (Kn (d + 1) M (pc + 3) L S Q)) := by
  rw [w_cv (as := [.int v0, .int v1, .int v2]) (S := S) hd (by rw [ho]; exact lk_5_159) rfl rfl]
  simp [am_ag, Value.category, l_X2_closeTurn, o_X2_closeTurn]
set_option maxRecDepth 20000 in
theorem lk_13_42 : am_mT.lookup (13, 42) = some (mX11_yes, 0) := rfl
theorem c_13_42 {p : Nat} {v0 : Int32} (hd : decode (m_c M) pc = .ok (.invokevirtual 42, 3)) (ho : m_o M = 13) : WP (d + 1) M pc L (.int v0 :: .ref p :: S) h Q = ((a_t h p).1 = 11 ∧ (S.map Value.category).sum ≤ 8 ∧ Cal d mX11_yes [.ref p, .int v0] h (Kn (d + 1) M (pc + 3) L S Q)) := by
  rw [w_cv (as := [.int v0]) (S := S) hd (by rw [ho]; exact lk_13_42) rfl rfl]
  simp [am_ag, Value.category, l_X11_yes, o_X11_yes]
set_option maxRecDepth 20000 in
theorem lk_11_143 : am_mT.lookup (11, 143) = some (mX2_addYes, 0) := rfl
theorem c_11_143 {p : Nat} {v0 : Int32} {v1 : Nat} (hd : decode (m_c M) pc = .ok (.invokevirtual 143, 3)) (ho : m_o M = 11) : WP (d + 1) M pc L (.ref v1 :: .int v0 :: .ref p :: S) h Q = ((a_t h p).1 = 2 ∧ (S.map Value.category).sum ≤ 8 ∧ Cal d mX2_addYes [.ref p, .int v0, .ref v1] h (Kn (d + 1) M (pc + 3) L S Q)) := by
  rw [w_cv (as := [.int v0, .ref v1]) (S := S) hd (by rw [ho]; exact lk_11_143) rfl rfl]
  simp [am_ag, Value.category, l_X2_addYes, o_X2_addYes]
set_option maxRecDepth 20000 in
theorem lk_2_56 : am_mT.lookup (2, 56) = some (mX2_heardOutLast, 0) := rfl
theorem c_2_56 {p : Nat} {v0 : Int32} {v1 : Nat} (hd : decode (m_c M) pc = .ok (.invokevirtual 56, 3)) (ho : m_o M = 2) : WP (d + 1) M pc L (.ref v1 :: .int v0 :: .ref p :: S) h Q = ((a_t h p).1 = 2 ∧ (S.map Value.category).sum ≤ 8 ∧ Cal d mX2_heardOutLast [.ref p, .int v0, .ref v1] h (Kn (d + 1) M (pc + 3) L S Q)) := by
  rw [w_cv (as := [.int v0, .ref v1]) (S := S) hd (by rw [ho]; exact lk_2_56) rfl rfl]
  simp [am_ag, Value.category, l_X2_heardOutLast, o_X2_heardOutLast]
set_option maxRecDepth 20000 in
theorem lk_2_60 : am_mT.lookup (2, 60) = some (mX2_isSpokenBy, 0) := rfl
theorem c_2_60 {p : Nat} {v0 : Int32} {v1 : Int32} (hd : decode (m_c M) pc = .ok (.invokevirtual 60, 3)) (ho : m_o M = 2) : WP (d + 1) M pc L (.int v1 :: .int v0 :: .ref p :: S) h Q = ((a_t h p).1 = 2 ∧ (S.map Value.category).sum ≤ 8 ∧ Cal d mX2_isSpokenBy [.ref p, .int v0, .int v1] h (Kn (d + 1) M (pc + 3) L S Q)) := by
  rw [w_cv (as := [.int v0, .int v1]) (S := S) hd (by rw [ho]; exact lk_2_60) rfl rfl]
  simp [am_ag, Value.category, l_X2_isSpokenBy, o_X2_isSpokenBy]
set_option maxRecDepth 20000 in
theorem lk_2_64 : am_mT.lookup (2, 64) = some (mX5_lag, 0) := rfl
theorem c_2_64 {p : Nat} {v0 : Int32} {v1 : Int32} (hd : decode (m_c M) pc = .ok (.invokevirtual 64, 3)) (ho : m_o M = 2) : WP (d + 1) M pc L (.int v1 :: .int v0 :: .ref p :: S) h Q = ((a_t h p).1 = 5 ∧ (S.map Value.category).sum ≤ 8 ∧ Cal d mX5_lag [.ref p, .int v0, .int v1] h (Kn (d + 1) M (pc + 3) L S Q)) := by
  rw [w_cv (as := [.int v0, .int v1]) (S := S) hd (by rw [ho]; exact lk_2_64) rfl rfl]
  simp [am_ag, Value.category, l_X5_lag, o_X5_lag]
set_option maxRecDepth 20000 in
theorem lk_5_48 : am_mT.lookup (5, 48) = some (mX5_delayOf, 0) := rfl
theorem c_5_48 {p : Nat} {v0 : Int32} {v1 : Int32} (hd : decode (m_c M) pc = .ok (.invokevirtual 48, 3)) (ho : m_o M = 5) : WP (d + 1) M pc L (.int v1 :: .int v0 :: .ref p :: S) h Q = ((a_t h p).1 = 5 ∧ (S.map Value.category).sum ≤ 8 ∧ Cal d mX5_delayOf [.ref p, .int v0, .int v1] h (Kn (d + 1) M (pc + 3) L S Q)) := by
  rw [w_cv (as := [.int v0, .int v1]) (S := S) hd (by rw [ho]; exact lk_5_48) rfl rfl]
  simp [am_ag, Value.category, l_X5_delayOf, o_X5_delayOf]
set_option maxRecDepth 20000 in
theorem lk_13_46 : am_mT.lookup (13, 46) = some (mX11_go, 0) := rfl
theorem c_13_46 {p : Nat} {v0 : Int32} (hd : decode (m_c M) pc = .ok (.invokevirtual 46, 3)) (ho : m_o M = 13) : WP (d + 1) M pc L (.int v0 :: .ref p :: S) h Q = ((a_t h p).1 = 11 ∧ (S.map Value.category).sum ≤ 8 ∧ Cal d mX11_go [.ref p, .int v0] h (Kn (d + 1) M (pc + 3) L S Q)) := by
  rw [w_cv (as := [.int v0]) (S := S) hd (by rw [ho]; exact lk_13_46) rfl rfl]
  simp [am_ag, Value.category, l_X11_go, o_X11_go]
set_option maxRecDepth 20000 in
theorem lk_11_147 : am_mT.lookup (11, 147) = some (mX11_lawsNow, 0) := rfl
theorem c_11_147 {p : Nat} (hd : decode (m_c M) pc = .ok (.invokevirtual 147, 3)) (ho : m_o M = 11) : WP (d + 1) M pc L (.ref p :: S) h Q = ((a_t h p).1 = 11 ∧ (S.map Value.category).sum ≤ 8 ∧ Cal d mX11_lawsNow [.ref p] h (Kn (d + 1) M (pc + 3) L S Q)) := by
  rw [w_cv (as := []) (S := S) hd (by rw [ho]; exact lk_11_147) rfl rfl]
  simp [am_ag, Value.category, l_X11_lawsNow, o_X11_lawsNow]
set_option maxRecDepth 20000 in
theorem lk_11_151 : am_mT.lookup (11, 151) = some (mX5_pass, 0) := rfl
theorem c_11_151 {p : Nat} {v0 : Int32} {v1 : Nat} {v2 : Nat} {v3 : Nat} (hd : decode (m_c M) pc = .ok (.invokevirtual 151, 3)) (ho : m_o M = 11) : WP (d + 1) M pc L (.ref v3 :: .ref v2 :: .ref v1 :: .int v0 :: .ref p :: S) h Q = ((a_t h p).1 = 5 ∧ (S.map Value.category).sum ≤ 8 ∧ Cal d mX5_pass [.ref p, .int v0, .ref v1, .ref v2, .ref v3] h (Kn (d + 1) M (pc + 3) L S Q)) := by
  rw [w_cv (as := [.int v0, .ref v1, .ref v2, .ref v3]) (S := S) hd (by rw [ho]; exact lk_11_151) rfl rfl]
  simp [am_ag, Value.category, l_X5_pass, o_X5_pass]
set_option maxRecDepth 20000 in
theorem lk_5_57 : am_mT.lookup (5, 57) = some (mX5_listen, 0) := rfl
theorem c_5_57 {p : Nat} {v0 : Int32} {v1 : Int32} (hd : decode (m_c M) pc = .ok (.invokevirtual 57, 3)) (ho : m_o M = 5) : WP (d + 1) M pc L (.int v1 :: .int v0 :: .ref p :: S) h Q = ((a_t h p).1 = 5 ∧ (S.map Value.category).sum ≤ 8 ∧ Cal d mX5_listen [.ref p, .int v0, .int v1] h (Kn (d + 1) M (pc + 3) L S Q)) := by
  rw [w_cv (as := [.int v0, .int v1]) (S := S) hd (by rw [ho]; exact lk_5_57) rfl rfl]
  simp [am_ag, Value.category, l_X5_listen, o_X5_listen]
set_option maxRecDepth 20000 in
theorem lk_5_79 : am_mT.lookup (5, 79) = some (mX3_spokeAgo, 0) := rfl
theorem c_5_79 {p : Nat} {v0 : Int32} (hd : decode (m_c M) pc = .ok (.invokevirtual 79, 3)) (ho : m_o M = 5) : WP (d + 1) M pc L (.int v0 :: .ref p :: S) h Q = ((a_t h p).1 = 3 ∧ (S.map Value.category).sum ≤ 8 ∧ Cal d mX3_spokeAgo [.ref p, .int v0] h (Kn (d + 1) M (pc + 3) L S Q)) := by
  rw [w_cv (as := [.int v0]) (S := S) hd (by rw [ho]; exact lk_5_79) rfl rfl]
  simp [am_ag, Value.category, l_X3_spokeAgo, o_X3_spokeAgo]
set_option maxRecDepth 20000 in
theorem lk_5_65 : am_mT.lookup (5, 65) = some (mX5_speakOn, 0) := rfl
theorem c_5_65 {p : Nat} {v0 : Int32} {v1 : Nat} {v2 : Nat} {v3 : Nat} (hd : decode (m_c M) pc = .ok (.invokevirtual 65, 3)) (ho : m_o M = 5) : WP (d + 1) M pc L (.ref v3 :: .ref v2 :: .ref v1 :: .int v0 :: .ref p :: S) h Q = ((a_t h p).1 = 5 ∧ (S.map Value.category).sum ≤ 8 ∧ Cal d mX5_speakOn [.ref p, .int v0, .ref v1, .ref v2, .ref v3] h (Kn (d + 1) M (pc + 3) L S Q)) := by
  rw [w_cv (as := [.int v0, .ref v1, .ref v2, .ref v3]) (S := S) hd (by rw [ho]; exact lk_5_65) rfl rfl]
  simp [am_ag, Value.category, l_X5_speakOn, o_X5_speakOn]
set_option maxRecDepth 20000 in
theorem lk_5_97 : am_mT.lookup (5, 97) = some (mX4_ofEnd, 0) := rfl
theorem c_5_97 {p : Nat} {v0 : Int32} {v1 : Int32} {v2 : Nat} {v3 : Nat} (hd : decode (m_c M) pc = .ok (.invokevirtual 97, 3)) (ho : m_o M = 5) : WP (d + 1) M pc L (.ref v3 :: .ref v2 :: .int v1 :: .int v0 :: .ref p :: S) h Q = ((a_t h p).1 = 4 ∧ (S.map Value.category).sum ≤ 8 ∧ Cal d mX4_ofEnd [.ref p, .int v0, .int v1, .ref v2, .ref v3] h (Kn (d + 1) M (pc + 3) L S Q)) := by
  rw [w_cv (as := [.int v0, .int v1, .ref v2, .ref v3]) (S := S) hd (by rw [ho]; exact lk_5_97) rfl rfl]
  simp [am_ag, Value.category, l_X4_ofEnd, o_X4_ofEnd]
set_option maxRecDepth 20000 in
theorem lk_4_27 : am_mT.lookup (4, 27) = some (mX4_has, 0) := rfl
theorem c_4_27 {p : Nat} {v0 : Int32} (hd : decode (m_c M) pc = .ok (.invokevirtual 27, 3)) (ho : m_o M = 4) : WP (d + 1) M pc L (.int v0 :: .ref p :: S) h Q = ((a_t h p).1 = 4 ∧ (S.map Value.category).sum ≤ 8 ∧ Cal d mX4_has [.ref p, .int v0] h (Kn (d + 1) M (pc + 3) L S Q)) := by
  rw [w_cv (as := [.int v0]) (S := S) hd (by rw [ho]; exact lk_4_27) rfl rfl]
  simp [am_ag, Value.category, l_X4_has, o_X4_has]
set_option maxRecDepth 20000 in
theorem lk_4_31 : am_mT.lookup (4, 31) = some (mX4_nameAll, 0) := rfl
theorem c_4_31 {p : Nat} {v0 : Int32} {v1 : Nat} {v2 : Nat} (hd : decode (m_c M) pc = .ok (.invokevirtual 31, 3)) (ho : m_o M = 4) : WP (d + 1) M pc L (.ref v2 :: .ref v1 :: .int v0 :: .ref p :: S) h Q = ((a_t h p).1 = 4 ∧ (S.map Value.category).sum ≤ 8 ∧ Cal d mX4_nameAll [.ref p, .int v0, .ref v1, .ref v2] h (Kn (d + 1) M (pc + 3) L S Q)) := by
  rw [w_cv (as := [.int v0, .ref v1, .ref v2]) (S := S) hd (by rw [ho]; exact lk_4_31) rfl rfl]
  simp [am_ag, Value.category, l_X4_nameAll, o_X4_nameAll]
set_option maxRecDepth 20000 in
theorem lk_4_64 : am_mT.lookup (4, 64) = some (mX4_valueOf, 0) := rfl
theorem c_4_64 {p : Nat} {v0 : Int32} (hd : decode (m_c M) pc = .ok (.invokevirtual 64, 3)) (ho : m_o M = 4) : WP (d + 1) M pc L (.int v0 :: .ref p :: S) h Q = ((a_t h p).1 = 4 ∧ (S.map Value.category).sum ≤ 8 ∧ Cal d mX4_valueOf [.ref p, .int v0] h (Kn (d + 1) M (pc + 3) L S Q)) := by
  rw [w_cv (as := [.int v0]) (S := S) hd (by rw [ho]; exact lk_4_64) rfl rfl]
  simp [am_ag, Value.category, l_X4_valueOf, o_X4_valueOf]
set_option maxRecDepth 20000 in
theorem lk_4_85 : am_mT.lookup (4, 85) = some (mJ9_min_7cf53, 8) := rfl
set_option maxRecDepth 20000 in
theorem lk_4_91 : am_mT.lookup (4, 91) = some (mX4_push, 0) := rfl
theorem c_4_91 {p : Nat} {v0 : Int32} (hd : decode (m_c M) pc = .ok (.invokevirtual 91, 3)) (ho : m_o M = 4) : WP (d + 1) M pc L (.int v0 :: .ref p :: S) h Q = ((a_t h p).1 = 4 ∧ (S.map Value.category).sum ≤ 8 ∧ Cal d mX4_push [.ref p, .int v0] h (Kn (d + 1) M (pc + 3) L S Q)) := by
  rw [w_cv (as := [.int v0]) (S := S) hd (by rw [ho]; exact lk_4_91) rfl rfl]
  simp [am_ag, Value.category, l_X4_push, o_X4_push]
set_option maxRecDepth 20000 in
theorem lk_4_95 : am_mT.lookup (4, 95) = some (mJ9_max_7cf53, 7) := rfl
set_option maxRecDepth 20000 in
theorem lk_4_98 : am_mT.lookup (4, 98) = some (mX4_pop, 0) := rfl
theorem c_4_98 {p : Nat} (hd : decode (m_c M) pc = .ok (.invokevirtual 98, 3)) (ho : m_o M = 4) : WP (d + 1) M pc L (.ref p :: S) h Q = ((a_t h p).1 = 4 ∧ (S.map Value.category).sum ≤ 8 ∧ Cal d mX4_pop [.ref p] h (Kn (d + 1) M (pc + 3) L S Q)) := by
  rw [w_cv (as := []) (S := S) hd (by rw [ho]; exact lk_4_98) rfl rfl]
  simp [am_ag, Value.category, l_X4_pop, o_X4_pop]
set_option maxRecDepth 20000 in
theorem lk_4_102 : am_mT.lookup (4, 102) = some (mX4_reckon, 1) := rfl
theorem c_4_102 {v0 : Int32} {v1 : Int64} {v2 : Int64} (hd : decode (m_c M) pc = .ok (.invokestatic 102, 3)) (ho : m_o M = 4) : WP (d + 1) M pc L (.long v2 :: .long v1 :: .int v0 :: S) h Q = ((S.map Value.category).sum ≤ 8 ∧ Cal d mX4_reckon [.int v0, .long v1, .long v2] h (Kn (d + 1) M (pc + 3) L S Q)) := by
  rw [w_cs (as := [.int v0, .long v1, .long v2]) (S := S) hd (by rw [ho]; exact lk_4_102) (by decide) rfl]
  simp [am_ag, Value.category, l_X4_reckon, o_X4_reckon]
set_option maxRecDepth 20000 in
theorem lk_4_120 : am_mT.lookup (4, 120) = some (mJ9_min_f86c9, 10) := rfl
set_option maxRecDepth 20000 in
theorem lk_4_123 : am_mT.lookup (4, 123) = some (mJ9_max_f86c9, 9) := rfl
set_option maxRecDepth 20000 in
theorem lk_4_106 : am_mT.lookup (4, 106) = some (mX4_asked, 1) := rfl
theorem c_4_106 {v0 : Int32} {v1 : Int32} {v2 : Int32} (hd : decode (m_c M) pc = .ok (.invokestatic 106, 3)) (ho : m_o M = 4) : WP (d + 1) M pc L (.int v2 :: .int v1 :: .int v0 :: S) h Q = ((S.map Value.category).sum ≤ 8 ∧ Cal d mX4_asked [.int v0, .int v1, .int v2] h (Kn (d + 1) M (pc + 3) L S Q)) := by
  rw [w_cs (as := [.int v0, .int v1, .int v2]) (S := S) hd (by rw [ho]; exact lk_4_106) (by decide) rfl]
  simp [am_ag, Value.category, l_X4_asked, o_X4_asked]
set_option maxRecDepth 20000 in
theorem lk_5_103 : am_mT.lookup (5, 103) = some (mX5_closeTurn, 0) := rfl
theorem c_5_103 {p : Nat} {v0 : Int32} {v1 : Int32} {v2 : Int32} {v3 : Nat} (hd : decode (m_c M) pc = .ok (.invokevirtual 103, 3)) (ho : m_o M = 5) : WP (d + 1) M pc L (.ref v3 :: .int v2 :: .int v1 :: .int v0 :: .ref p :: S) h Q = ((a_t h p).1 = 5 ∧ (S.map Value.category).sum ≤ 8 ∧ Cal d mX5_closeTurn [.ref p, .int v0, .int v1, .int v2, .ref v3] h (Kn (d + 1) M (pc + 3) L S Q)) := by
  rw [w_cv (as := [.int v0, .int v1, .int v2, .ref v3]) (S := S) hd (by rw [ho]; exact lk_5_103) rfl rfl]
  simp [am_ag, Value.category, l_X5_closeTurn, o_X5_closeTurn]
set_option maxRecDepth 20000 in
theorem lk_5_69 : am_mT.lookup (5, 69) = some (mX5_keepSilence, 0) := rfl
theorem c_5_69 {p : Nat} {v0 : Int32} {v1 : Nat} {v2 : Nat} {v3 : Nat} (hd : decode (m_c M) pc = .ok (.invokevirtual 69, 3)) (ho : m_o M = 5) : WP (d + 1) M pc L (.ref v3 :: .ref v2 :: .ref v1 :: .int v0 :: .ref p :: S) h Q = ((a_t h p).1 = 5 ∧ (S.map Value.category).sum ≤ 8 ∧ Cal d mX5_keepSilence [.ref p, .int v0, .ref v1, .ref v2, .ref v3] h (Kn (d + 1) M (pc + 3) L S Q)) := by
  rw [w_cv (as := [.int v0, .ref v1, .ref v2, .ref v3]) (S := S) hd (by rw [ho]; exact lk_5_69) rfl rfl]
  simp [am_ag, Value.category, l_X5_keepSilence, o_X5_keepSilence]
set_option maxRecDepth 20000 in
theorem lk_5_116 : am_mT.lookup (5, 116) = some (mX5_findPatience, 0) := rfl
theorem c_5_116 {p : Nat} {v0 : Int32} {v1 : Int32} {v2 : Nat} (hd : decode (m_c M) pc = .ok (.invokevirtual 116, 3)) (ho : m_o M = 5) : WP (d + 1) M pc L (.ref v2 :: .int v1 :: .int v0 :: .ref p :: S) h Q = ((a_t h p).1 = 5 ∧ (S.map Value.category).sum ≤ 8 ∧ Cal d mX5_findPatience [.ref p, .int v0, .int v1, .ref v2] h (Kn (d + 1) M (pc + 3) L S Q)) := by
  rw [w_cv (as := [.int v0, .int v1, .ref v2]) (S := S) hd (by rw [ho]; exact lk_5_116) rfl rfl]
  simp [am_ag, Value.category, l_X5_findPatience, o_X5_findPatience]
set_option maxRecDepth 20000 in
theorem lk_5_134 : am_mT.lookup (5, 134) = some (mX5_draw, 0) := rfl
theorem c_5_134 {p : Nat} {v0 : Int32} (hd : decode (m_c M) pc = .ok (.invokevirtual 134, 3)) (ho : m_o M = 5) : WP (d + 1) M pc L (.int v0 :: .ref p :: S) h Q = ((a_t h p).1 = 5 ∧ (S.map Value.category).sum ≤ 8 ∧ Cal d mX5_draw [.ref p, .int v0] h (Kn (d + 1) M (pc + 3) L S Q)) := by
  rw [w_cv (as := [.int v0]) (S := S) hd (by rw [ho]; exact lk_5_134) rfl rfl]
  simp [am_ag, Value.category, l_X5_draw, o_X5_draw]
set_option maxRecDepth 20000 in
theorem lk_5_138 : am_mT.lookup (5, 138) = some (mX3_wasCalled, 0) := rfl
theorem c_5_138 {p : Nat} (hd : decode (m_c M) pc = .ok (.invokevirtual 138, 3)) (ho : m_o M = 5) : WP (d + 1) M pc L (.ref p :: S) h Q = ((a_t h p).1 = 3 ∧ (S.map Value.category).sum ≤ 8 ∧ Cal d mX3_wasCalled [.ref p] h (Kn (d + 1) M (pc + 3) L S Q)) := by
  rw [w_cv (as := []) (S := S) hd (by rw [ho]; exact lk_5_138) rfl rfl]
  simp [am_ag, Value.category, l_X3_wasCalled, o_X3_wasCalled]
set_option maxRecDepth 20000 in
theorem lk_5_142 : am_mT.lookup (5, 142) = some (mX5_isNextTo, 1) := rfl
theorem c_5_142 {v0 : Int32} {v1 : Int32} {v2 : Int32} (hd : decode (m_c M) pc = .ok (.invokestatic 142, 3)) (ho : m_o M = 5) : WP (d + 1) M pc L (.int v2 :: .int v1 :: .int v0 :: S) h Q = ((S.map Value.category).sum ≤ 8 ∧ Cal d mX5_isNextTo [.int v0, .int v1, .int v2] h (Kn (d + 1) M (pc + 3) L S Q)) := by
  rw [w_cs (as := [.int v0, .int v1, .int v2]) (S := S) hd (by rw [ho]; exact lk_5_142) (by decide) rfl]
  simp [am_ag, Value.category, l_X5_isNextTo, o_X5_isNextTo]
set_option maxRecDepth 20000 in
theorem lk_5_123 : am_mT.lookup (5, 123) = some (mX2_isFull, 0) := rfl
theorem c_5_123 {p : Nat} {v0 : Int32} (hd : decode (m_c M) pc = .ok (.invokevirtual 123, 3)) (ho : m_o M = 5) : WP (d + 1) M pc L (.int v0 :: .ref p :: S) h Q = ((a_t h p).1 = 2 ∧ (S.map Value.category).sum ≤ 8 ∧ Cal d mX2_isFull [.ref p, .int v0] h (Kn (d + 1) M (pc + 3) L S Q)) := by
  rw [w_cv (as := [.int v0]) (S := S) hd (by rw [ho]; exact lk_5_123) rfl rfl]
  simp [am_ag, Value.category, l_X2_isFull, o_X2_isFull]
set_option maxRecDepth 20000 in
theorem lk_5_128 : am_mT.lookup (5, 128) = some (mX5_openTurn, 0) := rfl
theorem c_5_128 {p : Nat} {v0 : Int32} {v1 : Int32} {v2 : Int32} {v3 : Nat} (hd : decode (m_c M) pc = .ok (.invokevirtual 128, 3)) (ho : m_o M = 5) : WP (d + 1) M pc L (.ref v3 :: .int v2 :: .int v1 :: .int v0 :: .ref p :: S) h Q = ((a_t h p).1 = 5 ∧ (S.map Value.category).sum ≤ 8 ∧ Cal d mX5_openTurn [.ref p, .int v0, .int v1, .int v2, .ref v3] h (Kn (d + 1) M (pc + 3) L S Q)) := by
  rw [w_cv (as := [.int v0, .int v1, .int v2, .ref v3]) (S := S) hd (by rw [ho]; exact lk_5_128) rfl rfl]
  simp [am_ag, Value.category, l_X5_openTurn, o_X5_openTurn]
set_option maxRecDepth 20000 in
theorem lk_5_72 : am_mT.lookup (5, 72) = some (mX5_countHeard, 0) := rfl
theorem c_5_72 {p : Nat} {v0 : Int32} {v1 : Int32} (hd : decode (m_c M) pc = .ok (.invokevirtual 72, 3)) (ho : m_o M = 5) : WP (d + 1) M pc L (.int v1 :: .int v0 :: .ref p :: S) h Q = ((a_t h p).1 = 5 ∧ (S.map Value.category).sum ≤ 8 ∧ Cal d mX5_countHeard [.ref p, .int v0, .int v1] h (Kn (d + 1) M (pc + 3) L S Q)) := by
  rw [w_cv (as := [.int v0, .int v1]) (S := S) hd (by rw [ho]; exact lk_5_72) rfl rfl]
  simp [am_ag, Value.category, l_X5_countHeard, o_X5_countHeard]
set_option maxRecDepth 20000 in
theorem lk_13_50 : am_mT.lookup (13, 50) = some (mX11_feed, 0) := rfl
theorem c_13_50 {p : Nat} {v0 : Int32} {v1 : Int32} {v2 : Int32} {v3 : Int32} {v4 : Int32} (hd : decode (m_c M) pc = .ok (.invokevirtual 50, 3)) (ho : m_o M = 13) : WP (d + 1) M pc L (.int v4 :: .int v3 :: .int v2 :: .int v1 :: .int v0 :: .ref p :: S) h Q = ((a_t h p).1 = 11 ∧ (S.map Value.category).sum ≤ 8 ∧ Cal d mX11_feed [.ref p, .int v0, .int v1, .int v2, .int v3, .int v4] h (Kn (d + 1) M (pc + 3) L S Q)) := by
  rw [w_cv (as := [.int v0, .int v1, .int v2, .int v3, .int v4]) (S := S) hd (by rw [ho]; exact lk_13_50) rfl rfl]
  simp [am_ag, Value.category, l_X11_feed, o_X11_feed]
set_option maxRecDepth 20000 in
theorem lk_11_158 : am_mT.lookup (11, 158) = some (mX7_take, 0) := rfl
theorem c_11_158 {p : Nat} {v0 : Int32} (hd : decode (m_c M) pc = .ok (.invokevirtual 158, 3)) (ho : m_o M = 11) : WP (d + 1) M pc L (.int v0 :: .ref p :: S) h Q = ((a_t h p).1 = 7 ∧ (S.map Value.category).sum ≤ 8 ∧ Cal d mX7_take [.ref p, .int v0] h (Kn (d + 1) M (pc + 3) L S Q)) := by
  rw [w_cv (as := [.int v0]) (S := S) hd (by rw [ho]; exact lk_11_158) rfl rfl]
  simp [am_ag, Value.category, l_X7_take, o_X7_take]
set_option maxRecDepth 20000 in
theorem lk_13_55 : am_mT.lookup (13, 55) = some (mX11_end, 0) := rfl
theorem c_13_55 {p : Nat} {v0 : Int32} (hd : decode (m_c M) pc = .ok (.invokevirtual 55, 3)) (ho : m_o M = 13) : WP (d + 1) M pc L (.int v0 :: .ref p :: S) h Q = ((a_t h p).1 = 11 ∧ (S.map Value.category).sum ≤ 8 ∧ Cal d mX11_end [.ref p, .int v0] h (Kn (d + 1) M (pc + 3) L S Q)) := by
  rw [w_cv (as := [.int v0]) (S := S) hd (by rw [ho]; exact lk_13_55) rfl rfl]
  simp [am_ag, Value.category, l_X11_end, o_X11_end]
set_option maxRecDepth 20000 in
theorem lk_13_59 : am_mT.lookup (13, 59) = some (mX11_text, 0) := rfl
theorem c_13_59 {p : Nat} (hd : decode (m_c M) pc = .ok (.invokevirtual 59, 3)) (ho : m_o M = 13) : WP (d + 1) M pc L (.ref p :: S) h Q = ((a_t h p).1 = 11 ∧ (S.map Value.category).sum ≤ 8 ∧ Cal d mX11_text [.ref p] h (Kn (d + 1) M (pc + 3) L S Q)) := by
  rw [w_cv (as := []) (S := S) hd (by rw [ho]; exact lk_13_59) rfl rfl]
  simp [am_ag, Value.category, l_X11_text, o_X11_text]
set_option maxRecDepth 20000 in
theorem lk_11_164 : am_mT.lookup (11, 164) = some (mX7_readInto, 0) := rfl
theorem c_11_164 {p : Nat} {v0 : Nat} (hd : decode (m_c M) pc = .ok (.invokevirtual 164, 3)) (ho : m_o M = 11) : WP (d + 1) M pc L (.ref v0 :: .ref p :: S) h Q = ((a_t h p).1 = 7 ∧ (S.map Value.category).sum ≤ 8 ∧ Cal d mX7_readInto [.ref p, .ref v0] h (Kn (d + 1) M (pc + 3) L S Q)) := by
  rw [w_cv (as := [.ref v0]) (S := S) hd (by rw [ho]; exact lk_11_164) rfl rfl]
  simp [am_ag, Value.category, l_X7_readInto, o_X7_readInto]
set_option maxRecDepth 20000 in
theorem lk_7_38 : am_mT.lookup (7, 38) = some (mX9_empty, 0) := rfl
theorem c_7_38 {p : Nat} (hd : decode (m_c M) pc = .ok (.invokevirtual 38, 3)) (ho : m_o M = 7) : WP (d + 1) M pc L (.ref p :: S) h Q = ((a_t h p).1 = 9 ∧ (S.map Value.category).sum ≤ 8 ∧ Cal d mX9_empty [.ref p] h (Kn (d + 1) M (pc + 3) L S Q)) := by
  rw [w_cv (as := []) (S := S) hd (by rw [ho]; exact lk_7_38) rfl rfl]
  simp [am_ag, Value.category, l_X9_empty, o_X9_empty]
set_option maxRecDepth 20000 in
theorem lk_7_43 : am_mT.lookup (7, 43) = some (mX7_splitTape, 0) := rfl
theorem c_7_43 {p : Nat} (hd : decode (m_c M) pc = .ok (.invokevirtual 43, 3)) (ho : m_o M = 7) : WP (d + 1) M pc L (.ref p :: S) h Q = ((a_t h p).1 = 7 ∧ (S.map Value.category).sum ≤ 8 ∧ Cal d mX7_splitTape [.ref p] h (Kn (d + 1) M (pc + 3) L S Q)) := by
  rw [w_cv (as := []) (S := S) hd (by rw [ho]; exact lk_7_43) rfl rfl]
  simp [am_ag, Value.category, l_X7_splitTape, o_X7_splitTape]
set_option maxRecDepth 20000 in
theorem lk_7_61 : am_mT.lookup (7, 61) = some (mX7_isDigit, 1) := rfl
theorem c_7_61 {v0 : Int32} (hd : decode (m_c M) pc = .ok (.invokestatic 61, 3)) (ho : m_o M = 7) : WP (d + 1) M pc L (.int v0 :: S) h Q = ((S.map Value.category).sum ≤ 8 ∧ Cal d mX7_isDigit [.int v0] h (Kn (d + 1) M (pc + 3) L S Q)) := by
  rw [w_cs (as := [.int v0]) (S := S) hd (by rw [ho]; exact lk_7_61) (by decide) rfl]
  simp [am_ag, Value.category, l_X7_isDigit, o_X7_isDigit]
set_option maxRecDepth 20000 in
theorem lk_7_65 : am_mT.lookup (7, 65) = some (mX7_splitNumber, 0) := rfl
theorem c_7_65 {p : Nat} {v0 : Int32} (hd : decode (m_c M) pc = .ok (.invokevirtual 65, 3)) (ho : m_o M = 7) : WP (d + 1) M pc L (.int v0 :: .ref p :: S) h Q = ((a_t h p).1 = 7 ∧ (S.map Value.category).sum ≤ 8 ∧ Cal d mX7_splitNumber [.ref p, .int v0] h (Kn (d + 1) M (pc + 3) L S Q)) := by
  rw [w_cv (as := [.int v0]) (S := S) hd (by rw [ho]; exact lk_7_65) rfl rfl]
  simp [am_ag, Value.category, l_X7_splitNumber, o_X7_splitNumber]
set_option maxRecDepth 20000 in
theorem lk_7_82 : am_mT.lookup (7, 82) = some (mJ9_min_7cf53, 8) := rfl
set_option maxRecDepth 20000 in
theorem lk_7_78 : am_mT.lookup (7, 78) = some (mX7_addToken, 0) := rfl
theorem c_7_78 {p : Nat} {v0 : Int32} {v1 : Int32} {v2 : Int32} (hd : decode (m_c M) pc = .ok (.invokevirtual 78, 3)) (ho : m_o M = 7) : WP (d + 1) M pc L (.int v2 :: .int v1 :: .int v0 :: .ref p :: S) h Q = ((a_t h p).1 = 7 ∧ (S.map Value.category).sum ≤ 8 ∧ Cal d mX7_addToken [.ref p, .int v0, .int v1, .int v2] h (Kn (d + 1) M (pc + 3) L S Q)) := by
  rw [w_cv (as := [.int v0, .int v1, .int v2]) (S := S) hd (by rw [ho]; exact lk_7_78) rfl rfl]
  simp [am_ag, Value.category, l_X7_addToken, o_X7_addToken]
set_option maxRecDepth 20000 in
theorem lk_7_69 : am_mT.lookup (7, 69) = some (mX7_isLetter, 1) := rfl
theorem c_7_69 {v0 : Int32} (hd : decode (m_c M) pc = .ok (.invokestatic 69, 3)) (ho : m_o M = 7) : WP (d + 1) M pc L (.int v0 :: S) h Q = ((S.map Value.category).sum ≤ 8 ∧ Cal d mX7_isLetter [.int v0] h (Kn (d + 1) M (pc + 3) L S Q)) := by
  rw [w_cs (as := [.int v0]) (S := S) hd (by rw [ho]; exact lk_7_69) (by decide) rfl]
  simp [am_ag, Value.category, l_X7_isLetter, o_X7_isLetter]
set_option maxRecDepth 20000 in
theorem lk_7_72 : am_mT.lookup (7, 72) = some (mX7_splitWord, 0) := rfl
theorem c_7_72 {p : Nat} {v0 : Int32} (hd : decode (m_c M) pc = .ok (.invokevirtual 72, 3)) (ho : m_o M = 7) : WP (d + 1) M pc L (.int v0 :: .ref p :: S) h Q = ((a_t h p).1 = 7 ∧ (S.map Value.category).sum ≤ 8 ∧ Cal d mX7_splitWord [.ref p, .int v0] h (Kn (d + 1) M (pc + 3) L S Q)) := by
  rw [w_cv (as := [.int v0]) (S := S) hd (by rw [ho]; exact lk_7_72) rfl rfl]
  simp [am_ag, Value.category, l_X7_splitWord, o_X7_splitWord]
set_option maxRecDepth 20000 in
theorem lk_7_88 : am_mT.lookup (7, 88) = some (mX7_numberOfWord, 0) := rfl
theorem c_7_88 {p : Nat} {v0 : Int32} {v1 : Int32} (hd : decode (m_c M) pc = .ok (.invokevirtual 88, 3)) (ho : m_o M = 7) : WP (d + 1) M pc L (.int v1 :: .int v0 :: .ref p :: S) h Q = ((a_t h p).1 = 7 ∧ (S.map Value.category).sum ≤ 8 ∧ Cal d mX7_numberOfWord [.ref p, .int v0, .int v1] h (Kn (d + 1) M (pc + 3) L S Q)) := by
  rw [w_cv (as := [.int v0, .int v1]) (S := S) hd (by rw [ho]; exact lk_7_88) rfl rfl]
  simp [am_ag, Value.category, l_X7_numberOfWord, o_X7_numberOfWord]
set_option maxRecDepth 20000 in
theorem lk_7_93 : am_mT.lookup (7, 93) = some (mJ0_length_8abf5, 0) := rfl
theorem c_7_93 {p : Nat} (hd : decode (m_c M) pc = .ok (.invokevirtual 93, 3)) (ho : m_o M = 7) : WP (d + 1) M pc L (.ref p :: S) h Q = ((a_t h p).1 = 42 ∧ (S.map Value.category).sum ≤ 8 ∧ Cal d mJ0_length_8abf5 [.ref p] h (Kn (d + 1) M (pc + 3) L S Q)) := by
  rw [w_cv (as := []) (S := S) hd (by rw [ho]; exact lk_7_93) rfl rfl]
  simp [am_ag, Value.category, l_J0_length_8abf5, o_J0_length_8abf5]
set_option maxRecDepth 20000 in
theorem lk_20_335 : am_mT.lookup (20, 335) = some (mJ0_coder_7d493, 0) := rfl
theorem c_20_335 {p : Nat} (hd : decode (m_c M) pc = .ok (.invokevirtual 335, 3)) (ho : m_o M = 20) : WP (d + 1) M pc L (.ref p :: S) h Q = ((a_t h p).1 = 42 ∧ (S.map Value.category).sum ≤ 8 ∧ Cal d mJ0_coder_7d493 [.ref p] h (Kn (d + 1) M (pc + 3) L S Q)) := by
  rw [w_cv (as := []) (S := S) hd (by rw [ho]; exact lk_20_335) rfl rfl]
  simp [am_ag, Value.category, l_J0_coder_7d493, o_J0_coder_7d493]
set_option maxRecDepth 20000 in
theorem lk_7_98 : am_mT.lookup (7, 98) = some (mJ0_charAt_5068e, 0) := rfl
theorem c_7_98 {p : Nat} {v0 : Int32} (hd : decode (m_c M) pc = .ok (.invokevirtual 98, 3)) (ho : m_o M = 7) : WP (d + 1) M pc L (.int v0 :: .ref p :: S) h Q = ((a_t h p).1 = 42 ∧ (S.map Value.category).sum ≤ 8 ∧ Cal d mJ0_charAt_5068e [.ref p, .int v0] h (Kn (d + 1) M (pc + 3) L S Q)) := by
  rw [w_cv (as := [.int v0]) (S := S) hd (by rw [ho]; exact lk_7_98) rfl rfl]
  simp [am_ag, Value.category, l_J0_charAt_5068e, o_J0_charAt_5068e]
set_option maxRecDepth 20000 in
theorem lk_20_492 : am_mT.lookup (20, 492) = some (mJ0_isLatin1_aae02, 0) := rfl
theorem c_20_492 {p : Nat} (hd : decode (m_c M) pc = .ok (.invokevirtual 492, 3)) (ho : m_o M = 20) : WP (d + 1) M pc L (.ref p :: S) h Q = ((a_t h p).1 = 42 ∧ (S.map Value.category).sum ≤ 8 ∧ Cal d mJ0_isLatin1_aae02 [.ref p] h (Kn (d + 1) M (pc + 3) L S Q)) := by
  rw [w_cv (as := []) (S := S) hd (by rw [ho]; exact lk_20_492) rfl rfl]
  simp [am_ag, Value.category, l_J0_isLatin1_aae02, o_J0_isLatin1_aae02]
set_option maxRecDepth 20000 in
theorem lk_20_495 : am_mT.lookup (20, 495) = some (mJ1_charAt_3b067, 1) := rfl
theorem c_20_495 {v0 : Nat} {v1 : Int32} (hd : decode (m_c M) pc = .ok (.invokestatic 495, 3)) (ho : m_o M = 20) : WP (d + 1) M pc L (.int v1 :: .ref v0 :: S) h Q = ((S.map Value.category).sum ≤ 8 ∧ Cal d mJ1_charAt_3b067 [.ref v0, .int v1] h (Kn (d + 1) M (pc + 3) L S Q)) := by
  rw [w_cs (as := [.ref v0, .int v1]) (S := S) hd (by rw [ho]; exact lk_20_495) (by decide) rfl]
  simp [am_ag, Value.category, l_J1_charAt_3b067, o_J1_charAt_3b067]
set_option maxRecDepth 20000 in
theorem lk_21_9 : am_mT.lookup (21, 9) = some (mJ0_checkIndex_df160, 1) := rfl
theorem c_21_9 {v0 : Int32} {v1 : Int32} (hd : decode (m_c M) pc = .ok (.invokestatic 9, 3)) (ho : m_o M = 21) : WP (d + 1) M pc L (.int v1 :: .int v0 :: S) h Q = ((S.map Value.category).sum ≤ 8 ∧ Cal d mJ0_checkIndex_df160 [.int v0, .int v1] h (Kn (d + 1) M (pc + 3) L S Q)) := by
  rw [w_cs (as := [.int v0, .int v1]) (S := S) hd (by rw [ho]; exact lk_21_9) (by decide) rfl]
  simp [am_ag, Value.category, l_J0_checkIndex_df160, o_J0_checkIndex_df160]
set_option maxRecDepth 20000 in
theorem lk_20_1059 : am_mT.lookup (20, 1059) = some (mJ3_checkIndex_8e157, 1) := rfl
theorem c_20_1059 {v0 : Int32} {v1 : Int32} {v2 : Option Nat} (hd : decode (m_c M) pc = .ok (.invokestatic 1059, 3)) (ho : m_o M = 20) : WP (d + 1) M pc L (va_rf v2 :: .int v1 :: .int v0 :: S) h Q = ((S.map Value.category).sum ≤ 8 ∧ Cal d mJ3_checkIndex_8e157 [.int v0, .int v1, va_rf v2] h (Kn (d + 1) M (pc + 3) L S Q)) := by
  rw [w_cs (as := [.int v0, .int v1, va_rf v2]) (S := S) hd (by rw [ho]; exact lk_20_1059) (by decide) rfl]
  cases v2 <;> simp [am_ag, Value.category, l_J3_checkIndex_8e157, va_rf, o_J3_checkIndex_8e157]
set_option maxRecDepth 20000 in
theorem lk_20_498 : am_mT.lookup (20, 498) = some (mJ2_charAt_3b067, 1) := rfl
theorem c_20_498 {v0 : Nat} {v1 : Int32} (hd : decode (m_c M) pc = .ok (.invokestatic 498, 3)) (ho : m_o M = 20) : WP (d + 1) M pc L (.int v1 :: .ref v0 :: S) h Q = ((S.map Value.category).sum ≤ 8 ∧ Cal d mJ2_charAt_3b067 [.ref v0, .int v1] h (Kn (d + 1) M (pc + 3) L S Q)) := by
  rw [w_cs (as := [.ref v0, .int v1]) (S := S) hd (by rw [ho]; exact lk_20_498) (by decide) rfl]
  simp [am_ag, Value.category, l_J2_charAt_3b067, o_J2_charAt_3b067]
set_option maxRecDepth 20000 in
theorem lk_22_67 : am_mT.lookup (22, 67) = some (mJ2_checkIndex_2214a, 1) := rfl
theorem c_22_67 {v0 : Int32} {v1 : Nat} (hd : decode (m_c M) pc = .ok (.invokestatic 67, 3)) (ho : m_o M = 22) : WP (d + 1) M pc L (.ref v1 :: .int v0 :: S) h Q = ((S.map Value.category).sum ≤ 8 ∧ Cal d mJ2_checkIndex_2214a [.int v0, .ref v1] h (Kn (d + 1) M (pc + 3) L S Q)) := by
  rw [w_cs (as := [.int v0, .ref v1]) (S := S) hd (by rw [ho]; exact lk_22_67) (by decide) rfl]
  simp [am_ag, Value.category, l_J2_checkIndex_2214a, o_J2_checkIndex_2214a]
set_option maxRecDepth 20000 in
theorem lk_22_48 : am_mT.lookup (22, 48) = some (mJ2_length_9d52b, 1) := rfl
theorem c_22_48 {v0 : Nat} (hd : decode (m_c M) pc = .ok (.invokestatic 48, 3)) (ho : m_o M = 22) : WP (d + 1) M pc L (.ref v0 :: S) h Q = ((S.map Value.category).sum ≤ 8 ∧ Cal d mJ2_length_9d52b [.ref v0] h (Kn (d + 1) M (pc + 3) L S Q)) := by
  rw [w_cs (as := [.ref v0]) (S := S) hd (by rw [ho]; exact lk_22_48) (by decide) rfl]
  simp [am_ag, Value.category, l_J2_length_9d52b, o_J2_length_9d52b]
set_option maxRecDepth 20000 in
theorem lk_22_414 : am_mT.lookup (22, 414) = some (mJ0_checkIndex_df160, 1) := rfl
theorem c_22_414 {v0 : Int32} {v1 : Int32} (hd : decode (m_c M) pc = .ok (.invokestatic 414, 3)) (ho : m_o M = 22) : WP (d + 1) M pc L (.int v1 :: .int v0 :: S) h Q = ((S.map Value.category).sum ≤ 8 ∧ Cal d mJ0_checkIndex_df160 [.int v0, .int v1] h (Kn (d + 1) M (pc + 3) L S Q)) := by
  rw [w_cs (as := [.int v0, .int v1]) (S := S) hd (by rw [ho]; exact lk_22_414) (by decide) rfl]
  simp [am_ag, Value.category, l_J0_checkIndex_df160, o_J0_checkIndex_df160]
set_option maxRecDepth 20000 in
theorem lk_22_71 : am_mT.lookup (22, 71) = some (mJ2_getChar_3b067, 1) := rfl
theorem c_22_71 {v0 : Nat} {v1 : Int32} (hd : decode (m_c M) pc = .ok (.invokestatic 71, 3)) (ho : m_o M = 22) : WP (d + 1) M pc L (.int v1 :: .ref v0 :: S) h Q = ((S.map Value.category).sum ≤ 8 ∧ Cal d mJ2_getChar_3b067 [.ref v0, .int v1] h (Kn (d + 1) M (pc + 3) L S Q)) := by
  rw [w_cs (as := [.ref v0, .int v1]) (S := S) hd (by rw [ho]; exact lk_22_71) (by decide) rfl]
  simp [am_ag, Value.category, l_J2_getChar_3b067, o_J2_getChar_3b067]
set_option maxRecDepth 20000 in
theorem lk_7_102 : am_mT.lookup (7, 102) = some (mX7_isSpeltAt, 0) := rfl
theorem c_7_102 {p : Nat} {v0 : Int32} {v1 : Int32} {v2 : Int32} (hd : decode (m_c M) pc = .ok (.invokevirtual 102, 3)) (ho : m_o M = 7) : WP (d + 1) M pc L (.int v2 :: .int v1 :: .int v0 :: .ref p :: S) h Q = ((a_t h p).1 = 7 ∧ (S.map Value.category).sum ≤ 8 ∧ Cal d mX7_isSpeltAt [.ref p, .int v0, .int v1, .int v2] h (Kn (d + 1) M (pc + 3) L S Q)) := by
  rw [w_cv (as := [.int v0, .int v1, .int v2]) (S := S) hd (by rw [ho]; exact lk_7_102) rfl rfl]
  simp [am_ag, Value.category, l_X7_isSpeltAt, o_X7_isSpeltAt]
set_option maxRecDepth 20000 in
theorem lk_7_75 : am_mT.lookup (7, 75) = some (mX7_splitSign, 0) := rfl
theorem c_7_75 {p : Nat} {v0 : Int32} (hd : decode (m_c M) pc = .ok (.invokevirtual 75, 3)) (ho : m_o M = 7) : WP (d + 1) M pc L (.int v0 :: .ref p :: S) h Q = ((a_t h p).1 = 7 ∧ (S.map Value.category).sum ≤ 8 ∧ Cal d mX7_splitSign [.ref p, .int v0] h (Kn (d + 1) M (pc + 3) L S Q)) := by
  rw [w_cv (as := [.int v0]) (S := S) hd (by rw [ho]; exact lk_7_75) rfl rfl]
  simp [am_ag, Value.category, l_X7_splitSign, o_X7_splitSign]
set_option maxRecDepth 20000 in
theorem lk_7_108 : am_mT.lookup (7, 108) = some (mJ0_indexOf_0f7a4, 0) := rfl
theorem c_7_108 {p : Nat} {v0 : Int32} (hd : decode (m_c M) pc = .ok (.invokevirtual 108, 3)) (ho : m_o M = 7) : WP (d + 1) M pc L (.int v0 :: .ref p :: S) h Q = ((a_t h p).1 = 42 ∧ (S.map Value.category).sum ≤ 8 ∧ Cal d mJ0_indexOf_0f7a4 [.ref p, .int v0] h (Kn (d + 1) M (pc + 3) L S Q)) := by
  rw [w_cv (as := [.int v0]) (S := S) hd (by rw [ho]; exact lk_7_108) rfl rfl]
  simp [am_ag, Value.category, l_J0_indexOf_0f7a4, o_J0_indexOf_0f7a4]
set_option maxRecDepth 20000 in
theorem lk_20_633 : am_mT.lookup (20, 633) = some (mJ0_indexOf_7cf53, 0) := rfl
theorem c_20_633 {p : Nat} {v0 : Int32} {v1 : Int32} (hd : decode (m_c M) pc = .ok (.invokevirtual 633, 3)) (ho : m_o M = 20) : WP (d + 1) M pc L (.int v1 :: .int v0 :: .ref p :: S) h Q = ((a_t h p).1 = 42 ∧ (S.map Value.category).sum ≤ 8 ∧ Cal d mJ0_indexOf_7cf53 [.ref p, .int v0, .int v1] h (Kn (d + 1) M (pc + 3) L S Q)) := by
  rw [w_cv (as := [.int v0, .int v1]) (S := S) hd (by rw [ho]; exact lk_20_633) rfl rfl]
  simp [am_ag, Value.category, l_J0_indexOf_7cf53, o_J0_indexOf_7cf53]
set_option maxRecDepth 20000 in
theorem lk_20_505 : am_mT.lookup (20, 505) = some (mJ0_length_8abf5, 0) := rfl
theorem c_20_505 {p : Nat} (hd : decode (m_c M) pc = .ok (.invokevirtual 505, 3)) (ho : m_o M = 20) : WP (d + 1) M pc L (.ref p :: S) h Q = ((a_t h p).1 = 42 ∧ (S.map Value.category).sum ≤ 8 ∧ Cal d mJ0_length_8abf5 [.ref p] h (Kn (d + 1) M (pc + 3) L S Q)) := by
  rw [w_cv (as := []) (S := S) hd (by rw [ho]; exact lk_20_505) rfl rfl]
  simp [am_ag, Value.category, l_J0_length_8abf5, o_J0_length_8abf5]
set_option maxRecDepth 20000 in
theorem lk_20_637 : am_mT.lookup (20, 637) = some (mJ1_indexOf_4cfef, 1) := rfl
theorem c_20_637 {v0 : Nat} {v1 : Int32} {v2 : Int32} {v3 : Int32} (hd : decode (m_c M) pc = .ok (.invokestatic 637, 3)) (ho : m_o M = 20) : WP (d + 1) M pc L (.int v3 :: .int v2 :: .int v1 :: .ref v0 :: S) h Q = ((S.map Value.category).sum ≤ 8 ∧ Cal d mJ1_indexOf_4cfef [.ref v0, .int v1, .int v2, .int v3] h (Kn (d + 1) M (pc + 3) L S Q)) := by
  rw [w_cs (as := [.ref v0, .int v1, .int v2, .int v3]) (S := S) hd (by rw [ho]; exact lk_20_637) (by decide) rfl]
  simp [am_ag, Value.category, l_J1_indexOf_4cfef, o_J1_indexOf_4cfef]
set_option maxRecDepth 20000 in
theorem lk_21_88 : am_mT.lookup (21, 88) = some (mJ1_canEncode_9a6ad, 1) := rfl
theorem c_21_88 {v0 : Int32} (hd : decode (m_c M) pc = .ok (.invokestatic 88, 3)) (ho : m_o M = 21) : WP (d + 1) M pc L (.int v0 :: S) h Q = ((S.map Value.category).sum ≤ 8 ∧ Cal d mJ1_canEncode_9a6ad [.int v0] h (Kn (d + 1) M (pc + 3) L S Q)) := by
  rw [w_cs (as := [.int v0]) (S := S) hd (by rw [ho]; exact lk_21_88) (by decide) rfl]
  simp [am_ag, Value.category, l_J1_canEncode_9a6ad, o_J1_canEncode_9a6ad]
set_option maxRecDepth 20000 in
theorem lk_21_92 : am_mT.lookup (21, 92) = some (mJ9_max_7cf53, 7) := rfl
set_option maxRecDepth 20000 in
theorem lk_21_38 : am_mT.lookup (21, 38) = some (mJ9_min_7cf53, 8) := rfl
set_option maxRecDepth 20000 in
theorem lk_21_95 : am_mT.lookup (21, 95) = some (mJ1_indexOfChar_4cfef, 1) := rfl
theorem c_21_95 {v0 : Nat} {v1 : Int32} {v2 : Int32} {v3 : Int32} (hd : decode (m_c M) pc = .ok (.invokestatic 95, 3)) (ho : m_o M = 21) : WP (d + 1) M pc L (.int v3 :: .int v2 :: .int v1 :: .ref v0 :: S) h Q = ((S.map Value.category).sum ≤ 8 ∧ Cal d mJ1_indexOfChar_4cfef [.ref v0, .int v1, .int v2, .int v3] h (Kn (d + 1) M (pc + 3) L S Q)) := by
  rw [w_cs (as := [.ref v0, .int v1, .int v2, .int v3]) (S := S) hd (by rw [ho]; exact lk_21_95) (by decide) rfl]
  simp [am_ag, Value.category, l_J1_indexOfChar_4cfef, o_J1_indexOfChar_4cfef]
set_option maxRecDepth 20000 in
theorem lk_20_640 : am_mT.lookup (20, 640) = some (mJ2_indexOf_4cfef, 1) := rfl
theorem c_20_640 {v0 : Nat} {v1 : Int32} {v2 : Int32} {v3 : Int32} (hd : decode (m_c M) pc = .ok (.invokestatic 640, 3)) (ho : m_o M = 20) : WP (d + 1) M pc L (.int v3 :: .int v2 :: .int v1 :: .ref v0 :: S) h Q = ((S.map Value.category).sum ≤ 8 ∧ Cal d mJ2_indexOf_4cfef [.ref v0, .int v1, .int v2, .int v3] h (Kn (d + 1) M (pc + 3) L S Q)) := by
  rw [w_cs (as := [.ref v0, .int v1, .int v2, .int v3]) (S := S) hd (by rw [ho]; exact lk_20_640) (by decide) rfl]
  simp [am_ag, Value.category, l_J2_indexOf_4cfef, o_J2_indexOf_4cfef]
set_option maxRecDepth 20000 in
theorem lk_22_224 : am_mT.lookup (22, 224) = some (mJ9_max_7cf53, 7) := rfl
set_option maxRecDepth 20000 in
theorem lk_22_183 : am_mT.lookup (22, 183) = some (mJ9_min_7cf53, 8) := rfl
set_option maxRecDepth 20000 in
theorem lk_22_228 : am_mT.lookup (22, 228) = some (mJ2_indexOfChar_4cfef, 1) := rfl
theorem c_22_228 {v0 : Nat} {v1 : Int32} {v2 : Int32} {v3 : Int32} (hd : decode (m_c M) pc = .ok (.invokestatic 228, 3)) (ho : m_o M = 22) : WP (d + 1) M pc L (.int v3 :: .int v2 :: .int v1 :: .ref v0 :: S) h Q = ((S.map Value.category).sum ≤ 8 ∧ Cal d mJ2_indexOfChar_4cfef [.ref v0, .int v1, .int v2, .int v3] h (Kn (d + 1) M (pc + 3) L S Q)) := by
  rw [w_cs (as := [.ref v0, .int v1, .int v2, .int v3]) (S := S) hd (by rw [ho]; exact lk_22_228) (by decide) rfl]
  simp [am_ag, Value.category, l_J2_indexOfChar_4cfef, o_J2_indexOfChar_4cfef]
set_option maxRecDepth 20000 in
theorem lk_22_96 : am_mT.lookup (22, 96) = some (mJ2_checkBoundsBeginEnd_d044e, 1) := rfl
theorem c_22_96 {v0 : Int32} {v1 : Int32} {v2 : Nat} (hd : decode (m_c M) pc = .ok (.invokestatic 96, 3)) (ho : m_o M = 22) : WP (d + 1) M pc L (.ref v2 :: .int v1 :: .int v0 :: S) h Q = ((S.map Value.category).sum ≤ 8 ∧ Cal d mJ2_checkBoundsBeginEnd_d044e [.int v0, .int v1, .ref v2] h (Kn (d + 1) M (pc + 3) L S Q)) := by
  rw [w_cs (as := [.int v0, .int v1, .ref v2]) (S := S) hd (by rw [ho]; exact lk_22_96) (by decide) rfl]
  simp [am_ag, Value.category, l_J2_checkBoundsBeginEnd_d044e, o_J2_checkBoundsBeginEnd_d044e]
set_option maxRecDepth 20000 in
theorem lk_22_241 : am_mT.lookup (22, 241) = some (mJ0_checkBoundsBeginEnd_23922, 1) := rfl
theorem c_22_241 {v0 : Int32} {v1 : Int32} {v2 : Int32} (hd : decode (m_c M) pc = .ok (.invokestatic 241, 3)) (ho : m_o M = 22) : WP (d + 1) M pc L (.int v2 :: .int v1 :: .int v0 :: S) h Q = ((S.map Value.category).sum ≤ 8 ∧ Cal d mJ0_checkBoundsBeginEnd_23922 [.int v0, .int v1, .int v2] h (Kn (d + 1) M (pc + 3) L S Q)) := by
  rw [w_cs (as := [.int v0, .int v1, .int v2]) (S := S) hd (by rw [ho]; exact lk_22_241) (by decide) rfl]
  simp [am_ag, Value.category, l_J0_checkBoundsBeginEnd_23922, o_J0_checkBoundsBeginEnd_23922]
set_option maxRecDepth 20000 in
theorem lk_20_1062 : am_mT.lookup (20, 1062) = some (mJ3_checkFromToIndex_8c36e, 1) := rfl
theorem c_20_1062 {v0 : Int32} {v1 : Int32} {v2 : Int32} {v3 : Option Nat} (hd : decode (m_c M) pc = .ok (.invokestatic 1062, 3)) (ho : m_o M = 20) : WP (d + 1) M pc L (va_rf v3 :: .int v2 :: .int v1 :: .int v0 :: S) h Q = ((S.map Value.category).sum ≤ 8 ∧ Cal d mJ3_checkFromToIndex_8c36e [.int v0, .int v1, .int v2, va_rf v3] h (Kn (d + 1) M (pc + 3) L S Q)) := by
  rw [w_cs (as := [.int v0, .int v1, .int v2, va_rf v3]) (S := S) hd (by rw [ho]; exact lk_20_1062) (by decide) rfl]
  cases v3 <;> simp [am_ag, Value.category, l_J3_checkFromToIndex_8c36e, va_rf, o_J3_checkFromToIndex_8c36e]
set_option maxRecDepth 20000 in
theorem lk_22_244 : am_mT.lookup (22, 244) = some (mJ2_indexOfCharUnsafe_4cfef, 1) := rfl
theorem c_22_244 {v0 : Nat} {v1 : Int32} {v2 : Int32} {v3 : Int32} (hd : decode (m_c M) pc = .ok (.invokestatic 244, 3)) (ho : m_o M = 22) : WP (d + 1) M pc L (.int v3 :: .int v2 :: .int v1 :: .ref v0 :: S) h Q = ((S.map Value.category).sum ≤ 8 ∧ Cal d mJ2_indexOfCharUnsafe_4cfef [.ref v0, .int v1, .int v2, .int v3] h (Kn (d + 1) M (pc + 3) L S Q)) := by
  rw [w_cs (as := [.ref v0, .int v1, .int v2, .int v3]) (S := S) hd (by rw [ho]; exact lk_22_244) (by decide) rfl]
  simp [am_ag, Value.category, l_J2_indexOfCharUnsafe_4cfef, o_J2_indexOfCharUnsafe_4cfef]
set_option maxRecDepth 20000 in
theorem lk_22_232 : am_mT.lookup (22, 232) = some (mJ2_indexOfSupplementary_4cfef, 1) := rfl
theorem c_22_232 {v0 : Nat} {v1 : Int32} {v2 : Int32} {v3 : Int32} (hd : decode (m_c M) pc = .ok (.invokestatic 232, 3)) (ho : m_o M = 22) : WP (d + 1) M pc L (.int v3 :: .int v2 :: .int v1 :: .ref v0 :: S) h Q = ((S.map Value.category).sum ≤ 8 ∧ Cal d mJ2_indexOfSupplementary_4cfef [.ref v0, .int v1, .int v2, .int v3] h (Kn (d + 1) M (pc + 3) L S Q)) := by
  rw [w_cs (as := [.ref v0, .int v1, .int v2, .int v3]) (S := S) hd (by rw [ho]; exact lk_22_232) (by decide) rfl]
  simp [am_ag, Value.category, l_J2_indexOfSupplementary_4cfef, o_J2_indexOfSupplementary_4cfef]
set_option maxRecDepth 20000 in
theorem lk_22_164 : am_mT.lookup (22, 164) = some (mJ11_isValidCodePoint_9a6ad, 1) := rfl
theorem c_22_164 {v0 : Int32} (hd : decode (m_c M) pc = .ok (.invokestatic 164, 3)) (ho : m_o M = 22) : WP (d + 1) M pc L (.int v0 :: S) h Q = ((S.map Value.category).sum ≤ 8 ∧ Cal d mJ11_isValidCodePoint_9a6ad [.int v0] h (Kn (d + 1) M (pc + 3) L S Q)) := by
  rw [w_cs (as := [.int v0]) (S := S) hd (by rw [ho]; exact lk_22_164) (by decide) rfl]
  simp [am_ag, Value.category, l_J11_isValidCodePoint_9a6ad, o_J11_isValidCodePoint_9a6ad]
set_option maxRecDepth 20000 in
theorem lk_22_157 : am_mT.lookup (22, 157) = some (mJ11_highSurrogate_5068e, 1) := rfl
theorem c_22_157 {v0 : Int32} (hd : decode (m_c M) pc = .ok (.invokestatic 157, 3)) (ho : m_o M = 22) : WP (d + 1) M pc L (.int v0 :: S) h Q = ((S.map Value.category).sum ≤ 8 ∧ Cal d mJ11_highSurrogate_5068e [.int v0] h (Kn (d + 1) M (pc + 3) L S Q)) := by
  rw [w_cs (as := [.int v0]) (S := S) hd (by rw [ho]; exact lk_22_157) (by decide) rfl]
  simp [am_ag, Value.category, l_J11_highSurrogate_5068e, o_J11_highSurrogate_5068e]
set_option maxRecDepth 20000 in
theorem lk_22_161 : am_mT.lookup (22, 161) = some (mJ11_lowSurrogate_5068e, 1) := rfl
theorem c_22_161 {v0 : Int32} (hd : decode (m_c M) pc = .ok (.invokestatic 161, 3)) (ho : m_o M = 22) : WP (d + 1) M pc L (.int v0 :: S) h Q = ((S.map Value.category).sum ≤ 8 ∧ Cal d mJ11_lowSurrogate_5068e [.int v0] h (Kn (d + 1) M (pc + 3) L S Q)) := by
  rw [w_cs (as := [.int v0]) (S := S) hd (by rw [ho]; exact lk_22_161) (by decide) rfl]
  simp [am_ag, Value.category, l_J11_lowSurrogate_5068e, o_J11_lowSurrogate_5068e]
set_option maxRecDepth 20000 in
theorem lk_7_49 : am_mT.lookup (7, 49) = some (mX7_come, 0) := rfl
theorem c_7_49 {p : Nat} (hd : decode (m_c M) pc = .ok (.invokevirtual 49, 3)) (ho : m_o M = 7) : WP (d + 1) M pc L (.ref p :: S) h Q = ((a_t h p).1 = 7 ∧ (S.map Value.category).sum ≤ 8 ∧ Cal d mX7_come [.ref p] h (Kn (d + 1) M (pc + 3) L S Q)) := by
  rw [w_cv (as := []) (S := S) hd (by rw [ho]; exact lk_7_49) rfl rfl]
  simp [am_ag, Value.category, l_X7_come, o_X7_come]
set_option maxRecDepth 20000 in
theorem lk_7_55 : am_mT.lookup (7, 55) = some (mX7_readClause, 0) := rfl
theorem c_7_55 {p : Nat} (hd : decode (m_c M) pc = .ok (.invokevirtual 55, 3)) (ho : m_o M = 7) : WP (d + 1) M pc L (.ref p :: S) h Q = ((a_t h p).1 = 7 ∧ (S.map Value.category).sum ≤ 8 ∧ Cal d mX7_readClause [.ref p] h (Kn (d + 1) M (pc + 3) L S Q)) := by
  rw [w_cv (as := []) (S := S) hd (by rw [ho]; exact lk_7_55) rfl rfl]
  simp [am_ag, Value.category, l_X7_readClause, o_X7_readClause]
set_option maxRecDepth 20000 in
theorem lk_7_117 : am_mT.lookup (7, 117) = some (mX7_fail, 0) := rfl
theorem c_7_117 {p : Nat} {v0 : Int32} (hd : decode (m_c M) pc = .ok (.invokevirtual 117, 3)) (ho : m_o M = 7) : WP (d + 1) M pc L (.int v0 :: .ref p :: S) h Q = ((a_t h p).1 = 7 ∧ (S.map Value.category).sum ≤ 8 ∧ Cal d mX7_fail [.ref p, .int v0] h (Kn (d + 1) M (pc + 3) L S Q)) := by
  rw [w_cv (as := [.int v0]) (S := S) hd (by rw [ho]; exact lk_7_117) rfl rfl]
  simp [am_ag, Value.category, l_X7_fail, o_X7_fail]
set_option maxRecDepth 20000 in
theorem lk_7_127 : am_mT.lookup (7, 127) = some (mX9_addClause, 0) := rfl
theorem c_7_127 {p : Nat} {v0 : Int32} (hd : decode (m_c M) pc = .ok (.invokevirtual 127, 3)) (ho : m_o M = 7) : WP (d + 1) M pc L (.int v0 :: .ref p :: S) h Q = ((a_t h p).1 = 9 ∧ (S.map Value.category).sum ≤ 8 ∧ Cal d mX9_addClause [.ref p, .int v0] h (Kn (d + 1) M (pc + 3) L S Q)) := by
  rw [w_cv (as := [.int v0]) (S := S) hd (by rw [ho]; exact lk_7_127) rfl rfl]
  simp [am_ag, Value.category, l_X9_addClause, o_X9_addClause]
set_option maxRecDepth 20000 in
theorem lk_7_136 : am_mT.lookup (7, 136) = some (mX7_readSum, 0) := rfl
theorem c_7_136 {p : Nat} {v0 : Int32} (hd : decode (m_c M) pc = .ok (.invokevirtual 136, 3)) (ho : m_o M = 7) : WP (d + 1) M pc L (.int v0 :: .ref p :: S) h Q = ((a_t h p).1 = 7 ∧ (S.map Value.category).sum ≤ 8 ∧ Cal d mX7_readSum [.ref p, .int v0] h (Kn (d + 1) M (pc + 3) L S Q)) := by
  rw [w_cv (as := [.int v0]) (S := S) hd (by rw [ho]; exact lk_7_136) rfl rfl]
  simp [am_ag, Value.category, l_X7_readSum, o_X7_readSum]
set_option maxRecDepth 20000 in
theorem lk_7_157 : am_mT.lookup (7, 157) = some (mX7_readProduct, 0) := rfl
theorem c_7_157 {p : Nat} {v0 : Int32} (hd : decode (m_c M) pc = .ok (.invokevirtual 157, 3)) (ho : m_o M = 7) : WP (d + 1) M pc L (.int v0 :: .ref p :: S) h Q = ((a_t h p).1 = 7 ∧ (S.map Value.category).sum ≤ 8 ∧ Cal d mX7_readProduct [.ref p, .int v0] h (Kn (d + 1) M (pc + 3) L S Q)) := by
  rw [w_cv (as := [.int v0]) (S := S) hd (by rw [ho]; exact lk_7_157) rfl rfl]
  simp [am_ag, Value.category, l_X7_readProduct, o_X7_readProduct]
set_option maxRecDepth 20000 in
theorem lk_7_168 : am_mT.lookup (7, 168) = some (mX7_readOne, 0) := rfl
theorem c_7_168 {p : Nat} {v0 : Int32} (hd : decode (m_c M) pc = .ok (.invokevirtual 168, 3)) (ho : m_o M = 7) : WP (d + 1) M pc L (.int v0 :: .ref p :: S) h Q = ((a_t h p).1 = 7 ∧ (S.map Value.category).sum ≤ 8 ∧ Cal d mX7_readOne [.ref p, .int v0] h (Kn (d + 1) M (pc + 3) L S Q)) := by
  rw [w_cv (as := [.int v0]) (S := S) hd (by rw [ho]; exact lk_7_168) rfl rfl]
  simp [am_ag, Value.category, l_X7_readOne, o_X7_readOne]
set_option maxRecDepth 20000 in
theorem lk_7_148 : am_mT.lookup (7, 148) = some (mX7_expectNumber, 0) := rfl
theorem c_7_148 {p : Nat} {v0 : Int32} {v1 : Int32} (hd : decode (m_c M) pc = .ok (.invokevirtual 148, 3)) (ho : m_o M = 7) : WP (d + 1) M pc L (.int v1 :: .int v0 :: .ref p :: S) h Q = ((a_t h p).1 = 7 ∧ (S.map Value.category).sum ≤ 8 ∧ Cal d mX7_expectNumber [.ref p, .int v0, .int v1] h (Kn (d + 1) M (pc + 3) L S Q)) := by
  rw [w_cv (as := [.int v0, .int v1]) (S := S) hd (by rw [ho]; exact lk_7_148) rfl rfl]
  simp [am_ag, Value.category, l_X7_expectNumber, o_X7_expectNumber]
set_option maxRecDepth 20000 in
theorem lk_7_201 : am_mT.lookup (7, 201) = some (mX11_within, 5) := rfl
theorem c_7_201 {v0 : Int32} {v1 : Int32} {v2 : Int32} (hd : decode (m_c M) pc = .ok (.invokestatic 201, 3)) (ho : m_o M = 7) : WP (d + 1) M pc L (.int v2 :: .int v1 :: .int v0 :: S) h Q = ((S.map Value.category).sum ≤ 8 ∧ Cal d mX11_within [.int v0, .int v1, .int v2] h (Kn (d + 1) M (pc + 3) L S Q)) := by
  rw [w_cs (as := [.int v0, .int v1, .int v2]) (S := S) hd (by rw [ho]; exact lk_7_201) (by decide) rfl]
  simp [am_ag, Value.category, l_X11_within, o_X11_within]
set_option maxRecDepth 20000 in
theorem lk_7_165 : am_mT.lookup (7, 165) = some (mX9_emit, 0) := rfl
theorem c_7_165 {p : Nat} {v0 : Int32} {v1 : Int32} (hd : decode (m_c M) pc = .ok (.invokevirtual 165, 3)) (ho : m_o M = 7) : WP (d + 1) M pc L (.int v1 :: .int v0 :: .ref p :: S) h Q = ((a_t h p).1 = 9 ∧ (S.map Value.category).sum ≤ 8 ∧ Cal d mX9_emit [.ref p, .int v0, .int v1] h (Kn (d + 1) M (pc + 3) L S Q)) := by
  rw [w_cv (as := [.int v0, .int v1]) (S := S) hd (by rw [ho]; exact lk_7_165) rfl rfl]
  simp [am_ag, Value.category, l_X9_emit, o_X9_emit]
set_option maxRecDepth 20000 in
theorem lk_7_160 : am_mT.lookup (7, 160) = some (mX7_isSign, 0) := rfl
theorem c_7_160 {p : Nat} {v0 : Int32} (hd : decode (m_c M) pc = .ok (.invokevirtual 160, 3)) (ho : m_o M = 7) : WP (d + 1) M pc L (.int v0 :: .ref p :: S) h Q = ((a_t h p).1 = 7 ∧ (S.map Value.category).sum ≤ 8 ∧ Cal d mX7_isSign [.ref p, .int v0] h (Kn (d + 1) M (pc + 3) L S Q)) := by
  rw [w_cv (as := [.int v0]) (S := S) hd (by rw [ho]; exact lk_7_160) rfl rfl]
  simp [am_ag, Value.category, l_X7_isSign, o_X7_isSign]
set_option maxRecDepth 20000 in
theorem lk_7_171 : am_mT.lookup (7, 171) = some (mX7_mayOpen, 0) := rfl
theorem c_7_171 {p : Nat} {v0 : Int32} (hd : decode (m_c M) pc = .ok (.invokevirtual 171, 3)) (ho : m_o M = 7) : WP (d + 1) M pc L (.int v0 :: .ref p :: S) h Q = ((a_t h p).1 = 7 ∧ (S.map Value.category).sum ≤ 8 ∧ Cal d mX7_mayOpen [.ref p, .int v0] h (Kn (d + 1) M (pc + 3) L S Q)) := by
  rw [w_cv (as := [.int v0]) (S := S) hd (by rw [ho]; exact lk_7_171) rfl rfl]
  simp [am_ag, Value.category, l_X7_mayOpen, o_X7_mayOpen]
set_option maxRecDepth 20000 in
theorem lk_7_145 : am_mT.lookup (7, 145) = some (mX7_expectSign, 0) := rfl
theorem c_7_145 {p : Nat} {v0 : Int32} (hd : decode (m_c M) pc = .ok (.invokevirtual 145, 3)) (ho : m_o M = 7) : WP (d + 1) M pc L (.int v0 :: .ref p :: S) h Q = ((a_t h p).1 = 7 ∧ (S.map Value.category).sum ≤ 8 ∧ Cal d mX7_expectSign [.ref p, .int v0] h (Kn (d + 1) M (pc + 3) L S Q)) := by
  rw [w_cv (as := [.int v0]) (S := S) hd (by rw [ho]; exact lk_7_145) rfl rfl]
  simp [am_ag, Value.category, l_X7_expectSign, o_X7_expectSign]
set_option maxRecDepth 20000 in
theorem lk_7_174 : am_mT.lookup (7, 174) = some (mX7_isWord, 0) := rfl
theorem c_7_174 {p : Nat} {v0 : Int32} (hd : decode (m_c M) pc = .ok (.invokevirtual 174, 3)) (ho : m_o M = 7) : WP (d + 1) M pc L (.int v0 :: .ref p :: S) h Q = ((a_t h p).1 = 7 ∧ (S.map Value.category).sum ≤ 8 ∧ Cal d mX7_isWord [.ref p, .int v0] h (Kn (d + 1) M (pc + 3) L S Q)) := by
  rw [w_cv (as := [.int v0]) (S := S) hd (by rw [ho]; exact lk_7_174) rfl rfl]
  simp [am_ag, Value.category, l_X7_isWord, o_X7_isWord]
set_option maxRecDepth 20000 in
theorem lk_7_177 : am_mT.lookup (7, 177) = some (mX7_readChoice, 0) := rfl
theorem c_7_177 {p : Nat} {v0 : Int32} (hd : decode (m_c M) pc = .ok (.invokevirtual 177, 3)) (ho : m_o M = 7) : WP (d + 1) M pc L (.int v0 :: .ref p :: S) h Q = ((a_t h p).1 = 7 ∧ (S.map Value.category).sum ≤ 8 ∧ Cal d mX7_readChoice [.ref p, .int v0] h (Kn (d + 1) M (pc + 3) L S Q)) := by
  rw [w_cv (as := [.int v0]) (S := S) hd (by rw [ho]; exact lk_7_177) rfl rfl]
  simp [am_ag, Value.category, l_X7_readChoice, o_X7_readChoice]
set_option maxRecDepth 20000 in
theorem lk_7_186 : am_mT.lookup (7, 186) = some (mX7_readEither, 0) := rfl
theorem c_7_186 {p : Nat} {v0 : Int32} (hd : decode (m_c M) pc = .ok (.invokevirtual 186, 3)) (ho : m_o M = 7) : WP (d + 1) M pc L (.int v0 :: .ref p :: S) h Q = ((a_t h p).1 = 7 ∧ (S.map Value.category).sum ≤ 8 ∧ Cal d mX7_readEither [.ref p, .int v0] h (Kn (d + 1) M (pc + 3) L S Q)) := by
  rw [w_cv (as := [.int v0]) (S := S) hd (by rw [ho]; exact lk_7_186) rfl rfl]
  simp [am_ag, Value.category, l_X7_readEither, o_X7_readEither]
set_option maxRecDepth 20000 in
theorem lk_7_192 : am_mT.lookup (7, 192) = some (mX7_readBoth, 0) := rfl
theorem c_7_192 {p : Nat} {v0 : Int32} (hd : decode (m_c M) pc = .ok (.invokevirtual 192, 3)) (ho : m_o M = 7) : WP (d + 1) M pc L (.int v0 :: .ref p :: S) h Q = ((a_t h p).1 = 7 ∧ (S.map Value.category).sum ≤ 8 ∧ Cal d mX7_readBoth [.ref p, .int v0] h (Kn (d + 1) M (pc + 3) L S Q)) := by
  rw [w_cv (as := [.int v0]) (S := S) hd (by rw [ho]; exact lk_7_192) rfl rfl]
  simp [am_ag, Value.category, l_X7_readBoth, o_X7_readBoth]
set_option maxRecDepth 20000 in
theorem lk_7_195 : am_mT.lookup (7, 195) = some (mX7_readAsk, 0) := rfl
theorem c_7_195 {p : Nat} {v0 : Int32} (hd : decode (m_c M) pc = .ok (.invokevirtual 195, 3)) (ho : m_o M = 7) : WP (d + 1) M pc L (.int v0 :: .ref p :: S) h Q = ((a_t h p).1 = 7 ∧ (S.map Value.category).sum ≤ 8 ∧ Cal d mX7_readAsk [.ref p, .int v0] h (Kn (d + 1) M (pc + 3) L S Q)) := by
  rw [w_cv (as := [.int v0]) (S := S) hd (by rw [ho]; exact lk_7_195) rfl rfl]
  simp [am_ag, Value.category, l_X7_readAsk, o_X7_readAsk]
set_option maxRecDepth 20000 in
theorem lk_7_198 : am_mT.lookup (7, 198) = some (mX7_comparison, 0) := rfl
theorem c_7_198 {p : Nat} (hd : decode (m_c M) pc = .ok (.invokevirtual 198, 3)) (ho : m_o M = 7) : WP (d + 1) M pc L (.ref p :: S) h Q = ((a_t h p).1 = 7 ∧ (S.map Value.category).sum ≤ 8 ∧ Cal d mX7_comparison [.ref p] h (Kn (d + 1) M (pc + 3) L S Q)) := by
  rw [w_cv (as := []) (S := S) hd (by rw [ho]; exact lk_7_198) rfl rfl]
  simp [am_ag, Value.category, l_X7_comparison, o_X7_comparison]
set_option maxRecDepth 20000 in
theorem lk_7_151 : am_mT.lookup (7, 151) = some (mX7_expectWord, 0) := rfl
theorem c_7_151 {p : Nat} {v0 : Int32} (hd : decode (m_c M) pc = .ok (.invokevirtual 151, 3)) (ho : m_o M = 7) : WP (d + 1) M pc L (.int v0 :: .ref p :: S) h Q = ((a_t h p).1 = 7 ∧ (S.map Value.category).sum ≤ 8 ∧ Cal d mX7_expectWord [.ref p, .int v0] h (Kn (d + 1) M (pc + 3) L S Q)) := by
  rw [w_cv (as := [.int v0]) (S := S) hd (by rw [ho]; exact lk_7_151) rfl rfl]
  simp [am_ag, Value.category, l_X7_expectWord, o_X7_expectWord]
set_option maxRecDepth 20000 in
theorem lk_7_189 : am_mT.lookup (7, 189) = some (mX9_landHere, 0) := rfl
theorem c_7_189 {p : Nat} {v0 : Int32} (hd : decode (m_c M) pc = .ok (.invokevirtual 189, 3)) (ho : m_o M = 7) : WP (d + 1) M pc L (.int v0 :: .ref p :: S) h Q = ((a_t h p).1 = 9 ∧ (S.map Value.category).sum ≤ 8 ∧ Cal d mX9_landHere [.ref p, .int v0] h (Kn (d + 1) M (pc + 3) L S Q)) := by
  rw [w_cv (as := [.int v0]) (S := S) hd (by rw [ho]; exact lk_7_189) rfl rfl]
  simp [am_ag, Value.category, l_X9_landHere, o_X9_landHere]
set_option maxRecDepth 20000 in
theorem lk_7_180 : am_mT.lookup (7, 180) = some (mX7_readName, 0) := rfl
theorem c_7_180 {p : Nat} (hd : decode (m_c M) pc = .ok (.invokevirtual 180, 3)) (ho : m_o M = 7) : WP (d + 1) M pc L (.ref p :: S) h Q = ((a_t h p).1 = 7 ∧ (S.map Value.category).sum ≤ 8 ∧ Cal d mX7_readName [.ref p] h (Kn (d + 1) M (pc + 3) L S Q)) := by
  rw [w_cv (as := []) (S := S) hd (by rw [ho]; exact lk_7_180) rfl rfl]
  simp [am_ag, Value.category, l_X7_readName, o_X7_readName]
set_option maxRecDepth 20000 in
theorem lk_7_183 : am_mT.lookup (7, 183) = some (mX7_isOfClause, 0) := rfl
theorem c_7_183 {p : Nat} {v0 : Int32} (hd : decode (m_c M) pc = .ok (.invokevirtual 183, 3)) (ho : m_o M = 7) : WP (d + 1) M pc L (.int v0 :: .ref p :: S) h Q = ((a_t h p).1 = 7 ∧ (S.map Value.category).sum ≤ 8 ∧ Cal d mX7_isOfClause [.ref p, .int v0] h (Kn (d + 1) M (pc + 3) L S Q)) := by
  rw [w_cv (as := [.int v0]) (S := S) hd (by rw [ho]; exact lk_7_183) rfl rfl]
  simp [am_ag, Value.category, l_X7_isOfClause, o_X7_isOfClause]
set_option maxRecDepth 20000 in
theorem lk_7_142 : am_mT.lookup (7, 142) = some (mX7_readAct, 0) := rfl
theorem c_7_142 {p : Nat} {v0 : Int32} (hd : decode (m_c M) pc = .ok (.invokevirtual 142, 3)) (ho : m_o M = 7) : WP (d + 1) M pc L (.int v0 :: .ref p :: S) h Q = ((a_t h p).1 = 7 ∧ (S.map Value.category).sum ≤ 8 ∧ Cal d mX7_readAct [.ref p, .int v0] h (Kn (d + 1) M (pc + 3) L S Q)) := by
  rw [w_cv (as := [.int v0]) (S := S) hd (by rw [ho]; exact lk_7_142) rfl rfl]
  simp [am_ag, Value.category, l_X7_readAct, o_X7_readAct]
set_option maxRecDepth 20000 in
theorem lk_7_154 : am_mT.lookup (7, 154) = some (mX9_setNumbers, 0) := rfl
theorem c_7_154 {p : Nat} {v0 : Int32} {v1 : Int32} {v2 : Int32} (hd : decode (m_c M) pc = .ok (.invokevirtual 154, 3)) (ho : m_o M = 7) : WP (d + 1) M pc L (.int v2 :: .int v1 :: .int v0 :: .ref p :: S) h Q = ((a_t h p).1 = 9 ∧ (S.map Value.category).sum ≤ 8 ∧ Cal d mX9_setNumbers [.ref p, .int v0, .int v1, .int v2] h (Kn (d + 1) M (pc + 3) L S Q)) := by
  rw [w_cv (as := [.int v0, .int v1, .int v2]) (S := S) hd (by rw [ho]; exact lk_7_154) rfl rfl]
  simp [am_ag, Value.category, l_X9_setNumbers, o_X9_setNumbers]
set_option maxRecDepth 20000 in
theorem lk_13_68 : am_mT.lookup (13, 68) = some (mX11_by, 0) := rfl
theorem c_13_68 {p : Nat} {v0 : Int32} (hd : decode (m_c M) pc = .ok (.invokevirtual 68, 3)) (ho : m_o M = 13) : WP (d + 1) M pc L (.int v0 :: .ref p :: S) h Q = ((a_t h p).1 = 11 ∧ (S.map Value.category).sum ≤ 8 ∧ Cal d mX11_by [.ref p, .int v0] h (Kn (d + 1) M (pc + 3) L S Q)) := by
  rw [w_cv (as := [.int v0]) (S := S) hd (by rw [ho]; exact lk_13_68) rfl rfl]
  simp [am_ag, Value.category, l_X11_by, o_X11_by]
set_option maxRecDepth 20000 in
theorem lk_13_72 : am_mT.lookup (13, 72) = some (mX11_played, 0) := rfl
theorem c_13_72 {p : Nat} {v0 : Int32} (hd : decode (m_c M) pc = .ok (.invokevirtual 72, 3)) (ho : m_o M = 13) : WP (d + 1) M pc L (.int v0 :: .ref p :: S) h Q = ((a_t h p).1 = 11 ∧ (S.map Value.category).sum ≤ 8 ∧ Cal d mX11_played [.ref p, .int v0] h (Kn (d + 1) M (pc + 3) L S Q)) := by
  rw [w_cv (as := [.int v0]) (S := S) hd (by rw [ho]; exact lk_13_72) rfl rfl]
  simp [am_ag, Value.category, l_X11_played, o_X11_played]
set_option maxRecDepth 20000 in
theorem lk_11_186 : am_mT.lookup (11, 186) = some (mX11_speak, 0) := rfl
theorem c_11_186 {p : Nat} {v0 : Int32} {v1 : Int32} (hd : decode (m_c M) pc = .ok (.invokevirtual 186, 3)) (ho : m_o M = 11) : WP (d + 1) M pc L (.int v1 :: .int v0 :: .ref p :: S) h Q = ((a_t h p).1 = 11 ∧ (S.map Value.category).sum ≤ 8 ∧ Cal d mX11_speak [.ref p, .int v0, .int v1] h (Kn (d + 1) M (pc + 3) L S Q)) := by
  rw [w_cv (as := [.int v0, .int v1]) (S := S) hd (by rw [ho]; exact lk_11_186) rfl rfl]
  simp [am_ag, Value.category, l_X11_speak, o_X11_speak]
set_option maxRecDepth 20000 in
theorem lk_11_189 : am_mT.lookup (11, 189) = some (mX11_hush, 0) := rfl
theorem c_11_189 {p : Nat} {v0 : Int32} (hd : decode (m_c M) pc = .ok (.invokevirtual 189, 3)) (ho : m_o M = 11) : WP (d + 1) M pc L (.int v0 :: .ref p :: S) h Q = ((a_t h p).1 = 11 ∧ (S.map Value.category).sum ≤ 8 ∧ Cal d mX11_hush [.ref p, .int v0] h (Kn (d + 1) M (pc + 3) L S Q)) := by
  rw [w_cv (as := [.int v0]) (S := S) hd (by rw [ho]; exact lk_11_189) rfl rfl]
  simp [am_ag, Value.category, l_X11_hush, o_X11_hush]
set_option maxRecDepth 20000 in
theorem lk_11_193 : am_mT.lookup (11, 193) = some (mX11_yes, 0) := rfl
theorem c_11_193 {p : Nat} {v0 : Int32} (hd : decode (m_c M) pc = .ok (.invokevirtual 193, 3)) (ho : m_o M = 11) : WP (d + 1) M pc L (.int v0 :: .ref p :: S) h Q = ((a_t h p).1 = 11 ∧ (S.map Value.category).sum ≤ 8 ∧ Cal d mX11_yes [.ref p, .int v0] h (Kn (d + 1) M (pc + 3) L S Q)) := by
  rw [w_cv (as := [.int v0]) (S := S) hd (by rw [ho]; exact lk_11_193) rfl rfl]
  simp [am_ag, Value.category, l_X11_yes, o_X11_yes]
set_option maxRecDepth 20000 in
theorem lk_11_196 : am_mT.lookup (11, 196) = some (mX11_go, 0) := rfl
theorem c_11_196 {p : Nat} {v0 : Int32} (hd : decode (m_c M) pc = .ok (.invokevirtual 196, 3)) (ho : m_o M = 11) : WP (d + 1) M pc L (.int v0 :: .ref p :: S) h Q = ((a_t h p).1 = 11 ∧ (S.map Value.category).sum ≤ 8 ∧ Cal d mX11_go [.ref p, .int v0] h (Kn (d + 1) M (pc + 3) L S Q)) := by
  rw [w_cv (as := [.int v0]) (S := S) hd (by rw [ho]; exact lk_11_196) rfl rfl]
  simp [am_ag, Value.category, l_X11_go, o_X11_go]
set_option maxRecDepth 20000 in
theorem lk_11_202 : am_mT.lookup (11, 202) = some (mX11_delay, 0) := rfl
theorem c_11_202 {p : Nat} {v0 : Int32} {v1 : Int32} {v2 : Int32} (hd : decode (m_c M) pc = .ok (.invokevirtual 202, 3)) (ho : m_o M = 11) : WP (d + 1) M pc L (.int v2 :: .int v1 :: .int v0 :: .ref p :: S) h Q = ((a_t h p).1 = 11 ∧ (S.map Value.category).sum ≤ 8 ∧ Cal d mX11_delay [.ref p, .int v0, .int v1, .int v2] h (Kn (d + 1) M (pc + 3) L S Q)) := by
  rw [w_cv (as := [.int v0, .int v1, .int v2]) (S := S) hd (by rw [ho]; exact lk_11_202) rfl rfl]
  simp [am_ag, Value.category, l_X11_delay, o_X11_delay]
set_option maxRecDepth 20000 in
theorem lk_11_205 : am_mT.lookup (11, 205) = some (mX11_rule, 0) := rfl
theorem c_11_205 {p : Nat} {v0 : Int32} (hd : decode (m_c M) pc = .ok (.invokevirtual 205, 3)) (ho : m_o M = 11) : WP (d + 1) M pc L (.int v0 :: .ref p :: S) h Q = ((a_t h p).1 = 11 ∧ (S.map Value.category).sum ≤ 8 ∧ Cal d mX11_rule [.ref p, .int v0] h (Kn (d + 1) M (pc + 3) L S Q)) := by
  rw [w_cv (as := [.int v0]) (S := S) hd (by rw [ho]; exact lk_11_205) rfl rfl]
  simp [am_ag, Value.category, l_X11_rule, o_X11_rule]
set_option maxRecDepth 20000 in
theorem lk_13_76 : am_mT.lookup (13, 76) = some (mX11_undo, 0) := rfl
theorem c_13_76 {p : Nat} (hd : decode (m_c M) pc = .ok (.invokevirtual 76, 3)) (ho : m_o M = 13) : WP (d + 1) M pc L (.ref p :: S) h Q = ((a_t h p).1 = 11 ∧ (S.map Value.category).sum ≤ 8 ∧ Cal d mX11_undo [.ref p] h (Kn (d + 1) M (pc + 3) L S Q)) := by
  rw [w_cv (as := []) (S := S) hd (by rw [ho]; exact lk_13_76) rfl rfl]
  simp [am_ag, Value.category, l_X11_undo, o_X11_undo]
set_option maxRecDepth 20000 in
theorem lk_11_210 : am_mT.lookup (11, 210) = some (mX8_takeStepBack, 0) := rfl
theorem c_11_210 {p : Nat} (hd : decode (m_c M) pc = .ok (.invokevirtual 210, 3)) (ho : m_o M = 11) : WP (d + 1) M pc L (.ref p :: S) h Q = ((a_t h p).1 = 8 ∧ (S.map Value.category).sum ≤ 8 ∧ Cal d mX8_takeStepBack [.ref p] h (Kn (d + 1) M (pc + 3) L S Q)) := by
  rw [w_cv (as := []) (S := S) hd (by rw [ho]; exact lk_11_210) rfl rfl]
  simp [am_ag, Value.category, l_X8_takeStepBack, o_X8_takeStepBack]
set_option maxRecDepth 20000 in
theorem lk_8_117 : am_mT.lookup (8, 117) = some (mX2_reopen, 0) := rfl
theorem c_8_117 {p : Nat} {v0 : Int32} (hd : decode (m_c M) pc = .ok (.invokevirtual 117, 3)) (ho : m_o M = 8) : WP (d + 1) M pc L (.int v0 :: .ref p :: S) h Q = ((a_t h p).1 = 2 ∧ (S.map Value.category).sum ≤ 8 ∧ Cal d mX2_reopen [.ref p, .int v0] h (Kn (d + 1) M (pc + 3) L S Q)) := by
  rw [w_cv (as := [.int v0]) (S := S) hd (by rw [ho]; exact lk_8_117) rfl rfl]
  simp [am_ag, Value.category, l_X2_reopen, o_X2_reopen]
set_option maxRecDepth 20000 in
theorem lk_2_49 : am_mT.lookup (2, 49) = some (mX2_closeTurn, 0) := rfl
theorem c_2_49 {p : Nat} {v0 : Int32} {v1 : Int32} {v2 : Int32} (hd : decode (m_c M) pc = .ok (.invokevirtual 49, 3)) (ho : m_o M = 2) : WP (d + 1) M pc L (.int v2 :: .int v1 :: .int v0 :: .ref p :: S) h Q = ((a_t h p).1 = 2 ∧ (S.map Value.category).sum ≤ 8 ∧ Cal d mX2_closeTurn [.ref p, .int v0, .int v1, .int v2] h (Kn (d + 1) M (pc + 3) L S Q)) := by
  rw [w_cv (as := [.int v0, .int v1, .int v2]) (S := S) hd (by rw [ho]; exact lk_2_49) rfl rfl]
  simp [am_ag, Value.category, l_X2_closeTurn, o_X2_closeTurn]
set_option maxRecDepth 20000 in
theorem lk_13_127 : am_mT.lookup (13, 127) = some (mX11_price, 0) := rfl
theorem c_13_127 {p : Nat} {v0 : Int32} {v1 : Int32} {v2 : Int32} (hd : decode (m_c M) pc = .ok (.invokevirtual 127, 3)) (ho : m_o M = 13) : WP (d + 1) M pc L (.int v2 :: .int v1 :: .int v0 :: .ref p :: S) h Q = ((a_t h p).1 = 11 ∧ (S.map Value.category).sum ≤ 8 ∧ Cal d mX11_price [.ref p, .int v0, .int v1, .int v2] h (Kn (d + 1) M (pc + 3) L S Q)) := by
  rw [w_cv (as := [.int v0, .int v1, .int v2]) (S := S) hd (by rw [ho]; exact lk_13_127) rfl rfl]
  simp [am_ag, Value.category, l_X11_price, o_X11_price]
set_option maxRecDepth 20000 in
theorem lk_13_161 : am_mT.lookup (13, 161) = some (mX11_agree, 0) := rfl
theorem c_13_161 {p : Nat} {v0 : Int32} {v1 : Int32} {v2 : Int32} (hd : decode (m_c M) pc = .ok (.invokevirtual 161, 3)) (ho : m_o M = 13) : WP (d + 1) M pc L (.int v2 :: .int v1 :: .int v0 :: .ref p :: S) h Q = ((a_t h p).1 = 11 ∧ (S.map Value.category).sum ≤ 8 ∧ Cal d mX11_agree [.ref p, .int v0, .int v1, .int v2] h (Kn (d + 1) M (pc + 3) L S Q)) := by
  rw [w_cv (as := [.int v0, .int v1, .int v2]) (S := S) hd (by rw [ho]; exact lk_13_161) rfl rfl]
  simp [am_ag, Value.category, l_X11_agree, o_X11_agree]
set_option maxRecDepth 20000 in
theorem lk_11_229 : am_mT.lookup (11, 229) = some (mX0_areTold, 0) := rfl
theorem c_11_229 {p : Nat} {v0 : Int32} (hd : decode (m_c M) pc = .ok (.invokevirtual 229, 3)) (ho : m_o M = 11) : WP (d + 1) M pc L (.int v0 :: .ref p :: S) h Q = ((a_t h p).1 = 0 ∧ (S.map Value.category).sum ≤ 8 ∧ Cal d mX0_areTold [.ref p, .int v0] h (Kn (d + 1) M (pc + 3) L S Q)) := by
  rw [w_cv (as := [.int v0]) (S := S) hd (by rw [ho]; exact lk_11_229) rfl rfl]
  simp [am_ag, Value.category, l_X0_areTold, o_X0_areTold]
set_option maxRecDepth 20000 in
theorem lk_11_232 : am_mT.lookup (11, 232) = some (mX0_add, 0) := rfl
theorem c_11_232 {p : Nat} {v0 : Int32} {v1 : Int32} {v2 : Int32} (hd : decode (m_c M) pc = .ok (.invokevirtual 232, 3)) (ho : m_o M = 11) : WP (d + 1) M pc L (.int v2 :: .int v1 :: .int v0 :: .ref p :: S) h Q = ((a_t h p).1 = 0 ∧ (S.map Value.category).sum ≤ 8 ∧ Cal d mX0_add [.ref p, .int v0, .int v1, .int v2] h (Kn (d + 1) M (pc + 3) L S Q)) := by
  rw [w_cv (as := [.int v0, .int v1, .int v2]) (S := S) hd (by rw [ho]; exact lk_11_232) rfl rfl]
  simp [am_ag, Value.category, l_X0_add, o_X0_add]
set_option maxRecDepth 20000 in
theorem lk_13_169 : am_mT.lookup (13, 169) = some (mX11_heard, 0) := rfl
theorem c_13_169 {p : Nat} {v0 : Int32} {v1 : Int32} {v2 : Int32} {v3 : Int32} (hd : decode (m_c M) pc = .ok (.invokevirtual 169, 3)) (ho : m_o M = 13) : WP (d + 1) M pc L (.int v3 :: .int v2 :: .int v1 :: .int v0 :: .ref p :: S) h Q = ((a_t h p).1 = 11 ∧ (S.map Value.category).sum ≤ 8 ∧ Cal d mX11_heard [.ref p, .int v0, .int v1, .int v2, .int v3] h (Kn (d + 1) M (pc + 3) L S Q)) := by
  rw [w_cv (as := [.int v0, .int v1, .int v2, .int v3]) (S := S) hd (by rw [ho]; exact lk_13_169) rfl rfl]
  simp [am_ag, Value.category, l_X11_heard, o_X11_heard]
set_option maxRecDepth 20000 in
theorem lk_11_242 : am_mT.lookup (11, 242) = some (mX1_add, 0) := rfl
theorem c_11_242 {p : Nat} {v0 : Int32} {v1 : Int32} (hd : decode (m_c M) pc = .ok (.invokevirtual 242, 3)) (ho : m_o M = 11) : WP (d + 1) M pc L (.int v1 :: .int v0 :: .ref p :: S) h Q = ((a_t h p).1 = 1 ∧ (S.map Value.category).sum ≤ 8 ∧ Cal d mX1_add [.ref p, .int v0, .int v1] h (Kn (d + 1) M (pc + 3) L S Q)) := by
  rw [w_cv (as := [.int v0, .int v1]) (S := S) hd (by rw [ho]; exact lk_11_242) rfl rfl]
  simp [am_ag, Value.category, l_X1_add, o_X1_add]
set_option maxRecDepth 20000 in
theorem lk_13_186 : am_mT.lookup (13, 186) = some (mX11_image, 0) := rfl
theorem c_13_186 {p : Nat} (hd : decode (m_c M) pc = .ok (.invokevirtual 186, 3)) (ho : m_o M = 13) : WP (d + 1) M pc L (.ref p :: S) h Q = ((a_t h p).1 = 11 ∧ (S.map Value.category).sum ≤ 8 ∧ Cal d mX11_image [.ref p] h (Kn (d + 1) M (pc + 3) L S Q)) := by
  rw [w_cv (as := []) (S := S) hd (by rw [ho]; exact lk_13_186) rfl rfl]
  simp [am_ag, Value.category, l_X11_image, o_X11_image]
set_option maxRecDepth 20000 in
theorem lk_11_244 : am_mT.lookup (11, 244) = some (mX8_copyFrom, 0) := rfl
theorem c_11_244 {p : Nat} {v0 : Nat} (hd : decode (m_c M) pc = .ok (.invokevirtual 244, 3)) (ho : m_o M = 11) : WP (d + 1) M pc L (.ref v0 :: .ref p :: S) h Q = ((a_t h p).1 = 8 ∧ (S.map Value.category).sum ≤ 8 ∧ Cal d mX8_copyFrom [.ref p, .ref v0] h (Kn (d + 1) M (pc + 3) L S Q)) := by
  rw [w_cv (as := [.ref v0]) (S := S) hd (by rw [ho]; exact lk_11_244) rfl rfl]
  simp [am_ag, Value.category, l_X8_copyFrom, o_X8_copyFrom]
set_option maxRecDepth 20000 in
theorem lk_8_60 : am_mT.lookup (8, 60) = some (mX10_copyFrom, 0) := rfl
theorem c_8_60 {p : Nat} {v0 : Nat} (hd : decode (m_c M) pc = .ok (.invokevirtual 60, 3)) (ho : m_o M = 8) : WP (d + 1) M pc L (.ref v0 :: .ref p :: S) h Q = ((a_t h p).1 = 10 ∧ (S.map Value.category).sum ≤ 8 ∧ Cal d mX10_copyFrom [.ref p, .ref v0] h (Kn (d + 1) M (pc + 3) L S Q)) := by
  rw [w_cv (as := [.ref v0]) (S := S) hd (by rw [ho]; exact lk_8_60) rfl rfl]
  simp [am_ag, Value.category, l_X10_copyFrom, o_X10_copyFrom]
set_option maxRecDepth 20000 in
theorem lk_8_67 : am_mT.lookup (8, 67) = some (mX2_copyFrom, 0) := rfl
theorem c_8_67 {p : Nat} {v0 : Nat} {v1 : Nat} (hd : decode (m_c M) pc = .ok (.invokevirtual 67, 3)) (ho : m_o M = 8) : WP (d + 1) M pc L (.ref v1 :: .ref v0 :: .ref p :: S) h Q = ((a_t h p).1 = 2 ∧ (S.map Value.category).sum ≤ 8 ∧ Cal d mX2_copyFrom [.ref p, .ref v0, .ref v1] h (Kn (d + 1) M (pc + 3) L S Q)) := by
  rw [w_cv (as := [.ref v0, .ref v1]) (S := S) hd (by rw [ho]; exact lk_8_67) rfl rfl]
  simp [am_ag, Value.category, l_X2_copyFrom, o_X2_copyFrom]
set_option maxRecDepth 20000 in
theorem lk_8_92 : am_mT.lookup (8, 92) = some (mX0_copyFrom, 0) := rfl
theorem c_8_92 {p : Nat} {v0 : Nat} (hd : decode (m_c M) pc = .ok (.invokevirtual 92, 3)) (ho : m_o M = 8) : WP (d + 1) M pc L (.ref v0 :: .ref p :: S) h Q = ((a_t h p).1 = 0 ∧ (S.map Value.category).sum ≤ 8 ∧ Cal d mX0_copyFrom [.ref p, .ref v0] h (Kn (d + 1) M (pc + 3) L S Q)) := by
  rw [w_cv (as := [.ref v0]) (S := S) hd (by rw [ho]; exact lk_8_92) rfl rfl]
  simp [am_ag, Value.category, l_X0_copyFrom, o_X0_copyFrom]
set_option maxRecDepth 20000 in
theorem lk_8_95 : am_mT.lookup (8, 95) = some (mX1_copyFrom, 0) := rfl
theorem c_8_95 {p : Nat} {v0 : Nat} (hd : decode (m_c M) pc = .ok (.invokevirtual 95, 3)) (ho : m_o M = 8) : WP (d + 1) M pc L (.ref v0 :: .ref p :: S) h Q = ((a_t h p).1 = 1 ∧ (S.map Value.category).sum ≤ 8 ∧ Cal d mX1_copyFrom [.ref p, .ref v0] h (Kn (d + 1) M (pc + 3) L S Q)) := by
  rw [w_cv (as := [.ref v0]) (S := S) hd (by rw [ho]; exact lk_8_95) rfl rfl]
  simp [am_ag, Value.category, l_X1_copyFrom, o_X1_copyFrom]
set_option maxRecDepth 20000 in
theorem lk_13_190 : am_mT.lookup (13, 190) = some (mX11_back, 0) := rfl
theorem c_13_190 {p : Nat} (hd : decode (m_c M) pc = .ok (.invokevirtual 190, 3)) (ho : m_o M = 13) : WP (d + 1) M pc L (.ref p :: S) h Q = ((a_t h p).1 = 11 ∧ (S.map Value.category).sum ≤ 8 ∧ Cal d mX11_back [.ref p] h (Kn (d + 1) M (pc + 3) L S Q)) := by
  rw [w_cv (as := []) (S := S) hd (by rw [ho]; exact lk_13_190) rfl rfl]
  simp [am_ag, Value.category, l_X11_back, o_X11_back]
set_option maxRecDepth 20000 in
theorem lk_13_64 : am_mT.lookup (13, 64) = some (mX11_fault, 0) := rfl
theorem c_13_64 {p : Nat} {v0 : Int32} (hd : decode (m_c M) pc = .ok (.invokevirtual 64, 3)) (ho : m_o M = 13) : WP (d + 1) M pc L (.int v0 :: .ref p :: S) h Q = ((a_t h p).1 = 11 ∧ (S.map Value.category).sum ≤ 8 ∧ Cal d mX11_fault [.ref p, .int v0] h (Kn (d + 1) M (pc + 3) L S Q)) := by
  rw [w_cv (as := [.int v0]) (S := S) hd (by rw [ho]; exact lk_13_64) rfl rfl]
  simp [am_ag, Value.category, l_X11_fault, o_X11_fault]
set_option maxRecDepth 20000 in
theorem lk_13_80 : am_mT.lookup (13, 80) = some (mX11_of, 0) := rfl
theorem c_13_80 {p : Nat} {v0 : Int32} {v1 : Int32} (hd : decode (m_c M) pc = .ok (.invokevirtual 80, 3)) (ho : m_o M = 13) : WP (d + 1) M pc L (.int v1 :: .int v0 :: .ref p :: S) h Q = ((a_t h p).1 = 11 ∧ (S.map Value.category).sum ≤ 8 ∧ Cal d mX11_of [.ref p, .int v0, .int v1] h (Kn (d + 1) M (pc + 3) L S Q)) := by
  rw [w_cv (as := [.int v0, .int v1]) (S := S) hd (by rw [ho]; exact lk_13_80) rfl rfl]
  simp [am_ag, Value.category, l_X11_of, o_X11_of]
set_option maxRecDepth 20000 in
theorem lk_11_251 : am_mT.lookup (11, 251) = some (mX10_number, 0) := rfl
theorem c_11_251 {p : Nat} {v0 : Int32} {v1 : Int32} (hd : decode (m_c M) pc = .ok (.invokevirtual 251, 3)) (ho : m_o M = 11) : WP (d + 1) M pc L (.int v1 :: .int v0 :: .ref p :: S) h Q = ((a_t h p).1 = 10 ∧ (S.map Value.category).sum ≤ 8 ∧ Cal d mX10_number [.ref p, .int v0, .int v1] h (Kn (d + 1) M (pc + 3) L S Q)) := by
  rw [w_cv (as := [.int v0, .int v1]) (S := S) hd (by rw [ho]; exact lk_11_251) rfl rfl]
  simp [am_ag, Value.category, l_X10_number, o_X10_number]
set_option maxRecDepth 20000 in
theorem lk_11_254 : am_mT.lookup (11, 254) = some (mX3_number, 0) := rfl
theorem c_11_254 {p : Nat} {v0 : Int32} (hd : decode (m_c M) pc = .ok (.invokevirtual 254, 3)) (ho : m_o M = 11) : WP (d + 1) M pc L (.int v0 :: .ref p :: S) h Q = ((a_t h p).1 = 3 ∧ (S.map Value.category).sum ≤ 8 ∧ Cal d mX3_number [.ref p, .int v0] h (Kn (d + 1) M (pc + 3) L S Q)) := by
  rw [w_cv (as := [.int v0]) (S := S) hd (by rw [ho]; exact lk_11_254) rfl rfl]
  simp [am_ag, Value.category, l_X3_number, o_X3_number]
set_option maxRecDepth 20000 in
theorem lk_13_84 : am_mT.lookup (13, 84) = some (mX11_through, 0) := rfl
theorem c_13_84 {p : Nat} {v0 : Int32} {v1 : Int32} {v2 : Int32} (hd : decode (m_c M) pc = .ok (.invokevirtual 84, 3)) (ho : m_o M = 13) : WP (d + 1) M pc L (.int v2 :: .int v1 :: .int v0 :: .ref p :: S) h Q = ((a_t h p).1 = 11 ∧ (S.map Value.category).sum ≤ 8 ∧ Cal d mX11_through [.ref p, .int v0, .int v1, .int v2] h (Kn (d + 1) M (pc + 3) L S Q)) := by
  rw [w_cv (as := [.int v0, .int v1, .int v2]) (S := S) hd (by rw [ho]; exact lk_13_84) rfl rfl]
  simp [am_ag, Value.category, l_X11_through, o_X11_through]
set_option maxRecDepth 20000 in
theorem lk_13_89 : am_mT.lookup (13, 89) = some (mX11_turn, 0) := rfl
theorem c_13_89 {p : Nat} {v0 : Int32} {v1 : Int32} (hd : decode (m_c M) pc = .ok (.invokevirtual 89, 3)) (ho : m_o M = 13) : WP (d + 1) M pc L (.int v1 :: .int v0 :: .ref p :: S) h Q = ((a_t h p).1 = 11 ∧ (S.map Value.category).sum ≤ 8 ∧ Cal d mX11_turn [.ref p, .int v0, .int v1] h (Kn (d + 1) M (pc + 3) L S Q)) := by
  rw [w_cv (as := [.int v0, .int v1]) (S := S) hd (by rw [ho]; exact lk_13_89) rfl rfl]
  simp [am_ag, Value.category, l_X11_turn, o_X11_turn]
set_option maxRecDepth 20000 in
theorem lk_11_262 : am_mT.lookup (11, 262) = some (mX11_isTurn, 0) := rfl
theorem c_11_262 {p : Nat} {v0 : Int32} (hd : decode (m_c M) pc = .ok (.invokevirtual 262, 3)) (ho : m_o M = 11) : WP (d + 1) M pc L (.int v0 :: .ref p :: S) h Q = ((a_t h p).1 = 11 ∧ (S.map Value.category).sum ≤ 8 ∧ Cal d mX11_isTurn [.ref p, .int v0] h (Kn (d + 1) M (pc + 3) L S Q)) := by
  rw [w_cv (as := [.int v0]) (S := S) hd (by rw [ho]; exact lk_11_262) rfl rfl]
  simp [am_ag, Value.category, l_X11_isTurn, o_X11_isTurn]
set_option maxRecDepth 20000 in
theorem lk_11_265 : am_mT.lookup (11, 265) = some (mX2_turnNumber, 0) := rfl
theorem c_11_265 {p : Nat} {v0 : Int32} {v1 : Int32} (hd : decode (m_c M) pc = .ok (.invokevirtual 265, 3)) (ho : m_o M = 11) : WP (d + 1) M pc L (.int v1 :: .int v0 :: .ref p :: S) h Q = ((a_t h p).1 = 2 ∧ (S.map Value.category).sum ≤ 8 ∧ Cal d mX2_turnNumber [.ref p, .int v0, .int v1] h (Kn (d + 1) M (pc + 3) L S Q)) := by
  rw [w_cv (as := [.int v0, .int v1]) (S := S) hd (by rw [ho]; exact lk_11_265) rfl rfl]
  simp [am_ag, Value.category, l_X2_turnNumber, o_X2_turnNumber]
set_option maxRecDepth 20000 in
theorem lk_13_93 : am_mT.lookup (13, 93) = some (mX11_said, 0) := rfl
theorem c_13_93 {p : Nat} {v0 : Int32} {v1 : Int32} (hd : decode (m_c M) pc = .ok (.invokevirtual 93, 3)) (ho : m_o M = 13) : WP (d + 1) M pc L (.int v1 :: .int v0 :: .ref p :: S) h Q = ((a_t h p).1 = 11 ∧ (S.map Value.category).sum ≤ 8 ∧ Cal d mX11_said [.ref p, .int v0, .int v1] h (Kn (d + 1) M (pc + 3) L S Q)) := by
  rw [w_cv (as := [.int v0, .int v1]) (S := S) hd (by rw [ho]; exact lk_13_93) rfl rfl]
  simp [am_ag, Value.category, l_X11_said, o_X11_said]
set_option maxRecDepth 20000 in
theorem lk_11_268 : am_mT.lookup (11, 268) = some (mX2_takenFor, 0) := rfl
theorem c_11_268 {p : Nat} {v0 : Int32} {v1 : Int32} {v2 : Nat} (hd : decode (m_c M) pc = .ok (.invokevirtual 268, 3)) (ho : m_o M = 11) : WP (d + 1) M pc L (.ref v2 :: .int v1 :: .int v0 :: .ref p :: S) h Q = ((a_t h p).1 = 2 ∧ (S.map Value.category).sum ≤ 8 ∧ Cal d mX2_takenFor [.ref p, .int v0, .int v1, .ref v2] h (Kn (d + 1) M (pc + 3) L S Q)) := by
  rw [w_cv (as := [.int v0, .int v1, .ref v2]) (S := S) hd (by rw [ho]; exact lk_11_268) rfl rfl]
  simp [am_ag, Value.category, l_X2_takenFor, o_X2_takenFor]
set_option maxRecDepth 20000 in
theorem lk_2_68 : am_mT.lookup (2, 68) = some (mX2_yesHeardIn, 0) := rfl
theorem c_2_68 {p : Nat} {v0 : Int32} {v1 : Int32} {v2 : Nat} (hd : decode (m_c M) pc = .ok (.invokevirtual 68, 3)) (ho : m_o M = 2) : WP (d + 1) M pc L (.ref v2 :: .int v1 :: .int v0 :: .ref p :: S) h Q = ((a_t h p).1 = 2 ∧ (S.map Value.category).sum ≤ 8 ∧ Cal d mX2_yesHeardIn [.ref p, .int v0, .int v1, .ref v2] h (Kn (d + 1) M (pc + 3) L S Q)) := by
  rw [w_cv (as := [.int v0, .int v1, .ref v2]) (S := S) hd (by rw [ho]; exact lk_2_68) rfl rfl]
  simp [am_ag, Value.category, l_X2_yesHeardIn, o_X2_yesHeardIn]
set_option maxRecDepth 20000 in
theorem lk_11_272 : am_mT.lookup (11, 272) = some (mX2_yesNumber, 0) := rfl
theorem c_11_272 {p : Nat} {v0 : Int32} {v1 : Int32} (hd : decode (m_c M) pc = .ok (.invokevirtual 272, 3)) (ho : m_o M = 11) : WP (d + 1) M pc L (.int v1 :: .int v0 :: .ref p :: S) h Q = ((a_t h p).1 = 2 ∧ (S.map Value.category).sum ≤ 8 ∧ Cal d mX2_yesNumber [.ref p, .int v0, .int v1] h (Kn (d + 1) M (pc + 3) L S Q)) := by
  rw [w_cv (as := [.int v0, .int v1]) (S := S) hd (by rw [ho]; exact lk_11_272) rfl rfl]
  simp [am_ag, Value.category, l_X2_yesNumber, o_X2_yesNumber]
set_option maxRecDepth 20000 in
theorem lk_13_97 : am_mT.lookup (13, 97) = some (mX11_misjoined, 0) := rfl
theorem c_13_97 {p : Nat} (hd : decode (m_c M) pc = .ok (.invokevirtual 97, 3)) (ho : m_o M = 13) : WP (d + 1) M pc L (.ref p :: S) h Q = ((a_t h p).1 = 11 ∧ (S.map Value.category).sum ≤ 8 ∧ Cal d mX11_misjoined [.ref p] h (Kn (d + 1) M (pc + 3) L S Q)) := by
  rw [w_cv (as := []) (S := S) hd (by rw [ho]; exact lk_13_97) rfl rfl]
  simp [am_ag, Value.category, l_X11_misjoined, o_X11_misjoined]
set_option maxRecDepth 20000 in
theorem lk_11_275 : am_mT.lookup (11, 275) = some (mX2_isMisjoined, 0) := rfl
theorem c_11_275 {p : Nat} {v0 : Int32} {v1 : Nat} (hd : decode (m_c M) pc = .ok (.invokevirtual 275, 3)) (ho : m_o M = 11) : WP (d + 1) M pc L (.ref v1 :: .int v0 :: .ref p :: S) h Q = ((a_t h p).1 = 2 ∧ (S.map Value.category).sum ≤ 8 ∧ Cal d mX2_isMisjoined [.ref p, .int v0, .ref v1] h (Kn (d + 1) M (pc + 3) L S Q)) := by
  rw [w_cv (as := [.int v0, .ref v1]) (S := S) hd (by rw [ho]; exact lk_11_275) rfl rfl]
  simp [am_ag, Value.category, l_X2_isMisjoined, o_X2_isMisjoined]
set_option maxRecDepth 20000 in
theorem lk_2_72 : am_mT.lookup (2, 72) = some (mX2_takenFor, 0) := rfl
theorem c_2_72 {p : Nat} {v0 : Int32} {v1 : Int32} {v2 : Nat} (hd : decode (m_c M) pc = .ok (.invokevirtual 72, 3)) (ho : m_o M = 2) : WP (d + 1) M pc L (.ref v2 :: .int v1 :: .int v0 :: .ref p :: S) h Q = ((a_t h p).1 = 2 ∧ (S.map Value.category).sum ≤ 8 ∧ Cal d mX2_takenFor [.ref p, .int v0, .int v1, .ref v2] h (Kn (d + 1) M (pc + 3) L S Q)) := by
  rw [w_cv (as := [.int v0, .int v1, .ref v2]) (S := S) hd (by rw [ho]; exact lk_2_72) rfl rfl]
  simp [am_ag, Value.category, l_X2_takenFor, o_X2_takenFor]
set_option maxRecDepth 20000 in
theorem lk_13_182 : am_mT.lookup (13, 182) = some (mX11_refused, 0) := rfl
theorem c_13_182 {p : Nat} {v0 : Int32} (hd : decode (m_c M) pc = .ok (.invokevirtual 182, 3)) (ho : m_o M = 13) : WP (d + 1) M pc L (.int v0 :: .ref p :: S) h Q = ((a_t h p).1 = 11 ∧ (S.map Value.category).sum ≤ 8 ∧ Cal d mX11_refused [.ref p, .int v0] h (Kn (d + 1) M (pc + 3) L S Q)) := by
  rw [w_cv (as := [.int v0]) (S := S) hd (by rw [ho]; exact lk_13_182) rfl rfl]
  simp [am_ag, Value.category, l_X11_refused, o_X11_refused]
set_option maxRecDepth 20000 in
theorem lk_13_194 : am_mT.lookup (13, 194) = some (mX11_about, 0) := rfl
theorem c_13_194 {p : Nat} {v0 : Int32} (hd : decode (m_c M) pc = .ok (.invokevirtual 194, 3)) (ho : m_o M = 13) : WP (d + 1) M pc L (.int v0 :: .ref p :: S) h Q = ((a_t h p).1 = 11 ∧ (S.map Value.category).sum ≤ 8 ∧ Cal d mX11_about [.ref p, .int v0] h (Kn (d + 1) M (pc + 3) L S Q)) := by
  rw [w_cv (as := [.int v0]) (S := S) hd (by rw [ho]; exact lk_13_194) rfl rfl]
  simp [am_ag, Value.category, l_X11_about, o_X11_about]
set_option maxRecDepth 20000 in
theorem lk_13_101 : am_mT.lookup (13, 101) = some (mX11_whose, 0) := rfl
theorem c_13_101 {p : Nat} {v0 : Int32} {v1 : Int32} {v2 : Int32} {v3 : Int32} {v4 : Int32} {v5 : Int32} (hd : decode (m_c M) pc = .ok (.invokevirtual 101, 3)) (ho : m_o M = 13) : WP (d + 1) M pc L (.int v5 :: .int v4 :: .int v3 :: .int v2 :: .int v1 :: .int v0 :: .ref p :: S) h Q = ((a_t h p).1 = 11 ∧ (S.map Value.category).sum ≤ 8 ∧ Cal d mX11_whose [.ref p, .int v0, .int v1, .int v2, .int v3, .int v4, .int v5] h (Kn (d + 1) M (pc + 3) L S Q)) := by
  rw [w_cv (as := [.int v0, .int v1, .int v2, .int v3, .int v4, .int v5]) (S := S) hd (by rw [ho]; exact lk_13_101) rfl rfl]
  simp [am_ag, Value.category, l_X11_whose, o_X11_whose]
set_option maxRecDepth 20000 in
theorem lk_11_282 : am_mT.lookup (11, 282) = some (mX2_endedLast, 0) := rfl
theorem c_11_282 {p : Nat} {v0 : Int32} {v1 : Int32} {v2 : Nat} (hd : decode (m_c M) pc = .ok (.invokevirtual 282, 3)) (ho : m_o M = 11) : WP (d + 1) M pc L (.ref v2 :: .int v1 :: .int v0 :: .ref p :: S) h Q = ((a_t h p).1 = 2 ∧ (S.map Value.category).sum ≤ 8 ∧ Cal d mX2_endedLast [.ref p, .int v0, .int v1, .ref v2] h (Kn (d + 1) M (pc + 3) L S Q)) := by
  rw [w_cv (as := [.int v0, .int v1, .ref v2]) (S := S) hd (by rw [ho]; exact lk_11_282) rfl rfl]
  simp [am_ag, Value.category, l_X2_endedLast, o_X2_endedLast]
set_option maxRecDepth 20000 in
theorem lk_11_285 : am_mT.lookup (11, 285) = some (mX11_lowestTerm, 1) := rfl
theorem c_11_285 {v0 : Int32} {v1 : Int32} {v2 : Int32} (hd : decode (m_c M) pc = .ok (.invokestatic 285, 3)) (ho : m_o M = 11) : WP (d + 1) M pc L (.int v2 :: .int v1 :: .int v0 :: S) h Q = ((S.map Value.category).sum ≤ 8 ∧ Cal d mX11_lowestTerm [.int v0, .int v1, .int v2] h (Kn (d + 1) M (pc + 3) L S Q)) := by
  rw [w_cs (as := [.int v0, .int v1, .int v2]) (S := S) hd (by rw [ho]; exact lk_11_285) (by decide) rfl]
  simp [am_ag, Value.category, l_X11_lowestTerm, o_X11_lowestTerm]
set_option maxRecDepth 20000 in
theorem lk_13_106 : am_mT.lookup (13, 106) = some (mX11_first, 0) := rfl
theorem c_13_106 {p : Nat} {v0 : Int32} {v1 : Int32} {v2 : Int32} (hd : decode (m_c M) pc = .ok (.invokevirtual 106, 3)) (ho : m_o M = 13) : WP (d + 1) M pc L (.int v2 :: .int v1 :: .int v0 :: .ref p :: S) h Q = ((a_t h p).1 = 11 ∧ (S.map Value.category).sum ≤ 8 ∧ Cal d mX11_first [.ref p, .int v0, .int v1, .int v2] h (Kn (d + 1) M (pc + 3) L S Q)) := by
  rw [w_cv (as := [.int v0, .int v1, .int v2]) (S := S) hd (by rw [ho]; exact lk_13_106) rfl rfl]
  simp [am_ag, Value.category, l_X11_first, o_X11_first]
set_option maxRecDepth 20000 in
theorem lk_11_289 : am_mT.lookup (11, 289) = some (mX2_beganAt, 0) := rfl
theorem c_11_289 {p : Nat} {v0 : Int32} {v1 : Int32} {v2 : Nat} (hd : decode (m_c M) pc = .ok (.invokevirtual 289, 3)) (ho : m_o M = 11) : WP (d + 1) M pc L (.ref v2 :: .int v1 :: .int v0 :: .ref p :: S) h Q = ((a_t h p).1 = 2 ∧ (S.map Value.category).sum ≤ 8 ∧ Cal d mX2_beganAt [.ref p, .int v0, .int v1, .ref v2] h (Kn (d + 1) M (pc + 3) L S Q)) := by
  rw [w_cv (as := [.int v0, .int v1, .ref v2]) (S := S) hd (by rw [ho]; exact lk_11_289) rfl rfl]
  simp [am_ag, Value.category, l_X2_beganAt, o_X2_beganAt]
set_option maxRecDepth 20000 in
theorem lk_13_111 : am_mT.lookup (13, 111) = some (mX11_cold, 0) := rfl
theorem c_13_111 {p : Nat} {v0 : Int32} {v1 : Int32} {v2 : Int32} (hd : decode (m_c M) pc = .ok (.invokevirtual 111, 3)) (ho : m_o M = 13) : WP (d + 1) M pc L (.int v2 :: .int v1 :: .int v0 :: .ref p :: S) h Q = ((a_t h p).1 = 11 ∧ (S.map Value.category).sum ≤ 8 ∧ Cal d mX11_cold [.ref p, .int v0, .int v1, .int v2] h (Kn (d + 1) M (pc + 3) L S Q)) := by
  rw [w_cv (as := [.int v0, .int v1, .int v2]) (S := S) hd (by rw [ho]; exact lk_13_111) rfl rfl]
  simp [am_ag, Value.category, l_X11_cold, o_X11_cold]
set_option maxRecDepth 20000 in
theorem lk_11_292 : am_mT.lookup (11, 292) = some (mX5_lag, 0) := rfl
theorem c_11_292 {p : Nat} {v0 : Int32} {v1 : Int32} (hd : decode (m_c M) pc = .ok (.invokevirtual 292, 3)) (ho : m_o M = 11) : WP (d + 1) M pc L (.int v1 :: .int v0 :: .ref p :: S) h Q = ((a_t h p).1 = 5 ∧ (S.map Value.category).sum ≤ 8 ∧ Cal d mX5_lag [.ref p, .int v0, .int v1] h (Kn (d + 1) M (pc + 3) L S Q)) := by
  rw [w_cv (as := [.int v0, .int v1]) (S := S) hd (by rw [ho]; exact lk_11_292) rfl rfl]
  simp [am_ag, Value.category, l_X5_lag, o_X5_lag]
set_option maxRecDepth 20000 in
theorem lk_11_295 : am_mT.lookup (11, 295) = some (mX2_gapBehind, 0) := rfl
theorem c_11_295 {p : Nat} {v0 : Int32} {v1 : Int32} {v2 : Int32} {v3 : Nat} (hd : decode (m_c M) pc = .ok (.invokevirtual 295, 3)) (ho : m_o M = 11) : WP (d + 1) M pc L (.ref v3 :: .int v2 :: .int v1 :: .int v0 :: .ref p :: S) h Q = ((a_t h p).1 = 2 ∧ (S.map Value.category).sum ≤ 8 ∧ Cal d mX2_gapBehind [.ref p, .int v0, .int v1, .int v2, .ref v3] h (Kn (d + 1) M (pc + 3) L S Q)) := by
  rw [w_cv (as := [.int v0, .int v1, .int v2, .ref v3]) (S := S) hd (by rw [ho]; exact lk_11_295) rfl rfl]
  simp [am_ag, Value.category, l_X2_gapBehind, o_X2_gapBehind]
set_option maxRecDepth 20000 in
theorem lk_2_75 : am_mT.lookup (2, 75) = some (mX2_beganAt, 0) := rfl
theorem c_2_75 {p : Nat} {v0 : Int32} {v1 : Int32} {v2 : Nat} (hd : decode (m_c M) pc = .ok (.invokevirtual 75, 3)) (ho : m_o M = 2) : WP (d + 1) M pc L (.ref v2 :: .int v1 :: .int v0 :: .ref p :: S) h Q = ((a_t h p).1 = 2 ∧ (S.map Value.category).sum ≤ 8 ∧ Cal d mX2_beganAt [.ref p, .int v0, .int v1, .ref v2] h (Kn (d + 1) M (pc + 3) L S Q)) := by
  rw [w_cv (as := [.int v0, .int v1, .ref v2]) (S := S) hd (by rw [ho]; exact lk_2_75) rfl rfl]
  simp [am_ag, Value.category, l_X2_beganAt, o_X2_beganAt]
set_option maxRecDepth 20000 in
theorem lk_2_78 : am_mT.lookup (2, 78) = some (mX2_beganWithin, 0) := rfl
theorem c_2_78 {p : Nat} {v0 : Int32} {v1 : Int32} {v2 : Int32} {v3 : Nat} (hd : decode (m_c M) pc = .ok (.invokevirtual 78, 3)) (ho : m_o M = 2) : WP (d + 1) M pc L (.ref v3 :: .int v2 :: .int v1 :: .int v0 :: .ref p :: S) h Q = ((a_t h p).1 = 2 ∧ (S.map Value.category).sum ≤ 8 ∧ Cal d mX2_beganWithin [.ref p, .int v0, .int v1, .int v2, .ref v3] h (Kn (d + 1) M (pc + 3) L S Q)) := by
  rw [w_cv (as := [.int v0, .int v1, .int v2, .ref v3]) (S := S) hd (by rw [ho]; exact lk_2_78) rfl rfl]
  simp [am_ag, Value.category, l_X2_beganWithin, o_X2_beganWithin]
set_option maxRecDepth 20000 in
theorem lk_11_299 : am_mT.lookup (11, 299) = some (mJ9_max_7cf53, 7) := rfl
set_option maxRecDepth 20000 in
theorem lk_11_304 : am_mT.lookup (11, 304) = some (mX4_coldOf, 0) := rfl
theorem c_11_304 {p : Nat} {v0 : Int32} {v1 : Int32} {v2 : Nat} {v3 : Nat} (hd : decode (m_c M) pc = .ok (.invokevirtual 304, 3)) (ho : m_o M = 11) : WP (d + 1) M pc L (.ref v3 :: .ref v2 :: .int v1 :: .int v0 :: .ref p :: S) h Q = ((a_t h p).1 = 4 ∧ (S.map Value.category).sum ≤ 8 ∧ Cal d mX4_coldOf [.ref p, .int v0, .int v1, .ref v2, .ref v3] h (Kn (d + 1) M (pc + 3) L S Q)) := by
  rw [w_cv (as := [.int v0, .int v1, .ref v2, .ref v3]) (S := S) hd (by rw [ho]; exact lk_11_304) rfl rfl]
  simp [am_ag, Value.category, l_X4_coldOf, o_X4_coldOf]
set_option maxRecDepth 20000 in
theorem lk_13_115 : am_mT.lookup (13, 115) = some (mX11_haste, 0) := rfl
theorem c_13_115 {p : Nat} {v0 : Int32} {v1 : Int32} {v2 : Int32} (hd : decode (m_c M) pc = .ok (.invokevirtual 115, 3)) (ho : m_o M = 13) : WP (d + 1) M pc L (.int v2 :: .int v1 :: .int v0 :: .ref p :: S) h Q = ((a_t h p).1 = 11 ∧ (S.map Value.category).sum ≤ 8 ∧ Cal d mX11_haste [.ref p, .int v0, .int v1, .int v2] h (Kn (d + 1) M (pc + 3) L S Q)) := by
  rw [w_cv (as := [.int v0, .int v1, .int v2]) (S := S) hd (by rw [ho]; exact lk_13_115) rfl rfl]
  simp [am_ag, Value.category, l_X11_haste, o_X11_haste]
set_option maxRecDepth 20000 in
theorem lk_11_308 : am_mT.lookup (11, 308) = some (mX2_turnBrokenInto, 0) := rfl
theorem c_11_308 {p : Nat} {v0 : Int32} {v1 : Int32} {v2 : Int32} {v3 : Nat} (hd : decode (m_c M) pc = .ok (.invokevirtual 308, 3)) (ho : m_o M = 11) : WP (d + 1) M pc L (.ref v3 :: .int v2 :: .int v1 :: .int v0 :: .ref p :: S) h Q = ((a_t h p).1 = 2 ∧ (S.map Value.category).sum ≤ 8 ∧ Cal d mX2_turnBrokenInto [.ref p, .int v0, .int v1, .int v2, .ref v3] h (Kn (d + 1) M (pc + 3) L S Q)) := by
  rw [w_cv (as := [.int v0, .int v1, .int v2, .ref v3]) (S := S) hd (by rw [ho]; exact lk_11_308) rfl rfl]
  simp [am_ag, Value.category, l_X2_turnBrokenInto, o_X2_turnBrokenInto]
set_option maxRecDepth 20000 in
theorem lk_11_311 : am_mT.lookup (11, 311) = some (mX2_couldHear, 0) := rfl
theorem c_11_311 {p : Nat} {v0 : Int32} {v1 : Int32} {v2 : Nat} (hd : decode (m_c M) pc = .ok (.invokevirtual 311, 3)) (ho : m_o M = 11) : WP (d + 1) M pc L (.ref v2 :: .int v1 :: .int v0 :: .ref p :: S) h Q = ((a_t h p).1 = 2 ∧ (S.map Value.category).sum ≤ 8 ∧ Cal d mX2_couldHear [.ref p, .int v0, .int v1, .ref v2] h (Kn (d + 1) M (pc + 3) L S Q)) := by
  rw [w_cv (as := [.int v0, .int v1, .ref v2]) (S := S) hd (by rw [ho]; exact lk_11_311) rfl rfl]
  simp [am_ag, Value.category, l_X2_couldHear, o_X2_couldHear]
set_option maxRecDepth 20000 in
theorem lk_11_318 : am_mT.lookup (11, 318) = some (mX4_hasteOf, 0) := rfl
theorem c_11_318 {p : Nat} {v0 : Int32} {v1 : Int32} {v2 : Nat} {v3 : Nat} (hd : decode (m_c M) pc = .ok (.invokevirtual 318, 3)) (ho : m_o M = 11) : WP (d + 1) M pc L (.ref v3 :: .ref v2 :: .int v1 :: .int v0 :: .ref p :: S) h Q = ((a_t h p).1 = 4 ∧ (S.map Value.category).sum ≤ 8 ∧ Cal d mX4_hasteOf [.ref p, .int v0, .int v1, .ref v2, .ref v3] h (Kn (d + 1) M (pc + 3) L S Q)) := by
  rw [w_cv (as := [.int v0, .int v1, .ref v2, .ref v3]) (S := S) hd (by rw [ho]; exact lk_11_318) rfl rfl]
  simp [am_ag, Value.category, l_X4_hasteOf, o_X4_hasteOf]
set_option maxRecDepth 20000 in
theorem lk_13_119 : am_mT.lookup (13, 119) = some (mX11_rules, 0) := rfl
theorem c_13_119 {p : Nat} {v0 : Int32} {v1 : Int32} {v2 : Int32} (hd : decode (m_c M) pc = .ok (.invokevirtual 119, 3)) (ho : m_o M = 13) : WP (d + 1) M pc L (.int v2 :: .int v1 :: .int v0 :: .ref p :: S) h Q = ((a_t h p).1 = 11 ∧ (S.map Value.category).sum ≤ 8 ∧ Cal d mX11_rules [.ref p, .int v0, .int v1, .int v2] h (Kn (d + 1) M (pc + 3) L S Q)) := by
  rw [w_cv (as := [.int v0, .int v1, .int v2]) (S := S) hd (by rw [ho]; exact lk_13_119) rfl rfl]
  simp [am_ag, Value.category, l_X11_rules, o_X11_rules]
set_option maxRecDepth 20000 in
theorem lk_11_321 : am_mT.lookup (11, 321) = some (mX11_tryRule, 0) := rfl
theorem c_11_321 {p : Nat} {v0 : Int32} {v1 : Int32} (hd : decode (m_c M) pc = .ok (.invokevirtual 321, 3)) (ho : m_o M = 11) : WP (d + 1) M pc L (.int v1 :: .int v0 :: .ref p :: S) h Q = ((a_t h p).1 = 11 ∧ (S.map Value.category).sum ≤ 8 ∧ Cal d mX11_tryRule [.ref p, .int v0, .int v1] h (Kn (d + 1) M (pc + 3) L S Q)) := by
  rw [w_cv (as := [.int v0, .int v1]) (S := S) hd (by rw [ho]; exact lk_11_321) rfl rfl]
  simp [am_ag, Value.category, l_X11_tryRule, o_X11_tryRule]
set_option maxRecDepth 20000 in
theorem lk_11_386 : am_mT.lookup (11, 386) = some (mX5_copyFrom, 0) := rfl
theorem c_11_386 {p : Nat} {v0 : Nat} (hd : decode (m_c M) pc = .ok (.invokevirtual 386, 3)) (ho : m_o M = 11) : WP (d + 1) M pc L (.ref v0 :: .ref p :: S) h Q = ((a_t h p).1 = 5 ∧ (S.map Value.category).sum ≤ 8 ∧ Cal d mX5_copyFrom [.ref p, .ref v0] h (Kn (d + 1) M (pc + 3) L S Q)) := by
  rw [w_cv (as := [.ref v0]) (S := S) hd (by rw [ho]; exact lk_11_386) rfl rfl]
  simp [am_ag, Value.category, l_X5_copyFrom, o_X5_copyFrom]
set_option maxRecDepth 20000 in
theorem lk_11_389 : am_mT.lookup (11, 389) = some (mX5_forgetCounts, 0) := rfl
theorem c_11_389 {p : Nat} (hd : decode (m_c M) pc = .ok (.invokevirtual 389, 3)) (ho : m_o M = 11) : WP (d + 1) M pc L (.ref p :: S) h Q = ((a_t h p).1 = 5 ∧ (S.map Value.category).sum ≤ 8 ∧ Cal d mX5_forgetCounts [.ref p] h (Kn (d + 1) M (pc + 3) L S Q)) := by
  rw [w_cv (as := []) (S := S) hd (by rw [ho]; exact lk_11_389) rfl rfl]
  simp [am_ag, Value.category, l_X5_forgetCounts, o_X5_forgetCounts]
set_option maxRecDepth 20000 in
theorem lk_11_324 : am_mT.lookup (11, 324) = some (mX11_total, 1) := rfl
theorem c_11_324 {v0 : Nat} (hd : decode (m_c M) pc = .ok (.invokestatic 324, 3)) (ho : m_o M = 11) : WP (d + 1) M pc L (.ref v0 :: S) h Q = ((S.map Value.category).sum ≤ 8 ∧ Cal d mX11_total [.ref v0] h (Kn (d + 1) M (pc + 3) L S Q)) := by
  rw [w_cs (as := [.ref v0]) (S := S) hd (by rw [ho]; exact lk_11_324) (by decide) rfl]
  simp [am_ag, Value.category, l_X11_total, o_X11_total]
set_option maxRecDepth 20000 in
theorem lk_13_123 : am_mT.lookup (13, 123) = some (mX11_bestRule, 0) := rfl
theorem c_13_123 {p : Nat} {v0 : Int32} (hd : decode (m_c M) pc = .ok (.invokevirtual 123, 3)) (ho : m_o M = 13) : WP (d + 1) M pc L (.int v0 :: .ref p :: S) h Q = ((a_t h p).1 = 11 ∧ (S.map Value.category).sum ≤ 8 ∧ Cal d mX11_bestRule [.ref p, .int v0] h (Kn (d + 1) M (pc + 3) L S Q)) := by
  rw [w_cv (as := [.int v0]) (S := S) hd (by rw [ho]; exact lk_13_123) rfl rfl]
  simp [am_ag, Value.category, l_X11_bestRule, o_X11_bestRule]
set_option maxRecDepth 20000 in
theorem lk_13_131 : am_mT.lookup (13, 131) = some (mX11_pence, 0) := rfl
theorem c_13_131 {p : Nat} {v0 : Int32} (hd : decode (m_c M) pc = .ok (.invokevirtual 131, 3)) (ho : m_o M = 13) : WP (d + 1) M pc L (.int v0 :: .ref p :: S) h Q = ((a_t h p).1 = 11 ∧ (S.map Value.category).sum ≤ 8 ∧ Cal d mX11_pence [.ref p, .int v0] h (Kn (d + 1) M (pc + 3) L S Q)) := by
  rw [w_cv (as := [.int v0]) (S := S) hd (by rw [ho]; exact lk_13_131) rfl rfl]
  simp [am_ag, Value.category, l_X11_pence, o_X11_pence]
set_option maxRecDepth 20000 in
theorem lk_11_328 : am_mT.lookup (11, 328) = some (mX8_penceFor, 0) := rfl
theorem c_11_328 {p : Nat} {v0 : Int32} (hd : decode (m_c M) pc = .ok (.invokevirtual 328, 3)) (ho : m_o M = 11) : WP (d + 1) M pc L (.int v0 :: .ref p :: S) h Q = ((a_t h p).1 = 8 ∧ (S.map Value.category).sum ≤ 8 ∧ Cal d mX8_penceFor [.ref p, .int v0] h (Kn (d + 1) M (pc + 3) L S Q)) := by
  rw [w_cv (as := [.int v0]) (S := S) hd (by rw [ho]; exact lk_11_328) rfl rfl]
  simp [am_ag, Value.category, l_X8_penceFor, o_X8_penceFor]
set_option maxRecDepth 20000 in
theorem lk_13_135 : am_mT.lookup (13, 135) = some (mX11_forPence, 0) := rfl
theorem c_13_135 {p : Nat} {v0 : Int32} {v1 : Int32} (hd : decode (m_c M) pc = .ok (.invokevirtual 135, 3)) (ho : m_o M = 13) : WP (d + 1) M pc L (.int v1 :: .int v0 :: .ref p :: S) h Q = ((a_t h p).1 = 11 ∧ (S.map Value.category).sum ≤ 8 ∧ Cal d mX11_forPence [.ref p, .int v0, .int v1] h (Kn (d + 1) M (pc + 3) L S Q)) := by
  rw [w_cv (as := [.int v0, .int v1]) (S := S) hd (by rw [ho]; exact lk_13_135) rfl rfl]
  simp [am_ag, Value.category, l_X11_forPence, o_X11_forPence]
set_option maxRecDepth 20000 in
theorem lk_13_139 : am_mT.lookup (13, 139) = some (mX11_comes, 0) := rfl
theorem c_13_139 {p : Nat} {v0 : Int32} {v1 : Int32} {v2 : Int32} {v3 : Int32} {v4 : Int32} {v5 : Int32} (hd : decode (m_c M) pc = .ok (.invokevirtual 139, 3)) (ho : m_o M = 13) : WP (d + 1) M pc L (.int v5 :: .int v4 :: .int v3 :: .int v2 :: .int v1 :: .int v0 :: .ref p :: S) h Q = ((a_t h p).1 = 11 ∧ (S.map Value.category).sum ≤ 8 ∧ Cal d mX11_comes [.ref p, .int v0, .int v1, .int v2, .int v3, .int v4, .int v5] h (Kn (d + 1) M (pc + 3) L S Q)) := by
  rw [w_cv (as := [.int v0, .int v1, .int v2, .int v3, .int v4, .int v5]) (S := S) hd (by rw [ho]; exact lk_13_139) rfl rfl]
  simp [am_ag, Value.category, l_X11_comes, o_X11_comes]
set_option maxRecDepth 20000 in
theorem lk_11_331 : am_mT.lookup (11, 331) = some (mX11_arePairNumbers, 1) := rfl
theorem c_11_331 {v0 : Int32} {v1 : Int32} {v2 : Int32} {v3 : Int32} (hd : decode (m_c M) pc = .ok (.invokestatic 331, 3)) (ho : m_o M = 11) : WP (d + 1) M pc L (.int v3 :: .int v2 :: .int v1 :: .int v0 :: S) h Q = ((S.map Value.category).sum ≤ 8 ∧ Cal d mX11_arePairNumbers [.int v0, .int v1, .int v2, .int v3] h (Kn (d + 1) M (pc + 3) L S Q)) := by
  rw [w_cs (as := [.int v0, .int v1, .int v2, .int v3]) (S := S) hd (by rw [ho]; exact lk_11_331) (by decide) rfl]
  simp [am_ag, Value.category, l_X11_arePairNumbers, o_X11_arePairNumbers]
set_option maxRecDepth 20000 in
theorem lk_11_357 : am_mT.lookup (11, 357) = some (mX11_areDelays, 1) := rfl
theorem c_11_357 {v0 : Int32} {v1 : Int32} (hd : decode (m_c M) pc = .ok (.invokestatic 357, 3)) (ho : m_o M = 11) : WP (d + 1) M pc L (.int v1 :: .int v0 :: S) h Q = ((S.map Value.category).sum ≤ 8 ∧ Cal d mX11_areDelays [.int v0, .int v1] h (Kn (d + 1) M (pc + 3) L S Q)) := by
  rw [w_cs (as := [.int v0, .int v1]) (S := S) hd (by rw [ho]; exact lk_11_357) (by decide) rfl]
  simp [am_ag, Value.category, l_X11_areDelays, o_X11_areDelays]
set_option maxRecDepth 20000 in
theorem lk_11_335 : am_mT.lookup (11, 335) = some (mX11_pairNow, 0) := rfl
theorem c_11_335 {p : Nat} (hd : decode (m_c M) pc = .ok (.invokevirtual 335, 3)) (ho : m_o M = 11) : WP (d + 1) M pc L (.ref p :: S) h Q = ((a_t h p).1 = 11 ∧ (S.map Value.category).sum ≤ 8 ∧ Cal d mX11_pairNow [.ref p] h (Kn (d + 1) M (pc + 3) L S Q)) := by
  rw [w_cv (as := []) (S := S) hd (by rw [ho]; exact lk_11_335) rfl rfl]
  simp [am_ag, Value.category, l_X11_pairNow, o_X11_pairNow]
set_option maxRecDepth 20000 in
theorem lk_11_381 : am_mT.lookup (11, 381) = some (mX6_init, 6) := rfl
theorem c_11_381 {p : Nat} (hd : decode (m_c M) pc = .ok (.invokespecial 381, 3)) (ho : m_o M = 11) : WP (d + 1) M pc L (.ref p :: S) h Q = ((S.map Value.category).sum ≤ 8 ∧ Cal d mX6_init [.ref p] h (Kn (d + 1) M (pc + 3) L S Q)) := by
  rw [w_ci (as := []) (S := S) hd (by rw [ho]; exact lk_11_381) (by decide) rfl]
  simp [am_ag, Value.category, l_X6_init, o_X6_init]
set_option maxRecDepth 20000 in
theorem lk_6_3 : am_mT.lookup (6, 3) = some (mL_law, 3) := rfl
set_option maxRecDepth 20000 in
theorem lk_11_339 : am_mT.lookup (11, 339) = some (mX6_set, 0) := rfl
theorem c_11_339 {p : Nat} {v0 : Int32} {v1 : Int32} {v2 : Int32} {v3 : Int32} (hd : decode (m_c M) pc = .ok (.invokevirtual 339, 3)) (ho : m_o M = 11) : WP (d + 1) M pc L (.int v3 :: .int v2 :: .int v1 :: .int v0 :: .ref p :: S) h Q = ((a_t h p).1 = 6 ∧ (S.map Value.category).sum ≤ 8 ∧ Cal d mX6_set [.ref p, .int v0, .int v1, .int v2, .int v3] h (Kn (d + 1) M (pc + 3) L S Q)) := by
  rw [w_cv (as := [.int v0, .int v1, .int v2, .int v3]) (S := S) hd (by rw [ho]; exact lk_11_339) rfl rfl]
  simp [am_ag, Value.category, l_X6_set, o_X6_set]
set_option maxRecDepth 20000 in
theorem lk_11_345 : am_mT.lookup (11, 345) = some (mX6_comesAt, 0) := rfl
theorem c_11_345 {p : Nat} {v0 : Int32} {v1 : Int32} (hd : decode (m_c M) pc = .ok (.invokevirtual 345, 3)) (ho : m_o M = 11) : WP (d + 1) M pc L (.int v1 :: .int v0 :: .ref p :: S) h Q = ((a_t h p).1 = 6 ∧ (S.map Value.category).sum ≤ 8 ∧ Cal d mX6_comesAt [.ref p, .int v0, .int v1] h (Kn (d + 1) M (pc + 3) L S Q)) := by
  rw [w_cv (as := [.int v0, .int v1]) (S := S) hd (by rw [ho]; exact lk_11_345) rfl rfl]
  simp [am_ag, Value.category, l_X6_comesAt, o_X6_comesAt]
set_option maxRecDepth 20000 in
theorem lk_6_58 : am_mT.lookup (6, 58) = some (mX6_begin, 0) := rfl
theorem c_6_58 {p : Nat} {v0 : Int32} {v1 : Int32} (hd : decode (m_c M) pc = .ok (.invokevirtual 58, 3)) (ho : m_o M = 6) : WP (d + 1) M pc L (.int v1 :: .int v0 :: .ref p :: S) h Q = ((a_t h p).1 = 6 ∧ (S.map Value.category).sum ≤ 8 ∧ Cal d mX6_begin [.ref p, .int v0, .int v1] h (Kn (d + 1) M (pc + 3) L S Q)) := by
  rw [w_cv (as := [.int v0, .int v1]) (S := S) hd (by rw [ho]; exact lk_6_58) rfl rfl]
  simp [am_ag, Value.category, l_X6_begin, o_X6_begin]
set_option maxRecDepth 20000 in
theorem lk_6_62 : am_mT.lookup (6, 62) = some (mX6_isSettled, 0) := rfl
theorem c_6_62 {p : Nat} (hd : decode (m_c M) pc = .ok (.invokevirtual 62, 3)) (ho : m_o M = 6) : WP (d + 1) M pc L (.ref p :: S) h Q = ((a_t h p).1 = 6 ∧ (S.map Value.category).sum ≤ 8 ∧ Cal d mX6_isSettled [.ref p] h (Kn (d + 1) M (pc + 3) L S Q)) := by
  rw [w_cv (as := []) (S := S) hd (by rw [ho]; exact lk_6_62) rfl rfl]
  simp [am_ag, Value.category, l_X6_isSettled, o_X6_isSettled]
set_option maxRecDepth 20000 in
theorem lk_6_101 : am_mT.lookup (6, 101) = some (mX6_isJudgedTo, 0) := rfl
theorem c_6_101 {p : Nat} {v0 : Int32} {v1 : Int32} (hd : decode (m_c M) pc = .ok (.invokevirtual 101, 3)) (ho : m_o M = 6) : WP (d + 1) M pc L (.int v1 :: .int v0 :: .ref p :: S) h Q = ((a_t h p).1 = 6 ∧ (S.map Value.category).sum ≤ 8 ∧ Cal d mX6_isJudgedTo [.ref p, .int v0, .int v1] h (Kn (d + 1) M (pc + 3) L S Q)) := by
  rw [w_cv (as := [.int v0, .int v1]) (S := S) hd (by rw [ho]; exact lk_6_101) rfl rfl]
  simp [am_ag, Value.category, l_X6_isJudgedTo, o_X6_isJudgedTo]
set_option maxRecDepth 20000 in
theorem lk_6_66 : am_mT.lookup (6, 66) = some (mX6_nextChange, 0) := rfl
theorem c_6_66 {p : Nat} {v0 : Int32} (hd : decode (m_c M) pc = .ok (.invokevirtual 66, 3)) (ho : m_o M = 6) : WP (d + 1) M pc L (.int v0 :: .ref p :: S) h Q = ((a_t h p).1 = 6 ∧ (S.map Value.category).sum ≤ 8 ∧ Cal d mX6_nextChange [.ref p, .int v0] h (Kn (d + 1) M (pc + 3) L S Q)) := by
  rw [w_cv (as := [.int v0]) (S := S) hd (by rw [ho]; exact lk_6_66) rfl rfl]
  simp [am_ag, Value.category, l_X6_nextChange, o_X6_nextChange]
set_option maxRecDepth 20000 in
theorem lk_6_81 : am_mT.lookup (6, 81) = some (mX6_isSpeaking, 0) := rfl
theorem c_6_81 {p : Nat} {v0 : Int32} (hd : decode (m_c M) pc = .ok (.invokevirtual 81, 3)) (ho : m_o M = 6) : WP (d + 1) M pc L (.int v0 :: .ref p :: S) h Q = ((a_t h p).1 = 6 ∧ (S.map Value.category).sum ≤ 8 ∧ Cal d mX6_isSpeaking [.ref p, .int v0] h (Kn (d + 1) M (pc + 3) L S Q)) := by
  rw [w_cv (as := [.int v0]) (S := S) hd (by rw [ho]; exact lk_6_81) rfl rfl]
  simp [am_ag, Value.category, l_X6_isSpeaking, o_X6_isSpeaking]
set_option maxRecDepth 20000 in
theorem lk_6_88 : am_mT.lookup (6, 88) = some (mX6_passBy, 0) := rfl
theorem c_6_88 {p : Nat} {v0 : Int32} {v1 : Int32} (hd : decode (m_c M) pc = .ok (.invokevirtual 88, 3)) (ho : m_o M = 6) : WP (d + 1) M pc L (.int v1 :: .int v0 :: .ref p :: S) h Q = ((a_t h p).1 = 6 ∧ (S.map Value.category).sum ≤ 8 ∧ Cal d mX6_passBy [.ref p, .int v0, .int v1] h (Kn (d + 1) M (pc + 3) L S Q)) := by
  rw [w_cv (as := [.int v0, .int v1]) (S := S) hd (by rw [ho]; exact lk_6_88) rfl rfl]
  simp [am_ag, Value.category, l_X6_passBy, o_X6_passBy]
set_option maxRecDepth 20000 in
theorem lk_6_85 : am_mT.lookup (6, 85) = some (mX6_yieldsIn, 0) := rfl
theorem c_6_85 {p : Nat} {v0 : Int32} (hd : decode (m_c M) pc = .ok (.invokevirtual 85, 3)) (ho : m_o M = 6) : WP (d + 1) M pc L (.int v0 :: .ref p :: S) h Q = ((a_t h p).1 = 6 ∧ (S.map Value.category).sum ≤ 8 ∧ Cal d mX6_yieldsIn [.ref p, .int v0] h (Kn (d + 1) M (pc + 3) L S Q)) := by
  rw [w_cv (as := [.int v0]) (S := S) hd (by rw [ho]; exact lk_6_85) rfl rfl]
  simp [am_ag, Value.category, l_X6_yieldsIn, o_X6_yieldsIn]
set_option maxRecDepth 20000 in
theorem lk_6_70 : am_mT.lookup (6, 70) = some (mJ9_min_7cf53, 8) := rfl
set_option maxRecDepth 20000 in
theorem lk_6_91 : am_mT.lookup (6, 91) = some (mX6_beginsIn, 0) := rfl
theorem c_6_91 {p : Nat} {v0 : Int32} {v1 : Int32} (hd : decode (m_c M) pc = .ok (.invokevirtual 91, 3)) (ho : m_o M = 6) : WP (d + 1) M pc L (.int v1 :: .int v0 :: .ref p :: S) h Q = ((a_t h p).1 = 6 ∧ (S.map Value.category).sum ≤ 8 ∧ Cal d mX6_beginsIn [.ref p, .int v0, .int v1] h (Kn (d + 1) M (pc + 3) L S Q)) := by
  rw [w_cv (as := [.int v0, .int v1]) (S := S) hd (by rw [ho]; exact lk_6_91) rfl rfl]
  simp [am_ag, Value.category, l_X6_beginsIn, o_X6_beginsIn]
set_option maxRecDepth 20000 in
theorem lk_6_94 : am_mT.lookup (6, 94) = some (mJ9_max_7cf53, 7) := rfl
set_option maxRecDepth 20000 in
theorem lk_6_75 : am_mT.lookup (6, 75) = some (mX6_judge, 0) := rfl
theorem c_6_75 {p : Nat} {v0 : Int32} {v1 : Int32} (hd : decode (m_c M) pc = .ok (.invokevirtual 75, 3)) (ho : m_o M = 6) : WP (d + 1) M pc L (.int v1 :: .int v0 :: .ref p :: S) h Q = ((a_t h p).1 = 6 ∧ (S.map Value.category).sum ≤ 8 ∧ Cal d mX6_judge [.ref p, .int v0, .int v1] h (Kn (d + 1) M (pc + 3) L S Q)) := by
  rw [w_cv (as := [.int v0, .int v1]) (S := S) hd (by rw [ho]; exact lk_6_75) rfl rfl]
  simp [am_ag, Value.category, l_X6_judge, o_X6_judge]
set_option maxRecDepth 20000 in
theorem lk_6_97 : am_mT.lookup (6, 97) = some (mX6_isSilent, 0) := rfl
theorem c_6_97 {p : Nat} {v0 : Int32} {v1 : Int32} {v2 : Int32} (hd : decode (m_c M) pc = .ok (.invokevirtual 97, 3)) (ho : m_o M = 6) : WP (d + 1) M pc L (.int v2 :: .int v1 :: .int v0 :: .ref p :: S) h Q = ((a_t h p).1 = 6 ∧ (S.map Value.category).sum ≤ 8 ∧ Cal d mX6_isSilent [.ref p, .int v0, .int v1, .int v2] h (Kn (d + 1) M (pc + 3) L S Q)) := by
  rw [w_cv (as := [.int v0, .int v1, .int v2]) (S := S) hd (by rw [ho]; exact lk_6_97) rfl rfl]
  simp [am_ag, Value.category, l_X6_isSilent, o_X6_isSilent]
set_option maxRecDepth 20000 in
theorem lk_6_78 : am_mT.lookup (6, 78) = some (mX6_change, 0) := rfl
theorem c_6_78 {p : Nat} {v0 : Int32} {v1 : Int32} (hd : decode (m_c M) pc = .ok (.invokevirtual 78, 3)) (ho : m_o M = 6) : WP (d + 1) M pc L (.int v1 :: .int v0 :: .ref p :: S) h Q = ((a_t h p).1 = 6 ∧ (S.map Value.category).sum ≤ 8 ∧ Cal d mX6_change [.ref p, .int v0, .int v1] h (Kn (d + 1) M (pc + 3) L S Q)) := by
  rw [w_cv (as := [.int v0, .int v1]) (S := S) hd (by rw [ho]; exact lk_6_78) rfl rfl]
  simp [am_ag, Value.category, l_X6_change, o_X6_change]
set_option maxRecDepth 20000 in
theorem lk_13_144 : am_mT.lookup (13, 144) = some (mX11_apart, 0) := rfl
theorem c_13_144 {p : Nat} {v0 : Int32} {v1 : Int32} {v2 : Int32} {v3 : Int32} {v4 : Int32} (hd : decode (m_c M) pc = .ok (.invokevirtual 144, 3)) (ho : m_o M = 13) : WP (d + 1) M pc L (.int v4 :: .int v3 :: .int v2 :: .int v1 :: .int v0 :: .ref p :: S) h Q = ((a_t h p).1 = 11 ∧ (S.map Value.category).sum ≤ 8 ∧ Cal d mX11_apart [.ref p, .int v0, .int v1, .int v2, .int v3, .int v4] h (Kn (d + 1) M (pc + 3) L S Q)) := by
  rw [w_cv (as := [.int v0, .int v1, .int v2, .int v3, .int v4]) (S := S) hd (by rw [ho]; exact lk_13_144) rfl rfl]
  simp [am_ag, Value.category, l_X11_apart, o_X11_apart]
set_option maxRecDepth 20000 in
theorem lk_11_348 : am_mT.lookup (11, 348) = some (mX6_findApart, 0) := rfl
theorem c_11_348 {p : Nat} (hd : decode (m_c M) pc = .ok (.invokevirtual 348, 3)) (ho : m_o M = 11) : WP (d + 1) M pc L (.ref p :: S) h Q = ((a_t h p).1 = 6 ∧ (S.map Value.category).sum ≤ 8 ∧ Cal d mX6_findApart [.ref p] h (Kn (d + 1) M (pc + 3) L S Q)) := by
  rw [w_cv (as := []) (S := S) hd (by rw [ho]; exact lk_11_348) rfl rfl]
  simp [am_ag, Value.category, l_X6_findApart, o_X6_findApart]
set_option maxRecDepth 20000 in
theorem lk_6_51 : am_mT.lookup (6, 51) = some (mX6_comesAt, 0) := rfl
theorem c_6_51 {p : Nat} {v0 : Int32} {v1 : Int32} (hd : decode (m_c M) pc = .ok (.invokevirtual 51, 3)) (ho : m_o M = 6) : WP (d + 1) M pc L (.int v1 :: .int v0 :: .ref p :: S) h Q = ((a_t h p).1 = 6 ∧ (S.map Value.category).sum ≤ 8 ∧ Cal d mX6_comesAt [.ref p, .int v0, .int v1] h (Kn (d + 1) M (pc + 3) L S Q)) := by
  rw [w_cv (as := [.int v0, .int v1]) (S := S) hd (by rw [ho]; exact lk_6_51) rfl rfl]
  simp [am_ag, Value.category, l_X6_comesAt, o_X6_comesAt]
set_option maxRecDepth 20000 in
theorem lk_13_148 : am_mT.lookup (13, 148) = some (mX11_drawn, 0) := rfl
theorem c_13_148 {p : Nat} {v0 : Int32} {v1 : Int32} {v2 : Int32} {v3 : Int32} {v4 : Int32} (hd : decode (m_c M) pc = .ok (.invokevirtual 148, 3)) (ho : m_o M = 13) : WP (d + 1) M pc L (.int v4 :: .int v3 :: .int v2 :: .int v1 :: .int v0 :: .ref p :: S) h Q = ((a_t h p).1 = 11 ∧ (S.map Value.category).sum ≤ 8 ∧ Cal d mX11_drawn [.ref p, .int v0, .int v1, .int v2, .int v3, .int v4] h (Kn (d + 1) M (pc + 3) L S Q)) := by
  rw [w_cv (as := [.int v0, .int v1, .int v2, .int v3, .int v4]) (S := S) hd (by rw [ho]; exact lk_13_148) rfl rfl]
  simp [am_ag, Value.category, l_X11_drawn, o_X11_drawn]
set_option maxRecDepth 20000 in
theorem lk_11_360 : am_mT.lookup (11, 360) = some (mX11_apartDraws, 1) := rfl
theorem c_11_360 {v0 : Int32} {v1 : Int32} {v2 : Int32} {v3 : Int32} (hd : decode (m_c M) pc = .ok (.invokestatic 360, 3)) (ho : m_o M = 11) : WP (d + 1) M pc L (.int v3 :: .int v2 :: .int v1 :: .int v0 :: S) h Q = ((S.map Value.category).sum ≤ 8 ∧ Cal d mX11_apartDraws [.int v0, .int v1, .int v2, .int v3] h (Kn (d + 1) M (pc + 3) L S Q)) := by
  rw [w_cs (as := [.int v0, .int v1, .int v2, .int v3]) (S := S) hd (by rw [ho]; exact lk_11_360) (by decide) rfl]
  simp [am_ag, Value.category, l_X11_apartDraws, o_X11_apartDraws]
set_option maxRecDepth 20000 in
theorem lk_13_153 : am_mT.lookup (13, 153) = some (mX11_wide, 0) := rfl
theorem c_13_153 {p : Nat} {v0 : Int32} {v1 : Int32} (hd : decode (m_c M) pc = .ok (.invokevirtual 153, 3)) (ho : m_o M = 13) : WP (d + 1) M pc L (.int v1 :: .int v0 :: .ref p :: S) h Q = ((a_t h p).1 = 11 ∧ (S.map Value.category).sum ≤ 8 ∧ Cal d mX11_wide [.ref p, .int v0, .int v1] h (Kn (d + 1) M (pc + 3) L S Q)) := by
  rw [w_cv (as := [.int v0, .int v1]) (S := S) hd (by rw [ho]; exact lk_13_153) rfl rfl]
  simp [am_ag, Value.category, l_X11_wide, o_X11_wide]
set_option maxRecDepth 20000 in
theorem lk_13_157 : am_mT.lookup (13, 157) = some (mX11_worth, 0) := rfl
theorem c_13_157 {p : Nat} {v0 : Int32} {v1 : Int32} {v2 : Int32} {v3 : Int32} {v4 : Int32} (hd : decode (m_c M) pc = .ok (.invokevirtual 157, 3)) (ho : m_o M = 13) : WP (d + 1) M pc L (.int v4 :: .int v3 :: .int v2 :: .int v1 :: .int v0 :: .ref p :: S) h Q = ((a_t h p).1 = 11 ∧ (S.map Value.category).sum ≤ 8 ∧ Cal d mX11_worth [.ref p, .int v0, .int v1, .int v2, .int v3, .int v4] h (Kn (d + 1) M (pc + 3) L S Q)) := by
  rw [w_cv (as := [.int v0, .int v1, .int v2, .int v3, .int v4]) (S := S) hd (by rw [ho]; exact lk_13_157) rfl rfl]
  simp [am_ag, Value.category, l_X11_worth, o_X11_worth]
set_option maxRecDepth 20000 in
theorem lk_13_165 : am_mT.lookup (13, 165) = some (mX11_least, 0) := rfl
theorem c_13_165 {p : Nat} {v0 : Int32} (hd : decode (m_c M) pc = .ok (.invokevirtual 165, 3)) (ho : m_o M = 13) : WP (d + 1) M pc L (.int v0 :: .ref p :: S) h Q = ((a_t h p).1 = 11 ∧ (S.map Value.category).sum ≤ 8 ∧ Cal d mX11_least [.ref p, .int v0] h (Kn (d + 1) M (pc + 3) L S Q)) := by
  rw [w_cv (as := [.int v0]) (S := S) hd (by rw [ho]; exact lk_13_165) rfl rfl]
  simp [am_ag, Value.category, l_X11_least, o_X11_least]
set_option maxRecDepth 20000 in
theorem lk_11_363 : am_mT.lookup (11, 363) = some (mX0_leastSet, 0) := rfl
theorem c_11_363 {p : Nat} {v0 : Int32} (hd : decode (m_c M) pc = .ok (.invokevirtual 363, 3)) (ho : m_o M = 11) : WP (d + 1) M pc L (.int v0 :: .ref p :: S) h Q = ((a_t h p).1 = 0 ∧ (S.map Value.category).sum ≤ 8 ∧ Cal d mX0_leastSet [.ref p, .int v0] h (Kn (d + 1) M (pc + 3) L S Q)) := by
  rw [w_cv (as := [.int v0]) (S := S) hd (by rw [ho]; exact lk_11_363) rfl rfl]
  simp [am_ag, Value.category, l_X0_leastSet, o_X0_leastSet]
set_option maxRecDepth 20000 in
theorem lk_0_25 : am_mT.lookup (0, 25) = some (mX0_hasAllItNeeds, 0) := rfl
theorem c_0_25 {p : Nat} {v0 : Int32} (hd : decode (m_c M) pc = .ok (.invokevirtual 25, 3)) (ho : m_o M = 0) : WP (d + 1) M pc L (.int v0 :: .ref p :: S) h Q = ((a_t h p).1 = 0 ∧ (S.map Value.category).sum ≤ 8 ∧ Cal d mX0_hasAllItNeeds [.ref p, .int v0] h (Kn (d + 1) M (pc + 3) L S Q)) := by
  rw [w_cv (as := [.int v0]) (S := S) hd (by rw [ho]; exact lk_0_25) rfl rfl]
  simp [am_ag, Value.category, l_X0_hasAllItNeeds, o_X0_hasAllItNeeds]
set_option maxRecDepth 20000 in
theorem lk_0_29 : am_mT.lookup (0, 29) = some (mX0_sumOf, 0) := rfl
theorem c_0_29 {p : Nat} {v0 : Nat} {v1 : Int32} (hd : decode (m_c M) pc = .ok (.invokevirtual 29, 3)) (ho : m_o M = 0) : WP (d + 1) M pc L (.int v1 :: .ref v0 :: .ref p :: S) h Q = ((a_t h p).1 = 0 ∧ (S.map Value.category).sum ≤ 8 ∧ Cal d mX0_sumOf [.ref p, .ref v0, .int v1] h (Kn (d + 1) M (pc + 3) L S Q)) := by
  rw [w_cv (as := [.ref v0, .int v1]) (S := S) hd (by rw [ho]; exact lk_0_29) rfl rfl]
  simp [am_ag, Value.category, l_X0_sumOf, o_X0_sumOf]
set_option maxRecDepth 20000 in
theorem lk_0_33 : am_mT.lookup (0, 33) = some (mJ6_bitCount_0f7a4, 1) := rfl
theorem c_0_33 {v0 : Int32} (hd : decode (m_c M) pc = .ok (.invokestatic 33, 3)) (ho : m_o M = 0) : WP (d + 1) M pc L (.int v0 :: S) h Q = ((S.map Value.category).sum ≤ 8 ∧ Cal d mJ6_bitCount_0f7a4 [.int v0] h (Kn (d + 1) M (pc + 3) L S Q)) := by
  rw [w_cs (as := [.int v0]) (S := S) hd (by rw [ho]; exact lk_0_33) (by decide) rfl]
  simp [am_ag, Value.category, l_J6_bitCount_0f7a4, o_J6_bitCount_0f7a4]
set_option maxRecDepth 20000 in
theorem lk_13_173 : am_mT.lookup (13, 173) = some (mX11_span, 0) := rfl
theorem c_13_173 {p : Nat} {v0 : Int32} (hd : decode (m_c M) pc = .ok (.invokevirtual 173, 3)) (ho : m_o M = 13) : WP (d + 1) M pc L (.int v0 :: .ref p :: S) h Q = ((a_t h p).1 = 11 ∧ (S.map Value.category).sum ≤ 8 ∧ Cal d mX11_span [.ref p, .int v0] h (Kn (d + 1) M (pc + 3) L S Q)) := by
  rw [w_cv (as := [.int v0]) (S := S) hd (by rw [ho]; exact lk_13_173) rfl rfl]
  simp [am_ag, Value.category, l_X11_span, o_X11_span]
set_option maxRecDepth 20000 in
theorem lk_11_366 : am_mT.lookup (11, 366) = some (mX1_leastWays, 0) := rfl
theorem c_11_366 {p : Nat} (hd : decode (m_c M) pc = .ok (.invokevirtual 366, 3)) (ho : m_o M = 11) : WP (d + 1) M pc L (.ref p :: S) h Q = ((a_t h p).1 = 1 ∧ (S.map Value.category).sum ≤ 8 ∧ Cal d mX1_leastWays [.ref p] h (Kn (d + 1) M (pc + 3) L S Q)) := by
  rw [w_cv (as := []) (S := S) hd (by rw [ho]; exact lk_11_366) rfl rfl]
  simp [am_ag, Value.category, l_X1_leastWays, o_X1_leastWays]
set_option maxRecDepth 20000 in
theorem lk_1_22 : am_mT.lookup (1, 22) = some (mJ9_max_7cf53, 7) := rfl
set_option maxRecDepth 20000 in
theorem lk_11_370 : am_mT.lookup (11, 370) = some (mX1_mostWays, 0) := rfl
theorem c_11_370 {p : Nat} (hd : decode (m_c M) pc = .ok (.invokevirtual 370, 3)) (ho : m_o M = 11) : WP (d + 1) M pc L (.ref p :: S) h Q = ((a_t h p).1 = 1 ∧ (S.map Value.category).sum ≤ 8 ∧ Cal d mX1_mostWays [.ref p] h (Kn (d + 1) M (pc + 3) L S Q)) := by
  rw [w_cv (as := []) (S := S) hd (by rw [ho]; exact lk_11_370) rfl rfl]
  simp [am_ag, Value.category, l_X1_mostWays, o_X1_mostWays]
set_option maxRecDepth 20000 in
theorem lk_1_28 : am_mT.lookup (1, 28) = some (mJ9_min_7cf53, 8) := rfl
set_option maxRecDepth 20000 in
theorem lk_13_178 : am_mT.lookup (13, 178) = some (mX11_way, 0) := rfl
theorem c_13_178 {p : Nat} {v0 : Int32} {v1 : Int32} {v2 : Int32} (hd : decode (m_c M) pc = .ok (.invokevirtual 178, 3)) (ho : m_o M = 13) : WP (d + 1) M pc L (.int v2 :: .int v1 :: .int v0 :: .ref p :: S) h Q = ((a_t h p).1 = 11 ∧ (S.map Value.category).sum ≤ 8 ∧ Cal d mX11_way [.ref p, .int v0, .int v1, .int v2] h (Kn (d + 1) M (pc + 3) L S Q)) := by
  rw [w_cv (as := [.int v0, .int v1, .int v2]) (S := S) hd (by rw [ho]; exact lk_13_178) rfl rfl]
  simp [am_ag, Value.category, l_X11_way, o_X11_way]
set_option maxRecDepth 20000 in
theorem lk_11_373 : am_mT.lookup (11, 373) = some (mX11_whoYields, 0) := rfl
theorem c_11_373 {p : Nat} {v0 : Int32} {v1 : Int32} {v2 : Int32} (hd : decode (m_c M) pc = .ok (.invokevirtual 373, 3)) (ho : m_o M = 11) : WP (d + 1) M pc L (.int v2 :: .int v1 :: .int v0 :: .ref p :: S) h Q = ((a_t h p).1 = 11 ∧ (S.map Value.category).sum ≤ 8 ∧ Cal d mX11_whoYields [.ref p, .int v0, .int v1, .int v2] h (Kn (d + 1) M (pc + 3) L S Q)) := by
  rw [w_cv (as := [.int v0, .int v1, .int v2]) (S := S) hd (by rw [ho]; exact lk_11_373) rfl rfl]
  simp [am_ag, Value.category, l_X11_whoYields, o_X11_whoYields]
set_option maxRecDepth 20000 in
theorem lk_11_392 : am_mT.lookup (11, 392) = some (mX11_isSpokenIn, 1) := rfl
theorem c_11_392 {v0 : Int32} {v1 : Int32} {v2 : Int32} (hd : decode (m_c M) pc = .ok (.invokestatic 392, 3)) (ho : m_o M = 11) : WP (d + 1) M pc L (.int v2 :: .int v1 :: .int v0 :: S) h Q = ((S.map Value.category).sum ≤ 8 ∧ Cal d mX11_isSpokenIn [.int v0, .int v1, .int v2] h (Kn (d + 1) M (pc + 3) L S Q)) := by
  rw [w_cs (as := [.int v0, .int v1, .int v2]) (S := S) hd (by rw [ho]; exact lk_11_392) (by decide) rfl]
  simp [am_ag, Value.category, l_X11_isSpokenIn, o_X11_isSpokenIn]
set_option maxRecDepth 20000 in
theorem lk_13_12 : am_mT.lookup (13, 12) = some (mX12_init, 2) := rfl
theorem c_13_12 {p : Nat} (hd : decode (m_c M) pc = .ok (.invokespecial 12, 3)) (ho : m_o M = 13) : WP (d + 1) M pc L (.ref p :: S) h Q = ((S.map Value.category).sum ≤ 8 ∧ Cal d mX12_init [.ref p] h (Kn (d + 1) M (pc + 3) L S Q)) := by
  rw [w_ci (as := []) (S := S) hd (by rw [ho]; exact lk_13_12) (by decide) rfl]
  simp [am_ag, Value.category, l_X12_init, o_X12_init]
set_option maxRecDepth 20000 in
theorem lk_12_1 : am_mT.lookup (12, 1) = some (mL_law, 3) := rfl
set_option maxRecDepth 20000 in
theorem lk_12_169 : am_mT.lookup (12, 169) = some (mX12_copies, 0) := rfl
theorem c_12_169 {p : Nat} {v0 : Int32} (hd : decode (m_c M) pc = .ok (.invokevirtual 169, 3)) (ho : m_o M = 12) : WP (d + 1) M pc L (.int v0 :: .ref p :: S) h Q = ((a_t h p).1 = 12 ∧ (S.map Value.category).sum ≤ 8 ∧ Cal d mX12_copies [.ref p, .int v0] h (Kn (d + 1) M (pc + 3) L S Q)) := by
  rw [w_cv (as := [.int v0]) (S := S) hd (by rw [ho]; exact lk_12_169) rfl rfl]
  simp [am_ag, Value.category, l_X12_copies, o_X12_copies]
set_option maxRecDepth 20000 in
theorem lk_13_17 : am_mT.lookup (13, 17) = some (mX12_tellEnd, 0) := rfl
theorem c_13_17 {p : Nat} {v0 : Int32} {v1 : Int32} {v2 : Int32} {v3 : Int32} (hd : decode (m_c M) pc = .ok (.invokevirtual 17, 3)) (ho : m_o M = 13) : WP (d + 1) M pc L (.int v3 :: .int v2 :: .int v1 :: .int v0 :: .ref p :: S) h Q = ((a_t h p).1 = 12 ∧ (S.map Value.category).sum ≤ 8 ∧ Cal d mX12_tellEnd [.ref p, .int v0, .int v1, .int v2, .int v3] h (Kn (d + 1) M (pc + 3) L S Q)) := by
  rw [w_cv (as := [.int v0, .int v1, .int v2, .int v3]) (S := S) hd (by rw [ho]; exact lk_13_17) rfl rfl]
  simp [am_ag, Value.category, l_X12_tellEnd, o_X12_tellEnd]
set_option maxRecDepth 20000 in
theorem lk_12_173 : am_mT.lookup (12, 173) = some (mX12_in, 1) := rfl
theorem c_12_173 {v0 : Int32} {v1 : Int32} {v2 : Int32} (hd : decode (m_c M) pc = .ok (.invokestatic 173, 3)) (ho : m_o M = 12) : WP (d + 1) M pc L (.int v2 :: .int v1 :: .int v0 :: S) h Q = ((S.map Value.category).sum ≤ 8 ∧ Cal d mX12_in [.int v0, .int v1, .int v2] h (Kn (d + 1) M (pc + 3) L S Q)) := by
  rw [w_cs (as := [.int v0, .int v1, .int v2]) (S := S) hd (by rw [ho]; exact lk_12_173) (by decide) rfl]
  simp [am_ag, Value.category, l_X12_in, o_X12_in]
set_option maxRecDepth 20000 in
theorem lk_12_177 : am_mT.lookup (12, 177) = some (mX12_refuses, 0) := rfl
theorem c_12_177 {p : Nat} {v0 : Int32} {v1 : Int32} (hd : decode (m_c M) pc = .ok (.invokevirtual 177, 3)) (ho : m_o M = 12) : WP (d + 1) M pc L (.int v1 :: .int v0 :: .ref p :: S) h Q = ((a_t h p).1 = 12 ∧ (S.map Value.category).sum ≤ 8 ∧ Cal d mX12_refuses [.ref p, .int v0, .int v1] h (Kn (d + 1) M (pc + 3) L S Q)) := by
  rw [w_cv (as := [.int v0, .int v1]) (S := S) hd (by rw [ho]; exact lk_12_177) rfl rfl]
  simp [am_ag, Value.category, l_X12_refuses, o_X12_refuses]
set_option maxRecDepth 20000 in
theorem lk_13_22 : am_mT.lookup (13, 22) = some (mX12_seed, 0) := rfl
theorem c_13_22 {p : Nat} {v0 : Int32} (hd : decode (m_c M) pc = .ok (.invokevirtual 22, 3)) (ho : m_o M = 13) : WP (d + 1) M pc L (.int v0 :: .ref p :: S) h Q = ((a_t h p).1 = 12 ∧ (S.map Value.category).sum ≤ 8 ∧ Cal d mX12_seed [.ref p, .int v0] h (Kn (d + 1) M (pc + 3) L S Q)) := by
  rw [w_cv (as := [.int v0]) (S := S) hd (by rw [ho]; exact lk_13_22) rfl rfl]
  simp [am_ag, Value.category, l_X12_seed, o_X12_seed]
set_option maxRecDepth 20000 in
theorem lk_12_181 : am_mT.lookup (12, 181) = some (mX12_refusesIt, 0) := rfl
theorem c_12_181 {p : Nat} {v0 : Int32} (hd : decode (m_c M) pc = .ok (.invokevirtual 181, 3)) (ho : m_o M = 12) : WP (d + 1) M pc L (.int v0 :: .ref p :: S) h Q = ((a_t h p).1 = 12 ∧ (S.map Value.category).sum ≤ 8 ∧ Cal d mX12_refusesIt [.ref p, .int v0] h (Kn (d + 1) M (pc + 3) L S Q)) := by
  rw [w_cv (as := [.int v0]) (S := S) hd (by rw [ho]; exact lk_12_181) rfl rfl]
  simp [am_ag, Value.category, l_X12_refusesIt, o_X12_refusesIt]
set_option maxRecDepth 20000 in
theorem lk_13_79 : am_mT.lookup (13, 79) = some (mX12_undo, 0) := rfl
theorem c_13_79 {p : Nat} (hd : decode (m_c M) pc = .ok (.invokevirtual 79, 3)) (ho : m_o M = 13) : WP (d + 1) M pc L (.ref p :: S) h Q = ((a_t h p).1 = 12 ∧ (S.map Value.category).sum ≤ 8 ∧ Cal d mX12_undo [.ref p] h (Kn (d + 1) M (pc + 3) L S Q)) := by
  rw [w_cv (as := []) (S := S) hd (by rw [ho]; exact lk_13_79) rfl rfl]
  simp [am_ag, Value.category, l_X12_undo, o_X12_undo]
set_option maxRecDepth 20000 in
theorem lk_13_27 : am_mT.lookup (13, 27) = some (mX12_delay, 0) := rfl
theorem c_13_27 {p : Nat} {v0 : Int32} {v1 : Int32} {v2 : Int32} (hd : decode (m_c M) pc = .ok (.invokevirtual 27, 3)) (ho : m_o M = 13) : WP (d + 1) M pc L (.int v2 :: .int v1 :: .int v0 :: .ref p :: S) h Q = ((a_t h p).1 = 12 ∧ (S.map Value.category).sum ≤ 8 ∧ Cal d mX12_delay [.ref p, .int v0, .int v1, .int v2] h (Kn (d + 1) M (pc + 3) L S Q)) := by
  rw [w_cv (as := [.int v0, .int v1, .int v2]) (S := S) hd (by rw [ho]; exact lk_13_27) rfl rfl]
  simp [am_ag, Value.category, l_X12_delay, o_X12_delay]
set_option maxRecDepth 20000 in
theorem lk_12_185 : am_mT.lookup (12, 185) = some (mX12_isEnd, 0) := rfl
theorem c_12_185 {p : Nat} {v0 : Int32} (hd : decode (m_c M) pc = .ok (.invokevirtual 185, 3)) (ho : m_o M = 12) : WP (d + 1) M pc L (.int v0 :: .ref p :: S) h Q = ((a_t h p).1 = 12 ∧ (S.map Value.category).sum ≤ 8 ∧ Cal d mX12_isEnd [.ref p, .int v0] h (Kn (d + 1) M (pc + 3) L S Q)) := by
  rw [w_cv (as := [.int v0]) (S := S) hd (by rw [ho]; exact lk_12_185) rfl rfl]
  simp [am_ag, Value.category, l_X12_isEnd, o_X12_isEnd]
set_option maxRecDepth 20000 in
theorem lk_12_188 : am_mT.lookup (12, 188) = some (mX12_delayOf, 0) := rfl
theorem c_12_188 {p : Nat} {v0 : Int32} {v1 : Int32} (hd : decode (m_c M) pc = .ok (.invokevirtual 188, 3)) (ho : m_o M = 12) : WP (d + 1) M pc L (.int v1 :: .int v0 :: .ref p :: S) h Q = ((a_t h p).1 = 12 ∧ (S.map Value.category).sum ≤ 8 ∧ Cal d mX12_delayOf [.ref p, .int v0, .int v1] h (Kn (d + 1) M (pc + 3) L S Q)) := by
  rw [w_cv (as := [.int v0, .int v1]) (S := S) hd (by rw [ho]; exact lk_12_188) rfl rfl]
  simp [am_ag, Value.category, l_X12_delayOf, o_X12_delayOf]
set_option maxRecDepth 20000 in
theorem lk_12_191 : am_mT.lookup (12, 191) = some (mX12_keepsStep, 0) := rfl
theorem c_12_191 {p : Nat} (hd : decode (m_c M) pc = .ok (.invokevirtual 191, 3)) (ho : m_o M = 12) : WP (d + 1) M pc L (.ref p :: S) h Q = ((a_t h p).1 = 12 ∧ (S.map Value.category).sum ≤ 8 ∧ Cal d mX12_keepsStep [.ref p] h (Kn (d + 1) M (pc + 3) L S Q)) := by
  rw [w_cv (as := []) (S := S) hd (by rw [ho]; exact lk_12_191) rfl rfl]
  simp [am_ag, Value.category, l_X12_keepsStep, o_X12_keepsStep]
set_option maxRecDepth 20000 in
theorem lk_13_31 : am_mT.lookup (13, 31) = some (mX12_rule, 0) := rfl
theorem c_13_31 {p : Nat} {v0 : Int32} (hd : decode (m_c M) pc = .ok (.invokevirtual 31, 3)) (ho : m_o M = 13) : WP (d + 1) M pc L (.int v0 :: .ref p :: S) h Q = ((a_t h p).1 = 12 ∧ (S.map Value.category).sum ≤ 8 ∧ Cal d mX12_rule [.ref p, .int v0] h (Kn (d + 1) M (pc + 3) L S Q)) := by
  rw [w_cv (as := [.int v0]) (S := S) hd (by rw [ho]; exact lk_13_31) rfl rfl]
  simp [am_ag, Value.category, l_X12_rule, o_X12_rule]
set_option maxRecDepth 20000 in
theorem lk_13_54 : am_mT.lookup (13, 54) = some (mX12_feed, 0) := rfl
theorem c_13_54 {p : Nat} {v0 : Int32} {v1 : Int32} {v2 : Int32} {v3 : Int32} {v4 : Int32} (hd : decode (m_c M) pc = .ok (.invokevirtual 54, 3)) (ho : m_o M = 13) : WP (d + 1) M pc L (.int v4 :: .int v3 :: .int v2 :: .int v1 :: .int v0 :: .ref p :: S) h Q = ((a_t h p).1 = 12 ∧ (S.map Value.category).sum ≤ 8 ∧ Cal d mX12_feed [.ref p, .int v0, .int v1, .int v2, .int v3, .int v4] h (Kn (d + 1) M (pc + 3) L S Q)) := by
  rw [w_cv (as := [.int v0, .int v1, .int v2, .int v3, .int v4]) (S := S) hd (by rw [ho]; exact lk_13_54) rfl rfl]
  simp [am_ag, Value.category, l_X12_feed, o_X12_feed]
set_option maxRecDepth 20000 in
theorem lk_12_197 : am_mT.lookup (12, 197) = some (mX12_put, 0) := rfl
theorem c_12_197 {p : Nat} {v0 : Int32} (hd : decode (m_c M) pc = .ok (.invokevirtual 197, 3)) (ho : m_o M = 12) : WP (d + 1) M pc L (.int v0 :: .ref p :: S) h Q = ((a_t h p).1 = 12 ∧ (S.map Value.category).sum ≤ 8 ∧ Cal d mX12_put [.ref p, .int v0] h (Kn (d + 1) M (pc + 3) L S Q)) := by
  rw [w_cv (as := [.int v0]) (S := S) hd (by rw [ho]; exact lk_12_197) rfl rfl]
  simp [am_ag, Value.category, l_X12_put, o_X12_put]
set_option maxRecDepth 20000 in
theorem lk_13_58 : am_mT.lookup (13, 58) = some (mX12_end, 0) := rfl
theorem c_13_58 {p : Nat} {v0 : Int32} (hd : decode (m_c M) pc = .ok (.invokevirtual 58, 3)) (ho : m_o M = 13) : WP (d + 1) M pc L (.int v0 :: .ref p :: S) h Q = ((a_t h p).1 = 12 ∧ (S.map Value.category).sum ≤ 8 ∧ Cal d mX12_end [.ref p, .int v0] h (Kn (d + 1) M (pc + 3) L S Q)) := by
  rw [w_cv (as := [.int v0]) (S := S) hd (by rw [ho]; exact lk_13_58) rfl rfl]
  simp [am_ag, Value.category, l_X12_end, o_X12_end]
set_option maxRecDepth 20000 in
theorem lk_13_63 : am_mT.lookup (13, 63) = some (mX12_text, 0) := rfl
theorem c_13_63 {p : Nat} (hd : decode (m_c M) pc = .ok (.invokevirtual 63, 3)) (ho : m_o M = 13) : WP (d + 1) M pc L (.ref p :: S) h Q = ((a_t h p).1 = 12 ∧ (S.map Value.category).sum ≤ 8 ∧ Cal d mX12_text [.ref p] h (Kn (d + 1) M (pc + 3) L S Q)) := by
  rw [w_cv (as := []) (S := S) hd (by rw [ho]; exact lk_13_63) rfl rfl]
  simp [am_ag, Value.category, l_X12_text, o_X12_text]
set_option maxRecDepth 20000 in
theorem lk_12_311 : am_mT.lookup (12, 311) = some (mX12_next, 0) := rfl
theorem c_12_311 {p : Nat} (hd : decode (m_c M) pc = .ok (.invokevirtual 311, 3)) (ho : m_o M = 12) : WP (d + 1) M pc L (.ref p :: S) h Q = ((a_t h p).1 = 12 ∧ (S.map Value.category).sum ≤ 8 ∧ Cal d mX12_next [.ref p] h (Kn (d + 1) M (pc + 3) L S Q)) := by
  rw [w_cv (as := []) (S := S) hd (by rw [ho]; exact lk_12_311) rfl rfl]
  simp [am_ag, Value.category, l_X12_next, o_X12_next]
set_option maxRecDepth 20000 in
theorem lk_12_277 : am_mT.lookup (12, 277) = some (mX12_isLetter, 1) := rfl
theorem c_12_277 {v0 : Int32} (hd : decode (m_c M) pc = .ok (.invokestatic 277, 3)) (ho : m_o M = 12) : WP (d + 1) M pc L (.int v0 :: S) h Q = ((S.map Value.category).sum ≤ 8 ∧ Cal d mX12_isLetter [.int v0] h (Kn (d + 1) M (pc + 3) L S Q)) := by
  rw [w_cs (as := [.int v0]) (S := S) hd (by rw [ho]; exact lk_12_277) (by decide) rfl]
  simp [am_ag, Value.category, l_X12_isLetter, o_X12_isLetter]
set_option maxRecDepth 20000 in
theorem lk_12_282 : am_mT.lookup (12, 282) = some (mX12_wordOf, 1) := rfl
theorem c_12_282 {v0 : Int64} (hd : decode (m_c M) pc = .ok (.invokestatic 282, 3)) (ho : m_o M = 12) : WP (d + 1) M pc L (.long v0 :: S) h Q = ((S.map Value.category).sum ≤ 8 ∧ Cal d mX12_wordOf [.long v0] h (Kn (d + 1) M (pc + 3) L S Q)) := by
  rw [w_cs (as := [.long v0]) (S := S) hd (by rw [ho]; exact lk_12_282) (by decide) rfl]
  simp [am_ag, Value.category, l_X12_wordOf, o_X12_wordOf]
set_option maxRecDepth 20000 in
theorem lk_12_388 : am_mT.lookup (12, 388) = some (mX12_asks, 0) := rfl
theorem c_12_388 {p : Nat} (hd : decode (m_c M) pc = .ok (.invokevirtual 388, 3)) (ho : m_o M = 12) : WP (d + 1) M pc L (.ref p :: S) h Q = ((a_t h p).1 = 12 ∧ (S.map Value.category).sum ≤ 8 ∧ Cal d mX12_asks [.ref p] h (Kn (d + 1) M (pc + 3) L S Q)) := by
  rw [w_cv (as := []) (S := S) hd (by rw [ho]; exact lk_12_388) rfl rfl]
  simp [am_ag, Value.category, l_X12_asks, o_X12_asks]
set_option maxRecDepth 20000 in
theorem lk_12_328 : am_mT.lookup (12, 328) = some (mX12_isWord, 0) := rfl
theorem c_12_328 {p : Nat} {v0 : Int32} (hd : decode (m_c M) pc = .ok (.invokevirtual 328, 3)) (ho : m_o M = 12) : WP (d + 1) M pc L (.int v0 :: .ref p :: S) h Q = ((a_t h p).1 = 12 ∧ (S.map Value.category).sum ≤ 8 ∧ Cal d mX12_isWord [.ref p, .int v0] h (Kn (d + 1) M (pc + 3) L S Q)) := by
  rw [w_cv (as := [.int v0]) (S := S) hd (by rw [ho]; exact lk_12_328) rfl rfl]
  simp [am_ag, Value.category, l_X12_isWord, o_X12_isWord]
set_option maxRecDepth 20000 in
theorem lk_12_331 : am_mT.lookup (12, 331) = some (mX12_opensSign, 0) := rfl
theorem c_12_331 {p : Nat} {v0 : Int32} (hd : decode (m_c M) pc = .ok (.invokevirtual 331, 3)) (ho : m_o M = 12) : WP (d + 1) M pc L (.int v0 :: .ref p :: S) h Q = ((a_t h p).1 = 12 ∧ (S.map Value.category).sum ≤ 8 ∧ Cal d mX12_opensSign [.ref p, .int v0] h (Kn (d + 1) M (pc + 3) L S Q)) := by
  rw [w_cv (as := [.int v0]) (S := S) hd (by rw [ho]; exact lk_12_331) rfl rfl]
  simp [am_ag, Value.category, l_X12_opensSign, o_X12_opensSign]
set_option maxRecDepth 20000 in
theorem lk_12_305 : am_mT.lookup (12, 305) = some (mX12_errs, 0) := rfl
theorem c_12_305 {p : Nat} {v0 : Int32} (hd : decode (m_c M) pc = .ok (.invokevirtual 305, 3)) (ho : m_o M = 12) : WP (d + 1) M pc L (.int v0 :: .ref p :: S) h Q = ((a_t h p).1 = 12 ∧ (S.map Value.category).sum ≤ 8 ∧ Cal d mX12_errs [.ref p, .int v0] h (Kn (d + 1) M (pc + 3) L S Q)) := by
  rw [w_cv (as := [.int v0]) (S := S) hd (by rw [ho]; exact lk_12_305) rfl rfl]
  simp [am_ag, Value.category, l_X12_errs, o_X12_errs]
set_option maxRecDepth 20000 in
theorem lk_12_308 : am_mT.lookup (12, 308) = some (mX12_opensFrame, 0) := rfl
theorem c_12_308 {p : Nat} {v0 : Int32} (hd : decode (m_c M) pc = .ok (.invokevirtual 308, 3)) (ho : m_o M = 12) : WP (d + 1) M pc L (.int v0 :: .ref p :: S) h Q = ((a_t h p).1 = 12 ∧ (S.map Value.category).sum ≤ 8 ∧ Cal d mX12_opensFrame [.ref p, .int v0] h (Kn (d + 1) M (pc + 3) L S Q)) := by
  rw [w_cv (as := [.int v0]) (S := S) hd (by rw [ho]; exact lk_12_308) rfl rfl]
  simp [am_ag, Value.category, l_X12_opensFrame, o_X12_opensFrame]
set_option maxRecDepth 20000 in
theorem lk_12_391 : am_mT.lookup (12, 391) = some (mX12_begins, 0) := rfl
theorem c_12_391 {p : Nat} (hd : decode (m_c M) pc = .ok (.invokevirtual 391, 3)) (ho : m_o M = 12) : WP (d + 1) M pc L (.ref p :: S) h Q = ((a_t h p).1 = 12 ∧ (S.map Value.category).sum ≤ 8 ∧ Cal d mX12_begins [.ref p] h (Kn (d + 1) M (pc + 3) L S Q)) := by
  rw [w_cv (as := []) (S := S) hd (by rw [ho]; exact lk_12_391) rfl rfl]
  simp [am_ag, Value.category, l_X12_begins, o_X12_begins]
set_option maxRecDepth 20000 in
theorem lk_12_337 : am_mT.lookup (12, 337) = some (mX12_nameNow, 0) := rfl
theorem c_12_337 {p : Nat} (hd : decode (m_c M) pc = .ok (.invokevirtual 337, 3)) (ho : m_o M = 12) : WP (d + 1) M pc L (.ref p :: S) h Q = ((a_t h p).1 = 12 ∧ (S.map Value.category).sum ≤ 8 ∧ Cal d mX12_nameNow [.ref p] h (Kn (d + 1) M (pc + 3) L S Q)) := by
  rw [w_cv (as := []) (S := S) hd (by rw [ho]; exact lk_12_337) rfl rfl]
  simp [am_ag, Value.category, l_X12_nameNow, o_X12_nameNow]
set_option maxRecDepth 20000 in
theorem lk_12_321 : am_mT.lookup (12, 321) = some (mX12_emits, 0) := rfl
theorem c_12_321 {p : Nat} {v0 : Int32} {v1 : Int32} (hd : decode (m_c M) pc = .ok (.invokevirtual 321, 3)) (ho : m_o M = 12) : WP (d + 1) M pc L (.int v1 :: .int v0 :: .ref p :: S) h Q = ((a_t h p).1 = 12 ∧ (S.map Value.category).sum ≤ 8 ∧ Cal d mX12_emits [.ref p, .int v0, .int v1] h (Kn (d + 1) M (pc + 3) L S Q)) := by
  rw [w_cv (as := [.int v0, .int v1]) (S := S) hd (by rw [ho]; exact lk_12_321) rfl rfl]
  simp [am_ag, Value.category, l_X12_emits, o_X12_emits]
set_option maxRecDepth 20000 in
theorem lk_12_341 : am_mT.lookup (12, 341) = some (mX12_oneIsOver, 0) := rfl
theorem c_12_341 {p : Nat} (hd : decode (m_c M) pc = .ok (.invokevirtual 341, 3)) (ho : m_o M = 12) : WP (d + 1) M pc L (.ref p :: S) h Q = ((a_t h p).1 = 12 ∧ (S.map Value.category).sum ≤ 8 ∧ Cal d mX12_oneIsOver [.ref p] h (Kn (d + 1) M (pc + 3) L S Q)) := by
  rw [w_cv (as := []) (S := S) hd (by rw [ho]; exact lk_12_341) rfl rfl]
  simp [am_ag, Value.category, l_X12_oneIsOver, o_X12_oneIsOver]
set_option maxRecDepth 20000 in
theorem lk_12_354 : am_mT.lookup (12, 354) = some (mX12_top, 0) := rfl
theorem c_12_354 {p : Nat} (hd : decode (m_c M) pc = .ok (.invokevirtual 354, 3)) (ho : m_o M = 12) : WP (d + 1) M pc L (.ref p :: S) h Q = ((a_t h p).1 = 12 ∧ (S.map Value.category).sum ≤ 8 ∧ Cal d mX12_top [.ref p] h (Kn (d + 1) M (pc + 3) L S Q)) := by
  rw [w_cv (as := []) (S := S) hd (by rw [ho]; exact lk_12_354) rfl rfl]
  simp [am_ag, Value.category, l_X12_top, o_X12_top]
set_option maxRecDepth 20000 in
theorem lk_12_347 : am_mT.lookup (12, 347) = some (mX12_mayName, 1) := rfl
theorem c_12_347 {v0 : Int32} {v1 : Int32} (hd : decode (m_c M) pc = .ok (.invokestatic 347, 3)) (ho : m_o M = 12) : WP (d + 1) M pc L (.int v1 :: .int v0 :: S) h Q = ((S.map Value.category).sum ≤ 8 ∧ Cal d mX12_mayName [.int v0, .int v1] h (Kn (d + 1) M (pc + 3) L S Q)) := by
  rw [w_cs (as := [.int v0, .int v1]) (S := S) hd (by rw [ho]; exact lk_12_347) (by decide) rfl]
  simp [am_ag, Value.category, l_X12_mayName, o_X12_mayName]
set_option maxRecDepth 20000 in
theorem lk_12_351 : am_mT.lookup (12, 351) = some (mX12_isSign, 0) := rfl
theorem c_12_351 {p : Nat} {v0 : Int32} (hd : decode (m_c M) pc = .ok (.invokevirtual 351, 3)) (ho : m_o M = 12) : WP (d + 1) M pc L (.int v0 :: .ref p :: S) h Q = ((a_t h p).1 = 12 ∧ (S.map Value.category).sum ≤ 8 ∧ Cal d mX12_isSign [.ref p, .int v0] h (Kn (d + 1) M (pc + 3) L S Q)) := by
  rw [w_cv (as := [.int v0]) (S := S) hd (by rw [ho]; exact lk_12_351) rfl rfl]
  simp [am_ag, Value.category, l_X12_isSign, o_X12_isSign]
set_option maxRecDepth 20000 in
theorem lk_12_394 : am_mT.lookup (12, 394) = some (mX12_goesOn, 0) := rfl
theorem c_12_394 {p : Nat} (hd : decode (m_c M) pc = .ok (.invokevirtual 394, 3)) (ho : m_o M = 12) : WP (d + 1) M pc L (.ref p :: S) h Q = ((a_t h p).1 = 12 ∧ (S.map Value.category).sum ≤ 8 ∧ Cal d mX12_goesOn [.ref p] h (Kn (d + 1) M (pc + 3) L S Q)) := by
  rw [w_cv (as := []) (S := S) hd (by rw [ho]; exact lk_12_394) rfl rfl]
  simp [am_ag, Value.category, l_X12_goesOn, o_X12_goesOn]
set_option maxRecDepth 20000 in
theorem lk_12_357 : am_mT.lookup (12, 357) = some (mX12_waitsFor, 0) := rfl
theorem c_12_357 {p : Nat} {v0 : Int32} (hd : decode (m_c M) pc = .ok (.invokevirtual 357, 3)) (ho : m_o M = 12) : WP (d + 1) M pc L (.int v0 :: .ref p :: S) h Q = ((a_t h p).1 = 12 ∧ (S.map Value.category).sum ≤ 8 ∧ Cal d mX12_waitsFor [.ref p, .int v0] h (Kn (d + 1) M (pc + 3) L S Q)) := by
  rw [w_cv (as := [.int v0]) (S := S) hd (by rw [ho]; exact lk_12_357) rfl rfl]
  simp [am_ag, Value.category, l_X12_waitsFor, o_X12_waitsFor]
set_option maxRecDepth 20000 in
theorem lk_12_317 : am_mT.lookup (12, 317) = some (mX12_rank, 1) := rfl
theorem c_12_317 {v0 : Int32} (hd : decode (m_c M) pc = .ok (.invokestatic 317, 3)) (ho : m_o M = 12) : WP (d + 1) M pc L (.int v0 :: S) h Q = ((S.map Value.category).sum ≤ 8 ∧ Cal d mX12_rank [.int v0] h (Kn (d + 1) M (pc + 3) L S Q)) := by
  rw [w_cs (as := [.int v0]) (S := S) hd (by rw [ho]; exact lk_12_317) (by decide) rfl]
  simp [am_ag, Value.category, l_X12_rank, o_X12_rank]
set_option maxRecDepth 20000 in
theorem lk_12_325 : am_mT.lookup (12, 325) = some (mX12_works, 0) := rfl
theorem c_12_325 {p : Nat} {v0 : Int32} (hd : decode (m_c M) pc = .ok (.invokevirtual 325, 3)) (ho : m_o M = 12) : WP (d + 1) M pc L (.int v0 :: .ref p :: S) h Q = ((a_t h p).1 = 12 ∧ (S.map Value.category).sum ≤ 8 ∧ Cal d mX12_works [.ref p, .int v0] h (Kn (d + 1) M (pc + 3) L S Q)) := by
  rw [w_cv (as := [.int v0]) (S := S) hd (by rw [ho]; exact lk_12_325) rfl rfl]
  simp [am_ag, Value.category, l_X12_works, o_X12_works]
set_option maxRecDepth 20000 in
theorem lk_12_360 : am_mT.lookup (12, 360) = some (mX12_turnsTo, 0) := rfl
theorem c_12_360 {p : Nat} {v0 : Int32} {v1 : Int32} (hd : decode (m_c M) pc = .ok (.invokevirtual 360, 3)) (ho : m_o M = 12) : WP (d + 1) M pc L (.int v1 :: .int v0 :: .ref p :: S) h Q = ((a_t h p).1 = 12 ∧ (S.map Value.category).sum ≤ 8 ∧ Cal d mX12_turnsTo [.ref p, .int v0, .int v1] h (Kn (d + 1) M (pc + 3) L S Q)) := by
  rw [w_cv (as := [.int v0, .int v1]) (S := S) hd (by rw [ho]; exact lk_12_360) rfl rfl]
  simp [am_ag, Value.category, l_X12_turnsTo, o_X12_turnsTo]
set_option maxRecDepth 20000 in
theorem lk_12_363 : am_mT.lookup (12, 363) = some (mX12_isAsking, 1) := rfl
theorem c_12_363 {v0 : Int32} (hd : decode (m_c M) pc = .ok (.invokestatic 363, 3)) (ho : m_o M = 12) : WP (d + 1) M pc L (.int v0 :: S) h Q = ((S.map Value.category).sum ≤ 8 ∧ Cal d mX12_isAsking [.int v0] h (Kn (d + 1) M (pc + 3) L S Q)) := by
  rw [w_cs (as := [.int v0]) (S := S) hd (by rw [ho]; exact lk_12_363) (by decide) rfl]
  simp [am_ag, Value.category, l_X12_isAsking, o_X12_isAsking]
set_option maxRecDepth 20000 in
theorem lk_12_366 : am_mT.lookup (12, 366) = some (mX12_askIsOver, 0) := rfl
theorem c_12_366 {p : Nat} (hd : decode (m_c M) pc = .ok (.invokevirtual 366, 3)) (ho : m_o M = 12) : WP (d + 1) M pc L (.ref p :: S) h Q = ((a_t h p).1 = 12 ∧ (S.map Value.category).sum ≤ 8 ∧ Cal d mX12_askIsOver [.ref p] h (Kn (d + 1) M (pc + 3) L S Q)) := by
  rw [w_cv (as := []) (S := S) hd (by rw [ho]; exact lk_12_366) rfl rfl]
  simp [am_ag, Value.category, l_X12_askIsOver, o_X12_askIsOver]
set_option maxRecDepth 20000 in
theorem lk_12_369 : am_mT.lookup (12, 369) = some (mX12_clauseIsOver, 0) := rfl
theorem c_12_369 {p : Nat} (hd : decode (m_c M) pc = .ok (.invokevirtual 369, 3)) (ho : m_o M = 12) : WP (d + 1) M pc L (.ref p :: S) h Q = ((a_t h p).1 = 12 ∧ (S.map Value.category).sum ≤ 8 ∧ Cal d mX12_clauseIsOver [.ref p] h (Kn (d + 1) M (pc + 3) L S Q)) := by
  rw [w_cv (as := []) (S := S) hd (by rw [ho]; exact lk_12_369) rfl rfl]
  simp [am_ag, Value.category, l_X12_clauseIsOver, o_X12_clauseIsOver]
set_option maxRecDepth 20000 in
theorem lk_12_397 : am_mT.lookup (12, 397) = some (mX12_asksOn, 0) := rfl
theorem c_12_397 {p : Nat} (hd : decode (m_c M) pc = .ok (.invokevirtual 397, 3)) (ho : m_o M = 12) : WP (d + 1) M pc L (.ref p :: S) h Q = ((a_t h p).1 = 12 ∧ (S.map Value.category).sum ≤ 8 ∧ Cal d mX12_asksOn [.ref p] h (Kn (d + 1) M (pc + 3) L S Q)) := by
  rw [w_cv (as := []) (S := S) hd (by rw [ho]; exact lk_12_397) rfl rfl]
  simp [am_ag, Value.category, l_X12_asksOn, o_X12_asksOn]
set_option maxRecDepth 20000 in
theorem lk_12_400 : am_mT.lookup (12, 400) = some (mX12_clause, 0) := rfl
theorem c_12_400 {p : Nat} (hd : decode (m_c M) pc = .ok (.invokevirtual 400, 3)) (ho : m_o M = 12) : WP (d + 1) M pc L (.ref p :: S) h Q = ((a_t h p).1 = 12 ∧ (S.map Value.category).sum ≤ 8 ∧ Cal d mX12_clause [.ref p] h (Kn (d + 1) M (pc + 3) L S Q)) := by
  rw [w_cv (as := []) (S := S) hd (by rw [ho]; exact lk_12_400) rfl rfl]
  simp [am_ag, Value.category, l_X12_clause, o_X12_clause]
set_option maxRecDepth 20000 in
theorem lk_12_382 : am_mT.lookup (12, 382) = some (mX12_wasTold, 0) := rfl
theorem c_12_382 {p : Nat} {v0 : Int32} (hd : decode (m_c M) pc = .ok (.invokevirtual 382, 3)) (ho : m_o M = 12) : WP (d + 1) M pc L (.int v0 :: .ref p :: S) h Q = ((a_t h p).1 = 12 ∧ (S.map Value.category).sum ≤ 8 ∧ Cal d mX12_wasTold [.ref p, .int v0] h (Kn (d + 1) M (pc + 3) L S Q)) := by
  rw [w_cv (as := [.int v0]) (S := S) hd (by rw [ho]; exact lk_12_382) rfl rfl]
  simp [am_ag, Value.category, l_X12_wasTold, o_X12_wasTold]
set_option maxRecDepth 20000 in
theorem lk_12_385 : am_mT.lookup (12, 385) = some (mX12_doing, 0) := rfl
theorem c_12_385 {p : Nat} (hd : decode (m_c M) pc = .ok (.invokevirtual 385, 3)) (ho : m_o M = 12) : WP (d + 1) M pc L (.ref p :: S) h Q = ((a_t h p).1 = 12 ∧ (S.map Value.category).sum ≤ 8 ∧ Cal d mX12_doing [.ref p] h (Kn (d + 1) M (pc + 3) L S Q)) := by
  rw [w_cv (as := []) (S := S) hd (by rw [ho]; exact lk_12_385) rfl rfl]
  simp [am_ag, Value.category, l_X12_doing, o_X12_doing]
set_option maxRecDepth 20000 in
theorem lk_12_375 : am_mT.lookup (12, 375) = some (mX12_number, 0) := rfl
theorem c_12_375 {p : Nat} {v0 : Int32} {v1 : Int32} (hd : decode (m_c M) pc = .ok (.invokevirtual 375, 3)) (ho : m_o M = 12) : WP (d + 1) M pc L (.int v1 :: .int v0 :: .ref p :: S) h Q = ((a_t h p).1 = 12 ∧ (S.map Value.category).sum ≤ 8 ∧ Cal d mX12_number [.ref p, .int v0, .int v1] h (Kn (d + 1) M (pc + 3) L S Q)) := by
  rw [w_cv (as := [.int v0, .int v1]) (S := S) hd (by rw [ho]; exact lk_12_375) rfl rfl]
  simp [am_ag, Value.category, l_X12_number, o_X12_number]
set_option maxRecDepth 20000 in
theorem lk_12_378 : am_mT.lookup (12, 378) = some (mX12_numberBehind, 0) := rfl
theorem c_12_378 {p : Nat} {v0 : Int32} {v1 : Int32} {v2 : Int32} (hd : decode (m_c M) pc = .ok (.invokevirtual 378, 3)) (ho : m_o M = 12) : WP (d + 1) M pc L (.int v2 :: .int v1 :: .int v0 :: .ref p :: S) h Q = ((a_t h p).1 = 12 ∧ (S.map Value.category).sum ≤ 8 ∧ Cal d mX12_numberBehind [.ref p, .int v0, .int v1, .int v2] h (Kn (d + 1) M (pc + 3) L S Q)) := by
  rw [w_cv (as := [.int v0, .int v1, .int v2]) (S := S) hd (by rw [ho]; exact lk_12_378) rfl rfl]
  simp [am_ag, Value.category, l_X12_numberBehind, o_X12_numberBehind]
set_option maxRecDepth 20000 in
theorem lk_13_67 : am_mT.lookup (13, 67) = some (mX12_fault, 0) := rfl
theorem c_13_67 {p : Nat} {v0 : Int32} (hd : decode (m_c M) pc = .ok (.invokevirtual 67, 3)) (ho : m_o M = 13) : WP (d + 1) M pc L (.int v0 :: .ref p :: S) h Q = ((a_t h p).1 = 12 ∧ (S.map Value.category).sum ≤ 8 ∧ Cal d mX12_fault [.ref p, .int v0] h (Kn (d + 1) M (pc + 3) L S Q)) := by
  rw [w_cv (as := [.int v0]) (S := S) hd (by rw [ho]; exact lk_13_67) rfl rfl]
  simp [am_ag, Value.category, l_X12_fault, o_X12_fault]
set_option maxRecDepth 20000 in
theorem lk_13_71 : am_mT.lookup (13, 71) = some (mX12_by, 0) := rfl
theorem c_13_71 {p : Nat} {v0 : Int32} (hd : decode (m_c M) pc = .ok (.invokevirtual 71, 3)) (ho : m_o M = 13) : WP (d + 1) M pc L (.int v0 :: .ref p :: S) h Q = ((a_t h p).1 = 12 ∧ (S.map Value.category).sum ≤ 8 ∧ Cal d mX12_by [.ref p, .int v0] h (Kn (d + 1) M (pc + 3) L S Q)) := by
  rw [w_cv (as := [.int v0]) (S := S) hd (by rw [ho]; exact lk_13_71) rfl rfl]
  simp [am_ag, Value.category, l_X12_by, o_X12_by]
set_option maxRecDepth 20000 in
theorem lk_13_49 : am_mT.lookup (13, 49) = some (mX12_go, 0) := rfl
theorem c_13_49 {p : Nat} {v0 : Int32} (hd : decode (m_c M) pc = .ok (.invokevirtual 49, 3)) (ho : m_o M = 13) : WP (d + 1) M pc L (.int v0 :: .ref p :: S) h Q = ((a_t h p).1 = 12 ∧ (S.map Value.category).sum ≤ 8 ∧ Cal d mX12_go [.ref p, .int v0] h (Kn (d + 1) M (pc + 3) L S Q)) := by
  rw [w_cv (as := [.int v0]) (S := S) hd (by rw [ho]; exact lk_13_49) rfl rfl]
  simp [am_ag, Value.category, l_X12_go, o_X12_go]
set_option maxRecDepth 20000 in
theorem lk_12_514 : am_mT.lookup (12, 514) = some (mX12_laysNow, 0) := rfl
theorem c_12_514 {p : Nat} {v0 : Int32} (hd : decode (m_c M) pc = .ok (.invokevirtual 514, 3)) (ho : m_o M = 12) : WP (d + 1) M pc L (.int v0 :: .ref p :: S) h Q = ((a_t h p).1 = 12 ∧ (S.map Value.category).sum ≤ 8 ∧ Cal d mX12_laysNow [.ref p, .int v0] h (Kn (d + 1) M (pc + 3) L S Q)) := by
  rw [w_cv (as := [.int v0]) (S := S) hd (by rw [ho]; exact lk_12_514) rfl rfl]
  simp [am_ag, Value.category, l_X12_laysNow, o_X12_laysNow]
set_option maxRecDepth 20000 in
theorem lk_12_442 : am_mT.lookup (12, 442) = some (mX12_laysTurn, 0) := rfl
theorem c_12_442 {p : Nat} {v0 : Int32} (hd : decode (m_c M) pc = .ok (.invokevirtual 442, 3)) (ho : m_o M = 12) : WP (d + 1) M pc L (.int v0 :: .ref p :: S) h Q = ((a_t h p).1 = 12 ∧ (S.map Value.category).sum ≤ 8 ∧ Cal d mX12_laysTurn [.ref p, .int v0] h (Kn (d + 1) M (pc + 3) L S Q)) := by
  rw [w_cv (as := [.int v0]) (S := S) hd (by rw [ho]; exact lk_12_442) rfl rfl]
  simp [am_ag, Value.category, l_X12_laysTurn, o_X12_laysTurn]
set_option maxRecDepth 20000 in
theorem lk_12_415 : am_mT.lookup (12, 415) = some (mX12_ofTurn, 0) := rfl
theorem c_12_415 {p : Nat} {v0 : Int32} {v1 : Int32} (hd : decode (m_c M) pc = .ok (.invokevirtual 415, 3)) (ho : m_o M = 12) : WP (d + 1) M pc L (.int v1 :: .int v0 :: .ref p :: S) h Q = ((a_t h p).1 = 12 ∧ (S.map Value.category).sum ≤ 8 ∧ Cal d mX12_ofTurn [.ref p, .int v0, .int v1] h (Kn (d + 1) M (pc + 3) L S Q)) := by
  rw [w_cv (as := [.int v0, .int v1]) (S := S) hd (by rw [ho]; exact lk_12_415) rfl rfl]
  simp [am_ag, Value.category, l_X12_ofTurn, o_X12_ofTurn]
set_option maxRecDepth 20000 in
theorem lk_12_445 : am_mT.lookup (12, 445) = some (mX12_wasSpoken, 0) := rfl
theorem c_12_445 {p : Nat} {v0 : Int32} (hd : decode (m_c M) pc = .ok (.invokevirtual 445, 3)) (ho : m_o M = 12) : WP (d + 1) M pc L (.int v0 :: .ref p :: S) h Q = ((a_t h p).1 = 12 ∧ (S.map Value.category).sum ≤ 8 ∧ Cal d mX12_wasSpoken [.ref p, .int v0] h (Kn (d + 1) M (pc + 3) L S Q)) := by
  rw [w_cv (as := [.int v0]) (S := S) hd (by rw [ho]; exact lk_12_445) rfl rfl]
  simp [am_ag, Value.category, l_X12_wasSpoken, o_X12_wasSpoken]
set_option maxRecDepth 20000 in
theorem lk_12_517 : am_mT.lookup (12, 517) = some (mX12_tenthGoes, 0) := rfl
theorem c_12_517 {p : Nat} (hd : decode (m_c M) pc = .ok (.invokevirtual 517, 3)) (ho : m_o M = 12) : WP (d + 1) M pc L (.ref p :: S) h Q = ((a_t h p).1 = 12 ∧ (S.map Value.category).sum ≤ 8 ∧ Cal d mX12_tenthGoes [.ref p] h (Kn (d + 1) M (pc + 3) L S Q)) := by
  rw [w_cv (as := []) (S := S) hd (by rw [ho]; exact lk_12_517) rfl rfl]
  simp [am_ag, Value.category, l_X12_tenthGoes, o_X12_tenthGoes]
set_option maxRecDepth 20000 in
theorem lk_12_502 : am_mT.lookup (12, 502) = some (mX12_hearsAll, 0) := rfl
theorem c_12_502 {p : Nat} (hd : decode (m_c M) pc = .ok (.invokevirtual 502, 3)) (ho : m_o M = 12) : WP (d + 1) M pc L (.ref p :: S) h Q = ((a_t h p).1 = 12 ∧ (S.map Value.category).sum ≤ 8 ∧ Cal d mX12_hearsAll [.ref p] h (Kn (d + 1) M (pc + 3) L S Q)) := by
  rw [w_cv (as := []) (S := S) hd (by rw [ho]; exact lk_12_502) rfl rfl]
  simp [am_ag, Value.category, l_X12_hearsAll, o_X12_hearsAll]
set_option maxRecDepth 20000 in
theorem lk_12_499 : am_mT.lookup (12, 499) = some (mX12_lowestOf, 1) := rfl
theorem c_12_499 {v0 : Int32} (hd : decode (m_c M) pc = .ok (.invokestatic 499, 3)) (ho : m_o M = 12) : WP (d + 1) M pc L (.int v0 :: S) h Q = ((S.map Value.category).sum ≤ 8 ∧ Cal d mX12_lowestOf [.int v0] h (Kn (d + 1) M (pc + 3) L S Q)) := by
  rw [w_cs (as := [.int v0]) (S := S) hd (by rw [ho]; exact lk_12_499) (by decide) rfl]
  simp [am_ag, Value.category, l_X12_lowestOf, o_X12_lowestOf]
set_option maxRecDepth 20000 in
theorem lk_12_505 : am_mT.lookup (12, 505) = some (mX12_goesSpeaking, 0) := rfl
theorem c_12_505 {p : Nat} {v0 : Int32} (hd : decode (m_c M) pc = .ok (.invokevirtual 505, 3)) (ho : m_o M = 12) : WP (d + 1) M pc L (.int v0 :: .ref p :: S) h Q = ((a_t h p).1 = 12 ∧ (S.map Value.category).sum ≤ 8 ∧ Cal d mX12_goesSpeaking [.ref p, .int v0] h (Kn (d + 1) M (pc + 3) L S Q)) := by
  rw [w_cv (as := [.int v0]) (S := S) hd (by rw [ho]; exact lk_12_505) rfl rfl]
  simp [am_ag, Value.category, l_X12_goesSpeaking, o_X12_goesSpeaking]
set_option maxRecDepth 20000 in
theorem lk_12_484 : am_mT.lookup (12, 484) = some (mX12_stopsOf, 0) := rfl
theorem c_12_484 {p : Nat} {v0 : Int32} (hd : decode (m_c M) pc = .ok (.invokevirtual 484, 3)) (ho : m_o M = 12) : WP (d + 1) M pc L (.int v0 :: .ref p :: S) h Q = ((a_t h p).1 = 12 ∧ (S.map Value.category).sum ≤ 8 ∧ Cal d mX12_stopsOf [.ref p, .int v0] h (Kn (d + 1) M (pc + 3) L S Q)) := by
  rw [w_cv (as := [.int v0]) (S := S) hd (by rw [ho]; exact lk_12_484) rfl rfl]
  simp [am_ag, Value.category, l_X12_stopsOf, o_X12_stopsOf]
set_option maxRecDepth 20000 in
theorem lk_12_448 : am_mT.lookup (12, 448) = some (mX12_told, 0) := rfl
theorem c_12_448 {p : Nat} {v0 : Int32} {v1 : Int32} (hd : decode (m_c M) pc = .ok (.invokevirtual 448, 3)) (ho : m_o M = 12) : WP (d + 1) M pc L (.int v1 :: .int v0 :: .ref p :: S) h Q = ((a_t h p).1 = 12 ∧ (S.map Value.category).sum ≤ 8 ∧ Cal d mX12_told [.ref p, .int v0, .int v1] h (Kn (d + 1) M (pc + 3) L S Q)) := by
  rw [w_cv (as := [.int v0, .int v1]) (S := S) hd (by rw [ho]; exact lk_12_448) rfl rfl]
  simp [am_ag, Value.category, l_X12_told, o_X12_told]
set_option maxRecDepth 20000 in
theorem lk_12_468 : am_mT.lookup (12, 468) = some (mX12_lawOf, 0) := rfl
theorem c_12_468 {p : Nat} {v0 : Int32} {v1 : Int32} {v2 : Int32} {v3 : Int32} {v4 : Int32} (hd : decode (m_c M) pc = .ok (.invokevirtual 468, 3)) (ho : m_o M = 12) : WP (d + 1) M pc L (.int v4 :: .int v3 :: .int v2 :: .int v1 :: .int v0 :: .ref p :: S) h Q = ((a_t h p).1 = 12 ∧ (S.map Value.category).sum ≤ 8 ∧ Cal d mX12_lawOf [.ref p, .int v0, .int v1, .int v2, .int v3, .int v4] h (Kn (d + 1) M (pc + 3) L S Q)) := by
  rw [w_cv (as := [.int v0, .int v1, .int v2, .int v3, .int v4]) (S := S) hd (by rw [ho]; exact lk_12_468) rfl rfl]
  simp [am_ag, Value.category, l_X12_lawOf, o_X12_lawOf]
set_option maxRecDepth 20000 in
theorem lk_12_451 : am_mT.lookup (12, 451) = some (mX12_ordersOf, 0) := rfl
theorem c_12_451 {p : Nat} {v0 : Int32} (hd : decode (m_c M) pc = .ok (.invokevirtual 451, 3)) (ho : m_o M = 12) : WP (d + 1) M pc L (.int v0 :: .ref p :: S) h Q = ((a_t h p).1 = 12 ∧ (S.map Value.category).sum ≤ 8 ∧ Cal d mX12_ordersOf [.ref p, .int v0] h (Kn (d + 1) M (pc + 3) L S Q)) := by
  rw [w_cv (as := [.int v0]) (S := S) hd (by rw [ho]; exact lk_12_451) rfl rfl]
  simp [am_ag, Value.category, l_X12_ordersOf, o_X12_ordersOf]
set_option maxRecDepth 20000 in
theorem lk_12_454 : am_mT.lookup (12, 454) = some (mX12_names, 0) := rfl
theorem c_12_454 {p : Nat} {v0 : Int32} (hd : decode (m_c M) pc = .ok (.invokevirtual 454, 3)) (ho : m_o M = 12) : WP (d + 1) M pc L (.int v0 :: .ref p :: S) h Q = ((a_t h p).1 = 12 ∧ (S.map Value.category).sum ≤ 8 ∧ Cal d mX12_names [.ref p, .int v0] h (Kn (d + 1) M (pc + 3) L S Q)) := by
  rw [w_cv (as := [.int v0]) (S := S) hd (by rw [ho]; exact lk_12_454) rfl rfl]
  simp [am_ag, Value.category, l_X12_names, o_X12_names]
set_option maxRecDepth 20000 in
theorem lk_12_457 : am_mT.lookup (12, 457) = some (mX12_saysOf, 0) := rfl
theorem c_12_457 {p : Nat} {v0 : Int32} (hd : decode (m_c M) pc = .ok (.invokevirtual 457, 3)) (ho : m_o M = 12) : WP (d + 1) M pc L (.int v0 :: .ref p :: S) h Q = ((a_t h p).1 = 12 ∧ (S.map Value.category).sum ≤ 8 ∧ Cal d mX12_saysOf [.ref p, .int v0] h (Kn (d + 1) M (pc + 3) L S Q)) := by
  rw [w_cv (as := [.int v0]) (S := S) hd (by rw [ho]; exact lk_12_457) rfl rfl]
  simp [am_ag, Value.category, l_X12_saysOf, o_X12_saysOf]
set_option maxRecDepth 20000 in
theorem lk_12_411 : am_mT.lookup (12, 411) = some (mX12_worked, 1) := rfl
theorem c_12_411 {v0 : Int32} {v1 : Int64} {v2 : Int64} (hd : decode (m_c M) pc = .ok (.invokestatic 411, 3)) (ho : m_o M = 12) : WP (d + 1) M pc L (.long v2 :: .long v1 :: .int v0 :: S) h Q = ((S.map Value.category).sum ≤ 8 ∧ Cal d mX12_worked [.int v0, .long v1, .long v2] h (Kn (d + 1) M (pc + 3) L S Q)) := by
  rw [w_cs (as := [.int v0, .long v1, .long v2]) (S := S) hd (by rw [ho]; exact lk_12_411) (by decide) rfl]
  simp [am_ag, Value.category, l_X12_worked, o_X12_worked]
set_option maxRecDepth 20000 in
theorem lk_12_407 : am_mT.lookup (12, 407) = some (mX12_bound, 1) := rfl
theorem c_12_407 {v0 : Int64} (hd : decode (m_c M) pc = .ok (.invokestatic 407, 3)) (ho : m_o M = 12) : WP (d + 1) M pc L (.long v0 :: S) h Q = ((S.map Value.category).sum ≤ 8 ∧ Cal d mX12_bound [.long v0] h (Kn (d + 1) M (pc + 3) L S Q)) := by
  rw [w_cs (as := [.long v0]) (S := S) hd (by rw [ho]; exact lk_12_407) (by decide) rfl]
  simp [am_ag, Value.category, l_X12_bound, o_X12_bound]
set_option maxRecDepth 20000 in
theorem lk_12_461 : am_mT.lookup (12, 461) = some (mX12_held, 1) := rfl
theorem c_12_461 {v0 : Int64} {v1 : Int32} {v2 : Int32} (hd : decode (m_c M) pc = .ok (.invokestatic 461, 3)) (ho : m_o M = 12) : WP (d + 1) M pc L (.int v2 :: .int v1 :: .long v0 :: S) h Q = ((S.map Value.category).sum ≤ 8 ∧ Cal d mX12_held [.long v0, .int v1, .int v2] h (Kn (d + 1) M (pc + 3) L S Q)) := by
  rw [w_cs (as := [.long v0, .int v1, .int v2]) (S := S) hd (by rw [ho]; exact lk_12_461) (by decide) rfl]
  simp [am_ag, Value.category, l_X12_held, o_X12_held]
set_option maxRecDepth 20000 in
theorem lk_12_487 : am_mT.lookup (12, 487) = some (mX12_endsTurn, 0) := rfl
theorem c_12_487 {p : Nat} {v0 : Int32} {v1 : Int32} (hd : decode (m_c M) pc = .ok (.invokevirtual 487, 3)) (ho : m_o M = 12) : WP (d + 1) M pc L (.int v1 :: .int v0 :: .ref p :: S) h Q = ((a_t h p).1 = 12 ∧ (S.map Value.category).sum ≤ 8 ∧ Cal d mX12_endsTurn [.ref p, .int v0, .int v1] h (Kn (d + 1) M (pc + 3) L S Q)) := by
  rw [w_cv (as := [.int v0, .int v1]) (S := S) hd (by rw [ho]; exact lk_12_487) rfl rfl]
  simp [am_ag, Value.category, l_X12_endsTurn, o_X12_endsTurn]
set_option maxRecDepth 20000 in
theorem lk_12_490 : am_mT.lookup (12, 490) = some (mX12_saysNow, 0) := rfl
theorem c_12_490 {p : Nat} {v0 : Int32} (hd : decode (m_c M) pc = .ok (.invokevirtual 490, 3)) (ho : m_o M = 12) : WP (d + 1) M pc L (.int v0 :: .ref p :: S) h Q = ((a_t h p).1 = 12 ∧ (S.map Value.category).sum ≤ 8 ∧ Cal d mX12_saysNow [.ref p, .int v0] h (Kn (d + 1) M (pc + 3) L S Q)) := by
  rw [w_cv (as := [.int v0]) (S := S) hd (by rw [ho]; exact lk_12_490) rfl rfl]
  simp [am_ag, Value.category, l_X12_saysNow, o_X12_saysNow]
set_option maxRecDepth 20000 in
theorem lk_12_508 : am_mT.lookup (12, 508) = some (mX12_goesSilent, 0) := rfl
theorem c_12_508 {p : Nat} {v0 : Int32} (hd : decode (m_c M) pc = .ok (.invokevirtual 508, 3)) (ho : m_o M = 12) : WP (d + 1) M pc L (.int v0 :: .ref p :: S) h Q = ((a_t h p).1 = 12 ∧ (S.map Value.category).sum ≤ 8 ∧ Cal d mX12_goesSilent [.ref p, .int v0] h (Kn (d + 1) M (pc + 3) L S Q)) := by
  rw [w_cv (as := [.int v0]) (S := S) hd (by rw [ho]; exact lk_12_508) rfl rfl]
  simp [am_ag, Value.category, l_X12_goesSilent, o_X12_goesSilent]
set_option maxRecDepth 20000 in
theorem lk_12_493 : am_mT.lookup (12, 493) = some (mX12_findsPatience, 0) := rfl
theorem c_12_493 {p : Nat} {v0 : Int32} (hd : decode (m_c M) pc = .ok (.invokevirtual 493, 3)) (ho : m_o M = 12) : WP (d + 1) M pc L (.int v0 :: .ref p :: S) h Q = ((a_t h p).1 = 12 ∧ (S.map Value.category).sum ≤ 8 ∧ Cal d mX12_findsPatience [.ref p, .int v0] h (Kn (d + 1) M (pc + 3) L S Q)) := by
  rw [w_cv (as := [.int v0]) (S := S) hd (by rw [ho]; exact lk_12_493) rfl rfl]
  simp [am_ag, Value.category, l_X12_findsPatience, o_X12_findsPatience]
set_option maxRecDepth 20000 in
theorem lk_12_475 : am_mT.lookup (12, 475) = some (mX12_draw, 0) := rfl
theorem c_12_475 {p : Nat} {v0 : Int32} (hd : decode (m_c M) pc = .ok (.invokevirtual 475, 3)) (ho : m_o M = 12) : WP (d + 1) M pc L (.int v0 :: .ref p :: S) h Q = ((a_t h p).1 = 12 ∧ (S.map Value.category).sum ≤ 8 ∧ Cal d mX12_draw [.ref p, .int v0] h (Kn (d + 1) M (pc + 3) L S Q)) := by
  rw [w_cv (as := [.int v0]) (S := S) hd (by rw [ho]; exact lk_12_475) rfl rfl]
  simp [am_ag, Value.category, l_X12_draw, o_X12_draw]
set_option maxRecDepth 20000 in
theorem lk_12_496 : am_mT.lookup (12, 496) = some (mX12_beginsTurn, 0) := rfl
theorem c_12_496 {p : Nat} {v0 : Int32} (hd : decode (m_c M) pc = .ok (.invokevirtual 496, 3)) (ho : m_o M = 12) : WP (d + 1) M pc L (.int v0 :: .ref p :: S) h Q = ((a_t h p).1 = 12 ∧ (S.map Value.category).sum ≤ 8 ∧ Cal d mX12_beginsTurn [.ref p, .int v0] h (Kn (d + 1) M (pc + 3) L S Q)) := by
  rw [w_cv (as := [.int v0]) (S := S) hd (by rw [ho]; exact lk_12_496) rfl rfl]
  simp [am_ag, Value.category, l_X12_beginsTurn, o_X12_beginsTurn]
set_option maxRecDepth 20000 in
theorem lk_12_478 : am_mT.lookup (12, 478) = some (mX12_longOf, 0) := rfl
theorem c_12_478 {p : Nat} {v0 : Int32} (hd : decode (m_c M) pc = .ok (.invokevirtual 478, 3)) (ho : m_o M = 12) : WP (d + 1) M pc L (.int v0 :: .ref p :: S) h Q = ((a_t h p).1 = 12 ∧ (S.map Value.category).sum ≤ 8 ∧ Cal d mX12_longOf [.ref p, .int v0] h (Kn (d + 1) M (pc + 3) L S Q)) := by
  rw [w_cv (as := [.int v0]) (S := S) hd (by rw [ho]; exact lk_12_478) rfl rfl]
  simp [am_ag, Value.category, l_X12_longOf, o_X12_longOf]
set_option maxRecDepth 20000 in
theorem lk_12_511 : am_mT.lookup (12, 511) = some (mX12_talliesAll, 0) := rfl
theorem c_12_511 {p : Nat} (hd : decode (m_c M) pc = .ok (.invokevirtual 511, 3)) (ho : m_o M = 12) : WP (d + 1) M pc L (.ref p :: S) h Q = ((a_t h p).1 = 12 ∧ (S.map Value.category).sum ≤ 8 ∧ Cal d mX12_talliesAll [.ref p] h (Kn (d + 1) M (pc + 3) L S Q)) := by
  rw [w_cv (as := []) (S := S) hd (by rw [ho]; exact lk_12_511) rfl rfl]
  simp [am_ag, Value.category, l_X12_talliesAll, o_X12_talliesAll]
set_option maxRecDepth 20000 in
theorem lk_12_520 : am_mT.lookup (12, 520) = some (mX12_keepsNow, 0) := rfl
theorem c_12_520 {p : Nat} (hd : decode (m_c M) pc = .ok (.invokevirtual 520, 3)) (ho : m_o M = 12) : WP (d + 1) M pc L (.ref p :: S) h Q = ((a_t h p).1 = 12 ∧ (S.map Value.category).sum ≤ 8 ∧ Cal d mX12_keepsNow [.ref p] h (Kn (d + 1) M (pc + 3) L S Q)) := by
  rw [w_cv (as := []) (S := S) hd (by rw [ho]; exact lk_12_520) rfl rfl]
  simp [am_ag, Value.category, l_X12_keepsNow, o_X12_keepsNow]
set_option maxRecDepth 20000 in
theorem lk_13_36 : am_mT.lookup (13, 36) = some (mX12_speak, 0) := rfl
theorem c_13_36 {p : Nat} {v0 : Int32} {v1 : Int32} (hd : decode (m_c M) pc = .ok (.invokevirtual 36, 3)) (ho : m_o M = 13) : WP (d + 1) M pc L (.int v1 :: .int v0 :: .ref p :: S) h Q = ((a_t h p).1 = 12 ∧ (S.map Value.category).sum ≤ 8 ∧ Cal d mX12_speak [.ref p, .int v0, .int v1] h (Kn (d + 1) M (pc + 3) L S Q)) := by
  rw [w_cv (as := [.int v0, .int v1]) (S := S) hd (by rw [ho]; exact lk_13_36) rfl rfl]
  simp [am_ag, Value.category, l_X12_speak, o_X12_speak]
set_option maxRecDepth 20000 in
theorem lk_13_41 : am_mT.lookup (13, 41) = some (mX12_hush, 0) := rfl
theorem c_13_41 {p : Nat} {v0 : Int32} (hd : decode (m_c M) pc = .ok (.invokevirtual 41, 3)) (ho : m_o M = 13) : WP (d + 1) M pc L (.int v0 :: .ref p :: S) h Q = ((a_t h p).1 = 12 ∧ (S.map Value.category).sum ≤ 8 ∧ Cal d mX12_hush [.ref p, .int v0] h (Kn (d + 1) M (pc + 3) L S Q)) := by
  rw [w_cv (as := [.int v0]) (S := S) hd (by rw [ho]; exact lk_13_41) rfl rfl]
  simp [am_ag, Value.category, l_X12_hush, o_X12_hush]
set_option maxRecDepth 20000 in
theorem lk_12_523 : am_mT.lookup (12, 523) = some (mX12_turnGoingOn, 0) := rfl
theorem c_12_523 {p : Nat} {v0 : Int32} (hd : decode (m_c M) pc = .ok (.invokevirtual 523, 3)) (ho : m_o M = 12) : WP (d + 1) M pc L (.int v0 :: .ref p :: S) h Q = ((a_t h p).1 = 12 ∧ (S.map Value.category).sum ≤ 8 ∧ Cal d mX12_turnGoingOn [.ref p, .int v0] h (Kn (d + 1) M (pc + 3) L S Q)) := by
  rw [w_cv (as := [.int v0]) (S := S) hd (by rw [ho]; exact lk_12_523) rfl rfl]
  simp [am_ag, Value.category, l_X12_turnGoingOn, o_X12_turnGoingOn]
set_option maxRecDepth 20000 in
theorem lk_13_45 : am_mT.lookup (13, 45) = some (mX12_yes, 0) := rfl
theorem c_13_45 {p : Nat} {v0 : Int32} (hd : decode (m_c M) pc = .ok (.invokevirtual 45, 3)) (ho : m_o M = 13) : WP (d + 1) M pc L (.int v0 :: .ref p :: S) h Q = ((a_t h p).1 = 12 ∧ (S.map Value.category).sum ≤ 8 ∧ Cal d mX12_yes [.ref p, .int v0] h (Kn (d + 1) M (pc + 3) L S Q)) := by
  rw [w_cv (as := [.int v0]) (S := S) hd (by rw [ho]; exact lk_13_45) rfl rfl]
  simp [am_ag, Value.category, l_X12_yes, o_X12_yes]
set_option maxRecDepth 20000 in
theorem lk_12_526 : am_mT.lookup (12, 526) = some (mX12_heardOut, 0) := rfl
theorem c_12_526 {p : Nat} {v0 : Int32} (hd : decode (m_c M) pc = .ok (.invokevirtual 526, 3)) (ho : m_o M = 12) : WP (d + 1) M pc L (.int v0 :: .ref p :: S) h Q = ((a_t h p).1 = 12 ∧ (S.map Value.category).sum ≤ 8 ∧ Cal d mX12_heardOut [.ref p, .int v0] h (Kn (d + 1) M (pc + 3) L S Q)) := by
  rw [w_cv (as := [.int v0]) (S := S) hd (by rw [ho]; exact lk_12_526) rfl rfl]
  simp [am_ag, Value.category, l_X12_heardOut, o_X12_heardOut]
set_option maxRecDepth 20000 in
theorem lk_13_75 : am_mT.lookup (13, 75) = some (mX12_played, 0) := rfl
theorem c_13_75 {p : Nat} {v0 : Int32} (hd : decode (m_c M) pc = .ok (.invokevirtual 75, 3)) (ho : m_o M = 13) : WP (d + 1) M pc L (.int v0 :: .ref p :: S) h Q = ((a_t h p).1 = 12 ∧ (S.map Value.category).sum ≤ 8 ∧ Cal d mX12_played [.ref p, .int v0] h (Kn (d + 1) M (pc + 3) L S Q)) := by
  rw [w_cv (as := [.int v0]) (S := S) hd (by rw [ho]; exact lk_13_75) rfl rfl]
  simp [am_ag, Value.category, l_X12_played, o_X12_played]
set_option maxRecDepth 20000 in
theorem lk_12_529 : am_mT.lookup (12, 529) = some (mX12_speak, 0) := rfl
theorem c_12_529 {p : Nat} {v0 : Int32} {v1 : Int32} (hd : decode (m_c M) pc = .ok (.invokevirtual 529, 3)) (ho : m_o M = 12) : WP (d + 1) M pc L (.int v1 :: .int v0 :: .ref p :: S) h Q = ((a_t h p).1 = 12 ∧ (S.map Value.category).sum ≤ 8 ∧ Cal d mX12_speak [.ref p, .int v0, .int v1] h (Kn (d + 1) M (pc + 3) L S Q)) := by
  rw [w_cv (as := [.int v0, .int v1]) (S := S) hd (by rw [ho]; exact lk_12_529) rfl rfl]
  simp [am_ag, Value.category, l_X12_speak, o_X12_speak]
set_option maxRecDepth 20000 in
theorem lk_12_532 : am_mT.lookup (12, 532) = some (mX12_hush, 0) := rfl
theorem c_12_532 {p : Nat} {v0 : Int32} (hd : decode (m_c M) pc = .ok (.invokevirtual 532, 3)) (ho : m_o M = 12) : WP (d + 1) M pc L (.int v0 :: .ref p :: S) h Q = ((a_t h p).1 = 12 ∧ (S.map Value.category).sum ≤ 8 ∧ Cal d mX12_hush [.ref p, .int v0] h (Kn (d + 1) M (pc + 3) L S Q)) := by
  rw [w_cv (as := [.int v0]) (S := S) hd (by rw [ho]; exact lk_12_532) rfl rfl]
  simp [am_ag, Value.category, l_X12_hush, o_X12_hush]
set_option maxRecDepth 20000 in
theorem lk_12_535 : am_mT.lookup (12, 535) = some (mX12_yes, 0) := rfl
theorem c_12_535 {p : Nat} {v0 : Int32} (hd : decode (m_c M) pc = .ok (.invokevirtual 535, 3)) (ho : m_o M = 12) : WP (d + 1) M pc L (.int v0 :: .ref p :: S) h Q = ((a_t h p).1 = 12 ∧ (S.map Value.category).sum ≤ 8 ∧ Cal d mX12_yes [.ref p, .int v0] h (Kn (d + 1) M (pc + 3) L S Q)) := by
  rw [w_cv (as := [.int v0]) (S := S) hd (by rw [ho]; exact lk_12_535) rfl rfl]
  simp [am_ag, Value.category, l_X12_yes, o_X12_yes]
set_option maxRecDepth 20000 in
theorem lk_12_538 : am_mT.lookup (12, 538) = some (mX12_go, 0) := rfl
theorem c_12_538 {p : Nat} {v0 : Int32} (hd : decode (m_c M) pc = .ok (.invokevirtual 538, 3)) (ho : m_o M = 12) : WP (d + 1) M pc L (.int v0 :: .ref p :: S) h Q = ((a_t h p).1 = 12 ∧ (S.map Value.category).sum ≤ 8 ∧ Cal d mX12_go [.ref p, .int v0] h (Kn (d + 1) M (pc + 3) L S Q)) := by
  rw [w_cv (as := [.int v0]) (S := S) hd (by rw [ho]; exact lk_12_538) rfl rfl]
  simp [am_ag, Value.category, l_X12_go, o_X12_go]
set_option maxRecDepth 20000 in
theorem lk_12_541 : am_mT.lookup (12, 541) = some (mX12_delay, 0) := rfl
theorem c_12_541 {p : Nat} {v0 : Int32} {v1 : Int32} {v2 : Int32} (hd : decode (m_c M) pc = .ok (.invokevirtual 541, 3)) (ho : m_o M = 12) : WP (d + 1) M pc L (.int v2 :: .int v1 :: .int v0 :: .ref p :: S) h Q = ((a_t h p).1 = 12 ∧ (S.map Value.category).sum ≤ 8 ∧ Cal d mX12_delay [.ref p, .int v0, .int v1, .int v2] h (Kn (d + 1) M (pc + 3) L S Q)) := by
  rw [w_cv (as := [.int v0, .int v1, .int v2]) (S := S) hd (by rw [ho]; exact lk_12_541) rfl rfl]
  simp [am_ag, Value.category, l_X12_delay, o_X12_delay]
set_option maxRecDepth 20000 in
theorem lk_12_544 : am_mT.lookup (12, 544) = some (mX12_rule, 0) := rfl
theorem c_12_544 {p : Nat} {v0 : Int32} (hd : decode (m_c M) pc = .ok (.invokevirtual 544, 3)) (ho : m_o M = 12) : WP (d + 1) M pc L (.int v0 :: .ref p :: S) h Q = ((a_t h p).1 = 12 ∧ (S.map Value.category).sum ≤ 8 ∧ Cal d mX12_rule [.ref p, .int v0] h (Kn (d + 1) M (pc + 3) L S Q)) := by
  rw [w_cv (as := [.int v0]) (S := S) hd (by rw [ho]; exact lk_12_544) rfl rfl]
  simp [am_ag, Value.category, l_X12_rule, o_X12_rule]
set_option maxRecDepth 20000 in
theorem lk_13_83 : am_mT.lookup (13, 83) = some (mX12_of, 0) := rfl
theorem c_13_83 {p : Nat} {v0 : Int32} {v1 : Int32} (hd : decode (m_c M) pc = .ok (.invokevirtual 83, 3)) (ho : m_o M = 13) : WP (d + 1) M pc L (.int v1 :: .int v0 :: .ref p :: S) h Q = ((a_t h p).1 = 12 ∧ (S.map Value.category).sum ≤ 8 ∧ Cal d mX12_of [.ref p, .int v0, .int v1] h (Kn (d + 1) M (pc + 3) L S Q)) := by
  rw [w_cv (as := [.int v0, .int v1]) (S := S) hd (by rw [ho]; exact lk_13_83) rfl rfl]
  simp [am_ag, Value.category, l_X12_of, o_X12_of]
set_option maxRecDepth 20000 in
theorem lk_12_547 : am_mT.lookup (12, 547) = some (mX12_countOf, 0) := rfl
theorem c_12_547 {p : Nat} {v0 : Int32} {v1 : Int32} (hd : decode (m_c M) pc = .ok (.invokevirtual 547, 3)) (ho : m_o M = 12) : WP (d + 1) M pc L (.int v1 :: .int v0 :: .ref p :: S) h Q = ((a_t h p).1 = 12 ∧ (S.map Value.category).sum ≤ 8 ∧ Cal d mX12_countOf [.ref p, .int v0, .int v1] h (Kn (d + 1) M (pc + 3) L S Q)) := by
  rw [w_cv (as := [.int v0, .int v1]) (S := S) hd (by rw [ho]; exact lk_12_547) rfl rfl]
  simp [am_ag, Value.category, l_X12_countOf, o_X12_countOf]
set_option maxRecDepth 20000 in
theorem lk_13_88 : am_mT.lookup (13, 88) = some (mX12_through, 0) := rfl
theorem c_13_88 {p : Nat} {v0 : Int32} {v1 : Int32} {v2 : Int32} (hd : decode (m_c M) pc = .ok (.invokevirtual 88, 3)) (ho : m_o M = 13) : WP (d + 1) M pc L (.int v2 :: .int v1 :: .int v0 :: .ref p :: S) h Q = ((a_t h p).1 = 12 ∧ (S.map Value.category).sum ≤ 8 ∧ Cal d mX12_through [.ref p, .int v0, .int v1, .int v2] h (Kn (d + 1) M (pc + 3) L S Q)) := by
  rw [w_cv (as := [.int v0, .int v1, .int v2]) (S := S) hd (by rw [ho]; exact lk_13_88) rfl rfl]
  simp [am_ag, Value.category, l_X12_through, o_X12_through]
set_option maxRecDepth 20000 in
theorem lk_13_92 : am_mT.lookup (13, 92) = some (mX12_turn, 0) := rfl
theorem c_13_92 {p : Nat} {v0 : Int32} {v1 : Int32} (hd : decode (m_c M) pc = .ok (.invokevirtual 92, 3)) (ho : m_o M = 13) : WP (d + 1) M pc L (.int v1 :: .int v0 :: .ref p :: S) h Q = ((a_t h p).1 = 12 ∧ (S.map Value.category).sum ≤ 8 ∧ Cal d mX12_turn [.ref p, .int v0, .int v1] h (Kn (d + 1) M (pc + 3) L S Q)) := by
  rw [w_cv (as := [.int v0, .int v1]) (S := S) hd (by rw [ho]; exact lk_13_92) rfl rfl]
  simp [am_ag, Value.category, l_X12_turn, o_X12_turn]
set_option maxRecDepth 20000 in
theorem lk_13_96 : am_mT.lookup (13, 96) = some (mX12_said, 0) := rfl
theorem c_13_96 {p : Nat} {v0 : Int32} {v1 : Int32} (hd : decode (m_c M) pc = .ok (.invokevirtual 96, 3)) (ho : m_o M = 13) : WP (d + 1) M pc L (.int v1 :: .int v0 :: .ref p :: S) h Q = ((a_t h p).1 = 12 ∧ (S.map Value.category).sum ≤ 8 ∧ Cal d mX12_said [.ref p, .int v0, .int v1] h (Kn (d + 1) M (pc + 3) L S Q)) := by
  rw [w_cv (as := [.int v0, .int v1]) (S := S) hd (by rw [ho]; exact lk_13_96) rfl rfl]
  simp [am_ag, Value.category, l_X12_said, o_X12_said]
set_option maxRecDepth 20000 in
theorem lk_12_553 : am_mT.lookup (12, 553) = some (mX12_takenAt, 0) := rfl
theorem c_12_553 {p : Nat} {v0 : Int32} {v1 : Int32} (hd : decode (m_c M) pc = .ok (.invokevirtual 553, 3)) (ho : m_o M = 12) : WP (d + 1) M pc L (.int v1 :: .int v0 :: .ref p :: S) h Q = ((a_t h p).1 = 12 ∧ (S.map Value.category).sum ≤ 8 ∧ Cal d mX12_takenAt [.ref p, .int v0, .int v1] h (Kn (d + 1) M (pc + 3) L S Q)) := by
  rw [w_cv (as := [.int v0, .int v1]) (S := S) hd (by rw [ho]; exact lk_12_553) rfl rfl]
  simp [am_ag, Value.category, l_X12_takenAt, o_X12_takenAt]
set_option maxRecDepth 20000 in
theorem lk_12_550 : am_mT.lookup (12, 550) = some (mX12_heardThen, 0) := rfl
theorem c_12_550 {p : Nat} {v0 : Int32} {v1 : Int32} (hd : decode (m_c M) pc = .ok (.invokevirtual 550, 3)) (ho : m_o M = 12) : WP (d + 1) M pc L (.int v1 :: .int v0 :: .ref p :: S) h Q = ((a_t h p).1 = 12 ∧ (S.map Value.category).sum ≤ 8 ∧ Cal d mX12_heardThen [.ref p, .int v0, .int v1] h (Kn (d + 1) M (pc + 3) L S Q)) := by
  rw [w_cv (as := [.int v0, .int v1]) (S := S) hd (by rw [ho]; exact lk_12_550) rfl rfl]
  simp [am_ag, Value.category, l_X12_heardThen, o_X12_heardThen]
set_option maxRecDepth 20000 in
theorem lk_13_100 : am_mT.lookup (13, 100) = some (mX12_misjoined, 0) := rfl
theorem c_13_100 {p : Nat} (hd : decode (m_c M) pc = .ok (.invokevirtual 100, 3)) (ho : m_o M = 13) : WP (d + 1) M pc L (.ref p :: S) h Q = ((a_t h p).1 = 12 ∧ (S.map Value.category).sum ≤ 8 ∧ Cal d mX12_misjoined [.ref p] h (Kn (d + 1) M (pc + 3) L S Q)) := by
  rw [w_cv (as := []) (S := S) hd (by rw [ho]; exact lk_13_100) rfl rfl]
  simp [am_ag, Value.category, l_X12_misjoined, o_X12_misjoined]
set_option maxRecDepth 20000 in
theorem lk_13_105 : am_mT.lookup (13, 105) = some (mX12_whose, 0) := rfl
theorem c_13_105 {p : Nat} {v0 : Int32} {v1 : Int32} {v2 : Int32} {v3 : Int32} {v4 : Int32} {v5 : Int32} (hd : decode (m_c M) pc = .ok (.invokevirtual 105, 3)) (ho : m_o M = 13) : WP (d + 1) M pc L (.int v5 :: .int v4 :: .int v3 :: .int v2 :: .int v1 :: .int v0 :: .ref p :: S) h Q = ((a_t h p).1 = 12 ∧ (S.map Value.category).sum ≤ 8 ∧ Cal d mX12_whose [.ref p, .int v0, .int v1, .int v2, .int v3, .int v4, .int v5] h (Kn (d + 1) M (pc + 3) L S Q)) := by
  rw [w_cv (as := [.int v0, .int v1, .int v2, .int v3, .int v4, .int v5]) (S := S) hd (by rw [ho]; exact lk_13_105) rfl rfl]
  simp [am_ag, Value.category, l_X12_whose, o_X12_whose]
set_option maxRecDepth 20000 in
theorem lk_12_559 : am_mT.lookup (12, 559) = some (mX12_endedBy, 0) := rfl
theorem c_12_559 {p : Nat} {v0 : Int32} {v1 : Int32} (hd : decode (m_c M) pc = .ok (.invokevirtual 559, 3)) (ho : m_o M = 12) : WP (d + 1) M pc L (.int v1 :: .int v0 :: .ref p :: S) h Q = ((a_t h p).1 = 12 ∧ (S.map Value.category).sum ≤ 8 ∧ Cal d mX12_endedBy [.ref p, .int v0, .int v1] h (Kn (d + 1) M (pc + 3) L S Q)) := by
  rw [w_cv (as := [.int v0, .int v1]) (S := S) hd (by rw [ho]; exact lk_12_559) rfl rfl]
  simp [am_ag, Value.category, l_X12_endedBy, o_X12_endedBy]
set_option maxRecDepth 20000 in
theorem lk_12_562 : am_mT.lookup (12, 562) = some (mX12_inLowest, 1) := rfl
theorem c_12_562 {v0 : Int32} {v1 : Int32} {v2 : Int32} (hd : decode (m_c M) pc = .ok (.invokestatic 562, 3)) (ho : m_o M = 12) : WP (d + 1) M pc L (.int v2 :: .int v1 :: .int v0 :: S) h Q = ((S.map Value.category).sum ≤ 8 ∧ Cal d mX12_inLowest [.int v0, .int v1, .int v2] h (Kn (d + 1) M (pc + 3) L S Q)) := by
  rw [w_cs (as := [.int v0, .int v1, .int v2]) (S := S) hd (by rw [ho]; exact lk_12_562) (by decide) rfl]
  simp [am_ag, Value.category, l_X12_inLowest, o_X12_inLowest]
set_option maxRecDepth 20000 in
theorem lk_12_556 : am_mT.lookup (12, 556) = some (mX12_common, 1) := rfl
theorem c_12_556 {v0 : Int32} {v1 : Int32} (hd : decode (m_c M) pc = .ok (.invokestatic 556, 3)) (ho : m_o M = 12) : WP (d + 1) M pc L (.int v1 :: .int v0 :: S) h Q = ((S.map Value.category).sum ≤ 8 ∧ Cal d mX12_common [.int v0, .int v1] h (Kn (d + 1) M (pc + 3) L S Q)) := by
  rw [w_cs (as := [.int v0, .int v1]) (S := S) hd (by rw [ho]; exact lk_12_556) (by decide) rfl]
  simp [am_ag, Value.category, l_X12_common, o_X12_common]
set_option maxRecDepth 20000 in
theorem lk_13_110 : am_mT.lookup (13, 110) = some (mX12_first, 0) := rfl
theorem c_13_110 {p : Nat} {v0 : Int32} {v1 : Int32} {v2 : Int32} (hd : decode (m_c M) pc = .ok (.invokevirtual 110, 3)) (ho : m_o M = 13) : WP (d + 1) M pc L (.int v2 :: .int v1 :: .int v0 :: .ref p :: S) h Q = ((a_t h p).1 = 12 ∧ (S.map Value.category).sum ≤ 8 ∧ Cal d mX12_first [.ref p, .int v0, .int v1, .int v2] h (Kn (d + 1) M (pc + 3) L S Q)) := by
  rw [w_cv (as := [.int v0, .int v1, .int v2]) (S := S) hd (by rw [ho]; exact lk_13_110) rfl rfl]
  simp [am_ag, Value.category, l_X12_first, o_X12_first]
set_option maxRecDepth 20000 in
theorem lk_12_566 : am_mT.lookup (12, 566) = some (mX12_beganAt, 0) := rfl
theorem c_12_566 {p : Nat} {v0 : Int32} {v1 : Int32} (hd : decode (m_c M) pc = .ok (.invokevirtual 566, 3)) (ho : m_o M = 12) : WP (d + 1) M pc L (.int v1 :: .int v0 :: .ref p :: S) h Q = ((a_t h p).1 = 12 ∧ (S.map Value.category).sum ≤ 8 ∧ Cal d mX12_beganAt [.ref p, .int v0, .int v1] h (Kn (d + 1) M (pc + 3) L S Q)) := by
  rw [w_cv (as := [.int v0, .int v1]) (S := S) hd (by rw [ho]; exact lk_12_566) rfl rfl]
  simp [am_ag, Value.category, l_X12_beganAt, o_X12_beganAt]
set_option maxRecDepth 20000 in
theorem lk_13_114 : am_mT.lookup (13, 114) = some (mX12_cold, 0) := rfl
theorem c_13_114 {p : Nat} {v0 : Int32} {v1 : Int32} {v2 : Int32} (hd : decode (m_c M) pc = .ok (.invokevirtual 114, 3)) (ho : m_o M = 13) : WP (d + 1) M pc L (.int v2 :: .int v1 :: .int v0 :: .ref p :: S) h Q = ((a_t h p).1 = 12 ∧ (S.map Value.category).sum ≤ 8 ∧ Cal d mX12_cold [.ref p, .int v0, .int v1, .int v2] h (Kn (d + 1) M (pc + 3) L S Q)) := by
  rw [w_cv (as := [.int v0, .int v1, .int v2]) (S := S) hd (by rw [ho]; exact lk_13_114) rfl rfl]
  simp [am_ag, Value.category, l_X12_cold, o_X12_cold]
set_option maxRecDepth 20000 in
theorem lk_12_569 : am_mT.lookup (12, 569) = some (mX12_heardBegin, 0) := rfl
theorem c_12_569 {p : Nat} {v0 : Int32} {v1 : Int32} {v2 : Int32} (hd : decode (m_c M) pc = .ok (.invokevirtual 569, 3)) (ho : m_o M = 12) : WP (d + 1) M pc L (.int v2 :: .int v1 :: .int v0 :: .ref p :: S) h Q = ((a_t h p).1 = 12 ∧ (S.map Value.category).sum ≤ 8 ∧ Cal d mX12_heardBegin [.ref p, .int v0, .int v1, .int v2] h (Kn (d + 1) M (pc + 3) L S Q)) := by
  rw [w_cv (as := [.int v0, .int v1, .int v2]) (S := S) hd (by rw [ho]; exact lk_12_569) rfl rfl]
  simp [am_ag, Value.category, l_X12_heardBegin, o_X12_heardBegin]
set_option maxRecDepth 20000 in
theorem lk_12_572 : am_mT.lookup (12, 572) = some (mX12_hasBegun, 0) := rfl
theorem c_12_572 {p : Nat} {v0 : Int32} {v1 : Int32} {v2 : Int32} (hd : decode (m_c M) pc = .ok (.invokevirtual 572, 3)) (ho : m_o M = 12) : WP (d + 1) M pc L (.int v2 :: .int v1 :: .int v0 :: .ref p :: S) h Q = ((a_t h p).1 = 12 ∧ (S.map Value.category).sum ≤ 8 ∧ Cal d mX12_hasBegun [.ref p, .int v0, .int v1, .int v2] h (Kn (d + 1) M (pc + 3) L S Q)) := by
  rw [w_cv (as := [.int v0, .int v1, .int v2]) (S := S) hd (by rw [ho]; exact lk_12_572) rfl rfl]
  simp [am_ag, Value.category, l_X12_hasBegun, o_X12_hasBegun]
set_option maxRecDepth 20000 in
theorem lk_12_575 : am_mT.lookup (12, 575) = some (mX12_seems, 0) := rfl
theorem c_12_575 {p : Nat} {v0 : Int32} {v1 : Int32} {v2 : Int32} {v3 : Int32} (hd : decode (m_c M) pc = .ok (.invokevirtual 575, 3)) (ho : m_o M = 12) : WP (d + 1) M pc L (.int v3 :: .int v2 :: .int v1 :: .int v0 :: .ref p :: S) h Q = ((a_t h p).1 = 12 ∧ (S.map Value.category).sum ≤ 8 ∧ Cal d mX12_seems [.ref p, .int v0, .int v1, .int v2, .int v3] h (Kn (d + 1) M (pc + 3) L S Q)) := by
  rw [w_cv (as := [.int v0, .int v1, .int v2, .int v3]) (S := S) hd (by rw [ho]; exact lk_12_575) rfl rfl]
  simp [am_ag, Value.category, l_X12_seems, o_X12_seems]
set_option maxRecDepth 20000 in
theorem lk_13_118 : am_mT.lookup (13, 118) = some (mX12_haste, 0) := rfl
theorem c_13_118 {p : Nat} {v0 : Int32} {v1 : Int32} {v2 : Int32} (hd : decode (m_c M) pc = .ok (.invokevirtual 118, 3)) (ho : m_o M = 13) : WP (d + 1) M pc L (.int v2 :: .int v1 :: .int v0 :: .ref p :: S) h Q = ((a_t h p).1 = 12 ∧ (S.map Value.category).sum ≤ 8 ∧ Cal d mX12_haste [.ref p, .int v0, .int v1, .int v2] h (Kn (d + 1) M (pc + 3) L S Q)) := by
  rw [w_cv (as := [.int v0, .int v1, .int v2]) (S := S) hd (by rw [ho]; exact lk_13_118) rfl rfl]
  simp [am_ag, Value.category, l_X12_haste, o_X12_haste]
set_option maxRecDepth 20000 in
theorem lk_12_579 : am_mT.lookup (12, 579) = some (mX12_turnAt, 0) := rfl
theorem c_12_579 {p : Nat} {v0 : Int32} {v1 : Int32} (hd : decode (m_c M) pc = .ok (.invokevirtual 579, 3)) (ho : m_o M = 12) : WP (d + 1) M pc L (.int v1 :: .int v0 :: .ref p :: S) h Q = ((a_t h p).1 = 12 ∧ (S.map Value.category).sum ≤ 8 ∧ Cal d mX12_turnAt [.ref p, .int v0, .int v1] h (Kn (d + 1) M (pc + 3) L S Q)) := by
  rw [w_cv (as := [.int v0, .int v1]) (S := S) hd (by rw [ho]; exact lk_12_579) rfl rfl]
  simp [am_ag, Value.category, l_X12_turnAt, o_X12_turnAt]
set_option maxRecDepth 20000 in
theorem lk_13_122 : am_mT.lookup (13, 122) = some (mX12_rules, 0) := rfl
theorem c_13_122 {p : Nat} {v0 : Int32} {v1 : Int32} {v2 : Int32} (hd : decode (m_c M) pc = .ok (.invokevirtual 122, 3)) (ho : m_o M = 13) : WP (d + 1) M pc L (.int v2 :: .int v1 :: .int v0 :: .ref p :: S) h Q = ((a_t h p).1 = 12 ∧ (S.map Value.category).sum ≤ 8 ∧ Cal d mX12_rules [.ref p, .int v0, .int v1, .int v2] h (Kn (d + 1) M (pc + 3) L S Q)) := by
  rw [w_cv (as := [.int v0, .int v1, .int v2]) (S := S) hd (by rw [ho]; exact lk_13_122) rfl rfl]
  simp [am_ag, Value.category, l_X12_rules, o_X12_rules]
set_option maxRecDepth 20000 in
theorem lk_12_582 : am_mT.lookup (12, 582) = some (mX12_laysRule, 0) := rfl
theorem c_12_582 {p : Nat} {v0 : Int32} {v1 : Int32} (hd : decode (m_c M) pc = .ok (.invokevirtual 582, 3)) (ho : m_o M = 12) : WP (d + 1) M pc L (.int v1 :: .int v0 :: .ref p :: S) h Q = ((a_t h p).1 = 12 ∧ (S.map Value.category).sum ≤ 8 ∧ Cal d mX12_laysRule [.ref p, .int v0, .int v1] h (Kn (d + 1) M (pc + 3) L S Q)) := by
  rw [w_cv (as := [.int v0, .int v1]) (S := S) hd (by rw [ho]; exact lk_12_582) rfl rfl]
  simp [am_ag, Value.category, l_X12_laysRule, o_X12_laysRule]
set_option maxRecDepth 20000 in
theorem lk_13_126 : am_mT.lookup (13, 126) = some (mX12_bestRule, 0) := rfl
theorem c_13_126 {p : Nat} {v0 : Int32} (hd : decode (m_c M) pc = .ok (.invokevirtual 126, 3)) (ho : m_o M = 13) : WP (d + 1) M pc L (.int v0 :: .ref p :: S) h Q = ((a_t h p).1 = 12 ∧ (S.map Value.category).sum ≤ 8 ∧ Cal d mX12_bestRule [.ref p, .int v0] h (Kn (d + 1) M (pc + 3) L S Q)) := by
  rw [w_cv (as := [.int v0]) (S := S) hd (by rw [ho]; exact lk_13_126) rfl rfl]
  simp [am_ag, Value.category, l_X12_bestRule, o_X12_bestRule]
set_option maxRecDepth 20000 in
theorem lk_13_130 : am_mT.lookup (13, 130) = some (mX12_price, 0) := rfl
theorem c_13_130 {p : Nat} {v0 : Int32} {v1 : Int32} {v2 : Int32} (hd : decode (m_c M) pc = .ok (.invokevirtual 130, 3)) (ho : m_o M = 13) : WP (d + 1) M pc L (.int v2 :: .int v1 :: .int v0 :: .ref p :: S) h Q = ((a_t h p).1 = 12 ∧ (S.map Value.category).sum ≤ 8 ∧ Cal d mX12_price [.ref p, .int v0, .int v1, .int v2] h (Kn (d + 1) M (pc + 3) L S Q)) := by
  rw [w_cv (as := [.int v0, .int v1, .int v2]) (S := S) hd (by rw [ho]; exact lk_13_130) rfl rfl]
  simp [am_ag, Value.category, l_X12_price, o_X12_price]
set_option maxRecDepth 20000 in
theorem lk_13_134 : am_mT.lookup (13, 134) = some (mX12_pence, 0) := rfl
theorem c_13_134 {p : Nat} {v0 : Int32} (hd : decode (m_c M) pc = .ok (.invokevirtual 134, 3)) (ho : m_o M = 13) : WP (d + 1) M pc L (.int v0 :: .ref p :: S) h Q = ((a_t h p).1 = 12 ∧ (S.map Value.category).sum ≤ 8 ∧ Cal d mX12_pence [.ref p, .int v0] h (Kn (d + 1) M (pc + 3) L S Q)) := by
  rw [w_cv (as := [.int v0]) (S := S) hd (by rw [ho]; exact lk_13_134) rfl rfl]
  simp [am_ag, Value.category, l_X12_pence, o_X12_pence]
set_option maxRecDepth 20000 in
theorem lk_12_585 : am_mT.lookup (12, 585) = some (mX12_penceOf, 0) := rfl
theorem c_12_585 {p : Nat} {v0 : Int32} (hd : decode (m_c M) pc = .ok (.invokevirtual 585, 3)) (ho : m_o M = 12) : WP (d + 1) M pc L (.int v0 :: .ref p :: S) h Q = ((a_t h p).1 = 12 ∧ (S.map Value.category).sum ≤ 8 ∧ Cal d mX12_penceOf [.ref p, .int v0] h (Kn (d + 1) M (pc + 3) L S Q)) := by
  rw [w_cv (as := [.int v0]) (S := S) hd (by rw [ho]; exact lk_12_585) rfl rfl]
  simp [am_ag, Value.category, l_X12_penceOf, o_X12_penceOf]
set_option maxRecDepth 20000 in
theorem lk_13_138 : am_mT.lookup (13, 138) = some (mX12_forPence, 0) := rfl
theorem c_13_138 {p : Nat} {v0 : Int32} {v1 : Int32} (hd : decode (m_c M) pc = .ok (.invokevirtual 138, 3)) (ho : m_o M = 13) : WP (d + 1) M pc L (.int v1 :: .int v0 :: .ref p :: S) h Q = ((a_t h p).1 = 12 ∧ (S.map Value.category).sum ≤ 8 ∧ Cal d mX12_forPence [.ref p, .int v0, .int v1] h (Kn (d + 1) M (pc + 3) L S Q)) := by
  rw [w_cv (as := [.int v0, .int v1]) (S := S) hd (by rw [ho]; exact lk_13_138) rfl rfl]
  simp [am_ag, Value.category, l_X12_forPence, o_X12_forPence]
set_option maxRecDepth 20000 in
theorem lk_13_143 : am_mT.lookup (13, 143) = some (mX12_comes, 0) := rfl
theorem c_13_143 {p : Nat} {v0 : Int32} {v1 : Int32} {v2 : Int32} {v3 : Int32} {v4 : Int32} {v5 : Int32} (hd : decode (m_c M) pc = .ok (.invokevirtual 143, 3)) (ho : m_o M = 13) : WP (d + 1) M pc L (.int v5 :: .int v4 :: .int v3 :: .int v2 :: .int v1 :: .int v0 :: .ref p :: S) h Q = ((a_t h p).1 = 12 ∧ (S.map Value.category).sum ≤ 8 ∧ Cal d mX12_comes [.ref p, .int v0, .int v1, .int v2, .int v3, .int v4, .int v5] h (Kn (d + 1) M (pc + 3) L S Q)) := by
  rw [w_cv (as := [.int v0, .int v1, .int v2, .int v3, .int v4, .int v5]) (S := S) hd (by rw [ho]; exact lk_13_143) rfl rfl]
  simp [am_ag, Value.category, l_X12_comes, o_X12_comes]
set_option maxRecDepth 20000 in
theorem lk_12_595 : am_mT.lookup (12, 595) = some (mX12_isLine, 1) := rfl
theorem c_12_595 {v0 : Int32} {v1 : Int32} (hd : decode (m_c M) pc = .ok (.invokestatic 595, 3)) (ho : m_o M = 12) : WP (d + 1) M pc L (.int v1 :: .int v0 :: S) h Q = ((S.map Value.category).sum ≤ 8 ∧ Cal d mX12_isLine [.int v0, .int v1] h (Kn (d + 1) M (pc + 3) L S Q)) := by
  rw [w_cs (as := [.int v0, .int v1]) (S := S) hd (by rw [ho]; exact lk_12_595) (by decide) rfl]
  simp [am_ag, Value.category, l_X12_isLine, o_X12_isLine]
set_option maxRecDepth 20000 in
theorem lk_12_598 : am_mT.lookup (12, 598) = some (mX12_comesOf, 0) := rfl
theorem c_12_598 {p : Nat} {v0 : Int32} {v1 : Int32} {v2 : Int32} {v3 : Int32} {v4 : Int32} {v5 : Int32} (hd : decode (m_c M) pc = .ok (.invokevirtual 598, 3)) (ho : m_o M = 12) : WP (d + 1) M pc L (.int v5 :: .int v4 :: .int v3 :: .int v2 :: .int v1 :: .int v0 :: .ref p :: S) h Q = ((a_t h p).1 = 12 ∧ (S.map Value.category).sum ≤ 8 ∧ Cal d mX12_comesOf [.ref p, .int v0, .int v1, .int v2, .int v3, .int v4, .int v5] h (Kn (d + 1) M (pc + 3) L S Q)) := by
  rw [w_cv (as := [.int v0, .int v1, .int v2, .int v3, .int v4, .int v5]) (S := S) hd (by rw [ho]; exact lk_12_598) rfl rfl]
  simp [am_ag, Value.category, l_X12_comesOf, o_X12_comesOf]
set_option maxRecDepth 20000 in
theorem lk_12_588 : am_mT.lookup (12, 588) = some (mX12_laysFresh, 0) := rfl
theorem c_12_588 {p : Nat} {v0 : Int32} {v1 : Int32} {v2 : Int32} {v3 : Int32} {v4 : Int32} {v5 : Int32} (hd : decode (m_c M) pc = .ok (.invokevirtual 588, 3)) (ho : m_o M = 12) : WP (d + 1) M pc L (.int v5 :: .int v4 :: .int v3 :: .int v2 :: .int v1 :: .int v0 :: .ref p :: S) h Q = ((a_t h p).1 = 12 ∧ (S.map Value.category).sum ≤ 8 ∧ Cal d mX12_laysFresh [.ref p, .int v0, .int v1, .int v2, .int v3, .int v4, .int v5] h (Kn (d + 1) M (pc + 3) L S Q)) := by
  rw [w_cv (as := [.int v0, .int v1, .int v2, .int v3, .int v4, .int v5]) (S := S) hd (by rw [ho]; exact lk_12_588) rfl rfl]
  simp [am_ag, Value.category, l_X12_laysFresh, o_X12_laysFresh]
set_option maxRecDepth 20000 in
theorem lk_12_592 : am_mT.lookup (12, 592) = some (mX12_cameThrough, 0) := rfl
theorem c_12_592 {p : Nat} {v0 : Int32} (hd : decode (m_c M) pc = .ok (.invokevirtual 592, 3)) (ho : m_o M = 12) : WP (d + 1) M pc L (.int v0 :: .ref p :: S) h Q = ((a_t h p).1 = 12 ∧ (S.map Value.category).sum ≤ 8 ∧ Cal d mX12_cameThrough [.ref p, .int v0] h (Kn (d + 1) M (pc + 3) L S Q)) := by
  rw [w_cv (as := [.int v0]) (S := S) hd (by rw [ho]; exact lk_12_592) rfl rfl]
  simp [am_ag, Value.category, l_X12_cameThrough, o_X12_cameThrough]
set_option maxRecDepth 20000 in
theorem lk_13_147 : am_mT.lookup (13, 147) = some (mX12_apart, 0) := rfl
theorem c_13_147 {p : Nat} {v0 : Int32} {v1 : Int32} {v2 : Int32} {v3 : Int32} {v4 : Int32} (hd : decode (m_c M) pc = .ok (.invokevirtual 147, 3)) (ho : m_o M = 13) : WP (d + 1) M pc L (.int v4 :: .int v3 :: .int v2 :: .int v1 :: .int v0 :: .ref p :: S) h Q = ((a_t h p).1 = 12 ∧ (S.map Value.category).sum ≤ 8 ∧ Cal d mX12_apart [.ref p, .int v0, .int v1, .int v2, .int v3, .int v4] h (Kn (d + 1) M (pc + 3) L S Q)) := by
  rw [w_cv (as := [.int v0, .int v1, .int v2, .int v3, .int v4]) (S := S) hd (by rw [ho]; exact lk_13_147) rfl rfl]
  simp [am_ag, Value.category, l_X12_apart, o_X12_apart]
set_option maxRecDepth 20000 in
theorem lk_13_152 : am_mT.lookup (13, 152) = some (mX12_drawn, 0) := rfl
theorem c_13_152 {p : Nat} {v0 : Int32} {v1 : Int32} {v2 : Int32} {v3 : Int32} {v4 : Int32} (hd : decode (m_c M) pc = .ok (.invokevirtual 152, 3)) (ho : m_o M = 13) : WP (d + 1) M pc L (.int v4 :: .int v3 :: .int v2 :: .int v1 :: .int v0 :: .ref p :: S) h Q = ((a_t h p).1 = 12 ∧ (S.map Value.category).sum ≤ 8 ∧ Cal d mX12_drawn [.ref p, .int v0, .int v1, .int v2, .int v3, .int v4] h (Kn (d + 1) M (pc + 3) L S Q)) := by
  rw [w_cv (as := [.int v0, .int v1, .int v2, .int v3, .int v4]) (S := S) hd (by rw [ho]; exact lk_13_152) rfl rfl]
  simp [am_ag, Value.category, l_X12_drawn, o_X12_drawn]
set_option maxRecDepth 20000 in
theorem lk_12_602 : am_mT.lookup (12, 602) = some (mX12_comeApart, 1) := rfl
theorem c_12_602 {v0 : Int32} {v1 : Int32} {v2 : Int32} {v3 : Int32} (hd : decode (m_c M) pc = .ok (.invokestatic 602, 3)) (ho : m_o M = 12) : WP (d + 1) M pc L (.int v3 :: .int v2 :: .int v1 :: .int v0 :: S) h Q = ((S.map Value.category).sum ≤ 8 ∧ Cal d mX12_comeApart [.int v0, .int v1, .int v2, .int v3] h (Kn (d + 1) M (pc + 3) L S Q)) := by
  rw [w_cs (as := [.int v0, .int v1, .int v2, .int v3]) (S := S) hd (by rw [ho]; exact lk_12_602) (by decide) rfl]
  simp [am_ag, Value.category, l_X12_comeApart, o_X12_comeApart]
set_option maxRecDepth 20000 in
theorem lk_13_156 : am_mT.lookup (13, 156) = some (mX12_wide, 0) := rfl
theorem c_13_156 {p : Nat} {v0 : Int32} {v1 : Int32} (hd : decode (m_c M) pc = .ok (.invokevirtual 156, 3)) (ho : m_o M = 13) : WP (d + 1) M pc L (.int v1 :: .int v0 :: .ref p :: S) h Q = ((a_t h p).1 = 12 ∧ (S.map Value.category).sum ≤ 8 ∧ Cal d mX12_wide [.ref p, .int v0, .int v1] h (Kn (d + 1) M (pc + 3) L S Q)) := by
  rw [w_cv (as := [.int v0, .int v1]) (S := S) hd (by rw [ho]; exact lk_13_156) rfl rfl]
  simp [am_ag, Value.category, l_X12_wide, o_X12_wide]
set_option maxRecDepth 20000 in
theorem lk_13_160 : am_mT.lookup (13, 160) = some (mX12_worth, 0) := rfl
theorem c_13_160 {p : Nat} {v0 : Int32} {v1 : Int32} {v2 : Int32} {v3 : Int32} {v4 : Int32} (hd : decode (m_c M) pc = .ok (.invokevirtual 160, 3)) (ho : m_o M = 13) : WP (d + 1) M pc L (.int v4 :: .int v3 :: .int v2 :: .int v1 :: .int v0 :: .ref p :: S) h Q = ((a_t h p).1 = 12 ∧ (S.map Value.category).sum ≤ 8 ∧ Cal d mX12_worth [.ref p, .int v0, .int v1, .int v2, .int v3, .int v4] h (Kn (d + 1) M (pc + 3) L S Q)) := by
  rw [w_cv (as := [.int v0, .int v1, .int v2, .int v3, .int v4]) (S := S) hd (by rw [ho]; exact lk_13_160) rfl rfl]
  simp [am_ag, Value.category, l_X12_worth, o_X12_worth]
set_option maxRecDepth 20000 in
theorem lk_13_164 : am_mT.lookup (13, 164) = some (mX12_agree, 0) := rfl
theorem c_13_164 {p : Nat} {v0 : Int32} {v1 : Int32} {v2 : Int32} (hd : decode (m_c M) pc = .ok (.invokevirtual 164, 3)) (ho : m_o M = 13) : WP (d + 1) M pc L (.int v2 :: .int v1 :: .int v0 :: .ref p :: S) h Q = ((a_t h p).1 = 12 ∧ (S.map Value.category).sum ≤ 8 ∧ Cal d mX12_agree [.ref p, .int v0, .int v1, .int v2] h (Kn (d + 1) M (pc + 3) L S Q)) := by
  rw [w_cv (as := [.int v0, .int v1, .int v2]) (S := S) hd (by rw [ho]; exact lk_13_164) rfl rfl]
  simp [am_ag, Value.category, l_X12_agree, o_X12_agree]
set_option maxRecDepth 20000 in
theorem lk_13_168 : am_mT.lookup (13, 168) = some (mX12_least, 0) := rfl
theorem c_13_168 {p : Nat} {v0 : Int32} (hd : decode (m_c M) pc = .ok (.invokevirtual 168, 3)) (ho : m_o M = 13) : WP (d + 1) M pc L (.int v0 :: .ref p :: S) h Q = ((a_t h p).1 = 12 ∧ (S.map Value.category).sum ≤ 8 ∧ Cal d mX12_least [.ref p, .int v0] h (Kn (d + 1) M (pc + 3) L S Q)) := by
  rw [w_cv (as := [.int v0]) (S := S) hd (by rw [ho]; exact lk_13_168) rfl rfl]
  simp [am_ag, Value.category, l_X12_least, o_X12_least]
set_option maxRecDepth 20000 in
theorem lk_13_172 : am_mT.lookup (13, 172) = some (mX12_heard, 0) := rfl
theorem c_13_172 {p : Nat} {v0 : Int32} {v1 : Int32} {v2 : Int32} {v3 : Int32} (hd : decode (m_c M) pc = .ok (.invokevirtual 172, 3)) (ho : m_o M = 13) : WP (d + 1) M pc L (.int v3 :: .int v2 :: .int v1 :: .int v0 :: .ref p :: S) h Q = ((a_t h p).1 = 12 ∧ (S.map Value.category).sum ≤ 8 ∧ Cal d mX12_heard [.ref p, .int v0, .int v1, .int v2, .int v3] h (Kn (d + 1) M (pc + 3) L S Q)) := by
  rw [w_cv (as := [.int v0, .int v1, .int v2, .int v3]) (S := S) hd (by rw [ho]; exact lk_13_172) rfl rfl]
  simp [am_ag, Value.category, l_X12_heard, o_X12_heard]
set_option maxRecDepth 20000 in
theorem lk_13_177 : am_mT.lookup (13, 177) = some (mX12_span, 0) := rfl
theorem c_13_177 {p : Nat} {v0 : Int32} (hd : decode (m_c M) pc = .ok (.invokevirtual 177, 3)) (ho : m_o M = 13) : WP (d + 1) M pc L (.int v0 :: .ref p :: S) h Q = ((a_t h p).1 = 12 ∧ (S.map Value.category).sum ≤ 8 ∧ Cal d mX12_span [.ref p, .int v0] h (Kn (d + 1) M (pc + 3) L S Q)) := by
  rw [w_cv (as := [.int v0]) (S := S) hd (by rw [ho]; exact lk_13_177) rfl rfl]
  simp [am_ag, Value.category, l_X12_span, o_X12_span]
set_option maxRecDepth 20000 in
theorem lk_13_181 : am_mT.lookup (13, 181) = some (mX12_way, 0) := rfl
theorem c_13_181 {p : Nat} {v0 : Int32} {v1 : Int32} {v2 : Int32} (hd : decode (m_c M) pc = .ok (.invokevirtual 181, 3)) (ho : m_o M = 13) : WP (d + 1) M pc L (.int v2 :: .int v1 :: .int v0 :: .ref p :: S) h Q = ((a_t h p).1 = 12 ∧ (S.map Value.category).sum ≤ 8 ∧ Cal d mX12_way [.ref p, .int v0, .int v1, .int v2] h (Kn (d + 1) M (pc + 3) L S Q)) := by
  rw [w_cv (as := [.int v0, .int v1, .int v2]) (S := S) hd (by rw [ho]; exact lk_13_181) rfl rfl]
  simp [am_ag, Value.category, l_X12_way, o_X12_way]
set_option maxRecDepth 20000 in
theorem lk_13_185 : am_mT.lookup (13, 185) = some (mX12_refused, 0) := rfl
theorem c_13_185 {p : Nat} {v0 : Int32} (hd : decode (m_c M) pc = .ok (.invokevirtual 185, 3)) (ho : m_o M = 13) : WP (d + 1) M pc L (.int v0 :: .ref p :: S) h Q = ((a_t h p).1 = 12 ∧ (S.map Value.category).sum ≤ 8 ∧ Cal d mX12_refused [.ref p, .int v0] h (Kn (d + 1) M (pc + 3) L S Q)) := by
  rw [w_cv (as := [.int v0]) (S := S) hd (by rw [ho]; exact lk_13_185) rfl rfl]
  simp [am_ag, Value.category, l_X12_refused, o_X12_refused]
set_option maxRecDepth 20000 in
theorem lk_13_189 : am_mT.lookup (13, 189) = some (mX12_image, 0) := rfl
theorem c_13_189 {p : Nat} (hd : decode (m_c M) pc = .ok (.invokevirtual 189, 3)) (ho : m_o M = 13) : WP (d + 1) M pc L (.ref p :: S) h Q = ((a_t h p).1 = 12 ∧ (S.map Value.category).sum ≤ 8 ∧ Cal d mX12_image [.ref p] h (Kn (d + 1) M (pc + 3) L S Q)) := by
  rw [w_cv (as := []) (S := S) hd (by rw [ho]; exact lk_13_189) rfl rfl]
  simp [am_ag, Value.category, l_X12_image, o_X12_image]
set_option maxRecDepth 20000 in
theorem lk_13_193 : am_mT.lookup (13, 193) = some (mX12_back, 0) := rfl
theorem c_13_193 {p : Nat} (hd : decode (m_c M) pc = .ok (.invokevirtual 193, 3)) (ho : m_o M = 13) : WP (d + 1) M pc L (.ref p :: S) h Q = ((a_t h p).1 = 12 ∧ (S.map Value.category).sum ≤ 8 ∧ Cal d mX12_back [.ref p] h (Kn (d + 1) M (pc + 3) L S Q)) := by
  rw [w_cv (as := []) (S := S) hd (by rw [ho]; exact lk_13_193) rfl rfl]
  simp [am_ag, Value.category, l_X12_back, o_X12_back]
set_option maxRecDepth 20000 in
theorem lk_13_197 : am_mT.lookup (13, 197) = some (mX12_about, 0) := rfl
theorem c_13_197 {p : Nat} {v0 : Int32} (hd : decode (m_c M) pc = .ok (.invokevirtual 197, 3)) (ho : m_o M = 13) : WP (d + 1) M pc L (.int v0 :: .ref p :: S) h Q = ((a_t h p).1 = 12 ∧ (S.map Value.category).sum ≤ 8 ∧ Cal d mX12_about [.ref p, .int v0] h (Kn (d + 1) M (pc + 3) L S Q)) := by
  rw [w_cv (as := [.int v0]) (S := S) hd (by rw [ho]; exact lk_13_197) rfl rfl]
  simp [am_ag, Value.category, l_X12_about, o_X12_about]
end LNK
