set_option maxRecDepth 20000 in
theorem fkf_8_9 : fk 8 9 = some (8, 9, 8, 0, 1, 0, 130) := rfl
set_option maxRecDepth 20000 in
theorem fkf_8_15 : fk 8 15 = some (8, 15, 8, 1, 0, 0, 131) := rfl
set_option maxRecDepth 20000 in
theorem fkf_10_111 : fk 10 111 = some (10, 111, 8, 1, 0, 1, 132) := rfl
set_option maxRecDepth 20000 in
theorem fkf_8_19 : fk 8 19 = some (8, 19, 8, 2, 0, 0, 133) := rfl
set_option maxRecDepth 20000 in
theorem fkf_8_22 : fk 8 22 = some (8, 22, 8, 3, 0, 0, 134) := rfl
set_option maxRecDepth 20000 in
theorem fkf_8_25 : fk 8 25 = some (8, 25, 8, 4, 0, 0, 135) := rfl
set_option maxRecDepth 20000 in
theorem fkf_8_28 : fk 8 28 = some (8, 28, 8, 5, 0, 0, 136) := rfl
set_option maxRecDepth 20000 in
theorem fkf_10_128 : fk 10 128 = some (10, 128, 8, 5, 0, 1, 137) := rfl
set_option maxRecDepth 20000 in
theorem fkf_8_31 : fk 8 31 = some (8, 31, 8, 6, 0, 0, 138) := rfl
set_option maxRecDepth 20000 in
theorem fkf_10_182 : fk 10 182 = some (10, 182, 8, 6, 0, 1, 139) := rfl
set_option maxRecDepth 20000 in
theorem fkf_9_9 : fk 9 9 = some (9, 9, 9, 0, 1, 0, 162) := rfl
set_option maxRecDepth 20000 in
theorem fkf_10_220 : fk 10 220 = some (10, 220, 9, 0, 1, 1, 163) := rfl
set_option maxRecDepth 20000 in
theorem fkf_2_78 : fk 2 78 = some (2, 78, 9, 0, 1, 1, 164) := rfl
set_option maxRecDepth 20000 in
theorem fkf_9_15 : fk 9 15 = some (9, 15, 9, 1, 1, 0, 165) := rfl
set_option maxRecDepth 20000 in
theorem fkf_10_223 : fk 10 223 = some (10, 223, 9, 1, 1, 1, 166) := rfl
set_option maxRecDepth 20000 in
theorem fkf_2_75 : fk 2 75 = some (2, 75, 9, 1, 1, 1, 167) := rfl
set_option maxRecDepth 20000 in
theorem fkf_9_18 : fk 9 18 = some (9, 18, 9, 2, 1, 0, 168) := rfl
set_option maxRecDepth 20000 in
theorem fkf_2_43 : fk 2 43 = some (2, 43, 9, 2, 1, 1, 169) := rfl
set_option maxRecDepth 20000 in
theorem fkf_9_21 : fk 9 21 = some (9, 21, 9, 3, 1, 0, 170) := rfl
set_option maxRecDepth 20000 in
theorem fkf_10_248 : fk 10 248 = some (10, 248, 9, 3, 1, 1, 171) := rfl
set_option maxRecDepth 20000 in
theorem fkf_2_69 : fk 2 69 = some (2, 69, 9, 3, 1, 1, 172) := rfl
set_option maxRecDepth 20000 in
theorem fkf_9_24 : fk 9 24 = some (9, 24, 9, 4, 1, 0, 173) := rfl
set_option maxRecDepth 20000 in
theorem fkf_10_251 : fk 10 251 = some (10, 251, 9, 4, 1, 1, 174) := rfl
set_option maxRecDepth 20000 in
theorem fkf_2_81 : fk 2 81 = some (2, 81, 9, 4, 1, 1, 175) := rfl
set_option maxRecDepth 20000 in
theorem fkf_9_27 : fk 9 27 = some (9, 27, 9, 5, 1, 0, 176) := rfl
set_option maxRecDepth 20000 in
theorem fkf_10_254 : fk 10 254 = some (10, 254, 9, 5, 1, 1, 177) := rfl
set_option maxRecDepth 20000 in
theorem fkf_2_72 : fk 2 72 = some (2, 72, 9, 5, 1, 1, 178) := rfl
set_option maxRecDepth 20000 in
theorem fkf_9_30 : fk 9 30 = some (9, 30, 9, 6, 1, 0, 179) := rfl
set_option maxRecDepth 20000 in
theorem fkf_2_55 : fk 2 55 = some (2, 55, 9, 6, 1, 1, 180) := rfl
set_option maxRecDepth 20000 in
theorem fkf_9_33 : fk 9 33 = some (9, 33, 9, 7, 0, 0, 181) := rfl
set_option maxRecDepth 20000 in
theorem fkf_2_46 : fk 2 46 = some (2, 46, 9, 7, 0, 1, 182) := rfl
set_option maxRecDepth 20000 in
theorem fkf_6_76 : fk 6 76 = some (6, 76, 9, 7, 0, 1, 183) := rfl
set_option maxRecDepth 20000 in
theorem fkf_10_170 : fk 10 170 = some (10, 170, 9, 7, 0, 1, 184) := rfl
set_option maxRecDepth 20000 in
theorem fkf_5_106 : fk 5 106 = some (5, 106, 9, 7, 0, 1, 185) := rfl
set_option maxRecDepth 20000 in
theorem fkf_9_37 : fk 9 37 = some (9, 37, 9, 8, 0, 0, 186) := rfl
set_option maxRecDepth 20000 in
theorem fkf_2_40 : fk 2 40 = some (2, 40, 9, 8, 0, 1, 187) := rfl
set_option maxRecDepth 20000 in
theorem fkf_4_30 : fk 4 30 = some (4, 30, 9, 8, 0, 1, 188) := rfl
set_option maxRecDepth 20000 in
theorem fkf_10_144 : fk 10 144 = some (10, 144, 9, 8, 0, 1, 189) := rfl
set_option maxRecDepth 20000 in
theorem fkf_6_67 : fk 6 67 = some (6, 67, 9, 8, 0, 1, 190) := rfl
set_option maxRecDepth 20000 in
theorem fkf_9_40 : fk 9 40 = some (9, 40, 9, 9, 0, 0, 191) := rfl
set_option maxRecDepth 20000 in
theorem fkf_2_36 : fk 2 36 = some (2, 36, 9, 9, 0, 1, 192) := rfl
set_option maxRecDepth 20000 in
theorem fkf_1_9 : fk 1 9 = some (1, 9, 1, 0, 1, 0, 226) := rfl
set_option maxRecDepth 20000 in
theorem fkf_1_15 : fk 1 15 = some (1, 15, 1, 1, 1, 0, 227) := rfl
set_option maxRecDepth 20000 in
theorem fkf_1_18 : fk 1 18 = some (1, 18, 1, 2, 0, 0, 228) := rfl
set_option maxRecDepth 20000 in
theorem fkf_0_9 : fk 0 9 = some (0, 9, 0, 0, 1, 0, 242) := rfl
set_option maxRecDepth 20000 in
theorem fkf_5_117 : fk 5 117 = some (5, 117, 0, 0, 1, 1, 243) := rfl
set_option maxRecDepth 20000 in
theorem fkf_0_15 : fk 0 15 = some (0, 15, 0, 1, 0, 0, 244) := rfl
set_option maxRecDepth 20000 in
theorem fkf_0_19 : fk 0 19 = some (0, 19, 0, 2, 0, 0, 245) := rfl
set_option maxRecDepth 20000 in
theorem fkf_10_179 : fk 10 179 = some (10, 179, 0, 2, 0, 1, 246) := rfl
set_option maxRecDepth 20000 in
theorem fkf_6_11 : fk 6 11 = some (6, 11, 6, 0, 1, 0, 260) := rfl
set_option maxRecDepth 20000 in
theorem fkf_6_15 : fk 6 15 = some (6, 15, 6, 1, 1, 0, 261) := rfl
set_option maxRecDepth 20000 in
theorem fkf_6_18 : fk 6 18 = some (6, 18, 6, 2, 1, 0, 262) := rfl
set_option maxRecDepth 20000 in
theorem fkf_6_21 : fk 6 21 = some (6, 21, 6, 3, 1, 0, 263) := rfl
set_option maxRecDepth 20000 in
theorem fkf_6_24 : fk 6 24 = some (6, 24, 6, 4, 0, 0, 264) := rfl
set_option maxRecDepth 20000 in
theorem fkf_6_28 : fk 6 28 = some (6, 28, 6, 5, 0, 0, 265) := rfl
set_option maxRecDepth 20000 in
theorem fkf_6_31 : fk 6 31 = some (6, 31, 6, 6, 0, 0, 266) := rfl
set_option maxRecDepth 20000 in
theorem fkf_10_167 : fk 10 167 = some (10, 167, 6, 6, 0, 1, 267) := rfl
set_option maxRecDepth 20000 in
theorem fkf_6_34 : fk 6 34 = some (6, 34, 6, 7, 0, 0, 268) := rfl
set_option maxRecDepth 20000 in
theorem fkf_10_163 : fk 10 163 = some (10, 163, 6, 7, 0, 1, 269) := rfl
set_option maxRecDepth 20000 in
theorem fkf_2_20 : fk 2 20 = some (2, 20, 2, 0, 1, 0, 293) := rfl
set_option maxRecDepth 20000 in
theorem fkf_2_24 : fk 2 24 = some (2, 24, 2, 1, 1, 0, 294) := rfl
set_option maxRecDepth 20000 in
theorem fkf_2_11 : fk 2 11 = some (2, 11, 2, 2, 1, 0, 295) := rfl
set_option maxRecDepth 20000 in
theorem fkf_3_44 : fk 3 44 = some (3, 44, 2, 2, 1, 1, 296) := rfl
set_option maxRecDepth 20000 in
theorem fkf_2_17 : fk 2 17 = some (2, 17, 2, 3, 1, 0, 297) := rfl
set_option maxRecDepth 20000 in
theorem fkf_3_33 : fk 3 33 = some (3, 33, 3, 0, 1, 0, 313) := rfl
set_option maxRecDepth 20000 in
theorem fkf_3_11 : fk 3 11 = some (3, 11, 3, 1, 1, 0, 314) := rfl
set_option maxRecDepth 20000 in
theorem fkf_3_17 : fk 3 17 = some (3, 17, 3, 2, 1, 0, 315) := rfl
set_option maxRecDepth 20000 in
theorem fkf_3_20 : fk 3 20 = some (3, 20, 3, 3, 1, 0, 316) := rfl
set_option maxRecDepth 20000 in
theorem fkf_3_23 : fk 3 23 = some (3, 23, 3, 4, 0, 0, 317) := rfl
set_option maxRecDepth 20000 in
theorem fkf_10_377 : fk 10 377 = some (10, 377, 3, 4, 0, 1, 318) := rfl
set_option maxRecDepth 20000 in
theorem fkf_3_27 : fk 3 27 = some (3, 27, 3, 5, 0, 0, 319) := rfl
set_option maxRecDepth 20000 in
theorem fkf_10_374 : fk 10 374 = some (10, 374, 3, 5, 0, 1, 320) := rfl
set_option maxRecDepth 20000 in
theorem fkf_3_30 : fk 3 30 = some (3, 30, 3, 6, 0, 0, 321) := rfl
set_option maxRecDepth 20000 in
theorem fkf_10_166 : fk 10 166 = some (10, 166, 3, 6, 0, 1, 322) := rfl
set_option maxRecDepth 20000 in
theorem fkf_7_11 : fk 7 11 = some (7, 11, 7, 0, 1, 0, 350) := rfl
set_option maxRecDepth 20000 in
theorem fkf_7_15 : fk 7 15 = some (7, 15, 7, 1, 1, 0, 351) := rfl
set_option maxRecDepth 20000 in
theorem fkf_5_44 : fk 5 44 = some (5, 44, 5, 0, 1, 0, 357) := rfl
set_option maxRecDepth 20000 in
theorem fkf_5_48 : fk 5 48 = some (5, 48, 5, 1, 1, 0, 358) := rfl
set_option maxRecDepth 20000 in
theorem fkf_5_52 : fk 5 52 = some (5, 52, 5, 2, 1, 0, 359) := rfl
set_option maxRecDepth 20000 in
theorem fkf_5_9 : fk 5 9 = some (5, 9, 5, 3, 1, 0, 360) := rfl
set_option maxRecDepth 20000 in
theorem fkf_5_18 : fk 5 18 = some (5, 18, 5, 4, 1, 0, 361) := rfl
set_option maxRecDepth 20000 in
theorem fkf_5_22 : fk 5 22 = some (5, 22, 5, 5, 1, 0, 362) := rfl
set_option maxRecDepth 20000 in
theorem fkf_5_25 : fk 5 25 = some (5, 25, 5, 6, 1, 0, 363) := rfl
set_option maxRecDepth 20000 in
theorem fkf_5_28 : fk 5 28 = some (5, 28, 5, 7, 0, 0, 364) := rfl
set_option maxRecDepth 20000 in
theorem fkf_10_307 : fk 10 307 = some (10, 307, 5, 7, 0, 1, 365) := rfl
set_option maxRecDepth 20000 in
theorem fkf_5_32 : fk 5 32 = some (5, 32, 5, 8, 0, 0, 366) := rfl
set_option maxRecDepth 20000 in
theorem fkf_10_310 : fk 10 310 = some (10, 310, 5, 8, 0, 1, 367) := rfl
set_option maxRecDepth 20000 in
theorem fkf_5_35 : fk 5 35 = some (5, 35, 5, 9, 0, 0, 368) := rfl
set_option maxRecDepth 20000 in
theorem fkf_10_313 : fk 10 313 = some (10, 313, 5, 9, 0, 1, 369) := rfl
set_option maxRecDepth 20000 in
theorem fkf_5_38 : fk 5 38 = some (5, 38, 5, 10, 0, 0, 370) := rfl
set_option maxRecDepth 20000 in
theorem fkf_10_319 : fk 10 319 = some (10, 319, 5, 10, 0, 1, 371) := rfl
set_option maxRecDepth 20000 in
theorem fkf_5_41 : fk 5 41 = some (5, 41, 5, 11, 0, 0, 372) := rfl
set_option maxRecDepth 20000 in
theorem fkf_10_322 : fk 10 322 = some (10, 322, 5, 11, 0, 1, 373) := rfl
set_option maxRecDepth 20000 in
theorem fkf_4_16 : fk 4 16 = some (4, 16, 4, 0, 1, 0, 405) := rfl
set_option maxRecDepth 20000 in
theorem fkf_4_20 : fk 4 20 = some (4, 20, 4, 1, 1, 0, 406) := rfl
set_option maxRecDepth 20000 in
theorem fkf_4_7 : fk 4 7 = some (4, 7, 4, 2, 0, 0, 407) := rfl
set_option maxRecDepth 20000 in
theorem fkf_4_13 : fk 4 13 = some (4, 13, 4, 3, 0, 0, 408) := rfl
set_option maxRecDepth 20000 in
theorem fkf_10_360 : fk 10 360 = some (10, 360, 4, 3, 0, 1, 409) := rfl
set_option maxRecDepth 20000 in
theorem fkf_10_10 : fk 10 10 = some (10, 10, 10, 0, 1, 0, 419) := rfl
set_option maxRecDepth 20000 in
theorem fkf_10_19 : fk 10 19 = some (10, 19, 10, 1, 1, 0, 420) := rfl
set_option maxRecDepth 20000 in
theorem fkf_10_23 : fk 10 23 = some (10, 23, 10, 2, 1, 0, 421) := rfl
set_option maxRecDepth 20000 in
theorem fkf_10_29 : fk 10 29 = some (10, 29, 10, 3, 1, 0, 422) := rfl
set_option maxRecDepth 20000 in
theorem fkf_10_33 : fk 10 33 = some (10, 33, 10, 4, 1, 0, 423) := rfl
set_option maxRecDepth 20000 in
theorem fkf_10_39 : fk 10 39 = some (10, 39, 10, 5, 1, 0, 424) := rfl
set_option maxRecDepth 20000 in
theorem fkf_10_43 : fk 10 43 = some (10, 43, 10, 6, 1, 0, 425) := rfl
set_option maxRecDepth 20000 in
theorem fkf_10_49 : fk 10 49 = some (10, 49, 10, 7, 1, 0, 426) := rfl
set_option maxRecDepth 20000 in
theorem fkf_10_53 : fk 10 53 = some (10, 53, 10, 8, 1, 0, 427) := rfl
set_option maxRecDepth 20000 in
theorem fkf_10_62 : fk 10 62 = some (10, 62, 10, 9, 1, 0, 428) := rfl
set_option maxRecDepth 20000 in
theorem fkf_10_66 : fk 10 66 = some (10, 66, 10, 10, 1, 0, 429) := rfl
set_option maxRecDepth 20000 in
theorem fkf_10_74 : fk 10 74 = some (10, 74, 10, 11, 1, 0, 430) := rfl
set_option maxRecDepth 20000 in
theorem fkf_10_83 : fk 10 83 = some (10, 83, 10, 12, 1, 0, 431) := rfl
set_option maxRecDepth 20000 in
theorem fkf_10_92 : fk 10 92 = some (10, 92, 10, 13, 1, 0, 432) := rfl
set_option maxRecDepth 20000 in
theorem fkf_10_96 : fk 10 96 = some (10, 96, 10, 14, 0, 0, 433) := rfl
set_option maxRecDepth 20000 in
theorem fkf_10_100 : fk 10 100 = some (10, 100, 10, 15, 0, 0, 434) := rfl
set_option maxRecDepth 20000 in
theorem fkf_11_92 : fk 11 92 = some (11, 92, 11, 0, 0, 0, 1405) := rfl
set_option maxRecDepth 20000 in
theorem fkf_11_95 : fk 11 95 = some (11, 95, 11, 1, 0, 0, 1406) := rfl
set_option maxRecDepth 20000 in
theorem fkf_11_98 : fk 11 98 = some (11, 98, 11, 2, 0, 0, 1407) := rfl
set_option maxRecDepth 20000 in
theorem fkf_11_9 : fk 11 9 = some (11, 9, 11, 3, 0, 0, 1408) := rfl
set_option maxRecDepth 20000 in
theorem fkf_11_101 : fk 11 101 = some (11, 101, 11, 4, 0, 0, 1409) := rfl
set_option maxRecDepth 20000 in
theorem fkf_11_108 : fk 11 108 = some (11, 108, 11, 5, 0, 0, 1410) := rfl
set_option maxRecDepth 20000 in
theorem fkf_11_111 : fk 11 111 = some (11, 111, 11, 6, 0, 0, 1411) := rfl
set_option maxRecDepth 20000 in
theorem fkf_11_148 : fk 11 148 = some (11, 148, 11, 7, 0, 0, 1412) := rfl
set_option maxRecDepth 20000 in
theorem fkf_11_151 : fk 11 151 = some (11, 151, 11, 8, 0, 0, 1413) := rfl
set_option maxRecDepth 20000 in
theorem fkf_11_13 : fk 11 13 = some (11, 13, 11, 9, 1, 0, 1414) := rfl
set_option maxRecDepth 20000 in
theorem fkf_11_17 : fk 11 17 = some (11, 17, 11, 10, 1, 0, 1415) := rfl
set_option maxRecDepth 20000 in
theorem fkf_11_20 : fk 11 20 = some (11, 20, 11, 11, 1, 0, 1416) := rfl
set_option maxRecDepth 20000 in
theorem fkf_11_23 : fk 11 23 = some (11, 23, 11, 12, 1, 0, 1417) := rfl
set_option maxRecDepth 20000 in
theorem fkf_11_26 : fk 11 26 = some (11, 26, 11, 13, 1, 0, 1418) := rfl
set_option maxRecDepth 20000 in
theorem fkf_11_31 : fk 11 31 = some (11, 31, 11, 14, 1, 0, 1419) := rfl
set_option maxRecDepth 20000 in
theorem fkf_11_34 : fk 11 34 = some (11, 34, 11, 15, 1, 0, 1420) := rfl
set_option maxRecDepth 20000 in
theorem fkf_11_37 : fk 11 37 = some (11, 37, 11, 16, 1, 0, 1421) := rfl
set_option maxRecDepth 20000 in
theorem fkf_11_40 : fk 11 40 = some (11, 40, 11, 17, 1, 0, 1422) := rfl
set_option maxRecDepth 20000 in
theorem fkf_11_185 : fk 11 185 = some (11, 185, 11, 18, 0, 0, 1423) := rfl
set_option maxRecDepth 20000 in
theorem fkf_11_200 : fk 11 200 = some (11, 200, 11, 19, 0, 0, 1424) := rfl
set_option maxRecDepth 20000 in
theorem fkf_11_43 : fk 11 43 = some (11, 43, 11, 20, 1, 0, 1425) := rfl
set_option maxRecDepth 20000 in
theorem fkf_11_46 : fk 11 46 = some (11, 46, 11, 21, 1, 0, 1426) := rfl
set_option maxRecDepth 20000 in
theorem fkf_11_49 : fk 11 49 = some (11, 49, 11, 22, 1, 0, 1427) := rfl
set_option maxRecDepth 20000 in
theorem fkf_11_52 : fk 11 52 = some (11, 52, 11, 23, 1, 0, 1428) := rfl
set_option maxRecDepth 20000 in
theorem fkf_11_55 : fk 11 55 = some (11, 55, 11, 24, 1, 0, 1429) := rfl
set_option maxRecDepth 20000 in
theorem fkf_11_58 : fk 11 58 = some (11, 58, 11, 25, 1, 0, 1430) := rfl
set_option maxRecDepth 20000 in
theorem fkf_11_61 : fk 11 61 = some (11, 61, 11, 26, 1, 0, 1431) := rfl
set_option maxRecDepth 20000 in
theorem fkf_11_245 : fk 11 245 = some (11, 245, 11, 27, 0, 0, 1432) := rfl
set_option maxRecDepth 20000 in
theorem fkf_11_64 : fk 11 64 = some (11, 64, 11, 28, 1, 0, 1433) := rfl
set_option maxRecDepth 20000 in
theorem fkf_11_67 : fk 11 67 = some (11, 67, 11, 29, 1, 0, 1434) := rfl
set_option maxRecDepth 20000 in
theorem fkf_11_70 : fk 11 70 = some (11, 70, 11, 30, 1, 0, 1435) := rfl
set_option maxRecDepth 20000 in
theorem fkf_11_73 : fk 11 73 = some (11, 73, 11, 31, 1, 0, 1436) := rfl
set_option maxRecDepth 20000 in
theorem fkf_11_76 : fk 11 76 = some (11, 76, 11, 32, 1, 0, 1437) := rfl
set_option maxRecDepth 20000 in
theorem fkf_11_188 : fk 11 188 = some (11, 188, 11, 33, 0, 0, 1438) := rfl
set_option maxRecDepth 20000 in
theorem fkf_11_191 : fk 11 191 = some (11, 191, 11, 34, 0, 0, 1439) := rfl
set_option maxRecDepth 20000 in
theorem fkf_11_194 : fk 11 194 = some (11, 194, 11, 35, 0, 0, 1440) := rfl
set_option maxRecDepth 20000 in
theorem fkf_11_197 : fk 11 197 = some (11, 197, 11, 36, 0, 0, 1441) := rfl
set_option maxRecDepth 20000 in
theorem fkf_11_402 : fk 11 402 = some (11, 402, 11, 37, 0, 0, 1442) := rfl
set_option maxRecDepth 20000 in
theorem fkf_11_307 : fk 11 307 = some (11, 307, 11, 38, 0, 0, 1443) := rfl
set_option maxRecDepth 20000 in
theorem fkf_11_317 : fk 11 317 = some (11, 317, 11, 39, 0, 0, 1444) := rfl
set_option maxRecDepth 20000 in
theorem fkf_11_79 : fk 11 79 = some (11, 79, 11, 40, 1, 0, 1445) := rfl
set_option maxRecDepth 20000 in
theorem fkf_11_82 : fk 11 82 = some (11, 82, 11, 41, 1, 0, 1446) := rfl
set_option maxRecDepth 20000 in
theorem fkf_11_385 : fk 11 385 = some (11, 385, 11, 42, 0, 0, 1447) := rfl
set_option maxRecDepth 20000 in
theorem mkf_12_108 : mk 12 108 = some (12, 108, 119, 1, 0, [118, 119, 0, 0, 91, 120]) := rfl
set_option maxRecDepth 20000 in
theorem mkf_10_9 : mk 10 9 = some (10, 9, 94, 1, 1, [126, 127, 0, 0, 92, 128]) := rfl
set_option maxRecDepth 20000 in
theorem mkf_10_18 : mk 10 18 = some (10, 18, 111, 1, 1, [158, 159, 0, 0, 93, 160]) := rfl
set_option maxRecDepth 20000 in
theorem mkf_10_28 : mk 10 28 = some (10, 28, 6, 1, 0, [217, 218, 0, 0, 94, 219]) := rfl
set_option maxRecDepth 20000 in
theorem mkf_10_38 : mk 10 38 = some (10, 38, 0, 1, 1, [238, 239, 0, 0, 96, 240]) := rfl
set_option maxRecDepth 20000 in
theorem mkf_10_48 : mk 10 48 = some (10, 48, 82, 1, 1, [256, 257, 0, 0, 97, 258]) := rfl
set_option maxRecDepth 20000 in
theorem mkf_10_59 : mk 10 59 = some (10, 59, 17, 1, 0, [289, 290, 0, 0, 98, 291]) := rfl
set_option maxRecDepth 20000 in
theorem mkf_10_71 : mk 10 71 = some (10, 71, 56, 1, 0, [309, 310, 0, 0, 99, 311]) := rfl
set_option maxRecDepth 20000 in
theorem mkf_10_80 : mk 10 80 = some (10, 80, 67, 1, 0, [340, 341, 0, 0, 100, 342]) := rfl
set_option maxRecDepth 20000 in
theorem mkf_5_17 : mk 5 17 = some (5, 17, 91, 1, 1, [346, 347, 0, 0, 101, 348]) := rfl
set_option maxRecDepth 20000 in
theorem mkf_10_89 : mk 10 89 = some (10, 89, 63, 1, 0, [401, 402, 0, 0, 102, 403]) := rfl
set_option maxRecDepth 20000 in
theorem mkf_12_112 : mk 12 112 = some (12, 112, 120, 0, 0, [468, 469, 470, 0, 91, 471]) := rfl
set_option maxRecDepth 20000 in
theorem mkf_10_103 : mk 10 103 = some (10, 103, 95, 0, 0, [472, 473, 474, 0, 92, 475]) := rfl
set_option maxRecDepth 20000 in
theorem mkf_10_107 : mk 10 107 = some (10, 107, 96, 0, 0, [476, 477, 478, 0, 92, 479]) := rfl
set_option maxRecDepth 20000 in
theorem mkf_12_136 : mk 12 136 = some (12, 136, 125, 0, 0, [480, 481, 482, 0, 91, 483]) := rfl
set_option maxRecDepth 20000 in
theorem mkf_12_140 : mk 12 140 = some (12, 140, 126, 0, 0, [484, 485, 486, 0, 91, 487]) := rfl
set_option maxRecDepth 20000 in
theorem mkf_10_185 : mk 10 185 = some (10, 185, 60, 0, 0, [488, 489, 490, 0, 99, 491]) := rfl
set_option maxRecDepth 20000 in
theorem mkf_12_211 : mk 12 211 = some (12, 211, 148, 0, 0, [493, 494, 495, 0, 91, 496]) := rfl
set_option maxRecDepth 20000 in
theorem mkf_10_233 : mk 10 233 = some (10, 233, 49, 0, 0, [497, 498, 499, 0, 98, 500]) := rfl
set_option maxRecDepth 20000 in
theorem mkf_2_62 : mk 2 62 = some (2, 62, 23, 0, 0, [501, 502, 503, 0, 98, 504]) := rfl
set_option maxRecDepth 20000 in
theorem mkf_12_221 : mk 12 221 = some (12, 221, 151, 0, 0, [505, 506, 507, 0, 91, 508]) := rfl
set_option maxRecDepth 20000 in
theorem mkf_10_266 : mk 10 266 = some (10, 266, 30, 0, 0, [509, 510, 511, 0, 98, 512]) := rfl
set_option maxRecDepth 20000 in
theorem mkf_2_65 : mk 2 65 = some (2, 65, 31, 2, 0, [513, 0, 0, 514, 98, 515]) := rfl
set_option maxRecDepth 20000 in
theorem mkf_12_232 : mk 12 232 = some (12, 232, 154, 0, 0, [516, 517, 518, 0, 91, 519]) := rfl
set_option maxRecDepth 20000 in
theorem mkf_10_368 : mk 10 368 = some (10, 368, 61, 0, 0, [520, 521, 522, 0, 99, 523]) := rfl
set_option maxRecDepth 20000 in
theorem mkf_12_236 : mk 12 236 = some (12, 236, 155, 0, 0, [524, 525, 526, 0, 91, 527]) := rfl
set_option maxRecDepth 20000 in
theorem mkf_10_371 : mk 10 371 = some (10, 371, 62, 0, 0, [528, 529, 530, 0, 99, 531]) := rfl
set_option maxRecDepth 20000 in
theorem mkf_12_240 : mk 12 240 = some (12, 240, 156, 0, 0, [532, 533, 534, 0, 91, 535]) := rfl
set_option maxRecDepth 20000 in
theorem mkf_12_244 : mk 12 244 = some (12, 244, 157, 0, 0, [536, 537, 538, 0, 91, 539]) := rfl
set_option maxRecDepth 20000 in
theorem mkf_12_117 : mk 12 117 = some (12, 117, 290, 2, 0, [540, 0, 0, 541, 90, 542]) := rfl
set_option maxRecDepth 20000 in
theorem mkf_12_7 : mk 12 7 = some (12, 7, 121, 0, 0, [544, 545, 546, 0, 91, 547]) := rfl
set_option maxRecDepth 20000 in
theorem mkf_10_114 : mk 10 114 = some (10, 114, 159, 0, 0, [548, 550, 0, 0, 91, 551]) := rfl
set_option maxRecDepth 20000 in
theorem mkf_10_345 : mk 10 345 = some (10, 345, 288, 2, 0, [552, 0, 0, 553, 104, 554]) := rfl
set_option maxRecDepth 20000 in
theorem mkf_10_189 : mk 10 189 = some (10, 189, 158, 0, 0, [555, 557, 1, 0, 91, 558]) := rfl
set_option maxRecDepth 20000 in
theorem mkf_10_118 : mk 10 118 = some (10, 118, 97, 0, 0, [625, 626, 627, 0, 92, 628]) := rfl
set_option maxRecDepth 20000 in
theorem mkf_8_34 : mk 8 34 = some (8, 34, 288, 2, 0, [629, 0, 0, 553, 104, 554]) := rfl
set_option maxRecDepth 20000 in
theorem mkf_10_121 : mk 10 121 = some (10, 121, 113, 0, 0, [630, 631, 632, 0, 93, 633]) := rfl
set_option maxRecDepth 20000 in
theorem mkf_9_49 : mk 9 49 = some (9, 49, 98, 0, 0, [634, 635, 636, 0, 92, 637]) := rfl
set_option maxRecDepth 20000 in
theorem mkf_9_55 : mk 9 55 = some (9, 55, 100, 0, 0, [638, 639, 640, 0, 92, 641]) := rfl
set_option maxRecDepth 20000 in
theorem mkf_8_40 : mk 8 40 = some (8, 40, 108, 0, 0, [642, 644, 3, 0, 92, 645]) := rfl
set_option maxRecDepth 20000 in
theorem mkf_9_60 : mk 9 60 = some (9, 60, 106, 0, 0, [647, 648, 649, 0, 92, 650]) := rfl
set_option maxRecDepth 20000 in
theorem mkf_8_51 : mk 8 51 = some (8, 51, 98, 0, 0, [651, 635, 636, 0, 92, 637]) := rfl
set_option maxRecDepth 20000 in
theorem mkf_8_56 : mk 8 56 = some (8, 56, 110, 2, 0, [652, 0, 0, 653, 92, 654]) := rfl
set_option maxRecDepth 20000 in
theorem mkf_8_59 : mk 8 59 = some (8, 59, 107, 0, 0, [655, 657, 4, 0, 92, 658]) := rfl
set_option maxRecDepth 20000 in
theorem mkf_8_47 : mk 8 47 = some (8, 47, 99, 0, 0, [707, 708, 709, 0, 92, 710]) := rfl
set_option maxRecDepth 20000 in
theorem mkf_9_64 : mk 9 64 = some (9, 64, 99, 0, 0, [711, 708, 709, 0, 92, 710]) := rfl
set_option maxRecDepth 20000 in
theorem mkf_9_68 : mk 9 68 = some (9, 68, 114, 0, 0, [712, 714, 5, 0, 93, 715]) := rfl
set_option maxRecDepth 20000 in
theorem mkf_9_76 : mk 9 76 = some (9, 76, 115, 0, 0, [716, 718, 6, 0, 93, 719]) := rfl
set_option maxRecDepth 20000 in
theorem mkf_9_86 : mk 9 86 = some (9, 86, 105, 0, 0, [720, 721, 722, 0, 92, 723]) := rfl
set_option maxRecDepth 20000 in
theorem mkf_8_43 : mk 8 43 = some (8, 43, 109, 2, 0, [724, 0, 0, 725, 92, 726]) := rfl
set_option maxRecDepth 20000 in
theorem mkf_9_80 : mk 9 80 = some (9, 80, 116, 0, 0, [728, 730, 7, 0, 93, 731]) := rfl
set_option maxRecDepth 20000 in
theorem mkf_9_83 : mk 9 83 = some (9, 83, 117, 0, 0, [732, 734, 8, 0, 93, 735]) := rfl
set_option maxRecDepth 20000 in
theorem mkf_9_72 : mk 9 72 = some (9, 72, 104, 0, 0, [736, 737, 738, 0, 92, 739]) := rfl
set_option maxRecDepth 20000 in
theorem mkf_10_125 : mk 10 125 = some (10, 125, 98, 0, 0, [740, 635, 636, 0, 92, 637]) := rfl
set_option maxRecDepth 20000 in
theorem mkf_10_131 : mk 10 131 = some (10, 131, 112, 0, 0, [741, 742, 743, 0, 93, 744]) := rfl
set_option maxRecDepth 20000 in
theorem mkf_10_135 : mk 10 135 = some (10, 135, 7, 0, 0, [746, 747, 748, 0, 94, 749]) := rfl
set_option maxRecDepth 20000 in
theorem mkf_10_138 : mk 10 138 = some (10, 138, 1, 0, 0, [750, 751, 752, 0, 96, 753]) := rfl
set_option maxRecDepth 20000 in
theorem mkf_10_141 : mk 10 141 = some (10, 141, 57, 0, 0, [754, 755, 756, 0, 99, 757]) := rfl
set_option maxRecDepth 20000 in
theorem mkf_3_37 : mk 3 37 = some (3, 37, 18, 0, 0, [758, 759, 760, 0, 98, 761]) := rfl
set_option maxRecDepth 20000 in
theorem mkf_2_30 : mk 2 30 = some (2, 30, 289, 2, 0, [762, 0, 0, 763, 113, 764]) := rfl
set_option maxRecDepth 20000 in
theorem mkf_12_127 : mk 12 127 = some (12, 127, 291, 2, 0, [766, 0, 0, 767, 90, 768]) := rfl
set_option maxRecDepth 20000 in
theorem mkf_12_15 : mk 12 15 = some (12, 15, 122, 0, 0, [769, 770, 771, 0, 91, 772]) := rfl
set_option maxRecDepth 20000 in
theorem mkf_10_147 : mk 10 147 = some (10, 147, 9, 0, 0, [773, 774, 775, 0, 94, 776]) := rfl
set_option maxRecDepth 20000 in
theorem mkf_1_31 : mk 1 31 = some (1, 31, 10, 0, 0, [777, 779, 9, 0, 94, 780]) := rfl
set_option maxRecDepth 20000 in
theorem mkf_1_48 : mk 1 48 = some (1, 48, 11, 0, 0, [781, 783, 10, 0, 94, 784]) := rfl
set_option maxRecDepth 20000 in
theorem mkf_1_58 : mk 1 58 = some (1, 58, 12, 0, 0, [785, 787, 11, 0, 94, 788]) := rfl
set_option maxRecDepth 20000 in
theorem mkf_1_35 : mk 1 35 = some (1, 35, 98, 0, 0, [789, 635, 636, 0, 92, 637]) := rfl
set_option maxRecDepth 20000 in
theorem mkf_1_61 : mk 1 61 = some (1, 61, 102, 0, 0, [790, 791, 792, 0, 92, 793]) := rfl
set_option maxRecDepth 20000 in
theorem mkf_1_64 : mk 1 64 = some (1, 64, 105, 0, 0, [794, 721, 722, 0, 92, 723]) := rfl
set_option maxRecDepth 20000 in
theorem mkf_1_55 : mk 1 55 = some (1, 55, 14, 0, 0, [795, 797, 12, 0, 94, 798]) := rfl
set_option maxRecDepth 20000 in
theorem mkf_1_51 : mk 1 51 = some (1, 51, 103, 0, 0, [799, 800, 801, 0, 92, 802]) := rfl
set_option maxRecDepth 20000 in
theorem mkf_1_70 : mk 1 70 = some (1, 70, 106, 0, 0, [804, 648, 649, 0, 92, 650]) := rfl
set_option maxRecDepth 20000 in
theorem mkf_1_44 : mk 1 44 = some (1, 44, 99, 0, 0, [805, 708, 709, 0, 92, 710]) := rfl
set_option maxRecDepth 20000 in
theorem mkf_1_74 : mk 1 74 = some (1, 74, 104, 0, 0, [806, 737, 738, 0, 92, 739]) := rfl
set_option maxRecDepth 20000 in
theorem mkf_1_78 : mk 1 78 = some (1, 78, 13, 0, 0, [807, 809, 13, 0, 94, 810]) := rfl
set_option maxRecDepth 20000 in
theorem mkf_1_41 : mk 1 41 = some (1, 41, 100, 0, 0, [811, 639, 640, 0, 92, 641]) := rfl
set_option maxRecDepth 20000 in
theorem mkf_10_148 : mk 10 148 = some (10, 148, 8, 0, 0, [812, 813, 814, 0, 94, 815]) := rfl
set_option maxRecDepth 20000 in
theorem mkf_12_130 : mk 12 130 = some (12, 130, 292, 2, 0, [816, 0, 0, 817, 90, 818]) := rfl
set_option maxRecDepth 20000 in
theorem mkf_12_18 : mk 12 18 = some (12, 18, 123, 0, 0, [819, 820, 821, 0, 91, 822]) := rfl
set_option maxRecDepth 20000 in
theorem mkf_10_151 : mk 10 151 = some (10, 151, 58, 0, 0, [823, 824, 825, 0, 99, 826]) := rfl
set_option maxRecDepth 20000 in
theorem mkf_10_154 : mk 10 154 = some (10, 154, 83, 0, 0, [827, 828, 829, 0, 97, 830]) := rfl
set_option maxRecDepth 20000 in
theorem mkf_6_37 : mk 6 37 = some (6, 37, 84, 0, 0, [831, 833, 14, 0, 97, 834]) := rfl
set_option maxRecDepth 20000 in
theorem mkf_6_41 : mk 6 41 = some (6, 41, 98, 0, 0, [835, 635, 636, 0, 92, 637]) := rfl
set_option maxRecDepth 20000 in
theorem mkf_6_47 : mk 6 47 = some (6, 47, 100, 0, 0, [836, 639, 640, 0, 92, 641]) := rfl
set_option maxRecDepth 20000 in
theorem mkf_6_50 : mk 6 50 = some (6, 50, 101, 0, 0, [837, 838, 839, 0, 92, 840]) := rfl
set_option maxRecDepth 20000 in
theorem mkf_6_54 : mk 6 54 = some (6, 54, 85, 0, 0, [841, 843, 15, 0, 97, 844]) := rfl
set_option maxRecDepth 20000 in
theorem mkf_6_63 : mk 6 63 = some (6, 63, 106, 0, 0, [846, 648, 649, 0, 92, 650]) := rfl
set_option maxRecDepth 20000 in
theorem mkf_6_72 : mk 6 72 = some (6, 72, 105, 0, 0, [847, 721, 722, 0, 92, 723]) := rfl
set_option maxRecDepth 20000 in
theorem mkf_6_79 : mk 6 79 = some (6, 79, 86, 0, 0, [848, 850, 16, 0, 97, 851]) := rfl
set_option maxRecDepth 20000 in
theorem mkf_6_83 : mk 6 83 = some (6, 83, 99, 0, 0, [852, 708, 709, 0, 92, 710]) := rfl
set_option maxRecDepth 20000 in
theorem mkf_6_57 : mk 6 57 = some (6, 57, 104, 0, 0, [853, 737, 738, 0, 92, 739]) := rfl
set_option maxRecDepth 20000 in
theorem mkf_10_157 : mk 10 157 = some (10, 157, 59, 0, 0, [854, 855, 856, 0, 99, 857]) := rfl
set_option maxRecDepth 20000 in
theorem mkf_3_40 : mk 3 40 = some (3, 40, 58, 0, 0, [858, 824, 825, 0, 99, 826]) := rfl
set_option maxRecDepth 20000 in
theorem mkf_10_160 : mk 10 160 = some (10, 160, 87, 0, 0, [859, 860, 861, 0, 97, 862]) := rfl
set_option maxRecDepth 20000 in
theorem mkf_6_87 : mk 6 87 = some (6, 87, 88, 0, 0, [863, 865, 17, 0, 97, 866]) := rfl
set_option maxRecDepth 20000 in
theorem mkf_6_91 : mk 6 91 = some (6, 91, 89, 0, 0, [867, 869, 18, 0, 97, 870]) := rfl
set_option maxRecDepth 20000 in
theorem mkf_6_95 : mk 6 95 = some (6, 95, 287, 2, 0, [871, 0, 0, 872, 104, 873]) := rfl
set_option maxRecDepth 20000 in
theorem mkf_6_100 : mk 6 100 = some (6, 100, 90, 0, 0, [874, 876, 19, 0, 97, 877]) := rfl
set_option maxRecDepth 20000 in
theorem mkf_6_104 : mk 6 104 = some (6, 104, 34, 0, 0, [878, 879, 880, 0, 98, 881]) := rfl
set_option maxRecDepth 20000 in
theorem mkf_2_103 : mk 2 103 = some (2, 103, 33, 0, 0, [882, 883, 884, 0, 98, 885]) := rfl
set_option maxRecDepth 20000 in
theorem mkf_2_106 : mk 2 106 = some (2, 106, 32, 0, 0, [886, 887, 888, 0, 98, 889]) := rfl
set_option maxRecDepth 20000 in
theorem mkf_2_84 : mk 2 84 = some (2, 84, 52, 0, 0, [890, 891, 892, 0, 98, 893]) := rfl
set_option maxRecDepth 20000 in
theorem mkf_2_88 : mk 2 88 = some (2, 88, 49, 0, 0, [894, 498, 499, 0, 98, 500]) := rfl
set_option maxRecDepth 20000 in
theorem mkf_2_91 : mk 2 91 = some (2, 91, 286, 2, 0, [895, 0, 0, 896, 114, 897]) := rfl
set_option maxRecDepth 20000 in
theorem mkf_2_96 : mk 2 96 = some (2, 96, 26, 0, 0, [901, 902, 903, 0, 98, 904]) := rfl
set_option maxRecDepth 20000 in
theorem mkf_2_58 : mk 2 58 = some (2, 58, 24, 0, 0, [905, 906, 907, 0, 98, 908]) := rfl
set_option maxRecDepth 20000 in
theorem mkf_2_99 : mk 2 99 = some (2, 99, 15, 0, 0, [909, 910, 911, 0, 94, 912]) := rfl
set_option maxRecDepth 20000 in
theorem mkf_1_82 : mk 1 82 = some (1, 82, 16, 2, 0, [913, 0, 0, 914, 94, 915]) := rfl
set_option maxRecDepth 20000 in
theorem mkf_1_86 : mk 1 86 = some (1, 86, 288, 2, 0, [916, 0, 0, 553, 104, 554]) := rfl
set_option maxRecDepth 20000 in
theorem mkf_1_91 : mk 1 91 = some (1, 91, 287, 2, 0, [917, 0, 0, 872, 104, 873]) := rfl
set_option maxRecDepth 20000 in
theorem mkf_2_108 : mk 2 108 = some (2, 108, 288, 2, 0, [918, 0, 0, 553, 104, 554]) := rfl
set_option maxRecDepth 20000 in
theorem mkf_2_113 : mk 2 113 = some (2, 113, 30, 0, 0, [919, 510, 511, 0, 98, 512]) := rfl
set_option maxRecDepth 20000 in
theorem mkf_2_116 : mk 2 116 = some (2, 116, 36, 0, 0, [920, 922, 20, 0, 98, 923]) := rfl
set_option maxRecDepth 20000 in
theorem mkf_6_110 : mk 6 110 = some (6, 110, 35, 0, 0, [924, 925, 926, 0, 98, 927]) := rfl
set_option maxRecDepth 20000 in
theorem mkf_6_114 : mk 6 114 = some (6, 114, 37, 0, 0, [928, 929, 930, 0, 98, 931]) := rfl
set_option maxRecDepth 20000 in
theorem mkf_6_118 : mk 6 118 = some (6, 118, 38, 0, 0, [932, 933, 934, 0, 98, 935]) := rfl
set_option maxRecDepth 20000 in
theorem mkf_2_120 : mk 2 120 = some (2, 120, 25, 0, 0, [936, 937, 938, 0, 98, 939]) := rfl
set_option maxRecDepth 20000 in
theorem mkf_6_122 : mk 6 122 = some (6, 122, 39, 0, 0, [940, 941, 942, 0, 98, 943]) := rfl
set_option maxRecDepth 20000 in
theorem mkf_2_123 : mk 2 123 = some (2, 123, 21, 0, 0, [944, 945, 946, 0, 98, 947]) := rfl
set_option maxRecDepth 20000 in
theorem mkf_6_125 : mk 6 125 = some (6, 125, 40, 0, 0, [948, 949, 950, 0, 98, 951]) := rfl
set_option maxRecDepth 20000 in
theorem mkf_2_126 : mk 2 126 = some (2, 126, 20, 0, 0, [952, 953, 954, 0, 98, 955]) := rfl
set_option maxRecDepth 20000 in
theorem mkf_2_129 : mk 2 129 = some (2, 129, 41, 0, 0, [956, 957, 958, 0, 98, 959]) := rfl
set_option maxRecDepth 20000 in
theorem mkf_2_132 : mk 2 132 = some (2, 132, 287, 2, 0, [960, 0, 0, 872, 104, 873]) := rfl
set_option maxRecDepth 20000 in
theorem mkf_12_133 : mk 12 133 = some (12, 133, 293, 2, 0, [961, 0, 0, 962, 90, 963]) := rfl
set_option maxRecDepth 20000 in
theorem mkf_12_21 : mk 12 21 = some (12, 21, 124, 0, 0, [964, 965, 966, 0, 91, 967]) := rfl
set_option maxRecDepth 20000 in
theorem mkf_10_173 : mk 10 173 = some (10, 173, 4, 0, 0, [968, 969, 970, 0, 96, 971]) := rfl
set_option maxRecDepth 20000 in
theorem mkf_0_28 : mk 0 28 = some (0, 28, 1, 0, 0, [972, 751, 752, 0, 96, 753]) := rfl
set_option maxRecDepth 20000 in
theorem mkf_0_31 : mk 0 31 = some (0, 31, 98, 0, 0, [973, 635, 636, 0, 92, 637]) := rfl
set_option maxRecDepth 20000 in
theorem mkf_0_37 : mk 0 37 = some (0, 37, 100, 0, 0, [974, 639, 640, 0, 92, 641]) := rfl
set_option maxRecDepth 20000 in
theorem mkf_0_40 : mk 0 40 = some (0, 40, 5, 0, 0, [975, 977, 21, 0, 96, 978]) := rfl
set_option maxRecDepth 20000 in
theorem mkf_0_44 : mk 0 44 = some (0, 44, 105, 0, 0, [979, 721, 722, 0, 92, 723]) := rfl
set_option maxRecDepth 20000 in
theorem mkf_0_48 : mk 0 48 = some (0, 48, 3, 0, 0, [980, 981, 982, 0, 96, 983]) := rfl
set_option maxRecDepth 20000 in
theorem mkf_0_52 : mk 0 52 = some (0, 52, 99, 0, 0, [984, 708, 709, 0, 92, 710]) := rfl
set_option maxRecDepth 20000 in
theorem mkf_0_56 : mk 0 56 = some (0, 56, 104, 0, 0, [985, 737, 738, 0, 92, 739]) := rfl
set_option maxRecDepth 20000 in
theorem mkf_10_176 : mk 10 176 = some (10, 176, 2, 0, 0, [986, 987, 988, 0, 96, 989]) := rfl
set_option maxRecDepth 20000 in
theorem mkf_12_144 : mk 12 144 = some (12, 144, 294, 2, 0, [991, 0, 0, 992, 90, 993]) := rfl
set_option maxRecDepth 20000 in
theorem mkf_12_24 : mk 12 24 = some (12, 24, 127, 0, 0, [994, 995, 996, 0, 91, 997]) := rfl
set_option maxRecDepth 20000 in
theorem mkf_10_193 : mk 10 193 = some (10, 193, 20, 0, 0, [998, 953, 954, 0, 98, 955]) := rfl
set_option maxRecDepth 20000 in
theorem mkf_10_196 : mk 10 196 = some (10, 196, 21, 0, 0, [999, 945, 946, 0, 98, 947]) := rfl
set_option maxRecDepth 20000 in
theorem mkf_10_199 : mk 10 199 = some (10, 199, 22, 0, 0, [1000, 1001, 1002, 0, 98, 1003]) := rfl
set_option maxRecDepth 20000 in
theorem mkf_10_202 : mk 10 202 = some (10, 202, 43, 0, 0, [1004, 1005, 1006, 0, 98, 1007]) := rfl
set_option maxRecDepth 20000 in
theorem mkf_10_205 : mk 10 205 = some (10, 205, 45, 0, 0, [1008, 1009, 1010, 0, 98, 1011]) := rfl
set_option maxRecDepth 20000 in
theorem mkf_10_208 : mk 10 208 = some (10, 208, 46, 0, 0, [1012, 1013, 1014, 0, 98, 1015]) := rfl
set_option maxRecDepth 20000 in
theorem mkf_10_211 : mk 10 211 = some (10, 211, 47, 0, 0, [1016, 1017, 1018, 0, 98, 1019]) := rfl
set_option maxRecDepth 20000 in
theorem mkf_10_214 : mk 10 214 = some (10, 214, 48, 0, 0, [1020, 1021, 1022, 0, 98, 1023]) := rfl
set_option maxRecDepth 20000 in
theorem mkf_12_147 : mk 12 147 = some (12, 147, 295, 2, 0, [1024, 0, 0, 1025, 90, 1026]) := rfl
set_option maxRecDepth 20000 in
theorem mkf_12_27 : mk 12 27 = some (12, 27, 128, 0, 0, [1028, 1029, 1030, 0, 91, 1031]) := rfl
set_option maxRecDepth 20000 in
theorem mkf_10_217 : mk 10 217 = some (10, 217, 160, 0, 0, [1032, 1034, 22, 0, 91, 1035]) := rfl
set_option maxRecDepth 20000 in
theorem mkf_10_226 : mk 10 226 = some (10, 226, 25, 0, 0, [1052, 937, 938, 0, 98, 939]) := rfl
set_option maxRecDepth 20000 in
theorem mkf_10_230 : mk 10 230 = some (10, 230, 26, 0, 0, [1053, 902, 903, 0, 98, 904]) := rfl
set_option maxRecDepth 20000 in
theorem mkf_10_236 : mk 10 236 = some (10, 236, 50, 0, 0, [1054, 1055, 1056, 0, 98, 1057]) := rfl
set_option maxRecDepth 20000 in
theorem mkf_10_239 : mk 10 239 = some (10, 239, 51, 0, 0, [1058, 1059, 1060, 0, 98, 1061]) := rfl
set_option maxRecDepth 20000 in
theorem mkf_10_242 : mk 10 242 = some (10, 242, 27, 0, 0, [1062, 1063, 1064, 0, 98, 1065]) := rfl
set_option maxRecDepth 20000 in
theorem mkf_12_151 : mk 12 151 = some (12, 151, 296, 2, 0, [1066, 0, 0, 1067, 90, 1068]) := rfl
set_option maxRecDepth 20000 in
theorem mkf_12_33 : mk 12 33 = some (12, 33, 129, 0, 0, [1069, 1070, 1071, 0, 91, 1072]) := rfl
set_option maxRecDepth 20000 in
theorem mkf_10_245 : mk 10 245 = some (10, 245, 161, 0, 0, [1073, 1075, 23, 0, 91, 1076]) := rfl
set_option maxRecDepth 20000 in
theorem mkf_10_257 : mk 10 257 = some (10, 257, 28, 0, 0, [1078, 1079, 1080, 0, 98, 1081]) := rfl
set_option maxRecDepth 20000 in
theorem mkf_10_260 : mk 10 260 = some (10, 260, 29, 0, 0, [1082, 1083, 1084, 0, 98, 1085]) := rfl
set_option maxRecDepth 20000 in
theorem mkf_10_263 : mk 10 263 = some (10, 263, 32, 0, 0, [1086, 887, 888, 0, 98, 889]) := rfl
set_option maxRecDepth 20000 in
theorem mkf_12_154 : mk 12 154 = some (12, 154, 297, 2, 0, [1087, 0, 0, 1088, 90, 1089]) := rfl
set_option maxRecDepth 20000 in
theorem mkf_12_36 : mk 12 36 = some (12, 36, 130, 0, 0, [1090, 1091, 1092, 0, 91, 1093]) := rfl
set_option maxRecDepth 20000 in
theorem mkf_10_269 : mk 10 269 = some (10, 269, 15, 0, 0, [1094, 910, 911, 0, 94, 912]) := rfl
set_option maxRecDepth 20000 in
theorem mkf_12_158 : mk 12 158 = some (12, 158, 298, 2, 0, [1095, 0, 0, 1096, 90, 1097]) := rfl
set_option maxRecDepth 20000 in
theorem mkf_12_40 : mk 12 40 = some (12, 40, 131, 0, 0, [1098, 1099, 1100, 0, 91, 1101]) := rfl
set_option maxRecDepth 20000 in
theorem mkf_10_273 : mk 10 273 = some (10, 273, 33, 0, 0, [1102, 883, 884, 0, 98, 885]) := rfl
set_option maxRecDepth 20000 in
theorem mkf_12_161 : mk 12 161 = some (12, 161, 299, 2, 0, [1103, 0, 0, 1104, 90, 1105]) := rfl
set_option maxRecDepth 20000 in
theorem mkf_12_44 : mk 12 44 = some (12, 44, 132, 0, 0, [1106, 1107, 1108, 0, 91, 1109]) := rfl
set_option maxRecDepth 20000 in
theorem mkf_10_277 : mk 10 277 = some (10, 277, 19, 0, 0, [1110, 1111, 1112, 0, 98, 1113]) := rfl
set_option maxRecDepth 20000 in
theorem mkf_10_279 : mk 10 279 = some (10, 279, 41, 0, 0, [1114, 957, 958, 0, 98, 959]) := rfl
set_option maxRecDepth 20000 in
theorem mkf_10_282 : mk 10 282 = some (10, 282, 44, 0, 0, [1115, 1116, 1117, 0, 98, 1118]) := rfl
set_option maxRecDepth 20000 in
theorem mkf_12_164 : mk 12 164 = some (12, 164, 300, 2, 0, [1119, 0, 0, 1120, 90, 1121]) := rfl
set_option maxRecDepth 20000 in
theorem mkf_12_47 : mk 12 47 = some (12, 47, 133, 0, 0, [1122, 1123, 1124, 0, 91, 1125]) := rfl
set_option maxRecDepth 20000 in
theorem mkf_10_285 : mk 10 285 = some (10, 285, 42, 0, 0, [1126, 1127, 1128, 0, 98, 1129]) := rfl
set_option maxRecDepth 20000 in
theorem mkf_12_167 : mk 12 167 = some (12, 167, 301, 2, 0, [1130, 0, 0, 1131, 90, 1132]) := rfl
set_option maxRecDepth 20000 in
theorem mkf_12_50 : mk 12 50 = some (12, 50, 134, 0, 0, [1133, 1134, 1135, 0, 91, 1136]) := rfl
set_option maxRecDepth 20000 in
theorem mkf_10_288 : mk 10 288 = some (10, 288, 73, 0, 0, [1137, 1138, 1139, 0, 100, 1140]) := rfl
set_option maxRecDepth 20000 in
theorem mkf_5_76 : mk 5 76 = some (5, 76, 68, 0, 0, [1141, 1143, 24, 0, 100, 1144]) := rfl
set_option maxRecDepth 20000 in
theorem mkf_5_56 : mk 5 56 = some (5, 56, 32, 0, 0, [1145, 887, 888, 0, 98, 889]) := rfl
set_option maxRecDepth 20000 in
theorem mkf_5_62 : mk 5 62 = some (5, 62, 92, 0, 0, [1146, 1147, 1148, 0, 101, 1149]) := rfl
set_option maxRecDepth 20000 in
theorem mkf_7_18 : mk 7 18 = some (7, 18, 285, 2, 0, [1150, 0, 0, 1151, 114, 1152]) := rfl
set_option maxRecDepth 20000 in
theorem mkf_5_79 : mk 5 79 = some (5, 79, 69, 0, 0, [1154, 1156, 25, 0, 100, 1157]) := rfl
set_option maxRecDepth 20000 in
theorem mkf_5_66 : mk 5 66 = some (5, 66, 30, 0, 0, [1158, 510, 511, 0, 98, 512]) := rfl
set_option maxRecDepth 20000 in
theorem mkf_5_82 : mk 5 82 = some (5, 82, 49, 0, 0, [1159, 498, 499, 0, 98, 500]) := rfl
set_option maxRecDepth 20000 in
theorem mkf_5_85 : mk 5 85 = some (5, 85, 25, 0, 0, [1160, 937, 938, 0, 98, 939]) := rfl
set_option maxRecDepth 20000 in
theorem mkf_5_88 : mk 5 88 = some (5, 88, 70, 2, 0, [1161, 0, 0, 1162, 100, 1163]) := rfl
set_option maxRecDepth 20000 in
theorem mkf_5_68 : mk 5 68 = some (5, 68, 286, 2, 0, [1164, 0, 0, 896, 114, 897]) := rfl
set_option maxRecDepth 20000 in
theorem mkf_5_73 : mk 5 73 = some (5, 73, 93, 0, 0, [1165, 1166, 1167, 0, 101, 1168]) := rfl
set_option maxRecDepth 20000 in
theorem mkf_5_91 : mk 5 91 = some (5, 91, 21, 0, 0, [1169, 945, 946, 0, 98, 947]) := rfl
set_option maxRecDepth 20000 in
theorem mkf_5_95 : mk 5 95 = some (5, 95, 71, 2, 0, [1170, 0, 0, 1171, 100, 1172]) := rfl
set_option maxRecDepth 20000 in
theorem mkf_12_170 : mk 12 170 = some (12, 170, 302, 2, 0, [1173, 0, 0, 1174, 90, 1175]) := rfl
set_option maxRecDepth 20000 in
theorem mkf_12_53 : mk 12 53 = some (12, 53, 135, 0, 0, [1176, 1177, 1178, 0, 91, 1179]) := rfl
set_option maxRecDepth 20000 in
theorem mkf_10_292 : mk 10 292 = some (10, 292, 74, 0, 0, [1180, 1181, 1182, 0, 100, 1183]) := rfl
set_option maxRecDepth 20000 in
theorem mkf_5_99 : mk 5 99 = some (5, 99, 22, 0, 0, [1184, 1001, 1002, 0, 98, 1003]) := rfl
set_option maxRecDepth 20000 in
theorem mkf_5_102 : mk 5 102 = some (5, 102, 75, 0, 0, [1185, 1187, 26, 0, 100, 1188]) := rfl
set_option maxRecDepth 20000 in
theorem mkf_10_295 : mk 10 295 = some (10, 295, 72, 0, 0, [1189, 1190, 1191, 0, 100, 1192]) := rfl
set_option maxRecDepth 20000 in
theorem mkf_12_173 : mk 12 173 = some (12, 173, 303, 2, 0, [1193, 0, 0, 1194, 90, 1195]) := rfl
set_option maxRecDepth 20000 in
theorem mkf_12_56 : mk 12 56 = some (12, 56, 136, 0, 0, [1196, 1197, 1198, 0, 91, 1199]) := rfl
set_option maxRecDepth 20000 in
theorem mkf_10_298 : mk 10 298 = some (10, 298, 54, 0, 0, [1200, 1201, 1202, 0, 98, 1203]) := rfl
set_option maxRecDepth 20000 in
theorem mkf_2_135 : mk 2 135 = some (2, 135, 53, 0, 0, [1204, 1206, 27, 0, 98, 1207]) := rfl
set_option maxRecDepth 20000 in
theorem mkf_12_176 : mk 12 176 = some (12, 176, 304, 2, 0, [1208, 0, 0, 1209, 90, 1210]) := rfl
set_option maxRecDepth 20000 in
theorem mkf_12_59 : mk 12 59 = some (12, 59, 137, 0, 0, [1211, 1212, 1213, 0, 91, 1214]) := rfl
set_option maxRecDepth 20000 in
theorem mkf_10_301 : mk 10 301 = some (10, 301, 55, 0, 0, [1215, 1216, 1217, 0, 98, 1218]) := rfl
set_option maxRecDepth 20000 in
theorem mkf_12_179 : mk 12 179 = some (12, 179, 305, 2, 0, [1219, 0, 0, 1220, 90, 1221]) := rfl
set_option maxRecDepth 20000 in
theorem mkf_12_62 : mk 12 62 = some (12, 62, 138, 0, 0, [1222, 1223, 1224, 0, 91, 1225]) := rfl
set_option maxRecDepth 20000 in
theorem mkf_10_304 : mk 10 304 = some (10, 304, 77, 0, 0, [1226, 1227, 1228, 0, 100, 1229]) := rfl
set_option maxRecDepth 20000 in
theorem mkf_5_111 : mk 5 111 = some (5, 111, 3, 0, 0, [1230, 981, 982, 0, 96, 983]) := rfl
set_option maxRecDepth 20000 in
theorem mkf_5_120 : mk 5 120 = some (5, 120, 78, 0, 0, [1231, 1233, 28, 0, 100, 1234]) := rfl
set_option maxRecDepth 20000 in
theorem mkf_12_182 : mk 12 182 = some (12, 182, 306, 2, 0, [1235, 0, 0, 1236, 90, 1237]) := rfl
set_option maxRecDepth 20000 in
theorem mkf_12_65 : mk 12 65 = some (12, 65, 139, 0, 0, [1238, 1239, 1240, 0, 91, 1241]) := rfl
set_option maxRecDepth 20000 in
theorem mkf_10_316 : mk 10 316 = some (10, 316, 79, 0, 0, [1242, 1243, 1244, 0, 100, 1245]) := rfl
set_option maxRecDepth 20000 in
theorem mkf_5_124 : mk 5 124 = some (5, 124, 77, 0, 0, [1246, 1227, 1228, 0, 100, 1229]) := rfl
set_option maxRecDepth 20000 in
theorem mkf_5_127 : mk 5 127 = some (5, 127, 80, 0, 0, [1247, 1249, 29, 0, 100, 1250]) := rfl
set_option maxRecDepth 20000 in
theorem mkf_5_131 : mk 5 131 = some (5, 131, 81, 0, 0, [1251, 1253, 30, 0, 100, 1254]) := rfl
set_option maxRecDepth 20000 in
theorem mkf_5_134 : mk 5 134 = some (5, 134, 289, 2, 0, [1255, 0, 0, 763, 113, 764]) := rfl
set_option maxRecDepth 20000 in
theorem mkf_5_140 : mk 5 140 = some (5, 140, 287, 2, 0, [1256, 0, 0, 872, 104, 873]) := rfl
set_option maxRecDepth 20000 in
theorem mkf_12_185 : mk 12 185 = some (12, 185, 307, 2, 0, [1257, 0, 0, 1258, 90, 1259]) := rfl
set_option maxRecDepth 20000 in
theorem mkf_12_68 : mk 12 68 = some (12, 68, 140, 0, 0, [1260, 1261, 1262, 0, 91, 1263]) := rfl
set_option maxRecDepth 20000 in
theorem mkf_10_325 : mk 10 325 = some (10, 325, 76, 0, 0, [1264, 1265, 1266, 0, 100, 1267]) := rfl
set_option maxRecDepth 20000 in
theorem mkf_12_188 : mk 12 188 = some (12, 188, 308, 2, 0, [1268, 0, 0, 1269, 90, 1270]) := rfl
set_option maxRecDepth 20000 in
theorem mkf_12_71 : mk 12 71 = some (12, 71, 141, 0, 0, [1271, 1272, 1273, 0, 91, 1274]) := rfl
set_option maxRecDepth 20000 in
theorem mkf_10_328 : mk 10 328 = some (10, 328, 163, 2, 0, [1275, 0, 0, 1276, 91, 1277]) := rfl
set_option maxRecDepth 20000 in
theorem mkf_10_332 : mk 10 332 = some (10, 332, 162, 2, 0, [1278, 0, 0, 1279, 91, 1280]) := rfl
set_option maxRecDepth 20000 in
theorem mkf_12_192 : mk 12 192 = some (12, 192, 309, 2, 0, [1281, 0, 0, 1282, 90, 1283]) := rfl
set_option maxRecDepth 20000 in
theorem mkf_12_75 : mk 12 75 = some (12, 75, 142, 0, 0, [1284, 1285, 1286, 0, 91, 1287]) := rfl
set_option maxRecDepth 20000 in
theorem mkf_10_336 : mk 10 336 = some (10, 336, 164, 2, 0, [1288, 0, 0, 1289, 91, 1290]) := rfl
set_option maxRecDepth 20000 in
theorem mkf_10_394 : mk 10 394 = some (10, 394, 165, 2, 0, [1291, 0, 0, 1292, 91, 1293]) := rfl
set_option maxRecDepth 20000 in
theorem mkf_12_196 : mk 12 196 = some (12, 196, 310, 2, 0, [1295, 0, 0, 1296, 90, 1297]) := rfl
set_option maxRecDepth 20000 in
theorem mkf_12_79 : mk 12 79 = some (12, 79, 143, 0, 0, [1298, 1299, 1300, 0, 91, 1301]) := rfl
set_option maxRecDepth 20000 in
theorem mkf_10_342 : mk 10 342 = some (10, 342, 118, 0, 0, [1302, 1303, 1304, 0, 93, 1305]) := rfl
set_option maxRecDepth 20000 in
theorem mkf_9_90 : mk 9 90 = some (9, 90, 288, 2, 0, [1306, 0, 0, 553, 104, 554]) := rfl
set_option maxRecDepth 20000 in
theorem mkf_12_199 : mk 12 199 = some (12, 199, 311, 2, 0, [1307, 0, 0, 1308, 90, 1309]) := rfl
set_option maxRecDepth 20000 in
theorem mkf_12_82 : mk 12 82 = some (12, 82, 144, 0, 0, [1310, 1311, 1312, 0, 91, 1313]) := rfl
set_option maxRecDepth 20000 in
theorem mkf_10_350 : mk 10 350 = some (10, 350, 23, 0, 0, [1314, 502, 503, 0, 98, 504]) := rfl
set_option maxRecDepth 20000 in
theorem mkf_12_202 : mk 12 202 = some (12, 202, 312, 2, 0, [1315, 0, 0, 1316, 90, 1317]) := rfl
set_option maxRecDepth 20000 in
theorem mkf_12_85 : mk 12 85 = some (12, 85, 145, 0, 0, [1318, 1319, 1320, 0, 91, 1321]) := rfl
set_option maxRecDepth 20000 in
theorem mkf_12_205 : mk 12 205 = some (12, 205, 313, 2, 0, [1322, 0, 0, 1323, 90, 1324]) := rfl
set_option maxRecDepth 20000 in
theorem mkf_12_88 : mk 12 88 = some (12, 88, 146, 0, 0, [1325, 1326, 1327, 0, 91, 1328]) := rfl
set_option maxRecDepth 20000 in
theorem mkf_12_208 : mk 12 208 = some (12, 208, 314, 2, 0, [1329, 0, 0, 1330, 90, 1331]) := rfl
set_option maxRecDepth 20000 in
theorem mkf_12_91 : mk 12 91 = some (12, 91, 147, 0, 0, [1332, 1333, 1334, 0, 91, 1335]) := rfl
set_option maxRecDepth 20000 in
theorem mkf_10_353 : mk 10 353 = some (10, 353, 52, 0, 0, [1336, 891, 892, 0, 98, 893]) := rfl
set_option maxRecDepth 20000 in
theorem mkf_12_215 : mk 12 215 = some (12, 215, 315, 2, 0, [1337, 0, 0, 1338, 90, 1339]) := rfl
set_option maxRecDepth 20000 in
theorem mkf_12_94 : mk 12 94 = some (12, 94, 149, 0, 0, [1340, 1341, 1342, 0, 91, 1343]) := rfl
set_option maxRecDepth 20000 in
theorem mkf_12_218 : mk 12 218 = some (12, 218, 316, 2, 0, [1344, 0, 0, 1345, 90, 1346]) := rfl
set_option maxRecDepth 20000 in
theorem mkf_12_97 : mk 12 97 = some (12, 97, 150, 0, 0, [1347, 1348, 1349, 0, 91, 1350]) := rfl
set_option maxRecDepth 20000 in
theorem mkf_12_225 : mk 12 225 = some (12, 225, 317, 2, 0, [1351, 0, 0, 1352, 90, 1353]) := rfl
set_option maxRecDepth 20000 in
theorem mkf_12_100 : mk 12 100 = some (12, 100, 152, 0, 0, [1354, 1355, 1356, 0, 91, 1357]) := rfl
set_option maxRecDepth 20000 in
theorem mkf_10_356 : mk 10 356 = some (10, 356, 64, 0, 0, [1358, 1359, 1360, 0, 102, 1361]) := rfl
set_option maxRecDepth 20000 in
theorem mkf_4_24 : mk 4 24 = some (4, 24, 19, 0, 0, [1362, 1111, 1112, 0, 98, 1113]) := rfl
set_option maxRecDepth 20000 in
theorem mkf_4_35 : mk 4 35 = some (4, 35, 65, 0, 0, [1363, 1365, 31, 0, 102, 1366]) := rfl
set_option maxRecDepth 20000 in
theorem mkf_4_42 : mk 4 42 = some (4, 42, 66, 0, 0, [1367, 1369, 32, 0, 102, 1370]) := rfl
set_option maxRecDepth 20000 in
theorem mkf_4_46 : mk 4 46 = some (4, 46, 34, 0, 0, [1372, 879, 880, 0, 98, 881]) := rfl
set_option maxRecDepth 20000 in
theorem mkf_4_49 : mk 4 49 = some (4, 49, 287, 2, 0, [1373, 0, 0, 872, 104, 873]) := rfl
set_option maxRecDepth 20000 in
theorem mkf_4_55 : mk 4 55 = some (4, 55, 39, 0, 0, [1374, 941, 942, 0, 98, 943]) := rfl
set_option maxRecDepth 20000 in
theorem mkf_4_59 : mk 4 59 = some (4, 59, 37, 0, 0, [1375, 929, 930, 0, 98, 931]) := rfl
set_option maxRecDepth 20000 in
theorem mkf_4_39 : mk 4 39 = some (4, 39, 41, 0, 0, [1376, 957, 958, 0, 98, 959]) := rfl
set_option maxRecDepth 20000 in
theorem mkf_12_228 : mk 12 228 = some (12, 228, 318, 2, 0, [1377, 0, 0, 1378, 90, 1379]) := rfl
set_option maxRecDepth 20000 in
theorem mkf_12_104 : mk 12 104 = some (12, 104, 153, 0, 0, [1380, 1381, 1382, 0, 91, 1383]) := rfl
set_option maxRecDepth 20000 in
theorem mkf_10_365 : mk 10 365 = some (10, 365, 287, 2, 0, [1385, 0, 0, 872, 104, 873]) := rfl
set_option maxRecDepth 20000 in
theorem mkf_12_111 : mk 12 111 = some (12, 111, 166, 1, 0, [1388, 1389, 0, 0, 103, 1390]) := rfl
set_option maxRecDepth 20000 in
theorem mkf_11_86 : mk 11 86 = some (11, 86, 167, 0, 0, [1394, 1396, 33, 0, 103, 1397]) := rfl
set_option maxRecDepth 20000 in
theorem mkf_11_89 : mk 11 89 = some (11, 89, 197, 0, 0, [1398, 1400, 34, 0, 103, 1401]) := rfl
set_option maxRecDepth 20000 in
theorem mkf_11_181 : mk 11 181 = some (11, 181, 195, 2, 0, [1402, 0, 0, 1403, 103, 1404]) := rfl
set_option maxRecDepth 20000 in
theorem mkf_12_123 : mk 12 123 = some (12, 123, 168, 0, 0, [1536, 1537, 1538, 0, 103, 1539]) := rfl
set_option maxRecDepth 20000 in
theorem mkf_12_116 : mk 12 116 = some (12, 116, 174, 0, 0, [1540, 1541, 1542, 0, 103, 1543]) := rfl
set_option maxRecDepth 20000 in
theorem mkf_12_122 : mk 12 122 = some (12, 122, 194, 0, 0, [1544, 1545, 1546, 0, 103, 1547]) := rfl
set_option maxRecDepth 20000 in
theorem mkf_11_126 : mk 11 126 = some (11, 126, 170, 2, 0, [1548, 0, 0, 1549, 103, 1550]) := rfl
set_option maxRecDepth 20000 in
theorem mkf_11_168 : mk 11 168 = some (11, 168, 169, 0, 0, [1551, 1553, 35, 0, 103, 1554]) := rfl
set_option maxRecDepth 20000 in
theorem mkf_11_172 : mk 11 172 = some (11, 172, 188, 0, 0, [1555, 1557, 36, 0, 103, 1558]) := rfl
set_option maxRecDepth 20000 in
theorem mkf_11_114 : mk 11 114 = some (11, 114, 176, 0, 0, [1559, 1561, 37, 0, 103, 1562]) := rfl
set_option maxRecDepth 20000 in
theorem mkf_11_104 : mk 11 104 = some (11, 104, 175, 0, 0, [1563, 1565, 38, 0, 103, 1566]) := rfl
set_option maxRecDepth 20000 in
theorem mkf_11_175 : mk 11 175 = some (11, 175, 193, 0, 0, [1567, 1569, 39, 0, 103, 1570]) := rfl
set_option maxRecDepth 20000 in
theorem mkf_11_154 : mk 11 154 = some (11, 154, 191, 0, 0, [1571, 1573, 40, 0, 103, 1574]) := rfl
set_option maxRecDepth 20000 in
theorem mkf_11_141 : mk 11 141 = some (11, 141, 183, 0, 0, [1575, 1577, 41, 0, 103, 1578]) := rfl
set_option maxRecDepth 20000 in
theorem mkf_11_133 : mk 11 133 = some (11, 133, 181, 0, 0, [1579, 1581, 42, 0, 103, 1582]) := rfl
set_option maxRecDepth 20000 in
theorem mkf_11_130 : mk 11 130 = some (11, 130, 179, 2, 0, [1583, 0, 0, 1584, 103, 1585]) := rfl
set_option maxRecDepth 20000 in
theorem mkf_11_137 : mk 11 137 = some (11, 137, 182, 2, 0, [1586, 0, 0, 1587, 103, 1588]) := rfl
set_option maxRecDepth 20000 in
theorem mkf_11_121 : mk 11 121 = some (11, 121, 177, 0, 0, [1589, 1591, 43, 0, 103, 1592]) := rfl
set_option maxRecDepth 20000 in
theorem mkf_11_157 : mk 11 157 = some (11, 157, 192, 2, 0, [1593, 0, 0, 1594, 103, 1595]) := rfl
set_option maxRecDepth 20000 in
theorem mkf_11_145 : mk 11 145 = some (11, 145, 184, 0, 0, [1596, 1598, 44, 0, 103, 1599]) := rfl
set_option maxRecDepth 20000 in
theorem mkf_11_160 : mk 11 160 = some (11, 160, 180, 0, 0, [1600, 1602, 45, 0, 103, 1603]) := rfl
set_option maxRecDepth 20000 in
theorem mkf_11_117 : mk 11 117 = some (11, 117, 178, 2, 0, [1604, 0, 0, 1605, 103, 1606]) := rfl
set_option maxRecDepth 20000 in
theorem mkf_11_164 : mk 11 164 = some (11, 164, 186, 0, 0, [1608, 1610, 46, 0, 103, 1611]) := rfl
set_option maxRecDepth 20000 in
theorem mkf_11_178 : mk 11 178 = some (11, 178, 189, 0, 0, [1612, 1614, 47, 0, 103, 1615]) := rfl
set_option maxRecDepth 20000 in
theorem mkf_12_129 : mk 12 129 = some (12, 129, 204, 0, 0, [1616, 1617, 1618, 0, 103, 1619]) := rfl
set_option maxRecDepth 20000 in
theorem mkf_11_222 : mk 11 222 = some (11, 222, 200, 0, 0, [1620, 1622, 48, 0, 103, 1623]) := rfl
set_option maxRecDepth 20000 in
theorem mkf_11_203 : mk 11 203 = some (11, 203, 201, 0, 0, [1624, 1626, 49, 0, 103, 1627]) := rfl
set_option maxRecDepth 20000 in
theorem mkf_11_212 : mk 11 212 = some (11, 212, 203, 0, 0, [1628, 1630, 50, 0, 103, 1631]) := rfl
set_option maxRecDepth 20000 in
theorem mkf_11_218 : mk 11 218 = some (11, 218, 199, 0, 0, [1632, 1634, 51, 0, 103, 1635]) := rfl
set_option maxRecDepth 20000 in
theorem mkf_11_209 : mk 11 209 = some (11, 209, 198, 0, 0, [1636, 1638, 52, 0, 103, 1639]) := rfl
set_option maxRecDepth 20000 in
theorem mkf_11_225 : mk 11 225 = some (11, 225, 202, 0, 0, [1640, 1642, 53, 0, 103, 1643]) := rfl
set_option maxRecDepth 20000 in
theorem mkf_11_215 : mk 11 215 = some (11, 215, 185, 0, 0, [1644, 1646, 54, 0, 103, 1647]) := rfl
set_option maxRecDepth 20000 in
theorem mkf_11_206 : mk 11 206 = some (11, 206, 187, 0, 0, [1648, 1650, 55, 0, 103, 1651]) := rfl
set_option maxRecDepth 20000 in
theorem mkf_12_135 : mk 12 135 = some (12, 135, 209, 0, 0, [1652, 1653, 1654, 0, 103, 1655]) := rfl
set_option maxRecDepth 20000 in
theorem mkf_11_251 : mk 11 251 = some (11, 251, 173, 2, 0, [1656, 0, 0, 1657, 103, 1658]) := rfl
set_option maxRecDepth 20000 in
theorem mkf_12_139 : mk 12 139 = some (12, 139, 210, 0, 0, [1659, 1660, 1661, 0, 103, 1662]) := rfl
set_option maxRecDepth 20000 in
theorem mkf_12_132 : mk 12 132 = some (12, 132, 228, 0, 0, [1663, 1664, 1665, 0, 103, 1666]) := rfl
set_option maxRecDepth 20000 in
theorem mkf_11_248 : mk 11 248 = some (11, 248, 208, 0, 0, [1667, 1669, 56, 0, 103, 1670]) := rfl
set_option maxRecDepth 20000 in
theorem mkf_11_242 : mk 11 242 = some (11, 242, 207, 0, 0, [1671, 1673, 57, 0, 103, 1674]) := rfl
set_option maxRecDepth 20000 in
theorem mkf_11_238 : mk 11 238 = some (11, 238, 190, 0, 0, [1675, 1677, 58, 0, 103, 1678]) := rfl
set_option maxRecDepth 20000 in
theorem mkf_11_320 : mk 11 320 = some (11, 320, 196, 2, 0, [1679, 0, 0, 1680, 103, 1681]) := rfl
set_option maxRecDepth 20000 in
theorem mkf_11_310 : mk 11 310 = some (11, 310, 227, 0, 0, [1682, 1684, 59, 0, 103, 1685]) := rfl
set_option maxRecDepth 20000 in
theorem mkf_11_313 : mk 11 313 = some (11, 313, 226, 0, 0, [1686, 1688, 60, 0, 103, 1689]) := rfl
set_option maxRecDepth 20000 in
theorem mkf_11_289 : mk 11 289 = some (11, 289, 221, 0, 0, [1690, 1692, 61, 0, 103, 1693]) := rfl
set_option maxRecDepth 20000 in
theorem mkf_11_279 : mk 11 279 = some (11, 279, 219, 2, 0, [1694, 0, 0, 1695, 103, 1696]) := rfl
set_option maxRecDepth 20000 in
theorem mkf_11_257 : mk 11 257 = some (11, 257, 212, 2, 0, [1697, 0, 0, 1698, 103, 1699]) := rfl
set_option maxRecDepth 20000 in
theorem mkf_11_276 : mk 11 276 = some (11, 276, 218, 2, 0, [1700, 0, 0, 1701, 103, 1702]) := rfl
set_option maxRecDepth 20000 in
theorem mkf_11_282 : mk 11 282 = some (11, 282, 217, 0, 0, [1703, 1705, 62, 0, 103, 1706]) := rfl
set_option maxRecDepth 20000 in
theorem mkf_11_261 : mk 11 261 = some (11, 261, 213, 0, 0, [1707, 1709, 63, 0, 103, 1710]) := rfl
set_option maxRecDepth 20000 in
theorem mkf_11_265 : mk 11 265 = some (11, 265, 214, 0, 0, [1711, 1713, 64, 0, 103, 1714]) := rfl
set_option maxRecDepth 20000 in
theorem mkf_11_269 : mk 11 269 = some (11, 269, 216, 2, 0, [1715, 0, 0, 1716, 103, 1717]) := rfl
set_option maxRecDepth 20000 in
theorem mkf_11_272 : mk 11 272 = some (11, 272, 211, 0, 0, [1718, 1720, 65, 0, 103, 1721]) := rfl
set_option maxRecDepth 20000 in
theorem mkf_11_254 : mk 11 254 = some (11, 254, 206, 0, 0, [1722, 1724, 66, 0, 103, 1725]) := rfl
set_option maxRecDepth 20000 in
theorem mkf_11_234 : mk 11 234 = some (11, 234, 205, 2, 0, [1726, 0, 0, 1727, 103, 1728]) := rfl
set_option maxRecDepth 20000 in
theorem mkf_11_228 : mk 11 228 = some (11, 228, 171, 2, 0, [1729, 0, 0, 1730, 103, 1731]) := rfl
set_option maxRecDepth 20000 in
theorem mkf_11_231 : mk 11 231 = some (11, 231, 172, 2, 0, [1732, 0, 0, 1733, 103, 1734]) := rfl
set_option maxRecDepth 20000 in
theorem mkf_11_285 : mk 11 285 = some (11, 285, 220, 2, 0, [1735, 0, 0, 1736, 103, 1737]) := rfl
set_option maxRecDepth 20000 in
theorem mkf_11_292 : mk 11 292 = some (11, 292, 222, 2, 0, [1738, 0, 0, 1739, 103, 1740]) := rfl
set_option maxRecDepth 20000 in
theorem mkf_11_296 : mk 11 296 = some (11, 296, 224, 2, 0, [1741, 0, 0, 1742, 103, 1743]) := rfl
set_option maxRecDepth 20000 in
theorem mkf_11_300 : mk 11 300 = some (11, 300, 223, 2, 0, [1744, 0, 0, 1745, 103, 1746]) := rfl
set_option maxRecDepth 20000 in
theorem mkf_11_303 : mk 11 303 = some (11, 303, 225, 0, 0, [1747, 1749, 67, 0, 103, 1750]) := rfl
set_option maxRecDepth 20000 in
theorem mkf_12_143 : mk 12 143 = some (12, 143, 229, 0, 0, [1751, 1752, 1753, 0, 103, 1754]) := rfl
set_option maxRecDepth 20000 in
theorem mkf_12_146 : mk 12 146 = some (12, 146, 234, 0, 0, [1755, 1756, 1757, 0, 103, 1758]) := rfl
set_option maxRecDepth 20000 in
theorem mkf_11_324 : mk 11 324 = some (11, 324, 215, 0, 0, [1759, 1761, 68, 0, 103, 1762]) := rfl
set_option maxRecDepth 20000 in
theorem mkf_11_328 : mk 11 328 = some (11, 328, 231, 0, 0, [1763, 1765, 69, 0, 103, 1766]) := rfl
set_option maxRecDepth 20000 in
theorem mkf_11_331 : mk 11 331 = some (11, 331, 230, 0, 0, [1767, 1769, 70, 0, 103, 1770]) := rfl
set_option maxRecDepth 20000 in
theorem mkf_11_334 : mk 11 334 = some (11, 334, 232, 0, 0, [1771, 1773, 71, 0, 103, 1774]) := rfl
set_option maxRecDepth 20000 in
theorem mkf_11_337 : mk 11 337 = some (11, 337, 233, 0, 0, [1775, 1777, 72, 0, 103, 1778]) := rfl
set_option maxRecDepth 20000 in
theorem mkf_12_150 : mk 12 150 = some (12, 150, 238, 0, 0, [1779, 1780, 1781, 0, 103, 1782]) := rfl
set_option maxRecDepth 20000 in
theorem mkf_11_340 : mk 11 340 = some (11, 340, 235, 0, 0, [1783, 1785, 73, 0, 103, 1786]) := rfl
set_option maxRecDepth 20000 in
theorem mkf_11_343 : mk 11 343 = some (11, 343, 237, 0, 0, [1787, 1789, 74, 0, 103, 1790]) := rfl
set_option maxRecDepth 20000 in
theorem mkf_12_153 : mk 12 153 = some (12, 153, 239, 0, 0, [1791, 1792, 1793, 0, 103, 1794]) := rfl
set_option maxRecDepth 20000 in
theorem mkf_11_347 : mk 11 347 = some (11, 347, 236, 0, 0, [1795, 1797, 75, 0, 103, 1798]) := rfl
set_option maxRecDepth 20000 in
theorem mkf_12_157 : mk 12 157 = some (12, 157, 240, 0, 0, [1799, 1800, 1801, 0, 103, 1802]) := rfl
set_option maxRecDepth 20000 in
theorem mkf_12_160 : mk 12 160 = some (12, 160, 241, 0, 0, [1803, 1804, 1805, 0, 103, 1806]) := rfl
set_option maxRecDepth 20000 in
theorem mkf_12_163 : mk 12 163 = some (12, 163, 242, 0, 0, [1807, 1808, 1809, 0, 103, 1810]) := rfl
set_option maxRecDepth 20000 in
theorem mkf_12_166 : mk 12 166 = some (12, 166, 243, 0, 0, [1811, 1812, 1813, 0, 103, 1814]) := rfl
set_option maxRecDepth 20000 in
theorem mkf_12_169 : mk 12 169 = some (12, 169, 248, 0, 0, [1815, 1816, 1817, 0, 103, 1818]) := rfl
set_option maxRecDepth 20000 in
theorem mkf_11_350 : mk 11 350 = some (11, 350, 244, 0, 0, [1819, 1821, 76, 0, 103, 1822]) := rfl
set_option maxRecDepth 20000 in
theorem mkf_11_353 : mk 11 353 = some (11, 353, 247, 0, 0, [1823, 1825, 77, 0, 103, 1826]) := rfl
set_option maxRecDepth 20000 in
theorem mkf_11_356 : mk 11 356 = some (11, 356, 246, 0, 0, [1827, 1829, 78, 0, 103, 1830]) := rfl
set_option maxRecDepth 20000 in
theorem mkf_11_359 : mk 11 359 = some (11, 359, 245, 0, 0, [1831, 1833, 79, 0, 103, 1834]) := rfl
set_option maxRecDepth 20000 in
theorem mkf_12_172 : mk 12 172 = some (12, 172, 249, 0, 0, [1835, 1836, 1837, 0, 103, 1838]) := rfl
set_option maxRecDepth 20000 in
theorem mkf_12_175 : mk 12 175 = some (12, 175, 251, 0, 0, [1839, 1840, 1841, 0, 103, 1842]) := rfl
set_option maxRecDepth 20000 in
theorem mkf_11_362 : mk 11 362 = some (11, 362, 250, 0, 0, [1843, 1845, 80, 0, 103, 1846]) := rfl
set_option maxRecDepth 20000 in
theorem mkf_12_178 : mk 12 178 = some (12, 178, 252, 0, 0, [1847, 1848, 1849, 0, 103, 1850]) := rfl
set_option maxRecDepth 20000 in
theorem mkf_12_207 : mk 12 207 = some (12, 207, 253, 0, 0, [1851, 1852, 1853, 0, 103, 1854]) := rfl
set_option maxRecDepth 20000 in
theorem mkf_12_210 : mk 12 210 = some (12, 210, 254, 0, 0, [1855, 1856, 1857, 0, 103, 1858]) := rfl
set_option maxRecDepth 20000 in
theorem mkf_12_214 : mk 12 214 = some (12, 214, 255, 0, 0, [1859, 1860, 1861, 0, 103, 1862]) := rfl
set_option maxRecDepth 20000 in
theorem mkf_12_217 : mk 12 217 = some (12, 217, 256, 0, 0, [1863, 1864, 1865, 0, 103, 1866]) := rfl
set_option maxRecDepth 20000 in
theorem mkf_12_181 : mk 12 181 = some (12, 181, 258, 0, 0, [1867, 1868, 1869, 0, 103, 1870]) := rfl
set_option maxRecDepth 20000 in
theorem mkf_11_365 : mk 11 365 = some (11, 365, 257, 0, 0, [1871, 1873, 81, 0, 103, 1874]) := rfl
set_option maxRecDepth 20000 in
theorem mkf_12_184 : mk 12 184 = some (12, 184, 261, 0, 0, [1875, 1876, 1877, 0, 103, 1878]) := rfl
set_option maxRecDepth 20000 in
theorem mkf_11_368 : mk 11 368 = some (11, 368, 259, 0, 0, [1879, 1881, 82, 0, 103, 1882]) := rfl
set_option maxRecDepth 20000 in
theorem mkf_11_371 : mk 11 371 = some (11, 371, 260, 0, 0, [1883, 1885, 83, 0, 103, 1886]) := rfl
set_option maxRecDepth 20000 in
theorem mkf_12_187 : mk 12 187 = some (12, 187, 262, 0, 0, [1887, 1888, 1889, 0, 103, 1890]) := rfl
set_option maxRecDepth 20000 in
theorem mkf_12_191 : mk 12 191 = some (12, 191, 265, 0, 0, [1891, 1892, 1893, 0, 103, 1894]) := rfl
set_option maxRecDepth 20000 in
theorem mkf_11_378 : mk 11 378 = some (11, 378, 264, 2, 0, [1895, 0, 0, 1896, 103, 1897]) := rfl
set_option maxRecDepth 20000 in
theorem mkf_11_374 : mk 11 374 = some (11, 374, 263, 2, 0, [1898, 0, 0, 1899, 103, 1900]) := rfl
set_option maxRecDepth 20000 in
theorem mkf_12_195 : mk 12 195 = some (12, 195, 266, 0, 0, [1901, 1902, 1903, 0, 103, 1904]) := rfl
set_option maxRecDepth 20000 in
theorem mkf_12_198 : mk 12 198 = some (12, 198, 268, 0, 0, [1905, 1906, 1907, 0, 103, 1908]) := rfl
set_option maxRecDepth 20000 in
theorem mkf_11_382 : mk 11 382 = some (11, 382, 267, 0, 0, [1909, 1911, 84, 0, 103, 1912]) := rfl
set_option maxRecDepth 20000 in
theorem mkf_12_201 : mk 12 201 = some (12, 201, 269, 0, 0, [1913, 1914, 1915, 0, 103, 1916]) := rfl
set_option maxRecDepth 20000 in
theorem mkf_12_220 : mk 12 220 = some (12, 220, 270, 0, 0, [1917, 1918, 1919, 0, 103, 1920]) := rfl
set_option maxRecDepth 20000 in
theorem mkf_12_224 : mk 12 224 = some (12, 224, 271, 0, 0, [1921, 1922, 1923, 0, 103, 1924]) := rfl
set_option maxRecDepth 20000 in
theorem mkf_12_204 : mk 12 204 = some (12, 204, 272, 0, 0, [1925, 1926, 1927, 0, 103, 1928]) := rfl
set_option maxRecDepth 20000 in
theorem mkf_12_227 : mk 12 227 = some (12, 227, 277, 0, 0, [1929, 1930, 1931, 0, 103, 1932]) := rfl
set_option maxRecDepth 20000 in
theorem mkf_11_392 : mk 11 392 = some (11, 392, 276, 2, 0, [1933, 0, 0, 1934, 103, 1935]) := rfl
set_option maxRecDepth 20000 in
theorem mkf_11_395 : mk 11 395 = some (11, 395, 274, 0, 0, [1936, 1938, 85, 0, 103, 1939]) := rfl
set_option maxRecDepth 20000 in
theorem mkf_11_389 : mk 11 389 = some (11, 389, 273, 0, 0, [1940, 1942, 86, 0, 103, 1943]) := rfl
set_option maxRecDepth 20000 in
theorem mkf_11_399 : mk 11 399 = some (11, 399, 275, 0, 0, [1945, 1947, 87, 0, 103, 1948]) := rfl
set_option maxRecDepth 20000 in
theorem mkf_12_231 : mk 12 231 = some (12, 231, 278, 0, 0, [1949, 1950, 1951, 0, 103, 1952]) := rfl
set_option maxRecDepth 20000 in
theorem mkf_12_235 : mk 12 235 = some (12, 235, 281, 0, 0, [1953, 1954, 1955, 0, 103, 1956]) := rfl
set_option maxRecDepth 20000 in
theorem mkf_11_409 : mk 11 409 = some (11, 409, 280, 0, 0, [1957, 1959, 88, 0, 103, 1960]) := rfl
set_option maxRecDepth 20000 in
theorem mkf_11_405 : mk 11 405 = some (11, 405, 279, 0, 0, [1961, 1963, 89, 0, 103, 1964]) := rfl
set_option maxRecDepth 20000 in
theorem mkf_12_239 : mk 12 239 = some (12, 239, 282, 0, 0, [1965, 1966, 1967, 0, 103, 1968]) := rfl
set_option maxRecDepth 20000 in
theorem mkf_12_243 : mk 12 243 = some (12, 243, 283, 0, 0, [1969, 1970, 1971, 0, 103, 1972]) := rfl
set_option maxRecDepth 20000 in
theorem mkf_12_247 : mk 12 247 = some (12, 247, 284, 0, 0, [1973, 1974, 1975, 0, 103, 1976]) := rfl
