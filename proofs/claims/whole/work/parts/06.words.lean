theorem am_in_ws {ws : List Cond} (ps : List Nat) (h : ws = ps.filterMap (fun i => lw_tbl[i]?)) (g : ws.all goodWord = true) : ∀ w ∈ ws, w ∈ am_gd := by
  intro w hw
  refine List.mem_filter.mpr ⟨?_, List.all_eq_true.mp g w hw⟩
  rw [h] at hw
  obtain ⟨i, -, hi⟩ := List.mem_filterMap.mp hw
  exact List.mem_of_getElem? hi
theorem clX0 : vwCl[0]? = some (RX0, TX0, 12) := rfl
theorem inX0 : ∀ w ∈ u_ws RX0 TX0 12, w ∈ am_gd := am_in_ws [435, 437, 439, 441, 443, 445, 447, 449, 451, 453, 455, 457] iw_X0 ig_X0
theorem clX1 : vwCl[1]? = some (RX1, TX1, 4) := rfl
theorem inX1 : ∀ w ∈ u_ws RX1 TX1 4, w ∈ am_gd := am_in_ws [470, 472, 474, 476] iw_X1 ig_X1
theorem clX2 : vwCl[2]? = some (RX2, TX2, 4) := rfl
theorem inX2 : ∀ w ∈ u_ws RX2 TX2 4, w ∈ am_gd := am_in_ws [284, 286, 288, 290] iw_X2 ig_X2
theorem clX3 : vwCl[3]? = some (RX3, TX3, 7) := rfl
theorem inX3 : ∀ w ∈ u_ws RX3 TX3 7, w ∈ am_gd := am_in_ws [313, 315, 317, 319, 321, 323, 325] iw_X3 ig_X3
theorem clX4 : vwCl[4]? = some (RX4, TX4, 6) := rfl
theorem inX4 : ∀ w ∈ u_ws RX4 TX4 6, w ∈ am_gd := am_in_ws [493, 495, 497, 499, 501, 503] iw_X4 ig_X4
theorem clX5 : vwCl[5]? = some (RX5, TX5, 4) := rfl
theorem inX5 : ∀ w ∈ u_ws RX5 TX5 4, w ∈ am_gd := am_in_ws [374, 376, 378, 380] iw_X5 ig_X5
theorem clX6 : vwCl[6]? = some (RX6, TX6, 8) := rfl
theorem inX6 : ∀ w ∈ u_ws RX6 TX6 8, w ∈ am_gd := am_in_ws [399, 401, 403, 405, 407, 409, 411, 413] iw_X6 ig_X6
theorem clX7 : vwCl[7]? = some (RX7, TX7, 7) := rfl
theorem inX7 : ∀ w ∈ u_ws RX7 TX7 7, w ∈ am_gd := am_in_ws [348, 350, 352, 354, 356, 358, 360] iw_X7 ig_X7
theorem clX8 : vwCl[8]? = some (RX8, TX8, 2) := rfl
theorem inX8 : ∀ w ∈ u_ws RX8 TX8 2, w ∈ am_gd := am_in_ws [160, 162] iw_X8 ig_X8
theorem clX9 : vwCl[9]? = some (RX9, TX9, 15) := rfl
theorem inX9 : ∀ w ∈ u_ws RX9 TX9 15, w ∈ am_gd := am_in_ws [216, 218, 220, 222, 224, 226, 228, 230, 232, 234, 236, 238, 240, 242, 244] iw_X9 ig_X9
theorem clX10 : vwCl[10]? = some (RX10, TX10, 6) := rfl
theorem inX10 : ∀ w ∈ u_ws RX10 TX10 6, w ∈ am_gd := am_in_ws [259, 261, 263, 265, 267, 269] iw_X10 ig_X10
theorem clX11 : vwCl[11]? = some (RX11, TX11, 15) := rfl
theorem inX11 : ∀ w ∈ u_ws RX11 TX11 15, w ∈ am_gd := am_in_ws [521, 523, 525, 527, 529, 531, 533, 535, 537, 539, 541, 543, 545, 547, 549] iw_X11 ig_X11
theorem clX12 : vwCl[12]? = some (RX12, TX12, 44) := rfl
theorem inX12 : ∀ w ∈ u_ws RX12 TX12 44, w ∈ am_gd := am_in_ws [1521, 1523, 1525, 1527, 1529, 1531, 1533, 1535, 1537, 1539, 1541, 1543, 1545, 1547, 1549, 1551, 1553, 1555, 1557, 1559, 1561, 1563, 1565, 1567, 1569, 1571, 1573, 1575, 1577, 1579, 1581, 1583, 1585, 1587, 1589, 1591, 1593, 1595, 1597, 1599, 1601, 1603, 1605, 1607] iw_X12 ig_X12
theorem cb_10 : (Int8.ofInt 10).toInt32 = (10 : Int32) := by decide
theorem cb_100 : (Int8.ofInt 100).toInt32 = (100 : Int32) := by decide
theorem cb_103 : (Int8.ofInt 103).toInt32 = (103 : Int32) := by decide
theorem cb_105 : (Int8.ofInt 105).toInt32 = (105 : Int32) := by decide
theorem cb_107 : (Int8.ofInt 107).toInt32 = (107 : Int32) := by decide
theorem cb_109 : (Int8.ofInt 109).toInt32 = (109 : Int32) := by decide
theorem cb_11 : (Int8.ofInt 11).toInt32 = (11 : Int32) := by decide
theorem cb_110 : (Int8.ofInt 110).toInt32 = (110 : Int32) := by decide
theorem cb_111 : (Int8.ofInt 111).toInt32 = (111 : Int32) := by decide
theorem cb_112 : (Int8.ofInt 112).toInt32 = (112 : Int32) := by decide
theorem cb_115 : (Int8.ofInt 115).toInt32 = (115 : Int32) := by decide
theorem cb_118 : (Int8.ofInt 118).toInt32 = (118 : Int32) := by decide
theorem cb_119 : (Int8.ofInt 119).toInt32 = (119 : Int32) := by decide
theorem cb_12 : (Int8.ofInt 12).toInt32 = (12 : Int32) := by decide
theorem cb_120 : (Int8.ofInt 120).toInt32 = (120 : Int32) := by decide
theorem cb_121 : (Int8.ofInt 121).toInt32 = (121 : Int32) := by decide
theorem cb_124 : (Int8.ofInt 124).toInt32 = (124 : Int32) := by decide
theorem cb_15 : (Int8.ofInt 15).toInt32 = (15 : Int32) := by decide
theorem cb_16 : (Int8.ofInt 16).toInt32 = (16 : Int32) := by decide
theorem cb_20 : (Int8.ofInt 20).toInt32 = (20 : Int32) := by decide
theorem cb_21 : (Int8.ofInt 21).toInt32 = (21 : Int32) := by decide
theorem cb_24 : (Int8.ofInt 24).toInt32 = (24 : Int32) := by decide
theorem cb_25 : (Int8.ofInt 25).toInt32 = (25 : Int32) := by decide
theorem cb_26 : (Int8.ofInt 26).toInt32 = (26 : Int32) := by decide
theorem cb_31 : (Int8.ofInt 31).toInt32 = (31 : Int32) := by decide
theorem cb_32 : (Int8.ofInt 32).toInt32 = (32 : Int32) := by decide
theorem cb_33 : (Int8.ofInt 33).toInt32 = (33 : Int32) := by decide
theorem cb_38 : (Int8.ofInt 38).toInt32 = (38 : Int32) := by decide
theorem cb_40 : (Int8.ofInt 40).toInt32 = (40 : Int32) := by decide
theorem cb_41 : (Int8.ofInt 41).toInt32 = (41 : Int32) := by decide
theorem cb_42 : (Int8.ofInt 42).toInt32 = (42 : Int32) := by decide
theorem cb_43 : (Int8.ofInt 43).toInt32 = (43 : Int32) := by decide
theorem cb_45 : (Int8.ofInt 45).toInt32 = (45 : Int32) := by decide
theorem cb_47 : (Int8.ofInt 47).toInt32 = (47 : Int32) := by decide
theorem cb_48 : (Int8.ofInt 48).toInt32 = (48 : Int32) := by decide
theorem cb_57 : (Int8.ofInt 57).toInt32 = (57 : Int32) := by decide
theorem cb_58 : (Int8.ofInt 58).toInt32 = (58 : Int32) := by decide
theorem cb_59 : (Int8.ofInt 59).toInt32 = (59 : Int32) := by decide
theorem cb_6 : (Int8.ofInt 6).toInt32 = (6 : Int32) := by decide
theorem cb_60 : (Int8.ofInt 60).toInt32 = (60 : Int32) := by decide
theorem cb_61 : (Int8.ofInt 61).toInt32 = (61 : Int32) := by decide
theorem cb_62 : (Int8.ofInt 62).toInt32 = (62 : Int32) := by decide
theorem cb_63 : (Int8.ofInt 63).toInt32 = (63 : Int32) := by decide
theorem cb_7 : (Int8.ofInt 7).toInt32 = (7 : Int32) := by decide
theorem cb_74 : (Int8.ofInt 74).toInt32 = (74 : Int32) := by decide
theorem cb_75 : (Int8.ofInt 75).toInt32 = (75 : Int32) := by decide
theorem cb_8 : (Int8.ofInt 8).toInt32 = (8 : Int32) := by decide
theorem cb_84 : (Int8.ofInt 84).toInt32 = (84 : Int32) := by decide
theorem cb_9 : (Int8.ofInt 9).toInt32 = (9 : Int32) := by decide
theorem cb_91 : (Int8.ofInt 91).toInt32 = (91 : Int32) := by decide
theorem cb_93 : (Int8.ofInt 93).toInt32 = (93 : Int32) := by decide
theorem cb_98 : (Int8.ofInt 98).toInt32 = (98 : Int32) := by decide
theorem cb_m11 : (Int8.ofInt (-11)).toInt32 = ((-11) : Int32) := by decide
theorem cb_m12 : (Int8.ofInt (-12)).toInt32 = ((-12) : Int32) := by decide
theorem cb_m13 : (Int8.ofInt (-13)).toInt32 = ((-13) : Int32) := by decide
theorem cb_m14 : (Int8.ofInt (-14)).toInt32 = ((-14) : Int32) := by decide
theorem cb_m15 : (Int8.ofInt (-15)).toInt32 = ((-15) : Int32) := by decide
theorem cb_m16 : (Int8.ofInt (-16)).toInt32 = ((-16) : Int32) := by decide
theorem cb_m17 : (Int8.ofInt (-17)).toInt32 = ((-17) : Int32) := by decide
theorem cb_m18 : (Int8.ofInt (-18)).toInt32 = ((-18) : Int32) := by decide
theorem cb_m19 : (Int8.ofInt (-19)).toInt32 = ((-19) : Int32) := by decide
theorem cb_m2 : (Int8.ofInt (-2)).toInt32 = ((-2) : Int32) := by decide
theorem cb_m20 : (Int8.ofInt (-20)).toInt32 = ((-20) : Int32) := by decide
theorem cb_m21 : (Int8.ofInt (-21)).toInt32 = ((-21) : Int32) := by decide
theorem cb_m22 : (Int8.ofInt (-22)).toInt32 = ((-22) : Int32) := by decide
theorem cb_m7 : (Int8.ofInt (-7)).toInt32 = ((-7) : Int32) := by decide
theorem ci_0 : Int32.ofInt 0 = (0 : Int32) := by decide
theorem ci_1 : Int32.ofInt 1 = (1 : Int32) := by decide
theorem ci_2 : Int32.ofInt 2 = (2 : Int32) := by decide
theorem ci_3 : Int32.ofInt 3 = (3 : Int32) := by decide
theorem ci_4 : Int32.ofInt 4 = (4 : Int32) := by decide
theorem ci_5 : Int32.ofInt 5 = (5 : Int32) := by decide
theorem ci_m1 : Int32.ofInt (-1) = ((-1) : Int32) := by decide
theorem ci_m8 : Int32.ofInt (-8) = ((-8) : Int32) := by decide
theorem cl__0 : Int64.ofNat ((0 : Fin 2) : Nat) = (0 : Int64) := by decide
theorem cl__1 : Int64.ofNat ((1 : Fin 2) : Nat) = (1 : Int64) := by decide
theorem cn_10 : Int32.ofNat 10 = (10 : Int32) := by decide
theorem cn_21 : Int32.ofNat 21 = (21 : Int32) := by decide
theorem cn_240 : Int32.ofNat 240 = (240 : Int32) := by decide
theorem cn_3 : Int32.ofNat 3 = (3 : Int32) := by decide
theorem cn_6 : Int32.ofNat 6 = (6 : Int32) := by decide
theorem cn_8 : Int32.ofNat 8 = (8 : Int32) := by decide
theorem cn_84 : Int32.ofNat 84 = (84 : Int32) := by decide
theorem cn_88200 : Int32.ofNat 88200 = (88200 : Int32) := by decide
theorem cs_1000 : (Int16.ofInt 1000).toInt32 = (1000 : Int32) := by decide
theorem cs_140 : (Int16.ofInt 140).toInt32 = (140 : Int32) := by decide
theorem cs_1771 : (Int16.ofInt 1771).toInt32 = (1771 : Int32) := by decide
theorem cs_180 : (Int16.ofInt 180).toInt32 = (180 : Int32) := by decide
theorem cs_206 : (Int16.ofInt 206).toInt32 = (206 : Int32) := by decide
theorem cs_240 : (Int16.ofInt 240).toInt32 = (240 : Int32) := by decide
theorem cs_255 : (Int16.ofInt 255).toInt32 = (255 : Int32) := by decide
theorem cs_420 : (Int16.ofInt 420).toInt32 = (420 : Int32) := by decide
theorem cs_520 : (Int16.ofInt 520).toInt32 = (520 : Int32) := by decide
theorem cs_8240 : (Int16.ofInt 8240).toInt32 = (8240 : Int32) := by decide
theorem cs_999 : (Int16.ofInt 999).toInt32 = (999 : Int32) := by decide
theorem cs_9999 : (Int16.ofInt 9999).toInt32 = (9999 : Int32) := by decide
theorem cs_m999 : (Int16.ofInt (-999)).toInt32 = ((-999) : Int32) := by decide
theorem kw_1000 : Cond.methodLink RX11 279 yX7_beginNextDay ∈ am_gd := am_mem 1000 kv_1000 rfl
theorem kw_1008 : Cond.methodLink RX11 282 yX11_marchOneMan ∈ am_gd := am_mem 1008 kv_1008 rfl
theorem kw_1012 : Cond.methodLink RX11 285 yX11_draw ∈ am_gd := am_mem 1012 kv_1012 rfl
theorem kw_1016 : Cond.constantLong RX11 291 (6364136223846793005 : Int64) ∈ am_gd := am_mem 1016 kv_1016 rfl
theorem kw_1017 : Cond.constantLong RX11 293 (1442695040888963407 : Int64) ∈ am_gd := am_mem 1017 kv_1017 rfl
theorem kw_1018 : Cond.methodLink RX11 288 yX7_lowestToPress ∈ am_gd := am_mem 1018 kv_1018 rfl
theorem kw_1022 : Cond.methodLink RX7 114 yX7_canPress ∈ am_gd := am_mem 1022 kv_1022 rfl
theorem kw_1027 : Cond.methodLink RX11 295 yX6_undoAct ∈ am_gd := am_mem 1027 kv_1027 rfl
theorem kw_1031 : Cond.methodLink RX6 54 yX7_unpack ∈ am_gd := am_mem 1031 kv_1031 rfl
theorem kw_1039 : Cond.methodLink RX11 298 yX5_line ∈ am_gd := am_mem 1039 kv_1039 rfl
theorem kw_1043 : Cond.methodLink RX11 301 yX5_whatOf ∈ am_gd := am_mem 1043 kv_1043 rfl
theorem kw_1046 : Cond.methodLink RX11 304 yX5_whoOf ∈ am_gd := am_mem 1046 kv_1046 rfl
theorem kw_1049 : Cond.methodLink RX11 307 yX5_whomOf ∈ am_gd := am_mem 1049 kv_1049 rfl
theorem kw_1056 : Cond.methodLink RX11 310 yX6_keepImage ∈ am_gd := am_mem 1056 kv_1056 rfl
theorem kw_1060 : Cond.methodLink RX6 60 yX5_keepImage ∈ am_gd := am_mem 1060 kv_1060 rfl
theorem kw_1064 : Cond.methodLink RX5 36 yX5_length ∈ am_gd := am_mem 1064 kv_1064 rfl
theorem kw_1065 : Cond.methodLink RX5 40 yX5_line ∈ am_gd := am_mem 1065 kv_1065 rfl
theorem kw_1070 : Cond.methodLink RX11 317 yX6_bringImageBack ∈ am_gd := am_mem 1070 kv_1070 rfl
theorem kw_1074 : Cond.methodLink RX6 63 yX5_bringImageBack ∈ am_gd := am_mem 1074 kv_1074 rfl
theorem kw_1082 : Cond.methodLink RX11 320 yX11_mayDuel ∈ am_gd := am_mem 1082 kv_1082 rfl
theorem kw_1086 : Cond.methodLink RX11 323 yX11_makeDuelReady ∈ am_gd := am_mem 1086 kv_1086 rfl
theorem kw_1090 : Cond.methodLink RX11 355 yX11_farthestPlace ∈ am_gd := am_mem 1090 kv_1090 rfl
theorem kw_1094 : Cond.methodLink RX11 326 yX11_placeOf ∈ am_gd := am_mem 1094 kv_1094 rfl
theorem kw_1098 : Cond.methodLink RX11 353 yX0_place ∈ am_gd := am_mem 1098 kv_1098 rfl
theorem kw_1102 : Cond.methodLink RX11 362 yJ9_max_7cf53 ∈ am_gd := am_mem 1102 kv_1102 rfl
theorem kw_1103 : Cond.methodLink RX11 358 yX0_prepare ∈ am_gd := am_mem 1103 kv_1103 rfl
theorem kw_1107 : Cond.methodLink RX0 54 yJ9_min_7cf53 ∈ am_gd := am_mem 1107 kv_1107 rfl
theorem kw_1108 : Cond.methodLink RX0 60 yX0_findPressed ∈ am_gd := am_mem 1108 kv_1108 rfl
theorem kw_1112 : Cond.methodLink RX0 67 yJ9_max_7cf53 ∈ am_gd := am_mem 1112 kv_1112 rfl
theorem kw_1113 : Cond.methodLink RX0 64 yX0_settleAll ∈ am_gd := am_mem 1113 kv_1113 rfl
theorem kw_1117 : Cond.methodLink RX0 70 yX0_best ∈ am_gd := am_mem 1117 kv_1117 rfl
theorem kw_1121 : Cond.methodLink RX0 74 yX0_answered ∈ am_gd := am_mem 1121 kv_1121 rfl
theorem kw_1124 : Cond.methodLink RX11 329 yX0_isWon ∈ am_gd := am_mem 1124 kv_1124 rfl
theorem kw_1128 : Cond.methodLink RX0 78 yX0_settled ∈ am_gd := am_mem 1128 kv_1128 rfl
theorem kw_1132 : Cond.methodLink RX11 332 yX0_turns ∈ am_gd := am_mem 1132 kv_1132 rfl
theorem kw_1136 : Cond.methodLink RX0 81 yJ9_abs_0f7a4 ∈ am_gd := am_mem 1136 kv_1136 rfl
theorem kw_1139 : Cond.methodLink RX11 336 yX0_deed ∈ am_gd := am_mem 1139 kv_1139 rfl
theorem kw_1147 : Cond.methodLink RX11 339 yJ9_min_7cf53 ∈ am_gd := am_mem 1147 kv_1147 rfl
theorem kw_1152 : Cond.methodLink RX11 344 yX11_isSideOfWar ∈ am_gd := am_mem 1152 kv_1152 rfl
theorem kw_1156 : Cond.methodLink RX11 347 yX11_countWins ∈ am_gd := am_mem 1156 kv_1156 rfl
theorem kw_1160 : Cond.methodLink RX11 350 yX11_countWinsOfSpeeds ∈ am_gd := am_mem 1160 kv_1160 rfl
theorem kw_1172 : Cond.methodLink RX11 365 yX1_gather ∈ am_gd := am_mem 1172 kv_1172 rfl
theorem kw_1176 : Cond.methodLink RX1 33 yX7_isHome ∈ am_gd := am_mem 1176 kv_1176 rfl
theorem kw_1177 : Cond.methodLink RX1 39 yX7_hasRest ∈ am_gd := am_mem 1177 kv_1177 rfl
theorem kw_1178 : Cond.methodLink RX1 42 yX1_broughtHomeBy ∈ am_gd := am_mem 1178 kv_1178 rfl
theorem kw_1182 : Cond.methodLink RX1 46 yX7_canGo ∈ am_gd := am_mem 1182 kv_1182 rfl
theorem kw_1183 : Cond.methodLink RX11 368 yX1_most ∈ am_gd := am_mem 1183 kv_1183 rfl
theorem kw_1187 : Cond.methodLink RX1 55 yX9_allBits ∈ am_gd := am_mem 1187 kv_1187 rfl
theorem kw_1191 : Cond.methodLink RX1 59 yX1_mostFrom ∈ am_gd := am_mem 1191 kv_1191 rfl
theorem kw_1195 : Cond.methodLink RX1 63 yJ9_max_7cf53 ∈ am_gd := am_mem 1195 kv_1195 rfl
theorem kw_1196 : Cond.methodLink RX11 371 yX1_leastRow ∈ am_gd := am_mem 1196 kv_1196 rfl
theorem kw_1200 : Cond.methodLink RX1 68 yX1_most ∈ am_gd := am_mem 1200 kv_1200 rfl
theorem kw_1201 : Cond.methodLink RX1 71 yX1_lowestThatLeaves ∈ am_gd := am_mem 1201 kv_1201 rfl
theorem kw_1209 : Cond.methodLink RX11 374 yX11_loopholeBits ∈ am_gd := am_mem 1209 kv_1209 rfl
theorem kw_1213 : Cond.methodLink RX11 377 yX7_isHomeBy ∈ am_gd := am_mem 1213 kv_1213 rfl
theorem kw_1218 : Cond.methodLink RX11 383 yJ6_bitCount_0f7a4 ∈ am_gd := am_mem 1218 kv_1218 rfl
theorem kw_1221 : Cond.constant RJ6 265 (1431655765 : Int32) ∈ am_gd := am_mem 1221 kv_1221 rfl
theorem kw_1222 : Cond.constant RJ6 266 (858993459 : Int32) ∈ am_gd := am_mem 1222 kv_1222 rfl
theorem kw_1223 : Cond.constant RJ6 267 (252645135 : Int32) ∈ am_gd := am_mem 1223 kv_1223 rfl
theorem kw_1224 : Cond.methodLink RX11 388 yX3_throughAll ∈ am_gd := am_mem 1224 kv_1224 rfl
theorem kw_1240 : Cond.methodLink RX11 391 yX11_pressOnDay ∈ am_gd := am_mem 1240 kv_1240 rfl
theorem kw_1248 : Cond.methodLink RX11 394 yX11_pony ∈ am_gd := am_mem 1248 kv_1248 rfl
theorem kw_1252 : Cond.methodLink RX11 400 yX11_farthest ∈ am_gd := am_mem 1252 kv_1252 rfl
theorem kw_1261 : Cond.methodLink RX11 403 yX9_allBits ∈ am_gd := am_mem 1261 kv_1261 rfl
theorem kw_1282 : Cond.methodLink RX11 406 yJ9_abs_0f7a4 ∈ am_gd := am_mem 1282 kv_1282 rfl
theorem kw_1291 : Cond.methodLink RX11 409 yX9_hasSet ∈ am_gd := am_mem 1291 kv_1291 rfl
theorem kw_1295 : Cond.methodLink RX9 63 yX9_allBits ∈ am_gd := am_mem 1295 kv_1295 rfl
theorem kw_1296 : Cond.methodLink RX11 412 yX9_share ∈ am_gd := am_mem 1296 kv_1296 rfl
theorem kw_1304 : Cond.methodLink RX11 415 yX9_isAtRest ∈ am_gd := am_mem 1304 kv_1304 rfl
theorem kw_1308 : Cond.methodLink RX9 67 yX9_share ∈ am_gd := am_mem 1308 kv_1308 rfl
theorem kw_1313 : Cond.methodLink RX11 418 yX4_add ∈ am_gd := am_mem 1313 kv_1313 rfl
theorem kw_1321 : Cond.methodLink RX11 420 yX4_isSize ∈ am_gd := am_mem 1321 kv_1321 rfl
theorem kw_1324 : Cond.methodLink RX11 423 yX4_beginRows ∈ am_gd := am_mem 1324 kv_1324 rfl
theorem kw_1328 : Cond.methodLink RX11 426 yX4_rowFits ∈ am_gd := am_mem 1328 kv_1328 rfl
theorem kw_1332 : Cond.methodLink RX4 37 yX4_howMany ∈ am_gd := am_mem 1332 kv_1332 rfl
theorem kw_1336 : Cond.methodLink RX11 429 yX4_rowNumber ∈ am_gd := am_mem 1336 kv_1336 rfl
theorem kw_1340 : Cond.methodLink RX11 432 yX4_nextRow ∈ am_gd := am_mem 1340 kv_1340 rfl
theorem kw_1344 : Cond.methodLink RX4 31 yJ9_min_7cf53 ∈ am_gd := am_mem 1344 kv_1344 rfl
theorem kw_1349 : Cond.methodLink RX11 435 yX4_tally ∈ am_gd := am_mem 1349 kv_1349 rfl
theorem kw_1353 : Cond.constant RX4 40 (2097151 : Int32) ∈ am_gd := am_mem 1353 kv_1353 rfl
theorem kw_1354 : Cond.methodLink RX4 41 yX4_beginRows ∈ am_gd := am_mem 1354 kv_1354 rfl
theorem kw_1355 : Cond.methodLink RX4 44 yX4_rowFits ∈ am_gd := am_mem 1355 kv_1355 rfl
theorem kw_1356 : Cond.methodLink RX4 48 yX4_rowBits ∈ am_gd := am_mem 1356 kv_1356 rfl
theorem kw_1360 : Cond.methodLink RX4 52 yX4_tallyRow ∈ am_gd := am_mem 1360 kv_1360 rfl
theorem kw_1364 : Cond.methodLink RX4 56 yX4_nextRow ∈ am_gd := am_mem 1364 kv_1364 rfl
theorem kw_1365 : Cond.methodLink RX11 438 yX4_bestQuestion ∈ am_gd := am_mem 1365 kv_1365 rfl
theorem kw_1369 : Cond.methodLink RX4 62 yX4_mostFrequent ∈ am_gd := am_mem 1369 kv_1369 rfl
theorem kw_1373 : Cond.methodLink RX4 59 yJ9_max_7cf53 ∈ am_gd := am_mem 1373 kv_1373 rfl
theorem kw_1374 : Cond.methodLink RX11 441 yX4_mostFrequent ∈ am_gd := am_mem 1374 kv_1374 rfl
theorem kw_1383 : Cond.methodLink RX11 447 yX11_isOddsSpan ∈ am_gd := am_mem 1383 kv_1383 rfl
theorem kw_1386 : Cond.methodLink RX11 450 yX11_partsAtHome ∈ am_gd := am_mem 1386 kv_1386 rfl
theorem kw_1390 : Cond.constantLong RX11 453 (1000000000 : Int64) ∈ am_gd := am_mem 1390 kv_1390 rfl
theorem kw_1391 : Cond.constantLong RX11 455 (10 : Int64) ∈ am_gd := am_mem 1391 kv_1391 rfl
theorem kw_1477 : Cond.fieldLink RX12 91 (TX12 0).1 (TX12 0).2.1 (TX12 0).2.2.1 ∈ am_gd := am_mem 1477 kv_1477 rfl
theorem kw_1478 : Cond.fieldLink RX12 9 (TX12 1).1 (TX12 1).2.1 (TX12 1).2.2.1 ∈ am_gd := am_mem 1478 kv_1478 rfl
theorem kw_1479 : Cond.fieldLink RX12 98 (TX12 2).1 (TX12 2).2.1 (TX12 2).2.2.1 ∈ am_gd := am_mem 1479 kv_1479 rfl
theorem kw_1480 : Cond.fieldLink RX12 101 (TX12 3).1 (TX12 3).2.1 (TX12 3).2.2.1 ∈ am_gd := am_mem 1480 kv_1480 rfl
theorem kw_1481 : Cond.fieldLink RX12 108 (TX12 4).1 (TX12 4).2.1 (TX12 4).2.2.1 ∈ am_gd := am_mem 1481 kv_1481 rfl
theorem kw_1482 : Cond.fieldLink RX12 114 (TX12 5).1 (TX12 5).2.1 (TX12 5).2.2.1 ∈ am_gd := am_mem 1482 kv_1482 rfl
theorem kw_1483 : Cond.fieldLink RX12 13 (TX12 6).1 (TX12 6).2.1 (TX12 6).2.2.1 ∈ am_gd := am_mem 1483 kv_1483 rfl
theorem kw_1484 : Cond.fieldLink RX12 16 (TX12 7).1 (TX12 7).2.1 (TX12 7).2.2.1 ∈ am_gd := am_mem 1484 kv_1484 rfl
theorem kw_1485 : Cond.fieldLink RX12 19 (TX12 8).1 (TX12 8).2.1 (TX12 8).2.2.1 ∈ am_gd := am_mem 1485 kv_1485 rfl
theorem kw_1486 : Cond.fieldLink RX12 22 (TX12 9).1 (TX12 9).2.1 (TX12 9).2.2.1 ∈ am_gd := am_mem 1486 kv_1486 rfl
theorem kw_1487 : Cond.fieldLink RX12 25 (TX12 10).1 (TX12 10).2.1 (TX12 10).2.2.1 ∈ am_gd := am_mem 1487 kv_1487 rfl
theorem kw_1488 : Cond.fieldLink RX12 28 (TX12 11).1 (TX12 11).2.1 (TX12 11).2.2.1 ∈ am_gd := am_mem 1488 kv_1488 rfl
theorem kw_1489 : Cond.fieldLink RX12 31 (TX12 12).1 (TX12 12).2.1 (TX12 12).2.2.1 ∈ am_gd := am_mem 1489 kv_1489 rfl
theorem kw_1490 : Cond.fieldLink RX12 272 (TX12 13).1 (TX12 13).2.1 (TX12 13).2.2.1 ∈ am_gd := am_mem 1490 kv_1490 rfl
theorem kw_1491 : Cond.fieldLink RX12 111 (TX12 14).1 (TX12 14).2.1 (TX12 14).2.2.1 ∈ am_gd := am_mem 1491 kv_1491 rfl
theorem kw_1492 : Cond.fieldLink RX12 34 (TX12 15).1 (TX12 15).2.1 (TX12 15).2.2.1 ∈ am_gd := am_mem 1492 kv_1492 rfl
theorem kw_1493 : Cond.fieldLink RX12 37 (TX12 16).1 (TX12 16).2.1 (TX12 16).2.2.1 ∈ am_gd := am_mem 1493 kv_1493 rfl
theorem kw_1494 : Cond.fieldLink RX12 40 (TX12 17).1 (TX12 17).2.1 (TX12 17).2.2.1 ∈ am_gd := am_mem 1494 kv_1494 rfl
theorem kw_1495 : Cond.fieldLink RX12 43 (TX12 18).1 (TX12 18).2.1 (TX12 18).2.2.1 ∈ am_gd := am_mem 1495 kv_1495 rfl
theorem kw_1496 : Cond.fieldLink RX12 46 (TX12 19).1 (TX12 19).2.1 (TX12 19).2.2.1 ∈ am_gd := am_mem 1496 kv_1496 rfl
theorem kw_1497 : Cond.fieldLink RX12 230 (TX12 20).1 (TX12 20).2.1 (TX12 20).2.2.1 ∈ am_gd := am_mem 1497 kv_1497 rfl
theorem kw_1498 : Cond.fieldLink RX12 233 (TX12 21).1 (TX12 21).2.1 (TX12 21).2.2.1 ∈ am_gd := am_mem 1498 kv_1498 rfl
theorem kw_1499 : Cond.fieldLink RX12 49 (TX12 22).1 (TX12 22).2.1 (TX12 22).2.2.1 ∈ am_gd := am_mem 1499 kv_1499 rfl
theorem kw_1500 : Cond.fieldLink RX12 52 (TX12 23).1 (TX12 23).2.1 (TX12 23).2.2.1 ∈ am_gd := am_mem 1500 kv_1500 rfl
theorem kw_1501 : Cond.fieldLink RX12 55 (TX12 24).1 (TX12 24).2.1 (TX12 24).2.2.1 ∈ am_gd := am_mem 1501 kv_1501 rfl
theorem kw_1502 : Cond.fieldLink RX12 250 (TX12 25).1 (TX12 25).2.1 (TX12 25).2.2.1 ∈ am_gd := am_mem 1502 kv_1502 rfl
theorem kw_1503 : Cond.fieldLink RX12 253 (TX12 26).1 (TX12 26).2.1 (TX12 26).2.2.1 ∈ am_gd := am_mem 1503 kv_1503 rfl
theorem kw_1504 : Cond.fieldLink RX12 58 (TX12 27).1 (TX12 27).2.1 (TX12 27).2.2.1 ∈ am_gd := am_mem 1504 kv_1504 rfl
theorem kw_1505 : Cond.fieldLink RX12 61 (TX12 28).1 (TX12 28).2.1 (TX12 28).2.2.1 ∈ am_gd := am_mem 1505 kv_1505 rfl
theorem kw_1506 : Cond.fieldLink RX12 65 (TX12 29).1 (TX12 29).2.1 (TX12 29).2.2.1 ∈ am_gd := am_mem 1506 kv_1506 rfl
theorem kw_1507 : Cond.fieldLink RX12 262 (TX12 30).1 (TX12 30).2.1 (TX12 30).2.2.1 ∈ am_gd := am_mem 1507 kv_1507 rfl
theorem kw_1508 : Cond.fieldLink RX12 338 (TX12 31).1 (TX12 31).2.1 (TX12 31).2.2.1 ∈ am_gd := am_mem 1508 kv_1508 rfl
theorem kw_1509 : Cond.fieldLink RX12 69 (TX12 32).1 (TX12 32).2.1 (TX12 32).2.2.1 ∈ am_gd := am_mem 1509 kv_1509 rfl
theorem kw_1510 : Cond.fieldLink RX12 72 (TX12 33).1 (TX12 33).2.1 (TX12 33).2.2.1 ∈ am_gd := am_mem 1510 kv_1510 rfl
theorem kw_1511 : Cond.fieldLink RX12 366 (TX12 34).1 (TX12 34).2.1 (TX12 34).2.2.1 ∈ am_gd := am_mem 1511 kv_1511 rfl
theorem kw_1512 : Cond.fieldLink RX12 397 (TX12 35).1 (TX12 35).2.1 (TX12 35).2.2.1 ∈ am_gd := am_mem 1512 kv_1512 rfl
theorem kw_1513 : Cond.fieldLink RX12 400 (TX12 36).1 (TX12 36).2.1 (TX12 36).2.2.1 ∈ am_gd := am_mem 1513 kv_1513 rfl
theorem kw_1514 : Cond.fieldLink RX12 75 (TX12 37).1 (TX12 37).2.1 (TX12 37).2.2.1 ∈ am_gd := am_mem 1514 kv_1514 rfl
theorem kw_1515 : Cond.fieldLink RX12 78 (TX12 38).1 (TX12 38).2.1 (TX12 38).2.2.1 ∈ am_gd := am_mem 1515 kv_1515 rfl
theorem kw_1516 : Cond.fieldLink RX12 259 (TX12 39).1 (TX12 39).2.1 (TX12 39).2.2.1 ∈ am_gd := am_mem 1516 kv_1516 rfl
theorem kw_1517 : Cond.fieldLink RX12 81 (TX12 40).1 (TX12 40).2.1 (TX12 40).2.2.1 ∈ am_gd := am_mem 1517 kv_1517 rfl
theorem kw_1518 : Cond.fieldLink RX12 84 (TX12 41).1 (TX12 41).2.1 (TX12 41).2.2.1 ∈ am_gd := am_mem 1518 kv_1518 rfl
theorem kw_1519 : Cond.fieldLink RX12 88 (TX12 42).1 (TX12 42).2.1 (TX12 42).2.2.1 ∈ am_gd := am_mem 1519 kv_1519 rfl
theorem kw_1520 : Cond.fieldLink RX12 265 (TX12 43).1 (TX12 43).2.1 (TX12 43).2.2.1 ∈ am_gd := am_mem 1520 kv_1520 rfl
theorem kw_155 : Cond.fieldLink RX8 11 (TX8 0).1 (TX8 0).2.1 (TX8 0).2.2.1 ∈ am_gd := am_mem 155 kv_155 rfl
theorem kw_156 : Cond.fieldLink RX8 15 (TX8 1).1 (TX8 1).2.1 (TX8 1).2.2.1 ∈ am_gd := am_mem 156 kv_156 rfl
theorem kw_157 : Cond.fieldLink RX11 113 (TX8 1).1 (TX8 1).2.1 (TX8 1).2.2.1 ∈ am_gd := am_mem 157 kv_157 rfl
theorem kw_158 : Cond.fieldLink RX2 38 (TX8 1).1 (TX8 1).2.1 (TX8 1).2.2.1 ∈ am_gd := am_mem 158 kv_158 rfl
theorem kw_159 : Cond.fieldLink RX10 53 (TX8 1).1 (TX8 1).2.1 (TX8 1).2.2.1 ∈ am_gd := am_mem 159 kv_159 rfl
theorem kw_1618 : Cond.methodLink RX12 94 yX12_byteOf ∈ am_gd := am_mem 1618 kv_1618 rfl
theorem kw_1629 : Cond.methodLink RX12 244 yX12_readWar ∈ am_gd := am_mem 1629 kv_1629 rfl
theorem kw_1633 : Cond.methodLink RX12 210 yX12_usual ∈ am_gd := am_mem 1633 kv_1633 rfl
theorem kw_1636 : Cond.methodLink RX12 120 yX12_look ∈ am_gd := am_mem 1636 kv_1636 rfl
theorem kw_1640 : Cond.methodLink RX12 104 yX12_here ∈ am_gd := am_mem 1640 kv_1640 rfl
theorem kw_1644 : Cond.methodLink RX12 236 yX12_items ∈ am_gd := am_mem 1644 kv_1644 rfl
theorem kw_1648 : Cond.methodLink RX12 214 yX12_itemOf ∈ am_gd := am_mem 1648 kv_1648 rfl
theorem kw_1651 : Cond.methodLink RX12 217 yX12_has ∈ am_gd := am_mem 1651 kv_1651 rfl
theorem kw_1654 : Cond.methodLink RX12 221 yX12_lowest ∈ am_gd := am_mem 1654 kv_1654 rfl
theorem kw_1657 : Cond.methodLink RX12 224 yX12_highest ∈ am_gd := am_mem 1657 kv_1657 rfl
theorem kw_1660 : Cond.methodLink RX12 227 yX12_number ∈ am_gd := am_mem 1660 kv_1660 rfl
theorem kw_1664 : Cond.methodLink RX12 123 yX12_isDigit ∈ am_gd := am_mem 1664 kv_1664 rfl
theorem kw_1667 : Cond.methodLink RX12 117 yX12_bad ∈ am_gd := am_mem 1667 kv_1667 rfl
theorem kw_1671 : Cond.methodLink RX12 206 yX12_in ∈ am_gd := am_mem 1671 kv_1671 rfl
theorem kw_1674 : Cond.methodLink RX12 240 yX12_isWhole ∈ am_gd := am_mem 1674 kv_1674 rfl
theorem kw_1678 : Cond.methodLink RX12 247 yX12_readLaw ∈ am_gd := am_mem 1678 kv_1678 rfl
theorem kw_1682 : Cond.methodLink RX12 172 yX12_open ∈ am_gd := am_mem 1682 kv_1682 rfl
theorem kw_1686 : Cond.methodLink RX12 175 yX12_clause ∈ am_gd := am_mem 1686 kv_1686 rfl
theorem kw_1690 : Cond.methodLink RX12 160 yX12_condition ∈ am_gd := am_mem 1690 kv_1690 rfl
theorem kw_1694 : Cond.methodLink RX12 157 yX12_unit ∈ am_gd := am_mem 1694 kv_1694 rfl
theorem kw_1698 : Cond.methodLink RX12 138 yX12_opens ∈ am_gd := am_mem 1698 kv_1698 rfl
theorem kw_1702 : Cond.methodLink RX12 130 yX12_put ∈ am_gd := am_mem 1702 kv_1702 rfl
theorem kw_1706 : Cond.methodLink RX12 144 yX12_closes ∈ am_gd := am_mem 1706 kv_1706 rfl
theorem kw_1710 : Cond.methodLink RX12 141 yX12_sum ∈ am_gd := am_mem 1710 kv_1710 rfl
theorem kw_1714 : Cond.methodLink RX12 151 yX12_term ∈ am_gd := am_mem 1714 kv_1714 rfl
theorem kw_1718 : Cond.methodLink RX12 148 yX12_atom ∈ am_gd := am_mem 1718 kv_1718 rfl
theorem kw_172 : Cond.fieldLink RX9 7 (TX9 0).1 (TX9 0).2.1 (TX9 0).2.2.1 ∈ am_gd := am_mem 172 kv_172 rfl
theorem kw_1722 : Cond.methodLink RX12 127 yX12_plainNumber ∈ am_gd := am_mem 1722 kv_1722 rfl
theorem kw_1726 : Cond.methodLink RX12 134 yX12_letterOf ∈ am_gd := am_mem 1726 kv_1726 rfl
theorem kw_1729 : Cond.methodLink RX12 163 yX12_compare ∈ am_gd := am_mem 1729 kv_1729 rfl
theorem kw_173 : Cond.fieldLink RX1 27 (TX9 0).1 (TX9 0).2.1 (TX9 0).2.2.1 ∈ am_gd := am_mem 173 kv_173 rfl
theorem kw_1733 : Cond.methodLink RX12 154 yX12_isSign ∈ am_gd := am_mem 1733 kv_1733 rfl
theorem kw_1736 : Cond.methodLink RX12 166 yX12_goOnAnd ∈ am_gd := am_mem 1736 kv_1736 rfl
theorem kw_174 : Cond.fieldLink RX7 38 (TX9 0).1 (TX9 0).2.1 (TX9 0).2.2.1 ∈ am_gd := am_mem 174 kv_174 rfl
theorem kw_1740 : Cond.methodLink RX12 169 yX12_goOnOr ∈ am_gd := am_mem 1740 kv_1740 rfl
theorem kw_1744 : Cond.methodLink RX12 178 yX12_atEnd ∈ am_gd := am_mem 1744 kv_1744 rfl
theorem kw_175 : Cond.fieldLink RX10 82 (TX9 0).1 (TX9 0).2.1 (TX9 0).2.2.1 ∈ am_gd := am_mem 175 kv_175 rfl
theorem kw_1752 : Cond.methodLink RX12 269 yX12_takeWar ∈ am_gd := am_mem 1752 kv_1752 rfl
theorem kw_1756 : Cond.methodLink RX12 256 yX12_comes ∈ am_gd := am_mem 1756 kv_1756 rfl
theorem kw_176 : Cond.fieldLink RX11 151 (TX9 0).1 (TX9 0).2.1 (TX9 0).2.2.1 ∈ am_gd := am_mem 176 kv_176 rfl
theorem kw_1760 : Cond.methodLink RX12 275 yX12_restAt ∈ am_gd := am_mem 1760 kv_1760 rfl
theorem kw_1768 : Cond.methodLink RX12 299 yX12_isMan ∈ am_gd := am_mem 1768 kv_1768 rfl
theorem kw_177 : Cond.fieldLink RX9 13 (TX9 1).1 (TX9 1).2.1 (TX9 1).2.2.1 ∈ am_gd := am_mem 177 kv_177 rfl
theorem kw_1772 : Cond.methodLink RX12 287 yX12_isHome ∈ am_gd := am_mem 1772 kv_1772 rfl
theorem kw_1776 : Cond.methodLink RX12 284 yX12_isHomeBy ∈ am_gd := am_mem 1776 kv_1776 rfl
theorem kw_178 : Cond.fieldLink RX10 85 (TX9 1).1 (TX9 1).2.1 (TX9 1).2.2.1 ∈ am_gd := am_mem 178 kv_178 rfl
theorem kw_1780 : Cond.methodLink RX12 278 yX12_side ∈ am_gd := am_mem 1780 kv_1780 rfl
theorem kw_1784 : Cond.methodLink RX12 281 yX12_worthOf ∈ am_gd := am_mem 1784 kv_1784 rfl
theorem kw_1788 : Cond.methodLink RX12 202 yX12_workOut ∈ am_gd := am_mem 1788 kv_1788 rfl
theorem kw_179 : Cond.fieldLink RX11 194 (TX9 1).1 (TX9 1).2.1 (TX9 1).2.2.1 ∈ am_gd := am_mem 179 kv_179 rfl
theorem kw_1792 : Cond.methodLink RX12 198 yX12_worked ∈ am_gd := am_mem 1792 kv_1792 rfl
theorem kw_1795 : Cond.methodLink RX12 194 yX12_bounded ∈ am_gd := am_mem 1795 kv_1795 rfl
theorem kw_1798 : Cond.constantLong RX12 181 (-1000000 : Int64) ∈ am_gd := am_mem 1798 kv_1798 rfl
theorem kw_1799 : Cond.constantLong RX12 183 (1000000 : Int64) ∈ am_gd := am_mem 1799 kv_1799 rfl
theorem kw_180 : Cond.fieldLink RX9 16 (TX9 2).1 (TX9 2).2.1 (TX9 2).2.2.1 ∈ am_gd := am_mem 180 kv_180 rfl
theorem kw_1800 : Cond.methodLink RX12 185 yJ9_min_f86c9 ∈ am_gd := am_mem 1800 kv_1800 rfl
theorem kw_1803 : Cond.methodLink RX12 191 yJ9_max_f86c9 ∈ am_gd := am_mem 1803 kv_1803 rfl
theorem kw_181 : Cond.fieldLink RX10 95 (TX9 2).1 (TX9 2).2.1 (TX9 2).2.2.1 ∈ am_gd := am_mem 181 kv_181 rfl
theorem kw_1818 : Cond.methodLink RX12 296 yX12_wonBy ∈ am_gd := am_mem 1818 kv_1818 rfl
theorem kw_182 : Cond.fieldLink RX11 218 (TX9 2).1 (TX9 2).2.1 (TX9 2).2.2.1 ∈ am_gd := am_mem 182 kv_182 rfl
theorem kw_1822 : Cond.methodLink RX12 290 yX12_atHome ∈ am_gd := am_mem 1822 kv_1822 rfl
theorem kw_1826 : Cond.methodLink RX12 293 yX12_of ∈ am_gd := am_mem 1826 kv_1826 rfl
theorem kw_183 : Cond.fieldLink RX9 19 (TX9 3).1 (TX9 3).2.1 (TX9 3).2.2.1 ∈ am_gd := am_mem 183 kv_183 rfl
theorem kw_1834 : Cond.methodLink RX12 312 yX12_canGo ∈ am_gd := am_mem 1834 kv_1834 rfl
theorem kw_1838 : Cond.methodLink RX12 305 yX12_isFree ∈ am_gd := am_mem 1838 kv_1838 rfl
theorem kw_184 : Cond.fieldLink RX10 98 (TX9 3).1 (TX9 3).2.1 (TX9 3).2.2.1 ∈ am_gd := am_mem 184 kv_184 rfl
theorem kw_1842 : Cond.methodLink RX12 302 yX12_isOver ∈ am_gd := am_mem 1842 kv_1842 rfl
theorem kw_1846 : Cond.methodLink RX12 315 yX12_keep ∈ am_gd := am_mem 1846 kv_1846 rfl
theorem kw_185 : Cond.fieldLink RX11 221 (TX9 3).1 (TX9 3).2.1 (TX9 3).2.2.1 ∈ am_gd := am_mem 185 kv_185 rfl
theorem kw_1850 : Cond.methodLink RX12 318 yX12_goNow ∈ am_gd := am_mem 1850 kv_1850 rfl
theorem kw_1854 : Cond.methodLink RX12 308 yX12_note ∈ am_gd := am_mem 1854 kv_1854 rfl
theorem kw_186 : Cond.fieldLink RX7 105 (TX9 3).1 (TX9 3).2.1 (TX9 3).2.2.1 ∈ am_gd := am_mem 186 kv_186 rfl
theorem kw_1862 : Cond.methodLink RX12 321 yX12_canStay ∈ am_gd := am_mem 1862 kv_1862 rfl
theorem kw_1866 : Cond.methodLink RX12 324 yX12_stayNow ∈ am_gd := am_mem 1866 kv_1866 rfl
theorem kw_187 : Cond.fieldLink RX9 22 (TX9 4).1 (TX9 4).2.1 (TX9 4).2.2.1 ∈ am_gd := am_mem 187 kv_187 rfl
theorem kw_1874 : Cond.methodLink RX12 329 yX12_canPress ∈ am_gd := am_mem 1874 kv_1874 rfl
theorem kw_1878 : Cond.methodLink RX12 332 yX12_pressNow ∈ am_gd := am_mem 1878 kv_1878 rfl
theorem kw_188 : Cond.fieldLink RX9 26 (TX9 5).1 (TX9 5).2.1 (TX9 5).2.2.1 ∈ am_gd := am_mem 188 kv_188 rfl
theorem kw_1882 : Cond.methodLink RX12 327 yJ9_max_7cf53 ∈ am_gd := am_mem 1882 kv_1882 rfl
theorem kw_1887 : Cond.methodLink RX12 335 yX12_endDay ∈ am_gd := am_mem 1887 kv_1887 rfl
theorem kw_189 : Cond.fieldLink RX1 30 (TX9 5).1 (TX9 5).2.1 (TX9 5).2.2.1 ∈ am_gd := am_mem 189 kv_189 rfl
theorem kw_1895 : Cond.methodLink RX12 352 yX12_drawDeed ∈ am_gd := am_mem 1895 kv_1895 rfl
theorem kw_1899 : Cond.methodLink RX12 346 yX12_draw ∈ am_gd := am_mem 1899 kv_1899 rfl
theorem kw_190 : Cond.fieldLink RX7 78 (TX9 5).1 (TX9 5).2.1 (TX9 5).2.2.1 ∈ am_gd := am_mem 190 kv_190 rfl
theorem kw_1903 : Cond.constantLong RX12 342 (6364136223846793005 : Int64) ∈ am_gd := am_mem 1903 kv_1903 rfl
theorem kw_1904 : Cond.constantLong RX12 344 (1442695040888963407 : Int64) ∈ am_gd := am_mem 1904 kv_1904 rfl
theorem kw_1905 : Cond.methodLink RX12 349 yX12_pressLowest ∈ am_gd := am_mem 1905 kv_1905 rfl
theorem kw_191 : Cond.fieldLink RX11 165 (TX9 5).1 (TX9 5).2.1 (TX9 5).2.2.1 ∈ am_gd := am_mem 191 kv_191 rfl
theorem kw_1917 : Cond.constant RX12 355 (-1000000 : Int32) ∈ am_gd := am_mem 1917 kv_1917 rfl
theorem kw_192 : Cond.fieldLink RX9 30 (TX9 6).1 (TX9 6).2.1 (TX9 6).2.2.1 ∈ am_gd := am_mem 192 kv_192 rfl
theorem kw_1922 : Cond.methodLink RX12 372 yX12_canDuel ∈ am_gd := am_mem 1922 kv_1922 rfl
theorem kw_1926 : Cond.methodLink RX12 375 yX12_duelWith ∈ am_gd := am_mem 1926 kv_1926 rfl
theorem kw_193 : Cond.fieldLink RX7 41 (TX9 6).1 (TX9 6).2.1 (TX9 6).2.2.1 ∈ am_gd := am_mem 193 kv_193 rfl
theorem kw_1930 : Cond.methodLink RX12 360 yX12_outcomeOf ∈ am_gd := am_mem 1930 kv_1930 rfl
theorem kw_1934 : Cond.methodLink RX12 356 yX12_place ∈ am_gd := am_mem 1934 kv_1934 rfl
theorem kw_1937 : Cond.methodLink RX12 363 yX12_turned ∈ am_gd := am_mem 1937 kv_1937 rfl
theorem kw_194 : Cond.fieldLink RX9 33 (TX9 7).1 (TX9 7).2.1 (TX9 7).2.2.1 ∈ am_gd := am_mem 194 kv_194 rfl
theorem kw_1940 : Cond.methodLink RX12 369 yX12_isBetter ∈ am_gd := am_mem 1940 kv_1940 rfl
theorem kw_1943 : Cond.methodLink RX12 378 yJ9_abs_0f7a4 ∈ am_gd := am_mem 1943 kv_1943 rfl
theorem kw_1948 : Cond.methodLink RX12 381 yX12_isSide ∈ am_gd := am_mem 1948 kv_1948 rfl
theorem kw_195 : Cond.fieldLink RX1 52 (TX9 7).1 (TX9 7).2.1 (TX9 7).2.2.1 ∈ am_gd := am_mem 195 kv_195 rfl
theorem kw_1952 : Cond.methodLink RX12 384 yX12_wins ∈ am_gd := am_mem 1952 kv_1952 rfl
theorem kw_196 : Cond.fieldLink RX11 171 (TX9 7).1 (TX9 7).2.1 (TX9 7).2.2.1 ∈ am_gd := am_mem 196 kv_196 rfl
theorem kw_1960 : Cond.methodLink RX12 387 yX12_foes ∈ am_gd := am_mem 1960 kv_1960 rfl
theorem kw_1968 : Cond.methodLink RX12 390 yJ9_min_7cf53 ∈ am_gd := am_mem 1968 kv_1968 rfl
theorem kw_197 : Cond.fieldLink RX9 36 (TX9 8).1 (TX9 8).2.1 (TX9 8).2.2.1 ∈ am_gd := am_mem 197 kv_197 rfl
theorem kw_1973 : Cond.methodLink RX12 406 yX12_tryEscorts ∈ am_gd := am_mem 1973 kv_1973 rfl
theorem kw_1977 : Cond.methodLink RX12 392 yJ6_bitCount_0f7a4 ∈ am_gd := am_mem 1977 kv_1977 rfl
theorem kw_1978 : Cond.methodLink RX12 403 yX12_canEscort ∈ am_gd := am_mem 1978 kv_1978 rfl
theorem kw_198 : Cond.fieldLink RX7 69 (TX9 8).1 (TX9 8).2.1 (TX9 8).2.2.1 ∈ am_gd := am_mem 198 kv_198 rfl
theorem kw_1982 : Cond.methodLink RX12 410 yX12_isEscorted ∈ am_gd := am_mem 1982 kv_1982 rfl
theorem kw_1990 : Cond.methodLink RX12 413 yX12_looseBy ∈ am_gd := am_mem 1990 kv_1990 rfl
theorem kw_200 : Cond.fieldLink RX9 39 (TX9 9).1 (TX9 9).2.1 (TX9 9).2.2.1 ∈ am_gd := am_mem 200 kv_200 rfl
theorem kw_2006 : Cond.methodLink RX12 416 yX12_isAhead ∈ am_gd := am_mem 2006 kv_2006 rfl
theorem kw_201 : Cond.fieldLink RX7 72 (TX9 9).1 (TX9 9).2.1 (TX9 9).2.2.1 ∈ am_gd := am_mem 201 kv_201 rfl
theorem kw_2018 : Cond.methodLink RX12 419 yX12_farthest ∈ am_gd := am_mem 2018 kv_2018 rfl
theorem kw_202 : Cond.fieldLink RX11 177 (TX9 9).1 (TX9 9).2.1 (TX9 9).2.2.1 ∈ am_gd := am_mem 202 kv_202 rfl
theorem kw_203 : Cond.fieldLink RX9 42 (TX9 10).1 (TX9 10).2.1 (TX9 10).2.2.1 ∈ am_gd := am_mem 203 kv_203 rfl
theorem kw_204 : Cond.fieldLink RX7 75 (TX9 10).1 (TX9 10).2.1 (TX9 10).2.2.1 ∈ am_gd := am_mem 204 kv_204 rfl
theorem kw_205 : Cond.fieldLink RX11 180 (TX9 10).1 (TX9 10).2.1 (TX9 10).2.2.1 ∈ am_gd := am_mem 205 kv_205 rfl
theorem kw_2058 : Cond.methodLink RX12 422 yX12_getsOf ∈ am_gd := am_mem 2058 kv_2058 rfl
theorem kw_206 : Cond.fieldLink RX9 45 (TX9 11).1 (TX9 11).2.1 (TX9 11).2.2.1 ∈ am_gd := am_mem 206 kv_206 rfl
theorem kw_207 : Cond.fieldLink RX11 197 (TX9 11).1 (TX9 11).2.1 (TX9 11).2.2.1 ∈ am_gd := am_mem 207 kv_207 rfl
theorem kw_2074 : Cond.methodLink RX12 425 yX12_power ∈ am_gd := am_mem 2074 kv_2074 rfl
theorem kw_2077 : Cond.methodLink RX12 431 yX12_isSoBy ∈ am_gd := am_mem 2077 kv_2077 rfl
theorem kw_208 : Cond.fieldLink RX9 48 (TX9 12).1 (TX9 12).2.1 (TX9 12).2.2.1 ∈ am_gd := am_mem 208 kv_208 rfl
theorem kw_2081 : Cond.methodLink RX12 428 yX12_within ∈ am_gd := am_mem 2081 kv_2081 rfl
theorem kw_2088 : Cond.methodLink RX12 434 yX12_fit ∈ am_gd := am_mem 2088 kv_2088 rfl
theorem kw_209 : Cond.fieldLink RX11 200 (TX9 12).1 (TX9 12).2.1 (TX9 12).2.2.1 ∈ am_gd := am_mem 209 kv_209 rfl
theorem kw_2097 : Cond.methodLink RX12 441 yX12_oddsOf ∈ am_gd := am_mem 2097 kv_2097 rfl
theorem kw_210 : Cond.fieldLink RX9 51 (TX9 13).1 (TX9 13).2.1 (TX9 13).2.2.1 ∈ am_gd := am_mem 210 kv_210 rfl
theorem kw_2101 : Cond.constantLong RX12 437 (1000000000 : Int64) ∈ am_gd := am_mem 2101 kv_2101 rfl
theorem kw_2102 : Cond.constantLong RX12 439 (10 : Int64) ∈ am_gd := am_mem 2102 kv_2102 rfl
theorem kw_211 : Cond.fieldLink RX0 51 (TX9 13).1 (TX9 13).2.1 (TX9 13).2.2.1 ∈ am_gd := am_mem 211 kv_211 rfl
theorem kw_212 : Cond.fieldLink RX7 51 (TX9 13).1 (TX9 13).2.1 (TX9 13).2.2.1 ∈ am_gd := am_mem 212 kv_212 rfl
theorem kw_213 : Cond.fieldLink RX9 54 (TX9 14).1 (TX9 14).2.1 (TX9 14).2.2.1 ∈ am_gd := am_mem 213 kv_213 rfl
theorem kw_2137 : Cond.fieldLink RJ0 15 "java/lang/String" "coder" "B" ∈ am_gd := am_mem 2137 kv_2137 rfl
theorem kw_2138 : Cond.fieldLink RJ0 9 "java/lang/String" "value" "[B" ∈ am_gd := am_mem 2138 kv_2138 rfl
theorem kw_214 : Cond.fieldLink RX7 88 (TX9 14).1 (TX9 14).2.1 (TX9 14).2.2.1 ∈ am_gd := am_mem 214 kv_214 rfl
theorem kw_215 : Cond.fieldLink RX11 397 (TX9 14).1 (TX9 14).2.1 (TX9 14).2.2.1 ∈ am_gd := am_mem 215 kv_215 rfl
theorem kw_253 : Cond.fieldLink RX10 26 (TX10 0).1 (TX10 0).2.1 (TX10 0).2.2.1 ∈ am_gd := am_mem 253 kv_253 rfl
theorem kw_254 : Cond.fieldLink RX10 30 (TX10 1).1 (TX10 1).2.1 (TX10 1).2.2.1 ∈ am_gd := am_mem 254 kv_254 rfl
theorem kw_255 : Cond.fieldLink RX10 11 (TX10 2).1 (TX10 2).2.1 (TX10 2).2.2.1 ∈ am_gd := am_mem 255 kv_255 rfl
theorem kw_256 : Cond.fieldLink RX10 15 (TX10 3).1 (TX10 3).2.1 (TX10 3).2.2.1 ∈ am_gd := am_mem 256 kv_256 rfl
theorem kw_257 : Cond.fieldLink RX10 19 (TX10 4).1 (TX10 4).2.1 (TX10 4).2.2.1 ∈ am_gd := am_mem 257 kv_257 rfl
theorem kw_258 : Cond.fieldLink RX10 22 (TX10 5).1 (TX10 5).2.1 (TX10 5).2.2.1 ∈ am_gd := am_mem 258 kv_258 rfl
theorem kw_278 : Cond.fieldLink RX2 24 (TX2 0).1 (TX2 0).2.1 (TX2 0).2.2.1 ∈ am_gd := am_mem 278 kv_278 rfl
theorem kw_279 : Cond.fieldLink RX2 11 (TX2 1).1 (TX2 1).2.1 (TX2 1).2.2.1 ∈ am_gd := am_mem 279 kv_279 rfl
theorem kw_280 : Cond.fieldLink RX3 43 (TX2 1).1 (TX2 1).2.1 (TX2 1).2.2.1 ∈ am_gd := am_mem 280 kv_280 rfl
theorem kw_281 : Cond.fieldLink RX2 17 (TX2 2).1 (TX2 2).2.1 (TX2 2).2.2.1 ∈ am_gd := am_mem 281 kv_281 rfl
theorem kw_282 : Cond.fieldLink RX3 38 (TX2 2).1 (TX2 2).2.1 (TX2 2).2.2.1 ∈ am_gd := am_mem 282 kv_282 rfl
theorem kw_283 : Cond.fieldLink RX2 21 (TX2 3).1 (TX2 3).2.1 (TX2 3).2.2.1 ∈ am_gd := am_mem 283 kv_283 rfl
theorem kw_301 : Cond.fieldLink RX3 15 (TX3 0).1 (TX3 0).2.1 (TX3 0).2.2.1 ∈ am_gd := am_mem 301 kv_301 rfl
theorem kw_302 : Cond.fieldLink RX3 18 (TX3 1).1 (TX3 1).2.1 (TX3 1).2.2.1 ∈ am_gd := am_mem 302 kv_302 rfl
theorem kw_303 : Cond.fieldLink RX3 22 (TX3 2).1 (TX3 2).2.1 (TX3 2).2.2.1 ∈ am_gd := am_mem 303 kv_303 rfl
theorem kw_304 : Cond.fieldLink RX3 25 (TX3 3).1 (TX3 3).2.1 (TX3 3).2.2.1 ∈ am_gd := am_mem 304 kv_304 rfl
theorem kw_305 : Cond.fieldLink RX7 66 (TX3 3).1 (TX3 3).2.1 (TX3 3).2.2.1 ∈ am_gd := am_mem 305 kv_305 rfl
theorem kw_306 : Cond.fieldLink RX3 28 (TX3 4).1 (TX3 4).2.1 (TX3 4).2.2.1 ∈ am_gd := am_mem 306 kv_306 rfl
theorem kw_307 : Cond.fieldLink RX11 380 (TX3 4).1 (TX3 4).2.1 (TX3 4).2.2.1 ∈ am_gd := am_mem 307 kv_307 rfl
theorem kw_308 : Cond.fieldLink RX3 31 (TX3 5).1 (TX3 5).2.1 (TX3 5).2.2.1 ∈ am_gd := am_mem 308 kv_308 rfl
theorem kw_309 : Cond.fieldLink RX11 129 (TX3 5).1 (TX3 5).2.1 (TX3 5).2.2.1 ∈ am_gd := am_mem 309 kv_309 rfl
theorem kw_311 : Cond.fieldLink RX7 57 (TX3 6).1 (TX3 6).2.1 (TX3 6).2.2.1 ∈ am_gd := am_mem 311 kv_311 rfl
theorem kw_312 : Cond.fieldLink RX11 206 (TX3 6).1 (TX3 6).2.1 (TX3 6).2.2.1 ∈ am_gd := am_mem 312 kv_312 rfl
theorem kw_334 : Cond.fieldLink RX7 30 (TX7 0).1 (TX7 0).2.1 (TX7 0).2.2.1 ∈ am_gd := am_mem 334 kv_334 rfl
theorem kw_335 : Cond.fieldLink RX7 34 (TX7 1).1 (TX7 1).2.1 (TX7 1).2.2.1 ∈ am_gd := am_mem 335 kv_335 rfl
theorem kw_336 : Cond.fieldLink RX7 11 (TX7 2).1 (TX7 2).2.1 (TX7 2).2.2.1 ∈ am_gd := am_mem 336 kv_336 rfl
theorem kw_337 : Cond.fieldLink RX1 49 (TX7 2).1 (TX7 2).2.1 (TX7 2).2.2.1 ∈ am_gd := am_mem 337 kv_337 rfl
theorem kw_338 : Cond.fieldLink RX11 168 (TX7 2).1 (TX7 2).2.1 (TX7 2).2.2.1 ∈ am_gd := am_mem 338 kv_338 rfl
theorem kw_339 : Cond.fieldLink RX7 17 (TX7 3).1 (TX7 3).2.1 (TX7 3).2.2.1 ∈ am_gd := am_mem 339 kv_339 rfl
theorem kw_340 : Cond.fieldLink RX11 183 (TX7 3).1 (TX7 3).2.1 (TX7 3).2.2.1 ∈ am_gd := am_mem 340 kv_340 rfl
theorem kw_341 : Cond.fieldLink RX7 20 (TX7 4).1 (TX7 4).2.1 (TX7 4).2.2.1 ∈ am_gd := am_mem 341 kv_341 rfl
theorem kw_342 : Cond.fieldLink RX6 73 (TX7 4).1 (TX7 4).2.1 (TX7 4).2.2.1 ∈ am_gd := am_mem 342 kv_342 rfl
theorem kw_343 : Cond.fieldLink RX7 24 (TX7 5).1 (TX7 5).2.1 (TX7 5).2.2.1 ∈ am_gd := am_mem 343 kv_343 rfl
theorem kw_344 : Cond.fieldLink RX6 75 (TX7 5).1 (TX7 5).2.1 (TX7 5).2.2.1 ∈ am_gd := am_mem 344 kv_344 rfl
theorem kw_345 : Cond.fieldLink RX11 215 (TX7 5).1 (TX7 5).2.1 (TX7 5).2.2.1 ∈ am_gd := am_mem 345 kv_345 rfl
theorem kw_346 : Cond.fieldLink RX7 27 (TX7 6).1 (TX7 6).2.1 (TX7 6).2.2.1 ∈ am_gd := am_mem 346 kv_346 rfl
theorem kw_347 : Cond.fieldLink RX11 224 (TX7 6).1 (TX7 6).2.1 (TX7 6).2.2.1 ∈ am_gd := am_mem 347 kv_347 rfl
theorem kw_369 : Cond.fieldLink RX5 13 (TX5 0).1 (TX5 0).2.1 (TX5 0).2.2.1 ∈ am_gd := am_mem 369 kv_369 rfl
theorem kw_370 : Cond.fieldLink RX5 17 (TX5 1).1 (TX5 1).2.1 (TX5 1).2.2.1 ∈ am_gd := am_mem 370 kv_370 rfl
theorem kw_371 : Cond.fieldLink RX5 20 (TX5 2).1 (TX5 2).2.1 (TX5 2).2.2.1 ∈ am_gd := am_mem 371 kv_371 rfl
theorem kw_372 : Cond.fieldLink RX5 24 (TX5 3).1 (TX5 3).2.1 (TX5 3).2.2.1 ∈ am_gd := am_mem 372 kv_372 rfl
theorem kw_373 : Cond.fieldLink RX6 47 (TX5 3).1 (TX5 3).2.1 (TX5 3).2.2.1 ∈ am_gd := am_mem 373 kv_373 rfl
theorem kw_389 : Cond.fieldLink RX6 9 (TX6 0).1 (TX6 0).2.1 (TX6 0).2.2.1 ∈ am_gd := am_mem 389 kv_389 rfl
theorem kw_390 : Cond.fieldLink RX6 13 (TX6 1).1 (TX6 1).2.1 (TX6 1).2.2.1 ∈ am_gd := am_mem 390 kv_390 rfl
theorem kw_391 : Cond.fieldLink RX6 16 (TX6 2).1 (TX6 2).2.1 (TX6 2).2.2.1 ∈ am_gd := am_mem 391 kv_391 rfl
theorem kw_392 : Cond.fieldLink RX6 20 (TX6 3).1 (TX6 3).2.1 (TX6 3).2.2.1 ∈ am_gd := am_mem 392 kv_392 rfl
theorem kw_393 : Cond.fieldLink RX6 23 (TX6 4).1 (TX6 4).2.1 (TX6 4).2.2.1 ∈ am_gd := am_mem 393 kv_393 rfl
theorem kw_394 : Cond.fieldLink RX6 26 (TX6 5).1 (TX6 5).2.1 (TX6 5).2.2.1 ∈ am_gd := am_mem 394 kv_394 rfl
theorem kw_395 : Cond.fieldLink RX6 30 (TX6 6).1 (TX6 6).2.1 (TX6 6).2.2.1 ∈ am_gd := am_mem 395 kv_395 rfl
theorem kw_396 : Cond.fieldLink RX11 229 (TX6 6).1 (TX6 6).2.1 (TX6 6).2.2.1 ∈ am_gd := am_mem 396 kv_396 rfl
theorem kw_397 : Cond.fieldLink RX6 33 (TX6 7).1 (TX6 7).2.1 (TX6 7).2.2.1 ∈ am_gd := am_mem 397 kv_397 rfl
theorem kw_398 : Cond.fieldLink RX11 313 (TX6 7).1 (TX6 7).2.1 (TX6 7).2.2.1 ∈ am_gd := am_mem 398 kv_398 rfl
theorem kw_423 : Cond.fieldLink RX0 13 (TX0 0).1 (TX0 0).2.1 (TX0 0).2.2.1 ∈ am_gd := am_mem 423 kv_423 rfl
theorem kw_424 : Cond.fieldLink RX0 17 (TX0 1).1 (TX0 1).2.1 (TX0 1).2.2.1 ∈ am_gd := am_mem 424 kv_424 rfl
theorem kw_425 : Cond.fieldLink RX0 20 (TX0 2).1 (TX0 2).2.1 (TX0 2).2.2.1 ∈ am_gd := am_mem 425 kv_425 rfl
theorem kw_426 : Cond.fieldLink RX0 23 (TX0 3).1 (TX0 3).2.1 (TX0 3).2.2.1 ∈ am_gd := am_mem 426 kv_426 rfl
theorem kw_427 : Cond.fieldLink RX0 26 (TX0 4).1 (TX0 4).2.1 (TX0 4).2.2.1 ∈ am_gd := am_mem 427 kv_427 rfl
theorem kw_428 : Cond.fieldLink RX0 29 (TX0 5).1 (TX0 5).2.1 (TX0 5).2.2.1 ∈ am_gd := am_mem 428 kv_428 rfl
theorem kw_429 : Cond.fieldLink RX0 32 (TX0 6).1 (TX0 6).2.1 (TX0 6).2.2.1 ∈ am_gd := am_mem 429 kv_429 rfl
theorem kw_430 : Cond.fieldLink RX0 35 (TX0 7).1 (TX0 7).2.1 (TX0 7).2.2.1 ∈ am_gd := am_mem 430 kv_430 rfl
theorem kw_431 : Cond.fieldLink RX0 38 (TX0 8).1 (TX0 8).2.1 (TX0 8).2.2.1 ∈ am_gd := am_mem 431 kv_431 rfl
theorem kw_432 : Cond.fieldLink RX0 42 (TX0 9).1 (TX0 9).2.1 (TX0 9).2.2.1 ∈ am_gd := am_mem 432 kv_432 rfl
theorem kw_433 : Cond.fieldLink RX0 45 (TX0 10).1 (TX0 10).2.1 (TX0 10).2.2.1 ∈ am_gd := am_mem 433 kv_433 rfl
theorem kw_434 : Cond.fieldLink RX0 48 (TX0 11).1 (TX0 11).2.1 (TX0 11).2.2.1 ∈ am_gd := am_mem 434 kv_434 rfl
theorem kw_466 : Cond.fieldLink RX1 19 (TX1 0).1 (TX1 0).2.1 (TX1 0).2.2.1 ∈ am_gd := am_mem 466 kv_466 rfl
theorem kw_467 : Cond.fieldLink RX1 23 (TX1 1).1 (TX1 1).2.1 (TX1 1).2.2.1 ∈ am_gd := am_mem 467 kv_467 rfl
theorem kw_468 : Cond.fieldLink RX1 9 (TX1 2).1 (TX1 2).2.1 (TX1 2).2.2.1 ∈ am_gd := am_mem 468 kv_468 rfl
theorem kw_469 : Cond.fieldLink RX1 15 (TX1 3).1 (TX1 3).2.1 (TX1 3).2.2.1 ∈ am_gd := am_mem 469 kv_469 rfl
theorem kw_485 : Cond.fieldLink RX4 11 (TX4 0).1 (TX4 0).2.1 (TX4 0).2.2.1 ∈ am_gd := am_mem 485 kv_485 rfl
theorem kw_486 : Cond.fieldLink RX4 15 (TX4 1).1 (TX4 1).2.1 (TX4 1).2.2.1 ∈ am_gd := am_mem 486 kv_486 rfl
theorem kw_487 : Cond.fieldLink RX4 18 (TX4 2).1 (TX4 2).2.1 (TX4 2).2.2.1 ∈ am_gd := am_mem 487 kv_487 rfl
theorem kw_488 : Cond.fieldLink RX4 21 (TX4 3).1 (TX4 3).2.1 (TX4 3).2.2.1 ∈ am_gd := am_mem 488 kv_488 rfl
theorem kw_489 : Cond.fieldLink RX4 24 (TX4 4).1 (TX4 4).2.1 (TX4 4).2.2.1 ∈ am_gd := am_mem 489 kv_489 rfl
theorem kw_490 : Cond.fieldLink RX11 444 (TX4 4).1 (TX4 4).2.1 (TX4 4).2.2.1 ∈ am_gd := am_mem 490 kv_490 rfl
theorem kw_491 : Cond.fieldLink RX4 28 (TX4 5).1 (TX4 5).2.1 (TX4 5).2.2.1 ∈ am_gd := am_mem 491 kv_491 rfl
theorem kw_492 : Cond.fieldLink RX11 150 (TX4 5).1 (TX4 5).2.1 (TX4 5).2.2.1 ∈ am_gd := am_mem 492 kv_492 rfl
theorem kw_506 : Cond.fieldLink RX11 10 (TX11 0).1 (TX11 0).2.1 (TX11 0).2.2.1 ∈ am_gd := am_mem 506 kv_506 rfl
theorem kw_507 : Cond.fieldLink RX11 19 (TX11 1).1 (TX11 1).2.1 (TX11 1).2.2.1 ∈ am_gd := am_mem 507 kv_507 rfl
theorem kw_508 : Cond.fieldLink RX11 23 (TX11 2).1 (TX11 2).2.1 (TX11 2).2.2.1 ∈ am_gd := am_mem 508 kv_508 rfl
theorem kw_509 : Cond.fieldLink RX11 31 (TX11 3).1 (TX11 3).2.1 (TX11 3).2.2.1 ∈ am_gd := am_mem 509 kv_509 rfl
theorem kw_510 : Cond.fieldLink RX11 40 (TX11 4).1 (TX11 4).2.1 (TX11 4).2.2.1 ∈ am_gd := am_mem 510 kv_510 rfl
theorem kw_511 : Cond.fieldLink RX11 47 (TX11 5).1 (TX11 5).2.1 (TX11 5).2.2.1 ∈ am_gd := am_mem 511 kv_511 rfl
theorem kw_512 : Cond.fieldLink RX11 56 (TX11 6).1 (TX11 6).2.1 (TX11 6).2.2.1 ∈ am_gd := am_mem 512 kv_512 rfl
theorem kw_513 : Cond.fieldLink RX11 63 (TX11 7).1 (TX11 7).2.1 (TX11 7).2.2.1 ∈ am_gd := am_mem 513 kv_513 rfl
theorem kw_514 : Cond.fieldLink RX11 70 (TX11 8).1 (TX11 8).2.1 (TX11 8).2.2.1 ∈ am_gd := am_mem 514 kv_514 rfl
theorem kw_515 : Cond.fieldLink RX11 77 (TX11 9).1 (TX11 9).2.1 (TX11 9).2.2.1 ∈ am_gd := am_mem 515 kv_515 rfl
theorem kw_516 : Cond.fieldLink RX11 86 (TX11 10).1 (TX11 10).2.1 (TX11 10).2.2.1 ∈ am_gd := am_mem 516 kv_516 rfl
theorem kw_517 : Cond.fieldLink RX11 93 (TX11 11).1 (TX11 11).2.1 (TX11 11).2.2.1 ∈ am_gd := am_mem 517 kv_517 rfl
theorem kw_518 : Cond.fieldLink RX11 97 (TX11 12).1 (TX11 12).2.1 (TX11 12).2.2.1 ∈ am_gd := am_mem 518 kv_518 rfl
theorem kw_519 : Cond.fieldLink RX11 101 (TX11 13).1 (TX11 13).2.1 (TX11 13).2.2.1 ∈ am_gd := am_mem 519 kv_519 rfl
theorem kw_520 : Cond.fieldLink RX11 105 (TX11 14).1 (TX11 14).2.1 (TX11 14).2.2.1 ∈ am_gd := am_mem 520 kv_520 rfl
theorem kw_556 : Cond.methodLink RX11 109 yX8_bytesIn ∈ am_gd := am_mem 556 kv_556 rfl
theorem kw_559 : Cond.methodLink RX11 117 yX8_put ∈ am_gd := am_mem 559 kv_559 rfl
theorem kw_571 : Cond.methodLink RX11 121 yX10_read ∈ am_gd := am_mem 571 kv_571 rfl
theorem kw_575 : Cond.fieldLink RX10 34 "LastHome$WarText" "WITHOUT" "[I" ∈ am_gd := am_mem 575 kv_575 rfl
theorem kw_577 : Cond.methodLink RX10 37 yX9_clear ∈ am_gd := am_mem 577 kv_577 rfl
theorem kw_581 : Cond.methodLink RX10 43 yX8_behindBlanks ∈ am_gd := am_mem 581 kv_581 rfl
theorem kw_585 : Cond.methodLink RX10 49 yX10_readClause ∈ am_gd := am_mem 585 kv_585 rfl
theorem kw_589 : Cond.methodLink RX10 62 yX8_at ∈ am_gd := am_mem 589 kv_589 rfl
theorem kw_593 : Cond.methodLink RX10 64 yX10_firstItemOf ∈ am_gd := am_mem 593 kv_593 rfl
theorem kw_596 : Cond.methodLink RX10 67 yX10_isOneTooMany ∈ am_gd := am_mem 596 kv_596 rfl
theorem kw_600 : Cond.methodLink RX10 59 yX10_goOn ∈ am_gd := am_mem 600 kv_600 rfl
theorem kw_604 : Cond.methodLink RX10 71 yX10_endOfItems ∈ am_gd := am_mem 604 kv_604 rfl
theorem kw_607 : Cond.methodLink RX10 74 yX10_readItems ∈ am_gd := am_mem 607 kv_607 rfl
theorem kw_611 : Cond.methodLink RX10 101 arraycopyName ∈ am_gd := am_mem 611 kv_611 rfl
theorem kw_615 : Cond.methodLink RX10 109 yJ0_indexOf_0f7a4 ∈ am_gd := am_mem 615 kv_615 rfl
theorem kw_619 : Cond.methodLink RJ0 633 yJ0_indexOf_7cf53 ∈ am_gd := am_mem 619 kv_619 rfl
theorem kw_623 : Cond.methodLink RJ0 492 yJ0_isLatin1_aae02 ∈ am_gd := am_mem 623 kv_623 rfl
theorem kw_627 : Cond.fieldLink RJ0 38 "java/lang/String" "COMPACT_STRINGS" "Z" ∈ am_gd := am_mem 627 kv_627 rfl
theorem kw_629 : Cond.methodLink RJ0 505 yJ0_length_8abf5 ∈ am_gd := am_mem 629 kv_629 rfl
theorem kw_633 : Cond.methodLink RJ0 335 yJ0_coder_7d493 ∈ am_gd := am_mem 633 kv_633 rfl
theorem kw_637 : Cond.methodLink RJ0 637 yJ1_indexOf_4cfef ∈ am_gd := am_mem 637 kv_637 rfl
theorem kw_640 : Cond.methodLink RJ1 88 yJ1_canEncode_9a6ad ∈ am_gd := am_mem 640 kv_640 rfl
theorem kw_643 : Cond.methodLink RJ1 92 yJ9_max_7cf53 ∈ am_gd := am_mem 643 kv_643 rfl
theorem kw_646 : Cond.methodLink RJ1 38 yJ9_min_7cf53 ∈ am_gd := am_mem 646 kv_646 rfl
theorem kw_649 : Cond.methodLink RJ1 95 yJ1_indexOfChar_4cfef ∈ am_gd := am_mem 649 kv_649 rfl
theorem kw_701 : Cond.methodLink RX10 114 yX10_readNumber ∈ am_gd := am_mem 701 kv_701 rfl
theorem kw_705 : Cond.methodLink RX10 117 yX8_digitAt ∈ am_gd := am_mem 705 kv_705 rfl
theorem kw_709 : Cond.fieldLink RX10 120 "LastHome$WarText" "LEAST" "[I" ∈ am_gd := am_mem 709 kv_709 rfl
theorem kw_711 : Cond.fieldLink RX10 123 "LastHome$WarText" "MOST" "[I" ∈ am_gd := am_mem 711 kv_711 rfl
theorem kw_713 : Cond.methodLink RX10 78 yX10_keepClause ∈ am_gd := am_mem 713 kv_713 rfl
theorem kw_717 : Cond.methodLink RX10 88 yX9_addMan ∈ am_gd := am_mem 717 kv_717 rfl
theorem kw_721 : Cond.methodLink RX10 92 yX9_addOrchard ∈ am_gd := am_mem 721 kv_721 rfl
theorem kw_725 : Cond.methodLink RX10 56 yX9_isWhole ∈ am_gd := am_mem 725 kv_725 rfl
theorem kw_729 : Cond.methodLink RX11 125 yX2_read ∈ am_gd := am_mem 729 kv_729 rfl
theorem kw_733 : Cond.methodLink RX2 28 yX8_behindBlanks ∈ am_gd := am_mem 733 kv_733 rfl
theorem kw_734 : Cond.methodLink RX2 34 yX2_readClause ∈ am_gd := am_mem 734 kv_734 rfl
theorem kw_738 : Cond.methodLink RX2 39 yX2_takes ∈ am_gd := am_mem 738 kv_738 rfl
theorem kw_742 : Cond.methodLink RX2 43 yX8_at ∈ am_gd := am_mem 742 kv_742 rfl
theorem kw_743 : Cond.methodLink RX2 45 yX2_readCondition ∈ am_gd := am_mem 743 kv_743 rfl
theorem kw_747 : Cond.methodLink RX2 70 yX2_readUnit ∈ am_gd := am_mem 747 kv_747 rfl
theorem kw_751 : Cond.methodLink RX2 48 yX2_readSum ∈ am_gd := am_mem 751 kv_751 rfl
theorem kw_755 : Cond.methodLink RX2 76 yX2_readTerm ∈ am_gd := am_mem 755 kv_755 rfl
theorem kw_759 : Cond.methodLink RX2 79 yX2_readAtom ∈ am_gd := am_mem 759 kv_759 rfl
theorem kw_763 : Cond.methodLink RX2 82 yX8_digitAt ∈ am_gd := am_mem 763 kv_763 rfl
theorem kw_764 : Cond.methodLink RX2 85 yX2_readNumber ∈ am_gd := am_mem 764 kv_764 rfl
theorem kw_768 : Cond.methodLink RX2 66 yX2_put ∈ am_gd := am_mem 768 kv_768 rfl
theorem kw_772 : Cond.methodLink RX2 73 yX2_goOn ∈ am_gd := am_mem 772 kv_772 rfl
theorem kw_777 : Cond.methodLink RX2 90 yJ0_indexOf_0f7a4 ∈ am_gd := am_mem 777 kv_777 rfl
theorem kw_778 : Cond.methodLink RX2 54 yX2_readComparison ∈ am_gd := am_mem 778 kv_778 rfl
theorem kw_782 : Cond.methodLink RX2 51 yX2_comparisonOf ∈ am_gd := am_mem 782 kv_782 rfl
theorem kw_785 : Cond.methodLink RX2 57 yX2_readMoreUnits ∈ am_gd := am_mem 785 kv_785 rfl
theorem kw_789 : Cond.methodLink RX2 60 yX2_readMoreTruths ∈ am_gd := am_mem 789 kv_789 rfl
theorem kw_793 : Cond.methodLink RX2 63 yX2_readAnswer ∈ am_gd := am_mem 793 kv_793 rfl
theorem kw_802 : Cond.methodLink RX11 126 yX11_beginWar ∈ am_gd := am_mem 802 kv_802 rfl
theorem kw_806 : Cond.methodLink RX11 136 yX9_take ∈ am_gd := am_mem 806 kv_806 rfl
theorem kw_810 : Cond.methodLink RX9 57 arraycopyName ∈ am_gd := am_mem 810 kv_810 rfl
theorem kw_811 : Cond.methodLink RX11 140 yX0_layOut ∈ am_gd := am_mem 811 kv_811 rfl
theorem kw_815 : Cond.methodLink RX11 143 yX7_begin ∈ am_gd := am_mem 815 kv_815 rfl
theorem kw_819 : Cond.methodLink RX7 44 yX7_restAt ∈ am_gd := am_mem 819 kv_819 rfl
theorem kw_823 : Cond.methodLink RX7 48 yX7_lookAtAll ∈ am_gd := am_mem 823 kv_823 rfl
theorem kw_827 : Cond.methodLink RX7 53 yX7_lookAt ∈ am_gd := am_mem 827 kv_827 rfl
theorem kw_831 : Cond.methodLink RX7 62 yX7_isHomeBy ∈ am_gd := am_mem 831 kv_831 rfl
theorem kw_835 : Cond.methodLink RX7 81 yX3_worth ∈ am_gd := am_mem 835 kv_835 rfl
theorem kw_839 : Cond.methodLink RX3 51 yX3_has ∈ am_gd := am_mem 839 kv_839 rfl
theorem kw_843 : Cond.methodLink RX3 55 yX3_joined ∈ am_gd := am_mem 843 kv_843 rfl
theorem kw_846 : Cond.constantLong RX3 59 (1000000 : Int64) ∈ am_gd := am_mem 846 kv_846 rfl
theorem kw_847 : Cond.constant RX3 61 (1000000 : Int32) ∈ am_gd := am_mem 847 kv_847 rfl
theorem kw_848 : Cond.constantLong RX3 62 (-1000000 : Int64) ∈ am_gd := am_mem 848 kv_848 rfl
theorem kw_849 : Cond.constant RX3 64 (-1000000 : Int32) ∈ am_gd := am_mem 849 kv_849 rfl
theorem kw_850 : Cond.methodLink RX11 146 yX5_clear ∈ am_gd := am_mem 850 kv_850 rfl
theorem kw_854 : Cond.methodLink RX11 149 yX6_clear ∈ am_gd := am_mem 854 kv_854 rfl
theorem kw_858 : Cond.methodLink RX11 132 yX3_add ∈ am_gd := am_mem 858 kv_858 rfl
theorem kw_862 : Cond.methodLink RX3 45 arraycopyName ∈ am_gd := am_mem 862 kv_862 rfl
theorem kw_871 : Cond.methodLink RX11 203 yX3_has ∈ am_gd := am_mem 871 kv_871 rfl
theorem kw_872 : Cond.methodLink RX11 209 yX7_lookAtAll ∈ am_gd := am_mem 872 kv_872 rfl
theorem kw_877 : Cond.methodLink RX11 212 yX7_winner ∈ am_gd := am_mem 877 kv_877 rfl
theorem kw_885 : Cond.methodLink RX11 227 yX5_length ∈ am_gd := am_mem 885 kv_885 rfl
theorem kw_889 : Cond.methodLink RX5 27 yJ9_min_7cf53 ∈ am_gd := am_mem 889 kv_889 rfl
theorem kw_890 : Cond.constant RX11 232 (-1000000 : Int32) ∈ am_gd := am_mem 890 kv_890 rfl
theorem kw_895 : Cond.methodLink RX11 233 yX7_mayAct ∈ am_gd := am_mem 895 kv_895 rfl
theorem kw_899 : Cond.methodLink RX7 91 yX9_hasMan ∈ am_gd := am_mem 899 kv_899 rfl
theorem kw_903 : Cond.methodLink RX7 95 yX7_isHome ∈ am_gd := am_mem 903 kv_903 rfl
theorem kw_907 : Cond.methodLink RX7 98 yX7_didDeed ∈ am_gd := am_mem 907 kv_907 rfl
theorem kw_911 : Cond.methodLink RX7 101 yX7_isOver ∈ am_gd := am_mem 911 kv_911 rfl
theorem kw_915 : Cond.methodLink RX7 84 yX7_winner ∈ am_gd := am_mem 915 kv_915 rfl
theorem kw_916 : Cond.methodLink RX11 236 yX7_canGo ∈ am_gd := am_mem 916 kv_916 rfl
theorem kw_920 : Cond.methodLink RX11 239 yX6_keepAct ∈ am_gd := am_mem 920 kv_920 rfl
theorem kw_924 : Cond.methodLink RX6 37 yJ9_floorMod_7cf53 ∈ am_gd := am_mem 924 kv_924 rfl
theorem kw_927 : Cond.methodLink RX6 43 yX6_keep ∈ am_gd := am_mem 927 kv_927 rfl
theorem kw_931 : Cond.methodLink RX6 66 yX7_packedSteps ∈ am_gd := am_mem 931 kv_931 rfl
theorem kw_935 : Cond.methodLink RX6 70 yX7_packedRests ∈ am_gd := am_mem 935 kv_935 rfl
theorem kw_939 : Cond.methodLink RX6 51 yJ9_min_7cf53 ∈ am_gd := am_mem 939 kv_939 rfl
theorem kw_940 : Cond.methodLink RX11 243 yX11_doGo ∈ am_gd := am_mem 940 kv_940 rfl
theorem kw_944 : Cond.methodLink RX11 260 yX7_move ∈ am_gd := am_mem 944 kv_944 rfl
theorem kw_948 : Cond.methodLink RX7 117 yJ9_max_7cf53 ∈ am_gd := am_mem 948 kv_948 rfl
theorem kw_949 : Cond.methodLink RX11 263 yX7_markDeed ∈ am_gd := am_mem 949 kv_949 rfl
theorem kw_953 : Cond.methodLink RX11 266 yX5_add ∈ am_gd := am_mem 953 kv_953 rfl
theorem kw_957 : Cond.methodLink RX5 33 yJ9_floorMod_7cf53 ∈ am_gd := am_mem 957 kv_957 rfl
theorem kw_962 : Cond.methodLink RX11 246 yX7_hasRest ∈ am_gd := am_mem 962 kv_962 rfl
theorem kw_966 : Cond.methodLink RX11 249 yX11_doStay ∈ am_gd := am_mem 966 kv_966 rfl
theorem kw_970 : Cond.methodLink RX11 269 yX7_spendRest ∈ am_gd := am_mem 970 kv_970 rfl
theorem kw_978 : Cond.methodLink RX11 154 yX9_hasMan ∈ am_gd := am_mem 978 kv_978 rfl
theorem kw_979 : Cond.methodLink RX11 252 yX7_canPress ∈ am_gd := am_mem 979 kv_979 rfl
theorem kw_983 : Cond.methodLink RX7 108 yX7_hasRest ∈ am_gd := am_mem 983 kv_983 rfl
theorem kw_984 : Cond.methodLink RX7 111 yX7_canGo ∈ am_gd := am_mem 984 kv_984 rfl
theorem kw_985 : Cond.methodLink RX11 256 yX11_doPress ∈ am_gd := am_mem 985 kv_985 rfl
theorem kw_993 : Cond.methodLink RX11 272 yX7_isOver ∈ am_gd := am_mem 993 kv_993 rfl
theorem kw_994 : Cond.methodLink RX11 189 yX7_isHome ∈ am_gd := am_mem 994 kv_994 rfl
theorem kw_995 : Cond.methodLink RX11 186 yX7_didDeed ∈ am_gd := am_mem 995 kv_995 rfl
theorem kw_996 : Cond.methodLink RX11 276 yX11_endDay ∈ am_gd := am_mem 996 kv_996 rfl
theorem mJ0_coder_7d493 : am_mv yJ0_coder_7d493 cJ0_coder_7d493 1 (some .byte) 0 := ⟨am_mem 636 kv_636 rfl, am_mem 634 kv_634 rfl, am_mem 635 kv_635 rfl, am_mem 130 kv_130 rfl, by decide, by decide, by decide +kernel⟩
theorem mJ0_indexOf_0f7a4 : am_mv yJ0_indexOf_0f7a4 cJ0_indexOf_0f7a4 2 (some .int) 1 := ⟨am_mem 618 kv_618 rfl, am_mem 616 kv_616 rfl, am_mem 617 kv_617 rfl, am_mem 130 kv_130 rfl, by decide, by decide, by decide +kernel⟩
theorem mJ0_indexOf_7cf53 : am_mv yJ0_indexOf_7cf53 cJ0_indexOf_7cf53 3 (some .int) 2 := ⟨am_mem 622 kv_622 rfl, am_mem 620 kv_620 rfl, am_mem 621 kv_621 rfl, am_mem 130 kv_130 rfl, by decide, by decide, by decide +kernel⟩
theorem mJ0_isLatin1_aae02 : am_mv yJ0_isLatin1_aae02 cJ0_isLatin1_aae02 1 (some .boolean) 0 := ⟨am_mem 626 kv_626 rfl, am_mem 624 kv_624 rfl, am_mem 625 kv_625 rfl, am_mem 130 kv_130 rfl, by decide, by decide, by decide +kernel⟩
theorem mJ0_length_8abf5 : am_mv yJ0_length_8abf5 cJ0_length_8abf5 1 (some .int) 0 := ⟨am_mem 632 kv_632 rfl, am_mem 630 kv_630 rfl, am_mem 631 kv_631 rfl, am_mem 130 kv_130 rfl, by decide, by decide, by decide +kernel⟩
theorem mJ1_canEncode_9a6ad : am_ms yJ1_canEncode_9a6ad cJ1_canEncode_9a6ad 1 (some .boolean) 1 := ⟨am_mem 642 kv_642 rfl, am_mem 641 kv_641 rfl, am_mem 131 kv_131 rfl, by decide, by decide, by decide +kernel⟩
theorem mJ1_indexOfChar_4cfef : am_ms yJ1_indexOfChar_4cfef cJ1_indexOfChar_4cfef 6 (some .int) 4 := ⟨am_mem 651 kv_651 rfl, am_mem 650 kv_650 rfl, am_mem 131 kv_131 rfl, by decide, by decide, by decide +kernel⟩
theorem mJ1_indexOf_4cfef : am_ms yJ1_indexOf_4cfef cJ1_indexOf_4cfef 4 (some .int) 4 := ⟨am_mem 639 kv_639 rfl, am_mem 638 kv_638 rfl, am_mem 131 kv_131 rfl, by decide, by decide, by decide +kernel⟩
theorem mJ6_bitCount_0f7a4 : am_ms yJ6_bitCount_0f7a4 cJ6_bitCount_0f7a4 1 (some .int) 1 := ⟨am_mem 1220 kv_1220 rfl, am_mem 1219 kv_1219 rfl, am_mem 140 kv_140 rfl, by decide, by decide, by decide +kernel⟩
theorem mJ9_abs_0f7a4 : am_ms yJ9_abs_0f7a4 cJ9_abs_0f7a4 1 (some .int) 1 := ⟨am_mem 1138 kv_1138 rfl, am_mem 1137 kv_1137 rfl, am_mem 132 kv_132 rfl, by decide, by decide, by decide +kernel⟩
theorem mJ9_floorMod_7cf53 : am_ms yJ9_floorMod_7cf53 cJ9_floorMod_7cf53 3 (some .int) 2 := ⟨am_mem 926 kv_926 rfl, am_mem 925 kv_925 rfl, am_mem 132 kv_132 rfl, by decide, by decide, by decide +kernel⟩
theorem mJ9_max_7cf53 : am_ms yJ9_max_7cf53 cJ9_max_7cf53 2 (some .int) 2 := ⟨am_mem 645 kv_645 rfl, am_mem 644 kv_644 rfl, am_mem 132 kv_132 rfl, by decide, by decide, by decide +kernel⟩
theorem mJ9_max_f86c9 : am_ms yJ9_max_f86c9 cJ9_max_f86c9 4 (some .long) 2 := ⟨am_mem 1805 kv_1805 rfl, am_mem 1804 kv_1804 rfl, am_mem 132 kv_132 rfl, by decide, by decide, by decide +kernel⟩
theorem mJ9_min_7cf53 : am_ms yJ9_min_7cf53 cJ9_min_7cf53 2 (some .int) 2 := ⟨am_mem 648 kv_648 rfl, am_mem 647 kv_647 rfl, am_mem 132 kv_132 rfl, by decide, by decide, by decide +kernel⟩
theorem mJ9_min_f86c9 : am_ms yJ9_min_f86c9 cJ9_min_f86c9 4 (some .long) 2 := ⟨am_mem 1802 kv_1802 rfl, am_mem 1801 kv_1801 rfl, am_mem 132 kv_132 rfl, by decide, by decide, by decide +kernel⟩
theorem mX0_answered : am_ms yX0_answered cX0_answered 2 (some .int) 1 := ⟨am_mem 1123 kv_1123 rfl, am_mem 1122 kv_1122 rfl, am_mem 125 kv_125 rfl, by decide, by decide, by decide +kernel⟩
theorem mX0_best : am_mv yX0_best cX0_best 10 (some .int) 4 := ⟨am_mem 1120 kv_1120 rfl, am_mem 1119 kv_1119 rfl, am_mem 36 kv_36 rfl, am_mem 125 kv_125 rfl, by decide, by decide, by decide +kernel⟩
theorem mX0_deed : am_mv yX0_deed cX0_deed 3 (some .int) 2 := ⟨am_mem 1142 kv_1142 rfl, am_mem 1140 kv_1140 rfl, am_mem 1141 kv_1141 rfl, am_mem 125 kv_125 rfl, by decide, by decide, by decide +kernel⟩
theorem mX0_findPressed : am_mv yX0_findPressed cX0_findPressed 4 none 2 := ⟨am_mem 1111 kv_1111 rfl, am_mem 1110 kv_1110 rfl, am_mem 34 kv_34 rfl, am_mem 125 kv_125 rfl, by decide, by decide, by decide +kernel⟩
theorem mX0_isWon : am_mv yX0_isWon cX0_isWon 3 (some .boolean) 2 := ⟨am_mem 1127 kv_1127 rfl, am_mem 1125 kv_1125 rfl, am_mem 1126 kv_1126 rfl, am_mem 125 kv_125 rfl, by decide, by decide, by decide +kernel⟩
theorem mX0_layOut : am_mv yX0_layOut cX0_layOut 5 none 1 := ⟨am_mem 814 kv_814 rfl, am_mem 812 kv_812 rfl, am_mem 813 kv_813 rfl, am_mem 125 kv_125 rfl, by decide, by decide, by decide +kernel⟩
theorem mX0_place : am_mv yX0_place cX0_place 3 (some .int) 2 := ⟨am_mem 1101 kv_1101 rfl, am_mem 1099 kv_1099 rfl, am_mem 1100 kv_1100 rfl, am_mem 125 kv_125 rfl, by decide, by decide, by decide +kernel⟩
theorem mX0_prepare : am_mv yX0_prepare cX0_prepare 6 none 4 := ⟨am_mem 1106 kv_1106 rfl, am_mem 1104 kv_1104 rfl, am_mem 1105 kv_1105 rfl, am_mem 125 kv_125 rfl, by decide, by decide, by decide +kernel⟩
theorem mX0_settleAll : am_mv yX0_settleAll cX0_settleAll 3 none 0 := ⟨am_mem 1116 kv_1116 rfl, am_mem 1115 kv_1115 rfl, am_mem 35 kv_35 rfl, am_mem 125 kv_125 rfl, by decide, by decide, by decide +kernel⟩
theorem mX0_settled : am_mv yX0_settled cX0_settled 4 (some .int) 2 := ⟨am_mem 1131 kv_1131 rfl, am_mem 1129 kv_1129 rfl, am_mem 1130 kv_1130 rfl, am_mem 125 kv_125 rfl, by decide, by decide, by decide +kernel⟩
theorem mX0_turns : am_mv yX0_turns cX0_turns 3 (some .int) 2 := ⟨am_mem 1135 kv_1135 rfl, am_mem 1133 kv_1133 rfl, am_mem 1134 kv_1134 rfl, am_mem 125 kv_125 rfl, by decide, by decide, by decide +kernel⟩
theorem mX10_endOfItems : am_ms yX10_endOfItems cX10_endOfItems 1 (some .int) 1 := ⟨am_mem 606 kv_606 rfl, am_mem 605 kv_605 rfl, am_mem 119 kv_119 rfl, by decide, by decide, by decide +kernel⟩
theorem mX10_firstItemOf : am_ms yX10_firstItemOf cX10_firstItemOf 1 (some .int) 1 := ⟨am_mem 595 kv_595 rfl, am_mem 594 kv_594 rfl, am_mem 119 kv_119 rfl, by decide, by decide, by decide +kernel⟩
theorem mX10_goOn : am_mv yX10_goOn cX10_goOn 1 none 0 := ⟨am_mem 603 kv_603 rfl, am_mem 602 kv_602 rfl, am_mem 2 kv_2 rfl, am_mem 119 kv_119 rfl, by decide, by decide, by decide +kernel⟩
theorem mX10_isOneTooMany : am_mv yX10_isOneTooMany cX10_isOneTooMany 2 (some .boolean) 1 := ⟨am_mem 599 kv_599 rfl, am_mem 598 kv_598 rfl, am_mem 1 kv_1 rfl, am_mem 119 kv_119 rfl, by decide, by decide, by decide +kernel⟩
theorem mX10_keepClause : am_mv yX10_keepClause cX10_keepClause 2 none 1 := ⟨am_mem 716 kv_716 rfl, am_mem 715 kv_715 rfl, am_mem 5 kv_5 rfl, am_mem 119 kv_119 rfl, by decide, by decide, by decide +kernel⟩
theorem mX10_read : am_mv yX10_read cX10_read 2 (some .int) 0 := ⟨am_mem 574 kv_574 rfl, am_mem 572 kv_572 rfl, am_mem 573 kv_573 rfl, am_mem 119 kv_119 rfl, by decide, by decide, by decide +kernel⟩
theorem mX10_readClause : am_mv yX10_readClause cX10_readClause 3 (some .boolean) 0 := ⟨am_mem 588 kv_588 rfl, am_mem 587 kv_587 rfl, am_mem 0 kv_0 rfl, am_mem 119 kv_119 rfl, by decide, by decide, by decide +kernel⟩
theorem mX10_readItems : am_mv yX10_readItems cX10_readItems 6 (some .boolean) 2 := ⟨am_mem 610 kv_610 rfl, am_mem 609 kv_609 rfl, am_mem 3 kv_3 rfl, am_mem 119 kv_119 rfl, by decide, by decide, by decide +kernel⟩
theorem mX10_readNumber : am_mv yX10_readNumber cX10_readNumber 3 (some .boolean) 1 := ⟨am_mem 704 kv_704 rfl, am_mem 703 kv_703 rfl, am_mem 4 kv_4 rfl, am_mem 119 kv_119 rfl, by decide, by decide, by decide +kernel⟩
theorem mX11_ahead : am_mv yX11_ahead cX11_ahead 4 (some .int) 1 := ⟨am_mem 1273 kv_1273 rfl, am_mem 1271 kv_1271 rfl, am_mem 1272 kv_1272 rfl, am_mem 116 kv_116 rfl, by decide, by decide, by decide +kernel⟩
theorem mX11_ask : am_mv yX11_ask cX11_ask 4 (some .int) 2 := ⟨am_mem 1348 kv_1348 rfl, am_mem 1346 kv_1346 rfl, am_mem 1347 kv_1347 rfl, am_mem 116 kv_116 rfl, by decide, by decide, by decide +kernel⟩
theorem mX11_away : am_mv yX11_away cX11_away 4 (some .int) 1 := ⟨am_mem 1235 kv_1235 rfl, am_mem 1233 kv_1233 rfl, am_mem 1234 kv_1234 rfl, am_mem 116 kv_116 rfl, by decide, by decide, by decide +kernel⟩
theorem mX11_back : am_mv yX11_back cX11_back 1 (some .int) 0 := ⟨am_mem 1069 kv_1069 rfl, am_mem 1067 kv_1067 rfl, am_mem 1068 kv_1068 rfl, am_mem 116 kv_116 rfl, by decide, by decide, by decide +kernel⟩
theorem mX11_beginWar : am_mv yX11_beginWar cX11_beginWar 1 (some .int) 0 := ⟨am_mem 805 kv_805 rfl, am_mem 804 kv_804 rfl, am_mem 20 kv_20 rfl, am_mem 116 kv_116 rfl, by decide, by decide, by decide +kernel⟩
theorem mX11_behind : am_mv yX11_behind cX11_behind 2 (some .int) 1 := ⟨am_mem 1265 kv_1265 rfl, am_mem 1263 kv_1263 rfl, am_mem 1264 kv_1264 rfl, am_mem 116 kv_116 rfl, by decide, by decide, by decide +kernel⟩
theorem mX11_champion : am_mv yX11_champion cX11_champion 4 (some .int) 1 := ⟨am_mem 1151 kv_1151 rfl, am_mem 1149 kv_1149 rfl, am_mem 1150 kv_1150 rfl, am_mem 116 kv_116 rfl, by decide, by decide, by decide +kernel⟩
theorem mX11_closed : am_mv yX11_closed cX11_closed 4 (some .int) 0 := ⟨am_mem 1217 kv_1217 rfl, am_mem 1215 kv_1215 rfl, am_mem 1216 kv_1216 rfl, am_mem 116 kv_116 rfl, by decide, by decide, by decide +kernel⟩
theorem mX11_count : am_mv yX11_count cX11_count 2 (some .int) 1 := ⟨am_mem 884 kv_884 rfl, am_mem 882 kv_882 rfl, am_mem 883 kv_883 rfl, am_mem 116 kv_116 rfl, by decide, by decide, by decide +kernel⟩
theorem mX11_countWins : am_mv yX11_countWins cX11_countWins 4 none 1 := ⟨am_mem 1159 kv_1159 rfl, am_mem 1158 kv_1158 rfl, am_mem 38 kv_38 rfl, am_mem 116 kv_116 rfl, by decide, by decide, by decide +kernel⟩
theorem mX11_countWinsOfSpeeds : am_mv yX11_countWinsOfSpeeds cX11_countWinsOfSpeeds 7 none 3 := ⟨am_mem 1163 kv_1163 rfl, am_mem 1162 kv_1162 rfl, am_mem 39 kv_39 rfl, am_mem 116 kv_116 rfl, by decide, by decide, by decide +kernel⟩
theorem mX11_doGo : am_mv yX11_doGo cX11_doGo 2 none 1 := ⟨am_mem 943 kv_943 rfl, am_mem 942 kv_942 rfl, am_mem 24 kv_24 rfl, am_mem 116 kv_116 rfl, by decide, by decide, by decide +kernel⟩
theorem mX11_doPress : am_mv yX11_doPress cX11_doPress 3 none 2 := ⟨am_mem 988 kv_988 rfl, am_mem 987 kv_987 rfl, am_mem 26 kv_26 rfl, am_mem 116 kv_116 rfl, by decide, by decide, by decide +kernel⟩
theorem mX11_doStay : am_mv yX11_doStay cX11_doStay 2 none 1 := ⟨am_mem 969 kv_969 rfl, am_mem 968 kv_968 rfl, am_mem 25 kv_25 rfl, am_mem 116 kv_116 rfl, by decide, by decide, by decide +kernel⟩
theorem mX11_draw : am_mv yX11_draw cX11_draw 2 (some .int) 1 := ⟨am_mem 1015 kv_1015 rfl, am_mem 1014 kv_1014 rfl, am_mem 29 kv_29 rfl, am_mem 116 kv_116 rfl, by decide, by decide, by decide +kernel⟩
theorem mX11_duel : am_mv yX11_duel cX11_duel 6 (some .int) 3 := ⟨am_mem 1081 kv_1081 rfl, am_mem 1079 kv_1079 rfl, am_mem 1080 kv_1080 rfl, am_mem 116 kv_116 rfl, by decide, by decide, by decide +kernel⟩
theorem mX11_end : am_mv yX11_end cX11_end 2 (some .boolean) 1 := ⟨am_mem 566 kv_566 rfl, am_mem 564 kv_564 rfl, am_mem 565 kv_565 rfl, am_mem 116 kv_116 rfl, by decide, by decide, by decide +kernel⟩
theorem mX11_endDay : am_mv yX11_endDay cX11_endDay 1 none 0 := ⟨am_mem 999 kv_999 rfl, am_mem 998 kv_998 rfl, am_mem 27 kv_27 rfl, am_mem 116 kv_116 rfl, by decide, by decide, by decide +kernel⟩
theorem mX11_escorts : am_mv yX11_escorts cX11_escorts 3 (some .int) 2 := ⟨am_mem 1171 kv_1171 rfl, am_mem 1169 kv_1169 rfl, am_mem 1170 kv_1170 rfl, am_mem 116 kv_116 rfl, by decide, by decide, by decide +kernel⟩
theorem mX11_even : am_mv yX11_even cX11_even 3 (some .int) 0 := ⟨am_mem 1277 kv_1277 rfl, am_mem 1275 kv_1275 rfl, am_mem 1276 kv_1276 rfl, am_mem 116 kv_116 rfl, by decide, by decide, by decide +kernel⟩
theorem mX11_evening : am_mv yX11_evening cX11_evening 2 (some .int) 0 := ⟨am_mem 992 kv_992 rfl, am_mem 990 kv_990 rfl, am_mem 991 kv_991 rfl, am_mem 116 kv_116 rfl, by decide, by decide, by decide +kernel⟩
theorem mX11_farthest : am_mv yX11_farthest cX11_farthest 4 (some .int) 1 := ⟨am_mem 1255 kv_1255 rfl, am_mem 1254 kv_1254 rfl, am_mem 45 kv_45 rfl, am_mem 116 kv_116 rfl, by decide, by decide, by decide +kernel⟩
theorem mX11_farthestPlace : am_mv yX11_farthestPlace cX11_farthestPlace 4 (some .int) 1 := ⟨am_mem 1093 kv_1093 rfl, am_mem 1092 kv_1092 rfl, am_mem 32 kv_32 rfl, am_mem 116 kv_116 rfl, by decide, by decide, by decide +kernel⟩
theorem mX11_fault : am_mv yX11_fault cX11_fault 2 (some .int) 1 := ⟨am_mem 570 kv_570 rfl, am_mem 568 kv_568 rfl, am_mem 569 kv_569 rfl, am_mem 116 kv_116 rfl, by decide, by decide, by decide +kernel⟩
theorem mX11_feed : am_mv yX11_feed cX11_feed 7 (some .int) 5 := ⟨am_mem 555 kv_555 rfl, am_mem 553 kv_553 rfl, am_mem 554 kv_554 rfl, am_mem 116 kv_116 rfl, by decide, by decide, by decide +kernel⟩
theorem mX11_fit : am_mv yX11_fit cX11_fit 5 (some .int) 2 := ⟨am_mem 1320 kv_1320 rfl, am_mem 1318 kv_1318 rfl, am_mem 1319 kv_1319 rfl, am_mem 116 kv_116 rfl, by decide, by decide, by decide +kernel⟩
theorem mX11_forced : am_mv yX11_forced cX11_forced 5 (some .int) 1 := ⟨am_mem 1239 kv_1239 rfl, am_mem 1237 kv_1237 rfl, am_mem 1238 kv_1238 rfl, am_mem 116 kv_116 rfl, by decide, by decide, by decide +kernel⟩
theorem mX11_gets : am_mv yX11_gets cX11_gets 3 (some .int) 2 := ⟨am_mem 1290 kv_1290 rfl, am_mem 1288 kv_1288 rfl, am_mem 1289 kv_1289 rfl, am_mem 116 kv_116 rfl, by decide, by decide, by decide +kernel⟩
theorem mX11_go : am_mv yX11_go cX11_go 2 (some .int) 1 := ⟨am_mem 894 kv_894 rfl, am_mem 892 kv_892 rfl, am_mem 893 kv_893 rfl, am_mem 116 kv_116 rfl, by decide, by decide, by decide +kernel⟩
theorem mX11_hurry : am_mv yX11_hurry cX11_hurry 7 (some .int) 2 := ⟨am_mem 1395 kv_1395 rfl, am_mem 1393 kv_1393 rfl, am_mem 1394 kv_1394 rfl, am_mem 116 kv_116 rfl, by decide, by decide, by decide +kernel⟩
theorem mX11_image : am_mv yX11_image cX11_image 1 (some .int) 0 := ⟨am_mem 1055 kv_1055 rfl, am_mem 1053 kv_1053 rfl, am_mem 1054 kv_1054 rfl, am_mem 116 kv_116 rfl, by decide, by decide, by decide +kernel⟩
theorem mX11_isOddsSpan : am_ms yX11_isOddsSpan cX11_isOddsSpan 1 (some .boolean) 1 := ⟨am_mem 1385 kv_1385 rfl, am_mem 1384 kv_1384 rfl, am_mem 116 kv_116 rfl, by decide, by decide, by decide +kernel⟩
theorem mX11_isSideOfWar : am_mv yX11_isSideOfWar cX11_isSideOfWar 2 (some .boolean) 1 := ⟨am_mem 1155 kv_1155 rfl, am_mem 1154 kv_1154 rfl, am_mem 37 kv_37 rfl, am_mem 116 kv_116 rfl, by decide, by decide, by decide +kernel⟩
theorem mX11_last : am_mv yX11_last cX11_last 1 (some .int) 0 := ⟨am_mem 1260 kv_1260 rfl, am_mem 1258 kv_1258 rfl, am_mem 1259 kv_1259 rfl, am_mem 116 kv_116 rfl, by decide, by decide, by decide +kernel⟩
theorem mX11_law : am_mv yX11_law cX11_law 2 (some .boolean) 1 := ⟨am_mem 870 kv_870 rfl, am_mem 868 kv_868 rfl, am_mem 869 kv_869 rfl, am_mem 116 kv_116 rfl, by decide, by decide, by decide +kernel⟩
theorem mX11_letter : am_mv yX11_letter cX11_letter 3 (some .int) 2 := ⟨am_mem 1312 kv_1312 rfl, am_mem 1310 kv_1310 rfl, am_mem 1311 kv_1311 rfl, am_mem 116 kv_116 rfl, by decide, by decide, by decide +kernel⟩
theorem mX11_log : am_mv yX11_log cX11_log 4 (some .int) 2 := ⟨am_mem 1038 kv_1038 rfl, am_mem 1036 kv_1036 rfl, am_mem 1037 kv_1037 rfl, am_mem 116 kv_116 rfl, by decide, by decide, by decide +kernel⟩
theorem mX11_loophole : am_mv yX11_loophole cX11_loophole 2 (some .int) 1 := ⟨am_mem 1208 kv_1208 rfl, am_mem 1206 kv_1206 rfl, am_mem 1207 kv_1207 rfl, am_mem 116 kv_116 rfl, by decide, by decide, by decide +kernel⟩
theorem mX11_loopholeBits : am_mv yX11_loopholeBits cX11_loopholeBits 4 (some .int) 1 := ⟨am_mem 1212 kv_1212 rfl, am_mem 1211 kv_1211 rfl, am_mem 43 kv_43 rfl, am_mem 116 kv_116 rfl, by decide, by decide, by decide +kernel⟩
theorem mX11_makeDuelReady : am_mv yX11_makeDuelReady cX11_makeDuelReady 5 none 2 := ⟨am_mem 1089 kv_1089 rfl, am_mem 1088 kv_1088 rfl, am_mem 31 kv_31 rfl, am_mem 116 kv_116 rfl, by decide, by decide, by decide +kernel⟩
theorem mX11_march : am_mv yX11_march cX11_march 6 (some .int) 2 := ⟨am_mem 1007 kv_1007 rfl, am_mem 1005 kv_1005 rfl, am_mem 1006 kv_1006 rfl, am_mem 116 kv_116 rfl, by decide, by decide, by decide +kernel⟩
theorem mX11_marchOneMan : am_mv yX11_marchOneMan cX11_marchOneMan 4 none 1 := ⟨am_mem 1011 kv_1011 rfl, am_mem 1010 kv_1010 rfl, am_mem 28 kv_28 rfl, am_mem 116 kv_116 rfl, by decide, by decide, by decide +kernel⟩
theorem mX11_mayDuel : am_mv yX11_mayDuel cX11_mayDuel 3 (some .boolean) 2 := ⟨am_mem 1085 kv_1085 rfl, am_mem 1084 kv_1084 rfl, am_mem 30 kv_30 rfl, am_mem 116 kv_116 rfl, by decide, by decide, by decide +kernel⟩
theorem mX11_meeting : am_mv yX11_meeting cX11_meeting 3 (some .int) 2 := ⟨am_mem 1281 kv_1281 rfl, am_mem 1279 kv_1279 rfl, am_mem 1280 kv_1280 rfl, am_mem 116 kv_116 rfl, by decide, by decide, by decide +kernel⟩
theorem mX11_next : am_mv yX11_next cX11_next 4 (some .int) 1 := ⟨am_mem 1269 kv_1269 rfl, am_mem 1267 kv_1267 rfl, am_mem 1268 kv_1268 rfl, am_mem 116 kv_116 rfl, by decide, by decide, by decide +kernel⟩
theorem mX11_odds : am_mv yX11_odds cX11_odds 3 (some .int) 2 := ⟨am_mem 1382 kv_1382 rfl, am_mem 1380 kv_1380 rfl, am_mem 1381 kv_1381 rfl, am_mem 116 kv_116 rfl, by decide, by decide, by decide +kernel⟩
theorem mX11_orchard : am_mv yX11_orchard cX11_orchard 3 (some .int) 2 := ⟨am_mem 866 kv_866 rfl, am_mem 864 kv_864 rfl, am_mem 865 kv_865 rfl, am_mem 116 kv_116 rfl, by decide, by decide, by decide +kernel⟩
theorem mX11_partsAtHome : am_mv yX11_partsAtHome cX11_partsAtHome 7 (some .int) 2 := ⟨am_mem 1389 kv_1389 rfl, am_mem 1388 kv_1388 rfl, am_mem 49 kv_49 rfl, am_mem 116 kv_116 rfl, by decide, by decide, by decide +kernel⟩
theorem mX11_placeOf : am_mv yX11_placeOf cX11_placeOf 2 (some .int) 1 := ⟨am_mem 1097 kv_1097 rfl, am_mem 1096 kv_1096 rfl, am_mem 33 kv_33 rfl, am_mem 116 kv_116 rfl, by decide, by decide, by decide +kernel⟩
theorem mX11_pony : am_mv yX11_pony cX11_pony 2 (some .int) 1 := ⟨am_mem 1251 kv_1251 rfl, am_mem 1249 kv_1249 rfl, am_mem 1250 kv_1250 rfl, am_mem 116 kv_116 rfl, by decide, by decide, by decide +kernel⟩
theorem mX11_press : am_mv yX11_press cX11_press 3 (some .int) 2 := ⟨am_mem 977 kv_977 rfl, am_mem 975 kv_975 rfl, am_mem 976 kv_976 rfl, am_mem 116 kv_116 rfl, by decide, by decide, by decide +kernel⟩
theorem mX11_pressOnDay : am_mv yX11_pressOnDay cX11_pressOnDay 5 (some .int) 2 := ⟨am_mem 1243 kv_1243 rfl, am_mem 1242 kv_1242 rfl, am_mem 44 kv_44 rfl, am_mem 116 kv_116 rfl, by decide, by decide, by decide +kernel⟩
theorem mX11_reads : am_mv yX11_reads cX11_reads 4 (some .int) 1 := ⟨am_mem 1231 kv_1231 rfl, am_mem 1229 kv_1229 rfl, am_mem 1230 kv_1230 rfl, am_mem 116 kv_116 rfl, by decide, by decide, by decide +kernel⟩
theorem mX11_resting : am_mv yX11_resting cX11_resting 4 (some .int) 1 := ⟨am_mem 1303 kv_1303 rfl, am_mem 1301 kv_1301 rfl, am_mem 1302 kv_1302 rfl, am_mem 116 kv_116 rfl, by decide, by decide, by decide +kernel⟩
theorem mX11_soonest : am_mv yX11_soonest cX11_soonest 3 (some .int) 1 := ⟨am_mem 1247 kv_1247 rfl, am_mem 1245 kv_1245 rfl, am_mem 1246 kv_1246 rfl, am_mem 116 kv_116 rfl, by decide, by decide, by decide +kernel⟩
theorem mX11_stay : am_mv yX11_stay cX11_stay 2 (some .int) 1 := ⟨am_mem 961 kv_961 rfl, am_mem 959 kv_959 rfl, am_mem 960 kv_960 rfl, am_mem 116 kv_116 rfl, by decide, by decide, by decide +kernel⟩
theorem mX11_sure : am_mv yX11_sure cX11_sure 2 (some .int) 1 := ⟨am_mem 1378 kv_1378 rfl, am_mem 1376 kv_1376 rfl, am_mem 1377 kv_1377 rfl, am_mem 116 kv_116 rfl, by decide, by decide, by decide +kernel⟩
theorem mX11_text : am_mv yX11_text cX11_text 2 (some .int) 1 := ⟨am_mem 801 kv_801 rfl, am_mem 799 kv_799 rfl, am_mem 800 kv_800 rfl, am_mem 116 kv_116 rfl, by decide, by decide, by decide +kernel⟩
theorem mX11_treaty : am_mv yX11_treaty cX11_treaty 9 (some .int) 2 := ⟨am_mem 1146 kv_1146 rfl, am_mem 1144 kv_1144 rfl, am_mem 1145 kv_1145 rfl, am_mem 116 kv_116 rfl, by decide, by decide, by decide +kernel⟩
theorem mX11_undo : am_mv yX11_undo cX11_undo 1 (some .int) 0 := ⟨am_mem 1026 kv_1026 rfl, am_mem 1024 kv_1024 rfl, am_mem 1025 kv_1025 rfl, am_mem 116 kv_116 rfl, by decide, by decide, by decide +kernel⟩
theorem mX11_victors : am_mv yX11_victors cX11_victors 5 (some .int) 1 := ⟨am_mem 1167 kv_1167 rfl, am_mem 1165 kv_1165 rfl, am_mem 1166 kv_1166 rfl, am_mem 116 kv_116 rfl, by decide, by decide, by decide +kernel⟩
theorem mX11_weary : am_mv yX11_weary cX11_weary 3 (some .int) 0 := ⟨am_mem 1286 kv_1286 rfl, am_mem 1284 kv_1284 rfl, am_mem 1285 kv_1285 rfl, am_mem 116 kv_116 rfl, by decide, by decide, by decide +kernel⟩
theorem mX11_won : am_mv yX11_won cX11_won 1 (some .int) 0 := ⟨am_mem 876 kv_876 rfl, am_mem 874 kv_874 rfl, am_mem 875 kv_875 rfl, am_mem 116 kv_116 rfl, by decide, by decide, by decide +kernel⟩
theorem mX12_ahead : am_mv yX12_ahead cX12_ahead 4 (some .int) 1 := ⟨am_mem 2041 kv_2041 rfl, am_mem 2039 kv_2039 rfl, am_mem 2040 kv_2040 rfl, am_mem 128 kv_128 rfl, by decide, by decide, by decide +kernel⟩
theorem mX12_ask : am_mv yX12_ask cX12_ask 8 (some .int) 2 := ⟨am_mem 2087 kv_2087 rfl, am_mem 2085 kv_2085 rfl, am_mem 2086 kv_2086 rfl, am_mem 128 kv_128 rfl, by decide, by decide, by decide +kernel⟩
theorem mX12_atEnd : am_mv yX12_atEnd cX12_atEnd 1 (some .int) 0 := ⟨am_mem 1747 kv_1747 rfl, am_mem 1746 kv_1746 rfl, am_mem 73 kv_73 rfl, am_mem 128 kv_128 rfl, by decide, by decide, by decide +kernel⟩
theorem mX12_atHome : am_mv yX12_atHome cX12_atHome 3 (some .int) 0 := ⟨am_mem 1825 kv_1825 rfl, am_mem 1824 kv_1824 rfl, am_mem 84 kv_84 rfl, am_mem 128 kv_128 rfl, by decide, by decide, by decide +kernel⟩
theorem mX12_atom : am_mv yX12_atom cX12_atom 2 none 0 := ⟨am_mem 1721 kv_1721 rfl, am_mem 1720 kv_1720 rfl, am_mem 68 kv_68 rfl, am_mem 128 kv_128 rfl, by decide, by decide, by decide +kernel⟩
theorem mX12_away : am_mv yX12_away cX12_away 4 (some .int) 1 := ⟨am_mem 2005 kv_2005 rfl, am_mem 2003 kv_2003 rfl, am_mem 2004 kv_2004 rfl, am_mem 128 kv_128 rfl, by decide, by decide, by decide +kernel⟩
theorem mX12_back : am_mv yX12_back cX12_back 2 (some .int) 0 := ⟨am_mem 2114 kv_2114 rfl, am_mem 2112 kv_2112 rfl, am_mem 2113 kv_2113 rfl, am_mem 128 kv_128 rfl, by decide, by decide, by decide +kernel⟩
theorem mX12_bad : am_mv yX12_bad cX12_bad 1 none 0 := ⟨am_mem 1670 kv_1670 rfl, am_mem 1669 kv_1669 rfl, am_mem 56 kv_56 rfl, am_mem 128 kv_128 rfl, by decide, by decide, by decide +kernel⟩
theorem mX12_behind : am_mv yX12_behind cX12_behind 2 (some .int) 1 := ⟨am_mem 2033 kv_2033 rfl, am_mem 2031 kv_2031 rfl, am_mem 2032 kv_2032 rfl, am_mem 128 kv_128 rfl, by decide, by decide, by decide +kernel⟩
theorem mX12_bounded : am_ms yX12_bounded cX12_bounded 2 (some .int) 1 := ⟨am_mem 1797 kv_1797 rfl, am_mem 1796 kv_1796 rfl, am_mem 128 kv_128 rfl, by decide, by decide, by decide +kernel⟩
theorem mX12_byteOf : am_ms yX12_byteOf cX12_byteOf 7 (some .int) 6 := ⟨am_mem 1620 kv_1620 rfl, am_mem 1619 kv_1619 rfl, am_mem 128 kv_128 rfl, by decide, by decide, by decide +kernel⟩
theorem mX12_canDuel : am_mv yX12_canDuel cX12_canDuel 3 (some .boolean) 2 := ⟨am_mem 1925 kv_1925 rfl, am_mem 1924 kv_1924 rfl, am_mem 100 kv_100 rfl, am_mem 128 kv_128 rfl, by decide, by decide, by decide +kernel⟩
theorem mX12_canEscort : am_mv yX12_canEscort cX12_canEscort 3 (some .boolean) 2 := ⟨am_mem 1981 kv_1981 rfl, am_mem 1980 kv_1980 rfl, am_mem 107 kv_107 rfl, am_mem 128 kv_128 rfl, by decide, by decide, by decide +kernel⟩
theorem mX12_canGo : am_mv yX12_canGo cX12_canGo 2 (some .boolean) 1 := ⟨am_mem 1837 kv_1837 rfl, am_mem 1836 kv_1836 rfl, am_mem 86 kv_86 rfl, am_mem 128 kv_128 rfl, by decide, by decide, by decide +kernel⟩
theorem mX12_canPress : am_mv yX12_canPress cX12_canPress 3 (some .boolean) 2 := ⟨am_mem 1877 kv_1877 rfl, am_mem 1876 kv_1876 rfl, am_mem 94 kv_94 rfl, am_mem 128 kv_128 rfl, by decide, by decide, by decide +kernel⟩
theorem mX12_canStay : am_mv yX12_canStay cX12_canStay 2 (some .boolean) 1 := ⟨am_mem 1865 kv_1865 rfl, am_mem 1864 kv_1864 rfl, am_mem 92 kv_92 rfl, am_mem 128 kv_128 rfl, by decide, by decide, by decide +kernel⟩
theorem mX12_champion : am_mv yX12_champion cX12_champion 6 (some .int) 1 := ⟨am_mem 1947 kv_1947 rfl, am_mem 1945 kv_1945 rfl, am_mem 1946 kv_1946 rfl, am_mem 128 kv_128 rfl, by decide, by decide, by decide +kernel⟩
theorem mX12_clause : am_mv yX12_clause cX12_clause 3 none 0 := ⟨am_mem 1689 kv_1689 rfl, am_mem 1688 kv_1688 rfl, am_mem 60 kv_60 rfl, am_mem 128 kv_128 rfl, by decide, by decide, by decide +kernel⟩
theorem mX12_closed : am_mv yX12_closed cX12_closed 5 (some .int) 0 := ⟨am_mem 1997 kv_1997 rfl, am_mem 1995 kv_1995 rfl, am_mem 1996 kv_1996 rfl, am_mem 128 kv_128 rfl, by decide, by decide, by decide +kernel⟩
theorem mX12_closes : am_mv yX12_closes cX12_closes 2 none 1 := ⟨am_mem 1709 kv_1709 rfl, am_mem 1708 kv_1708 rfl, am_mem 65 kv_65 rfl, am_mem 128 kv_128 rfl, by decide, by decide, by decide +kernel⟩
theorem mX12_comes : am_mv yX12_comes cX12_comes 3 none 2 := ⟨am_mem 1759 kv_1759 rfl, am_mem 1758 kv_1758 rfl, am_mem 75 kv_75 rfl, am_mem 128 kv_128 rfl, by decide, by decide, by decide +kernel⟩
theorem mX12_compare : am_mv yX12_compare cX12_compare 2 none 0 := ⟨am_mem 1732 kv_1732 rfl, am_mem 1731 kv_1731 rfl, am_mem 70 kv_70 rfl, am_mem 128 kv_128 rfl, by decide, by decide, by decide +kernel⟩
theorem mX12_condition : am_mv yX12_condition cX12_condition 1 none 0 := ⟨am_mem 1693 kv_1693 rfl, am_mem 1692 kv_1692 rfl, am_mem 61 kv_61 rfl, am_mem 128 kv_128 rfl, by decide, by decide, by decide +kernel⟩
theorem mX12_count : am_mv yX12_count cX12_count 2 (some .int) 1 := ⟨am_mem 2118 kv_2118 rfl, am_mem 2116 kv_2116 rfl, am_mem 2117 kv_2117 rfl, am_mem 128 kv_128 rfl, by decide, by decide, by decide +kernel⟩
theorem mX12_draw : am_mv yX12_draw cX12_draw 2 (some .int) 1 := ⟨am_mem 1902 kv_1902 rfl, am_mem 1901 kv_1901 rfl, am_mem 98 kv_98 rfl, am_mem 128 kv_128 rfl, by decide, by decide, by decide +kernel⟩
theorem mX12_drawDeed : am_mv yX12_drawDeed cX12_drawDeed 3 none 1 := ⟨am_mem 1898 kv_1898 rfl, am_mem 1897 kv_1897 rfl, am_mem 97 kv_97 rfl, am_mem 128 kv_128 rfl, by decide, by decide, by decide +kernel⟩
theorem mX12_duel : am_mv yX12_duel cX12_duel 5 (some .int) 3 := ⟨am_mem 1921 kv_1921 rfl, am_mem 1919 kv_1919 rfl, am_mem 1920 kv_1920 rfl, am_mem 128 kv_128 rfl, by decide, by decide, by decide +kernel⟩
theorem mX12_duelWith : am_mv yX12_duelWith cX12_duelWith 5 (some .int) 3 := ⟨am_mem 1929 kv_1929 rfl, am_mem 1928 kv_1928 rfl, am_mem 101 kv_101 rfl, am_mem 128 kv_128 rfl, by decide, by decide, by decide +kernel⟩
theorem mX12_end : am_mv yX12_end cX12_end 2 (some .boolean) 1 := ⟨am_mem 1624 kv_1624 rfl, am_mem 1622 kv_1622 rfl, am_mem 1623 kv_1623 rfl, am_mem 128 kv_128 rfl, by decide, by decide, by decide +kernel⟩
theorem mX12_endDay : am_mv yX12_endDay cX12_endDay 2 none 0 := ⟨am_mem 1890 kv_1890 rfl, am_mem 1889 kv_1889 rfl, am_mem 96 kv_96 rfl, am_mem 128 kv_128 rfl, by decide, by decide, by decide +kernel⟩
theorem mX12_escorts : am_mv yX12_escorts cX12_escorts 3 (some .int) 2 := ⟨am_mem 1972 kv_1972 rfl, am_mem 1970 kv_1970 rfl, am_mem 1971 kv_1971 rfl, am_mem 128 kv_128 rfl, by decide, by decide, by decide +kernel⟩
theorem mX12_even : am_mv yX12_even cX12_even 3 (some .int) 0 := ⟨am_mem 2045 kv_2045 rfl, am_mem 2043 kv_2043 rfl, am_mem 2044 kv_2044 rfl, am_mem 128 kv_128 rfl, by decide, by decide, by decide +kernel⟩
theorem mX12_evening : am_mv yX12_evening cX12_evening 2 (some .int) 0 := ⟨am_mem 1886 kv_1886 rfl, am_mem 1884 kv_1884 rfl, am_mem 1885 kv_1885 rfl, am_mem 128 kv_128 rfl, by decide, by decide, by decide +kernel⟩
theorem mX12_farthest : am_mv yX12_farthest cX12_farthest 4 (some .int) 1 := ⟨am_mem 2021 kv_2021 rfl, am_mem 2020 kv_2020 rfl, am_mem 111 kv_111 rfl, am_mem 128 kv_128 rfl, by decide, by decide, by decide +kernel⟩
theorem mX12_fault : am_mv yX12_fault cX12_fault 2 (some .int) 1 := ⟨am_mem 1628 kv_1628 rfl, am_mem 1626 kv_1626 rfl, am_mem 1627 kv_1627 rfl, am_mem 128 kv_128 rfl, by decide, by decide, by decide +kernel⟩
theorem mX12_feed : am_mv yX12_feed cX12_feed 9 (some .int) 5 := ⟨am_mem 1617 kv_1617 rfl, am_mem 1615 kv_1615 rfl, am_mem 1616 kv_1616 rfl, am_mem 128 kv_128 rfl, by decide, by decide, by decide +kernel⟩
theorem mX12_fit : am_mv yX12_fit cX12_fit 5 (some .int) 2 := ⟨am_mem 2073 kv_2073 rfl, am_mem 2071 kv_2071 rfl, am_mem 2072 kv_2072 rfl, am_mem 128 kv_128 rfl, by decide, by decide, by decide +kernel⟩
theorem mX12_foes : am_mv yX12_foes cX12_foes 4 (some .int) 1 := ⟨am_mem 1963 kv_1963 rfl, am_mem 1962 kv_1962 rfl, am_mem 105 kv_105 rfl, am_mem 128 kv_128 rfl, by decide, by decide, by decide +kernel⟩
theorem mX12_forced : am_mv yX12_forced cX12_forced 5 (some .int) 1 := ⟨am_mem 2013 kv_2013 rfl, am_mem 2011 kv_2011 rfl, am_mem 2012 kv_2012 rfl, am_mem 128 kv_128 rfl, by decide, by decide, by decide +kernel⟩
theorem mX12_gets : am_mv yX12_gets cX12_gets 3 (some .int) 2 := ⟨am_mem 2057 kv_2057 rfl, am_mem 2055 kv_2055 rfl, am_mem 2056 kv_2056 rfl, am_mem 128 kv_128 rfl, by decide, by decide, by decide +kernel⟩
theorem mX12_getsOf : am_mv yX12_getsOf cX12_getsOf 7 (some .int) 2 := ⟨am_mem 2061 kv_2061 rfl, am_mem 2060 kv_2060 rfl, am_mem 112 kv_112 rfl, am_mem 128 kv_128 rfl, by decide, by decide, by decide +kernel⟩
theorem mX12_go : am_mv yX12_go cX12_go 2 (some .int) 1 := ⟨am_mem 1833 kv_1833 rfl, am_mem 1831 kv_1831 rfl, am_mem 1832 kv_1832 rfl, am_mem 128 kv_128 rfl, by decide, by decide, by decide +kernel⟩
theorem mX12_goNow : am_mv yX12_goNow cX12_goNow 2 none 1 := ⟨am_mem 1853 kv_1853 rfl, am_mem 1852 kv_1852 rfl, am_mem 90 kv_90 rfl, am_mem 128 kv_128 rfl, by decide, by decide, by decide +kernel⟩
theorem mX12_goOnAnd : am_mv yX12_goOnAnd cX12_goOnAnd 1 none 0 := ⟨am_mem 1739 kv_1739 rfl, am_mem 1738 kv_1738 rfl, am_mem 71 kv_71 rfl, am_mem 128 kv_128 rfl, by decide, by decide, by decide +kernel⟩
theorem mX12_goOnOr : am_mv yX12_goOnOr cX12_goOnOr 1 none 0 := ⟨am_mem 1743 kv_1743 rfl, am_mem 1742 kv_1742 rfl, am_mem 72 kv_72 rfl, am_mem 128 kv_128 rfl, by decide, by decide, by decide +kernel⟩
theorem mX12_has : am_ms yX12_has cX12_has 2 (some .boolean) 2 := ⟨am_mem 1653 kv_1653 rfl, am_mem 1652 kv_1652 rfl, am_mem 128 kv_128 rfl, by decide, by decide, by decide +kernel⟩
theorem mX12_here : am_mv yX12_here cX12_here 1 (some .int) 0 := ⟨am_mem 1643 kv_1643 rfl, am_mem 1642 kv_1642 rfl, am_mem 53 kv_53 rfl, am_mem 128 kv_128 rfl, by decide, by decide, by decide +kernel⟩
theorem mX12_highest : am_ms yX12_highest cX12_highest 2 (some .int) 2 := ⟨am_mem 1659 kv_1659 rfl, am_mem 1658 kv_1658 rfl, am_mem 128 kv_128 rfl, by decide, by decide, by decide +kernel⟩
theorem mX12_hurry : am_mv yX12_hurry cX12_hurry 7 (some .int) 2 := ⟨am_mem 2106 kv_2106 rfl, am_mem 2104 kv_2104 rfl, am_mem 2105 kv_2105 rfl, am_mem 128 kv_128 rfl, by decide, by decide, by decide +kernel⟩
theorem mX12_image : am_mv yX12_image cX12_image 2 (some .int) 0 := ⟨am_mem 2110 kv_2110 rfl, am_mem 2108 kv_2108 rfl, am_mem 2109 kv_2109 rfl, am_mem 128 kv_128 rfl, by decide, by decide, by decide +kernel⟩
theorem mX12_in : am_ms yX12_in cX12_in 3 (some .boolean) 3 := ⟨am_mem 1673 kv_1673 rfl, am_mem 1672 kv_1672 rfl, am_mem 128 kv_128 rfl, by decide, by decide, by decide +kernel⟩
theorem mX12_isAhead : am_mv yX12_isAhead cX12_isAhead 3 (some .boolean) 2 := ⟨am_mem 2009 kv_2009 rfl, am_mem 2008 kv_2008 rfl, am_mem 110 kv_110 rfl, am_mem 128 kv_128 rfl, by decide, by decide, by decide +kernel⟩
theorem mX12_isBetter : am_ms yX12_isBetter cX12_isBetter 2 (some .boolean) 2 := ⟨am_mem 1942 kv_1942 rfl, am_mem 1941 kv_1941 rfl, am_mem 128 kv_128 rfl, by decide, by decide, by decide +kernel⟩
theorem mX12_isDigit : am_ms yX12_isDigit cX12_isDigit 1 (some .boolean) 1 := ⟨am_mem 1666 kv_1666 rfl, am_mem 1665 kv_1665 rfl, am_mem 128 kv_128 rfl, by decide, by decide, by decide +kernel⟩
theorem mX12_isEscorted : am_mv yX12_isEscorted cX12_isEscorted 3 (some .boolean) 2 := ⟨am_mem 1985 kv_1985 rfl, am_mem 1984 kv_1984 rfl, am_mem 108 kv_108 rfl, am_mem 128 kv_128 rfl, by decide, by decide, by decide +kernel⟩
theorem mX12_isFree : am_mv yX12_isFree cX12_isFree 2 (some .boolean) 1 := ⟨am_mem 1841 kv_1841 rfl, am_mem 1840 kv_1840 rfl, am_mem 87 kv_87 rfl, am_mem 128 kv_128 rfl, by decide, by decide, by decide +kernel⟩
theorem mX12_isHome : am_mv yX12_isHome cX12_isHome 2 (some .boolean) 1 := ⟨am_mem 1775 kv_1775 rfl, am_mem 1774 kv_1774 rfl, am_mem 78 kv_78 rfl, am_mem 128 kv_128 rfl, by decide, by decide, by decide +kernel⟩
theorem mX12_isHomeBy : am_mv yX12_isHomeBy cX12_isHomeBy 3 (some .boolean) 2 := ⟨am_mem 1779 kv_1779 rfl, am_mem 1778 kv_1778 rfl, am_mem 79 kv_79 rfl, am_mem 128 kv_128 rfl, by decide, by decide, by decide +kernel⟩
theorem mX12_isMan : am_mv yX12_isMan cX12_isMan 2 (some .boolean) 1 := ⟨am_mem 1771 kv_1771 rfl, am_mem 1770 kv_1770 rfl, am_mem 77 kv_77 rfl, am_mem 128 kv_128 rfl, by decide, by decide, by decide +kernel⟩
theorem mX12_isOver : am_mv yX12_isOver cX12_isOver 1 (some .boolean) 0 := ⟨am_mem 1845 kv_1845 rfl, am_mem 1844 kv_1844 rfl, am_mem 88 kv_88 rfl, am_mem 128 kv_128 rfl, by decide, by decide, by decide +kernel⟩
theorem mX12_isSide : am_mv yX12_isSide cX12_isSide 2 (some .boolean) 1 := ⟨am_mem 1951 kv_1951 rfl, am_mem 1950 kv_1950 rfl, am_mem 103 kv_103 rfl, am_mem 128 kv_128 rfl, by decide, by decide, by decide +kernel⟩
theorem mX12_isSign : am_ms yX12_isSign cX12_isSign 1 (some .boolean) 1 := ⟨am_mem 1735 kv_1735 rfl, am_mem 1734 kv_1734 rfl, am_mem 128 kv_128 rfl, by decide, by decide, by decide +kernel⟩
theorem mX12_isSoBy : am_mv yX12_isSoBy cX12_isSoBy 5 (some .boolean) 2 := ⟨am_mem 2080 kv_2080 rfl, am_mem 2079 kv_2079 rfl, am_mem 113 kv_113 rfl, am_mem 128 kv_128 rfl, by decide, by decide, by decide +kernel⟩
theorem mX12_isWhole : am_mv yX12_isWhole cX12_isWhole 5 (some .boolean) 0 := ⟨am_mem 1677 kv_1677 rfl, am_mem 1676 kv_1676 rfl, am_mem 57 kv_57 rfl, am_mem 128 kv_128 rfl, by decide, by decide, by decide +kernel⟩
theorem mX12_itemOf : am_ms yX12_itemOf cX12_itemOf 2 (some .int) 2 := ⟨am_mem 1650 kv_1650 rfl, am_mem 1649 kv_1649 rfl, am_mem 128 kv_128 rfl, by decide, by decide, by decide +kernel⟩
theorem mX12_items : am_mv yX12_items cX12_items 7 none 4 := ⟨am_mem 1647 kv_1647 rfl, am_mem 1646 kv_1646 rfl, am_mem 54 kv_54 rfl, am_mem 128 kv_128 rfl, by decide, by decide, by decide +kernel⟩
theorem mX12_keep : am_mv yX12_keep cX12_keep 2 none 0 := ⟨am_mem 1849 kv_1849 rfl, am_mem 1848 kv_1848 rfl, am_mem 89 kv_89 rfl, am_mem 128 kv_128 rfl, by decide, by decide, by decide +kernel⟩
theorem mX12_last : am_mv yX12_last cX12_last 1 (some .int) 0 := ⟨am_mem 2029 kv_2029 rfl, am_mem 2027 kv_2027 rfl, am_mem 2028 kv_2028 rfl, am_mem 128 kv_128 rfl, by decide, by decide, by decide +kernel⟩
theorem mX12_law : am_mv yX12_law cX12_law 2 (some .boolean) 1 := ⟨am_mem 1813 kv_1813 rfl, am_mem 1811 kv_1811 rfl, am_mem 1812 kv_1812 rfl, am_mem 128 kv_128 rfl, by decide, by decide, by decide +kernel⟩
theorem mX12_letter : am_mv yX12_letter cX12_letter 3 (some .int) 2 := ⟨am_mem 2069 kv_2069 rfl, am_mem 2067 kv_2067 rfl, am_mem 2068 kv_2068 rfl, am_mem 128 kv_128 rfl, by decide, by decide, by decide +kernel⟩
theorem mX12_letterOf : am_ms yX12_letterOf cX12_letterOf 1 (some .int) 1 := ⟨am_mem 1728 kv_1728 rfl, am_mem 1727 kv_1727 rfl, am_mem 128 kv_128 rfl, by decide, by decide, by decide +kernel⟩
theorem mX12_log : am_mv yX12_log cX12_log 3 (some .int) 2 := ⟨am_mem 1916 kv_1916 rfl, am_mem 1914 kv_1914 rfl, am_mem 1915 kv_1915 rfl, am_mem 128 kv_128 rfl, by decide, by decide, by decide +kernel⟩
theorem mX12_look : am_mv yX12_look cX12_look 1 (some .int) 0 := ⟨am_mem 1639 kv_1639 rfl, am_mem 1638 kv_1638 rfl, am_mem 52 kv_52 rfl, am_mem 128 kv_128 rfl, by decide, by decide, by decide +kernel⟩
theorem mX12_loophole : am_mv yX12_loophole cX12_loophole 2 (some .int) 1 := ⟨am_mem 1989 kv_1989 rfl, am_mem 1987 kv_1987 rfl, am_mem 1988 kv_1988 rfl, am_mem 128 kv_128 rfl, by decide, by decide, by decide +kernel⟩
theorem mX12_looseBy : am_mv yX12_looseBy cX12_looseBy 4 (some .int) 1 := ⟨am_mem 1993 kv_1993 rfl, am_mem 1992 kv_1992 rfl, am_mem 109 kv_109 rfl, am_mem 128 kv_128 rfl, by decide, by decide, by decide +kernel⟩
theorem mX12_lowest : am_ms yX12_lowest cX12_lowest 2 (some .int) 2 := ⟨am_mem 1656 kv_1656 rfl, am_mem 1655 kv_1655 rfl, am_mem 128 kv_128 rfl, by decide, by decide, by decide +kernel⟩
theorem mX12_man : am_mv yX12_man cX12_man 3 (some .int) 2 := ⟨am_mem 1767 kv_1767 rfl, am_mem 1765 kv_1765 rfl, am_mem 1766 kv_1766 rfl, am_mem 128 kv_128 rfl, by decide, by decide, by decide +kernel⟩
theorem mX12_march : am_mv yX12_march cX12_march 6 (some .int) 2 := ⟨am_mem 1894 kv_1894 rfl, am_mem 1892 kv_1892 rfl, am_mem 1893 kv_1893 rfl, am_mem 128 kv_128 rfl, by decide, by decide, by decide +kernel⟩
theorem mX12_meeting : am_mv yX12_meeting cX12_meeting 3 (some .int) 2 := ⟨am_mem 2049 kv_2049 rfl, am_mem 2047 kv_2047 rfl, am_mem 2048 kv_2048 rfl, am_mem 128 kv_128 rfl, by decide, by decide, by decide +kernel⟩
theorem mX12_next : am_mv yX12_next cX12_next 4 (some .int) 1 := ⟨am_mem 2037 kv_2037 rfl, am_mem 2035 kv_2035 rfl, am_mem 2036 kv_2036 rfl, am_mem 128 kv_128 rfl, by decide, by decide, by decide +kernel⟩
theorem mX12_note : am_mv yX12_note cX12_note 5 none 3 := ⟨am_mem 1857 kv_1857 rfl, am_mem 1856 kv_1856 rfl, am_mem 91 kv_91 rfl, am_mem 128 kv_128 rfl, by decide, by decide, by decide +kernel⟩
theorem mX12_number : am_mv yX12_number cX12_number 4 (some .int) 2 := ⟨am_mem 1663 kv_1663 rfl, am_mem 1662 kv_1662 rfl, am_mem 55 kv_55 rfl, am_mem 128 kv_128 rfl, by decide, by decide, by decide +kernel⟩
theorem mX12_odds : am_mv yX12_odds cX12_odds 3 (some .int) 2 := ⟨am_mem 2096 kv_2096 rfl, am_mem 2094 kv_2094 rfl, am_mem 2095 kv_2095 rfl, am_mem 128 kv_128 rfl, by decide, by decide, by decide +kernel⟩
theorem mX12_oddsOf : am_mv yX12_oddsOf cX12_oddsOf 7 (some .int) 2 := ⟨am_mem 2100 kv_2100 rfl, am_mem 2099 kv_2099 rfl, am_mem 114 kv_114 rfl, am_mem 128 kv_128 rfl, by decide, by decide, by decide +kernel⟩
theorem mX12_of : am_mv yX12_of cX12_of 4 (some .int) 1 := ⟨am_mem 1829 kv_1829 rfl, am_mem 1828 kv_1828 rfl, am_mem 85 kv_85 rfl, am_mem 128 kv_128 rfl, by decide, by decide, by decide +kernel⟩
theorem mX12_open : am_mv yX12_open cX12_open 2 none 1 := ⟨am_mem 1685 kv_1685 rfl, am_mem 1684 kv_1684 rfl, am_mem 59 kv_59 rfl, am_mem 128 kv_128 rfl, by decide, by decide, by decide +kernel⟩
theorem mX12_opens : am_mv yX12_opens cX12_opens 1 none 0 := ⟨am_mem 1701 kv_1701 rfl, am_mem 1700 kv_1700 rfl, am_mem 63 kv_63 rfl, am_mem 128 kv_128 rfl, by decide, by decide, by decide +kernel⟩
theorem mX12_orchard : am_mv yX12_orchard cX12_orchard 3 (some .int) 2 := ⟨am_mem 1809 kv_1809 rfl, am_mem 1807 kv_1807 rfl, am_mem 1808 kv_1808 rfl, am_mem 128 kv_128 rfl, by decide, by decide, by decide +kernel⟩
theorem mX12_outcomeOf : am_mv yX12_outcomeOf cX12_outcomeOf 12 (some .int) 5 := ⟨am_mem 1933 kv_1933 rfl, am_mem 1932 kv_1932 rfl, am_mem 102 kv_102 rfl, am_mem 128 kv_128 rfl, by decide, by decide, by decide +kernel⟩
theorem mX12_place : am_ms yX12_place cX12_place 5 (some .int) 5 := ⟨am_mem 1936 kv_1936 rfl, am_mem 1935 kv_1935 rfl, am_mem 128 kv_128 rfl, by decide, by decide, by decide +kernel⟩
theorem mX12_plainNumber : am_mv yX12_plainNumber cX12_plainNumber 3 (some .int) 0 := ⟨am_mem 1725 kv_1725 rfl, am_mem 1724 kv_1724 rfl, am_mem 69 kv_69 rfl, am_mem 128 kv_128 rfl, by decide, by decide, by decide +kernel⟩
theorem mX12_pony : am_mv yX12_pony cX12_pony 2 (some .int) 1 := ⟨am_mem 2025 kv_2025 rfl, am_mem 2023 kv_2023 rfl, am_mem 2024 kv_2024 rfl, am_mem 128 kv_128 rfl, by decide, by decide, by decide +kernel⟩
theorem mX12_power : am_ms yX12_power cX12_power 1 (some .int) 1 := ⟨am_mem 2076 kv_2076 rfl, am_mem 2075 kv_2075 rfl, am_mem 128 kv_128 rfl, by decide, by decide, by decide +kernel⟩
theorem mX12_press : am_mv yX12_press cX12_press 3 (some .int) 2 := ⟨am_mem 1873 kv_1873 rfl, am_mem 1871 kv_1871 rfl, am_mem 1872 kv_1872 rfl, am_mem 128 kv_128 rfl, by decide, by decide, by decide +kernel⟩
theorem mX12_pressLowest : am_mv yX12_pressLowest cX12_pressLowest 3 none 1 := ⟨am_mem 1908 kv_1908 rfl, am_mem 1907 kv_1907 rfl, am_mem 99 kv_99 rfl, am_mem 128 kv_128 rfl, by decide, by decide, by decide +kernel⟩
theorem mX12_pressNow : am_mv yX12_pressNow cX12_pressNow 3 none 2 := ⟨am_mem 1881 kv_1881 rfl, am_mem 1880 kv_1880 rfl, am_mem 95 kv_95 rfl, am_mem 128 kv_128 rfl, by decide, by decide, by decide +kernel⟩
theorem mX12_put : am_mv yX12_put cX12_put 3 none 2 := ⟨am_mem 1705 kv_1705 rfl, am_mem 1704 kv_1704 rfl, am_mem 64 kv_64 rfl, am_mem 128 kv_128 rfl, by decide, by decide, by decide +kernel⟩
theorem mX12_readLaw : am_mv yX12_readLaw cX12_readLaw 2 (some .int) 1 := ⟨am_mem 1681 kv_1681 rfl, am_mem 1680 kv_1680 rfl, am_mem 58 kv_58 rfl, am_mem 128 kv_128 rfl, by decide, by decide, by decide +kernel⟩
theorem mX12_readWar : am_mv yX12_readWar cX12_readWar 4 (some .int) 0 := ⟨am_mem 1632 kv_1632 rfl, am_mem 1631 kv_1631 rfl, am_mem 51 kv_51 rfl, am_mem 128 kv_128 rfl, by decide, by decide, by decide +kernel⟩
theorem mX12_reads : am_mv yX12_reads cX12_reads 4 (some .int) 1 := ⟨am_mem 2001 kv_2001 rfl, am_mem 1999 kv_1999 rfl, am_mem 2000 kv_2000 rfl, am_mem 128 kv_128 rfl, by decide, by decide, by decide +kernel⟩
theorem mX12_restAt : am_mv yX12_restAt cX12_restAt 3 (some .int) 1 := ⟨am_mem 1763 kv_1763 rfl, am_mem 1762 kv_1762 rfl, am_mem 76 kv_76 rfl, am_mem 128 kv_128 rfl, by decide, by decide, by decide +kernel⟩
theorem mX12_resting : am_mv yX12_resting cX12_resting 6 (some .int) 1 := ⟨am_mem 2065 kv_2065 rfl, am_mem 2063 kv_2063 rfl, am_mem 2064 kv_2064 rfl, am_mem 128 kv_128 rfl, by decide, by decide, by decide +kernel⟩
theorem mX12_side : am_mv yX12_side cX12_side 2 (some .int) 1 := ⟨am_mem 1783 kv_1783 rfl, am_mem 1782 kv_1782 rfl, am_mem 80 kv_80 rfl, am_mem 128 kv_128 rfl, by decide, by decide, by decide +kernel⟩
theorem mX12_soonest : am_mv yX12_soonest cX12_soonest 2 (some .int) 1 := ⟨am_mem 2017 kv_2017 rfl, am_mem 2015 kv_2015 rfl, am_mem 2016 kv_2016 rfl, am_mem 128 kv_128 rfl, by decide, by decide, by decide +kernel⟩
theorem mX12_stay : am_mv yX12_stay cX12_stay 2 (some .int) 1 := ⟨am_mem 1861 kv_1861 rfl, am_mem 1859 kv_1859 rfl, am_mem 1860 kv_1860 rfl, am_mem 128 kv_128 rfl, by decide, by decide, by decide +kernel⟩
theorem mX12_stayNow : am_mv yX12_stayNow cX12_stayNow 2 none 1 := ⟨am_mem 1869 kv_1869 rfl, am_mem 1868 kv_1868 rfl, am_mem 93 kv_93 rfl, am_mem 128 kv_128 rfl, by decide, by decide, by decide +kernel⟩
theorem mX12_sum : am_mv yX12_sum cX12_sum 2 none 0 := ⟨am_mem 1713 kv_1713 rfl, am_mem 1712 kv_1712 rfl, am_mem 66 kv_66 rfl, am_mem 128 kv_128 rfl, by decide, by decide, by decide +kernel⟩
theorem mX12_sure : am_mv yX12_sure cX12_sure 7 (some .int) 1 := ⟨am_mem 2092 kv_2092 rfl, am_mem 2090 kv_2090 rfl, am_mem 2091 kv_2091 rfl, am_mem 128 kv_128 rfl, by decide, by decide, by decide +kernel⟩
theorem mX12_takeWar : am_mv yX12_takeWar cX12_takeWar 2 (some .int) 0 := ⟨am_mem 1755 kv_1755 rfl, am_mem 1754 kv_1754 rfl, am_mem 74 kv_74 rfl, am_mem 128 kv_128 rfl, by decide, by decide, by decide +kernel⟩
theorem mX12_term : am_mv yX12_term cX12_term 2 none 0 := ⟨am_mem 1717 kv_1717 rfl, am_mem 1716 kv_1716 rfl, am_mem 67 kv_67 rfl, am_mem 128 kv_128 rfl, by decide, by decide, by decide +kernel⟩
theorem mX12_text : am_mv yX12_text cX12_text 2 (some .int) 1 := ⟨am_mem 1751 kv_1751 rfl, am_mem 1749 kv_1749 rfl, am_mem 1750 kv_1750 rfl, am_mem 128 kv_128 rfl, by decide, by decide, by decide +kernel⟩
theorem mX12_thrown : am_mv yX12_thrown cX12_thrown 1 (some .int) 0 := ⟨am_mem 1613 kv_1613 rfl, am_mem 1611 kv_1611 rfl, am_mem 1612 kv_1612 rfl, am_mem 128 kv_128 rfl, by decide, by decide, by decide +kernel⟩
theorem mX12_treaty : am_mv yX12_treaty cX12_treaty 6 (some .int) 2 := ⟨am_mem 1967 kv_1967 rfl, am_mem 1965 kv_1965 rfl, am_mem 1966 kv_1966 rfl, am_mem 128 kv_128 rfl, by decide, by decide, by decide +kernel⟩
theorem mX12_tryEscorts : am_mv yX12_tryEscorts cX12_tryEscorts 6 none 4 := ⟨am_mem 1976 kv_1976 rfl, am_mem 1975 kv_1975 rfl, am_mem 106 kv_106 rfl, am_mem 128 kv_128 rfl, by decide, by decide, by decide +kernel⟩
theorem mX12_turned : am_ms yX12_turned cX12_turned 1 (some .int) 1 := ⟨am_mem 1939 kv_1939 rfl, am_mem 1938 kv_1938 rfl, am_mem 128 kv_128 rfl, by decide, by decide, by decide +kernel⟩
theorem mX12_undo : am_mv yX12_undo cX12_undo 2 (some .int) 0 := ⟨am_mem 1912 kv_1912 rfl, am_mem 1910 kv_1910 rfl, am_mem 1911 kv_1911 rfl, am_mem 128 kv_128 rfl, by decide, by decide, by decide +kernel⟩
theorem mX12_unit : am_mv yX12_unit cX12_unit 2 none 0 := ⟨am_mem 1697 kv_1697 rfl, am_mem 1696 kv_1696 rfl, am_mem 62 kv_62 rfl, am_mem 128 kv_128 rfl, by decide, by decide, by decide +kernel⟩
theorem mX12_usual : am_ms yX12_usual cX12_usual 2 (some .int) 2 := ⟨am_mem 1635 kv_1635 rfl, am_mem 1634 kv_1634 rfl, am_mem 128 kv_128 rfl, by decide, by decide, by decide +kernel⟩
theorem mX12_victors : am_mv yX12_victors cX12_victors 5 (some .int) 1 := ⟨am_mem 1959 kv_1959 rfl, am_mem 1957 kv_1957 rfl, am_mem 1958 kv_1958 rfl, am_mem 128 kv_128 rfl, by decide, by decide, by decide +kernel⟩
theorem mX12_weary : am_mv yX12_weary cX12_weary 4 (some .int) 0 := ⟨am_mem 2053 kv_2053 rfl, am_mem 2051 kv_2051 rfl, am_mem 2052 kv_2052 rfl, am_mem 128 kv_128 rfl, by decide, by decide, by decide +kernel⟩
theorem mX12_wins : am_mv yX12_wins cX12_wins 4 (some .int) 1 := ⟨am_mem 1955 kv_1955 rfl, am_mem 1954 kv_1954 rfl, am_mem 104 kv_104 rfl, am_mem 128 kv_128 rfl, by decide, by decide, by decide +kernel⟩
theorem mX12_within : am_ms yX12_within cX12_within 8 (some .int) 3 := ⟨am_mem 2083 kv_2083 rfl, am_mem 2082 kv_2082 rfl, am_mem 128 kv_128 rfl, by decide, by decide, by decide +kernel⟩
theorem mX12_won : am_mv yX12_won cX12_won 1 (some .int) 0 := ⟨am_mem 1817 kv_1817 rfl, am_mem 1815 kv_1815 rfl, am_mem 1816 kv_1816 rfl, am_mem 128 kv_128 rfl, by decide, by decide, by decide +kernel⟩
theorem mX12_wonBy : am_mv yX12_wonBy cX12_wonBy 4 (some .int) 0 := ⟨am_mem 1821 kv_1821 rfl, am_mem 1820 kv_1820 rfl, am_mem 83 kv_83 rfl, am_mem 128 kv_128 rfl, by decide, by decide, by decide +kernel⟩
theorem mX12_workOut : am_mv yX12_workOut cX12_workOut 6 (some .int) 3 := ⟨am_mem 1791 kv_1791 rfl, am_mem 1790 kv_1790 rfl, am_mem 82 kv_82 rfl, am_mem 128 kv_128 rfl, by decide, by decide, by decide +kernel⟩
theorem mX12_worked : am_ms yX12_worked cX12_worked 5 (some .int) 3 := ⟨am_mem 1794 kv_1794 rfl, am_mem 1793 kv_1793 rfl, am_mem 128 kv_128 rfl, by decide, by decide, by decide +kernel⟩
theorem mX12_worthOf : am_mv yX12_worthOf cX12_worthOf 3 (some .int) 1 := ⟨am_mem 1787 kv_1787 rfl, am_mem 1786 kv_1786 rfl, am_mem 81 kv_81 rfl, am_mem 128 kv_128 rfl, by decide, by decide, by decide +kernel⟩
theorem mX1_broughtHomeBy : am_mv yX1_broughtHomeBy cX1_broughtHomeBy 5 (some .int) 1 := ⟨am_mem 1181 kv_1181 rfl, am_mem 1180 kv_1180 rfl, am_mem 40 kv_40 rfl, am_mem 126 kv_126 rfl, by decide, by decide, by decide +kernel⟩
theorem mX1_gather : am_mv yX1_gather cX1_gather 3 none 1 := ⟨am_mem 1175 kv_1175 rfl, am_mem 1173 kv_1173 rfl, am_mem 1174 kv_1174 rfl, am_mem 126 kv_126 rfl, by decide, by decide, by decide +kernel⟩
theorem mX1_leastRow : am_mv yX1_leastRow cX1_leastRow 6 (some .int) 0 := ⟨am_mem 1199 kv_1199 rfl, am_mem 1197 kv_1197 rfl, am_mem 1198 kv_1198 rfl, am_mem 126 kv_126 rfl, by decide, by decide, by decide +kernel⟩
theorem mX1_lowestThatLeaves : am_mv yX1_lowestThatLeaves cX1_lowestThatLeaves 6 (some .int) 3 := ⟨am_mem 1204 kv_1204 rfl, am_mem 1203 kv_1203 rfl, am_mem 42 kv_42 rfl, am_mem 126 kv_126 rfl, by decide, by decide, by decide +kernel⟩
theorem mX1_most : am_mv yX1_most cX1_most 1 (some .int) 0 := ⟨am_mem 1186 kv_1186 rfl, am_mem 1184 kv_1184 rfl, am_mem 1185 kv_1185 rfl, am_mem 126 kv_126 rfl, by decide, by decide, by decide +kernel⟩
theorem mX1_mostFrom : am_mv yX1_mostFrom cX1_mostFrom 5 (some .int) 2 := ⟨am_mem 1194 kv_1194 rfl, am_mem 1193 kv_1193 rfl, am_mem 41 kv_41 rfl, am_mem 126 kv_126 rfl, by decide, by decide, by decide +kernel⟩
theorem mX2_comparisonOf : am_ms yX2_comparisonOf cX2_comparisonOf 1 (some .int) 1 := ⟨am_mem 784 kv_784 rfl, am_mem 783 kv_783 rfl, am_mem 120 kv_120 rfl, by decide, by decide, by decide +kernel⟩
theorem mX2_goOn : am_mv yX2_goOn cX2_goOn 1 none 0 := ⟨am_mem 775 kv_775 rfl, am_mem 774 kv_774 rfl, am_mem 15 kv_15 rfl, am_mem 120 kv_120 rfl, by decide, by decide, by decide +kernel⟩
theorem mX2_put : am_mv yX2_put cX2_put 2 none 1 := ⟨am_mem 771 kv_771 rfl, am_mem 770 kv_770 rfl, am_mem 14 kv_14 rfl, am_mem 120 kv_120 rfl, by decide, by decide, by decide +kernel⟩
theorem mX2_read : am_mv yX2_read cX2_read 2 (some .int) 0 := ⟨am_mem 732 kv_732 rfl, am_mem 730 kv_730 rfl, am_mem 731 kv_731 rfl, am_mem 120 kv_120 rfl, by decide, by decide, by decide +kernel⟩
theorem mX2_readAnswer : am_mv yX2_readAnswer cX2_readAnswer 1 (some .boolean) 0 := ⟨am_mem 796 kv_796 rfl, am_mem 795 kv_795 rfl, am_mem 19 kv_19 rfl, am_mem 120 kv_120 rfl, by decide, by decide, by decide +kernel⟩
theorem mX2_readAtom : am_mv yX2_readAtom cX2_readAtom 4 (some .boolean) 1 := ⟨am_mem 762 kv_762 rfl, am_mem 761 kv_761 rfl, am_mem 12 kv_12 rfl, am_mem 120 kv_120 rfl, by decide, by decide, by decide +kernel⟩
theorem mX2_readClause : am_mv yX2_readClause cX2_readClause 4 (some .boolean) 0 := ⟨am_mem 737 kv_737 rfl, am_mem 736 kv_736 rfl, am_mem 6 kv_6 rfl, am_mem 120 kv_120 rfl, by decide, by decide, by decide +kernel⟩
theorem mX2_readComparison : am_mv yX2_readComparison cX2_readComparison 3 (some .boolean) 1 := ⟨am_mem 781 kv_781 rfl, am_mem 780 kv_780 rfl, am_mem 16 kv_16 rfl, am_mem 120 kv_120 rfl, by decide, by decide, by decide +kernel⟩
theorem mX2_readCondition : am_mv yX2_readCondition cX2_readCondition 2 (some .boolean) 1 := ⟨am_mem 746 kv_746 rfl, am_mem 745 kv_745 rfl, am_mem 8 kv_8 rfl, am_mem 120 kv_120 rfl, by decide, by decide, by decide +kernel⟩
theorem mX2_readMoreTruths : am_mv yX2_readMoreTruths cX2_readMoreTruths 3 (some .boolean) 1 := ⟨am_mem 792 kv_792 rfl, am_mem 791 kv_791 rfl, am_mem 18 kv_18 rfl, am_mem 120 kv_120 rfl, by decide, by decide, by decide +kernel⟩
theorem mX2_readMoreUnits : am_mv yX2_readMoreUnits cX2_readMoreUnits 3 (some .boolean) 1 := ⟨am_mem 788 kv_788 rfl, am_mem 787 kv_787 rfl, am_mem 17 kv_17 rfl, am_mem 120 kv_120 rfl, by decide, by decide, by decide +kernel⟩
theorem mX2_readNumber : am_mv yX2_readNumber cX2_readNumber 3 (some .boolean) 0 := ⟨am_mem 767 kv_767 rfl, am_mem 766 kv_766 rfl, am_mem 13 kv_13 rfl, am_mem 120 kv_120 rfl, by decide, by decide, by decide +kernel⟩
theorem mX2_readSum : am_mv yX2_readSum cX2_readSum 4 (some .boolean) 1 := ⟨am_mem 754 kv_754 rfl, am_mem 753 kv_753 rfl, am_mem 10 kv_10 rfl, am_mem 120 kv_120 rfl, by decide, by decide, by decide +kernel⟩
theorem mX2_readTerm : am_mv yX2_readTerm cX2_readTerm 4 (some .boolean) 1 := ⟨am_mem 758 kv_758 rfl, am_mem 757 kv_757 rfl, am_mem 11 kv_11 rfl, am_mem 120 kv_120 rfl, by decide, by decide, by decide +kernel⟩
theorem mX2_readUnit : am_mv yX2_readUnit cX2_readUnit 3 (some .boolean) 1 := ⟨am_mem 750 kv_750 rfl, am_mem 749 kv_749 rfl, am_mem 9 kv_9 rfl, am_mem 120 kv_120 rfl, by decide, by decide, by decide +kernel⟩
theorem mX2_takes : am_mv yX2_takes cX2_takes 2 (some .boolean) 1 := ⟨am_mem 741 kv_741 rfl, am_mem 740 kv_740 rfl, am_mem 7 kv_7 rfl, am_mem 120 kv_120 rfl, by decide, by decide, by decide +kernel⟩
theorem mX3_add : am_mv yX3_add cX3_add 2 none 1 := ⟨am_mem 861 kv_861 rfl, am_mem 859 kv_859 rfl, am_mem 860 kv_860 rfl, am_mem 121 kv_121 rfl, by decide, by decide, by decide +kernel⟩
theorem mX3_has : am_mv yX3_has cX3_has 2 (some .boolean) 1 := ⟨am_mem 842 kv_842 rfl, am_mem 840 kv_840 rfl, am_mem 841 kv_841 rfl, am_mem 121 kv_121 rfl, by decide, by decide, by decide +kernel⟩
theorem mX3_joined : am_ms yX3_joined cX3_joined 5 (some .int) 3 := ⟨am_mem 845 kv_845 rfl, am_mem 844 kv_844 rfl, am_mem 121 kv_121 rfl, by decide, by decide, by decide +kernel⟩
theorem mX3_throughAll : am_mv yX3_throughAll cX3_throughAll 4 (some .int) 1 := ⟨am_mem 1227 kv_1227 rfl, am_mem 1225 kv_1225 rfl, am_mem 1226 kv_1226 rfl, am_mem 121 kv_121 rfl, by decide, by decide, by decide +kernel⟩
theorem mX3_worth : am_mv yX3_worth cX3_worth 7 (some .int) 1 := ⟨am_mem 838 kv_838 rfl, am_mem 836 kv_836 rfl, am_mem 837 kv_837 rfl, am_mem 121 kv_121 rfl, by decide, by decide, by decide +kernel⟩
theorem mX4_add : am_mv yX4_add cX4_add 3 (some .boolean) 2 := ⟨am_mem 1316 kv_1316 rfl, am_mem 1314 kv_1314 rfl, am_mem 1315 kv_1315 rfl, am_mem 127 kv_127 rfl, by decide, by decide, by decide +kernel⟩
theorem mX4_beginRows : am_mv yX4_beginRows cX4_beginRows 2 none 0 := ⟨am_mem 1327 kv_1327 rfl, am_mem 1325 kv_1325 rfl, am_mem 1326 kv_1326 rfl, am_mem 127 kv_127 rfl, by decide, by decide, by decide +kernel⟩
theorem mX4_bestQuestion : am_mv yX4_bestQuestion cX4_bestQuestion 3 (some .int) 0 := ⟨am_mem 1368 kv_1368 rfl, am_mem 1366 kv_1366 rfl, am_mem 1367 kv_1367 rfl, am_mem 127 kv_127 rfl, by decide, by decide, by decide +kernel⟩
theorem mX4_howMany : am_mv yX4_howMany cX4_howMany 5 (some .int) 2 := ⟨am_mem 1335 kv_1335 rfl, am_mem 1334 kv_1334 rfl, am_mem 46 kv_46 rfl, am_mem 127 kv_127 rfl, by decide, by decide, by decide +kernel⟩
theorem mX4_isSize : am_ms yX4_isSize cX4_isSize 1 (some .boolean) 1 := ⟨am_mem 1323 kv_1323 rfl, am_mem 1322 kv_1322 rfl, am_mem 127 kv_127 rfl, by decide, by decide, by decide +kernel⟩
theorem mX4_mostFrequent : am_mv yX4_mostFrequent cX4_mostFrequent 4 (some .int) 1 := ⟨am_mem 1372 kv_1372 rfl, am_mem 1370 kv_1370 rfl, am_mem 1371 kv_1371 rfl, am_mem 127 kv_127 rfl, by decide, by decide, by decide +kernel⟩
theorem mX4_nextRow : am_mv yX4_nextRow cX4_nextRow 4 (some .boolean) 1 := ⟨am_mem 1343 kv_1343 rfl, am_mem 1341 kv_1341 rfl, am_mem 1342 kv_1342 rfl, am_mem 127 kv_127 rfl, by decide, by decide, by decide +kernel⟩
theorem mX4_rowBits : am_mv yX4_rowBits cX4_rowBits 4 (some .int) 1 := ⟨am_mem 1359 kv_1359 rfl, am_mem 1358 kv_1358 rfl, am_mem 47 kv_47 rfl, am_mem 127 kv_127 rfl, by decide, by decide, by decide +kernel⟩
theorem mX4_rowFits : am_mv yX4_rowFits cX4_rowFits 3 (some .boolean) 1 := ⟨am_mem 1331 kv_1331 rfl, am_mem 1329 kv_1329 rfl, am_mem 1330 kv_1330 rfl, am_mem 127 kv_127 rfl, by decide, by decide, by decide +kernel⟩
theorem mX4_rowNumber : am_mv yX4_rowNumber cX4_rowNumber 4 (some .int) 1 := ⟨am_mem 1339 kv_1339 rfl, am_mem 1337 kv_1337 rfl, am_mem 1338 kv_1338 rfl, am_mem 127 kv_127 rfl, by decide, by decide, by decide +kernel⟩
theorem mX4_tally : am_mv yX4_tally cX4_tally 4 (some .int) 1 := ⟨am_mem 1352 kv_1352 rfl, am_mem 1350 kv_1350 rfl, am_mem 1351 kv_1351 rfl, am_mem 127 kv_127 rfl, by decide, by decide, by decide +kernel⟩
theorem mX4_tallyRow : am_mv yX4_tallyRow cX4_tallyRow 4 none 1 := ⟨am_mem 1363 kv_1363 rfl, am_mem 1362 kv_1362 rfl, am_mem 48 kv_48 rfl, am_mem 127 kv_127 rfl, by decide, by decide, by decide +kernel⟩
theorem mX5_add : am_mv yX5_add cX5_add 4 none 3 := ⟨am_mem 956 kv_956 rfl, am_mem 954 kv_954 rfl, am_mem 955 kv_955 rfl, am_mem 123 kv_123 rfl, by decide, by decide, by decide +kernel⟩
theorem mX5_bringImageBack : am_mv yX5_bringImageBack cX5_bringImageBack 2 none 0 := ⟨am_mem 1077 kv_1077 rfl, am_mem 1075 kv_1075 rfl, am_mem 1076 kv_1076 rfl, am_mem 123 kv_123 rfl, by decide, by decide, by decide +kernel⟩
theorem mX5_clear : am_mv yX5_clear cX5_clear 1 none 0 := ⟨am_mem 853 kv_853 rfl, am_mem 851 kv_851 rfl, am_mem 852 kv_852 rfl, am_mem 123 kv_123 rfl, by decide, by decide, by decide +kernel⟩
theorem mX5_keepImage : am_mv yX5_keepImage cX5_keepImage 2 none 0 := ⟨am_mem 1063 kv_1063 rfl, am_mem 1061 kv_1061 rfl, am_mem 1062 kv_1062 rfl, am_mem 123 kv_123 rfl, by decide, by decide, by decide +kernel⟩
theorem mX5_length : am_mv yX5_length cX5_length 1 (some .int) 0 := ⟨am_mem 888 kv_888 rfl, am_mem 886 kv_886 rfl, am_mem 887 kv_887 rfl, am_mem 123 kv_123 rfl, by decide, by decide, by decide +kernel⟩
theorem mX5_line : am_mv yX5_line cX5_line 2 (some .int) 1 := ⟨am_mem 1042 kv_1042 rfl, am_mem 1040 kv_1040 rfl, am_mem 1041 kv_1041 rfl, am_mem 123 kv_123 rfl, by decide, by decide, by decide +kernel⟩
theorem mX5_whatOf : am_ms yX5_whatOf cX5_whatOf 1 (some .int) 1 := ⟨am_mem 1045 kv_1045 rfl, am_mem 1044 kv_1044 rfl, am_mem 123 kv_123 rfl, by decide, by decide, by decide +kernel⟩
theorem mX5_whoOf : am_ms yX5_whoOf cX5_whoOf 1 (some .int) 1 := ⟨am_mem 1048 kv_1048 rfl, am_mem 1047 kv_1047 rfl, am_mem 123 kv_123 rfl, by decide, by decide, by decide +kernel⟩
theorem mX5_whomOf : am_ms yX5_whomOf cX5_whomOf 1 (some .int) 1 := ⟨am_mem 1051 kv_1051 rfl, am_mem 1050 kv_1050 rfl, am_mem 123 kv_123 rfl, by decide, by decide, by decide +kernel⟩
theorem mX6_bringImageBack : am_mv yX6_bringImageBack cX6_bringImageBack 3 none 2 := ⟨am_mem 1073 kv_1073 rfl, am_mem 1071 kv_1071 rfl, am_mem 1072 kv_1072 rfl, am_mem 124 kv_124 rfl, by decide, by decide, by decide +kernel⟩
theorem mX6_clear : am_mv yX6_clear cX6_clear 1 none 0 := ⟨am_mem 857 kv_857 rfl, am_mem 855 kv_855 rfl, am_mem 856 kv_856 rfl, am_mem 124 kv_124 rfl, by decide, by decide, by decide +kernel⟩
theorem mX6_keep : am_mv yX6_keep cX6_keep 3 none 2 := ⟨am_mem 930 kv_930 rfl, am_mem 929 kv_929 rfl, am_mem 23 kv_23 rfl, am_mem 124 kv_124 rfl, by decide, by decide, by decide +kernel⟩
theorem mX6_keepAct : am_mv yX6_keepAct cX6_keepAct 3 none 2 := ⟨am_mem 923 kv_923 rfl, am_mem 921 kv_921 rfl, am_mem 922 kv_922 rfl, am_mem 124 kv_124 rfl, by decide, by decide, by decide +kernel⟩
theorem mX6_keepImage : am_mv yX6_keepImage cX6_keepImage 3 none 2 := ⟨am_mem 1059 kv_1059 rfl, am_mem 1057 kv_1057 rfl, am_mem 1058 kv_1058 rfl, am_mem 124 kv_124 rfl, by decide, by decide, by decide +kernel⟩
theorem mX6_undoAct : am_mv yX6_undoAct cX6_undoAct 3 none 2 := ⟨am_mem 1030 kv_1030 rfl, am_mem 1028 kv_1028 rfl, am_mem 1029 kv_1029 rfl, am_mem 124 kv_124 rfl, by decide, by decide, by decide +kernel⟩
theorem mX7_begin : am_mv yX7_begin cX7_begin 2 none 0 := ⟨am_mem 818 kv_818 rfl, am_mem 816 kv_816 rfl, am_mem 817 kv_817 rfl, am_mem 122 kv_122 rfl, by decide, by decide, by decide +kernel⟩
theorem mX7_beginNextDay : am_mv yX7_beginNextDay cX7_beginNextDay 1 none 0 := ⟨am_mem 1003 kv_1003 rfl, am_mem 1001 kv_1001 rfl, am_mem 1002 kv_1002 rfl, am_mem 122 kv_122 rfl, by decide, by decide, by decide +kernel⟩
theorem mX7_canGo : am_mv yX7_canGo cX7_canGo 2 (some .boolean) 1 := ⟨am_mem 919 kv_919 rfl, am_mem 917 kv_917 rfl, am_mem 918 kv_918 rfl, am_mem 122 kv_122 rfl, by decide, by decide, by decide +kernel⟩
theorem mX7_canPress : am_mv yX7_canPress cX7_canPress 4 (some .boolean) 2 := ⟨am_mem 982 kv_982 rfl, am_mem 980 kv_980 rfl, am_mem 981 kv_981 rfl, am_mem 122 kv_122 rfl, by decide, by decide, by decide +kernel⟩
theorem mX7_didDeed : am_mv yX7_didDeed cX7_didDeed 2 (some .boolean) 1 := ⟨am_mem 910 kv_910 rfl, am_mem 908 kv_908 rfl, am_mem 909 kv_909 rfl, am_mem 122 kv_122 rfl, by decide, by decide, by decide +kernel⟩
theorem mX7_hasRest : am_mv yX7_hasRest cX7_hasRest 2 (some .boolean) 1 := ⟨am_mem 965 kv_965 rfl, am_mem 963 kv_963 rfl, am_mem 964 kv_964 rfl, am_mem 122 kv_122 rfl, by decide, by decide, by decide +kernel⟩
theorem mX7_isHome : am_mv yX7_isHome cX7_isHome 2 (some .boolean) 1 := ⟨am_mem 906 kv_906 rfl, am_mem 904 kv_904 rfl, am_mem 905 kv_905 rfl, am_mem 122 kv_122 rfl, by decide, by decide, by decide +kernel⟩
theorem mX7_isHomeBy : am_mv yX7_isHomeBy cX7_isHomeBy 3 (some .boolean) 2 := ⟨am_mem 834 kv_834 rfl, am_mem 832 kv_832 rfl, am_mem 833 kv_833 rfl, am_mem 122 kv_122 rfl, by decide, by decide, by decide +kernel⟩
theorem mX7_isOver : am_mv yX7_isOver cX7_isOver 1 (some .boolean) 0 := ⟨am_mem 914 kv_914 rfl, am_mem 912 kv_912 rfl, am_mem 913 kv_913 rfl, am_mem 122 kv_122 rfl, by decide, by decide, by decide +kernel⟩
theorem mX7_lookAt : am_mv yX7_lookAt cX7_lookAt 3 none 1 := ⟨am_mem 830 kv_830 rfl, am_mem 829 kv_829 rfl, am_mem 22 kv_22 rfl, am_mem 122 kv_122 rfl, by decide, by decide, by decide +kernel⟩
theorem mX7_lookAtAll : am_mv yX7_lookAtAll cX7_lookAtAll 2 none 0 := ⟨am_mem 826 kv_826 rfl, am_mem 824 kv_824 rfl, am_mem 825 kv_825 rfl, am_mem 122 kv_122 rfl, by decide, by decide, by decide +kernel⟩
theorem mX7_lowestToPress : am_mv yX7_lowestToPress cX7_lowestToPress 3 (some .int) 1 := ⟨am_mem 1021 kv_1021 rfl, am_mem 1019 kv_1019 rfl, am_mem 1020 kv_1020 rfl, am_mem 122 kv_122 rfl, by decide, by decide, by decide +kernel⟩
theorem mX7_markDeed : am_mv yX7_markDeed cX7_markDeed 2 none 1 := ⟨am_mem 952 kv_952 rfl, am_mem 950 kv_950 rfl, am_mem 951 kv_951 rfl, am_mem 122 kv_122 rfl, by decide, by decide, by decide +kernel⟩
theorem mX7_mayAct : am_mv yX7_mayAct cX7_mayAct 2 (some .boolean) 1 := ⟨am_mem 898 kv_898 rfl, am_mem 896 kv_896 rfl, am_mem 897 kv_897 rfl, am_mem 122 kv_122 rfl, by decide, by decide, by decide +kernel⟩
theorem mX7_move : am_mv yX7_move cX7_move 3 none 2 := ⟨am_mem 947 kv_947 rfl, am_mem 945 kv_945 rfl, am_mem 946 kv_946 rfl, am_mem 122 kv_122 rfl, by decide, by decide, by decide +kernel⟩
theorem mX7_packedRests : am_mv yX7_packedRests cX7_packedRests 4 (some .long) 0 := ⟨am_mem 938 kv_938 rfl, am_mem 936 kv_936 rfl, am_mem 937 kv_937 rfl, am_mem 122 kv_122 rfl, by decide, by decide, by decide +kernel⟩
theorem mX7_packedSteps : am_mv yX7_packedSteps cX7_packedSteps 4 (some .long) 0 := ⟨am_mem 934 kv_934 rfl, am_mem 932 kv_932 rfl, am_mem 933 kv_933 rfl, am_mem 122 kv_122 rfl, by decide, by decide, by decide +kernel⟩
theorem mX7_restAt : am_mv yX7_restAt cX7_restAt 2 (some .int) 1 := ⟨am_mem 822 kv_822 rfl, am_mem 821 kv_821 rfl, am_mem 21 kv_21 rfl, am_mem 122 kv_122 rfl, by decide, by decide, by decide +kernel⟩
theorem mX7_spendRest : am_mv yX7_spendRest cX7_spendRest 2 none 1 := ⟨am_mem 973 kv_973 rfl, am_mem 971 kv_971 rfl, am_mem 972 kv_972 rfl, am_mem 122 kv_122 rfl, by decide, by decide, by decide +kernel⟩
theorem mX7_unpack : am_mv yX7_unpack cX7_unpack 8 none 4 := ⟨am_mem 1034 kv_1034 rfl, am_mem 1032 kv_1032 rfl, am_mem 1033 kv_1033 rfl, am_mem 122 kv_122 rfl, by decide, by decide, by decide +kernel⟩
theorem mX7_winner : am_mv yX7_winner cX7_winner 3 (some .int) 0 := ⟨am_mem 880 kv_880 rfl, am_mem 878 kv_878 rfl, am_mem 879 kv_879 rfl, am_mem 122 kv_122 rfl, by decide, by decide, by decide +kernel⟩
theorem mX8_at : am_mv yX8_at cX8_at 2 (some .int) 1 := ⟨am_mem 592 kv_592 rfl, am_mem 590 kv_590 rfl, am_mem 591 kv_591 rfl, am_mem 117 kv_117 rfl, by decide, by decide, by decide +kernel⟩
theorem mX8_behindBlanks : am_mv yX8_behindBlanks cX8_behindBlanks 3 (some .int) 1 := ⟨am_mem 584 kv_584 rfl, am_mem 582 kv_582 rfl, am_mem 583 kv_583 rfl, am_mem 117 kv_117 rfl, by decide, by decide, by decide +kernel⟩
theorem mX8_bytesIn : am_ms yX8_bytesIn cX8_bytesIn 3 (some .int) 1 := ⟨am_mem 558 kv_558 rfl, am_mem 557 kv_557 rfl, am_mem 117 kv_117 rfl, by decide, by decide, by decide +kernel⟩
theorem mX8_digitAt : am_mv yX8_digitAt cX8_digitAt 3 (some .boolean) 1 := ⟨am_mem 708 kv_708 rfl, am_mem 706 kv_706 rfl, am_mem 707 kv_707 rfl, am_mem 117 kv_117 rfl, by decide, by decide, by decide +kernel⟩
theorem mX8_put : am_mv yX8_put cX8_put 4 none 1 := ⟨am_mem 562 kv_562 rfl, am_mem 560 kv_560 rfl, am_mem 561 kv_561 rfl, am_mem 117 kv_117 rfl, by decide, by decide, by decide +kernel⟩
theorem mX9_addMan : am_mv yX9_addMan cX9_addMan 2 none 1 := ⟨am_mem 720 kv_720 rfl, am_mem 718 kv_718 rfl, am_mem 719 kv_719 rfl, am_mem 118 kv_118 rfl, by decide, by decide, by decide +kernel⟩
theorem mX9_addOrchard : am_mv yX9_addOrchard cX9_addOrchard 3 none 2 := ⟨am_mem 724 kv_724 rfl, am_mem 722 kv_722 rfl, am_mem 723 kv_723 rfl, am_mem 118 kv_118 rfl, by decide, by decide, by decide +kernel⟩
theorem mX9_allBits : am_mv yX9_allBits cX9_allBits 1 (some .int) 0 := ⟨am_mem 1190 kv_1190 rfl, am_mem 1188 kv_1188 rfl, am_mem 1189 kv_1189 rfl, am_mem 118 kv_118 rfl, by decide, by decide, by decide +kernel⟩
theorem mX9_clear : am_mv yX9_clear cX9_clear 4 none 2 := ⟨am_mem 580 kv_580 rfl, am_mem 578 kv_578 rfl, am_mem 579 kv_579 rfl, am_mem 118 kv_118 rfl, by decide, by decide, by decide +kernel⟩
theorem mX9_hasMan : am_mv yX9_hasMan cX9_hasMan 2 (some .boolean) 1 := ⟨am_mem 902 kv_902 rfl, am_mem 900 kv_900 rfl, am_mem 901 kv_901 rfl, am_mem 118 kv_118 rfl, by decide, by decide, by decide +kernel⟩
theorem mX9_hasSet : am_mv yX9_hasSet cX9_hasSet 2 (some .boolean) 1 := ⟨am_mem 1294 kv_1294 rfl, am_mem 1292 kv_1292 rfl, am_mem 1293 kv_1293 rfl, am_mem 118 kv_118 rfl, by decide, by decide, by decide +kernel⟩
theorem mX9_isAtRest : am_mv yX9_isAtRest cX9_isAtRest 3 (some .boolean) 1 := ⟨am_mem 1307 kv_1307 rfl, am_mem 1305 kv_1305 rfl, am_mem 1306 kv_1306 rfl, am_mem 118 kv_118 rfl, by decide, by decide, by decide +kernel⟩
theorem mX9_isWhole : am_mv yX9_isWhole cX9_isWhole 1 (some .boolean) 0 := ⟨am_mem 728 kv_728 rfl, am_mem 726 kv_726 rfl, am_mem 727 kv_727 rfl, am_mem 118 kv_118 rfl, by decide, by decide, by decide +kernel⟩
theorem mX9_share : am_mv yX9_share cX9_share 7 (some .int) 2 := ⟨am_mem 1299 kv_1299 rfl, am_mem 1297 kv_1297 rfl, am_mem 1298 kv_1298 rfl, am_mem 118 kv_118 rfl, by decide, by decide, by decide +kernel⟩
theorem mX9_take : am_mv yX9_take cX9_take 2 none 1 := ⟨am_mem 809 kv_809 rfl, am_mem 807 kv_807 rfl, am_mem 808 kv_808 rfl, am_mem 118 kv_118 rfl, by decide, by decide, by decide +kernel⟩
def KM : List am_k := [.inl (12, [0, 2, 0, 0, 0, 0, 2, 2, 2, 2, 2, 2, 2, 0, 0, 2, 2, 2, 2, 2, 0, 0, 2, 2, 2, 0, 0, 2, 0, 2, 0, 1, 2, 2, 0, 0, 0, 2, 2, 0, 2, 2, 2, 0]),
  .inr (0, 240),
  .inr (0, 2600),
  .inr (0, 2600),
  .inr (0, 5),
  .inr (0, 5),
  .inr (0, 700),
  .inr (0, 700),
  .inr (0, 700),
  .inr (0, 6),
  .inr (0, 80),
  .inr (0, 48),
  .inr (0, 12),
  .inr (0, 2),
  .inr (0, 48),
  .inr (0, 12),
  .inr (0, 2),
  .inr (0, 206),
  .inr (0, 8240),
  .inr (0, 88200),
  .inr (0, 2),
  .inr (0, 10),
  .inr (0, 10),
  .inr (0, 84),
  .inr (1, 21),
  .inr (0, 206)]
def RM : am_R := am_RL [(0, 42, 25), (0, 41, 24), (0, 40, 23), (0, 38, 22), (0, 37, 21), (0, 33, 20), (0, 32, 19), (0, 29, 18), (0, 27, 17), (0, 24, 16), (0, 23, 15), (0, 22, 14), (0, 19, 13), (0, 18, 12), (0, 17, 11), (0, 16, 10), (0, 15, 9), (0, 12, 8), (0, 11, 7), (0, 10, 6), (0, 9, 5), (0, 8, 4), (0, 7, 3), (0, 6, 2), (0, 1, 1)]
theorem kM_0 : KM[0]? = some (.inl (12, [0, 2, 0, 0, 0, 0, 2, 2, 2, 2, 2, 2, 2, 0, 0, 2, 2, 2, 2, 2, 0, 0, 2, 2, 2, 0, 0, 2, 0, 2, 0, 1, 2, 2, 0, 0, 0, 2, 2, 0, 2, 2, 2, 0])) := rfl
theorem kM_1 : KM[1]? = some (.inr (0, 240)) := rfl
theorem kM_10 : KM[10]? = some (.inr (0, 80)) := rfl
theorem kM_11 : KM[11]? = some (.inr (0, 48)) := rfl
theorem kM_12 : KM[12]? = some (.inr (0, 12)) := rfl
theorem kM_13 : KM[13]? = some (.inr (0, 2)) := rfl
theorem kM_14 : KM[14]? = some (.inr (0, 48)) := rfl
theorem kM_15 : KM[15]? = some (.inr (0, 12)) := rfl
theorem kM_16 : KM[16]? = some (.inr (0, 2)) := rfl
theorem kM_17 : KM[17]? = some (.inr (0, 206)) := rfl
theorem kM_18 : KM[18]? = some (.inr (0, 8240)) := rfl
theorem kM_19 : KM[19]? = some (.inr (0, 88200)) := rfl
theorem kM_2 : KM[2]? = some (.inr (0, 2600)) := rfl
theorem kM_20 : KM[20]? = some (.inr (0, 2)) := rfl
theorem kM_21 : KM[21]? = some (.inr (0, 10)) := rfl
theorem kM_22 : KM[22]? = some (.inr (0, 10)) := rfl
theorem kM_23 : KM[23]? = some (.inr (0, 84)) := rfl
theorem kM_24 : KM[24]? = some (.inr (1, 21)) := rfl
theorem kM_25 : KM[25]? = some (.inr (0, 206)) := rfl
theorem kM_3 : KM[3]? = some (.inr (0, 2600)) := rfl
theorem kM_4 : KM[4]? = some (.inr (0, 5)) := rfl
theorem kM_5 : KM[5]? = some (.inr (0, 5)) := rfl
theorem kM_6 : KM[6]? = some (.inr (0, 700)) := rfl
theorem kM_7 : KM[7]? = some (.inr (0, 700)) := rfl
theorem kM_8 : KM[8]? = some (.inr (0, 700)) := rfl
theorem kM_9 : KM[9]? = some (.inr (0, 6)) := rfl
theorem rM_0_1 : RM 0 1 = some 1 := rfl
theorem rM_0_10 : RM 0 10 = some 6 := rfl
theorem rM_0_11 : RM 0 11 = some 7 := rfl
theorem rM_0_12 : RM 0 12 = some 8 := rfl
theorem rM_0_15 : RM 0 15 = some 9 := rfl
theorem rM_0_16 : RM 0 16 = some 10 := rfl
theorem rM_0_17 : RM 0 17 = some 11 := rfl
theorem rM_0_18 : RM 0 18 = some 12 := rfl
theorem rM_0_19 : RM 0 19 = some 13 := rfl
theorem rM_0_22 : RM 0 22 = some 14 := rfl
theorem rM_0_23 : RM 0 23 = some 15 := rfl
theorem rM_0_24 : RM 0 24 = some 16 := rfl
theorem rM_0_27 : RM 0 27 = some 17 := rfl
theorem rM_0_29 : RM 0 29 = some 18 := rfl
theorem rM_0_32 : RM 0 32 = some 19 := rfl
theorem rM_0_33 : RM 0 33 = some 20 := rfl
theorem rM_0_37 : RM 0 37 = some 21 := rfl
theorem rM_0_38 : RM 0 38 = some 22 := rfl
theorem rM_0_40 : RM 0 40 = some 23 := rfl
theorem rM_0_41 : RM 0 41 = some 24 := rfl
theorem rM_0_42 : RM 0 42 = some 25 := rfl
theorem rM_0_6 : RM 0 6 = some 2 := rfl
theorem rM_0_7 : RM 0 7 = some 3 := rfl
theorem rM_0_8 : RM 0 8 = some 4 := rfl
theorem rM_0_9 : RM 0 9 = some 5 := rfl
theorem fgM_X12_101_0 : am_fg KM RX12 101 0 3 0 := ⟨12, 44, RX12, TX12, _, kM_0, clX12, inX12, kw_1480, by decide, rfl⟩
theorem fgM_X12_108_0 : am_fg KM RX12 108 0 4 0 := ⟨12, 44, RX12, TX12, _, kM_0, clX12, inX12, kw_1481, by decide, rfl⟩
theorem fgM_X12_111_0 : am_fg KM RX12 111 0 14 0 := ⟨12, 44, RX12, TX12, _, kM_0, clX12, inX12, kw_1491, by decide, rfl⟩
theorem fgM_X12_114_0 : am_fg KM RX12 114 0 5 0 := ⟨12, 44, RX12, TX12, _, kM_0, clX12, inX12, kw_1482, by decide, rfl⟩
theorem fgM_X12_13_0 : am_fg KM RX12 13 0 6 2 := ⟨12, 44, RX12, TX12, _, kM_0, clX12, inX12, kw_1483, by decide, rfl⟩
theorem fgM_X12_16_0 : am_fg KM RX12 16 0 7 2 := ⟨12, 44, RX12, TX12, _, kM_0, clX12, inX12, kw_1484, by decide, rfl⟩
theorem fgM_X12_19_0 : am_fg KM RX12 19 0 8 2 := ⟨12, 44, RX12, TX12, _, kM_0, clX12, inX12, kw_1485, by decide, rfl⟩
theorem fgM_X12_22_0 : am_fg KM RX12 22 0 9 2 := ⟨12, 44, RX12, TX12, _, kM_0, clX12, inX12, kw_1486, by decide, rfl⟩
theorem fgM_X12_230_0 : am_fg KM RX12 230 0 20 0 := ⟨12, 44, RX12, TX12, _, kM_0, clX12, inX12, kw_1497, by decide, rfl⟩
theorem fgM_X12_233_0 : am_fg KM RX12 233 0 21 0 := ⟨12, 44, RX12, TX12, _, kM_0, clX12, inX12, kw_1498, by decide, rfl⟩
theorem fgM_X12_250_0 : am_fg KM RX12 250 0 25 0 := ⟨12, 44, RX12, TX12, _, kM_0, clX12, inX12, kw_1502, by decide, rfl⟩
theorem fgM_X12_253_0 : am_fg KM RX12 253 0 26 0 := ⟨12, 44, RX12, TX12, _, kM_0, clX12, inX12, kw_1503, by decide, rfl⟩
theorem fgM_X12_259_0 : am_fg KM RX12 259 0 39 0 := ⟨12, 44, RX12, TX12, _, kM_0, clX12, inX12, kw_1516, by decide, rfl⟩
theorem fgM_X12_25_0 : am_fg KM RX12 25 0 10 2 := ⟨12, 44, RX12, TX12, _, kM_0, clX12, inX12, kw_1487, by decide, rfl⟩
theorem fgM_X12_262_0 : am_fg KM RX12 262 0 30 0 := ⟨12, 44, RX12, TX12, _, kM_0, clX12, inX12, kw_1507, by decide, rfl⟩
theorem fgM_X12_265_0 : am_fg KM RX12 265 0 43 0 := ⟨12, 44, RX12, TX12, _, kM_0, clX12, inX12, kw_1520, by decide, rfl⟩
theorem fgM_X12_272_0 : am_fg KM RX12 272 0 13 0 := ⟨12, 44, RX12, TX12, _, kM_0, clX12, inX12, kw_1490, by decide, rfl⟩
theorem fgM_X12_28_0 : am_fg KM RX12 28 0 11 2 := ⟨12, 44, RX12, TX12, _, kM_0, clX12, inX12, kw_1488, by decide, rfl⟩
theorem fgM_X12_31_0 : am_fg KM RX12 31 0 12 2 := ⟨12, 44, RX12, TX12, _, kM_0, clX12, inX12, kw_1489, by decide, rfl⟩
theorem fgM_X12_338_0 : am_fg KM RX12 338 0 31 1 := ⟨12, 44, RX12, TX12, _, kM_0, clX12, inX12, kw_1508, by decide, rfl⟩
theorem fgM_X12_34_0 : am_fg KM RX12 34 0 15 2 := ⟨12, 44, RX12, TX12, _, kM_0, clX12, inX12, kw_1492, by decide, rfl⟩
theorem fgM_X12_366_0 : am_fg KM RX12 366 0 34 0 := ⟨12, 44, RX12, TX12, _, kM_0, clX12, inX12, kw_1511, by decide, rfl⟩
theorem fgM_X12_37_0 : am_fg KM RX12 37 0 16 2 := ⟨12, 44, RX12, TX12, _, kM_0, clX12, inX12, kw_1493, by decide, rfl⟩
theorem fgM_X12_397_0 : am_fg KM RX12 397 0 35 0 := ⟨12, 44, RX12, TX12, _, kM_0, clX12, inX12, kw_1512, by decide, rfl⟩
theorem fgM_X12_400_0 : am_fg KM RX12 400 0 36 0 := ⟨12, 44, RX12, TX12, _, kM_0, clX12, inX12, kw_1513, by decide, rfl⟩
theorem fgM_X12_40_0 : am_fg KM RX12 40 0 17 2 := ⟨12, 44, RX12, TX12, _, kM_0, clX12, inX12, kw_1494, by decide, rfl⟩
theorem fgM_X12_43_0 : am_fg KM RX12 43 0 18 2 := ⟨12, 44, RX12, TX12, _, kM_0, clX12, inX12, kw_1495, by decide, rfl⟩
theorem fgM_X12_46_0 : am_fg KM RX12 46 0 19 2 := ⟨12, 44, RX12, TX12, _, kM_0, clX12, inX12, kw_1496, by decide, rfl⟩
theorem fgM_X12_49_0 : am_fg KM RX12 49 0 22 2 := ⟨12, 44, RX12, TX12, _, kM_0, clX12, inX12, kw_1499, by decide, rfl⟩
theorem fgM_X12_52_0 : am_fg KM RX12 52 0 23 2 := ⟨12, 44, RX12, TX12, _, kM_0, clX12, inX12, kw_1500, by decide, rfl⟩
theorem fgM_X12_55_0 : am_fg KM RX12 55 0 24 2 := ⟨12, 44, RX12, TX12, _, kM_0, clX12, inX12, kw_1501, by decide, rfl⟩
theorem fgM_X12_58_0 : am_fg KM RX12 58 0 27 2 := ⟨12, 44, RX12, TX12, _, kM_0, clX12, inX12, kw_1504, by decide, rfl⟩
theorem fgM_X12_61_0 : am_fg KM RX12 61 0 28 0 := ⟨12, 44, RX12, TX12, _, kM_0, clX12, inX12, kw_1505, by decide, rfl⟩
theorem fgM_X12_65_0 : am_fg KM RX12 65 0 29 2 := ⟨12, 44, RX12, TX12, _, kM_0, clX12, inX12, kw_1506, by decide, rfl⟩
theorem fgM_X12_69_0 : am_fg KM RX12 69 0 32 2 := ⟨12, 44, RX12, TX12, _, kM_0, clX12, inX12, kw_1509, by decide, rfl⟩
theorem fgM_X12_72_0 : am_fg KM RX12 72 0 33 2 := ⟨12, 44, RX12, TX12, _, kM_0, clX12, inX12, kw_1510, by decide, rfl⟩
theorem fgM_X12_75_0 : am_fg KM RX12 75 0 37 2 := ⟨12, 44, RX12, TX12, _, kM_0, clX12, inX12, kw_1514, by decide, rfl⟩
theorem fgM_X12_78_0 : am_fg KM RX12 78 0 38 2 := ⟨12, 44, RX12, TX12, _, kM_0, clX12, inX12, kw_1515, by decide, rfl⟩
theorem fgM_X12_81_0 : am_fg KM RX12 81 0 40 2 := ⟨12, 44, RX12, TX12, _, kM_0, clX12, inX12, kw_1517, by decide, rfl⟩
theorem fgM_X12_84_0 : am_fg KM RX12 84 0 41 2 := ⟨12, 44, RX12, TX12, _, kM_0, clX12, inX12, kw_1518, by decide, rfl⟩
theorem fgM_X12_88_0 : am_fg KM RX12 88 0 42 2 := ⟨12, 44, RX12, TX12, _, kM_0, clX12, inX12, kw_1519, by decide, rfl⟩
theorem fgM_X12_91_0 : am_fg KM RX12 91 0 0 0 := ⟨12, 44, RX12, TX12, _, kM_0, clX12, inX12, kw_1477, by decide, rfl⟩
theorem fgM_X12_98_0 : am_fg KM RX12 98 0 2 0 := ⟨12, 44, RX12, TX12, _, kM_0, clX12, inX12, kw_1479, by decide, rfl⟩
theorem fgM_X12_9_0 : am_fg KM RX12 9 0 1 2 := ⟨12, 44, RX12, TX12, _, kM_0, clX12, inX12, kw_1478, by decide, rfl⟩
theorem fpM_X12_101_0 : am_fp KM RX12 101 0 3 0 .int false := ⟨12, 44, RX12, TX12, _, tyX12, kM_0, clX12, inX12, kw_1480, by decide, rfl, tyX12_ok, nmX12, by decide +kernel, rfl, fun h => Bool.noConfusion h⟩
theorem fpM_X12_108_0 : am_fp KM RX12 108 0 4 0 .int false := ⟨12, 44, RX12, TX12, _, tyX12, kM_0, clX12, inX12, kw_1481, by decide, rfl, tyX12_ok, nmX12, by decide +kernel, rfl, fun h => Bool.noConfusion h⟩
theorem fpM_X12_111_0 : am_fp KM RX12 111 0 14 0 .int false := ⟨12, 44, RX12, TX12, _, tyX12, kM_0, clX12, inX12, kw_1491, by decide, rfl, tyX12_ok, nmX12, by decide +kernel, rfl, fun h => Bool.noConfusion h⟩
theorem fpM_X12_114_0 : am_fp KM RX12 114 0 5 0 .int false := ⟨12, 44, RX12, TX12, _, tyX12, kM_0, clX12, inX12, kw_1482, by decide, rfl, tyX12_ok, nmX12, by decide +kernel, rfl, fun h => Bool.noConfusion h⟩
theorem fpM_X12_230_0 : am_fp KM RX12 230 0 20 0 .int false := ⟨12, 44, RX12, TX12, _, tyX12, kM_0, clX12, inX12, kw_1497, by decide, rfl, tyX12_ok, nmX12, by decide +kernel, rfl, fun h => Bool.noConfusion h⟩
theorem fpM_X12_233_0 : am_fp KM RX12 233 0 21 0 .int false := ⟨12, 44, RX12, TX12, _, tyX12, kM_0, clX12, inX12, kw_1498, by decide, rfl, tyX12_ok, nmX12, by decide +kernel, rfl, fun h => Bool.noConfusion h⟩
theorem fpM_X12_250_0 : am_fp KM RX12 250 0 25 0 .int false := ⟨12, 44, RX12, TX12, _, tyX12, kM_0, clX12, inX12, kw_1502, by decide, rfl, tyX12_ok, nmX12, by decide +kernel, rfl, fun h => Bool.noConfusion h⟩
theorem fpM_X12_253_0 : am_fp KM RX12 253 0 26 0 .int false := ⟨12, 44, RX12, TX12, _, tyX12, kM_0, clX12, inX12, kw_1503, by decide, rfl, tyX12_ok, nmX12, by decide +kernel, rfl, fun h => Bool.noConfusion h⟩
theorem fpM_X12_259_0 : am_fp KM RX12 259 0 39 0 .int false := ⟨12, 44, RX12, TX12, _, tyX12, kM_0, clX12, inX12, kw_1516, by decide, rfl, tyX12_ok, nmX12, by decide +kernel, rfl, fun h => Bool.noConfusion h⟩
theorem fpM_X12_262_0 : am_fp KM RX12 262 0 30 0 .int false := ⟨12, 44, RX12, TX12, _, tyX12, kM_0, clX12, inX12, kw_1507, by decide, rfl, tyX12_ok, nmX12, by decide +kernel, rfl, fun h => Bool.noConfusion h⟩
theorem fpM_X12_265_0 : am_fp KM RX12 265 0 43 0 .boolean false := ⟨12, 44, RX12, TX12, _, tyX12, kM_0, clX12, inX12, kw_1520, by decide, rfl, tyX12_ok, nmX12, by decide +kernel, rfl, fun h => Bool.noConfusion h⟩
theorem fpM_X12_272_0 : am_fp KM RX12 272 0 13 0 .int false := ⟨12, 44, RX12, TX12, _, tyX12, kM_0, clX12, inX12, kw_1490, by decide, rfl, tyX12_ok, nmX12, by decide +kernel, rfl, fun h => Bool.noConfusion h⟩
theorem fpM_X12_338_0 : am_fp KM RX12 338 0 31 1 .long false := ⟨12, 44, RX12, TX12, _, tyX12, kM_0, clX12, inX12, kw_1508, by decide, rfl, tyX12_ok, nmX12, by decide +kernel, rfl, fun h => Bool.noConfusion h⟩
theorem fpM_X12_366_0 : am_fp KM RX12 366 0 34 0 .int false := ⟨12, 44, RX12, TX12, _, tyX12, kM_0, clX12, inX12, kw_1511, by decide, rfl, tyX12_ok, nmX12, by decide +kernel, rfl, fun h => Bool.noConfusion h⟩
theorem fpM_X12_397_0 : am_fp KM RX12 397 0 35 0 .int false := ⟨12, 44, RX12, TX12, _, tyX12, kM_0, clX12, inX12, kw_1512, by decide, rfl, tyX12_ok, nmX12, by decide +kernel, rfl, fun h => Bool.noConfusion h⟩
theorem fpM_X12_400_0 : am_fp KM RX12 400 0 36 0 .int false := ⟨12, 44, RX12, TX12, _, tyX12, kM_0, clX12, inX12, kw_1513, by decide, rfl, tyX12_ok, nmX12, by decide +kernel, rfl, fun h => Bool.noConfusion h⟩
theorem fpM_X12_61_0 : am_fp KM RX12 61 0 28 0 .int false := ⟨12, 44, RX12, TX12, _, tyX12, kM_0, clX12, inX12, kw_1505, by decide, rfl, tyX12_ok, nmX12, by decide +kernel, rfl, fun h => Bool.noConfusion h⟩
theorem fpM_X12_91_0 : am_fp KM RX12 91 0 0 0 .int false := ⟨12, 44, RX12, TX12, _, tyX12, kM_0, clX12, inX12, kw_1477, by decide, rfl, tyX12_ok, nmX12, by decide +kernel, rfl, fun h => Bool.noConfusion h⟩
theorem fpM_X12_98_0 : am_fp KM RX12 98 0 2 0 .int false := ⟨12, 44, RX12, TX12, _, tyX12, kM_0, clX12, inX12, kw_1479, by decide, rfl, tyX12_ok, nmX12, by decide +kernel, rfl, fun h => Bool.noConfusion h⟩
def KC (al : Bool) : List am_k := [.inl (11, [2, 2, 2, 2, 2, 2, 2, 2, 2, 2, 2, 2, 2, 2, 1]),
  .inl (8, [2, 0]),
  .inr (0, 240),
  .inl (9, [0, 0, 0, 0, 0, 2, 2, 2, 2, 2, 2, 2, 2, 2, 2]),
  .inr (0, 8),
  .inr (0, 8),
  .inr (0, 8),
  .inr (0, 8),
  .inr (0, 8),
  .inr (0, 8),
  .inr (0, 6),
  .inr (0, 6),
  .inr (0, 21),
  .inr (0, 2),
  .inl (9, [0, 0, 0, 0, 0, 2, 2, 2, 2, 2, 2, 2, 2, 2, 2]),
  .inr (0, 8),
  .inr (0, 8),
  .inr (0, 8),
  .inr (0, 8),
  .inr (0, 8),
  .inr (0, 8),
  .inr (0, 6),
  .inr (0, 6),
  .inr (0, 21),
  .inr (0, 2),
  .inl (10, [2, 2, 2, 0, 0, 0]),
  .inr (0, 10),
  .inl (2, [2, 2, 0, 0]),
  .inr (0, 240),
  .inl (3, [2, 2, 2, 2, 2, 0, 0]),
  .inr (2, 4),
  .inr (0, 240),
  .inr (0, 240),
  .inr (0, 240),
  .inr (0, 240),
  .inr (0, 4),
  .inr (0, 32),
  .inr (0, 6),
  .inr (0, 4),
  .inl (7, [2, 2, 2, 2, 0, 0, 0]),
  .inr (0, 8),
  .inr (0, 8),
  .inl (5, [2, 2, 0, 0]),
  .inr (0, 420),
  .inr (0, 60),
  .inl (6, [2, 2, 2, 2, 2, 0, 0, 0]),
  .inr (1, 41),
  .inr (1, 41),
  .inr (0, 41),
  .inr (0, 41),
  .inr (0, 40),
  .inl (0, [2, 2, 2, 2, 2, 2, 2, 2, 0, 0, 0, 0]),
  .inr (0, 21),
  .inr (0, 21),
  .inr (0, 75),
  .inr (0, 75),
  .inr (0, 75),
  .inr (0, 75),
  .inl (1, [2, 2, 2, 0]),
  .inr (0, 8),
  .inl (4, [2, 2, 2, 2, 0, 0]),
  .inr (0, 10),
  .inr (0, 10),
  .inr (0, 3),
  .inr (0, 84),
  .inr (1, 21),
  .inr (0, 8)] ++ (match al with | true => [.inr (0, 5625), .inr (0, 5625)] | false => [])
def RC (al : Bool) : am_R := am_RL ((match al with | true => [(51, 7, 68), (51, 6, 67)] | false => []) ++ [(0, 13, 66), (0, 12, 65), (0, 11, 60), (60, 3, 64), (60, 2, 63), (60, 1, 62), (60, 0, 61), (0, 10, 58), (58, 1, 39), (58, 0, 3), (58, 2, 59), (0, 9, 51), (51, 5, 57), (51, 4, 56), (51, 3, 55), (51, 2, 54), (51, 1, 53), (51, 0, 52), (0, 8, 45), (45, 4, 50), (45, 3, 49), (45, 2, 48), (45, 1, 47), (45, 0, 46), (0, 7, 42), (42, 1, 44), (42, 0, 43), (0, 6, 39), (39, 1, 29), (39, 0, 3), (39, 3, 41), (39, 2, 40), (0, 5, 29), (29, 4, 38), (29, 3, 37), (29, 2, 36), (29, 1, 35), (29, 0, 30), (30, 3, 34), (30, 2, 33), (30, 1, 32), (30, 0, 31), (0, 4, 27), (27, 0, 1), (27, 1, 28), (0, 3, 25), (25, 1, 14), (25, 0, 1), (25, 2, 26), (0, 2, 14), (14, 14, 24), (14, 13, 23), (14, 12, 22), (14, 11, 21), (14, 10, 20), (14, 9, 19), (14, 8, 18), (14, 7, 17), (14, 6, 16), (14, 5, 15), (0, 1, 3), (3, 14, 13), (3, 13, 12), (3, 12, 11), (3, 11, 10), (3, 10, 9), (3, 9, 8), (3, 8, 7), (3, 7, 6), (3, 6, 5), (3, 5, 4), (0, 0, 1), (1, 0, 2)])
theorem kC_0 (al : Bool) : (KC al)[0]? = some (.inl (11, [2, 2, 2, 2, 2, 2, 2, 2, 2, 2, 2, 2, 2, 2, 1])) := by cases al <;> rfl
theorem kC_1 (al : Bool) : (KC al)[1]? = some (.inl (8, [2, 0])) := by cases al <;> rfl
theorem kC_10 (al : Bool) : (KC al)[10]? = some (.inr (0, 6)) := by cases al <;> rfl
theorem kC_11 (al : Bool) : (KC al)[11]? = some (.inr (0, 6)) := by cases al <;> rfl
theorem kC_12 (al : Bool) : (KC al)[12]? = some (.inr (0, 21)) := by cases al <;> rfl
theorem kC_13 (al : Bool) : (KC al)[13]? = some (.inr (0, 2)) := by cases al <;> rfl
theorem kC_14 (al : Bool) : (KC al)[14]? = some (.inl (9, [0, 0, 0, 0, 0, 2, 2, 2, 2, 2, 2, 2, 2, 2, 2])) := by cases al <;> rfl
theorem kC_15 (al : Bool) : (KC al)[15]? = some (.inr (0, 8)) := by cases al <;> rfl
theorem kC_16 (al : Bool) : (KC al)[16]? = some (.inr (0, 8)) := by cases al <;> rfl
theorem kC_17 (al : Bool) : (KC al)[17]? = some (.inr (0, 8)) := by cases al <;> rfl
theorem kC_18 (al : Bool) : (KC al)[18]? = some (.inr (0, 8)) := by cases al <;> rfl
theorem kC_19 (al : Bool) : (KC al)[19]? = some (.inr (0, 8)) := by cases al <;> rfl
theorem kC_2 (al : Bool) : (KC al)[2]? = some (.inr (0, 240)) := by cases al <;> rfl
theorem kC_20 (al : Bool) : (KC al)[20]? = some (.inr (0, 8)) := by cases al <;> rfl
theorem kC_21 (al : Bool) : (KC al)[21]? = some (.inr (0, 6)) := by cases al <;> rfl
theorem kC_22 (al : Bool) : (KC al)[22]? = some (.inr (0, 6)) := by cases al <;> rfl
theorem kC_23 (al : Bool) : (KC al)[23]? = some (.inr (0, 21)) := by cases al <;> rfl
theorem kC_24 (al : Bool) : (KC al)[24]? = some (.inr (0, 2)) := by cases al <;> rfl
theorem kC_25 (al : Bool) : (KC al)[25]? = some (.inl (10, [2, 2, 2, 0, 0, 0])) := by cases al <;> rfl
theorem kC_26 (al : Bool) : (KC al)[26]? = some (.inr (0, 10)) := by cases al <;> rfl
theorem kC_27 (al : Bool) : (KC al)[27]? = some (.inl (2, [2, 2, 0, 0])) := by cases al <;> rfl
theorem kC_28 (al : Bool) : (KC al)[28]? = some (.inr (0, 240)) := by cases al <;> rfl
theorem kC_29 (al : Bool) : (KC al)[29]? = some (.inl (3, [2, 2, 2, 2, 2, 0, 0])) := by cases al <;> rfl
theorem kC_3 (al : Bool) : (KC al)[3]? = some (.inl (9, [0, 0, 0, 0, 0, 2, 2, 2, 2, 2, 2, 2, 2, 2, 2])) := by cases al <;> rfl
theorem kC_30 (al : Bool) : (KC al)[30]? = some (.inr (2, 4)) := by cases al <;> rfl
theorem kC_35 (al : Bool) : (KC al)[35]? = some (.inr (0, 4)) := by cases al <;> rfl
theorem kC_36 (al : Bool) : (KC al)[36]? = some (.inr (0, 32)) := by cases al <;> rfl
theorem kC_37 (al : Bool) : (KC al)[37]? = some (.inr (0, 6)) := by cases al <;> rfl
theorem kC_38 (al : Bool) : (KC al)[38]? = some (.inr (0, 4)) := by cases al <;> rfl
theorem kC_39 (al : Bool) : (KC al)[39]? = some (.inl (7, [2, 2, 2, 2, 0, 0, 0])) := by cases al <;> rfl
theorem kC_4 (al : Bool) : (KC al)[4]? = some (.inr (0, 8)) := by cases al <;> rfl
theorem kC_40 (al : Bool) : (KC al)[40]? = some (.inr (0, 8)) := by cases al <;> rfl
theorem kC_41 (al : Bool) : (KC al)[41]? = some (.inr (0, 8)) := by cases al <;> rfl
theorem kC_42 (al : Bool) : (KC al)[42]? = some (.inl (5, [2, 2, 0, 0])) := by cases al <;> rfl
theorem kC_43 (al : Bool) : (KC al)[43]? = some (.inr (0, 420)) := by cases al <;> rfl
theorem kC_44 (al : Bool) : (KC al)[44]? = some (.inr (0, 60)) := by cases al <;> rfl
theorem kC_45 (al : Bool) : (KC al)[45]? = some (.inl (6, [2, 2, 2, 2, 2, 0, 0, 0])) := by cases al <;> rfl
theorem kC_46 (al : Bool) : (KC al)[46]? = some (.inr (1, 41)) := by cases al <;> rfl
theorem kC_47 (al : Bool) : (KC al)[47]? = some (.inr (1, 41)) := by cases al <;> rfl
theorem kC_48 (al : Bool) : (KC al)[48]? = some (.inr (0, 41)) := by cases al <;> rfl
theorem kC_49 (al : Bool) : (KC al)[49]? = some (.inr (0, 41)) := by cases al <;> rfl
theorem kC_5 (al : Bool) : (KC al)[5]? = some (.inr (0, 8)) := by cases al <;> rfl
theorem kC_50 (al : Bool) : (KC al)[50]? = some (.inr (0, 40)) := by cases al <;> rfl
theorem kC_51 (al : Bool) : (KC al)[51]? = some (.inl (0, [2, 2, 2, 2, 2, 2, 2, 2, 0, 0, 0, 0])) := by cases al <;> rfl
theorem kC_52 (al : Bool) : (KC al)[52]? = some (.inr (0, 21)) := by cases al <;> rfl
theorem kC_53 (al : Bool) : (KC al)[53]? = some (.inr (0, 21)) := by cases al <;> rfl
theorem kC_54 (al : Bool) : (KC al)[54]? = some (.inr (0, 75)) := by cases al <;> rfl
theorem kC_55 (al : Bool) : (KC al)[55]? = some (.inr (0, 75)) := by cases al <;> rfl
theorem kC_56 (al : Bool) : (KC al)[56]? = some (.inr (0, 75)) := by cases al <;> rfl
theorem kC_57 (al : Bool) : (KC al)[57]? = some (.inr (0, 75)) := by cases al <;> rfl
theorem kC_58 (al : Bool) : (KC al)[58]? = some (.inl (1, [2, 2, 2, 0])) := by cases al <;> rfl
theorem kC_59 (al : Bool) : (KC al)[59]? = some (.inr (0, 8)) := by cases al <;> rfl
theorem kC_6 (al : Bool) : (KC al)[6]? = some (.inr (0, 8)) := by cases al <;> rfl
theorem kC_60 (al : Bool) : (KC al)[60]? = some (.inl (4, [2, 2, 2, 2, 0, 0])) := by cases al <;> rfl
theorem kC_61 (al : Bool) : (KC al)[61]? = some (.inr (0, 10)) := by cases al <;> rfl
theorem kC_62 (al : Bool) : (KC al)[62]? = some (.inr (0, 10)) := by cases al <;> rfl
theorem kC_63 (al : Bool) : (KC al)[63]? = some (.inr (0, 3)) := by cases al <;> rfl
theorem kC_64 (al : Bool) : (KC al)[64]? = some (.inr (0, 84)) := by cases al <;> rfl
theorem kC_65 (al : Bool) : (KC al)[65]? = some (.inr (1, 21)) := by cases al <;> rfl
theorem kC_66 (al : Bool) : (KC al)[66]? = some (.inr (0, 8)) := by cases al <;> rfl
theorem kC_67 : (KC true)[67]? = some (.inr (0, 5625)) := rfl
theorem kC_68 : (KC true)[68]? = some (.inr (0, 5625)) := rfl
theorem kC_7 (al : Bool) : (KC al)[7]? = some (.inr (0, 8)) := by cases al <;> rfl
theorem kC_8 (al : Bool) : (KC al)[8]? = some (.inr (0, 8)) := by cases al <;> rfl
theorem kC_9 (al : Bool) : (KC al)[9]? = some (.inr (0, 8)) := by cases al <;> rfl
theorem rC_0_0 (al : Bool) : RC al 0 0 = some 1 := by cases al <;> rfl
theorem rC_0_1 (al : Bool) : RC al 0 1 = some 3 := by cases al <;> rfl
theorem rC_0_10 (al : Bool) : RC al 0 10 = some 58 := by cases al <;> rfl
theorem rC_0_11 (al : Bool) : RC al 0 11 = some 60 := by cases al <;> rfl
theorem rC_0_12 (al : Bool) : RC al 0 12 = some 65 := by cases al <;> rfl
theorem rC_0_13 (al : Bool) : RC al 0 13 = some 66 := by cases al <;> rfl
theorem rC_0_2 (al : Bool) : RC al 0 2 = some 14 := by cases al <;> rfl
theorem rC_0_3 (al : Bool) : RC al 0 3 = some 25 := by cases al <;> rfl
theorem rC_0_4 (al : Bool) : RC al 0 4 = some 27 := by cases al <;> rfl
theorem rC_0_5 (al : Bool) : RC al 0 5 = some 29 := by cases al <;> rfl
theorem rC_0_6 (al : Bool) : RC al 0 6 = some 39 := by cases al <;> rfl
theorem rC_0_7 (al : Bool) : RC al 0 7 = some 42 := by cases al <;> rfl
theorem rC_0_8 (al : Bool) : RC al 0 8 = some 45 := by cases al <;> rfl
theorem rC_0_9 (al : Bool) : RC al 0 9 = some 51 := by cases al <;> rfl
theorem rC_14_10 (al : Bool) : RC al 14 10 = some 20 := by cases al <;> rfl
theorem rC_14_11 (al : Bool) : RC al 14 11 = some 21 := by cases al <;> rfl
theorem rC_14_12 (al : Bool) : RC al 14 12 = some 22 := by cases al <;> rfl
theorem rC_14_13 (al : Bool) : RC al 14 13 = some 23 := by cases al <;> rfl
theorem rC_14_14 (al : Bool) : RC al 14 14 = some 24 := by cases al <;> rfl
theorem rC_14_5 (al : Bool) : RC al 14 5 = some 15 := by cases al <;> rfl
theorem rC_14_6 (al : Bool) : RC al 14 6 = some 16 := by cases al <;> rfl
theorem rC_14_7 (al : Bool) : RC al 14 7 = some 17 := by cases al <;> rfl
theorem rC_14_8 (al : Bool) : RC al 14 8 = some 18 := by cases al <;> rfl
theorem rC_14_9 (al : Bool) : RC al 14 9 = some 19 := by cases al <;> rfl
theorem rC_1_0 (al : Bool) : RC al 1 0 = some 2 := by cases al <;> rfl
theorem rC_25_0 (al : Bool) : RC al 25 0 = some 1 := by cases al <;> rfl
theorem rC_25_1 (al : Bool) : RC al 25 1 = some 14 := by cases al <;> rfl
theorem rC_25_2 (al : Bool) : RC al 25 2 = some 26 := by cases al <;> rfl
theorem rC_27_0 (al : Bool) : RC al 27 0 = some 1 := by cases al <;> rfl
theorem rC_27_1 (al : Bool) : RC al 27 1 = some 28 := by cases al <;> rfl
theorem rC_29_0 (al : Bool) : RC al 29 0 = some 30 := by cases al <;> rfl
theorem rC_29_1 (al : Bool) : RC al 29 1 = some 35 := by cases al <;> rfl
theorem rC_29_2 (al : Bool) : RC al 29 2 = some 36 := by cases al <;> rfl
theorem rC_29_3 (al : Bool) : RC al 29 3 = some 37 := by cases al <;> rfl
theorem rC_29_4 (al : Bool) : RC al 29 4 = some 38 := by cases al <;> rfl
theorem rC_39_0 (al : Bool) : RC al 39 0 = some 3 := by cases al <;> rfl
theorem rC_39_1 (al : Bool) : RC al 39 1 = some 29 := by cases al <;> rfl
theorem rC_39_2 (al : Bool) : RC al 39 2 = some 40 := by cases al <;> rfl
theorem rC_39_3 (al : Bool) : RC al 39 3 = some 41 := by cases al <;> rfl
theorem rC_3_10 (al : Bool) : RC al 3 10 = some 9 := by cases al <;> rfl
theorem rC_3_11 (al : Bool) : RC al 3 11 = some 10 := by cases al <;> rfl
theorem rC_3_12 (al : Bool) : RC al 3 12 = some 11 := by cases al <;> rfl
theorem rC_3_13 (al : Bool) : RC al 3 13 = some 12 := by cases al <;> rfl
theorem rC_3_14 (al : Bool) : RC al 3 14 = some 13 := by cases al <;> rfl
theorem rC_3_5 (al : Bool) : RC al 3 5 = some 4 := by cases al <;> rfl
theorem rC_3_6 (al : Bool) : RC al 3 6 = some 5 := by cases al <;> rfl
theorem rC_3_7 (al : Bool) : RC al 3 7 = some 6 := by cases al <;> rfl
theorem rC_3_8 (al : Bool) : RC al 3 8 = some 7 := by cases al <;> rfl
theorem rC_3_9 (al : Bool) : RC al 3 9 = some 8 := by cases al <;> rfl
theorem rC_42_0 (al : Bool) : RC al 42 0 = some 43 := by cases al <;> rfl
theorem rC_42_1 (al : Bool) : RC al 42 1 = some 44 := by cases al <;> rfl
theorem rC_45_0 (al : Bool) : RC al 45 0 = some 46 := by cases al <;> rfl
theorem rC_45_1 (al : Bool) : RC al 45 1 = some 47 := by cases al <;> rfl
theorem rC_45_2 (al : Bool) : RC al 45 2 = some 48 := by cases al <;> rfl
theorem rC_45_3 (al : Bool) : RC al 45 3 = some 49 := by cases al <;> rfl
theorem rC_45_4 (al : Bool) : RC al 45 4 = some 50 := by cases al <;> rfl
theorem rC_51_0 (al : Bool) : RC al 51 0 = some 52 := by cases al <;> rfl
theorem rC_51_1 (al : Bool) : RC al 51 1 = some 53 := by cases al <;> rfl
theorem rC_51_2 (al : Bool) : RC al 51 2 = some 54 := by cases al <;> rfl
theorem rC_51_3 (al : Bool) : RC al 51 3 = some 55 := by cases al <;> rfl
theorem rC_51_4 (al : Bool) : RC al 51 4 = some 56 := by cases al <;> rfl
theorem rC_51_5 (al : Bool) : RC al 51 5 = some 57 := by cases al <;> rfl
theorem rC_51_6t : RC true 51 6 = some 67 := rfl
theorem rC_51_7t : RC true 51 7 = some 68 := rfl
theorem rC_58_0 (al : Bool) : RC al 58 0 = some 3 := by cases al <;> rfl
theorem rC_58_1 (al : Bool) : RC al 58 1 = some 39 := by cases al <;> rfl
theorem rC_58_2 (al : Bool) : RC al 58 2 = some 59 := by cases al <;> rfl
theorem rC_60_0 (al : Bool) : RC al 60 0 = some 61 := by cases al <;> rfl
theorem rC_60_1 (al : Bool) : RC al 60 1 = some 62 := by cases al <;> rfl
theorem rC_60_2 (al : Bool) : RC al 60 2 = some 63 := by cases al <;> rfl
theorem rC_60_3 (al : Bool) : RC al 60 3 = some 64 := by cases al <;> rfl
theorem fgC_X0_13_51 (al : Bool) : am_fg (KC al) RX0 13 51 0 2 := ⟨0, 12, RX0, TX0, _, (kC_51 al), clX0, inX0, kw_423, by decide, rfl⟩
theorem fgC_X0_17_51 (al : Bool) : am_fg (KC al) RX0 17 51 1 2 := ⟨0, 12, RX0, TX0, _, (kC_51 al), clX0, inX0, kw_424, by decide, rfl⟩
theorem fgC_X0_20_51 (al : Bool) : am_fg (KC al) RX0 20 51 2 2 := ⟨0, 12, RX0, TX0, _, (kC_51 al), clX0, inX0, kw_425, by decide, rfl⟩
theorem fgC_X0_23_51 (al : Bool) : am_fg (KC al) RX0 23 51 3 2 := ⟨0, 12, RX0, TX0, _, (kC_51 al), clX0, inX0, kw_426, by decide, rfl⟩
theorem fgC_X0_26_51 (al : Bool) : am_fg (KC al) RX0 26 51 4 2 := ⟨0, 12, RX0, TX0, _, (kC_51 al), clX0, inX0, kw_427, by decide, rfl⟩
theorem fgC_X0_29_51 (al : Bool) : am_fg (KC al) RX0 29 51 5 2 := ⟨0, 12, RX0, TX0, _, (kC_51 al), clX0, inX0, kw_428, by decide, rfl⟩
theorem fgC_X0_32_51 (al : Bool) : am_fg (KC al) RX0 32 51 6 2 := ⟨0, 12, RX0, TX0, _, (kC_51 al), clX0, inX0, kw_429, by decide, rfl⟩
theorem fgC_X0_35_51 (al : Bool) : am_fg (KC al) RX0 35 51 7 2 := ⟨0, 12, RX0, TX0, _, (kC_51 al), clX0, inX0, kw_430, by decide, rfl⟩
theorem fgC_X0_38_51 (al : Bool) : am_fg (KC al) RX0 38 51 8 0 := ⟨0, 12, RX0, TX0, _, (kC_51 al), clX0, inX0, kw_431, by decide, rfl⟩
theorem fgC_X0_42_51 (al : Bool) : am_fg (KC al) RX0 42 51 9 0 := ⟨0, 12, RX0, TX0, _, (kC_51 al), clX0, inX0, kw_432, by decide, rfl⟩
theorem fgC_X0_45_51 (al : Bool) : am_fg (KC al) RX0 45 51 10 0 := ⟨0, 12, RX0, TX0, _, (kC_51 al), clX0, inX0, kw_433, by decide, rfl⟩
theorem fgC_X0_48_51 (al : Bool) : am_fg (KC al) RX0 48 51 11 0 := ⟨0, 12, RX0, TX0, _, (kC_51 al), clX0, inX0, kw_434, by decide, rfl⟩
theorem fgC_X0_51_3 (al : Bool) : am_fg (KC al) RX0 51 3 13 2 := ⟨9, 15, RX9, TX9, _, (kC_3 al), clX9, inX9, kw_211, by decide, rfl⟩
theorem fgC_X10_11_25 (al : Bool) : am_fg (KC al) RX10 11 25 2 2 := ⟨10, 6, RX10, TX10, _, (kC_25 al), clX10, inX10, kw_255, by decide, rfl⟩
theorem fgC_X10_15_25 (al : Bool) : am_fg (KC al) RX10 15 25 3 0 := ⟨10, 6, RX10, TX10, _, (kC_25 al), clX10, inX10, kw_256, by decide, rfl⟩
theorem fgC_X10_19_25 (al : Bool) : am_fg (KC al) RX10 19 25 4 0 := ⟨10, 6, RX10, TX10, _, (kC_25 al), clX10, inX10, kw_257, by decide, rfl⟩
theorem fgC_X10_22_25 (al : Bool) : am_fg (KC al) RX10 22 25 5 0 := ⟨10, 6, RX10, TX10, _, (kC_25 al), clX10, inX10, kw_258, by decide, rfl⟩
theorem fgC_X10_26_25 (al : Bool) : am_fg (KC al) RX10 26 25 0 2 := ⟨10, 6, RX10, TX10, _, (kC_25 al), clX10, inX10, kw_253, by decide, rfl⟩
theorem fgC_X10_30_25 (al : Bool) : am_fg (KC al) RX10 30 25 1 2 := ⟨10, 6, RX10, TX10, _, (kC_25 al), clX10, inX10, kw_254, by decide, rfl⟩
theorem fgC_X10_53_1 (al : Bool) : am_fg (KC al) RX10 53 1 1 0 := ⟨8, 2, RX8, TX8, _, (kC_1 al), clX8, inX8, kw_159, by decide, rfl⟩
theorem fgC_X10_82_14 (al : Bool) : am_fg (KC al) RX10 82 14 0 0 := ⟨9, 15, RX9, TX9, _, (kC_14 al), clX9, inX9, kw_175, by decide, rfl⟩
theorem fgC_X10_85_14 (al : Bool) : am_fg (KC al) RX10 85 14 1 0 := ⟨9, 15, RX9, TX9, _, (kC_14 al), clX9, inX9, kw_178, by decide, rfl⟩
theorem fgC_X11_101_0 (al : Bool) : am_fg (KC al) RX11 101 0 13 2 := ⟨11, 15, RX11, TX11, _, (kC_0 al), clX11, inX11, kw_519, by decide, rfl⟩
theorem fgC_X11_105_0 (al : Bool) : am_fg (KC al) RX11 105 0 14 1 := ⟨11, 15, RX11, TX11, _, (kC_0 al), clX11, inX11, kw_520, by decide, rfl⟩
theorem fgC_X11_10_0 (al : Bool) : am_fg (KC al) RX11 10 0 0 2 := ⟨11, 15, RX11, TX11, _, (kC_0 al), clX11, inX11, kw_506, by decide, rfl⟩
theorem fgC_X11_113_1 (al : Bool) : am_fg (KC al) RX11 113 1 1 0 := ⟨8, 2, RX8, TX8, _, (kC_1 al), clX8, inX8, kw_157, by decide, rfl⟩
theorem fgC_X11_129_29 (al : Bool) : am_fg (KC al) RX11 129 29 5 0 := ⟨3, 7, RX3, TX3, _, (kC_29 al), clX3, inX3, kw_309, by decide, rfl⟩
theorem fgC_X11_150_60 (al : Bool) : am_fg (KC al) RX11 150 60 5 0 := ⟨4, 6, RX4, TX4, _, (kC_60 al), clX4, inX4, kw_492, by decide, rfl⟩
theorem fgC_X11_151_3 (al : Bool) : am_fg (KC al) RX11 151 3 0 0 := ⟨9, 15, RX9, TX9, _, (kC_3 al), clX9, inX9, kw_176, by decide, rfl⟩
theorem fgC_X11_165_3 (al : Bool) : am_fg (KC al) RX11 165 3 5 2 := ⟨9, 15, RX9, TX9, _, (kC_3 al), clX9, inX9, kw_191, by decide, rfl⟩
theorem fgC_X11_168_39 (al : Bool) : am_fg (KC al) RX11 168 39 2 2 := ⟨7, 7, RX7, TX7, _, (kC_39 al), clX7, inX7, kw_338, by decide, rfl⟩
theorem fgC_X11_171_3 (al : Bool) : am_fg (KC al) RX11 171 3 7 2 := ⟨9, 15, RX9, TX9, _, (kC_3 al), clX9, inX9, kw_196, by decide, rfl⟩
theorem fgC_X11_177_3 (al : Bool) : am_fg (KC al) RX11 177 3 9 2 := ⟨9, 15, RX9, TX9, _, (kC_3 al), clX9, inX9, kw_202, by decide, rfl⟩
theorem fgC_X11_180_3 (al : Bool) : am_fg (KC al) RX11 180 3 10 2 := ⟨9, 15, RX9, TX9, _, (kC_3 al), clX9, inX9, kw_205, by decide, rfl⟩
theorem fgC_X11_183_39 (al : Bool) : am_fg (KC al) RX11 183 39 3 2 := ⟨7, 7, RX7, TX7, _, (kC_39 al), clX7, inX7, kw_340, by decide, rfl⟩
theorem fgC_X11_194_3 (al : Bool) : am_fg (KC al) RX11 194 3 1 0 := ⟨9, 15, RX9, TX9, _, (kC_3 al), clX9, inX9, kw_179, by decide, rfl⟩
theorem fgC_X11_197_3 (al : Bool) : am_fg (KC al) RX11 197 3 11 2 := ⟨9, 15, RX9, TX9, _, (kC_3 al), clX9, inX9, kw_207, by decide, rfl⟩
theorem fgC_X11_19_0 (al : Bool) : am_fg (KC al) RX11 19 0 1 2 := ⟨11, 15, RX11, TX11, _, (kC_0 al), clX11, inX11, kw_507, by decide, rfl⟩
theorem fgC_X11_200_3 (al : Bool) : am_fg (KC al) RX11 200 3 12 2 := ⟨9, 15, RX9, TX9, _, (kC_3 al), clX9, inX9, kw_209, by decide, rfl⟩
theorem fgC_X11_206_29 (al : Bool) : am_fg (KC al) RX11 206 29 6 0 := ⟨3, 7, RX3, TX3, _, (kC_29 al), clX3, inX3, kw_312, by decide, rfl⟩
theorem fgC_X11_215_39 (al : Bool) : am_fg (KC al) RX11 215 39 5 0 := ⟨7, 7, RX7, TX7, _, (kC_39 al), clX7, inX7, kw_345, by decide, rfl⟩
theorem fgC_X11_218_3 (al : Bool) : am_fg (KC al) RX11 218 3 2 0 := ⟨9, 15, RX9, TX9, _, (kC_3 al), clX9, inX9, kw_182, by decide, rfl⟩
theorem fgC_X11_221_3 (al : Bool) : am_fg (KC al) RX11 221 3 3 0 := ⟨9, 15, RX9, TX9, _, (kC_3 al), clX9, inX9, kw_185, by decide, rfl⟩
theorem fgC_X11_224_39 (al : Bool) : am_fg (KC al) RX11 224 39 6 0 := ⟨7, 7, RX7, TX7, _, (kC_39 al), clX7, inX7, kw_347, by decide, rfl⟩
theorem fgC_X11_229_45 (al : Bool) : am_fg (KC al) RX11 229 45 6 0 := ⟨6, 8, RX6, TX6, _, (kC_45 al), clX6, inX6, kw_396, by decide, rfl⟩
theorem fgC_X11_23_0 (al : Bool) : am_fg (KC al) RX11 23 0 2 2 := ⟨11, 15, RX11, TX11, _, (kC_0 al), clX11, inX11, kw_508, by decide, rfl⟩
theorem fgC_X11_313_45 (al : Bool) : am_fg (KC al) RX11 313 45 7 0 := ⟨6, 8, RX6, TX6, _, (kC_45 al), clX6, inX6, kw_398, by decide, rfl⟩
theorem fgC_X11_31_0 (al : Bool) : am_fg (KC al) RX11 31 0 3 2 := ⟨11, 15, RX11, TX11, _, (kC_0 al), clX11, inX11, kw_509, by decide, rfl⟩
theorem fgC_X11_380_29 (al : Bool) : am_fg (KC al) RX11 380 29 4 2 := ⟨3, 7, RX3, TX3, _, (kC_29 al), clX3, inX3, kw_307, by decide, rfl⟩
theorem fgC_X11_397_3 (al : Bool) : am_fg (KC al) RX11 397 3 14 2 := ⟨9, 15, RX9, TX9, _, (kC_3 al), clX9, inX9, kw_215, by decide, rfl⟩
theorem fgC_X11_40_0 (al : Bool) : am_fg (KC al) RX11 40 0 4 2 := ⟨11, 15, RX11, TX11, _, (kC_0 al), clX11, inX11, kw_510, by decide, rfl⟩
theorem fgC_X11_444_60 (al : Bool) : am_fg (KC al) RX11 444 60 4 0 := ⟨4, 6, RX4, TX4, _, (kC_60 al), clX4, inX4, kw_490, by decide, rfl⟩
theorem fgC_X11_47_0 (al : Bool) : am_fg (KC al) RX11 47 0 5 2 := ⟨11, 15, RX11, TX11, _, (kC_0 al), clX11, inX11, kw_511, by decide, rfl⟩
theorem fgC_X11_56_0 (al : Bool) : am_fg (KC al) RX11 56 0 6 2 := ⟨11, 15, RX11, TX11, _, (kC_0 al), clX11, inX11, kw_512, by decide, rfl⟩
theorem fgC_X11_63_0 (al : Bool) : am_fg (KC al) RX11 63 0 7 2 := ⟨11, 15, RX11, TX11, _, (kC_0 al), clX11, inX11, kw_513, by decide, rfl⟩
theorem fgC_X11_70_0 (al : Bool) : am_fg (KC al) RX11 70 0 8 2 := ⟨11, 15, RX11, TX11, _, (kC_0 al), clX11, inX11, kw_514, by decide, rfl⟩
theorem fgC_X11_77_0 (al : Bool) : am_fg (KC al) RX11 77 0 9 2 := ⟨11, 15, RX11, TX11, _, (kC_0 al), clX11, inX11, kw_515, by decide, rfl⟩
theorem fgC_X11_86_0 (al : Bool) : am_fg (KC al) RX11 86 0 10 2 := ⟨11, 15, RX11, TX11, _, (kC_0 al), clX11, inX11, kw_516, by decide, rfl⟩
theorem fgC_X11_93_0 (al : Bool) : am_fg (KC al) RX11 93 0 11 2 := ⟨11, 15, RX11, TX11, _, (kC_0 al), clX11, inX11, kw_517, by decide, rfl⟩
theorem fgC_X11_97_0 (al : Bool) : am_fg (KC al) RX11 97 0 12 2 := ⟨11, 15, RX11, TX11, _, (kC_0 al), clX11, inX11, kw_518, by decide, rfl⟩
theorem fgC_X1_15_58 (al : Bool) : am_fg (KC al) RX1 15 58 3 0 := ⟨1, 4, RX1, TX1, _, (kC_58 al), clX1, inX1, kw_469, by decide, rfl⟩
theorem fgC_X1_19_58 (al : Bool) : am_fg (KC al) RX1 19 58 0 2 := ⟨1, 4, RX1, TX1, _, (kC_58 al), clX1, inX1, kw_466, by decide, rfl⟩
theorem fgC_X1_23_58 (al : Bool) : am_fg (KC al) RX1 23 58 1 2 := ⟨1, 4, RX1, TX1, _, (kC_58 al), clX1, inX1, kw_467, by decide, rfl⟩
theorem fgC_X1_27_3 (al : Bool) : am_fg (KC al) RX1 27 3 0 0 := ⟨9, 15, RX9, TX9, _, (kC_3 al), clX9, inX9, kw_173, by decide, rfl⟩
theorem fgC_X1_30_3 (al : Bool) : am_fg (KC al) RX1 30 3 5 2 := ⟨9, 15, RX9, TX9, _, (kC_3 al), clX9, inX9, kw_189, by decide, rfl⟩
theorem fgC_X1_49_39 (al : Bool) : am_fg (KC al) RX1 49 39 2 2 := ⟨7, 7, RX7, TX7, _, (kC_39 al), clX7, inX7, kw_337, by decide, rfl⟩
theorem fgC_X1_52_3 (al : Bool) : am_fg (KC al) RX1 52 3 7 2 := ⟨9, 15, RX9, TX9, _, (kC_3 al), clX9, inX9, kw_195, by decide, rfl⟩
theorem fgC_X1_9_58 (al : Bool) : am_fg (KC al) RX1 9 58 2 2 := ⟨1, 4, RX1, TX1, _, (kC_58 al), clX1, inX1, kw_468, by decide, rfl⟩
theorem fgC_X2_11_27 (al : Bool) : am_fg (KC al) RX2 11 27 1 2 := ⟨2, 4, RX2, TX2, _, (kC_27 al), clX2, inX2, kw_279, by decide, rfl⟩
theorem fgC_X2_17_27 (al : Bool) : am_fg (KC al) RX2 17 27 2 0 := ⟨2, 4, RX2, TX2, _, (kC_27 al), clX2, inX2, kw_281, by decide, rfl⟩
theorem fgC_X2_21_27 (al : Bool) : am_fg (KC al) RX2 21 27 3 0 := ⟨2, 4, RX2, TX2, _, (kC_27 al), clX2, inX2, kw_283, by decide, rfl⟩
theorem fgC_X2_24_27 (al : Bool) : am_fg (KC al) RX2 24 27 0 2 := ⟨2, 4, RX2, TX2, _, (kC_27 al), clX2, inX2, kw_278, by decide, rfl⟩
theorem fgC_X2_38_1 (al : Bool) : am_fg (KC al) RX2 38 1 1 0 := ⟨8, 2, RX8, TX8, _, (kC_1 al), clX8, inX8, kw_158, by decide, rfl⟩
theorem fgC_X3_15_29 (al : Bool) : am_fg (KC al) RX3 15 29 0 2 := ⟨3, 7, RX3, TX3, _, (kC_29 al), clX3, inX3, kw_301, by decide, rfl⟩
theorem fgC_X3_18_29 (al : Bool) : am_fg (KC al) RX3 18 29 1 2 := ⟨3, 7, RX3, TX3, _, (kC_29 al), clX3, inX3, kw_302, by decide, rfl⟩
theorem fgC_X3_22_29 (al : Bool) : am_fg (KC al) RX3 22 29 2 2 := ⟨3, 7, RX3, TX3, _, (kC_29 al), clX3, inX3, kw_303, by decide, rfl⟩
theorem fgC_X3_25_29 (al : Bool) : am_fg (KC al) RX3 25 29 3 2 := ⟨3, 7, RX3, TX3, _, (kC_29 al), clX3, inX3, kw_304, by decide, rfl⟩
theorem fgC_X3_28_29 (al : Bool) : am_fg (KC al) RX3 28 29 4 2 := ⟨3, 7, RX3, TX3, _, (kC_29 al), clX3, inX3, kw_306, by decide, rfl⟩
theorem fgC_X3_31_29 (al : Bool) : am_fg (KC al) RX3 31 29 5 0 := ⟨3, 7, RX3, TX3, _, (kC_29 al), clX3, inX3, kw_308, by decide, rfl⟩
theorem fgC_X3_38_27 (al : Bool) : am_fg (KC al) RX3 38 27 2 0 := ⟨2, 4, RX2, TX2, _, (kC_27 al), clX2, inX2, kw_282, by decide, rfl⟩
theorem fgC_X3_43_27 (al : Bool) : am_fg (KC al) RX3 43 27 1 2 := ⟨2, 4, RX2, TX2, _, (kC_27 al), clX2, inX2, kw_280, by decide, rfl⟩
theorem fgC_X4_11_60 (al : Bool) : am_fg (KC al) RX4 11 60 0 2 := ⟨4, 6, RX4, TX4, _, (kC_60 al), clX4, inX4, kw_485, by decide, rfl⟩
theorem fgC_X4_15_60 (al : Bool) : am_fg (KC al) RX4 15 60 1 2 := ⟨4, 6, RX4, TX4, _, (kC_60 al), clX4, inX4, kw_486, by decide, rfl⟩
theorem fgC_X4_18_60 (al : Bool) : am_fg (KC al) RX4 18 60 2 2 := ⟨4, 6, RX4, TX4, _, (kC_60 al), clX4, inX4, kw_487, by decide, rfl⟩
theorem fgC_X4_21_60 (al : Bool) : am_fg (KC al) RX4 21 60 3 2 := ⟨4, 6, RX4, TX4, _, (kC_60 al), clX4, inX4, kw_488, by decide, rfl⟩
theorem fgC_X4_24_60 (al : Bool) : am_fg (KC al) RX4 24 60 4 0 := ⟨4, 6, RX4, TX4, _, (kC_60 al), clX4, inX4, kw_489, by decide, rfl⟩
theorem fgC_X4_28_60 (al : Bool) : am_fg (KC al) RX4 28 60 5 0 := ⟨4, 6, RX4, TX4, _, (kC_60 al), clX4, inX4, kw_491, by decide, rfl⟩
theorem fgC_X5_13_42 (al : Bool) : am_fg (KC al) RX5 13 42 0 2 := ⟨5, 4, RX5, TX5, _, (kC_42 al), clX5, inX5, kw_369, by decide, rfl⟩
theorem fgC_X5_17_42 (al : Bool) : am_fg (KC al) RX5 17 42 1 2 := ⟨5, 4, RX5, TX5, _, (kC_42 al), clX5, inX5, kw_370, by decide, rfl⟩
theorem fgC_X5_20_42 (al : Bool) : am_fg (KC al) RX5 20 42 2 0 := ⟨5, 4, RX5, TX5, _, (kC_42 al), clX5, inX5, kw_371, by decide, rfl⟩
theorem fgC_X5_24_42 (al : Bool) : am_fg (KC al) RX5 24 42 3 0 := ⟨5, 4, RX5, TX5, _, (kC_42 al), clX5, inX5, kw_372, by decide, rfl⟩
theorem fgC_X6_13_45 (al : Bool) : am_fg (KC al) RX6 13 45 1 2 := ⟨6, 8, RX6, TX6, _, (kC_45 al), clX6, inX6, kw_390, by decide, rfl⟩
theorem fgC_X6_16_45 (al : Bool) : am_fg (KC al) RX6 16 45 2 2 := ⟨6, 8, RX6, TX6, _, (kC_45 al), clX6, inX6, kw_391, by decide, rfl⟩
theorem fgC_X6_20_45 (al : Bool) : am_fg (KC al) RX6 20 45 3 2 := ⟨6, 8, RX6, TX6, _, (kC_45 al), clX6, inX6, kw_392, by decide, rfl⟩
theorem fgC_X6_23_45 (al : Bool) : am_fg (KC al) RX6 23 45 4 2 := ⟨6, 8, RX6, TX6, _, (kC_45 al), clX6, inX6, kw_393, by decide, rfl⟩
theorem fgC_X6_26_45 (al : Bool) : am_fg (KC al) RX6 26 45 5 0 := ⟨6, 8, RX6, TX6, _, (kC_45 al), clX6, inX6, kw_394, by decide, rfl⟩
theorem fgC_X6_30_45 (al : Bool) : am_fg (KC al) RX6 30 45 6 0 := ⟨6, 8, RX6, TX6, _, (kC_45 al), clX6, inX6, kw_395, by decide, rfl⟩
theorem fgC_X6_47_42 (al : Bool) : am_fg (KC al) RX6 47 42 3 0 := ⟨5, 4, RX5, TX5, _, (kC_42 al), clX5, inX5, kw_373, by decide, rfl⟩
theorem fgC_X6_73_39 (al : Bool) : am_fg (KC al) RX6 73 39 4 0 := ⟨7, 7, RX7, TX7, _, (kC_39 al), clX7, inX7, kw_342, by decide, rfl⟩
theorem fgC_X6_75_39 (al : Bool) : am_fg (KC al) RX6 75 39 5 0 := ⟨7, 7, RX7, TX7, _, (kC_39 al), clX7, inX7, kw_344, by decide, rfl⟩
theorem fgC_X6_9_45 (al : Bool) : am_fg (KC al) RX6 9 45 0 2 := ⟨6, 8, RX6, TX6, _, (kC_45 al), clX6, inX6, kw_389, by decide, rfl⟩
theorem fgC_X7_105_3 (al : Bool) : am_fg (KC al) RX7 105 3 3 0 := ⟨9, 15, RX9, TX9, _, (kC_3 al), clX9, inX9, kw_186, by decide, rfl⟩
theorem fgC_X7_11_39 (al : Bool) : am_fg (KC al) RX7 11 39 2 2 := ⟨7, 7, RX7, TX7, _, (kC_39 al), clX7, inX7, kw_336, by decide, rfl⟩
theorem fgC_X7_17_39 (al : Bool) : am_fg (KC al) RX7 17 39 3 2 := ⟨7, 7, RX7, TX7, _, (kC_39 al), clX7, inX7, kw_339, by decide, rfl⟩
theorem fgC_X7_20_39 (al : Bool) : am_fg (KC al) RX7 20 39 4 0 := ⟨7, 7, RX7, TX7, _, (kC_39 al), clX7, inX7, kw_341, by decide, rfl⟩
theorem fgC_X7_24_39 (al : Bool) : am_fg (KC al) RX7 24 39 5 0 := ⟨7, 7, RX7, TX7, _, (kC_39 al), clX7, inX7, kw_343, by decide, rfl⟩
theorem fgC_X7_27_39 (al : Bool) : am_fg (KC al) RX7 27 39 6 0 := ⟨7, 7, RX7, TX7, _, (kC_39 al), clX7, inX7, kw_346, by decide, rfl⟩
theorem fgC_X7_30_39 (al : Bool) : am_fg (KC al) RX7 30 39 0 2 := ⟨7, 7, RX7, TX7, _, (kC_39 al), clX7, inX7, kw_334, by decide, rfl⟩
theorem fgC_X7_34_39 (al : Bool) : am_fg (KC al) RX7 34 39 1 2 := ⟨7, 7, RX7, TX7, _, (kC_39 al), clX7, inX7, kw_335, by decide, rfl⟩
theorem fgC_X7_38_3 (al : Bool) : am_fg (KC al) RX7 38 3 0 0 := ⟨9, 15, RX9, TX9, _, (kC_3 al), clX9, inX9, kw_174, by decide, rfl⟩
theorem fgC_X7_41_3 (al : Bool) : am_fg (KC al) RX7 41 3 6 2 := ⟨9, 15, RX9, TX9, _, (kC_3 al), clX9, inX9, kw_193, by decide, rfl⟩
theorem fgC_X7_51_3 (al : Bool) : am_fg (KC al) RX7 51 3 13 2 := ⟨9, 15, RX9, TX9, _, (kC_3 al), clX9, inX9, kw_212, by decide, rfl⟩
theorem fgC_X7_57_29 (al : Bool) : am_fg (KC al) RX7 57 29 6 0 := ⟨3, 7, RX3, TX3, _, (kC_29 al), clX3, inX3, kw_311, by decide, rfl⟩
theorem fgC_X7_66_29 (al : Bool) : am_fg (KC al) RX7 66 29 3 2 := ⟨3, 7, RX3, TX3, _, (kC_29 al), clX3, inX3, kw_305, by decide, rfl⟩
theorem fgC_X7_69_3 (al : Bool) : am_fg (KC al) RX7 69 3 8 2 := ⟨9, 15, RX9, TX9, _, (kC_3 al), clX9, inX9, kw_198, by decide, rfl⟩
theorem fgC_X7_72_3 (al : Bool) : am_fg (KC al) RX7 72 3 9 2 := ⟨9, 15, RX9, TX9, _, (kC_3 al), clX9, inX9, kw_201, by decide, rfl⟩
theorem fgC_X7_75_3 (al : Bool) : am_fg (KC al) RX7 75 3 10 2 := ⟨9, 15, RX9, TX9, _, (kC_3 al), clX9, inX9, kw_204, by decide, rfl⟩
theorem fgC_X7_78_3 (al : Bool) : am_fg (KC al) RX7 78 3 5 2 := ⟨9, 15, RX9, TX9, _, (kC_3 al), clX9, inX9, kw_190, by decide, rfl⟩
theorem fgC_X7_88_3 (al : Bool) : am_fg (KC al) RX7 88 3 14 2 := ⟨9, 15, RX9, TX9, _, (kC_3 al), clX9, inX9, kw_214, by decide, rfl⟩
theorem fgC_X8_11_1 (al : Bool) : am_fg (KC al) RX8 11 1 0 2 := ⟨8, 2, RX8, TX8, _, (kC_1 al), clX8, inX8, kw_155, by decide, rfl⟩
theorem fgC_X8_15_1 (al : Bool) : am_fg (KC al) RX8 15 1 1 0 := ⟨8, 2, RX8, TX8, _, (kC_1 al), clX8, inX8, kw_156, by decide, rfl⟩
theorem fgC_X9_13_14 (al : Bool) : am_fg (KC al) RX9 13 14 1 0 := ⟨9, 15, RX9, TX9, _, (kC_14 al), clX9, inX9, kw_177, by decide, rfl⟩
theorem fgC_X9_16_14 (al : Bool) : am_fg (KC al) RX9 16 14 2 0 := ⟨9, 15, RX9, TX9, _, (kC_14 al), clX9, inX9, kw_180, by decide, rfl⟩
theorem fgC_X9_16_3 (al : Bool) : am_fg (KC al) RX9 16 3 2 0 := ⟨9, 15, RX9, TX9, _, (kC_3 al), clX9, inX9, kw_180, by decide, rfl⟩
theorem fgC_X9_19_14 (al : Bool) : am_fg (KC al) RX9 19 14 3 0 := ⟨9, 15, RX9, TX9, _, (kC_14 al), clX9, inX9, kw_183, by decide, rfl⟩
theorem fgC_X9_22_14 (al : Bool) : am_fg (KC al) RX9 22 14 4 0 := ⟨9, 15, RX9, TX9, _, (kC_14 al), clX9, inX9, kw_187, by decide, rfl⟩
theorem fgC_X9_26_14 (al : Bool) : am_fg (KC al) RX9 26 14 5 2 := ⟨9, 15, RX9, TX9, _, (kC_14 al), clX9, inX9, kw_188, by decide, rfl⟩
theorem fgC_X9_26_3 (al : Bool) : am_fg (KC al) RX9 26 3 5 2 := ⟨9, 15, RX9, TX9, _, (kC_3 al), clX9, inX9, kw_188, by decide, rfl⟩
theorem fgC_X9_30_14 (al : Bool) : am_fg (KC al) RX9 30 14 6 2 := ⟨9, 15, RX9, TX9, _, (kC_14 al), clX9, inX9, kw_192, by decide, rfl⟩
theorem fgC_X9_30_3 (al : Bool) : am_fg (KC al) RX9 30 3 6 2 := ⟨9, 15, RX9, TX9, _, (kC_3 al), clX9, inX9, kw_192, by decide, rfl⟩
theorem fgC_X9_33_14 (al : Bool) : am_fg (KC al) RX9 33 14 7 2 := ⟨9, 15, RX9, TX9, _, (kC_14 al), clX9, inX9, kw_194, by decide, rfl⟩
theorem fgC_X9_33_3 (al : Bool) : am_fg (KC al) RX9 33 3 7 2 := ⟨9, 15, RX9, TX9, _, (kC_3 al), clX9, inX9, kw_194, by decide, rfl⟩
theorem fgC_X9_36_14 (al : Bool) : am_fg (KC al) RX9 36 14 8 2 := ⟨9, 15, RX9, TX9, _, (kC_14 al), clX9, inX9, kw_197, by decide, rfl⟩
theorem fgC_X9_36_3 (al : Bool) : am_fg (KC al) RX9 36 3 8 2 := ⟨9, 15, RX9, TX9, _, (kC_3 al), clX9, inX9, kw_197, by decide, rfl⟩
theorem fgC_X9_39_14 (al : Bool) : am_fg (KC al) RX9 39 14 9 2 := ⟨9, 15, RX9, TX9, _, (kC_14 al), clX9, inX9, kw_200, by decide, rfl⟩
theorem fgC_X9_39_3 (al : Bool) : am_fg (KC al) RX9 39 3 9 2 := ⟨9, 15, RX9, TX9, _, (kC_3 al), clX9, inX9, kw_200, by decide, rfl⟩
theorem fgC_X9_42_14 (al : Bool) : am_fg (KC al) RX9 42 14 10 2 := ⟨9, 15, RX9, TX9, _, (kC_14 al), clX9, inX9, kw_203, by decide, rfl⟩
theorem fgC_X9_42_3 (al : Bool) : am_fg (KC al) RX9 42 3 10 2 := ⟨9, 15, RX9, TX9, _, (kC_3 al), clX9, inX9, kw_203, by decide, rfl⟩
theorem fgC_X9_45_14 (al : Bool) : am_fg (KC al) RX9 45 14 11 2 := ⟨9, 15, RX9, TX9, _, (kC_14 al), clX9, inX9, kw_206, by decide, rfl⟩
theorem fgC_X9_45_3 (al : Bool) : am_fg (KC al) RX9 45 3 11 2 := ⟨9, 15, RX9, TX9, _, (kC_3 al), clX9, inX9, kw_206, by decide, rfl⟩
theorem fgC_X9_48_14 (al : Bool) : am_fg (KC al) RX9 48 14 12 2 := ⟨9, 15, RX9, TX9, _, (kC_14 al), clX9, inX9, kw_208, by decide, rfl⟩
theorem fgC_X9_48_3 (al : Bool) : am_fg (KC al) RX9 48 3 12 2 := ⟨9, 15, RX9, TX9, _, (kC_3 al), clX9, inX9, kw_208, by decide, rfl⟩
theorem fgC_X9_51_14 (al : Bool) : am_fg (KC al) RX9 51 14 13 2 := ⟨9, 15, RX9, TX9, _, (kC_14 al), clX9, inX9, kw_210, by decide, rfl⟩
theorem fgC_X9_51_3 (al : Bool) : am_fg (KC al) RX9 51 3 13 2 := ⟨9, 15, RX9, TX9, _, (kC_3 al), clX9, inX9, kw_210, by decide, rfl⟩
theorem fgC_X9_54_14 (al : Bool) : am_fg (KC al) RX9 54 14 14 2 := ⟨9, 15, RX9, TX9, _, (kC_14 al), clX9, inX9, kw_213, by decide, rfl⟩
theorem fgC_X9_54_3 (al : Bool) : am_fg (KC al) RX9 54 3 14 2 := ⟨9, 15, RX9, TX9, _, (kC_3 al), clX9, inX9, kw_213, by decide, rfl⟩
theorem fgC_X9_7_14 (al : Bool) : am_fg (KC al) RX9 7 14 0 0 := ⟨9, 15, RX9, TX9, _, (kC_14 al), clX9, inX9, kw_172, by decide, rfl⟩
theorem fgC_X9_7_3 (al : Bool) : am_fg (KC al) RX9 7 3 0 0 := ⟨9, 15, RX9, TX9, _, (kC_3 al), clX9, inX9, kw_172, by decide, rfl⟩
theorem fpC_X0_38_51 (al : Bool) : am_fp (KC al) RX0 38 51 8 0 .int false := ⟨0, 12, RX0, TX0, _, tyX0, (kC_51 al), clX0, inX0, kw_431, by decide, rfl, tyX0_ok, nmX0, by decide +kernel, rfl, fun h => Bool.noConfusion h⟩
theorem fpC_X0_42_51 (al : Bool) : am_fp (KC al) RX0 42 51 9 0 .int false := ⟨0, 12, RX0, TX0, _, tyX0, (kC_51 al), clX0, inX0, kw_432, by decide, rfl, tyX0_ok, nmX0, by decide +kernel, rfl, fun h => Bool.noConfusion h⟩
theorem fpC_X0_45_51 (al : Bool) : am_fp (KC al) RX0 45 51 10 0 .int false := ⟨0, 12, RX0, TX0, _, tyX0, (kC_51 al), clX0, inX0, kw_433, by decide, rfl, tyX0_ok, nmX0, by decide +kernel, rfl, fun h => Bool.noConfusion h⟩
theorem fpC_X0_48_51 (al : Bool) : am_fp (KC al) RX0 48 51 11 0 .int false := ⟨0, 12, RX0, TX0, _, tyX0, (kC_51 al), clX0, inX0, kw_434, by decide, rfl, tyX0_ok, nmX0, by decide +kernel, rfl, fun h => Bool.noConfusion h⟩
theorem fpC_X10_15_25 (al : Bool) : am_fp (KC al) RX10 15 25 3 0 .int false := ⟨10, 6, RX10, TX10, _, tyX10, (kC_25 al), clX10, inX10, kw_256, by decide, rfl, tyX10_ok, nmX10, by decide +kernel, rfl, fun h => Bool.noConfusion h⟩
theorem fpC_X10_19_25 (al : Bool) : am_fp (KC al) RX10 19 25 4 0 .int false := ⟨10, 6, RX10, TX10, _, tyX10, (kC_25 al), clX10, inX10, kw_257, by decide, rfl, tyX10_ok, nmX10, by decide +kernel, rfl, fun h => Bool.noConfusion h⟩
theorem fpC_X10_22_25 (al : Bool) : am_fp (KC al) RX10 22 25 5 0 .boolean false := ⟨10, 6, RX10, TX10, _, tyX10, (kC_25 al), clX10, inX10, kw_258, by decide, rfl, tyX10_ok, nmX10, by decide +kernel, rfl, fun h => Bool.noConfusion h⟩
theorem fpC_X10_95_14 (al : Bool) : am_fp (KC al) RX10 95 14 2 0 .int false := ⟨9, 15, RX9, TX9, _, tyX9, (kC_14 al), clX9, inX9, kw_181, by decide, rfl, tyX9_ok, nmX9, by decide +kernel, rfl, fun h => Bool.noConfusion h⟩
theorem fpC_X10_98_14 (al : Bool) : am_fp (KC al) RX10 98 14 3 0 .int false := ⟨9, 15, RX9, TX9, _, tyX9, (kC_14 al), clX9, inX9, kw_184, by decide, rfl, tyX9_ok, nmX9, by decide +kernel, rfl, fun h => Bool.noConfusion h⟩
theorem fpC_X11_105_0 (al : Bool) : am_fp (KC al) RX11 105 0 14 1 .long false := ⟨11, 15, RX11, TX11, _, tyX11, (kC_0 al), clX11, inX11, kw_520, by decide, rfl, tyX11_ok, nmX11, by decide +kernel, rfl, fun h => Bool.noConfusion h⟩
theorem fpC_X11_113_1 (al : Bool) : am_fp (KC al) RX11 113 1 1 0 .int false := ⟨8, 2, RX8, TX8, _, tyX8, (kC_1 al), clX8, inX8, kw_157, by decide, rfl, tyX8_ok, nmX8, by decide +kernel, rfl, fun h => Bool.noConfusion h⟩
theorem fpC_X11_150_60 (al : Bool) : am_fp (KC al) RX11 150 60 5 0 .int false := ⟨4, 6, RX4, TX4, _, tyX4, (kC_60 al), clX4, inX4, kw_492, by decide, rfl, tyX4_ok, nmX4, by decide +kernel, rfl, fun h => Bool.noConfusion h⟩
theorem fpC_X11_206_29 (al : Bool) : am_fp (KC al) RX11 206 29 6 0 .int false := ⟨3, 7, RX3, TX3, _, tyX3, (kC_29 al), clX3, inX3, kw_312, by decide, rfl, tyX3_ok, nmX3, by decide +kernel, rfl, fun h => Bool.noConfusion h⟩
theorem fpC_X1_15_58 (al : Bool) : am_fp (KC al) RX1 15 58 3 0 .int false := ⟨1, 4, RX1, TX1, _, tyX1, (kC_58 al), clX1, inX1, kw_469, by decide, rfl, tyX1_ok, nmX1, by decide +kernel, rfl, fun h => Bool.noConfusion h⟩
theorem fpC_X2_17_27 (al : Bool) : am_fp (KC al) RX2 17 27 2 0 .int false := ⟨2, 4, RX2, TX2, _, tyX2, (kC_27 al), clX2, inX2, kw_281, by decide, rfl, tyX2_ok, nmX2, by decide +kernel, rfl, fun h => Bool.noConfusion h⟩
theorem fpC_X2_21_27 (al : Bool) : am_fp (KC al) RX2 21 27 3 0 .int false := ⟨2, 4, RX2, TX2, _, tyX2, (kC_27 al), clX2, inX2, kw_283, by decide, rfl, tyX2_ok, nmX2, by decide +kernel, rfl, fun h => Bool.noConfusion h⟩
theorem fpC_X3_31_29 (al : Bool) : am_fp (KC al) RX3 31 29 5 0 .int false := ⟨3, 7, RX3, TX3, _, tyX3, (kC_29 al), clX3, inX3, kw_308, by decide, rfl, tyX3_ok, nmX3, by decide +kernel, rfl, fun h => Bool.noConfusion h⟩
theorem fpC_X4_24_60 (al : Bool) : am_fp (KC al) RX4 24 60 4 0 .int false := ⟨4, 6, RX4, TX4, _, tyX4, (kC_60 al), clX4, inX4, kw_489, by decide, rfl, tyX4_ok, nmX4, by decide +kernel, rfl, fun h => Bool.noConfusion h⟩
theorem fpC_X4_28_60 (al : Bool) : am_fp (KC al) RX4 28 60 5 0 .int false := ⟨4, 6, RX4, TX4, _, tyX4, (kC_60 al), clX4, inX4, kw_491, by decide, rfl, tyX4_ok, nmX4, by decide +kernel, rfl, fun h => Bool.noConfusion h⟩
theorem fpC_X5_20_42 (al : Bool) : am_fp (KC al) RX5 20 42 2 0 .int false := ⟨5, 4, RX5, TX5, _, tyX5, (kC_42 al), clX5, inX5, kw_371, by decide, rfl, tyX5_ok, nmX5, by decide +kernel, rfl, fun h => Bool.noConfusion h⟩
theorem fpC_X5_24_42 (al : Bool) : am_fp (KC al) RX5 24 42 3 0 .int false := ⟨5, 4, RX5, TX5, _, tyX5, (kC_42 al), clX5, inX5, kw_372, by decide, rfl, tyX5_ok, nmX5, by decide +kernel, rfl, fun h => Bool.noConfusion h⟩
theorem fpC_X6_26_45 (al : Bool) : am_fp (KC al) RX6 26 45 5 0 .int false := ⟨6, 8, RX6, TX6, _, tyX6, (kC_45 al), clX6, inX6, kw_394, by decide, rfl, tyX6_ok, nmX6, by decide +kernel, rfl, fun h => Bool.noConfusion h⟩
theorem fpC_X6_30_45 (al : Bool) : am_fp (KC al) RX6 30 45 6 0 .int false := ⟨6, 8, RX6, TX6, _, tyX6, (kC_45 al), clX6, inX6, kw_395, by decide, rfl, tyX6_ok, nmX6, by decide +kernel, rfl, fun h => Bool.noConfusion h⟩
theorem fpC_X6_33_45 (al : Bool) : am_fp (KC al) RX6 33 45 7 0 .boolean false := ⟨6, 8, RX6, TX6, _, tyX6, (kC_45 al), clX6, inX6, kw_397, by decide, rfl, tyX6_ok, nmX6, by decide +kernel, rfl, fun h => Bool.noConfusion h⟩
theorem fpC_X6_47_42 (al : Bool) : am_fp (KC al) RX6 47 42 3 0 .int false := ⟨5, 4, RX5, TX5, _, tyX5, (kC_42 al), clX5, inX5, kw_373, by decide, rfl, tyX5_ok, nmX5, by decide +kernel, rfl, fun h => Bool.noConfusion h⟩
theorem fpC_X7_20_39 (al : Bool) : am_fp (KC al) RX7 20 39 4 0 .int false := ⟨7, 7, RX7, TX7, _, tyX7, (kC_39 al), clX7, inX7, kw_341, by decide, rfl, tyX7_ok, nmX7, by decide +kernel, rfl, fun h => Bool.noConfusion h⟩
theorem fpC_X7_24_39 (al : Bool) : am_fp (KC al) RX7 24 39 5 0 .int false := ⟨7, 7, RX7, TX7, _, tyX7, (kC_39 al), clX7, inX7, kw_343, by decide, rfl, tyX7_ok, nmX7, by decide +kernel, rfl, fun h => Bool.noConfusion h⟩
theorem fpC_X7_27_39 (al : Bool) : am_fp (KC al) RX7 27 39 6 0 .int false := ⟨7, 7, RX7, TX7, _, tyX7, (kC_39 al), clX7, inX7, kw_346, by decide, rfl, tyX7_ok, nmX7, by decide +kernel, rfl, fun h => Bool.noConfusion h⟩
theorem fpC_X8_15_1 (al : Bool) : am_fp (KC al) RX8 15 1 1 0 .int false := ⟨8, 2, RX8, TX8, _, tyX8, (kC_1 al), clX8, inX8, kw_156, by decide, rfl, tyX8_ok, nmX8, by decide +kernel, rfl, fun h => Bool.noConfusion h⟩
theorem fpC_X9_13_14 (al : Bool) : am_fp (KC al) RX9 13 14 1 0 .int false := ⟨9, 15, RX9, TX9, _, tyX9, (kC_14 al), clX9, inX9, kw_177, by decide, rfl, tyX9_ok, nmX9, by decide +kernel, rfl, fun h => Bool.noConfusion h⟩
theorem fpC_X9_13_3 (al : Bool) : am_fp (KC al) RX9 13 3 1 0 .int false := ⟨9, 15, RX9, TX9, _, tyX9, (kC_3 al), clX9, inX9, kw_177, by decide, rfl, tyX9_ok, nmX9, by decide +kernel, rfl, fun h => Bool.noConfusion h⟩
theorem fpC_X9_16_14 (al : Bool) : am_fp (KC al) RX9 16 14 2 0 .int false := ⟨9, 15, RX9, TX9, _, tyX9, (kC_14 al), clX9, inX9, kw_180, by decide, rfl, tyX9_ok, nmX9, by decide +kernel, rfl, fun h => Bool.noConfusion h⟩
theorem fpC_X9_16_3 (al : Bool) : am_fp (KC al) RX9 16 3 2 0 .int false := ⟨9, 15, RX9, TX9, _, tyX9, (kC_3 al), clX9, inX9, kw_180, by decide, rfl, tyX9_ok, nmX9, by decide +kernel, rfl, fun h => Bool.noConfusion h⟩
theorem fpC_X9_19_14 (al : Bool) : am_fp (KC al) RX9 19 14 3 0 .int false := ⟨9, 15, RX9, TX9, _, tyX9, (kC_14 al), clX9, inX9, kw_183, by decide, rfl, tyX9_ok, nmX9, by decide +kernel, rfl, fun h => Bool.noConfusion h⟩
theorem fpC_X9_19_3 (al : Bool) : am_fp (KC al) RX9 19 3 3 0 .int false := ⟨9, 15, RX9, TX9, _, tyX9, (kC_3 al), clX9, inX9, kw_183, by decide, rfl, tyX9_ok, nmX9, by decide +kernel, rfl, fun h => Bool.noConfusion h⟩
theorem fpC_X9_22_14 (al : Bool) : am_fp (KC al) RX9 22 14 4 0 .boolean false := ⟨9, 15, RX9, TX9, _, tyX9, (kC_14 al), clX9, inX9, kw_187, by decide, rfl, tyX9_ok, nmX9, by decide +kernel, rfl, fun h => Bool.noConfusion h⟩
theorem fpC_X9_7_14 (al : Bool) : am_fp (KC al) RX9 7 14 0 0 .int false := ⟨9, 15, RX9, TX9, _, tyX9, (kC_14 al), clX9, inX9, kw_172, by decide, rfl, tyX9_ok, nmX9, by decide +kernel, rfl, fun h => Bool.noConfusion h⟩
theorem fpC_X9_7_3 (al : Bool) : am_fp (KC al) RX9 7 3 0 0 .int false := ⟨9, 15, RX9, TX9, _, tyX9, (kC_3 al), clX9, inX9, kw_172, by decide, rfl, tyX9_ok, nmX9, by decide +kernel, rfl, fun h => Bool.noConfusion h⟩
theorem am_sys : am_sy := ⟨am_mem 613 kv_613 rfl, am_mem 612 kv_612 rfl, am_mem 129 kv_129 rfl⟩
theorem cTW (A : Nat → Prop) (a : Nat → Nat) (U : State) (H : Heap) (h : am_E A a U H) : va_T .int (a 1000001) 10 (fun j => .int (am_cW j)) A U H := h.1.2
theorem cTL (A : Nat → Prop) (a : Nat → Nat) (U : State) (H : Heap) (h : am_E A a U H) : va_T .int (a 1000002) 10 (fun j => .int (am_cL j)) A U H := h.2.1.2
theorem cTM (A : Nat → Prop) (a : Nat → Nat) (U : State) (H : Heap) (h : am_E A a U H) : va_T .int (a 1000003) 10 (fun j => .int (am_cM j)) A U H := h.2.2.1.2
theorem cB0 (A : Nat → Prop) (a : Nat → Nat) (U : State) (H : Heap) (h : am_E A a U H) : va_T .byte (a 1000011) 10 (fun j => .int ((am_by.getD 0 []).getD j 0)) A U H := (h.2.2.2.2.2.2.1.1 0 (by decide)).2.2.2
theorem cB1 (A : Nat → Prop) (a : Nat → Nat) (U : State) (H : Heap) (h : am_E A a U H) : va_T .byte (a 1000013) 6 (fun j => .int ((am_by.getD 1 []).getD j 0)) A U H := (h.2.2.2.2.2.2.1.1 1 (by decide)).2.2.2
theorem cZWITHOUT (A : Nat → Prop) (a : Nat → Nat) (U : State) (H : Heap) (h : am_E A a U H) : va_Z RX10 "WITHOUT" "[I" (am_v a (.ref 1000001)) A U H := h.1.1
theorem cZLEAST (A : Nat → Prop) (a : Nat → Nat) (U : State) (H : Heap) (h : am_E A a U H) : va_Z RX10 "LEAST" "[I" (am_v a (.ref 1000002)) A U H := h.2.1.1
theorem cZMOST (A : Nat → Prop) (a : Nat → Nat) (U : State) (H : Heap) (h : am_E A a U H) : va_Z RX10 "MOST" "[I" (am_v a (.ref 1000003)) A U H := h.2.2.1.1
theorem cZCOMPACT_STRINGS (A : Nat → Prop) (a : Nat → Nat) (U : State) (H : Heap) (h : am_E A a U H) : va_Z "java/lang/String" "COMPACT_STRINGS" "Z" (am_v a (.int 1)) A U H := h.2.2.2.1
theorem cS1000010 (A : Nat → Prop) (a : Nat → Nat) (U : State) (H : Heap) (h : am_E A a U H) : vk_R RX10 107 "sdvbnikxpg" (a 1000010) U := h.2.2.2.2.1
theorem cS1000012 (A : Nat → Prop) (a : Nat → Nat) (U : State) (H : Heap) (h : am_E A a U H) : vk_R RX2 88 "dbniys" (a 1000012) U := h.2.2.2.2.2.1
theorem cO1000010 (A : Nat → Prop) (a : Nat → Nat) (U : State) (H : Heap) (h : am_E A a U H) : va_OF "java/lang/String" "coder" "B" (am_v a (.int 0)) (a 1000010) A U H := (h.2.2.2.2.2.2.1.1 0 (by decide)).2.1
theorem cO1000012 (A : Nat → Prop) (a : Nat → Nat) (U : State) (H : Heap) (h : am_E A a U H) : va_OF "java/lang/String" "coder" "B" (am_v a (.int 0)) (a 1000012) A U H := (h.2.2.2.2.2.2.1.1 1 (by decide)).2.1
theorem cV1000010 (A : Nat → Prop) (a : Nat → Nat) (U : State) (H : Heap) (h : am_E A a U H) : va_OF "java/lang/String" "value" "[B" (am_v a (.ref 1000011)) (a 1000010) A U H := (h.2.2.2.2.2.2.1.1 0 (by decide)).2.2.1
theorem cV1000012 (A : Nat → Prop) (a : Nat → Nat) (U : State) (H : Heap) (h : am_E A a U H) : va_OF "java/lang/String" "value" "[B" (am_v a (.ref 1000013)) (a 1000012) A U H := (h.2.2.2.2.2.2.1.1 1 (by decide)).2.2.1
theorem cQ1000010 (A : Nat → Prop) (a : Nat → Nat) (U : State) (H : Heap) (h : am_E A a U H) : va_O "java/lang/String" (a 1000010) A U H := (h.2.2.2.2.2.2.1.1 0 (by decide)).1
theorem cQ1000012 (A : Nat → Prop) (a : Nat → Nat) (U : State) (H : Heap) (h : am_E A a U H) : va_O "java/lang/String" (a 1000012) A U H := (h.2.2.2.2.2.2.1.1 1 (by decide)).1
theorem rR_30 (al : Bool) : ∀ j, j < 4 → RC al 30 j = some (31 + j) ∧ (KC al)[31 + j]? = some (.inr (0, 240)) := by cases al <;> (intro j hj; match j, hj with | 0, _ => exact ⟨rfl, rfl⟩ | 1, _ => exact ⟨rfl, rfl⟩ | 2, _ => exact ⟨rfl, rfl⟩ | 3, _ => exact ⟨rfl, rfl⟩)
