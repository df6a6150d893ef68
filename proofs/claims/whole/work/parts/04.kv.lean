theorem iw_X0 : u_ws RX0 TX0 12 = ([435, 437, 439, 441, 443, 445, 447, 449, 451, 453, 455, 457] : List Nat).filterMap (fun i => lw_tbl[i]?) := by decide +kernel
theorem ig_X0 : (u_ws RX0 TX0 12).all goodWord = true := by decide +kernel
theorem iw_X1 : u_ws RX1 TX1 4 = ([470, 472, 474, 476] : List Nat).filterMap (fun i => lw_tbl[i]?) := by decide +kernel
theorem ig_X1 : (u_ws RX1 TX1 4).all goodWord = true := by decide +kernel
theorem iw_X2 : u_ws RX2 TX2 4 = ([284, 286, 288, 290] : List Nat).filterMap (fun i => lw_tbl[i]?) := by decide +kernel
theorem ig_X2 : (u_ws RX2 TX2 4).all goodWord = true := by decide +kernel
theorem iw_X3 : u_ws RX3 TX3 7 = ([313, 315, 317, 319, 321, 323, 325] : List Nat).filterMap (fun i => lw_tbl[i]?) := by decide +kernel
theorem ig_X3 : (u_ws RX3 TX3 7).all goodWord = true := by decide +kernel
theorem iw_X4 : u_ws RX4 TX4 6 = ([493, 495, 497, 499, 501, 503] : List Nat).filterMap (fun i => lw_tbl[i]?) := by decide +kernel
theorem ig_X4 : (u_ws RX4 TX4 6).all goodWord = true := by decide +kernel
theorem iw_X5 : u_ws RX5 TX5 4 = ([374, 376, 378, 380] : List Nat).filterMap (fun i => lw_tbl[i]?) := by decide +kernel
theorem ig_X5 : (u_ws RX5 TX5 4).all goodWord = true := by decide +kernel
theorem iw_X6 : u_ws RX6 TX6 8 = ([399, 401, 403, 405, 407, 409, 411, 413] : List Nat).filterMap (fun i => lw_tbl[i]?) := by decide +kernel
theorem ig_X6 : (u_ws RX6 TX6 8).all goodWord = true := by decide +kernel
theorem iw_X7 : u_ws RX7 TX7 7 = ([348, 350, 352, 354, 356, 358, 360] : List Nat).filterMap (fun i => lw_tbl[i]?) := by decide +kernel
theorem ig_X7 : (u_ws RX7 TX7 7).all goodWord = true := by decide +kernel
theorem iw_X8 : u_ws RX8 TX8 2 = ([160, 162] : List Nat).filterMap (fun i => lw_tbl[i]?) := by decide +kernel
theorem ig_X8 : (u_ws RX8 TX8 2).all goodWord = true := by decide +kernel
theorem iw_X9 : u_ws RX9 TX9 15 = ([216, 218, 220, 222, 224, 226, 228, 230, 232, 234, 236, 238, 240, 242, 244] : List Nat).filterMap (fun i => lw_tbl[i]?) := by decide +kernel
theorem ig_X9 : (u_ws RX9 TX9 15).all goodWord = true := by decide +kernel
theorem iw_X10 : u_ws RX10 TX10 6 = ([259, 261, 263, 265, 267, 269] : List Nat).filterMap (fun i => lw_tbl[i]?) := by decide +kernel
theorem ig_X10 : (u_ws RX10 TX10 6).all goodWord = true := by decide +kernel
theorem iw_X11 : u_ws RX11 TX11 15 = ([521, 523, 525, 527, 529, 531, 533, 535, 537, 539, 541, 543, 545, 547, 549] : List Nat).filterMap (fun i => lw_tbl[i]?) := by decide +kernel
theorem ig_X11 : (u_ws RX11 TX11 15).all goodWord = true := by decide +kernel
theorem iw_X12 : u_ws RX12 TX12 44 = ([1521, 1523, 1525, 1527, 1529, 1531, 1533, 1535, 1537, 1539, 1541, 1543, 1545, 1547, 1549, 1551, 1553, 1555, 1557, 1559, 1561, 1563, 1565, 1567, 1569, 1571, 1573, 1575, 1577, 1579, 1581, 1583, 1585, 1587, 1589, 1591, 1593, 1595, 1597, 1599, 1601, 1603, 1605, 1607] : List Nat).filterMap (fun i => lw_tbl[i]?) := by decide +kernel
theorem ig_X12 : (u_ws RX12 TX12 44).all goodWord = true := by decide +kernel
theorem kv_0 : lw_tbl[0]? = some (Cond.selects RX10 yX10_readClause yX10_readClause) := by decide +kernel
theorem kv_1 : lw_tbl[1]? = some (Cond.selects RX10 yX10_isOneTooMany yX10_isOneTooMany) := by decide +kernel
theorem kv_2 : lw_tbl[2]? = some (Cond.selects RX10 yX10_goOn yX10_goOn) := by decide +kernel
theorem kv_3 : lw_tbl[3]? = some (Cond.selects RX10 yX10_readItems yX10_readItems) := by decide +kernel
theorem kv_4 : lw_tbl[4]? = some (Cond.selects RX10 yX10_readNumber yX10_readNumber) := by decide +kernel
theorem kv_5 : lw_tbl[5]? = some (Cond.selects RX10 yX10_keepClause yX10_keepClause) := by decide +kernel
theorem kv_6 : lw_tbl[6]? = some (Cond.selects RX2 yX2_readClause yX2_readClause) := by decide +kernel
theorem kv_7 : lw_tbl[7]? = some (Cond.selects RX2 yX2_takes yX2_takes) := by decide +kernel
theorem kv_8 : lw_tbl[8]? = some (Cond.selects RX2 yX2_readCondition yX2_readCondition) := by decide +kernel
theorem kv_9 : lw_tbl[9]? = some (Cond.selects RX2 yX2_readUnit yX2_readUnit) := by decide +kernel
theorem kv_10 : lw_tbl[10]? = some (Cond.selects RX2 yX2_readSum yX2_readSum) := by decide +kernel
theorem kv_11 : lw_tbl[11]? = some (Cond.selects RX2 yX2_readTerm yX2_readTerm) := by decide +kernel
theorem kv_12 : lw_tbl[12]? = some (Cond.selects RX2 yX2_readAtom yX2_readAtom) := by decide +kernel
theorem kv_13 : lw_tbl[13]? = some (Cond.selects RX2 yX2_readNumber yX2_readNumber) := by decide +kernel
theorem kv_14 : lw_tbl[14]? = some (Cond.selects RX2 yX2_put yX2_put) := by decide +kernel
theorem kv_15 : lw_tbl[15]? = some (Cond.selects RX2 yX2_goOn yX2_goOn) := by decide +kernel
theorem kv_16 : lw_tbl[16]? = some (Cond.selects RX2 yX2_readComparison yX2_readComparison) := by decide +kernel
theorem kv_17 : lw_tbl[17]? = some (Cond.selects RX2 yX2_readMoreUnits yX2_readMoreUnits) := by decide +kernel
theorem kv_18 : lw_tbl[18]? = some (Cond.selects RX2 yX2_readMoreTruths yX2_readMoreTruths) := by decide +kernel
theorem kv_19 : lw_tbl[19]? = some (Cond.selects RX2 yX2_readAnswer yX2_readAnswer) := by decide +kernel
theorem kv_20 : lw_tbl[20]? = some (Cond.selects RX11 yX11_beginWar yX11_beginWar) := by decide +kernel
theorem kv_21 : lw_tbl[21]? = some (Cond.selects RX7 yX7_restAt yX7_restAt) := by decide +kernel
theorem kv_22 : lw_tbl[22]? = some (Cond.selects RX7 yX7_lookAt yX7_lookAt) := by decide +kernel
theorem kv_23 : lw_tbl[23]? = some (Cond.selects RX6 yX6_keep yX6_keep) := by decide +kernel
theorem kv_24 : lw_tbl[24]? = some (Cond.selects RX11 yX11_doGo yX11_doGo) := by decide +kernel
theorem kv_25 : lw_tbl[25]? = some (Cond.selects RX11 yX11_doStay yX11_doStay) := by decide +kernel
theorem kv_26 : lw_tbl[26]? = some (Cond.selects RX11 yX11_doPress yX11_doPress) := by decide +kernel
theorem kv_27 : lw_tbl[27]? = some (Cond.selects RX11 yX11_endDay yX11_endDay) := by decide +kernel
theorem kv_28 : lw_tbl[28]? = some (Cond.selects RX11 yX11_marchOneMan yX11_marchOneMan) := by decide +kernel
theorem kv_29 : lw_tbl[29]? = some (Cond.selects RX11 yX11_draw yX11_draw) := by decide +kernel
theorem kv_30 : lw_tbl[30]? = some (Cond.selects RX11 yX11_mayDuel yX11_mayDuel) := by decide +kernel
theorem kv_31 : lw_tbl[31]? = some (Cond.selects RX11 yX11_makeDuelReady yX11_makeDuelReady) := by decide +kernel
theorem kv_32 : lw_tbl[32]? = some (Cond.selects RX11 yX11_farthestPlace yX11_farthestPlace) := by decide +kernel
theorem kv_33 : lw_tbl[33]? = some (Cond.selects RX11 yX11_placeOf yX11_placeOf) := by decide +kernel
theorem kv_34 : lw_tbl[34]? = some (Cond.selects RX0 yX0_findPressed yX0_findPressed) := by decide +kernel
theorem kv_35 : lw_tbl[35]? = some (Cond.selects RX0 yX0_settleAll yX0_settleAll) := by decide +kernel
theorem kv_36 : lw_tbl[36]? = some (Cond.selects RX0 yX0_best yX0_best) := by decide +kernel
theorem kv_37 : lw_tbl[37]? = some (Cond.selects RX11 yX11_isSideOfWar yX11_isSideOfWar) := by decide +kernel
theorem kv_38 : lw_tbl[38]? = some (Cond.selects RX11 yX11_countWins yX11_countWins) := by decide +kernel
theorem kv_39 : lw_tbl[39]? = some (Cond.selects RX11 yX11_countWinsOfSpeeds yX11_countWinsOfSpeeds) := by decide +kernel
theorem kv_40 : lw_tbl[40]? = some (Cond.selects RX1 yX1_broughtHomeBy yX1_broughtHomeBy) := by decide +kernel
theorem kv_41 : lw_tbl[41]? = some (Cond.selects RX1 yX1_mostFrom yX1_mostFrom) := by decide +kernel
theorem kv_42 : lw_tbl[42]? = some (Cond.selects RX1 yX1_lowestThatLeaves yX1_lowestThatLeaves) := by decide +kernel
theorem kv_43 : lw_tbl[43]? = some (Cond.selects RX11 yX11_loopholeBits yX11_loopholeBits) := by decide +kernel
theorem kv_44 : lw_tbl[44]? = some (Cond.selects RX11 yX11_pressOnDay yX11_pressOnDay) := by decide +kernel
theorem kv_45 : lw_tbl[45]? = some (Cond.selects RX11 yX11_farthest yX11_farthest) := by decide +kernel
theorem kv_46 : lw_tbl[46]? = some (Cond.selects RX4 yX4_howMany yX4_howMany) := by decide +kernel
theorem kv_47 : lw_tbl[47]? = some (Cond.selects RX4 yX4_rowBits yX4_rowBits) := by decide +kernel
theorem kv_48 : lw_tbl[48]? = some (Cond.selects RX4 yX4_tallyRow yX4_tallyRow) := by decide +kernel
theorem kv_49 : lw_tbl[49]? = some (Cond.selects RX11 yX11_partsAtHome yX11_partsAtHome) := by decide +kernel
theorem kv_51 : lw_tbl[51]? = some (Cond.selects RX12 yX12_readWar yX12_readWar) := by decide +kernel
theorem kv_52 : lw_tbl[52]? = some (Cond.selects RX12 yX12_look yX12_look) := by decide +kernel
theorem kv_53 : lw_tbl[53]? = some (Cond.selects RX12 yX12_here yX12_here) := by decide +kernel
theorem kv_54 : lw_tbl[54]? = some (Cond.selects RX12 yX12_items yX12_items) := by decide +kernel
theorem kv_55 : lw_tbl[55]? = some (Cond.selects RX12 yX12_number yX12_number) := by decide +kernel
theorem kv_56 : lw_tbl[56]? = some (Cond.selects RX12 yX12_bad yX12_bad) := by decide +kernel
theorem kv_57 : lw_tbl[57]? = some (Cond.selects RX12 yX12_isWhole yX12_isWhole) := by decide +kernel
theorem kv_58 : lw_tbl[58]? = some (Cond.selects RX12 yX12_readLaw yX12_readLaw) := by decide +kernel
theorem kv_59 : lw_tbl[59]? = some (Cond.selects RX12 yX12_open yX12_open) := by decide +kernel
theorem kv_60 : lw_tbl[60]? = some (Cond.selects RX12 yX12_clause yX12_clause) := by decide +kernel
theorem kv_61 : lw_tbl[61]? = some (Cond.selects RX12 yX12_condition yX12_condition) := by decide +kernel
theorem kv_62 : lw_tbl[62]? = some (Cond.selects RX12 yX12_unit yX12_unit) := by decide +kernel
theorem kv_63 : lw_tbl[63]? = some (Cond.selects RX12 yX12_opens yX12_opens) := by decide +kernel
theorem kv_64 : lw_tbl[64]? = some (Cond.selects RX12 yX12_put yX12_put) := by decide +kernel
theorem kv_65 : lw_tbl[65]? = some (Cond.selects RX12 yX12_closes yX12_closes) := by decide +kernel
theorem kv_66 : lw_tbl[66]? = some (Cond.selects RX12 yX12_sum yX12_sum) := by decide +kernel
theorem kv_67 : lw_tbl[67]? = some (Cond.selects RX12 yX12_term yX12_term) := by decide +kernel
theorem kv_68 : lw_tbl[68]? = some (Cond.selects RX12 yX12_atom yX12_atom) := by decide +kernel
theorem kv_69 : lw_tbl[69]? = some (Cond.selects RX12 yX12_plainNumber yX12_plainNumber) := by decide +kernel
theorem kv_70 : lw_tbl[70]? = some (Cond.selects RX12 yX12_compare yX12_compare) := by decide +kernel
theorem kv_71 : lw_tbl[71]? = some (Cond.selects RX12 yX12_goOnAnd yX12_goOnAnd) := by decide +kernel
theorem kv_72 : lw_tbl[72]? = some (Cond.selects RX12 yX12_goOnOr yX12_goOnOr) := by decide +kernel
theorem kv_73 : lw_tbl[73]? = some (Cond.selects RX12 yX12_atEnd yX12_atEnd) := by decide +kernel
theorem kv_74 : lw_tbl[74]? = some (Cond.selects RX12 yX12_takeWar yX12_takeWar) := by decide +kernel
theorem kv_75 : lw_tbl[75]? = some (Cond.selects RX12 yX12_comes yX12_comes) := by decide +kernel
theorem kv_76 : lw_tbl[76]? = some (Cond.selects RX12 yX12_restAt yX12_restAt) := by decide +kernel
theorem kv_77 : lw_tbl[77]? = some (Cond.selects RX12 yX12_isMan yX12_isMan) := by decide +kernel
theorem kv_78 : lw_tbl[78]? = some (Cond.selects RX12 yX12_isHome yX12_isHome) := by decide +kernel
theorem kv_79 : lw_tbl[79]? = some (Cond.selects RX12 yX12_isHomeBy yX12_isHomeBy) := by decide +kernel
theorem kv_80 : lw_tbl[80]? = some (Cond.selects RX12 yX12_side yX12_side) := by decide +kernel
theorem kv_81 : lw_tbl[81]? = some (Cond.selects RX12 yX12_worthOf yX12_worthOf) := by decide +kernel
theorem kv_82 : lw_tbl[82]? = some (Cond.selects RX12 yX12_workOut yX12_workOut) := by decide +kernel
theorem kv_83 : lw_tbl[83]? = some (Cond.selects RX12 yX12_wonBy yX12_wonBy) := by decide +kernel
theorem kv_84 : lw_tbl[84]? = some (Cond.selects RX12 yX12_atHome yX12_atHome) := by decide +kernel
theorem kv_85 : lw_tbl[85]? = some (Cond.selects RX12 yX12_of yX12_of) := by decide +kernel
theorem kv_86 : lw_tbl[86]? = some (Cond.selects RX12 yX12_canGo yX12_canGo) := by decide +kernel
theorem kv_87 : lw_tbl[87]? = some (Cond.selects RX12 yX12_isFree yX12_isFree) := by decide +kernel
theorem kv_88 : lw_tbl[88]? = some (Cond.selects RX12 yX12_isOver yX12_isOver) := by decide +kernel
theorem kv_89 : lw_tbl[89]? = some (Cond.selects RX12 yX12_keep yX12_keep) := by decide +kernel
theorem kv_90 : lw_tbl[90]? = some (Cond.selects RX12 yX12_goNow yX12_goNow) := by decide +kernel
theorem kv_91 : lw_tbl[91]? = some (Cond.selects RX12 yX12_note yX12_note) := by decide +kernel
theorem kv_92 : lw_tbl[92]? = some (Cond.selects RX12 yX12_canStay yX12_canStay) := by decide +kernel
theorem kv_93 : lw_tbl[93]? = some (Cond.selects RX12 yX12_stayNow yX12_stayNow) := by decide +kernel
theorem kv_94 : lw_tbl[94]? = some (Cond.selects RX12 yX12_canPress yX12_canPress) := by decide +kernel
theorem kv_95 : lw_tbl[95]? = some (Cond.selects RX12 yX12_pressNow yX12_pressNow) := by decide +kernel
theorem kv_96 : lw_tbl[96]? = some (Cond.selects RX12 yX12_endDay yX12_endDay) := by decide +kernel
theorem kv_97 : lw_tbl[97]? = some (Cond.selects RX12 yX12_drawDeed yX12_drawDeed) := by decide +kernel
theorem kv_98 : lw_tbl[98]? = some (Cond.selects RX12 yX12_draw yX12_draw) := by decide +kernel
theorem kv_99 : lw_tbl[99]? = some (Cond.selects RX12 yX12_pressLowest yX12_pressLowest) := by decide +kernel
theorem kv_100 : lw_tbl[100]? = some (Cond.selects RX12 yX12_canDuel yX12_canDuel) := by decide +kernel
theorem kv_101 : lw_tbl[101]? = some (Cond.selects RX12 yX12_duelWith yX12_duelWith) := by decide +kernel
theorem kv_102 : lw_tbl[102]? = some (Cond.selects RX12 yX12_outcomeOf yX12_outcomeOf) := by decide +kernel
theorem kv_103 : lw_tbl[103]? = some (Cond.selects RX12 yX12_isSide yX12_isSide) := by decide +kernel
theorem kv_104 : lw_tbl[104]? = some (Cond.selects RX12 yX12_wins yX12_wins) := by decide +kernel
theorem kv_105 : lw_tbl[105]? = some (Cond.selects RX12 yX12_foes yX12_foes) := by decide +kernel
theorem kv_106 : lw_tbl[106]? = some (Cond.selects RX12 yX12_tryEscorts yX12_tryEscorts) := by decide +kernel
theorem kv_107 : lw_tbl[107]? = some (Cond.selects RX12 yX12_canEscort yX12_canEscort) := by decide +kernel
theorem kv_108 : lw_tbl[108]? = some (Cond.selects RX12 yX12_isEscorted yX12_isEscorted) := by decide +kernel
theorem kv_109 : lw_tbl[109]? = some (Cond.selects RX12 yX12_looseBy yX12_looseBy) := by decide +kernel
theorem kv_110 : lw_tbl[110]? = some (Cond.selects RX12 yX12_isAhead yX12_isAhead) := by decide +kernel
theorem kv_111 : lw_tbl[111]? = some (Cond.selects RX12 yX12_farthest yX12_farthest) := by decide +kernel
theorem kv_112 : lw_tbl[112]? = some (Cond.selects RX12 yX12_getsOf yX12_getsOf) := by decide +kernel
theorem kv_113 : lw_tbl[113]? = some (Cond.selects RX12 yX12_isSoBy yX12_isSoBy) := by decide +kernel
theorem kv_114 : lw_tbl[114]? = some (Cond.selects RX12 yX12_oddsOf yX12_oddsOf) := by decide +kernel
theorem kv_116 : lw_tbl[116]? = some (Cond.initialized RX11) := by decide +kernel
theorem kv_117 : lw_tbl[117]? = some (Cond.initialized RX8) := by decide +kernel
theorem kv_118 : lw_tbl[118]? = some (Cond.initialized RX9) := by decide +kernel
theorem kv_119 : lw_tbl[119]? = some (Cond.initialized RX10) := by decide +kernel
theorem kv_120 : lw_tbl[120]? = some (Cond.initialized RX2) := by decide +kernel
theorem kv_121 : lw_tbl[121]? = some (Cond.initialized RX3) := by decide +kernel
theorem kv_122 : lw_tbl[122]? = some (Cond.initialized RX7) := by decide +kernel
theorem kv_123 : lw_tbl[123]? = some (Cond.initialized RX5) := by decide +kernel
theorem kv_124 : lw_tbl[124]? = some (Cond.initialized RX6) := by decide +kernel
theorem kv_125 : lw_tbl[125]? = some (Cond.initialized RX0) := by decide +kernel
theorem kv_126 : lw_tbl[126]? = some (Cond.initialized RX1) := by decide +kernel
theorem kv_127 : lw_tbl[127]? = some (Cond.initialized RX4) := by decide +kernel
theorem kv_128 : lw_tbl[128]? = some (Cond.initialized RX12) := by decide +kernel
theorem kv_129 : lw_tbl[129]? = some (Cond.initialized "java/lang/System") := by decide +kernel
theorem kv_130 : lw_tbl[130]? = some (Cond.initialized RJ0) := by decide +kernel
theorem kv_131 : lw_tbl[131]? = some (Cond.initialized RJ1) := by decide +kernel
theorem kv_132 : lw_tbl[132]? = some (Cond.initialized RJ9) := by decide +kernel
theorem kv_140 : lw_tbl[140]? = some (Cond.initialized RJ6) := by decide +kernel
theorem kv_155 : lw_tbl[155]? = some (Cond.fieldLink RX8 11 (TX8 0).1 (TX8 0).2.1 (TX8 0).2.2.1) := by decide +kernel
theorem kv_156 : lw_tbl[156]? = some (Cond.fieldLink RX8 15 (TX8 1).1 (TX8 1).2.1 (TX8 1).2.2.1) := by decide +kernel
theorem kv_157 : lw_tbl[157]? = some (Cond.fieldLink RX11 113 (TX8 1).1 (TX8 1).2.1 (TX8 1).2.2.1) := by decide +kernel
theorem kv_158 : lw_tbl[158]? = some (Cond.fieldLink RX2 38 (TX8 1).1 (TX8 1).2.1 (TX8 1).2.2.1) := by decide +kernel
theorem kv_159 : lw_tbl[159]? = some (Cond.fieldLink RX10 53 (TX8 1).1 (TX8 1).2.1 (TX8 1).2.2.1) := by decide +kernel
theorem kv_172 : lw_tbl[172]? = some (Cond.fieldLink RX9 7 (TX9 0).1 (TX9 0).2.1 (TX9 0).2.2.1) := by decide +kernel
theorem kv_173 : lw_tbl[173]? = some (Cond.fieldLink RX1 27 (TX9 0).1 (TX9 0).2.1 (TX9 0).2.2.1) := by decide +kernel
theorem kv_174 : lw_tbl[174]? = some (Cond.fieldLink RX7 38 (TX9 0).1 (TX9 0).2.1 (TX9 0).2.2.1) := by decide +kernel
theorem kv_175 : lw_tbl[175]? = some (Cond.fieldLink RX10 82 (TX9 0).1 (TX9 0).2.1 (TX9 0).2.2.1) := by decide +kernel
theorem kv_176 : lw_tbl[176]? = some (Cond.fieldLink RX11 151 (TX9 0).1 (TX9 0).2.1 (TX9 0).2.2.1) := by decide +kernel
theorem kv_177 : lw_tbl[177]? = some (Cond.fieldLink RX9 13 (TX9 1).1 (TX9 1).2.1 (TX9 1).2.2.1) := by decide +kernel
theorem kv_178 : lw_tbl[178]? = some (Cond.fieldLink RX10 85 (TX9 1).1 (TX9 1).2.1 (TX9 1).2.2.1) := by decide +kernel
theorem kv_179 : lw_tbl[179]? = some (Cond.fieldLink RX11 194 (TX9 1).1 (TX9 1).2.1 (TX9 1).2.2.1) := by decide +kernel
theorem kv_180 : lw_tbl[180]? = some (Cond.fieldLink RX9 16 (TX9 2).1 (TX9 2).2.1 (TX9 2).2.2.1) := by decide +kernel
theorem kv_181 : lw_tbl[181]? = some (Cond.fieldLink RX10 95 (TX9 2).1 (TX9 2).2.1 (TX9 2).2.2.1) := by decide +kernel
theorem kv_182 : lw_tbl[182]? = some (Cond.fieldLink RX11 218 (TX9 2).1 (TX9 2).2.1 (TX9 2).2.2.1) := by decide +kernel
theorem kv_183 : lw_tbl[183]? = some (Cond.fieldLink RX9 19 (TX9 3).1 (TX9 3).2.1 (TX9 3).2.2.1) := by decide +kernel
theorem kv_184 : lw_tbl[184]? = some (Cond.fieldLink RX10 98 (TX9 3).1 (TX9 3).2.1 (TX9 3).2.2.1) := by decide +kernel
theorem kv_185 : lw_tbl[185]? = some (Cond.fieldLink RX11 221 (TX9 3).1 (TX9 3).2.1 (TX9 3).2.2.1) := by decide +kernel
theorem kv_186 : lw_tbl[186]? = some (Cond.fieldLink RX7 105 (TX9 3).1 (TX9 3).2.1 (TX9 3).2.2.1) := by decide +kernel
theorem kv_187 : lw_tbl[187]? = some (Cond.fieldLink RX9 22 (TX9 4).1 (TX9 4).2.1 (TX9 4).2.2.1) := by decide +kernel
theorem kv_188 : lw_tbl[188]? = some (Cond.fieldLink RX9 26 (TX9 5).1 (TX9 5).2.1 (TX9 5).2.2.1) := by decide +kernel
theorem kv_189 : lw_tbl[189]? = some (Cond.fieldLink RX1 30 (TX9 5).1 (TX9 5).2.1 (TX9 5).2.2.1) := by decide +kernel
theorem kv_190 : lw_tbl[190]? = some (Cond.fieldLink RX7 78 (TX9 5).1 (TX9 5).2.1 (TX9 5).2.2.1) := by decide +kernel
theorem kv_191 : lw_tbl[191]? = some (Cond.fieldLink RX11 165 (TX9 5).1 (TX9 5).2.1 (TX9 5).2.2.1) := by decide +kernel
theorem kv_192 : lw_tbl[192]? = some (Cond.fieldLink RX9 30 (TX9 6).1 (TX9 6).2.1 (TX9 6).2.2.1) := by decide +kernel
theorem kv_193 : lw_tbl[193]? = some (Cond.fieldLink RX7 41 (TX9 6).1 (TX9 6).2.1 (TX9 6).2.2.1) := by decide +kernel
theorem kv_194 : lw_tbl[194]? = some (Cond.fieldLink RX9 33 (TX9 7).1 (TX9 7).2.1 (TX9 7).2.2.1) := by decide +kernel
theorem kv_195 : lw_tbl[195]? = some (Cond.fieldLink RX1 52 (TX9 7).1 (TX9 7).2.1 (TX9 7).2.2.1) := by decide +kernel
theorem kv_196 : lw_tbl[196]? = some (Cond.fieldLink RX11 171 (TX9 7).1 (TX9 7).2.1 (TX9 7).2.2.1) := by decide +kernel
theorem kv_197 : lw_tbl[197]? = some (Cond.fieldLink RX9 36 (TX9 8).1 (TX9 8).2.1 (TX9 8).2.2.1) := by decide +kernel
theorem kv_198 : lw_tbl[198]? = some (Cond.fieldLink RX7 69 (TX9 8).1 (TX9 8).2.1 (TX9 8).2.2.1) := by decide +kernel
theorem kv_200 : lw_tbl[200]? = some (Cond.fieldLink RX9 39 (TX9 9).1 (TX9 9).2.1 (TX9 9).2.2.1) := by decide +kernel
theorem kv_201 : lw_tbl[201]? = some (Cond.fieldLink RX7 72 (TX9 9).1 (TX9 9).2.1 (TX9 9).2.2.1) := by decide +kernel
theorem kv_202 : lw_tbl[202]? = some (Cond.fieldLink RX11 177 (TX9 9).1 (TX9 9).2.1 (TX9 9).2.2.1) := by decide +kernel
theorem kv_203 : lw_tbl[203]? = some (Cond.fieldLink RX9 42 (TX9 10).1 (TX9 10).2.1 (TX9 10).2.2.1) := by decide +kernel
theorem kv_204 : lw_tbl[204]? = some (Cond.fieldLink RX7 75 (TX9 10).1 (TX9 10).2.1 (TX9 10).2.2.1) := by decide +kernel
theorem kv_205 : lw_tbl[205]? = some (Cond.fieldLink RX11 180 (TX9 10).1 (TX9 10).2.1 (TX9 10).2.2.1) := by decide +kernel
theorem kv_206 : lw_tbl[206]? = some (Cond.fieldLink RX9 45 (TX9 11).1 (TX9 11).2.1 (TX9 11).2.2.1) := by decide +kernel
theorem kv_207 : lw_tbl[207]? = some (Cond.fieldLink RX11 197 (TX9 11).1 (TX9 11).2.1 (TX9 11).2.2.1) := by decide +kernel
theorem kv_208 : lw_tbl[208]? = some (Cond.fieldLink RX9 48 (TX9 12).1 (TX9 12).2.1 (TX9 12).2.2.1) := by decide +kernel
theorem kv_209 : lw_tbl[209]? = some (Cond.fieldLink RX11 200 (TX9 12).1 (TX9 12).2.1 (TX9 12).2.2.1) := by decide +kernel
theorem kv_210 : lw_tbl[210]? = some (Cond.fieldLink RX9 51 (TX9 13).1 (TX9 13).2.1 (TX9 13).2.2.1) := by decide +kernel
theorem kv_211 : lw_tbl[211]? = some (Cond.fieldLink RX0 51 (TX9 13).1 (TX9 13).2.1 (TX9 13).2.2.1) := by decide +kernel
theorem kv_212 : lw_tbl[212]? = some (Cond.fieldLink RX7 51 (TX9 13).1 (TX9 13).2.1 (TX9 13).2.2.1) := by decide +kernel
theorem kv_213 : lw_tbl[213]? = some (Cond.fieldLink RX9 54 (TX9 14).1 (TX9 14).2.1 (TX9 14).2.2.1) := by decide +kernel
theorem kv_214 : lw_tbl[214]? = some (Cond.fieldLink RX7 88 (TX9 14).1 (TX9 14).2.1 (TX9 14).2.2.1) := by decide +kernel
theorem kv_215 : lw_tbl[215]? = some (Cond.fieldLink RX11 397 (TX9 14).1 (TX9 14).2.1 (TX9 14).2.2.1) := by decide +kernel
theorem kv_253 : lw_tbl[253]? = some (Cond.fieldLink RX10 26 (TX10 0).1 (TX10 0).2.1 (TX10 0).2.2.1) := by decide +kernel
theorem kv_254 : lw_tbl[254]? = some (Cond.fieldLink RX10 30 (TX10 1).1 (TX10 1).2.1 (TX10 1).2.2.1) := by decide +kernel
theorem kv_255 : lw_tbl[255]? = some (Cond.fieldLink RX10 11 (TX10 2).1 (TX10 2).2.1 (TX10 2).2.2.1) := by decide +kernel
theorem kv_256 : lw_tbl[256]? = some (Cond.fieldLink RX10 15 (TX10 3).1 (TX10 3).2.1 (TX10 3).2.2.1) := by decide +kernel
theorem kv_257 : lw_tbl[257]? = some (Cond.fieldLink RX10 19 (TX10 4).1 (TX10 4).2.1 (TX10 4).2.2.1) := by decide +kernel
theorem kv_258 : lw_tbl[258]? = some (Cond.fieldLink RX10 22 (TX10 5).1 (TX10 5).2.1 (TX10 5).2.2.1) := by decide +kernel
theorem kv_278 : lw_tbl[278]? = some (Cond.fieldLink RX2 24 (TX2 0).1 (TX2 0).2.1 (TX2 0).2.2.1) := by decide +kernel
theorem kv_279 : lw_tbl[279]? = some (Cond.fieldLink RX2 11 (TX2 1).1 (TX2 1).2.1 (TX2 1).2.2.1) := by decide +kernel
theorem kv_280 : lw_tbl[280]? = some (Cond.fieldLink RX3 43 (TX2 1).1 (TX2 1).2.1 (TX2 1).2.2.1) := by decide +kernel
theorem kv_281 : lw_tbl[281]? = some (Cond.fieldLink RX2 17 (TX2 2).1 (TX2 2).2.1 (TX2 2).2.2.1) := by decide +kernel
theorem kv_282 : lw_tbl[282]? = some (Cond.fieldLink RX3 38 (TX2 2).1 (TX2 2).2.1 (TX2 2).2.2.1) := by decide +kernel
theorem kv_283 : lw_tbl[283]? = some (Cond.fieldLink RX2 21 (TX2 3).1 (TX2 3).2.1 (TX2 3).2.2.1) := by decide +kernel
theorem kv_301 : lw_tbl[301]? = some (Cond.fieldLink RX3 15 (TX3 0).1 (TX3 0).2.1 (TX3 0).2.2.1) := by decide +kernel
theorem kv_302 : lw_tbl[302]? = some (Cond.fieldLink RX3 18 (TX3 1).1 (TX3 1).2.1 (TX3 1).2.2.1) := by decide +kernel
theorem kv_303 : lw_tbl[303]? = some (Cond.fieldLink RX3 22 (TX3 2).1 (TX3 2).2.1 (TX3 2).2.2.1) := by decide +kernel
theorem kv_304 : lw_tbl[304]? = some (Cond.fieldLink RX3 25 (TX3 3).1 (TX3 3).2.1 (TX3 3).2.2.1) := by decide +kernel
theorem kv_305 : lw_tbl[305]? = some (Cond.fieldLink RX7 66 (TX3 3).1 (TX3 3).2.1 (TX3 3).2.2.1) := by decide +kernel
theorem kv_306 : lw_tbl[306]? = some (Cond.fieldLink RX3 28 (TX3 4).1 (TX3 4).2.1 (TX3 4).2.2.1) := by decide +kernel
theorem kv_307 : lw_tbl[307]? = some (Cond.fieldLink RX11 380 (TX3 4).1 (TX3 4).2.1 (TX3 4).2.2.1) := by decide +kernel
theorem kv_308 : lw_tbl[308]? = some (Cond.fieldLink RX3 31 (TX3 5).1 (TX3 5).2.1 (TX3 5).2.2.1) := by decide +kernel
theorem kv_309 : lw_tbl[309]? = some (Cond.fieldLink RX11 129 (TX3 5).1 (TX3 5).2.1 (TX3 5).2.2.1) := by decide +kernel
theorem kv_311 : lw_tbl[311]? = some (Cond.fieldLink RX7 57 (TX3 6).1 (TX3 6).2.1 (TX3 6).2.2.1) := by decide +kernel
theorem kv_312 : lw_tbl[312]? = some (Cond.fieldLink RX11 206 (TX3 6).1 (TX3 6).2.1 (TX3 6).2.2.1) := by decide +kernel
theorem kv_334 : lw_tbl[334]? = some (Cond.fieldLink RX7 30 (TX7 0).1 (TX7 0).2.1 (TX7 0).2.2.1) := by decide +kernel
theorem kv_335 : lw_tbl[335]? = some (Cond.fieldLink RX7 34 (TX7 1).1 (TX7 1).2.1 (TX7 1).2.2.1) := by decide +kernel
theorem kv_336 : lw_tbl[336]? = some (Cond.fieldLink RX7 11 (TX7 2).1 (TX7 2).2.1 (TX7 2).2.2.1) := by decide +kernel
theorem kv_337 : lw_tbl[337]? = some (Cond.fieldLink RX1 49 (TX7 2).1 (TX7 2).2.1 (TX7 2).2.2.1) := by decide +kernel
theorem kv_338 : lw_tbl[338]? = some (Cond.fieldLink RX11 168 (TX7 2).1 (TX7 2).2.1 (TX7 2).2.2.1) := by decide +kernel
theorem kv_339 : lw_tbl[339]? = some (Cond.fieldLink RX7 17 (TX7 3).1 (TX7 3).2.1 (TX7 3).2.2.1) := by decide +kernel
theorem kv_340 : lw_tbl[340]? = some (Cond.fieldLink RX11 183 (TX7 3).1 (TX7 3).2.1 (TX7 3).2.2.1) := by decide +kernel
theorem kv_341 : lw_tbl[341]? = some (Cond.fieldLink RX7 20 (TX7 4).1 (TX7 4).2.1 (TX7 4).2.2.1) := by decide +kernel
theorem kv_342 : lw_tbl[342]? = some (Cond.fieldLink RX6 73 (TX7 4).1 (TX7 4).2.1 (TX7 4).2.2.1) := by decide +kernel
theorem kv_343 : lw_tbl[343]? = some (Cond.fieldLink RX7 24 (TX7 5).1 (TX7 5).2.1 (TX7 5).2.2.1) := by decide +kernel
theorem kv_344 : lw_tbl[344]? = some (Cond.fieldLink RX6 75 (TX7 5).1 (TX7 5).2.1 (TX7 5).2.2.1) := by decide +kernel
theorem kv_345 : lw_tbl[345]? = some (Cond.fieldLink RX11 215 (TX7 5).1 (TX7 5).2.1 (TX7 5).2.2.1) := by decide +kernel
theorem kv_346 : lw_tbl[346]? = some (Cond.fieldLink RX7 27 (TX7 6).1 (TX7 6).2.1 (TX7 6).2.2.1) := by decide +kernel
theorem kv_347 : lw_tbl[347]? = some (Cond.fieldLink RX11 224 (TX7 6).1 (TX7 6).2.1 (TX7 6).2.2.1) := by decide +kernel
theorem kv_369 : lw_tbl[369]? = some (Cond.fieldLink RX5 13 (TX5 0).1 (TX5 0).2.1 (TX5 0).2.2.1) := by decide +kernel
theorem kv_370 : lw_tbl[370]? = some (Cond.fieldLink RX5 17 (TX5 1).1 (TX5 1).2.1 (TX5 1).2.2.1) := by decide +kernel
theorem kv_371 : lw_tbl[371]? = some (Cond.fieldLink RX5 20 (TX5 2).1 (TX5 2).2.1 (TX5 2).2.2.1) := by decide +kernel
theorem kv_372 : lw_tbl[372]? = some (Cond.fieldLink RX5 24 (TX5 3).1 (TX5 3).2.1 (TX5 3).2.2.1) := by decide +kernel
theorem kv_373 : lw_tbl[373]? = some (Cond.fieldLink RX6 47 (TX5 3).1 (TX5 3).2.1 (TX5 3).2.2.1) := by decide +kernel
theorem kv_389 : lw_tbl[389]? = some (Cond.fieldLink RX6 9 (TX6 0).1 (TX6 0).2.1 (TX6 0).2.2.1) := by decide +kernel
theorem kv_390 : lw_tbl[390]? = some (Cond.fieldLink RX6 13 (TX6 1).1 (TX6 1).2.1 (TX6 1).2.2.1) := by decide +kernel
theorem kv_391 : lw_tbl[391]? = some (Cond.fieldLink RX6 16 (TX6 2).1 (TX6 2).2.1 (TX6 2).2.2.1) := by decide +kernel
theorem kv_392 : lw_tbl[392]? = some (Cond.fieldLink RX6 20 (TX6 3).1 (TX6 3).2.1 (TX6 3).2.2.1) := by decide +kernel
theorem kv_393 : lw_tbl[393]? = some (Cond.fieldLink RX6 23 (TX6 4).1 (TX6 4).2.1 (TX6 4).2.2.1) := by decide +kernel
theorem kv_394 : lw_tbl[394]? = some (Cond.fieldLink RX6 26 (TX6 5).1 (TX6 5).2.1 (TX6 5).2.2.1) := by decide +kernel
theorem kv_395 : lw_tbl[395]? = some (Cond.fieldLink RX6 30 (TX6 6).1 (TX6 6).2.1 (TX6 6).2.2.1) := by decide +kernel
theorem kv_396 : lw_tbl[396]? = some (Cond.fieldLink RX11 229 (TX6 6).1 (TX6 6).2.1 (TX6 6).2.2.1) := by decide +kernel
theorem kv_397 : lw_tbl[397]? = some (Cond.fieldLink RX6 33 (TX6 7).1 (TX6 7).2.1 (TX6 7).2.2.1) := by decide +kernel
theorem kv_398 : lw_tbl[398]? = some (Cond.fieldLink RX11 313 (TX6 7).1 (TX6 7).2.1 (TX6 7).2.2.1) := by decide +kernel
theorem kv_423 : lw_tbl[423]? = some (Cond.fieldLink RX0 13 (TX0 0).1 (TX0 0).2.1 (TX0 0).2.2.1) := by decide +kernel
theorem kv_424 : lw_tbl[424]? = some (Cond.fieldLink RX0 17 (TX0 1).1 (TX0 1).2.1 (TX0 1).2.2.1) := by decide +kernel
theorem kv_425 : lw_tbl[425]? = some (Cond.fieldLink RX0 20 (TX0 2).1 (TX0 2).2.1 (TX0 2).2.2.1) := by decide +kernel
theorem kv_426 : lw_tbl[426]? = some (Cond.fieldLink RX0 23 (TX0 3).1 (TX0 3).2.1 (TX0 3).2.2.1) := by decide +kernel
theorem kv_427 : lw_tbl[427]? = some (Cond.fieldLink RX0 26 (TX0 4).1 (TX0 4).2.1 (TX0 4).2.2.1) := by decide +kernel
theorem kv_428 : lw_tbl[428]? = some (Cond.fieldLink RX0 29 (TX0 5).1 (TX0 5).2.1 (TX0 5).2.2.1) := by decide +kernel
theorem kv_429 : lw_tbl[429]? = some (Cond.fieldLink RX0 32 (TX0 6).1 (TX0 6).2.1 (TX0 6).2.2.1) := by decide +kernel
theorem kv_430 : lw_tbl[430]? = some (Cond.fieldLink RX0 35 (TX0 7).1 (TX0 7).2.1 (TX0 7).2.2.1) := by decide +kernel
theorem kv_431 : lw_tbl[431]? = some (Cond.fieldLink RX0 38 (TX0 8).1 (TX0 8).2.1 (TX0 8).2.2.1) := by decide +kernel
theorem kv_432 : lw_tbl[432]? = some (Cond.fieldLink RX0 42 (TX0 9).1 (TX0 9).2.1 (TX0 9).2.2.1) := by decide +kernel
theorem kv_433 : lw_tbl[433]? = some (Cond.fieldLink RX0 45 (TX0 10).1 (TX0 10).2.1 (TX0 10).2.2.1) := by decide +kernel
theorem kv_434 : lw_tbl[434]? = some (Cond.fieldLink RX0 48 (TX0 11).1 (TX0 11).2.1 (TX0 11).2.2.1) := by decide +kernel
theorem kv_466 : lw_tbl[466]? = some (Cond.fieldLink RX1 19 (TX1 0).1 (TX1 0).2.1 (TX1 0).2.2.1) := by decide +kernel
theorem kv_467 : lw_tbl[467]? = some (Cond.fieldLink RX1 23 (TX1 1).1 (TX1 1).2.1 (TX1 1).2.2.1) := by decide +kernel
theorem kv_468 : lw_tbl[468]? = some (Cond.fieldLink RX1 9 (TX1 2).1 (TX1 2).2.1 (TX1 2).2.2.1) := by decide +kernel
theorem kv_469 : lw_tbl[469]? = some (Cond.fieldLink RX1 15 (TX1 3).1 (TX1 3).2.1 (TX1 3).2.2.1) := by decide +kernel
theorem kv_485 : lw_tbl[485]? = some (Cond.fieldLink RX4 11 (TX4 0).1 (TX4 0).2.1 (TX4 0).2.2.1) := by decide +kernel
theorem kv_486 : lw_tbl[486]? = some (Cond.fieldLink RX4 15 (TX4 1).1 (TX4 1).2.1 (TX4 1).2.2.1) := by decide +kernel
theorem kv_487 : lw_tbl[487]? = some (Cond.fieldLink RX4 18 (TX4 2).1 (TX4 2).2.1 (TX4 2).2.2.1) := by decide +kernel
theorem kv_488 : lw_tbl[488]? = some (Cond.fieldLink RX4 21 (TX4 3).1 (TX4 3).2.1 (TX4 3).2.2.1) := by decide +kernel
theorem kv_489 : lw_tbl[489]? = some (Cond.fieldLink RX4 24 (TX4 4).1 (TX4 4).2.1 (TX4 4).2.2.1) := by decide +kernel
theorem kv_490 : lw_tbl[490]? = some (Cond.fieldLink RX11 444 (TX4 4).1 (TX4 4).2.1 (TX4 4).2.2.1) := by decide +kernel
theorem kv_491 : lw_tbl[491]? = some (Cond.fieldLink RX4 28 (TX4 5).1 (TX4 5).2.1 (TX4 5).2.2.1) := by decide +kernel
theorem kv_492 : lw_tbl[492]? = some (Cond.fieldLink RX11 150 (TX4 5).1 (TX4 5).2.1 (TX4 5).2.2.1) := by decide +kernel
theorem kv_506 : lw_tbl[506]? = some (Cond.fieldLink RX11 10 (TX11 0).1 (TX11 0).2.1 (TX11 0).2.2.1) := by decide +kernel
theorem kv_507 : lw_tbl[507]? = some (Cond.fieldLink RX11 19 (TX11 1).1 (TX11 1).2.1 (TX11 1).2.2.1) := by decide +kernel
theorem kv_508 : lw_tbl[508]? = some (Cond.fieldLink RX11 23 (TX11 2).1 (TX11 2).2.1 (TX11 2).2.2.1) := by decide +kernel
theorem kv_509 : lw_tbl[509]? = some (Cond.fieldLink RX11 31 (TX11 3).1 (TX11 3).2.1 (TX11 3).2.2.1) := by decide +kernel
theorem kv_510 : lw_tbl[510]? = some (Cond.fieldLink RX11 40 (TX11 4).1 (TX11 4).2.1 (TX11 4).2.2.1) := by decide +kernel
theorem kv_511 : lw_tbl[511]? = some (Cond.fieldLink RX11 47 (TX11 5).1 (TX11 5).2.1 (TX11 5).2.2.1) := by decide +kernel
theorem kv_512 : lw_tbl[512]? = some (Cond.fieldLink RX11 56 (TX11 6).1 (TX11 6).2.1 (TX11 6).2.2.1) := by decide +kernel
theorem kv_513 : lw_tbl[513]? = some (Cond.fieldLink RX11 63 (TX11 7).1 (TX11 7).2.1 (TX11 7).2.2.1) := by decide +kernel
theorem kv_514 : lw_tbl[514]? = some (Cond.fieldLink RX11 70 (TX11 8).1 (TX11 8).2.1 (TX11 8).2.2.1) := by decide +kernel
theorem kv_515 : lw_tbl[515]? = some (Cond.fieldLink RX11 77 (TX11 9).1 (TX11 9).2.1 (TX11 9).2.2.1) := by decide +kernel
theorem kv_516 : lw_tbl[516]? = some (Cond.fieldLink RX11 86 (TX11 10).1 (TX11 10).2.1 (TX11 10).2.2.1) := by decide +kernel
theorem kv_517 : lw_tbl[517]? = some (Cond.fieldLink RX11 93 (TX11 11).1 (TX11 11).2.1 (TX11 11).2.2.1) := by decide +kernel
theorem kv_518 : lw_tbl[518]? = some (Cond.fieldLink RX11 97 (TX11 12).1 (TX11 12).2.1 (TX11 12).2.2.1) := by decide +kernel
theorem kv_519 : lw_tbl[519]? = some (Cond.fieldLink RX11 101 (TX11 13).1 (TX11 13).2.1 (TX11 13).2.2.1) := by decide +kernel
theorem kv_520 : lw_tbl[520]? = some (Cond.fieldLink RX11 105 (TX11 14).1 (TX11 14).2.1 (TX11 14).2.2.1) := by decide +kernel
theorem kv_553 : lw_tbl[553]? = some (Cond.instanceMethod yX11_feed) := by decide +kernel
theorem kv_554 : lw_tbl[554]? = some (Cond.selects RX11 yX11_feed yX11_feed) := by decide +kernel
theorem kv_555 : lw_tbl[555]? = some (Cond.code yX11_feed cX11_feed 7 (some .int)) := by decide +kernel
theorem kv_556 : lw_tbl[556]? = some (Cond.methodLink RX11 109 yX8_bytesIn) := by decide +kernel
theorem kv_557 : lw_tbl[557]? = some (Cond.static yX8_bytesIn) := by decide +kernel
theorem kv_558 : lw_tbl[558]? = some (Cond.code yX8_bytesIn cX8_bytesIn 3 (some .int)) := by decide +kernel
theorem kv_559 : lw_tbl[559]? = some (Cond.methodLink RX11 117 yX8_put) := by decide +kernel
theorem kv_560 : lw_tbl[560]? = some (Cond.instanceMethod yX8_put) := by decide +kernel
theorem kv_561 : lw_tbl[561]? = some (Cond.selects RX8 yX8_put yX8_put) := by decide +kernel
theorem kv_562 : lw_tbl[562]? = some (Cond.code yX8_put cX8_put 4 none) := by decide +kernel
theorem kv_564 : lw_tbl[564]? = some (Cond.instanceMethod yX11_end) := by decide +kernel
theorem kv_565 : lw_tbl[565]? = some (Cond.selects RX11 yX11_end yX11_end) := by decide +kernel
theorem kv_566 : lw_tbl[566]? = some (Cond.code yX11_end cX11_end 2 (some .boolean)) := by decide +kernel
theorem kv_568 : lw_tbl[568]? = some (Cond.instanceMethod yX11_fault) := by decide +kernel
theorem kv_569 : lw_tbl[569]? = some (Cond.selects RX11 yX11_fault yX11_fault) := by decide +kernel
theorem kv_570 : lw_tbl[570]? = some (Cond.code yX11_fault cX11_fault 2 (some .int)) := by decide +kernel
theorem kv_571 : lw_tbl[571]? = some (Cond.methodLink RX11 121 yX10_read) := by decide +kernel
theorem kv_572 : lw_tbl[572]? = some (Cond.instanceMethod yX10_read) := by decide +kernel
theorem kv_573 : lw_tbl[573]? = some (Cond.selects RX10 yX10_read yX10_read) := by decide +kernel
theorem kv_574 : lw_tbl[574]? = some (Cond.code yX10_read cX10_read 2 (some .int)) := by decide +kernel
theorem kv_575 : lw_tbl[575]? = some (Cond.fieldLink RX10 34 "LastHome$WarText" "WITHOUT" "[I") := by decide +kernel
theorem kv_577 : lw_tbl[577]? = some (Cond.methodLink RX10 37 yX9_clear) := by decide +kernel
theorem kv_578 : lw_tbl[578]? = some (Cond.instanceMethod yX9_clear) := by decide +kernel
theorem kv_579 : lw_tbl[579]? = some (Cond.selects RX9 yX9_clear yX9_clear) := by decide +kernel
theorem kv_580 : lw_tbl[580]? = some (Cond.code yX9_clear cX9_clear 4 none) := by decide +kernel
theorem kv_581 : lw_tbl[581]? = some (Cond.methodLink RX10 43 yX8_behindBlanks) := by decide +kernel
theorem kv_582 : lw_tbl[582]? = some (Cond.instanceMethod yX8_behindBlanks) := by decide +kernel
theorem kv_583 : lw_tbl[583]? = some (Cond.selects RX8 yX8_behindBlanks yX8_behindBlanks) := by decide +kernel
theorem kv_584 : lw_tbl[584]? = some (Cond.code yX8_behindBlanks cX8_behindBlanks 3 (some .int)) := by decide +kernel
theorem kv_585 : lw_tbl[585]? = some (Cond.methodLink RX10 49 yX10_readClause) := by decide +kernel
theorem kv_587 : lw_tbl[587]? = some (Cond.instanceMethod yX10_readClause) := by decide +kernel
theorem kv_588 : lw_tbl[588]? = some (Cond.code yX10_readClause cX10_readClause 3 (some .boolean)) := by decide +kernel
theorem kv_589 : lw_tbl[589]? = some (Cond.methodLink RX10 62 yX8_at) := by decide +kernel
theorem kv_590 : lw_tbl[590]? = some (Cond.instanceMethod yX8_at) := by decide +kernel
theorem kv_591 : lw_tbl[591]? = some (Cond.selects RX8 yX8_at yX8_at) := by decide +kernel
theorem kv_592 : lw_tbl[592]? = some (Cond.code yX8_at cX8_at 2 (some .int)) := by decide +kernel
theorem kv_593 : lw_tbl[593]? = some (Cond.methodLink RX10 64 yX10_firstItemOf) := by decide +kernel
theorem kv_594 : lw_tbl[594]? = some (Cond.static yX10_firstItemOf) := by decide +kernel
theorem kv_595 : lw_tbl[595]? = some (Cond.code yX10_firstItemOf cX10_firstItemOf 1 (some .int)) := by decide +kernel
theorem kv_596 : lw_tbl[596]? = some (Cond.methodLink RX10 67 yX10_isOneTooMany) := by decide +kernel
theorem kv_598 : lw_tbl[598]? = some (Cond.instanceMethod yX10_isOneTooMany) := by decide +kernel
theorem kv_599 : lw_tbl[599]? = some (Cond.code yX10_isOneTooMany cX10_isOneTooMany 2 (some .boolean)) := by decide +kernel
theorem kv_600 : lw_tbl[600]? = some (Cond.methodLink RX10 59 yX10_goOn) := by decide +kernel
theorem kv_602 : lw_tbl[602]? = some (Cond.instanceMethod yX10_goOn) := by decide +kernel
theorem kv_603 : lw_tbl[603]? = some (Cond.code yX10_goOn cX10_goOn 1 none) := by decide +kernel
theorem kv_604 : lw_tbl[604]? = some (Cond.methodLink RX10 71 yX10_endOfItems) := by decide +kernel
theorem kv_605 : lw_tbl[605]? = some (Cond.static yX10_endOfItems) := by decide +kernel
theorem kv_606 : lw_tbl[606]? = some (Cond.code yX10_endOfItems cX10_endOfItems 1 (some .int)) := by decide +kernel
theorem kv_607 : lw_tbl[607]? = some (Cond.methodLink RX10 74 yX10_readItems) := by decide +kernel
theorem kv_609 : lw_tbl[609]? = some (Cond.instanceMethod yX10_readItems) := by decide +kernel
theorem kv_610 : lw_tbl[610]? = some (Cond.code yX10_readItems cX10_readItems 6 (some .boolean)) := by decide +kernel
theorem kv_611 : lw_tbl[611]? = some (Cond.methodLink RX10 101 arraycopyName) := by decide +kernel
theorem kv_612 : lw_tbl[612]? = some (Cond.static arraycopyName) := by decide +kernel
theorem kv_613 : lw_tbl[613]? = some (Cond.native arraycopyName) := by decide +kernel
theorem kv_615 : lw_tbl[615]? = some (Cond.methodLink RX10 109 yJ0_indexOf_0f7a4) := by decide +kernel
theorem kv_616 : lw_tbl[616]? = some (Cond.instanceMethod yJ0_indexOf_0f7a4) := by decide +kernel
theorem kv_617 : lw_tbl[617]? = some (Cond.selects RJ0 yJ0_indexOf_0f7a4 yJ0_indexOf_0f7a4) := by decide +kernel
theorem kv_618 : lw_tbl[618]? = some (Cond.code yJ0_indexOf_0f7a4 cJ0_indexOf_0f7a4 2 (some .int)) := by decide +kernel
theorem kv_619 : lw_tbl[619]? = some (Cond.methodLink RJ0 633 yJ0_indexOf_7cf53) := by decide +kernel
theorem kv_620 : lw_tbl[620]? = some (Cond.instanceMethod yJ0_indexOf_7cf53) := by decide +kernel
theorem kv_621 : lw_tbl[621]? = some (Cond.selects RJ0 yJ0_indexOf_7cf53 yJ0_indexOf_7cf53) := by decide +kernel
theorem kv_622 : lw_tbl[622]? = some (Cond.code yJ0_indexOf_7cf53 cJ0_indexOf_7cf53 3 (some .int)) := by decide +kernel
theorem kv_623 : lw_tbl[623]? = some (Cond.methodLink RJ0 492 yJ0_isLatin1_aae02) := by decide +kernel
theorem kv_624 : lw_tbl[624]? = some (Cond.instanceMethod yJ0_isLatin1_aae02) := by decide +kernel
theorem kv_625 : lw_tbl[625]? = some (Cond.selects RJ0 yJ0_isLatin1_aae02 yJ0_isLatin1_aae02) := by decide +kernel
theorem kv_626 : lw_tbl[626]? = some (Cond.code yJ0_isLatin1_aae02 cJ0_isLatin1_aae02 1 (some .boolean)) := by decide +kernel
theorem kv_627 : lw_tbl[627]? = some (Cond.fieldLink RJ0 38 "java/lang/String" "COMPACT_STRINGS" "Z") := by decide +kernel
theorem kv_629 : lw_tbl[629]? = some (Cond.methodLink RJ0 505 yJ0_length_8abf5) := by decide +kernel
theorem kv_630 : lw_tbl[630]? = some (Cond.instanceMethod yJ0_length_8abf5) := by decide +kernel
theorem kv_631 : lw_tbl[631]? = some (Cond.selects RJ0 yJ0_length_8abf5 yJ0_length_8abf5) := by decide +kernel
theorem kv_632 : lw_tbl[632]? = some (Cond.code yJ0_length_8abf5 cJ0_length_8abf5 1 (some .int)) := by decide +kernel
theorem kv_633 : lw_tbl[633]? = some (Cond.methodLink RJ0 335 yJ0_coder_7d493) := by decide +kernel
theorem kv_634 : lw_tbl[634]? = some (Cond.instanceMethod yJ0_coder_7d493) := by decide +kernel
theorem kv_635 : lw_tbl[635]? = some (Cond.selects RJ0 yJ0_coder_7d493 yJ0_coder_7d493) := by decide +kernel
theorem kv_636 : lw_tbl[636]? = some (Cond.code yJ0_coder_7d493 cJ0_coder_7d493 1 (some .byte)) := by decide +kernel
theorem kv_637 : lw_tbl[637]? = some (Cond.methodLink RJ0 637 yJ1_indexOf_4cfef) := by decide +kernel
theorem kv_638 : lw_tbl[638]? = some (Cond.static yJ1_indexOf_4cfef) := by decide +kernel
theorem kv_639 : lw_tbl[639]? = some (Cond.code yJ1_indexOf_4cfef cJ1_indexOf_4cfef 4 (some .int)) := by decide +kernel
theorem kv_640 : lw_tbl[640]? = some (Cond.methodLink RJ1 88 yJ1_canEncode_9a6ad) := by decide +kernel
theorem kv_641 : lw_tbl[641]? = some (Cond.static yJ1_canEncode_9a6ad) := by decide +kernel
theorem kv_642 : lw_tbl[642]? = some (Cond.code yJ1_canEncode_9a6ad cJ1_canEncode_9a6ad 1 (some .boolean)) := by decide +kernel
theorem kv_643 : lw_tbl[643]? = some (Cond.methodLink RJ1 92 yJ9_max_7cf53) := by decide +kernel
theorem kv_644 : lw_tbl[644]? = some (Cond.static yJ9_max_7cf53) := by decide +kernel
theorem kv_645 : lw_tbl[645]? = some (Cond.code yJ9_max_7cf53 cJ9_max_7cf53 2 (some .int)) := by decide +kernel
theorem kv_646 : lw_tbl[646]? = some (Cond.methodLink RJ1 38 yJ9_min_7cf53) := by decide +kernel
theorem kv_647 : lw_tbl[647]? = some (Cond.static yJ9_min_7cf53) := by decide +kernel
theorem kv_648 : lw_tbl[648]? = some (Cond.code yJ9_min_7cf53 cJ9_min_7cf53 2 (some .int)) := by decide +kernel
theorem kv_649 : lw_tbl[649]? = some (Cond.methodLink RJ1 95 yJ1_indexOfChar_4cfef) := by decide +kernel
theorem kv_650 : lw_tbl[650]? = some (Cond.static yJ1_indexOfChar_4cfef) := by decide +kernel
theorem kv_651 : lw_tbl[651]? = some (Cond.code yJ1_indexOfChar_4cfef cJ1_indexOfChar_4cfef 6 (some .int)) := by decide +kernel
theorem kv_701 : lw_tbl[701]? = some (Cond.methodLink RX10 114 yX10_readNumber) := by decide +kernel
theorem kv_703 : lw_tbl[703]? = some (Cond.instanceMethod yX10_readNumber) := by decide +kernel
theorem kv_704 : lw_tbl[704]? = some (Cond.code yX10_readNumber cX10_readNumber 3 (some .boolean)) := by decide +kernel
theorem kv_705 : lw_tbl[705]? = some (Cond.methodLink RX10 117 yX8_digitAt) := by decide +kernel
theorem kv_706 : lw_tbl[706]? = some (Cond.instanceMethod yX8_digitAt) := by decide +kernel
theorem kv_707 : lw_tbl[707]? = some (Cond.selects RX8 yX8_digitAt yX8_digitAt) := by decide +kernel
theorem kv_708 : lw_tbl[708]? = some (Cond.code yX8_digitAt cX8_digitAt 3 (some .boolean)) := by decide +kernel
theorem kv_709 : lw_tbl[709]? = some (Cond.fieldLink RX10 120 "LastHome$WarText" "LEAST" "[I") := by decide +kernel
theorem kv_711 : lw_tbl[711]? = some (Cond.fieldLink RX10 123 "LastHome$WarText" "MOST" "[I") := by decide +kernel
theorem kv_713 : lw_tbl[713]? = some (Cond.methodLink RX10 78 yX10_keepClause) := by decide +kernel
theorem kv_715 : lw_tbl[715]? = some (Cond.instanceMethod yX10_keepClause) := by decide +kernel
theorem kv_716 : lw_tbl[716]? = some (Cond.code yX10_keepClause cX10_keepClause 2 none) := by decide +kernel
theorem kv_717 : lw_tbl[717]? = some (Cond.methodLink RX10 88 yX9_addMan) := by decide +kernel
theorem kv_718 : lw_tbl[718]? = some (Cond.instanceMethod yX9_addMan) := by decide +kernel
theorem kv_719 : lw_tbl[719]? = some (Cond.selects RX9 yX9_addMan yX9_addMan) := by decide +kernel
theorem kv_720 : lw_tbl[720]? = some (Cond.code yX9_addMan cX9_addMan 2 none) := by decide +kernel
theorem kv_721 : lw_tbl[721]? = some (Cond.methodLink RX10 92 yX9_addOrchard) := by decide +kernel
theorem kv_722 : lw_tbl[722]? = some (Cond.instanceMethod yX9_addOrchard) := by decide +kernel
theorem kv_723 : lw_tbl[723]? = some (Cond.selects RX9 yX9_addOrchard yX9_addOrchard) := by decide +kernel
theorem kv_724 : lw_tbl[724]? = some (Cond.code yX9_addOrchard cX9_addOrchard 3 none) := by decide +kernel
theorem kv_725 : lw_tbl[725]? = some (Cond.methodLink RX10 56 yX9_isWhole) := by decide +kernel
theorem kv_726 : lw_tbl[726]? = some (Cond.instanceMethod yX9_isWhole) := by decide +kernel
theorem kv_727 : lw_tbl[727]? = some (Cond.selects RX9 yX9_isWhole yX9_isWhole) := by decide +kernel
theorem kv_728 : lw_tbl[728]? = some (Cond.code yX9_isWhole cX9_isWhole 1 (some .boolean)) := by decide +kernel
theorem kv_729 : lw_tbl[729]? = some (Cond.methodLink RX11 125 yX2_read) := by decide +kernel
theorem kv_730 : lw_tbl[730]? = some (Cond.instanceMethod yX2_read) := by decide +kernel
theorem kv_731 : lw_tbl[731]? = some (Cond.selects RX2 yX2_read yX2_read) := by decide +kernel
theorem kv_732 : lw_tbl[732]? = some (Cond.code yX2_read cX2_read 2 (some .int)) := by decide +kernel
theorem kv_733 : lw_tbl[733]? = some (Cond.methodLink RX2 28 yX8_behindBlanks) := by decide +kernel
theorem kv_734 : lw_tbl[734]? = some (Cond.methodLink RX2 34 yX2_readClause) := by decide +kernel
theorem kv_736 : lw_tbl[736]? = some (Cond.instanceMethod yX2_readClause) := by decide +kernel
theorem kv_737 : lw_tbl[737]? = some (Cond.code yX2_readClause cX2_readClause 4 (some .boolean)) := by decide +kernel
theorem kv_738 : lw_tbl[738]? = some (Cond.methodLink RX2 39 yX2_takes) := by decide +kernel
theorem kv_740 : lw_tbl[740]? = some (Cond.instanceMethod yX2_takes) := by decide +kernel
theorem kv_741 : lw_tbl[741]? = some (Cond.code yX2_takes cX2_takes 2 (some .boolean)) := by decide +kernel
theorem kv_742 : lw_tbl[742]? = some (Cond.methodLink RX2 43 yX8_at) := by decide +kernel
theorem kv_743 : lw_tbl[743]? = some (Cond.methodLink RX2 45 yX2_readCondition) := by decide +kernel
theorem kv_745 : lw_tbl[745]? = some (Cond.instanceMethod yX2_readCondition) := by decide +kernel
theorem kv_746 : lw_tbl[746]? = some (Cond.code yX2_readCondition cX2_readCondition 2 (some .boolean)) := by decide +kernel
theorem kv_747 : lw_tbl[747]? = some (Cond.methodLink RX2 70 yX2_readUnit) := by decide +kernel
theorem kv_749 : lw_tbl[749]? = some (Cond.instanceMethod yX2_readUnit) := by decide +kernel
theorem kv_750 : lw_tbl[750]? = some (Cond.code yX2_readUnit cX2_readUnit 3 (some .boolean)) := by decide +kernel
theorem kv_751 : lw_tbl[751]? = some (Cond.methodLink RX2 48 yX2_readSum) := by decide +kernel
theorem kv_753 : lw_tbl[753]? = some (Cond.instanceMethod yX2_readSum) := by decide +kernel
theorem kv_754 : lw_tbl[754]? = some (Cond.code yX2_readSum cX2_readSum 4 (some .boolean)) := by decide +kernel
theorem kv_755 : lw_tbl[755]? = some (Cond.methodLink RX2 76 yX2_readTerm) := by decide +kernel
theorem kv_757 : lw_tbl[757]? = some (Cond.instanceMethod yX2_readTerm) := by decide +kernel
theorem kv_758 : lw_tbl[758]? = some (Cond.code yX2_readTerm cX2_readTerm 4 (some .boolean)) := by decide +kernel
theorem kv_759 : lw_tbl[759]? = some (Cond.methodLink RX2 79 yX2_readAtom) := by decide +kernel
theorem kv_761 : lw_tbl[761]? = some (Cond.instanceMethod yX2_readAtom) := by decide +kernel
theorem kv_762 : lw_tbl[762]? = some (Cond.code yX2_readAtom cX2_readAtom 4 (some .boolean)) := by decide +kernel
theorem kv_763 : lw_tbl[763]? = some (Cond.methodLink RX2 82 yX8_digitAt) := by decide +kernel
theorem kv_764 : lw_tbl[764]? = some (Cond.methodLink RX2 85 yX2_readNumber) := by decide +kernel
theorem kv_766 : lw_tbl[766]? = some (Cond.instanceMethod yX2_readNumber) := by decide +kernel
theorem kv_767 : lw_tbl[767]? = some (Cond.code yX2_readNumber cX2_readNumber 3 (some .boolean)) := by decide +kernel
theorem kv_768 : lw_tbl[768]? = some (Cond.methodLink RX2 66 yX2_put) := by decide +kernel
theorem kv_770 : lw_tbl[770]? = some (Cond.instanceMethod yX2_put) := by decide +kernel
theorem kv_771 : lw_tbl[771]? = some (Cond.code yX2_put cX2_put 2 none) := by decide +kernel
theorem kv_772 : lw_tbl[772]? = some (Cond.methodLink RX2 73 yX2_goOn) := by decide +kernel
theorem kv_774 : lw_tbl[774]? = some (Cond.instanceMethod yX2_goOn) := by decide +kernel
theorem kv_775 : lw_tbl[775]? = some (Cond.code yX2_goOn cX2_goOn 1 none) := by decide +kernel
theorem kv_777 : lw_tbl[777]? = some (Cond.methodLink RX2 90 yJ0_indexOf_0f7a4) := by decide +kernel
theorem kv_778 : lw_tbl[778]? = some (Cond.methodLink RX2 54 yX2_readComparison) := by decide +kernel
theorem kv_780 : lw_tbl[780]? = some (Cond.instanceMethod yX2_readComparison) := by decide +kernel
theorem kv_781 : lw_tbl[781]? = some (Cond.code yX2_readComparison cX2_readComparison 3 (some .boolean)) := by decide +kernel
theorem kv_782 : lw_tbl[782]? = some (Cond.methodLink RX2 51 yX2_comparisonOf) := by decide +kernel
theorem kv_783 : lw_tbl[783]? = some (Cond.static yX2_comparisonOf) := by decide +kernel
theorem kv_784 : lw_tbl[784]? = some (Cond.code yX2_comparisonOf cX2_comparisonOf 1 (some .int)) := by decide +kernel
theorem kv_785 : lw_tbl[785]? = some (Cond.methodLink RX2 57 yX2_readMoreUnits) := by decide +kernel
theorem kv_787 : lw_tbl[787]? = some (Cond.instanceMethod yX2_readMoreUnits) := by decide +kernel
theorem kv_788 : lw_tbl[788]? = some (Cond.code yX2_readMoreUnits cX2_readMoreUnits 3 (some .boolean)) := by decide +kernel
theorem kv_789 : lw_tbl[789]? = some (Cond.methodLink RX2 60 yX2_readMoreTruths) := by decide +kernel
theorem kv_791 : lw_tbl[791]? = some (Cond.instanceMethod yX2_readMoreTruths) := by decide +kernel
theorem kv_792 : lw_tbl[792]? = some (Cond.code yX2_readMoreTruths cX2_readMoreTruths 3 (some .boolean)) := by decide +kernel
theorem kv_793 : lw_tbl[793]? = some (Cond.methodLink RX2 63 yX2_readAnswer) := by decide +kernel
theorem kv_795 : lw_tbl[795]? = some (Cond.instanceMethod yX2_readAnswer) := by decide +kernel
theorem kv_796 : lw_tbl[796]? = some (Cond.code yX2_readAnswer cX2_readAnswer 1 (some .boolean)) := by decide +kernel
theorem kv_799 : lw_tbl[799]? = some (Cond.instanceMethod yX11_text) := by decide +kernel
theorem kv_800 : lw_tbl[800]? = some (Cond.selects RX11 yX11_text yX11_text) := by decide +kernel
theorem kv_801 : lw_tbl[801]? = some (Cond.code yX11_text cX11_text 2 (some .int)) := by decide +kernel
theorem kv_802 : lw_tbl[802]? = some (Cond.methodLink RX11 126 yX11_beginWar) := by decide +kernel
theorem kv_804 : lw_tbl[804]? = some (Cond.instanceMethod yX11_beginWar) := by decide +kernel
theorem kv_805 : lw_tbl[805]? = some (Cond.code yX11_beginWar cX11_beginWar 1 (some .int)) := by decide +kernel
theorem kv_806 : lw_tbl[806]? = some (Cond.methodLink RX11 136 yX9_take) := by decide +kernel
theorem kv_807 : lw_tbl[807]? = some (Cond.instanceMethod yX9_take) := by decide +kernel
theorem kv_808 : lw_tbl[808]? = some (Cond.selects RX9 yX9_take yX9_take) := by decide +kernel
theorem kv_809 : lw_tbl[809]? = some (Cond.code yX9_take cX9_take 2 none) := by decide +kernel
theorem kv_810 : lw_tbl[810]? = some (Cond.methodLink RX9 57 arraycopyName) := by decide +kernel
theorem kv_811 : lw_tbl[811]? = some (Cond.methodLink RX11 140 yX0_layOut) := by decide +kernel
theorem kv_812 : lw_tbl[812]? = some (Cond.instanceMethod yX0_layOut) := by decide +kernel
theorem kv_813 : lw_tbl[813]? = some (Cond.selects RX0 yX0_layOut yX0_layOut) := by decide +kernel
theorem kv_814 : lw_tbl[814]? = some (Cond.code yX0_layOut cX0_layOut 5 none) := by decide +kernel
theorem kv_815 : lw_tbl[815]? = some (Cond.methodLink RX11 143 yX7_begin) := by decide +kernel
theorem kv_816 : lw_tbl[816]? = some (Cond.instanceMethod yX7_begin) := by decide +kernel
theorem kv_817 : lw_tbl[817]? = some (Cond.selects RX7 yX7_begin yX7_begin) := by decide +kernel
theorem kv_818 : lw_tbl[818]? = some (Cond.code yX7_begin cX7_begin 2 none) := by decide +kernel
theorem kv_819 : lw_tbl[819]? = some (Cond.methodLink RX7 44 yX7_restAt) := by decide +kernel
theorem kv_821 : lw_tbl[821]? = some (Cond.instanceMethod yX7_restAt) := by decide +kernel
theorem kv_822 : lw_tbl[822]? = some (Cond.code yX7_restAt cX7_restAt 2 (some .int)) := by decide +kernel
theorem kv_823 : lw_tbl[823]? = some (Cond.methodLink RX7 48 yX7_lookAtAll) := by decide +kernel
theorem kv_824 : lw_tbl[824]? = some (Cond.instanceMethod yX7_lookAtAll) := by decide +kernel
theorem kv_825 : lw_tbl[825]? = some (Cond.selects RX7 yX7_lookAtAll yX7_lookAtAll) := by decide +kernel
theorem kv_826 : lw_tbl[826]? = some (Cond.code yX7_lookAtAll cX7_lookAtAll 2 none) := by decide +kernel
theorem kv_827 : lw_tbl[827]? = some (Cond.methodLink RX7 53 yX7_lookAt) := by decide +kernel
theorem kv_829 : lw_tbl[829]? = some (Cond.instanceMethod yX7_lookAt) := by decide +kernel
theorem kv_830 : lw_tbl[830]? = some (Cond.code yX7_lookAt cX7_lookAt 3 none) := by decide +kernel
theorem kv_831 : lw_tbl[831]? = some (Cond.methodLink RX7 62 yX7_isHomeBy) := by decide +kernel
theorem kv_832 : lw_tbl[832]? = some (Cond.instanceMethod yX7_isHomeBy) := by decide +kernel
theorem kv_833 : lw_tbl[833]? = some (Cond.selects RX7 yX7_isHomeBy yX7_isHomeBy) := by decide +kernel
theorem kv_834 : lw_tbl[834]? = some (Cond.code yX7_isHomeBy cX7_isHomeBy 3 (some .boolean)) := by decide +kernel
theorem kv_835 : lw_tbl[835]? = some (Cond.methodLink RX7 81 yX3_worth) := by decide +kernel
theorem kv_836 : lw_tbl[836]? = some (Cond.instanceMethod yX3_worth) := by decide +kernel
theorem kv_837 : lw_tbl[837]? = some (Cond.selects RX3 yX3_worth yX3_worth) := by decide +kernel
theorem kv_838 : lw_tbl[838]? = some (Cond.code yX3_worth cX3_worth 7 (some .int)) := by decide +kernel
theorem kv_839 : lw_tbl[839]? = some (Cond.methodLink RX3 51 yX3_has) := by decide +kernel
theorem kv_840 : lw_tbl[840]? = some (Cond.instanceMethod yX3_has) := by decide +kernel
theorem kv_841 : lw_tbl[841]? = some (Cond.selects RX3 yX3_has yX3_has) := by decide +kernel
theorem kv_842 : lw_tbl[842]? = some (Cond.code yX3_has cX3_has 2 (some .boolean)) := by decide +kernel
theorem kv_843 : lw_tbl[843]? = some (Cond.methodLink RX3 55 yX3_joined) := by decide +kernel
theorem kv_844 : lw_tbl[844]? = some (Cond.static yX3_joined) := by decide +kernel
theorem kv_845 : lw_tbl[845]? = some (Cond.code yX3_joined cX3_joined 5 (some .int)) := by decide +kernel
theorem kv_846 : lw_tbl[846]? = some (Cond.constantLong RX3 59 (1000000 : Int64)) := by decide +kernel
theorem kv_847 : lw_tbl[847]? = some (Cond.constant RX3 61 (1000000 : Int32)) := by decide +kernel
theorem kv_848 : lw_tbl[848]? = some (Cond.constantLong RX3 62 (-1000000 : Int64)) := by decide +kernel
theorem kv_849 : lw_tbl[849]? = some (Cond.constant RX3 64 (-1000000 : Int32)) := by decide +kernel
theorem kv_850 : lw_tbl[850]? = some (Cond.methodLink RX11 146 yX5_clear) := by decide +kernel
theorem kv_851 : lw_tbl[851]? = some (Cond.instanceMethod yX5_clear) := by decide +kernel
theorem kv_852 : lw_tbl[852]? = some (Cond.selects RX5 yX5_clear yX5_clear) := by decide +kernel
theorem kv_853 : lw_tbl[853]? = some (Cond.code yX5_clear cX5_clear 1 none) := by decide +kernel
theorem kv_854 : lw_tbl[854]? = some (Cond.methodLink RX11 149 yX6_clear) := by decide +kernel
theorem kv_855 : lw_tbl[855]? = some (Cond.instanceMethod yX6_clear) := by decide +kernel
theorem kv_856 : lw_tbl[856]? = some (Cond.selects RX6 yX6_clear yX6_clear) := by decide +kernel
theorem kv_857 : lw_tbl[857]? = some (Cond.code yX6_clear cX6_clear 1 none) := by decide +kernel
theorem kv_858 : lw_tbl[858]? = some (Cond.methodLink RX11 132 yX3_add) := by decide +kernel
theorem kv_859 : lw_tbl[859]? = some (Cond.instanceMethod yX3_add) := by decide +kernel
theorem kv_860 : lw_tbl[860]? = some (Cond.selects RX3 yX3_add yX3_add) := by decide +kernel
theorem kv_861 : lw_tbl[861]? = some (Cond.code yX3_add cX3_add 2 none) := by decide +kernel
theorem kv_862 : lw_tbl[862]? = some (Cond.methodLink RX3 45 arraycopyName) := by decide +kernel
theorem kv_864 : lw_tbl[864]? = some (Cond.instanceMethod yX11_orchard) := by decide +kernel
theorem kv_865 : lw_tbl[865]? = some (Cond.selects RX11 yX11_orchard yX11_orchard) := by decide +kernel
theorem kv_866 : lw_tbl[866]? = some (Cond.code yX11_orchard cX11_orchard 3 (some .int)) := by decide +kernel
theorem kv_868 : lw_tbl[868]? = some (Cond.instanceMethod yX11_law) := by decide +kernel
theorem kv_869 : lw_tbl[869]? = some (Cond.selects RX11 yX11_law yX11_law) := by decide +kernel
theorem kv_870 : lw_tbl[870]? = some (Cond.code yX11_law cX11_law 2 (some .boolean)) := by decide +kernel
theorem kv_871 : lw_tbl[871]? = some (Cond.methodLink RX11 203 yX3_has) := by decide +kernel
theorem kv_872 : lw_tbl[872]? = some (Cond.methodLink RX11 209 yX7_lookAtAll) := by decide +kernel
theorem kv_874 : lw_tbl[874]? = some (Cond.instanceMethod yX11_won) := by decide +kernel
theorem kv_875 : lw_tbl[875]? = some (Cond.selects RX11 yX11_won yX11_won) := by decide +kernel
theorem kv_876 : lw_tbl[876]? = some (Cond.code yX11_won cX11_won 1 (some .int)) := by decide +kernel
theorem kv_877 : lw_tbl[877]? = some (Cond.methodLink RX11 212 yX7_winner) := by decide +kernel
theorem kv_878 : lw_tbl[878]? = some (Cond.instanceMethod yX7_winner) := by decide +kernel
theorem kv_879 : lw_tbl[879]? = some (Cond.selects RX7 yX7_winner yX7_winner) := by decide +kernel
theorem kv_880 : lw_tbl[880]? = some (Cond.code yX7_winner cX7_winner 3 (some .int)) := by decide +kernel
theorem kv_882 : lw_tbl[882]? = some (Cond.instanceMethod yX11_count) := by decide +kernel
theorem kv_883 : lw_tbl[883]? = some (Cond.selects RX11 yX11_count yX11_count) := by decide +kernel
theorem kv_884 : lw_tbl[884]? = some (Cond.code yX11_count cX11_count 2 (some .int)) := by decide +kernel
theorem kv_885 : lw_tbl[885]? = some (Cond.methodLink RX11 227 yX5_length) := by decide +kernel
theorem kv_886 : lw_tbl[886]? = some (Cond.instanceMethod yX5_length) := by decide +kernel
theorem kv_887 : lw_tbl[887]? = some (Cond.selects RX5 yX5_length yX5_length) := by decide +kernel
theorem kv_888 : lw_tbl[888]? = some (Cond.code yX5_length cX5_length 1 (some .int)) := by decide +kernel
theorem kv_889 : lw_tbl[889]? = some (Cond.methodLink RX5 27 yJ9_min_7cf53) := by decide +kernel
theorem kv_890 : lw_tbl[890]? = some (Cond.constant RX11 232 (-1000000 : Int32)) := by decide +kernel
theorem kv_892 : lw_tbl[892]? = some (Cond.instanceMethod yX11_go) := by decide +kernel
theorem kv_893 : lw_tbl[893]? = some (Cond.selects RX11 yX11_go yX11_go) := by decide +kernel
theorem kv_894 : lw_tbl[894]? = some (Cond.code yX11_go cX11_go 2 (some .int)) := by decide +kernel
theorem kv_895 : lw_tbl[895]? = some (Cond.methodLink RX11 233 yX7_mayAct) := by decide +kernel
theorem kv_896 : lw_tbl[896]? = some (Cond.instanceMethod yX7_mayAct) := by decide +kernel
theorem kv_897 : lw_tbl[897]? = some (Cond.selects RX7 yX7_mayAct yX7_mayAct) := by decide +kernel
theorem kv_898 : lw_tbl[898]? = some (Cond.code yX7_mayAct cX7_mayAct 2 (some .boolean)) := by decide +kernel
theorem kv_899 : lw_tbl[899]? = some (Cond.methodLink RX7 91 yX9_hasMan) := by decide +kernel
theorem kv_900 : lw_tbl[900]? = some (Cond.instanceMethod yX9_hasMan) := by decide +kernel
theorem kv_901 : lw_tbl[901]? = some (Cond.selects RX9 yX9_hasMan yX9_hasMan) := by decide +kernel
theorem kv_902 : lw_tbl[902]? = some (Cond.code yX9_hasMan cX9_hasMan 2 (some .boolean)) := by decide +kernel
theorem kv_903 : lw_tbl[903]? = some (Cond.methodLink RX7 95 yX7_isHome) := by decide +kernel
theorem kv_904 : lw_tbl[904]? = some (Cond.instanceMethod yX7_isHome) := by decide +kernel
theorem kv_905 : lw_tbl[905]? = some (Cond.selects RX7 yX7_isHome yX7_isHome) := by decide +kernel
theorem kv_906 : lw_tbl[906]? = some (Cond.code yX7_isHome cX7_isHome 2 (some .boolean)) := by decide +kernel
theorem kv_907 : lw_tbl[907]? = some (Cond.methodLink RX7 98 yX7_didDeed) := by decide +kernel
theorem kv_908 : lw_tbl[908]? = some (Cond.instanceMethod yX7_didDeed) := by decide +kernel
theorem kv_909 : lw_tbl[909]? = some (Cond.selects RX7 yX7_didDeed yX7_didDeed) := by decide +kernel
theorem kv_910 : lw_tbl[910]? = some (Cond.code yX7_didDeed cX7_didDeed 2 (some .boolean)) := by decide +kernel
theorem kv_911 : lw_tbl[911]? = some (Cond.methodLink RX7 101 yX7_isOver) := by decide +kernel
theorem kv_912 : lw_tbl[912]? = some (Cond.instanceMethod yX7_isOver) := by decide +kernel
theorem kv_913 : lw_tbl[913]? = some (Cond.selects RX7 yX7_isOver yX7_isOver) := by decide +kernel
theorem kv_914 : lw_tbl[914]? = some (Cond.code yX7_isOver cX7_isOver 1 (some .boolean)) := by decide +kernel
theorem kv_915 : lw_tbl[915]? = some (Cond.methodLink RX7 84 yX7_winner) := by decide +kernel
theorem kv_916 : lw_tbl[916]? = some (Cond.methodLink RX11 236 yX7_canGo) := by decide +kernel
theorem kv_917 : lw_tbl[917]? = some (Cond.instanceMethod yX7_canGo) := by decide +kernel
theorem kv_918 : lw_tbl[918]? = some (Cond.selects RX7 yX7_canGo yX7_canGo) := by decide +kernel
theorem kv_919 : lw_tbl[919]? = some (Cond.code yX7_canGo cX7_canGo 2 (some .boolean)) := by decide +kernel
theorem kv_920 : lw_tbl[920]? = some (Cond.methodLink RX11 239 yX6_keepAct) := by decide +kernel
theorem kv_921 : lw_tbl[921]? = some (Cond.instanceMethod yX6_keepAct) := by decide +kernel
theorem kv_922 : lw_tbl[922]? = some (Cond.selects RX6 yX6_keepAct yX6_keepAct) := by decide +kernel
theorem kv_923 : lw_tbl[923]? = some (Cond.code yX6_keepAct cX6_keepAct 3 none) := by decide +kernel
theorem kv_924 : lw_tbl[924]? = some (Cond.methodLink RX6 37 yJ9_floorMod_7cf53) := by decide +kernel
theorem kv_925 : lw_tbl[925]? = some (Cond.static yJ9_floorMod_7cf53) := by decide +kernel
theorem kv_926 : lw_tbl[926]? = some (Cond.code yJ9_floorMod_7cf53 cJ9_floorMod_7cf53 3 (some .int)) := by decide +kernel
theorem kv_927 : lw_tbl[927]? = some (Cond.methodLink RX6 43 yX6_keep) := by decide +kernel
theorem kv_929 : lw_tbl[929]? = some (Cond.instanceMethod yX6_keep) := by decide +kernel
theorem kv_930 : lw_tbl[930]? = some (Cond.code yX6_keep cX6_keep 3 none) := by decide +kernel
theorem kv_931 : lw_tbl[931]? = some (Cond.methodLink RX6 66 yX7_packedSteps) := by decide +kernel
theorem kv_932 : lw_tbl[932]? = some (Cond.instanceMethod yX7_packedSteps) := by decide +kernel
theorem kv_933 : lw_tbl[933]? = some (Cond.selects RX7 yX7_packedSteps yX7_packedSteps) := by decide +kernel
theorem kv_934 : lw_tbl[934]? = some (Cond.code yX7_packedSteps cX7_packedSteps 4 (some .long)) := by decide +kernel
theorem kv_935 : lw_tbl[935]? = some (Cond.methodLink RX6 70 yX7_packedRests) := by decide +kernel
theorem kv_936 : lw_tbl[936]? = some (Cond.instanceMethod yX7_packedRests) := by decide +kernel
theorem kv_937 : lw_tbl[937]? = some (Cond.selects RX7 yX7_packedRests yX7_packedRests) := by decide +kernel
theorem kv_938 : lw_tbl[938]? = some (Cond.code yX7_packedRests cX7_packedRests 4 (some .long)) := by decide +kernel
theorem kv_939 : lw_tbl[939]? = some (Cond.methodLink RX6 51 yJ9_min_7cf53) := by decide +kernel
theorem kv_940 : lw_tbl[940]? = some (Cond.methodLink RX11 243 yX11_doGo) := by decide +kernel
theorem kv_942 : lw_tbl[942]? = some (Cond.instanceMethod yX11_doGo) := by decide +kernel
theorem kv_943 : lw_tbl[943]? = some (Cond.code yX11_doGo cX11_doGo 2 none) := by decide +kernel
theorem kv_944 : lw_tbl[944]? = some (Cond.methodLink RX11 260 yX7_move) := by decide +kernel
theorem kv_945 : lw_tbl[945]? = some (Cond.instanceMethod yX7_move) := by decide +kernel
theorem kv_946 : lw_tbl[946]? = some (Cond.selects RX7 yX7_move yX7_move) := by decide +kernel
theorem kv_947 : lw_tbl[947]? = some (Cond.code yX7_move cX7_move 3 none) := by decide +kernel
theorem kv_948 : lw_tbl[948]? = some (Cond.methodLink RX7 117 yJ9_max_7cf53) := by decide +kernel
theorem kv_949 : lw_tbl[949]? = some (Cond.methodLink RX11 263 yX7_markDeed) := by decide +kernel
theorem kv_950 : lw_tbl[950]? = some (Cond.instanceMethod yX7_markDeed) := by decide +kernel
theorem kv_951 : lw_tbl[951]? = some (Cond.selects RX7 yX7_markDeed yX7_markDeed) := by decide +kernel
theorem kv_952 : lw_tbl[952]? = some (Cond.code yX7_markDeed cX7_markDeed 2 none) := by decide +kernel
theorem kv_953 : lw_tbl[953]? = some (Cond.methodLink RX11 266 yX5_add) := by decide +kernel
theorem kv_954 : lw_tbl[954]? = some (Cond.instanceMethod yX5_add) := by decide +kernel
theorem kv_955 : lw_tbl[955]? = some (Cond.selects RX5 yX5_add yX5_add) := by decide +kernel
theorem kv_956 : lw_tbl[956]? = some (Cond.code yX5_add cX5_add 4 none) := by decide +kernel
theorem kv_957 : lw_tbl[957]? = some (Cond.methodLink RX5 33 yJ9_floorMod_7cf53) := by decide +kernel
theorem kv_959 : lw_tbl[959]? = some (Cond.instanceMethod yX11_stay) := by decide +kernel
theorem kv_960 : lw_tbl[960]? = some (Cond.selects RX11 yX11_stay yX11_stay) := by decide +kernel
theorem kv_961 : lw_tbl[961]? = some (Cond.code yX11_stay cX11_stay 2 (some .int)) := by decide +kernel
theorem kv_962 : lw_tbl[962]? = some (Cond.methodLink RX11 246 yX7_hasRest) := by decide +kernel
theorem kv_963 : lw_tbl[963]? = some (Cond.instanceMethod yX7_hasRest) := by decide +kernel
theorem kv_964 : lw_tbl[964]? = some (Cond.selects RX7 yX7_hasRest yX7_hasRest) := by decide +kernel
theorem kv_965 : lw_tbl[965]? = some (Cond.code yX7_hasRest cX7_hasRest 2 (some .boolean)) := by decide +kernel
theorem kv_966 : lw_tbl[966]? = some (Cond.methodLink RX11 249 yX11_doStay) := by decide +kernel
theorem kv_968 : lw_tbl[968]? = some (Cond.instanceMethod yX11_doStay) := by decide +kernel
theorem kv_969 : lw_tbl[969]? = some (Cond.code yX11_doStay cX11_doStay 2 none) := by decide +kernel
theorem kv_970 : lw_tbl[970]? = some (Cond.methodLink RX11 269 yX7_spendRest) := by decide +kernel
theorem kv_971 : lw_tbl[971]? = some (Cond.instanceMethod yX7_spendRest) := by decide +kernel
theorem kv_972 : lw_tbl[972]? = some (Cond.selects RX7 yX7_spendRest yX7_spendRest) := by decide +kernel
theorem kv_973 : lw_tbl[973]? = some (Cond.code yX7_spendRest cX7_spendRest 2 none) := by decide +kernel
theorem kv_975 : lw_tbl[975]? = some (Cond.instanceMethod yX11_press) := by decide +kernel
theorem kv_976 : lw_tbl[976]? = some (Cond.selects RX11 yX11_press yX11_press) := by decide +kernel
theorem kv_977 : lw_tbl[977]? = some (Cond.code yX11_press cX11_press 3 (some .int)) := by decide +kernel
theorem kv_978 : lw_tbl[978]? = some (Cond.methodLink RX11 154 yX9_hasMan) := by decide +kernel
theorem kv_979 : lw_tbl[979]? = some (Cond.methodLink RX11 252 yX7_canPress) := by decide +kernel
theorem kv_980 : lw_tbl[980]? = some (Cond.instanceMethod yX7_canPress) := by decide +kernel
theorem kv_981 : lw_tbl[981]? = some (Cond.selects RX7 yX7_canPress yX7_canPress) := by decide +kernel
theorem kv_982 : lw_tbl[982]? = some (Cond.code yX7_canPress cX7_canPress 4 (some .boolean)) := by decide +kernel
theorem kv_983 : lw_tbl[983]? = some (Cond.methodLink RX7 108 yX7_hasRest) := by decide +kernel
theorem kv_984 : lw_tbl[984]? = some (Cond.methodLink RX7 111 yX7_canGo) := by decide +kernel
theorem kv_985 : lw_tbl[985]? = some (Cond.methodLink RX11 256 yX11_doPress) := by decide +kernel
theorem kv_987 : lw_tbl[987]? = some (Cond.instanceMethod yX11_doPress) := by decide +kernel
theorem kv_988 : lw_tbl[988]? = some (Cond.code yX11_doPress cX11_doPress 3 none) := by decide +kernel
theorem kv_990 : lw_tbl[990]? = some (Cond.instanceMethod yX11_evening) := by decide +kernel
theorem kv_991 : lw_tbl[991]? = some (Cond.selects RX11 yX11_evening yX11_evening) := by decide +kernel
theorem kv_992 : lw_tbl[992]? = some (Cond.code yX11_evening cX11_evening 2 (some .int)) := by decide +kernel
theorem kv_993 : lw_tbl[993]? = some (Cond.methodLink RX11 272 yX7_isOver) := by decide +kernel
theorem kv_994 : lw_tbl[994]? = some (Cond.methodLink RX11 189 yX7_isHome) := by decide +kernel
theorem kv_995 : lw_tbl[995]? = some (Cond.methodLink RX11 186 yX7_didDeed) := by decide +kernel
theorem kv_996 : lw_tbl[996]? = some (Cond.methodLink RX11 276 yX11_endDay) := by decide +kernel
theorem kv_998 : lw_tbl[998]? = some (Cond.instanceMethod yX11_endDay) := by decide +kernel
theorem kv_999 : lw_tbl[999]? = some (Cond.code yX11_endDay cX11_endDay 1 none) := by decide +kernel
theorem kv_1000 : lw_tbl[1000]? = some (Cond.methodLink RX11 279 yX7_beginNextDay) := by decide +kernel
theorem kv_1001 : lw_tbl[1001]? = some (Cond.instanceMethod yX7_beginNextDay) := by decide +kernel
theorem kv_1002 : lw_tbl[1002]? = some (Cond.selects RX7 yX7_beginNextDay yX7_beginNextDay) := by decide +kernel
theorem kv_1003 : lw_tbl[1003]? = some (Cond.code yX7_beginNextDay cX7_beginNextDay 1 none) := by decide +kernel
theorem kv_1005 : lw_tbl[1005]? = some (Cond.instanceMethod yX11_march) := by decide +kernel
theorem kv_1006 : lw_tbl[1006]? = some (Cond.selects RX11 yX11_march yX11_march) := by decide +kernel
theorem kv_1007 : lw_tbl[1007]? = some (Cond.code yX11_march cX11_march 6 (some .int)) := by decide +kernel
theorem kv_1008 : lw_tbl[1008]? = some (Cond.methodLink RX11 282 yX11_marchOneMan) := by decide +kernel
theorem kv_1010 : lw_tbl[1010]? = some (Cond.instanceMethod yX11_marchOneMan) := by decide +kernel
theorem kv_1011 : lw_tbl[1011]? = some (Cond.code yX11_marchOneMan cX11_marchOneMan 4 none) := by decide +kernel
theorem kv_1012 : lw_tbl[1012]? = some (Cond.methodLink RX11 285 yX11_draw) := by decide +kernel
theorem kv_1014 : lw_tbl[1014]? = some (Cond.instanceMethod yX11_draw) := by decide +kernel
theorem kv_1015 : lw_tbl[1015]? = some (Cond.code yX11_draw cX11_draw 2 (some .int)) := by decide +kernel
theorem kv_1016 : lw_tbl[1016]? = some (Cond.constantLong RX11 291 (6364136223846793005 : Int64)) := by decide +kernel
theorem kv_1017 : lw_tbl[1017]? = some (Cond.constantLong RX11 293 (1442695040888963407 : Int64)) := by decide +kernel
theorem kv_1018 : lw_tbl[1018]? = some (Cond.methodLink RX11 288 yX7_lowestToPress) := by decide +kernel
theorem kv_1019 : lw_tbl[1019]? = some (Cond.instanceMethod yX7_lowestToPress) := by decide +kernel
theorem kv_1020 : lw_tbl[1020]? = some (Cond.selects RX7 yX7_lowestToPress yX7_lowestToPress) := by decide +kernel
theorem kv_1021 : lw_tbl[1021]? = some (Cond.code yX7_lowestToPress cX7_lowestToPress 3 (some .int)) := by decide +kernel
theorem kv_1022 : lw_tbl[1022]? = some (Cond.methodLink RX7 114 yX7_canPress) := by decide +kernel
theorem kv_1024 : lw_tbl[1024]? = some (Cond.instanceMethod yX11_undo) := by decide +kernel
theorem kv_1025 : lw_tbl[1025]? = some (Cond.selects RX11 yX11_undo yX11_undo) := by decide +kernel
theorem kv_1026 : lw_tbl[1026]? = some (Cond.code yX11_undo cX11_undo 1 (some .int)) := by decide +kernel
theorem kv_1027 : lw_tbl[1027]? = some (Cond.methodLink RX11 295 yX6_undoAct) := by decide +kernel
theorem kv_1028 : lw_tbl[1028]? = some (Cond.instanceMethod yX6_undoAct) := by decide +kernel
theorem kv_1029 : lw_tbl[1029]? = some (Cond.selects RX6 yX6_undoAct yX6_undoAct) := by decide +kernel
theorem kv_1030 : lw_tbl[1030]? = some (Cond.code yX6_undoAct cX6_undoAct 3 none) := by decide +kernel
theorem kv_1031 : lw_tbl[1031]? = some (Cond.methodLink RX6 54 yX7_unpack) := by decide +kernel
theorem kv_1032 : lw_tbl[1032]? = some (Cond.instanceMethod yX7_unpack) := by decide +kernel
theorem kv_1033 : lw_tbl[1033]? = some (Cond.selects RX7 yX7_unpack yX7_unpack) := by decide +kernel
theorem kv_1034 : lw_tbl[1034]? = some (Cond.code yX7_unpack cX7_unpack 8 none) := by decide +kernel
theorem kv_1036 : lw_tbl[1036]? = some (Cond.instanceMethod yX11_log) := by decide +kernel
theorem kv_1037 : lw_tbl[1037]? = some (Cond.selects RX11 yX11_log yX11_log) := by decide +kernel
theorem kv_1038 : lw_tbl[1038]? = some (Cond.code yX11_log cX11_log 4 (some .int)) := by decide +kernel
theorem kv_1039 : lw_tbl[1039]? = some (Cond.methodLink RX11 298 yX5_line) := by decide +kernel
theorem kv_1040 : lw_tbl[1040]? = some (Cond.instanceMethod yX5_line) := by decide +kernel
theorem kv_1041 : lw_tbl[1041]? = some (Cond.selects RX5 yX5_line yX5_line) := by decide +kernel
theorem kv_1042 : lw_tbl[1042]? = some (Cond.code yX5_line cX5_line 2 (some .int)) := by decide +kernel
theorem kv_1043 : lw_tbl[1043]? = some (Cond.methodLink RX11 301 yX5_whatOf) := by decide +kernel
theorem kv_1044 : lw_tbl[1044]? = some (Cond.static yX5_whatOf) := by decide +kernel
theorem kv_1045 : lw_tbl[1045]? = some (Cond.code yX5_whatOf cX5_whatOf 1 (some .int)) := by decide +kernel
theorem kv_1046 : lw_tbl[1046]? = some (Cond.methodLink RX11 304 yX5_whoOf) := by decide +kernel
theorem kv_1047 : lw_tbl[1047]? = some (Cond.static yX5_whoOf) := by decide +kernel
theorem kv_1048 : lw_tbl[1048]? = some (Cond.code yX5_whoOf cX5_whoOf 1 (some .int)) := by decide +kernel
theorem kv_1049 : lw_tbl[1049]? = some (Cond.methodLink RX11 307 yX5_whomOf) := by decide +kernel
theorem kv_1050 : lw_tbl[1050]? = some (Cond.static yX5_whomOf) := by decide +kernel
theorem kv_1051 : lw_tbl[1051]? = some (Cond.code yX5_whomOf cX5_whomOf 1 (some .int)) := by decide +kernel
theorem kv_1053 : lw_tbl[1053]? = some (Cond.instanceMethod yX11_image) := by decide +kernel
theorem kv_1054 : lw_tbl[1054]? = some (Cond.selects RX11 yX11_image yX11_image) := by decide +kernel
theorem kv_1055 : lw_tbl[1055]? = some (Cond.code yX11_image cX11_image 1 (some .int)) := by decide +kernel
theorem kv_1056 : lw_tbl[1056]? = some (Cond.methodLink RX11 310 yX6_keepImage) := by decide +kernel
theorem kv_1057 : lw_tbl[1057]? = some (Cond.instanceMethod yX6_keepImage) := by decide +kernel
theorem kv_1058 : lw_tbl[1058]? = some (Cond.selects RX6 yX6_keepImage yX6_keepImage) := by decide +kernel
theorem kv_1059 : lw_tbl[1059]? = some (Cond.code yX6_keepImage cX6_keepImage 3 none) := by decide +kernel
theorem kv_1060 : lw_tbl[1060]? = some (Cond.methodLink RX6 60 yX5_keepImage) := by decide +kernel
theorem kv_1061 : lw_tbl[1061]? = some (Cond.instanceMethod yX5_keepImage) := by decide +kernel
theorem kv_1062 : lw_tbl[1062]? = some (Cond.selects RX5 yX5_keepImage yX5_keepImage) := by decide +kernel
theorem kv_1063 : lw_tbl[1063]? = some (Cond.code yX5_keepImage cX5_keepImage 2 none) := by decide +kernel
theorem kv_1064 : lw_tbl[1064]? = some (Cond.methodLink RX5 36 yX5_length) := by decide +kernel
theorem kv_1065 : lw_tbl[1065]? = some (Cond.methodLink RX5 40 yX5_line) := by decide +kernel
theorem kv_1067 : lw_tbl[1067]? = some (Cond.instanceMethod yX11_back) := by decide +kernel
theorem kv_1068 : lw_tbl[1068]? = some (Cond.selects RX11 yX11_back yX11_back) := by decide +kernel
theorem kv_1069 : lw_tbl[1069]? = some (Cond.code yX11_back cX11_back 1 (some .int)) := by decide +kernel
theorem kv_1070 : lw_tbl[1070]? = some (Cond.methodLink RX11 317 yX6_bringImageBack) := by decide +kernel
theorem kv_1071 : lw_tbl[1071]? = some (Cond.instanceMethod yX6_bringImageBack) := by decide +kernel
theorem kv_1072 : lw_tbl[1072]? = some (Cond.selects RX6 yX6_bringImageBack yX6_bringImageBack) := by decide +kernel
theorem kv_1073 : lw_tbl[1073]? = some (Cond.code yX6_bringImageBack cX6_bringImageBack 3 none) := by decide +kernel
theorem kv_1074 : lw_tbl[1074]? = some (Cond.methodLink RX6 63 yX5_bringImageBack) := by decide +kernel
theorem kv_1075 : lw_tbl[1075]? = some (Cond.instanceMethod yX5_bringImageBack) := by decide +kernel
theorem kv_1076 : lw_tbl[1076]? = some (Cond.selects RX5 yX5_bringImageBack yX5_bringImageBack) := by decide +kernel
theorem kv_1077 : lw_tbl[1077]? = some (Cond.code yX5_bringImageBack cX5_bringImageBack 2 none) := by decide +kernel
theorem kv_1079 : lw_tbl[1079]? = some (Cond.instanceMethod yX11_duel) := by decide +kernel
theorem kv_1080 : lw_tbl[1080]? = some (Cond.selects RX11 yX11_duel yX11_duel) := by decide +kernel
theorem kv_1081 : lw_tbl[1081]? = some (Cond.code yX11_duel cX11_duel 6 (some .int)) := by decide +kernel
theorem kv_1082 : lw_tbl[1082]? = some (Cond.methodLink RX11 320 yX11_mayDuel) := by decide +kernel
theorem kv_1084 : lw_tbl[1084]? = some (Cond.instanceMethod yX11_mayDuel) := by decide +kernel
theorem kv_1085 : lw_tbl[1085]? = some (Cond.code yX11_mayDuel cX11_mayDuel 3 (some .boolean)) := by decide +kernel
theorem kv_1086 : lw_tbl[1086]? = some (Cond.methodLink RX11 323 yX11_makeDuelReady) := by decide +kernel
theorem kv_1088 : lw_tbl[1088]? = some (Cond.instanceMethod yX11_makeDuelReady) := by decide +kernel
theorem kv_1089 : lw_tbl[1089]? = some (Cond.code yX11_makeDuelReady cX11_makeDuelReady 5 none) := by decide +kernel
theorem kv_1090 : lw_tbl[1090]? = some (Cond.methodLink RX11 355 yX11_farthestPlace) := by decide +kernel
theorem kv_1092 : lw_tbl[1092]? = some (Cond.instanceMethod yX11_farthestPlace) := by decide +kernel
theorem kv_1093 : lw_tbl[1093]? = some (Cond.code yX11_farthestPlace cX11_farthestPlace 4 (some .int)) := by decide +kernel
theorem kv_1094 : lw_tbl[1094]? = some (Cond.methodLink RX11 326 yX11_placeOf) := by decide +kernel
theorem kv_1096 : lw_tbl[1096]? = some (Cond.instanceMethod yX11_placeOf) := by decide +kernel
theorem kv_1097 : lw_tbl[1097]? = some (Cond.code yX11_placeOf cX11_placeOf 2 (some .int)) := by decide +kernel
theorem kv_1098 : lw_tbl[1098]? = some (Cond.methodLink RX11 353 yX0_place) := by decide +kernel
theorem kv_1099 : lw_tbl[1099]? = some (Cond.instanceMethod yX0_place) := by decide +kernel
theorem kv_1100 : lw_tbl[1100]? = some (Cond.selects RX0 yX0_place yX0_place) := by decide +kernel
theorem kv_1101 : lw_tbl[1101]? = some (Cond.code yX0_place cX0_place 3 (some .int)) := by decide +kernel
theorem kv_1102 : lw_tbl[1102]? = some (Cond.methodLink RX11 362 yJ9_max_7cf53) := by decide +kernel
theorem kv_1103 : lw_tbl[1103]? = some (Cond.methodLink RX11 358 yX0_prepare) := by decide +kernel
theorem kv_1104 : lw_tbl[1104]? = some (Cond.instanceMethod yX0_prepare) := by decide +kernel
theorem kv_1105 : lw_tbl[1105]? = some (Cond.selects RX0 yX0_prepare yX0_prepare) := by decide +kernel
theorem kv_1106 : lw_tbl[1106]? = some (Cond.code yX0_prepare cX0_prepare 6 none) := by decide +kernel
theorem kv_1107 : lw_tbl[1107]? = some (Cond.methodLink RX0 54 yJ9_min_7cf53) := by decide +kernel
theorem kv_1108 : lw_tbl[1108]? = some (Cond.methodLink RX0 60 yX0_findPressed) := by decide +kernel
theorem kv_1110 : lw_tbl[1110]? = some (Cond.instanceMethod yX0_findPressed) := by decide +kernel
theorem kv_1111 : lw_tbl[1111]? = some (Cond.code yX0_findPressed cX0_findPressed 4 none) := by decide +kernel
theorem kv_1112 : lw_tbl[1112]? = some (Cond.methodLink RX0 67 yJ9_max_7cf53) := by decide +kernel
theorem kv_1113 : lw_tbl[1113]? = some (Cond.methodLink RX0 64 yX0_settleAll) := by decide +kernel
theorem kv_1115 : lw_tbl[1115]? = some (Cond.instanceMethod yX0_settleAll) := by decide +kernel
theorem kv_1116 : lw_tbl[1116]? = some (Cond.code yX0_settleAll cX0_settleAll 3 none) := by decide +kernel
theorem kv_1117 : lw_tbl[1117]? = some (Cond.methodLink RX0 70 yX0_best) := by decide +kernel
theorem kv_1119 : lw_tbl[1119]? = some (Cond.instanceMethod yX0_best) := by decide +kernel
theorem kv_1120 : lw_tbl[1120]? = some (Cond.code yX0_best cX0_best 10 (some .int)) := by decide +kernel
theorem kv_1121 : lw_tbl[1121]? = some (Cond.methodLink RX0 74 yX0_answered) := by decide +kernel
theorem kv_1122 : lw_tbl[1122]? = some (Cond.static yX0_answered) := by decide +kernel
theorem kv_1123 : lw_tbl[1123]? = some (Cond.code yX0_answered cX0_answered 2 (some .int)) := by decide +kernel
theorem kv_1124 : lw_tbl[1124]? = some (Cond.methodLink RX11 329 yX0_isWon) := by decide +kernel
theorem kv_1125 : lw_tbl[1125]? = some (Cond.instanceMethod yX0_isWon) := by decide +kernel
theorem kv_1126 : lw_tbl[1126]? = some (Cond.selects RX0 yX0_isWon yX0_isWon) := by decide +kernel
theorem kv_1127 : lw_tbl[1127]? = some (Cond.code yX0_isWon cX0_isWon 3 (some .boolean)) := by decide +kernel
theorem kv_1128 : lw_tbl[1128]? = some (Cond.methodLink RX0 78 yX0_settled) := by decide +kernel
theorem kv_1129 : lw_tbl[1129]? = some (Cond.instanceMethod yX0_settled) := by decide +kernel
theorem kv_1130 : lw_tbl[1130]? = some (Cond.selects RX0 yX0_settled yX0_settled) := by decide +kernel
theorem kv_1131 : lw_tbl[1131]? = some (Cond.code yX0_settled cX0_settled 4 (some .int)) := by decide +kernel
theorem kv_1132 : lw_tbl[1132]? = some (Cond.methodLink RX11 332 yX0_turns) := by decide +kernel
theorem kv_1133 : lw_tbl[1133]? = some (Cond.instanceMethod yX0_turns) := by decide +kernel
theorem kv_1134 : lw_tbl[1134]? = some (Cond.selects RX0 yX0_turns yX0_turns) := by decide +kernel
theorem kv_1135 : lw_tbl[1135]? = some (Cond.code yX0_turns cX0_turns 3 (some .int)) := by decide +kernel
theorem kv_1136 : lw_tbl[1136]? = some (Cond.methodLink RX0 81 yJ9_abs_0f7a4) := by decide +kernel
theorem kv_1137 : lw_tbl[1137]? = some (Cond.static yJ9_abs_0f7a4) := by decide +kernel
theorem kv_1138 : lw_tbl[1138]? = some (Cond.code yJ9_abs_0f7a4 cJ9_abs_0f7a4 1 (some .int)) := by decide +kernel
theorem kv_1139 : lw_tbl[1139]? = some (Cond.methodLink RX11 336 yX0_deed) := by decide +kernel
theorem kv_1140 : lw_tbl[1140]? = some (Cond.instanceMethod yX0_deed) := by decide +kernel
theorem kv_1141 : lw_tbl[1141]? = some (Cond.selects RX0 yX0_deed yX0_deed) := by decide +kernel
theorem kv_1142 : lw_tbl[1142]? = some (Cond.code yX0_deed cX0_deed 3 (some .int)) := by decide +kernel
theorem kv_1144 : lw_tbl[1144]? = some (Cond.instanceMethod yX11_treaty) := by decide +kernel
theorem kv_1145 : lw_tbl[1145]? = some (Cond.selects RX11 yX11_treaty yX11_treaty) := by decide +kernel
theorem kv_1146 : lw_tbl[1146]? = some (Cond.code yX11_treaty cX11_treaty 9 (some .int)) := by decide +kernel
theorem kv_1147 : lw_tbl[1147]? = some (Cond.methodLink RX11 339 yJ9_min_7cf53) := by decide +kernel
theorem kv_1149 : lw_tbl[1149]? = some (Cond.instanceMethod yX11_champion) := by decide +kernel
theorem kv_1150 : lw_tbl[1150]? = some (Cond.selects RX11 yX11_champion yX11_champion) := by decide +kernel
theorem kv_1151 : lw_tbl[1151]? = some (Cond.code yX11_champion cX11_champion 4 (some .int)) := by decide +kernel
theorem kv_1152 : lw_tbl[1152]? = some (Cond.methodLink RX11 344 yX11_isSideOfWar) := by decide +kernel
theorem kv_1154 : lw_tbl[1154]? = some (Cond.instanceMethod yX11_isSideOfWar) := by decide +kernel
theorem kv_1155 : lw_tbl[1155]? = some (Cond.code yX11_isSideOfWar cX11_isSideOfWar 2 (some .boolean)) := by decide +kernel
theorem kv_1156 : lw_tbl[1156]? = some (Cond.methodLink RX11 347 yX11_countWins) := by decide +kernel
theorem kv_1158 : lw_tbl[1158]? = some (Cond.instanceMethod yX11_countWins) := by decide +kernel
theorem kv_1159 : lw_tbl[1159]? = some (Cond.code yX11_countWins cX11_countWins 4 none) := by decide +kernel
theorem kv_1160 : lw_tbl[1160]? = some (Cond.methodLink RX11 350 yX11_countWinsOfSpeeds) := by decide +kernel
theorem kv_1162 : lw_tbl[1162]? = some (Cond.instanceMethod yX11_countWinsOfSpeeds) := by decide +kernel
theorem kv_1163 : lw_tbl[1163]? = some (Cond.code yX11_countWinsOfSpeeds cX11_countWinsOfSpeeds 7 none) := by decide +kernel
theorem kv_1165 : lw_tbl[1165]? = some (Cond.instanceMethod yX11_victors) := by decide +kernel
theorem kv_1166 : lw_tbl[1166]? = some (Cond.selects RX11 yX11_victors yX11_victors) := by decide +kernel
theorem kv_1167 : lw_tbl[1167]? = some (Cond.code yX11_victors cX11_victors 5 (some .int)) := by decide +kernel
theorem kv_1169 : lw_tbl[1169]? = some (Cond.instanceMethod yX11_escorts) := by decide +kernel
theorem kv_1170 : lw_tbl[1170]? = some (Cond.selects RX11 yX11_escorts yX11_escorts) := by decide +kernel
theorem kv_1171 : lw_tbl[1171]? = some (Cond.code yX11_escorts cX11_escorts 3 (some .int)) := by decide +kernel
theorem kv_1172 : lw_tbl[1172]? = some (Cond.methodLink RX11 365 yX1_gather) := by decide +kernel
theorem kv_1173 : lw_tbl[1173]? = some (Cond.instanceMethod yX1_gather) := by decide +kernel
theorem kv_1174 : lw_tbl[1174]? = some (Cond.selects RX1 yX1_gather yX1_gather) := by decide +kernel
theorem kv_1175 : lw_tbl[1175]? = some (Cond.code yX1_gather cX1_gather 3 none) := by decide +kernel
theorem kv_1176 : lw_tbl[1176]? = some (Cond.methodLink RX1 33 yX7_isHome) := by decide +kernel
theorem kv_1177 : lw_tbl[1177]? = some (Cond.methodLink RX1 39 yX7_hasRest) := by decide +kernel
theorem kv_1178 : lw_tbl[1178]? = some (Cond.methodLink RX1 42 yX1_broughtHomeBy) := by decide +kernel
theorem kv_1180 : lw_tbl[1180]? = some (Cond.instanceMethod yX1_broughtHomeBy) := by decide +kernel
theorem kv_1181 : lw_tbl[1181]? = some (Cond.code yX1_broughtHomeBy cX1_broughtHomeBy 5 (some .int)) := by decide +kernel
theorem kv_1182 : lw_tbl[1182]? = some (Cond.methodLink RX1 46 yX7_canGo) := by decide +kernel
theorem kv_1183 : lw_tbl[1183]? = some (Cond.methodLink RX11 368 yX1_most) := by decide +kernel
theorem kv_1184 : lw_tbl[1184]? = some (Cond.instanceMethod yX1_most) := by decide +kernel
theorem kv_1185 : lw_tbl[1185]? = some (Cond.selects RX1 yX1_most yX1_most) := by decide +kernel
theorem kv_1186 : lw_tbl[1186]? = some (Cond.code yX1_most cX1_most 1 (some .int)) := by decide +kernel
theorem kv_1187 : lw_tbl[1187]? = some (Cond.methodLink RX1 55 yX9_allBits) := by decide +kernel
theorem kv_1188 : lw_tbl[1188]? = some (Cond.instanceMethod yX9_allBits) := by decide +kernel
theorem kv_1189 : lw_tbl[1189]? = some (Cond.selects RX9 yX9_allBits yX9_allBits) := by decide +kernel
theorem kv_1190 : lw_tbl[1190]? = some (Cond.code yX9_allBits cX9_allBits 1 (some .int)) := by decide +kernel
theorem kv_1191 : lw_tbl[1191]? = some (Cond.methodLink RX1 59 yX1_mostFrom) := by decide +kernel
theorem kv_1193 : lw_tbl[1193]? = some (Cond.instanceMethod yX1_mostFrom) := by decide +kernel
theorem kv_1194 : lw_tbl[1194]? = some (Cond.code yX1_mostFrom cX1_mostFrom 5 (some .int)) := by decide +kernel
theorem kv_1195 : lw_tbl[1195]? = some (Cond.methodLink RX1 63 yJ9_max_7cf53) := by decide +kernel
theorem kv_1196 : lw_tbl[1196]? = some (Cond.methodLink RX11 371 yX1_leastRow) := by decide +kernel
theorem kv_1197 : lw_tbl[1197]? = some (Cond.instanceMethod yX1_leastRow) := by decide +kernel
theorem kv_1198 : lw_tbl[1198]? = some (Cond.selects RX1 yX1_leastRow yX1_leastRow) := by decide +kernel
theorem kv_1199 : lw_tbl[1199]? = some (Cond.code yX1_leastRow cX1_leastRow 6 (some .int)) := by decide +kernel
theorem kv_1200 : lw_tbl[1200]? = some (Cond.methodLink RX1 68 yX1_most) := by decide +kernel
theorem kv_1201 : lw_tbl[1201]? = some (Cond.methodLink RX1 71 yX1_lowestThatLeaves) := by decide +kernel
theorem kv_1203 : lw_tbl[1203]? = some (Cond.instanceMethod yX1_lowestThatLeaves) := by decide +kernel
theorem kv_1204 : lw_tbl[1204]? = some (Cond.code yX1_lowestThatLeaves cX1_lowestThatLeaves 6 (some .int)) := by decide +kernel
theorem kv_1206 : lw_tbl[1206]? = some (Cond.instanceMethod yX11_loophole) := by decide +kernel
theorem kv_1207 : lw_tbl[1207]? = some (Cond.selects RX11 yX11_loophole yX11_loophole) := by decide +kernel
theorem kv_1208 : lw_tbl[1208]? = some (Cond.code yX11_loophole cX11_loophole 2 (some .int)) := by decide +kernel
theorem kv_1209 : lw_tbl[1209]? = some (Cond.methodLink RX11 374 yX11_loopholeBits) := by decide +kernel
theorem kv_1211 : lw_tbl[1211]? = some (Cond.instanceMethod yX11_loopholeBits) := by decide +kernel
theorem kv_1212 : lw_tbl[1212]? = some (Cond.code yX11_loopholeBits cX11_loopholeBits 4 (some .int)) := by decide +kernel
theorem kv_1213 : lw_tbl[1213]? = some (Cond.methodLink RX11 377 yX7_isHomeBy) := by decide +kernel
theorem kv_1215 : lw_tbl[1215]? = some (Cond.instanceMethod yX11_closed) := by decide +kernel
theorem kv_1216 : lw_tbl[1216]? = some (Cond.selects RX11 yX11_closed yX11_closed) := by decide +kernel
theorem kv_1217 : lw_tbl[1217]? = some (Cond.code yX11_closed cX11_closed 4 (some .int)) := by decide +kernel
theorem kv_1218 : lw_tbl[1218]? = some (Cond.methodLink RX11 383 yJ6_bitCount_0f7a4) := by decide +kernel
theorem kv_1219 : lw_tbl[1219]? = some (Cond.static yJ6_bitCount_0f7a4) := by decide +kernel
theorem kv_1220 : lw_tbl[1220]? = some (Cond.code yJ6_bitCount_0f7a4 cJ6_bitCount_0f7a4 1 (some .int)) := by decide +kernel
theorem kv_1221 : lw_tbl[1221]? = some (Cond.constant RJ6 265 (1431655765 : Int32)) := by decide +kernel
theorem kv_1222 : lw_tbl[1222]? = some (Cond.constant RJ6 266 (858993459 : Int32)) := by decide +kernel
theorem kv_1223 : lw_tbl[1223]? = some (Cond.constant RJ6 267 (252645135 : Int32)) := by decide +kernel
theorem kv_1224 : lw_tbl[1224]? = some (Cond.methodLink RX11 388 yX3_throughAll) := by decide +kernel
theorem kv_1225 : lw_tbl[1225]? = some (Cond.instanceMethod yX3_throughAll) := by decide +kernel
theorem kv_1226 : lw_tbl[1226]? = some (Cond.selects RX3 yX3_throughAll yX3_throughAll) := by decide +kernel
theorem kv_1227 : lw_tbl[1227]? = some (Cond.code yX3_throughAll cX3_throughAll 4 (some .int)) := by decide +kernel
theorem kv_1229 : lw_tbl[1229]? = some (Cond.instanceMethod yX11_reads) := by decide +kernel
theorem kv_1230 : lw_tbl[1230]? = some (Cond.selects RX11 yX11_reads yX11_reads) := by decide +kernel
theorem kv_1231 : lw_tbl[1231]? = some (Cond.code yX11_reads cX11_reads 4 (some .int)) := by decide +kernel
theorem kv_1233 : lw_tbl[1233]? = some (Cond.instanceMethod yX11_away) := by decide +kernel
theorem kv_1234 : lw_tbl[1234]? = some (Cond.selects RX11 yX11_away yX11_away) := by decide +kernel
theorem kv_1235 : lw_tbl[1235]? = some (Cond.code yX11_away cX11_away 4 (some .int)) := by decide +kernel
theorem kv_1237 : lw_tbl[1237]? = some (Cond.instanceMethod yX11_forced) := by decide +kernel
theorem kv_1238 : lw_tbl[1238]? = some (Cond.selects RX11 yX11_forced yX11_forced) := by decide +kernel
theorem kv_1239 : lw_tbl[1239]? = some (Cond.code yX11_forced cX11_forced 5 (some .int)) := by decide +kernel
theorem kv_1240 : lw_tbl[1240]? = some (Cond.methodLink RX11 391 yX11_pressOnDay) := by decide +kernel
theorem kv_1242 : lw_tbl[1242]? = some (Cond.instanceMethod yX11_pressOnDay) := by decide +kernel
theorem kv_1243 : lw_tbl[1243]? = some (Cond.code yX11_pressOnDay cX11_pressOnDay 5 (some .int)) := by decide +kernel
theorem kv_1245 : lw_tbl[1245]? = some (Cond.instanceMethod yX11_soonest) := by decide +kernel
theorem kv_1246 : lw_tbl[1246]? = some (Cond.selects RX11 yX11_soonest yX11_soonest) := by decide +kernel
theorem kv_1247 : lw_tbl[1247]? = some (Cond.code yX11_soonest cX11_soonest 3 (some .int)) := by decide +kernel
theorem kv_1248 : lw_tbl[1248]? = some (Cond.methodLink RX11 394 yX11_pony) := by decide +kernel
theorem kv_1249 : lw_tbl[1249]? = some (Cond.instanceMethod yX11_pony) := by decide +kernel
theorem kv_1250 : lw_tbl[1250]? = some (Cond.selects RX11 yX11_pony yX11_pony) := by decide +kernel
theorem kv_1251 : lw_tbl[1251]? = some (Cond.code yX11_pony cX11_pony 2 (some .int)) := by decide +kernel
theorem kv_1252 : lw_tbl[1252]? = some (Cond.methodLink RX11 400 yX11_farthest) := by decide +kernel
theorem kv_1254 : lw_tbl[1254]? = some (Cond.instanceMethod yX11_farthest) := by decide +kernel
theorem kv_1255 : lw_tbl[1255]? = some (Cond.code yX11_farthest cX11_farthest 4 (some .int)) := by decide +kernel
theorem kv_1258 : lw_tbl[1258]? = some (Cond.instanceMethod yX11_last) := by decide +kernel
theorem kv_1259 : lw_tbl[1259]? = some (Cond.selects RX11 yX11_last yX11_last) := by decide +kernel
theorem kv_1260 : lw_tbl[1260]? = some (Cond.code yX11_last cX11_last 1 (some .int)) := by decide +kernel
theorem kv_1261 : lw_tbl[1261]? = some (Cond.methodLink RX11 403 yX9_allBits) := by decide +kernel
theorem kv_1263 : lw_tbl[1263]? = some (Cond.instanceMethod yX11_behind) := by decide +kernel
theorem kv_1264 : lw_tbl[1264]? = some (Cond.selects RX11 yX11_behind yX11_behind) := by decide +kernel
theorem kv_1265 : lw_tbl[1265]? = some (Cond.code yX11_behind cX11_behind 2 (some .int)) := by decide +kernel
theorem kv_1267 : lw_tbl[1267]? = some (Cond.instanceMethod yX11_next) := by decide +kernel
theorem kv_1268 : lw_tbl[1268]? = some (Cond.selects RX11 yX11_next yX11_next) := by decide +kernel
theorem kv_1269 : lw_tbl[1269]? = some (Cond.code yX11_next cX11_next 4 (some .int)) := by decide +kernel
theorem kv_1271 : lw_tbl[1271]? = some (Cond.instanceMethod yX11_ahead) := by decide +kernel
theorem kv_1272 : lw_tbl[1272]? = some (Cond.selects RX11 yX11_ahead yX11_ahead) := by decide +kernel
theorem kv_1273 : lw_tbl[1273]? = some (Cond.code yX11_ahead cX11_ahead 4 (some .int)) := by decide +kernel
theorem kv_1275 : lw_tbl[1275]? = some (Cond.instanceMethod yX11_even) := by decide +kernel
theorem kv_1276 : lw_tbl[1276]? = some (Cond.selects RX11 yX11_even yX11_even) := by decide +kernel
theorem kv_1277 : lw_tbl[1277]? = some (Cond.code yX11_even cX11_even 3 (some .int)) := by decide +kernel
theorem kv_1279 : lw_tbl[1279]? = some (Cond.instanceMethod yX11_meeting) := by decide +kernel
theorem kv_1280 : lw_tbl[1280]? = some (Cond.selects RX11 yX11_meeting yX11_meeting) := by decide +kernel
theorem kv_1281 : lw_tbl[1281]? = some (Cond.code yX11_meeting cX11_meeting 3 (some .int)) := by decide +kernel
theorem kv_1282 : lw_tbl[1282]? = some (Cond.methodLink RX11 406 yJ9_abs_0f7a4) := by decide +kernel
theorem kv_1284 : lw_tbl[1284]? = some (Cond.instanceMethod yX11_weary) := by decide +kernel
theorem kv_1285 : lw_tbl[1285]? = some (Cond.selects RX11 yX11_weary yX11_weary) := by decide +kernel
theorem kv_1286 : lw_tbl[1286]? = some (Cond.code yX11_weary cX11_weary 3 (some .int)) := by decide +kernel
theorem kv_1288 : lw_tbl[1288]? = some (Cond.instanceMethod yX11_gets) := by decide +kernel
theorem kv_1289 : lw_tbl[1289]? = some (Cond.selects RX11 yX11_gets yX11_gets) := by decide +kernel
theorem kv_1290 : lw_tbl[1290]? = some (Cond.code yX11_gets cX11_gets 3 (some .int)) := by decide +kernel
theorem kv_1291 : lw_tbl[1291]? = some (Cond.methodLink RX11 409 yX9_hasSet) := by decide +kernel
theorem kv_1292 : lw_tbl[1292]? = some (Cond.instanceMethod yX9_hasSet) := by decide +kernel
theorem kv_1293 : lw_tbl[1293]? = some (Cond.selects RX9 yX9_hasSet yX9_hasSet) := by decide +kernel
theorem kv_1294 : lw_tbl[1294]? = some (Cond.code yX9_hasSet cX9_hasSet 2 (some .boolean)) := by decide +kernel
theorem kv_1295 : lw_tbl[1295]? = some (Cond.methodLink RX9 63 yX9_allBits) := by decide +kernel
theorem kv_1296 : lw_tbl[1296]? = some (Cond.methodLink RX11 412 yX9_share) := by decide +kernel
theorem kv_1297 : lw_tbl[1297]? = some (Cond.instanceMethod yX9_share) := by decide +kernel
theorem kv_1298 : lw_tbl[1298]? = some (Cond.selects RX9 yX9_share yX9_share) := by decide +kernel
theorem kv_1299 : lw_tbl[1299]? = some (Cond.code yX9_share cX9_share 7 (some .int)) := by decide +kernel
theorem kv_1301 : lw_tbl[1301]? = some (Cond.instanceMethod yX11_resting) := by decide +kernel
theorem kv_1302 : lw_tbl[1302]? = some (Cond.selects RX11 yX11_resting yX11_resting) := by decide +kernel
theorem kv_1303 : lw_tbl[1303]? = some (Cond.code yX11_resting cX11_resting 4 (some .int)) := by decide +kernel
theorem kv_1304 : lw_tbl[1304]? = some (Cond.methodLink RX11 415 yX9_isAtRest) := by decide +kernel
theorem kv_1305 : lw_tbl[1305]? = some (Cond.instanceMethod yX9_isAtRest) := by decide +kernel
theorem kv_1306 : lw_tbl[1306]? = some (Cond.selects RX9 yX9_isAtRest yX9_isAtRest) := by decide +kernel
theorem kv_1307 : lw_tbl[1307]? = some (Cond.code yX9_isAtRest cX9_isAtRest 3 (some .boolean)) := by decide +kernel
theorem kv_1308 : lw_tbl[1308]? = some (Cond.methodLink RX9 67 yX9_share) := by decide +kernel
theorem kv_1310 : lw_tbl[1310]? = some (Cond.instanceMethod yX11_letter) := by decide +kernel
theorem kv_1311 : lw_tbl[1311]? = some (Cond.selects RX11 yX11_letter yX11_letter) := by decide +kernel
theorem kv_1312 : lw_tbl[1312]? = some (Cond.code yX11_letter cX11_letter 3 (some .int)) := by decide +kernel
theorem kv_1313 : lw_tbl[1313]? = some (Cond.methodLink RX11 418 yX4_add) := by decide +kernel
theorem kv_1314 : lw_tbl[1314]? = some (Cond.instanceMethod yX4_add) := by decide +kernel
theorem kv_1315 : lw_tbl[1315]? = some (Cond.selects RX4 yX4_add yX4_add) := by decide +kernel
theorem kv_1316 : lw_tbl[1316]? = some (Cond.code yX4_add cX4_add 3 (some .boolean)) := by decide +kernel
theorem kv_1318 : lw_tbl[1318]? = some (Cond.instanceMethod yX11_fit) := by decide +kernel
theorem kv_1319 : lw_tbl[1319]? = some (Cond.selects RX11 yX11_fit yX11_fit) := by decide +kernel
theorem kv_1320 : lw_tbl[1320]? = some (Cond.code yX11_fit cX11_fit 5 (some .int)) := by decide +kernel
theorem kv_1321 : lw_tbl[1321]? = some (Cond.methodLink RX11 420 yX4_isSize) := by decide +kernel
theorem kv_1322 : lw_tbl[1322]? = some (Cond.static yX4_isSize) := by decide +kernel
theorem kv_1323 : lw_tbl[1323]? = some (Cond.code yX4_isSize cX4_isSize 1 (some .boolean)) := by decide +kernel
theorem kv_1324 : lw_tbl[1324]? = some (Cond.methodLink RX11 423 yX4_beginRows) := by decide +kernel
theorem kv_1325 : lw_tbl[1325]? = some (Cond.instanceMethod yX4_beginRows) := by decide +kernel
theorem kv_1326 : lw_tbl[1326]? = some (Cond.selects RX4 yX4_beginRows yX4_beginRows) := by decide +kernel
theorem kv_1327 : lw_tbl[1327]? = some (Cond.code yX4_beginRows cX4_beginRows 2 none) := by decide +kernel
theorem kv_1328 : lw_tbl[1328]? = some (Cond.methodLink RX11 426 yX4_rowFits) := by decide +kernel
theorem kv_1329 : lw_tbl[1329]? = some (Cond.instanceMethod yX4_rowFits) := by decide +kernel
theorem kv_1330 : lw_tbl[1330]? = some (Cond.selects RX4 yX4_rowFits yX4_rowFits) := by decide +kernel
theorem kv_1331 : lw_tbl[1331]? = some (Cond.code yX4_rowFits cX4_rowFits 3 (some .boolean)) := by decide +kernel
theorem kv_1332 : lw_tbl[1332]? = some (Cond.methodLink RX4 37 yX4_howMany) := by decide +kernel
theorem kv_1334 : lw_tbl[1334]? = some (Cond.instanceMethod yX4_howMany) := by decide +kernel
theorem kv_1335 : lw_tbl[1335]? = some (Cond.code yX4_howMany cX4_howMany 5 (some .int)) := by decide +kernel
theorem kv_1336 : lw_tbl[1336]? = some (Cond.methodLink RX11 429 yX4_rowNumber) := by decide +kernel
theorem kv_1337 : lw_tbl[1337]? = some (Cond.instanceMethod yX4_rowNumber) := by decide +kernel
theorem kv_1338 : lw_tbl[1338]? = some (Cond.selects RX4 yX4_rowNumber yX4_rowNumber) := by decide +kernel
theorem kv_1339 : lw_tbl[1339]? = some (Cond.code yX4_rowNumber cX4_rowNumber 4 (some .int)) := by decide +kernel
theorem kv_1340 : lw_tbl[1340]? = some (Cond.methodLink RX11 432 yX4_nextRow) := by decide +kernel
theorem kv_1341 : lw_tbl[1341]? = some (Cond.instanceMethod yX4_nextRow) := by decide +kernel
theorem kv_1342 : lw_tbl[1342]? = some (Cond.selects RX4 yX4_nextRow yX4_nextRow) := by decide +kernel
theorem kv_1343 : lw_tbl[1343]? = some (Cond.code yX4_nextRow cX4_nextRow 4 (some .boolean)) := by decide +kernel
theorem kv_1344 : lw_tbl[1344]? = some (Cond.methodLink RX4 31 yJ9_min_7cf53) := by decide +kernel
theorem kv_1346 : lw_tbl[1346]? = some (Cond.instanceMethod yX11_ask) := by decide +kernel
theorem kv_1347 : lw_tbl[1347]? = some (Cond.selects RX11 yX11_ask yX11_ask) := by decide +kernel
theorem kv_1348 : lw_tbl[1348]? = some (Cond.code yX11_ask cX11_ask 4 (some .int)) := by decide +kernel
theorem kv_1349 : lw_tbl[1349]? = some (Cond.methodLink RX11 435 yX4_tally) := by decide +kernel
theorem kv_1350 : lw_tbl[1350]? = some (Cond.instanceMethod yX4_tally) := by decide +kernel
theorem kv_1351 : lw_tbl[1351]? = some (Cond.selects RX4 yX4_tally yX4_tally) := by decide +kernel
theorem kv_1352 : lw_tbl[1352]? = some (Cond.code yX4_tally cX4_tally 4 (some .int)) := by decide +kernel
theorem kv_1353 : lw_tbl[1353]? = some (Cond.constant RX4 40 (2097151 : Int32)) := by decide +kernel
theorem kv_1354 : lw_tbl[1354]? = some (Cond.methodLink RX4 41 yX4_beginRows) := by decide +kernel
theorem kv_1355 : lw_tbl[1355]? = some (Cond.methodLink RX4 44 yX4_rowFits) := by decide +kernel
theorem kv_1356 : lw_tbl[1356]? = some (Cond.methodLink RX4 48 yX4_rowBits) := by decide +kernel
theorem kv_1358 : lw_tbl[1358]? = some (Cond.instanceMethod yX4_rowBits) := by decide +kernel
theorem kv_1359 : lw_tbl[1359]? = some (Cond.code yX4_rowBits cX4_rowBits 4 (some .int)) := by decide +kernel
theorem kv_1360 : lw_tbl[1360]? = some (Cond.methodLink RX4 52 yX4_tallyRow) := by decide +kernel
theorem kv_1362 : lw_tbl[1362]? = some (Cond.instanceMethod yX4_tallyRow) := by decide +kernel
theorem kv_1363 : lw_tbl[1363]? = some (Cond.code yX4_tallyRow cX4_tallyRow 4 none) := by decide +kernel
theorem kv_1364 : lw_tbl[1364]? = some (Cond.methodLink RX4 56 yX4_nextRow) := by decide +kernel
theorem kv_1365 : lw_tbl[1365]? = some (Cond.methodLink RX11 438 yX4_bestQuestion) := by decide +kernel
theorem kv_1366 : lw_tbl[1366]? = some (Cond.instanceMethod yX4_bestQuestion) := by decide +kernel
theorem kv_1367 : lw_tbl[1367]? = some (Cond.selects RX4 yX4_bestQuestion yX4_bestQuestion) := by decide +kernel
theorem kv_1368 : lw_tbl[1368]? = some (Cond.code yX4_bestQuestion cX4_bestQuestion 3 (some .int)) := by decide +kernel
theorem kv_1369 : lw_tbl[1369]? = some (Cond.methodLink RX4 62 yX4_mostFrequent) := by decide +kernel
theorem kv_1370 : lw_tbl[1370]? = some (Cond.instanceMethod yX4_mostFrequent) := by decide +kernel
theorem kv_1371 : lw_tbl[1371]? = some (Cond.selects RX4 yX4_mostFrequent yX4_mostFrequent) := by decide +kernel
theorem kv_1372 : lw_tbl[1372]? = some (Cond.code yX4_mostFrequent cX4_mostFrequent 4 (some .int)) := by decide +kernel
theorem kv_1373 : lw_tbl[1373]? = some (Cond.methodLink RX4 59 yJ9_max_7cf53) := by decide +kernel
theorem kv_1374 : lw_tbl[1374]? = some (Cond.methodLink RX11 441 yX4_mostFrequent) := by decide +kernel
theorem kv_1376 : lw_tbl[1376]? = some (Cond.instanceMethod yX11_sure) := by decide +kernel
theorem kv_1377 : lw_tbl[1377]? = some (Cond.selects RX11 yX11_sure yX11_sure) := by decide +kernel
theorem kv_1378 : lw_tbl[1378]? = some (Cond.code yX11_sure cX11_sure 2 (some .int)) := by decide +kernel
theorem kv_1380 : lw_tbl[1380]? = some (Cond.instanceMethod yX11_odds) := by decide +kernel
theorem kv_1381 : lw_tbl[1381]? = some (Cond.selects RX11 yX11_odds yX11_odds) := by decide +kernel
theorem kv_1382 : lw_tbl[1382]? = some (Cond.code yX11_odds cX11_odds 3 (some .int)) := by decide +kernel
theorem kv_1383 : lw_tbl[1383]? = some (Cond.methodLink RX11 447 yX11_isOddsSpan) := by decide +kernel
theorem kv_1384 : lw_tbl[1384]? = some (Cond.static yX11_isOddsSpan) := by decide +kernel
theorem kv_1385 : lw_tbl[1385]? = some (Cond.code yX11_isOddsSpan cX11_isOddsSpan 1 (some .boolean)) := by decide +kernel
theorem kv_1386 : lw_tbl[1386]? = some (Cond.methodLink RX11 450 yX11_partsAtHome) := by decide +kernel
theorem kv_1388 : lw_tbl[1388]? = some (Cond.instanceMethod yX11_partsAtHome) := by decide +kernel
theorem kv_1389 : lw_tbl[1389]? = some (Cond.code yX11_partsAtHome cX11_partsAtHome 7 (some .int)) := by decide +kernel
theorem kv_1390 : lw_tbl[1390]? = some (Cond.constantLong RX11 453 (1000000000 : Int64)) := by decide +kernel
theorem kv_1391 : lw_tbl[1391]? = some (Cond.constantLong RX11 455 (10 : Int64)) := by decide +kernel
theorem kv_1393 : lw_tbl[1393]? = some (Cond.instanceMethod yX11_hurry) := by decide +kernel
theorem kv_1394 : lw_tbl[1394]? = some (Cond.selects RX11 yX11_hurry yX11_hurry) := by decide +kernel
theorem kv_1395 : lw_tbl[1395]? = some (Cond.code yX11_hurry cX11_hurry 7 (some .int)) := by decide +kernel
theorem kv_1477 : lw_tbl[1477]? = some (Cond.fieldLink RX12 91 (TX12 0).1 (TX12 0).2.1 (TX12 0).2.2.1) := by decide +kernel
theorem kv_1478 : lw_tbl[1478]? = some (Cond.fieldLink RX12 9 (TX12 1).1 (TX12 1).2.1 (TX12 1).2.2.1) := by decide +kernel
theorem kv_1479 : lw_tbl[1479]? = some (Cond.fieldLink RX12 98 (TX12 2).1 (TX12 2).2.1 (TX12 2).2.2.1) := by decide +kernel
theorem kv_1480 : lw_tbl[1480]? = some (Cond.fieldLink RX12 101 (TX12 3).1 (TX12 3).2.1 (TX12 3).2.2.1) := by decide +kernel
theorem kv_1481 : lw_tbl[1481]? = some (Cond.fieldLink RX12 108 (TX12 4).1 (TX12 4).2.1 (TX12 4).2.2.1) := by decide +kernel
theorem kv_1482 : lw_tbl[1482]? = some (Cond.fieldLink RX12 114 (TX12 5).1 (TX12 5).2.1 (TX12 5).2.2.1) := by decide +kernel
theorem kv_1483 : lw_tbl[1483]? = some (Cond.fieldLink RX12 13 (TX12 6).1 (TX12 6).2.1 (TX12 6).2.2.1) := by decide +kernel
theorem kv_1484 : lw_tbl[1484]? = some (Cond.fieldLink RX12 16 (TX12 7).1 (TX12 7).2.1 (TX12 7).2.2.1) := by decide +kernel
theorem kv_1485 : lw_tbl[1485]? = some (Cond.fieldLink RX12 19 (TX12 8).1 (TX12 8).2.1 (TX12 8).2.2.1) := by decide +kernel
theorem kv_1486 : lw_tbl[1486]? = some (Cond.fieldLink RX12 22 (TX12 9).1 (TX12 9).2.1 (TX12 9).2.2.1) := by decide +kernel
theorem kv_1487 : lw_tbl[1487]? = some (Cond.fieldLink RX12 25 (TX12 10).1 (TX12 10).2.1 (TX12 10).2.2.1) := by decide +kernel
theorem kv_1488 : lw_tbl[1488]? = some (Cond.fieldLink RX12 28 (TX12 11).1 (TX12 11).2.1 (TX12 11).2.2.1) := by decide +kernel
theorem kv_1489 : lw_tbl[1489]? = some (Cond.fieldLink RX12 31 (TX12 12).1 (TX12 12).2.1 (TX12 12).2.2.1) := by decide +kernel
theorem kv_1490 : lw_tbl[1490]? = some (Cond.fieldLink RX12 272 (TX12 13).1 (TX12 13).2.1 (TX12 13).2.2.1) := by decide +kernel
theorem kv_1491 : lw_tbl[1491]? = some (Cond.fieldLink RX12 111 (TX12 14).1 (TX12 14).2.1 (TX12 14).2.2.1) := by decide +kernel
theorem kv_1492 : lw_tbl[1492]? = some (Cond.fieldLink RX12 34 (TX12 15).1 (TX12 15).2.1 (TX12 15).2.2.1) := by decide +kernel
theorem kv_1493 : lw_tbl[1493]? = some (Cond.fieldLink RX12 37 (TX12 16).1 (TX12 16).2.1 (TX12 16).2.2.1) := by decide +kernel
theorem kv_1494 : lw_tbl[1494]? = some (Cond.fieldLink RX12 40 (TX12 17).1 (TX12 17).2.1 (TX12 17).2.2.1) := by decide +kernel
theorem kv_1495 : lw_tbl[1495]? = some (Cond.fieldLink RX12 43 (TX12 18).1 (TX12 18).2.1 (TX12 18).2.2.1) := by decide +kernel
theorem kv_1496 : lw_tbl[1496]? = some (Cond.fieldLink RX12 46 (TX12 19).1 (TX12 19).2.1 (TX12 19).2.2.1) := by decide +kernel
theorem kv_1497 : lw_tbl[1497]? = some (Cond.fieldLink RX12 230 (TX12 20).1 (TX12 20).2.1 (TX12 20).2.2.1) := by decide +kernel
theorem kv_1498 : lw_tbl[1498]? = some (Cond.fieldLink RX12 233 (TX12 21).1 (TX12 21).2.1 (TX12 21).2.2.1) := by decide +kernel
theorem kv_1499 : lw_tbl[1499]? = some (Cond.fieldLink RX12 49 (TX12 22).1 (TX12 22).2.1 (TX12 22).2.2.1) := by decide +kernel
theorem kv_1500 : lw_tbl[1500]? = some (Cond.fieldLink RX12 52 (TX12 23).1 (TX12 23).2.1 (TX12 23).2.2.1) := by decide +kernel
theorem kv_1501 : lw_tbl[1501]? = some (Cond.fieldLink RX12 55 (TX12 24).1 (TX12 24).2.1 (TX12 24).2.2.1) := by decide +kernel
theorem kv_1502 : lw_tbl[1502]? = some (Cond.fieldLink RX12 250 (TX12 25).1 (TX12 25).2.1 (TX12 25).2.2.1) := by decide +kernel
theorem kv_1503 : lw_tbl[1503]? = some (Cond.fieldLink RX12 253 (TX12 26).1 (TX12 26).2.1 (TX12 26).2.2.1) := by decide +kernel
theorem kv_1504 : lw_tbl[1504]? = some (Cond.fieldLink RX12 58 (TX12 27).1 (TX12 27).2.1 (TX12 27).2.2.1) := by decide +kernel
theorem kv_1505 : lw_tbl[1505]? = some (Cond.fieldLink RX12 61 (TX12 28).1 (TX12 28).2.1 (TX12 28).2.2.1) := by decide +kernel
theorem kv_1506 : lw_tbl[1506]? = some (Cond.fieldLink RX12 65 (TX12 29).1 (TX12 29).2.1 (TX12 29).2.2.1) := by decide +kernel
theorem kv_1507 : lw_tbl[1507]? = some (Cond.fieldLink RX12 262 (TX12 30).1 (TX12 30).2.1 (TX12 30).2.2.1) := by decide +kernel
theorem kv_1508 : lw_tbl[1508]? = some (Cond.fieldLink RX12 338 (TX12 31).1 (TX12 31).2.1 (TX12 31).2.2.1) := by decide +kernel
theorem kv_1509 : lw_tbl[1509]? = some (Cond.fieldLink RX12 69 (TX12 32).1 (TX12 32).2.1 (TX12 32).2.2.1) := by decide +kernel
theorem kv_1510 : lw_tbl[1510]? = some (Cond.fieldLink RX12 72 (TX12 33).1 (TX12 33).2.1 (TX12 33).2.2.1) := by decide +kernel
theorem kv_1511 : lw_tbl[1511]? = some (Cond.fieldLink RX12 366 (TX12 34).1 (TX12 34).2.1 (TX12 34).2.2.1) := by decide +kernel
theorem kv_1512 : lw_tbl[1512]? = some (Cond.fieldLink RX12 397 (TX12 35).1 (TX12 35).2.1 (TX12 35).2.2.1) := by decide +kernel
theorem kv_1513 : lw_tbl[1513]? = some (Cond.fieldLink RX12 400 (TX12 36).1 (TX12 36).2.1 (TX12 36).2.2.1) := by decide +kernel
theorem kv_1514 : lw_tbl[1514]? = some (Cond.fieldLink RX12 75 (TX12 37).1 (TX12 37).2.1 (TX12 37).2.2.1) := by decide +kernel
theorem kv_1515 : lw_tbl[1515]? = some (Cond.fieldLink RX12 78 (TX12 38).1 (TX12 38).2.1 (TX12 38).2.2.1) := by decide +kernel
theorem kv_1516 : lw_tbl[1516]? = some (Cond.fieldLink RX12 259 (TX12 39).1 (TX12 39).2.1 (TX12 39).2.2.1) := by decide +kernel
theorem kv_1517 : lw_tbl[1517]? = some (Cond.fieldLink RX12 81 (TX12 40).1 (TX12 40).2.1 (TX12 40).2.2.1) := by decide +kernel
theorem kv_1518 : lw_tbl[1518]? = some (Cond.fieldLink RX12 84 (TX12 41).1 (TX12 41).2.1 (TX12 41).2.2.1) := by decide +kernel
theorem kv_1519 : lw_tbl[1519]? = some (Cond.fieldLink RX12 88 (TX12 42).1 (TX12 42).2.1 (TX12 42).2.2.1) := by decide +kernel
theorem kv_1520 : lw_tbl[1520]? = some (Cond.fieldLink RX12 265 (TX12 43).1 (TX12 43).2.1 (TX12 43).2.2.1) := by decide +kernel
theorem kv_1611 : lw_tbl[1611]? = some (Cond.instanceMethod yX12_thrown) := by decide +kernel
theorem kv_1612 : lw_tbl[1612]? = some (Cond.selects RX12 yX12_thrown yX12_thrown) := by decide +kernel
theorem kv_1613 : lw_tbl[1613]? = some (Cond.code yX12_thrown cX12_thrown 1 (some .int)) := by decide +kernel
theorem kv_1615 : lw_tbl[1615]? = some (Cond.instanceMethod yX12_feed) := by decide +kernel
theorem kv_1616 : lw_tbl[1616]? = some (Cond.selects RX12 yX12_feed yX12_feed) := by decide +kernel
theorem kv_1617 : lw_tbl[1617]? = some (Cond.code yX12_feed cX12_feed 9 (some .int)) := by decide +kernel
theorem kv_1618 : lw_tbl[1618]? = some (Cond.methodLink RX12 94 yX12_byteOf) := by decide +kernel
theorem kv_1619 : lw_tbl[1619]? = some (Cond.static yX12_byteOf) := by decide +kernel
theorem kv_1620 : lw_tbl[1620]? = some (Cond.code yX12_byteOf cX12_byteOf 7 (some .int)) := by decide +kernel
theorem kv_1622 : lw_tbl[1622]? = some (Cond.instanceMethod yX12_end) := by decide +kernel
theorem kv_1623 : lw_tbl[1623]? = some (Cond.selects RX12 yX12_end yX12_end) := by decide +kernel
theorem kv_1624 : lw_tbl[1624]? = some (Cond.code yX12_end cX12_end 2 (some .boolean)) := by decide +kernel
theorem kv_1626 : lw_tbl[1626]? = some (Cond.instanceMethod yX12_fault) := by decide +kernel
theorem kv_1627 : lw_tbl[1627]? = some (Cond.selects RX12 yX12_fault yX12_fault) := by decide +kernel
theorem kv_1628 : lw_tbl[1628]? = some (Cond.code yX12_fault cX12_fault 2 (some .int)) := by decide +kernel
theorem kv_1629 : lw_tbl[1629]? = some (Cond.methodLink RX12 244 yX12_readWar) := by decide +kernel
theorem kv_1631 : lw_tbl[1631]? = some (Cond.instanceMethod yX12_readWar) := by decide +kernel
theorem kv_1632 : lw_tbl[1632]? = some (Cond.code yX12_readWar cX12_readWar 4 (some .int)) := by decide +kernel
theorem kv_1633 : lw_tbl[1633]? = some (Cond.methodLink RX12 210 yX12_usual) := by decide +kernel
theorem kv_1634 : lw_tbl[1634]? = some (Cond.static yX12_usual) := by decide +kernel
theorem kv_1635 : lw_tbl[1635]? = some (Cond.code yX12_usual cX12_usual 2 (some .int)) := by decide +kernel
theorem kv_1636 : lw_tbl[1636]? = some (Cond.methodLink RX12 120 yX12_look) := by decide +kernel
theorem kv_1638 : lw_tbl[1638]? = some (Cond.instanceMethod yX12_look) := by decide +kernel
theorem kv_1639 : lw_tbl[1639]? = some (Cond.code yX12_look cX12_look 1 (some .int)) := by decide +kernel
theorem kv_1640 : lw_tbl[1640]? = some (Cond.methodLink RX12 104 yX12_here) := by decide +kernel
theorem kv_1642 : lw_tbl[1642]? = some (Cond.instanceMethod yX12_here) := by decide +kernel
theorem kv_1643 : lw_tbl[1643]? = some (Cond.code yX12_here cX12_here 1 (some .int)) := by decide +kernel
theorem kv_1644 : lw_tbl[1644]? = some (Cond.methodLink RX12 236 yX12_items) := by decide +kernel
theorem kv_1646 : lw_tbl[1646]? = some (Cond.instanceMethod yX12_items) := by decide +kernel
theorem kv_1647 : lw_tbl[1647]? = some (Cond.code yX12_items cX12_items 7 none) := by decide +kernel
theorem kv_1648 : lw_tbl[1648]? = some (Cond.methodLink RX12 214 yX12_itemOf) := by decide +kernel
theorem kv_1649 : lw_tbl[1649]? = some (Cond.static yX12_itemOf) := by decide +kernel
theorem kv_1650 : lw_tbl[1650]? = some (Cond.code yX12_itemOf cX12_itemOf 2 (some .int)) := by decide +kernel
theorem kv_1651 : lw_tbl[1651]? = some (Cond.methodLink RX12 217 yX12_has) := by decide +kernel
theorem kv_1652 : lw_tbl[1652]? = some (Cond.static yX12_has) := by decide +kernel
theorem kv_1653 : lw_tbl[1653]? = some (Cond.code yX12_has cX12_has 2 (some .boolean)) := by decide +kernel
theorem kv_1654 : lw_tbl[1654]? = some (Cond.methodLink RX12 221 yX12_lowest) := by decide +kernel
theorem kv_1655 : lw_tbl[1655]? = some (Cond.static yX12_lowest) := by decide +kernel
theorem kv_1656 : lw_tbl[1656]? = some (Cond.code yX12_lowest cX12_lowest 2 (some .int)) := by decide +kernel
theorem kv_1657 : lw_tbl[1657]? = some (Cond.methodLink RX12 224 yX12_highest) := by decide +kernel
theorem kv_1658 : lw_tbl[1658]? = some (Cond.static yX12_highest) := by decide +kernel
theorem kv_1659 : lw_tbl[1659]? = some (Cond.code yX12_highest cX12_highest 2 (some .int)) := by decide +kernel
theorem kv_1660 : lw_tbl[1660]? = some (Cond.methodLink RX12 227 yX12_number) := by decide +kernel
theorem kv_1662 : lw_tbl[1662]? = some (Cond.instanceMethod yX12_number) := by decide +kernel
theorem kv_1663 : lw_tbl[1663]? = some (Cond.code yX12_number cX12_number 4 (some .int)) := by decide +kernel
theorem kv_1664 : lw_tbl[1664]? = some (Cond.methodLink RX12 123 yX12_isDigit) := by decide +kernel
theorem kv_1665 : lw_tbl[1665]? = some (Cond.static yX12_isDigit) := by decide +kernel
theorem kv_1666 : lw_tbl[1666]? = some (Cond.code yX12_isDigit cX12_isDigit 1 (some .boolean)) := by decide +kernel
theorem kv_1667 : lw_tbl[1667]? = some (Cond.methodLink RX12 117 yX12_bad) := by decide +kernel
theorem kv_1669 : lw_tbl[1669]? = some (Cond.instanceMethod yX12_bad) := by decide +kernel
theorem kv_1670 : lw_tbl[1670]? = some (Cond.code yX12_bad cX12_bad 1 none) := by decide +kernel
theorem kv_1671 : lw_tbl[1671]? = some (Cond.methodLink RX12 206 yX12_in) := by decide +kernel
theorem kv_1672 : lw_tbl[1672]? = some (Cond.static yX12_in) := by decide +kernel
theorem kv_1673 : lw_tbl[1673]? = some (Cond.code yX12_in cX12_in 3 (some .boolean)) := by decide +kernel
theorem kv_1674 : lw_tbl[1674]? = some (Cond.methodLink RX12 240 yX12_isWhole) := by decide +kernel
theorem kv_1676 : lw_tbl[1676]? = some (Cond.instanceMethod yX12_isWhole) := by decide +kernel
theorem kv_1677 : lw_tbl[1677]? = some (Cond.code yX12_isWhole cX12_isWhole 5 (some .boolean)) := by decide +kernel
theorem kv_1678 : lw_tbl[1678]? = some (Cond.methodLink RX12 247 yX12_readLaw) := by decide +kernel
theorem kv_1680 : lw_tbl[1680]? = some (Cond.instanceMethod yX12_readLaw) := by decide +kernel
theorem kv_1681 : lw_tbl[1681]? = some (Cond.code yX12_readLaw cX12_readLaw 2 (some .int)) := by decide +kernel
theorem kv_1682 : lw_tbl[1682]? = some (Cond.methodLink RX12 172 yX12_open) := by decide +kernel
theorem kv_1684 : lw_tbl[1684]? = some (Cond.instanceMethod yX12_open) := by decide +kernel
theorem kv_1685 : lw_tbl[1685]? = some (Cond.code yX12_open cX12_open 2 none) := by decide +kernel
theorem kv_1686 : lw_tbl[1686]? = some (Cond.methodLink RX12 175 yX12_clause) := by decide +kernel
theorem kv_1688 : lw_tbl[1688]? = some (Cond.instanceMethod yX12_clause) := by decide +kernel
theorem kv_1689 : lw_tbl[1689]? = some (Cond.code yX12_clause cX12_clause 3 none) := by decide +kernel
theorem kv_1690 : lw_tbl[1690]? = some (Cond.methodLink RX12 160 yX12_condition) := by decide +kernel
theorem kv_1692 : lw_tbl[1692]? = some (Cond.instanceMethod yX12_condition) := by decide +kernel
theorem kv_1693 : lw_tbl[1693]? = some (Cond.code yX12_condition cX12_condition 1 none) := by decide +kernel
theorem kv_1694 : lw_tbl[1694]? = some (Cond.methodLink RX12 157 yX12_unit) := by decide +kernel
theorem kv_1696 : lw_tbl[1696]? = some (Cond.instanceMethod yX12_unit) := by decide +kernel
theorem kv_1697 : lw_tbl[1697]? = some (Cond.code yX12_unit cX12_unit 2 none) := by decide +kernel
theorem kv_1698 : lw_tbl[1698]? = some (Cond.methodLink RX12 138 yX12_opens) := by decide +kernel
theorem kv_1700 : lw_tbl[1700]? = some (Cond.instanceMethod yX12_opens) := by decide +kernel
theorem kv_1701 : lw_tbl[1701]? = some (Cond.code yX12_opens cX12_opens 1 none) := by decide +kernel
theorem kv_1702 : lw_tbl[1702]? = some (Cond.methodLink RX12 130 yX12_put) := by decide +kernel
theorem kv_1704 : lw_tbl[1704]? = some (Cond.instanceMethod yX12_put) := by decide +kernel
theorem kv_1705 : lw_tbl[1705]? = some (Cond.code yX12_put cX12_put 3 none) := by decide +kernel
theorem kv_1706 : lw_tbl[1706]? = some (Cond.methodLink RX12 144 yX12_closes) := by decide +kernel
theorem kv_1708 : lw_tbl[1708]? = some (Cond.instanceMethod yX12_closes) := by decide +kernel
theorem kv_1709 : lw_tbl[1709]? = some (Cond.code yX12_closes cX12_closes 2 none) := by decide +kernel
theorem kv_1710 : lw_tbl[1710]? = some (Cond.methodLink RX12 141 yX12_sum) := by decide +kernel
theorem kv_1712 : lw_tbl[1712]? = some (Cond.instanceMethod yX12_sum) := by decide +kernel
theorem kv_1713 : lw_tbl[1713]? = some (Cond.code yX12_sum cX12_sum 2 none) := by decide +kernel
theorem kv_1714 : lw_tbl[1714]? = some (Cond.methodLink RX12 151 yX12_term) := by decide +kernel
theorem kv_1716 : lw_tbl[1716]? = some (Cond.instanceMethod yX12_term) := by decide +kernel
theorem kv_1717 : lw_tbl[1717]? = some (Cond.code yX12_term cX12_term 2 none) := by decide +kernel
theorem kv_1718 : lw_tbl[1718]? = some (Cond.methodLink RX12 148 yX12_atom) := by decide +kernel
theorem kv_1720 : lw_tbl[1720]? = some (Cond.instanceMethod yX12_atom) := by decide +kernel
theorem kv_1721 : lw_tbl[1721]? = some (Cond.code yX12_atom cX12_atom 2 none) := by decide +kernel
theorem kv_1722 : lw_tbl[1722]? = some (Cond.methodLink RX12 127 yX12_plainNumber) := by decide +kernel
theorem kv_1724 : lw_tbl[1724]? = some (Cond.instanceMethod yX12_plainNumber) := by decide +kernel
theorem kv_1725 : lw_tbl[1725]? = some (Cond.code yX12_plainNumber cX12_plainNumber 3 (some .int)) := by decide +kernel
theorem kv_1726 : lw_tbl[1726]? = some (Cond.methodLink RX12 134 yX12_letterOf) := by decide +kernel
theorem kv_1727 : lw_tbl[1727]? = some (Cond.static yX12_letterOf) := by decide +kernel
theorem kv_1728 : lw_tbl[1728]? = some (Cond.code yX12_letterOf cX12_letterOf 1 (some .int)) := by decide +kernel
theorem kv_1729 : lw_tbl[1729]? = some (Cond.methodLink RX12 163 yX12_compare) := by decide +kernel
theorem kv_1731 : lw_tbl[1731]? = some (Cond.instanceMethod yX12_compare) := by decide +kernel
theorem kv_1732 : lw_tbl[1732]? = some (Cond.code yX12_compare cX12_compare 2 none) := by decide +kernel
theorem kv_1733 : lw_tbl[1733]? = some (Cond.methodLink RX12 154 yX12_isSign) := by decide +kernel
theorem kv_1734 : lw_tbl[1734]? = some (Cond.static yX12_isSign) := by decide +kernel
theorem kv_1735 : lw_tbl[1735]? = some (Cond.code yX12_isSign cX12_isSign 1 (some .boolean)) := by decide +kernel
theorem kv_1736 : lw_tbl[1736]? = some (Cond.methodLink RX12 166 yX12_goOnAnd) := by decide +kernel
theorem kv_1738 : lw_tbl[1738]? = some (Cond.instanceMethod yX12_goOnAnd) := by decide +kernel
theorem kv_1739 : lw_tbl[1739]? = some (Cond.code yX12_goOnAnd cX12_goOnAnd 1 none) := by decide +kernel
theorem kv_1740 : lw_tbl[1740]? = some (Cond.methodLink RX12 169 yX12_goOnOr) := by decide +kernel
theorem kv_1742 : lw_tbl[1742]? = some (Cond.instanceMethod yX12_goOnOr) := by decide +kernel
theorem kv_1743 : lw_tbl[1743]? = some (Cond.code yX12_goOnOr cX12_goOnOr 1 none) := by decide +kernel
theorem kv_1744 : lw_tbl[1744]? = some (Cond.methodLink RX12 178 yX12_atEnd) := by decide +kernel
theorem kv_1746 : lw_tbl[1746]? = some (Cond.instanceMethod yX12_atEnd) := by decide +kernel
theorem kv_1747 : lw_tbl[1747]? = some (Cond.code yX12_atEnd cX12_atEnd 1 (some .int)) := by decide +kernel
theorem kv_1749 : lw_tbl[1749]? = some (Cond.instanceMethod yX12_text) := by decide +kernel
theorem kv_1750 : lw_tbl[1750]? = some (Cond.selects RX12 yX12_text yX12_text) := by decide +kernel
theorem kv_1751 : lw_tbl[1751]? = some (Cond.code yX12_text cX12_text 2 (some .int)) := by decide +kernel
theorem kv_1752 : lw_tbl[1752]? = some (Cond.methodLink RX12 269 yX12_takeWar) := by decide +kernel
theorem kv_1754 : lw_tbl[1754]? = some (Cond.instanceMethod yX12_takeWar) := by decide +kernel
theorem kv_1755 : lw_tbl[1755]? = some (Cond.code yX12_takeWar cX12_takeWar 2 (some .int)) := by decide +kernel
theorem kv_1756 : lw_tbl[1756]? = some (Cond.methodLink RX12 256 yX12_comes) := by decide +kernel
theorem kv_1758 : lw_tbl[1758]? = some (Cond.instanceMethod yX12_comes) := by decide +kernel
theorem kv_1759 : lw_tbl[1759]? = some (Cond.code yX12_comes cX12_comes 3 none) := by decide +kernel
theorem kv_1760 : lw_tbl[1760]? = some (Cond.methodLink RX12 275 yX12_restAt) := by decide +kernel
theorem kv_1762 : lw_tbl[1762]? = some (Cond.instanceMethod yX12_restAt) := by decide +kernel
theorem kv_1763 : lw_tbl[1763]? = some (Cond.code yX12_restAt cX12_restAt 3 (some .int)) := by decide +kernel
theorem kv_1765 : lw_tbl[1765]? = some (Cond.instanceMethod yX12_man) := by decide +kernel
theorem kv_1766 : lw_tbl[1766]? = some (Cond.selects RX12 yX12_man yX12_man) := by decide +kernel
theorem kv_1767 : lw_tbl[1767]? = some (Cond.code yX12_man cX12_man 3 (some .int)) := by decide +kernel
theorem kv_1768 : lw_tbl[1768]? = some (Cond.methodLink RX12 299 yX12_isMan) := by decide +kernel
theorem kv_1770 : lw_tbl[1770]? = some (Cond.instanceMethod yX12_isMan) := by decide +kernel
theorem kv_1771 : lw_tbl[1771]? = some (Cond.code yX12_isMan cX12_isMan 2 (some .boolean)) := by decide +kernel
theorem kv_1772 : lw_tbl[1772]? = some (Cond.methodLink RX12 287 yX12_isHome) := by decide +kernel
theorem kv_1774 : lw_tbl[1774]? = some (Cond.instanceMethod yX12_isHome) := by decide +kernel
theorem kv_1775 : lw_tbl[1775]? = some (Cond.code yX12_isHome cX12_isHome 2 (some .boolean)) := by decide +kernel
theorem kv_1776 : lw_tbl[1776]? = some (Cond.methodLink RX12 284 yX12_isHomeBy) := by decide +kernel
theorem kv_1778 : lw_tbl[1778]? = some (Cond.instanceMethod yX12_isHomeBy) := by decide +kernel
theorem kv_1779 : lw_tbl[1779]? = some (Cond.code yX12_isHomeBy cX12_isHomeBy 3 (some .boolean)) := by decide +kernel
theorem kv_1780 : lw_tbl[1780]? = some (Cond.methodLink RX12 278 yX12_side) := by decide +kernel
theorem kv_1782 : lw_tbl[1782]? = some (Cond.instanceMethod yX12_side) := by decide +kernel
theorem kv_1783 : lw_tbl[1783]? = some (Cond.code yX12_side cX12_side 2 (some .int)) := by decide +kernel
theorem kv_1784 : lw_tbl[1784]? = some (Cond.methodLink RX12 281 yX12_worthOf) := by decide +kernel
theorem kv_1786 : lw_tbl[1786]? = some (Cond.instanceMethod yX12_worthOf) := by decide +kernel
theorem kv_1787 : lw_tbl[1787]? = some (Cond.code yX12_worthOf cX12_worthOf 3 (some .int)) := by decide +kernel
theorem kv_1788 : lw_tbl[1788]? = some (Cond.methodLink RX12 202 yX12_workOut) := by decide +kernel
theorem kv_1790 : lw_tbl[1790]? = some (Cond.instanceMethod yX12_workOut) := by decide +kernel
theorem kv_1791 : lw_tbl[1791]? = some (Cond.code yX12_workOut cX12_workOut 6 (some .int)) := by decide +kernel
theorem kv_1792 : lw_tbl[1792]? = some (Cond.methodLink RX12 198 yX12_worked) := by decide +kernel
theorem kv_1793 : lw_tbl[1793]? = some (Cond.static yX12_worked) := by decide +kernel
theorem kv_1794 : lw_tbl[1794]? = some (Cond.code yX12_worked cX12_worked 5 (some .int)) := by decide +kernel
theorem kv_1795 : lw_tbl[1795]? = some (Cond.methodLink RX12 194 yX12_bounded) := by decide +kernel
theorem kv_1796 : lw_tbl[1796]? = some (Cond.static yX12_bounded) := by decide +kernel
theorem kv_1797 : lw_tbl[1797]? = some (Cond.code yX12_bounded cX12_bounded 2 (some .int)) := by decide +kernel
theorem kv_1798 : lw_tbl[1798]? = some (Cond.constantLong RX12 181 (-1000000 : Int64)) := by decide +kernel
theorem kv_1799 : lw_tbl[1799]? = some (Cond.constantLong RX12 183 (1000000 : Int64)) := by decide +kernel
theorem kv_1800 : lw_tbl[1800]? = some (Cond.methodLink RX12 185 yJ9_min_f86c9) := by decide +kernel
theorem kv_1801 : lw_tbl[1801]? = some (Cond.static yJ9_min_f86c9) := by decide +kernel
theorem kv_1802 : lw_tbl[1802]? = some (Cond.code yJ9_min_f86c9 cJ9_min_f86c9 4 (some .long)) := by decide +kernel
theorem kv_1803 : lw_tbl[1803]? = some (Cond.methodLink RX12 191 yJ9_max_f86c9) := by decide +kernel
theorem kv_1804 : lw_tbl[1804]? = some (Cond.static yJ9_max_f86c9) := by decide +kernel
theorem kv_1805 : lw_tbl[1805]? = some (Cond.code yJ9_max_f86c9 cJ9_max_f86c9 4 (some .long)) := by decide +kernel
theorem kv_1807 : lw_tbl[1807]? = some (Cond.instanceMethod yX12_orchard) := by decide +kernel
theorem kv_1808 : lw_tbl[1808]? = some (Cond.selects RX12 yX12_orchard yX12_orchard) := by decide +kernel
theorem kv_1809 : lw_tbl[1809]? = some (Cond.code yX12_orchard cX12_orchard 3 (some .int)) := by decide +kernel
theorem kv_1811 : lw_tbl[1811]? = some (Cond.instanceMethod yX12_law) := by decide +kernel
theorem kv_1812 : lw_tbl[1812]? = some (Cond.selects RX12 yX12_law yX12_law) := by decide +kernel
theorem kv_1813 : lw_tbl[1813]? = some (Cond.code yX12_law cX12_law 2 (some .boolean)) := by decide +kernel
theorem kv_1815 : lw_tbl[1815]? = some (Cond.instanceMethod yX12_won) := by decide +kernel
theorem kv_1816 : lw_tbl[1816]? = some (Cond.selects RX12 yX12_won yX12_won) := by decide +kernel
theorem kv_1817 : lw_tbl[1817]? = some (Cond.code yX12_won cX12_won 1 (some .int)) := by decide +kernel
theorem kv_1818 : lw_tbl[1818]? = some (Cond.methodLink RX12 296 yX12_wonBy) := by decide +kernel
theorem kv_1820 : lw_tbl[1820]? = some (Cond.instanceMethod yX12_wonBy) := by decide +kernel
theorem kv_1821 : lw_tbl[1821]? = some (Cond.code yX12_wonBy cX12_wonBy 4 (some .int)) := by decide +kernel
theorem kv_1822 : lw_tbl[1822]? = some (Cond.methodLink RX12 290 yX12_atHome) := by decide +kernel
theorem kv_1824 : lw_tbl[1824]? = some (Cond.instanceMethod yX12_atHome) := by decide +kernel
theorem kv_1825 : lw_tbl[1825]? = some (Cond.code yX12_atHome cX12_atHome 3 (some .int)) := by decide +kernel
theorem kv_1826 : lw_tbl[1826]? = some (Cond.methodLink RX12 293 yX12_of) := by decide +kernel
theorem kv_1828 : lw_tbl[1828]? = some (Cond.instanceMethod yX12_of) := by decide +kernel
theorem kv_1829 : lw_tbl[1829]? = some (Cond.code yX12_of cX12_of 4 (some .int)) := by decide +kernel
theorem kv_1831 : lw_tbl[1831]? = some (Cond.instanceMethod yX12_go) := by decide +kernel
theorem kv_1832 : lw_tbl[1832]? = some (Cond.selects RX12 yX12_go yX12_go) := by decide +kernel
theorem kv_1833 : lw_tbl[1833]? = some (Cond.code yX12_go cX12_go 2 (some .int)) := by decide +kernel
theorem kv_1834 : lw_tbl[1834]? = some (Cond.methodLink RX12 312 yX12_canGo) := by decide +kernel
theorem kv_1836 : lw_tbl[1836]? = some (Cond.instanceMethod yX12_canGo) := by decide +kernel
theorem kv_1837 : lw_tbl[1837]? = some (Cond.code yX12_canGo cX12_canGo 2 (some .boolean)) := by decide +kernel
theorem kv_1838 : lw_tbl[1838]? = some (Cond.methodLink RX12 305 yX12_isFree) := by decide +kernel
theorem kv_1840 : lw_tbl[1840]? = some (Cond.instanceMethod yX12_isFree) := by decide +kernel
theorem kv_1841 : lw_tbl[1841]? = some (Cond.code yX12_isFree cX12_isFree 2 (some .boolean)) := by decide +kernel
theorem kv_1842 : lw_tbl[1842]? = some (Cond.methodLink RX12 302 yX12_isOver) := by decide +kernel
theorem kv_1844 : lw_tbl[1844]? = some (Cond.instanceMethod yX12_isOver) := by decide +kernel
theorem kv_1845 : lw_tbl[1845]? = some (Cond.code yX12_isOver cX12_isOver 1 (some .boolean)) := by decide +kernel
theorem kv_1846 : lw_tbl[1846]? = some (Cond.methodLink RX12 315 yX12_keep) := by decide +kernel
theorem kv_1848 : lw_tbl[1848]? = some (Cond.instanceMethod yX12_keep) := by decide +kernel
theorem kv_1849 : lw_tbl[1849]? = some (Cond.code yX12_keep cX12_keep 2 none) := by decide +kernel
theorem kv_1850 : lw_tbl[1850]? = some (Cond.methodLink RX12 318 yX12_goNow) := by decide +kernel
theorem kv_1852 : lw_tbl[1852]? = some (Cond.instanceMethod yX12_goNow) := by decide +kernel
theorem kv_1853 : lw_tbl[1853]? = some (Cond.code yX12_goNow cX12_goNow 2 none) := by decide +kernel
theorem kv_1854 : lw_tbl[1854]? = some (Cond.methodLink RX12 308 yX12_note) := by decide +kernel
theorem kv_1856 : lw_tbl[1856]? = some (Cond.instanceMethod yX12_note) := by decide +kernel
theorem kv_1857 : lw_tbl[1857]? = some (Cond.code yX12_note cX12_note 5 none) := by decide +kernel
theorem kv_1859 : lw_tbl[1859]? = some (Cond.instanceMethod yX12_stay) := by decide +kernel
theorem kv_1860 : lw_tbl[1860]? = some (Cond.selects RX12 yX12_stay yX12_stay) := by decide +kernel
theorem kv_1861 : lw_tbl[1861]? = some (Cond.code yX12_stay cX12_stay 2 (some .int)) := by decide +kernel
theorem kv_1862 : lw_tbl[1862]? = some (Cond.methodLink RX12 321 yX12_canStay) := by decide +kernel
theorem kv_1864 : lw_tbl[1864]? = some (Cond.instanceMethod yX12_canStay) := by decide +kernel
theorem kv_1865 : lw_tbl[1865]? = some (Cond.code yX12_canStay cX12_canStay 2 (some .boolean)) := by decide +kernel
theorem kv_1866 : lw_tbl[1866]? = some (Cond.methodLink RX12 324 yX12_stayNow) := by decide +kernel
theorem kv_1868 : lw_tbl[1868]? = some (Cond.instanceMethod yX12_stayNow) := by decide +kernel
theorem kv_1869 : lw_tbl[1869]? = some (Cond.code yX12_stayNow cX12_stayNow 2 none) := by decide +kernel
theorem kv_1871 : lw_tbl[1871]? = some (Cond.instanceMethod yX12_press) := by decide +kernel
theorem kv_1872 : lw_tbl[1872]? = some (Cond.selects RX12 yX12_press yX12_press) := by decide +kernel
theorem kv_1873 : lw_tbl[1873]? = some (Cond.code yX12_press cX12_press 3 (some .int)) := by decide +kernel
theorem kv_1874 : lw_tbl[1874]? = some (Cond.methodLink RX12 329 yX12_canPress) := by decide +kernel
theorem kv_1876 : lw_tbl[1876]? = some (Cond.instanceMethod yX12_canPress) := by decide +kernel
theorem kv_1877 : lw_tbl[1877]? = some (Cond.code yX12_canPress cX12_canPress 3 (some .boolean)) := by decide +kernel
theorem kv_1878 : lw_tbl[1878]? = some (Cond.methodLink RX12 332 yX12_pressNow) := by decide +kernel
theorem kv_1880 : lw_tbl[1880]? = some (Cond.instanceMethod yX12_pressNow) := by decide +kernel
theorem kv_1881 : lw_tbl[1881]? = some (Cond.code yX12_pressNow cX12_pressNow 3 none) := by decide +kernel
theorem kv_1882 : lw_tbl[1882]? = some (Cond.methodLink RX12 327 yJ9_max_7cf53) := by decide +kernel
theorem kv_1884 : lw_tbl[1884]? = some (Cond.instanceMethod yX12_evening) := by decide +kernel
theorem kv_1885 : lw_tbl[1885]? = some (Cond.selects RX12 yX12_evening yX12_evening) := by decide +kernel
theorem kv_1886 : lw_tbl[1886]? = some (Cond.code yX12_evening cX12_evening 2 (some .int)) := by decide +kernel
theorem kv_1887 : lw_tbl[1887]? = some (Cond.methodLink RX12 335 yX12_endDay) := by decide +kernel
theorem kv_1889 : lw_tbl[1889]? = some (Cond.instanceMethod yX12_endDay) := by decide +kernel
theorem kv_1890 : lw_tbl[1890]? = some (Cond.code yX12_endDay cX12_endDay 2 none) := by decide +kernel
theorem kv_1892 : lw_tbl[1892]? = some (Cond.instanceMethod yX12_march) := by decide +kernel
theorem kv_1893 : lw_tbl[1893]? = some (Cond.selects RX12 yX12_march yX12_march) := by decide +kernel
theorem kv_1894 : lw_tbl[1894]? = some (Cond.code yX12_march cX12_march 6 (some .int)) := by decide +kernel
theorem kv_1895 : lw_tbl[1895]? = some (Cond.methodLink RX12 352 yX12_drawDeed) := by decide +kernel
theorem kv_1897 : lw_tbl[1897]? = some (Cond.instanceMethod yX12_drawDeed) := by decide +kernel
theorem kv_1898 : lw_tbl[1898]? = some (Cond.code yX12_drawDeed cX12_drawDeed 3 none) := by decide +kernel
theorem kv_1899 : lw_tbl[1899]? = some (Cond.methodLink RX12 346 yX12_draw) := by decide +kernel
theorem kv_1901 : lw_tbl[1901]? = some (Cond.instanceMethod yX12_draw) := by decide +kernel
theorem kv_1902 : lw_tbl[1902]? = some (Cond.code yX12_draw cX12_draw 2 (some .int)) := by decide +kernel
theorem kv_1903 : lw_tbl[1903]? = some (Cond.constantLong RX12 342 (6364136223846793005 : Int64)) := by decide +kernel
theorem kv_1904 : lw_tbl[1904]? = some (Cond.constantLong RX12 344 (1442695040888963407 : Int64)) := by decide +kernel
theorem kv_1905 : lw_tbl[1905]? = some (Cond.methodLink RX12 349 yX12_pressLowest) := by decide +kernel
theorem kv_1907 : lw_tbl[1907]? = some (Cond.instanceMethod yX12_pressLowest) := by decide +kernel
theorem kv_1908 : lw_tbl[1908]? = some (Cond.code yX12_pressLowest cX12_pressLowest 3 none) := by decide +kernel
theorem kv_1910 : lw_tbl[1910]? = some (Cond.instanceMethod yX12_undo) := by decide +kernel
theorem kv_1911 : lw_tbl[1911]? = some (Cond.selects RX12 yX12_undo yX12_undo) := by decide +kernel
theorem kv_1912 : lw_tbl[1912]? = some (Cond.code yX12_undo cX12_undo 2 (some .int)) := by decide +kernel
theorem kv_1914 : lw_tbl[1914]? = some (Cond.instanceMethod yX12_log) := by decide +kernel
theorem kv_1915 : lw_tbl[1915]? = some (Cond.selects RX12 yX12_log yX12_log) := by decide +kernel
theorem kv_1916 : lw_tbl[1916]? = some (Cond.code yX12_log cX12_log 3 (some .int)) := by decide +kernel
theorem kv_1917 : lw_tbl[1917]? = some (Cond.constant RX12 355 (-1000000 : Int32)) := by decide +kernel
theorem kv_1919 : lw_tbl[1919]? = some (Cond.instanceMethod yX12_duel) := by decide +kernel
theorem kv_1920 : lw_tbl[1920]? = some (Cond.selects RX12 yX12_duel yX12_duel) := by decide +kernel
theorem kv_1921 : lw_tbl[1921]? = some (Cond.code yX12_duel cX12_duel 5 (some .int)) := by decide +kernel
theorem kv_1922 : lw_tbl[1922]? = some (Cond.methodLink RX12 372 yX12_canDuel) := by decide +kernel
theorem kv_1924 : lw_tbl[1924]? = some (Cond.instanceMethod yX12_canDuel) := by decide +kernel
theorem kv_1925 : lw_tbl[1925]? = some (Cond.code yX12_canDuel cX12_canDuel 3 (some .boolean)) := by decide +kernel
theorem kv_1926 : lw_tbl[1926]? = some (Cond.methodLink RX12 375 yX12_duelWith) := by decide +kernel
theorem kv_1928 : lw_tbl[1928]? = some (Cond.instanceMethod yX12_duelWith) := by decide +kernel
theorem kv_1929 : lw_tbl[1929]? = some (Cond.code yX12_duelWith cX12_duelWith 5 (some .int)) := by decide +kernel
theorem kv_1930 : lw_tbl[1930]? = some (Cond.methodLink RX12 360 yX12_outcomeOf) := by decide +kernel
theorem kv_1932 : lw_tbl[1932]? = some (Cond.instanceMethod yX12_outcomeOf) := by decide +kernel
theorem kv_1933 : lw_tbl[1933]? = some (Cond.code yX12_outcomeOf cX12_outcomeOf 12 (some .int)) := by decide +kernel
theorem kv_1934 : lw_tbl[1934]? = some (Cond.methodLink RX12 356 yX12_place) := by decide +kernel
theorem kv_1935 : lw_tbl[1935]? = some (Cond.static yX12_place) := by decide +kernel
theorem kv_1936 : lw_tbl[1936]? = some (Cond.code yX12_place cX12_place 5 (some .int)) := by decide +kernel
theorem kv_1937 : lw_tbl[1937]? = some (Cond.methodLink RX12 363 yX12_turned) := by decide +kernel
theorem kv_1938 : lw_tbl[1938]? = some (Cond.static yX12_turned) := by decide +kernel
theorem kv_1939 : lw_tbl[1939]? = some (Cond.code yX12_turned cX12_turned 1 (some .int)) := by decide +kernel
theorem kv_1940 : lw_tbl[1940]? = some (Cond.methodLink RX12 369 yX12_isBetter) := by decide +kernel
theorem kv_1941 : lw_tbl[1941]? = some (Cond.static yX12_isBetter) := by decide +kernel
theorem kv_1942 : lw_tbl[1942]? = some (Cond.code yX12_isBetter cX12_isBetter 2 (some .boolean)) := by decide +kernel
theorem kv_1943 : lw_tbl[1943]? = some (Cond.methodLink RX12 378 yJ9_abs_0f7a4) := by decide +kernel
theorem kv_1945 : lw_tbl[1945]? = some (Cond.instanceMethod yX12_champion) := by decide +kernel
theorem kv_1946 : lw_tbl[1946]? = some (Cond.selects RX12 yX12_champion yX12_champion) := by decide +kernel
theorem kv_1947 : lw_tbl[1947]? = some (Cond.code yX12_champion cX12_champion 6 (some .int)) := by decide +kernel
theorem kv_1948 : lw_tbl[1948]? = some (Cond.methodLink RX12 381 yX12_isSide) := by decide +kernel
theorem kv_1950 : lw_tbl[1950]? = some (Cond.instanceMethod yX12_isSide) := by decide +kernel
theorem kv_1951 : lw_tbl[1951]? = some (Cond.code yX12_isSide cX12_isSide 2 (some .boolean)) := by decide +kernel
theorem kv_1952 : lw_tbl[1952]? = some (Cond.methodLink RX12 384 yX12_wins) := by decide +kernel
theorem kv_1954 : lw_tbl[1954]? = some (Cond.instanceMethod yX12_wins) := by decide +kernel
theorem kv_1955 : lw_tbl[1955]? = some (Cond.code yX12_wins cX12_wins 4 (some .int)) := by decide +kernel
theorem kv_1957 : lw_tbl[1957]? = some (Cond.instanceMethod yX12_victors) := by decide +kernel
theorem kv_1958 : lw_tbl[1958]? = some (Cond.selects RX12 yX12_victors yX12_victors) := by decide +kernel
theorem kv_1959 : lw_tbl[1959]? = some (Cond.code yX12_victors cX12_victors 5 (some .int)) := by decide +kernel
theorem kv_1960 : lw_tbl[1960]? = some (Cond.methodLink RX12 387 yX12_foes) := by decide +kernel
theorem kv_1962 : lw_tbl[1962]? = some (Cond.instanceMethod yX12_foes) := by decide +kernel
theorem kv_1963 : lw_tbl[1963]? = some (Cond.code yX12_foes cX12_foes 4 (some .int)) := by decide +kernel
theorem kv_1965 : lw_tbl[1965]? = some (Cond.instanceMethod yX12_treaty) := by decide +kernel
theorem kv_1966 : lw_tbl[1966]? = some (Cond.selects RX12 yX12_treaty yX12_treaty) := by decide +kernel
theorem kv_1967 : lw_tbl[1967]? = some (Cond.code yX12_treaty cX12_treaty 6 (some .int)) := by decide +kernel
theorem kv_1968 : lw_tbl[1968]? = some (Cond.methodLink RX12 390 yJ9_min_7cf53) := by decide +kernel
theorem kv_1970 : lw_tbl[1970]? = some (Cond.instanceMethod yX12_escorts) := by decide +kernel
theorem kv_1971 : lw_tbl[1971]? = some (Cond.selects RX12 yX12_escorts yX12_escorts) := by decide +kernel
theorem kv_1972 : lw_tbl[1972]? = some (Cond.code yX12_escorts cX12_escorts 3 (some .int)) := by decide +kernel
theorem kv_1973 : lw_tbl[1973]? = some (Cond.methodLink RX12 406 yX12_tryEscorts) := by decide +kernel
theorem kv_1975 : lw_tbl[1975]? = some (Cond.instanceMethod yX12_tryEscorts) := by decide +kernel
theorem kv_1976 : lw_tbl[1976]? = some (Cond.code yX12_tryEscorts cX12_tryEscorts 6 none) := by decide +kernel
theorem kv_1977 : lw_tbl[1977]? = some (Cond.methodLink RX12 392 yJ6_bitCount_0f7a4) := by decide +kernel
theorem kv_1978 : lw_tbl[1978]? = some (Cond.methodLink RX12 403 yX12_canEscort) := by decide +kernel
theorem kv_1980 : lw_tbl[1980]? = some (Cond.instanceMethod yX12_canEscort) := by decide +kernel
theorem kv_1981 : lw_tbl[1981]? = some (Cond.code yX12_canEscort cX12_canEscort 3 (some .boolean)) := by decide +kernel
theorem kv_1982 : lw_tbl[1982]? = some (Cond.methodLink RX12 410 yX12_isEscorted) := by decide +kernel
theorem kv_1984 : lw_tbl[1984]? = some (Cond.instanceMethod yX12_isEscorted) := by decide +kernel
theorem kv_1985 : lw_tbl[1985]? = some (Cond.code yX12_isEscorted cX12_isEscorted 3 (some .boolean)) := by decide +kernel
theorem kv_1987 : lw_tbl[1987]? = some (Cond.instanceMethod yX12_loophole) := by decide +kernel
theorem kv_1988 : lw_tbl[1988]? = some (Cond.selects RX12 yX12_loophole yX12_loophole) := by decide +kernel
theorem kv_1989 : lw_tbl[1989]? = some (Cond.code yX12_loophole cX12_loophole 2 (some .int)) := by decide +kernel
theorem kv_1990 : lw_tbl[1990]? = some (Cond.methodLink RX12 413 yX12_looseBy) := by decide +kernel
theorem kv_1992 : lw_tbl[1992]? = some (Cond.instanceMethod yX12_looseBy) := by decide +kernel
theorem kv_1993 : lw_tbl[1993]? = some (Cond.code yX12_looseBy cX12_looseBy 4 (some .int)) := by decide +kernel
theorem kv_1995 : lw_tbl[1995]? = some (Cond.instanceMethod yX12_closed) := by decide +kernel
theorem kv_1996 : lw_tbl[1996]? = some (Cond.selects RX12 yX12_closed yX12_closed) := by decide +kernel
theorem kv_1997 : lw_tbl[1997]? = some (Cond.code yX12_closed cX12_closed 5 (some .int)) := by decide +kernel
theorem kv_1999 : lw_tbl[1999]? = some (Cond.instanceMethod yX12_reads) := by decide +kernel
theorem kv_2000 : lw_tbl[2000]? = some (Cond.selects RX12 yX12_reads yX12_reads) := by decide +kernel
theorem kv_2001 : lw_tbl[2001]? = some (Cond.code yX12_reads cX12_reads 4 (some .int)) := by decide +kernel
theorem kv_2003 : lw_tbl[2003]? = some (Cond.instanceMethod yX12_away) := by decide +kernel
theorem kv_2004 : lw_tbl[2004]? = some (Cond.selects RX12 yX12_away yX12_away) := by decide +kernel
theorem kv_2005 : lw_tbl[2005]? = some (Cond.code yX12_away cX12_away 4 (some .int)) := by decide +kernel
theorem kv_2006 : lw_tbl[2006]? = some (Cond.methodLink RX12 416 yX12_isAhead) := by decide +kernel
theorem kv_2008 : lw_tbl[2008]? = some (Cond.instanceMethod yX12_isAhead) := by decide +kernel
theorem kv_2009 : lw_tbl[2009]? = some (Cond.code yX12_isAhead cX12_isAhead 3 (some .boolean)) := by decide +kernel
theorem kv_2011 : lw_tbl[2011]? = some (Cond.instanceMethod yX12_forced) := by decide +kernel
theorem kv_2012 : lw_tbl[2012]? = some (Cond.selects RX12 yX12_forced yX12_forced) := by decide +kernel
theorem kv_2013 : lw_tbl[2013]? = some (Cond.code yX12_forced cX12_forced 5 (some .int)) := by decide +kernel
theorem kv_2015 : lw_tbl[2015]? = some (Cond.instanceMethod yX12_soonest) := by decide +kernel
theorem kv_2016 : lw_tbl[2016]? = some (Cond.selects RX12 yX12_soonest yX12_soonest) := by decide +kernel
theorem kv_2017 : lw_tbl[2017]? = some (Cond.code yX12_soonest cX12_soonest 2 (some .int)) := by decide +kernel
theorem kv_2018 : lw_tbl[2018]? = some (Cond.methodLink RX12 419 yX12_farthest) := by decide +kernel
theorem kv_2020 : lw_tbl[2020]? = some (Cond.instanceMethod yX12_farthest) := by decide +kernel
theorem kv_2021 : lw_tbl[2021]? = some (Cond.code yX12_farthest cX12_farthest 4 (some .int)) := by decide +kernel
theorem kv_2023 : lw_tbl[2023]? = some (Cond.instanceMethod yX12_pony) := by decide +kernel
theorem kv_2024 : lw_tbl[2024]? = some (Cond.selects RX12 yX12_pony yX12_pony) := by decide +kernel
theorem kv_2025 : lw_tbl[2025]? = some (Cond.code yX12_pony cX12_pony 2 (some .int)) := by decide +kernel
theorem kv_2027 : lw_tbl[2027]? = some (Cond.instanceMethod yX12_last) := by decide +kernel
theorem kv_2028 : lw_tbl[2028]? = some (Cond.selects RX12 yX12_last yX12_last) := by decide +kernel
theorem kv_2029 : lw_tbl[2029]? = some (Cond.code yX12_last cX12_last 1 (some .int)) := by decide +kernel
theorem kv_2031 : lw_tbl[2031]? = some (Cond.instanceMethod yX12_behind) := by decide +kernel
theorem kv_2032 : lw_tbl[2032]? = some (Cond.selects RX12 yX12_behind yX12_behind) := by decide +kernel
theorem kv_2033 : lw_tbl[2033]? = some (Cond.code yX12_behind cX12_behind 2 (some .int)) := by decide +kernel
theorem kv_2035 : lw_tbl[2035]? = some (Cond.instanceMethod yX12_next) := by decide +kernel
theorem kv_2036 : lw_tbl[2036]? = some (Cond.selects RX12 yX12_next yX12_next) := by decide +kernel
theorem kv_2037 : lw_tbl[2037]? = some (Cond.code yX12_next cX12_next 4 (some .int)) := by decide +kernel
theorem kv_2039 : lw_tbl[2039]? = some (Cond.instanceMethod yX12_ahead) := by decide +kernel
theorem kv_2040 : lw_tbl[2040]? = some (Cond.selects RX12 yX12_ahead yX12_ahead) := by decide +kernel
theorem kv_2041 : lw_tbl[2041]? = some (Cond.code yX12_ahead cX12_ahead 4 (some .int)) := by decide +kernel
theorem kv_2043 : lw_tbl[2043]? = some (Cond.instanceMethod yX12_even) := by decide +kernel
theorem kv_2044 : lw_tbl[2044]? = some (Cond.selects RX12 yX12_even yX12_even) := by decide +kernel
theorem kv_2045 : lw_tbl[2045]? = some (Cond.code yX12_even cX12_even 3 (some .int)) := by decide +kernel
theorem kv_2047 : lw_tbl[2047]? = some (Cond.instanceMethod yX12_meeting) := by decide +kernel
theorem kv_2048 : lw_tbl[2048]? = some (Cond.selects RX12 yX12_meeting yX12_meeting) := by decide +kernel
theorem kv_2049 : lw_tbl[2049]? = some (Cond.code yX12_meeting cX12_meeting 3 (some .int)) := by decide +kernel
theorem kv_2051 : lw_tbl[2051]? = some (Cond.instanceMethod yX12_weary) := by decide +kernel
theorem kv_2052 : lw_tbl[2052]? = some (Cond.selects RX12 yX12_weary yX12_weary) := by decide +kernel
theorem kv_2053 : lw_tbl[2053]? = some (Cond.code yX12_weary cX12_weary 4 (some .int)) := by decide +kernel
theorem kv_2055 : lw_tbl[2055]? = some (Cond.instanceMethod yX12_gets) := by decide +kernel
theorem kv_2056 : lw_tbl[2056]? = some (Cond.selects RX12 yX12_gets yX12_gets) := by decide +kernel
theorem kv_2057 : lw_tbl[2057]? = some (Cond.code yX12_gets cX12_gets 3 (some .int)) := by decide +kernel
theorem kv_2058 : lw_tbl[2058]? = some (Cond.methodLink RX12 422 yX12_getsOf) := by decide +kernel
theorem kv_2060 : lw_tbl[2060]? = some (Cond.instanceMethod yX12_getsOf) := by decide +kernel
theorem kv_2061 : lw_tbl[2061]? = some (Cond.code yX12_getsOf cX12_getsOf 7 (some .int)) := by decide +kernel
theorem kv_2063 : lw_tbl[2063]? = some (Cond.instanceMethod yX12_resting) := by decide +kernel
theorem kv_2064 : lw_tbl[2064]? = some (Cond.selects RX12 yX12_resting yX12_resting) := by decide +kernel
theorem kv_2065 : lw_tbl[2065]? = some (Cond.code yX12_resting cX12_resting 6 (some .int)) := by decide +kernel
theorem kv_2067 : lw_tbl[2067]? = some (Cond.instanceMethod yX12_letter) := by decide +kernel
theorem kv_2068 : lw_tbl[2068]? = some (Cond.selects RX12 yX12_letter yX12_letter) := by decide +kernel
theorem kv_2069 : lw_tbl[2069]? = some (Cond.code yX12_letter cX12_letter 3 (some .int)) := by decide +kernel
theorem kv_2071 : lw_tbl[2071]? = some (Cond.instanceMethod yX12_fit) := by decide +kernel
theorem kv_2072 : lw_tbl[2072]? = some (Cond.selects RX12 yX12_fit yX12_fit) := by decide +kernel
theorem kv_2073 : lw_tbl[2073]? = some (Cond.code yX12_fit cX12_fit 5 (some .int)) := by decide +kernel
theorem kv_2074 : lw_tbl[2074]? = some (Cond.methodLink RX12 425 yX12_power) := by decide +kernel
theorem kv_2075 : lw_tbl[2075]? = some (Cond.static yX12_power) := by decide +kernel
theorem kv_2076 : lw_tbl[2076]? = some (Cond.code yX12_power cX12_power 1 (some .int)) := by decide +kernel
theorem kv_2077 : lw_tbl[2077]? = some (Cond.methodLink RX12 431 yX12_isSoBy) := by decide +kernel
theorem kv_2079 : lw_tbl[2079]? = some (Cond.instanceMethod yX12_isSoBy) := by decide +kernel
theorem kv_2080 : lw_tbl[2080]? = some (Cond.code yX12_isSoBy cX12_isSoBy 5 (some .boolean)) := by decide +kernel
theorem kv_2081 : lw_tbl[2081]? = some (Cond.methodLink RX12 428 yX12_within) := by decide +kernel
theorem kv_2082 : lw_tbl[2082]? = some (Cond.static yX12_within) := by decide +kernel
theorem kv_2083 : lw_tbl[2083]? = some (Cond.code yX12_within cX12_within 8 (some .int)) := by decide +kernel
theorem kv_2085 : lw_tbl[2085]? = some (Cond.instanceMethod yX12_ask) := by decide +kernel
theorem kv_2086 : lw_tbl[2086]? = some (Cond.selects RX12 yX12_ask yX12_ask) := by decide +kernel
theorem kv_2087 : lw_tbl[2087]? = some (Cond.code yX12_ask cX12_ask 8 (some .int)) := by decide +kernel
theorem kv_2088 : lw_tbl[2088]? = some (Cond.methodLink RX12 434 yX12_fit) := by decide +kernel
theorem kv_2090 : lw_tbl[2090]? = some (Cond.instanceMethod yX12_sure) := by decide +kernel
theorem kv_2091 : lw_tbl[2091]? = some (Cond.selects RX12 yX12_sure yX12_sure) := by decide +kernel
theorem kv_2092 : lw_tbl[2092]? = some (Cond.code yX12_sure cX12_sure 7 (some .int)) := by decide +kernel
theorem kv_2094 : lw_tbl[2094]? = some (Cond.instanceMethod yX12_odds) := by decide +kernel
theorem kv_2095 : lw_tbl[2095]? = some (Cond.selects RX12 yX12_odds yX12_odds) := by decide +kernel
theorem kv_2096 : lw_tbl[2096]? = some (Cond.code yX12_odds cX12_odds 3 (some .int)) := by decide +kernel
theorem kv_2097 : lw_tbl[2097]? = some (Cond.methodLink RX12 441 yX12_oddsOf) := by decide +kernel
theorem kv_2099 : lw_tbl[2099]? = some (Cond.instanceMethod yX12_oddsOf) := by decide +kernel
theorem kv_2100 : lw_tbl[2100]? = some (Cond.code yX12_oddsOf cX12_oddsOf 7 (some .int)) := by decide +kernel
theorem kv_2101 : lw_tbl[2101]? = some (Cond.constantLong RX12 437 (1000000000 : Int64)) := by decide +kernel
theorem kv_2102 : lw_tbl[2102]? = some (Cond.constantLong RX12 439 (10 : Int64)) := by decide +kernel
theorem kv_2104 : lw_tbl[2104]? = some (Cond.instanceMethod yX12_hurry) := by decide +kernel
theorem kv_2105 : lw_tbl[2105]? = some (Cond.selects RX12 yX12_hurry yX12_hurry) := by decide +kernel
theorem kv_2106 : lw_tbl[2106]? = some (Cond.code yX12_hurry cX12_hurry 7 (some .int)) := by decide +kernel
theorem kv_2108 : lw_tbl[2108]? = some (Cond.instanceMethod yX12_image) := by decide +kernel
theorem kv_2109 : lw_tbl[2109]? = some (Cond.selects RX12 yX12_image yX12_image) := by decide +kernel
theorem kv_2110 : lw_tbl[2110]? = some (Cond.code yX12_image cX12_image 2 (some .int)) := by decide +kernel
theorem kv_2112 : lw_tbl[2112]? = some (Cond.instanceMethod yX12_back) := by decide +kernel
theorem kv_2113 : lw_tbl[2113]? = some (Cond.selects RX12 yX12_back yX12_back) := by decide +kernel
theorem kv_2114 : lw_tbl[2114]? = some (Cond.code yX12_back cX12_back 2 (some .int)) := by decide +kernel
theorem kv_2116 : lw_tbl[2116]? = some (Cond.instanceMethod yX12_count) := by decide +kernel
theorem kv_2117 : lw_tbl[2117]? = some (Cond.selects RX12 yX12_count yX12_count) := by decide +kernel
theorem kv_2118 : lw_tbl[2118]? = some (Cond.code yX12_count cX12_count 2 (some .int)) := by decide +kernel
theorem kv_2137 : lw_tbl[2137]? = some (Cond.fieldLink RJ0 15 "java/lang/String" "coder" "B") := by decide +kernel
theorem kv_2138 : lw_tbl[2138]? = some (Cond.fieldLink RJ0 9 "java/lang/String" "value" "[B") := by decide +kernel
