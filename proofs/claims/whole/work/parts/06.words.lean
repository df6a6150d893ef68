theorem am_in_ws {ws : List Cond} (ps : List Nat) (h : ws = ps.filterMap (fun i => lw_tbl[i]?)) (g : ws.all goodWord = true) : ∀ w ∈ ws, w ∈ am_gd := by
  intro w hw
  refine List.mem_filter.mpr ⟨?_, List.all_eq_true.mp g w hw⟩
  rw [h] at hw
  obtain ⟨i, -, hi⟩ := List.mem_filterMap.mp hw
  exact List.mem_of_getElem? hi
theorem clX0 : vwCl[0]? = some (RX0, TX0, 12) := rfl
theorem inX0 : ∀ w ∈ u_ws RX0 TX0 12, w ∈ am_gd := am_in_ws [436, 438, 440, 442, 444, 446, 448, 450, 452, 454, 456, 458] (by decide +kernel) (by decide +kernel)
theorem clX1 : vwCl[1]? = some (RX1, TX1, 4) := rfl
theorem inX1 : ∀ w ∈ u_ws RX1 TX1 4, w ∈ am_gd := am_in_ws [471, 473, 475, 477] (by decide +kernel) (by decide +kernel)
theorem clX2 : vwCl[2]? = some (RX2, TX2, 4) := rfl
theorem inX2 : ∀ w ∈ u_ws RX2 TX2 4, w ∈ am_gd := am_in_ws [285, 287, 289, 291] (by decide +kernel) (by decide +kernel)
theorem clX3 : vwCl[3]? = some (RX3, TX3, 7) := rfl
theorem inX3 : ∀ w ∈ u_ws RX3 TX3 7, w ∈ am_gd := am_in_ws [314, 316, 318, 320, 322, 324, 326] (by decide +kernel) (by decide +kernel)
theorem clX4 : vwCl[4]? = some (RX4, TX4, 6) := rfl
theorem inX4 : ∀ w ∈ u_ws RX4 TX4 6, w ∈ am_gd := am_in_ws [494, 496, 498, 500, 502, 504] (by decide +kernel) (by decide +kernel)
theorem clX5 : vwCl[5]? = some (RX5, TX5, 4) := rfl
theorem inX5 : ∀ w ∈ u_ws RX5 TX5 4, w ∈ am_gd := am_in_ws [375, 377, 379, 381] (by decide +kernel) (by decide +kernel)
theorem clX6 : vwCl[6]? = some (RX6, TX6, 8) := rfl
theorem inX6 : ∀ w ∈ u_ws RX6 TX6 8, w ∈ am_gd := am_in_ws [400, 402, 404, 406, 408, 410, 412, 414] (by decide +kernel) (by decide +kernel)
theorem clX7 : vwCl[7]? = some (RX7, TX7, 7) := rfl
theorem inX7 : ∀ w ∈ u_ws RX7 TX7 7, w ∈ am_gd := am_in_ws [349, 351, 353, 355, 357, 359, 361] (by decide +kernel) (by decide +kernel)
theorem clX8 : vwCl[8]? = some (RX8, TX8, 2) := rfl
theorem inX8 : ∀ w ∈ u_ws RX8 TX8 2, w ∈ am_gd := am_in_ws [161, 163] (by decide +kernel) (by decide +kernel)
theorem clX9 : vwCl[9]? = some (RX9, TX9, 15) := rfl
theorem inX9 : ∀ w ∈ u_ws RX9 TX9 15, w ∈ am_gd := am_in_ws [217, 219, 221, 223, 225, 227, 229, 231, 233, 235, 237, 239, 241, 243, 245] (by decide +kernel) (by decide +kernel)
theorem clX10 : vwCl[10]? = some (RX10, TX10, 6) := rfl
theorem inX10 : ∀ w ∈ u_ws RX10 TX10 6, w ∈ am_gd := am_in_ws [260, 262, 264, 266, 268, 270] (by decide +kernel) (by decide +kernel)
theorem clX11 : vwCl[11]? = some (RX11, TX11, 15) := rfl
theorem inX11 : ∀ w ∈ u_ws RX11 TX11 15, w ∈ am_gd := am_in_ws [522, 524, 526, 528, 530, 532, 534, 536, 538, 540, 542, 544, 546, 548, 550] (by decide +kernel) (by decide +kernel)
theorem clX12 : vwCl[12]? = some (RX12, TX12, 44) := rfl
theorem inX12 : ∀ w ∈ u_ws RX12 TX12 44, w ∈ am_gd := am_in_ws [1527, 1529, 1531, 1533, 1535, 1537, 1539, 1541, 1543, 1545, 1547, 1549, 1551, 1553, 1555, 1557, 1559, 1561, 1563, 1565, 1567, 1569, 1571, 1573, 1575, 1577, 1579, 1581, 1583, 1585, 1587, 1589, 1591, 1593, 1595, 1597, 1599, 1601, 1603, 1605, 1607, 1609, 1611, 1613] (by decide +kernel) (by decide +kernel)
theorem cb_10 : (Int8.ofInt 10).toInt32 = (10 : Int32) := by decide
theorem cb_100 : (Int8.ofInt 100).toInt32 = (100 : Int32) := by decide
theorem cb_103 : (Int8.ofInt 103).toInt32 = (103 : Int32) := by decide
theorem cb_105 : (Int8.ofInt 105).toInt32 = (105 : Int32) := by decide
theorem cb_107 : (Int8.ofInt 107).toInt32 = (107 : Int32) := by decide
theorem cb_109 : (Int8.ofInt 109).toInt32 = (109 : Int32) := by decide
theorem cb_11 : (Int8.ofInt 11).toInt32 = (11 : Int32) := by decide
theorem cb_110 : (Int8.ofInt 110).toInt32 = (110 : Int32) := by decide
theorem cb_111 : (Int8.ofInt 111).toInt32 = (111 : Int32) := by decide
theorem cb_112 : (Int8.ofInt 112).toInt32 = (112 : Int32) := by decide
theorem cb_115 : (Int8.ofInt 115).toInt32 = (115 : Int32) := by decide
theorem cb_118 : (Int8.ofInt 118).toInt32 = (118 : Int32) := by decide
theorem cb_119 : (Int8.ofInt 119).toInt32 = (119 : Int32) := by decide
theorem cb_12 : (Int8.ofInt 12).toInt32 = (12 : Int32) := by decide
theorem cb_120 : (Int8.ofInt 120).toInt32 = (120 : Int32) := by decide
theorem cb_121 : (Int8.ofInt 121).toInt32 = (121 : Int32) := by decide
theorem cb_124 : (Int8.ofInt 124).toInt32 = (124 : Int32) := by decide
theorem cb_16 : (Int8.ofInt 16).toInt32 = (16 : Int32) := by decide
theorem cb_20 : (Int8.ofInt 20).toInt32 = (20 : Int32) := by decide
theorem cb_21 : (Int8.ofInt 21).toInt32 = (21 : Int32) := by decide
theorem cb_24 : (Int8.ofInt 24).toInt32 = (24 : Int32) := by decide
theorem cb_25 : (Int8.ofInt 25).toInt32 = (25 : Int32) := by decide
theorem cb_26 : (Int8.ofInt 26).toInt32 = (26 : Int32) := by decide
theorem cb_32 : (Int8.ofInt 32).toInt32 = (32 : Int32) := by decide
theorem cb_33 : (Int8.ofInt 33).toInt32 = (33 : Int32) := by decide
theorem cb_38 : (Int8.ofInt 38).toInt32 = (38 : Int32) := by decide
theorem cb_40 : (Int8.ofInt 40).toInt32 = (40 : Int32) := by decide
theorem cb_41 : (Int8.ofInt 41).toInt32 = (41 : Int32) := by decide
theorem cb_42 : (Int8.ofInt 42).toInt32 = (42 : Int32) := by decide
theorem cb_43 : (Int8.ofInt 43).toInt32 = (43 : Int32) := by decide
theorem cb_45 : (Int8.ofInt 45).toInt32 = (45 : Int32) := by decide
theorem cb_47 : (Int8.ofInt 47).toInt32 = (47 : Int32) := by decide
theorem cb_48 : (Int8.ofInt 48).toInt32 = (48 : Int32) := by decide
theorem cb_57 : (Int8.ofInt 57).toInt32 = (57 : Int32) := by decide
theorem cb_58 : (Int8.ofInt 58).toInt32 = (58 : Int32) := by decide
theorem cb_59 : (Int8.ofInt 59).toInt32 = (59 : Int32) := by decide
theorem cb_6 : (Int8.ofInt 6).toInt32 = (6 : Int32) := by decide
theorem cb_60 : (Int8.ofInt 60).toInt32 = (60 : Int32) := by decide
theorem cb_61 : (Int8.ofInt 61).toInt32 = (61 : Int32) := by decide
theorem cb_62 : (Int8.ofInt 62).toInt32 = (62 : Int32) := by decide
theorem cb_63 : (Int8.ofInt 63).toInt32 = (63 : Int32) := by decide
theorem cb_7 : (Int8.ofInt 7).toInt32 = (7 : Int32) := by decide
theorem cb_8 : (Int8.ofInt 8).toInt32 = (8 : Int32) := by decide
theorem cb_84 : (Int8.ofInt 84).toInt32 = (84 : Int32) := by decide
theorem cb_9 : (Int8.ofInt 9).toInt32 = (9 : Int32) := by decide
theorem cb_91 : (Int8.ofInt 91).toInt32 = (91 : Int32) := by decide
theorem cb_93 : (Int8.ofInt 93).toInt32 = (93 : Int32) := by decide
theorem cb_98 : (Int8.ofInt 98).toInt32 = (98 : Int32) := by decide
theorem cb_m2 : (Int8.ofInt (-2)).toInt32 = ((-2) : Int32) := by decide
theorem ci_0 : Int32.ofInt 0 = (0 : Int32) := by decide
theorem ci_1 : Int32.ofInt 1 = (1 : Int32) := by decide
theorem ci_2 : Int32.ofInt 2 = (2 : Int32) := by decide
theorem ci_3 : Int32.ofInt 3 = (3 : Int32) := by decide
theorem ci_4 : Int32.ofInt 4 = (4 : Int32) := by decide
theorem ci_5 : Int32.ofInt 5 = (5 : Int32) := by decide
theorem ci_m1 : Int32.ofInt (-1) = ((-1) : Int32) := by decide
theorem cl__0 : Int64.ofNat ((0 : Fin 2) : Nat) = (0 : Int64) := by decide
theorem cn_88200 : Int32.ofNat 88200 = (88200 : Int32) := by decide
theorem cs_140 : (Int16.ofInt 140).toInt32 = (140 : Int32) := by decide
theorem cs_180 : (Int16.ofInt 180).toInt32 = (180 : Int32) := by decide
theorem cs_206 : (Int16.ofInt 206).toInt32 = (206 : Int32) := by decide
theorem cs_240 : (Int16.ofInt 240).toInt32 = (240 : Int32) := by decide
theorem cs_255 : (Int16.ofInt 255).toInt32 = (255 : Int32) := by decide
theorem cs_520 : (Int16.ofInt 520).toInt32 = (520 : Int32) := by decide
theorem cs_8240 : (Int16.ofInt 8240).toInt32 = (8240 : Int32) := by decide
theorem cs_9999 : (Int16.ofInt 9999).toInt32 = (9999 : Int32) := by decide
theorem kw_1227 : Cond.constant RJ6 265 (1431655765 : Int32) ∈ am_gd := am_mem 1227 (by decide +kernel) rfl
theorem kw_1228 : Cond.constant RJ6 266 (858993459 : Int32) ∈ am_gd := am_mem 1228 (by decide +kernel) rfl
theorem kw_1229 : Cond.constant RJ6 267 (252645135 : Int32) ∈ am_gd := am_mem 1229 (by decide +kernel) rfl
theorem kw_1483 : Cond.fieldLink RX12 91 (TX12 0).1 (TX12 0).2.1 (TX12 0).2.2.1 ∈ am_gd := am_mem 1483 (by decide +kernel) rfl
theorem kw_1484 : Cond.fieldLink RX12 9 (TX12 1).1 (TX12 1).2.1 (TX12 1).2.2.1 ∈ am_gd := am_mem 1484 (by decide +kernel) rfl
theorem kw_1485 : Cond.fieldLink RX12 98 (TX12 2).1 (TX12 2).2.1 (TX12 2).2.2.1 ∈ am_gd := am_mem 1485 (by decide +kernel) rfl
theorem kw_1486 : Cond.fieldLink RX12 101 (TX12 3).1 (TX12 3).2.1 (TX12 3).2.2.1 ∈ am_gd := am_mem 1486 (by decide +kernel) rfl
theorem kw_1487 : Cond.fieldLink RX12 108 (TX12 4).1 (TX12 4).2.1 (TX12 4).2.2.1 ∈ am_gd := am_mem 1487 (by decide +kernel) rfl
theorem kw_1488 : Cond.fieldLink RX12 114 (TX12 5).1 (TX12 5).2.1 (TX12 5).2.2.1 ∈ am_gd := am_mem 1488 (by decide +kernel) rfl
theorem kw_1489 : Cond.fieldLink RX12 13 (TX12 6).1 (TX12 6).2.1 (TX12 6).2.2.1 ∈ am_gd := am_mem 1489 (by decide +kernel) rfl
theorem kw_1490 : Cond.fieldLink RX12 16 (TX12 7).1 (TX12 7).2.1 (TX12 7).2.2.1 ∈ am_gd := am_mem 1490 (by decide +kernel) rfl
theorem kw_1491 : Cond.fieldLink RX12 19 (TX12 8).1 (TX12 8).2.1 (TX12 8).2.2.1 ∈ am_gd := am_mem 1491 (by decide +kernel) rfl
theorem kw_1492 : Cond.fieldLink RX12 22 (TX12 9).1 (TX12 9).2.1 (TX12 9).2.2.1 ∈ am_gd := am_mem 1492 (by decide +kernel) rfl
theorem kw_1493 : Cond.fieldLink RX12 25 (TX12 10).1 (TX12 10).2.1 (TX12 10).2.2.1 ∈ am_gd := am_mem 1493 (by decide +kernel) rfl
theorem kw_1494 : Cond.fieldLink RX12 28 (TX12 11).1 (TX12 11).2.1 (TX12 11).2.2.1 ∈ am_gd := am_mem 1494 (by decide +kernel) rfl
theorem kw_1495 : Cond.fieldLink RX12 31 (TX12 12).1 (TX12 12).2.1 (TX12 12).2.2.1 ∈ am_gd := am_mem 1495 (by decide +kernel) rfl
theorem kw_1496 : Cond.fieldLink RX12 272 (TX12 13).1 (TX12 13).2.1 (TX12 13).2.2.1 ∈ am_gd := am_mem 1496 (by decide +kernel) rfl
theorem kw_1497 : Cond.fieldLink RX12 111 (TX12 14).1 (TX12 14).2.1 (TX12 14).2.2.1 ∈ am_gd := am_mem 1497 (by decide +kernel) rfl
theorem kw_1498 : Cond.fieldLink RX12 34 (TX12 15).1 (TX12 15).2.1 (TX12 15).2.2.1 ∈ am_gd := am_mem 1498 (by decide +kernel) rfl
theorem kw_1499 : Cond.fieldLink RX12 37 (TX12 16).1 (TX12 16).2.1 (TX12 16).2.2.1 ∈ am_gd := am_mem 1499 (by decide +kernel) rfl
theorem kw_1500 : Cond.fieldLink RX12 40 (TX12 17).1 (TX12 17).2.1 (TX12 17).2.2.1 ∈ am_gd := am_mem 1500 (by decide +kernel) rfl
theorem kw_1501 : Cond.fieldLink RX12 43 (TX12 18).1 (TX12 18).2.1 (TX12 18).2.2.1 ∈ am_gd := am_mem 1501 (by decide +kernel) rfl
theorem kw_1502 : Cond.fieldLink RX12 46 (TX12 19).1 (TX12 19).2.1 (TX12 19).2.2.1 ∈ am_gd := am_mem 1502 (by decide +kernel) rfl
theorem kw_1503 : Cond.fieldLink RX12 230 (TX12 20).1 (TX12 20).2.1 (TX12 20).2.2.1 ∈ am_gd := am_mem 1503 (by decide +kernel) rfl
theorem kw_1504 : Cond.fieldLink RX12 233 (TX12 21).1 (TX12 21).2.1 (TX12 21).2.2.1 ∈ am_gd := am_mem 1504 (by decide +kernel) rfl
theorem kw_1505 : Cond.fieldLink RX12 49 (TX12 22).1 (TX12 22).2.1 (TX12 22).2.2.1 ∈ am_gd := am_mem 1505 (by decide +kernel) rfl
theorem kw_1506 : Cond.fieldLink RX12 52 (TX12 23).1 (TX12 23).2.1 (TX12 23).2.2.1 ∈ am_gd := am_mem 1506 (by decide +kernel) rfl
theorem kw_1507 : Cond.fieldLink RX12 55 (TX12 24).1 (TX12 24).2.1 (TX12 24).2.2.1 ∈ am_gd := am_mem 1507 (by decide +kernel) rfl
theorem kw_1508 : Cond.fieldLink RX12 250 (TX12 25).1 (TX12 25).2.1 (TX12 25).2.2.1 ∈ am_gd := am_mem 1508 (by decide +kernel) rfl
theorem kw_1509 : Cond.fieldLink RX12 253 (TX12 26).1 (TX12 26).2.1 (TX12 26).2.2.1 ∈ am_gd := am_mem 1509 (by decide +kernel) rfl
theorem kw_1510 : Cond.fieldLink RX12 58 (TX12 27).1 (TX12 27).2.1 (TX12 27).2.2.1 ∈ am_gd := am_mem 1510 (by decide +kernel) rfl
theorem kw_1511 : Cond.fieldLink RX12 61 (TX12 28).1 (TX12 28).2.1 (TX12 28).2.2.1 ∈ am_gd := am_mem 1511 (by decide +kernel) rfl
theorem kw_1512 : Cond.fieldLink RX12 65 (TX12 29).1 (TX12 29).2.1 (TX12 29).2.2.1 ∈ am_gd := am_mem 1512 (by decide +kernel) rfl
theorem kw_1513 : Cond.fieldLink RX12 262 (TX12 30).1 (TX12 30).2.1 (TX12 30).2.2.1 ∈ am_gd := am_mem 1513 (by decide +kernel) rfl
theorem kw_1514 : Cond.fieldLink RX12 338 (TX12 31).1 (TX12 31).2.1 (TX12 31).2.2.1 ∈ am_gd := am_mem 1514 (by decide +kernel) rfl
theorem kw_1515 : Cond.fieldLink RX12 69 (TX12 32).1 (TX12 32).2.1 (TX12 32).2.2.1 ∈ am_gd := am_mem 1515 (by decide +kernel) rfl
theorem kw_1516 : Cond.fieldLink RX12 72 (TX12 33).1 (TX12 33).2.1 (TX12 33).2.2.1 ∈ am_gd := am_mem 1516 (by decide +kernel) rfl
theorem kw_1517 : Cond.fieldLink RX12 366 (TX12 34).1 (TX12 34).2.1 (TX12 34).2.2.1 ∈ am_gd := am_mem 1517 (by decide +kernel) rfl
theorem kw_1518 : Cond.fieldLink RX12 397 (TX12 35).1 (TX12 35).2.1 (TX12 35).2.2.1 ∈ am_gd := am_mem 1518 (by decide +kernel) rfl
theorem kw_1519 : Cond.fieldLink RX12 400 (TX12 36).1 (TX12 36).2.1 (TX12 36).2.2.1 ∈ am_gd := am_mem 1519 (by decide +kernel) rfl
theorem kw_1520 : Cond.fieldLink RX12 75 (TX12 37).1 (TX12 37).2.1 (TX12 37).2.2.1 ∈ am_gd := am_mem 1520 (by decide +kernel) rfl
theorem kw_1521 : Cond.fieldLink RX12 78 (TX12 38).1 (TX12 38).2.1 (TX12 38).2.2.1 ∈ am_gd := am_mem 1521 (by decide +kernel) rfl
theorem kw_1522 : Cond.fieldLink RX12 259 (TX12 39).1 (TX12 39).2.1 (TX12 39).2.2.1 ∈ am_gd := am_mem 1522 (by decide +kernel) rfl
theorem kw_1523 : Cond.fieldLink RX12 81 (TX12 40).1 (TX12 40).2.1 (TX12 40).2.2.1 ∈ am_gd := am_mem 1523 (by decide +kernel) rfl
theorem kw_1524 : Cond.fieldLink RX12 84 (TX12 41).1 (TX12 41).2.1 (TX12 41).2.2.1 ∈ am_gd := am_mem 1524 (by decide +kernel) rfl
theorem kw_1525 : Cond.fieldLink RX12 88 (TX12 42).1 (TX12 42).2.1 (TX12 42).2.2.1 ∈ am_gd := am_mem 1525 (by decide +kernel) rfl
theorem kw_1526 : Cond.fieldLink RX12 265 (TX12 43).1 (TX12 43).2.1 (TX12 43).2.2.1 ∈ am_gd := am_mem 1526 (by decide +kernel) rfl
theorem kw_1624 : Cond.methodLink RX12 94 yX12_byteOf ∈ am_gd := am_mem 1624 (by decide +kernel) rfl
theorem kw_1635 : Cond.methodLink RX12 244 yX12_readWar ∈ am_gd := am_mem 1635 (by decide +kernel) rfl
theorem kw_1639 : Cond.methodLink RX12 210 yX12_usual ∈ am_gd := am_mem 1639 (by decide +kernel) rfl
theorem kw_1642 : Cond.methodLink RX12 120 yX12_look ∈ am_gd := am_mem 1642 (by decide +kernel) rfl
theorem kw_1646 : Cond.methodLink RX12 104 yX12_here ∈ am_gd := am_mem 1646 (by decide +kernel) rfl
theorem kw_1650 : Cond.methodLink RX12 236 yX12_items ∈ am_gd := am_mem 1650 (by decide +kernel) rfl
theorem kw_1654 : Cond.methodLink RX12 214 yX12_itemOf ∈ am_gd := am_mem 1654 (by decide +kernel) rfl
theorem kw_1657 : Cond.methodLink RX12 217 yX12_has ∈ am_gd := am_mem 1657 (by decide +kernel) rfl
theorem kw_1660 : Cond.methodLink RX12 221 yX12_lowest ∈ am_gd := am_mem 1660 (by decide +kernel) rfl
theorem kw_1663 : Cond.methodLink RX12 224 yX12_highest ∈ am_gd := am_mem 1663 (by decide +kernel) rfl
theorem kw_1666 : Cond.methodLink RX12 227 yX12_number ∈ am_gd := am_mem 1666 (by decide +kernel) rfl
theorem kw_1670 : Cond.methodLink RX12 123 yX12_isDigit ∈ am_gd := am_mem 1670 (by decide +kernel) rfl
theorem kw_1673 : Cond.methodLink RX12 117 yX12_bad ∈ am_gd := am_mem 1673 (by decide +kernel) rfl
theorem kw_1677 : Cond.methodLink RX12 206 yX12_in ∈ am_gd := am_mem 1677 (by decide +kernel) rfl
theorem kw_1680 : Cond.methodLink RX12 240 yX12_isWhole ∈ am_gd := am_mem 1680 (by decide +kernel) rfl
theorem kw_1684 : Cond.methodLink RX12 247 yX12_readLaw ∈ am_gd := am_mem 1684 (by decide +kernel) rfl
theorem kw_1688 : Cond.methodLink RX12 172 yX12_open ∈ am_gd := am_mem 1688 (by decide +kernel) rfl
theorem kw_1692 : Cond.methodLink RX12 175 yX12_clause ∈ am_gd := am_mem 1692 (by decide +kernel) rfl
theorem kw_1696 : Cond.methodLink RX12 160 yX12_condition ∈ am_gd := am_mem 1696 (by decide +kernel) rfl
theorem kw_1700 : Cond.methodLink RX12 157 yX12_unit ∈ am_gd := am_mem 1700 (by decide +kernel) rfl
theorem kw_1704 : Cond.methodLink RX12 138 yX12_opens ∈ am_gd := am_mem 1704 (by decide +kernel) rfl
theorem kw_1708 : Cond.methodLink RX12 130 yX12_put ∈ am_gd := am_mem 1708 (by decide +kernel) rfl
theorem kw_1712 : Cond.methodLink RX12 144 yX12_closes ∈ am_gd := am_mem 1712 (by decide +kernel) rfl
theorem kw_1716 : Cond.methodLink RX12 141 yX12_sum ∈ am_gd := am_mem 1716 (by decide +kernel) rfl
theorem kw_1720 : Cond.methodLink RX12 151 yX12_term ∈ am_gd := am_mem 1720 (by decide +kernel) rfl
theorem kw_1724 : Cond.methodLink RX12 148 yX12_atom ∈ am_gd := am_mem 1724 (by decide +kernel) rfl
theorem kw_1728 : Cond.methodLink RX12 127 yX12_plainNumber ∈ am_gd := am_mem 1728 (by decide +kernel) rfl
theorem kw_1732 : Cond.methodLink RX12 134 yX12_letterOf ∈ am_gd := am_mem 1732 (by decide +kernel) rfl
theorem kw_1735 : Cond.methodLink RX12 163 yX12_compare ∈ am_gd := am_mem 1735 (by decide +kernel) rfl
theorem kw_1739 : Cond.methodLink RX12 154 yX12_isSign ∈ am_gd := am_mem 1739 (by decide +kernel) rfl
theorem kw_1742 : Cond.methodLink RX12 166 yX12_goOnAnd ∈ am_gd := am_mem 1742 (by decide +kernel) rfl
theorem kw_1746 : Cond.methodLink RX12 169 yX12_goOnOr ∈ am_gd := am_mem 1746 (by decide +kernel) rfl
theorem kw_1750 : Cond.methodLink RX12 178 yX12_atEnd ∈ am_gd := am_mem 1750 (by decide +kernel) rfl
theorem kw_1758 : Cond.methodLink RX12 269 yX12_takeWar ∈ am_gd := am_mem 1758 (by decide +kernel) rfl
theorem kw_1762 : Cond.methodLink RX12 256 yX12_comes ∈ am_gd := am_mem 1762 (by decide +kernel) rfl
theorem kw_1766 : Cond.methodLink RX12 275 yX12_restAt ∈ am_gd := am_mem 1766 (by decide +kernel) rfl
theorem kw_1774 : Cond.methodLink RX12 299 yX12_isMan ∈ am_gd := am_mem 1774 (by decide +kernel) rfl
theorem kw_1778 : Cond.methodLink RX12 287 yX12_isHome ∈ am_gd := am_mem 1778 (by decide +kernel) rfl
theorem kw_1782 : Cond.methodLink RX12 284 yX12_isHomeBy ∈ am_gd := am_mem 1782 (by decide +kernel) rfl
theorem kw_1786 : Cond.methodLink RX12 278 yX12_side ∈ am_gd := am_mem 1786 (by decide +kernel) rfl
theorem kw_1790 : Cond.methodLink RX12 281 yX12_worthOf ∈ am_gd := am_mem 1790 (by decide +kernel) rfl
theorem kw_1794 : Cond.methodLink RX12 202 yX12_workOut ∈ am_gd := am_mem 1794 (by decide +kernel) rfl
theorem kw_1798 : Cond.methodLink RX12 198 yX12_worked ∈ am_gd := am_mem 1798 (by decide +kernel) rfl
theorem kw_1801 : Cond.methodLink RX12 194 yX12_bounded ∈ am_gd := am_mem 1801 (by decide +kernel) rfl
theorem kw_1804 : Cond.constantLong RX12 181 (-1000000 : Int64) ∈ am_gd := am_mem 1804 (by decide +kernel) rfl
theorem kw_1805 : Cond.constantLong RX12 183 (1000000 : Int64) ∈ am_gd := am_mem 1805 (by decide +kernel) rfl
theorem kw_1806 : Cond.methodLink RX12 185 yJ9_min_f86c9 ∈ am_gd := am_mem 1806 (by decide +kernel) rfl
theorem kw_1809 : Cond.methodLink RX12 191 yJ9_max_f86c9 ∈ am_gd := am_mem 1809 (by decide +kernel) rfl
theorem kw_1824 : Cond.methodLink RX12 296 yX12_wonBy ∈ am_gd := am_mem 1824 (by decide +kernel) rfl
theorem kw_1828 : Cond.methodLink RX12 290 yX12_atHome ∈ am_gd := am_mem 1828 (by decide +kernel) rfl
theorem kw_1832 : Cond.methodLink RX12 293 yX12_of ∈ am_gd := am_mem 1832 (by decide +kernel) rfl
theorem kw_1840 : Cond.methodLink RX12 312 yX12_canGo ∈ am_gd := am_mem 1840 (by decide +kernel) rfl
theorem kw_1844 : Cond.methodLink RX12 305 yX12_isFree ∈ am_gd := am_mem 1844 (by decide +kernel) rfl
theorem kw_1848 : Cond.methodLink RX12 302 yX12_isOver ∈ am_gd := am_mem 1848 (by decide +kernel) rfl
theorem kw_1852 : Cond.methodLink RX12 315 yX12_keep ∈ am_gd := am_mem 1852 (by decide +kernel) rfl
theorem kw_1856 : Cond.methodLink RX12 318 yX12_goNow ∈ am_gd := am_mem 1856 (by decide +kernel) rfl
theorem kw_1860 : Cond.methodLink RX12 308 yX12_note ∈ am_gd := am_mem 1860 (by decide +kernel) rfl
theorem kw_1868 : Cond.methodLink RX12 321 yX12_canStay ∈ am_gd := am_mem 1868 (by decide +kernel) rfl
theorem kw_1872 : Cond.methodLink RX12 324 yX12_stayNow ∈ am_gd := am_mem 1872 (by decide +kernel) rfl
theorem kw_1880 : Cond.methodLink RX12 329 yX12_canPress ∈ am_gd := am_mem 1880 (by decide +kernel) rfl
theorem kw_1884 : Cond.methodLink RX12 332 yX12_pressNow ∈ am_gd := am_mem 1884 (by decide +kernel) rfl
theorem kw_1888 : Cond.methodLink RX12 327 yJ9_max_7cf53 ∈ am_gd := am_mem 1888 (by decide +kernel) rfl
theorem kw_1893 : Cond.methodLink RX12 335 yX12_endDay ∈ am_gd := am_mem 1893 (by decide +kernel) rfl
theorem kw_1901 : Cond.methodLink RX12 352 yX12_drawDeed ∈ am_gd := am_mem 1901 (by decide +kernel) rfl
theorem kw_1905 : Cond.methodLink RX12 346 yX12_draw ∈ am_gd := am_mem 1905 (by decide +kernel) rfl
theorem kw_1909 : Cond.constantLong RX12 342 (6364136223846793005 : Int64) ∈ am_gd := am_mem 1909 (by decide +kernel) rfl
theorem kw_1910 : Cond.constantLong RX12 344 (1442695040888963407 : Int64) ∈ am_gd := am_mem 1910 (by decide +kernel) rfl
theorem kw_1911 : Cond.methodLink RX12 349 yX12_pressLowest ∈ am_gd := am_mem 1911 (by decide +kernel) rfl
theorem kw_1923 : Cond.constant RX12 355 (-1000000 : Int32) ∈ am_gd := am_mem 1923 (by decide +kernel) rfl
theorem kw_1928 : Cond.methodLink RX12 372 yX12_canDuel ∈ am_gd := am_mem 1928 (by decide +kernel) rfl
theorem kw_1932 : Cond.methodLink RX12 375 yX12_duelWith ∈ am_gd := am_mem 1932 (by decide +kernel) rfl
theorem kw_1936 : Cond.methodLink RX12 360 yX12_outcomeOf ∈ am_gd := am_mem 1936 (by decide +kernel) rfl
theorem kw_1940 : Cond.methodLink RX12 356 yX12_place ∈ am_gd := am_mem 1940 (by decide +kernel) rfl
theorem kw_1943 : Cond.methodLink RX12 363 yX12_turned ∈ am_gd := am_mem 1943 (by decide +kernel) rfl
theorem kw_1946 : Cond.methodLink RX12 369 yX12_isBetter ∈ am_gd := am_mem 1946 (by decide +kernel) rfl
theorem kw_1949 : Cond.methodLink RX12 378 yJ9_abs_0f7a4 ∈ am_gd := am_mem 1949 (by decide +kernel) rfl
theorem kw_1954 : Cond.methodLink RX12 381 yX12_isSide ∈ am_gd := am_mem 1954 (by decide +kernel) rfl
theorem kw_1958 : Cond.methodLink RX12 384 yX12_wins ∈ am_gd := am_mem 1958 (by decide +kernel) rfl
theorem kw_1966 : Cond.methodLink RX12 387 yX12_foes ∈ am_gd := am_mem 1966 (by decide +kernel) rfl
theorem kw_1974 : Cond.methodLink RX12 390 yJ9_min_7cf53 ∈ am_gd := am_mem 1974 (by decide +kernel) rfl
theorem kw_1979 : Cond.methodLink RX12 406 yX12_tryEscorts ∈ am_gd := am_mem 1979 (by decide +kernel) rfl
theorem kw_1983 : Cond.methodLink RX12 392 yJ6_bitCount_0f7a4 ∈ am_gd := am_mem 1983 (by decide +kernel) rfl
theorem kw_1984 : Cond.methodLink RX12 403 yX12_canEscort ∈ am_gd := am_mem 1984 (by decide +kernel) rfl
theorem kw_1988 : Cond.methodLink RX12 410 yX12_isEscorted ∈ am_gd := am_mem 1988 (by decide +kernel) rfl
theorem kw_1996 : Cond.methodLink RX12 413 yX12_looseBy ∈ am_gd := am_mem 1996 (by decide +kernel) rfl
theorem kw_2012 : Cond.methodLink RX12 416 yX12_isAhead ∈ am_gd := am_mem 2012 (by decide +kernel) rfl
theorem kw_2024 : Cond.methodLink RX12 419 yX12_farthest ∈ am_gd := am_mem 2024 (by decide +kernel) rfl
theorem kw_2064 : Cond.methodLink RX12 422 yX12_getsOf ∈ am_gd := am_mem 2064 (by decide +kernel) rfl
theorem kw_2080 : Cond.methodLink RX12 425 yX12_power ∈ am_gd := am_mem 2080 (by decide +kernel) rfl
theorem kw_2083 : Cond.methodLink RX12 431 yX12_isSoBy ∈ am_gd := am_mem 2083 (by decide +kernel) rfl
theorem kw_2087 : Cond.methodLink RX12 428 yX12_within ∈ am_gd := am_mem 2087 (by decide +kernel) rfl
theorem kw_2094 : Cond.methodLink RX12 434 yX12_fit ∈ am_gd := am_mem 2094 (by decide +kernel) rfl
theorem kw_2103 : Cond.methodLink RX12 441 yX12_oddsOf ∈ am_gd := am_mem 2103 (by decide +kernel) rfl
theorem kw_2107 : Cond.constantLong RX12 437 (1000000000 : Int64) ∈ am_gd := am_mem 2107 (by decide +kernel) rfl
theorem kw_2108 : Cond.constantLong RX12 439 (10 : Int64) ∈ am_gd := am_mem 2108 (by decide +kernel) rfl
theorem mJ6_bitCount_0f7a4 : am_ms yJ6_bitCount_0f7a4 cJ6_bitCount_0f7a4 1 (some .int) 1 := ⟨am_mem 1226 (by decide +kernel) rfl, am_mem 1225 (by decide +kernel) rfl, am_mem 141 (by decide +kernel) rfl, by decide, by decide, by decide +kernel⟩
theorem mJ9_abs_0f7a4 : am_ms yJ9_abs_0f7a4 cJ9_abs_0f7a4 1 (some .int) 1 := ⟨am_mem 1144 (by decide +kernel) rfl, am_mem 1143 (by decide +kernel) rfl, am_mem 133 (by decide +kernel) rfl, by decide, by decide, by decide +kernel⟩
theorem mJ9_max_7cf53 : am_ms yJ9_max_7cf53 cJ9_max_7cf53 2 (some .int) 2 := ⟨am_mem 646 (by decide +kernel) rfl, am_mem 645 (by decide +kernel) rfl, am_mem 133 (by decide +kernel) rfl, by decide, by decide, by decide +kernel⟩
theorem mJ9_max_f86c9 : am_ms yJ9_max_f86c9 cJ9_max_f86c9 4 (some .long) 2 := ⟨am_mem 1811 (by decide +kernel) rfl, am_mem 1810 (by decide +kernel) rfl, am_mem 133 (by decide +kernel) rfl, by decide, by decide, by decide +kernel⟩
theorem mJ9_min_7cf53 : am_ms yJ9_min_7cf53 cJ9_min_7cf53 2 (some .int) 2 := ⟨am_mem 649 (by decide +kernel) rfl, am_mem 648 (by decide +kernel) rfl, am_mem 133 (by decide +kernel) rfl, by decide, by decide, by decide +kernel⟩
theorem mJ9_min_f86c9 : am_ms yJ9_min_f86c9 cJ9_min_f86c9 4 (some .long) 2 := ⟨am_mem 1808 (by decide +kernel) rfl, am_mem 1807 (by decide +kernel) rfl, am_mem 133 (by decide +kernel) rfl, by decide, by decide, by decide +kernel⟩
theorem mX12_ahead : am_mv yX12_ahead cX12_ahead 4 (some .int) 1 := ⟨am_mem 2047 (by decide +kernel) rfl, am_mem 2045 (by decide +kernel) rfl, am_mem 2046 (by decide +kernel) rfl, am_mem 129 (by decide +kernel) rfl, by decide, by decide, by decide +kernel⟩
theorem mX12_ask : am_mv yX12_ask cX12_ask 8 (some .int) 2 := ⟨am_mem 2093 (by decide +kernel) rfl, am_mem 2091 (by decide +kernel) rfl, am_mem 2092 (by decide +kernel) rfl, am_mem 129 (by decide +kernel) rfl, by decide, by decide, by decide +kernel⟩
theorem mX12_atEnd : am_mv yX12_atEnd cX12_atEnd 1 (some .int) 0 := ⟨am_mem 1753 (by decide +kernel) rfl, am_mem 1752 (by decide +kernel) rfl, am_mem 74 (by decide +kernel) rfl, am_mem 129 (by decide +kernel) rfl, by decide, by decide, by decide +kernel⟩
theorem mX12_atHome : am_mv yX12_atHome cX12_atHome 3 (some .int) 0 := ⟨am_mem 1831 (by decide +kernel) rfl, am_mem 1830 (by decide +kernel) rfl, am_mem 85 (by decide +kernel) rfl, am_mem 129 (by decide +kernel) rfl, by decide, by decide, by decide +kernel⟩
theorem mX12_atom : am_mv yX12_atom cX12_atom 2 none 0 := ⟨am_mem 1727 (by decide +kernel) rfl, am_mem 1726 (by decide +kernel) rfl, am_mem 69 (by decide +kernel) rfl, am_mem 129 (by decide +kernel) rfl, by decide, by decide, by decide +kernel⟩
theorem mX12_away : am_mv yX12_away cX12_away 4 (some .int) 1 := ⟨am_mem 2011 (by decide +kernel) rfl, am_mem 2009 (by decide +kernel) rfl, am_mem 2010 (by decide +kernel) rfl, am_mem 129 (by decide +kernel) rfl, by decide, by decide, by decide +kernel⟩
theorem mX12_back : am_mv yX12_back cX12_back 2 (some .int) 0 := ⟨am_mem 2120 (by decide +kernel) rfl, am_mem 2118 (by decide +kernel) rfl, am_mem 2119 (by decide +kernel) rfl, am_mem 129 (by decide +kernel) rfl, by decide, by decide, by decide +kernel⟩
theorem mX12_bad : am_mv yX12_bad cX12_bad 1 none 0 := ⟨am_mem 1676 (by decide +kernel) rfl, am_mem 1675 (by decide +kernel) rfl, am_mem 57 (by decide +kernel) rfl, am_mem 129 (by decide +kernel) rfl, by decide, by decide, by decide +kernel⟩
theorem mX12_behind : am_mv yX12_behind cX12_behind 2 (some .int) 1 := ⟨am_mem 2039 (by decide +kernel) rfl, am_mem 2037 (by decide +kernel) rfl, am_mem 2038 (by decide +kernel) rfl, am_mem 129 (by decide +kernel) rfl, by decide, by decide, by decide +kernel⟩
theorem mX12_bounded : am_ms yX12_bounded cX12_bounded 2 (some .int) 1 := ⟨am_mem 1803 (by decide +kernel) rfl, am_mem 1802 (by decide +kernel) rfl, am_mem 129 (by decide +kernel) rfl, by decide, by decide, by decide +kernel⟩
theorem mX12_byteOf : am_ms yX12_byteOf cX12_byteOf 7 (some .int) 6 := ⟨am_mem 1626 (by decide +kernel) rfl, am_mem 1625 (by decide +kernel) rfl, am_mem 129 (by decide +kernel) rfl, by decide, by decide, by decide +kernel⟩
theorem mX12_canDuel : am_mv yX12_canDuel cX12_canDuel 3 (some .boolean) 2 := ⟨am_mem 1931 (by decide +kernel) rfl, am_mem 1930 (by decide +kernel) rfl, am_mem 101 (by decide +kernel) rfl, am_mem 129 (by decide +kernel) rfl, by decide, by decide, by decide +kernel⟩
theorem mX12_canEscort : am_mv yX12_canEscort cX12_canEscort 3 (some .boolean) 2 := ⟨am_mem 1987 (by decide +kernel) rfl, am_mem 1986 (by decide +kernel) rfl, am_mem 108 (by decide +kernel) rfl, am_mem 129 (by decide +kernel) rfl, by decide, by decide, by decide +kernel⟩
theorem mX12_canGo : am_mv yX12_canGo cX12_canGo 2 (some .boolean) 1 := ⟨am_mem 1843 (by decide +kernel) rfl, am_mem 1842 (by decide +kernel) rfl, am_mem 87 (by decide +kernel) rfl, am_mem 129 (by decide +kernel) rfl, by decide, by decide, by decide +kernel⟩
theorem mX12_canPress : am_mv yX12_canPress cX12_canPress 3 (some .boolean) 2 := ⟨am_mem 1883 (by decide +kernel) rfl, am_mem 1882 (by decide +kernel) rfl, am_mem 95 (by decide +kernel) rfl, am_mem 129 (by decide +kernel) rfl, by decide, by decide, by decide +kernel⟩
theorem mX12_canStay : am_mv yX12_canStay cX12_canStay 2 (some .boolean) 1 := ⟨am_mem 1871 (by decide +kernel) rfl, am_mem 1870 (by decide +kernel) rfl, am_mem 93 (by decide +kernel) rfl, am_mem 129 (by decide +kernel) rfl, by decide, by decide, by decide +kernel⟩
theorem mX12_champion : am_mv yX12_champion cX12_champion 6 (some .int) 1 := ⟨am_mem 1953 (by decide +kernel) rfl, am_mem 1951 (by decide +kernel) rfl, am_mem 1952 (by decide +kernel) rfl, am_mem 129 (by decide +kernel) rfl, by decide, by decide, by decide +kernel⟩
theorem mX12_clause : am_mv yX12_clause cX12_clause 3 none 0 := ⟨am_mem 1695 (by decide +kernel) rfl, am_mem 1694 (by decide +kernel) rfl, am_mem 61 (by decide +kernel) rfl, am_mem 129 (by decide +kernel) rfl, by decide, by decide, by decide +kernel⟩
theorem mX12_closed : am_mv yX12_closed cX12_closed 5 (some .int) 0 := ⟨am_mem 2003 (by decide +kernel) rfl, am_mem 2001 (by decide +kernel) rfl, am_mem 2002 (by decide +kernel) rfl, am_mem 129 (by decide +kernel) rfl, by decide, by decide, by decide +kernel⟩
theorem mX12_closes : am_mv yX12_closes cX12_closes 2 none 1 := ⟨am_mem 1715 (by decide +kernel) rfl, am_mem 1714 (by decide +kernel) rfl, am_mem 66 (by decide +kernel) rfl, am_mem 129 (by decide +kernel) rfl, by decide, by decide, by decide +kernel⟩
theorem mX12_comes : am_mv yX12_comes cX12_comes 3 none 2 := ⟨am_mem 1765 (by decide +kernel) rfl, am_mem 1764 (by decide +kernel) rfl, am_mem 76 (by decide +kernel) rfl, am_mem 129 (by decide +kernel) rfl, by decide, by decide, by decide +kernel⟩
theorem mX12_compare : am_mv yX12_compare cX12_compare 2 none 0 := ⟨am_mem 1738 (by decide +kernel) rfl, am_mem 1737 (by decide +kernel) rfl, am_mem 71 (by decide +kernel) rfl, am_mem 129 (by decide +kernel) rfl, by decide, by decide, by decide +kernel⟩
theorem mX12_condition : am_mv yX12_condition cX12_condition 1 none 0 := ⟨am_mem 1699 (by decide +kernel) rfl, am_mem 1698 (by decide +kernel) rfl, am_mem 62 (by decide +kernel) rfl, am_mem 129 (by decide +kernel) rfl, by decide, by decide, by decide +kernel⟩
theorem mX12_count : am_mv yX12_count cX12_count 2 (some .int) 1 := ⟨am_mem 2124 (by decide +kernel) rfl, am_mem 2122 (by decide +kernel) rfl, am_mem 2123 (by decide +kernel) rfl, am_mem 129 (by decide +kernel) rfl, by decide, by decide, by decide +kernel⟩
theorem mX12_draw : am_mv yX12_draw cX12_draw 2 (some .int) 1 := ⟨am_mem 1908 (by decide +kernel) rfl, am_mem 1907 (by decide +kernel) rfl, am_mem 99 (by decide +kernel) rfl, am_mem 129 (by decide +kernel) rfl, by decide, by decide, by decide +kernel⟩
theorem mX12_drawDeed : am_mv yX12_drawDeed cX12_drawDeed 3 none 1 := ⟨am_mem 1904 (by decide +kernel) rfl, am_mem 1903 (by decide +kernel) rfl, am_mem 98 (by decide +kernel) rfl, am_mem 129 (by decide +kernel) rfl, by decide, by decide, by decide +kernel⟩
theorem mX12_duel : am_mv yX12_duel cX12_duel 5 (some .int) 3 := ⟨am_mem 1927 (by decide +kernel) rfl, am_mem 1925 (by decide +kernel) rfl, am_mem 1926 (by decide +kernel) rfl, am_mem 129 (by decide +kernel) rfl, by decide, by decide, by decide +kernel⟩
theorem mX12_duelWith : am_mv yX12_duelWith cX12_duelWith 5 (some .int) 3 := ⟨am_mem 1935 (by decide +kernel) rfl, am_mem 1934 (by decide +kernel) rfl, am_mem 102 (by decide +kernel) rfl, am_mem 129 (by decide +kernel) rfl, by decide, by decide, by decide +kernel⟩
theorem mX12_end : am_mv yX12_end cX12_end 2 (some .boolean) 1 := ⟨am_mem 1630 (by decide +kernel) rfl, am_mem 1628 (by decide +kernel) rfl, am_mem 1629 (by decide +kernel) rfl, am_mem 129 (by decide +kernel) rfl, by decide, by decide, by decide +kernel⟩
theorem mX12_endDay : am_mv yX12_endDay cX12_endDay 2 none 0 := ⟨am_mem 1896 (by decide +kernel) rfl, am_mem 1895 (by decide +kernel) rfl, am_mem 97 (by decide +kernel) rfl, am_mem 129 (by decide +kernel) rfl, by decide, by decide, by decide +kernel⟩
theorem mX12_escorts : am_mv yX12_escorts cX12_escorts 3 (some .int) 2 := ⟨am_mem 1978 (by decide +kernel) rfl, am_mem 1976 (by decide +kernel) rfl, am_mem 1977 (by decide +kernel) rfl, am_mem 129 (by decide +kernel) rfl, by decide, by decide, by decide +kernel⟩
theorem mX12_even : am_mv yX12_even cX12_even 3 (some .int) 0 := ⟨am_mem 2051 (by decide +kernel) rfl, am_mem 2049 (by decide +kernel) rfl, am_mem 2050 (by decide +kernel) rfl, am_mem 129 (by decide +kernel) rfl, by decide, by decide, by decide +kernel⟩
theorem mX12_evening : am_mv yX12_evening cX12_evening 2 (some .int) 0 := ⟨am_mem 1892 (by decide +kernel) rfl, am_mem 1890 (by decide +kernel) rfl, am_mem 1891 (by decide +kernel) rfl, am_mem 129 (by decide +kernel) rfl, by decide, by decide, by decide +kernel⟩
theorem mX12_farthest : am_mv yX12_farthest cX12_farthest 4 (some .int) 1 := ⟨am_mem 2027 (by decide +kernel) rfl, am_mem 2026 (by decide +kernel) rfl, am_mem 112 (by decide +kernel) rfl, am_mem 129 (by decide +kernel) rfl, by decide, by decide, by decide +kernel⟩
theorem mX12_fault : am_mv yX12_fault cX12_fault 2 (some .int) 1 := ⟨am_mem 1634 (by decide +kernel) rfl, am_mem 1632 (by decide +kernel) rfl, am_mem 1633 (by decide +kernel) rfl, am_mem 129 (by decide +kernel) rfl, by decide, by decide, by decide +kernel⟩
theorem mX12_feed : am_mv yX12_feed cX12_feed 9 (some .int) 5 := ⟨am_mem 1623 (by decide +kernel) rfl, am_mem 1621 (by decide +kernel) rfl, am_mem 1622 (by decide +kernel) rfl, am_mem 129 (by decide +kernel) rfl, by decide, by decide, by decide +kernel⟩
theorem mX12_fit : am_mv yX12_fit cX12_fit 5 (some .int) 2 := ⟨am_mem 2079 (by decide +kernel) rfl, am_mem 2077 (by decide +kernel) rfl, am_mem 2078 (by decide +kernel) rfl, am_mem 129 (by decide +kernel) rfl, by decide, by decide, by decide +kernel⟩
theorem mX12_foes : am_mv yX12_foes cX12_foes 4 (some .int) 1 := ⟨am_mem 1969 (by decide +kernel) rfl, am_mem 1968 (by decide +kernel) rfl, am_mem 106 (by decide +kernel) rfl, am_mem 129 (by decide +kernel) rfl, by decide, by decide, by decide +kernel⟩
theorem mX12_forced : am_mv yX12_forced cX12_forced 5 (some .int) 1 := ⟨am_mem 2019 (by decide +kernel) rfl, am_mem 2017 (by decide +kernel) rfl, am_mem 2018 (by decide +kernel) rfl, am_mem 129 (by decide +kernel) rfl, by decide, by decide, by decide +kernel⟩
theorem mX12_gets : am_mv yX12_gets cX12_gets 3 (some .int) 2 := ⟨am_mem 2063 (by decide +kernel) rfl, am_mem 2061 (by decide +kernel) rfl, am_mem 2062 (by decide +kernel) rfl, am_mem 129 (by decide +kernel) rfl, by decide, by decide, by decide +kernel⟩
theorem mX12_getsOf : am_mv yX12_getsOf cX12_getsOf 7 (some .int) 2 := ⟨am_mem 2067 (by decide +kernel) rfl, am_mem 2066 (by decide +kernel) rfl, am_mem 113 (by decide +kernel) rfl, am_mem 129 (by decide +kernel) rfl, by decide, by decide, by decide +kernel⟩
theorem mX12_go : am_mv yX12_go cX12_go 2 (some .int) 1 := ⟨am_mem 1839 (by decide +kernel) rfl, am_mem 1837 (by decide +kernel) rfl, am_mem 1838 (by decide +kernel) rfl, am_mem 129 (by decide +kernel) rfl, by decide, by decide, by decide +kernel⟩
theorem mX12_goNow : am_mv yX12_goNow cX12_goNow 2 none 1 := ⟨am_mem 1859 (by decide +kernel) rfl, am_mem 1858 (by decide +kernel) rfl, am_mem 91 (by decide +kernel) rfl, am_mem 129 (by decide +kernel) rfl, by decide, by decide, by decide +kernel⟩
theorem mX12_goOnAnd : am_mv yX12_goOnAnd cX12_goOnAnd 1 none 0 := ⟨am_mem 1745 (by decide +kernel) rfl, am_mem 1744 (by decide +kernel) rfl, am_mem 72 (by decide +kernel) rfl, am_mem 129 (by decide +kernel) rfl, by decide, by decide, by decide +kernel⟩
theorem mX12_goOnOr : am_mv yX12_goOnOr cX12_goOnOr 1 none 0 := ⟨am_mem 1749 (by decide +kernel) rfl, am_mem 1748 (by decide +kernel) rfl, am_mem 73 (by decide +kernel) rfl, am_mem 129 (by decide +kernel) rfl, by decide, by decide, by decide +kernel⟩
theorem mX12_has : am_ms yX12_has cX12_has 2 (some .boolean) 2 := ⟨am_mem 1659 (by decide +kernel) rfl, am_mem 1658 (by decide +kernel) rfl, am_mem 129 (by decide +kernel) rfl, by decide, by decide, by decide +kernel⟩
theorem mX12_here : am_mv yX12_here cX12_here 1 (some .int) 0 := ⟨am_mem 1649 (by decide +kernel) rfl, am_mem 1648 (by decide +kernel) rfl, am_mem 54 (by decide +kernel) rfl, am_mem 129 (by decide +kernel) rfl, by decide, by decide, by decide +kernel⟩
theorem mX12_highest : am_ms yX12_highest cX12_highest 2 (some .int) 2 := ⟨am_mem 1665 (by decide +kernel) rfl, am_mem 1664 (by decide +kernel) rfl, am_mem 129 (by decide +kernel) rfl, by decide, by decide, by decide +kernel⟩
theorem mX12_hurry : am_mv yX12_hurry cX12_hurry 7 (some .int) 2 := ⟨am_mem 2112 (by decide +kernel) rfl, am_mem 2110 (by decide +kernel) rfl, am_mem 2111 (by decide +kernel) rfl, am_mem 129 (by decide +kernel) rfl, by decide, by decide, by decide +kernel⟩
theorem mX12_image : am_mv yX12_image cX12_image 2 (some .int) 0 := ⟨am_mem 2116 (by decide +kernel) rfl, am_mem 2114 (by decide +kernel) rfl, am_mem 2115 (by decide +kernel) rfl, am_mem 129 (by decide +kernel) rfl, by decide, by decide, by decide +kernel⟩
theorem mX12_in : am_ms yX12_in cX12_in 3 (some .boolean) 3 := ⟨am_mem 1679 (by decide +kernel) rfl, am_mem 1678 (by decide +kernel) rfl, am_mem 129 (by decide +kernel) rfl, by decide, by decide, by decide +kernel⟩
theorem mX12_isAhead : am_mv yX12_isAhead cX12_isAhead 3 (some .boolean) 2 := ⟨am_mem 2015 (by decide +kernel) rfl, am_mem 2014 (by decide +kernel) rfl, am_mem 111 (by decide +kernel) rfl, am_mem 129 (by decide +kernel) rfl, by decide, by decide, by decide +kernel⟩
theorem mX12_isBetter : am_ms yX12_isBetter cX12_isBetter 2 (some .boolean) 2 := ⟨am_mem 1948 (by decide +kernel) rfl, am_mem 1947 (by decide +kernel) rfl, am_mem 129 (by decide +kernel) rfl, by decide, by decide, by decide +kernel⟩
theorem mX12_isDigit : am_ms yX12_isDigit cX12_isDigit 1 (some .boolean) 1 := ⟨am_mem 1672 (by decide +kernel) rfl, am_mem 1671 (by decide +kernel) rfl, am_mem 129 (by decide +kernel) rfl, by decide, by decide, by decide +kernel⟩
theorem mX12_isEscorted : am_mv yX12_isEscorted cX12_isEscorted 3 (some .boolean) 2 := ⟨am_mem 1991 (by decide +kernel) rfl, am_mem 1990 (by decide +kernel) rfl, am_mem 109 (by decide +kernel) rfl, am_mem 129 (by decide +kernel) rfl, by decide, by decide, by decide +kernel⟩
theorem mX12_isFree : am_mv yX12_isFree cX12_isFree 2 (some .boolean) 1 := ⟨am_mem 1847 (by decide +kernel) rfl, am_mem 1846 (by decide +kernel) rfl, am_mem 88 (by decide +kernel) rfl, am_mem 129 (by decide +kernel) rfl, by decide, by decide, by decide +kernel⟩
theorem mX12_isHome : am_mv yX12_isHome cX12_isHome 2 (some .boolean) 1 := ⟨am_mem 1781 (by decide +kernel) rfl, am_mem 1780 (by decide +kernel) rfl, am_mem 79 (by decide +kernel) rfl, am_mem 129 (by decide +kernel) rfl, by decide, by decide, by decide +kernel⟩
theorem mX12_isHomeBy : am_mv yX12_isHomeBy cX12_isHomeBy 3 (some .boolean) 2 := ⟨am_mem 1785 (by decide +kernel) rfl, am_mem 1784 (by decide +kernel) rfl, am_mem 80 (by decide +kernel) rfl, am_mem 129 (by decide +kernel) rfl, by decide, by decide, by decide +kernel⟩
theorem mX12_isMan : am_mv yX12_isMan cX12_isMan 2 (some .boolean) 1 := ⟨am_mem 1777 (by decide +kernel) rfl, am_mem 1776 (by decide +kernel) rfl, am_mem 78 (by decide +kernel) rfl, am_mem 129 (by decide +kernel) rfl, by decide, by decide, by decide +kernel⟩
theorem mX12_isOver : am_mv yX12_isOver cX12_isOver 1 (some .boolean) 0 := ⟨am_mem 1851 (by decide +kernel) rfl, am_mem 1850 (by decide +kernel) rfl, am_mem 89 (by decide +kernel) rfl, am_mem 129 (by decide +kernel) rfl, by decide, by decide, by decide +kernel⟩
theorem mX12_isSide : am_mv yX12_isSide cX12_isSide 2 (some .boolean) 1 := ⟨am_mem 1957 (by decide +kernel) rfl, am_mem 1956 (by decide +kernel) rfl, am_mem 104 (by decide +kernel) rfl, am_mem 129 (by decide +kernel) rfl, by decide, by decide, by decide +kernel⟩
theorem mX12_isSign : am_ms yX12_isSign cX12_isSign 1 (some .boolean) 1 := ⟨am_mem 1741 (by decide +kernel) rfl, am_mem 1740 (by decide +kernel) rfl, am_mem 129 (by decide +kernel) rfl, by decide, by decide, by decide +kernel⟩
theorem mX12_isSoBy : am_mv yX12_isSoBy cX12_isSoBy 5 (some .boolean) 2 := ⟨am_mem 2086 (by decide +kernel) rfl, am_mem 2085 (by decide +kernel) rfl, am_mem 114 (by decide +kernel) rfl, am_mem 129 (by decide +kernel) rfl, by decide, by decide, by decide +kernel⟩
theorem mX12_isWhole : am_mv yX12_isWhole cX12_isWhole 5 (some .boolean) 0 := ⟨am_mem 1683 (by decide +kernel) rfl, am_mem 1682 (by decide +kernel) rfl, am_mem 58 (by decide +kernel) rfl, am_mem 129 (by decide +kernel) rfl, by decide, by decide, by decide +kernel⟩
theorem mX12_itemOf : am_ms yX12_itemOf cX12_itemOf 2 (some .int) 2 := ⟨am_mem 1656 (by decide +kernel) rfl, am_mem 1655 (by decide +kernel) rfl, am_mem 129 (by decide +kernel) rfl, by decide, by decide, by decide +kernel⟩
theorem mX12_items : am_mv yX12_items cX12_items 7 none 4 := ⟨am_mem 1653 (by decide +kernel) rfl, am_mem 1652 (by decide +kernel) rfl, am_mem 55 (by decide +kernel) rfl, am_mem 129 (by decide +kernel) rfl, by decide, by decide, by decide +kernel⟩
theorem mX12_keep : am_mv yX12_keep cX12_keep 2 none 0 := ⟨am_mem 1855 (by decide +kernel) rfl, am_mem 1854 (by decide +kernel) rfl, am_mem 90 (by decide +kernel) rfl, am_mem 129 (by decide +kernel) rfl, by decide, by decide, by decide +kernel⟩
theorem mX12_last : am_mv yX12_last cX12_last 1 (some .int) 0 := ⟨am_mem 2035 (by decide +kernel) rfl, am_mem 2033 (by decide +kernel) rfl, am_mem 2034 (by decide +kernel) rfl, am_mem 129 (by decide +kernel) rfl, by decide, by decide, by decide +kernel⟩
theorem mX12_law : am_mv yX12_law cX12_law 2 (some .boolean) 1 := ⟨am_mem 1819 (by decide +kernel) rfl, am_mem 1817 (by decide +kernel) rfl, am_mem 1818 (by decide +kernel) rfl, am_mem 129 (by decide +kernel) rfl, by decide, by decide, by decide +kernel⟩
theorem mX12_letter : am_mv yX12_letter cX12_letter 3 (some .int) 2 := ⟨am_mem 2075 (by decide +kernel) rfl, am_mem 2073 (by decide +kernel) rfl, am_mem 2074 (by decide +kernel) rfl, am_mem 129 (by decide +kernel) rfl, by decide, by decide, by decide +kernel⟩
theorem mX12_letterOf : am_ms yX12_letterOf cX12_letterOf 1 (some .int) 1 := ⟨am_mem 1734 (by decide +kernel) rfl, am_mem 1733 (by decide +kernel) rfl, am_mem 129 (by decide +kernel) rfl, by decide, by decide, by decide +kernel⟩
theorem mX12_log : am_mv yX12_log cX12_log 3 (some .int) 2 := ⟨am_mem 1922 (by decide +kernel) rfl, am_mem 1920 (by decide +kernel) rfl, am_mem 1921 (by decide +kernel) rfl, am_mem 129 (by decide +kernel) rfl, by decide, by decide, by decide +kernel⟩
theorem mX12_look : am_mv yX12_look cX12_look 1 (some .int) 0 := ⟨am_mem 1645 (by decide +kernel) rfl, am_mem 1644 (by decide +kernel) rfl, am_mem 53 (by decide +kernel) rfl, am_mem 129 (by decide +kernel) rfl, by decide, by decide, by decide +kernel⟩
theorem mX12_loophole : am_mv yX12_loophole cX12_loophole 2 (some .int) 1 := ⟨am_mem 1995 (by decide +kernel) rfl, am_mem 1993 (by decide +kernel) rfl, am_mem 1994 (by decide +kernel) rfl, am_mem 129 (by decide +kernel) rfl, by decide, by decide, by decide +kernel⟩
theorem mX12_looseBy : am_mv yX12_looseBy cX12_looseBy 4 (some .int) 1 := ⟨am_mem 1999 (by decide +kernel) rfl, am_mem 1998 (by decide +kernel) rfl, am_mem 110 (by decide +kernel) rfl, am_mem 129 (by decide +kernel) rfl, by decide, by decide, by decide +kernel⟩
theorem mX12_lowest : am_ms yX12_lowest cX12_lowest 2 (some .int) 2 := ⟨am_mem 1662 (by decide +kernel) rfl, am_mem 1661 (by decide +kernel) rfl, am_mem 129 (by decide +kernel) rfl, by decide, by decide, by decide +kernel⟩
theorem mX12_man : am_mv yX12_man cX12_man 3 (some .int) 2 := ⟨am_mem 1773 (by decide +kernel) rfl, am_mem 1771 (by decide +kernel) rfl, am_mem 1772 (by decide +kernel) rfl, am_mem 129 (by decide +kernel) rfl, by decide, by decide, by decide +kernel⟩
theorem mX12_march : am_mv yX12_march cX12_march 6 (some .int) 2 := ⟨am_mem 1900 (by decide +kernel) rfl, am_mem 1898 (by decide +kernel) rfl, am_mem 1899 (by decide +kernel) rfl, am_mem 129 (by decide +kernel) rfl, by decide, by decide, by decide +kernel⟩
theorem mX12_meeting : am_mv yX12_meeting cX12_meeting 3 (some .int) 2 := ⟨am_mem 2055 (by decide +kernel) rfl, am_mem 2053 (by decide +kernel) rfl, am_mem 2054 (by decide +kernel) rfl, am_mem 129 (by decide +kernel) rfl, by decide, by decide, by decide +kernel⟩
theorem mX12_next : am_mv yX12_next cX12_next 4 (some .int) 1 := ⟨am_mem 2043 (by decide +kernel) rfl, am_mem 2041 (by decide +kernel) rfl, am_mem 2042 (by decide +kernel) rfl, am_mem 129 (by decide +kernel) rfl, by decide, by decide, by decide +kernel⟩
theorem mX12_note : am_mv yX12_note cX12_note 5 none 3 := ⟨am_mem 1863 (by decide +kernel) rfl, am_mem 1862 (by decide +kernel) rfl, am_mem 92 (by decide +kernel) rfl, am_mem 129 (by decide +kernel) rfl, by decide, by decide, by decide +kernel⟩
theorem mX12_number : am_mv yX12_number cX12_number 4 (some .int) 2 := ⟨am_mem 1669 (by decide +kernel) rfl, am_mem 1668 (by decide +kernel) rfl, am_mem 56 (by decide +kernel) rfl, am_mem 129 (by decide +kernel) rfl, by decide, by decide, by decide +kernel⟩
theorem mX12_odds : am_mv yX12_odds cX12_odds 3 (some .int) 2 := ⟨am_mem 2102 (by decide +kernel) rfl, am_mem 2100 (by decide +kernel) rfl, am_mem 2101 (by decide +kernel) rfl, am_mem 129 (by decide +kernel) rfl, by decide, by decide, by decide +kernel⟩
theorem mX12_oddsOf : am_mv yX12_oddsOf cX12_oddsOf 7 (some .int) 2 := ⟨am_mem 2106 (by decide +kernel) rfl, am_mem 2105 (by decide +kernel) rfl, am_mem 115 (by decide +kernel) rfl, am_mem 129 (by decide +kernel) rfl, by decide, by decide, by decide +kernel⟩
theorem mX12_of : am_mv yX12_of cX12_of 4 (some .int) 1 := ⟨am_mem 1835 (by decide +kernel) rfl, am_mem 1834 (by decide +kernel) rfl, am_mem 86 (by decide +kernel) rfl, am_mem 129 (by decide +kernel) rfl, by decide, by decide, by decide +kernel⟩
theorem mX12_open : am_mv yX12_open cX12_open 2 none 1 := ⟨am_mem 1691 (by decide +kernel) rfl, am_mem 1690 (by decide +kernel) rfl, am_mem 60 (by decide +kernel) rfl, am_mem 129 (by decide +kernel) rfl, by decide, by decide, by decide +kernel⟩
theorem mX12_opens : am_mv yX12_opens cX12_opens 1 none 0 := ⟨am_mem 1707 (by decide +kernel) rfl, am_mem 1706 (by decide +kernel) rfl, am_mem 64 (by decide +kernel) rfl, am_mem 129 (by decide +kernel) rfl, by decide, by decide, by decide +kernel⟩
theorem mX12_orchard : am_mv yX12_orchard cX12_orchard 3 (some .int) 2 := ⟨am_mem 1815 (by decide +kernel) rfl, am_mem 1813 (by decide +kernel) rfl, am_mem 1814 (by decide +kernel) rfl, am_mem 129 (by decide +kernel) rfl, by decide, by decide, by decide +kernel⟩
theorem mX12_outcomeOf : am_mv yX12_outcomeOf cX12_outcomeOf 12 (some .int) 5 := ⟨am_mem 1939 (by decide +kernel) rfl, am_mem 1938 (by decide +kernel) rfl, am_mem 103 (by decide +kernel) rfl, am_mem 129 (by decide +kernel) rfl, by decide, by decide, by decide +kernel⟩
theorem mX12_place : am_ms yX12_place cX12_place 5 (some .int) 5 := ⟨am_mem 1942 (by decide +kernel) rfl, am_mem 1941 (by decide +kernel) rfl, am_mem 129 (by decide +kernel) rfl, by decide, by decide, by decide +kernel⟩
theorem mX12_plainNumber : am_mv yX12_plainNumber cX12_plainNumber 3 (some .int) 0 := ⟨am_mem 1731 (by decide +kernel) rfl, am_mem 1730 (by decide +kernel) rfl, am_mem 70 (by decide +kernel) rfl, am_mem 129 (by decide +kernel) rfl, by decide, by decide, by decide +kernel⟩
theorem mX12_pony : am_mv yX12_pony cX12_pony 2 (some .int) 1 := ⟨am_mem 2031 (by decide +kernel) rfl, am_mem 2029 (by decide +kernel) rfl, am_mem 2030 (by decide +kernel) rfl, am_mem 129 (by decide +kernel) rfl, by decide, by decide, by decide +kernel⟩
theorem mX12_power : am_ms yX12_power cX12_power 1 (some .int) 1 := ⟨am_mem 2082 (by decide +kernel) rfl, am_mem 2081 (by decide +kernel) rfl, am_mem 129 (by decide +kernel) rfl, by decide, by decide, by decide +kernel⟩
theorem mX12_press : am_mv yX12_press cX12_press 3 (some .int) 2 := ⟨am_mem 1879 (by decide +kernel) rfl, am_mem 1877 (by decide +kernel) rfl, am_mem 1878 (by decide +kernel) rfl, am_mem 129 (by decide +kernel) rfl, by decide, by decide, by decide +kernel⟩
theorem mX12_pressLowest : am_mv yX12_pressLowest cX12_pressLowest 3 none 1 := ⟨am_mem 1914 (by decide +kernel) rfl, am_mem 1913 (by decide +kernel) rfl, am_mem 100 (by decide +kernel) rfl, am_mem 129 (by decide +kernel) rfl, by decide, by decide, by decide +kernel⟩
theorem mX12_pressNow : am_mv yX12_pressNow cX12_pressNow 3 none 2 := ⟨am_mem 1887 (by decide +kernel) rfl, am_mem 1886 (by decide +kernel) rfl, am_mem 96 (by decide +kernel) rfl, am_mem 129 (by decide +kernel) rfl, by decide, by decide, by decide +kernel⟩
theorem mX12_put : am_mv yX12_put cX12_put 3 none 2 := ⟨am_mem 1711 (by decide +kernel) rfl, am_mem 1710 (by decide +kernel) rfl, am_mem 65 (by decide +kernel) rfl, am_mem 129 (by decide +kernel) rfl, by decide, by decide, by decide +kernel⟩
theorem mX12_readLaw : am_mv yX12_readLaw cX12_readLaw 2 (some .int) 1 := ⟨am_mem 1687 (by decide +kernel) rfl, am_mem 1686 (by decide +kernel) rfl, am_mem 59 (by decide +kernel) rfl, am_mem 129 (by decide +kernel) rfl, by decide, by decide, by decide +kernel⟩
theorem mX12_readWar : am_mv yX12_readWar cX12_readWar 4 (some .int) 0 := ⟨am_mem 1638 (by decide +kernel) rfl, am_mem 1637 (by decide +kernel) rfl, am_mem 52 (by decide +kernel) rfl, am_mem 129 (by decide +kernel) rfl, by decide, by decide, by decide +kernel⟩
theorem mX12_reads : am_mv yX12_reads cX12_reads 4 (some .int) 1 := ⟨am_mem 2007 (by decide +kernel) rfl, am_mem 2005 (by decide +kernel) rfl, am_mem 2006 (by decide +kernel) rfl, am_mem 129 (by decide +kernel) rfl, by decide, by decide, by decide +kernel⟩
theorem mX12_restAt : am_mv yX12_restAt cX12_restAt 3 (some .int) 1 := ⟨am_mem 1769 (by decide +kernel) rfl, am_mem 1768 (by decide +kernel) rfl, am_mem 77 (by decide +kernel) rfl, am_mem 129 (by decide +kernel) rfl, by decide, by decide, by decide +kernel⟩
theorem mX12_resting : am_mv yX12_resting cX12_resting 6 (some .int) 1 := ⟨am_mem 2071 (by decide +kernel) rfl, am_mem 2069 (by decide +kernel) rfl, am_mem 2070 (by decide +kernel) rfl, am_mem 129 (by decide +kernel) rfl, by decide, by decide, by decide +kernel⟩
theorem mX12_side : am_mv yX12_side cX12_side 2 (some .int) 1 := ⟨am_mem 1789 (by decide +kernel) rfl, am_mem 1788 (by decide +kernel) rfl, am_mem 81 (by decide +kernel) rfl, am_mem 129 (by decide +kernel) rfl, by decide, by decide, by decide +kernel⟩
theorem mX12_soonest : am_mv yX12_soonest cX12_soonest 2 (some .int) 1 := ⟨am_mem 2023 (by decide +kernel) rfl, am_mem 2021 (by decide +kernel) rfl, am_mem 2022 (by decide +kernel) rfl, am_mem 129 (by decide +kernel) rfl, by decide, by decide, by decide +kernel⟩
theorem mX12_stay : am_mv yX12_stay cX12_stay 2 (some .int) 1 := ⟨am_mem 1867 (by decide +kernel) rfl, am_mem 1865 (by decide +kernel) rfl, am_mem 1866 (by decide +kernel) rfl, am_mem 129 (by decide +kernel) rfl, by decide, by decide, by decide +kernel⟩
theorem mX12_stayNow : am_mv yX12_stayNow cX12_stayNow 2 none 1 := ⟨am_mem 1875 (by decide +kernel) rfl, am_mem 1874 (by decide +kernel) rfl, am_mem 94 (by decide +kernel) rfl, am_mem 129 (by decide +kernel) rfl, by decide, by decide, by decide +kernel⟩
theorem mX12_sum : am_mv yX12_sum cX12_sum 2 none 0 := ⟨am_mem 1719 (by decide +kernel) rfl, am_mem 1718 (by decide +kernel) rfl, am_mem 67 (by decide +kernel) rfl, am_mem 129 (by decide +kernel) rfl, by decide, by decide, by decide +kernel⟩
theorem mX12_sure : am_mv yX12_sure cX12_sure 7 (some .int) 1 := ⟨am_mem 2098 (by decide +kernel) rfl, am_mem 2096 (by decide +kernel) rfl, am_mem 2097 (by decide +kernel) rfl, am_mem 129 (by decide +kernel) rfl, by decide, by decide, by decide +kernel⟩
theorem mX12_takeWar : am_mv yX12_takeWar cX12_takeWar 2 (some .int) 0 := ⟨am_mem 1761 (by decide +kernel) rfl, am_mem 1760 (by decide +kernel) rfl, am_mem 75 (by decide +kernel) rfl, am_mem 129 (by decide +kernel) rfl, by decide, by decide, by decide +kernel⟩
theorem mX12_term : am_mv yX12_term cX12_term 2 none 0 := ⟨am_mem 1723 (by decide +kernel) rfl, am_mem 1722 (by decide +kernel) rfl, am_mem 68 (by decide +kernel) rfl, am_mem 129 (by decide +kernel) rfl, by decide, by decide, by decide +kernel⟩
theorem mX12_text : am_mv yX12_text cX12_text 2 (some .int) 1 := ⟨am_mem 1757 (by decide +kernel) rfl, am_mem 1755 (by decide +kernel) rfl, am_mem 1756 (by decide +kernel) rfl, am_mem 129 (by decide +kernel) rfl, by decide, by decide, by decide +kernel⟩
theorem mX12_thrown : am_mv yX12_thrown cX12_thrown 1 (some .int) 0 := ⟨am_mem 1619 (by decide +kernel) rfl, am_mem 1617 (by decide +kernel) rfl, am_mem 1618 (by decide +kernel) rfl, am_mem 129 (by decide +kernel) rfl, by decide, by decide, by decide +kernel⟩
theorem mX12_treaty : am_mv yX12_treaty cX12_treaty 6 (some .int) 2 := ⟨am_mem 1973 (by decide +kernel) rfl, am_mem 1971 (by decide +kernel) rfl, am_mem 1972 (by decide +kernel) rfl, am_mem 129 (by decide +kernel) rfl, by decide, by decide, by decide +kernel⟩
theorem mX12_tryEscorts : am_mv yX12_tryEscorts cX12_tryEscorts 6 none 4 := ⟨am_mem 1982 (by decide +kernel) rfl, am_mem 1981 (by decide +kernel) rfl, am_mem 107 (by decide +kernel) rfl, am_mem 129 (by decide +kernel) rfl, by decide, by decide, by decide +kernel⟩
theorem mX12_turned : am_ms yX12_turned cX12_turned 1 (some .int) 1 := ⟨am_mem 1945 (by decide +kernel) rfl, am_mem 1944 (by decide +kernel) rfl, am_mem 129 (by decide +kernel) rfl, by decide, by decide, by decide +kernel⟩
theorem mX12_undo : am_mv yX12_undo cX12_undo 2 (some .int) 0 := ⟨am_mem 1918 (by decide +kernel) rfl, am_mem 1916 (by decide +kernel) rfl, am_mem 1917 (by decide +kernel) rfl, am_mem 129 (by decide +kernel) rfl, by decide, by decide, by decide +kernel⟩
theorem mX12_unit : am_mv yX12_unit cX12_unit 2 none 0 := ⟨am_mem 1703 (by decide +kernel) rfl, am_mem 1702 (by decide +kernel) rfl, am_mem 63 (by decide +kernel) rfl, am_mem 129 (by decide +kernel) rfl, by decide, by decide, by decide +kernel⟩
theorem mX12_usual : am_ms yX12_usual cX12_usual 2 (some .int) 2 := ⟨am_mem 1641 (by decide +kernel) rfl, am_mem 1640 (by decide +kernel) rfl, am_mem 129 (by decide +kernel) rfl, by decide, by decide, by decide +kernel⟩
theorem mX12_victors : am_mv yX12_victors cX12_victors 5 (some .int) 1 := ⟨am_mem 1965 (by decide +kernel) rfl, am_mem 1963 (by decide +kernel) rfl, am_mem 1964 (by decide +kernel) rfl, am_mem 129 (by decide +kernel) rfl, by decide, by decide, by decide +kernel⟩
theorem mX12_weary : am_mv yX12_weary cX12_weary 4 (some .int) 0 := ⟨am_mem 2059 (by decide +kernel) rfl, am_mem 2057 (by decide +kernel) rfl, am_mem 2058 (by decide +kernel) rfl, am_mem 129 (by decide +kernel) rfl, by decide, by decide, by decide +kernel⟩
theorem mX12_wins : am_mv yX12_wins cX12_wins 4 (some .int) 1 := ⟨am_mem 1961 (by decide +kernel) rfl, am_mem 1960 (by decide +kernel) rfl, am_mem 105 (by decide +kernel) rfl, am_mem 129 (by decide +kernel) rfl, by decide, by decide, by decide +kernel⟩
theorem mX12_within : am_ms yX12_within cX12_within 8 (some .int) 3 := ⟨am_mem 2089 (by decide +kernel) rfl, am_mem 2088 (by decide +kernel) rfl, am_mem 129 (by decide +kernel) rfl, by decide, by decide, by decide +kernel⟩
theorem mX12_won : am_mv yX12_won cX12_won 1 (some .int) 0 := ⟨am_mem 1823 (by decide +kernel) rfl, am_mem 1821 (by decide +kernel) rfl, am_mem 1822 (by decide +kernel) rfl, am_mem 129 (by decide +kernel) rfl, by decide, by decide, by decide +kernel⟩
theorem mX12_wonBy : am_mv yX12_wonBy cX12_wonBy 4 (some .int) 0 := ⟨am_mem 1827 (by decide +kernel) rfl, am_mem 1826 (by decide +kernel) rfl, am_mem 84 (by decide +kernel) rfl, am_mem 129 (by decide +kernel) rfl, by decide, by decide, by decide +kernel⟩
theorem mX12_workOut : am_mv yX12_workOut cX12_workOut 6 (some .int) 3 := ⟨am_mem 1797 (by decide +kernel) rfl, am_mem 1796 (by decide +kernel) rfl, am_mem 83 (by decide +kernel) rfl, am_mem 129 (by decide +kernel) rfl, by decide, by decide, by decide +kernel⟩
theorem mX12_worked : am_ms yX12_worked cX12_worked 5 (some .int) 3 := ⟨am_mem 1800 (by decide +kernel) rfl, am_mem 1799 (by decide +kernel) rfl, am_mem 129 (by decide +kernel) rfl, by decide, by decide, by decide +kernel⟩
theorem mX12_worthOf : am_mv yX12_worthOf cX12_worthOf 3 (some .int) 1 := ⟨am_mem 1793 (by decide +kernel) rfl, am_mem 1792 (by decide +kernel) rfl, am_mem 82 (by decide +kernel) rfl, am_mem 129 (by decide +kernel) rfl, by decide, by decide, by decide +kernel⟩
def KM : List am_k := [.inl (12, [0, 2, 0, 0, 0, 0, 2, 2, 2, 2, 2, 2, 2, 0, 0, 2, 2, 2, 2, 2, 0, 0, 2, 2, 2, 0, 0, 2, 0, 2, 0, 1, 2, 2, 0, 0, 0, 2, 2, 0, 2, 2, 2, 0]),
  .inr (0, 240),
  .inr (0, 2600),
  .inr (0, 2600),
  .inr (0, 5),
  .inr (0, 5),
  .inr (0, 700),
  .inr (0, 700),
  .inr (0, 700),
  .inr (0, 6),
  .inr (0, 80),
  .inr (0, 48),
  .inr (0, 12),
  .inr (0, 2),
  .inr (0, 48),
  .inr (0, 12),
  .inr (0, 2),
  .inr (0, 206),
  .inr (0, 8240),
  .inr (0, 88200),
  .inr (0, 2),
  .inr (0, 10),
  .inr (0, 10),
  .inr (0, 84),
  .inr (1, 21),
  .inr (0, 206)]
def RM : am_R := fun k j => match k, j with
  | 0, 1 => some 1
  | 0, 6 => some 2
  | 0, 7 => some 3
  | 0, 8 => some 4
  | 0, 9 => some 5
  | 0, 10 => some 6
  | 0, 11 => some 7
  | 0, 12 => some 8
  | 0, 15 => some 9
  | 0, 16 => some 10
  | 0, 17 => some 11
  | 0, 18 => some 12
  | 0, 19 => some 13
  | 0, 22 => some 14
  | 0, 23 => some 15
  | 0, 24 => some 16
  | 0, 27 => some 17
  | 0, 29 => some 18
  | 0, 32 => some 19
  | 0, 33 => some 20
  | 0, 37 => some 21
  | 0, 38 => some 22
  | 0, 40 => some 23
  | 0, 41 => some 24
  | 0, 42 => some 25
  | _, _ => none
theorem kM_0 : KM[0]? = some (.inl (12, [0, 2, 0, 0, 0, 0, 2, 2, 2, 2, 2, 2, 2, 0, 0, 2, 2, 2, 2, 2, 0, 0, 2, 2, 2, 0, 0, 2, 0, 2, 0, 1, 2, 2, 0, 0, 0, 2, 2, 0, 2, 2, 2, 0])) := rfl
theorem kM_1 : KM[1]? = some (.inr (0, 240)) := rfl
theorem kM_10 : KM[10]? = some (.inr (0, 80)) := rfl
theorem kM_11 : KM[11]? = some (.inr (0, 48)) := rfl
theorem kM_12 : KM[12]? = some (.inr (0, 12)) := rfl
theorem kM_13 : KM[13]? = some (.inr (0, 2)) := rfl
theorem kM_14 : KM[14]? = some (.inr (0, 48)) := rfl
theorem kM_15 : KM[15]? = some (.inr (0, 12)) := rfl
theorem kM_16 : KM[16]? = some (.inr (0, 2)) := rfl
theorem kM_17 : KM[17]? = some (.inr (0, 206)) := rfl
theorem kM_18 : KM[18]? = some (.inr (0, 8240)) := rfl
theorem kM_19 : KM[19]? = some (.inr (0, 88200)) := rfl
theorem kM_2 : KM[2]? = some (.inr (0, 2600)) := rfl
theorem kM_20 : KM[20]? = some (.inr (0, 2)) := rfl
theorem kM_21 : KM[21]? = some (.inr (0, 10)) := rfl
theorem kM_22 : KM[22]? = some (.inr (0, 10)) := rfl
theorem kM_23 : KM[23]? = some (.inr (0, 84)) := rfl
theorem kM_24 : KM[24]? = some (.inr (1, 21)) := rfl
theorem kM_25 : KM[25]? = some (.inr (0, 206)) := rfl
theorem kM_3 : KM[3]? = some (.inr (0, 2600)) := rfl
theorem kM_4 : KM[4]? = some (.inr (0, 5)) := rfl
theorem kM_5 : KM[5]? = some (.inr (0, 5)) := rfl
theorem kM_6 : KM[6]? = some (.inr (0, 700)) := rfl
theorem kM_7 : KM[7]? = some (.inr (0, 700)) := rfl
theorem kM_8 : KM[8]? = some (.inr (0, 700)) := rfl
theorem kM_9 : KM[9]? = some (.inr (0, 6)) := rfl
theorem rM_0_1 : RM 0 1 = some 1 := rfl
theorem rM_0_10 : RM 0 10 = some 6 := rfl
theorem rM_0_11 : RM 0 11 = some 7 := rfl
theorem rM_0_12 : RM 0 12 = some 8 := rfl
theorem rM_0_15 : RM 0 15 = some 9 := rfl
theorem rM_0_16 : RM 0 16 = some 10 := rfl
theorem rM_0_17 : RM 0 17 = some 11 := rfl
theorem rM_0_18 : RM 0 18 = some 12 := rfl
theorem rM_0_19 : RM 0 19 = some 13 := rfl
theorem rM_0_22 : RM 0 22 = some 14 := rfl
theorem rM_0_23 : RM 0 23 = some 15 := rfl
theorem rM_0_24 : RM 0 24 = some 16 := rfl
theorem rM_0_27 : RM 0 27 = some 17 := rfl
theorem rM_0_29 : RM 0 29 = some 18 := rfl
theorem rM_0_32 : RM 0 32 = some 19 := rfl
theorem rM_0_33 : RM 0 33 = some 20 := rfl
theorem rM_0_37 : RM 0 37 = some 21 := rfl
theorem rM_0_38 : RM 0 38 = some 22 := rfl
theorem rM_0_40 : RM 0 40 = some 23 := rfl
theorem rM_0_41 : RM 0 41 = some 24 := rfl
theorem rM_0_42 : RM 0 42 = some 25 := rfl
theorem rM_0_6 : RM 0 6 = some 2 := rfl
theorem rM_0_7 : RM 0 7 = some 3 := rfl
theorem rM_0_8 : RM 0 8 = some 4 := rfl
theorem rM_0_9 : RM 0 9 = some 5 := rfl
theorem fgM_X12_101_0 : am_fg KM RX12 101 0 3 0 := ⟨12, 44, RX12, TX12, _, kM_0, clX12, inX12, kw_1486, by decide, rfl⟩
theorem fgM_X12_108_0 : am_fg KM RX12 108 0 4 0 := ⟨12, 44, RX12, TX12, _, kM_0, clX12, inX12, kw_1487, by decide, rfl⟩
theorem fgM_X12_111_0 : am_fg KM RX12 111 0 14 0 := ⟨12, 44, RX12, TX12, _, kM_0, clX12, inX12, kw_1497, by decide, rfl⟩
theorem fgM_X12_114_0 : am_fg KM RX12 114 0 5 0 := ⟨12, 44, RX12, TX12, _, kM_0, clX12, inX12, kw_1488, by decide, rfl⟩
theorem fgM_X12_13_0 : am_fg KM RX12 13 0 6 2 := ⟨12, 44, RX12, TX12, _, kM_0, clX12, inX12, kw_1489, by decide, rfl⟩
theorem fgM_X12_16_0 : am_fg KM RX12 16 0 7 2 := ⟨12, 44, RX12, TX12, _, kM_0, clX12, inX12, kw_1490, by decide, rfl⟩
theorem fgM_X12_19_0 : am_fg KM RX12 19 0 8 2 := ⟨12, 44, RX12, TX12, _, kM_0, clX12, inX12, kw_1491, by decide, rfl⟩
theorem fgM_X12_22_0 : am_fg KM RX12 22 0 9 2 := ⟨12, 44, RX12, TX12, _, kM_0, clX12, inX12, kw_1492, by decide, rfl⟩
theorem fgM_X12_230_0 : am_fg KM RX12 230 0 20 0 := ⟨12, 44, RX12, TX12, _, kM_0, clX12, inX12, kw_1503, by decide, rfl⟩
theorem fgM_X12_233_0 : am_fg KM RX12 233 0 21 0 := ⟨12, 44, RX12, TX12, _, kM_0, clX12, inX12, kw_1504, by decide, rfl⟩
theorem fgM_X12_250_0 : am_fg KM RX12 250 0 25 0 := ⟨12, 44, RX12, TX12, _, kM_0, clX12, inX12, kw_1508, by decide, rfl⟩
theorem fgM_X12_253_0 : am_fg KM RX12 253 0 26 0 := ⟨12, 44, RX12, TX12, _, kM_0, clX12, inX12, kw_1509, by decide, rfl⟩
theorem fgM_X12_259_0 : am_fg KM RX12 259 0 39 0 := ⟨12, 44, RX12, TX12, _, kM_0, clX12, inX12, kw_1522, by decide, rfl⟩
theorem fgM_X12_25_0 : am_fg KM RX12 25 0 10 2 := ⟨12, 44, RX12, TX12, _, kM_0, clX12, inX12, kw_1493, by decide, rfl⟩
theorem fgM_X12_262_0 : am_fg KM RX12 262 0 30 0 := ⟨12, 44, RX12, TX12, _, kM_0, clX12, inX12, kw_1513, by decide, rfl⟩
theorem fgM_X12_265_0 : am_fg KM RX12 265 0 43 0 := ⟨12, 44, RX12, TX12, _, kM_0, clX12, inX12, kw_1526, by decide, rfl⟩
theorem fgM_X12_272_0 : am_fg KM RX12 272 0 13 0 := ⟨12, 44, RX12, TX12, _, kM_0, clX12, inX12, kw_1496, by decide, rfl⟩
theorem fgM_X12_28_0 : am_fg KM RX12 28 0 11 2 := ⟨12, 44, RX12, TX12, _, kM_0, clX12, inX12, kw_1494, by decide, rfl⟩
theorem fgM_X12_31_0 : am_fg KM RX12 31 0 12 2 := ⟨12, 44, RX12, TX12, _, kM_0, clX12, inX12, kw_1495, by decide, rfl⟩
theorem fgM_X12_338_0 : am_fg KM RX12 338 0 31 1 := ⟨12, 44, RX12, TX12, _, kM_0, clX12, inX12, kw_1514, by decide, rfl⟩
theorem fgM_X12_34_0 : am_fg KM RX12 34 0 15 2 := ⟨12, 44, RX12, TX12, _, kM_0, clX12, inX12, kw_1498, by decide, rfl⟩
theorem fgM_X12_366_0 : am_fg KM RX12 366 0 34 0 := ⟨12, 44, RX12, TX12, _, kM_0, clX12, inX12, kw_1517, by decide, rfl⟩
theorem fgM_X12_37_0 : am_fg KM RX12 37 0 16 2 := ⟨12, 44, RX12, TX12, _, kM_0, clX12, inX12, kw_1499, by decide, rfl⟩
theorem fgM_X12_397_0 : am_fg KM RX12 397 0 35 0 := ⟨12, 44, RX12, TX12, _, kM_0, clX12, inX12, kw_1518, by decide, rfl⟩
theorem fgM_X12_400_0 : am_fg KM RX12 400 0 36 0 := ⟨12, 44, RX12, TX12, _, kM_0, clX12, inX12, kw_1519, by decide, rfl⟩
theorem fgM_X12_40_0 : am_fg KM RX12 40 0 17 2 := ⟨12, 44, RX12, TX12, _, kM_0, clX12, inX12, kw_1500, by decide, rfl⟩
theorem fgM_X12_43_0 : am_fg KM RX12 43 0 18 2 := ⟨12, 44, RX12, TX12, _, kM_0, clX12, inX12, kw_1501, by decide, rfl⟩
theorem fgM_X12_46_0 : am_fg KM RX12 46 0 19 2 := ⟨12, 44, RX12, TX12, _, kM_0, clX12, inX12, kw_1502, by decide, rfl⟩
theorem fgM_X12_49_0 : am_fg KM RX12 49 0 22 2 := ⟨12, 44, RX12, TX12, _, kM_0, clX12, inX12, kw_1505, by decide, rfl⟩
theorem fgM_X12_52_0 : am_fg KM RX12 52 0 23 2 := ⟨12, 44, RX12, TX12, _, kM_0, clX12, inX12, kw_1506, by decide, rfl⟩
theorem fgM_X12_55_0 : am_fg KM RX12 55 0 24 2 := ⟨12, 44, RX12, TX12, _, kM_0, clX12, inX12, kw_1507, by decide, rfl⟩
theorem fgM_X12_58_0 : am_fg KM RX12 58 0 27 2 := ⟨12, 44, RX12, TX12, _, kM_0, clX12, inX12, kw_1510, by decide, rfl⟩
theorem fgM_X12_61_0 : am_fg KM RX12 61 0 28 0 := ⟨12, 44, RX12, TX12, _, kM_0, clX12, inX12, kw_1511, by decide, rfl⟩
theorem fgM_X12_65_0 : am_fg KM RX12 65 0 29 2 := ⟨12, 44, RX12, TX12, _, kM_0, clX12, inX12, kw_1512, by decide, rfl⟩
theorem fgM_X12_69_0 : am_fg KM RX12 69 0 32 2 := ⟨12, 44, RX12, TX12, _, kM_0, clX12, inX12, kw_1515, by decide, rfl⟩
theorem fgM_X12_72_0 : am_fg KM RX12 72 0 33 2 := ⟨12, 44, RX12, TX12, _, kM_0, clX12, inX12, kw_1516, by decide, rfl⟩
theorem fgM_X12_75_0 : am_fg KM RX12 75 0 37 2 := ⟨12, 44, RX12, TX12, _, kM_0, clX12, inX12, kw_1520, by decide, rfl⟩
theorem fgM_X12_78_0 : am_fg KM RX12 78 0 38 2 := ⟨12, 44, RX12, TX12, _, kM_0, clX12, inX12, kw_1521, by decide, rfl⟩
theorem fgM_X12_81_0 : am_fg KM RX12 81 0 40 2 := ⟨12, 44, RX12, TX12, _, kM_0, clX12, inX12, kw_1523, by decide, rfl⟩
theorem fgM_X12_84_0 : am_fg KM RX12 84 0 41 2 := ⟨12, 44, RX12, TX12, _, kM_0, clX12, inX12, kw_1524, by decide, rfl⟩
theorem fgM_X12_88_0 : am_fg KM RX12 88 0 42 2 := ⟨12, 44, RX12, TX12, _, kM_0, clX12, inX12, kw_1525, by decide, rfl⟩
theorem fgM_X12_91_0 : am_fg KM RX12 91 0 0 0 := ⟨12, 44, RX12, TX12, _, kM_0, clX12, inX12, kw_1483, by decide, rfl⟩
theorem fgM_X12_98_0 : am_fg KM RX12 98 0 2 0 := ⟨12, 44, RX12, TX12, _, kM_0, clX12, inX12, kw_1485, by decide, rfl⟩
theorem fgM_X12_9_0 : am_fg KM RX12 9 0 1 2 := ⟨12, 44, RX12, TX12, _, kM_0, clX12, inX12, kw_1484, by decide, rfl⟩
theorem fpM_X12_101_0 : am_fp KM RX12 101 0 3 0 .int false := ⟨12, 44, RX12, TX12, _, tyX12, kM_0, clX12, inX12, kw_1486, by decide, rfl, tyX12_ok, nmX12, by decide +kernel, rfl, rfl⟩
theorem fpM_X12_108_0 : am_fp KM RX12 108 0 4 0 .int false := ⟨12, 44, RX12, TX12, _, tyX12, kM_0, clX12, inX12, kw_1487, by decide, rfl, tyX12_ok, nmX12, by decide +kernel, rfl, rfl⟩
theorem fpM_X12_111_0 : am_fp KM RX12 111 0 14 0 .int false := ⟨12, 44, RX12, TX12, _, tyX12, kM_0, clX12, inX12, kw_1497, by decide, rfl, tyX12_ok, nmX12, by decide +kernel, rfl, rfl⟩
theorem fpM_X12_114_0 : am_fp KM RX12 114 0 5 0 .int false := ⟨12, 44, RX12, TX12, _, tyX12, kM_0, clX12, inX12, kw_1488, by decide, rfl, tyX12_ok, nmX12, by decide +kernel, rfl, rfl⟩
theorem fpM_X12_230_0 : am_fp KM RX12 230 0 20 0 .int false := ⟨12, 44, RX12, TX12, _, tyX12, kM_0, clX12, inX12, kw_1503, by decide, rfl, tyX12_ok, nmX12, by decide +kernel, rfl, rfl⟩
theorem fpM_X12_233_0 : am_fp KM RX12 233 0 21 0 .int false := ⟨12, 44, RX12, TX12, _, tyX12, kM_0, clX12, inX12, kw_1504, by decide, rfl, tyX12_ok, nmX12, by decide +kernel, rfl, rfl⟩
theorem fpM_X12_250_0 : am_fp KM RX12 250 0 25 0 .int false := ⟨12, 44, RX12, TX12, _, tyX12, kM_0, clX12, inX12, kw_1508, by decide, rfl, tyX12_ok, nmX12, by decide +kernel, rfl, rfl⟩
theorem fpM_X12_253_0 : am_fp KM RX12 253 0 26 0 .int false := ⟨12, 44, RX12, TX12, _, tyX12, kM_0, clX12, inX12, kw_1509, by decide, rfl, tyX12_ok, nmX12, by decide +kernel, rfl, rfl⟩
theorem fpM_X12_259_0 : am_fp KM RX12 259 0 39 0 .int false := ⟨12, 44, RX12, TX12, _, tyX12, kM_0, clX12, inX12, kw_1522, by decide, rfl, tyX12_ok, nmX12, by decide +kernel, rfl, rfl⟩
theorem fpM_X12_262_0 : am_fp KM RX12 262 0 30 0 .int false := ⟨12, 44, RX12, TX12, _, tyX12, kM_0, clX12, inX12, kw_1513, by decide, rfl, tyX12_ok, nmX12, by decide +kernel, rfl, rfl⟩
theorem fpM_X12_265_0 : am_fp KM RX12 265 0 43 0 .boolean false := ⟨12, 44, RX12, TX12, _, tyX12, kM_0, clX12, inX12, kw_1526, by decide, rfl, tyX12_ok, nmX12, by decide +kernel, rfl, rfl⟩
theorem fpM_X12_272_0 : am_fp KM RX12 272 0 13 0 .int false := ⟨12, 44, RX12, TX12, _, tyX12, kM_0, clX12, inX12, kw_1496, by decide, rfl, tyX12_ok, nmX12, by decide +kernel, rfl, rfl⟩
theorem fpM_X12_338_0 : am_fp KM RX12 338 0 31 1 .long false := ⟨12, 44, RX12, TX12, _, tyX12, kM_0, clX12, inX12, kw_1514, by decide, rfl, tyX12_ok, nmX12, by decide +kernel, rfl, rfl⟩
theorem fpM_X12_366_0 : am_fp KM RX12 366 0 34 0 .int false := ⟨12, 44, RX12, TX12, _, tyX12, kM_0, clX12, inX12, kw_1517, by decide, rfl, tyX12_ok, nmX12, by decide +kernel, rfl, rfl⟩
theorem fpM_X12_397_0 : am_fp KM RX12 397 0 35 0 .int false := ⟨12, 44, RX12, TX12, _, tyX12, kM_0, clX12, inX12, kw_1518, by decide, rfl, tyX12_ok, nmX12, by decide +kernel, rfl, rfl⟩
theorem fpM_X12_400_0 : am_fp KM RX12 400 0 36 0 .int false := ⟨12, 44, RX12, TX12, _, tyX12, kM_0, clX12, inX12, kw_1519, by decide, rfl, tyX12_ok, nmX12, by decide +kernel, rfl, rfl⟩
theorem fpM_X12_61_0 : am_fp KM RX12 61 0 28 0 .int false := ⟨12, 44, RX12, TX12, _, tyX12, kM_0, clX12, inX12, kw_1511, by decide, rfl, tyX12_ok, nmX12, by decide +kernel, rfl, rfl⟩
theorem fpM_X12_91_0 : am_fp KM RX12 91 0 0 0 .int false := ⟨12, 44, RX12, TX12, _, tyX12, kM_0, clX12, inX12, kw_1483, by decide, rfl, tyX12_ok, nmX12, by decide +kernel, rfl, rfl⟩
theorem fpM_X12_98_0 : am_fp KM RX12 98 0 2 0 .int false := ⟨12, 44, RX12, TX12, _, tyX12, kM_0, clX12, inX12, kw_1485, by decide, rfl, tyX12_ok, nmX12, by decide +kernel, rfl, rfl⟩
def KC (al : Bool) : List am_k := [.inl (11, [2, 2, 2, 2, 2, 2, 2, 2, 2, 2, 2, 2, 2, 2, 1]),
  .inl (8, [2, 0]),
  .inr (0, 240),
  .inl (9, [0, 0, 0, 0, 0, 2, 2, 2, 2, 2, 2, 2, 2, 2, 2]),
  .inr (0, 8),
  .inr (0, 8),
  .inr (0, 8),
  .inr (0, 8),
  .inr (0, 8),
  .inr (0, 8),
  .inr (0, 6),
  .inr (0, 6),
  .inr (0, 21),
  .inr (0, 2),
  .inl (9, [0, 0, 0, 0, 0, 2, 2, 2, 2, 2, 2, 2, 2, 2, 2]),
  .inr (0, 8),
  .inr (0, 8),
  .inr (0, 8),
  .inr (0, 8),
  .inr (0, 8),
  .inr (0, 8),
  .inr (0, 6),
  .inr (0, 6),
  .inr (0, 21),
  .inr (0, 2),
  .inl (10, [2, 2, 2, 0, 0, 0]),
  .inr (0, 10),
  .inl (2, [2, 2, 0, 0]),
  .inr (0, 240),
  .inl (3, [2, 2, 2, 2, 2, 0, 0]),
  .inr (2, 4),
  .inr (0, 240),
  .inr (0, 240),
  .inr (0, 240),
  .inr (0, 240),
  .inr (0, 4),
  .inr (0, 32),
  .inr (0, 6),
  .inr (0, 4),
  .inl (7, [2, 2, 2, 2, 0, 0, 0]),
  .inr (0, 8),
  .inr (0, 8),
  .inl (5, [2, 2, 0, 0]),
  .inr (0, 420),
  .inr (0, 60),
  .inl (6, [2, 2, 2, 2, 2, 0, 0, 0]),
  .inr (1, 41),
  .inr (1, 41),
  .inr (0, 41),
  .inr (0, 41),
  .inr (0, 40),
  .inl (0, [2, 2, 2, 2, 2, 2, 2, 2, 0, 0, 0, 0]),
  .inr (0, 21),
  .inr (0, 21),
  .inr (0, 75),
  .inr (0, 75),
  .inr (0, 75),
  .inr (0, 75),
  .inl (1, [2, 2, 2, 0]),
  .inr (0, 8),
  .inl (4, [2, 2, 2, 2, 0, 0]),
  .inr (0, 10),
  .inr (0, 10),
  .inr (0, 3),
  .inr (0, 84),
  .inr (1, 21),
  .inr (0, 8)] ++ (match al with | true => [.inr (0, 5625), .inr (0, 5625)] | false => [])
def RC (al : Bool) : am_R := fun k j => match k, j with
  | 0, 0 => some 1
  | 0, 1 => some 3
  | 0, 2 => some 14
  | 0, 3 => some 25
  | 0, 4 => some 27
  | 0, 5 => some 29
  | 0, 6 => some 39
  | 0, 7 => some 42
  | 0, 8 => some 45
  | 0, 9 => some 51
  | 0, 10 => some 58
  | 0, 11 => some 60
  | 0, 12 => some 65
  | 0, 13 => some 66
  | 1, 0 => some 2
  | 3, 5 => some 4
  | 3, 6 => some 5
  | 3, 7 => some 6
  | 3, 8 => some 7
  | 3, 9 => some 8
  | 3, 10 => some 9
  | 3, 11 => some 10
  | 3, 12 => some 11
  | 3, 13 => some 12
  | 3, 14 => some 13
  | 14, 5 => some 15
  | 14, 6 => some 16
  | 14, 7 => some 17
  | 14, 8 => some 18
  | 14, 9 => some 19
  | 14, 10 => some 20
  | 14, 11 => some 21
  | 14, 12 => some 22
  | 14, 13 => some 23
  | 14, 14 => some 24
  | 25, 0 => some 1
  | 25, 1 => some 14
  | 25, 2 => some 26
  | 27, 0 => some 1
  | 27, 1 => some 28
  | 29, 0 => some 30
  | 29, 1 => some 35
  | 29, 2 => some 36
  | 29, 3 => some 37
  | 29, 4 => some 38
  | 30, 0 => some 31
  | 30, 1 => some 32
  | 30, 2 => some 33
  | 30, 3 => some 34
  | 39, 0 => some 3
  | 39, 1 => some 29
  | 39, 2 => some 40
  | 39, 3 => some 41
  | 42, 0 => some 43
  | 42, 1 => some 44
  | 45, 0 => some 46
  | 45, 1 => some 47
  | 45, 2 => some 48
  | 45, 3 => some 49
  | 45, 4 => some 50
  | 51, 0 => some 52
  | 51, 1 => some 53
  | 51, 2 => some 54
  | 51, 3 => some 55
  | 51, 4 => some 56
  | 51, 5 => some 57
  | 58, 0 => some 3
  | 58, 1 => some 39
  | 58, 2 => some 59
  | 60, 0 => some 61
  | 60, 1 => some 62
  | 60, 2 => some 63
  | 60, 3 => some 64
  | 51, 6 => if al then some 67 else none
  | 51, 7 => if al then some 68 else none
  | _, _ => none
