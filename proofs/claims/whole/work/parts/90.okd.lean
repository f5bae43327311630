def z_ix240 : List (List (List Nat)) := [[[], [], [], [], [], [], [], [], [], [], [], [], [], [], [1685, 1688, 70, 1687, 53], [], [], []], [[], [], [], [], [], [], [], [], [], [], [], [], [], []], [[], [], [], []]]
set_option maxRecDepth 100000 in
theorem z_ok_240 : z_okM z_m240 = true := z_okM_of z_ix240 (by decide +kernel) (by decide +kernel)
def z_ix241 : List (List (List Nat)) := [[[], [], [1457, 1460, 70, 1459, 28], [], [], [], [], [1682, 1684, 70, 1683], [], [], [], [], [], [], [1693, 1696, 70, 1695, 54], [], []], [[]]]
set_option maxRecDepth 100000 in
theorem z_ok_241 : z_okM z_m241 = true := z_okM_of z_ix241 (by decide +kernel) (by decide +kernel)
def z_ix242 : List (List (List Nat)) := [[[], [], [1252], [], [], [1627, 1629, 70, 1628], [], [], [], [], [1682, 1684, 70, 1683], [], [], [], [], [], [], []], [[], [], [1252], [], [], [], [], [], [], [], [], [], [], [], [], [], [], [], []], [[1693, 1696, 70, 1695, 54], [], [], [], [], [], [1693, 1696, 70, 1695, 54], [], [], [], [], [], [], [], [], []], [[], [], [], [], [], []]]
set_option maxRecDepth 100000 in
theorem z_ok_242 : z_okM z_m242 = true := z_okM_of z_ix242 (by decide +kernel) (by decide +kernel)
def z_ix243 : List (List (List Nat)) := [[[], [], [1444, 1447, 70, 1446, 27], [], [], [], [], [1428, 1430, 70, 1429], [], [], [], [], [1300], [], [], []], [[], [], [1301], [], [1300], [], [], [], [1302], [], [1300], [], [], [], [], [1300], [], [], [1300], []], [[1300], [], [], []]]
set_option maxRecDepth 100000 in
theorem z_ok_243 : z_okM z_m243 = true := z_okM_of z_ix243 (by decide +kernel) (by decide +kernel)
def z_ix244 : List (List (List Nat)) := [[[], [], [], [], [], [], [1300], [], [], [], [], [], [], [], [], [], [], [], [], []], [[], [], [], [], [1251], [], [], [1301], [], [], [], [], [], [], [], [], [], [], [], [], []], [[], [], [], [], [1302], [], [], [], [], [], [], [], [], [], [], []]]
set_option maxRecDepth 100000 in
theorem z_ok_244 : z_okM z_m244 = true := z_okM_of z_ix244 (by decide +kernel) (by decide +kernel)
def z_ix245 : List (List (List Nat)) := [[[], [], [], [1428, 1430, 70, 1429], [], [], [], [], [], [], [1428, 1430, 70, 1429], [], [], [], [], [], [], []], [[], [], [], [], [], [1709], [], [], [], [1710, 1713, 70, 1712, 55], [], [], [], [], [], [], []], [[], [], [], [], [], [], [], [], [], [], [], [], [], [], [], []], [[], [], [], [], [], [], [], [], [], [], [], [], [], [], []], [[], [], [], [], [], [], []]]
set_option maxRecDepth 100000 in
theorem z_ok_245 : z_okM z_m245 = true := z_okM_of z_ix245 (by decide +kernel) (by decide +kernel)
def z_ix246 : List (List (List Nat)) := [[[], []], [[], [1249]], [[], [], [1250], [], [], [1252], [], [], [1258], [], [], [1260], [], [], [1265], [], [], [1264], [], []], [[1269], [], [], [1292], [], [], [1296], [], [], [1300], [], [], []]]
set_option maxRecDepth 100000 in
theorem z_ok_246 : z_okM z_m246 = true := z_okM_of z_ix246 (by decide +kernel) (by decide +kernel)
def z_ix247 : List (List (List Nat)) := [[[], [], [], [1428, 1430, 70, 1429], []]]
set_option maxRecDepth 100000 in
theorem z_ok_247 : z_okM z_m247 = true := z_okM_of z_ix247 (by decide +kernel) (by decide +kernel)
def z_ix248 : List (List (List Nat)) := [[[], [1722, 1724, 70, 1723], [], [], [], [], [1428, 1430, 70, 1429], [], [], [], [], [], [], [], [], [], []], [[], [], [], [], [], [1303], [], [], [], [], [1304], [], [], [], [], [], [], [], [], []], [[], [], [], [], [1305], [], [], [], [], [], [], [], [], [], [], []]]
set_option maxRecDepth 100000 in
theorem z_ok_248 : z_okM z_m248 = true := z_okM_of z_ix248 (by decide +kernel) (by decide +kernel)
def z_ix249 : List (List (List Nat)) := [[[], [1722, 1724, 70, 1723], [], [], [], [], [1303], [], [], [], [], [], [], [], [], [1304], [], [], [], []], [[1428, 1430, 70, 1429], [], [], [], [], [1305], [], [], [], [], [], [], [1303], [], [], [], [], [], []], [[], [1303], [], [], [], [], [], [], [], [], [], [], []]]
set_option maxRecDepth 100000 in
theorem z_ok_249 : z_okM z_m249 = true := z_okM_of z_ix249 (by decide +kernel) (by decide +kernel)
def z_ix250 : List (List (List Nat)) := [[[], [1722, 1724, 70, 1723], [], [], [1722, 1724, 70, 1723], [], [], [], [], [1303], [], [], [], [], [1303], [], []], [[], [], [], [], [1303], [], [], [], [1303], [], [], [], [], [], [], [], [], []], [[], [], [], [], [1304], [], [], [], [], [], [], [], [1304], [], [], [], [], []], [[], [], [], [], [], [], [], [], [1306], [], [], [1305], [], [], [], [], [], []], [[], [], [], [], [], [], [], [], [], [], [], [1305], [], [], [], [], [], []], [[], [], [1306], [], [], [], [], [], [], []]]
set_option maxRecDepth 100000 in
theorem z_ok_250 : z_okM z_m250 = true := z_okM_of z_ix250 (by decide +kernel) (by decide +kernel)
def z_ix251 : List (List (List Nat)) := [[[], [1722, 1724, 70, 1723], [], [], [], [], [1428, 1430, 70, 1429], [], [], [], [], [1303], [], [], [], [], [1303]], [[], [], [], [], [], [], [], [1303], [], [], [], [], [], [], [], [], [], [1304], [], []], [[], [], [], [], [], [], [], [], [], [], [], [1305], [], [], [], [], [], [], []], [[], [], [], [1428, 1430, 70, 1429], [], [], [], [], [], [], [1250], [], [], [], []], [[], [], [], [], [], [], [1251], [], [], [1250], [], [], [], [], [1305], [], [], []], [[], [], [], [], [], [], [], [], [], [], [1250], [], [], [1250], [], [1250], [], [], []]]
set_option maxRecDepth 100000 in
theorem z_ok_251 : z_okM z_m251 = true := z_okM_of z_ix251 (by decide +kernel) (by decide +kernel)
def z_ix252 : List (List (List Nat)) := [[[], [], [], [1428, 1430, 70, 1429], [], [], [], [], [], [1457, 1460, 70, 1459, 28], [], [], [], [], [1253], [], [], [], [], []], [[], [], [], [], [], [], [], [], [], [], [], [], [], [], [], [], [], []], [[], [], [], [], [], [], [], [1255], [], [], [], [], []]]
set_option maxRecDepth 100000 in
theorem z_ok_252 : z_okM z_m252 = true := z_okM_of z_ix252 (by decide +kernel) (by decide +kernel)
def z_ix256 : List (List (List Nat)) := [[[], [], [], [], [903], [], [], [], [], [904], [], [], [], [], [904], [], [], [], [], [], [], [], [], [905]], [[], [], [], [], [], [], [], [], [], [], [], [], [], [], [], [], [], []]]
set_option maxRecDepth 100000 in
theorem z_ok_256 : z_okM z_m256 = true := z_okM_of z_ix256 (by decide +kernel) (by decide +kernel)
def z_ix257 : List (List (List Nat)) := [[[], [], [], [], [], [], [], [], []]]
set_option maxRecDepth 100000 in
theorem z_ok_257 : z_okM z_m257 = true := z_okM_of z_ix257 (by decide +kernel) (by decide +kernel)
def z_ix258 : List (List (List Nat)) := [[[], [], [], [], [], [], []]]
set_option maxRecDepth 100000 in
theorem z_ok_258 : z_okM z_m258 = true := z_okM_of z_ix258 (by decide +kernel) (by decide +kernel)
def z_ix259 : List (List (List Nat)) := [[[], [], [], [], [], [], []]]
set_option maxRecDepth 100000 in
theorem z_ok_259 : z_okM z_m259 = true := z_okM_of z_ix259 (by decide +kernel) (by decide +kernel)
def z_ix260 : List (List (List Nat)) := [[[], [], [], [], [], [], [], []]]
set_option maxRecDepth 100000 in
theorem z_ok_260 : z_okM z_m260 = true := z_okM_of z_ix260 (by decide +kernel) (by decide +kernel)
def z_ix261 : List (List (List Nat)) := [[[], [1742], [], [], [682, 685, 71, 683, 684], [], []]]
set_option maxRecDepth 100000 in
theorem z_ok_261 : z_okM z_m261 = true := z_okM_of z_ix261 (by decide +kernel) (by decide +kernel)
def z_ix262 : List (List (List Nat)) := [[[], [692, 695, 71, 693, 694], [], [], [1742], [], [696, 698, 72, 697], [], [], [1742], [], [707, 709, 74, 708], []]]
set_option maxRecDepth 100000 in
theorem z_ok_262 : z_okM z_m262 = true := z_okM_of z_ix262 (by decide +kernel) (by decide +kernel)
def z_ix263 : List (List (List Nat)) := [[[], [], [], [731, 734, 71, 732, 733], []]]
set_option maxRecDepth 100000 in
theorem z_ok_263 : z_okM z_m263 = true := z_okM_of z_ix263 (by decide +kernel) (by decide +kernel)
def z_ix264 : List (List (List Nat)) := [[[], [692, 695, 71, 693, 694], [], [], [1742], [], [], [], [735, 681, 71, 679, 680], [736, 738, 72, 737], [], [], [1742], [], [], [], [735, 681, 71, 679, 680]], [[749, 751, 74, 750], []]]
set_option maxRecDepth 100000 in
theorem z_ok_264 : z_okM z_m264 = true := z_okM_of z_ix264 (by decide +kernel) (by decide +kernel)
def z_ix265 : List (List (List Nat)) := [[[686], [], [], [1743], [], [], []]]
set_option maxRecDepth 100000 in
theorem z_ok_265 : z_okM z_m265 = true := z_okM_of z_ix265 (by decide +kernel) (by decide +kernel)
def z_ix266 : List (List (List Nat)) := [[[686], [], [], [1743], [], [], [], [], []]]
set_option maxRecDepth 100000 in
theorem z_ok_266 : z_okM z_m266 = true := z_okM_of z_ix266 (by decide +kernel) (by decide +kernel)
def z_ix267 : List (List (List Nat)) := [[[], [], [702], [704, 706, 73, 705], [], []]]
set_option maxRecDepth 100000 in
theorem z_ok_267 : z_okM z_m267 = true := z_okM_of z_ix267 (by decide +kernel) (by decide +kernel)
def z_ix268 : List (List (List Nat)) := [[[], [], [], [702], [764, 766, 73, 765], [], []]]
set_option maxRecDepth 100000 in
theorem z_ok_268 : z_okM z_m268 = true := z_okM_of z_ix268 (by decide +kernel) (by decide +kernel)
def z_ix269 : List (List (List Nat)) := [[[], [], [], [699, 701, 71, 700], [], [], [], [], [], [], []]]
set_option maxRecDepth 100000 in
theorem z_ok_269 : z_okM z_m269 = true := z_okM_of z_ix269 (by decide +kernel) (by decide +kernel)
def z_ix270 : List (List (List Nat)) := [[[], [], [], [], [], [], [], [], []]]
set_option maxRecDepth 100000 in
theorem z_ok_270 : z_okM z_m270 = true := z_okM_of z_ix270 (by decide +kernel) (by decide +kernel)
def z_ix271 : List (List (List Nat)) := [[[], [739, 741, 72, 740], [], [], [], [], [], [742, 94, 59, 93], [], [], [], [], [743, 745, 59, 744], [], [], [], [], [], [], [], [], []], [[], [746, 748, 72, 747], []]]
set_option maxRecDepth 100000 in
theorem z_ok_271 : z_okM z_m271 = true := z_okM_of z_ix271 (by decide +kernel) (by decide +kernel)
def z_ix272 : List (List (List Nat)) := [[[], [], [], [], [], [], [], [], [], [], [], [], [], [], [], [], [], []], [[]]]
set_option maxRecDepth 100000 in
theorem z_ok_272 : z_okM z_m272 = true := z_okM_of z_ix272 (by decide +kernel) (by decide +kernel)
def z_ix282 : List (List (List Nat)) := [[[], [], [], [], [], [], [], [], [], [], [], [], [], [], []]]
set_option maxRecDepth 100000 in
theorem z_ok_282 : z_okM z_m282 = true := z_okM_of z_ix282 (by decide +kernel) (by decide +kernel)
def z_ix283 : List (List (List Nat)) := [[[], [], [], [], [], [], [], [], [], [], [], []]]
set_option maxRecDepth 100000 in
theorem z_ok_283 : z_okM z_m283 = true := z_okM_of z_ix283 (by decide +kernel) (by decide +kernel)
def z_ix284 : List (List (List Nat)) := [[[], [], [], [], [], [], [], [], [], [], [], [], [], [], [], []]]
set_option maxRecDepth 100000 in
theorem z_ok_284 : z_okM z_m284 = true := z_okM_of z_ix284 (by decide +kernel) (by decide +kernel)
def z_ix285 : List (List (List Nat)) := [[[78, 79, 57], [], [80, 82, 57, 81], [], [1243, 1244, 70], [], [1245, 1247, 70, 1246], [], [], [], [], [], [], [], [], [], [], [], [], []], [[], []], [[], [], [], [], [], [], [429, 432, 57, 430, 431], [], [], [], [], [], [], [1424, 1427, 70, 1425, 1426], [], [], [], []], [[], [], [], [], [], [], [], [], [], [], [], [], [], [], [1741], [], [], [], [], [], [], [], [], [], [], [], [], []], [[], [], [], [1741], [], [], [433, 436, 57, 434, 435], [], [], [], [], [], [], [], [], [], [], [], [], [], [], [], [1741], [], []], [[], [], [], [], [], [], [], [], [], [], [], [], [], [], [1741], [], [], [1431, 1434, 70, 1432, 1433], [], [], [], [], [], [], []], [[], [], [], [], [], [], [], [454, 457, 57, 455, 456], [], [], [], [], [], [], [], [], [], [], [], [1440, 1443, 70, 1441, 1442], [], [], [], [], [], []], [[], [], [], [], [], [], [], [], [], [], [], [], [], [469, 472, 57, 470, 471], [], [], [], [], [], [], [], [], [], [], [], [], [], [], [], []], [[1448, 1451, 70, 1449, 1450], [], [], [], [], [], [], [], [], [], [], [], [], [], [], [487, 490, 57, 488, 489], [], [], [], [], [], [], [], [], [], []], [[], [1453, 1456, 70, 1454, 1455], [], [], [], [], [], [], [], [], [], [527, 530, 57, 528, 529], [], [], [], [], [], [], [1465, 1468, 70, 1466, 1467], [], [], []], [[], [], [], [], [], [], [], [], [], [], [], [], [], [], [], [], [531, 534, 57, 532, 533], [], [], [], [], [], [], [], [], [], [], [], [], []], [[], [], [], [1469, 1472, 70, 1470, 1471], [], [], [], [], [], [], [], [], [], [], [], [], [], [], [566, 569, 57, 567, 568], [], [], [], [], [], [], []], [[], [], [], [], [1484, 1487, 70, 1485, 1486], [], [], [], [], [], [], [], [], [], [], [], [], [], [], [574, 577, 57, 575, 576], [], [], [], [], [], []], [[], [], [], [], [], [1488, 1491, 70, 1489, 1490], [], [], [], [], [], [], [], [], [], [], [], [], [], [], [], [], [], [], [], [578, 581, 57, 579, 580]], [[], [], [], [], [], [], [], [], [], [], [], [], [], [], [], [], [1492, 1495, 70, 1493, 1494], [], [], [], [], [], [], [], [], [], [], []], [[], [], [], [], [], [], [], [], [590, 593, 57, 591, 592], [], [], [], [], [], [], [], [], [], [], [], [], [], [], [], [], [1496, 1499, 70, 1497, 1498], [], []], [[], [], [], [], [], [], [], [], [], [], [], [], [], [], [], [], [], [], [608, 611, 57, 609, 610], [], [], [], [], [], [], [], [], []], [[], [], [], [], [], [], [], [1509, 1512, 70, 1510, 1511], [], [], [], [], [], [], [], [], [], [], [], [], [], [], [], [], [], [], [], [623, 626, 57, 624, 625]], [[], [], [], [], [], [], [], [], [], [], [], [], [], [], [], [], [1517, 1520, 70, 1518, 1519], [], [], [], [], [], [], [], [], []], [[], [], [], [], [], [], [], [], [], [], [], [], [], [], [1741], [], [], [631, 634, 57, 632, 633], [], [], [], [], [], [], [], [], []], [[], [], [], [], [], [], [], [], [], [], [], [1741], [], [], [1521, 1524, 70, 1522, 1523], [], [], [], [], [643, 646, 57, 644, 645], [], [1526, 1529, 70, 1527, 1528]], [[], [], [], [], [], [], [], [], [], [848, 851, 57, 849, 850], [], [], [], [], [], [], [1594, 1597, 70, 1595, 1596], [], [], [], [], [], []], [[], [], [], [], [], [], [], [], [], [], [], [], [], [860, 863, 57, 861, 862], [], [], [], [], [], [], [], [], [], [], [], [], [], [], [], []], [[1598, 1601, 70, 1599, 1600], [], [], [], [], [], [], [], [], [], [], [], [], [], [], [], [], [], [], [], [], [], [], [], [], [], [896, 899, 57, 897, 898]], [[], [], [], [], [], [], [], [], [], [], [], [], [], [], [], [], [], [], [], [], [], [1630, 1633, 70, 1631, 1632], [], [], [], [], []], [[], [], [], [], [], [], [], [], [], [], [], [], [], [], [], [], [], [], [], [941, 944, 57, 942, 943], [], [], [], [], [], [], [], [], [], []], [[], [], [], [], [], [], [], [], [], [], [], [1615, 1618, 70, 1616, 1617], [], [], [], [], [], [], [], [], [], [], [], [], [], [], [], []], [[], [], [], [], [], [], [], [], [], [953, 956, 57, 954, 955], [], [], [], [], [], [], [], [], [], [], [], [], [], [], [], [], [], [], [], []], [[], [1623, 1626, 70, 1624, 1625], [], [], [], [], [], [], [], [], [], [], [], [], [], [], [], [], [], [], [], [], [], [], [], [], [], []], [[], [], [], [971, 974, 57, 972, 973], [], [], [], [], [], [], [], [], [], [], [], [], [], [], [], [], [], [], [], [], [], [], [], [], [], []], [[1639, 1642, 70, 1640, 1641], [], [], [], [], [], [], [], [], [], [], [], [], [], [], [994, 997, 57, 995, 996], [], [], [], [], [], [], [], [], [], []], [[], [1647, 1650, 70, 1648, 1649], [], [], [], [], [], [], [], [], [], [1006, 1009, 57, 1007, 1008], [], [], [], [], [], [], [1651, 1654, 70, 1652, 1653], [], [], []], [[], [], [], [], [], [], [1016, 1019, 57, 1017, 1018], [], [], [], [], [], [], [1659, 1662, 70, 1660, 1661], [], [], [], [], [], [], [], [], [], [], [], []], [[], [], [], [], [], [], [], [1044, 1047, 57, 1045, 1046], [], [], [], [], [], [], [], [], [], [], [], [], [], [], [], [], [1666, 1669, 70, 1667, 1668], []], [[], [], [], [], [], [], [], [], [], [], [], [], [], [1059, 1062, 57, 1060, 1061], [], [], [], [], [], [], [], [], [], [], [], [1670, 1673, 70, 1671, 1672], []], [[], [], [], [], [], [], [], [], [], [], [], [], [], [1064, 1067, 57, 1065, 1066], [], [], [], [], [], [], [], [], [], [], [], [1674, 1677, 70, 1675, 1676], []], [[], [], [], [], [], [], [], [], [], [], [], [], [], [], [], [], [], [], [], [], [], [], [], [1073, 1076, 57, 1074, 1075], [], [], [], []], [[], [], [], [], [], [], [], [], [], [], [], [], [], [], [], [], [], [1678, 1681, 70, 1679, 1680], [], [], [], [], [], [], [], [], [], []], [[], [], [], [], [], [], [], [], [], [], [], [], [], [], [1084, 1087, 57, 1085, 1086], [], [], [], [], [], [], [], [], [], [], [], [], [], [], []], [[], [], [], [], [], [], [1689, 1692, 70, 1690, 1691], [], [], [], [], [], [], [], [], [], [], [], [], [], [], [], [], [], [], [], [], []], [[], [], [], [1095, 1098, 57, 1096, 1097], [], [], [], [], [], [], [], [], [], [], [], [], [], [], [], [], [], [], [], [], [], [1697, 1700, 70, 1698, 1699], []], [[], [], [], [], [], [], [], [], [], [], [], [], [], [1099, 1102, 57, 1100, 1101], [], [], [], [], [], [], [], [], [], [], [], [1701, 1704, 70, 1702, 1703], []], [[], [], [], [], [], [], [], [], [], [], [], [], [], [1111, 1114, 57, 1112, 1113], [], [], [], [], [], [], [], [], [], [], [], [1705, 1708, 70, 1706, 1707]], [[], [], [], [], [], [], [], [], [], [1151, 1154, 57, 1152, 1153], [], [], [], [], [], [], [1714, 1717, 70, 1715, 1716], [], [], [], [], [], [], []], [[], [], [], [], [], [], [], [], [], [], [], [], [1180, 1183, 57, 1181, 1182], [], [], [], [], [], [], [], [], [], [], [], [], [], [], [], [], [1718, 1721, 70, 1719, 1720]], [[], [], [], [], [], [], [], [], [], [], [], [], [], [], [], [], [], [], [], [1199, 1202, 57, 1200, 1201], [], [], [], [], [], []], [[], [], [], [], [], [], [], [], [], [], [1725, 1728, 70, 1726, 1727], [], [], [], [], [], [], [], [], [], [], [], [], [], [], [], [], []], [[], [], [], [], [], [], [], [], [], [], [], [], [1215, 1218, 57, 1216, 1217], [], [], [], [], [], [], [], [], [], [], [], [], [], [], [], [], []], [[], [], [], [], [], [], [], [], [], [1729, 1732, 70, 1730, 1731], [], [], [], [], [], [], [], [], [], [], [], [], [], [], [], [], [], []], [[], [1228, 1231, 57, 1229, 1230], [], [], [], [], [], [], [], [], [], [], [], [], [], [], [], [], [1733, 1736, 70, 1734, 1735], [], [], [], [], [], [], []], [[], [], [], [], [], [], [], [1235, 1238, 57, 1236, 1237], [], [], [], [], [], [], [], [], [], [], [], [1737, 1740, 70, 1738, 1739], [], [], [], []], [[], [], []]]
set_option maxRecDepth 100000 in
theorem z_ok_285 : z_okM z_m285 = true := z_okM_of z_ix285 (by decide +kernel) (by decide +kernel)
theorem z_okc_0 : ∀ (k : Nat) (M : zM), z_look k [(0, z_m0), (1, z_m1), (2, z_m2), (3, z_m3), (4, z_m4), (5, z_m5), (6, z_m6), (7, z_m7), (8, z_m8), (9, z_m9), (10, z_m10), (11, z_m11), (12, z_m12), (13, z_m13), (14, z_m14), (15, z_m15)] = some M → z_okM M = true := by
  intro k M h
  have h := z_look_mem h
  simp only [List.mem_cons, Prod.mk.injEq, List.not_mem_nil, or_false] at h
  rcases h with ⟨-, rfl⟩ | ⟨-, rfl⟩ | ⟨-, rfl⟩ | ⟨-, rfl⟩ | ⟨-, rfl⟩ | ⟨-, rfl⟩ | ⟨-, rfl⟩ | ⟨-, rfl⟩ | ⟨-, rfl⟩ | ⟨-, rfl⟩ | ⟨-, rfl⟩ | ⟨-, rfl⟩ | ⟨-, rfl⟩ | ⟨-, rfl⟩ | ⟨-, rfl⟩ | ⟨-, rfl⟩
  · exact z_ok_0
  · exact z_ok_1
  · exact z_ok_2
  · exact z_ok_3
  · exact z_ok_4
  · exact z_ok_5
  · exact z_ok_6
  · exact z_ok_7
  · exact z_ok_8
  · exact z_ok_9
  · exact z_ok_10
  · exact z_ok_11
  · exact z_ok_12
  · exact z_ok_13
  · exact z_ok_14
  · exact z_ok_15
theorem z_okc_1 : ∀ (k : Nat) (M : zM), z_look k [(16, z_m16), (17, z_m17), (18, z_m18), (19, z_m19), (20, z_m20), (21, z_m21), (22, z_m22), (23, z_m23), (24, z_m24), (25, z_m25), (26, z_m26), (27, z_m27), (28, z_m28), (29, z_m29), (30, z_m30), (31, z_m31)] = some M → z_okM M = true := by
  intro k M h
  have h := z_look_mem h
  simp only [List.mem_cons, Prod.mk.injEq, List.not_mem_nil, or_false] at h
  rcases h with ⟨-, rfl⟩ | ⟨-, rfl⟩ | ⟨-, rfl⟩ | ⟨-, rfl⟩ | ⟨-, rfl⟩ | ⟨-, rfl⟩ | ⟨-, rfl⟩ | ⟨-, rfl⟩ | ⟨-, rfl⟩ | ⟨-, rfl⟩ | ⟨-, rfl⟩ | ⟨-, rfl⟩ | ⟨-, rfl⟩ | ⟨-, rfl⟩ | ⟨-, rfl⟩ | ⟨-, rfl⟩
  · exact z_ok_16
  · exact z_ok_17
  · exact z_ok_18
  · exact z_ok_19
  · exact z_ok_20
  · exact z_ok_21
  · exact z_ok_22
  · exact z_ok_23
  · exact z_ok_24
  · exact z_ok_25
  · exact z_ok_26
  · exact z_ok_27
  · exact z_ok_28
  · exact z_ok_29
  · exact z_ok_30
  · exact z_ok_31
theorem z_okc_2 : ∀ (k : Nat) (M : zM), z_look k [(32, z_m32), (33, z_m33), (34, z_m34), (35, z_m35), (36, z_m36), (37, z_m37), (38, z_m38), (39, z_m39), (40, z_m40), (41, z_m41), (42, z_m42), (43, z_m43), (44, z_m44), (45, z_m45), (46, z_m46), (47, z_m47)] = some M → z_okM M = true := by
  intro k M h
  have h := z_look_mem h
  simp only [List.mem_cons, Prod.mk.injEq, List.not_mem_nil, or_false] at h
  rcases h with ⟨-, rfl⟩ | ⟨-, rfl⟩ | ⟨-, rfl⟩ | ⟨-, rfl⟩ | ⟨-, rfl⟩ | ⟨-, rfl⟩ | ⟨-, rfl⟩ | ⟨-, rfl⟩ | ⟨-, rfl⟩ | ⟨-, rfl⟩ | ⟨-, rfl⟩ | ⟨-, rfl⟩ | ⟨-, rfl⟩ | ⟨-, rfl⟩ | ⟨-, rfl⟩ | ⟨-, rfl⟩
  · exact z_ok_32
  · exact z_ok_33
  · exact z_ok_34
  · exact z_ok_35
  · exact z_ok_36
  · exact z_ok_37
  · exact z_ok_38
  · exact z_ok_39
  · exact z_ok_40
  · exact z_ok_41
  · exact z_ok_42
  · exact z_ok_43
  · exact z_ok_44
  · exact z_ok_45
  · exact z_ok_46
  · exact z_ok_47
theorem z_okc_3 : ∀ (k : Nat) (M : zM), z_look k [(48, z_m48), (49, z_m49), (50, z_m50), (51, z_m51), (52, z_m52), (53, z_m53), (54, z_m54), (55, z_m55), (56, z_m56), (57, z_m57), (58, z_m58), (59, z_m59), (60, z_m60), (61, z_m61), (62, z_m62), (63, z_m63)] = some M → z_okM M = true := by
  intro k M h
  have h := z_look_mem h
  simp only [List.mem_cons, Prod.mk.injEq, List.not_mem_nil, or_false] at h
  rcases h with ⟨-, rfl⟩ | ⟨-, rfl⟩ | ⟨-, rfl⟩ | ⟨-, rfl⟩ | ⟨-, rfl⟩ | ⟨-, rfl⟩ | ⟨-, rfl⟩ | ⟨-, rfl⟩ | ⟨-, rfl⟩ | ⟨-, rfl⟩ | ⟨-, rfl⟩ | ⟨-, rfl⟩ | ⟨-, rfl⟩ | ⟨-, rfl⟩ | ⟨-, rfl⟩ | ⟨-, rfl⟩
  · exact z_ok_48
  · exact z_ok_49
  · exact z_ok_50
  · exact z_ok_51
  · exact z_ok_52
  · exact z_ok_53
  · exact z_ok_54
  · exact z_ok_55
  · exact z_ok_56
  · exact z_ok_57
  · exact z_ok_58
  · exact z_ok_59
  · exact z_ok_60
  · exact z_ok_61
  · exact z_ok_62
  · exact z_ok_63
theorem z_okc_4 : ∀ (k : Nat) (M : zM), z_look k [(64, z_m64), (65, z_m65), (66, z_m66), (67, z_m67), (68, z_m68), (69, z_m69), (70, z_m70), (71, z_m71), (72, z_m72), (73, z_m73), (74, z_m74), (75, z_m75), (76, z_m76), (77, z_m77), (78, z_m78), (79, z_m79)] = some M → z_okM M = true := by
  intro k M h
  have h := z_look_mem h
  simp only [List.mem_cons, Prod.mk.injEq, List.not_mem_nil, or_false] at h
  rcases h with ⟨-, rfl⟩ | ⟨-, rfl⟩ | ⟨-, rfl⟩ | ⟨-, rfl⟩ | ⟨-, rfl⟩ | ⟨-, rfl⟩ | ⟨-, rfl⟩ | ⟨-, rfl⟩ | ⟨-, rfl⟩ | ⟨-, rfl⟩ | ⟨-, rfl⟩ | ⟨-, rfl⟩ | ⟨-, rfl⟩ | ⟨-, rfl⟩ | ⟨-, rfl⟩ | ⟨-, rfl⟩
  · exact z_ok_64
  · exact z_ok_65
  · exact z_ok_66
  · exact z_ok_67
  · exact z_ok_68
  · exact z_ok_69
  · exact z_ok_70
  · exact z_ok_71
  · exact z_ok_72
  · exact z_ok_73
  · exact z_ok_74
  · exact z_ok_75
  · exact z_ok_76
  · exact z_ok_77
  · exact z_ok_78
  · exact z_ok_79
theorem z_okc_5 : ∀ (k : Nat) (M : zM), z_look k [(80, z_m80), (81, z_m81), (82, z_m82), (83, z_m83), (84, z_m84), (85, z_m85), (86, z_m86), (87, z_m87), (88, z_m88), (89, z_m89), (90, z_m90), (91, z_m91), (92, z_m92), (93, z_m93), (94, z_m94), (95, z_m95)] = some M → z_okM M = true := by
  intro k M h
  have h := z_look_mem h
  simp only [List.mem_cons, Prod.mk.injEq, List.not_mem_nil, or_false] at h
  rcases h with ⟨-, rfl⟩ | ⟨-, rfl⟩ | ⟨-, rfl⟩ | ⟨-, rfl⟩ | ⟨-, rfl⟩ | ⟨-, rfl⟩ | ⟨-, rfl⟩ | ⟨-, rfl⟩ | ⟨-, rfl⟩ | ⟨-, rfl⟩ | ⟨-, rfl⟩ | ⟨-, rfl⟩ | ⟨-, rfl⟩ | ⟨-, rfl⟩ | ⟨-, rfl⟩ | ⟨-, rfl⟩
  · exact z_ok_80
  · exact z_ok_81
  · exact z_ok_82
  · exact z_ok_83
  · exact z_ok_84
  · exact z_ok_85
  · exact z_ok_86
  · exact z_ok_87
  · exact z_ok_88
  · exact z_ok_89
  · exact z_ok_90
  · exact z_ok_91
  · exact z_ok_92
  · exact z_ok_93
  · exact z_ok_94
  · exact z_ok_95
theorem z_okc_6 : ∀ (k : Nat) (M : zM), z_look k [(96, z_m96), (97, z_m97), (98, z_m98), (99, z_m99), (100, z_m100), (101, z_m101), (102, z_m102), (103, z_m103), (104, z_m104), (105, z_m105), (106, z_m106), (107, z_m107), (108, z_m108), (109, z_m109), (110, z_m110), (111, z_m111)] = some M → z_okM M = true := by
  intro k M h
  have h := z_look_mem h
  simp only [List.mem_cons, Prod.mk.injEq, List.not_mem_nil, or_false] at h
  rcases h with ⟨-, rfl⟩ | ⟨-, rfl⟩ | ⟨-, rfl⟩ | ⟨-, rfl⟩ | ⟨-, rfl⟩ | ⟨-, rfl⟩ | ⟨-, rfl⟩ | ⟨-, rfl⟩ | ⟨-, rfl⟩ | ⟨-, rfl⟩ | ⟨-, rfl⟩ | ⟨-, rfl⟩ | ⟨-, rfl⟩ | ⟨-, rfl⟩ | ⟨-, rfl⟩ | ⟨-, rfl⟩
  · exact z_ok_96
  · exact z_ok_97
  · exact z_ok_98
  · exact z_ok_99
  · exact z_ok_100
  · exact z_ok_101
  · exact z_ok_102
  · exact z_ok_103
  · exact z_ok_104
  · exact z_ok_105
  · exact z_ok_106
  · exact z_ok_107
  · exact z_ok_108
  · exact z_ok_109
  · exact z_ok_110
  · exact z_ok_111
theorem z_okc_7 : ∀ (k : Nat) (M : zM), z_look k [(112, z_m112), (113, z_m113), (114, z_m114), (115, z_m115), (116, z_m116), (117, z_m117), (118, z_m118), (119, z_m119), (120, z_m120), (121, z_m121), (122, z_m122), (123, z_m123), (124, z_m124), (125, z_m125), (126, z_m126), (127, z_m127)] = some M → z_okM M = true := by
  intro k M h
  have h := z_look_mem h
  simp only [List.mem_cons, Prod.mk.injEq, List.not_mem_nil, or_false] at h
  rcases h with ⟨-, rfl⟩ | ⟨-, rfl⟩ | ⟨-, rfl⟩ | ⟨-, rfl⟩ | ⟨-, rfl⟩ | ⟨-, rfl⟩ | ⟨-, rfl⟩ | ⟨-, rfl⟩ | ⟨-, rfl⟩ | ⟨-, rfl⟩ | ⟨-, rfl⟩ | ⟨-, rfl⟩ | ⟨-, rfl⟩ | ⟨-, rfl⟩ | ⟨-, rfl⟩ | ⟨-, rfl⟩
  · exact z_ok_112
  · exact z_ok_113
  · exact z_ok_114
  · exact z_ok_115
  · exact z_ok_116
  · exact z_ok_117
  · exact z_ok_118
  · exact z_ok_119
  · exact z_ok_120
  · exact z_ok_121
  · exact z_ok_122
  · exact z_ok_123
  · exact z_ok_124
  · exact z_ok_125
  · exact z_ok_126
  · exact z_ok_127
theorem z_okc_8 : ∀ (k : Nat) (M : zM), z_look k [(128, z_m128), (129, z_m129), (130, z_m130), (131, z_m131), (132, z_m132), (133, z_m133), (134, z_m134), (135, z_m135), (136, z_m136), (137, z_m137), (138, z_m138), (139, z_m139), (140, z_m140), (141, z_m141), (142, z_m142), (143, z_m143)] = some M → z_okM M = true := by
  intro k M h
  have h := z_look_mem h
  simp only [List.mem_cons, Prod.mk.injEq, List.not_mem_nil, or_false] at h
  rcases h with ⟨-, rfl⟩ | ⟨-, rfl⟩ | ⟨-, rfl⟩ | ⟨-, rfl⟩ | ⟨-, rfl⟩ | ⟨-, rfl⟩ | ⟨-, rfl⟩ | ⟨-, rfl⟩ | ⟨-, rfl⟩ | ⟨-, rfl⟩ | ⟨-, rfl⟩ | ⟨-, rfl⟩ | ⟨-, rfl⟩ | ⟨-, rfl⟩ | ⟨-, rfl⟩ | ⟨-, rfl⟩
  · exact z_ok_128
  · exact z_ok_129
  · exact z_ok_130
  · exact z_ok_131
  · exact z_ok_132
  · exact z_ok_133
  · exact z_ok_134
  · exact z_ok_135
  · exact z_ok_136
  · exact z_ok_137
  · exact z_ok_138
  · exact z_ok_139
  · exact z_ok_140
  · exact z_ok_141
  · exact z_ok_142
  · exact z_ok_143
theorem z_okc_9 : ∀ (k : Nat) (M : zM), z_look k [(144, z_m144), (145, z_m145), (146, z_m146), (147, z_m147), (148, z_m148), (149, z_m149), (150, z_m150), (151, z_m151), (152, z_m152), (153, z_m153), (154, z_m154), (155, z_m155), (156, z_m156), (157, z_m157), (158, z_m158), (159, z_m159)] = some M → z_okM M = true := by
  intro k M h
  have h := z_look_mem h
  simp only [List.mem_cons, Prod.mk.injEq, List.not_mem_nil, or_false] at h
  rcases h with ⟨-, rfl⟩ | ⟨-, rfl⟩ | ⟨-, rfl⟩ | ⟨-, rfl⟩ | ⟨-, rfl⟩ | ⟨-, rfl⟩ | ⟨-, rfl⟩ | ⟨-, rfl⟩ | ⟨-, rfl⟩ | ⟨-, rfl⟩ | ⟨-, rfl⟩ | ⟨-, rfl⟩ | ⟨-, rfl⟩ | ⟨-, rfl⟩ | ⟨-, rfl⟩ | ⟨-, rfl⟩
  · exact z_ok_144
  · exact z_ok_145
  · exact z_ok_146
  · exact z_ok_147
  · exact z_ok_148
  · exact z_ok_149
  · exact z_ok_150
  · exact z_ok_151
  · exact z_ok_152
  · exact z_ok_153
  · exact z_ok_154
  · exact z_ok_155
  · exact z_ok_156
  · exact z_ok_157
  · exact z_ok_158
  · exact z_ok_159
theorem z_okc_10 : ∀ (k : Nat) (M : zM), z_look k [(160, z_m160), (161, z_m161), (162, z_m162), (163, z_m163), (164, z_m164), (165, z_m165), (166, z_m166), (167, z_m167), (168, z_m168), (169, z_m169), (170, z_m170), (171, z_m171), (172, z_m172), (173, z_m173), (174, z_m174), (175, z_m175)] = some M → z_okM M = true := by
  intro k M h
  have h := z_look_mem h
  simp only [List.mem_cons, Prod.mk.injEq, List.not_mem_nil, or_false] at h
  rcases h with ⟨-, rfl⟩ | ⟨-, rfl⟩ | ⟨-, rfl⟩ | ⟨-, rfl⟩ | ⟨-, rfl⟩ | ⟨-, rfl⟩ | ⟨-, rfl⟩ | ⟨-, rfl⟩ | ⟨-, rfl⟩ | ⟨-, rfl⟩ | ⟨-, rfl⟩ | ⟨-, rfl⟩ | ⟨-, rfl⟩ | ⟨-, rfl⟩ | ⟨-, rfl⟩ | ⟨-, rfl⟩
  · exact z_ok_160
  · exact z_ok_161
  · exact z_ok_162
  · exact z_ok_163
  · exact z_ok_164
  · exact z_ok_165
  · exact z_ok_166
  · exact z_ok_167
  · exact z_ok_168
  · exact z_ok_169
  · exact z_ok_170
  · exact z_ok_171
  · exact z_ok_172
  · exact z_ok_173
  · exact z_ok_174
  · exact z_ok_175
theorem z_okc_11 : ∀ (k : Nat) (M : zM), z_look k [(176, z_m176), (177, z_m177), (178, z_m178), (179, z_m179), (180, z_m180), (181, z_m181), (182, z_m182), (183, z_m183), (184, z_m184), (185, z_m185), (186, z_m186), (187, z_m187), (188, z_m188), (189, z_m189), (190, z_m190), (191, z_m191)] = some M → z_okM M = true := by
  intro k M h
  have h := z_look_mem h
  simp only [List.mem_cons, Prod.mk.injEq, List.not_mem_nil, or_false] at h
  rcases h with ⟨-, rfl⟩ | ⟨-, rfl⟩ | ⟨-, rfl⟩ | ⟨-, rfl⟩ | ⟨-, rfl⟩ | ⟨-, rfl⟩ | ⟨-, rfl⟩ | ⟨-, rfl⟩ | ⟨-, rfl⟩ | ⟨-, rfl⟩ | ⟨-, rfl⟩ | ⟨-, rfl⟩ | ⟨-, rfl⟩ | ⟨-, rfl⟩ | ⟨-, rfl⟩ | ⟨-, rfl⟩
  · exact z_ok_176
  · exact z_ok_177
  · exact z_ok_178
  · exact z_ok_179
  · exact z_ok_180
  · exact z_ok_181
  · exact z_ok_182
  · exact z_ok_183
  · exact z_ok_184
  · exact z_ok_185
  · exact z_ok_186
  · exact z_ok_187
  · exact z_ok_188
  · exact z_ok_189
  · exact z_ok_190
  · exact z_ok_191
theorem z_okc_12 : ∀ (k : Nat) (M : zM), z_look k [(192, z_m192), (193, z_m193), (194, z_m194), (195, z_m195), (196, z_m196), (197, z_m197), (198, z_m198), (199, z_m199), (200, z_m200), (201, z_m201), (202, z_m202), (203, z_m203), (204, z_m204), (205, z_m205), (206, z_m206), (207, z_m207)] = some M → z_okM M = true := by
  intro k M h
  have h := z_look_mem h
  simp only [List.mem_cons, Prod.mk.injEq, List.not_mem_nil, or_false] at h
  rcases h with ⟨-, rfl⟩ | ⟨-, rfl⟩ | ⟨-, rfl⟩ | ⟨-, rfl⟩ | ⟨-, rfl⟩ | ⟨-, rfl⟩ | ⟨-, rfl⟩ | ⟨-, rfl⟩ | ⟨-, rfl⟩ | ⟨-, rfl⟩ | ⟨-, rfl⟩ | ⟨-, rfl⟩ | ⟨-, rfl⟩ | ⟨-, rfl⟩ | ⟨-, rfl⟩ | ⟨-, rfl⟩
  · exact z_ok_192
  · exact z_ok_193
  · exact z_ok_194
  · exact z_ok_195
  · exact z_ok_196
  · exact z_ok_197
  · exact z_ok_198
  · exact z_ok_199
  · exact z_ok_200
  · exact z_ok_201
  · exact z_ok_202
  · exact z_ok_203
  · exact z_ok_204
  · exact z_ok_205
  · exact z_ok_206
  · exact z_ok_207
theorem z_okc_13 : ∀ (k : Nat) (M : zM), z_look k [(208, z_m208), (209, z_m209), (210, z_m210), (211, z_m211), (212, z_m212), (213, z_m213), (214, z_m214), (215, z_m215), (216, z_m216), (217, z_m217), (218, z_m218), (219, z_m219), (220, z_m220), (221, z_m221), (222, z_m222), (223, z_m223)] = some M → z_okM M = true := by
  intro k M h
  have h := z_look_mem h
  simp only [List.mem_cons, Prod.mk.injEq, List.not_mem_nil, or_false] at h
  rcases h with ⟨-, rfl⟩ | ⟨-, rfl⟩ | ⟨-, rfl⟩ | ⟨-, rfl⟩ | ⟨-, rfl⟩ | ⟨-, rfl⟩ | ⟨-, rfl⟩ | ⟨-, rfl⟩ | ⟨-, rfl⟩ | ⟨-, rfl⟩ | ⟨-, rfl⟩ | ⟨-, rfl⟩ | ⟨-, rfl⟩ | ⟨-, rfl⟩ | ⟨-, rfl⟩ | ⟨-, rfl⟩
  · exact z_ok_208
  · exact z_ok_209
  · exact z_ok_210
  · exact z_ok_211
  · exact z_ok_212
  · exact z_ok_213
  · exact z_ok_214
  · exact z_ok_215
  · exact z_ok_216
  · exact z_ok_217
  · exact z_ok_218
  · exact z_ok_219
  · exact z_ok_220
  · exact z_ok_221
  · exact z_ok_222
  · exact z_ok_223
theorem z_okc_14 : ∀ (k : Nat) (M : zM), z_look k [(224, z_m224), (225, z_m225), (226, z_m226), (227, z_m227), (228, z_m228), (229, z_m229), (230, z_m230), (231, z_m231), (232, z_m232), (233, z_m233), (234, z_m234), (235, z_m235), (236, z_m236), (237, z_m237), (238, z_m238), (239, z_m239)] = some M → z_okM M = true := by
  intro k M h
  have h := z_look_mem h
  simp only [List.mem_cons, Prod.mk.injEq, List.not_mem_nil, or_false] at h
  rcases h with ⟨-, rfl⟩ | ⟨-, rfl⟩ | ⟨-, rfl⟩ | ⟨-, rfl⟩ | ⟨-, rfl⟩ | ⟨-, rfl⟩ | ⟨-, rfl⟩ | ⟨-, rfl⟩ | ⟨-, rfl⟩ | ⟨-, rfl⟩ | ⟨-, rfl⟩ | ⟨-, rfl⟩ | ⟨-, rfl⟩ | ⟨-, rfl⟩ | ⟨-, rfl⟩ | ⟨-, rfl⟩
  · exact z_ok_224
  · exact z_ok_225
  · exact z_ok_226
  · exact z_ok_227
  · exact z_ok_228
  · exact z_ok_229
  · exact z_ok_230
  · exact z_ok_231
  · exact z_ok_232
  · exact z_ok_233
  · exact z_ok_234
  · exact z_ok_235
  · exact z_ok_236
  · exact z_ok_237
  · exact z_ok_238
  · exact z_ok_239
theorem z_okc_15 : ∀ (k : Nat) (M : zM), z_look k [(240, z_m240), (241, z_m241), (242, z_m242), (243, z_m243), (244, z_m244), (245, z_m245), (246, z_m246), (247, z_m247), (248, z_m248), (249, z_m249), (250, z_m250), (251, z_m251), (252, z_m252)] = some M → z_okM M = true := by
  intro k M h
  have h := z_look_mem h
  simp only [List.mem_cons, Prod.mk.injEq, List.not_mem_nil, or_false] at h
  rcases h with ⟨-, rfl⟩ | ⟨-, rfl⟩ | ⟨-, rfl⟩ | ⟨-, rfl⟩ | ⟨-, rfl⟩ | ⟨-, rfl⟩ | ⟨-, rfl⟩ | ⟨-, rfl⟩ | ⟨-, rfl⟩ | ⟨-, rfl⟩ | ⟨-, rfl⟩ | ⟨-, rfl⟩ | ⟨-, rfl⟩
  · exact z_ok_240
  · exact z_ok_241
  · exact z_ok_242
  · exact z_ok_243
  · exact z_ok_244
  · exact z_ok_245
  · exact z_ok_246
  · exact z_ok_247
  · exact z_ok_248
  · exact z_ok_249
  · exact z_ok_250
  · exact z_ok_251
  · exact z_ok_252
theorem z_okc_16 : ∀ (k : Nat) (M : zM), z_look k [(256, z_m256), (257, z_m257), (258, z_m258), (259, z_m259), (260, z_m260), (261, z_m261), (262, z_m262), (263, z_m263), (264, z_m264), (265, z_m265), (266, z_m266), (267, z_m267), (268, z_m268), (269, z_m269), (270, z_m270), (271, z_m271)] = some M → z_okM M = true := by
  intro k M h
  have h := z_look_mem h
  simp only [List.mem_cons, Prod.mk.injEq, List.not_mem_nil, or_false] at h
  rcases h with ⟨-, rfl⟩ | ⟨-, rfl⟩ | ⟨-, rfl⟩ | ⟨-, rfl⟩ | ⟨-, rfl⟩ | ⟨-, rfl⟩ | ⟨-, rfl⟩ | ⟨-, rfl⟩ | ⟨-, rfl⟩ | ⟨-, rfl⟩ | ⟨-, rfl⟩ | ⟨-, rfl⟩ | ⟨-, rfl⟩ | ⟨-, rfl⟩ | ⟨-, rfl⟩ | ⟨-, rfl⟩
  · exact z_ok_256
  · exact z_ok_257
  · exact z_ok_258
  · exact z_ok_259
  · exact z_ok_260
  · exact z_ok_261
  · exact z_ok_262
  · exact z_ok_263
  · exact z_ok_264
  · exact z_ok_265
  · exact z_ok_266
  · exact z_ok_267
  · exact z_ok_268
  · exact z_ok_269
  · exact z_ok_270
  · exact z_ok_271
theorem z_okc_17 : ∀ (k : Nat) (M : zM), z_look k [(272, z_m272), (282, z_m282), (283, z_m283), (284, z_m284), (285, z_m285)] = some M → z_okM M = true := by
  intro k M h
  have h := z_look_mem h
  simp only [List.mem_cons, Prod.mk.injEq, List.not_mem_nil, or_false] at h
  rcases h with ⟨-, rfl⟩ | ⟨-, rfl⟩ | ⟨-, rfl⟩ | ⟨-, rfl⟩ | ⟨-, rfl⟩
  · exact z_ok_272
  · exact z_ok_282
  · exact z_ok_283
  · exact z_ok_284
  · exact z_ok_285
theorem z_okAll : z_okA := by
  intro mid M h
  unfold z_mt at h
  split at h
  · rename_i c hc
    have h1 := z_look_mem hc
    simp only [z_mts, List.mem_cons, Prod.mk.injEq, List.not_mem_nil, or_false] at h1
    rcases h1 with ⟨-, rfl⟩ | ⟨-, rfl⟩ | ⟨-, rfl⟩ | ⟨-, rfl⟩ | ⟨-, rfl⟩ | ⟨-, rfl⟩ | ⟨-, rfl⟩ | ⟨-, rfl⟩ | ⟨-, rfl⟩ | ⟨-, rfl⟩ | ⟨-, rfl⟩ | ⟨-, rfl⟩ | ⟨-, rfl⟩ | ⟨-, rfl⟩ | ⟨-, rfl⟩ | ⟨-, rfl⟩ | ⟨-, rfl⟩ | ⟨-, rfl⟩
    · exact z_okc_0 _ _ h
    · exact z_okc_1 _ _ h
    · exact z_okc_2 _ _ h
    · exact z_okc_3 _ _ h
    · exact z_okc_4 _ _ h
    · exact z_okc_5 _ _ h
    · exact z_okc_6 _ _ h
    · exact z_okc_7 _ _ h
    · exact z_okc_8 _ _ h
    · exact z_okc_9 _ _ h
    · exact z_okc_10 _ _ h
    · exact z_okc_11 _ _ h
    · exact z_okc_12 _ _ h
    · exact z_okc_13 _ _ h
    · exact z_okc_14 _ _ h
    · exact z_okc_15 _ _ h
    · exact z_okc_16 _ _ h
    · exact z_okc_17 _ _ h
  · cases h
