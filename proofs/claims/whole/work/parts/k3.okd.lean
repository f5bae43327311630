def z_ix240 : List (List (List Nat)) := [[[], [], [], [], [], [], [], [], [], [], [], [], [], [], [1685, 1688, 70, 1687, 53], [], [], []], [[], [], [], [], [], [], [], [], [], [], [], [], [], []], [[], [], [], []]]
set_option maxRecDepth 100000 in
theorem z_ok_240 : z_okM z_m240 = true := z_okM_of z_ix240 (by decide +kernel) (by decide +kernel)
def z_ix241 : List (List (List Nat)) := [[[], [], [1457, 1460, 70, 1459, 28], [], [], [], [], [1682, 1684, 70, 1683], [], [], [], [], [], [], [1693, 1696, 70, 1695, 54], [], []], [[]]]
set_option maxRecDepth 100000 in
theorem z_ok_241 : z_okM z_m241 = true := z_okM_of z_ix241 (by decide +kernel) (by decide +kernel)
def z_ix242 : List (List (List Nat)) := [[[], [], [1252], [], [], [1627, 1629, 70, 1628], [], [], [], [], [1682, 1684, 70, 1683], [], [], [], [], [], [], []], [[], [], [1252], [], [], [], [], [], [], [], [], [], [], [], [], [], [], [], []], [[1693, 1696, 70, 1695, 54], [], [], [], [], [], [1693, 1696, 70, 1695, 54], [], [], [], [], [], [], [], [], []], [[], [], [], [], [], []]]
set_option maxRecDepth 100000 in
theorem z_ok_242 : z_okM z_m242 = true := z_okM_of z_ix242 (by decide +kernel) (by decide +kernel)
def z_ix243 : List (List (List Nat)) := [[[], [], [1444, 1447, 70, 1446, 27], [], [], [], [], [1428, 1430, 70, 1429], [], [], [], [], [1300], [], [], []], [[], [], [1301], [], [1300], [], [], [], [1302], [], [1300], [], [], [], [], [1300], [], [], [1300], []], [[1300], [], [], []]]
set_option maxRecDepth 100000 in
theorem z_ok_243 : z_okM z_m243 = true := z_okM_of z_ix243 (by decide +kernel) (by decide +kernel)
def z_ix244 : List (List (List Nat)) := [[[], [], [], [], [], [], [1300], [], [], [], [], [], [], [], [], [], [], [], [], []], [[], [], [], [], [1251], [], [], [1301], [], [], [], [], [], [], [], [], [], [], [], [], []], [[], [], [], [], [1302], [], [], [], [], [], [], [], [], [], [], []]]
set_option maxRecDepth 100000 in
theorem z_ok_244 : z_okM z_m244 = true := z_okM_of z_ix244 (by decide +kernel) (by decide +kernel)
def z_ix245 : List (List (List Nat)) := [[[], [], [], [1428, 1430, 70, 1429], [], [], [], [], [], [], [1428, 1430, 70, 1429], [], [], [], [], [], [], []], [[], [], [], [], [], [1709], [], [], [], [1710, 1713, 70, 1712, 55], [], [], [], [], [], [], []], [[], [], [], [], [], [], [], [], [], [], [], [], [], [], [], []], [[], [], [], [], [], [], [], [], [], [], [], [], [], [], []], [[], [], [], [], [], [], []]]
set_option maxRecDepth 100000 in
theorem z_ok_245 : z_okM z_m245 = true := z_okM_of z_ix245 (by decide +kernel) (by decide +kernel)
def z_ix246 : List (List (List Nat)) := [[[], []], [[], [1249]], [[], [], [1250], [], [], [1252], [], [], [1258], [], [], [1260], [], [], [1265], [], [], [1264], [], []], [[1269], [], [], [1292], [], [], [1296], [], [], [1300], [], [], []]]
set_option maxRecDepth 100000 in
theorem z_ok_246 : z_okM z_m246 = true := z_okM_of z_ix246 (by decide +kernel) (by decide +kernel)
def z_ix247 : List (List (List Nat)) := [[[], [], [], [1428, 1430, 70, 1429], []]]
set_option maxRecDepth 100000 in
theorem z_ok_247 : z_okM z_m247 = true := z_okM_of z_ix247 (by decide +kernel) (by decide +kernel)
def z_ix248 : List (List (List Nat)) := [[[], [1722, 1724, 70, 1723], [], [], [], [], [1428, 1430, 70, 1429], [], [], [], [], [], [], [], [], [], []], [[], [], [], [], [], [1303], [], [], [], [], [1304], [], [], [], [], [], [], [], [], []], [[], [], [], [], [1305], [], [], [], [], [], [], [], [], [], [], []]]
set_option maxRecDepth 100000 in
theorem z_ok_248 : z_okM z_m248 = true := z_okM_of z_ix248 (by decide +kernel) (by decide +kernel)
def z_ix249 : List (List (List Nat)) := [[[], [1722, 1724, 70, 1723], [], [], [], [], [1303], [], [], [], [], [], [], [], [], [1304], [], [], [], []], [[1428, 1430, 70, 1429], [], [], [], [], [1305], [], [], [], [], [], [], [1303], [], [], [], [], [], []], [[], [1303], [], [], [], [], [], [], [], [], [], [], []]]
set_option maxRecDepth 100000 in
theorem z_ok_249 : z_okM z_m249 = true := z_okM_of z_ix249 (by decide +kernel) (by decide +kernel)
def z_ix250 : List (List (List Nat)) := [[[], [1722, 1724, 70, 1723], [], [], [1722, 1724, 70, 1723], [], [], [], [], [1303], [], [], [], [], [1303], [], []], [[], [], [], [], [1303], [], [], [], [1303], [], [], [], [], [], [], [], [], []], [[], [], [], [], [1304], [], [], [], [], [], [], [], [1304], [], [], [], [], []], [[], [], [], [], [], [], [], [], [1306], [], [], [1305], [], [], [], [], [], []], [[], [], [], [], [], [], [], [], [], [], [], [1305], [], [], [], [], [], []], [[], [], [1306], [], [], [], [], [], [], []]]
set_option maxRecDepth 100000 in
theorem z_ok_250 : z_okM z_m250 = true := z_okM_of z_ix250 (by decide +kernel) (by decide +kernel)
def z_ix251 : List (List (List Nat)) := [[[], [1722, 1724, 70, 1723], [], [], [], [], [1428, 1430, 70, 1429], [], [], [], [], [1303], [], [], [], [], [1303]], [[], [], [], [], [], [], [], [1303], [], [], [], [], [], [], [], [], [], [1304], [], []], [[], [], [], [], [], [], [], [], [], [], [], [1305], [], [], [], [], [], [], []], [[], [], [], [1428, 1430, 70, 1429], [], [], [], [], [], [], [1250], [], [], [], []], [[], [], [], [], [], [], [1251], [], [], [1250], [], [], [], [], [1305], [], [], []], [[], [], [], [], [], [], [], [], [], [], [1250], [], [], [1250], [], [1250], [], [], []]]
set_option maxRecDepth 100000 in
theorem z_ok_251 : z_okM z_m251 = true := z_okM_of z_ix251 (by decide +kernel) (by decide +kernel)
def z_ix252 : List (List (List Nat)) := [[[], [], [], [1428, 1430, 70, 1429], [], [], [], [], [], [1457, 1460, 70, 1459, 28], [], [], [], [], [1253], [], [], [], [], []], [[], [], [], [], [], [], [], [], [], [], [], [], [], [], [], [], [], []], [[], [], [], [], [], [], [], [1255], [], [], [], [], []]]
set_option maxRecDepth 100000 in
theorem z_ok_252 : z_okM z_m252 = true := z_okM_of z_ix252 (by decide +kernel) (by decide +kernel)
def z_ix256 : List (List (List Nat)) := [[[], [], [], [], [903], [], [], [], [], [904], [], [], [], [], [904], [], [], [], [], [], [], [], [], [905]], [[], [], [], [], [], [], [], [], [], [], [], [], [], [], [], [], [], []]]
set_option maxRecDepth 100000 in
theorem z_ok_256 : z_okM z_m256 = true := z_okM_of z_ix256 (by decide +kernel) (by decide +kernel)
def z_ix261 : List (List (List Nat)) := [[[], [1742], [], [], [682, 685, 71, 683, 684], [], []]]
set_option maxRecDepth 100000 in
theorem z_ok_261 : z_okM z_m261 = true := z_okM_of z_ix261 (by decide +kernel) (by decide +kernel)
def z_ix262 : List (List (List Nat)) := [[[], [692, 695, 71, 693, 694], [], [], [1742], [], [696, 698, 72, 697], [], [], [1742], [], [], []]]
set_option maxRecDepth 100000 in
theorem z_ok_262 : z_okM z_m262 = true := z_okM_of z_ix262 (by decide +kernel) (by decide +kernel)
def z_ix263 : List (List (List Nat)) := [[[], [], [], [731, 734, 71, 732, 733], []]]
set_option maxRecDepth 100000 in
theorem z_ok_263 : z_okM z_m263 = true := z_okM_of z_ix263 (by decide +kernel) (by decide +kernel)
def z_ix264 : List (List (List Nat)) := [[[], [692, 695, 71, 693, 694], [], [], [1742], [], [], [], [735, 681, 71, 679, 680], [736, 738, 72, 737], [], [], [1742], [], [], [], [735, 681, 71, 679, 680]], [[], []]]
set_option maxRecDepth 100000 in
theorem z_ok_264 : z_okM z_m264 = true := z_okM_of z_ix264 (by decide +kernel) (by decide +kernel)
def z_ix265 : List (List (List Nat)) := [[[686], [], [], [1743], [], [], []]]
set_option maxRecDepth 100000 in
theorem z_ok_265 : z_okM z_m265 = true := z_okM_of z_ix265 (by decide +kernel) (by decide +kernel)
def z_ix266 : List (List (List Nat)) := [[[686], [], [], [1743], [], [], [], [], []]]
set_option maxRecDepth 100000 in
theorem z_ok_266 : z_okM z_m266 = true := z_okM_of z_ix266 (by decide +kernel) (by decide +kernel)
def z_ix267 : List (List (List Nat)) := [[[], [], [702], [704, 706, 73, 705], [], []]]
set_option maxRecDepth 100000 in
theorem z_ok_267 : z_okM z_m267 = true := z_okM_of z_ix267 (by decide +kernel) (by decide +kernel)
def z_ix268 : List (List (List Nat)) := [[[], [], [], [702], [764, 766, 73, 765], [], []]]
set_option maxRecDepth 100000 in
theorem z_ok_268 : z_okM z_m268 = true := z_okM_of z_ix268 (by decide +kernel) (by decide +kernel)
def z_ix269 : List (List (List Nat)) := [[[], [], [], [699, 701, 71, 700], [], [], [], [], [], [], []]]
set_option maxRecDepth 100000 in
theorem z_ok_269 : z_okM z_m269 = true := z_okM_of z_ix269 (by decide +kernel) (by decide +kernel)
def z_ix270 : List (List (List Nat)) := [[[], [], [], [], [], [], [], [], []]]
set_option maxRecDepth 100000 in
theorem z_ok_270 : z_okM z_m270 = true := z_okM_of z_ix270 (by decide +kernel) (by decide +kernel)
def z_ix271 : List (List (List Nat)) := [[[], [739, 741, 72, 740], [], [], [], [], [], [742, 93, 59, 94], [], [], [], [], [743, 744, 59, 745], [], [], [], [], [], [], [], [], []], [[], [746, 748, 72, 747], []]]
set_option maxRecDepth 100000 in
theorem z_ok_271 : z_okM z_m271 = true := z_okM_of z_ix271 (by decide +kernel) (by decide +kernel)
def z_ix272 : List (List (List Nat)) := [[[], [], [], [], [], [], [], [], [], [], [], [], [], [], [], [], [], []], [[]]]
set_option maxRecDepth 100000 in
theorem z_ok_272 : z_okM z_m272 = true := z_okM_of z_ix272 (by decide +kernel) (by decide +kernel)
def z_ix282 : List (List (List Nat)) := [[[], [], [], [], [], [], [], [], [], [], [], [], [], [], []]]
set_option maxRecDepth 100000 in
theorem z_ok_282 : z_okM z_m282 = true := z_okM_of z_ix282 (by decide +kernel) (by decide +kernel)
def z_ix283 : List (List (List Nat)) := [[[], [], [], [], [], [], [], [], [], [], [], []]]
set_option maxRecDepth 100000 in
theorem z_ok_283 : z_okM z_m283 = true := z_okM_of z_ix283 (by decide +kernel) (by decide +kernel)
def z_ix284 : List (List (List Nat)) := [[[], [], [], [], [], [], [], [], [], [], [], [], [], [], [], []]]
set_option maxRecDepth 100000 in
theorem z_ok_284 : z_okM z_m284 = true := z_okM_of z_ix284 (by decide +kernel) (by decide +kernel)
