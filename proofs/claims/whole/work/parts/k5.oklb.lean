def z_iy12 : List (List Nat) := [[], [], [], [], [1484, 1487, 70, 1485, 1486], [], [], [], [], [], [], [], [], [], [], [], [], [], [], [574, 577, 57, 575, 576], [], [], [], [], [], []]
set_option maxRecDepth 100000 in
theorem z_okl_12 : z_ck2 z_m285 z_q285_12.2 z_iy12 = true := by decide +kernel
def z_iy13 : List (List Nat) := [[], [], [], [], [], [1488, 1491, 70, 1489, 1490], [], [], [], [], [], [], [], [], [], [], [], [], [], [], [], [], [], [], [], [578, 581, 57, 579, 580]]
set_option maxRecDepth 100000 in
theorem z_okl_13 : z_ck2 z_m285 z_q285_13.2 z_iy13 = true := by decide +kernel
def z_iy14 : List (List Nat) := [[], [], [], [], [], [], [], [], [], [], [], [], [], [], [], [], [1492, 1495, 70, 1493, 1494], [], [], [], [], [], [], [], [], [], [], []]
set_option maxRecDepth 100000 in
theorem z_okl_14 : z_ck2 z_m285 z_q285_14.2 z_iy14 = true := by decide +kernel
def z_iy15 : List (List Nat) := [[], [], [], [], [], [], [], [], [590, 593, 57, 591, 592], [], [], [], [], [], [], [], [], [], [], [], [], [], [], [], [], [1496, 1499, 70, 1497, 1498], [], []]
set_option maxRecDepth 100000 in
theorem z_okl_15 : z_ck2 z_m285 z_q285_15.2 z_iy15 = true := by decide +kernel
def z_iy16 : List (List Nat) := [[], [], [], [], [], [], [], [], [], [], [], [], [], [], [], [], [], [], [608, 611, 57, 609, 610], [], [], [], [], [], [], [], [], []]
set_option maxRecDepth 100000 in
theorem z_okl_16 : z_ck2 z_m285 z_q285_16.2 z_iy16 = true := by decide +kernel
def z_iy17 : List (List Nat) := [[], [], [], [], [], [], [], [1509, 1512, 70, 1510, 1511], [], [], [], [], [], [], [], [], [], [], [], [], [], [], [], [], [], [], [], [623, 626, 57, 624, 625]]
set_option maxRecDepth 100000 in
theorem z_okl_17 : z_ck2 z_m285 z_q285_17.2 z_iy17 = true := by decide +kernel
def z_iy18 : List (List Nat) := [[], [], [], [], [], [], [], [], [], [], [], [], [], [], [], [], [1517, 1520, 70, 1518, 1519], [], [], [], [], [], [], [], [], []]
set_option maxRecDepth 100000 in
theorem z_okl_18 : z_ck2 z_m285 z_q285_18.2 z_iy18 = true := by decide +kernel
def z_iy19 : List (List Nat) := [[], [], [], [], [], [], [], [], [], [], [], [], [], [], [1741], [], [], [631, 634, 57, 632, 633], [], [], [], [], [], [], [], [], []]
set_option maxRecDepth 100000 in
theorem z_okl_19 : z_ck2 z_m285 z_q285_19.2 z_iy19 = true := by decide +kernel
def z_iy20 : List (List Nat) := [[], [], [], [], [], [], [], [], [], [], [], [1741], [], [], [1521, 1524, 70, 1522, 1523], [], [], [], [], [643, 646, 57, 644, 645], [], [1526, 1529, 70, 1527, 1528]]
set_option maxRecDepth 100000 in
theorem z_okl_20 : z_ck2 z_m285 z_q285_20.2 z_iy20 = true := by decide +kernel
def z_iy21 : List (List Nat) := [[], [], [], [], [], [], [], [], [], [848, 851, 57, 849, 850], [], [], [], [], [], [], [1594, 1597, 70, 1595, 1596], [], [], [], [], [], []]
set_option maxRecDepth 100000 in
theorem z_okl_21 : z_ck2 z_m285 z_q285_21.2 z_iy21 = true := by decide +kernel
def z_iy22 : List (List Nat) := [[], [], [], [], [], [], [], [], [], [], [], [], [], [860, 863, 57, 861, 862], [], [], [], [], [], [], [], [], [], [], [], [], [], [], [], []]
set_option maxRecDepth 100000 in
theorem z_okl_22 : z_ck2 z_m285 z_q285_22.2 z_iy22 = true := by decide +kernel
def z_iy23 : List (List Nat) := [[1598, 1601, 70, 1599, 1600], [], [], [], [], [], [], [], [], [], [], [], [], [], [], [], [], [], [], [], [], [], [], [], [], [], [896, 899, 57, 897, 898]]
set_option maxRecDepth 100000 in
theorem z_okl_23 : z_ck2 z_m285 z_q285_23.2 z_iy23 = true := by decide +kernel
