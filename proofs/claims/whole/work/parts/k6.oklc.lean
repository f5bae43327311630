def z_iy24 : List (List Nat) := [[], [], [], [], [], [], [], [], [], [], [], [], [], [], [], [], [], [], [], [], [], [1630, 1633, 70, 1631, 1632], [], [], [], [], []]
set_option maxRecDepth 100000 in
theorem z_okl_24 : z_ck2 z_m285 z_q285_24.2 z_iy24 = true := by decide +kernel
def z_iy25 : List (List Nat) := [[], [], [], [], [], [], [], [], [], [], [], [], [], [], [], [], [], [], [], [941, 944, 57, 942, 943], [], [], [], [], [], [], [], [], [], []]
set_option maxRecDepth 100000 in
theorem z_okl_25 : z_ck2 z_m285 z_q285_25.2 z_iy25 = true := by decide +kernel
def z_iy26 : List (List Nat) := [[], [], [], [], [], [], [], [], [], [], [], [1615, 1618, 70, 1616, 1617], [], [], [], [], [], [], [], [], [], [], [], [], [], [], [], []]
set_option maxRecDepth 100000 in
theorem z_okl_26 : z_ck2 z_m285 z_q285_26.2 z_iy26 = true := by decide +kernel
def z_iy27 : List (List Nat) := [[], [], [], [], [], [], [], [], [], [953, 956, 57, 954, 955], [], [], [], [], [], [], [], [], [], [], [], [], [], [], [], [], [], [], [], []]
set_option maxRecDepth 100000 in
theorem z_okl_27 : z_ck2 z_m285 z_q285_27.2 z_iy27 = true := by decide +kernel
def z_iy28 : List (List Nat) := [[], [1623, 1626, 70, 1624, 1625], [], [], [], [], [], [], [], [], [], [], [], [], [], [], [], [], [], [], [], [], [], [], [], [], [], []]
set_option maxRecDepth 100000 in
theorem z_okl_28 : z_ck2 z_m285 z_q285_28.2 z_iy28 = true := by decide +kernel
def z_iy29 : List (List Nat) := [[], [], [], [971, 974, 57, 972, 973], [], [], [], [], [], [], [], [], [], [], [], [], [], [], [], [], [], [], [], [], [], [], [], [], [], []]
set_option maxRecDepth 100000 in
theorem z_okl_29 : z_ck2 z_m285 z_q285_29.2 z_iy29 = true := by decide +kernel
def z_iy30 : List (List Nat) := [[1639, 1642, 70, 1640, 1641], [], [], [], [], [], [], [], [], [], [], [], [], [], [], [994, 997, 57, 995, 996], [], [], [], [], [], [], [], [], [], []]
set_option maxRecDepth 100000 in
theorem z_okl_30 : z_ck2 z_m285 z_q285_30.2 z_iy30 = true := by decide +kernel
def z_iy31 : List (List Nat) := [[], [1647, 1650, 70, 1648, 1649], [], [], [], [], [], [], [], [], [], [1006, 1009, 57, 1007, 1008], [], [], [], [], [], [], [1651, 1654, 70, 1652, 1653], [], [], []]
set_option maxRecDepth 100000 in
theorem z_okl_31 : z_ck2 z_m285 z_q285_31.2 z_iy31 = true := by decide +kernel
def z_iy32 : List (List Nat) := [[], [], [], [], [], [], [1016, 1019, 57, 1017, 1018], [], [], [], [], [], [], [1659, 1662, 70, 1660, 1661], [], [], [], [], [], [], [], [], [], [], [], []]
set_option maxRecDepth 100000 in
theorem z_okl_32 : z_ck2 z_m285 z_q285_32.2 z_iy32 = true := by decide +kernel
def z_iy33 : List (List Nat) := [[], [], [], [], [], [], [], [1044, 1047, 57, 1045, 1046], [], [], [], [], [], [], [], [], [], [], [], [], [], [], [], [], [1666, 1669, 70, 1667, 1668], []]
set_option maxRecDepth 100000 in
theorem z_okl_33 : z_ck2 z_m285 z_q285_33.2 z_iy33 = true := by decide +kernel
def z_iy34 : List (List Nat) := [[], [], [], [], [], [], [], [], [], [], [], [], [], [1059, 1062, 57, 1060, 1061], [], [], [], [], [], [], [], [], [], [], [], [1670, 1673, 70, 1671, 1672], []]
set_option maxRecDepth 100000 in
theorem z_okl_34 : z_ck2 z_m285 z_q285_34.2 z_iy34 = true := by decide +kernel
def z_iy35 : List (List Nat) := [[], [], [], [], [], [], [], [], [], [], [], [], [], [1064, 1067, 57, 1065, 1066], [], [], [], [], [], [], [], [], [], [], [], [1674, 1677, 70, 1675, 1676], []]
set_option maxRecDepth 100000 in
theorem z_okl_35 : z_ck2 z_m285 z_q285_35.2 z_iy35 = true := by decide +kernel
