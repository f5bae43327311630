def z_iy36 : List (List Nat) := [[], [], [], [], [], [], [], [], [], [], [], [], [], [], [], [], [], [], [], [], [], [], [], [1073, 1076, 57, 1074, 1075], [], [], [], []]
set_option maxRecDepth 100000 in
theorem z_okl_36 : z_ck2 z_m285 z_q285_36.2 z_iy36 = true := by decide +kernel
def z_iy37 : List (List Nat) := [[], [], [], [], [], [], [], [], [], [], [], [], [], [], [], [], [], [1678, 1681, 70, 1679, 1680], [], [], [], [], [], [], [], [], [], []]
set_option maxRecDepth 100000 in
theorem z_okl_37 : z_ck2 z_m285 z_q285_37.2 z_iy37 = true := by decide +kernel
def z_iy38 : List (List Nat) := [[], [], [], [], [], [], [], [], [], [], [], [], [], [], [1084, 1087, 57, 1085, 1086], [], [], [], [], [], [], [], [], [], [], [], [], [], [], []]
set_option maxRecDepth 100000 in
theorem z_okl_38 : z_ck2 z_m285 z_q285_38.2 z_iy38 = true := by decide +kernel
def z_iy39 : List (List Nat) := [[], [], [], [], [], [], [1689, 1692, 70, 1690, 1691], [], [], [], [], [], [], [], [], [], [], [], [], [], [], [], [], [], [], [], [], []]
set_option maxRecDepth 100000 in
theorem z_okl_39 : z_ck2 z_m285 z_q285_39.2 z_iy39 = true := by decide +kernel
def z_iy40 : List (List Nat) := [[], [], [], [1095, 1098, 57, 1096, 1097], [], [], [], [], [], [], [], [], [], [], [], [], [], [], [], [], [], [], [], [], [], [1697, 1700, 70, 1698, 1699], []]
set_option maxRecDepth 100000 in
theorem z_okl_40 : z_ck2 z_m285 z_q285_40.2 z_iy40 = true := by decide +kernel
def z_iy41 : List (List Nat) := [[], [], [], [], [], [], [], [], [], [], [], [], [], [1099, 1102, 57, 1100, 1101], [], [], [], [], [], [], [], [], [], [], [], [1701, 1704, 70, 1702, 1703], []]
set_option maxRecDepth 100000 in
theorem z_okl_41 : z_ck2 z_m285 z_q285_41.2 z_iy41 = true := by decide +kernel
def z_iy42 : List (List Nat) := [[], [], [], [], [], [], [], [], [], [], [], [], [], [1111, 1114, 57, 1112, 1113], [], [], [], [], [], [], [], [], [], [], [], [1705, 1708, 70, 1706, 1707]]
set_option maxRecDepth 100000 in
theorem z_okl_42 : z_ck2 z_m285 z_q285_42.2 z_iy42 = true := by decide +kernel
def z_iy43 : List (List Nat) := [[], [], [], [], [], [], [], [], [], [1151, 1154, 57, 1152, 1153], [], [], [], [], [], [], [1714, 1717, 70, 1715, 1716], [], [], [], [], [], [], []]
set_option maxRecDepth 100000 in
theorem z_okl_43 : z_ck2 z_m285 z_q285_43.2 z_iy43 = true := by decide +kernel
def z_iy44 : List (List Nat) := [[], [], [], [], [], [], [], [], [], [], [], [], [1180, 1183, 57, 1181, 1182], [], [], [], [], [], [], [], [], [], [], [], [], [], [], [], [], [1718, 1721, 70, 1719, 1720]]
set_option maxRecDepth 100000 in
theorem z_okl_44 : z_ck2 z_m285 z_q285_44.2 z_iy44 = true := by decide +kernel
def z_iy45 : List (List Nat) := [[], [], [], [], [], [], [], [], [], [], [], [], [], [], [], [], [], [], [], [1199, 1202, 57, 1200, 1201], [], [], [], [], [], []]
set_option maxRecDepth 100000 in
theorem z_okl_45 : z_ck2 z_m285 z_q285_45.2 z_iy45 = true := by decide +kernel
def z_iy46 : List (List Nat) := [[], [], [], [], [], [], [], [], [], [], [1725, 1728, 70, 1726, 1727], [], [], [], [], [], [], [], [], [], [], [], [], [], [], [], [], []]
set_option maxRecDepth 100000 in
theorem z_okl_46 : z_ck2 z_m285 z_q285_46.2 z_iy46 = true := by decide +kernel
def z_iy47 : List (List Nat) := [[], [], [], [], [], [], [], [], [], [], [], [], [1215, 1218, 57, 1216, 1217], [], [], [], [], [], [], [], [], [], [], [], [], [], [], [], [], []]
set_option maxRecDepth 100000 in
theorem z_okl_47 : z_ck2 z_m285 z_q285_47.2 z_iy47 = true := by decide +kernel
