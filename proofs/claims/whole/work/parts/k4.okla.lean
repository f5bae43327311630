def z_iy0 : List (List Nat) := [[78, 79, 57], [], [80, 82, 57, 81], [], [1243, 1244, 70], [], [1245, 1247, 70, 1246], [], [], [], [], [], [], [], [], [], [], [], [], []]
set_option maxRecDepth 100000 in
theorem z_okl_0 : z_ck2 z_m285 z_q285_0.2 z_iy0 = true := by decide +kernel
def z_iy1 : List (List Nat) := [[], []]
set_option maxRecDepth 100000 in
theorem z_okl_1 : z_ck2 z_m285 z_q285_1.2 z_iy1 = true := by decide +kernel
def z_iy2 : List (List Nat) := [[], [], [], [], [], [], [429, 432, 57, 430, 431], [], [], [], [], [], [], [1424, 1427, 70, 1425, 1426], [], [], [], []]
set_option maxRecDepth 100000 in
theorem z_okl_2 : z_ck2 z_m285 z_q285_2.2 z_iy2 = true := by decide +kernel
def z_iy3 : List (List Nat) := [[], [], [], [], [], [], [], [], [], [], [], [], [], [], [1741], [], [], [], [], [], [], [], [], [], [], [], [], []]
set_option maxRecDepth 100000 in
theorem z_okl_3 : z_ck2 z_m285 z_q285_3.2 z_iy3 = true := by decide +kernel
def z_iy4 : List (List Nat) := [[], [], [], [1741], [], [], [433, 436, 57, 434, 435], [], [], [], [], [], [], [], [], [], [], [], [], [], [], [], [1741], [], []]
set_option maxRecDepth 100000 in
theorem z_okl_4 : z_ck2 z_m285 z_q285_4.2 z_iy4 = true := by decide +kernel
def z_iy5 : List (List Nat) := [[], [], [], [], [], [], [], [], [], [], [], [], [], [], [1741], [], [], [1431, 1434, 70, 1432, 1433], [], [], [], [], [], [], []]
set_option maxRecDepth 100000 in
theorem z_okl_5 : z_ck2 z_m285 z_q285_5.2 z_iy5 = true := by decide +kernel
def z_iy6 : List (List Nat) := [[], [], [], [], [], [], [], [454, 457, 57, 455, 456], [], [], [], [], [], [], [], [], [], [], [], [1440, 1443, 70, 1441, 1442], [], [], [], [], [], []]
set_option maxRecDepth 100000 in
theorem z_okl_6 : z_ck2 z_m285 z_q285_6.2 z_iy6 = true := by decide +kernel
def z_iy7 : List (List Nat) := [[], [], [], [], [], [], [], [], [], [], [], [], [], [469, 472, 57, 470, 471], [], [], [], [], [], [], [], [], [], [], [], [], [], [], [], []]
set_option maxRecDepth 100000 in
theorem z_okl_7 : z_ck2 z_m285 z_q285_7.2 z_iy7 = true := by decide +kernel
def z_iy8 : List (List Nat) := [[1448, 1451, 70, 1449, 1450], [], [], [], [], [], [], [], [], [], [], [], [], [], [], [487, 490, 57, 488, 489], [], [], [], [], [], [], [], [], [], []]
set_option maxRecDepth 100000 in
theorem z_okl_8 : z_ck2 z_m285 z_q285_8.2 z_iy8 = true := by decide +kernel
def z_iy9 : List (List Nat) := [[], [1453, 1456, 70, 1454, 1455], [], [], [], [], [], [], [], [], [], [527, 530, 57, 528, 529], [], [], [], [], [], [], [1465, 1468, 70, 1466, 1467], [], [], []]
set_option maxRecDepth 100000 in
theorem z_okl_9 : z_ck2 z_m285 z_q285_9.2 z_iy9 = true := by decide +kernel
def z_iy10 : List (List Nat) := [[], [], [], [], [], [], [], [], [], [], [], [], [], [], [], [], [531, 534, 57, 532, 533], [], [], [], [], [], [], [], [], [], [], [], [], []]
set_option maxRecDepth 100000 in
theorem z_okl_10 : z_ck2 z_m285 z_q285_10.2 z_iy10 = true := by decide +kernel
def z_iy11 : List (List Nat) := [[], [], [], [1469, 1472, 70, 1470, 1471], [], [], [], [], [], [], [], [], [], [], [], [], [], [], [566, 569, 57, 567, 568], [], [], [], [], [], [], []]
set_option maxRecDepth 100000 in
theorem z_okl_11 : z_ck2 z_m285 z_q285_11.2 z_iy11 = true := by decide +kernel
