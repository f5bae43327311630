def z_iy48 : List (List Nat) := [[], [], [], [], [], [], [], [], [], [1729, 1732, 70, 1730, 1731], [], [], [], [], [], [], [], [], [], [], [], [], [], [], [], [], [], []]
set_option maxRecDepth 100000 in
theorem z_okl_48 : z_ck2 z_m285 z_q285_48.2 z_iy48 = true := by decide +kernel
def z_iy49 : List (List Nat) := [[], [1228, 1231, 57, 1229, 1230], [], [], [], [], [], [], [], [], [], [], [], [], [], [], [], [], [1733, 1736, 70, 1734, 1735], [], [], [], [], [], [], []]
set_option maxRecDepth 100000 in
theorem z_okl_49 : z_ck2 z_m285 z_q285_49.2 z_iy49 = true := by decide +kernel
def z_iy50 : List (List Nat) := [[], [], [], [], [], [], [], [1235, 1238, 57, 1236, 1237], [], [], [], [], [], [], [], [], [], [], [], [1737, 1740, 70, 1738, 1739], [], [], [], []]
set_option maxRecDepth 100000 in
theorem z_okl_50 : z_ck2 z_m285 z_q285_50.2 z_iy50 = true := by decide +kernel
def z_iy51 : List (List Nat) := [[], [], []]
set_option maxRecDepth 100000 in
theorem z_okl_51 : z_ck2 z_m285 z_q285_51.2 z_iy51 = true := by decide +kernel
