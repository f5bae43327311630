def z_ix0 : List (List (List Nat)) := [[[], [110, 84, 85], [], [], [104], [111], [], [], [104], [112], [], [], [104], [113], [], [], [114]], [[]]]
set_option maxRecDepth 100000 in
theorem z_ok_0 : z_okM z_m0 = true := z_okM_of z_ix0 (by decide +kernel) (by decide +kernel)
def z_ix1 : List (List (List Nat)) := [[[], [114], []]]
set_option maxRecDepth 100000 in
theorem z_ok_1 : z_okM z_m1 = true := z_okM_of z_ix1 (by decide +kernel) (by decide +kernel)
def z_ix2 : List (List (List Nat)) := [[[], [114], [], [], [], [], [], []]]
set_option maxRecDepth 100000 in
theorem z_ok_2 : z_okM z_m2 = true := z_okM_of z_ix2 (by decide +kernel) (by decide +kernel)
def z_ix3 : List (List (List Nat)) := [[[], [111], [], [114], [], [], [], [112], [], [114], [], [], [], [113], [], [114], [], [], [], []], [[114], [], [], [114], [], [114], []]]
set_option maxRecDepth 100000 in
theorem z_ok_3 : z_okM z_m3 = true := z_okM_of z_ix3 (by decide +kernel) (by decide +kernel)
def z_ix4 : List (List (List Nat)) := [[[], [], [], [], [], [], [], [], [114], [], [], [111], [], [], [], [], [], [112]], [[], [], [], [], [], [], [], [], [112], [], [], [], [112], [], [], [], [], []], [[], [], [], [], [111], [], [], [], [], [], [], [], [], [112], [], [], [], [112]], [[], [], [], [], [], [], [], [], [], [], [], [], [], [], []], [[], [], [], [113], [], [], [], [], [], [], [], [113], [], [], [], [], []], [[], [], [523, 526, 60, 525, 0], []]]
set_option maxRecDepth 100000 in
theorem z_ok_4 : z_okM z_m4 = true := z_okM_of z_ix4 (by decide +kernel) (by decide +kernel)
def z_ix5 : List (List (List Nat)) := [[[], [112], [], [], [], [112], [], [], [], [], [], [], [], [113], [], [], [], [], [113], []], [[], [], [113], [], [], [], [], [], [113], [], [], [], [], [], [112], [], [], [], [], [], [], [], []]]
set_option maxRecDepth 100000 in
theorem z_ok_5 : z_okM z_m5 = true := z_okM_of z_ix5 (by decide +kernel) (by decide +kernel)
def z_ix6 : List (List (List Nat)) := [[[], [91, 84, 85], [], [], [98], [], [], [], [92, 93, 59, 94], [], [95, 104], [97], []]]
set_option maxRecDepth 100000 in
theorem z_ok_6 : z_okM z_m6 = true := z_okM_of z_ix6 (by decide +kernel) (by decide +kernel)
def z_ix7 : List (List (List Nat)) := [[[], [98], []]]
set_option maxRecDepth 100000 in
theorem z_ok_7 : z_okM z_m7 = true := z_okM_of z_ix7 (by decide +kernel) (by decide +kernel)
def z_ix8 : List (List (List Nat)) := [[[], [], [], [], [98], [], [], [], [], []]]
set_option maxRecDepth 100000 in
theorem z_ok_8 : z_okM z_m8 = true := z_okM_of z_ix8 (by decide +kernel) (by decide +kernel)
def z_ix9 : List (List (List Nat)) := [[[], [], [98], [912, 57, 911], []]]
set_option maxRecDepth 100000 in
theorem z_ok_9 : z_okM z_m9 = true := z_okM_of z_ix9 (by decide +kernel) (by decide +kernel)
def z_ix10 : List (List (List Nat)) := [[[], [98], [], [97], [], [], [], [], [], []]]
set_option maxRecDepth 100000 in
theorem z_ok_10 : z_okM z_m10 = true := z_okM_of z_ix10 (by decide +kernel) (by decide +kernel)
def z_ix11 : List (List (List Nat)) := [[[], [97], [], [], []]]
set_option maxRecDepth 100000 in
theorem z_ok_11 : z_okM z_m11 = true := z_okM_of z_ix11 (by decide +kernel) (by decide +kernel)
def z_ix12 : List (List (List Nat)) := [[[], [], [], [97], [], [98], [], [], [], [453, 220, 219, 65], [], [], [98], [], [], [], [98], []]]
set_option maxRecDepth 100000 in
theorem z_ok_12 : z_okM z_m12 = true := z_okM_of z_ix12 (by decide +kernel) (by decide +kernel)
def z_ix13 : List (List (List Nat)) := [[[], [160, 84, 85], [], [], [], [161, 104], [163], [], [], [104], [164], [], [], [165], [], [], [162]], [[]]]
set_option maxRecDepth 100000 in
theorem z_ok_13 : z_okM z_m13 = true := z_okM_of z_ix13 (by decide +kernel) (by decide +kernel)
def z_ix14 : List (List (List Nat)) := [[[], [165], []]]
set_option maxRecDepth 100000 in
theorem z_ok_14 : z_okM z_m14 = true := z_okM_of z_ix14 (by decide +kernel) (by decide +kernel)
def z_ix15 : List (List (List Nat)) := [[[], [], [], [], [165], [], [], [], [], []]]
set_option maxRecDepth 100000 in
theorem z_ok_15 : z_okM z_m15 = true := z_okM_of z_ix15 (by decide +kernel) (by decide +kernel)
def z_ix16 : List (List (List Nat)) := [[[], [], [165], [912, 57, 911], []]]
set_option maxRecDepth 100000 in
theorem z_ok_16 : z_okM z_m16 = true := z_okM_of z_ix16 (by decide +kernel) (by decide +kernel)
def z_ix17 : List (List (List Nat)) := [[[], [], [], [], [164], [], [], [], [], [], [], []]]
set_option maxRecDepth 100000 in
theorem z_ok_17 : z_okM z_m17 = true := z_okM_of z_ix17 (by decide +kernel) (by decide +kernel)
def z_ix18 : List (List (List Nat)) := [[[], [165], [], [], [], [], [], []]]
set_option maxRecDepth 100000 in
theorem z_ok_18 : z_okM z_m18 = true := z_okM_of z_ix18 (by decide +kernel) (by decide +kernel)
def z_ix19 : List (List (List Nat)) := [[[], [163], [], [165], [], [], [], [], [], [163], [], [165], [], [], [], [], [], [163], [], [165]], [[], [], [], [], [], [164], [], [165], [], [], [], [], [], [], [], [], [], [165], [], [], [], [165]], [[]]]
set_option maxRecDepth 100000 in
theorem z_ok_19 : z_okM z_m19 = true := z_okM_of z_ix19 (by decide +kernel) (by decide +kernel)
def z_ix20 : List (List (List Nat)) := [[[], [164], [], [], []]]
set_option maxRecDepth 100000 in
theorem z_ok_20 : z_okM z_m20 = true := z_okM_of z_ix20 (by decide +kernel) (by decide +kernel)
def z_ix21 : List (List (List Nat)) := [[[], [162], [], [163], [], [], [], [], [607, 468, 58, 466, 467], [], [], [], [], [], [], [], [], []], [[], [], [], [], [], [], [], [], [], [], [], [], [], [], []]]
set_option maxRecDepth 100000 in
theorem z_ok_21 : z_okM z_m21 = true := z_okM_of z_ix21 (by decide +kernel) (by decide +kernel)
def z_ix22 : List (List (List Nat)) := [[[], [162], [], [163], [], [], [], [], [607, 468, 58, 466, 467], [], [], [], [], [], [], [], [], []], [[], [], [], [], [], [], [], [], [], [], [], [], [], [], [], [], [], [], [620, 621, 59, 622]], [[]]]
set_option maxRecDepth 100000 in
theorem z_ok_22 : z_okM z_m22 = true := z_okM_of z_ix22 (by decide +kernel) (by decide +kernel)
def z_ix23 : List (List (List Nat)) := [[[], [], [], [], [164], [], [], [], [], [], [], [], [], [616, 619, 62, 617, 618], [], [], [], [], [], []], [[], [], []]]
set_option maxRecDepth 100000 in
theorem z_ok_23 : z_okM z_m23 = true := z_okM_of z_ix23 (by decide +kernel) (by decide +kernel)
def z_ix24 : List (List (List Nat)) := [[[], [335, 84, 85], [], [], [367], [336], [], [], [337], [], [], [338], [], [], [367], [339], []], [[], [367], [340], [], [], [368], [341], [], [], [104], [342], [], [], [104], [343]], [[], [], [344], [], [], [345], []]]
set_option maxRecDepth 100000 in
theorem z_ok_24 : z_okM z_m24 = true := z_okM_of z_ix24 (by decide +kernel) (by decide +kernel)
def z_ix25 : List (List (List Nat)) := [[[], [338], []]]
set_option maxRecDepth 100000 in
theorem z_ok_25 : z_okM z_m25 = true := z_okM_of z_ix25 (by decide +kernel) (by decide +kernel)
def z_ix26 : List (List (List Nat)) := [[[], [338], [], [], [], [], [], []]]
set_option maxRecDepth 100000 in
theorem z_ok_26 : z_okM z_m26 = true := z_okM_of z_ix26 (by decide +kernel) (by decide +kernel)
def z_ix27 : List (List (List Nat)) := [[[], [], [], [], [], [], [336], [], [], [], [], [], [], [], [], [], [], [], [338], [], [], [], []], [[], [], [], [], [337], [], [], [], [], [338], [], [], [], [337], [], [], [345], [], []], [[338], [], [], [], [338], []]]
set_option maxRecDepth 100000 in
theorem z_ok_27 : z_okM z_m27 = true := z_okM_of z_ix27 (by decide +kernel) (by decide +kernel)
def z_ix28 : List (List (List Nat)) := [[[], [345], [], [], [1119, 1122, 68, 1121, 23], [], [], [345], [], [344], []]]
set_option maxRecDepth 100000 in
theorem z_ok_28 : z_okM z_m28 = true := z_okM_of z_ix28 (by decide +kernel) (by decide +kernel)
def z_ix29 : List (List (List Nat)) := [[[], [342], [], [], []]]
set_option maxRecDepth 100000 in
theorem z_ok_29 : z_okM z_m29 = true := z_okM_of z_ix29 (by decide +kernel) (by decide +kernel)
def z_ix30 : List (List (List Nat)) := [[[], [343], [], [], []]]
set_option maxRecDepth 100000 in
theorem z_ok_30 : z_okM z_m30 = true := z_okM_of z_ix30 (by decide +kernel) (by decide +kernel)
def z_ix31 : List (List (List Nat)) := [[[], [], [], [339], [1123, 1126, 68, 1125, 24], [], [], [], [340], [1123, 1126, 68, 1125, 24], [], [342], [], [1130, 1132, 77, 1131], [], [343], [], [1130, 1132, 77, 1131]], [[], [], [], [], [], [], [341], [], [], [], [], [], [], [], [344], [], [], []], [[], [], [], [344], [], [], [], [337], [], [339], [], [], [], [1133, 1136, 68, 1135, 25], [], [344], [], []], [[], [], [], [1137, 1140, 68, 1139, 26], [], [], [], [], [], [], [], [], [341], [], [], []], [[], [], [], [1137, 1140, 68, 1139, 26], [], [], []]]
set_option maxRecDepth 100000 in
theorem z_ok_31 : z_okM z_m31 = true := z_okM_of z_ix31 (by decide +kernel) (by decide +kernel)
def z_ix32 : List (List (List Nat)) := [[[], [], [], [], [], [], [], [], [], [], [], [], [], [], [336], [], [], [], []], [[], [], [1127, 1129, 68, 1128], [], [], [], [], [], [], [], [], [], [], [], [], []]]
set_option maxRecDepth 100000 in
theorem z_ok_32 : z_okM z_m32 = true := z_okM_of z_ix32 (by decide +kernel) (by decide +kernel)
def z_ix33 : List (List (List Nat)) := [[[], [], [], [], [], [], [340], [], [], [], [], [], [], [], [344], [], [], [344], [], [341]], [[], [], [], [], [], []]]
set_option maxRecDepth 100000 in
theorem z_ok_33 : z_okM z_m33 = true := z_okM_of z_ix33 (by decide +kernel) (by decide +kernel)
def z_ix34 : List (List (List Nat)) := [[[], [], [], [], [], [], [], [1127, 1129, 68, 1128], [], [], [342], [], [], [], [], [342], [], [], [], [], [], [1141, 744, 59, 745]], [[], [], [343], [], [], [], [], [343], [], [], [], [], [], [1142, 93, 59, 94], [], [], [], []]]
set_option maxRecDepth 100000 in
theorem z_ok_34 : z_okM z_m34 = true := z_okM_of z_ix34 (by decide +kernel) (by decide +kernel)
def z_ix35 : List (List (List Nat)) := [[[], [], [], [], [], [], [], []]]
set_option maxRecDepth 100000 in
theorem z_ok_35 : z_okM z_m35 = true := z_okM_of z_ix35 (by decide +kernel) (by decide +kernel)
def z_ix36 : List (List (List Nat)) := [[[], [251, 84, 85], [], [], [256], [], [], [257], [], [], [104], [258], [], [], [259], [], [], [260]], [[], [], [104], [261], [], [], [104], [262], [], [], [104], [263], [], [], [104], [264], [], []], [[], [252, 104], [265], [], [], [104], [266], [], [], [104], [267], [], [], [268], [], [], [253]], [[], [], [254], [], [], [255], []]]
set_option maxRecDepth 100000 in
theorem z_ok_36 : z_okM z_m36 = true := z_okM_of z_ix36 (by decide +kernel) (by decide +kernel)
def z_ix37 : List (List (List Nat)) := [[[], [], [256], [], [], [258], [], [], [257], [], [], [259], []]]
set_option maxRecDepth 100000 in
theorem z_ok_37 : z_okM z_m37 = true := z_okM_of z_ix37 (by decide +kernel) (by decide +kernel)
def z_ix38 : List (List (List Nat)) := [[[], [260], []]]
set_option maxRecDepth 100000 in
theorem z_ok_38 : z_okM z_m38 = true := z_okM_of z_ix38 (by decide +kernel) (by decide +kernel)
def z_ix39 : List (List (List Nat)) := [[[], [262], [], [], []]]
set_option maxRecDepth 100000 in
theorem z_ok_39 : z_okM z_m39 = true := z_okM_of z_ix39 (by decide +kernel) (by decide +kernel)
def z_ix40 : List (List (List Nat)) := [[[], [268], []]]
set_option maxRecDepth 100000 in
theorem z_ok_40 : z_okM z_m40 = true := z_okM_of z_ix40 (by decide +kernel) (by decide +kernel)
def z_ix41 : List (List (List Nat)) := [[[], [267], [], [], []]]
set_option maxRecDepth 100000 in
theorem z_ok_41 : z_okM z_m41 = true := z_okM_of z_ix41 (by decide +kernel) (by decide +kernel)
def z_ix42 : List (List (List Nat)) := [[[], [], [], [], [], [], [255], [921, 630, 58, 628, 629], [], [], [], [], [], [], [924, 57, 923], [], [], [261]], [[], [], [], [], [], [], [], [], [], [], [], [], [], [], [], [], [], []], [[], [], [], [], [], [], [], [], [], [925, 928, 66, 927, 18], [], [], [], [], []]]
set_option maxRecDepth 100000 in
theorem z_ok_42 : z_okM z_m42 = true := z_okM_of z_ix42 (by decide +kernel) (by decide +kernel)
def z_ix43 : List (List (List Nat)) := [[[], [], [], [], [], [], [], [], [], [], [], [], [], [], [], [], []], [[], [263], [], [], [], [], [263], [], [], [], [], [263], [], [], [], [], [], [], [], []], [[], [], [], [], [], [], [], [], [], [263], [], [], [], [], [255], [], [261], []], [[], [929, 468, 58, 466, 467], [], [], [], [], [], [], [], [], [], [264], [], [], [930], [], [], []], [[], [], [], [253], [], [256], [], [264], [], [258], [], [257], [931, 867, 64, 865, 866], [], []], [[259], [], [], [], [260], [], [], [], [259], [], [], [260], [], [263], [], []], [[262], [], [], [932, 220, 219, 65], []]]
set_option maxRecDepth 100000 in
theorem z_ok_43 : z_okM z_m43 = true := z_okM_of z_ix43 (by decide +kernel) (by decide +kernel)
def z_ix44 : List (List (List Nat)) := [[[], [], [], [265], [], [], [], [], [932, 220, 219, 65], [], [], [], [980, 983, 66, 982, 20], []]]
set_option maxRecDepth 100000 in
theorem z_ok_44 : z_okM z_m44 = true := z_okM_of z_ix44 (by decide +kernel) (by decide +kernel)
def z_ix45 : List (List (List Nat)) := [[[], [253], [], [256], [], [265], [], [], [], [258], [], [257], [931, 867, 64, 865, 866], [], [], [259], []], [[], [], [260], [], [], [], [260], [], [], [], [268], [], [], [], [259], [], []], [[260], [], [], [268], [], [266], [], [], [267], [], [], [932, 220, 219, 65], [], [], [], [], [], [], []], [[], [254], [984, 969, 61, 967, 968], [], [], [], [924, 57, 923], [], [], [266], [], [], [], [], [254]], [[], [], [265], [], [], [], [265], [], [], [], [], [985, 538, 61, 536, 537], [], [], [], [], [], [], [], [], [], [], [], [980, 983, 66, 982, 20]], [[], [], []]]
set_option maxRecDepth 100000 in
theorem z_ok_45 : z_okM z_m45 = true := z_okM_of z_ix45 (by decide +kernel) (by decide +kernel)
def z_ix46 : List (List (List Nat)) := [[[], [307, 84, 85], [], [], [104], [310], [], [], [104], [311], [], [], [104], [312], [], [], [313]], [[], [], [314], [], [], [308], [], [], [309], []]]
set_option maxRecDepth 100000 in
theorem z_ok_46 : z_okM z_m46 = true := z_okM_of z_ix46 (by decide +kernel) (by decide +kernel)
def z_ix47 : List (List (List Nat)) := [[[], [314], []]]
set_option maxRecDepth 100000 in
theorem z_ok_47 : z_okM z_m47 = true := z_okM_of z_ix47 (by decide +kernel) (by decide +kernel)
def z_ix48 : List (List (List Nat)) := [[[], [314], [], [], [], [], [], []]]
set_option maxRecDepth 100000 in
theorem z_ok_48 : z_okM z_m48 = true := z_okM_of z_ix48 (by decide +kernel) (by decide +kernel)
def z_ix49 : List (List (List Nat)) := [[[], [310], [], [314], [], [], [], [311], [], [314], [], [], [], [], [314], [], [], [], [314], []]]
set_option maxRecDepth 100000 in
theorem z_ok_49 : z_okM z_m49 = true := z_okM_of z_ix49 (by decide +kernel) (by decide +kernel)
def z_ix50 : List (List (List Nat)) := [[[], [], [], [], [], [], [314], [], [], [308], [], [], [309], [], [310], [], [], [1014, 468, 58, 466, 467], [], [309]], [[], [311], [], [], [1014, 468, 58, 466, 467], [1015, 615, 62, 613, 614], [], [], [], [], [], [], [], [], [], [], []]]
set_option maxRecDepth 100000 in
theorem z_ok_50 : z_okM z_m50 = true := z_okM_of z_ix50 (by decide +kernel) (by decide +kernel)
def z_ix51 : List (List (List Nat)) := [[[], [], [1029, 1032, 67, 1031, 21], [], [], [], [], [], [], [], [314], [], [], [], [], [], [], [1039, 902, 76, 901], [], [1039, 902, 76, 901]], [[], [], [], [], [], [], [], [], [], [1040, 1043, 67, 1042, 22], [], [], [], [], [], []], [[]]]
set_option maxRecDepth 100000 in
theorem z_ok_51 : z_okM z_m51 = true := z_okM_of z_ix51 (by decide +kernel) (by decide +kernel)
def z_ix52 : List (List (List Nat)) := [[[], [], [313], [], [], [], [], [308], [1033, 1036, 62, 1034, 1035], [], [], [], [], [], [], [], [308], [1033, 1036, 62, 1034, 1035], []], [[], [], [924, 57, 923], [], [], [], [924, 57, 923], [], [], [313], [], [312], [], [], [], [312]], [[], [313], [], [], [1038, 1013, 67, 1011, 1012], [], [], [1038, 1013, 67, 1011, 1012], [], [], [], [], [313], [], [], [313], [], []], [[], [], []]]
set_option maxRecDepth 100000 in
theorem z_ok_52 : z_okM z_m52 = true := z_okM_of z_ix52 (by decide +kernel) (by decide +kernel)
def z_ix53 : List (List (List Nat)) := [[[], [], [], [], [313], [], [], [312], [], [], [], [], [], [], [], [], [], [], []]]
set_option maxRecDepth 100000 in
theorem z_ok_53 : z_okM z_m53 = true := z_okM_of z_ix53 (by decide +kernel) (by decide +kernel)
def z_ix54 : List (List (List Nat)) := [[[], [180, 84, 85], [], [], [104], [181], [], [], [182], [], [], [183], [], [], [184], [], [], [185]], [[], [], [186], [], [], [104], [187], [], [], [188], [], [], [189], []]]
set_option maxRecDepth 100000 in
theorem z_ok_54 : z_okM z_m54 = true := z_okM_of z_ix54 (by decide +kernel) (by decide +kernel)
def z_ix55 : List (List (List Nat)) := [[[], [], [], [], [], [], [], [], [], []]]
set_option maxRecDepth 100000 in
theorem z_ok_55 : z_okM z_m55 = true := z_okM_of z_ix55 (by decide +kernel) (by decide +kernel)
def z_ix56 : List (List (List Nat)) := [[[], [182], []]]
set_option maxRecDepth 100000 in
theorem z_ok_56 : z_okM z_m56 = true := z_okM_of z_ix56 (by decide +kernel) (by decide +kernel)
def z_ix57 : List (List (List Nat)) := [[[], [182], [], [], [], [], [], [], [], []]]
set_option maxRecDepth 100000 in
theorem z_ok_57 : z_okM z_m57 = true := z_okM_of z_ix57 (by decide +kernel) (by decide +kernel)
def z_ix58 : List (List (List Nat)) := [[[], [], [], [], [], [], [181], [], [182], [], [], [], [], [], [], [], [], [], [], []], [[182], [], [], [182], [], [], [], [182], []]]
set_option maxRecDepth 100000 in
theorem z_ok_58 : z_okM z_m58 = true := z_okM_of z_ix58 (by decide +kernel) (by decide +kernel)
def z_ix59 : List (List (List Nat)) := [[[], [], [182], []]]
set_option maxRecDepth 100000 in
theorem z_ok_59 : z_okM z_m59 = true := z_okM_of z_ix59 (by decide +kernel) (by decide +kernel)
def z_ix60 : List (List (List Nat)) := [[[], [184], []]]
set_option maxRecDepth 100000 in
theorem z_ok_60 : z_okM z_m60 = true := z_okM_of z_ix60 (by decide +kernel) (by decide +kernel)
def z_ix61 : List (List (List Nat)) := [[[], [187], []]]
set_option maxRecDepth 100000 in
theorem z_ok_61 : z_okM z_m61 = true := z_okM_of z_ix61 (by decide +kernel) (by decide +kernel)
def z_ix62 : List (List (List Nat)) := [[[], [188], []]]
set_option maxRecDepth 100000 in
theorem z_ok_62 : z_okM z_m62 = true := z_okM_of z_ix62 (by decide +kernel) (by decide +kernel)
def z_ix63 : List (List (List Nat)) := [[[], [189], []]]
set_option maxRecDepth 100000 in
theorem z_ok_63 : z_okM z_m63 = true := z_okM_of z_ix63 (by decide +kernel) (by decide +kernel)
def z_ix64 : List (List (List Nat)) := [[[], [], [185], [], [], [188], [], [655, 658, 63, 657, 2], [], [], [784, 787, 63, 786, 6], [], [], [], [788, 791, 63, 790, 7], [], [], []], [[784, 787, 63, 786, 6], [], [], [], [], [], [188], [189], [], [], [784, 787, 63, 786, 6], [], [], [], [788, 791, 63, 790, 7], []], [[], [], [784, 787, 63, 786, 6], [], [], [183], [], [], [], [], []]]
set_option maxRecDepth 100000 in
theorem z_ok_64 : z_okM z_m64 = true := z_okM_of z_ix64 (by decide +kernel) (by decide +kernel)
def z_ix65 : List (List (List Nat)) := [[[], [183], [], [], [], [], [], [655, 658, 63, 657, 2], [], []]]
set_option maxRecDepth 100000 in
theorem z_ok_65 : z_okM z_m65 = true := z_okM_of z_ix65 (by decide +kernel) (by decide +kernel)
def z_ix66 : List (List (List Nat)) := [[[], [188], [], [187], [], [], [], [187], [], [188], [], [], [], [], [188], [], [], [188]], [[]]]
set_option maxRecDepth 100000 in
theorem z_ok_66 : z_okM z_m66 = true := z_okM_of z_ix66 (by decide +kernel) (by decide +kernel)
def z_ix67 : List (List (List Nat)) := [[[], [], [792, 795, 63, 794, 8], [], [], [], [], [], [], [], [], [], [183], [], [], [], [655, 658, 63, 657, 2], []], [[], [792, 795, 63, 794, 8], [], [], [], [], [], [804, 807, 63, 806, 11], [], [], [], []]]
set_option maxRecDepth 100000 in
theorem z_ok_67 : z_okM z_m67 = true := z_okM_of z_ix67 (by decide +kernel) (by decide +kernel)
def z_ix68 : List (List (List Nat)) := [[[], [], [796, 799, 63, 798, 9], [], [], [], [], [], [], [], [], [], [183], [], [], [], [655, 658, 63, 657, 2]], [[], [], [796, 799, 63, 798, 9], [], [], [], [], [], [804, 807, 63, 806, 11], [], [], [], []]]
set_option maxRecDepth 100000 in
theorem z_ok_68 : z_okM z_m68 = true := z_okM_of z_ix68 (by decide +kernel) (by decide +kernel)
def z_ix69 : List (List (List Nat)) := [[[], [183], [], [], [], [], [800, 803, 63, 802, 10], [], [], [], [], [], [796, 799, 63, 798, 9], [], [], [], [], []], [[804, 807, 63, 806, 11], [], [], [], [], [808, 811, 63, 810, 12], [], [], [], [], [183], [], [], [], [183], [], []], [[], [], [], [183], [], [], [655, 658, 63, 657, 2], [], [], [808, 811, 63, 810, 12], [], [], [], [], [], [], [804, 807, 63, 806, 11], [], []]]
set_option maxRecDepth 100000 in
theorem z_ok_69 : z_okM z_m69 = true := z_okM_of z_ix69 (by decide +kernel) (by decide +kernel)
def z_ix70 : List (List (List Nat)) := [[[], [], [812, 815, 63, 814, 13], [], [], [], [], [], [], [], [], [], [183], [], [], [], [183]], [[], [], [], [183], [], [], [655, 658, 63, 657, 2], [], [], [812, 815, 63, 814, 13], [], [], [], [], [], [], [804, 807, 63, 806, 11], []], [[], [], []]]
set_option maxRecDepth 100000 in
theorem z_ok_70 : z_okM z_m70 = true := z_okM_of z_ix70 (by decide +kernel) (by decide +kernel)
def z_ix71 : List (List (List Nat)) := [[[], [], [816, 819, 63, 818, 14], [], [], [], [], [], [], [], [], [], [183], [], [], [], [655, 658, 63, 657, 2]], [[], [], [816, 819, 63, 818, 14], [], [], [], [], [], [804, 807, 63, 806, 11], [], [], [], []]]
set_option maxRecDepth 100000 in
theorem z_ok_71 : z_okM z_m71 = true := z_okM_of z_ix71 (by decide +kernel) (by decide +kernel)
def z_ix72 : List (List (List Nat)) := [[[], [183], [], [], [], [], [800, 803, 63, 802, 10], [], [], [], [], [], [788, 791, 63, 790, 7], [], [], [], [784, 787, 63, 786, 6]], [[], [], [], [], [], [], [183], [], [], [], [], [800, 803, 63, 802, 10], [], [], [], [], [], [816, 819, 63, 818, 14]], [[], [], [], [], [], [804, 807, 63, 806, 11], [], [], [], [183], [], [], [], [183], [820, 822, 63, 821], []], [[], [], [], [], [183], [], [], [], [186], [], [], [183], [], [804, 807, 63, 806, 11], [], [655, 658, 63, 657, 2], []], [[]]]
set_option maxRecDepth 100000 in
theorem z_ok_72 : z_okM z_m72 = true := z_okM_of z_ix72 (by decide +kernel) (by decide +kernel)
def z_ix73 : List (List (List Nat)) := [[[], [], [], [], [], [], [655, 658, 63, 657, 2], [], []]]
set_option maxRecDepth 100000 in
theorem z_ok_73 : z_okM z_m73 = true := z_okM_of z_ix73 (by decide +kernel) (by decide +kernel)
def z_ix74 : List (List (List Nat)) := [[[], [], [185], [184], [], [184], [], [182], [], [], [181], [], [184], [], [], []], [[], [181], [], [184], [], [], [], [], [], [184], [], [], [184], [], [], [], [184]], [[185], [], [184], [], [182], [], [], [], [183], [], [], [181], [], [184], []], [[659, 661, 63, 660], [], [], [662, 665, 63, 664, 3], [], [], [181], [], [184], [], [666, 668, 63, 667], [], [], [669, 672, 63, 671, 4]], [[], [], [], [184], [], [], [185], [], [], [], [181], [], [184], [], [], [727, 730, 71, 728, 729], []], [[], [181], [], [184], [], [], [], [183], []]]
set_option maxRecDepth 100000 in
theorem z_ok_74 : z_okM z_m74 = true := z_okM_of z_ix74 (by decide +kernel) (by decide +kernel)
def z_ix75 : List (List (List Nat)) := [[[], [], [186], [], [185], [], [182], [], [], [181], [], [185], [], [659, 661, 63, 660], [], []], [[], [186], [], [], [], [181], [], [185], [], [], [], [], [186], [], [], [185], [], [], [185]], [[], [], [], [185], [], [184], [], [], [], [], [], [], [183], []]]
set_option maxRecDepth 100000 in
theorem z_ok_75 : z_okM z_m75 = true := z_okM_of z_ix75 (by decide +kernel) (by decide +kernel)
def z_ix76 : List (List (List Nat)) := [[[], [185], [], [182], [], [], [181], [], [185], [], [666, 668, 63, 667], [], [], [], [185], []], [[], [185], [], [], [], [183], [], [], [], [], [], [], [183], [], [], [], [], [673, 676, 63, 675, 5]], [[], [], [], [183], [], [], []]]
set_option maxRecDepth 100000 in
theorem z_ok_76 : z_okM z_m76 = true := z_okM_of z_ix76 (by decide +kernel) (by decide +kernel)
def z_ix77 : List (List (List Nat)) := [[[], [], [], [], [], [], [], [185], [], [184], [], [], [], [], [], [], [], [678, 681, 71, 679, 680], [], [], []], [[], [], [], [], [], [], [184], [], [], [], [185], [], [], [181], [], [184], [], [], [], []], [[], [], [], [], [], [], [688, 691, 71, 689, 690], [], [], [], [], [], [], [], []]]
set_option maxRecDepth 100000 in
theorem z_ok_77 : z_okM z_m77 = true := z_okM_of z_ix77 (by decide +kernel) (by decide +kernel)
def z_ix78 : List (List (List Nat)) := [[[], [], [], [], [], [], [], [], [], []]]
set_option maxRecDepth 100000 in
theorem z_ok_78 : z_okM z_m78 = true := z_okM_of z_ix78 (by decide +kernel) (by decide +kernel)
def z_ix79 : List (List (List Nat)) := [[[], [], [], [], [], [], [], [], [], []]]
set_option maxRecDepth 100000 in
theorem z_ok_79 : z_okM z_m79 = true := z_okM_of z_ix79 (by decide +kernel) (by decide +kernel)
def z_ix80 : List (List (List Nat)) := [[[], [214, 84, 85], [], [], [], [215, 104], [222], [], [], [104], [223], [], [], [104], [224]], [[], [], [104], [225], [], [], [104], [226], [], [], [227], [], [], [228], [], [], [221]], [[216], [], [], [222], [], [], [], [216], [], [218, 220, 219, 65], [], [223], [], [], [], [], [224], [], [216]], [[], [], []]]
set_option maxRecDepth 100000 in
theorem z_ok_80 : z_okM z_m80 = true := z_okM_of z_ix80 (by decide +kernel) (by decide +kernel)
def z_ix81 : List (List (List Nat)) := [[[], [227], []]]
set_option maxRecDepth 100000 in
theorem z_ok_81 : z_okM z_m81 = true := z_okM_of z_ix81 (by decide +kernel) (by decide +kernel)
def z_ix82 : List (List (List Nat)) := [[[], [], [], [], [227], [], [], [], [], []]]
set_option maxRecDepth 100000 in
theorem z_ok_82 : z_okM z_m82 = true := z_okM_of z_ix82 (by decide +kernel) (by decide +kernel)
def z_ix83 : List (List (List Nat)) := [[[], [227], [], [], [], [], [], []]]
set_option maxRecDepth 100000 in
theorem z_ok_83 : z_okM z_m83 = true := z_okM_of z_ix83 (by decide +kernel) (by decide +kernel)
def z_ix84 : List (List (List Nat)) := [[[], [228], []]]
set_option maxRecDepth 100000 in
theorem z_ok_84 : z_okM z_m84 = true := z_okM_of z_ix84 (by decide +kernel) (by decide +kernel)
def z_ix85 : List (List (List Nat)) := [[[], [228], [], [], [], [228], [], []]]
set_option maxRecDepth 100000 in
theorem z_ok_85 : z_okM z_m85 = true := z_okM_of z_ix85 (by decide +kernel) (by decide +kernel)
def z_ix86 : List (List (List Nat)) := [[[], [827, 830, 63, 828, 829], [], [], [222], [], [227], [], [], [], [831, 834, 63, 832, 833], [218, 220, 219, 65], [], [223], [], [227], [], [835, 838, 63, 836, 837]], [[], [], [224], [], [227], [], [831, 834, 63, 832, 833], [], [], [], [227], [], [], [], [227], []]]
set_option maxRecDepth 100000 in
theorem z_ok_86 : z_okM z_m86 = true := z_okM_of z_ix86 (by decide +kernel) (by decide +kernel)
def z_ix87 : List (List (List Nat)) := [[[], [], [], [], [868, 871, 64, 870, 15], [], [], [], [221], [], [881, 884, 62, 882, 883], [877, 880, 64, 879, 16], [], [], [], [877, 880, 64, 879, 16], [], [], [222]], [[], [228], [], [], [], [223], [], [228], [], [885, 888, 64, 887, 17], []]]
set_option maxRecDepth 100000 in
theorem z_ok_87 : z_okM z_m87 = true := z_okM_of z_ix87 (by decide +kernel) (by decide +kernel)
def z_ix88 : List (List (List Nat)) := [[[], [], [], [], [868, 871, 64, 870, 15], [], [], [], [877, 880, 64, 879, 16], [], [], [], [877, 880, 64, 879, 16], [], [], [222], [], [228]], [[], [], [223], [], [228], [], [], [224], [], [228], [], [885, 888, 64, 887, 17], []]]
set_option maxRecDepth 100000 in
theorem z_ok_88 : z_okM z_m88 = true := z_okM_of z_ix88 (by decide +kernel) (by decide +kernel)
def z_ix89 : List (List (List Nat)) := [[[], [225], [], [], [], [], [], []]]
set_option maxRecDepth 100000 in
theorem z_ok_89 : z_okM z_m89 = true := z_okM_of z_ix89 (by decide +kernel) (by decide +kernel)
def z_ix90 : List (List (List Nat)) := [[[], [], [], [], [], [], [], [], [221], [], [], [872, 601, 62, 599, 600], [], [], [221], [], []], [[], [], [873, 619, 62, 617, 618], [874], [], [], [], [], [], [875], [876, 559, 59, 560], [], [], [], [], [], []], [[], [877, 880, 64, 879, 16], [], [], [], [], [], [], [], [], [], [877, 880, 64, 879, 16], []]]
set_option maxRecDepth 100000 in
theorem z_ok_90 : z_okM z_m90 = true := z_okM_of z_ix90 (by decide +kernel) (by decide +kernel)
def z_ix91 : List (List (List Nat)) := [[[], [], [], [], [], [], [], [], [], [], [], [], [], [], [], [], [], []], [[], [889, 822, 63, 821], [], [], [], [226], [], [], [], [], [], [226], [], [], [], []], [[], [], [225], [], [], [], [], [], [], [], [], [], [], [], [], []], [[], [], [], [], [], [], [], [226], [], [], [], [], [], [], [], [226], []], [[], [], [], [], [], [], [], [890, 892, 64, 891], [], [], [226], [], [], [], [], [], [], [], []], [[], [], [], [], [], [], [226], [], [], [], [], [], [], [226], [], [], [], [], [], [226]], [[], [], [893, 895, 64, 894], [], [], [], [], [226], [], [], []]]
set_option maxRecDepth 100000 in
theorem z_ok_91 : z_okM z_m91 = true := z_okM_of z_ix91 (by decide +kernel) (by decide +kernel)
def z_ix92 : List (List (List Nat)) := [[[], []], [[], []], [[], [], [], [], [], [890, 892, 64, 891], [], [], [], [], [], [], [], [], [890, 892, 64, 891], [], [], []], [[], [], [], [], [890, 892, 64, 891], [], [], [], [], [], [], [], [890, 892, 64, 891], [], [], [], [], [], [], []], [[], [], [], [], [], []]]
set_option maxRecDepth 100000 in
theorem z_ok_92 : z_okM z_m92 = true := z_okM_of z_ix92 (by decide +kernel) (by decide +kernel)
def z_ix93 : List (List (List Nat)) := [[[], [], [], [], [], []]]
set_option maxRecDepth 100000 in
theorem z_ok_93 : z_okM z_m93 = true := z_okM_of z_ix93 (by decide +kernel) (by decide +kernel)
def z_ix94 : List (List (List Nat)) := [[[], [374, 84, 85], [], [], [], [375, 104], [376], [], [], [104], [], [], [], [], [], [], [], [], [], [], [], [], []], [[], [], [], [377], [], [], [104], [378], []]]
set_option maxRecDepth 100000 in
theorem z_ok_94 : z_okM z_m94 = true := z_okM_of z_ix94 (by decide +kernel) (by decide +kernel)
def z_ix95 : List (List (List Nat)) := [[[], [], [], [], [], [], [], [], []]]
set_option maxRecDepth 100000 in
theorem z_ok_95 : z_okM z_m95 = true := z_okM_of z_ix95 (by decide +kernel) (by decide +kernel)
def z_ix96 : List (List (List Nat)) := [[[], [], [], [], [], [], [], [], []]]
set_option maxRecDepth 100000 in
theorem z_ok_96 : z_okM z_m96 = true := z_okM_of z_ix96 (by decide +kernel) (by decide +kernel)
def z_ix97 : List (List (List Nat)) := [[[], [377], [], [], [], [], [], [], [], []]]
set_option maxRecDepth 100000 in
theorem z_ok_97 : z_okM z_m97 = true := z_okM_of z_ix97 (by decide +kernel) (by decide +kernel)
def z_ix98 : List (List (List Nat)) := [[[], [377], [], [], []]]
set_option maxRecDepth 100000 in
theorem z_ok_98 : z_okM z_m98 = true := z_okM_of z_ix98 (by decide +kernel) (by decide +kernel)
def z_ix99 : List (List (List Nat)) := [[[], [376], [], [], []]]
set_option maxRecDepth 100000 in
theorem z_ok_99 : z_okM z_m99 = true := z_okM_of z_ix99 (by decide +kernel) (by decide +kernel)
def z_ix100 : List (List (List Nat)) := [[[], [], [], [], [], [], [378], [], [], [], [], [], [378], [], [], [], [], [], [], []], [[], []]]
set_option maxRecDepth 100000 in
theorem z_ok_100 : z_okM z_m100 = true := z_okM_of z_ix100 (by decide +kernel) (by decide +kernel)
def z_ix101 : List (List (List Nat)) := [[[], [377], [], [], [], [], []]]
set_option maxRecDepth 100000 in
theorem z_ok_101 : z_okM z_m101 = true := z_okM_of z_ix101 (by decide +kernel) (by decide +kernel)
def z_ix102 : List (List (List Nat)) := [[[], [376], [], [], [], [1198, 1132, 77, 1131], [], [377], [], [], [], [], [378], [], [], [], [], []]]
set_option maxRecDepth 100000 in
theorem z_ok_102 : z_okM z_m102 = true := z_okM_of z_ix102 (by decide +kernel) (by decide +kernel)
def z_ix103 : List (List (List Nat)) := [[[], [376], [], [], [], [], [377], [], [], [], [], [], [], [], [377], [], [], [], [], []], [[], [], [], [], [], []]]
set_option maxRecDepth 100000 in
theorem z_ok_103 : z_okM z_m103 = true := z_okM_of z_ix103 (by decide +kernel) (by decide +kernel)
def z_ix104 : List (List (List Nat)) := [[[], [129, 84, 85], [], [], [104], [132], [], [], [104], [133], [], [], [104], [134], [], [], [104]], [[135], [], [], [104], [136], [], [], [137], [], [], [130], [], [], [131], []]]
set_option maxRecDepth 100000 in
theorem z_ok_104 : z_okM z_m104 = true := z_okM_of z_ix104 (by decide +kernel) (by decide +kernel)
