def z_ix105 : List (List (List Nat)) := [[[], [], [], [476], [], [], [], [], [], []]]
set_option maxRecDepth 100000 in
theorem z_ok_105 : z_okM z_m105 = true := z_okM_of z_ix105 (by decide +kernel) (by decide +kernel)
def z_ix106 : List (List (List Nat)) := [[[], [], [], [], [], [476], [], [], [], [1242, 475, 61, 474], [], [], [], [], [], [], [476], [], [], []], [[], [], [], []]]
set_option maxRecDepth 100000 in
theorem z_ok_106 : z_okM z_m106 = true := z_okM_of z_ix106 (by decide +kernel) (by decide +kernel)
def z_ix107 : List (List (List Nat)) := [[[], [137], []]]
set_option maxRecDepth 100000 in
theorem z_ok_107 : z_okM z_m107 = true := z_okM_of z_ix107 (by decide +kernel) (by decide +kernel)
def z_ix108 : List (List (List Nat)) := [[[], [], [], [], [137], [], [], [], [], []]]
set_option maxRecDepth 100000 in
theorem z_ok_108 : z_okM z_m108 = true := z_okM_of z_ix108 (by decide +kernel) (by decide +kernel)
def z_ix109 : List (List (List Nat)) := [[[], [], [137], [912, 57, 911], []]]
set_option maxRecDepth 100000 in
theorem z_ok_109 : z_okM z_m109 = true := z_okM_of z_ix109 (by decide +kernel) (by decide +kernel)
def z_ix110 : List (List (List Nat)) := [[[], [], [], [], [961, 964, 61, 962, 963], [], [], [], [], []]]
set_option maxRecDepth 100000 in
theorem z_ok_110 : z_okM z_m110 = true := z_okM_of z_ix110 (by decide +kernel) (by decide +kernel)
def z_ix111 : List (List (List Nat)) := [[[], [137], [], [], [], [], [], []]]
set_option maxRecDepth 100000 in
theorem z_ok_111 : z_okM z_m111 = true := z_okM_of z_ix111 (by decide +kernel) (by decide +kernel)
def z_ix112 : List (List (List Nat)) := [[[], [132], [], [137], [], [], [], [133], [], [137], [], [], [], [134], [], [137], [], [], [], [135]], [[], [137], [], [], [], [136], [], [137], [486], [], [], [], [137], [], [], [], [137], []]]
set_option maxRecDepth 100000 in
theorem z_ok_112 : z_okM z_m112 = true := z_okM_of z_ix112 (by decide +kernel) (by decide +kernel)
def z_ix113 : List (List (List Nat)) := [[[], [132], [], [], []]]
set_option maxRecDepth 100000 in
theorem z_ok_113 : z_okM z_m113 = true := z_okM_of z_ix113 (by decide +kernel) (by decide +kernel)
def z_ix114 : List (List (List Nat)) := [[[], [133], [], [], []]]
set_option maxRecDepth 100000 in
theorem z_ok_114 : z_okM z_m114 = true := z_okM_of z_ix114 (by decide +kernel) (by decide +kernel)
def z_ix115 : List (List (List Nat)) := [[[], [134], [], [], []]]
set_option maxRecDepth 100000 in
theorem z_ok_115 : z_okM z_m115 = true := z_okM_of z_ix115 (by decide +kernel) (by decide +kernel)
def z_ix116 : List (List (List Nat)) := [[[], [135], [], [], []]]
set_option maxRecDepth 100000 in
theorem z_ok_116 : z_okM z_m116 = true := z_okM_of z_ix116 (by decide +kernel) (by decide +kernel)
def z_ix117 : List (List (List Nat)) := [[[], [136], [], [], []]]
set_option maxRecDepth 100000 in
theorem z_ok_117 : z_okM z_m117 = true := z_okM_of z_ix117 (by decide +kernel) (by decide +kernel)
def z_ix118 : List (List (List Nat)) := [[[], [131], [], [], [], [135], [], [], [], [519, 522, 60, 520, 521], []]]
set_option maxRecDepth 100000 in
theorem z_ok_118 : z_okM z_m118 = true := z_okM_of z_ix118 (by decide +kernel) (by decide +kernel)
def z_ix119 : List (List (List Nat)) := [[[], [136], [], [], [], [], [136], [], [], [], [], []]]
set_option maxRecDepth 100000 in
theorem z_ok_119 : z_okM z_m119 = true := z_okM_of z_ix119 (by decide +kernel) (by decide +kernel)
def z_ix120 : List (List (List Nat)) := [[[], [130], [], [133], [], [], [539, 468, 58, 466, 467], [], [], [], [], [], [], [], [], [], [], [], []], [[], [], [], [], [], [], [540, 543, 61, 542, 1], [556, 57, 555], [], [], [], [], [132], [], [], [], []], [[], [134], [], [], [], [], [], [], [], [], [], [], [], [], [], [], [], [], [], [], [556, 57, 555], [], []]]
set_option maxRecDepth 100000 in
theorem z_ok_120 : z_okM z_m120 = true := z_okM_of z_ix120 (by decide +kernel) (by decide +kernel)
def z_ix121 : List (List (List Nat)) := [[[], [132], [], [], []], [[], [], [544, 546, 61, 545], [], [], [], [], [], [544, 546, 61, 545], [], [], [], [], [134]], [[], [], [], [], [], [548], [], [], [], [], [549, 551, 61, 550], [], [], [], [549, 551, 61, 550], [], [549, 551, 61, 550], [], [], []], [[544, 546, 61, 545], []]]
set_option maxRecDepth 100000 in
theorem z_ok_121 : z_okM z_m121 = true := z_okM_of z_ix121 (by decide +kernel) (by decide +kernel)
def z_ix122 : List (List (List Nat)) := [[[], [], [], [547], [], []]]
set_option maxRecDepth 100000 in
theorem z_ok_122 : z_okM z_m122 = true := z_okM_of z_ix122 (by decide +kernel) (by decide +kernel)
def z_ix123 : List (List (List Nat)) := [[[], [552], [], [553], [], [], [544, 546, 61, 545], []]]
set_option maxRecDepth 100000 in
theorem z_ok_123 : z_okM z_m123 = true := z_okM_of z_ix123 (by decide +kernel) (by decide +kernel)
def z_ix124 : List (List (List Nat)) := [[[], [], [], [565, 518, 61, 516, 517], [], [], [], [], [], [], [], [], [], [], [], [], [], [], [], [548]], [[], [], [], [], [], []]]
set_option maxRecDepth 100000 in
theorem z_ok_124 : z_okM z_m124 = true := z_okM_of z_ix124 (by decide +kernel) (by decide +kernel)
def z_ix125 : List (List (List Nat)) := [[[], [], [], [], [], [], [], [], [], [136], [], [], [], [], [], [], [], [], [], [], [], []], [[], [], [], []]]
set_option maxRecDepth 100000 in
theorem z_ok_125 : z_okM z_m125 = true := z_okM_of z_ix125 (by decide +kernel) (by decide +kernel)
def z_ix126 : List (List (List Nat)) := [[[], [], [], [], [], [], [], [], [], [], [], [], [], [], [], [1092, 1083, 61, 1081, 1082], [], [], []], [[1093, 744, 59, 745], [], [], [], [1094, 93, 59, 94], [], [], [], [], [], [], []]]
set_option maxRecDepth 100000 in
theorem z_ok_126 : z_okM z_m126 = true := z_okM_of z_ix126 (by decide +kernel) (by decide +kernel)
def z_ix127 : List (List (List Nat)) := [[[], [83, 84, 85], [], [86, 87, 58], [], [], [88, 90, 58, 89], [386], [], [105, 106, 60], [], [109, 60, 108], [387], [], [124, 125, 61]], [[], [], [386], [], [387], [126, 128, 61, 127], [388], [], [86, 87, 58], [], [], [88, 90, 58, 89], [389], [], [155, 156, 62]], [[], [], [386], [157, 159, 62, 158], [390], [], [175, 176, 63], [], [179, 63, 178], [391], [], [209, 210, 64], [], [], [390], [211, 213, 64, 212]], [[392], [], [246, 247, 66], [], [], [392], [], [388], [], [389], [248, 250, 66, 249], [393], [], [302, 303, 67]], [[], [], [390], [], [389], [304, 306, 67, 305], [394], [], [330, 331, 68], [], [334, 68, 333], [395], [], [369, 370, 69], [], [373, 69, 372]], [[396], [], [], [104], [397], [], [], [104], [398], [], [], [399], []]]
set_option maxRecDepth 100000 in
theorem z_ok_127 : z_okM z_m127 = true := z_okM_of z_ix127 (by decide +kernel) (by decide +kernel)
def z_ix128 : List (List (List Nat)) := [[[], [], [], [], [], [], [], [], [], [399], [], [], [], [], [], [], [], []], [[399], [], [], [399], [], [399], []]]
set_option maxRecDepth 100000 in
theorem z_ok_128 : z_okM z_m128 = true := z_okM_of z_ix128 (by decide +kernel) (by decide +kernel)
def z_ix129 : List (List (List Nat)) := [[[], [437, 439, 57, 438], [], [], [437, 439, 57, 438], [], [], [], [], [386], [441, 444, 58, 442, 443], [], [], [], [], []], [[397], [], [445, 447, 57, 446], [], [], [397], [], [445, 447, 57, 446], [], [386], [], [397], [449, 452, 58, 450, 451], []]]
set_option maxRecDepth 100000 in
theorem z_ok_129 : z_okM z_m129 = true := z_okM_of z_ix129 (by decide +kernel) (by decide +kernel)
def z_ix130 : List (List (List Nat)) := [[[], [386], [], [458, 461, 58, 459, 460], [], [], [462, 464, 57, 463], [], [], [386], [], [465, 468, 58, 466, 467], [], [], [], []], [[]]]
set_option maxRecDepth 100000 in
theorem z_ok_130 : z_okM z_m130 = true := z_okM_of z_ix130 (by decide +kernel) (by decide +kernel)
def z_ix131 : List (List (List Nat)) := [[[], [473, 475, 61, 474], [], [], [386], [], [458, 461, 58, 459, 460], [], [], [], [], [], [], [], [], []], [[388], [478, 481, 61, 479, 480], [], [], [], [], [388], [], [], [], [], [399], [482, 485, 61, 483, 484], []]]
set_option maxRecDepth 100000 in
theorem z_ok_131 : z_okM z_m131 = true := z_okM_of z_ix131 (by decide +kernel) (by decide +kernel)
def z_ix132 : List (List (List Nat)) := [[[], [388], [], [491, 494, 61, 492, 493], [], [], [], [], []], [[], [388], [], [495, 498, 61, 496, 497], [], [], [388]], [[], [499, 502, 61, 500, 501], [], [], [388], [], [503, 506, 61, 504, 505], [], [], [388], [], [507, 510, 61, 508, 509], [], [], [388], [], [511, 514, 61, 512, 513]], [[], [], [388], [], [], [399], [515, 518, 61, 516, 517], [], [], []]]
set_option maxRecDepth 100000 in
theorem z_ok_132 : z_okM z_m132 = true := z_okM_of z_ix132 (by decide +kernel) (by decide +kernel)
def z_ix133 : List (List (List Nat)) := [[[], [386], [], [458, 461, 58, 459, 460], [], [], [], [], [389], [441, 444, 58, 442, 443], [], [], [], [], [389]], [[], [386], [], [465, 468, 58, 466, 467], [449, 452, 58, 450, 451], []]]
set_option maxRecDepth 100000 in
theorem z_ok_133 : z_okM z_m133 = true := z_okM_of z_ix133 (by decide +kernel) (by decide +kernel)
def z_ix134 : List (List (List Nat)) := [[[], [389], [], [458, 461, 58, 459, 460], [], [], [388], [], [491, 494, 61, 492, 493], [], [], [], [], [], [], []], [[], [], [389], [441, 444, 58, 442, 443], [], [], [], [], [388], [], [], [389], [], [465, 468, 58, 466, 467], [], [397]], [[535, 538, 61, 536, 537], [], [], [], [], [388], [], [], [399], [], [397], [561, 564, 61, 562, 563], [], [389], [], [397]], [[449, 452, 58, 450, 451], []]]
set_option maxRecDepth 100000 in
theorem z_ok_134 : z_okM z_m134 = true := z_okM_of z_ix134 (by decide +kernel) (by decide +kernel)
def z_ix135 : List (List (List Nat)) := [[[], [389], [], [458, 461, 58, 459, 460], [], [], [389], [], [458, 461, 58, 459, 460], [], [], [], [], [389], [441, 444, 58, 442, 443]], [[], [], [], [], [389], [], [465, 468, 58, 466, 467], [], [389], [], [465, 468, 58, 466, 467], [], [397], [570, 572, 57, 571], [], [389]], [[], [397], [449, 452, 58, 450, 451], []]]
set_option maxRecDepth 100000 in
theorem z_ok_135 : z_okM z_m135 = true := z_okM_of z_ix135 (by decide +kernel) (by decide +kernel)
def z_ix136 : List (List (List Nat)) := [[[], [389], [], [458, 461, 58, 459, 460], [], [], [462, 464, 57, 463], [], [], [389], [], [465, 468, 58, 466, 467], [], [], [], []], [[]]]
set_option maxRecDepth 100000 in
theorem z_ok_136 : z_okM z_m136 = true := z_okM_of z_ix136 (by decide +kernel) (by decide +kernel)
def z_ix137 : List (List (List Nat)) := [[[], [386], [], [458, 461, 58, 459, 460], [], [], [386], [], [458, 461, 58, 459, 460], [], [], [], [], [], [386], []], [[458, 461, 58, 459, 460], [], [], [], [], [390], [582, 585, 62, 583, 584], [], [], [], [], [390], [], [], [], [586, 589, 62, 587, 588]], [[]]]
set_option maxRecDepth 100000 in
theorem z_ok_137 : z_okM z_m137 = true := z_okM_of z_ix137 (by decide +kernel) (by decide +kernel)
def z_ix138 : List (List (List Nat)) := [[[], [390], [], [594, 597, 62, 595, 596], [], [], [390], [], [], [598, 601, 62, 599, 600], [], [], [389], [], [458, 461, 58, 459, 460], []], [[602], [], [], [390], [], [], [], [389], [], [465, 468, 58, 466, 467], [603, 606, 62, 604, 605], []]]
set_option maxRecDepth 100000 in
theorem z_ok_138 : z_okM z_m138 = true := z_okM_of z_ix138 (by decide +kernel) (by decide +kernel)
def z_ix139 : List (List (List Nat)) := [[[], [390], [], [594, 597, 62, 595, 596], [], [], [389], [], [458, 461, 58, 459, 460], [], [], [389], [], [458, 461, 58, 459, 460], []], [[], [], [], [390], [], [], [389], [], [465, 468, 58, 466, 467], [], [389], [], [465, 468, 58, 466, 467], [612, 615, 62, 613, 614], [], []], [[], [], []]]
set_option maxRecDepth 100000 in
theorem z_ok_139 : z_okM z_m139 = true := z_okM_of z_ix139 (by decide +kernel) (by decide +kernel)
def z_ix140 : List (List (List Nat)) := [[[], [390], [], [594, 597, 62, 595, 596], [], [], [390], [], [594, 597, 62, 595, 596], [], [], [], [], [], [], [], []], [[], [389], [627, 630, 58, 628, 629], [], [], [], [], [], [], [], [389], [627, 630, 58, 628, 629], [], [], [390]], [[], [], [389], [], [465, 468, 58, 466, 467], [], [389], [], [465, 468, 58, 466, 467], [612, 615, 62, 613, 614], [], [], [390], [], []], [[389], [], [465, 468, 58, 466, 467], [], [389], [], [465, 468, 58, 466, 467], [612, 615, 62, 613, 614], [], [], [], [], [], []], [[], [], [], [], [], [], [], [], [], [], [], [], [], [], []], [[]]]
set_option maxRecDepth 100000 in
theorem z_ok_140 : z_okM z_m140 = true := z_okM_of z_ix140 (by decide +kernel) (by decide +kernel)
def z_ix141 : List (List (List Nat)) := [[[], [], [], [], [], [], [], [], [], [391], [], [635, 638, 63, 636, 637], [], [], [391], [], [], [639, 642, 63, 640, 641]], [[], [], []]]
set_option maxRecDepth 100000 in
theorem z_ok_141 : z_okM z_m141 = true := z_okM_of z_ix141 (by decide +kernel) (by decide +kernel)
def z_ix142 : List (List (List Nat)) := [[[], [392], [647, 650, 64, 648, 649], [], [], [], [], [391], [651, 654, 63, 652, 653], [], [], [392], [], [391], [823, 826, 64, 824, 825]], [[], [], [], [391], [839, 842, 63, 840, 841], [], [], [], [391], [843, 846, 63, 844, 845], [], []]]
set_option maxRecDepth 100000 in
theorem z_ok_142 : z_okM z_m142 = true := z_okM_of z_ix142 (by decide +kernel) (by decide +kernel)
def z_ix143 : List (List (List Nat)) := [[[], [392], [], [852, 855, 64, 853, 854], [], [], [392], [], [856, 859, 64, 857, 858], [], [], []]]
set_option maxRecDepth 100000 in
theorem z_ok_143 : z_okM z_m143 = true := z_okM_of z_ix143 (by decide +kernel) (by decide +kernel)
def z_ix144 : List (List (List Nat)) := [[[], [390], [], [594, 597, 62, 595, 596], [], [], [389], [], [458, 461, 58, 459, 460], [], [], [389], [], [458, 461, 58, 459, 460], []], [[602], [], [], [392], [], [], [389], [], [465, 468, 58, 466, 467], [], [389], [], [465, 468, 58, 466, 467], [], [399], [864, 867, 64, 865, 866]], [[], []]]
set_option maxRecDepth 100000 in
theorem z_ok_144 : z_okM z_m144 = true := z_okM_of z_ix144 (by decide +kernel) (by decide +kernel)
def z_ix145 : List (List (List Nat)) := [[[], [900, 902, 76, 901], [], [], [390], [], [594, 597, 62, 595, 596], [], [], [389], [], [906, 909, 58, 907, 908], [], [], [], []], [[], [], [], [], [389], [], [458, 461, 58, 459, 460], [], [], [], [], [], [], [], []], [[], [], [], [], [393], [], [], [389], [], [465, 468, 58, 466, 467], [], [399], [913, 916, 66, 914, 915], [], [393], [], [917, 920, 66, 918, 919]], [[], [], [], [], [393], [933, 936, 66, 934, 935], [], [], [393], [], [937, 940, 66, 938, 939], []]]
set_option maxRecDepth 100000 in
theorem z_ok_145 : z_okM z_m145 = true := z_okM_of z_ix145 (by decide +kernel) (by decide +kernel)
def z_ix146 : List (List (List Nat)) := [[[], [390], [], [594, 597, 62, 595, 596], [], [], [388], [], [491, 494, 61, 492, 493], [], [], [389], [], [458, 461, 58, 459, 460], []], [[], [389], [], [458, 461, 58, 459, 460], [], [602], [], [], [], [], [], [], [945, 948, 57, 947, 19], [], []]]
set_option maxRecDepth 100000 in
theorem z_ok_146 : z_okM z_m146 = true := z_okM_of z_ix146 (by decide +kernel) (by decide +kernel)
def z_ix147 : List (List (List Nat)) := [[[], [390], [], [594, 597, 62, 595, 596], [], [], [388], [], [957, 960, 61, 958, 959], [], [], [389], [], [458, 461, 58, 459, 460], []], [[], [389], [], [458, 461, 58, 459, 460], [], [], [], [], [], [], [], [], [], [], [], [388], [966, 969, 61, 967, 968]], [[], [], [], [970, 924, 57, 923], [], [], [], [], [], [], [945, 948, 57, 947, 19], [], [], [], []], [[], [], [], [], [], [], [], [], [], [], []]]
set_option maxRecDepth 100000 in
theorem z_ok_147 : z_okM z_m147 = true := z_okM_of z_ix147 (by decide +kernel) (by decide +kernel)
def z_ix148 : List (List (List Nat)) := [[[], [390], [], [594, 597, 62, 595, 596], [], [], [389], [], [458, 461, 58, 459, 460], [], [], [389], [], [458, 461, 58, 459, 460], []], [[], [388], [], [975, 964, 61, 962, 963], [], [], [900, 902, 76, 901], [], [], [], [], [], [393], [], [], [389]], [[], [465, 468, 58, 466, 467], [], [399], [913, 916, 66, 914, 915], [], [393], [], [], [389], [], [465, 468, 58, 466, 467], [976, 979, 66, 977, 978], [], []], [[], [], [393], [933, 936, 66, 934, 935], [], [], [], [], [], [393], [986, 989, 66, 987, 988], [], [], [], []], [[], [393], [986, 989, 66, 987, 988], [], [], [393], [], [990, 993, 66, 991, 992], [], [], []]]
set_option maxRecDepth 100000 in
theorem z_ok_148 : z_okM z_m148 = true := z_okM_of z_ix148 (by decide +kernel) (by decide +kernel)
def z_ix149 : List (List (List Nat)) := [[[], [389], [], [458, 461, 58, 459, 460], [], [], [389], [], [458, 461, 58, 459, 460], [], [], [], [], [394], [998, 1001, 67, 999, 1000]], [[], [], [], [], [394], [], [], [1002, 1005, 67, 1003, 1004], []]]
set_option maxRecDepth 100000 in
theorem z_ok_149 : z_okM z_m149 = true := z_okM_of z_ix149 (by decide +kernel) (by decide +kernel)
def z_ix150 : List (List (List Nat)) := [[[], [390], [], [594, 597, 62, 595, 596], [], [], [394], [], [1010, 1013, 67, 1011, 1012], [], [], []]]
set_option maxRecDepth 100000 in
theorem z_ok_150 : z_okM z_m150 = true := z_okM_of z_ix150 (by decide +kernel) (by decide +kernel)
def z_ix151 : List (List (List Nat)) := [[[], [390], [], [1020, 1023, 62, 1021, 1022], [], [], [394], [], [1025, 1028, 67, 1026, 1027], [], [], []]]
set_option maxRecDepth 100000 in
theorem z_ok_151 : z_okM z_m151 = true := z_okM_of z_ix151 (by decide +kernel) (by decide +kernel)
def z_ix152 : List (List (List Nat)) := [[[], [388], [], [491, 494, 61, 492, 493], [], [], [1048, 1050, 57, 1049], [], [], [], [], [], [], [], [], []], [[387], [1051, 1054, 60, 1052, 1053], [], [], [], [], [387], [], [], [], [1055, 1058, 60, 1056, 1057], []]]
set_option maxRecDepth 100000 in
theorem z_ok_152 : z_okM z_m152 = true := z_okM_of z_ix152 (by decide +kernel) (by decide +kernel)
def z_ix153 : List (List (List Nat)) := [[[], [388], [], [491, 494, 61, 492, 493], [], [], [1048, 1050, 57, 1049], [], [], [387], [], [], [1063, 522, 60, 520, 521], [], []], [[]]]
set_option maxRecDepth 100000 in
theorem z_ok_153 : z_okM z_m153 = true := z_okM_of z_ix153 (by decide +kernel) (by decide +kernel)
def z_ix154 : List (List (List Nat)) := [[[], [388], [], [491, 494, 61, 492, 493], [], [], [], [], [1068], [], [], [], [], [388], [], [], [1069, 1072, 61, 1070, 1071]], [[]]]
set_option maxRecDepth 100000 in
theorem z_ok_154 : z_okM z_m154 = true := z_okM_of z_ix154 (by decide +kernel) (by decide +kernel)
def z_ix155 : List (List (List Nat)) := [[[], [388], [], [491, 494, 61, 492, 493], [], [], [], [], [1077, 1079, 57, 1078], [], [], [], [], [], []], [[], [], [], [388], [], [], [], [], [], [1080, 1083, 61, 1081, 1082], []]]
set_option maxRecDepth 100000 in
theorem z_ok_155 : z_okM z_m155 = true := z_okM_of z_ix155 (by decide +kernel) (by decide +kernel)
def z_ix156 : List (List (List Nat)) := [[[], [388], [], [491, 494, 61, 492, 493], [], [], [], [], [1077, 1079, 57, 1078], [], [], [388], [], [], [], [], [1088, 1091, 61, 1089, 1090]], [[], [], []]]
set_option maxRecDepth 100000 in
theorem z_ok_156 : z_okM z_m156 = true := z_okM_of z_ix156 (by decide +kernel) (by decide +kernel)
def z_ix157 : List (List (List Nat)) := [[[], [388], [], [957, 960, 61, 958, 959], [], [], [], [], [1077, 1079, 57, 1078], [], [], [], [], [], [], [], [], []], [[], [], [388], [966, 969, 61, 967, 968], [], [], [], [970, 924, 57, 923], [], [], [388], [], [], [], []], [[1088, 1091, 61, 1089, 1090], [], [], [], [], [], [], [], [], [], [], [], [], []], [[], []]]
set_option maxRecDepth 100000 in
theorem z_ok_157 : z_okM z_m157 = true := z_okM_of z_ix157 (by decide +kernel) (by decide +kernel)
def z_ix158 : List (List (List Nat)) := [[[], [386], [], [458, 461, 58, 459, 460], [], [], [], [], [], [], [], [], [], [395], [1103, 1106, 68, 1104, 1105]], [[], [], [], [], [395], [], [386], [], [465, 468, 58, 466, 467], [], [1107, 1110, 68, 1108, 1109], []]]
set_option maxRecDepth 100000 in
theorem z_ok_158 : z_okM z_m158 = true := z_okM_of z_ix158 (by decide +kernel) (by decide +kernel)
def z_ix159 : List (List (List Nat)) := [[[], [], [], [], [], [], [], [], [462, 464, 57, 463], [], [], [], [], [395], [1115, 1118, 68, 1116, 1117], [], []], [[], [], [], [], [], [], [], [], [], [], [], [395], [], [1143, 1146, 68, 1144, 1145], [], [], [395], []], [[1147, 1150, 68, 1148, 1149], []]]
set_option maxRecDepth 100000 in
theorem z_ok_159 : z_okM z_m159 = true := z_okM_of z_ix159 (by decide +kernel) (by decide +kernel)
def z_ix160 : List (List (List Nat)) := [[[], []], [[], [399]], [[], [], [386], [627, 630, 58, 628, 629], [], [], [388], [966, 969, 61, 967, 968], [], [], [389], [627, 630, 58, 628, 629], [], [], [390], [1155, 1036, 62, 1034, 1035]], [[], [], [392], [1156, 1159, 64, 1157, 1158], [], [], [391], [1160, 1163, 63, 1161, 1162], [], [], [392], [1164, 1167, 64, 1165, 1166], [], [], [394], [1168, 1171, 67, 1169, 1170]], [[], [], [387], [1172, 1175, 60, 1173, 1174], [], [], [395], [1176, 1179, 68, 1177, 1178], [], [], []]]
set_option maxRecDepth 100000 in
theorem z_ok_160 : z_okM z_m160 = true := z_okM_of z_ix160 (by decide +kernel) (by decide +kernel)
def z_ix161 : List (List (List Nat)) := [[[], [1184, 1186, 69, 1185], [], [], [], [], [], [], [], [396], [], [1187, 1190, 69, 1188, 1189], [], [], [1191, 1193, 69, 1192], [], []], [[], [], [], [], [], [], [], [], [], [396], [], [], [], [1194, 1197, 69, 1195, 1196], []]]
set_option maxRecDepth 100000 in
theorem z_ok_161 : z_okM z_m161 = true := z_okM_of z_ix161 (by decide +kernel) (by decide +kernel)
def z_ix162 : List (List (List Nat)) := [[[], [1184, 1186, 69, 1185], [], [], [], [], [396], [], [1203, 1206, 69, 1204, 1205], [], [], [], [], [396], [], [], [], [1207, 1210, 69, 1208, 1209]], [[], [], [396], [], [], [], [1211, 1214, 69, 1212, 1213], [], [], []]]
set_option maxRecDepth 100000 in
theorem z_ok_162 : z_okM z_m162 = true := z_okM_of z_ix162 (by decide +kernel) (by decide +kernel)
def z_ix163 : List (List (List Nat)) := [[[], [1184, 1186, 69, 1185], [], [], [1184, 1186, 69, 1185], [], [], [], [], [396], [], [1203, 1206, 69, 1204, 1205], [], [], [396]], [[], [1203, 1206, 69, 1204, 1205], [], [], [], [], [396], [], [1219, 1222, 69, 1220, 1221], [], [396], [], [1219, 1222, 69, 1220, 1221], [], [], []], [[], [396], [], [], [], [1207, 1210, 69, 1208, 1209], [], [], [396], [], [], [], [1207, 1210, 69, 1208, 1209], [], [], []], [[], [396], [], [1223, 1226, 69, 1224, 1225], [], [], [396], [], [1223, 1226, 69, 1224, 1225], [], [], [1227, 220, 219, 65], [], []]]
set_option maxRecDepth 100000 in
theorem z_ok_163 : z_okM z_m163 = true := z_okM_of z_ix163 (by decide +kernel) (by decide +kernel)
def z_ix164 : List (List (List Nat)) := [[[], [1184, 1186, 69, 1185], [], [], [1191, 1193, 69, 1192], [], [], [], [], [396], [], [1203, 1206, 69, 1204, 1205], [], [], [396]], [[], [1219, 1222, 69, 1220, 1221], [], [], [], [], [], [396], [], [1203, 1206, 69, 1204, 1205], [], [], [], [], [396], [], [], []], [[1207, 1210, 69, 1208, 1209], [], [], [], [], [396], [], [1223, 1226, 69, 1224, 1225], [], [], [397], [], [], [1227, 220, 219, 65], [], [397]], [[1232, 1234, 57, 1233], [], [], [], [], [386], [441, 444, 58, 442, 443], [], [], [], [], [386], [], [397]], [[449, 452, 58, 450, 451], []]]
set_option maxRecDepth 100000 in
theorem z_ok_164 : z_okM z_m164 = true := z_okM_of z_ix164 (by decide +kernel) (by decide +kernel)
def z_ix165 : List (List (List Nat)) := [[[], [473, 475, 61, 474], [], [], [], [], [388], [], [491, 494, 61, 492, 493], [], [], [], [], [388], [], [495, 498, 61, 496, 497]], [[], [1239, 1241, 61, 1240], [], [], [388], [], [503, 506, 61, 504, 505], [], [], []]]
set_option maxRecDepth 100000 in
theorem z_ok_165 : z_okM z_m165 = true := z_okM_of z_ix165 (by decide +kernel) (by decide +kernel)
def z_ix166 : List (List (List Nat)) := [[[], [388], [], [], [389], [], [465, 468, 58, 466, 467], [], [397], [535, 538, 61, 536, 537], [], [388], [], [], [389], [], [465, 468, 58, 466, 467]], [[], [398], [535, 538, 61, 536, 537], [], [392], [], [], [397], [], [398], [], [388], [], [495, 498, 61, 496, 497], [], [399]], [[949, 952, 64, 950, 951], []]]
set_option maxRecDepth 100000 in
theorem z_ok_166 : z_okM z_m166 = true := z_okM_of z_ix166 (by decide +kernel) (by decide +kernel)
def z_ix167 : List (List (List Nat)) := [[[], [], [], [], [], [440], [], [], [], [], [], []]]
set_option maxRecDepth 100000 in
theorem z_ok_167 : z_okM z_m167 = true := z_okM_of z_ix167 (by decide +kernel) (by decide +kernel)
def z_ix168 : List (List (List Nat)) := [[[], [], [], [], [], [], [], [], [], [], [], [], [], [], [], [], [448], [], [], []], [[], [448], [], [], [], [], []]]
set_option maxRecDepth 100000 in
theorem z_ok_168 : z_okM z_m168 = true := z_okM_of z_ix168 (by decide +kernel) (by decide +kernel)
def z_ix169 : List (List (List Nat)) := [[[], [], [], [], [], [], [], [], [], [], [], [], [], [], [], [], [], [], [], [], []], [[], [], [], []]]
set_option maxRecDepth 100000 in
theorem z_ok_169 : z_okM z_m169 = true := z_okM_of z_ix169 (by decide +kernel) (by decide +kernel)
def z_ix170 : List (List (List Nat)) := [[[], [557], [558, 559, 59, 560], [], []]]
set_option maxRecDepth 100000 in
theorem z_ok_170 : z_okM z_m170 = true := z_okM_of z_ix170 (by decide +kernel) (by decide +kernel)
def z_ix171 : List (List (List Nat)) := [[[], [], [], [], [], [], [], [], [], [], [], [], [], [], [], [], [573, 556, 57, 555], [], [], [], []]]
set_option maxRecDepth 100000 in
theorem z_ok_171 : z_okM z_m171 = true := z_okM_of z_ix171 (by decide +kernel) (by decide +kernel)
def z_ix172 : List (List (List Nat)) := [[[], [], [], [], [], [], [], [], []]]
set_option maxRecDepth 100000 in
theorem z_ok_172 : z_okM z_m172 = true := z_okM_of z_ix172 (by decide +kernel) (by decide +kernel)
def z_ix173 : List (List (List Nat)) := [[[], [], [], [], [], [], [], [], []]]
set_option maxRecDepth 100000 in
theorem z_ok_173 : z_okM z_m173 = true := z_okM_of z_ix173 (by decide +kernel) (by decide +kernel)
def z_ix174 : List (List (List Nat)) := [[[], [], [], [], [], [], [], [], [], [], [], [], [], [], [], [], []], [[], [], [], []]]
set_option maxRecDepth 100000 in
theorem z_ok_174 : z_okM z_m174 = true := z_okM_of z_ix174 (by decide +kernel) (by decide +kernel)
def z_ix175 : List (List (List Nat)) := [[[], [], [], [], [], [], [], [], [], [], []]]
set_option maxRecDepth 100000 in
theorem z_ok_175 : z_okM z_m175 = true := z_okM_of z_ix175 (by decide +kernel) (by decide +kernel)
def z_ix176 : List (List (List Nat)) := [[[], [], [], [], [], [], [], [], [], []]]
set_option maxRecDepth 100000 in
theorem z_ok_176 : z_okM z_m176 = true := z_okM_of z_ix176 (by decide +kernel) (by decide +kernel)
def z_ix177 : List (List (List Nat)) := [[[], [1248, 84, 85], [], [], [104], [1251], [], [], [104], [1253], [], [], [104], [1254], [], []], [[104], [1255], [], [], [104], [1256], [], [], [104], [1257], [], [], [104], [1259], [], []], [[104], [1261], [], [], [104], [1262], [], [], [104], [1263], [], [], [1265], [], [], [104]], [[], [], [], [], [], [], [], [], [], [], [], [], [], [], [], [], [], [], [], [], [], [], [], [], []], [[], [], [], [], [], [], [], [], [], [], [], [], [], [], [], [], [], [], [], [], []], [[], [], [], [], [], [], [], [], [], [], [], [], [], [], [], [], [], [], [], [], []], [[], [], [], [], [], [], [], [], [], [], [], [], [], [1266], [], [], [104], [1267], []], [[], [104], [], [], [], [], [], [], [], [], [], [], [], [], [], [], [], [], [], [], [], [], [], [], [], [], [1268]], [[], [], [104], [1278], [], [], [104], [1279], [], [], [104], [1281], [], [], [104], [1287]], [[], [], [104], [1288], [], [], [104], [1289], [], [], [104], [1290], [], [], [104], [1291], [], []], [[104], [1293], [], [], [104], [1294], [], [], [104], [1295], [], [], [104], [1297], [], []], [[104], [1298], [], [], [104], [1299], [], [], [104], [1301], [], [], [104], [1302], [], [], [104], []], [[], [], [], [], [], [], [], [], [], [], [], [], [], [], [], [1303], [], [], [104], [1304], [], [], [104], [1305]], [[], [], [104], [1306], []]]
set_option maxRecDepth 100000 in
theorem z_ok_177 : z_okM z_m177 = true := z_okM_of z_ix177 (by decide +kernel) (by decide +kernel)
def z_ix178 : List (List (List Nat)) := [[[], [], [], [], [], [], [], [], [], []]]
set_option maxRecDepth 100000 in
theorem z_ok_178 : z_okM z_m178 = true := z_okM_of z_ix178 (by decide +kernel) (by decide +kernel)
def z_ix179 : List (List (List Nat)) := [[[], [], [], [1428, 1430, 70, 1429], [], [], [], [], [1249], [], [], [], [], [], [], [], [], [1249]], [[], [], [1249], [], [1249], []]]
set_option maxRecDepth 100000 in
theorem z_ok_179 : z_okM z_m179 = true := z_okM_of z_ix179 (by decide +kernel) (by decide +kernel)
def z_ix180 : List (List (List Nat)) := [[[], [], [], [], [], [1438], [], [], [], [], [], []]]
set_option maxRecDepth 100000 in
theorem z_ok_180 : z_okM z_m180 = true := z_okM_of z_ix180 (by decide +kernel) (by decide +kernel)
def z_ix181 : List (List (List Nat)) := [[[], [1435, 1437, 70, 1436], [], [], [1435, 1437, 70, 1436], [], [], [], [], [1250], [], [], [], [], [], []], [[], [], [], [], [], [], [], [], [1251], [], [], [1250], [], [], [], [], [1439], []], [[], [], [], [1251], [], [], [1250], [], [], [], [], [], [], [1439], [], [], [], [], [1439], []], [[], [], [1439], [], [], [], [], [], [], [1250], [], [], [1250], [], [1250], [], []], [[]]]
set_option maxRecDepth 100000 in
theorem z_ok_181 : z_okM z_m181 = true := z_okM_of z_ix181 (by decide +kernel) (by decide +kernel)
def z_ix182 : List (List (List Nat)) := [[[], [], [], [1250], [], [], [1428, 1430, 70, 1429], []]]
set_option maxRecDepth 100000 in
theorem z_ok_182 : z_okM z_m182 = true := z_okM_of z_ix182 (by decide +kernel) (by decide +kernel)
def z_ix183 : List (List (List Nat)) := [[[], [], [], [1252], [], [], [1428, 1430, 70, 1429], []]]
set_option maxRecDepth 100000 in
theorem z_ok_183 : z_okM z_m183 = true := z_okM_of z_ix183 (by decide +kernel) (by decide +kernel)
def z_ix184 : List (List (List Nat)) := [[[], [], [], [1258], [], [], [1428, 1430, 70, 1429], []]]
set_option maxRecDepth 100000 in
theorem z_ok_184 : z_okM z_m184 = true := z_okM_of z_ix184 (by decide +kernel) (by decide +kernel)
def z_ix185 : List (List (List Nat)) := [[[], [], [], [1260], [], [], [1428, 1430, 70, 1429], []]]
set_option maxRecDepth 100000 in
theorem z_ok_185 : z_okM z_m185 = true := z_okM_of z_ix185 (by decide +kernel) (by decide +kernel)
def z_ix186 : List (List (List Nat)) := [[[], [], [1444, 1447, 70, 1446, 27], [], [], [], [], [1428, 1430, 70, 1429], [], [], [1251], [], [], [], [], [], [], []], [[], []]]
set_option maxRecDepth 100000 in
theorem z_ok_186 : z_okM z_m186 = true := z_okM_of z_ix186 (by decide +kernel) (by decide +kernel)
def z_ix187 : List (List (List Nat)) := [[[], [], [], [1428, 1430, 70, 1429], [], [], [], [1444, 1447, 70, 1446, 27], [], [], [], [], [1428, 1430, 70, 1429], [], [], [], [], [1252]], [[], [], [], [], [], [1253], [], [1252], [], [], [], [1254], [], [1252], [], [], [], [1255]], [[], [1252], [], [], [], [1256], [], [1252], [], [1249], [], [], [1257], [], [1252], [1452], []], [[], [], [1252], [], [], [1252], [], [1252], [], [], []]]
set_option maxRecDepth 100000 in
theorem z_ok_187 : z_okM z_m187 = true := z_okM_of z_ix187 (by decide +kernel) (by decide +kernel)
def z_ix188 : List (List (List Nat)) := [[[], [], [1457, 1460, 70, 1459, 28], [], [], [], [], [1428, 1430, 70, 1429], [], [], [], [], []], [[], [1253], [], [], [], []], [[1254], [], [], [], [], [1255], [], [], [], [], [1256], [], [], [], [], [1257], [], [], [], [], [], [], [1249]], [[], [1256], [], [], [], [1461, 1464, 70, 1463, 29], []]]
set_option maxRecDepth 100000 in
theorem z_ok_188 : z_okM z_m188 = true := z_okM_of z_ix188 (by decide +kernel) (by decide +kernel)
def z_ix189 : List (List (List Nat)) := [[[], [1253], [], [], [], [], [], [], [], [], [], [1259], [], [], [], [], [], [], [], []], [[], [1251], [], [], [1254], [], [], [], [], [], [], [], [], [], [], [], [], []], [[], [], [], [], [], [], [], [], [], [], [], [], [], [], [1439], [], []], [[], [], [], [], [], [], [], [], [], [], [], [], [], [], [], [], [], [1255]], [[], [], [], [], [], [1481], [], [], [], [], [], [], [], [1255], [], [], [], [], []], [[], [], [1259], [], [], [], [], [], [], [], [], [], [], [], [], [], [], [], [], [1439]], [[], [], [], [1259], [], [], [], [], [], [], [1482], [], [], [1483], [], [], []], [[], [], [], []]]
set_option maxRecDepth 100000 in
theorem z_ok_189 : z_okM z_m189 = true := z_okM_of z_ix189 (by decide +kernel) (by decide +kernel)
