-- CONSTRUCTORS: the stores as they are made
def k_S0 : zS := (fun _ _ => 0, fun _ _ => 0, fun _ _ => none)
theorem k_new0 (σ : zS) : z_new1 0 σ = k_S0 := by
  unfold z_new1 k_S0
  refine Prod.ext ?_ (Prod.ext ?_ ?_)
  · funext a j; exact if_pos (e := σ.1 a j) (Nat.zero_le a)
  · funext a j; exact if_pos (e := σ.2.1 a j) (Nat.zero_le a)
  · funext a j; exact if_pos (e := σ.2.2 a j) (Nat.zero_le a)
def k_S1 : zS := z_new1 1 k_S0
def k_S2 : zS := z_sI k_S1 1 1 0
def k_S3 : zS := z_newM 2 k_S2 30
def k_S4 : zS := z_sR k_S3 1 0 (some 2)
set_option maxRecDepth 20000 in
theorem k_c6_1 (E : zE) (d : Nat) : z_cl E (d + 1) 6 [.ref 1, .int 30] (2, k_S1) = some (none, 33, k_S4) := by
  refine z_call (d := d) (M := z_m6) rfl rfl ?_
  exact z_evG 13 (y := some (.inr (none, 33, k_S4))) (fun _ => rfl) (z_evR rfl)
def k_S5 : zS := z_sR k_S4 0 0 (some 1)
def k_S6 : zS := z_new1 33 k_S5
def k_S7 : zS := z_new1 34 k_S6
def k_S8 : zS := z_sR k_S7 33 0 (some 34)
def k_S9 : zS := z_new1 35 k_S8
def k_S10 : zS := z_sR k_S9 33 1 (some 35)
def k_S11 : zS := z_new1 36 k_S10
def k_S12 : zS := z_sR k_S11 33 2 (some 36)
def k_S13 : zS := z_sI k_S12 33 3 0
set_option maxRecDepth 20000 in
theorem k_c0_33 (E : zE) (d : Nat) : z_cl E (d + 1) 0 [.ref 33] (34, k_S6) = some (none, 37, k_S13) := by
  refine z_call (d := d) (M := z_m0) rfl rfl ?_
  exact z_evG 18 (y := some (.inr (none, 37, k_S13))) (fun _ => rfl) (z_evR rfl)
def k_S14 : zS := z_sR k_S13 0 1 (some 33)
def k_S15 : zS := z_new1 37 k_S14
def k_S16 : zS := z_new1 38 k_S15
def k_S17 : zS := z_sR k_S16 37 2 (some 38)
def k_S18 : zS := z_new1 39 k_S17
def k_S19 : zS := z_sR k_S18 37 3 (some 39)
def k_S20 : zS := z_new1 40 k_S19
def k_S21 : zS := z_sR k_S20 37 4 (some 40)
def k_S22 : zS := z_new1 41 k_S21
def k_S23 : zS := z_sR k_S22 37 5 (some 41)
def k_S24 : zS := z_new1 42 k_S23
def k_S25 : zS := z_sR k_S24 37 6 (some 42)
def k_S26 : zS := z_sI k_S25 37 7 0
def k_S27 : zS := z_sR k_S26 37 0 (some 1)
def k_S28 : zS := z_sR k_S27 37 1 (some 33)
set_option maxRecDepth 20000 in
theorem k_c104_37 (E : zE) (d : Nat) : z_cl E (d + 1) 104 [.ref 37, .ref 1, .ref 33] (38, k_S15) = some (none, 43, k_S28) := by
  refine z_call (d := d) (M := z_m104) rfl rfl ?_
  refine z_evG 24 (y := z_go 46 [some (.ref 37), some (.ref 1), some (.ref 33)] [.int 0, .ref 37] 43 k_S25) (fun _ => rfl) ?_
  refine z_evL ?_
  exact z_evG 8 (y := some (.inr (none, 43, k_S28))) (fun _ => rfl) (z_evR rfl)
def k_S29 : zS := z_sR k_S28 0 2 (some 37)
def k_S30 : zS := z_new1 43 k_S29
def k_S31 : zS := z_sI k_S30 43 1 0
def k_S32 : zS := z_newM 44 k_S31 20
def k_S33 : zS := z_sR k_S32 43 0 (some 44)
set_option maxRecDepth 20000 in
theorem k_c6_43 (E : zE) (d : Nat) : z_cl E (d + 1) 6 [.ref 43, .int 20] (44, k_S30) = some (none, 65, k_S33) := by
  refine z_call (d := d) (M := z_m6) rfl rfl ?_
  exact z_evG 13 (y := some (.inr (none, 65, k_S33))) (fun _ => rfl) (z_evR rfl)
def k_S34 : zS := z_sR k_S33 0 3 (some 43)
def k_S35 : zS := z_new1 65 k_S34
def k_S36 : zS := z_newM 66 k_S35 8
def k_S37 : zS := z_sR k_S36 65 1 (some 66)
def k_S38 : zS := z_new1 75 k_S37
def k_S39 : zS := z_sR k_S38 65 2 (some 75)
def k_S40 : zS := z_sI k_S39 65 3 0
def k_S41 : zS := z_sR k_S40 65 0 (some 1)
set_option maxRecDepth 20000 in
theorem k_c13_65 (E : zE) (d : Nat) : z_cl E (d + 1) 13 [.ref 65, .ref 1] (66, k_S35) = some (none, 76, k_S41) := by
  refine z_call (d := d) (M := z_m13) rfl rfl ?_
  exact z_evG 18 (y := some (.inr (none, 76, k_S41))) (fun _ => rfl) (z_evR rfl)
def k_S42 : zS := z_sR k_S41 0 4 (some 65)
def k_S43 : zS := z_new1 76 k_S42
def k_S44 : zS := z_new1 77 k_S43
def k_S45 : zS := z_sR k_S44 76 0 (some 77)
def k_S46 : zS := z_sI k_S45 76 1 0
def k_S47 : zS := z_sI k_S46 76 2 0
def k_S48 : zS := z_sI k_S47 76 3 0
def k_S49 : zS := z_sI k_S48 76 4 0
def k_S50 : zS := z_sI k_S49 76 5 0
def k_S51 : zS := z_new1 78 k_S50
def k_S52 : zS := z_sR k_S51 76 6 (some 78)
def k_S53 : zS := z_sI k_S52 76 7 0
def k_S54 : zS := z_sI k_S53 76 8 0
set_option maxRecDepth 20000 in
theorem k_c54_76 (E : zE) (d : Nat) : z_cl E (d + 1) 54 [.ref 76] (77, k_S43) = some (none, 79, k_S54) := by
  refine z_call (d := d) (M := z_m54) rfl rfl ?_
  refine z_evG 24 (y := z_go 44 [some (.ref 76)] [.ref 78, .ref 76] 79 k_S51) (fun _ => rfl) ?_
  refine z_evL ?_
  exact z_evG 8 (y := some (.inr (none, 79, k_S54))) (fun _ => rfl) (z_evR rfl)
def k_S55 : zS := z_sR k_S54 0 5 (some 76)
def k_S56 : zS := z_new1 79 k_S55
def k_S57 : zS := z_newM 80 k_S56 6
def k_S58 : zS := z_sR k_S57 79 1 (some 80)
def k_S59 : zS := z_new1 87 k_S58
def k_S60 : zS := z_sR k_S59 79 2 (some 87)
def k_S61 : zS := z_new1 88 k_S60
def k_S62 : zS := z_sR k_S61 79 3 (some 88)
def k_S63 : zS := z_new1 89 k_S62
def k_S64 : zS := z_sR k_S63 79 4 (some 89)
def k_S65 : zS := z_new1 90 k_S64
def k_S66 : zS := z_sR k_S65 79 5 (some 90)
def k_S67 : zS := z_sI k_S66 79 6 1
def k_S68 : zS := z_sI k_S67 79 7 0
def k_S69 : zS := z_sR k_S68 79 0 (some 65)
def k_S70 : zS := (z_ur k_S69.1 81 (va_cpy z_first (k_S69.1 81) 0 0 6), k_S69.2.1, k_S69.2.2)
def k_S71 : zS := z_sI k_S70 87 0 1
def k_S72 : zS := z_sI k_S71 88 0 6
set_option maxRecDepth 20000 in
theorem k_c80_79 (E : zE) (d : Nat) : z_cl E (d + 1) 80 [.ref 79, .ref 65] (80, k_S56) = some (none, 91, k_S72) := by
  refine z_call (d := d) (M := z_m80) rfl rfl ?_
  refine z_evG 24 (y := z_go 51 [some (.ref 79), some (.ref 65)] [.ref 79] 91 k_S66) (fun _ => rfl) ?_
  refine z_evL ?_
  refine z_evG 24 (y := z_go 91 [some (.ref 79), some (.ref 65)] [.ref 79] 91 k_S71) (fun _ => rfl) ?_
  refine z_evL ?_
  exact z_evG 6 (y := some (.inr (none, 91, k_S72))) (fun _ => rfl) (z_evR rfl)
def k_S73 : zS := z_sR k_S72 0 6 (some 79)
def k_S74 : zS := z_new1 91 k_S73
def k_S75 : zS := z_sI k_S74 91 3 0
def k_S76 : zS := z_sI k_S75 91 4 0
def k_S77 : zS := z_new1 92 k_S76
def k_S78 : zS := z_sR k_S77 91 5 (some 92)
def k_S79 : zS := z_sI k_S78 91 6 0
def k_S80 : zS := z_sI k_S79 91 7 0
def k_S81 : zS := z_new1 93 k_S80
def k_S82 : zS := z_sR k_S81 91 8 (some 93)
def k_S83 : zS := z_new1 94 k_S82
def k_S84 : zS := z_sR k_S83 91 9 (some 94)
def k_S85 : zS := z_new1 95 k_S84
def k_S86 : zS := z_sR k_S85 91 10 (some 95)
def k_S87 : zS := z_new1 96 k_S86
def k_S88 : zS := z_sR k_S87 91 11 (some 96)
def k_S89 : zS := z_newM 97 k_S88 6
def k_S90 : zS := z_sR k_S89 91 12 (some 97)
def k_S91 : zS := z_new1 104 k_S90
def k_S92 : zS := z_sR k_S91 91 13 (some 104)
def k_S93 : zS := z_new1 105 k_S92
def k_S94 : zS := z_sR k_S93 91 14 (some 105)
def k_S95 : zS := z_sI k_S94 91 15 0
def k_S96 : zS := z_sR k_S95 91 0 (some 79)
def k_S97 : zS := z_sR k_S96 91 1 (some 37)
def k_S98 : zS := z_sR k_S97 91 2 (some 43)
set_option maxRecDepth 20000 in
theorem k_c36_91 (E : zE) (d : Nat) : z_cl E (d + 1) 36 [.ref 91, .ref 79, .ref 37, .ref 43] (92, k_S74) = some (none, 106, k_S98) := by
  refine z_call (d := d) (M := z_m36) rfl rfl ?_
  refine z_evG 24 (y := z_go 41 [some (.ref 91), some (.ref 79), some (.ref 37), some (.ref 43)] [.int 3, .ref 91] 94 k_S82) (fun _ => rfl) ?_
  refine z_evL ?_
  refine z_evG 24 (y := z_go 88 [some (.ref 91), some (.ref 79), some (.ref 37), some (.ref 43)] [.ref 91] 106 k_S94) (fun _ => rfl) ?_
  refine z_evL ?_
  exact z_evG 12 (y := some (.inr (none, 106, k_S98))) (fun _ => rfl) (z_evR rfl)
def k_S99 : zS := z_sR k_S98 0 7 (some 91)
def k_S100 : zS := z_new1 106 k_S99
def k_S101 : zS := z_new1 107 k_S100
def k_S102 : zS := z_sR k_S101 106 2 (some 107)
def k_S103 : zS := z_new1 108 k_S102
def k_S104 : zS := z_sR k_S103 106 3 (some 108)
def k_S105 : zS := z_new1 109 k_S104
def k_S106 : zS := z_sR k_S105 106 4 (some 109)
def k_S107 : zS := z_sI k_S106 106 5 0
def k_S108 : zS := z_sI k_S107 106 6 0
def k_S109 : zS := z_sR k_S108 106 0 (some 65)
def k_S110 : zS := z_sR k_S109 106 1 (some 43)
set_option maxRecDepth 20000 in
theorem k_c46_106 (E : zE) (d : Nat) : z_cl E (d + 1) 46 [.ref 106, .ref 65, .ref 43] (107, k_S100) = some (none, 110, k_S110) := by
  refine z_call (d := d) (M := z_m46) rfl rfl ?_
  refine z_evG 24 (y := z_go 44 [some (.ref 106), some (.ref 65), some (.ref 43)] [.ref 106] 110 k_S109) (fun _ => rfl) ?_
  refine z_evL ?_
  exact z_evG 3 (y := some (.inr (none, 110, k_S110))) (fun _ => rfl) (z_evR rfl)
def k_S111 : zS := z_sR k_S110 0 8 (some 106)
def k_S112 : zS := z_new1 110 k_S111
def k_S113 : zS := z_new1 111 k_S112
def k_S114 : zS := z_sR k_S113 110 0 (some 111)
def k_S115 : zS := z_sJ k_S114 110 1 0
def k_S116 : zS := z_sI k_S115 110 2 0
def k_S117 : zS := z_new1 112 k_S116
def k_S118 : zS := z_sR k_S117 110 3 (some 112)
def k_S119 : zS := z_new1 113 k_S118
def k_S120 : zS := z_sR k_S119 110 4 (some 113)
def k_S121 : zS := z_new1 114 k_S120
def k_S122 : zS := z_sR k_S121 110 5 (some 114)
def k_S123 : zS := z_new1 115 k_S122
def k_S124 : zS := z_sR k_S123 110 6 (some 115)
def k_S125 : zS := z_new1 116 k_S124
def k_S126 : zS := z_sR k_S125 110 7 (some 116)
def k_S127 : zS := z_sI k_S126 110 8 0
def k_S128 : zS := z_sI k_S127 110 9 0
set_option maxRecDepth 20000 in
theorem k_c24_110 (E : zE) (d : Nat) : z_cl E (d + 1) 24 [.ref 110] (111, k_S112) = some (none, 117, k_S128) := by
  refine z_call (d := d) (M := z_m24) rfl rfl ?_
  refine z_evG 24 (y := z_go 49 [some (.ref 110)] [] 115 k_S122) (fun _ => rfl) ?_
  refine z_evL ?_
  exact z_evG 15 (y := some (.inr (none, 117, k_S128))) (fun _ => rfl) (z_evR rfl)
def k_S129 : zS := z_sR k_S128 0 9 (some 110)
def k_S130 : zS := z_new1 117 k_S129
def k_S131 : zS := z_newM 118 k_S130 4
def k_S132 : zS := z_sR k_S131 117 0 (some 118)
def k_S133 : zS := z_new1 123 k_S132
def k_S134 : zS := z_sI k_S133 123 0 (-1)
def k_S135 : zS := z_sI k_S134 123 1 (-1)
def k_S136 : zS := z_sI k_S135 123 2 (-1)
def k_S137 : zS := z_sI k_S136 123 3 (-1)
def k_S138 : zS := z_sR k_S137 117 1 (some 123)
def k_S139 : zS := z_new1 124 k_S138
def k_S140 : zS := z_sR k_S139 117 2 (some 124)
set_option maxRecDepth 20000 in
theorem k_c94_117 (E : zE) (d : Nat) : z_cl E (d + 1) 94 [.ref 117] (118, k_S130) = some (none, 125, k_S140) := by
  refine z_call (d := d) (M := z_m94) rfl rfl ?_
  refine z_evG 24 (y := z_go 33 [some (.ref 117)] [.int 3, .ref 123, .ref 123, .ref 117] 124 k_S136) (fun _ => rfl) ?_
  refine z_evL ?_
  exact z_evG 8 (y := some (.inr (none, 125, k_S140))) (fun _ => rfl) (z_evR rfl)
def k_S141 : zS := z_sR k_S140 0 10 (some 117)
def k_S142 : zS := z_new1 125 k_S141
def k_S143 : zS := z_sR k_S142 0 11 (some 125)
def k_S144 : zS := z_new1 126 k_S143
def k_S145 : zS := z_sR k_S144 0 12 (some 126)
def k_S146 : zS := z_sI k_S145 0 13 0
set_option maxRecDepth 20000 in
theorem k_c127_0 (E : zE) (d : Nat) : z_cl E (d + 2) 127 [.ref 0] (1, k_S0) = some (none, 127, k_S146) := by
  refine z_call (d := d + 1) (M := z_m127) rfl rfl ?_
  refine z_evG 7 (y := z_ret (z_cl E (d + 1) 6 [.ref 1, .int 30] (2, k_S1)) 14 [some (.ref 0)] [.ref 1, .ref 0]) (fun _ => rfl) ?_
  refine z_evV (z' := 33) (σ' := k_S4) (k_c6_1 E d) ?_
  refine z_evG 5 (y := z_ret (z_cl E (d + 1) 0 [.ref 33] (34, k_S6)) 25 [some (.ref 0)] [.ref 33, .ref 0]) (fun _ => rfl) ?_
  refine z_evV (z' := 37) (σ' := k_S13) (k_c0_33 E d) ?_
  refine z_evG 9 (y := z_ret (z_cl E (d + 1) 104 [.ref 37, .ref 1, .ref 33] (38, k_S15)) 44 [some (.ref 0)] [.ref 37, .ref 0]) (fun _ => rfl) ?_
  refine z_evV (z' := 43) (σ' := k_S28) (k_c104_37 E d) ?_
  refine z_evG 6 (y := z_ret (z_cl E (d + 1) 6 [.ref 43, .int 20] (44, k_S30)) 57 [some (.ref 0)] [.ref 43, .ref 0]) (fun _ => rfl) ?_
  refine z_evV (z' := 65) (σ' := k_S33) (k_c6_43 E d) ?_
  refine z_evG 7 (y := z_ret (z_cl E (d + 1) 13 [.ref 65, .ref 1] (66, k_S35)) 72 [some (.ref 0)] [.ref 65, .ref 0]) (fun _ => rfl) ?_
  refine z_evV (z' := 76) (σ' := k_S41) (k_c13_65 E d) ?_
  refine z_evG 5 (y := z_ret (z_cl E (d + 1) 54 [.ref 76] (77, k_S43)) 83 [some (.ref 0)] [.ref 76, .ref 0]) (fun _ => rfl) ?_
  refine z_evV (z' := 79) (σ' := k_S54) (k_c54_76 E d) ?_
  refine z_evG 7 (y := z_ret (z_cl E (d + 1) 80 [.ref 79, .ref 65] (80, k_S56)) 98 [some (.ref 0)] [.ref 79, .ref 0]) (fun _ => rfl) ?_
  refine z_evV (z' := 91) (σ' := k_S72) (k_c80_79 E d) ?_
  refine z_evG 11 (y := z_ret (z_cl E (d + 1) 36 [.ref 91, .ref 79, .ref 37, .ref 43] (92, k_S74)) 121 [some (.ref 0)] [.ref 91, .ref 0]) (fun _ => rfl) ?_
  refine z_evV (z' := 106) (σ' := k_S98) (k_c36_91 E d) ?_
  refine z_evG 9 (y := z_ret (z_cl E (d + 1) 46 [.ref 106, .ref 65, .ref 43] (107, k_S100)) 140 [some (.ref 0)] [.ref 106, .ref 0]) (fun _ => rfl) ?_
  refine z_evV (z' := 110) (σ' := k_S110) (k_c46_106 E d) ?_
  refine z_evG 5 (y := z_ret (z_cl E (d + 1) 24 [.ref 110] (111, k_S112)) 151 [some (.ref 0)] [.ref 110, .ref 0]) (fun _ => rfl) ?_
  refine z_evV (z' := 117) (σ' := k_S128) (k_c24_110 E d) ?_
  refine z_evG 5 (y := z_ret (z_cl E (d + 1) 94 [.ref 117] (118, k_S130)) 162 [some (.ref 0)] [.ref 117, .ref 0]) (fun _ => rfl) ?_
  refine z_evV (z' := 125) (σ' := k_S140) (k_c94_117 E d) ?_
  exact z_evG 13 (y := some (.inr (none, 127, k_S146))) (fun _ => rfl) (z_evR rfl)
def k_S147 : zS := z_new1 127 k_S146
def k_S148 : zS := z_new1 128 k_S147
def k_S149 : zS := z_sR k_S148 127 2 (some 128)
def k_S150 : zS := z_new1 129 k_S149
def k_S151 : zS := z_sR k_S150 127 4 (some 129)
def k_S152 : zS := z_new1 130 k_S151
def k_S153 : zS := z_sR k_S152 127 5 (some 130)
def k_S154 : zS := z_new1 131 k_S153
def k_S155 : zS := z_sR k_S154 127 6 (some 131)
def k_S156 : zS := z_new1 132 k_S155
def k_S157 : zS := z_sR k_S156 127 7 (some 132)
def k_S158 : zS := z_new1 133 k_S157
def k_S159 : zS := z_sR k_S158 127 8 (some 133)
def k_S160 : zS := z_new1 134 k_S159
def k_S161 : zS := z_sR k_S160 127 10 (some 134)
def k_S162 : zS := z_new1 135 k_S161
def k_S163 : zS := z_sR k_S162 127 12 (some 135)
def k_S164 : zS := z_new1 136 k_S163
def k_S165 : zS := z_sR k_S164 127 13 (some 136)
def k_S166 : zS := z_new1 137 k_S165
def k_S167 : zS := z_sR k_S166 127 14 (some 137)
def k_S168 : zS := z_sI k_S167 127 16 1
def k_S169 : zS := z_new1 138 k_S168
def k_S170 : zS := z_sI k_S169 138 0 108
def k_S171 : zS := z_sI k_S170 138 1 105
def k_S172 : zS := z_sI k_S171 138 2 107
def k_S173 : zS := z_sI k_S172 138 3 101
def k_S174 : zS := z_sI k_S173 138 4 32
def k_S175 : zS := z_sI k_S174 138 5 115
def k_S176 : zS := z_sI k_S175 138 6 117
def k_S177 : zS := z_sI k_S176 138 7 109
def k_S178 : zS := z_sI k_S177 138 8 59
def k_S179 : zS := z_sI k_S178 138 9 116
def k_S180 : zS := z_sI k_S179 138 10 114
def k_S181 : zS := z_sI k_S180 138 11 117
def k_S182 : zS := z_sI k_S181 138 12 101
def k_S183 : zS := z_sI k_S182 138 13 32
def k_S184 : zS := z_sI k_S183 138 14 97
def k_S185 : zS := z_sI k_S184 138 15 43
def k_S186 : zS := z_sI k_S185 138 16 98
def k_S187 : zS := z_sI k_S186 138 17 43
def k_S188 : zS := z_sI k_S187 138 18 99
def k_S189 : zS := z_sI k_S188 138 19 59
def k_S190 : zS := z_sR k_S189 127 17 (some 138)
def k_S191 : zS := z_new1 139 k_S190
def k_S192 : zS := z_sR k_S191 127 18 (some 139)
def k_S193 : zS := z_new1 140 k_S192
def k_S194 : zS := z_sI k_S193 140 0 20
def k_S195 : zS := z_sI k_S194 140 1 0
def k_S196 : zS := z_sI k_S195 140 2 0
def k_S197 : zS := z_sI k_S196 140 3 0
def k_S198 : zS := z_sI k_S197 140 4 0
def k_S199 : zS := z_sI k_S198 140 5 0
def k_S200 : zS := z_sR k_S199 127 19 (some 140)
def k_S201 : zS := z_new1 141 k_S200
def k_S202 : zS := z_sR k_S201 127 29 (some 141)
def k_S203 : zS := z_new1 142 k_S202
def k_S204 : zS := z_sR k_S203 127 30 (some 142)
def k_S205 : zS := z_new1 143 k_S204
def k_S206 : zS := z_sR k_S205 127 32 (some 143)
def k_S207 : zS := z_new1 144 k_S206
def k_S208 : zS := z_sR k_S207 127 38 (some 144)
def k_S209 : zS := z_new1 145 k_S208
def k_S210 : zS := z_sR k_S209 127 39 (some 145)
def k_S211 : zS := z_new1 146 k_S210
def k_S212 : zS := z_sR k_S211 127 40 (some 146)
def k_S213 : zS := z_new1 147 k_S212
def k_S214 : zS := z_sR k_S213 127 41 (some 147)
def k_S215 : zS := z_new1 148 k_S214
def k_S216 : zS := z_sR k_S215 127 42 (some 148)
def k_S217 : zS := z_new1 149 k_S216
def k_S218 : zS := z_sR k_S217 127 44 (some 149)
def k_S219 : zS := z_new1 150 k_S218
def k_S220 : zS := z_sR k_S219 127 45 (some 150)
def k_S221 : zS := z_new1 151 k_S220
def k_S222 : zS := z_sR k_S221 127 46 (some 151)
def k_S223 : zS := z_new1 152 k_S222
def k_S224 : zS := z_sR k_S223 127 48 (some 152)
def k_S225 : zS := z_new1 153 k_S224
def k_S226 : zS := z_sR k_S225 127 49 (some 153)
def k_S227 : zS := z_new1 154 k_S226
def k_S228 : zS := z_sR k_S227 127 50 (some 154)
def k_S229 : zS := z_new1 155 k_S228
def k_S230 : zS := z_sR k_S229 127 52 (some 155)
def k_S231 : zS := z_new1 156 k_S230
def k_S232 : zS := z_sR k_S231 127 53 (some 156)
def k_S233 : zS := z_new1 157 k_S232
def k_S234 : zS := z_sI k_S233 157 0 (-1)
def k_S235 : zS := z_sI k_S234 157 1 (-1)
def k_S236 : zS := z_sI k_S235 157 2 (-1)
def k_S237 : zS := z_sI k_S236 157 3 (-1)
def k_S238 : zS := z_sR k_S237 127 54 (some 157)
def k_S239 : zS := z_new1 158 k_S238
def k_S240 : zS := z_sR k_S239 127 55 (some 158)
def k_S241 : zS := z_new1 159 k_S240
def k_S242 : zS := z_sR k_S241 127 56 (some 159)
def k_S243 : zS := z_new1 160 k_S242
def k_S244 : zS := z_sR k_S243 127 57 (some 160)
set_option maxRecDepth 20000 in
theorem k_c177_127 (E : zE) (d : Nat) : z_cl E (d + 1) 177 [.ref 127] (128, k_S147) = some (none, 161, k_S244) := by
  refine z_call (d := d) (M := z_m177) rfl rfl ?_
  refine z_evG 24 (y := z_go 48 [some (.ref 127)] [.int 20, .ref 127] 133 k_S157) (fun _ => rfl) ?_
  refine z_evL ?_
  refine z_evG 24 (y := z_go 97 [some (.ref 127)] [.ref 138, .ref 127] 139 k_S169) (fun _ => rfl) ?_
  refine z_evL ?_
  refine z_evG 24 (y := z_go 127 [some (.ref 127)] [.ref 138, .ref 127] 139 k_S175) (fun _ => rfl) ?_
  refine z_evL ?_
  refine z_evG 24 (y := z_go 163 [some (.ref 127)] [.ref 138, .ref 127] 139 k_S181) (fun _ => rfl) ?_
  refine z_evL ?_
  refine z_evG 24 (y := z_go 199 [some (.ref 127)] [.ref 138, .ref 127] 139 k_S187) (fun _ => rfl) ?_
  refine z_evL ?_
  refine z_evG 24 (y := z_go 237 [some (.ref 127)] [.ref 140, .ref 127] 141 k_S195) (fun _ => rfl) ?_
  refine z_evL ?_
  refine z_evG 24 (y := z_go 270 [some (.ref 127)] [.ref 142, .ref 127] 143 k_S203) (fun _ => rfl) ?_
  refine z_evL ?_
  refine z_evG 24 (y := z_go 314 [some (.ref 127)] [.ref 148, .ref 127] 149 k_S215) (fun _ => rfl) ?_
  refine z_evL ?_
  refine z_evG 24 (y := z_go 362 [some (.ref 127)] [.ref 154, .ref 127] 155 k_S227) (fun _ => rfl) ?_
  refine z_evL ?_
  refine z_evG 24 (y := z_go 395 [some (.ref 127)] [.ref 157, .ref 127] 158 k_S236) (fun _ => rfl) ?_
  refine z_evL ?_
  exact z_evG 18 (y := some (.inr (none, 161, k_S244))) (fun _ => rfl) (z_evR rfl)
set_option maxRecDepth 20000 in
theorem k_law0 (E : zE) (d : Nat) (σ : zS) {r : zR} (hz : z_Ev E (d + 2) z_m285 18 [some (.ref 1006), some (.ref 0), some (.ref 127), some (.int 0)] [] 161 k_S244 r) : z_Ev E (d + 2) z_m285 0 [some (.ref 1006), none, none, none] [] 0 σ r := by
  refine z_evG 1 (y := z_go 3 [some (.ref 1006), none, none, none] [.ref 0] 1 (z_new1 0 σ)) (fun _ => rfl) ?_
  refine z_evL ?_
  rw [k_new0 σ]
  refine z_evG 2 (y := z_ret (z_cl E (d + 2) 127 [.ref 0] (1, k_S0)) 7 [some (.ref 1006), none, none, none] [.ref 0]) (fun _ => rfl) ?_
  refine z_evV (z' := 127) (σ' := k_S146) (k_c127_0 E d) ?_
  refine z_evG 4 (y := z_ret (z_cl E (d + 2) 177 [.ref 127] (128, k_S147)) 15 [some (.ref 1006), some (.ref 0), none, none] [.ref 127]) (fun _ => rfl) ?_
  refine z_evV (z' := 161) (σ' := k_S244) (k_c177_127 E (d + 1)) ?_
  refine z_evG 3 (y := z_go 18 [some (.ref 1006), some (.ref 0), some (.ref 127), some (.int 0)] [] 161 k_S244) (fun _ => rfl) ?_
  exact z_evL hz
def k_end : zS := k_S244
