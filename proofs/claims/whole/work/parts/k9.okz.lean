theorem z_ck3_c {M : zM} {c : Nat × List (Nat × zI)} {cs : zC} {i : List (List Nat)} {is : List (List (List Nat))} (h1 : z_ck2 M c.2 i = true) (h2 : z_ck3 M cs is = true) : z_ck3 M (c :: cs) (i :: is) = true := by
  unfold z_ck3
  rw [h1, h2]
  rfl
theorem z_ok_285 : z_okM z_m285 = true := z_okM_of [z_iy0, z_iy1, z_iy2, z_iy3, z_iy4, z_iy5, z_iy6, z_iy7, z_iy8, z_iy9, z_iy10, z_iy11, z_iy12, z_iy13, z_iy14, z_iy15, z_iy16, z_iy17, z_iy18, z_iy19, z_iy20, z_iy21, z_iy22, z_iy23, z_iy24, z_iy25, z_iy26, z_iy27, z_iy28, z_iy29, z_iy30, z_iy31, z_iy32, z_iy33, z_iy34, z_iy35, z_iy36, z_iy37, z_iy38, z_iy39, z_iy40, z_iy41, z_iy42, z_iy43, z_iy44, z_iy45, z_iy46, z_iy47, z_iy48, z_iy49, z_iy50, z_iy51] (z_ck3_c z_okl_0 (z_ck3_c z_okl_1 (z_ck3_c z_okl_2 (z_ck3_c z_okl_3 (z_ck3_c z_okl_4 (z_ck3_c z_okl_5 (z_ck3_c z_okl_6 (z_ck3_c z_okl_7 (z_ck3_c z_okl_8 (z_ck3_c z_okl_9 (z_ck3_c z_okl_10 (z_ck3_c z_okl_11 (z_ck3_c z_okl_12 (z_ck3_c z_okl_13 (z_ck3_c z_okl_14 (z_ck3_c z_okl_15 (z_ck3_c z_okl_16 (z_ck3_c z_okl_17 (z_ck3_c z_okl_18 (z_ck3_c z_okl_19 (z_ck3_c z_okl_20 (z_ck3_c z_okl_21 (z_ck3_c z_okl_22 (z_ck3_c z_okl_23 (z_ck3_c z_okl_24 (z_ck3_c z_okl_25 (z_ck3_c z_okl_26 (z_ck3_c z_okl_27 (z_ck3_c z_okl_28 (z_ck3_c z_okl_29 (z_ck3_c z_okl_30 (z_ck3_c z_okl_31 (z_ck3_c z_okl_32 (z_ck3_c z_okl_33 (z_ck3_c z_okl_34 (z_ck3_c z_okl_35 (z_ck3_c z_okl_36 (z_ck3_c z_okl_37 (z_ck3_c z_okl_38 (z_ck3_c z_okl_39 (z_ck3_c z_okl_40 (z_ck3_c z_okl_41 (z_ck3_c z_okl_42 (z_ck3_c z_okl_43 (z_ck3_c z_okl_44 (z_ck3_c z_okl_45 (z_ck3_c z_okl_46 (z_ck3_c z_okl_47 (z_ck3_c z_okl_48 (z_ck3_c z_okl_49 (z_ck3_c z_okl_50 (z_ck3_c z_okl_51 ( rfl))))))))))))))))))))))))))))))))))))))))))))))))))))) (by decide +kernel)
theorem z_okc_0 : ∀ (k : Nat) (M : zM), z_look k [(0, z_m0), (1, z_m1), (2, z_m2), (3, z_m3), (4, z_m4), (5, z_m5), (6, z_m6), (7, z_m7), (8, z_m8), (9, z_m9), (10, z_m10), (11, z_m11), (12, z_m12), (13, z_m13), (14, z_m14), (15, z_m15)] = some M → z_okM M = true := by
  intro k M h
  have h := z_look_mem h
  simp only [List.mem_cons, Prod.mk.injEq, List.not_mem_nil, or_false] at h
  rcases h with ⟨-, rfl⟩ | ⟨-, rfl⟩ | ⟨-, rfl⟩ | ⟨-, rfl⟩ | ⟨-, rfl⟩ | ⟨-, rfl⟩ | ⟨-, rfl⟩ | ⟨-, rfl⟩ | ⟨-, rfl⟩ | ⟨-, rfl⟩ | ⟨-, rfl⟩ | ⟨-, rfl⟩ | ⟨-, rfl⟩ | ⟨-, rfl⟩ | ⟨-, rfl⟩ | ⟨-, rfl⟩
  · exact z_ok_0
  · exact z_ok_1
  · exact z_ok_2
  · exact z_ok_3
  · exact z_ok_4
  · exact z_ok_5
  · exact z_ok_6
  · exact z_ok_7
  · exact z_ok_8
  · exact z_ok_9
  · exact z_ok_10
  · exact z_ok_11
  · exact z_ok_12
  · exact z_ok_13
  · exact z_ok_14
  · exact z_ok_15
theorem z_okc_1 : ∀ (k : Nat) (M : zM), z_look k [(16, z_m16), (17, z_m17), (18, z_m18), (19, z_m19), (20, z_m20), (21, z_m21), (22, z_m22), (23, z_m23), (24, z_m24), (25, z_m25), (26, z_m26), (27, z_m27), (28, z_m28), (29, z_m29), (30, z_m30), (31, z_m31)] = some M → z_okM M = true := by
  intro k M h
  have h := z_look_mem h
  simp only [List.mem_cons, Prod.mk.injEq, List.not_mem_nil, or_false] at h
  rcases h with ⟨-, rfl⟩ | ⟨-, rfl⟩ | ⟨-, rfl⟩ | ⟨-, rfl⟩ | ⟨-, rfl⟩ | ⟨-, rfl⟩ | ⟨-, rfl⟩ | ⟨-, rfl⟩ | ⟨-, rfl⟩ | ⟨-, rfl⟩ | ⟨-, rfl⟩ | ⟨-, rfl⟩ | ⟨-, rfl⟩ | ⟨-, rfl⟩ | ⟨-, rfl⟩ | ⟨-, rfl⟩
  · exact z_ok_16
  · exact z_ok_17
  · exact z_ok_18
  · exact z_ok_19
  · exact z_ok_20
  · exact z_ok_21
  · exact z_ok_22
  · exact z_ok_23
  · exact z_ok_24
  · exact z_ok_25
  · exact z_ok_26
  · exact z_ok_27
  · exact z_ok_28
  · exact z_ok_29
  · exact z_ok_30
  · exact z_ok_31
theorem z_okc_2 : ∀ (k : Nat) (M : zM), z_look k [(32, z_m32), (33, z_m33), (34, z_m34), (35, z_m35), (36, z_m36), (37, z_m37), (38, z_m38), (39, z_m39), (40, z_m40), (41, z_m41), (42, z_m42), (43, z_m43), (44, z_m44), (45, z_m45), (46, z_m46), (47, z_m47)] = some M → z_okM M = true := by
  intro k M h
  have h := z_look_mem h
  simp only [List.mem_cons, Prod.mk.injEq, List.not_mem_nil, or_false] at h
  rcases h with ⟨-, rfl⟩ | ⟨-, rfl⟩ | ⟨-, rfl⟩ | ⟨-, rfl⟩ | ⟨-, rfl⟩ | ⟨-, rfl⟩ | ⟨-, rfl⟩ | ⟨-, rfl⟩ | ⟨-, rfl⟩ | ⟨-, rfl⟩ | ⟨-, rfl⟩ | ⟨-, rfl⟩ | ⟨-, rfl⟩ | ⟨-, rfl⟩ | ⟨-, rfl⟩ | ⟨-, rfl⟩
  · exact z_ok_32
  · exact z_ok_33
  · exact z_ok_34
  · exact z_ok_35
  · exact z_ok_36
  · exact z_ok_37
  · exact z_ok_38
  · exact z_ok_39
  · exact z_ok_40
  · exact z_ok_41
  · exact z_ok_42
  · exact z_ok_43
  · exact z_ok_44
  · exact z_ok_45
  · exact z_ok_46
  · exact z_ok_47
theorem z_okc_3 : ∀ (k : Nat) (M : zM), z_look k [(48, z_m48), (49, z_m49), (50, z_m50), (51, z_m51), (52, z_m52), (53, z_m53), (54, z_m54), (55, z_m55), (56, z_m56), (57, z_m57), (58, z_m58), (59, z_m59), (60, z_m60), (61, z_m61), (62, z_m62), (63, z_m63)] = some M → z_okM M = true := by
  intro k M h
  have h := z_look_mem h
  simp only [List.mem_cons, Prod.mk.injEq, List.not_mem_nil, or_false] at h
  rcases h with ⟨-, rfl⟩ | ⟨-, rfl⟩ | ⟨-, rfl⟩ | ⟨-, rfl⟩ | ⟨-, rfl⟩ | ⟨-, rfl⟩ | ⟨-, rfl⟩ | ⟨-, rfl⟩ | ⟨-, rfl⟩ | ⟨-, rfl⟩ | ⟨-, rfl⟩ | ⟨-, rfl⟩ | ⟨-, rfl⟩ | ⟨-, rfl⟩ | ⟨-, rfl⟩ | ⟨-, rfl⟩
  · exact z_ok_48
  · exact z_ok_49
  · exact z_ok_50
  · exact z_ok_51
  · exact z_ok_52
  · exact z_ok_53
  · exact z_ok_54
  · exact z_ok_55
  · exact z_ok_56
  · exact z_ok_57
  · exact z_ok_58
  · exact z_ok_59
  · exact z_ok_60
  · exact z_ok_61
  · exact z_ok_62
  · exact z_ok_63
theorem z_okc_4 : ∀ (k : Nat) (M : zM), z_look k [(64, z_m64), (65, z_m65), (66, z_m66), (67, z_m67), (68, z_m68), (69, z_m69), (70, z_m70), (71, z_m71), (72, z_m72), (73, z_m73), (74, z_m74), (75, z_m75), (76, z_m76), (77, z_m77), (78, z_m78), (79, z_m79)] = some M → z_okM M = true := by
  intro k M h
  have h := z_look_mem h
  simp only [List.mem_cons, Prod.mk.injEq, List.not_mem_nil, or_false] at h
  rcases h with ⟨-, rfl⟩ | ⟨-, rfl⟩ | ⟨-, rfl⟩ | ⟨-, rfl⟩ | ⟨-, rfl⟩ | ⟨-, rfl⟩ | ⟨-, rfl⟩ | ⟨-, rfl⟩ | ⟨-, rfl⟩ | ⟨-, rfl⟩ | ⟨-, rfl⟩ | ⟨-, rfl⟩ | ⟨-, rfl⟩ | ⟨-, rfl⟩ | ⟨-, rfl⟩ | ⟨-, rfl⟩
  · exact z_ok_64
  · exact z_ok_65
  · exact z_ok_66
  · exact z_ok_67
  · exact z_ok_68
  · exact z_ok_69
  · exact z_ok_70
  · exact z_ok_71
  · exact z_ok_72
  · exact z_ok_73
  · exact z_ok_74
  · exact z_ok_75
  · exact z_ok_76
  · exact z_ok_77
  · exact z_ok_78
  · exact z_ok_79
theorem z_okc_5 : ∀ (k : Nat) (M : zM), z_look k [(80, z_m80), (81, z_m81), (82, z_m82), (83, z_m83), (84, z_m84), (85, z_m85), (86, z_m86), (87, z_m87), (88, z_m88), (89, z_m89), (90, z_m90), (91, z_m91), (92, z_m92), (93, z_m93), (94, z_m94), (95, z_m95)] = some M → z_okM M = true := by
  intro k M h
  have h := z_look_mem h
  simp only [List.mem_cons, Prod.mk.injEq, List.not_mem_nil, or_false] at h
  rcases h with ⟨-, rfl⟩ | ⟨-, rfl⟩ | ⟨-, rfl⟩ | ⟨-, rfl⟩ | ⟨-, rfl⟩ | ⟨-, rfl⟩ | ⟨-, rfl⟩ | ⟨-, rfl⟩ | ⟨-, rfl⟩ | ⟨-, rfl⟩ | ⟨-, rfl⟩ | ⟨-, rfl⟩ | ⟨-, rfl⟩ | ⟨-, rfl⟩ | ⟨-, rfl⟩ | ⟨-, rfl⟩
  · exact z_ok_80
  · exact z_ok_81
  · exact z_ok_82
  · exact z_ok_83
  · exact z_ok_84
  · exact z_ok_85
  · exact z_ok_86
  · exact z_ok_87
  · exact z_ok_88
  · exact z_ok_89
  · exact z_ok_90
  · exact z_ok_91
  · exact z_ok_92
  · exact z_ok_93
  · exact z_ok_94
  · exact z_ok_95
theorem z_okc_6 : ∀ (k : Nat) (M : zM), z_look k [(96, z_m96), (97, z_m97), (98, z_m98), (99, z_m99), (100, z_m100), (101, z_m101), (102, z_m102), (103, z_m103), (104, z_m104), (105, z_m105), (106, z_m106), (107, z_m107), (108, z_m108), (109, z_m109), (110, z_m110), (111, z_m111)] = some M → z_okM M = true := by
  intro k M h
  have h := z_look_mem h
  simp only [List.mem_cons, Prod.mk.injEq, List.not_mem_nil, or_false] at h
  rcases h with ⟨-, rfl⟩ | ⟨-, rfl⟩ | ⟨-, rfl⟩ | ⟨-, rfl⟩ | ⟨-, rfl⟩ | ⟨-, rfl⟩ | ⟨-, rfl⟩ | ⟨-, rfl⟩ | ⟨-, rfl⟩ | ⟨-, rfl⟩ | ⟨-, rfl⟩ | ⟨-, rfl⟩ | ⟨-, rfl⟩ | ⟨-, rfl⟩ | ⟨-, rfl⟩ | ⟨-, rfl⟩
  · exact z_ok_96
  · exact z_ok_97
  · exact z_ok_98
  · exact z_ok_99
  · exact z_ok_100
  · exact z_ok_101
  · exact z_ok_102
  · exact z_ok_103
  · exact z_ok_104
  · exact z_ok_105
  · exact z_ok_106
  · exact z_ok_107
  · exact z_ok_108
  · exact z_ok_109
  · exact z_ok_110
  · exact z_ok_111
theorem z_okc_7 : ∀ (k : Nat) (M : zM), z_look k [(112, z_m112), (113, z_m113), (114, z_m114), (115, z_m115), (116, z_m116), (117, z_m117), (118, z_m118), (119, z_m119), (120, z_m120), (121, z_m121), (122, z_m122), (123, z_m123), (124, z_m124), (125, z_m125), (126, z_m126), (127, z_m127)] = some M → z_okM M = true := by
  intro k M h
  have h := z_look_mem h
  simp only [List.mem_cons, Prod.mk.injEq, List.not_mem_nil, or_false] at h
  rcases h with ⟨-, rfl⟩ | ⟨-, rfl⟩ | ⟨-, rfl⟩ | ⟨-, rfl⟩ | ⟨-, rfl⟩ | ⟨-, rfl⟩ | ⟨-, rfl⟩ | ⟨-, rfl⟩ | ⟨-, rfl⟩ | ⟨-, rfl⟩ | ⟨-, rfl⟩ | ⟨-, rfl⟩ | ⟨-, rfl⟩ | ⟨-, rfl⟩ | ⟨-, rfl⟩ | ⟨-, rfl⟩
  · exact z_ok_112
  · exact z_ok_113
  · exact z_ok_114
  · exact z_ok_115
  · exact z_ok_116
  · exact z_ok_117
  · exact z_ok_118
  · exact z_ok_119
  · exact z_ok_120
  · exact z_ok_121
  · exact z_ok_122
  · exact z_ok_123
  · exact z_ok_124
  · exact z_ok_125
  · exact z_ok_126
  · exact z_ok_127
theorem z_okc_8 : ∀ (k : Nat) (M : zM), z_look k [(128, z_m128), (129, z_m129), (130, z_m130), (131, z_m131), (132, z_m132), (133, z_m133), (134, z_m134), (135, z_m135), (136, z_m136), (137, z_m137), (138, z_m138), (139, z_m139), (140, z_m140), (141, z_m141), (142, z_m142), (143, z_m143)] = some M → z_okM M = true := by
  intro k M h
  have h := z_look_mem h
  simp only [List.mem_cons, Prod.mk.injEq, List.not_mem_nil, or_false] at h
  rcases h with ⟨-, rfl⟩ | ⟨-, rfl⟩ | ⟨-, rfl⟩ | ⟨-, rfl⟩ | ⟨-, rfl⟩ | ⟨-, rfl⟩ | ⟨-, rfl⟩ | ⟨-, rfl⟩ | ⟨-, rfl⟩ | ⟨-, rfl⟩ | ⟨-, rfl⟩ | ⟨-, rfl⟩ | ⟨-, rfl⟩ | ⟨-, rfl⟩ | ⟨-, rfl⟩ | ⟨-, rfl⟩
  · exact z_ok_128
  · exact z_ok_129
  · exact z_ok_130
  · exact z_ok_131
  · exact z_ok_132
  · exact z_ok_133
  · exact z_ok_134
  · exact z_ok_135
  · exact z_ok_136
  · exact z_ok_137
  · exact z_ok_138
  · exact z_ok_139
  · exact z_ok_140
  · exact z_ok_141
  · exact z_ok_142
  · exact z_ok_143
theorem z_okc_9 : ∀ (k : Nat) (M : zM), z_look k [(144, z_m144), (145, z_m145), (146, z_m146), (147, z_m147), (148, z_m148), (149, z_m149), (150, z_m150), (151, z_m151), (152, z_m152), (153, z_m153), (154, z_m154), (155, z_m155), (156, z_m156), (157, z_m157), (158, z_m158), (159, z_m159)] = some M → z_okM M = true := by
  intro k M h
  have h := z_look_mem h
  simp only [List.mem_cons, Prod.mk.injEq, List.not_mem_nil, or_false] at h
  rcases h with ⟨-, rfl⟩ | ⟨-, rfl⟩ | ⟨-, rfl⟩ | ⟨-, rfl⟩ | ⟨-, rfl⟩ | ⟨-, rfl⟩ | ⟨-, rfl⟩ | ⟨-, rfl⟩ | ⟨-, rfl⟩ | ⟨-, rfl⟩ | ⟨-, rfl⟩ | ⟨-, rfl⟩ | ⟨-, rfl⟩ | ⟨-, rfl⟩ | ⟨-, rfl⟩ | ⟨-, rfl⟩
  · exact z_ok_144
  · exact z_ok_145
  · exact z_ok_146
  · exact z_ok_147
  · exact z_ok_148
  · exact z_ok_149
  · exact z_ok_150
  · exact z_ok_151
  · exact z_ok_152
  · exact z_ok_153
  · exact z_ok_154
  · exact z_ok_155
  · exact z_ok_156
  · exact z_ok_157
  · exact z_ok_158
  · exact z_ok_159
theorem z_okc_10 : ∀ (k : Nat) (M : zM), z_look k [(160, z_m160), (161, z_m161), (162, z_m162), (163, z_m163), (164, z_m164), (165, z_m165), (166, z_m166), (167, z_m167), (168, z_m168), (169, z_m169), (170, z_m170), (171, z_m171), (172, z_m172), (173, z_m173), (174, z_m174), (175, z_m175)] = some M → z_okM M = true := by
  intro k M h
  have h := z_look_mem h
  simp only [List.mem_cons, Prod.mk.injEq, List.not_mem_nil, or_false] at h
  rcases h with ⟨-, rfl⟩ | ⟨-, rfl⟩ | ⟨-, rfl⟩ | ⟨-, rfl⟩ | ⟨-, rfl⟩ | ⟨-, rfl⟩ | ⟨-, rfl⟩ | ⟨-, rfl⟩ | ⟨-, rfl⟩ | ⟨-, rfl⟩ | ⟨-, rfl⟩ | ⟨-, rfl⟩ | ⟨-, rfl⟩ | ⟨-, rfl⟩ | ⟨-, rfl⟩ | ⟨-, rfl⟩
  · exact z_ok_160
  · exact z_ok_161
  · exact z_ok_162
  · exact z_ok_163
  · exact z_ok_164
  · exact z_ok_165
  · exact z_ok_166
  · exact z_ok_167
  · exact z_ok_168
  · exact z_ok_169
  · exact z_ok_170
  · exact z_ok_171
  · exact z_ok_172
  · exact z_ok_173
  · exact z_ok_174
  · exact z_ok_175
theorem z_okc_11 : ∀ (k : Nat) (M : zM), z_look k [(176, z_m176), (177, z_m177), (178, z_m178), (179, z_m179), (180, z_m180), (181, z_m181), (182, z_m182), (183, z_m183), (184, z_m184), (185, z_m185), (186, z_m186), (187, z_m187), (188, z_m188), (189, z_m189), (190, z_m190), (191, z_m191)] = some M → z_okM M = true := by
  intro k M h
  have h := z_look_mem h
  simp only [List.mem_cons, Prod.mk.injEq, List.not_mem_nil, or_false] at h
  rcases h with ⟨-, rfl⟩ | ⟨-, rfl⟩ | ⟨-, rfl⟩ | ⟨-, rfl⟩ | ⟨-, rfl⟩ | ⟨-, rfl⟩ | ⟨-, rfl⟩ | ⟨-, rfl⟩ | ⟨-, rfl⟩ | ⟨-, rfl⟩ | ⟨-, rfl⟩ | ⟨-, rfl⟩ | ⟨-, rfl⟩ | ⟨-, rfl⟩ | ⟨-, rfl⟩ | ⟨-, rfl⟩
  · exact z_ok_176
  · exact z_ok_177
  · exact z_ok_178
  · exact z_ok_179
  · exact z_ok_180
  · exact z_ok_181
  · exact z_ok_182
  · exact z_ok_183
  · exact z_ok_184
  · exact z_ok_185
  · exact z_ok_186
  · exact z_ok_187
  · exact z_ok_188
  · exact z_ok_189
  · exact z_ok_190
  · exact z_ok_191
theorem z_okc_12 : ∀ (k : Nat) (M : zM), z_look k [(192, z_m192), (193, z_m193), (194, z_m194), (195, z_m195), (196, z_m196), (197, z_m197), (198, z_m198), (199, z_m199), (200, z_m200), (201, z_m201), (202, z_m202), (203, z_m203), (204, z_m204), (205, z_m205), (206, z_m206), (207, z_m207)] = some M → z_okM M = true := by
  intro k M h
  have h := z_look_mem h
  simp only [List.mem_cons, Prod.mk.injEq, List.not_mem_nil, or_false] at h
  rcases h with ⟨-, rfl⟩ | ⟨-, rfl⟩ | ⟨-, rfl⟩ | ⟨-, rfl⟩ | ⟨-, rfl⟩ | ⟨-, rfl⟩ | ⟨-, rfl⟩ | ⟨-, rfl⟩ | ⟨-, rfl⟩ | ⟨-, rfl⟩ | ⟨-, rfl⟩ | ⟨-, rfl⟩ | ⟨-, rfl⟩ | ⟨-, rfl⟩ | ⟨-, rfl⟩ | ⟨-, rfl⟩
  · exact z_ok_192
  · exact z_ok_193
  · exact z_ok_194
  · exact z_ok_195
  · exact z_ok_196
  · exact z_ok_197
  · exact z_ok_198
  · exact z_ok_199
  · exact z_ok_200
  · exact z_ok_201
  · exact z_ok_202
  · exact z_ok_203
  · exact z_ok_204
  · exact z_ok_205
  · exact z_ok_206
  · exact z_ok_207
theorem z_okc_13 : ∀ (k : Nat) (M : zM), z_look k [(208, z_m208), (209, z_m209), (210, z_m210), (211, z_m211), (212, z_m212), (213, z_m213), (214, z_m214), (215, z_m215), (216, z_m216), (217, z_m217), (218, z_m218), (219, z_m219), (220, z_m220), (221, z_m221), (222, z_m222), (223, z_m223)] = some M → z_okM M = true := by
  intro k M h
  have h := z_look_mem h
  simp only [List.mem_cons, Prod.mk.injEq, List.not_mem_nil, or_false] at h
  rcases h with ⟨-, rfl⟩ | ⟨-, rfl⟩ | ⟨-, rfl⟩ | ⟨-, rfl⟩ | ⟨-, rfl⟩ | ⟨-, rfl⟩ | ⟨-, rfl⟩ | ⟨-, rfl⟩ | ⟨-, rfl⟩ | ⟨-, rfl⟩ | ⟨-, rfl⟩ | ⟨-, rfl⟩ | ⟨-, rfl⟩ | ⟨-, rfl⟩ | ⟨-, rfl⟩ | ⟨-, rfl⟩
  · exact z_ok_208
  · exact z_ok_209
  · exact z_ok_210
  · exact z_ok_211
  · exact z_ok_212
  · exact z_ok_213
  · exact z_ok_214
  · exact z_ok_215
  · exact z_ok_216
  · exact z_ok_217
  · exact z_ok_218
  · exact z_ok_219
  · exact z_ok_220
  · exact z_ok_221
  · exact z_ok_222
  · exact z_ok_223
theorem z_okc_14 : ∀ (k : Nat) (M : zM), z_look k [(224, z_m224), (225, z_m225), (226, z_m226), (227, z_m227), (228, z_m228), (229, z_m229), (230, z_m230), (231, z_m231), (232, z_m232), (233, z_m233), (234, z_m234), (235, z_m235), (236, z_m236), (237, z_m237), (238, z_m238), (239, z_m239)] = some M → z_okM M = true := by
  intro k M h
  have h := z_look_mem h
  simp only [List.mem_cons, Prod.mk.injEq, List.not_mem_nil, or_false] at h
  rcases h with ⟨-, rfl⟩ | ⟨-, rfl⟩ | ⟨-, rfl⟩ | ⟨-, rfl⟩ | ⟨-, rfl⟩ | ⟨-, rfl⟩ | ⟨-, rfl⟩ | ⟨-, rfl⟩ | ⟨-, rfl⟩ | ⟨-, rfl⟩ | ⟨-, rfl⟩ | ⟨-, rfl⟩ | ⟨-, rfl⟩ | ⟨-, rfl⟩ | ⟨-, rfl⟩ | ⟨-, rfl⟩
  · exact z_ok_224
  · exact z_ok_225
  · exact z_ok_226
  · exact z_ok_227
  · exact z_ok_228
  · exact z_ok_229
  · exact z_ok_230
  · exact z_ok_231
  · exact z_ok_232
  · exact z_ok_233
  · exact z_ok_234
  · exact z_ok_235
  · exact z_ok_236
  · exact z_ok_237
  · exact z_ok_238
  · exact z_ok_239
theorem z_okc_15 : ∀ (k : Nat) (M : zM), z_look k [(240, z_m240), (241, z_m241), (242, z_m242), (243, z_m243), (244, z_m244), (245, z_m245), (246, z_m246), (247, z_m247), (248, z_m248), (249, z_m249), (250, z_m250), (251, z_m251), (252, z_m252)] = some M → z_okM M = true := by
  intro k M h
  have h := z_look_mem h
  simp only [List.mem_cons, Prod.mk.injEq, List.not_mem_nil, or_false] at h
  rcases h with ⟨-, rfl⟩ | ⟨-, rfl⟩ | ⟨-, rfl⟩ | ⟨-, rfl⟩ | ⟨-, rfl⟩ | ⟨-, rfl⟩ | ⟨-, rfl⟩ | ⟨-, rfl⟩ | ⟨-, rfl⟩ | ⟨-, rfl⟩ | ⟨-, rfl⟩ | ⟨-, rfl⟩ | ⟨-, rfl⟩
  · exact z_ok_240
  · exact z_ok_241
  · exact z_ok_242
  · exact z_ok_243
  · exact z_ok_244
  · exact z_ok_245
  · exact z_ok_246
  · exact z_ok_247
  · exact z_ok_248
  · exact z_ok_249
  · exact z_ok_250
  · exact z_ok_251
  · exact z_ok_252
theorem z_okc_16 : ∀ (k : Nat) (M : zM), z_look k [(256, z_m256), (261, z_m261), (262, z_m262), (263, z_m263), (264, z_m264), (265, z_m265), (266, z_m266), (267, z_m267), (268, z_m268), (269, z_m269), (270, z_m270), (271, z_m271)] = some M → z_okM M = true := by
  intro k M h
  have h := z_look_mem h
  simp only [List.mem_cons, Prod.mk.injEq, List.not_mem_nil, or_false] at h
  rcases h with ⟨-, rfl⟩ | ⟨-, rfl⟩ | ⟨-, rfl⟩ | ⟨-, rfl⟩ | ⟨-, rfl⟩ | ⟨-, rfl⟩ | ⟨-, rfl⟩ | ⟨-, rfl⟩ | ⟨-, rfl⟩ | ⟨-, rfl⟩ | ⟨-, rfl⟩ | ⟨-, rfl⟩
  · exact z_ok_256
  · exact z_ok_261
  · exact z_ok_262
  · exact z_ok_263
  · exact z_ok_264
  · exact z_ok_265
  · exact z_ok_266
  · exact z_ok_267
  · exact z_ok_268
  · exact z_ok_269
  · exact z_ok_270
  · exact z_ok_271
theorem z_okc_17 : ∀ (k : Nat) (M : zM), z_look k [(272, z_m272), (282, z_m282), (283, z_m283), (284, z_m284), (285, z_m285)] = some M → z_okM M = true := by
  intro k M h
  have h := z_look_mem h
  simp only [List.mem_cons, Prod.mk.injEq, List.not_mem_nil, or_false] at h
  rcases h with ⟨-, rfl⟩ | ⟨-, rfl⟩ | ⟨-, rfl⟩ | ⟨-, rfl⟩ | ⟨-, rfl⟩
  · exact z_ok_272
  · exact z_ok_282
  · exact z_ok_283
  · exact z_ok_284
  · exact z_ok_285
theorem z_okAll : z_okA := by
  intro mid M h
  unfold z_mt at h
  split at h
  · rename_i c hc
    have h1 := z_look_mem hc
    simp only [z_mts, List.mem_cons, Prod.mk.injEq, List.not_mem_nil, or_false] at h1
    rcases h1 with ⟨-, rfl⟩ | ⟨-, rfl⟩ | ⟨-, rfl⟩ | ⟨-, rfl⟩ | ⟨-, rfl⟩ | ⟨-, rfl⟩ | ⟨-, rfl⟩ | ⟨-, rfl⟩ | ⟨-, rfl⟩ | ⟨-, rfl⟩ | ⟨-, rfl⟩ | ⟨-, rfl⟩ | ⟨-, rfl⟩ | ⟨-, rfl⟩ | ⟨-, rfl⟩ | ⟨-, rfl⟩ | ⟨-, rfl⟩ | ⟨-, rfl⟩
    · exact z_okc_0 _ _ h
    · exact z_okc_1 _ _ h
    · exact z_okc_2 _ _ h
    · exact z_okc_3 _ _ h
    · exact z_okc_4 _ _ h
    · exact z_okc_5 _ _ h
    · exact z_okc_6 _ _ h
    · exact z_okc_7 _ _ h
    · exact z_okc_8 _ _ h
    · exact z_okc_9 _ _ h
    · exact z_okc_10 _ _ h
    · exact z_okc_11 _ _ h
    · exact z_okc_12 _ _ h
    · exact z_okc_13 _ _ h
    · exact z_okc_14 _ _ h
    · exact z_okc_15 _ _ h
    · exact z_okc_16 _ _ h
    · exact z_okc_17 _ _ h
  · cases h
