theorem dlC_M_init_0 : zdal (zb m_M_init) [(0, (.aload_n 0, 1)), (1, (.invokespecial 1, 3)), (4, (.aload_n 0, 1)), (5, (.sipush 700, 3)), (8, (.newarray .int, 2)), (10, (.putfield 7, 3)), (13, (.aload_n 0, 1)), (14, (.iconst (-1), 1)), (15, (.putfield 13, 3)), (18, (.aload_n 0, 1)), (19, (.iconst (-1), 1)), (20, (.putfield 17, 3)), (23, (.aload_n 0, 1)), (24, (.bipush 24, 2)), (26, (.newarray .int, 2)), (28, (.putfield 20, 3)), (31, (.aload_n 0, 1)), (32, (.bipush 24, 2)), (34, (.newarray .int, 2)), (36, (.putfield 23, 3)), (39, (.aload_n 0, 1)), (40, (.sipush 144, 3)), (43, (.newarray .int, 2)), (45, (.putfield 26, 3))] = true := zDs 0 (by decide +kernel)
theorem d_M_init_0 : decode (zb m_M_init) 0 = .ok (.aload_n 0, 1) := zdal_p dlC_M_init_0 (i := 0) rfl
theorem d_M_init_1 : decode (zb m_M_init) 1 = .ok (.invokespecial 1, 3) := zdal_p dlC_M_init_0 (i := 1) rfl
theorem d_M_init_4 : decode (zb m_M_init) 4 = .ok (.aload_n 0, 1) := zdal_p dlC_M_init_0 (i := 2) rfl
theorem d_M_init_5 : decode (zb m_M_init) 5 = .ok (.sipush 700, 3) := zdal_p dlC_M_init_0 (i := 3) rfl
theorem d_M_init_8 : decode (zb m_M_init) 8 = .ok (.newarray .int, 2) := zdal_p dlC_M_init_0 (i := 4) rfl
theorem d_M_init_10 : decode (zb m_M_init) 10 = .ok (.putfield 7, 3) := zdal_p dlC_M_init_0 (i := 5) rfl
theorem d_M_init_13 : decode (zb m_M_init) 13 = .ok (.aload_n 0, 1) := zdal_p dlC_M_init_0 (i := 6) rfl
theorem d_M_init_14 : decode (zb m_M_init) 14 = .ok (.iconst (-1), 1) := zdal_p dlC_M_init_0 (i := 7) rfl
theorem d_M_init_15 : decode (zb m_M_init) 15 = .ok (.putfield 13, 3) := zdal_p dlC_M_init_0 (i := 8) rfl
theorem d_M_init_18 : decode (zb m_M_init) 18 = .ok (.aload_n 0, 1) := zdal_p dlC_M_init_0 (i := 9) rfl
theorem d_M_init_19 : decode (zb m_M_init) 19 = .ok (.iconst (-1), 1) := zdal_p dlC_M_init_0 (i := 10) rfl
theorem d_M_init_20 : decode (zb m_M_init) 20 = .ok (.putfield 17, 3) := zdal_p dlC_M_init_0 (i := 11) rfl
theorem d_M_init_23 : decode (zb m_M_init) 23 = .ok (.aload_n 0, 1) := zdal_p dlC_M_init_0 (i := 12) rfl
theorem d_M_init_24 : decode (zb m_M_init) 24 = .ok (.bipush 24, 2) := zdal_p dlC_M_init_0 (i := 13) rfl
theorem d_M_init_26 : decode (zb m_M_init) 26 = .ok (.newarray .int, 2) := zdal_p dlC_M_init_0 (i := 14) rfl
theorem d_M_init_28 : decode (zb m_M_init) 28 = .ok (.putfield 20, 3) := zdal_p dlC_M_init_0 (i := 15) rfl
theorem d_M_init_31 : decode (zb m_M_init) 31 = .ok (.aload_n 0, 1) := zdal_p dlC_M_init_0 (i := 16) rfl
theorem d_M_init_32 : decode (zb m_M_init) 32 = .ok (.bipush 24, 2) := zdal_p dlC_M_init_0 (i := 17) rfl
theorem d_M_init_34 : decode (zb m_M_init) 34 = .ok (.newarray .int, 2) := zdal_p dlC_M_init_0 (i := 18) rfl
theorem d_M_init_36 : decode (zb m_M_init) 36 = .ok (.putfield 23, 3) := zdal_p dlC_M_init_0 (i := 19) rfl
theorem d_M_init_39 : decode (zb m_M_init) 39 = .ok (.aload_n 0, 1) := zdal_p dlC_M_init_0 (i := 20) rfl
theorem d_M_init_40 : decode (zb m_M_init) 40 = .ok (.sipush 144, 3) := zdal_p dlC_M_init_0 (i := 21) rfl
theorem d_M_init_43 : decode (zb m_M_init) 43 = .ok (.newarray .int, 2) := zdal_p dlC_M_init_0 (i := 22) rfl
theorem d_M_init_45 : decode (zb m_M_init) 45 = .ok (.putfield 26, 3) := zdal_p dlC_M_init_0 (i := 23) rfl
theorem dlC_M_init_1 : zdal (zb m_M_init) [(48, (.aload_n 0, 1)), (49, (.bipush 6, 2)), (51, (.newarray .int, 2)), (53, (.putfield 29, 3)), (56, (.aload_n 0, 1)), (57, (.sipush 576, 3)), (60, (.newarray .int, 2)), (62, (.putfield 32, 3)), (65, (.aload_n 0, 1)), (66, (.bipush 24, 2)), (68, (.newarray .int, 2)), (70, (.putfield 35, 3)), (73, (.aload_n 0, 1)), (74, (.sipush 128, 3)), (77, (.newarray .int, 2)), (79, (.putfield 38, 3)), (82, (.aload_n 0, 1)), (83, (.sipush 128, 3)), (86, (.newarray .int, 2)), (88, (.putfield 41, 3)), (91, (.aload_n 0, 1)), (92, (.bipush 64, 2)), (94, (.newarray .int, 2)), (96, (.putfield 44, 3))] = true := zDs 48 (by decide +kernel)
theorem d_M_init_48 : decode (zb m_M_init) 48 = .ok (.aload_n 0, 1) := zdal_p dlC_M_init_1 (i := 0) rfl
theorem d_M_init_49 : decode (zb m_M_init) 49 = .ok (.bipush 6, 2) := zdal_p dlC_M_init_1 (i := 1) rfl
theorem d_M_init_51 : decode (zb m_M_init) 51 = .ok (.newarray .int, 2) := zdal_p dlC_M_init_1 (i := 2) rfl
theorem d_M_init_53 : decode (zb m_M_init) 53 = .ok (.putfield 29, 3) := zdal_p dlC_M_init_1 (i := 3) rfl
theorem d_M_init_56 : decode (zb m_M_init) 56 = .ok (.aload_n 0, 1) := zdal_p dlC_M_init_1 (i := 4) rfl
theorem d_M_init_57 : decode (zb m_M_init) 57 = .ok (.sipush 576, 3) := zdal_p dlC_M_init_1 (i := 5) rfl
theorem d_M_init_60 : decode (zb m_M_init) 60 = .ok (.newarray .int, 2) := zdal_p dlC_M_init_1 (i := 6) rfl
theorem d_M_init_62 : decode (zb m_M_init) 62 = .ok (.putfield 32, 3) := zdal_p dlC_M_init_1 (i := 7) rfl
theorem d_M_init_65 : decode (zb m_M_init) 65 = .ok (.aload_n 0, 1) := zdal_p dlC_M_init_1 (i := 8) rfl
theorem d_M_init_66 : decode (zb m_M_init) 66 = .ok (.bipush 24, 2) := zdal_p dlC_M_init_1 (i := 9) rfl
theorem d_M_init_68 : decode (zb m_M_init) 68 = .ok (.newarray .int, 2) := zdal_p dlC_M_init_1 (i := 10) rfl
theorem d_M_init_70 : decode (zb m_M_init) 70 = .ok (.putfield 35, 3) := zdal_p dlC_M_init_1 (i := 11) rfl
theorem d_M_init_73 : decode (zb m_M_init) 73 = .ok (.aload_n 0, 1) := zdal_p dlC_M_init_1 (i := 12) rfl
theorem d_M_init_74 : decode (zb m_M_init) 74 = .ok (.sipush 128, 3) := zdal_p dlC_M_init_1 (i := 13) rfl
theorem d_M_init_77 : decode (zb m_M_init) 77 = .ok (.newarray .int, 2) := zdal_p dlC_M_init_1 (i := 14) rfl
theorem d_M_init_79 : decode (zb m_M_init) 79 = .ok (.putfield 38, 3) := zdal_p dlC_M_init_1 (i := 15) rfl
theorem d_M_init_82 : decode (zb m_M_init) 82 = .ok (.aload_n 0, 1) := zdal_p dlC_M_init_1 (i := 16) rfl
theorem d_M_init_83 : decode (zb m_M_init) 83 = .ok (.sipush 128, 3) := zdal_p dlC_M_init_1 (i := 17) rfl
theorem d_M_init_86 : decode (zb m_M_init) 86 = .ok (.newarray .int, 2) := zdal_p dlC_M_init_1 (i := 18) rfl
theorem d_M_init_88 : decode (zb m_M_init) 88 = .ok (.putfield 41, 3) := zdal_p dlC_M_init_1 (i := 19) rfl
theorem d_M_init_91 : decode (zb m_M_init) 91 = .ok (.aload_n 0, 1) := zdal_p dlC_M_init_1 (i := 20) rfl
theorem d_M_init_92 : decode (zb m_M_init) 92 = .ok (.bipush 64, 2) := zdal_p dlC_M_init_1 (i := 21) rfl
theorem d_M_init_94 : decode (zb m_M_init) 94 = .ok (.newarray .int, 2) := zdal_p dlC_M_init_1 (i := 22) rfl
theorem d_M_init_96 : decode (zb m_M_init) 96 = .ok (.putfield 44, 3) := zdal_p dlC_M_init_1 (i := 23) rfl
theorem dlC_M_init_2 : zdal (zb m_M_init) [(99, (.aload_n 0, 1)), (100, (.bipush 64, 2)), (102, (.newarray .int, 2)), (104, (.putfield 47, 3)), (107, (.aload_n 0, 1)), (108, (.sipush 4096, 3)), (111, (.newarray .int, 2)), (113, (.putfield 50, 3)), (116, (.aload_n 0, 1)), (117, (.sipush 1536, 3)), (120, (.newarray .int, 2)), (122, (.putfield 53, 3)), (125, (.aload_n 0, 1)), (126, (.sipush 2560, 3)), (129, (.newarray .long, 2)), (131, (.putfield 56, 3)), (134, (.aload_n 0, 1)), (135, (.bipush 64, 2)), (137, (.newarray .long, 2)), (139, (.putfield 60, 3)), (142, (.aload_n 0, 1)), (143, (.bipush 64, 2)), (145, (.newarray .long, 2)), (147, (.putfield 63, 3))] = true := zDs 99 (by decide +kernel)
theorem d_M_init_99 : decode (zb m_M_init) 99 = .ok (.aload_n 0, 1) := zdal_p dlC_M_init_2 (i := 0) rfl
theorem d_M_init_100 : decode (zb m_M_init) 100 = .ok (.bipush 64, 2) := zdal_p dlC_M_init_2 (i := 1) rfl
theorem d_M_init_102 : decode (zb m_M_init) 102 = .ok (.newarray .int, 2) := zdal_p dlC_M_init_2 (i := 2) rfl
theorem d_M_init_104 : decode (zb m_M_init) 104 = .ok (.putfield 47, 3) := zdal_p dlC_M_init_2 (i := 3) rfl
theorem d_M_init_107 : decode (zb m_M_init) 107 = .ok (.aload_n 0, 1) := zdal_p dlC_M_init_2 (i := 4) rfl
theorem d_M_init_108 : decode (zb m_M_init) 108 = .ok (.sipush 4096, 3) := zdal_p dlC_M_init_2 (i := 5) rfl
theorem d_M_init_111 : decode (zb m_M_init) 111 = .ok (.newarray .int, 2) := zdal_p dlC_M_init_2 (i := 6) rfl
theorem d_M_init_113 : decode (zb m_M_init) 113 = .ok (.putfield 50, 3) := zdal_p dlC_M_init_2 (i := 7) rfl
theorem d_M_init_116 : decode (zb m_M_init) 116 = .ok (.aload_n 0, 1) := zdal_p dlC_M_init_2 (i := 8) rfl
theorem d_M_init_117 : decode (zb m_M_init) 117 = .ok (.sipush 1536, 3) := zdal_p dlC_M_init_2 (i := 9) rfl
theorem d_M_init_120 : decode (zb m_M_init) 120 = .ok (.newarray .int, 2) := zdal_p dlC_M_init_2 (i := 10) rfl
theorem d_M_init_122 : decode (zb m_M_init) 122 = .ok (.putfield 53, 3) := zdal_p dlC_M_init_2 (i := 11) rfl
theorem d_M_init_125 : decode (zb m_M_init) 125 = .ok (.aload_n 0, 1) := zdal_p dlC_M_init_2 (i := 12) rfl
theorem d_M_init_126 : decode (zb m_M_init) 126 = .ok (.sipush 2560, 3) := zdal_p dlC_M_init_2 (i := 13) rfl
theorem d_M_init_129 : decode (zb m_M_init) 129 = .ok (.newarray .long, 2) := zdal_p dlC_M_init_2 (i := 14) rfl
theorem d_M_init_131 : decode (zb m_M_init) 131 = .ok (.putfield 56, 3) := zdal_p dlC_M_init_2 (i := 15) rfl
theorem d_M_init_134 : decode (zb m_M_init) 134 = .ok (.aload_n 0, 1) := zdal_p dlC_M_init_2 (i := 16) rfl
theorem d_M_init_135 : decode (zb m_M_init) 135 = .ok (.bipush 64, 2) := zdal_p dlC_M_init_2 (i := 17) rfl
theorem d_M_init_137 : decode (zb m_M_init) 137 = .ok (.newarray .long, 2) := zdal_p dlC_M_init_2 (i := 18) rfl
theorem d_M_init_139 : decode (zb m_M_init) 139 = .ok (.putfield 60, 3) := zdal_p dlC_M_init_2 (i := 19) rfl
theorem d_M_init_142 : decode (zb m_M_init) 142 = .ok (.aload_n 0, 1) := zdal_p dlC_M_init_2 (i := 20) rfl
theorem d_M_init_143 : decode (zb m_M_init) 143 = .ok (.bipush 64, 2) := zdal_p dlC_M_init_2 (i := 21) rfl
theorem d_M_init_145 : decode (zb m_M_init) 145 = .ok (.newarray .long, 2) := zdal_p dlC_M_init_2 (i := 22) rfl
theorem d_M_init_147 : decode (zb m_M_init) 147 = .ok (.putfield 63, 3) := zdal_p dlC_M_init_2 (i := 23) rfl
theorem dlC_M_init_3 : zdal (zb m_M_init) [(150, (.aload_n 0, 1)), (151, (.bipush 64, 2)), (153, (.newarray .long, 2)), (155, (.putfield 66, 3)), (158, (.aload_n 0, 1)), (159, (.bipush 64, 2)), (161, (.newarray .long, 2)), (163, (.putfield 69, 3)), (166, (.aload_n 0, 1)), (167, (.bipush 80, 2)), (169, (.newarray .int, 2)), (171, (.putfield 72, 3)), (174, (.aload_n 0, 1)), (175, (.bipush 8, 2)), (177, (.newarray .long, 2)), (179, (.putfield 75, 3)), (182, (.aload_n 0, 1)), (183, (.sipush 512, 3)), (186, (.newarray .long, 2)), (188, (.putfield 78, 3)), (191, (.aload_n 0, 1)), (192, (.bipush 8, 2)), (194, (.newarray .long, 2)), (196, (.putfield 81, 3))] = true := zDs 150 (by decide +kernel)
theorem d_M_init_150 : decode (zb m_M_init) 150 = .ok (.aload_n 0, 1) := zdal_p dlC_M_init_3 (i := 0) rfl
theorem d_M_init_151 : decode (zb m_M_init) 151 = .ok (.bipush 64, 2) := zdal_p dlC_M_init_3 (i := 1) rfl
theorem d_M_init_153 : decode (zb m_M_init) 153 = .ok (.newarray .long, 2) := zdal_p dlC_M_init_3 (i := 2) rfl
theorem d_M_init_155 : decode (zb m_M_init) 155 = .ok (.putfield 66, 3) := zdal_p dlC_M_init_3 (i := 3) rfl
theorem d_M_init_158 : decode (zb m_M_init) 158 = .ok (.aload_n 0, 1) := zdal_p dlC_M_init_3 (i := 4) rfl
theorem d_M_init_159 : decode (zb m_M_init) 159 = .ok (.bipush 64, 2) := zdal_p dlC_M_init_3 (i := 5) rfl
theorem d_M_init_161 : decode (zb m_M_init) 161 = .ok (.newarray .long, 2) := zdal_p dlC_M_init_3 (i := 6) rfl
theorem d_M_init_163 : decode (zb m_M_init) 163 = .ok (.putfield 69, 3) := zdal_p dlC_M_init_3 (i := 7) rfl
theorem d_M_init_166 : decode (zb m_M_init) 166 = .ok (.aload_n 0, 1) := zdal_p dlC_M_init_3 (i := 8) rfl
theorem d_M_init_167 : decode (zb m_M_init) 167 = .ok (.bipush 80, 2) := zdal_p dlC_M_init_3 (i := 9) rfl
theorem d_M_init_169 : decode (zb m_M_init) 169 = .ok (.newarray .int, 2) := zdal_p dlC_M_init_3 (i := 10) rfl
theorem d_M_init_171 : decode (zb m_M_init) 171 = .ok (.putfield 72, 3) := zdal_p dlC_M_init_3 (i := 11) rfl
theorem d_M_init_174 : decode (zb m_M_init) 174 = .ok (.aload_n 0, 1) := zdal_p dlC_M_init_3 (i := 12) rfl
theorem d_M_init_175 : decode (zb m_M_init) 175 = .ok (.bipush 8, 2) := zdal_p dlC_M_init_3 (i := 13) rfl
theorem d_M_init_177 : decode (zb m_M_init) 177 = .ok (.newarray .long, 2) := zdal_p dlC_M_init_3 (i := 14) rfl
theorem d_M_init_179 : decode (zb m_M_init) 179 = .ok (.putfield 75, 3) := zdal_p dlC_M_init_3 (i := 15) rfl
theorem d_M_init_182 : decode (zb m_M_init) 182 = .ok (.aload_n 0, 1) := zdal_p dlC_M_init_3 (i := 16) rfl
theorem d_M_init_183 : decode (zb m_M_init) 183 = .ok (.sipush 512, 3) := zdal_p dlC_M_init_3 (i := 17) rfl
theorem d_M_init_186 : decode (zb m_M_init) 186 = .ok (.newarray .long, 2) := zdal_p dlC_M_init_3 (i := 18) rfl
theorem d_M_init_188 : decode (zb m_M_init) 188 = .ok (.putfield 78, 3) := zdal_p dlC_M_init_3 (i := 19) rfl
theorem d_M_init_191 : decode (zb m_M_init) 191 = .ok (.aload_n 0, 1) := zdal_p dlC_M_init_3 (i := 20) rfl
theorem d_M_init_192 : decode (zb m_M_init) 192 = .ok (.bipush 8, 2) := zdal_p dlC_M_init_3 (i := 21) rfl
theorem d_M_init_194 : decode (zb m_M_init) 194 = .ok (.newarray .long, 2) := zdal_p dlC_M_init_3 (i := 22) rfl
theorem d_M_init_196 : decode (zb m_M_init) 196 = .ok (.putfield 81, 3) := zdal_p dlC_M_init_3 (i := 23) rfl
theorem dlC_M_init_4 : zdal (zb m_M_init) [(199, (.aload_n 0, 1)), (200, (.sipush 512, 3)), (203, (.newarray .long, 2)), (205, (.putfield 84, 3)), (208, (.aload_n 0, 1)), (209, (.bipush 64, 2)), (211, (.newarray .long, 2)), (213, (.putfield 87, 3)), (216, (.aload_n 0, 1)), (217, (.sipush 128, 3)), (220, (.newarray .int, 2)), (222, (.putfield 90, 3)), (225, (.aload_n 0, 1)), (226, (.bipush 64, 2)), (228, (.newarray .long, 2)), (230, (.putfield 93, 3)), (233, (.aload_n 0, 1)), (234, (.bipush 64, 2)), (236, (.newarray .long, 2)), (238, (.putfield 96, 3)), (241, (.aload_n 0, 1)), (242, (.bipush 24, 2)), (244, (.newarray .int, 2)), (246, (.putfield 99, 3))] = true := zDs 199 (by decide +kernel)
theorem d_M_init_199 : decode (zb m_M_init) 199 = .ok (.aload_n 0, 1) := zdal_p dlC_M_init_4 (i := 0) rfl
theorem d_M_init_200 : decode (zb m_M_init) 200 = .ok (.sipush 512, 3) := zdal_p dlC_M_init_4 (i := 1) rfl
theorem d_M_init_203 : decode (zb m_M_init) 203 = .ok (.newarray .long, 2) := zdal_p dlC_M_init_4 (i := 2) rfl
theorem d_M_init_205 : decode (zb m_M_init) 205 = .ok (.putfield 84, 3) := zdal_p dlC_M_init_4 (i := 3) rfl
theorem d_M_init_208 : decode (zb m_M_init) 208 = .ok (.aload_n 0, 1) := zdal_p dlC_M_init_4 (i := 4) rfl
theorem d_M_init_209 : decode (zb m_M_init) 209 = .ok (.bipush 64, 2) := zdal_p dlC_M_init_4 (i := 5) rfl
theorem d_M_init_211 : decode (zb m_M_init) 211 = .ok (.newarray .long, 2) := zdal_p dlC_M_init_4 (i := 6) rfl
theorem d_M_init_213 : decode (zb m_M_init) 213 = .ok (.putfield 87, 3) := zdal_p dlC_M_init_4 (i := 7) rfl
theorem d_M_init_216 : decode (zb m_M_init) 216 = .ok (.aload_n 0, 1) := zdal_p dlC_M_init_4 (i := 8) rfl
theorem d_M_init_217 : decode (zb m_M_init) 217 = .ok (.sipush 128, 3) := zdal_p dlC_M_init_4 (i := 9) rfl
theorem d_M_init_220 : decode (zb m_M_init) 220 = .ok (.newarray .int, 2) := zdal_p dlC_M_init_4 (i := 10) rfl
theorem d_M_init_222 : decode (zb m_M_init) 222 = .ok (.putfield 90, 3) := zdal_p dlC_M_init_4 (i := 11) rfl
theorem d_M_init_225 : decode (zb m_M_init) 225 = .ok (.aload_n 0, 1) := zdal_p dlC_M_init_4 (i := 12) rfl
theorem d_M_init_226 : decode (zb m_M_init) 226 = .ok (.bipush 64, 2) := zdal_p dlC_M_init_4 (i := 13) rfl
theorem d_M_init_228 : decode (zb m_M_init) 228 = .ok (.newarray .long, 2) := zdal_p dlC_M_init_4 (i := 14) rfl
theorem d_M_init_230 : decode (zb m_M_init) 230 = .ok (.putfield 93, 3) := zdal_p dlC_M_init_4 (i := 15) rfl
theorem d_M_init_233 : decode (zb m_M_init) 233 = .ok (.aload_n 0, 1) := zdal_p dlC_M_init_4 (i := 16) rfl
theorem d_M_init_234 : decode (zb m_M_init) 234 = .ok (.bipush 64, 2) := zdal_p dlC_M_init_4 (i := 17) rfl
theorem d_M_init_236 : decode (zb m_M_init) 236 = .ok (.newarray .long, 2) := zdal_p dlC_M_init_4 (i := 18) rfl
theorem d_M_init_238 : decode (zb m_M_init) 238 = .ok (.putfield 96, 3) := zdal_p dlC_M_init_4 (i := 19) rfl
theorem d_M_init_241 : decode (zb m_M_init) 241 = .ok (.aload_n 0, 1) := zdal_p dlC_M_init_4 (i := 20) rfl
theorem d_M_init_242 : decode (zb m_M_init) 242 = .ok (.bipush 24, 2) := zdal_p dlC_M_init_4 (i := 21) rfl
theorem d_M_init_244 : decode (zb m_M_init) 244 = .ok (.newarray .int, 2) := zdal_p dlC_M_init_4 (i := 22) rfl
theorem d_M_init_246 : decode (zb m_M_init) 246 = .ok (.putfield 99, 3) := zdal_p dlC_M_init_4 (i := 23) rfl
theorem dlC_M_init_5 : zdal (zb m_M_init) [(249, (.aload_n 0, 1)), (250, (.ldc 102, 2)), (252, (.newarray .int, 2)), (254, (.putfield 103, 3)), (257, (.aload_n 0, 1)), (258, (.sipush 768, 3)), (261, (.newarray .long, 2)), (263, (.putfield 106, 3)), (266, (.aload_n 0, 1)), (267, (.bipush 6, 2)), (269, (.newarray .int, 2)), (271, (.putfield 109, 3)), (274, (.aload_n 0, 1)), (275, (.bipush 7, 2)), (277, (.newarray .int, 2)), (279, (.putfield 112, 3)), (282, (.aload_n 0, 1)), (283, (.iconst 1, 1)), (284, (.putfield 115, 3)), (287, (.aload_n 0, 1)), (288, (.invokevirtual 118, 3)), (291, (.aload_n 0, 1)), (292, (.invokevirtual 121, 3)), (295, (.return_, 1))] = true := zDs 249 (by decide +kernel)
theorem d_M_init_249 : decode (zb m_M_init) 249 = .ok (.aload_n 0, 1) := zdal_p dlC_M_init_5 (i := 0) rfl
theorem d_M_init_250 : decode (zb m_M_init) 250 = .ok (.ldc 102, 2) := zdal_p dlC_M_init_5 (i := 1) rfl
theorem d_M_init_252 : decode (zb m_M_init) 252 = .ok (.newarray .int, 2) := zdal_p dlC_M_init_5 (i := 2) rfl
theorem d_M_init_254 : decode (zb m_M_init) 254 = .ok (.putfield 103, 3) := zdal_p dlC_M_init_5 (i := 3) rfl
theorem d_M_init_257 : decode (zb m_M_init) 257 = .ok (.aload_n 0, 1) := zdal_p dlC_M_init_5 (i := 4) rfl
theorem d_M_init_258 : decode (zb m_M_init) 258 = .ok (.sipush 768, 3) := zdal_p dlC_M_init_5 (i := 5) rfl
theorem d_M_init_261 : decode (zb m_M_init) 261 = .ok (.newarray .long, 2) := zdal_p dlC_M_init_5 (i := 6) rfl
theorem d_M_init_263 : decode (zb m_M_init) 263 = .ok (.putfield 106, 3) := zdal_p dlC_M_init_5 (i := 7) rfl
theorem d_M_init_266 : decode (zb m_M_init) 266 = .ok (.aload_n 0, 1) := zdal_p dlC_M_init_5 (i := 8) rfl
theorem d_M_init_267 : decode (zb m_M_init) 267 = .ok (.bipush 6, 2) := zdal_p dlC_M_init_5 (i := 9) rfl
theorem d_M_init_269 : decode (zb m_M_init) 269 = .ok (.newarray .int, 2) := zdal_p dlC_M_init_5 (i := 10) rfl
theorem d_M_init_271 : decode (zb m_M_init) 271 = .ok (.putfield 109, 3) := zdal_p dlC_M_init_5 (i := 11) rfl
theorem d_M_init_274 : decode (zb m_M_init) 274 = .ok (.aload_n 0, 1) := zdal_p dlC_M_init_5 (i := 12) rfl
theorem d_M_init_275 : decode (zb m_M_init) 275 = .ok (.bipush 7, 2) := zdal_p dlC_M_init_5 (i := 13) rfl
theorem d_M_init_277 : decode (zb m_M_init) 277 = .ok (.newarray .int, 2) := zdal_p dlC_M_init_5 (i := 14) rfl
theorem d_M_init_279 : decode (zb m_M_init) 279 = .ok (.putfield 112, 3) := zdal_p dlC_M_init_5 (i := 15) rfl
theorem d_M_init_282 : decode (zb m_M_init) 282 = .ok (.aload_n 0, 1) := zdal_p dlC_M_init_5 (i := 16) rfl
theorem d_M_init_283 : decode (zb m_M_init) 283 = .ok (.iconst 1, 1) := zdal_p dlC_M_init_5 (i := 17) rfl
theorem d_M_init_284 : decode (zb m_M_init) 284 = .ok (.putfield 115, 3) := zdal_p dlC_M_init_5 (i := 18) rfl
theorem d_M_init_287 : decode (zb m_M_init) 287 = .ok (.aload_n 0, 1) := zdal_p dlC_M_init_5 (i := 19) rfl
theorem d_M_init_288 : decode (zb m_M_init) 288 = .ok (.invokevirtual 118, 3) := zdal_p dlC_M_init_5 (i := 20) rfl
theorem d_M_init_291 : decode (zb m_M_init) 291 = .ok (.aload_n 0, 1) := zdal_p dlC_M_init_5 (i := 21) rfl
theorem d_M_init_292 : decode (zb m_M_init) 292 = .ok (.invokevirtual 121, 3) := zdal_p dlC_M_init_5 (i := 22) rfl
theorem d_M_init_295 : decode (zb m_M_init) 295 = .ok (.return_, 1) := zdal_p dlC_M_init_5 (i := 23) rfl
theorem dlC_M_builds_6 : zdal (zb m_M_builds) [(0, (.aload_n 0, 1)), (1, (.invokevirtual 226, 3)), (4, (.pop, 1)), (5, (.aload_n 0, 1)), (6, (.iconst 1, 1)), (7, (.putfield 220, 3)), (10, (.aload_n 0, 1)), (11, (.getfield 38, 3)), (14, (.iconst 0, 1)), (15, (.iconst 1, 1)), (16, (.iastore, 1)), (17, (.iconst 0, 1)), (18, (.istore_n 1, 1)), (19, (.iload_n 1, 1)), (20, (.aload_n 0, 1)), (21, (.getfield 220, 3)), (24, (.if_icmp .ge 88, 3)), (27, (.iconst 1, 1)), (28, (.istore_n 2, 1)), (29, (.iload_n 2, 1)), (30, (.aload_n 0, 1)), (31, (.getfield 196, 3)), (34, (.if_icmp .ge 72, 3)), (37, (.aload_n 0, 1))] = true := zDs 0 (by decide +kernel)
theorem d_M_builds_0 : decode (zb m_M_builds) 0 = .ok (.aload_n 0, 1) := zdal_p dlC_M_builds_6 (i := 0) rfl
theorem d_M_builds_1 : decode (zb m_M_builds) 1 = .ok (.invokevirtual 226, 3) := zdal_p dlC_M_builds_6 (i := 1) rfl
theorem d_M_builds_4 : decode (zb m_M_builds) 4 = .ok (.pop, 1) := zdal_p dlC_M_builds_6 (i := 2) rfl
theorem d_M_builds_5 : decode (zb m_M_builds) 5 = .ok (.aload_n 0, 1) := zdal_p dlC_M_builds_6 (i := 3) rfl
theorem d_M_builds_6 : decode (zb m_M_builds) 6 = .ok (.iconst 1, 1) := zdal_p dlC_M_builds_6 (i := 4) rfl
theorem d_M_builds_7 : decode (zb m_M_builds) 7 = .ok (.putfield 220, 3) := zdal_p dlC_M_builds_6 (i := 5) rfl
theorem d_M_builds_10 : decode (zb m_M_builds) 10 = .ok (.aload_n 0, 1) := zdal_p dlC_M_builds_6 (i := 6) rfl
theorem d_M_builds_11 : decode (zb m_M_builds) 11 = .ok (.getfield 38, 3) := zdal_p dlC_M_builds_6 (i := 7) rfl
theorem d_M_builds_14 : decode (zb m_M_builds) 14 = .ok (.iconst 0, 1) := zdal_p dlC_M_builds_6 (i := 8) rfl
theorem d_M_builds_15 : decode (zb m_M_builds) 15 = .ok (.iconst 1, 1) := zdal_p dlC_M_builds_6 (i := 9) rfl
theorem d_M_builds_16 : decode (zb m_M_builds) 16 = .ok (.iastore, 1) := zdal_p dlC_M_builds_6 (i := 10) rfl
theorem d_M_builds_17 : decode (zb m_M_builds) 17 = .ok (.iconst 0, 1) := zdal_p dlC_M_builds_6 (i := 11) rfl
theorem d_M_builds_18 : decode (zb m_M_builds) 18 = .ok (.istore_n 1, 1) := zdal_p dlC_M_builds_6 (i := 12) rfl
theorem d_M_builds_19 : decode (zb m_M_builds) 19 = .ok (.iload_n 1, 1) := zdal_p dlC_M_builds_6 (i := 13) rfl
theorem d_M_builds_20 : decode (zb m_M_builds) 20 = .ok (.aload_n 0, 1) := zdal_p dlC_M_builds_6 (i := 14) rfl
theorem d_M_builds_21 : decode (zb m_M_builds) 21 = .ok (.getfield 220, 3) := zdal_p dlC_M_builds_6 (i := 15) rfl
theorem d_M_builds_24 : decode (zb m_M_builds) 24 = .ok (.if_icmp .ge 88, 3) := zdal_p dlC_M_builds_6 (i := 16) rfl
theorem d_M_builds_27 : decode (zb m_M_builds) 27 = .ok (.iconst 1, 1) := zdal_p dlC_M_builds_6 (i := 17) rfl
theorem d_M_builds_28 : decode (zb m_M_builds) 28 = .ok (.istore_n 2, 1) := zdal_p dlC_M_builds_6 (i := 18) rfl
theorem d_M_builds_29 : decode (zb m_M_builds) 29 = .ok (.iload_n 2, 1) := zdal_p dlC_M_builds_6 (i := 19) rfl
theorem d_M_builds_30 : decode (zb m_M_builds) 30 = .ok (.aload_n 0, 1) := zdal_p dlC_M_builds_6 (i := 20) rfl
theorem d_M_builds_31 : decode (zb m_M_builds) 31 = .ok (.getfield 196, 3) := zdal_p dlC_M_builds_6 (i := 21) rfl
theorem d_M_builds_34 : decode (zb m_M_builds) 34 = .ok (.if_icmp .ge 72, 3) := zdal_p dlC_M_builds_6 (i := 22) rfl
theorem d_M_builds_37 : decode (zb m_M_builds) 37 = .ok (.aload_n 0, 1) := zdal_p dlC_M_builds_6 (i := 23) rfl
theorem dlC_M_builds_7 : zdal (zb m_M_builds) [(38, (.getfield 38, 3)), (41, (.iload_n 1, 1)), (42, (.iaload, 1)), (43, (.iload_n 2, 1)), (44, (.invokestatic 213, 3)), (47, (.ifCond .eq 6, 3)), (50, (.goto 50, 3)), (53, (.aload_n 0, 1)), (54, (.aload_n 0, 1)), (55, (.getfield 38, 3)), (58, (.iload_n 1, 1)), (59, (.iaload, 1)), (60, (.iconst 1, 1)), (61, (.iload_n 2, 1)), (62, (.ishl, 1)), (63, (.ior, 1)), (64, (.invokevirtual 229, 3)), (67, (.istore_n 3, 1)), (68, (.aload_n 0, 1)), (69, (.iload_n 3, 1)), (70, (.invokevirtual 232, 3)), (73, (.iconst (-1), 1)), (74, (.if_icmp .eq 6, 3)), (77, (.goto 23, 3))] = true := zDs 38 (by decide +kernel)
theorem d_M_builds_38 : decode (zb m_M_builds) 38 = .ok (.getfield 38, 3) := zdal_p dlC_M_builds_7 (i := 0) rfl
theorem d_M_builds_41 : decode (zb m_M_builds) 41 = .ok (.iload_n 1, 1) := zdal_p dlC_M_builds_7 (i := 1) rfl
theorem d_M_builds_42 : decode (zb m_M_builds) 42 = .ok (.iaload, 1) := zdal_p dlC_M_builds_7 (i := 2) rfl
theorem d_M_builds_43 : decode (zb m_M_builds) 43 = .ok (.iload_n 2, 1) := zdal_p dlC_M_builds_7 (i := 3) rfl
theorem d_M_builds_44 : decode (zb m_M_builds) 44 = .ok (.invokestatic 213, 3) := zdal_p dlC_M_builds_7 (i := 4) rfl
theorem d_M_builds_47 : decode (zb m_M_builds) 47 = .ok (.ifCond .eq 6, 3) := zdal_p dlC_M_builds_7 (i := 5) rfl
theorem d_M_builds_50 : decode (zb m_M_builds) 50 = .ok (.goto 50, 3) := zdal_p dlC_M_builds_7 (i := 6) rfl
theorem d_M_builds_53 : decode (zb m_M_builds) 53 = .ok (.aload_n 0, 1) := zdal_p dlC_M_builds_7 (i := 7) rfl
theorem d_M_builds_54 : decode (zb m_M_builds) 54 = .ok (.aload_n 0, 1) := zdal_p dlC_M_builds_7 (i := 8) rfl
theorem d_M_builds_55 : decode (zb m_M_builds) 55 = .ok (.getfield 38, 3) := zdal_p dlC_M_builds_7 (i := 9) rfl
theorem d_M_builds_58 : decode (zb m_M_builds) 58 = .ok (.iload_n 1, 1) := zdal_p dlC_M_builds_7 (i := 10) rfl
theorem d_M_builds_59 : decode (zb m_M_builds) 59 = .ok (.iaload, 1) := zdal_p dlC_M_builds_7 (i := 11) rfl
theorem d_M_builds_60 : decode (zb m_M_builds) 60 = .ok (.iconst 1, 1) := zdal_p dlC_M_builds_7 (i := 12) rfl
theorem d_M_builds_61 : decode (zb m_M_builds) 61 = .ok (.iload_n 2, 1) := zdal_p dlC_M_builds_7 (i := 13) rfl
theorem d_M_builds_62 : decode (zb m_M_builds) 62 = .ok (.ishl, 1) := zdal_p dlC_M_builds_7 (i := 14) rfl
theorem d_M_builds_63 : decode (zb m_M_builds) 63 = .ok (.ior, 1) := zdal_p dlC_M_builds_7 (i := 15) rfl
theorem d_M_builds_64 : decode (zb m_M_builds) 64 = .ok (.invokevirtual 229, 3) := zdal_p dlC_M_builds_7 (i := 16) rfl
theorem d_M_builds_67 : decode (zb m_M_builds) 67 = .ok (.istore_n 3, 1) := zdal_p dlC_M_builds_7 (i := 17) rfl
theorem d_M_builds_68 : decode (zb m_M_builds) 68 = .ok (.aload_n 0, 1) := zdal_p dlC_M_builds_7 (i := 18) rfl
theorem d_M_builds_69 : decode (zb m_M_builds) 69 = .ok (.iload_n 3, 1) := zdal_p dlC_M_builds_7 (i := 19) rfl
theorem d_M_builds_70 : decode (zb m_M_builds) 70 = .ok (.invokevirtual 232, 3) := zdal_p dlC_M_builds_7 (i := 20) rfl
theorem d_M_builds_73 : decode (zb m_M_builds) 73 = .ok (.iconst (-1), 1) := zdal_p dlC_M_builds_7 (i := 21) rfl
theorem d_M_builds_74 : decode (zb m_M_builds) 74 = .ok (.if_icmp .eq 6, 3) := zdal_p dlC_M_builds_7 (i := 22) rfl
theorem d_M_builds_77 : decode (zb m_M_builds) 77 = .ok (.goto 23, 3) := zdal_p dlC_M_builds_7 (i := 23) rfl
theorem dlC_M_builds_8 : zdal (zb m_M_builds) [(80, (.aload_n 0, 1)), (81, (.getfield 38, 3)), (84, (.aload_n 0, 1)), (85, (.getfield 220, 3)), (88, (.iload_n 3, 1)), (89, (.iastore, 1)), (90, (.aload_n 0, 1)), (91, (.dup, 1)), (92, (.getfield 220, 3)), (95, (.iconst 1, 1)), (96, (.iadd, 1)), (97, (.putfield 220, 3)), (100, (.iinc 2 1, 3)), (103, (.goto (-74), 3)), (106, (.iinc 1 1, 3)), (109, (.goto (-90), 3)), (112, (.aload_n 0, 1)), (113, (.iconst 0, 1)), (114, (.putfield 235, 3)), (117, (.iconst 0, 1)), (118, (.istore_n 1, 1)), (119, (.iload_n 1, 1)), (120, (.aload_n 0, 1)), (121, (.getfield 220, 3))] = true := zDs 80 (by decide +kernel)
theorem d_M_builds_80 : decode (zb m_M_builds) 80 = .ok (.aload_n 0, 1) := zdal_p dlC_M_builds_8 (i := 0) rfl
theorem d_M_builds_81 : decode (zb m_M_builds) 81 = .ok (.getfield 38, 3) := zdal_p dlC_M_builds_8 (i := 1) rfl
theorem d_M_builds_84 : decode (zb m_M_builds) 84 = .ok (.aload_n 0, 1) := zdal_p dlC_M_builds_8 (i := 2) rfl
theorem d_M_builds_85 : decode (zb m_M_builds) 85 = .ok (.getfield 220, 3) := zdal_p dlC_M_builds_8 (i := 3) rfl
theorem d_M_builds_88 : decode (zb m_M_builds) 88 = .ok (.iload_n 3, 1) := zdal_p dlC_M_builds_8 (i := 4) rfl
theorem d_M_builds_89 : decode (zb m_M_builds) 89 = .ok (.iastore, 1) := zdal_p dlC_M_builds_8 (i := 5) rfl
theorem d_M_builds_90 : decode (zb m_M_builds) 90 = .ok (.aload_n 0, 1) := zdal_p dlC_M_builds_8 (i := 6) rfl
theorem d_M_builds_91 : decode (zb m_M_builds) 91 = .ok (.dup, 1) := zdal_p dlC_M_builds_8 (i := 7) rfl
theorem d_M_builds_92 : decode (zb m_M_builds) 92 = .ok (.getfield 220, 3) := zdal_p dlC_M_builds_8 (i := 8) rfl
theorem d_M_builds_95 : decode (zb m_M_builds) 95 = .ok (.iconst 1, 1) := zdal_p dlC_M_builds_8 (i := 9) rfl
theorem d_M_builds_96 : decode (zb m_M_builds) 96 = .ok (.iadd, 1) := zdal_p dlC_M_builds_8 (i := 10) rfl
theorem d_M_builds_97 : decode (zb m_M_builds) 97 = .ok (.putfield 220, 3) := zdal_p dlC_M_builds_8 (i := 11) rfl
theorem d_M_builds_100 : decode (zb m_M_builds) 100 = .ok (.iinc 2 1, 3) := zdal_p dlC_M_builds_8 (i := 12) rfl
theorem d_M_builds_103 : decode (zb m_M_builds) 103 = .ok (.goto (-74), 3) := zdal_p dlC_M_builds_8 (i := 13) rfl
theorem d_M_builds_106 : decode (zb m_M_builds) 106 = .ok (.iinc 1 1, 3) := zdal_p dlC_M_builds_8 (i := 14) rfl
theorem d_M_builds_109 : decode (zb m_M_builds) 109 = .ok (.goto (-90), 3) := zdal_p dlC_M_builds_8 (i := 15) rfl
theorem d_M_builds_112 : decode (zb m_M_builds) 112 = .ok (.aload_n 0, 1) := zdal_p dlC_M_builds_8 (i := 16) rfl
theorem d_M_builds_113 : decode (zb m_M_builds) 113 = .ok (.iconst 0, 1) := zdal_p dlC_M_builds_8 (i := 17) rfl
theorem d_M_builds_114 : decode (zb m_M_builds) 114 = .ok (.putfield 235, 3) := zdal_p dlC_M_builds_8 (i := 18) rfl
theorem d_M_builds_117 : decode (zb m_M_builds) 117 = .ok (.iconst 0, 1) := zdal_p dlC_M_builds_8 (i := 19) rfl
theorem d_M_builds_118 : decode (zb m_M_builds) 118 = .ok (.istore_n 1, 1) := zdal_p dlC_M_builds_8 (i := 20) rfl
theorem d_M_builds_119 : decode (zb m_M_builds) 119 = .ok (.iload_n 1, 1) := zdal_p dlC_M_builds_8 (i := 21) rfl
theorem d_M_builds_120 : decode (zb m_M_builds) 120 = .ok (.aload_n 0, 1) := zdal_p dlC_M_builds_8 (i := 22) rfl
theorem d_M_builds_121 : decode (zb m_M_builds) 121 = .ok (.getfield 220, 3) := zdal_p dlC_M_builds_8 (i := 23) rfl
theorem dlC_M_builds_9 : zdal (zb m_M_builds) [(124, (.if_icmp .ge 38, 3)), (127, (.aload_n 0, 1)), (128, (.aload_n 0, 1)), (129, (.getfield 38, 3)), (132, (.iload_n 1, 1)), (133, (.iaload, 1)), (134, (.invokevirtual 238, 3)), (137, (.aload_n 0, 1)), (138, (.getfield 38, 3)), (141, (.iload_n 1, 1)), (142, (.iaload, 1)), (143, (.if_icmp .ne 13, 3)), (146, (.aload_n 0, 1)), (147, (.aload_n 0, 1)), (148, (.getfield 38, 3)), (151, (.iload_n 1, 1)), (152, (.iaload, 1)), (153, (.invokevirtual 241, 3)), (156, (.iinc 1 1, 3)), (159, (.goto (-40), 3)), (162, (.iconst 0, 1)), (163, (.istore_n 1, 1)), (164, (.iload_n 1, 1)), (165, (.aload_n 0, 1))] = true := zDs 124 (by decide +kernel)
theorem d_M_builds_124 : decode (zb m_M_builds) 124 = .ok (.if_icmp .ge 38, 3) := zdal_p dlC_M_builds_9 (i := 0) rfl
theorem d_M_builds_127 : decode (zb m_M_builds) 127 = .ok (.aload_n 0, 1) := zdal_p dlC_M_builds_9 (i := 1) rfl
theorem d_M_builds_128 : decode (zb m_M_builds) 128 = .ok (.aload_n 0, 1) := zdal_p dlC_M_builds_9 (i := 2) rfl
theorem d_M_builds_129 : decode (zb m_M_builds) 129 = .ok (.getfield 38, 3) := zdal_p dlC_M_builds_9 (i := 3) rfl
theorem d_M_builds_132 : decode (zb m_M_builds) 132 = .ok (.iload_n 1, 1) := zdal_p dlC_M_builds_9 (i := 4) rfl
theorem d_M_builds_133 : decode (zb m_M_builds) 133 = .ok (.iaload, 1) := zdal_p dlC_M_builds_9 (i := 5) rfl
theorem d_M_builds_134 : decode (zb m_M_builds) 134 = .ok (.invokevirtual 238, 3) := zdal_p dlC_M_builds_9 (i := 6) rfl
theorem d_M_builds_137 : decode (zb m_M_builds) 137 = .ok (.aload_n 0, 1) := zdal_p dlC_M_builds_9 (i := 7) rfl
theorem d_M_builds_138 : decode (zb m_M_builds) 138 = .ok (.getfield 38, 3) := zdal_p dlC_M_builds_9 (i := 8) rfl
theorem d_M_builds_141 : decode (zb m_M_builds) 141 = .ok (.iload_n 1, 1) := zdal_p dlC_M_builds_9 (i := 9) rfl
theorem d_M_builds_142 : decode (zb m_M_builds) 142 = .ok (.iaload, 1) := zdal_p dlC_M_builds_9 (i := 10) rfl
theorem d_M_builds_143 : decode (zb m_M_builds) 143 = .ok (.if_icmp .ne 13, 3) := zdal_p dlC_M_builds_9 (i := 11) rfl
theorem d_M_builds_146 : decode (zb m_M_builds) 146 = .ok (.aload_n 0, 1) := zdal_p dlC_M_builds_9 (i := 12) rfl
theorem d_M_builds_147 : decode (zb m_M_builds) 147 = .ok (.aload_n 0, 1) := zdal_p dlC_M_builds_9 (i := 13) rfl
theorem d_M_builds_148 : decode (zb m_M_builds) 148 = .ok (.getfield 38, 3) := zdal_p dlC_M_builds_9 (i := 14) rfl
theorem d_M_builds_151 : decode (zb m_M_builds) 151 = .ok (.iload_n 1, 1) := zdal_p dlC_M_builds_9 (i := 15) rfl
theorem d_M_builds_152 : decode (zb m_M_builds) 152 = .ok (.iaload, 1) := zdal_p dlC_M_builds_9 (i := 16) rfl
theorem d_M_builds_153 : decode (zb m_M_builds) 153 = .ok (.invokevirtual 241, 3) := zdal_p dlC_M_builds_9 (i := 17) rfl
theorem d_M_builds_156 : decode (zb m_M_builds) 156 = .ok (.iinc 1 1, 3) := zdal_p dlC_M_builds_9 (i := 18) rfl
theorem d_M_builds_159 : decode (zb m_M_builds) 159 = .ok (.goto (-40), 3) := zdal_p dlC_M_builds_9 (i := 19) rfl
theorem d_M_builds_162 : decode (zb m_M_builds) 162 = .ok (.iconst 0, 1) := zdal_p dlC_M_builds_9 (i := 20) rfl
theorem d_M_builds_163 : decode (zb m_M_builds) 163 = .ok (.istore_n 1, 1) := zdal_p dlC_M_builds_9 (i := 21) rfl
theorem d_M_builds_164 : decode (zb m_M_builds) 164 = .ok (.iload_n 1, 1) := zdal_p dlC_M_builds_9 (i := 22) rfl
theorem d_M_builds_165 : decode (zb m_M_builds) 165 = .ok (.aload_n 0, 1) := zdal_p dlC_M_builds_9 (i := 23) rfl
theorem dlC_M_builds_10 : zdal (zb m_M_builds) [(166, (.getfield 235, 3)), (169, (.if_icmp .ge 16, 3)), (172, (.aload_n 0, 1)), (173, (.getfield 47, 3)), (176, (.iload_n 1, 1)), (177, (.iconst 0, 1)), (178, (.iastore, 1)), (179, (.iinc 1 1, 3)), (182, (.goto (-18), 3)), (185, (.iconst 0, 1)), (186, (.istore_n 1, 1)), (187, (.iload_n 1, 1)), (188, (.aload_n 0, 1)), (189, (.getfield 220, 3)), (192, (.if_icmp .ge 44, 3)), (195, (.aload_n 0, 1)), (196, (.getfield 41, 3)), (199, (.iload_n 1, 1)), (200, (.aload_n 0, 1)), (201, (.aload_n 0, 1)), (202, (.aload_n 0, 1)), (203, (.getfield 38, 3)), (206, (.iload_n 1, 1)), (207, (.iaload, 1))] = true := zDs 166 (by decide +kernel)
theorem d_M_builds_166 : decode (zb m_M_builds) 166 = .ok (.getfield 235, 3) := zdal_p dlC_M_builds_10 (i := 0) rfl
theorem d_M_builds_169 : decode (zb m_M_builds) 169 = .ok (.if_icmp .ge 16, 3) := zdal_p dlC_M_builds_10 (i := 1) rfl
theorem d_M_builds_172 : decode (zb m_M_builds) 172 = .ok (.aload_n 0, 1) := zdal_p dlC_M_builds_10 (i := 2) rfl
theorem d_M_builds_173 : decode (zb m_M_builds) 173 = .ok (.getfield 47, 3) := zdal_p dlC_M_builds_10 (i := 3) rfl
theorem d_M_builds_176 : decode (zb m_M_builds) 176 = .ok (.iload_n 1, 1) := zdal_p dlC_M_builds_10 (i := 4) rfl
theorem d_M_builds_177 : decode (zb m_M_builds) 177 = .ok (.iconst 0, 1) := zdal_p dlC_M_builds_10 (i := 5) rfl
theorem d_M_builds_178 : decode (zb m_M_builds) 178 = .ok (.iastore, 1) := zdal_p dlC_M_builds_10 (i := 6) rfl
theorem d_M_builds_179 : decode (zb m_M_builds) 179 = .ok (.iinc 1 1, 3) := zdal_p dlC_M_builds_10 (i := 7) rfl
theorem d_M_builds_182 : decode (zb m_M_builds) 182 = .ok (.goto (-18), 3) := zdal_p dlC_M_builds_10 (i := 8) rfl
theorem d_M_builds_185 : decode (zb m_M_builds) 185 = .ok (.iconst 0, 1) := zdal_p dlC_M_builds_10 (i := 9) rfl
theorem d_M_builds_186 : decode (zb m_M_builds) 186 = .ok (.istore_n 1, 1) := zdal_p dlC_M_builds_10 (i := 10) rfl
theorem d_M_builds_187 : decode (zb m_M_builds) 187 = .ok (.iload_n 1, 1) := zdal_p dlC_M_builds_10 (i := 11) rfl
theorem d_M_builds_188 : decode (zb m_M_builds) 188 = .ok (.aload_n 0, 1) := zdal_p dlC_M_builds_10 (i := 12) rfl
theorem d_M_builds_189 : decode (zb m_M_builds) 189 = .ok (.getfield 220, 3) := zdal_p dlC_M_builds_10 (i := 13) rfl
theorem d_M_builds_192 : decode (zb m_M_builds) 192 = .ok (.if_icmp .ge 44, 3) := zdal_p dlC_M_builds_10 (i := 14) rfl
theorem d_M_builds_195 : decode (zb m_M_builds) 195 = .ok (.aload_n 0, 1) := zdal_p dlC_M_builds_10 (i := 15) rfl
theorem d_M_builds_196 : decode (zb m_M_builds) 196 = .ok (.getfield 41, 3) := zdal_p dlC_M_builds_10 (i := 16) rfl
theorem d_M_builds_199 : decode (zb m_M_builds) 199 = .ok (.iload_n 1, 1) := zdal_p dlC_M_builds_10 (i := 17) rfl
theorem d_M_builds_200 : decode (zb m_M_builds) 200 = .ok (.aload_n 0, 1) := zdal_p dlC_M_builds_10 (i := 18) rfl
theorem d_M_builds_201 : decode (zb m_M_builds) 201 = .ok (.aload_n 0, 1) := zdal_p dlC_M_builds_10 (i := 19) rfl
theorem d_M_builds_202 : decode (zb m_M_builds) 202 = .ok (.aload_n 0, 1) := zdal_p dlC_M_builds_10 (i := 20) rfl
theorem d_M_builds_203 : decode (zb m_M_builds) 203 = .ok (.getfield 38, 3) := zdal_p dlC_M_builds_10 (i := 21) rfl
theorem d_M_builds_206 : decode (zb m_M_builds) 206 = .ok (.iload_n 1, 1) := zdal_p dlC_M_builds_10 (i := 22) rfl
theorem d_M_builds_207 : decode (zb m_M_builds) 207 = .ok (.iaload, 1) := zdal_p dlC_M_builds_10 (i := 23) rfl
theorem dlC_M_builds_11 : zdal (zb m_M_builds) [(208, (.invokevirtual 238, 3)), (211, (.invokevirtual 244, 3)), (214, (.iastore, 1)), (215, (.aload_n 0, 1)), (216, (.getfield 47, 3)), (219, (.aload_n 0, 1)), (220, (.getfield 41, 3)), (223, (.iload_n 1, 1)), (224, (.iaload, 1)), (225, (.dup2, 1)), (226, (.iaload, 1)), (227, (.iconst 1, 1)), (228, (.iadd, 1)), (229, (.iastore, 1)), (230, (.iinc 1 1, 3)), (233, (.goto (-46), 3)), (236, (.iconst 0, 1)), (237, (.istore_n 1, 1)), (238, (.iload_n 1, 1)), (239, (.aload_n 0, 1)), (240, (.getfield 235, 3)), (243, (.if_icmp .ge 47, 3)), (246, (.iconst 0, 1)), (247, (.istore_n 2, 1))] = true := zDs 208 (by decide +kernel)
theorem d_M_builds_208 : decode (zb m_M_builds) 208 = .ok (.invokevirtual 238, 3) := zdal_p dlC_M_builds_11 (i := 0) rfl
theorem d_M_builds_211 : decode (zb m_M_builds) 211 = .ok (.invokevirtual 244, 3) := zdal_p dlC_M_builds_11 (i := 1) rfl
theorem d_M_builds_214 : decode (zb m_M_builds) 214 = .ok (.iastore, 1) := zdal_p dlC_M_builds_11 (i := 2) rfl
theorem d_M_builds_215 : decode (zb m_M_builds) 215 = .ok (.aload_n 0, 1) := zdal_p dlC_M_builds_11 (i := 3) rfl
theorem d_M_builds_216 : decode (zb m_M_builds) 216 = .ok (.getfield 47, 3) := zdal_p dlC_M_builds_11 (i := 4) rfl
theorem d_M_builds_219 : decode (zb m_M_builds) 219 = .ok (.aload_n 0, 1) := zdal_p dlC_M_builds_11 (i := 5) rfl
theorem d_M_builds_220 : decode (zb m_M_builds) 220 = .ok (.getfield 41, 3) := zdal_p dlC_M_builds_11 (i := 6) rfl
theorem d_M_builds_223 : decode (zb m_M_builds) 223 = .ok (.iload_n 1, 1) := zdal_p dlC_M_builds_11 (i := 7) rfl
theorem d_M_builds_224 : decode (zb m_M_builds) 224 = .ok (.iaload, 1) := zdal_p dlC_M_builds_11 (i := 8) rfl
theorem d_M_builds_225 : decode (zb m_M_builds) 225 = .ok (.dup2, 1) := zdal_p dlC_M_builds_11 (i := 9) rfl
theorem d_M_builds_226 : decode (zb m_M_builds) 226 = .ok (.iaload, 1) := zdal_p dlC_M_builds_11 (i := 10) rfl
theorem d_M_builds_227 : decode (zb m_M_builds) 227 = .ok (.iconst 1, 1) := zdal_p dlC_M_builds_11 (i := 11) rfl
theorem d_M_builds_228 : decode (zb m_M_builds) 228 = .ok (.iadd, 1) := zdal_p dlC_M_builds_11 (i := 12) rfl
theorem d_M_builds_229 : decode (zb m_M_builds) 229 = .ok (.iastore, 1) := zdal_p dlC_M_builds_11 (i := 13) rfl
theorem d_M_builds_230 : decode (zb m_M_builds) 230 = .ok (.iinc 1 1, 3) := zdal_p dlC_M_builds_11 (i := 14) rfl
theorem d_M_builds_233 : decode (zb m_M_builds) 233 = .ok (.goto (-46), 3) := zdal_p dlC_M_builds_11 (i := 15) rfl
theorem d_M_builds_236 : decode (zb m_M_builds) 236 = .ok (.iconst 0, 1) := zdal_p dlC_M_builds_11 (i := 16) rfl
theorem d_M_builds_237 : decode (zb m_M_builds) 237 = .ok (.istore_n 1, 1) := zdal_p dlC_M_builds_11 (i := 17) rfl
theorem d_M_builds_238 : decode (zb m_M_builds) 238 = .ok (.iload_n 1, 1) := zdal_p dlC_M_builds_11 (i := 18) rfl
theorem d_M_builds_239 : decode (zb m_M_builds) 239 = .ok (.aload_n 0, 1) := zdal_p dlC_M_builds_11 (i := 19) rfl
theorem d_M_builds_240 : decode (zb m_M_builds) 240 = .ok (.getfield 235, 3) := zdal_p dlC_M_builds_11 (i := 20) rfl
theorem d_M_builds_243 : decode (zb m_M_builds) 243 = .ok (.if_icmp .ge 47, 3) := zdal_p dlC_M_builds_11 (i := 21) rfl
theorem d_M_builds_246 : decode (zb m_M_builds) 246 = .ok (.iconst 0, 1) := zdal_p dlC_M_builds_11 (i := 22) rfl
theorem d_M_builds_247 : decode (zb m_M_builds) 247 = .ok (.istore_n 2, 1) := zdal_p dlC_M_builds_11 (i := 23) rfl
theorem dlC_M_builds_12 : zdal (zb m_M_builds) [(248, (.iload_n 2, 1)), (249, (.aload_n 0, 1)), (250, (.getfield 196, 3)), (253, (.if_icmp .ge 31, 3)), (256, (.aload_n 0, 1)), (257, (.getfield 53, 3)), (260, (.bipush 24, 2)), (262, (.iload_n 1, 1)), (263, (.imul, 1)), (264, (.iload_n 2, 1)), (265, (.iadd, 1)), (266, (.aload_n 0, 1)), (267, (.aload_n 0, 1)), (268, (.getfield 44, 3)), (271, (.iload_n 1, 1)), (272, (.iaload, 1)), (273, (.iload_n 2, 1)), (274, (.invokevirtual 247, 3)), (277, (.iastore, 1)), (278, (.iinc 2 1, 3)), (281, (.goto (-33), 3)), (284, (.iinc 1 1, 3)), (287, (.goto (-49), 3)), (290, (.iconst 0, 1))] = true := zDs 248 (by decide +kernel)
theorem d_M_builds_248 : decode (zb m_M_builds) 248 = .ok (.iload_n 2, 1) := zdal_p dlC_M_builds_12 (i := 0) rfl
theorem d_M_builds_249 : decode (zb m_M_builds) 249 = .ok (.aload_n 0, 1) := zdal_p dlC_M_builds_12 (i := 1) rfl
theorem d_M_builds_250 : decode (zb m_M_builds) 250 = .ok (.getfield 196, 3) := zdal_p dlC_M_builds_12 (i := 2) rfl
theorem d_M_builds_253 : decode (zb m_M_builds) 253 = .ok (.if_icmp .ge 31, 3) := zdal_p dlC_M_builds_12 (i := 3) rfl
theorem d_M_builds_256 : decode (zb m_M_builds) 256 = .ok (.aload_n 0, 1) := zdal_p dlC_M_builds_12 (i := 4) rfl
theorem d_M_builds_257 : decode (zb m_M_builds) 257 = .ok (.getfield 53, 3) := zdal_p dlC_M_builds_12 (i := 5) rfl
theorem d_M_builds_260 : decode (zb m_M_builds) 260 = .ok (.bipush 24, 2) := zdal_p dlC_M_builds_12 (i := 6) rfl
theorem d_M_builds_262 : decode (zb m_M_builds) 262 = .ok (.iload_n 1, 1) := zdal_p dlC_M_builds_12 (i := 7) rfl
theorem d_M_builds_263 : decode (zb m_M_builds) 263 = .ok (.imul, 1) := zdal_p dlC_M_builds_12 (i := 8) rfl
theorem d_M_builds_264 : decode (zb m_M_builds) 264 = .ok (.iload_n 2, 1) := zdal_p dlC_M_builds_12 (i := 9) rfl
theorem d_M_builds_265 : decode (zb m_M_builds) 265 = .ok (.iadd, 1) := zdal_p dlC_M_builds_12 (i := 10) rfl
theorem d_M_builds_266 : decode (zb m_M_builds) 266 = .ok (.aload_n 0, 1) := zdal_p dlC_M_builds_12 (i := 11) rfl
theorem d_M_builds_267 : decode (zb m_M_builds) 267 = .ok (.aload_n 0, 1) := zdal_p dlC_M_builds_12 (i := 12) rfl
theorem d_M_builds_268 : decode (zb m_M_builds) 268 = .ok (.getfield 44, 3) := zdal_p dlC_M_builds_12 (i := 13) rfl
theorem d_M_builds_271 : decode (zb m_M_builds) 271 = .ok (.iload_n 1, 1) := zdal_p dlC_M_builds_12 (i := 14) rfl
theorem d_M_builds_272 : decode (zb m_M_builds) 272 = .ok (.iaload, 1) := zdal_p dlC_M_builds_12 (i := 15) rfl
theorem d_M_builds_273 : decode (zb m_M_builds) 273 = .ok (.iload_n 2, 1) := zdal_p dlC_M_builds_12 (i := 16) rfl
theorem d_M_builds_274 : decode (zb m_M_builds) 274 = .ok (.invokevirtual 247, 3) := zdal_p dlC_M_builds_12 (i := 17) rfl
theorem d_M_builds_277 : decode (zb m_M_builds) 277 = .ok (.iastore, 1) := zdal_p dlC_M_builds_12 (i := 18) rfl
theorem d_M_builds_278 : decode (zb m_M_builds) 278 = .ok (.iinc 2 1, 3) := zdal_p dlC_M_builds_12 (i := 19) rfl
theorem d_M_builds_281 : decode (zb m_M_builds) 281 = .ok (.goto (-33), 3) := zdal_p dlC_M_builds_12 (i := 20) rfl
theorem d_M_builds_284 : decode (zb m_M_builds) 284 = .ok (.iinc 1 1, 3) := zdal_p dlC_M_builds_12 (i := 21) rfl
theorem d_M_builds_287 : decode (zb m_M_builds) 287 = .ok (.goto (-49), 3) := zdal_p dlC_M_builds_12 (i := 22) rfl
theorem d_M_builds_290 : decode (zb m_M_builds) 290 = .ok (.iconst 0, 1) := zdal_p dlC_M_builds_12 (i := 23) rfl
theorem dlC_M_builds_13 : zdal (zb m_M_builds) [(291, (.istore_n 1, 1)), (292, (.iload_n 1, 1)), (293, (.aload_n 0, 1)), (294, (.getfield 235, 3)), (297, (.if_icmp .ge 47, 3)), (300, (.iconst 0, 1)), (301, (.istore_n 2, 1)), (302, (.iload_n 2, 1)), (303, (.aload_n 0, 1)), (304, (.getfield 235, 3)), (307, (.if_icmp .ge 31, 3)), (310, (.aload_n 0, 1)), (311, (.getfield 50, 3)), (314, (.bipush 64, 2)), (316, (.iload_n 1, 1)), (317, (.imul, 1)), (318, (.iload_n 2, 1)), (319, (.iadd, 1)), (320, (.aload_n 0, 1)), (321, (.iload_n 1, 1)), (322, (.aload_n 0, 1)), (323, (.getfield 44, 3)), (326, (.iload_n 2, 1)), (327, (.iaload, 1))] = true := zDs 291 (by decide +kernel)
theorem d_M_builds_291 : decode (zb m_M_builds) 291 = .ok (.istore_n 1, 1) := zdal_p dlC_M_builds_13 (i := 0) rfl
theorem d_M_builds_292 : decode (zb m_M_builds) 292 = .ok (.iload_n 1, 1) := zdal_p dlC_M_builds_13 (i := 1) rfl
theorem d_M_builds_293 : decode (zb m_M_builds) 293 = .ok (.aload_n 0, 1) := zdal_p dlC_M_builds_13 (i := 2) rfl
theorem d_M_builds_294 : decode (zb m_M_builds) 294 = .ok (.getfield 235, 3) := zdal_p dlC_M_builds_13 (i := 3) rfl
theorem d_M_builds_297 : decode (zb m_M_builds) 297 = .ok (.if_icmp .ge 47, 3) := zdal_p dlC_M_builds_13 (i := 4) rfl
theorem d_M_builds_300 : decode (zb m_M_builds) 300 = .ok (.iconst 0, 1) := zdal_p dlC_M_builds_13 (i := 5) rfl
theorem d_M_builds_301 : decode (zb m_M_builds) 301 = .ok (.istore_n 2, 1) := zdal_p dlC_M_builds_13 (i := 6) rfl
theorem d_M_builds_302 : decode (zb m_M_builds) 302 = .ok (.iload_n 2, 1) := zdal_p dlC_M_builds_13 (i := 7) rfl
theorem d_M_builds_303 : decode (zb m_M_builds) 303 = .ok (.aload_n 0, 1) := zdal_p dlC_M_builds_13 (i := 8) rfl
theorem d_M_builds_304 : decode (zb m_M_builds) 304 = .ok (.getfield 235, 3) := zdal_p dlC_M_builds_13 (i := 9) rfl
theorem d_M_builds_307 : decode (zb m_M_builds) 307 = .ok (.if_icmp .ge 31, 3) := zdal_p dlC_M_builds_13 (i := 10) rfl
theorem d_M_builds_310 : decode (zb m_M_builds) 310 = .ok (.aload_n 0, 1) := zdal_p dlC_M_builds_13 (i := 11) rfl
theorem d_M_builds_311 : decode (zb m_M_builds) 311 = .ok (.getfield 50, 3) := zdal_p dlC_M_builds_13 (i := 12) rfl
theorem d_M_builds_314 : decode (zb m_M_builds) 314 = .ok (.bipush 64, 2) := zdal_p dlC_M_builds_13 (i := 13) rfl
theorem d_M_builds_316 : decode (zb m_M_builds) 316 = .ok (.iload_n 1, 1) := zdal_p dlC_M_builds_13 (i := 14) rfl
theorem d_M_builds_317 : decode (zb m_M_builds) 317 = .ok (.imul, 1) := zdal_p dlC_M_builds_13 (i := 15) rfl
theorem d_M_builds_318 : decode (zb m_M_builds) 318 = .ok (.iload_n 2, 1) := zdal_p dlC_M_builds_13 (i := 16) rfl
theorem d_M_builds_319 : decode (zb m_M_builds) 319 = .ok (.iadd, 1) := zdal_p dlC_M_builds_13 (i := 17) rfl
theorem d_M_builds_320 : decode (zb m_M_builds) 320 = .ok (.aload_n 0, 1) := zdal_p dlC_M_builds_13 (i := 18) rfl
theorem d_M_builds_321 : decode (zb m_M_builds) 321 = .ok (.iload_n 1, 1) := zdal_p dlC_M_builds_13 (i := 19) rfl
theorem d_M_builds_322 : decode (zb m_M_builds) 322 = .ok (.aload_n 0, 1) := zdal_p dlC_M_builds_13 (i := 20) rfl
theorem d_M_builds_323 : decode (zb m_M_builds) 323 = .ok (.getfield 44, 3) := zdal_p dlC_M_builds_13 (i := 21) rfl
theorem d_M_builds_326 : decode (zb m_M_builds) 326 = .ok (.iload_n 2, 1) := zdal_p dlC_M_builds_13 (i := 22) rfl
theorem d_M_builds_327 : decode (zb m_M_builds) 327 = .ok (.iaload, 1) := zdal_p dlC_M_builds_13 (i := 23) rfl
theorem dlC_M_builds_14 : zdal (zb m_M_builds) [(328, (.invokevirtual 250, 3)), (331, (.iastore, 1)), (332, (.iinc 2 1, 3)), (335, (.goto (-33), 3)), (338, (.iinc 1 1, 3)), (341, (.goto (-49), 3)), (344, (.return_, 1))] = true := zDs 328 (by decide +kernel)
theorem d_M_builds_328 : decode (zb m_M_builds) 328 = .ok (.invokevirtual 250, 3) := zdal_p dlC_M_builds_14 (i := 0) rfl
theorem d_M_builds_331 : decode (zb m_M_builds) 331 = .ok (.iastore, 1) := zdal_p dlC_M_builds_14 (i := 1) rfl
theorem d_M_builds_332 : decode (zb m_M_builds) 332 = .ok (.iinc 2 1, 3) := zdal_p dlC_M_builds_14 (i := 2) rfl
theorem d_M_builds_335 : decode (zb m_M_builds) 335 = .ok (.goto (-33), 3) := zdal_p dlC_M_builds_14 (i := 3) rfl
theorem d_M_builds_338 : decode (zb m_M_builds) 338 = .ok (.iinc 1 1, 3) := zdal_p dlC_M_builds_14 (i := 4) rfl
theorem d_M_builds_341 : decode (zb m_M_builds) 341 = .ok (.goto (-49), 3) := zdal_p dlC_M_builds_14 (i := 5) rfl
theorem d_M_builds_344 : decode (zb m_M_builds) 344 = .ok (.return_, 1) := zdal_p dlC_M_builds_14 (i := 6) rfl
theorem dlC_M_buildsMembers_15 : zdal (zb m_M_buildsMembers) [(0, (.aload_n 0, 1)), (1, (.iconst 1, 1)), (2, (.putfield 196, 3)), (5, (.iconst 0, 1)), (6, (.istore_n 1, 1)), (7, (.iload_n 1, 1)), (8, (.bipush 6, 2)), (10, (.if_icmp .ge 16, 3)), (13, (.aload_n 0, 1)), (14, (.getfield 26, 3)), (17, (.iload_n 1, 1)), (18, (.iload_n 1, 1)), (19, (.iastore, 1)), (20, (.iinc 1 1, 3)), (23, (.goto (-16), 3)), (26, (.iconst 0, 1)), (27, (.istore_n 1, 1)), (28, (.iload_n 1, 1)), (29, (.aload_n 0, 1)), (30, (.getfield 196, 3)), (33, (.if_icmp .ge 136, 3)), (36, (.iconst 0, 1)), (37, (.istore_n 2, 1)), (38, (.iload_n 2, 1))] = true := zDs 0 (by decide +kernel)
theorem d_M_buildsMembers_0 : decode (zb m_M_buildsMembers) 0 = .ok (.aload_n 0, 1) := zdal_p dlC_M_buildsMembers_15 (i := 0) rfl
theorem d_M_buildsMembers_1 : decode (zb m_M_buildsMembers) 1 = .ok (.iconst 1, 1) := zdal_p dlC_M_buildsMembers_15 (i := 1) rfl
theorem d_M_buildsMembers_2 : decode (zb m_M_buildsMembers) 2 = .ok (.putfield 196, 3) := zdal_p dlC_M_buildsMembers_15 (i := 2) rfl
theorem d_M_buildsMembers_5 : decode (zb m_M_buildsMembers) 5 = .ok (.iconst 0, 1) := zdal_p dlC_M_buildsMembers_15 (i := 3) rfl
theorem d_M_buildsMembers_6 : decode (zb m_M_buildsMembers) 6 = .ok (.istore_n 1, 1) := zdal_p dlC_M_buildsMembers_15 (i := 4) rfl
theorem d_M_buildsMembers_7 : decode (zb m_M_buildsMembers) 7 = .ok (.iload_n 1, 1) := zdal_p dlC_M_buildsMembers_15 (i := 5) rfl
theorem d_M_buildsMembers_8 : decode (zb m_M_buildsMembers) 8 = .ok (.bipush 6, 2) := zdal_p dlC_M_buildsMembers_15 (i := 6) rfl
theorem d_M_buildsMembers_10 : decode (zb m_M_buildsMembers) 10 = .ok (.if_icmp .ge 16, 3) := zdal_p dlC_M_buildsMembers_15 (i := 7) rfl
theorem d_M_buildsMembers_13 : decode (zb m_M_buildsMembers) 13 = .ok (.aload_n 0, 1) := zdal_p dlC_M_buildsMembers_15 (i := 8) rfl
theorem d_M_buildsMembers_14 : decode (zb m_M_buildsMembers) 14 = .ok (.getfield 26, 3) := zdal_p dlC_M_buildsMembers_15 (i := 9) rfl
theorem d_M_buildsMembers_17 : decode (zb m_M_buildsMembers) 17 = .ok (.iload_n 1, 1) := zdal_p dlC_M_buildsMembers_15 (i := 10) rfl
theorem d_M_buildsMembers_18 : decode (zb m_M_buildsMembers) 18 = .ok (.iload_n 1, 1) := zdal_p dlC_M_buildsMembers_15 (i := 11) rfl
theorem d_M_buildsMembers_19 : decode (zb m_M_buildsMembers) 19 = .ok (.iastore, 1) := zdal_p dlC_M_buildsMembers_15 (i := 12) rfl
theorem d_M_buildsMembers_20 : decode (zb m_M_buildsMembers) 20 = .ok (.iinc 1 1, 3) := zdal_p dlC_M_buildsMembers_15 (i := 13) rfl
theorem d_M_buildsMembers_23 : decode (zb m_M_buildsMembers) 23 = .ok (.goto (-16), 3) := zdal_p dlC_M_buildsMembers_15 (i := 14) rfl
theorem d_M_buildsMembers_26 : decode (zb m_M_buildsMembers) 26 = .ok (.iconst 0, 1) := zdal_p dlC_M_buildsMembers_15 (i := 15) rfl
theorem d_M_buildsMembers_27 : decode (zb m_M_buildsMembers) 27 = .ok (.istore_n 1, 1) := zdal_p dlC_M_buildsMembers_15 (i := 16) rfl
theorem d_M_buildsMembers_28 : decode (zb m_M_buildsMembers) 28 = .ok (.iload_n 1, 1) := zdal_p dlC_M_buildsMembers_15 (i := 17) rfl
theorem d_M_buildsMembers_29 : decode (zb m_M_buildsMembers) 29 = .ok (.aload_n 0, 1) := zdal_p dlC_M_buildsMembers_15 (i := 18) rfl
theorem d_M_buildsMembers_30 : decode (zb m_M_buildsMembers) 30 = .ok (.getfield 196, 3) := zdal_p dlC_M_buildsMembers_15 (i := 19) rfl
theorem d_M_buildsMembers_33 : decode (zb m_M_buildsMembers) 33 = .ok (.if_icmp .ge 136, 3) := zdal_p dlC_M_buildsMembers_15 (i := 20) rfl
theorem d_M_buildsMembers_36 : decode (zb m_M_buildsMembers) 36 = .ok (.iconst 0, 1) := zdal_p dlC_M_buildsMembers_15 (i := 21) rfl
theorem d_M_buildsMembers_37 : decode (zb m_M_buildsMembers) 37 = .ok (.istore_n 2, 1) := zdal_p dlC_M_buildsMembers_15 (i := 22) rfl
theorem d_M_buildsMembers_38 : decode (zb m_M_buildsMembers) 38 = .ok (.iload_n 2, 1) := zdal_p dlC_M_buildsMembers_15 (i := 23) rfl
theorem dlC_M_buildsMembers_16 : zdal (zb m_M_buildsMembers) [(39, (.aload_n 0, 1)), (40, (.getfield 199, 3)), (43, (.if_icmp .ge 120, 3)), (46, (.iconst 0, 1)), (47, (.istore_n 3, 1)), (48, (.iload_n 3, 1)), (49, (.aload_n 0, 1)), (50, (.getfield 115, 3)), (53, (.if_icmp .ge 36, 3)), (56, (.aload_n 0, 1)), (57, (.getfield 29, 3)), (60, (.iload_n 3, 1)), (61, (.aload_n 0, 1)), (62, (.getfield 20, 3)), (65, (.bipush 6, 2)), (67, (.iload_n 2, 1)), (68, (.imul, 1)), (69, (.aload_n 0, 1)), (70, (.getfield 26, 3)), (73, (.bipush 6, 2)), (75, (.iload_n 1, 1)), (76, (.imul, 1)), (77, (.iload_n 3, 1)), (78, (.iadd, 1))] = true := zDs 39 (by decide +kernel)
theorem d_M_buildsMembers_39 : decode (zb m_M_buildsMembers) 39 = .ok (.aload_n 0, 1) := zdal_p dlC_M_buildsMembers_16 (i := 0) rfl
theorem d_M_buildsMembers_40 : decode (zb m_M_buildsMembers) 40 = .ok (.getfield 199, 3) := zdal_p dlC_M_buildsMembers_16 (i := 1) rfl
theorem d_M_buildsMembers_43 : decode (zb m_M_buildsMembers) 43 = .ok (.if_icmp .ge 120, 3) := zdal_p dlC_M_buildsMembers_16 (i := 2) rfl
theorem d_M_buildsMembers_46 : decode (zb m_M_buildsMembers) 46 = .ok (.iconst 0, 1) := zdal_p dlC_M_buildsMembers_16 (i := 3) rfl
theorem d_M_buildsMembers_47 : decode (zb m_M_buildsMembers) 47 = .ok (.istore_n 3, 1) := zdal_p dlC_M_buildsMembers_16 (i := 4) rfl
theorem d_M_buildsMembers_48 : decode (zb m_M_buildsMembers) 48 = .ok (.iload_n 3, 1) := zdal_p dlC_M_buildsMembers_16 (i := 5) rfl
theorem d_M_buildsMembers_49 : decode (zb m_M_buildsMembers) 49 = .ok (.aload_n 0, 1) := zdal_p dlC_M_buildsMembers_16 (i := 6) rfl
theorem d_M_buildsMembers_50 : decode (zb m_M_buildsMembers) 50 = .ok (.getfield 115, 3) := zdal_p dlC_M_buildsMembers_16 (i := 7) rfl
theorem d_M_buildsMembers_53 : decode (zb m_M_buildsMembers) 53 = .ok (.if_icmp .ge 36, 3) := zdal_p dlC_M_buildsMembers_16 (i := 8) rfl
theorem d_M_buildsMembers_56 : decode (zb m_M_buildsMembers) 56 = .ok (.aload_n 0, 1) := zdal_p dlC_M_buildsMembers_16 (i := 9) rfl
theorem d_M_buildsMembers_57 : decode (zb m_M_buildsMembers) 57 = .ok (.getfield 29, 3) := zdal_p dlC_M_buildsMembers_16 (i := 10) rfl
theorem d_M_buildsMembers_60 : decode (zb m_M_buildsMembers) 60 = .ok (.iload_n 3, 1) := zdal_p dlC_M_buildsMembers_16 (i := 11) rfl
theorem d_M_buildsMembers_61 : decode (zb m_M_buildsMembers) 61 = .ok (.aload_n 0, 1) := zdal_p dlC_M_buildsMembers_16 (i := 12) rfl
theorem d_M_buildsMembers_62 : decode (zb m_M_buildsMembers) 62 = .ok (.getfield 20, 3) := zdal_p dlC_M_buildsMembers_16 (i := 13) rfl
theorem d_M_buildsMembers_65 : decode (zb m_M_buildsMembers) 65 = .ok (.bipush 6, 2) := zdal_p dlC_M_buildsMembers_16 (i := 14) rfl
theorem d_M_buildsMembers_67 : decode (zb m_M_buildsMembers) 67 = .ok (.iload_n 2, 1) := zdal_p dlC_M_buildsMembers_16 (i := 15) rfl
theorem d_M_buildsMembers_68 : decode (zb m_M_buildsMembers) 68 = .ok (.imul, 1) := zdal_p dlC_M_buildsMembers_16 (i := 16) rfl
theorem d_M_buildsMembers_69 : decode (zb m_M_buildsMembers) 69 = .ok (.aload_n 0, 1) := zdal_p dlC_M_buildsMembers_16 (i := 17) rfl
theorem d_M_buildsMembers_70 : decode (zb m_M_buildsMembers) 70 = .ok (.getfield 26, 3) := zdal_p dlC_M_buildsMembers_16 (i := 18) rfl
theorem d_M_buildsMembers_73 : decode (zb m_M_buildsMembers) 73 = .ok (.bipush 6, 2) := zdal_p dlC_M_buildsMembers_16 (i := 19) rfl
theorem d_M_buildsMembers_75 : decode (zb m_M_buildsMembers) 75 = .ok (.iload_n 1, 1) := zdal_p dlC_M_buildsMembers_16 (i := 20) rfl
theorem d_M_buildsMembers_76 : decode (zb m_M_buildsMembers) 76 = .ok (.imul, 1) := zdal_p dlC_M_buildsMembers_16 (i := 21) rfl
theorem d_M_buildsMembers_77 : decode (zb m_M_buildsMembers) 77 = .ok (.iload_n 3, 1) := zdal_p dlC_M_buildsMembers_16 (i := 22) rfl
theorem d_M_buildsMembers_78 : decode (zb m_M_buildsMembers) 78 = .ok (.iadd, 1) := zdal_p dlC_M_buildsMembers_16 (i := 23) rfl
theorem dlC_M_buildsMembers_17 : zdal (zb m_M_buildsMembers) [(79, (.iaload, 1)), (80, (.iadd, 1)), (81, (.iaload, 1)), (82, (.iastore, 1)), (83, (.iinc 3 1, 3)), (86, (.goto (-38), 3)), (89, (.aload_n 0, 1)), (90, (.invokevirtual 202, 3)), (93, (.iconst (-1), 1)), (94, (.if_icmp .eq 6, 3)), (97, (.goto 60, 3)), (100, (.aload_n 0, 1)), (101, (.getfield 196, 3)), (104, (.bipush 24, 2)), (106, (.if_icmp .ne 5, 3)), (109, (.iconst 0, 1)), (110, (.ireturn, 1)), (111, (.iconst 0, 1)), (112, (.istore_n 3, 1)), (113, (.iload_n 3, 1)), (114, (.aload_n 0, 1)), (115, (.getfield 115, 3)), (118, (.if_icmp .ge 29, 3)), (121, (.aload_n 0, 1))] = true := zDs 79 (by decide +kernel)
theorem d_M_buildsMembers_79 : decode (zb m_M_buildsMembers) 79 = .ok (.iaload, 1) := zdal_p dlC_M_buildsMembers_17 (i := 0) rfl
theorem d_M_buildsMembers_80 : decode (zb m_M_buildsMembers) 80 = .ok (.iadd, 1) := zdal_p dlC_M_buildsMembers_17 (i := 1) rfl
theorem d_M_buildsMembers_81 : decode (zb m_M_buildsMembers) 81 = .ok (.iaload, 1) := zdal_p dlC_M_buildsMembers_17 (i := 2) rfl
theorem d_M_buildsMembers_82 : decode (zb m_M_buildsMembers) 82 = .ok (.iastore, 1) := zdal_p dlC_M_buildsMembers_17 (i := 3) rfl
theorem d_M_buildsMembers_83 : decode (zb m_M_buildsMembers) 83 = .ok (.iinc 3 1, 3) := zdal_p dlC_M_buildsMembers_17 (i := 4) rfl
theorem d_M_buildsMembers_86 : decode (zb m_M_buildsMembers) 86 = .ok (.goto (-38), 3) := zdal_p dlC_M_buildsMembers_17 (i := 5) rfl
theorem d_M_buildsMembers_89 : decode (zb m_M_buildsMembers) 89 = .ok (.aload_n 0, 1) := zdal_p dlC_M_buildsMembers_17 (i := 6) rfl
theorem d_M_buildsMembers_90 : decode (zb m_M_buildsMembers) 90 = .ok (.invokevirtual 202, 3) := zdal_p dlC_M_buildsMembers_17 (i := 7) rfl
theorem d_M_buildsMembers_93 : decode (zb m_M_buildsMembers) 93 = .ok (.iconst (-1), 1) := zdal_p dlC_M_buildsMembers_17 (i := 8) rfl
theorem d_M_buildsMembers_94 : decode (zb m_M_buildsMembers) 94 = .ok (.if_icmp .eq 6, 3) := zdal_p dlC_M_buildsMembers_17 (i := 9) rfl
theorem d_M_buildsMembers_97 : decode (zb m_M_buildsMembers) 97 = .ok (.goto 60, 3) := zdal_p dlC_M_buildsMembers_17 (i := 10) rfl
theorem d_M_buildsMembers_100 : decode (zb m_M_buildsMembers) 100 = .ok (.aload_n 0, 1) := zdal_p dlC_M_buildsMembers_17 (i := 11) rfl
theorem d_M_buildsMembers_101 : decode (zb m_M_buildsMembers) 101 = .ok (.getfield 196, 3) := zdal_p dlC_M_buildsMembers_17 (i := 12) rfl
theorem d_M_buildsMembers_104 : decode (zb m_M_buildsMembers) 104 = .ok (.bipush 24, 2) := zdal_p dlC_M_buildsMembers_17 (i := 13) rfl
theorem d_M_buildsMembers_106 : decode (zb m_M_buildsMembers) 106 = .ok (.if_icmp .ne 5, 3) := zdal_p dlC_M_buildsMembers_17 (i := 14) rfl
theorem d_M_buildsMembers_109 : decode (zb m_M_buildsMembers) 109 = .ok (.iconst 0, 1) := zdal_p dlC_M_buildsMembers_17 (i := 15) rfl
theorem d_M_buildsMembers_110 : decode (zb m_M_buildsMembers) 110 = .ok (.ireturn, 1) := zdal_p dlC_M_buildsMembers_17 (i := 16) rfl
theorem d_M_buildsMembers_111 : decode (zb m_M_buildsMembers) 111 = .ok (.iconst 0, 1) := zdal_p dlC_M_buildsMembers_17 (i := 17) rfl
theorem d_M_buildsMembers_112 : decode (zb m_M_buildsMembers) 112 = .ok (.istore_n 3, 1) := zdal_p dlC_M_buildsMembers_17 (i := 18) rfl
theorem d_M_buildsMembers_113 : decode (zb m_M_buildsMembers) 113 = .ok (.iload_n 3, 1) := zdal_p dlC_M_buildsMembers_17 (i := 19) rfl
theorem d_M_buildsMembers_114 : decode (zb m_M_buildsMembers) 114 = .ok (.aload_n 0, 1) := zdal_p dlC_M_buildsMembers_17 (i := 20) rfl
theorem d_M_buildsMembers_115 : decode (zb m_M_buildsMembers) 115 = .ok (.getfield 115, 3) := zdal_p dlC_M_buildsMembers_17 (i := 21) rfl
theorem d_M_buildsMembers_118 : decode (zb m_M_buildsMembers) 118 = .ok (.if_icmp .ge 29, 3) := zdal_p dlC_M_buildsMembers_17 (i := 22) rfl
theorem d_M_buildsMembers_121 : decode (zb m_M_buildsMembers) 121 = .ok (.aload_n 0, 1) := zdal_p dlC_M_buildsMembers_17 (i := 23) rfl
theorem dlC_M_buildsMembers_18 : zdal (zb m_M_buildsMembers) [(122, (.getfield 26, 3)), (125, (.bipush 6, 2)), (127, (.aload_n 0, 1)), (128, (.getfield 196, 3)), (131, (.imul, 1)), (132, (.iload_n 3, 1)), (133, (.iadd, 1)), (134, (.aload_n 0, 1)), (135, (.getfield 29, 3)), (138, (.iload_n 3, 1)), (139, (.iaload, 1)), (140, (.iastore, 1)), (141, (.iinc 3 1, 3)), (144, (.goto (-31), 3)), (147, (.aload_n 0, 1)), (148, (.dup, 1)), (149, (.getfield 196, 3)), (152, (.iconst 1, 1)), (153, (.iadd, 1)), (154, (.putfield 196, 3)), (157, (.iinc 2 1, 3)), (160, (.goto (-122), 3)), (163, (.iinc 1 1, 3)), (166, (.goto (-138), 3))] = true := zDs 122 (by decide +kernel)
theorem d_M_buildsMembers_122 : decode (zb m_M_buildsMembers) 122 = .ok (.getfield 26, 3) := zdal_p dlC_M_buildsMembers_18 (i := 0) rfl
theorem d_M_buildsMembers_125 : decode (zb m_M_buildsMembers) 125 = .ok (.bipush 6, 2) := zdal_p dlC_M_buildsMembers_18 (i := 1) rfl
theorem d_M_buildsMembers_127 : decode (zb m_M_buildsMembers) 127 = .ok (.aload_n 0, 1) := zdal_p dlC_M_buildsMembers_18 (i := 2) rfl
theorem d_M_buildsMembers_128 : decode (zb m_M_buildsMembers) 128 = .ok (.getfield 196, 3) := zdal_p dlC_M_buildsMembers_18 (i := 3) rfl
theorem d_M_buildsMembers_131 : decode (zb m_M_buildsMembers) 131 = .ok (.imul, 1) := zdal_p dlC_M_buildsMembers_18 (i := 4) rfl
theorem d_M_buildsMembers_132 : decode (zb m_M_buildsMembers) 132 = .ok (.iload_n 3, 1) := zdal_p dlC_M_buildsMembers_18 (i := 5) rfl
theorem d_M_buildsMembers_133 : decode (zb m_M_buildsMembers) 133 = .ok (.iadd, 1) := zdal_p dlC_M_buildsMembers_18 (i := 6) rfl
theorem d_M_buildsMembers_134 : decode (zb m_M_buildsMembers) 134 = .ok (.aload_n 0, 1) := zdal_p dlC_M_buildsMembers_18 (i := 7) rfl
theorem d_M_buildsMembers_135 : decode (zb m_M_buildsMembers) 135 = .ok (.getfield 29, 3) := zdal_p dlC_M_buildsMembers_18 (i := 8) rfl
theorem d_M_buildsMembers_138 : decode (zb m_M_buildsMembers) 138 = .ok (.iload_n 3, 1) := zdal_p dlC_M_buildsMembers_18 (i := 9) rfl
theorem d_M_buildsMembers_139 : decode (zb m_M_buildsMembers) 139 = .ok (.iaload, 1) := zdal_p dlC_M_buildsMembers_18 (i := 10) rfl
theorem d_M_buildsMembers_140 : decode (zb m_M_buildsMembers) 140 = .ok (.iastore, 1) := zdal_p dlC_M_buildsMembers_18 (i := 11) rfl
theorem d_M_buildsMembers_141 : decode (zb m_M_buildsMembers) 141 = .ok (.iinc 3 1, 3) := zdal_p dlC_M_buildsMembers_18 (i := 12) rfl
theorem d_M_buildsMembers_144 : decode (zb m_M_buildsMembers) 144 = .ok (.goto (-31), 3) := zdal_p dlC_M_buildsMembers_18 (i := 13) rfl
theorem d_M_buildsMembers_147 : decode (zb m_M_buildsMembers) 147 = .ok (.aload_n 0, 1) := zdal_p dlC_M_buildsMembers_18 (i := 14) rfl
theorem d_M_buildsMembers_148 : decode (zb m_M_buildsMembers) 148 = .ok (.dup, 1) := zdal_p dlC_M_buildsMembers_18 (i := 15) rfl
theorem d_M_buildsMembers_149 : decode (zb m_M_buildsMembers) 149 = .ok (.getfield 196, 3) := zdal_p dlC_M_buildsMembers_18 (i := 16) rfl
theorem d_M_buildsMembers_152 : decode (zb m_M_buildsMembers) 152 = .ok (.iconst 1, 1) := zdal_p dlC_M_buildsMembers_18 (i := 17) rfl
theorem d_M_buildsMembers_153 : decode (zb m_M_buildsMembers) 153 = .ok (.iadd, 1) := zdal_p dlC_M_buildsMembers_18 (i := 18) rfl
theorem d_M_buildsMembers_154 : decode (zb m_M_buildsMembers) 154 = .ok (.putfield 196, 3) := zdal_p dlC_M_buildsMembers_18 (i := 19) rfl
theorem d_M_buildsMembers_157 : decode (zb m_M_buildsMembers) 157 = .ok (.iinc 2 1, 3) := zdal_p dlC_M_buildsMembers_18 (i := 20) rfl
theorem d_M_buildsMembers_160 : decode (zb m_M_buildsMembers) 160 = .ok (.goto (-122), 3) := zdal_p dlC_M_buildsMembers_18 (i := 21) rfl
theorem d_M_buildsMembers_163 : decode (zb m_M_buildsMembers) 163 = .ok (.iinc 1 1, 3) := zdal_p dlC_M_buildsMembers_18 (i := 22) rfl
theorem d_M_buildsMembers_166 : decode (zb m_M_buildsMembers) 166 = .ok (.goto (-138), 3) := zdal_p dlC_M_buildsMembers_18 (i := 23) rfl
theorem dlC_M_buildsMembers_19 : zdal (zb m_M_buildsMembers) [(169, (.iconst 0, 1)), (170, (.istore_n 1, 1)), (171, (.iload_n 1, 1)), (172, (.aload_n 0, 1)), (173, (.getfield 196, 3)), (176, (.if_icmp .ge 42, 3)), (179, (.iload_n 1, 1)), (180, (.iconst 1, 1)), (181, (.iadd, 1)), (182, (.istore_n 2, 1)), (183, (.iload_n 2, 1)), (184, (.aload_n 0, 1)), (185, (.getfield 196, 3)), (188, (.if_icmp .ge 24, 3)), (191, (.aload_n 0, 1)), (192, (.iload_n 1, 1)), (193, (.iload_n 2, 1)), (194, (.invokevirtual 206, 3)), (197, (.ifCond .eq 9, 3)), (200, (.aload_n 0, 1)), (201, (.iload_n 1, 1)), (202, (.iload_n 2, 1)), (203, (.invokevirtual 210, 3)), (206, (.iinc 2 1, 3))] = true := zDs 169 (by decide +kernel)
theorem d_M_buildsMembers_169 : decode (zb m_M_buildsMembers) 169 = .ok (.iconst 0, 1) := zdal_p dlC_M_buildsMembers_19 (i := 0) rfl
theorem d_M_buildsMembers_170 : decode (zb m_M_buildsMembers) 170 = .ok (.istore_n 1, 1) := zdal_p dlC_M_buildsMembers_19 (i := 1) rfl
theorem d_M_buildsMembers_171 : decode (zb m_M_buildsMembers) 171 = .ok (.iload_n 1, 1) := zdal_p dlC_M_buildsMembers_19 (i := 2) rfl
theorem d_M_buildsMembers_172 : decode (zb m_M_buildsMembers) 172 = .ok (.aload_n 0, 1) := zdal_p dlC_M_buildsMembers_19 (i := 3) rfl
theorem d_M_buildsMembers_173 : decode (zb m_M_buildsMembers) 173 = .ok (.getfield 196, 3) := zdal_p dlC_M_buildsMembers_19 (i := 4) rfl
theorem d_M_buildsMembers_176 : decode (zb m_M_buildsMembers) 176 = .ok (.if_icmp .ge 42, 3) := zdal_p dlC_M_buildsMembers_19 (i := 5) rfl
theorem d_M_buildsMembers_179 : decode (zb m_M_buildsMembers) 179 = .ok (.iload_n 1, 1) := zdal_p dlC_M_buildsMembers_19 (i := 6) rfl
theorem d_M_buildsMembers_180 : decode (zb m_M_buildsMembers) 180 = .ok (.iconst 1, 1) := zdal_p dlC_M_buildsMembers_19 (i := 7) rfl
theorem d_M_buildsMembers_181 : decode (zb m_M_buildsMembers) 181 = .ok (.iadd, 1) := zdal_p dlC_M_buildsMembers_19 (i := 8) rfl
theorem d_M_buildsMembers_182 : decode (zb m_M_buildsMembers) 182 = .ok (.istore_n 2, 1) := zdal_p dlC_M_buildsMembers_19 (i := 9) rfl
theorem d_M_buildsMembers_183 : decode (zb m_M_buildsMembers) 183 = .ok (.iload_n 2, 1) := zdal_p dlC_M_buildsMembers_19 (i := 10) rfl
theorem d_M_buildsMembers_184 : decode (zb m_M_buildsMembers) 184 = .ok (.aload_n 0, 1) := zdal_p dlC_M_buildsMembers_19 (i := 11) rfl
theorem d_M_buildsMembers_185 : decode (zb m_M_buildsMembers) 185 = .ok (.getfield 196, 3) := zdal_p dlC_M_buildsMembers_19 (i := 12) rfl
theorem d_M_buildsMembers_188 : decode (zb m_M_buildsMembers) 188 = .ok (.if_icmp .ge 24, 3) := zdal_p dlC_M_buildsMembers_19 (i := 13) rfl
theorem d_M_buildsMembers_191 : decode (zb m_M_buildsMembers) 191 = .ok (.aload_n 0, 1) := zdal_p dlC_M_buildsMembers_19 (i := 14) rfl
theorem d_M_buildsMembers_192 : decode (zb m_M_buildsMembers) 192 = .ok (.iload_n 1, 1) := zdal_p dlC_M_buildsMembers_19 (i := 15) rfl
theorem d_M_buildsMembers_193 : decode (zb m_M_buildsMembers) 193 = .ok (.iload_n 2, 1) := zdal_p dlC_M_buildsMembers_19 (i := 16) rfl
theorem d_M_buildsMembers_194 : decode (zb m_M_buildsMembers) 194 = .ok (.invokevirtual 206, 3) := zdal_p dlC_M_buildsMembers_19 (i := 17) rfl
theorem d_M_buildsMembers_197 : decode (zb m_M_buildsMembers) 197 = .ok (.ifCond .eq 9, 3) := zdal_p dlC_M_buildsMembers_19 (i := 18) rfl
theorem d_M_buildsMembers_200 : decode (zb m_M_buildsMembers) 200 = .ok (.aload_n 0, 1) := zdal_p dlC_M_buildsMembers_19 (i := 19) rfl
theorem d_M_buildsMembers_201 : decode (zb m_M_buildsMembers) 201 = .ok (.iload_n 1, 1) := zdal_p dlC_M_buildsMembers_19 (i := 20) rfl
theorem d_M_buildsMembers_202 : decode (zb m_M_buildsMembers) 202 = .ok (.iload_n 2, 1) := zdal_p dlC_M_buildsMembers_19 (i := 21) rfl
theorem d_M_buildsMembers_203 : decode (zb m_M_buildsMembers) 203 = .ok (.invokevirtual 210, 3) := zdal_p dlC_M_buildsMembers_19 (i := 22) rfl
theorem d_M_buildsMembers_206 : decode (zb m_M_buildsMembers) 206 = .ok (.iinc 2 1, 3) := zdal_p dlC_M_buildsMembers_19 (i := 23) rfl
theorem dlC_M_buildsMembers_20 : zdal (zb m_M_buildsMembers) [(209, (.goto (-26), 3)), (212, (.iinc 1 1, 3)), (215, (.goto (-44), 3)), (218, (.iconst 0, 1)), (219, (.istore_n 1, 1)), (220, (.iload_n 1, 1)), (221, (.aload_n 0, 1)), (222, (.getfield 196, 3)), (225, (.if_icmp .ge 104, 3)), (228, (.iconst 0, 1)), (229, (.istore_n 2, 1)), (230, (.iload_n 2, 1)), (231, (.aload_n 0, 1)), (232, (.getfield 196, 3)), (235, (.if_icmp .ge 88, 3)), (238, (.iconst 0, 1)), (239, (.istore_n 3, 1)), (240, (.iload_n 3, 1)), (241, (.aload_n 0, 1)), (242, (.getfield 115, 3)), (245, (.if_icmp .ge 36, 3)), (248, (.aload_n 0, 1)), (249, (.getfield 29, 3)), (252, (.iload_n 3, 1))] = true := zDs 209 (by decide +kernel)
theorem d_M_buildsMembers_209 : decode (zb m_M_buildsMembers) 209 = .ok (.goto (-26), 3) := zdal_p dlC_M_buildsMembers_20 (i := 0) rfl
theorem d_M_buildsMembers_212 : decode (zb m_M_buildsMembers) 212 = .ok (.iinc 1 1, 3) := zdal_p dlC_M_buildsMembers_20 (i := 1) rfl
theorem d_M_buildsMembers_215 : decode (zb m_M_buildsMembers) 215 = .ok (.goto (-44), 3) := zdal_p dlC_M_buildsMembers_20 (i := 2) rfl
theorem d_M_buildsMembers_218 : decode (zb m_M_buildsMembers) 218 = .ok (.iconst 0, 1) := zdal_p dlC_M_buildsMembers_20 (i := 3) rfl
theorem d_M_buildsMembers_219 : decode (zb m_M_buildsMembers) 219 = .ok (.istore_n 1, 1) := zdal_p dlC_M_buildsMembers_20 (i := 4) rfl
theorem d_M_buildsMembers_220 : decode (zb m_M_buildsMembers) 220 = .ok (.iload_n 1, 1) := zdal_p dlC_M_buildsMembers_20 (i := 5) rfl
theorem d_M_buildsMembers_221 : decode (zb m_M_buildsMembers) 221 = .ok (.aload_n 0, 1) := zdal_p dlC_M_buildsMembers_20 (i := 6) rfl
theorem d_M_buildsMembers_222 : decode (zb m_M_buildsMembers) 222 = .ok (.getfield 196, 3) := zdal_p dlC_M_buildsMembers_20 (i := 7) rfl
theorem d_M_buildsMembers_225 : decode (zb m_M_buildsMembers) 225 = .ok (.if_icmp .ge 104, 3) := zdal_p dlC_M_buildsMembers_20 (i := 8) rfl
theorem d_M_buildsMembers_228 : decode (zb m_M_buildsMembers) 228 = .ok (.iconst 0, 1) := zdal_p dlC_M_buildsMembers_20 (i := 9) rfl
theorem d_M_buildsMembers_229 : decode (zb m_M_buildsMembers) 229 = .ok (.istore_n 2, 1) := zdal_p dlC_M_buildsMembers_20 (i := 10) rfl
theorem d_M_buildsMembers_230 : decode (zb m_M_buildsMembers) 230 = .ok (.iload_n 2, 1) := zdal_p dlC_M_buildsMembers_20 (i := 11) rfl
theorem d_M_buildsMembers_231 : decode (zb m_M_buildsMembers) 231 = .ok (.aload_n 0, 1) := zdal_p dlC_M_buildsMembers_20 (i := 12) rfl
theorem d_M_buildsMembers_232 : decode (zb m_M_buildsMembers) 232 = .ok (.getfield 196, 3) := zdal_p dlC_M_buildsMembers_20 (i := 13) rfl
theorem d_M_buildsMembers_235 : decode (zb m_M_buildsMembers) 235 = .ok (.if_icmp .ge 88, 3) := zdal_p dlC_M_buildsMembers_20 (i := 14) rfl
theorem d_M_buildsMembers_238 : decode (zb m_M_buildsMembers) 238 = .ok (.iconst 0, 1) := zdal_p dlC_M_buildsMembers_20 (i := 15) rfl
theorem d_M_buildsMembers_239 : decode (zb m_M_buildsMembers) 239 = .ok (.istore_n 3, 1) := zdal_p dlC_M_buildsMembers_20 (i := 16) rfl
theorem d_M_buildsMembers_240 : decode (zb m_M_buildsMembers) 240 = .ok (.iload_n 3, 1) := zdal_p dlC_M_buildsMembers_20 (i := 17) rfl
theorem d_M_buildsMembers_241 : decode (zb m_M_buildsMembers) 241 = .ok (.aload_n 0, 1) := zdal_p dlC_M_buildsMembers_20 (i := 18) rfl
theorem d_M_buildsMembers_242 : decode (zb m_M_buildsMembers) 242 = .ok (.getfield 115, 3) := zdal_p dlC_M_buildsMembers_20 (i := 19) rfl
theorem d_M_buildsMembers_245 : decode (zb m_M_buildsMembers) 245 = .ok (.if_icmp .ge 36, 3) := zdal_p dlC_M_buildsMembers_20 (i := 20) rfl
theorem d_M_buildsMembers_248 : decode (zb m_M_buildsMembers) 248 = .ok (.aload_n 0, 1) := zdal_p dlC_M_buildsMembers_20 (i := 21) rfl
theorem d_M_buildsMembers_249 : decode (zb m_M_buildsMembers) 249 = .ok (.getfield 29, 3) := zdal_p dlC_M_buildsMembers_20 (i := 22) rfl
theorem d_M_buildsMembers_252 : decode (zb m_M_buildsMembers) 252 = .ok (.iload_n 3, 1) := zdal_p dlC_M_buildsMembers_20 (i := 23) rfl
theorem dlC_M_buildsMembers_21 : zdal (zb m_M_buildsMembers) [(253, (.aload_n 0, 1)), (254, (.getfield 26, 3)), (257, (.bipush 6, 2)), (259, (.iload_n 2, 1)), (260, (.imul, 1)), (261, (.aload_n 0, 1)), (262, (.getfield 26, 3)), (265, (.bipush 6, 2)), (267, (.iload_n 1, 1)), (268, (.imul, 1)), (269, (.iload_n 3, 1)), (270, (.iadd, 1)), (271, (.iaload, 1)), (272, (.iadd, 1)), (273, (.iaload, 1)), (274, (.iastore, 1)), (275, (.iinc 3 1, 3)), (278, (.goto (-38), 3)), (281, (.aload_n 0, 1)), (282, (.getfield 32, 3)), (285, (.bipush 24, 2)), (287, (.iload_n 1, 1)), (288, (.imul, 1)), (289, (.iload_n 2, 1))] = true := zDs 253 (by decide +kernel)
theorem d_M_buildsMembers_253 : decode (zb m_M_buildsMembers) 253 = .ok (.aload_n 0, 1) := zdal_p dlC_M_buildsMembers_21 (i := 0) rfl
theorem d_M_buildsMembers_254 : decode (zb m_M_buildsMembers) 254 = .ok (.getfield 26, 3) := zdal_p dlC_M_buildsMembers_21 (i := 1) rfl
theorem d_M_buildsMembers_257 : decode (zb m_M_buildsMembers) 257 = .ok (.bipush 6, 2) := zdal_p dlC_M_buildsMembers_21 (i := 2) rfl
theorem d_M_buildsMembers_259 : decode (zb m_M_buildsMembers) 259 = .ok (.iload_n 2, 1) := zdal_p dlC_M_buildsMembers_21 (i := 3) rfl
theorem d_M_buildsMembers_260 : decode (zb m_M_buildsMembers) 260 = .ok (.imul, 1) := zdal_p dlC_M_buildsMembers_21 (i := 4) rfl
theorem d_M_buildsMembers_261 : decode (zb m_M_buildsMembers) 261 = .ok (.aload_n 0, 1) := zdal_p dlC_M_buildsMembers_21 (i := 5) rfl
theorem d_M_buildsMembers_262 : decode (zb m_M_buildsMembers) 262 = .ok (.getfield 26, 3) := zdal_p dlC_M_buildsMembers_21 (i := 6) rfl
theorem d_M_buildsMembers_265 : decode (zb m_M_buildsMembers) 265 = .ok (.bipush 6, 2) := zdal_p dlC_M_buildsMembers_21 (i := 7) rfl
theorem d_M_buildsMembers_267 : decode (zb m_M_buildsMembers) 267 = .ok (.iload_n 1, 1) := zdal_p dlC_M_buildsMembers_21 (i := 8) rfl
theorem d_M_buildsMembers_268 : decode (zb m_M_buildsMembers) 268 = .ok (.imul, 1) := zdal_p dlC_M_buildsMembers_21 (i := 9) rfl
theorem d_M_buildsMembers_269 : decode (zb m_M_buildsMembers) 269 = .ok (.iload_n 3, 1) := zdal_p dlC_M_buildsMembers_21 (i := 10) rfl
theorem d_M_buildsMembers_270 : decode (zb m_M_buildsMembers) 270 = .ok (.iadd, 1) := zdal_p dlC_M_buildsMembers_21 (i := 11) rfl
theorem d_M_buildsMembers_271 : decode (zb m_M_buildsMembers) 271 = .ok (.iaload, 1) := zdal_p dlC_M_buildsMembers_21 (i := 12) rfl
theorem d_M_buildsMembers_272 : decode (zb m_M_buildsMembers) 272 = .ok (.iadd, 1) := zdal_p dlC_M_buildsMembers_21 (i := 13) rfl
theorem d_M_buildsMembers_273 : decode (zb m_M_buildsMembers) 273 = .ok (.iaload, 1) := zdal_p dlC_M_buildsMembers_21 (i := 14) rfl
theorem d_M_buildsMembers_274 : decode (zb m_M_buildsMembers) 274 = .ok (.iastore, 1) := zdal_p dlC_M_buildsMembers_21 (i := 15) rfl
theorem d_M_buildsMembers_275 : decode (zb m_M_buildsMembers) 275 = .ok (.iinc 3 1, 3) := zdal_p dlC_M_buildsMembers_21 (i := 16) rfl
theorem d_M_buildsMembers_278 : decode (zb m_M_buildsMembers) 278 = .ok (.goto (-38), 3) := zdal_p dlC_M_buildsMembers_21 (i := 17) rfl
theorem d_M_buildsMembers_281 : decode (zb m_M_buildsMembers) 281 = .ok (.aload_n 0, 1) := zdal_p dlC_M_buildsMembers_21 (i := 18) rfl
theorem d_M_buildsMembers_282 : decode (zb m_M_buildsMembers) 282 = .ok (.getfield 32, 3) := zdal_p dlC_M_buildsMembers_21 (i := 19) rfl
theorem d_M_buildsMembers_285 : decode (zb m_M_buildsMembers) 285 = .ok (.bipush 24, 2) := zdal_p dlC_M_buildsMembers_21 (i := 20) rfl
theorem d_M_buildsMembers_287 : decode (zb m_M_buildsMembers) 287 = .ok (.iload_n 1, 1) := zdal_p dlC_M_buildsMembers_21 (i := 21) rfl
theorem d_M_buildsMembers_288 : decode (zb m_M_buildsMembers) 288 = .ok (.imul, 1) := zdal_p dlC_M_buildsMembers_21 (i := 22) rfl
theorem d_M_buildsMembers_289 : decode (zb m_M_buildsMembers) 289 = .ok (.iload_n 2, 1) := zdal_p dlC_M_buildsMembers_21 (i := 23) rfl
theorem dlC_M_buildsMembers_22 : zdal (zb m_M_buildsMembers) [(290, (.iadd, 1)), (291, (.aload_n 0, 1)), (292, (.invokevirtual 202, 3)), (295, (.iastore, 1)), (296, (.aload_n 0, 1)), (297, (.getfield 32, 3)), (300, (.bipush 24, 2)), (302, (.iload_n 1, 1)), (303, (.imul, 1)), (304, (.iload_n 2, 1)), (305, (.iadd, 1)), (306, (.iaload, 1)), (307, (.ifCond .ne 10, 3)), (310, (.aload_n 0, 1)), (311, (.getfield 35, 3)), (314, (.iload_n 1, 1)), (315, (.iload_n 2, 1)), (316, (.iastore, 1)), (317, (.iinc 2 1, 3)), (320, (.goto (-90), 3)), (323, (.iinc 1 1, 3)), (326, (.goto (-106), 3)), (329, (.iconst 1, 1)), (330, (.ireturn, 1))] = true := zDs 290 (by decide +kernel)
theorem d_M_buildsMembers_290 : decode (zb m_M_buildsMembers) 290 = .ok (.iadd, 1) := zdal_p dlC_M_buildsMembers_22 (i := 0) rfl
theorem d_M_buildsMembers_291 : decode (zb m_M_buildsMembers) 291 = .ok (.aload_n 0, 1) := zdal_p dlC_M_buildsMembers_22 (i := 1) rfl
theorem d_M_buildsMembers_292 : decode (zb m_M_buildsMembers) 292 = .ok (.invokevirtual 202, 3) := zdal_p dlC_M_buildsMembers_22 (i := 2) rfl
theorem d_M_buildsMembers_295 : decode (zb m_M_buildsMembers) 295 = .ok (.iastore, 1) := zdal_p dlC_M_buildsMembers_22 (i := 3) rfl
theorem d_M_buildsMembers_296 : decode (zb m_M_buildsMembers) 296 = .ok (.aload_n 0, 1) := zdal_p dlC_M_buildsMembers_22 (i := 4) rfl
theorem d_M_buildsMembers_297 : decode (zb m_M_buildsMembers) 297 = .ok (.getfield 32, 3) := zdal_p dlC_M_buildsMembers_22 (i := 5) rfl
theorem d_M_buildsMembers_300 : decode (zb m_M_buildsMembers) 300 = .ok (.bipush 24, 2) := zdal_p dlC_M_buildsMembers_22 (i := 6) rfl
theorem d_M_buildsMembers_302 : decode (zb m_M_buildsMembers) 302 = .ok (.iload_n 1, 1) := zdal_p dlC_M_buildsMembers_22 (i := 7) rfl
theorem d_M_buildsMembers_303 : decode (zb m_M_buildsMembers) 303 = .ok (.imul, 1) := zdal_p dlC_M_buildsMembers_22 (i := 8) rfl
theorem d_M_buildsMembers_304 : decode (zb m_M_buildsMembers) 304 = .ok (.iload_n 2, 1) := zdal_p dlC_M_buildsMembers_22 (i := 9) rfl
theorem d_M_buildsMembers_305 : decode (zb m_M_buildsMembers) 305 = .ok (.iadd, 1) := zdal_p dlC_M_buildsMembers_22 (i := 10) rfl
theorem d_M_buildsMembers_306 : decode (zb m_M_buildsMembers) 306 = .ok (.iaload, 1) := zdal_p dlC_M_buildsMembers_22 (i := 11) rfl
theorem d_M_buildsMembers_307 : decode (zb m_M_buildsMembers) 307 = .ok (.ifCond .ne 10, 3) := zdal_p dlC_M_buildsMembers_22 (i := 12) rfl
theorem d_M_buildsMembers_310 : decode (zb m_M_buildsMembers) 310 = .ok (.aload_n 0, 1) := zdal_p dlC_M_buildsMembers_22 (i := 13) rfl
theorem d_M_buildsMembers_311 : decode (zb m_M_buildsMembers) 311 = .ok (.getfield 35, 3) := zdal_p dlC_M_buildsMembers_22 (i := 14) rfl
theorem d_M_buildsMembers_314 : decode (zb m_M_buildsMembers) 314 = .ok (.iload_n 1, 1) := zdal_p dlC_M_buildsMembers_22 (i := 15) rfl
theorem d_M_buildsMembers_315 : decode (zb m_M_buildsMembers) 315 = .ok (.iload_n 2, 1) := zdal_p dlC_M_buildsMembers_22 (i := 16) rfl
theorem d_M_buildsMembers_316 : decode (zb m_M_buildsMembers) 316 = .ok (.iastore, 1) := zdal_p dlC_M_buildsMembers_22 (i := 17) rfl
theorem d_M_buildsMembers_317 : decode (zb m_M_buildsMembers) 317 = .ok (.iinc 2 1, 3) := zdal_p dlC_M_buildsMembers_22 (i := 18) rfl
theorem d_M_buildsMembers_320 : decode (zb m_M_buildsMembers) 320 = .ok (.goto (-90), 3) := zdal_p dlC_M_buildsMembers_22 (i := 19) rfl
theorem d_M_buildsMembers_323 : decode (zb m_M_buildsMembers) 323 = .ok (.iinc 1 1, 3) := zdal_p dlC_M_buildsMembers_22 (i := 20) rfl
theorem d_M_buildsMembers_326 : decode (zb m_M_buildsMembers) 326 = .ok (.goto (-106), 3) := zdal_p dlC_M_buildsMembers_22 (i := 21) rfl
theorem d_M_buildsMembers_329 : decode (zb m_M_buildsMembers) 329 = .ok (.iconst 1, 1) := zdal_p dlC_M_buildsMembers_22 (i := 22) rfl
theorem d_M_buildsMembers_330 : decode (zb m_M_buildsMembers) 330 = .ok (.ireturn, 1) := zdal_p dlC_M_buildsMembers_22 (i := 23) rfl
theorem dlC_M_indexOf_23 : zdal (zb m_M_indexOf) [(0, (.iconst 0, 1)), (1, (.istore_n 1, 1)), (2, (.iload_n 1, 1)), (3, (.aload_n 0, 1)), (4, (.getfield 196, 3)), (7, (.if_icmp .ge 63, 3)), (10, (.iconst 1, 1)), (11, (.istore_n 2, 1)), (12, (.iconst 0, 1)), (13, (.istore_n 3, 1)), (14, (.iload_n 3, 1)), (15, (.aload_n 0, 1)), (16, (.getfield 115, 3)), (19, (.if_icmp .ge 39, 3)), (22, (.iload_n 2, 1)), (23, (.ifCond .eq 27, 3)), (26, (.aload_n 0, 1)), (27, (.getfield 26, 3)), (30, (.bipush 6, 2)), (32, (.iload_n 1, 1)), (33, (.imul, 1)), (34, (.iload_n 3, 1)), (35, (.iadd, 1)), (36, (.iaload, 1))] = true := zDs 0 (by decide +kernel)
theorem d_M_indexOf_0 : decode (zb m_M_indexOf) 0 = .ok (.iconst 0, 1) := zdal_p dlC_M_indexOf_23 (i := 0) rfl
theorem d_M_indexOf_1 : decode (zb m_M_indexOf) 1 = .ok (.istore_n 1, 1) := zdal_p dlC_M_indexOf_23 (i := 1) rfl
theorem d_M_indexOf_2 : decode (zb m_M_indexOf) 2 = .ok (.iload_n 1, 1) := zdal_p dlC_M_indexOf_23 (i := 2) rfl
theorem d_M_indexOf_3 : decode (zb m_M_indexOf) 3 = .ok (.aload_n 0, 1) := zdal_p dlC_M_indexOf_23 (i := 3) rfl
theorem d_M_indexOf_4 : decode (zb m_M_indexOf) 4 = .ok (.getfield 196, 3) := zdal_p dlC_M_indexOf_23 (i := 4) rfl
theorem d_M_indexOf_7 : decode (zb m_M_indexOf) 7 = .ok (.if_icmp .ge 63, 3) := zdal_p dlC_M_indexOf_23 (i := 5) rfl
theorem d_M_indexOf_10 : decode (zb m_M_indexOf) 10 = .ok (.iconst 1, 1) := zdal_p dlC_M_indexOf_23 (i := 6) rfl
theorem d_M_indexOf_11 : decode (zb m_M_indexOf) 11 = .ok (.istore_n 2, 1) := zdal_p dlC_M_indexOf_23 (i := 7) rfl
theorem d_M_indexOf_12 : decode (zb m_M_indexOf) 12 = .ok (.iconst 0, 1) := zdal_p dlC_M_indexOf_23 (i := 8) rfl
theorem d_M_indexOf_13 : decode (zb m_M_indexOf) 13 = .ok (.istore_n 3, 1) := zdal_p dlC_M_indexOf_23 (i := 9) rfl
theorem d_M_indexOf_14 : decode (zb m_M_indexOf) 14 = .ok (.iload_n 3, 1) := zdal_p dlC_M_indexOf_23 (i := 10) rfl
theorem d_M_indexOf_15 : decode (zb m_M_indexOf) 15 = .ok (.aload_n 0, 1) := zdal_p dlC_M_indexOf_23 (i := 11) rfl
theorem d_M_indexOf_16 : decode (zb m_M_indexOf) 16 = .ok (.getfield 115, 3) := zdal_p dlC_M_indexOf_23 (i := 12) rfl
theorem d_M_indexOf_19 : decode (zb m_M_indexOf) 19 = .ok (.if_icmp .ge 39, 3) := zdal_p dlC_M_indexOf_23 (i := 13) rfl
theorem d_M_indexOf_22 : decode (zb m_M_indexOf) 22 = .ok (.iload_n 2, 1) := zdal_p dlC_M_indexOf_23 (i := 14) rfl
theorem d_M_indexOf_23 : decode (zb m_M_indexOf) 23 = .ok (.ifCond .eq 27, 3) := zdal_p dlC_M_indexOf_23 (i := 15) rfl
theorem d_M_indexOf_26 : decode (zb m_M_indexOf) 26 = .ok (.aload_n 0, 1) := zdal_p dlC_M_indexOf_23 (i := 16) rfl
theorem d_M_indexOf_27 : decode (zb m_M_indexOf) 27 = .ok (.getfield 26, 3) := zdal_p dlC_M_indexOf_23 (i := 17) rfl
theorem d_M_indexOf_30 : decode (zb m_M_indexOf) 30 = .ok (.bipush 6, 2) := zdal_p dlC_M_indexOf_23 (i := 18) rfl
theorem d_M_indexOf_32 : decode (zb m_M_indexOf) 32 = .ok (.iload_n 1, 1) := zdal_p dlC_M_indexOf_23 (i := 19) rfl
theorem d_M_indexOf_33 : decode (zb m_M_indexOf) 33 = .ok (.imul, 1) := zdal_p dlC_M_indexOf_23 (i := 20) rfl
theorem d_M_indexOf_34 : decode (zb m_M_indexOf) 34 = .ok (.iload_n 3, 1) := zdal_p dlC_M_indexOf_23 (i := 21) rfl
theorem d_M_indexOf_35 : decode (zb m_M_indexOf) 35 = .ok (.iadd, 1) := zdal_p dlC_M_indexOf_23 (i := 22) rfl
theorem d_M_indexOf_36 : decode (zb m_M_indexOf) 36 = .ok (.iaload, 1) := zdal_p dlC_M_indexOf_23 (i := 23) rfl
theorem dlC_M_indexOf_24 : zdal (zb m_M_indexOf) [(37, (.aload_n 0, 1)), (38, (.getfield 29, 3)), (41, (.iload_n 3, 1)), (42, (.iaload, 1)), (43, (.if_icmp .ne 7, 3)), (46, (.iconst 1, 1)), (47, (.goto 4, 3)), (50, (.iconst 0, 1)), (51, (.istore_n 2, 1)), (52, (.iinc 3 1, 3)), (55, (.goto (-41), 3)), (58, (.iload_n 2, 1)), (59, (.ifCond .eq 5, 3)), (62, (.iload_n 1, 1)), (63, (.ireturn, 1)), (64, (.iinc 1 1, 3)), (67, (.goto (-65), 3)), (70, (.iconst (-1), 1)), (71, (.ireturn, 1))] = true := zDs 37 (by decide +kernel)
theorem d_M_indexOf_37 : decode (zb m_M_indexOf) 37 = .ok (.aload_n 0, 1) := zdal_p dlC_M_indexOf_24 (i := 0) rfl
theorem d_M_indexOf_38 : decode (zb m_M_indexOf) 38 = .ok (.getfield 29, 3) := zdal_p dlC_M_indexOf_24 (i := 1) rfl
theorem d_M_indexOf_41 : decode (zb m_M_indexOf) 41 = .ok (.iload_n 3, 1) := zdal_p dlC_M_indexOf_24 (i := 2) rfl
theorem d_M_indexOf_42 : decode (zb m_M_indexOf) 42 = .ok (.iaload, 1) := zdal_p dlC_M_indexOf_24 (i := 3) rfl
theorem d_M_indexOf_43 : decode (zb m_M_indexOf) 43 = .ok (.if_icmp .ne 7, 3) := zdal_p dlC_M_indexOf_24 (i := 4) rfl
theorem d_M_indexOf_46 : decode (zb m_M_indexOf) 46 = .ok (.iconst 1, 1) := zdal_p dlC_M_indexOf_24 (i := 5) rfl
theorem d_M_indexOf_47 : decode (zb m_M_indexOf) 47 = .ok (.goto 4, 3) := zdal_p dlC_M_indexOf_24 (i := 6) rfl
theorem d_M_indexOf_50 : decode (zb m_M_indexOf) 50 = .ok (.iconst 0, 1) := zdal_p dlC_M_indexOf_24 (i := 7) rfl
theorem d_M_indexOf_51 : decode (zb m_M_indexOf) 51 = .ok (.istore_n 2, 1) := zdal_p dlC_M_indexOf_24 (i := 8) rfl
theorem d_M_indexOf_52 : decode (zb m_M_indexOf) 52 = .ok (.iinc 3 1, 3) := zdal_p dlC_M_indexOf_24 (i := 9) rfl
theorem d_M_indexOf_55 : decode (zb m_M_indexOf) 55 = .ok (.goto (-41), 3) := zdal_p dlC_M_indexOf_24 (i := 10) rfl
theorem d_M_indexOf_58 : decode (zb m_M_indexOf) 58 = .ok (.iload_n 2, 1) := zdal_p dlC_M_indexOf_24 (i := 11) rfl
theorem d_M_indexOf_59 : decode (zb m_M_indexOf) 59 = .ok (.ifCond .eq 5, 3) := zdal_p dlC_M_indexOf_24 (i := 12) rfl
theorem d_M_indexOf_62 : decode (zb m_M_indexOf) 62 = .ok (.iload_n 1, 1) := zdal_p dlC_M_indexOf_24 (i := 13) rfl
theorem d_M_indexOf_63 : decode (zb m_M_indexOf) 63 = .ok (.ireturn, 1) := zdal_p dlC_M_indexOf_24 (i := 14) rfl
theorem d_M_indexOf_64 : decode (zb m_M_indexOf) 64 = .ok (.iinc 1 1, 3) := zdal_p dlC_M_indexOf_24 (i := 15) rfl
theorem d_M_indexOf_67 : decode (zb m_M_indexOf) 67 = .ok (.goto (-65), 3) := zdal_p dlC_M_indexOf_24 (i := 16) rfl
theorem d_M_indexOf_70 : decode (zb m_M_indexOf) 70 = .ok (.iconst (-1), 1) := zdal_p dlC_M_indexOf_24 (i := 17) rfl
theorem d_M_indexOf_71 : decode (zb m_M_indexOf) 71 = .ok (.ireturn, 1) := zdal_p dlC_M_indexOf_24 (i := 18) rfl
theorem dlC_M_isBehind_25 : zdal (zb m_M_isBehind) [(0, (.iconst 0, 1)), (1, (.istore_n 3, 1)), (2, (.iload_n 3, 1)), (3, (.aload_n 0, 1)), (4, (.getfield 115, 3)), (7, (.if_icmp .ge 65, 3)), (10, (.aload_n 0, 1)), (11, (.getfield 26, 3)), (14, (.bipush 6, 2)), (16, (.iload_n 1, 1)), (17, (.imul, 1)), (18, (.iload_n 3, 1)), (19, (.iadd, 1)), (20, (.iaload, 1)), (21, (.aload_n 0, 1)), (22, (.getfield 26, 3)), (25, (.bipush 6, 2)), (27, (.iload_n 2, 1)), (28, (.imul, 1)), (29, (.iload_n 3, 1)), (30, (.iadd, 1)), (31, (.iaload, 1)), (32, (.if_icmp .eq 34, 3)), (35, (.aload_n 0, 1))] = true := zDs 0 (by decide +kernel)
theorem d_M_isBehind_0 : decode (zb m_M_isBehind) 0 = .ok (.iconst 0, 1) := zdal_p dlC_M_isBehind_25 (i := 0) rfl
theorem d_M_isBehind_1 : decode (zb m_M_isBehind) 1 = .ok (.istore_n 3, 1) := zdal_p dlC_M_isBehind_25 (i := 1) rfl
theorem d_M_isBehind_2 : decode (zb m_M_isBehind) 2 = .ok (.iload_n 3, 1) := zdal_p dlC_M_isBehind_25 (i := 2) rfl
theorem d_M_isBehind_3 : decode (zb m_M_isBehind) 3 = .ok (.aload_n 0, 1) := zdal_p dlC_M_isBehind_25 (i := 3) rfl
theorem d_M_isBehind_4 : decode (zb m_M_isBehind) 4 = .ok (.getfield 115, 3) := zdal_p dlC_M_isBehind_25 (i := 4) rfl
theorem d_M_isBehind_7 : decode (zb m_M_isBehind) 7 = .ok (.if_icmp .ge 65, 3) := zdal_p dlC_M_isBehind_25 (i := 5) rfl
theorem d_M_isBehind_10 : decode (zb m_M_isBehind) 10 = .ok (.aload_n 0, 1) := zdal_p dlC_M_isBehind_25 (i := 6) rfl
theorem d_M_isBehind_11 : decode (zb m_M_isBehind) 11 = .ok (.getfield 26, 3) := zdal_p dlC_M_isBehind_25 (i := 7) rfl
theorem d_M_isBehind_14 : decode (zb m_M_isBehind) 14 = .ok (.bipush 6, 2) := zdal_p dlC_M_isBehind_25 (i := 8) rfl
theorem d_M_isBehind_16 : decode (zb m_M_isBehind) 16 = .ok (.iload_n 1, 1) := zdal_p dlC_M_isBehind_25 (i := 9) rfl
theorem d_M_isBehind_17 : decode (zb m_M_isBehind) 17 = .ok (.imul, 1) := zdal_p dlC_M_isBehind_25 (i := 10) rfl
theorem d_M_isBehind_18 : decode (zb m_M_isBehind) 18 = .ok (.iload_n 3, 1) := zdal_p dlC_M_isBehind_25 (i := 11) rfl
theorem d_M_isBehind_19 : decode (zb m_M_isBehind) 19 = .ok (.iadd, 1) := zdal_p dlC_M_isBehind_25 (i := 12) rfl
theorem d_M_isBehind_20 : decode (zb m_M_isBehind) 20 = .ok (.iaload, 1) := zdal_p dlC_M_isBehind_25 (i := 13) rfl
theorem d_M_isBehind_21 : decode (zb m_M_isBehind) 21 = .ok (.aload_n 0, 1) := zdal_p dlC_M_isBehind_25 (i := 14) rfl
theorem d_M_isBehind_22 : decode (zb m_M_isBehind) 22 = .ok (.getfield 26, 3) := zdal_p dlC_M_isBehind_25 (i := 15) rfl
theorem d_M_isBehind_25 : decode (zb m_M_isBehind) 25 = .ok (.bipush 6, 2) := zdal_p dlC_M_isBehind_25 (i := 16) rfl
theorem d_M_isBehind_27 : decode (zb m_M_isBehind) 27 = .ok (.iload_n 2, 1) := zdal_p dlC_M_isBehind_25 (i := 17) rfl
theorem d_M_isBehind_28 : decode (zb m_M_isBehind) 28 = .ok (.imul, 1) := zdal_p dlC_M_isBehind_25 (i := 18) rfl
theorem d_M_isBehind_29 : decode (zb m_M_isBehind) 29 = .ok (.iload_n 3, 1) := zdal_p dlC_M_isBehind_25 (i := 19) rfl
theorem d_M_isBehind_30 : decode (zb m_M_isBehind) 30 = .ok (.iadd, 1) := zdal_p dlC_M_isBehind_25 (i := 20) rfl
theorem d_M_isBehind_31 : decode (zb m_M_isBehind) 31 = .ok (.iaload, 1) := zdal_p dlC_M_isBehind_25 (i := 21) rfl
theorem d_M_isBehind_32 : decode (zb m_M_isBehind) 32 = .ok (.if_icmp .eq 34, 3) := zdal_p dlC_M_isBehind_25 (i := 22) rfl
theorem d_M_isBehind_35 : decode (zb m_M_isBehind) 35 = .ok (.aload_n 0, 1) := zdal_p dlC_M_isBehind_25 (i := 23) rfl
theorem dlC_M_isBehind_26 : zdal (zb m_M_isBehind) [(36, (.getfield 26, 3)), (39, (.bipush 6, 2)), (41, (.iload_n 1, 1)), (42, (.imul, 1)), (43, (.iload_n 3, 1)), (44, (.iadd, 1)), (45, (.iaload, 1)), (46, (.aload_n 0, 1)), (47, (.getfield 26, 3)), (50, (.bipush 6, 2)), (52, (.iload_n 2, 1)), (53, (.imul, 1)), (54, (.iload_n 3, 1)), (55, (.iadd, 1)), (56, (.iaload, 1)), (57, (.if_icmp .le 7, 3)), (60, (.iconst 1, 1)), (61, (.goto 4, 3)), (64, (.iconst 0, 1)), (65, (.ireturn, 1)), (66, (.iinc 3 1, 3)), (69, (.goto (-67), 3)), (72, (.iconst 0, 1)), (73, (.ireturn, 1))] = true := zDs 36 (by decide +kernel)
theorem d_M_isBehind_36 : decode (zb m_M_isBehind) 36 = .ok (.getfield 26, 3) := zdal_p dlC_M_isBehind_26 (i := 0) rfl
theorem d_M_isBehind_39 : decode (zb m_M_isBehind) 39 = .ok (.bipush 6, 2) := zdal_p dlC_M_isBehind_26 (i := 1) rfl
theorem d_M_isBehind_41 : decode (zb m_M_isBehind) 41 = .ok (.iload_n 1, 1) := zdal_p dlC_M_isBehind_26 (i := 2) rfl
theorem d_M_isBehind_42 : decode (zb m_M_isBehind) 42 = .ok (.imul, 1) := zdal_p dlC_M_isBehind_26 (i := 3) rfl
theorem d_M_isBehind_43 : decode (zb m_M_isBehind) 43 = .ok (.iload_n 3, 1) := zdal_p dlC_M_isBehind_26 (i := 4) rfl
theorem d_M_isBehind_44 : decode (zb m_M_isBehind) 44 = .ok (.iadd, 1) := zdal_p dlC_M_isBehind_26 (i := 5) rfl
theorem d_M_isBehind_45 : decode (zb m_M_isBehind) 45 = .ok (.iaload, 1) := zdal_p dlC_M_isBehind_26 (i := 6) rfl
theorem d_M_isBehind_46 : decode (zb m_M_isBehind) 46 = .ok (.aload_n 0, 1) := zdal_p dlC_M_isBehind_26 (i := 7) rfl
theorem d_M_isBehind_47 : decode (zb m_M_isBehind) 47 = .ok (.getfield 26, 3) := zdal_p dlC_M_isBehind_26 (i := 8) rfl
theorem d_M_isBehind_50 : decode (zb m_M_isBehind) 50 = .ok (.bipush 6, 2) := zdal_p dlC_M_isBehind_26 (i := 9) rfl
theorem d_M_isBehind_52 : decode (zb m_M_isBehind) 52 = .ok (.iload_n 2, 1) := zdal_p dlC_M_isBehind_26 (i := 10) rfl
theorem d_M_isBehind_53 : decode (zb m_M_isBehind) 53 = .ok (.imul, 1) := zdal_p dlC_M_isBehind_26 (i := 11) rfl
theorem d_M_isBehind_54 : decode (zb m_M_isBehind) 54 = .ok (.iload_n 3, 1) := zdal_p dlC_M_isBehind_26 (i := 12) rfl
theorem d_M_isBehind_55 : decode (zb m_M_isBehind) 55 = .ok (.iadd, 1) := zdal_p dlC_M_isBehind_26 (i := 13) rfl
theorem d_M_isBehind_56 : decode (zb m_M_isBehind) 56 = .ok (.iaload, 1) := zdal_p dlC_M_isBehind_26 (i := 14) rfl
theorem d_M_isBehind_57 : decode (zb m_M_isBehind) 57 = .ok (.if_icmp .le 7, 3) := zdal_p dlC_M_isBehind_26 (i := 15) rfl
theorem d_M_isBehind_60 : decode (zb m_M_isBehind) 60 = .ok (.iconst 1, 1) := zdal_p dlC_M_isBehind_26 (i := 16) rfl
theorem d_M_isBehind_61 : decode (zb m_M_isBehind) 61 = .ok (.goto 4, 3) := zdal_p dlC_M_isBehind_26 (i := 17) rfl
theorem d_M_isBehind_64 : decode (zb m_M_isBehind) 64 = .ok (.iconst 0, 1) := zdal_p dlC_M_isBehind_26 (i := 18) rfl
theorem d_M_isBehind_65 : decode (zb m_M_isBehind) 65 = .ok (.ireturn, 1) := zdal_p dlC_M_isBehind_26 (i := 19) rfl
theorem d_M_isBehind_66 : decode (zb m_M_isBehind) 66 = .ok (.iinc 3 1, 3) := zdal_p dlC_M_isBehind_26 (i := 20) rfl
theorem d_M_isBehind_69 : decode (zb m_M_isBehind) 69 = .ok (.goto (-67), 3) := zdal_p dlC_M_isBehind_26 (i := 21) rfl
theorem d_M_isBehind_72 : decode (zb m_M_isBehind) 72 = .ok (.iconst 0, 1) := zdal_p dlC_M_isBehind_26 (i := 22) rfl
theorem d_M_isBehind_73 : decode (zb m_M_isBehind) 73 = .ok (.ireturn, 1) := zdal_p dlC_M_isBehind_26 (i := 23) rfl
theorem dlC_M_exchanges_27 : zdal (zb m_M_exchanges) [(0, (.iconst 0, 1)), (1, (.istore_n 3, 1)), (2, (.iload_n 3, 1)), (3, (.bipush 6, 2)), (5, (.if_icmp .ge 57, 3)), (8, (.aload_n 0, 1)), (9, (.getfield 26, 3)), (12, (.bipush 6, 2)), (14, (.iload_n 1, 1)), (15, (.imul, 1)), (16, (.iload_n 3, 1)), (17, (.iadd, 1)), (18, (.iaload, 1)), (19, (.istore 4, 2)), (21, (.aload_n 0, 1)), (22, (.getfield 26, 3)), (25, (.bipush 6, 2)), (27, (.iload_n 1, 1)), (28, (.imul, 1)), (29, (.iload_n 3, 1)), (30, (.iadd, 1)), (31, (.aload_n 0, 1)), (32, (.getfield 26, 3)), (35, (.bipush 6, 2))] = true := zDs 0 (by decide +kernel)
theorem d_M_exchanges_0 : decode (zb m_M_exchanges) 0 = .ok (.iconst 0, 1) := zdal_p dlC_M_exchanges_27 (i := 0) rfl
theorem d_M_exchanges_1 : decode (zb m_M_exchanges) 1 = .ok (.istore_n 3, 1) := zdal_p dlC_M_exchanges_27 (i := 1) rfl
theorem d_M_exchanges_2 : decode (zb m_M_exchanges) 2 = .ok (.iload_n 3, 1) := zdal_p dlC_M_exchanges_27 (i := 2) rfl
theorem d_M_exchanges_3 : decode (zb m_M_exchanges) 3 = .ok (.bipush 6, 2) := zdal_p dlC_M_exchanges_27 (i := 3) rfl
theorem d_M_exchanges_5 : decode (zb m_M_exchanges) 5 = .ok (.if_icmp .ge 57, 3) := zdal_p dlC_M_exchanges_27 (i := 4) rfl
theorem d_M_exchanges_8 : decode (zb m_M_exchanges) 8 = .ok (.aload_n 0, 1) := zdal_p dlC_M_exchanges_27 (i := 5) rfl
theorem d_M_exchanges_9 : decode (zb m_M_exchanges) 9 = .ok (.getfield 26, 3) := zdal_p dlC_M_exchanges_27 (i := 6) rfl
theorem d_M_exchanges_12 : decode (zb m_M_exchanges) 12 = .ok (.bipush 6, 2) := zdal_p dlC_M_exchanges_27 (i := 7) rfl
theorem d_M_exchanges_14 : decode (zb m_M_exchanges) 14 = .ok (.iload_n 1, 1) := zdal_p dlC_M_exchanges_27 (i := 8) rfl
theorem d_M_exchanges_15 : decode (zb m_M_exchanges) 15 = .ok (.imul, 1) := zdal_p dlC_M_exchanges_27 (i := 9) rfl
theorem d_M_exchanges_16 : decode (zb m_M_exchanges) 16 = .ok (.iload_n 3, 1) := zdal_p dlC_M_exchanges_27 (i := 10) rfl
theorem d_M_exchanges_17 : decode (zb m_M_exchanges) 17 = .ok (.iadd, 1) := zdal_p dlC_M_exchanges_27 (i := 11) rfl
theorem d_M_exchanges_18 : decode (zb m_M_exchanges) 18 = .ok (.iaload, 1) := zdal_p dlC_M_exchanges_27 (i := 12) rfl
theorem d_M_exchanges_19 : decode (zb m_M_exchanges) 19 = .ok (.istore 4, 2) := zdal_p dlC_M_exchanges_27 (i := 13) rfl
theorem d_M_exchanges_21 : decode (zb m_M_exchanges) 21 = .ok (.aload_n 0, 1) := zdal_p dlC_M_exchanges_27 (i := 14) rfl
theorem d_M_exchanges_22 : decode (zb m_M_exchanges) 22 = .ok (.getfield 26, 3) := zdal_p dlC_M_exchanges_27 (i := 15) rfl
theorem d_M_exchanges_25 : decode (zb m_M_exchanges) 25 = .ok (.bipush 6, 2) := zdal_p dlC_M_exchanges_27 (i := 16) rfl
theorem d_M_exchanges_27 : decode (zb m_M_exchanges) 27 = .ok (.iload_n 1, 1) := zdal_p dlC_M_exchanges_27 (i := 17) rfl
theorem d_M_exchanges_28 : decode (zb m_M_exchanges) 28 = .ok (.imul, 1) := zdal_p dlC_M_exchanges_27 (i := 18) rfl
theorem d_M_exchanges_29 : decode (zb m_M_exchanges) 29 = .ok (.iload_n 3, 1) := zdal_p dlC_M_exchanges_27 (i := 19) rfl
theorem d_M_exchanges_30 : decode (zb m_M_exchanges) 30 = .ok (.iadd, 1) := zdal_p dlC_M_exchanges_27 (i := 20) rfl
theorem d_M_exchanges_31 : decode (zb m_M_exchanges) 31 = .ok (.aload_n 0, 1) := zdal_p dlC_M_exchanges_27 (i := 21) rfl
theorem d_M_exchanges_32 : decode (zb m_M_exchanges) 32 = .ok (.getfield 26, 3) := zdal_p dlC_M_exchanges_27 (i := 22) rfl
theorem d_M_exchanges_35 : decode (zb m_M_exchanges) 35 = .ok (.bipush 6, 2) := zdal_p dlC_M_exchanges_27 (i := 23) rfl
theorem dlC_M_exchanges_28 : zdal (zb m_M_exchanges) [(37, (.iload_n 2, 1)), (38, (.imul, 1)), (39, (.iload_n 3, 1)), (40, (.iadd, 1)), (41, (.iaload, 1)), (42, (.iastore, 1)), (43, (.aload_n 0, 1)), (44, (.getfield 26, 3)), (47, (.bipush 6, 2)), (49, (.iload_n 2, 1)), (50, (.imul, 1)), (51, (.iload_n 3, 1)), (52, (.iadd, 1)), (53, (.iload 4, 2)), (55, (.iastore, 1)), (56, (.iinc 3 1, 3)), (59, (.goto (-57), 3)), (62, (.return_, 1))] = true := zDs 37 (by decide +kernel)
theorem d_M_exchanges_37 : decode (zb m_M_exchanges) 37 = .ok (.iload_n 2, 1) := zdal_p dlC_M_exchanges_28 (i := 0) rfl
theorem d_M_exchanges_38 : decode (zb m_M_exchanges) 38 = .ok (.imul, 1) := zdal_p dlC_M_exchanges_28 (i := 1) rfl
theorem d_M_exchanges_39 : decode (zb m_M_exchanges) 39 = .ok (.iload_n 3, 1) := zdal_p dlC_M_exchanges_28 (i := 2) rfl
theorem d_M_exchanges_40 : decode (zb m_M_exchanges) 40 = .ok (.iadd, 1) := zdal_p dlC_M_exchanges_28 (i := 3) rfl
theorem d_M_exchanges_41 : decode (zb m_M_exchanges) 41 = .ok (.iaload, 1) := zdal_p dlC_M_exchanges_28 (i := 4) rfl
theorem d_M_exchanges_42 : decode (zb m_M_exchanges) 42 = .ok (.iastore, 1) := zdal_p dlC_M_exchanges_28 (i := 5) rfl
theorem d_M_exchanges_43 : decode (zb m_M_exchanges) 43 = .ok (.aload_n 0, 1) := zdal_p dlC_M_exchanges_28 (i := 6) rfl
theorem d_M_exchanges_44 : decode (zb m_M_exchanges) 44 = .ok (.getfield 26, 3) := zdal_p dlC_M_exchanges_28 (i := 7) rfl
theorem d_M_exchanges_47 : decode (zb m_M_exchanges) 47 = .ok (.bipush 6, 2) := zdal_p dlC_M_exchanges_28 (i := 8) rfl
theorem d_M_exchanges_49 : decode (zb m_M_exchanges) 49 = .ok (.iload_n 2, 1) := zdal_p dlC_M_exchanges_28 (i := 9) rfl
theorem d_M_exchanges_50 : decode (zb m_M_exchanges) 50 = .ok (.imul, 1) := zdal_p dlC_M_exchanges_28 (i := 10) rfl
theorem d_M_exchanges_51 : decode (zb m_M_exchanges) 51 = .ok (.iload_n 3, 1) := zdal_p dlC_M_exchanges_28 (i := 11) rfl
theorem d_M_exchanges_52 : decode (zb m_M_exchanges) 52 = .ok (.iadd, 1) := zdal_p dlC_M_exchanges_28 (i := 12) rfl
theorem d_M_exchanges_53 : decode (zb m_M_exchanges) 53 = .ok (.iload 4, 2) := zdal_p dlC_M_exchanges_28 (i := 13) rfl
theorem d_M_exchanges_55 : decode (zb m_M_exchanges) 55 = .ok (.iastore, 1) := zdal_p dlC_M_exchanges_28 (i := 14) rfl
theorem d_M_exchanges_56 : decode (zb m_M_exchanges) 56 = .ok (.iinc 3 1, 3) := zdal_p dlC_M_exchanges_28 (i := 15) rfl
theorem d_M_exchanges_59 : decode (zb m_M_exchanges) 59 = .ok (.goto (-57), 3) := zdal_p dlC_M_exchanges_28 (i := 16) rfl
theorem d_M_exchanges_62 : decode (zb m_M_exchanges) 62 = .ok (.return_, 1) := zdal_p dlC_M_exchanges_28 (i := 17) rfl
theorem dlC_M_holds_29 : zdal (zb m_M_holds) [(0, (.iload_n 0, 1)), (1, (.iload_n 1, 1)), (2, (.ishr, 1)), (3, (.iconst 1, 1)), (4, (.iand, 1)), (5, (.iconst 1, 1)), (6, (.if_icmp .ne 7, 3)), (9, (.iconst 1, 1)), (10, (.goto 4, 3)), (13, (.iconst 0, 1)), (14, (.ireturn, 1))] = true := zDs 0 (by decide +kernel)
theorem d_M_holds_0 : decode (zb m_M_holds) 0 = .ok (.iload_n 0, 1) := zdal_p dlC_M_holds_29 (i := 0) rfl
theorem d_M_holds_1 : decode (zb m_M_holds) 1 = .ok (.iload_n 1, 1) := zdal_p dlC_M_holds_29 (i := 1) rfl
theorem d_M_holds_2 : decode (zb m_M_holds) 2 = .ok (.ishr, 1) := zdal_p dlC_M_holds_29 (i := 2) rfl
theorem d_M_holds_3 : decode (zb m_M_holds) 3 = .ok (.iconst 1, 1) := zdal_p dlC_M_holds_29 (i := 3) rfl
theorem d_M_holds_4 : decode (zb m_M_holds) 4 = .ok (.iand, 1) := zdal_p dlC_M_holds_29 (i := 4) rfl
theorem d_M_holds_5 : decode (zb m_M_holds) 5 = .ok (.iconst 1, 1) := zdal_p dlC_M_holds_29 (i := 5) rfl
theorem d_M_holds_6 : decode (zb m_M_holds) 6 = .ok (.if_icmp .ne 7, 3) := zdal_p dlC_M_holds_29 (i := 6) rfl
theorem d_M_holds_9 : decode (zb m_M_holds) 9 = .ok (.iconst 1, 1) := zdal_p dlC_M_holds_29 (i := 7) rfl
theorem d_M_holds_10 : decode (zb m_M_holds) 10 = .ok (.goto 4, 3) := zdal_p dlC_M_holds_29 (i := 8) rfl
theorem d_M_holds_13 : decode (zb m_M_holds) 13 = .ok (.iconst 0, 1) := zdal_p dlC_M_holds_29 (i := 9) rfl
theorem d_M_holds_14 : decode (zb m_M_holds) 14 = .ok (.ireturn, 1) := zdal_p dlC_M_holds_29 (i := 10) rfl
theorem dlC_M_closed_30 : zdal (zb m_M_closed) [(0, (.iload_n 1, 1)), (1, (.iconst 1, 1)), (2, (.ior, 1)), (3, (.istore_n 2, 1)), (4, (.iconst 0, 1)), (5, (.istore_n 3, 1)), (6, (.iload_n 2, 1)), (7, (.iload_n 3, 1)), (8, (.if_icmp .eq 75, 3)), (11, (.iload_n 2, 1)), (12, (.istore_n 3, 1)), (13, (.iconst 0, 1)), (14, (.istore 4, 2)), (16, (.iload 4, 2)), (18, (.aload_n 0, 1)), (19, (.getfield 196, 3)), (22, (.if_icmp .ge 58, 3)), (25, (.iconst 0, 1)), (26, (.istore 5, 2)), (28, (.iload 5, 2)), (30, (.aload_n 0, 1)), (31, (.getfield 196, 3)), (34, (.if_icmp .ge 40, 3)), (37, (.iload_n 2, 1))] = true := zDs 0 (by decide +kernel)
theorem d_M_closed_0 : decode (zb m_M_closed) 0 = .ok (.iload_n 1, 1) := zdal_p dlC_M_closed_30 (i := 0) rfl
theorem d_M_closed_1 : decode (zb m_M_closed) 1 = .ok (.iconst 1, 1) := zdal_p dlC_M_closed_30 (i := 1) rfl
theorem d_M_closed_2 : decode (zb m_M_closed) 2 = .ok (.ior, 1) := zdal_p dlC_M_closed_30 (i := 2) rfl
theorem d_M_closed_3 : decode (zb m_M_closed) 3 = .ok (.istore_n 2, 1) := zdal_p dlC_M_closed_30 (i := 3) rfl
theorem d_M_closed_4 : decode (zb m_M_closed) 4 = .ok (.iconst 0, 1) := zdal_p dlC_M_closed_30 (i := 4) rfl
theorem d_M_closed_5 : decode (zb m_M_closed) 5 = .ok (.istore_n 3, 1) := zdal_p dlC_M_closed_30 (i := 5) rfl
theorem d_M_closed_6 : decode (zb m_M_closed) 6 = .ok (.iload_n 2, 1) := zdal_p dlC_M_closed_30 (i := 6) rfl
theorem d_M_closed_7 : decode (zb m_M_closed) 7 = .ok (.iload_n 3, 1) := zdal_p dlC_M_closed_30 (i := 7) rfl
theorem d_M_closed_8 : decode (zb m_M_closed) 8 = .ok (.if_icmp .eq 75, 3) := zdal_p dlC_M_closed_30 (i := 8) rfl
theorem d_M_closed_11 : decode (zb m_M_closed) 11 = .ok (.iload_n 2, 1) := zdal_p dlC_M_closed_30 (i := 9) rfl
theorem d_M_closed_12 : decode (zb m_M_closed) 12 = .ok (.istore_n 3, 1) := zdal_p dlC_M_closed_30 (i := 10) rfl
theorem d_M_closed_13 : decode (zb m_M_closed) 13 = .ok (.iconst 0, 1) := zdal_p dlC_M_closed_30 (i := 11) rfl
theorem d_M_closed_14 : decode (zb m_M_closed) 14 = .ok (.istore 4, 2) := zdal_p dlC_M_closed_30 (i := 12) rfl
theorem d_M_closed_16 : decode (zb m_M_closed) 16 = .ok (.iload 4, 2) := zdal_p dlC_M_closed_30 (i := 13) rfl
theorem d_M_closed_18 : decode (zb m_M_closed) 18 = .ok (.aload_n 0, 1) := zdal_p dlC_M_closed_30 (i := 14) rfl
theorem d_M_closed_19 : decode (zb m_M_closed) 19 = .ok (.getfield 196, 3) := zdal_p dlC_M_closed_30 (i := 15) rfl
theorem d_M_closed_22 : decode (zb m_M_closed) 22 = .ok (.if_icmp .ge 58, 3) := zdal_p dlC_M_closed_30 (i := 16) rfl
theorem d_M_closed_25 : decode (zb m_M_closed) 25 = .ok (.iconst 0, 1) := zdal_p dlC_M_closed_30 (i := 17) rfl
theorem d_M_closed_26 : decode (zb m_M_closed) 26 = .ok (.istore 5, 2) := zdal_p dlC_M_closed_30 (i := 18) rfl
theorem d_M_closed_28 : decode (zb m_M_closed) 28 = .ok (.iload 5, 2) := zdal_p dlC_M_closed_30 (i := 19) rfl
theorem d_M_closed_30 : decode (zb m_M_closed) 30 = .ok (.aload_n 0, 1) := zdal_p dlC_M_closed_30 (i := 20) rfl
theorem d_M_closed_31 : decode (zb m_M_closed) 31 = .ok (.getfield 196, 3) := zdal_p dlC_M_closed_30 (i := 21) rfl
theorem d_M_closed_34 : decode (zb m_M_closed) 34 = .ok (.if_icmp .ge 40, 3) := zdal_p dlC_M_closed_30 (i := 22) rfl
theorem d_M_closed_37 : decode (zb m_M_closed) 37 = .ok (.iload_n 2, 1) := zdal_p dlC_M_closed_30 (i := 23) rfl
theorem dlC_M_closed_31 : zdal (zb m_M_closed) [(38, (.iload 4, 2)), (40, (.invokestatic 213, 3)), (43, (.ifCond .eq 31, 3)), (46, (.iload_n 2, 1)), (47, (.iload 5, 2)), (49, (.invokestatic 213, 3)), (52, (.ifCond .eq 16, 3)), (55, (.iload_n 2, 1)), (56, (.iconst 1, 1)), (57, (.aload_n 0, 1)), (58, (.iload 4, 2)), (60, (.iload 5, 2)), (62, (.invokevirtual 216, 3)), (65, (.ishl, 1)), (66, (.ior, 1)), (67, (.istore_n 2, 1)), (68, (.iinc 5 1, 3)), (71, (.goto (-43), 3)), (74, (.iinc 4 1, 3)), (77, (.goto (-61), 3)), (80, (.goto (-74), 3)), (83, (.iload_n 2, 1)), (84, (.ireturn, 1))] = true := zDs 38 (by decide +kernel)
theorem d_M_closed_38 : decode (zb m_M_closed) 38 = .ok (.iload 4, 2) := zdal_p dlC_M_closed_31 (i := 0) rfl
theorem d_M_closed_40 : decode (zb m_M_closed) 40 = .ok (.invokestatic 213, 3) := zdal_p dlC_M_closed_31 (i := 1) rfl
theorem d_M_closed_43 : decode (zb m_M_closed) 43 = .ok (.ifCond .eq 31, 3) := zdal_p dlC_M_closed_31 (i := 2) rfl
theorem d_M_closed_46 : decode (zb m_M_closed) 46 = .ok (.iload_n 2, 1) := zdal_p dlC_M_closed_31 (i := 3) rfl
theorem d_M_closed_47 : decode (zb m_M_closed) 47 = .ok (.iload 5, 2) := zdal_p dlC_M_closed_31 (i := 4) rfl
theorem d_M_closed_49 : decode (zb m_M_closed) 49 = .ok (.invokestatic 213, 3) := zdal_p dlC_M_closed_31 (i := 5) rfl
theorem d_M_closed_52 : decode (zb m_M_closed) 52 = .ok (.ifCond .eq 16, 3) := zdal_p dlC_M_closed_31 (i := 6) rfl
theorem d_M_closed_55 : decode (zb m_M_closed) 55 = .ok (.iload_n 2, 1) := zdal_p dlC_M_closed_31 (i := 7) rfl
theorem d_M_closed_56 : decode (zb m_M_closed) 56 = .ok (.iconst 1, 1) := zdal_p dlC_M_closed_31 (i := 8) rfl
theorem d_M_closed_57 : decode (zb m_M_closed) 57 = .ok (.aload_n 0, 1) := zdal_p dlC_M_closed_31 (i := 9) rfl
theorem d_M_closed_58 : decode (zb m_M_closed) 58 = .ok (.iload 4, 2) := zdal_p dlC_M_closed_31 (i := 10) rfl
theorem d_M_closed_60 : decode (zb m_M_closed) 60 = .ok (.iload 5, 2) := zdal_p dlC_M_closed_31 (i := 11) rfl
theorem d_M_closed_62 : decode (zb m_M_closed) 62 = .ok (.invokevirtual 216, 3) := zdal_p dlC_M_closed_31 (i := 12) rfl
theorem d_M_closed_65 : decode (zb m_M_closed) 65 = .ok (.ishl, 1) := zdal_p dlC_M_closed_31 (i := 13) rfl
theorem d_M_closed_66 : decode (zb m_M_closed) 66 = .ok (.ior, 1) := zdal_p dlC_M_closed_31 (i := 14) rfl
theorem d_M_closed_67 : decode (zb m_M_closed) 67 = .ok (.istore_n 2, 1) := zdal_p dlC_M_closed_31 (i := 15) rfl
theorem d_M_closed_68 : decode (zb m_M_closed) 68 = .ok (.iinc 5 1, 3) := zdal_p dlC_M_closed_31 (i := 16) rfl
theorem d_M_closed_71 : decode (zb m_M_closed) 71 = .ok (.goto (-43), 3) := zdal_p dlC_M_closed_31 (i := 17) rfl
theorem d_M_closed_74 : decode (zb m_M_closed) 74 = .ok (.iinc 4 1, 3) := zdal_p dlC_M_closed_31 (i := 18) rfl
theorem d_M_closed_77 : decode (zb m_M_closed) 77 = .ok (.goto (-61), 3) := zdal_p dlC_M_closed_31 (i := 19) rfl
theorem d_M_closed_80 : decode (zb m_M_closed) 80 = .ok (.goto (-74), 3) := zdal_p dlC_M_closed_31 (i := 20) rfl
theorem d_M_closed_83 : decode (zb m_M_closed) 83 = .ok (.iload_n 2, 1) := zdal_p dlC_M_closed_31 (i := 21) rfl
theorem d_M_closed_84 : decode (zb m_M_closed) 84 = .ok (.ireturn, 1) := zdal_p dlC_M_closed_31 (i := 22) rfl
theorem dlC_M_by_32 : zdal (zb m_M_by) [(0, (.aload_n 0, 1)), (1, (.getfield 32, 3)), (4, (.bipush 24, 2)), (6, (.iload_n 1, 1)), (7, (.imul, 1)), (8, (.iload_n 2, 1)), (9, (.iadd, 1)), (10, (.iaload, 1)), (11, (.ireturn, 1))] = true := zDs 0 (by decide +kernel)
theorem d_M_by_0 : decode (zb m_M_by) 0 = .ok (.aload_n 0, 1) := zdal_p dlC_M_by_32 (i := 0) rfl
theorem d_M_by_1 : decode (zb m_M_by) 1 = .ok (.getfield 32, 3) := zdal_p dlC_M_by_32 (i := 1) rfl
theorem d_M_by_4 : decode (zb m_M_by) 4 = .ok (.bipush 24, 2) := zdal_p dlC_M_by_32 (i := 2) rfl
theorem d_M_by_6 : decode (zb m_M_by) 6 = .ok (.iload_n 1, 1) := zdal_p dlC_M_by_32 (i := 3) rfl
theorem d_M_by_7 : decode (zb m_M_by) 7 = .ok (.imul, 1) := zdal_p dlC_M_by_32 (i := 4) rfl
theorem d_M_by_8 : decode (zb m_M_by) 8 = .ok (.iload_n 2, 1) := zdal_p dlC_M_by_32 (i := 5) rfl
theorem d_M_by_9 : decode (zb m_M_by) 9 = .ok (.iadd, 1) := zdal_p dlC_M_by_32 (i := 6) rfl
theorem d_M_by_10 : decode (zb m_M_by) 10 = .ok (.iaload, 1) := zdal_p dlC_M_by_32 (i := 7) rfl
theorem d_M_by_11 : decode (zb m_M_by) 11 = .ok (.ireturn, 1) := zdal_p dlC_M_by_32 (i := 8) rfl
theorem dlC_M_subIndex_33 : zdal (zb m_M_subIndex) [(0, (.iconst 0, 1)), (1, (.istore_n 2, 1)), (2, (.iload_n 2, 1)), (3, (.aload_n 0, 1)), (4, (.getfield 220, 3)), (7, (.if_icmp .ge 21, 3)), (10, (.aload_n 0, 1)), (11, (.getfield 38, 3)), (14, (.iload_n 2, 1)), (15, (.iaload, 1)), (16, (.iload_n 1, 1)), (17, (.if_icmp .ne 5, 3)), (20, (.iload_n 2, 1)), (21, (.ireturn, 1)), (22, (.iinc 2 1, 3)), (25, (.goto (-23), 3)), (28, (.iconst (-1), 1)), (29, (.ireturn, 1))] = true := zDs 0 (by decide +kernel)
theorem d_M_subIndex_0 : decode (zb m_M_subIndex) 0 = .ok (.iconst 0, 1) := zdal_p dlC_M_subIndex_33 (i := 0) rfl
theorem d_M_subIndex_1 : decode (zb m_M_subIndex) 1 = .ok (.istore_n 2, 1) := zdal_p dlC_M_subIndex_33 (i := 1) rfl
theorem d_M_subIndex_2 : decode (zb m_M_subIndex) 2 = .ok (.iload_n 2, 1) := zdal_p dlC_M_subIndex_33 (i := 2) rfl
theorem d_M_subIndex_3 : decode (zb m_M_subIndex) 3 = .ok (.aload_n 0, 1) := zdal_p dlC_M_subIndex_33 (i := 3) rfl
theorem d_M_subIndex_4 : decode (zb m_M_subIndex) 4 = .ok (.getfield 220, 3) := zdal_p dlC_M_subIndex_33 (i := 4) rfl
theorem d_M_subIndex_7 : decode (zb m_M_subIndex) 7 = .ok (.if_icmp .ge 21, 3) := zdal_p dlC_M_subIndex_33 (i := 5) rfl
theorem d_M_subIndex_10 : decode (zb m_M_subIndex) 10 = .ok (.aload_n 0, 1) := zdal_p dlC_M_subIndex_33 (i := 6) rfl
theorem d_M_subIndex_11 : decode (zb m_M_subIndex) 11 = .ok (.getfield 38, 3) := zdal_p dlC_M_subIndex_33 (i := 7) rfl
theorem d_M_subIndex_14 : decode (zb m_M_subIndex) 14 = .ok (.iload_n 2, 1) := zdal_p dlC_M_subIndex_33 (i := 8) rfl
theorem d_M_subIndex_15 : decode (zb m_M_subIndex) 15 = .ok (.iaload, 1) := zdal_p dlC_M_subIndex_33 (i := 9) rfl
theorem d_M_subIndex_16 : decode (zb m_M_subIndex) 16 = .ok (.iload_n 1, 1) := zdal_p dlC_M_subIndex_33 (i := 10) rfl
theorem d_M_subIndex_17 : decode (zb m_M_subIndex) 17 = .ok (.if_icmp .ne 5, 3) := zdal_p dlC_M_subIndex_33 (i := 11) rfl
theorem d_M_subIndex_20 : decode (zb m_M_subIndex) 20 = .ok (.iload_n 2, 1) := zdal_p dlC_M_subIndex_33 (i := 12) rfl
theorem d_M_subIndex_21 : decode (zb m_M_subIndex) 21 = .ok (.ireturn, 1) := zdal_p dlC_M_subIndex_33 (i := 13) rfl
theorem d_M_subIndex_22 : decode (zb m_M_subIndex) 22 = .ok (.iinc 2 1, 3) := zdal_p dlC_M_subIndex_33 (i := 14) rfl
theorem d_M_subIndex_25 : decode (zb m_M_subIndex) 25 = .ok (.goto (-23), 3) := zdal_p dlC_M_subIndex_33 (i := 15) rfl
theorem d_M_subIndex_28 : decode (zb m_M_subIndex) 28 = .ok (.iconst (-1), 1) := zdal_p dlC_M_subIndex_33 (i := 16) rfl
theorem d_M_subIndex_29 : decode (zb m_M_subIndex) 29 = .ok (.ireturn, 1) := zdal_p dlC_M_subIndex_33 (i := 17) rfl
theorem dlC_M_leastTurned_34 : zdal (zb m_M_leastTurned) [(0, (.iload_n 1, 1)), (1, (.istore_n 2, 1)), (2, (.iconst 0, 1)), (3, (.istore_n 3, 1)), (4, (.iload_n 3, 1)), (5, (.aload_n 0, 1)), (6, (.getfield 196, 3)), (9, (.if_icmp .ge 30, 3)), (12, (.aload_n 0, 1)), (13, (.iload_n 1, 1)), (14, (.iload_n 3, 1)), (15, (.invokevirtual 223, 3)), (18, (.istore 4, 2)), (20, (.iload 4, 2)), (22, (.iload_n 2, 1)), (23, (.if_icmp .ge 8, 3)), (26, (.iload 4, 2)), (28, (.goto 4, 3)), (31, (.iload_n 2, 1)), (32, (.istore_n 2, 1)), (33, (.iinc 3 1, 3)), (36, (.goto (-32), 3)), (39, (.iload_n 2, 1)), (40, (.ireturn, 1))] = true := zDs 0 (by decide +kernel)
theorem d_M_leastTurned_0 : decode (zb m_M_leastTurned) 0 = .ok (.iload_n 1, 1) := zdal_p dlC_M_leastTurned_34 (i := 0) rfl
theorem d_M_leastTurned_1 : decode (zb m_M_leastTurned) 1 = .ok (.istore_n 2, 1) := zdal_p dlC_M_leastTurned_34 (i := 1) rfl
theorem d_M_leastTurned_2 : decode (zb m_M_leastTurned) 2 = .ok (.iconst 0, 1) := zdal_p dlC_M_leastTurned_34 (i := 2) rfl
theorem d_M_leastTurned_3 : decode (zb m_M_leastTurned) 3 = .ok (.istore_n 3, 1) := zdal_p dlC_M_leastTurned_34 (i := 3) rfl
theorem d_M_leastTurned_4 : decode (zb m_M_leastTurned) 4 = .ok (.iload_n 3, 1) := zdal_p dlC_M_leastTurned_34 (i := 4) rfl
theorem d_M_leastTurned_5 : decode (zb m_M_leastTurned) 5 = .ok (.aload_n 0, 1) := zdal_p dlC_M_leastTurned_34 (i := 5) rfl
theorem d_M_leastTurned_6 : decode (zb m_M_leastTurned) 6 = .ok (.getfield 196, 3) := zdal_p dlC_M_leastTurned_34 (i := 6) rfl
theorem d_M_leastTurned_9 : decode (zb m_M_leastTurned) 9 = .ok (.if_icmp .ge 30, 3) := zdal_p dlC_M_leastTurned_34 (i := 7) rfl
theorem d_M_leastTurned_12 : decode (zb m_M_leastTurned) 12 = .ok (.aload_n 0, 1) := zdal_p dlC_M_leastTurned_34 (i := 8) rfl
theorem d_M_leastTurned_13 : decode (zb m_M_leastTurned) 13 = .ok (.iload_n 1, 1) := zdal_p dlC_M_leastTurned_34 (i := 9) rfl
theorem d_M_leastTurned_14 : decode (zb m_M_leastTurned) 14 = .ok (.iload_n 3, 1) := zdal_p dlC_M_leastTurned_34 (i := 10) rfl
theorem d_M_leastTurned_15 : decode (zb m_M_leastTurned) 15 = .ok (.invokevirtual 223, 3) := zdal_p dlC_M_leastTurned_34 (i := 11) rfl
theorem d_M_leastTurned_18 : decode (zb m_M_leastTurned) 18 = .ok (.istore 4, 2) := zdal_p dlC_M_leastTurned_34 (i := 12) rfl
theorem d_M_leastTurned_20 : decode (zb m_M_leastTurned) 20 = .ok (.iload 4, 2) := zdal_p dlC_M_leastTurned_34 (i := 13) rfl
theorem d_M_leastTurned_22 : decode (zb m_M_leastTurned) 22 = .ok (.iload_n 2, 1) := zdal_p dlC_M_leastTurned_34 (i := 14) rfl
theorem d_M_leastTurned_23 : decode (zb m_M_leastTurned) 23 = .ok (.if_icmp .ge 8, 3) := zdal_p dlC_M_leastTurned_34 (i := 15) rfl
theorem d_M_leastTurned_26 : decode (zb m_M_leastTurned) 26 = .ok (.iload 4, 2) := zdal_p dlC_M_leastTurned_34 (i := 16) rfl
theorem d_M_leastTurned_28 : decode (zb m_M_leastTurned) 28 = .ok (.goto 4, 3) := zdal_p dlC_M_leastTurned_34 (i := 17) rfl
theorem d_M_leastTurned_31 : decode (zb m_M_leastTurned) 31 = .ok (.iload_n 2, 1) := zdal_p dlC_M_leastTurned_34 (i := 18) rfl
theorem d_M_leastTurned_32 : decode (zb m_M_leastTurned) 32 = .ok (.istore_n 2, 1) := zdal_p dlC_M_leastTurned_34 (i := 19) rfl
theorem d_M_leastTurned_33 : decode (zb m_M_leastTurned) 33 = .ok (.iinc 3 1, 3) := zdal_p dlC_M_leastTurned_34 (i := 20) rfl
theorem d_M_leastTurned_36 : decode (zb m_M_leastTurned) 36 = .ok (.goto (-32), 3) := zdal_p dlC_M_leastTurned_34 (i := 21) rfl
theorem d_M_leastTurned_39 : decode (zb m_M_leastTurned) 39 = .ok (.iload_n 2, 1) := zdal_p dlC_M_leastTurned_34 (i := 22) rfl
theorem d_M_leastTurned_40 : decode (zb m_M_leastTurned) 40 = .ok (.ireturn, 1) := zdal_p dlC_M_leastTurned_34 (i := 23) rfl
theorem dlC_M_turned_35 : zdal (zb m_M_turned) [(0, (.iconst 0, 1)), (1, (.istore_n 3, 1)), (2, (.iconst 0, 1)), (3, (.istore 4, 2)), (5, (.iload 4, 2)), (7, (.aload_n 0, 1)), (8, (.getfield 196, 3)), (11, (.if_icmp .ge 40, 3)), (14, (.iload_n 1, 1)), (15, (.iload 4, 2)), (17, (.invokestatic 213, 3)), (20, (.ifCond .eq 25, 3)), (23, (.iload_n 3, 1)), (24, (.iconst 1, 1)), (25, (.aload_n 0, 1)), (26, (.aload_n 0, 1)), (27, (.aload_n 0, 1)), (28, (.getfield 35, 3)), (31, (.iload_n 2, 1)), (32, (.iaload, 1)), (33, (.iload 4, 2)), (35, (.invokevirtual 216, 3)), (38, (.iload_n 2, 1)), (39, (.invokevirtual 216, 3))] = true := zDs 0 (by decide +kernel)
theorem d_M_turned_0 : decode (zb m_M_turned) 0 = .ok (.iconst 0, 1) := zdal_p dlC_M_turned_35 (i := 0) rfl
theorem d_M_turned_1 : decode (zb m_M_turned) 1 = .ok (.istore_n 3, 1) := zdal_p dlC_M_turned_35 (i := 1) rfl
theorem d_M_turned_2 : decode (zb m_M_turned) 2 = .ok (.iconst 0, 1) := zdal_p dlC_M_turned_35 (i := 2) rfl
theorem d_M_turned_3 : decode (zb m_M_turned) 3 = .ok (.istore 4, 2) := zdal_p dlC_M_turned_35 (i := 3) rfl
theorem d_M_turned_5 : decode (zb m_M_turned) 5 = .ok (.iload 4, 2) := zdal_p dlC_M_turned_35 (i := 4) rfl
theorem d_M_turned_7 : decode (zb m_M_turned) 7 = .ok (.aload_n 0, 1) := zdal_p dlC_M_turned_35 (i := 5) rfl
theorem d_M_turned_8 : decode (zb m_M_turned) 8 = .ok (.getfield 196, 3) := zdal_p dlC_M_turned_35 (i := 6) rfl
theorem d_M_turned_11 : decode (zb m_M_turned) 11 = .ok (.if_icmp .ge 40, 3) := zdal_p dlC_M_turned_35 (i := 7) rfl
theorem d_M_turned_14 : decode (zb m_M_turned) 14 = .ok (.iload_n 1, 1) := zdal_p dlC_M_turned_35 (i := 8) rfl
theorem d_M_turned_15 : decode (zb m_M_turned) 15 = .ok (.iload 4, 2) := zdal_p dlC_M_turned_35 (i := 9) rfl
theorem d_M_turned_17 : decode (zb m_M_turned) 17 = .ok (.invokestatic 213, 3) := zdal_p dlC_M_turned_35 (i := 10) rfl
theorem d_M_turned_20 : decode (zb m_M_turned) 20 = .ok (.ifCond .eq 25, 3) := zdal_p dlC_M_turned_35 (i := 11) rfl
theorem d_M_turned_23 : decode (zb m_M_turned) 23 = .ok (.iload_n 3, 1) := zdal_p dlC_M_turned_35 (i := 12) rfl
theorem d_M_turned_24 : decode (zb m_M_turned) 24 = .ok (.iconst 1, 1) := zdal_p dlC_M_turned_35 (i := 13) rfl
theorem d_M_turned_25 : decode (zb m_M_turned) 25 = .ok (.aload_n 0, 1) := zdal_p dlC_M_turned_35 (i := 14) rfl
theorem d_M_turned_26 : decode (zb m_M_turned) 26 = .ok (.aload_n 0, 1) := zdal_p dlC_M_turned_35 (i := 15) rfl
theorem d_M_turned_27 : decode (zb m_M_turned) 27 = .ok (.aload_n 0, 1) := zdal_p dlC_M_turned_35 (i := 16) rfl
theorem d_M_turned_28 : decode (zb m_M_turned) 28 = .ok (.getfield 35, 3) := zdal_p dlC_M_turned_35 (i := 17) rfl
theorem d_M_turned_31 : decode (zb m_M_turned) 31 = .ok (.iload_n 2, 1) := zdal_p dlC_M_turned_35 (i := 18) rfl
theorem d_M_turned_32 : decode (zb m_M_turned) 32 = .ok (.iaload, 1) := zdal_p dlC_M_turned_35 (i := 19) rfl
theorem d_M_turned_33 : decode (zb m_M_turned) 33 = .ok (.iload 4, 2) := zdal_p dlC_M_turned_35 (i := 20) rfl
theorem d_M_turned_35 : decode (zb m_M_turned) 35 = .ok (.invokevirtual 216, 3) := zdal_p dlC_M_turned_35 (i := 21) rfl
theorem d_M_turned_38 : decode (zb m_M_turned) 38 = .ok (.iload_n 2, 1) := zdal_p dlC_M_turned_35 (i := 22) rfl
theorem d_M_turned_39 : decode (zb m_M_turned) 39 = .ok (.invokevirtual 216, 3) := zdal_p dlC_M_turned_35 (i := 23) rfl
theorem dlC_M_turned_36 : zdal (zb m_M_turned) [(42, (.ishl, 1)), (43, (.ior, 1)), (44, (.istore_n 3, 1)), (45, (.iinc 4 1, 3)), (48, (.goto (-43), 3)), (51, (.iload_n 3, 1)), (52, (.ireturn, 1))] = true := zDs 42 (by decide +kernel)
theorem d_M_turned_42 : decode (zb m_M_turned) 42 = .ok (.ishl, 1) := zdal_p dlC_M_turned_36 (i := 0) rfl
theorem d_M_turned_43 : decode (zb m_M_turned) 43 = .ok (.ior, 1) := zdal_p dlC_M_turned_36 (i := 1) rfl
theorem d_M_turned_44 : decode (zb m_M_turned) 44 = .ok (.istore_n 3, 1) := zdal_p dlC_M_turned_36 (i := 2) rfl
theorem d_M_turned_45 : decode (zb m_M_turned) 45 = .ok (.iinc 4 1, 3) := zdal_p dlC_M_turned_36 (i := 3) rfl
theorem d_M_turned_48 : decode (zb m_M_turned) 48 = .ok (.goto (-43), 3) := zdal_p dlC_M_turned_36 (i := 4) rfl
theorem d_M_turned_51 : decode (zb m_M_turned) 51 = .ok (.iload_n 3, 1) := zdal_p dlC_M_turned_36 (i := 5) rfl
theorem d_M_turned_52 : decode (zb m_M_turned) 52 = .ok (.ireturn, 1) := zdal_p dlC_M_turned_36 (i := 6) rfl
theorem dlC_M_comesSort_37 : zdal (zb m_M_comesSort) [(0, (.aload_n 0, 1)), (1, (.getfield 235, 3)), (4, (.istore_n 2, 1)), (5, (.iload_n 2, 1)), (6, (.ifCond .le 71, 3)), (9, (.aload_n 0, 1)), (10, (.getfield 44, 3)), (13, (.iload_n 2, 1)), (14, (.iconst 1, 1)), (15, (.isub, 1)), (16, (.iaload, 1)), (17, (.invokestatic 253, 3)), (20, (.iload_n 1, 1)), (21, (.invokestatic 253, 3)), (24, (.if_icmp .gt 33, 3)), (27, (.aload_n 0, 1)), (28, (.getfield 44, 3)), (31, (.iload_n 2, 1)), (32, (.iconst 1, 1)), (33, (.isub, 1)), (34, (.iaload, 1)), (35, (.invokestatic 253, 3)), (38, (.iload_n 1, 1)), (39, (.invokestatic 253, 3))] = true := zDs 0 (by decide +kernel)
theorem d_M_comesSort_0 : decode (zb m_M_comesSort) 0 = .ok (.aload_n 0, 1) := zdal_p dlC_M_comesSort_37 (i := 0) rfl
theorem d_M_comesSort_1 : decode (zb m_M_comesSort) 1 = .ok (.getfield 235, 3) := zdal_p dlC_M_comesSort_37 (i := 1) rfl
theorem d_M_comesSort_4 : decode (zb m_M_comesSort) 4 = .ok (.istore_n 2, 1) := zdal_p dlC_M_comesSort_37 (i := 2) rfl
theorem d_M_comesSort_5 : decode (zb m_M_comesSort) 5 = .ok (.iload_n 2, 1) := zdal_p dlC_M_comesSort_37 (i := 3) rfl
theorem d_M_comesSort_6 : decode (zb m_M_comesSort) 6 = .ok (.ifCond .le 71, 3) := zdal_p dlC_M_comesSort_37 (i := 4) rfl
theorem d_M_comesSort_9 : decode (zb m_M_comesSort) 9 = .ok (.aload_n 0, 1) := zdal_p dlC_M_comesSort_37 (i := 5) rfl
theorem d_M_comesSort_10 : decode (zb m_M_comesSort) 10 = .ok (.getfield 44, 3) := zdal_p dlC_M_comesSort_37 (i := 6) rfl
theorem d_M_comesSort_13 : decode (zb m_M_comesSort) 13 = .ok (.iload_n 2, 1) := zdal_p dlC_M_comesSort_37 (i := 7) rfl
theorem d_M_comesSort_14 : decode (zb m_M_comesSort) 14 = .ok (.iconst 1, 1) := zdal_p dlC_M_comesSort_37 (i := 8) rfl
theorem d_M_comesSort_15 : decode (zb m_M_comesSort) 15 = .ok (.isub, 1) := zdal_p dlC_M_comesSort_37 (i := 9) rfl
theorem d_M_comesSort_16 : decode (zb m_M_comesSort) 16 = .ok (.iaload, 1) := zdal_p dlC_M_comesSort_37 (i := 10) rfl
theorem d_M_comesSort_17 : decode (zb m_M_comesSort) 17 = .ok (.invokestatic 253, 3) := zdal_p dlC_M_comesSort_37 (i := 11) rfl
theorem d_M_comesSort_20 : decode (zb m_M_comesSort) 20 = .ok (.iload_n 1, 1) := zdal_p dlC_M_comesSort_37 (i := 12) rfl
theorem d_M_comesSort_21 : decode (zb m_M_comesSort) 21 = .ok (.invokestatic 253, 3) := zdal_p dlC_M_comesSort_37 (i := 13) rfl
theorem d_M_comesSort_24 : decode (zb m_M_comesSort) 24 = .ok (.if_icmp .gt 33, 3) := zdal_p dlC_M_comesSort_37 (i := 14) rfl
theorem d_M_comesSort_27 : decode (zb m_M_comesSort) 27 = .ok (.aload_n 0, 1) := zdal_p dlC_M_comesSort_37 (i := 15) rfl
theorem d_M_comesSort_28 : decode (zb m_M_comesSort) 28 = .ok (.getfield 44, 3) := zdal_p dlC_M_comesSort_37 (i := 16) rfl
theorem d_M_comesSort_31 : decode (zb m_M_comesSort) 31 = .ok (.iload_n 2, 1) := zdal_p dlC_M_comesSort_37 (i := 17) rfl
theorem d_M_comesSort_32 : decode (zb m_M_comesSort) 32 = .ok (.iconst 1, 1) := zdal_p dlC_M_comesSort_37 (i := 18) rfl
theorem d_M_comesSort_33 : decode (zb m_M_comesSort) 33 = .ok (.isub, 1) := zdal_p dlC_M_comesSort_37 (i := 19) rfl
theorem d_M_comesSort_34 : decode (zb m_M_comesSort) 34 = .ok (.iaload, 1) := zdal_p dlC_M_comesSort_37 (i := 20) rfl
theorem d_M_comesSort_35 : decode (zb m_M_comesSort) 35 = .ok (.invokestatic 253, 3) := zdal_p dlC_M_comesSort_37 (i := 21) rfl
theorem d_M_comesSort_38 : decode (zb m_M_comesSort) 38 = .ok (.iload_n 1, 1) := zdal_p dlC_M_comesSort_37 (i := 22) rfl
theorem d_M_comesSort_39 : decode (zb m_M_comesSort) 39 = .ok (.invokestatic 253, 3) := zdal_p dlC_M_comesSort_37 (i := 23) rfl
theorem dlC_M_comesSort_38 : zdal (zb m_M_comesSort) [(42, (.if_icmp .ne 35, 3)), (45, (.aload_n 0, 1)), (46, (.getfield 44, 3)), (49, (.iload_n 2, 1)), (50, (.iconst 1, 1)), (51, (.isub, 1)), (52, (.iaload, 1)), (53, (.iload_n 1, 1)), (54, (.if_icmp .le 23, 3)), (57, (.aload_n 0, 1)), (58, (.getfield 44, 3)), (61, (.iload_n 2, 1)), (62, (.aload_n 0, 1)), (63, (.getfield 44, 3)), (66, (.iload_n 2, 1)), (67, (.iconst 1, 1)), (68, (.isub, 1)), (69, (.iaload, 1)), (70, (.iastore, 1)), (71, (.iinc 2 (-1), 3)), (74, (.goto (-69), 3)), (77, (.aload_n 0, 1)), (78, (.getfield 44, 3)), (81, (.iload_n 2, 1))] = true := zDs 42 (by decide +kernel)
theorem d_M_comesSort_42 : decode (zb m_M_comesSort) 42 = .ok (.if_icmp .ne 35, 3) := zdal_p dlC_M_comesSort_38 (i := 0) rfl
theorem d_M_comesSort_45 : decode (zb m_M_comesSort) 45 = .ok (.aload_n 0, 1) := zdal_p dlC_M_comesSort_38 (i := 1) rfl
theorem d_M_comesSort_46 : decode (zb m_M_comesSort) 46 = .ok (.getfield 44, 3) := zdal_p dlC_M_comesSort_38 (i := 2) rfl
theorem d_M_comesSort_49 : decode (zb m_M_comesSort) 49 = .ok (.iload_n 2, 1) := zdal_p dlC_M_comesSort_38 (i := 3) rfl
theorem d_M_comesSort_50 : decode (zb m_M_comesSort) 50 = .ok (.iconst 1, 1) := zdal_p dlC_M_comesSort_38 (i := 4) rfl
theorem d_M_comesSort_51 : decode (zb m_M_comesSort) 51 = .ok (.isub, 1) := zdal_p dlC_M_comesSort_38 (i := 5) rfl
theorem d_M_comesSort_52 : decode (zb m_M_comesSort) 52 = .ok (.iaload, 1) := zdal_p dlC_M_comesSort_38 (i := 6) rfl
theorem d_M_comesSort_53 : decode (zb m_M_comesSort) 53 = .ok (.iload_n 1, 1) := zdal_p dlC_M_comesSort_38 (i := 7) rfl
theorem d_M_comesSort_54 : decode (zb m_M_comesSort) 54 = .ok (.if_icmp .le 23, 3) := zdal_p dlC_M_comesSort_38 (i := 8) rfl
theorem d_M_comesSort_57 : decode (zb m_M_comesSort) 57 = .ok (.aload_n 0, 1) := zdal_p dlC_M_comesSort_38 (i := 9) rfl
theorem d_M_comesSort_58 : decode (zb m_M_comesSort) 58 = .ok (.getfield 44, 3) := zdal_p dlC_M_comesSort_38 (i := 10) rfl
theorem d_M_comesSort_61 : decode (zb m_M_comesSort) 61 = .ok (.iload_n 2, 1) := zdal_p dlC_M_comesSort_38 (i := 11) rfl
theorem d_M_comesSort_62 : decode (zb m_M_comesSort) 62 = .ok (.aload_n 0, 1) := zdal_p dlC_M_comesSort_38 (i := 12) rfl
theorem d_M_comesSort_63 : decode (zb m_M_comesSort) 63 = .ok (.getfield 44, 3) := zdal_p dlC_M_comesSort_38 (i := 13) rfl
theorem d_M_comesSort_66 : decode (zb m_M_comesSort) 66 = .ok (.iload_n 2, 1) := zdal_p dlC_M_comesSort_38 (i := 14) rfl
theorem d_M_comesSort_67 : decode (zb m_M_comesSort) 67 = .ok (.iconst 1, 1) := zdal_p dlC_M_comesSort_38 (i := 15) rfl
theorem d_M_comesSort_68 : decode (zb m_M_comesSort) 68 = .ok (.isub, 1) := zdal_p dlC_M_comesSort_38 (i := 16) rfl
theorem d_M_comesSort_69 : decode (zb m_M_comesSort) 69 = .ok (.iaload, 1) := zdal_p dlC_M_comesSort_38 (i := 17) rfl
theorem d_M_comesSort_70 : decode (zb m_M_comesSort) 70 = .ok (.iastore, 1) := zdal_p dlC_M_comesSort_38 (i := 18) rfl
theorem d_M_comesSort_71 : decode (zb m_M_comesSort) 71 = .ok (.iinc 2 (-1), 3) := zdal_p dlC_M_comesSort_38 (i := 19) rfl
theorem d_M_comesSort_74 : decode (zb m_M_comesSort) 74 = .ok (.goto (-69), 3) := zdal_p dlC_M_comesSort_38 (i := 20) rfl
theorem d_M_comesSort_77 : decode (zb m_M_comesSort) 77 = .ok (.aload_n 0, 1) := zdal_p dlC_M_comesSort_38 (i := 21) rfl
theorem d_M_comesSort_78 : decode (zb m_M_comesSort) 78 = .ok (.getfield 44, 3) := zdal_p dlC_M_comesSort_38 (i := 22) rfl
theorem d_M_comesSort_81 : decode (zb m_M_comesSort) 81 = .ok (.iload_n 2, 1) := zdal_p dlC_M_comesSort_38 (i := 23) rfl
theorem dlC_M_comesSort_39 : zdal (zb m_M_comesSort) [(82, (.iload_n 1, 1)), (83, (.iastore, 1)), (84, (.aload_n 0, 1)), (85, (.dup, 1)), (86, (.getfield 235, 3)), (89, (.iconst 1, 1)), (90, (.iadd, 1)), (91, (.putfield 235, 3)), (94, (.return_, 1))] = true := zDs 82 (by decide +kernel)
theorem d_M_comesSort_82 : decode (zb m_M_comesSort) 82 = .ok (.iload_n 1, 1) := zdal_p dlC_M_comesSort_39 (i := 0) rfl
theorem d_M_comesSort_83 : decode (zb m_M_comesSort) 83 = .ok (.iastore, 1) := zdal_p dlC_M_comesSort_39 (i := 1) rfl
theorem d_M_comesSort_84 : decode (zb m_M_comesSort) 84 = .ok (.aload_n 0, 1) := zdal_p dlC_M_comesSort_39 (i := 2) rfl
theorem d_M_comesSort_85 : decode (zb m_M_comesSort) 85 = .ok (.dup, 1) := zdal_p dlC_M_comesSort_39 (i := 3) rfl
theorem d_M_comesSort_86 : decode (zb m_M_comesSort) 86 = .ok (.getfield 235, 3) := zdal_p dlC_M_comesSort_39 (i := 4) rfl
theorem d_M_comesSort_89 : decode (zb m_M_comesSort) 89 = .ok (.iconst 1, 1) := zdal_p dlC_M_comesSort_39 (i := 5) rfl
theorem d_M_comesSort_90 : decode (zb m_M_comesSort) 90 = .ok (.iadd, 1) := zdal_p dlC_M_comesSort_39 (i := 6) rfl
theorem d_M_comesSort_91 : decode (zb m_M_comesSort) 91 = .ok (.putfield 235, 3) := zdal_p dlC_M_comesSort_39 (i := 7) rfl
theorem d_M_comesSort_94 : decode (zb m_M_comesSort) 94 = .ok (.return_, 1) := zdal_p dlC_M_comesSort_39 (i := 8) rfl
theorem dlC_M_ones_40 : zdal (zb m_M_ones) [(0, (.iconst 0, 1)), (1, (.istore_n 1, 1)), (2, (.iconst 0, 1)), (3, (.istore_n 2, 1)), (4, (.iload_n 2, 1)), (5, (.bipush 31, 2)), (7, (.if_icmp .ge 17, 3)), (10, (.iload_n 1, 1)), (11, (.iload_n 0, 1)), (12, (.iload_n 2, 1)), (13, (.ishr, 1)), (14, (.iconst 1, 1)), (15, (.iand, 1)), (16, (.iadd, 1)), (17, (.istore_n 1, 1)), (18, (.iinc 2 1, 3)), (21, (.goto (-17), 3)), (24, (.iload_n 1, 1)), (25, (.ireturn, 1))] = true := zDs 0 (by decide +kernel)
theorem d_M_ones_0 : decode (zb m_M_ones) 0 = .ok (.iconst 0, 1) := zdal_p dlC_M_ones_40 (i := 0) rfl
theorem d_M_ones_1 : decode (zb m_M_ones) 1 = .ok (.istore_n 1, 1) := zdal_p dlC_M_ones_40 (i := 1) rfl
theorem d_M_ones_2 : decode (zb m_M_ones) 2 = .ok (.iconst 0, 1) := zdal_p dlC_M_ones_40 (i := 2) rfl
theorem d_M_ones_3 : decode (zb m_M_ones) 3 = .ok (.istore_n 2, 1) := zdal_p dlC_M_ones_40 (i := 3) rfl
theorem d_M_ones_4 : decode (zb m_M_ones) 4 = .ok (.iload_n 2, 1) := zdal_p dlC_M_ones_40 (i := 4) rfl
theorem d_M_ones_5 : decode (zb m_M_ones) 5 = .ok (.bipush 31, 2) := zdal_p dlC_M_ones_40 (i := 5) rfl
theorem d_M_ones_7 : decode (zb m_M_ones) 7 = .ok (.if_icmp .ge 17, 3) := zdal_p dlC_M_ones_40 (i := 6) rfl
theorem d_M_ones_10 : decode (zb m_M_ones) 10 = .ok (.iload_n 1, 1) := zdal_p dlC_M_ones_40 (i := 7) rfl
theorem d_M_ones_11 : decode (zb m_M_ones) 11 = .ok (.iload_n 0, 1) := zdal_p dlC_M_ones_40 (i := 8) rfl
theorem d_M_ones_12 : decode (zb m_M_ones) 12 = .ok (.iload_n 2, 1) := zdal_p dlC_M_ones_40 (i := 9) rfl
theorem d_M_ones_13 : decode (zb m_M_ones) 13 = .ok (.ishr, 1) := zdal_p dlC_M_ones_40 (i := 10) rfl
theorem d_M_ones_14 : decode (zb m_M_ones) 14 = .ok (.iconst 1, 1) := zdal_p dlC_M_ones_40 (i := 11) rfl
theorem d_M_ones_15 : decode (zb m_M_ones) 15 = .ok (.iand, 1) := zdal_p dlC_M_ones_40 (i := 12) rfl
theorem d_M_ones_16 : decode (zb m_M_ones) 16 = .ok (.iadd, 1) := zdal_p dlC_M_ones_40 (i := 13) rfl
theorem d_M_ones_17 : decode (zb m_M_ones) 17 = .ok (.istore_n 1, 1) := zdal_p dlC_M_ones_40 (i := 14) rfl
theorem d_M_ones_18 : decode (zb m_M_ones) 18 = .ok (.iinc 2 1, 3) := zdal_p dlC_M_ones_40 (i := 15) rfl
theorem d_M_ones_21 : decode (zb m_M_ones) 21 = .ok (.goto (-17), 3) := zdal_p dlC_M_ones_40 (i := 16) rfl
theorem d_M_ones_24 : decode (zb m_M_ones) 24 = .ok (.iload_n 1, 1) := zdal_p dlC_M_ones_40 (i := 17) rfl
theorem d_M_ones_25 : decode (zb m_M_ones) 25 = .ok (.ireturn, 1) := zdal_p dlC_M_ones_40 (i := 18) rfl
theorem dlC_M_sortOfFirst_41 : zdal (zb m_M_sortOfFirst) [(0, (.iconst 0, 1)), (1, (.istore_n 2, 1)), (2, (.iload_n 2, 1)), (3, (.aload_n 0, 1)), (4, (.getfield 235, 3)), (7, (.if_icmp .ge 21, 3)), (10, (.aload_n 0, 1)), (11, (.getfield 44, 3)), (14, (.iload_n 2, 1)), (15, (.iaload, 1)), (16, (.iload_n 1, 1)), (17, (.if_icmp .ne 5, 3)), (20, (.iload_n 2, 1)), (21, (.ireturn, 1)), (22, (.iinc 2 1, 3)), (25, (.goto (-23), 3)), (28, (.iconst (-1), 1)), (29, (.ireturn, 1))] = true := zDs 0 (by decide +kernel)
theorem d_M_sortOfFirst_0 : decode (zb m_M_sortOfFirst) 0 = .ok (.iconst 0, 1) := zdal_p dlC_M_sortOfFirst_41 (i := 0) rfl
theorem d_M_sortOfFirst_1 : decode (zb m_M_sortOfFirst) 1 = .ok (.istore_n 2, 1) := zdal_p dlC_M_sortOfFirst_41 (i := 1) rfl
theorem d_M_sortOfFirst_2 : decode (zb m_M_sortOfFirst) 2 = .ok (.iload_n 2, 1) := zdal_p dlC_M_sortOfFirst_41 (i := 2) rfl
theorem d_M_sortOfFirst_3 : decode (zb m_M_sortOfFirst) 3 = .ok (.aload_n 0, 1) := zdal_p dlC_M_sortOfFirst_41 (i := 3) rfl
theorem d_M_sortOfFirst_4 : decode (zb m_M_sortOfFirst) 4 = .ok (.getfield 235, 3) := zdal_p dlC_M_sortOfFirst_41 (i := 4) rfl
theorem d_M_sortOfFirst_7 : decode (zb m_M_sortOfFirst) 7 = .ok (.if_icmp .ge 21, 3) := zdal_p dlC_M_sortOfFirst_41 (i := 5) rfl
theorem d_M_sortOfFirst_10 : decode (zb m_M_sortOfFirst) 10 = .ok (.aload_n 0, 1) := zdal_p dlC_M_sortOfFirst_41 (i := 6) rfl
theorem d_M_sortOfFirst_11 : decode (zb m_M_sortOfFirst) 11 = .ok (.getfield 44, 3) := zdal_p dlC_M_sortOfFirst_41 (i := 7) rfl
theorem d_M_sortOfFirst_14 : decode (zb m_M_sortOfFirst) 14 = .ok (.iload_n 2, 1) := zdal_p dlC_M_sortOfFirst_41 (i := 8) rfl
theorem d_M_sortOfFirst_15 : decode (zb m_M_sortOfFirst) 15 = .ok (.iaload, 1) := zdal_p dlC_M_sortOfFirst_41 (i := 9) rfl
theorem d_M_sortOfFirst_16 : decode (zb m_M_sortOfFirst) 16 = .ok (.iload_n 1, 1) := zdal_p dlC_M_sortOfFirst_41 (i := 10) rfl
theorem d_M_sortOfFirst_17 : decode (zb m_M_sortOfFirst) 17 = .ok (.if_icmp .ne 5, 3) := zdal_p dlC_M_sortOfFirst_41 (i := 11) rfl
theorem d_M_sortOfFirst_20 : decode (zb m_M_sortOfFirst) 20 = .ok (.iload_n 2, 1) := zdal_p dlC_M_sortOfFirst_41 (i := 12) rfl
theorem d_M_sortOfFirst_21 : decode (zb m_M_sortOfFirst) 21 = .ok (.ireturn, 1) := zdal_p dlC_M_sortOfFirst_41 (i := 13) rfl
theorem d_M_sortOfFirst_22 : decode (zb m_M_sortOfFirst) 22 = .ok (.iinc 2 1, 3) := zdal_p dlC_M_sortOfFirst_41 (i := 14) rfl
theorem d_M_sortOfFirst_25 : decode (zb m_M_sortOfFirst) 25 = .ok (.goto (-23), 3) := zdal_p dlC_M_sortOfFirst_41 (i := 15) rfl
theorem d_M_sortOfFirst_28 : decode (zb m_M_sortOfFirst) 28 = .ok (.iconst (-1), 1) := zdal_p dlC_M_sortOfFirst_41 (i := 16) rfl
theorem d_M_sortOfFirst_29 : decode (zb m_M_sortOfFirst) 29 = .ok (.ireturn, 1) := zdal_p dlC_M_sortOfFirst_41 (i := 17) rfl
theorem dlC_M_leastOf_42 : zdal (zb m_M_leastOf) [(0, (.iload_n 2, 1)), (1, (.istore_n 3, 1)), (2, (.iconst 0, 1)), (3, (.istore 4, 2)), (5, (.iload 4, 2)), (7, (.aload_n 0, 1)), (8, (.getfield 196, 3)), (11, (.if_icmp .ge 37, 3)), (14, (.iload_n 1, 1)), (15, (.iload 4, 2)), (17, (.invokestatic 213, 3)), (20, (.ifCond .eq 22, 3)), (23, (.aload_n 0, 1)), (24, (.iload 4, 2)), (26, (.iload_n 2, 1)), (27, (.invokevirtual 216, 3)), (30, (.iload_n 3, 1)), (31, (.if_icmp .ge 11, 3)), (34, (.aload_n 0, 1)), (35, (.iload 4, 2)), (37, (.iload_n 2, 1)), (38, (.invokevirtual 216, 3)), (41, (.istore_n 3, 1)), (42, (.iinc 4 1, 3))] = true := zDs 0 (by decide +kernel)
theorem d_M_leastOf_0 : decode (zb m_M_leastOf) 0 = .ok (.iload_n 2, 1) := zdal_p dlC_M_leastOf_42 (i := 0) rfl
theorem d_M_leastOf_1 : decode (zb m_M_leastOf) 1 = .ok (.istore_n 3, 1) := zdal_p dlC_M_leastOf_42 (i := 1) rfl
theorem d_M_leastOf_2 : decode (zb m_M_leastOf) 2 = .ok (.iconst 0, 1) := zdal_p dlC_M_leastOf_42 (i := 2) rfl
theorem d_M_leastOf_3 : decode (zb m_M_leastOf) 3 = .ok (.istore 4, 2) := zdal_p dlC_M_leastOf_42 (i := 3) rfl
theorem d_M_leastOf_5 : decode (zb m_M_leastOf) 5 = .ok (.iload 4, 2) := zdal_p dlC_M_leastOf_42 (i := 4) rfl
theorem d_M_leastOf_7 : decode (zb m_M_leastOf) 7 = .ok (.aload_n 0, 1) := zdal_p dlC_M_leastOf_42 (i := 5) rfl
theorem d_M_leastOf_8 : decode (zb m_M_leastOf) 8 = .ok (.getfield 196, 3) := zdal_p dlC_M_leastOf_42 (i := 6) rfl
theorem d_M_leastOf_11 : decode (zb m_M_leastOf) 11 = .ok (.if_icmp .ge 37, 3) := zdal_p dlC_M_leastOf_42 (i := 7) rfl
theorem d_M_leastOf_14 : decode (zb m_M_leastOf) 14 = .ok (.iload_n 1, 1) := zdal_p dlC_M_leastOf_42 (i := 8) rfl
theorem d_M_leastOf_15 : decode (zb m_M_leastOf) 15 = .ok (.iload 4, 2) := zdal_p dlC_M_leastOf_42 (i := 9) rfl
theorem d_M_leastOf_17 : decode (zb m_M_leastOf) 17 = .ok (.invokestatic 213, 3) := zdal_p dlC_M_leastOf_42 (i := 10) rfl
theorem d_M_leastOf_20 : decode (zb m_M_leastOf) 20 = .ok (.ifCond .eq 22, 3) := zdal_p dlC_M_leastOf_42 (i := 11) rfl
theorem d_M_leastOf_23 : decode (zb m_M_leastOf) 23 = .ok (.aload_n 0, 1) := zdal_p dlC_M_leastOf_42 (i := 12) rfl
theorem d_M_leastOf_24 : decode (zb m_M_leastOf) 24 = .ok (.iload 4, 2) := zdal_p dlC_M_leastOf_42 (i := 13) rfl
theorem d_M_leastOf_26 : decode (zb m_M_leastOf) 26 = .ok (.iload_n 2, 1) := zdal_p dlC_M_leastOf_42 (i := 14) rfl
theorem d_M_leastOf_27 : decode (zb m_M_leastOf) 27 = .ok (.invokevirtual 216, 3) := zdal_p dlC_M_leastOf_42 (i := 15) rfl
theorem d_M_leastOf_30 : decode (zb m_M_leastOf) 30 = .ok (.iload_n 3, 1) := zdal_p dlC_M_leastOf_42 (i := 16) rfl
theorem d_M_leastOf_31 : decode (zb m_M_leastOf) 31 = .ok (.if_icmp .ge 11, 3) := zdal_p dlC_M_leastOf_42 (i := 17) rfl
theorem d_M_leastOf_34 : decode (zb m_M_leastOf) 34 = .ok (.aload_n 0, 1) := zdal_p dlC_M_leastOf_42 (i := 18) rfl
theorem d_M_leastOf_35 : decode (zb m_M_leastOf) 35 = .ok (.iload 4, 2) := zdal_p dlC_M_leastOf_42 (i := 19) rfl
theorem d_M_leastOf_37 : decode (zb m_M_leastOf) 37 = .ok (.iload_n 2, 1) := zdal_p dlC_M_leastOf_42 (i := 20) rfl
theorem d_M_leastOf_38 : decode (zb m_M_leastOf) 38 = .ok (.invokevirtual 216, 3) := zdal_p dlC_M_leastOf_42 (i := 21) rfl
theorem d_M_leastOf_41 : decode (zb m_M_leastOf) 41 = .ok (.istore_n 3, 1) := zdal_p dlC_M_leastOf_42 (i := 22) rfl
theorem d_M_leastOf_42 : decode (zb m_M_leastOf) 42 = .ok (.iinc 4 1, 3) := zdal_p dlC_M_leastOf_42 (i := 23) rfl
theorem dlC_M_leastOf_43 : zdal (zb m_M_leastOf) [(45, (.goto (-40), 3)), (48, (.iload_n 3, 1)), (49, (.ireturn, 1))] = true := zDs 45 (by decide +kernel)
theorem d_M_leastOf_45 : decode (zb m_M_leastOf) 45 = .ok (.goto (-40), 3) := zdal_p dlC_M_leastOf_43 (i := 0) rfl
theorem d_M_leastOf_48 : decode (zb m_M_leastOf) 48 = .ok (.iload_n 3, 1) := zdal_p dlC_M_leastOf_43 (i := 1) rfl
theorem d_M_leastOf_49 : decode (zb m_M_leastOf) 49 = .ok (.ireturn, 1) := zdal_p dlC_M_leastOf_43 (i := 2) rfl
theorem dlC_M_fixedOf_44 : zdal (zb m_M_fixedOf) [(0, (.iconst 0, 1)), (1, (.istore_n 3, 1)), (2, (.iconst 0, 1)), (3, (.istore 4, 2)), (5, (.iload 4, 2)), (7, (.aload_n 0, 1)), (8, (.getfield 196, 3)), (11, (.if_icmp .ge 103, 3)), (14, (.aload_n 0, 1)), (15, (.getfield 53, 3)), (18, (.bipush 24, 2)), (20, (.iload_n 1, 1)), (21, (.imul, 1)), (22, (.iload 4, 2)), (24, (.iadd, 1)), (25, (.iaload, 1)), (26, (.iload 4, 2)), (28, (.if_icmp .ne 7, 3)), (31, (.iconst 1, 1)), (32, (.goto 4, 3)), (35, (.iconst 0, 1)), (36, (.istore 5, 2)), (38, (.iconst 0, 1)), (39, (.istore 6, 2))] = true := zDs 0 (by decide +kernel)
theorem d_M_fixedOf_0 : decode (zb m_M_fixedOf) 0 = .ok (.iconst 0, 1) := zdal_p dlC_M_fixedOf_44 (i := 0) rfl
theorem d_M_fixedOf_1 : decode (zb m_M_fixedOf) 1 = .ok (.istore_n 3, 1) := zdal_p dlC_M_fixedOf_44 (i := 1) rfl
theorem d_M_fixedOf_2 : decode (zb m_M_fixedOf) 2 = .ok (.iconst 0, 1) := zdal_p dlC_M_fixedOf_44 (i := 2) rfl
theorem d_M_fixedOf_3 : decode (zb m_M_fixedOf) 3 = .ok (.istore 4, 2) := zdal_p dlC_M_fixedOf_44 (i := 3) rfl
theorem d_M_fixedOf_5 : decode (zb m_M_fixedOf) 5 = .ok (.iload 4, 2) := zdal_p dlC_M_fixedOf_44 (i := 4) rfl
theorem d_M_fixedOf_7 : decode (zb m_M_fixedOf) 7 = .ok (.aload_n 0, 1) := zdal_p dlC_M_fixedOf_44 (i := 5) rfl
theorem d_M_fixedOf_8 : decode (zb m_M_fixedOf) 8 = .ok (.getfield 196, 3) := zdal_p dlC_M_fixedOf_44 (i := 6) rfl
theorem d_M_fixedOf_11 : decode (zb m_M_fixedOf) 11 = .ok (.if_icmp .ge 103, 3) := zdal_p dlC_M_fixedOf_44 (i := 7) rfl
theorem d_M_fixedOf_14 : decode (zb m_M_fixedOf) 14 = .ok (.aload_n 0, 1) := zdal_p dlC_M_fixedOf_44 (i := 8) rfl
theorem d_M_fixedOf_15 : decode (zb m_M_fixedOf) 15 = .ok (.getfield 53, 3) := zdal_p dlC_M_fixedOf_44 (i := 9) rfl
theorem d_M_fixedOf_18 : decode (zb m_M_fixedOf) 18 = .ok (.bipush 24, 2) := zdal_p dlC_M_fixedOf_44 (i := 10) rfl
theorem d_M_fixedOf_20 : decode (zb m_M_fixedOf) 20 = .ok (.iload_n 1, 1) := zdal_p dlC_M_fixedOf_44 (i := 11) rfl
theorem d_M_fixedOf_21 : decode (zb m_M_fixedOf) 21 = .ok (.imul, 1) := zdal_p dlC_M_fixedOf_44 (i := 12) rfl
theorem d_M_fixedOf_22 : decode (zb m_M_fixedOf) 22 = .ok (.iload 4, 2) := zdal_p dlC_M_fixedOf_44 (i := 13) rfl
theorem d_M_fixedOf_24 : decode (zb m_M_fixedOf) 24 = .ok (.iadd, 1) := zdal_p dlC_M_fixedOf_44 (i := 14) rfl
theorem d_M_fixedOf_25 : decode (zb m_M_fixedOf) 25 = .ok (.iaload, 1) := zdal_p dlC_M_fixedOf_44 (i := 15) rfl
theorem d_M_fixedOf_26 : decode (zb m_M_fixedOf) 26 = .ok (.iload 4, 2) := zdal_p dlC_M_fixedOf_44 (i := 16) rfl
theorem d_M_fixedOf_28 : decode (zb m_M_fixedOf) 28 = .ok (.if_icmp .ne 7, 3) := zdal_p dlC_M_fixedOf_44 (i := 17) rfl
theorem d_M_fixedOf_31 : decode (zb m_M_fixedOf) 31 = .ok (.iconst 1, 1) := zdal_p dlC_M_fixedOf_44 (i := 18) rfl
theorem d_M_fixedOf_32 : decode (zb m_M_fixedOf) 32 = .ok (.goto 4, 3) := zdal_p dlC_M_fixedOf_44 (i := 19) rfl
theorem d_M_fixedOf_35 : decode (zb m_M_fixedOf) 35 = .ok (.iconst 0, 1) := zdal_p dlC_M_fixedOf_44 (i := 20) rfl
theorem d_M_fixedOf_36 : decode (zb m_M_fixedOf) 36 = .ok (.istore 5, 2) := zdal_p dlC_M_fixedOf_44 (i := 21) rfl
theorem d_M_fixedOf_38 : decode (zb m_M_fixedOf) 38 = .ok (.iconst 0, 1) := zdal_p dlC_M_fixedOf_44 (i := 22) rfl
theorem d_M_fixedOf_39 : decode (zb m_M_fixedOf) 39 = .ok (.istore 6, 2) := zdal_p dlC_M_fixedOf_44 (i := 23) rfl
theorem dlC_M_fixedOf_45 : zdal (zb m_M_fixedOf) [(41, (.iload 6, 2)), (43, (.aload_n 0, 1)), (44, (.getfield 196, 3)), (47, (.if_icmp .ge 53, 3)), (50, (.iload 5, 2)), (52, (.ifCond .eq 48, 3)), (55, (.iload_n 2, 1)), (56, (.iload 6, 2)), (58, (.invokestatic 213, 3)), (61, (.ifCond .eq 26, 3)), (64, (.aload_n 0, 1)), (65, (.getfield 53, 3)), (68, (.bipush 24, 2)), (70, (.iload_n 1, 1)), (71, (.imul, 1)), (72, (.aload_n 0, 1)), (73, (.iload 4, 2)), (75, (.iload 6, 2)), (77, (.invokevirtual 216, 3)), (80, (.iadd, 1)), (81, (.iaload, 1)), (82, (.iload 4, 2)), (84, (.if_icmp .ne 7, 3)), (87, (.iconst 1, 1))] = true := zDs 41 (by decide +kernel)
theorem d_M_fixedOf_41 : decode (zb m_M_fixedOf) 41 = .ok (.iload 6, 2) := zdal_p dlC_M_fixedOf_45 (i := 0) rfl
theorem d_M_fixedOf_43 : decode (zb m_M_fixedOf) 43 = .ok (.aload_n 0, 1) := zdal_p dlC_M_fixedOf_45 (i := 1) rfl
theorem d_M_fixedOf_44 : decode (zb m_M_fixedOf) 44 = .ok (.getfield 196, 3) := zdal_p dlC_M_fixedOf_45 (i := 2) rfl
theorem d_M_fixedOf_47 : decode (zb m_M_fixedOf) 47 = .ok (.if_icmp .ge 53, 3) := zdal_p dlC_M_fixedOf_45 (i := 3) rfl
theorem d_M_fixedOf_50 : decode (zb m_M_fixedOf) 50 = .ok (.iload 5, 2) := zdal_p dlC_M_fixedOf_45 (i := 4) rfl
theorem d_M_fixedOf_52 : decode (zb m_M_fixedOf) 52 = .ok (.ifCond .eq 48, 3) := zdal_p dlC_M_fixedOf_45 (i := 5) rfl
theorem d_M_fixedOf_55 : decode (zb m_M_fixedOf) 55 = .ok (.iload_n 2, 1) := zdal_p dlC_M_fixedOf_45 (i := 6) rfl
theorem d_M_fixedOf_56 : decode (zb m_M_fixedOf) 56 = .ok (.iload 6, 2) := zdal_p dlC_M_fixedOf_45 (i := 7) rfl
theorem d_M_fixedOf_58 : decode (zb m_M_fixedOf) 58 = .ok (.invokestatic 213, 3) := zdal_p dlC_M_fixedOf_45 (i := 8) rfl
theorem d_M_fixedOf_61 : decode (zb m_M_fixedOf) 61 = .ok (.ifCond .eq 26, 3) := zdal_p dlC_M_fixedOf_45 (i := 9) rfl
theorem d_M_fixedOf_64 : decode (zb m_M_fixedOf) 64 = .ok (.aload_n 0, 1) := zdal_p dlC_M_fixedOf_45 (i := 10) rfl
theorem d_M_fixedOf_65 : decode (zb m_M_fixedOf) 65 = .ok (.getfield 53, 3) := zdal_p dlC_M_fixedOf_45 (i := 11) rfl
theorem d_M_fixedOf_68 : decode (zb m_M_fixedOf) 68 = .ok (.bipush 24, 2) := zdal_p dlC_M_fixedOf_45 (i := 12) rfl
theorem d_M_fixedOf_70 : decode (zb m_M_fixedOf) 70 = .ok (.iload_n 1, 1) := zdal_p dlC_M_fixedOf_45 (i := 13) rfl
theorem d_M_fixedOf_71 : decode (zb m_M_fixedOf) 71 = .ok (.imul, 1) := zdal_p dlC_M_fixedOf_45 (i := 14) rfl
theorem d_M_fixedOf_72 : decode (zb m_M_fixedOf) 72 = .ok (.aload_n 0, 1) := zdal_p dlC_M_fixedOf_45 (i := 15) rfl
theorem d_M_fixedOf_73 : decode (zb m_M_fixedOf) 73 = .ok (.iload 4, 2) := zdal_p dlC_M_fixedOf_45 (i := 16) rfl
theorem d_M_fixedOf_75 : decode (zb m_M_fixedOf) 75 = .ok (.iload 6, 2) := zdal_p dlC_M_fixedOf_45 (i := 17) rfl
theorem d_M_fixedOf_77 : decode (zb m_M_fixedOf) 77 = .ok (.invokevirtual 216, 3) := zdal_p dlC_M_fixedOf_45 (i := 18) rfl
theorem d_M_fixedOf_80 : decode (zb m_M_fixedOf) 80 = .ok (.iadd, 1) := zdal_p dlC_M_fixedOf_45 (i := 19) rfl
theorem d_M_fixedOf_81 : decode (zb m_M_fixedOf) 81 = .ok (.iaload, 1) := zdal_p dlC_M_fixedOf_45 (i := 20) rfl
theorem d_M_fixedOf_82 : decode (zb m_M_fixedOf) 82 = .ok (.iload 4, 2) := zdal_p dlC_M_fixedOf_45 (i := 21) rfl
theorem d_M_fixedOf_84 : decode (zb m_M_fixedOf) 84 = .ok (.if_icmp .ne 7, 3) := zdal_p dlC_M_fixedOf_45 (i := 22) rfl
theorem d_M_fixedOf_87 : decode (zb m_M_fixedOf) 87 = .ok (.iconst 1, 1) := zdal_p dlC_M_fixedOf_45 (i := 23) rfl
theorem dlC_M_fixedOf_46 : zdal (zb m_M_fixedOf) [(88, (.goto 4, 3)), (91, (.iconst 0, 1)), (92, (.istore 5, 2)), (94, (.iinc 6 1, 3)), (97, (.goto (-56), 3)), (100, (.iload_n 3, 1)), (101, (.iload 5, 2)), (103, (.invokestatic 256, 3)), (106, (.iadd, 1)), (107, (.istore_n 3, 1)), (108, (.iinc 4 1, 3)), (111, (.goto (-106), 3)), (114, (.iload_n 3, 1)), (115, (.ireturn, 1))] = true := zDs 88 (by decide +kernel)
theorem d_M_fixedOf_88 : decode (zb m_M_fixedOf) 88 = .ok (.goto 4, 3) := zdal_p dlC_M_fixedOf_46 (i := 0) rfl
theorem d_M_fixedOf_91 : decode (zb m_M_fixedOf) 91 = .ok (.iconst 0, 1) := zdal_p dlC_M_fixedOf_46 (i := 1) rfl
theorem d_M_fixedOf_92 : decode (zb m_M_fixedOf) 92 = .ok (.istore 5, 2) := zdal_p dlC_M_fixedOf_46 (i := 2) rfl
theorem d_M_fixedOf_94 : decode (zb m_M_fixedOf) 94 = .ok (.iinc 6 1, 3) := zdal_p dlC_M_fixedOf_46 (i := 3) rfl
theorem d_M_fixedOf_97 : decode (zb m_M_fixedOf) 97 = .ok (.goto (-56), 3) := zdal_p dlC_M_fixedOf_46 (i := 4) rfl
theorem d_M_fixedOf_100 : decode (zb m_M_fixedOf) 100 = .ok (.iload_n 3, 1) := zdal_p dlC_M_fixedOf_46 (i := 5) rfl
theorem d_M_fixedOf_101 : decode (zb m_M_fixedOf) 101 = .ok (.iload 5, 2) := zdal_p dlC_M_fixedOf_46 (i := 6) rfl
theorem d_M_fixedOf_103 : decode (zb m_M_fixedOf) 103 = .ok (.invokestatic 256, 3) := zdal_p dlC_M_fixedOf_46 (i := 7) rfl
theorem d_M_fixedOf_106 : decode (zb m_M_fixedOf) 106 = .ok (.iadd, 1) := zdal_p dlC_M_fixedOf_46 (i := 8) rfl
theorem d_M_fixedOf_107 : decode (zb m_M_fixedOf) 107 = .ok (.istore_n 3, 1) := zdal_p dlC_M_fixedOf_46 (i := 9) rfl
theorem d_M_fixedOf_108 : decode (zb m_M_fixedOf) 108 = .ok (.iinc 4 1, 3) := zdal_p dlC_M_fixedOf_46 (i := 10) rfl
theorem d_M_fixedOf_111 : decode (zb m_M_fixedOf) 111 = .ok (.goto (-106), 3) := zdal_p dlC_M_fixedOf_46 (i := 11) rfl
theorem d_M_fixedOf_114 : decode (zb m_M_fixedOf) 114 = .ok (.iload_n 3, 1) := zdal_p dlC_M_fixedOf_46 (i := 12) rfl
theorem d_M_fixedOf_115 : decode (zb m_M_fixedOf) 115 = .ok (.ireturn, 1) := zdal_p dlC_M_fixedOf_46 (i := 13) rfl
theorem dlC_M_truth_47 : zdal (zb m_M_truth) [(0, (.iload_n 0, 1)), (1, (.ifCond .eq 7, 3)), (4, (.iconst 1, 1)), (5, (.goto 4, 3)), (8, (.iconst 0, 1)), (9, (.ireturn, 1))] = true := zDs 0 (by decide +kernel)
theorem d_M_truth_0 : decode (zb m_M_truth) 0 = .ok (.iload_n 0, 1) := zdal_p dlC_M_truth_47 (i := 0) rfl
theorem d_M_truth_1 : decode (zb m_M_truth) 1 = .ok (.ifCond .eq 7, 3) := zdal_p dlC_M_truth_47 (i := 1) rfl
theorem d_M_truth_4 : decode (zb m_M_truth) 4 = .ok (.iconst 1, 1) := zdal_p dlC_M_truth_47 (i := 2) rfl
theorem d_M_truth_5 : decode (zb m_M_truth) 5 = .ok (.goto 4, 3) := zdal_p dlC_M_truth_47 (i := 3) rfl
theorem d_M_truth_8 : decode (zb m_M_truth) 8 = .ok (.iconst 0, 1) := zdal_p dlC_M_truth_47 (i := 4) rfl
theorem d_M_truth_9 : decode (zb m_M_truth) 9 = .ok (.ireturn, 1) := zdal_p dlC_M_truth_47 (i := 5) rfl
theorem dlC_M_inForce_48 : zdal (zb m_M_inForce) [(0, (.aload_n 0, 1)), (1, (.aload_n 0, 1)), (2, (.getfield 115, 3)), (5, (.putfield 382, 3)), (8, (.aload_n 0, 1)), (9, (.aload_n 0, 1)), (10, (.getfield 199, 3)), (13, (.putfield 385, 3)), (16, (.aload_n 0, 1)), (17, (.aload_n 0, 1)), (18, (.getfield 299, 3)), (21, (.putfield 388, 3)), (24, (.iconst 0, 1)), (25, (.istore_n 1, 1)), (26, (.iload_n 1, 1)), (27, (.bipush 24, 2)), (29, (.if_icmp .ge 21, 3)), (32, (.aload_n 0, 1)), (33, (.getfield 23, 3)), (36, (.iload_n 1, 1)), (37, (.aload_n 0, 1)), (38, (.getfield 20, 3)), (41, (.iload_n 1, 1)), (42, (.iaload, 1))] = true := zDs 0 (by decide +kernel)
theorem d_M_inForce_0 : decode (zb m_M_inForce) 0 = .ok (.aload_n 0, 1) := zdal_p dlC_M_inForce_48 (i := 0) rfl
theorem d_M_inForce_1 : decode (zb m_M_inForce) 1 = .ok (.aload_n 0, 1) := zdal_p dlC_M_inForce_48 (i := 1) rfl
theorem d_M_inForce_2 : decode (zb m_M_inForce) 2 = .ok (.getfield 115, 3) := zdal_p dlC_M_inForce_48 (i := 2) rfl
theorem d_M_inForce_5 : decode (zb m_M_inForce) 5 = .ok (.putfield 382, 3) := zdal_p dlC_M_inForce_48 (i := 3) rfl
theorem d_M_inForce_8 : decode (zb m_M_inForce) 8 = .ok (.aload_n 0, 1) := zdal_p dlC_M_inForce_48 (i := 4) rfl
theorem d_M_inForce_9 : decode (zb m_M_inForce) 9 = .ok (.aload_n 0, 1) := zdal_p dlC_M_inForce_48 (i := 5) rfl
theorem d_M_inForce_10 : decode (zb m_M_inForce) 10 = .ok (.getfield 199, 3) := zdal_p dlC_M_inForce_48 (i := 6) rfl
theorem d_M_inForce_13 : decode (zb m_M_inForce) 13 = .ok (.putfield 385, 3) := zdal_p dlC_M_inForce_48 (i := 7) rfl
theorem d_M_inForce_16 : decode (zb m_M_inForce) 16 = .ok (.aload_n 0, 1) := zdal_p dlC_M_inForce_48 (i := 8) rfl
theorem d_M_inForce_17 : decode (zb m_M_inForce) 17 = .ok (.aload_n 0, 1) := zdal_p dlC_M_inForce_48 (i := 9) rfl
theorem d_M_inForce_18 : decode (zb m_M_inForce) 18 = .ok (.getfield 299, 3) := zdal_p dlC_M_inForce_48 (i := 10) rfl
theorem d_M_inForce_21 : decode (zb m_M_inForce) 21 = .ok (.putfield 388, 3) := zdal_p dlC_M_inForce_48 (i := 11) rfl
theorem d_M_inForce_24 : decode (zb m_M_inForce) 24 = .ok (.iconst 0, 1) := zdal_p dlC_M_inForce_48 (i := 12) rfl
theorem d_M_inForce_25 : decode (zb m_M_inForce) 25 = .ok (.istore_n 1, 1) := zdal_p dlC_M_inForce_48 (i := 13) rfl
theorem d_M_inForce_26 : decode (zb m_M_inForce) 26 = .ok (.iload_n 1, 1) := zdal_p dlC_M_inForce_48 (i := 14) rfl
theorem d_M_inForce_27 : decode (zb m_M_inForce) 27 = .ok (.bipush 24, 2) := zdal_p dlC_M_inForce_48 (i := 15) rfl
theorem d_M_inForce_29 : decode (zb m_M_inForce) 29 = .ok (.if_icmp .ge 21, 3) := zdal_p dlC_M_inForce_48 (i := 16) rfl
theorem d_M_inForce_32 : decode (zb m_M_inForce) 32 = .ok (.aload_n 0, 1) := zdal_p dlC_M_inForce_48 (i := 17) rfl
theorem d_M_inForce_33 : decode (zb m_M_inForce) 33 = .ok (.getfield 23, 3) := zdal_p dlC_M_inForce_48 (i := 18) rfl
theorem d_M_inForce_36 : decode (zb m_M_inForce) 36 = .ok (.iload_n 1, 1) := zdal_p dlC_M_inForce_48 (i := 19) rfl
theorem d_M_inForce_37 : decode (zb m_M_inForce) 37 = .ok (.aload_n 0, 1) := zdal_p dlC_M_inForce_48 (i := 20) rfl
theorem d_M_inForce_38 : decode (zb m_M_inForce) 38 = .ok (.getfield 20, 3) := zdal_p dlC_M_inForce_48 (i := 21) rfl
theorem d_M_inForce_41 : decode (zb m_M_inForce) 41 = .ok (.iload_n 1, 1) := zdal_p dlC_M_inForce_48 (i := 22) rfl
theorem d_M_inForce_42 : decode (zb m_M_inForce) 42 = .ok (.iaload, 1) := zdal_p dlC_M_inForce_48 (i := 23) rfl
theorem dlC_M_inForce_49 : zdal (zb m_M_inForce) [(43, (.iastore, 1)), (44, (.iinc 1 1, 3)), (47, (.goto (-21), 3)), (50, (.iconst 0, 1)), (51, (.istore_n 1, 1)), (52, (.iload_n 1, 1)), (53, (.bipush 8, 2)), (55, (.if_icmp .ge 21, 3)), (58, (.aload_n 0, 1)), (59, (.getfield 81, 3)), (62, (.iload_n 1, 1)), (63, (.aload_n 0, 1)), (64, (.getfield 75, 3)), (67, (.iload_n 1, 1)), (68, (.laload, 1)), (69, (.lastore, 1)), (70, (.iinc 1 1, 3)), (73, (.goto (-21), 3)), (76, (.iconst 0, 1)), (77, (.istore_n 1, 1)), (78, (.iload_n 1, 1)), (79, (.sipush 512, 3)), (82, (.if_icmp .ge 21, 3)), (85, (.aload_n 0, 1))] = true := zDs 43 (by decide +kernel)
theorem d_M_inForce_43 : decode (zb m_M_inForce) 43 = .ok (.iastore, 1) := zdal_p dlC_M_inForce_49 (i := 0) rfl
theorem d_M_inForce_44 : decode (zb m_M_inForce) 44 = .ok (.iinc 1 1, 3) := zdal_p dlC_M_inForce_49 (i := 1) rfl
theorem d_M_inForce_47 : decode (zb m_M_inForce) 47 = .ok (.goto (-21), 3) := zdal_p dlC_M_inForce_49 (i := 2) rfl
theorem d_M_inForce_50 : decode (zb m_M_inForce) 50 = .ok (.iconst 0, 1) := zdal_p dlC_M_inForce_49 (i := 3) rfl
theorem d_M_inForce_51 : decode (zb m_M_inForce) 51 = .ok (.istore_n 1, 1) := zdal_p dlC_M_inForce_49 (i := 4) rfl
theorem d_M_inForce_52 : decode (zb m_M_inForce) 52 = .ok (.iload_n 1, 1) := zdal_p dlC_M_inForce_49 (i := 5) rfl
theorem d_M_inForce_53 : decode (zb m_M_inForce) 53 = .ok (.bipush 8, 2) := zdal_p dlC_M_inForce_49 (i := 6) rfl
theorem d_M_inForce_55 : decode (zb m_M_inForce) 55 = .ok (.if_icmp .ge 21, 3) := zdal_p dlC_M_inForce_49 (i := 7) rfl
theorem d_M_inForce_58 : decode (zb m_M_inForce) 58 = .ok (.aload_n 0, 1) := zdal_p dlC_M_inForce_49 (i := 8) rfl
theorem d_M_inForce_59 : decode (zb m_M_inForce) 59 = .ok (.getfield 81, 3) := zdal_p dlC_M_inForce_49 (i := 9) rfl
theorem d_M_inForce_62 : decode (zb m_M_inForce) 62 = .ok (.iload_n 1, 1) := zdal_p dlC_M_inForce_49 (i := 10) rfl
theorem d_M_inForce_63 : decode (zb m_M_inForce) 63 = .ok (.aload_n 0, 1) := zdal_p dlC_M_inForce_49 (i := 11) rfl
theorem d_M_inForce_64 : decode (zb m_M_inForce) 64 = .ok (.getfield 75, 3) := zdal_p dlC_M_inForce_49 (i := 12) rfl
theorem d_M_inForce_67 : decode (zb m_M_inForce) 67 = .ok (.iload_n 1, 1) := zdal_p dlC_M_inForce_49 (i := 13) rfl
theorem d_M_inForce_68 : decode (zb m_M_inForce) 68 = .ok (.laload, 1) := zdal_p dlC_M_inForce_49 (i := 14) rfl
theorem d_M_inForce_69 : decode (zb m_M_inForce) 69 = .ok (.lastore, 1) := zdal_p dlC_M_inForce_49 (i := 15) rfl
theorem d_M_inForce_70 : decode (zb m_M_inForce) 70 = .ok (.iinc 1 1, 3) := zdal_p dlC_M_inForce_49 (i := 16) rfl
theorem d_M_inForce_73 : decode (zb m_M_inForce) 73 = .ok (.goto (-21), 3) := zdal_p dlC_M_inForce_49 (i := 17) rfl
theorem d_M_inForce_76 : decode (zb m_M_inForce) 76 = .ok (.iconst 0, 1) := zdal_p dlC_M_inForce_49 (i := 18) rfl
theorem d_M_inForce_77 : decode (zb m_M_inForce) 77 = .ok (.istore_n 1, 1) := zdal_p dlC_M_inForce_49 (i := 19) rfl
theorem d_M_inForce_78 : decode (zb m_M_inForce) 78 = .ok (.iload_n 1, 1) := zdal_p dlC_M_inForce_49 (i := 20) rfl
theorem d_M_inForce_79 : decode (zb m_M_inForce) 79 = .ok (.sipush 512, 3) := zdal_p dlC_M_inForce_49 (i := 21) rfl
theorem d_M_inForce_82 : decode (zb m_M_inForce) 82 = .ok (.if_icmp .ge 21, 3) := zdal_p dlC_M_inForce_49 (i := 22) rfl
theorem d_M_inForce_85 : decode (zb m_M_inForce) 85 = .ok (.aload_n 0, 1) := zdal_p dlC_M_inForce_49 (i := 23) rfl
theorem dlC_M_inForce_50 : zdal (zb m_M_inForce) [(86, (.getfield 84, 3)), (89, (.iload_n 1, 1)), (90, (.aload_n 0, 1)), (91, (.getfield 78, 3)), (94, (.iload_n 1, 1)), (95, (.laload, 1)), (96, (.lastore, 1)), (97, (.iinc 1 1, 3)), (100, (.goto (-22), 3)), (103, (.iconst 0, 1)), (104, (.istore_n 1, 1)), (105, (.iload_n 1, 1)), (106, (.bipush 64, 2)), (108, (.if_icmp .ge 16, 3)), (111, (.aload_n 0, 1)), (112, (.getfield 66, 3)), (115, (.iload_n 1, 1)), (116, (.lconst 0, 1)), (117, (.lastore, 1)), (118, (.iinc 1 1, 3)), (121, (.goto (-16), 3)), (124, (.aload_n 0, 1)), (125, (.iconst 0, 1)), (126, (.putfield 391, 3))] = true := zDs 86 (by decide +kernel)
theorem d_M_inForce_86 : decode (zb m_M_inForce) 86 = .ok (.getfield 84, 3) := zdal_p dlC_M_inForce_50 (i := 0) rfl
theorem d_M_inForce_89 : decode (zb m_M_inForce) 89 = .ok (.iload_n 1, 1) := zdal_p dlC_M_inForce_50 (i := 1) rfl
theorem d_M_inForce_90 : decode (zb m_M_inForce) 90 = .ok (.aload_n 0, 1) := zdal_p dlC_M_inForce_50 (i := 2) rfl
theorem d_M_inForce_91 : decode (zb m_M_inForce) 91 = .ok (.getfield 78, 3) := zdal_p dlC_M_inForce_50 (i := 3) rfl
theorem d_M_inForce_94 : decode (zb m_M_inForce) 94 = .ok (.iload_n 1, 1) := zdal_p dlC_M_inForce_50 (i := 4) rfl
theorem d_M_inForce_95 : decode (zb m_M_inForce) 95 = .ok (.laload, 1) := zdal_p dlC_M_inForce_50 (i := 5) rfl
theorem d_M_inForce_96 : decode (zb m_M_inForce) 96 = .ok (.lastore, 1) := zdal_p dlC_M_inForce_50 (i := 6) rfl
theorem d_M_inForce_97 : decode (zb m_M_inForce) 97 = .ok (.iinc 1 1, 3) := zdal_p dlC_M_inForce_50 (i := 7) rfl
theorem d_M_inForce_100 : decode (zb m_M_inForce) 100 = .ok (.goto (-22), 3) := zdal_p dlC_M_inForce_50 (i := 8) rfl
theorem d_M_inForce_103 : decode (zb m_M_inForce) 103 = .ok (.iconst 0, 1) := zdal_p dlC_M_inForce_50 (i := 9) rfl
theorem d_M_inForce_104 : decode (zb m_M_inForce) 104 = .ok (.istore_n 1, 1) := zdal_p dlC_M_inForce_50 (i := 10) rfl
theorem d_M_inForce_105 : decode (zb m_M_inForce) 105 = .ok (.iload_n 1, 1) := zdal_p dlC_M_inForce_50 (i := 11) rfl
theorem d_M_inForce_106 : decode (zb m_M_inForce) 106 = .ok (.bipush 64, 2) := zdal_p dlC_M_inForce_50 (i := 12) rfl
theorem d_M_inForce_108 : decode (zb m_M_inForce) 108 = .ok (.if_icmp .ge 16, 3) := zdal_p dlC_M_inForce_50 (i := 13) rfl
theorem d_M_inForce_111 : decode (zb m_M_inForce) 111 = .ok (.aload_n 0, 1) := zdal_p dlC_M_inForce_50 (i := 14) rfl
theorem d_M_inForce_112 : decode (zb m_M_inForce) 112 = .ok (.getfield 66, 3) := zdal_p dlC_M_inForce_50 (i := 15) rfl
theorem d_M_inForce_115 : decode (zb m_M_inForce) 115 = .ok (.iload_n 1, 1) := zdal_p dlC_M_inForce_50 (i := 16) rfl
theorem d_M_inForce_116 : decode (zb m_M_inForce) 116 = .ok (.lconst 0, 1) := zdal_p dlC_M_inForce_50 (i := 17) rfl
theorem d_M_inForce_117 : decode (zb m_M_inForce) 117 = .ok (.lastore, 1) := zdal_p dlC_M_inForce_50 (i := 18) rfl
theorem d_M_inForce_118 : decode (zb m_M_inForce) 118 = .ok (.iinc 1 1, 3) := zdal_p dlC_M_inForce_50 (i := 19) rfl
theorem d_M_inForce_121 : decode (zb m_M_inForce) 121 = .ok (.goto (-16), 3) := zdal_p dlC_M_inForce_50 (i := 20) rfl
theorem d_M_inForce_124 : decode (zb m_M_inForce) 124 = .ok (.aload_n 0, 1) := zdal_p dlC_M_inForce_50 (i := 21) rfl
theorem d_M_inForce_125 : decode (zb m_M_inForce) 125 = .ok (.iconst 0, 1) := zdal_p dlC_M_inForce_50 (i := 22) rfl
theorem d_M_inForce_126 : decode (zb m_M_inForce) 126 = .ok (.putfield 391, 3) := zdal_p dlC_M_inForce_50 (i := 23) rfl
theorem dlC_M_inForce_51 : zdal (zb m_M_inForce) [(129, (.aload_n 0, 1)), (130, (.iconst 0, 1)), (131, (.putfield 394, 3)), (134, (.return_, 1))] = true := zDs 129 (by decide +kernel)
theorem d_M_inForce_129 : decode (zb m_M_inForce) 129 = .ok (.aload_n 0, 1) := zdal_p dlC_M_inForce_51 (i := 0) rfl
theorem d_M_inForce_130 : decode (zb m_M_inForce) 130 = .ok (.iconst 0, 1) := zdal_p dlC_M_inForce_51 (i := 1) rfl
theorem d_M_inForce_131 : decode (zb m_M_inForce) 131 = .ok (.putfield 394, 3) := zdal_p dlC_M_inForce_51 (i := 2) rfl
theorem d_M_inForce_134 : decode (zb m_M_inForce) 134 = .ok (.return_, 1) := zdal_p dlC_M_inForce_51 (i := 3) rfl
theorem dlC_M_feed_52 : zdal (zb m_M_feed) [(0, (.aload_n 0, 1)), (1, (.getfield 124, 3)), (4, (.bipush 20, 2)), (6, (.iadd, 1)), (7, (.sipush 700, 3)), (10, (.if_icmp .le 5, 3)), (13, (.iconst (-1), 1)), (14, (.ireturn, 1)), (15, (.aload_n 0, 1)), (16, (.iload_n 1, 1)), (17, (.invokevirtual 127, 3)), (20, (.aload_n 0, 1)), (21, (.iload_n 2, 1)), (22, (.invokevirtual 127, 3)), (25, (.aload_n 0, 1)), (26, (.iload_n 3, 1)), (27, (.invokevirtual 127, 3)), (30, (.aload_n 0, 1)), (31, (.iload 4, 2)), (33, (.invokevirtual 127, 3)), (36, (.aload_n 0, 1)), (37, (.iload 5, 2)), (39, (.invokevirtual 127, 3)), (42, (.aload_n 0, 1))] = true := zDs 0 (by decide +kernel)
theorem d_M_feed_0 : decode (zb m_M_feed) 0 = .ok (.aload_n 0, 1) := zdal_p dlC_M_feed_52 (i := 0) rfl
theorem d_M_feed_1 : decode (zb m_M_feed) 1 = .ok (.getfield 124, 3) := zdal_p dlC_M_feed_52 (i := 1) rfl
theorem d_M_feed_4 : decode (zb m_M_feed) 4 = .ok (.bipush 20, 2) := zdal_p dlC_M_feed_52 (i := 2) rfl
theorem d_M_feed_6 : decode (zb m_M_feed) 6 = .ok (.iadd, 1) := zdal_p dlC_M_feed_52 (i := 3) rfl
theorem d_M_feed_7 : decode (zb m_M_feed) 7 = .ok (.sipush 700, 3) := zdal_p dlC_M_feed_52 (i := 4) rfl
theorem d_M_feed_10 : decode (zb m_M_feed) 10 = .ok (.if_icmp .le 5, 3) := zdal_p dlC_M_feed_52 (i := 5) rfl
theorem d_M_feed_13 : decode (zb m_M_feed) 13 = .ok (.iconst (-1), 1) := zdal_p dlC_M_feed_52 (i := 6) rfl
theorem d_M_feed_14 : decode (zb m_M_feed) 14 = .ok (.ireturn, 1) := zdal_p dlC_M_feed_52 (i := 7) rfl
theorem d_M_feed_15 : decode (zb m_M_feed) 15 = .ok (.aload_n 0, 1) := zdal_p dlC_M_feed_52 (i := 8) rfl
theorem d_M_feed_16 : decode (zb m_M_feed) 16 = .ok (.iload_n 1, 1) := zdal_p dlC_M_feed_52 (i := 9) rfl
theorem d_M_feed_17 : decode (zb m_M_feed) 17 = .ok (.invokevirtual 127, 3) := zdal_p dlC_M_feed_52 (i := 10) rfl
theorem d_M_feed_20 : decode (zb m_M_feed) 20 = .ok (.aload_n 0, 1) := zdal_p dlC_M_feed_52 (i := 11) rfl
theorem d_M_feed_21 : decode (zb m_M_feed) 21 = .ok (.iload_n 2, 1) := zdal_p dlC_M_feed_52 (i := 12) rfl
theorem d_M_feed_22 : decode (zb m_M_feed) 22 = .ok (.invokevirtual 127, 3) := zdal_p dlC_M_feed_52 (i := 13) rfl
theorem d_M_feed_25 : decode (zb m_M_feed) 25 = .ok (.aload_n 0, 1) := zdal_p dlC_M_feed_52 (i := 14) rfl
theorem d_M_feed_26 : decode (zb m_M_feed) 26 = .ok (.iload_n 3, 1) := zdal_p dlC_M_feed_52 (i := 15) rfl
theorem d_M_feed_27 : decode (zb m_M_feed) 27 = .ok (.invokevirtual 127, 3) := zdal_p dlC_M_feed_52 (i := 16) rfl
theorem d_M_feed_30 : decode (zb m_M_feed) 30 = .ok (.aload_n 0, 1) := zdal_p dlC_M_feed_52 (i := 17) rfl
theorem d_M_feed_31 : decode (zb m_M_feed) 31 = .ok (.iload 4, 2) := zdal_p dlC_M_feed_52 (i := 18) rfl
theorem d_M_feed_33 : decode (zb m_M_feed) 33 = .ok (.invokevirtual 127, 3) := zdal_p dlC_M_feed_52 (i := 19) rfl
theorem d_M_feed_36 : decode (zb m_M_feed) 36 = .ok (.aload_n 0, 1) := zdal_p dlC_M_feed_52 (i := 20) rfl
theorem d_M_feed_37 : decode (zb m_M_feed) 37 = .ok (.iload 5, 2) := zdal_p dlC_M_feed_52 (i := 21) rfl
theorem d_M_feed_39 : decode (zb m_M_feed) 39 = .ok (.invokevirtual 127, 3) := zdal_p dlC_M_feed_52 (i := 22) rfl
theorem d_M_feed_42 : decode (zb m_M_feed) 42 = .ok (.aload_n 0, 1) := zdal_p dlC_M_feed_52 (i := 23) rfl
theorem dlC_M_feed_53 : zdal (zb m_M_feed) [(43, (.getfield 124, 3)), (46, (.ireturn, 1))] = true := zDs 43 (by decide +kernel)
theorem d_M_feed_43 : decode (zb m_M_feed) 43 = .ok (.getfield 124, 3) := zdal_p dlC_M_feed_53 (i := 0) rfl
theorem d_M_feed_46 : decode (zb m_M_feed) 46 = .ok (.ireturn, 1) := zdal_p dlC_M_feed_53 (i := 1) rfl
theorem dlC_M_four_54 : zdal (zb m_M_four) [(0, (.bipush 24, 2)), (2, (.istore_n 2, 1)), (3, (.iload_n 2, 1)), (4, (.ifCond .lt 35, 3)), (7, (.aload_n 0, 1)), (8, (.getfield 7, 3)), (11, (.aload_n 0, 1)), (12, (.getfield 124, 3)), (15, (.iload_n 1, 1)), (16, (.iload_n 2, 1)), (17, (.ishr, 1)), (18, (.sipush 255, 3)), (21, (.iand, 1)), (22, (.iastore, 1)), (23, (.aload_n 0, 1)), (24, (.dup, 1)), (25, (.getfield 124, 3)), (28, (.iconst 1, 1)), (29, (.iadd, 1)), (30, (.putfield 124, 3)), (33, (.iinc 2 (-8), 3)), (36, (.goto (-33), 3)), (39, (.return_, 1))] = true := zDs 0 (by decide +kernel)
theorem d_M_four_0 : decode (zb m_M_four) 0 = .ok (.bipush 24, 2) := zdal_p dlC_M_four_54 (i := 0) rfl
theorem d_M_four_2 : decode (zb m_M_four) 2 = .ok (.istore_n 2, 1) := zdal_p dlC_M_four_54 (i := 1) rfl
theorem d_M_four_3 : decode (zb m_M_four) 3 = .ok (.iload_n 2, 1) := zdal_p dlC_M_four_54 (i := 2) rfl
theorem d_M_four_4 : decode (zb m_M_four) 4 = .ok (.ifCond .lt 35, 3) := zdal_p dlC_M_four_54 (i := 3) rfl
theorem d_M_four_7 : decode (zb m_M_four) 7 = .ok (.aload_n 0, 1) := zdal_p dlC_M_four_54 (i := 4) rfl
theorem d_M_four_8 : decode (zb m_M_four) 8 = .ok (.getfield 7, 3) := zdal_p dlC_M_four_54 (i := 5) rfl
theorem d_M_four_11 : decode (zb m_M_four) 11 = .ok (.aload_n 0, 1) := zdal_p dlC_M_four_54 (i := 6) rfl
theorem d_M_four_12 : decode (zb m_M_four) 12 = .ok (.getfield 124, 3) := zdal_p dlC_M_four_54 (i := 7) rfl
theorem d_M_four_15 : decode (zb m_M_four) 15 = .ok (.iload_n 1, 1) := zdal_p dlC_M_four_54 (i := 8) rfl
theorem d_M_four_16 : decode (zb m_M_four) 16 = .ok (.iload_n 2, 1) := zdal_p dlC_M_four_54 (i := 9) rfl
theorem d_M_four_17 : decode (zb m_M_four) 17 = .ok (.ishr, 1) := zdal_p dlC_M_four_54 (i := 10) rfl
theorem d_M_four_18 : decode (zb m_M_four) 18 = .ok (.sipush 255, 3) := zdal_p dlC_M_four_54 (i := 11) rfl
theorem d_M_four_21 : decode (zb m_M_four) 21 = .ok (.iand, 1) := zdal_p dlC_M_four_54 (i := 12) rfl
theorem d_M_four_22 : decode (zb m_M_four) 22 = .ok (.iastore, 1) := zdal_p dlC_M_four_54 (i := 13) rfl
theorem d_M_four_23 : decode (zb m_M_four) 23 = .ok (.aload_n 0, 1) := zdal_p dlC_M_four_54 (i := 14) rfl
theorem d_M_four_24 : decode (zb m_M_four) 24 = .ok (.dup, 1) := zdal_p dlC_M_four_54 (i := 15) rfl
theorem d_M_four_25 : decode (zb m_M_four) 25 = .ok (.getfield 124, 3) := zdal_p dlC_M_four_54 (i := 16) rfl
theorem d_M_four_28 : decode (zb m_M_four) 28 = .ok (.iconst 1, 1) := zdal_p dlC_M_four_54 (i := 17) rfl
theorem d_M_four_29 : decode (zb m_M_four) 29 = .ok (.iadd, 1) := zdal_p dlC_M_four_54 (i := 18) rfl
theorem d_M_four_30 : decode (zb m_M_four) 30 = .ok (.putfield 124, 3) := zdal_p dlC_M_four_54 (i := 19) rfl
theorem d_M_four_33 : decode (zb m_M_four) 33 = .ok (.iinc 2 (-8), 3) := zdal_p dlC_M_four_54 (i := 20) rfl
theorem d_M_four_36 : decode (zb m_M_four) 36 = .ok (.goto (-33), 3) := zdal_p dlC_M_four_54 (i := 21) rfl
theorem d_M_four_39 : decode (zb m_M_four) 39 = .ok (.return_, 1) := zdal_p dlC_M_four_54 (i := 22) rfl
theorem dlC_M_end_55 : zdal (zb m_M_end) [(0, (.iload_n 1, 1)), (1, (.i2l, 1)), (2, (.lconst 0, 1)), (3, (.aload_n 0, 1)), (4, (.getfield 124, 3)), (7, (.i2l, 1)), (8, (.invokestatic 131, 3)), (11, (.ifCond .ne 5, 3)), (14, (.iconst (-1), 1)), (15, (.ireturn, 1)), (16, (.aload_n 0, 1)), (17, (.iload_n 1, 1)), (18, (.putfield 124, 3)), (21, (.iload_n 1, 1)), (22, (.ireturn, 1))] = true := zDs 0 (by decide +kernel)
theorem d_M_end_0 : decode (zb m_M_end) 0 = .ok (.iload_n 1, 1) := zdal_p dlC_M_end_55 (i := 0) rfl
theorem d_M_end_1 : decode (zb m_M_end) 1 = .ok (.i2l, 1) := zdal_p dlC_M_end_55 (i := 1) rfl
theorem d_M_end_2 : decode (zb m_M_end) 2 = .ok (.lconst 0, 1) := zdal_p dlC_M_end_55 (i := 2) rfl
theorem d_M_end_3 : decode (zb m_M_end) 3 = .ok (.aload_n 0, 1) := zdal_p dlC_M_end_55 (i := 3) rfl
theorem d_M_end_4 : decode (zb m_M_end) 4 = .ok (.getfield 124, 3) := zdal_p dlC_M_end_55 (i := 4) rfl
theorem d_M_end_7 : decode (zb m_M_end) 7 = .ok (.i2l, 1) := zdal_p dlC_M_end_55 (i := 5) rfl
theorem d_M_end_8 : decode (zb m_M_end) 8 = .ok (.invokestatic 131, 3) := zdal_p dlC_M_end_55 (i := 6) rfl
theorem d_M_end_11 : decode (zb m_M_end) 11 = .ok (.ifCond .ne 5, 3) := zdal_p dlC_M_end_55 (i := 7) rfl
theorem d_M_end_14 : decode (zb m_M_end) 14 = .ok (.iconst (-1), 1) := zdal_p dlC_M_end_55 (i := 8) rfl
theorem d_M_end_15 : decode (zb m_M_end) 15 = .ok (.ireturn, 1) := zdal_p dlC_M_end_55 (i := 9) rfl
theorem d_M_end_16 : decode (zb m_M_end) 16 = .ok (.aload_n 0, 1) := zdal_p dlC_M_end_55 (i := 10) rfl
theorem d_M_end_17 : decode (zb m_M_end) 17 = .ok (.iload_n 1, 1) := zdal_p dlC_M_end_55 (i := 11) rfl
theorem d_M_end_18 : decode (zb m_M_end) 18 = .ok (.putfield 124, 3) := zdal_p dlC_M_end_55 (i := 12) rfl
theorem d_M_end_21 : decode (zb m_M_end) 21 = .ok (.iload_n 1, 1) := zdal_p dlC_M_end_55 (i := 13) rfl
theorem d_M_end_22 : decode (zb m_M_end) 22 = .ok (.ireturn, 1) := zdal_p dlC_M_end_55 (i := 14) rfl
theorem dlC_M_isIn_56 : zdal (zb m_M_isIn) [(0, (.lload_n 0, 1)), (1, (.lload_n 2, 1)), (2, (.lcmp, 1)), (3, (.ifCond .lt 14, 3)), (6, (.lload_n 0, 1)), (7, (.lload 4, 2)), (9, (.lcmp, 1)), (10, (.ifCond .gt 7, 3)), (13, (.iconst 1, 1)), (14, (.goto 4, 3)), (17, (.iconst 0, 1)), (18, (.ireturn, 1))] = true := zDs 0 (by decide +kernel)
theorem d_M_isIn_0 : decode (zb m_M_isIn) 0 = .ok (.lload_n 0, 1) := zdal_p dlC_M_isIn_56 (i := 0) rfl
theorem d_M_isIn_1 : decode (zb m_M_isIn) 1 = .ok (.lload_n 2, 1) := zdal_p dlC_M_isIn_56 (i := 1) rfl
theorem d_M_isIn_2 : decode (zb m_M_isIn) 2 = .ok (.lcmp, 1) := zdal_p dlC_M_isIn_56 (i := 2) rfl
theorem d_M_isIn_3 : decode (zb m_M_isIn) 3 = .ok (.ifCond .lt 14, 3) := zdal_p dlC_M_isIn_56 (i := 3) rfl
theorem d_M_isIn_6 : decode (zb m_M_isIn) 6 = .ok (.lload_n 0, 1) := zdal_p dlC_M_isIn_56 (i := 4) rfl
theorem d_M_isIn_7 : decode (zb m_M_isIn) 7 = .ok (.lload 4, 2) := zdal_p dlC_M_isIn_56 (i := 5) rfl
theorem d_M_isIn_9 : decode (zb m_M_isIn) 9 = .ok (.lcmp, 1) := zdal_p dlC_M_isIn_56 (i := 6) rfl
theorem d_M_isIn_10 : decode (zb m_M_isIn) 10 = .ok (.ifCond .gt 7, 3) := zdal_p dlC_M_isIn_56 (i := 7) rfl
theorem d_M_isIn_13 : decode (zb m_M_isIn) 13 = .ok (.iconst 1, 1) := zdal_p dlC_M_isIn_56 (i := 8) rfl
theorem d_M_isIn_14 : decode (zb m_M_isIn) 14 = .ok (.goto 4, 3) := zdal_p dlC_M_isIn_56 (i := 9) rfl
theorem d_M_isIn_17 : decode (zb m_M_isIn) 17 = .ok (.iconst 0, 1) := zdal_p dlC_M_isIn_56 (i := 10) rfl
theorem d_M_isIn_18 : decode (zb m_M_isIn) 18 = .ok (.ireturn, 1) := zdal_p dlC_M_isIn_56 (i := 11) rfl
theorem dlC_M_troupe_57 : zdal (zb m_M_troupe) [(0, (.aload_n 0, 1)), (1, (.iconst 1, 1)), (2, (.putfield 115, 3)), (5, (.aload_n 0, 1)), (6, (.iconst 0, 1)), (7, (.putfield 199, 3)), (10, (.aload_n 0, 1)), (11, (.iconst 0, 1)), (12, (.putfield 299, 3)), (15, (.aload_n 0, 1)), (16, (.invokevirtual 367, 3)), (19, (.aload_n 0, 1)), (20, (.invokevirtual 370, 3)), (23, (.aload_n 0, 1)), (24, (.invokevirtual 373, 3)), (27, (.aload_n 0, 1)), (28, (.getfield 172, 3)), (31, (.ifCond .le 9, 3)), (34, (.aload_n 0, 1)), (35, (.invokevirtual 376, 3)), (38, (.iconst (-1), 1)), (39, (.ireturn, 1)), (40, (.aload_n 0, 1)), (41, (.invokevirtual 121, 3))] = true := zDs 0 (by decide +kernel)
theorem d_M_troupe_0 : decode (zb m_M_troupe) 0 = .ok (.aload_n 0, 1) := zdal_p dlC_M_troupe_57 (i := 0) rfl
theorem d_M_troupe_1 : decode (zb m_M_troupe) 1 = .ok (.iconst 1, 1) := zdal_p dlC_M_troupe_57 (i := 1) rfl
theorem d_M_troupe_2 : decode (zb m_M_troupe) 2 = .ok (.putfield 115, 3) := zdal_p dlC_M_troupe_57 (i := 2) rfl
theorem d_M_troupe_5 : decode (zb m_M_troupe) 5 = .ok (.aload_n 0, 1) := zdal_p dlC_M_troupe_57 (i := 3) rfl
theorem d_M_troupe_6 : decode (zb m_M_troupe) 6 = .ok (.iconst 0, 1) := zdal_p dlC_M_troupe_57 (i := 4) rfl
theorem d_M_troupe_7 : decode (zb m_M_troupe) 7 = .ok (.putfield 199, 3) := zdal_p dlC_M_troupe_57 (i := 5) rfl
theorem d_M_troupe_10 : decode (zb m_M_troupe) 10 = .ok (.aload_n 0, 1) := zdal_p dlC_M_troupe_57 (i := 6) rfl
theorem d_M_troupe_11 : decode (zb m_M_troupe) 11 = .ok (.iconst 0, 1) := zdal_p dlC_M_troupe_57 (i := 7) rfl
theorem d_M_troupe_12 : decode (zb m_M_troupe) 12 = .ok (.putfield 299, 3) := zdal_p dlC_M_troupe_57 (i := 8) rfl
theorem d_M_troupe_15 : decode (zb m_M_troupe) 15 = .ok (.aload_n 0, 1) := zdal_p dlC_M_troupe_57 (i := 9) rfl
theorem d_M_troupe_16 : decode (zb m_M_troupe) 16 = .ok (.invokevirtual 367, 3) := zdal_p dlC_M_troupe_57 (i := 10) rfl
theorem d_M_troupe_19 : decode (zb m_M_troupe) 19 = .ok (.aload_n 0, 1) := zdal_p dlC_M_troupe_57 (i := 11) rfl
theorem d_M_troupe_20 : decode (zb m_M_troupe) 20 = .ok (.invokevirtual 370, 3) := zdal_p dlC_M_troupe_57 (i := 12) rfl
theorem d_M_troupe_23 : decode (zb m_M_troupe) 23 = .ok (.aload_n 0, 1) := zdal_p dlC_M_troupe_57 (i := 13) rfl
theorem d_M_troupe_24 : decode (zb m_M_troupe) 24 = .ok (.invokevirtual 373, 3) := zdal_p dlC_M_troupe_57 (i := 14) rfl
theorem d_M_troupe_27 : decode (zb m_M_troupe) 27 = .ok (.aload_n 0, 1) := zdal_p dlC_M_troupe_57 (i := 15) rfl
theorem d_M_troupe_28 : decode (zb m_M_troupe) 28 = .ok (.getfield 172, 3) := zdal_p dlC_M_troupe_57 (i := 16) rfl
theorem d_M_troupe_31 : decode (zb m_M_troupe) 31 = .ok (.ifCond .le 9, 3) := zdal_p dlC_M_troupe_57 (i := 17) rfl
theorem d_M_troupe_34 : decode (zb m_M_troupe) 34 = .ok (.aload_n 0, 1) := zdal_p dlC_M_troupe_57 (i := 18) rfl
theorem d_M_troupe_35 : decode (zb m_M_troupe) 35 = .ok (.invokevirtual 376, 3) := zdal_p dlC_M_troupe_57 (i := 19) rfl
theorem d_M_troupe_38 : decode (zb m_M_troupe) 38 = .ok (.iconst (-1), 1) := zdal_p dlC_M_troupe_57 (i := 20) rfl
theorem d_M_troupe_39 : decode (zb m_M_troupe) 39 = .ok (.ireturn, 1) := zdal_p dlC_M_troupe_57 (i := 21) rfl
theorem d_M_troupe_40 : decode (zb m_M_troupe) 40 = .ok (.aload_n 0, 1) := zdal_p dlC_M_troupe_57 (i := 22) rfl
theorem d_M_troupe_41 : decode (zb m_M_troupe) 41 = .ok (.invokevirtual 121, 3) := zdal_p dlC_M_troupe_57 (i := 23) rfl
theorem dlC_M_troupe_58 : zdal (zb m_M_troupe) [(44, (.aload_n 0, 1)), (45, (.getfield 196, 3)), (48, (.ireturn, 1))] = true := zDs 44 (by decide +kernel)
theorem d_M_troupe_44 : decode (zb m_M_troupe) 44 = .ok (.aload_n 0, 1) := zdal_p dlC_M_troupe_58 (i := 0) rfl
theorem d_M_troupe_45 : decode (zb m_M_troupe) 45 = .ok (.getfield 196, 3) := zdal_p dlC_M_troupe_58 (i := 1) rfl
theorem d_M_troupe_48 : decode (zb m_M_troupe) 48 = .ok (.ireturn, 1) := zdal_p dlC_M_troupe_58 (i := 2) rfl
theorem dlC_M_begins_59 : zdal (zb m_M_begins) [(0, (.aload_n 0, 1)), (1, (.aload_n 0, 1)), (2, (.getfield 124, 3)), (5, (.putfield 138, 3)), (8, (.aload_n 0, 1)), (9, (.iconst 0, 1)), (10, (.putfield 124, 3)), (13, (.aload_n 0, 1)), (14, (.iconst 0, 1)), (15, (.putfield 135, 3)), (18, (.aload_n 0, 1)), (19, (.iconst 0, 1)), (20, (.putfield 172, 3)), (23, (.aload_n 0, 1)), (24, (.iconst (-1), 1)), (25, (.putfield 13, 3)), (28, (.aload_n 0, 1)), (29, (.invokevirtual 193, 3)), (32, (.return_, 1))] = true := zDs 0 (by decide +kernel)
theorem d_M_begins_0 : decode (zb m_M_begins) 0 = .ok (.aload_n 0, 1) := zdal_p dlC_M_begins_59 (i := 0) rfl
theorem d_M_begins_1 : decode (zb m_M_begins) 1 = .ok (.aload_n 0, 1) := zdal_p dlC_M_begins_59 (i := 1) rfl
theorem d_M_begins_2 : decode (zb m_M_begins) 2 = .ok (.getfield 124, 3) := zdal_p dlC_M_begins_59 (i := 2) rfl
theorem d_M_begins_5 : decode (zb m_M_begins) 5 = .ok (.putfield 138, 3) := zdal_p dlC_M_begins_59 (i := 3) rfl
theorem d_M_begins_8 : decode (zb m_M_begins) 8 = .ok (.aload_n 0, 1) := zdal_p dlC_M_begins_59 (i := 4) rfl
theorem d_M_begins_9 : decode (zb m_M_begins) 9 = .ok (.iconst 0, 1) := zdal_p dlC_M_begins_59 (i := 5) rfl
theorem d_M_begins_10 : decode (zb m_M_begins) 10 = .ok (.putfield 124, 3) := zdal_p dlC_M_begins_59 (i := 6) rfl
theorem d_M_begins_13 : decode (zb m_M_begins) 13 = .ok (.aload_n 0, 1) := zdal_p dlC_M_begins_59 (i := 7) rfl
theorem d_M_begins_14 : decode (zb m_M_begins) 14 = .ok (.iconst 0, 1) := zdal_p dlC_M_begins_59 (i := 8) rfl
theorem d_M_begins_15 : decode (zb m_M_begins) 15 = .ok (.putfield 135, 3) := zdal_p dlC_M_begins_59 (i := 9) rfl
theorem d_M_begins_18 : decode (zb m_M_begins) 18 = .ok (.aload_n 0, 1) := zdal_p dlC_M_begins_59 (i := 10) rfl
theorem d_M_begins_19 : decode (zb m_M_begins) 19 = .ok (.iconst 0, 1) := zdal_p dlC_M_begins_59 (i := 11) rfl
theorem d_M_begins_20 : decode (zb m_M_begins) 20 = .ok (.putfield 172, 3) := zdal_p dlC_M_begins_59 (i := 12) rfl
theorem d_M_begins_23 : decode (zb m_M_begins) 23 = .ok (.aload_n 0, 1) := zdal_p dlC_M_begins_59 (i := 13) rfl
theorem d_M_begins_24 : decode (zb m_M_begins) 24 = .ok (.iconst (-1), 1) := zdal_p dlC_M_begins_59 (i := 14) rfl
theorem d_M_begins_25 : decode (zb m_M_begins) 25 = .ok (.putfield 13, 3) := zdal_p dlC_M_begins_59 (i := 15) rfl
theorem d_M_begins_28 : decode (zb m_M_begins) 28 = .ok (.aload_n 0, 1) := zdal_p dlC_M_begins_59 (i := 16) rfl
theorem d_M_begins_29 : decode (zb m_M_begins) 29 = .ok (.invokevirtual 193, 3) := zdal_p dlC_M_begins_59 (i := 17) rfl
theorem d_M_begins_32 : decode (zb m_M_begins) 32 = .ok (.return_, 1) := zdal_p dlC_M_begins_59 (i := 18) rfl
theorem dlC_M_goOn_60 : zdal (zb m_M_goOn) [(0, (.aload_n 0, 1)), (1, (.iconst 0, 1)), (2, (.invokevirtual 141, 3)), (5, (.bipush 32, 2)), (7, (.if_icmp .eq 13, 3)), (10, (.aload_n 0, 1)), (11, (.iconst 0, 1)), (12, (.invokevirtual 141, 3)), (15, (.bipush 10, 2)), (17, (.if_icmp .ne 16, 3)), (20, (.aload_n 0, 1)), (21, (.dup, 1)), (22, (.getfield 135, 3)), (25, (.iconst 1, 1)), (26, (.iadd, 1)), (27, (.putfield 135, 3)), (30, (.goto (-30), 3)), (33, (.aload_n 0, 1)), (34, (.aload_n 0, 1)), (35, (.getfield 135, 3)), (38, (.putfield 145, 3)), (41, (.aload_n 0, 1)), (42, (.lconst 0, 1)), (43, (.putfield 148, 3))] = true := zDs 0 (by decide +kernel)
theorem d_M_goOn_0 : decode (zb m_M_goOn) 0 = .ok (.aload_n 0, 1) := zdal_p dlC_M_goOn_60 (i := 0) rfl
theorem d_M_goOn_1 : decode (zb m_M_goOn) 1 = .ok (.iconst 0, 1) := zdal_p dlC_M_goOn_60 (i := 1) rfl
theorem d_M_goOn_2 : decode (zb m_M_goOn) 2 = .ok (.invokevirtual 141, 3) := zdal_p dlC_M_goOn_60 (i := 2) rfl
theorem d_M_goOn_5 : decode (zb m_M_goOn) 5 = .ok (.bipush 32, 2) := zdal_p dlC_M_goOn_60 (i := 3) rfl
theorem d_M_goOn_7 : decode (zb m_M_goOn) 7 = .ok (.if_icmp .eq 13, 3) := zdal_p dlC_M_goOn_60 (i := 4) rfl
theorem d_M_goOn_10 : decode (zb m_M_goOn) 10 = .ok (.aload_n 0, 1) := zdal_p dlC_M_goOn_60 (i := 5) rfl
theorem d_M_goOn_11 : decode (zb m_M_goOn) 11 = .ok (.iconst 0, 1) := zdal_p dlC_M_goOn_60 (i := 6) rfl
theorem d_M_goOn_12 : decode (zb m_M_goOn) 12 = .ok (.invokevirtual 141, 3) := zdal_p dlC_M_goOn_60 (i := 7) rfl
theorem d_M_goOn_15 : decode (zb m_M_goOn) 15 = .ok (.bipush 10, 2) := zdal_p dlC_M_goOn_60 (i := 8) rfl
theorem d_M_goOn_17 : decode (zb m_M_goOn) 17 = .ok (.if_icmp .ne 16, 3) := zdal_p dlC_M_goOn_60 (i := 9) rfl
theorem d_M_goOn_20 : decode (zb m_M_goOn) 20 = .ok (.aload_n 0, 1) := zdal_p dlC_M_goOn_60 (i := 10) rfl
theorem d_M_goOn_21 : decode (zb m_M_goOn) 21 = .ok (.dup, 1) := zdal_p dlC_M_goOn_60 (i := 11) rfl
theorem d_M_goOn_22 : decode (zb m_M_goOn) 22 = .ok (.getfield 135, 3) := zdal_p dlC_M_goOn_60 (i := 12) rfl
theorem d_M_goOn_25 : decode (zb m_M_goOn) 25 = .ok (.iconst 1, 1) := zdal_p dlC_M_goOn_60 (i := 13) rfl
theorem d_M_goOn_26 : decode (zb m_M_goOn) 26 = .ok (.iadd, 1) := zdal_p dlC_M_goOn_60 (i := 14) rfl
theorem d_M_goOn_27 : decode (zb m_M_goOn) 27 = .ok (.putfield 135, 3) := zdal_p dlC_M_goOn_60 (i := 15) rfl
theorem d_M_goOn_30 : decode (zb m_M_goOn) 30 = .ok (.goto (-30), 3) := zdal_p dlC_M_goOn_60 (i := 16) rfl
theorem d_M_goOn_33 : decode (zb m_M_goOn) 33 = .ok (.aload_n 0, 1) := zdal_p dlC_M_goOn_60 (i := 17) rfl
theorem d_M_goOn_34 : decode (zb m_M_goOn) 34 = .ok (.aload_n 0, 1) := zdal_p dlC_M_goOn_60 (i := 18) rfl
theorem d_M_goOn_35 : decode (zb m_M_goOn) 35 = .ok (.getfield 135, 3) := zdal_p dlC_M_goOn_60 (i := 19) rfl
theorem d_M_goOn_38 : decode (zb m_M_goOn) 38 = .ok (.putfield 145, 3) := zdal_p dlC_M_goOn_60 (i := 20) rfl
theorem d_M_goOn_41 : decode (zb m_M_goOn) 41 = .ok (.aload_n 0, 1) := zdal_p dlC_M_goOn_60 (i := 21) rfl
theorem d_M_goOn_42 : decode (zb m_M_goOn) 42 = .ok (.lconst 0, 1) := zdal_p dlC_M_goOn_60 (i := 22) rfl
theorem d_M_goOn_43 : decode (zb m_M_goOn) 43 = .ok (.putfield 148, 3) := zdal_p dlC_M_goOn_60 (i := 23) rfl
theorem dlC_M_goOn_61 : zdal (zb m_M_goOn) [(46, (.aload_n 0, 1)), (47, (.iconst 0, 1)), (48, (.putfield 152, 3)), (51, (.aload_n 0, 1)), (52, (.iconst 0, 1)), (53, (.invokevirtual 141, 3)), (56, (.istore_n 1, 1)), (57, (.iconst 0, 1)), (58, (.istore_n 2, 1)), (59, (.iload_n 1, 1)), (60, (.ifCond .ge 9, 3)), (63, (.aload_n 0, 1)), (64, (.iconst 0, 1)), (65, (.putfield 155, 3)), (68, (.return_, 1)), (69, (.iload_n 1, 1)), (70, (.invokestatic 158, 3)), (73, (.ifCond .eq 62, 3)), (76, (.aload_n 0, 1)), (77, (.iload_n 2, 1)), (78, (.invokevirtual 141, 3)), (81, (.invokestatic 158, 3)), (84, (.ifCond .eq 33, 3)), (87, (.iload_n 2, 1))] = true := zDs 46 (by decide +kernel)
theorem d_M_goOn_46 : decode (zb m_M_goOn) 46 = .ok (.aload_n 0, 1) := zdal_p dlC_M_goOn_61 (i := 0) rfl
theorem d_M_goOn_47 : decode (zb m_M_goOn) 47 = .ok (.iconst 0, 1) := zdal_p dlC_M_goOn_61 (i := 1) rfl
theorem d_M_goOn_48 : decode (zb m_M_goOn) 48 = .ok (.putfield 152, 3) := zdal_p dlC_M_goOn_61 (i := 2) rfl
theorem d_M_goOn_51 : decode (zb m_M_goOn) 51 = .ok (.aload_n 0, 1) := zdal_p dlC_M_goOn_61 (i := 3) rfl
theorem d_M_goOn_52 : decode (zb m_M_goOn) 52 = .ok (.iconst 0, 1) := zdal_p dlC_M_goOn_61 (i := 4) rfl
theorem d_M_goOn_53 : decode (zb m_M_goOn) 53 = .ok (.invokevirtual 141, 3) := zdal_p dlC_M_goOn_61 (i := 5) rfl
theorem d_M_goOn_56 : decode (zb m_M_goOn) 56 = .ok (.istore_n 1, 1) := zdal_p dlC_M_goOn_61 (i := 6) rfl
theorem d_M_goOn_57 : decode (zb m_M_goOn) 57 = .ok (.iconst 0, 1) := zdal_p dlC_M_goOn_61 (i := 7) rfl
theorem d_M_goOn_58 : decode (zb m_M_goOn) 58 = .ok (.istore_n 2, 1) := zdal_p dlC_M_goOn_61 (i := 8) rfl
theorem d_M_goOn_59 : decode (zb m_M_goOn) 59 = .ok (.iload_n 1, 1) := zdal_p dlC_M_goOn_61 (i := 9) rfl
theorem d_M_goOn_60 : decode (zb m_M_goOn) 60 = .ok (.ifCond .ge 9, 3) := zdal_p dlC_M_goOn_61 (i := 10) rfl
theorem d_M_goOn_63 : decode (zb m_M_goOn) 63 = .ok (.aload_n 0, 1) := zdal_p dlC_M_goOn_61 (i := 11) rfl
theorem d_M_goOn_64 : decode (zb m_M_goOn) 64 = .ok (.iconst 0, 1) := zdal_p dlC_M_goOn_61 (i := 12) rfl
theorem d_M_goOn_65 : decode (zb m_M_goOn) 65 = .ok (.putfield 155, 3) := zdal_p dlC_M_goOn_61 (i := 13) rfl
theorem d_M_goOn_68 : decode (zb m_M_goOn) 68 = .ok (.return_, 1) := zdal_p dlC_M_goOn_61 (i := 14) rfl
theorem d_M_goOn_69 : decode (zb m_M_goOn) 69 = .ok (.iload_n 1, 1) := zdal_p dlC_M_goOn_61 (i := 15) rfl
theorem d_M_goOn_70 : decode (zb m_M_goOn) 70 = .ok (.invokestatic 158, 3) := zdal_p dlC_M_goOn_61 (i := 16) rfl
theorem d_M_goOn_73 : decode (zb m_M_goOn) 73 = .ok (.ifCond .eq 62, 3) := zdal_p dlC_M_goOn_61 (i := 17) rfl
theorem d_M_goOn_76 : decode (zb m_M_goOn) 76 = .ok (.aload_n 0, 1) := zdal_p dlC_M_goOn_61 (i := 18) rfl
theorem d_M_goOn_77 : decode (zb m_M_goOn) 77 = .ok (.iload_n 2, 1) := zdal_p dlC_M_goOn_61 (i := 19) rfl
theorem d_M_goOn_78 : decode (zb m_M_goOn) 78 = .ok (.invokevirtual 141, 3) := zdal_p dlC_M_goOn_61 (i := 20) rfl
theorem d_M_goOn_81 : decode (zb m_M_goOn) 81 = .ok (.invokestatic 158, 3) := zdal_p dlC_M_goOn_61 (i := 21) rfl
theorem d_M_goOn_84 : decode (zb m_M_goOn) 84 = .ok (.ifCond .eq 33, 3) := zdal_p dlC_M_goOn_61 (i := 22) rfl
theorem d_M_goOn_87 : decode (zb m_M_goOn) 87 = .ok (.iload_n 2, 1) := zdal_p dlC_M_goOn_61 (i := 23) rfl
theorem dlC_M_goOn_62 : zdal (zb m_M_goOn) [(88, (.bipush 6, 2)), (90, (.if_icmp .ge 21, 3)), (93, (.aload_n 0, 1)), (94, (.aload_n 0, 1)), (95, (.getfield 148, 3)), (98, (.bipush 8, 2)), (100, (.lshl, 1)), (101, (.aload_n 0, 1)), (102, (.iload_n 2, 1)), (103, (.invokevirtual 141, 3)), (106, (.i2l, 1)), (107, (.lor, 1)), (108, (.putfield 148, 3)), (111, (.iinc 2 1, 3)), (114, (.goto (-38), 3)), (117, (.aload_n 0, 1)), (118, (.iload_n 2, 1)), (119, (.bipush 6, 2)), (121, (.if_icmp .le 7, 3)), (124, (.iconst 4, 1)), (125, (.goto 4, 3)), (128, (.iconst 1, 1)), (129, (.putfield 155, 3)), (132, (.goto 103, 3))] = true := zDs 88 (by decide +kernel)
theorem d_M_goOn_88 : decode (zb m_M_goOn) 88 = .ok (.bipush 6, 2) := zdal_p dlC_M_goOn_62 (i := 0) rfl
theorem d_M_goOn_90 : decode (zb m_M_goOn) 90 = .ok (.if_icmp .ge 21, 3) := zdal_p dlC_M_goOn_62 (i := 1) rfl
theorem d_M_goOn_93 : decode (zb m_M_goOn) 93 = .ok (.aload_n 0, 1) := zdal_p dlC_M_goOn_62 (i := 2) rfl
theorem d_M_goOn_94 : decode (zb m_M_goOn) 94 = .ok (.aload_n 0, 1) := zdal_p dlC_M_goOn_62 (i := 3) rfl
theorem d_M_goOn_95 : decode (zb m_M_goOn) 95 = .ok (.getfield 148, 3) := zdal_p dlC_M_goOn_62 (i := 4) rfl
theorem d_M_goOn_98 : decode (zb m_M_goOn) 98 = .ok (.bipush 8, 2) := zdal_p dlC_M_goOn_62 (i := 5) rfl
theorem d_M_goOn_100 : decode (zb m_M_goOn) 100 = .ok (.lshl, 1) := zdal_p dlC_M_goOn_62 (i := 6) rfl
theorem d_M_goOn_101 : decode (zb m_M_goOn) 101 = .ok (.aload_n 0, 1) := zdal_p dlC_M_goOn_62 (i := 7) rfl
theorem d_M_goOn_102 : decode (zb m_M_goOn) 102 = .ok (.iload_n 2, 1) := zdal_p dlC_M_goOn_62 (i := 8) rfl
theorem d_M_goOn_103 : decode (zb m_M_goOn) 103 = .ok (.invokevirtual 141, 3) := zdal_p dlC_M_goOn_62 (i := 9) rfl
theorem d_M_goOn_106 : decode (zb m_M_goOn) 106 = .ok (.i2l, 1) := zdal_p dlC_M_goOn_62 (i := 10) rfl
theorem d_M_goOn_107 : decode (zb m_M_goOn) 107 = .ok (.lor, 1) := zdal_p dlC_M_goOn_62 (i := 11) rfl
theorem d_M_goOn_108 : decode (zb m_M_goOn) 108 = .ok (.putfield 148, 3) := zdal_p dlC_M_goOn_62 (i := 12) rfl
theorem d_M_goOn_111 : decode (zb m_M_goOn) 111 = .ok (.iinc 2 1, 3) := zdal_p dlC_M_goOn_62 (i := 13) rfl
theorem d_M_goOn_114 : decode (zb m_M_goOn) 114 = .ok (.goto (-38), 3) := zdal_p dlC_M_goOn_62 (i := 14) rfl
theorem d_M_goOn_117 : decode (zb m_M_goOn) 117 = .ok (.aload_n 0, 1) := zdal_p dlC_M_goOn_62 (i := 15) rfl
theorem d_M_goOn_118 : decode (zb m_M_goOn) 118 = .ok (.iload_n 2, 1) := zdal_p dlC_M_goOn_62 (i := 16) rfl
theorem d_M_goOn_119 : decode (zb m_M_goOn) 119 = .ok (.bipush 6, 2) := zdal_p dlC_M_goOn_62 (i := 17) rfl
theorem d_M_goOn_121 : decode (zb m_M_goOn) 121 = .ok (.if_icmp .le 7, 3) := zdal_p dlC_M_goOn_62 (i := 18) rfl
theorem d_M_goOn_124 : decode (zb m_M_goOn) 124 = .ok (.iconst 4, 1) := zdal_p dlC_M_goOn_62 (i := 19) rfl
theorem d_M_goOn_125 : decode (zb m_M_goOn) 125 = .ok (.goto 4, 3) := zdal_p dlC_M_goOn_62 (i := 20) rfl
theorem d_M_goOn_128 : decode (zb m_M_goOn) 128 = .ok (.iconst 1, 1) := zdal_p dlC_M_goOn_62 (i := 21) rfl
theorem d_M_goOn_129 : decode (zb m_M_goOn) 129 = .ok (.putfield 155, 3) := zdal_p dlC_M_goOn_62 (i := 22) rfl
theorem d_M_goOn_132 : decode (zb m_M_goOn) 132 = .ok (.goto 103, 3) := zdal_p dlC_M_goOn_62 (i := 23) rfl
theorem dlC_M_goOn_63 : zdal (zb m_M_goOn) [(135, (.iload_n 1, 1)), (136, (.invokestatic 162, 3)), (139, (.ifCond .eq 73, 3)), (142, (.aload_n 0, 1)), (143, (.iload_n 2, 1)), (144, (.invokevirtual 141, 3)), (147, (.invokestatic 162, 3)), (150, (.ifCond .eq 34, 3)), (153, (.iload_n 2, 1)), (154, (.iconst 3, 1)), (155, (.if_icmp .ge 23, 3)), (158, (.aload_n 0, 1)), (159, (.bipush 10, 2)), (161, (.aload_n 0, 1)), (162, (.getfield 152, 3)), (165, (.imul, 1)), (166, (.aload_n 0, 1)), (167, (.iload_n 2, 1)), (168, (.invokevirtual 141, 3)), (171, (.iadd, 1)), (172, (.bipush 48, 2)), (174, (.isub, 1)), (175, (.putfield 152, 3)), (178, (.iinc 2 1, 3))] = true := zDs 135 (by decide +kernel)
theorem d_M_goOn_135 : decode (zb m_M_goOn) 135 = .ok (.iload_n 1, 1) := zdal_p dlC_M_goOn_63 (i := 0) rfl
theorem d_M_goOn_136 : decode (zb m_M_goOn) 136 = .ok (.invokestatic 162, 3) := zdal_p dlC_M_goOn_63 (i := 1) rfl
theorem d_M_goOn_139 : decode (zb m_M_goOn) 139 = .ok (.ifCond .eq 73, 3) := zdal_p dlC_M_goOn_63 (i := 2) rfl
theorem d_M_goOn_142 : decode (zb m_M_goOn) 142 = .ok (.aload_n 0, 1) := zdal_p dlC_M_goOn_63 (i := 3) rfl
theorem d_M_goOn_143 : decode (zb m_M_goOn) 143 = .ok (.iload_n 2, 1) := zdal_p dlC_M_goOn_63 (i := 4) rfl
theorem d_M_goOn_144 : decode (zb m_M_goOn) 144 = .ok (.invokevirtual 141, 3) := zdal_p dlC_M_goOn_63 (i := 5) rfl
theorem d_M_goOn_147 : decode (zb m_M_goOn) 147 = .ok (.invokestatic 162, 3) := zdal_p dlC_M_goOn_63 (i := 6) rfl
theorem d_M_goOn_150 : decode (zb m_M_goOn) 150 = .ok (.ifCond .eq 34, 3) := zdal_p dlC_M_goOn_63 (i := 7) rfl
theorem d_M_goOn_153 : decode (zb m_M_goOn) 153 = .ok (.iload_n 2, 1) := zdal_p dlC_M_goOn_63 (i := 8) rfl
theorem d_M_goOn_154 : decode (zb m_M_goOn) 154 = .ok (.iconst 3, 1) := zdal_p dlC_M_goOn_63 (i := 9) rfl
theorem d_M_goOn_155 : decode (zb m_M_goOn) 155 = .ok (.if_icmp .ge 23, 3) := zdal_p dlC_M_goOn_63 (i := 10) rfl
theorem d_M_goOn_158 : decode (zb m_M_goOn) 158 = .ok (.aload_n 0, 1) := zdal_p dlC_M_goOn_63 (i := 11) rfl
theorem d_M_goOn_159 : decode (zb m_M_goOn) 159 = .ok (.bipush 10, 2) := zdal_p dlC_M_goOn_63 (i := 12) rfl
theorem d_M_goOn_161 : decode (zb m_M_goOn) 161 = .ok (.aload_n 0, 1) := zdal_p dlC_M_goOn_63 (i := 13) rfl
theorem d_M_goOn_162 : decode (zb m_M_goOn) 162 = .ok (.getfield 152, 3) := zdal_p dlC_M_goOn_63 (i := 14) rfl
theorem d_M_goOn_165 : decode (zb m_M_goOn) 165 = .ok (.imul, 1) := zdal_p dlC_M_goOn_63 (i := 15) rfl
theorem d_M_goOn_166 : decode (zb m_M_goOn) 166 = .ok (.aload_n 0, 1) := zdal_p dlC_M_goOn_63 (i := 16) rfl
theorem d_M_goOn_167 : decode (zb m_M_goOn) 167 = .ok (.iload_n 2, 1) := zdal_p dlC_M_goOn_63 (i := 17) rfl
theorem d_M_goOn_168 : decode (zb m_M_goOn) 168 = .ok (.invokevirtual 141, 3) := zdal_p dlC_M_goOn_63 (i := 18) rfl
theorem d_M_goOn_171 : decode (zb m_M_goOn) 171 = .ok (.iadd, 1) := zdal_p dlC_M_goOn_63 (i := 19) rfl
theorem d_M_goOn_172 : decode (zb m_M_goOn) 172 = .ok (.bipush 48, 2) := zdal_p dlC_M_goOn_63 (i := 20) rfl
theorem d_M_goOn_174 : decode (zb m_M_goOn) 174 = .ok (.isub, 1) := zdal_p dlC_M_goOn_63 (i := 21) rfl
theorem d_M_goOn_175 : decode (zb m_M_goOn) 175 = .ok (.putfield 152, 3) := zdal_p dlC_M_goOn_63 (i := 22) rfl
theorem d_M_goOn_178 : decode (zb m_M_goOn) 178 = .ok (.iinc 2 1, 3) := zdal_p dlC_M_goOn_63 (i := 23) rfl
theorem dlC_M_goOn_64 : zdal (zb m_M_goOn) [(181, (.goto (-39), 3)), (184, (.aload_n 0, 1)), (185, (.iload_n 2, 1)), (186, (.iconst 3, 1)), (187, (.if_icmp .gt 14, 3)), (190, (.aload_n 0, 1)), (191, (.iload_n 2, 1)), (192, (.invokevirtual 141, 3)), (195, (.invokestatic 158, 3)), (198, (.ifCond .eq 7, 3)), (201, (.iconst 4, 1)), (202, (.goto 4, 3)), (205, (.iconst 2, 1)), (206, (.putfield 155, 3)), (209, (.goto 26, 3)), (212, (.aload_n 0, 1)), (213, (.iload_n 1, 1)), (214, (.invokestatic 165, 3)), (217, (.ifCond .eq 7, 3)), (220, (.iconst 3, 1)), (221, (.goto 4, 3)), (224, (.iconst 4, 1)), (225, (.putfield 155, 3)), (228, (.aload_n 0, 1))] = true := zDs 181 (by decide +kernel)
theorem d_M_goOn_181 : decode (zb m_M_goOn) 181 = .ok (.goto (-39), 3) := zdal_p dlC_M_goOn_64 (i := 0) rfl
theorem d_M_goOn_184 : decode (zb m_M_goOn) 184 = .ok (.aload_n 0, 1) := zdal_p dlC_M_goOn_64 (i := 1) rfl
theorem d_M_goOn_185 : decode (zb m_M_goOn) 185 = .ok (.iload_n 2, 1) := zdal_p dlC_M_goOn_64 (i := 2) rfl
theorem d_M_goOn_186 : decode (zb m_M_goOn) 186 = .ok (.iconst 3, 1) := zdal_p dlC_M_goOn_64 (i := 3) rfl
theorem d_M_goOn_187 : decode (zb m_M_goOn) 187 = .ok (.if_icmp .gt 14, 3) := zdal_p dlC_M_goOn_64 (i := 4) rfl
theorem d_M_goOn_190 : decode (zb m_M_goOn) 190 = .ok (.aload_n 0, 1) := zdal_p dlC_M_goOn_64 (i := 5) rfl
theorem d_M_goOn_191 : decode (zb m_M_goOn) 191 = .ok (.iload_n 2, 1) := zdal_p dlC_M_goOn_64 (i := 6) rfl
theorem d_M_goOn_192 : decode (zb m_M_goOn) 192 = .ok (.invokevirtual 141, 3) := zdal_p dlC_M_goOn_64 (i := 7) rfl
theorem d_M_goOn_195 : decode (zb m_M_goOn) 195 = .ok (.invokestatic 158, 3) := zdal_p dlC_M_goOn_64 (i := 8) rfl
theorem d_M_goOn_198 : decode (zb m_M_goOn) 198 = .ok (.ifCond .eq 7, 3) := zdal_p dlC_M_goOn_64 (i := 9) rfl
theorem d_M_goOn_201 : decode (zb m_M_goOn) 201 = .ok (.iconst 4, 1) := zdal_p dlC_M_goOn_64 (i := 10) rfl
theorem d_M_goOn_202 : decode (zb m_M_goOn) 202 = .ok (.goto 4, 3) := zdal_p dlC_M_goOn_64 (i := 11) rfl
theorem d_M_goOn_205 : decode (zb m_M_goOn) 205 = .ok (.iconst 2, 1) := zdal_p dlC_M_goOn_64 (i := 12) rfl
theorem d_M_goOn_206 : decode (zb m_M_goOn) 206 = .ok (.putfield 155, 3) := zdal_p dlC_M_goOn_64 (i := 13) rfl
theorem d_M_goOn_209 : decode (zb m_M_goOn) 209 = .ok (.goto 26, 3) := zdal_p dlC_M_goOn_64 (i := 14) rfl
theorem d_M_goOn_212 : decode (zb m_M_goOn) 212 = .ok (.aload_n 0, 1) := zdal_p dlC_M_goOn_64 (i := 15) rfl
theorem d_M_goOn_213 : decode (zb m_M_goOn) 213 = .ok (.iload_n 1, 1) := zdal_p dlC_M_goOn_64 (i := 16) rfl
theorem d_M_goOn_214 : decode (zb m_M_goOn) 214 = .ok (.invokestatic 165, 3) := zdal_p dlC_M_goOn_64 (i := 17) rfl
theorem d_M_goOn_217 : decode (zb m_M_goOn) 217 = .ok (.ifCond .eq 7, 3) := zdal_p dlC_M_goOn_64 (i := 18) rfl
theorem d_M_goOn_220 : decode (zb m_M_goOn) 220 = .ok (.iconst 3, 1) := zdal_p dlC_M_goOn_64 (i := 19) rfl
theorem d_M_goOn_221 : decode (zb m_M_goOn) 221 = .ok (.goto 4, 3) := zdal_p dlC_M_goOn_64 (i := 20) rfl
theorem d_M_goOn_224 : decode (zb m_M_goOn) 224 = .ok (.iconst 4, 1) := zdal_p dlC_M_goOn_64 (i := 21) rfl
theorem d_M_goOn_225 : decode (zb m_M_goOn) 225 = .ok (.putfield 155, 3) := zdal_p dlC_M_goOn_64 (i := 22) rfl
theorem d_M_goOn_228 : decode (zb m_M_goOn) 228 = .ok (.aload_n 0, 1) := zdal_p dlC_M_goOn_64 (i := 23) rfl
theorem dlC_M_goOn_65 : zdal (zb m_M_goOn) [(229, (.iload_n 1, 1)), (230, (.putfield 152, 3)), (233, (.iconst 1, 1)), (234, (.istore_n 2, 1)), (235, (.aload_n 0, 1)), (236, (.dup, 1)), (237, (.getfield 135, 3)), (240, (.iload_n 2, 1)), (241, (.iadd, 1)), (242, (.putfield 135, 3)), (245, (.return_, 1))] = true := zDs 229 (by decide +kernel)
theorem d_M_goOn_229 : decode (zb m_M_goOn) 229 = .ok (.iload_n 1, 1) := zdal_p dlC_M_goOn_65 (i := 0) rfl
theorem d_M_goOn_230 : decode (zb m_M_goOn) 230 = .ok (.putfield 152, 3) := zdal_p dlC_M_goOn_65 (i := 1) rfl
theorem d_M_goOn_233 : decode (zb m_M_goOn) 233 = .ok (.iconst 1, 1) := zdal_p dlC_M_goOn_65 (i := 2) rfl
theorem d_M_goOn_234 : decode (zb m_M_goOn) 234 = .ok (.istore_n 2, 1) := zdal_p dlC_M_goOn_65 (i := 3) rfl
theorem d_M_goOn_235 : decode (zb m_M_goOn) 235 = .ok (.aload_n 0, 1) := zdal_p dlC_M_goOn_65 (i := 4) rfl
theorem d_M_goOn_236 : decode (zb m_M_goOn) 236 = .ok (.dup, 1) := zdal_p dlC_M_goOn_65 (i := 5) rfl
theorem d_M_goOn_237 : decode (zb m_M_goOn) 237 = .ok (.getfield 135, 3) := zdal_p dlC_M_goOn_65 (i := 6) rfl
theorem d_M_goOn_240 : decode (zb m_M_goOn) 240 = .ok (.iload_n 2, 1) := zdal_p dlC_M_goOn_65 (i := 7) rfl
theorem d_M_goOn_241 : decode (zb m_M_goOn) 241 = .ok (.iadd, 1) := zdal_p dlC_M_goOn_65 (i := 8) rfl
theorem d_M_goOn_242 : decode (zb m_M_goOn) 242 = .ok (.putfield 135, 3) := zdal_p dlC_M_goOn_65 (i := 9) rfl
theorem d_M_goOn_245 : decode (zb m_M_goOn) 245 = .ok (.return_, 1) := zdal_p dlC_M_goOn_65 (i := 10) rfl
theorem dlC_M_here_66 : zdal (zb m_M_here) [(0, (.aload_n 0, 1)), (1, (.getfield 135, 3)), (4, (.iload_n 1, 1)), (5, (.iadd, 1)), (6, (.aload_n 0, 1)), (7, (.getfield 138, 3)), (10, (.if_icmp .ge 17, 3)), (13, (.aload_n 0, 1)), (14, (.getfield 7, 3)), (17, (.aload_n 0, 1)), (18, (.getfield 135, 3)), (21, (.iload_n 1, 1)), (22, (.iadd, 1)), (23, (.iaload, 1)), (24, (.goto 4, 3)), (27, (.iconst (-1), 1)), (28, (.ireturn, 1))] = true := zDs 0 (by decide +kernel)
theorem d_M_here_0 : decode (zb m_M_here) 0 = .ok (.aload_n 0, 1) := zdal_p dlC_M_here_66 (i := 0) rfl
theorem d_M_here_1 : decode (zb m_M_here) 1 = .ok (.getfield 135, 3) := zdal_p dlC_M_here_66 (i := 1) rfl
theorem d_M_here_4 : decode (zb m_M_here) 4 = .ok (.iload_n 1, 1) := zdal_p dlC_M_here_66 (i := 2) rfl
theorem d_M_here_5 : decode (zb m_M_here) 5 = .ok (.iadd, 1) := zdal_p dlC_M_here_66 (i := 3) rfl
theorem d_M_here_6 : decode (zb m_M_here) 6 = .ok (.aload_n 0, 1) := zdal_p dlC_M_here_66 (i := 4) rfl
theorem d_M_here_7 : decode (zb m_M_here) 7 = .ok (.getfield 138, 3) := zdal_p dlC_M_here_66 (i := 5) rfl
theorem d_M_here_10 : decode (zb m_M_here) 10 = .ok (.if_icmp .ge 17, 3) := zdal_p dlC_M_here_66 (i := 6) rfl
theorem d_M_here_13 : decode (zb m_M_here) 13 = .ok (.aload_n 0, 1) := zdal_p dlC_M_here_66 (i := 7) rfl
theorem d_M_here_14 : decode (zb m_M_here) 14 = .ok (.getfield 7, 3) := zdal_p dlC_M_here_66 (i := 8) rfl
theorem d_M_here_17 : decode (zb m_M_here) 17 = .ok (.aload_n 0, 1) := zdal_p dlC_M_here_66 (i := 9) rfl
theorem d_M_here_18 : decode (zb m_M_here) 18 = .ok (.getfield 135, 3) := zdal_p dlC_M_here_66 (i := 10) rfl
theorem d_M_here_21 : decode (zb m_M_here) 21 = .ok (.iload_n 1, 1) := zdal_p dlC_M_here_66 (i := 11) rfl
theorem d_M_here_22 : decode (zb m_M_here) 22 = .ok (.iadd, 1) := zdal_p dlC_M_here_66 (i := 12) rfl
theorem d_M_here_23 : decode (zb m_M_here) 23 = .ok (.iaload, 1) := zdal_p dlC_M_here_66 (i := 13) rfl
theorem d_M_here_24 : decode (zb m_M_here) 24 = .ok (.goto 4, 3) := zdal_p dlC_M_here_66 (i := 14) rfl
theorem d_M_here_27 : decode (zb m_M_here) 27 = .ok (.iconst (-1), 1) := zdal_p dlC_M_here_66 (i := 15) rfl
theorem d_M_here_28 : decode (zb m_M_here) 28 = .ok (.ireturn, 1) := zdal_p dlC_M_here_66 (i := 16) rfl
theorem dlC_M_isLetter_67 : zdal (zb m_M_isLetter) [(0, (.iload_n 0, 1)), (1, (.bipush 97, 2)), (3, (.if_icmp .lt 13, 3)), (6, (.iload_n 0, 1)), (7, (.bipush 122, 2)), (9, (.if_icmp .gt 7, 3)), (12, (.iconst 1, 1)), (13, (.goto 4, 3)), (16, (.iconst 0, 1)), (17, (.ireturn, 1))] = true := zDs 0 (by decide +kernel)
theorem d_M_isLetter_0 : decode (zb m_M_isLetter) 0 = .ok (.iload_n 0, 1) := zdal_p dlC_M_isLetter_67 (i := 0) rfl
theorem d_M_isLetter_1 : decode (zb m_M_isLetter) 1 = .ok (.bipush 97, 2) := zdal_p dlC_M_isLetter_67 (i := 1) rfl
theorem d_M_isLetter_3 : decode (zb m_M_isLetter) 3 = .ok (.if_icmp .lt 13, 3) := zdal_p dlC_M_isLetter_67 (i := 2) rfl
theorem d_M_isLetter_6 : decode (zb m_M_isLetter) 6 = .ok (.iload_n 0, 1) := zdal_p dlC_M_isLetter_67 (i := 3) rfl
theorem d_M_isLetter_7 : decode (zb m_M_isLetter) 7 = .ok (.bipush 122, 2) := zdal_p dlC_M_isLetter_67 (i := 4) rfl
theorem d_M_isLetter_9 : decode (zb m_M_isLetter) 9 = .ok (.if_icmp .gt 7, 3) := zdal_p dlC_M_isLetter_67 (i := 5) rfl
theorem d_M_isLetter_12 : decode (zb m_M_isLetter) 12 = .ok (.iconst 1, 1) := zdal_p dlC_M_isLetter_67 (i := 6) rfl
theorem d_M_isLetter_13 : decode (zb m_M_isLetter) 13 = .ok (.goto 4, 3) := zdal_p dlC_M_isLetter_67 (i := 7) rfl
theorem d_M_isLetter_16 : decode (zb m_M_isLetter) 16 = .ok (.iconst 0, 1) := zdal_p dlC_M_isLetter_67 (i := 8) rfl
theorem d_M_isLetter_17 : decode (zb m_M_isLetter) 17 = .ok (.ireturn, 1) := zdal_p dlC_M_isLetter_67 (i := 9) rfl
theorem dlC_M_isDigit_68 : zdal (zb m_M_isDigit) [(0, (.iload_n 0, 1)), (1, (.bipush 48, 2)), (3, (.if_icmp .lt 13, 3)), (6, (.iload_n 0, 1)), (7, (.bipush 57, 2)), (9, (.if_icmp .gt 7, 3)), (12, (.iconst 1, 1)), (13, (.goto 4, 3)), (16, (.iconst 0, 1)), (17, (.ireturn, 1))] = true := zDs 0 (by decide +kernel)
theorem d_M_isDigit_0 : decode (zb m_M_isDigit) 0 = .ok (.iload_n 0, 1) := zdal_p dlC_M_isDigit_68 (i := 0) rfl
theorem d_M_isDigit_1 : decode (zb m_M_isDigit) 1 = .ok (.bipush 48, 2) := zdal_p dlC_M_isDigit_68 (i := 1) rfl
theorem d_M_isDigit_3 : decode (zb m_M_isDigit) 3 = .ok (.if_icmp .lt 13, 3) := zdal_p dlC_M_isDigit_68 (i := 2) rfl
theorem d_M_isDigit_6 : decode (zb m_M_isDigit) 6 = .ok (.iload_n 0, 1) := zdal_p dlC_M_isDigit_68 (i := 3) rfl
theorem d_M_isDigit_7 : decode (zb m_M_isDigit) 7 = .ok (.bipush 57, 2) := zdal_p dlC_M_isDigit_68 (i := 4) rfl
theorem d_M_isDigit_9 : decode (zb m_M_isDigit) 9 = .ok (.if_icmp .gt 7, 3) := zdal_p dlC_M_isDigit_68 (i := 5) rfl
theorem d_M_isDigit_12 : decode (zb m_M_isDigit) 12 = .ok (.iconst 1, 1) := zdal_p dlC_M_isDigit_68 (i := 6) rfl
theorem d_M_isDigit_13 : decode (zb m_M_isDigit) 13 = .ok (.goto 4, 3) := zdal_p dlC_M_isDigit_68 (i := 7) rfl
theorem d_M_isDigit_16 : decode (zb m_M_isDigit) 16 = .ok (.iconst 0, 1) := zdal_p dlC_M_isDigit_68 (i := 8) rfl
theorem d_M_isDigit_17 : decode (zb m_M_isDigit) 17 = .ok (.ireturn, 1) := zdal_p dlC_M_isDigit_68 (i := 9) rfl
theorem dlC_M_isSign_69 : zdal (zb m_M_isSign) [(0, (.iload_n 0, 1)), (1, (.bipush 61, 2)), (3, (.if_icmp .eq 45, 3)), (6, (.iload_n 0, 1)), (7, (.bipush 43, 2)), (9, (.if_icmp .eq 39, 3)), (12, (.iload_n 0, 1)), (13, (.bipush 42, 2)), (15, (.if_icmp .eq 33, 3)), (18, (.iload_n 0, 1)), (19, (.bipush 45, 2)), (21, (.if_icmp .eq 27, 3)), (24, (.iload_n 0, 1)), (25, (.bipush 94, 2)), (27, (.if_icmp .eq 21, 3)), (30, (.iload_n 0, 1)), (31, (.bipush 40, 2)), (33, (.if_icmp .eq 15, 3)), (36, (.iload_n 0, 1)), (37, (.bipush 41, 2)), (39, (.if_icmp .eq 9, 3)), (42, (.iload_n 0, 1)), (43, (.bipush 59, 2)), (45, (.if_icmp .ne 7, 3))] = true := zDs 0 (by decide +kernel)
theorem d_M_isSign_0 : decode (zb m_M_isSign) 0 = .ok (.iload_n 0, 1) := zdal_p dlC_M_isSign_69 (i := 0) rfl
theorem d_M_isSign_1 : decode (zb m_M_isSign) 1 = .ok (.bipush 61, 2) := zdal_p dlC_M_isSign_69 (i := 1) rfl
theorem d_M_isSign_3 : decode (zb m_M_isSign) 3 = .ok (.if_icmp .eq 45, 3) := zdal_p dlC_M_isSign_69 (i := 2) rfl
theorem d_M_isSign_6 : decode (zb m_M_isSign) 6 = .ok (.iload_n 0, 1) := zdal_p dlC_M_isSign_69 (i := 3) rfl
theorem d_M_isSign_7 : decode (zb m_M_isSign) 7 = .ok (.bipush 43, 2) := zdal_p dlC_M_isSign_69 (i := 4) rfl
theorem d_M_isSign_9 : decode (zb m_M_isSign) 9 = .ok (.if_icmp .eq 39, 3) := zdal_p dlC_M_isSign_69 (i := 5) rfl
theorem d_M_isSign_12 : decode (zb m_M_isSign) 12 = .ok (.iload_n 0, 1) := zdal_p dlC_M_isSign_69 (i := 6) rfl
theorem d_M_isSign_13 : decode (zb m_M_isSign) 13 = .ok (.bipush 42, 2) := zdal_p dlC_M_isSign_69 (i := 7) rfl
theorem d_M_isSign_15 : decode (zb m_M_isSign) 15 = .ok (.if_icmp .eq 33, 3) := zdal_p dlC_M_isSign_69 (i := 8) rfl
theorem d_M_isSign_18 : decode (zb m_M_isSign) 18 = .ok (.iload_n 0, 1) := zdal_p dlC_M_isSign_69 (i := 9) rfl
theorem d_M_isSign_19 : decode (zb m_M_isSign) 19 = .ok (.bipush 45, 2) := zdal_p dlC_M_isSign_69 (i := 10) rfl
theorem d_M_isSign_21 : decode (zb m_M_isSign) 21 = .ok (.if_icmp .eq 27, 3) := zdal_p dlC_M_isSign_69 (i := 11) rfl
theorem d_M_isSign_24 : decode (zb m_M_isSign) 24 = .ok (.iload_n 0, 1) := zdal_p dlC_M_isSign_69 (i := 12) rfl
theorem d_M_isSign_25 : decode (zb m_M_isSign) 25 = .ok (.bipush 94, 2) := zdal_p dlC_M_isSign_69 (i := 13) rfl
theorem d_M_isSign_27 : decode (zb m_M_isSign) 27 = .ok (.if_icmp .eq 21, 3) := zdal_p dlC_M_isSign_69 (i := 14) rfl
theorem d_M_isSign_30 : decode (zb m_M_isSign) 30 = .ok (.iload_n 0, 1) := zdal_p dlC_M_isSign_69 (i := 15) rfl
theorem d_M_isSign_31 : decode (zb m_M_isSign) 31 = .ok (.bipush 40, 2) := zdal_p dlC_M_isSign_69 (i := 16) rfl
theorem d_M_isSign_33 : decode (zb m_M_isSign) 33 = .ok (.if_icmp .eq 15, 3) := zdal_p dlC_M_isSign_69 (i := 17) rfl
theorem d_M_isSign_36 : decode (zb m_M_isSign) 36 = .ok (.iload_n 0, 1) := zdal_p dlC_M_isSign_69 (i := 18) rfl
theorem d_M_isSign_37 : decode (zb m_M_isSign) 37 = .ok (.bipush 41, 2) := zdal_p dlC_M_isSign_69 (i := 19) rfl
theorem d_M_isSign_39 : decode (zb m_M_isSign) 39 = .ok (.if_icmp .eq 9, 3) := zdal_p dlC_M_isSign_69 (i := 20) rfl
theorem d_M_isSign_42 : decode (zb m_M_isSign) 42 = .ok (.iload_n 0, 1) := zdal_p dlC_M_isSign_69 (i := 21) rfl
theorem d_M_isSign_43 : decode (zb m_M_isSign) 43 = .ok (.bipush 59, 2) := zdal_p dlC_M_isSign_69 (i := 22) rfl
theorem d_M_isSign_45 : decode (zb m_M_isSign) 45 = .ok (.if_icmp .ne 7, 3) := zdal_p dlC_M_isSign_69 (i := 23) rfl
theorem dlC_M_isSign_70 : zdal (zb m_M_isSign) [(48, (.iconst 1, 1)), (49, (.goto 4, 3)), (52, (.iconst 0, 1)), (53, (.ireturn, 1))] = true := zDs 48 (by decide +kernel)
theorem d_M_isSign_48 : decode (zb m_M_isSign) 48 = .ok (.iconst 1, 1) := zdal_p dlC_M_isSign_70 (i := 0) rfl
theorem d_M_isSign_49 : decode (zb m_M_isSign) 49 = .ok (.goto 4, 3) := zdal_p dlC_M_isSign_70 (i := 1) rfl
theorem d_M_isSign_52 : decode (zb m_M_isSign) 52 = .ok (.iconst 0, 1) := zdal_p dlC_M_isSign_70 (i := 2) rfl
theorem d_M_isSign_53 : decode (zb m_M_isSign) 53 = .ok (.ireturn, 1) := zdal_p dlC_M_isSign_70 (i := 3) rfl
theorem dlC_M_reads_71 : zdal (zb m_M_reads) [(0, (.aload_n 0, 1)), (1, (.ldc2_w 175, 3)), (4, (.invokevirtual 312, 3)), (7, (.ifCond .ne 8, 3)), (10, (.aload_n 0, 1)), (11, (.iconst 2, 1)), (12, (.invokevirtual 190, 3)), (15, (.aload_n 0, 1)), (16, (.invokevirtual 183, 3)), (19, (.ifCond .eq 7, 3)), (22, (.aload_n 0, 1)), (23, (.invokevirtual 193, 3)), (26, (.aload_n 0, 1)), (27, (.aload_n 0, 1)), (28, (.iconst 1, 1)), (29, (.bipush 6, 2)), (31, (.invokevirtual 322, 3)), (34, (.putfield 115, 3)), (37, (.aload_n 0, 1)), (38, (.bipush 59, 2)), (40, (.invokevirtual 355, 3)), (43, (.aload_n 0, 1)), (44, (.ldc2_w 177, 3)), (47, (.invokevirtual 312, 3))] = true := zDs 0 (by decide +kernel)
theorem d_M_reads_0 : decode (zb m_M_reads) 0 = .ok (.aload_n 0, 1) := zdal_p dlC_M_reads_71 (i := 0) rfl
theorem d_M_reads_1 : decode (zb m_M_reads) 1 = .ok (.ldc2_w 175, 3) := zdal_p dlC_M_reads_71 (i := 1) rfl
theorem d_M_reads_4 : decode (zb m_M_reads) 4 = .ok (.invokevirtual 312, 3) := zdal_p dlC_M_reads_71 (i := 2) rfl
theorem d_M_reads_7 : decode (zb m_M_reads) 7 = .ok (.ifCond .ne 8, 3) := zdal_p dlC_M_reads_71 (i := 3) rfl
theorem d_M_reads_10 : decode (zb m_M_reads) 10 = .ok (.aload_n 0, 1) := zdal_p dlC_M_reads_71 (i := 4) rfl
theorem d_M_reads_11 : decode (zb m_M_reads) 11 = .ok (.iconst 2, 1) := zdal_p dlC_M_reads_71 (i := 5) rfl
theorem d_M_reads_12 : decode (zb m_M_reads) 12 = .ok (.invokevirtual 190, 3) := zdal_p dlC_M_reads_71 (i := 6) rfl
theorem d_M_reads_15 : decode (zb m_M_reads) 15 = .ok (.aload_n 0, 1) := zdal_p dlC_M_reads_71 (i := 7) rfl
theorem d_M_reads_16 : decode (zb m_M_reads) 16 = .ok (.invokevirtual 183, 3) := zdal_p dlC_M_reads_71 (i := 8) rfl
theorem d_M_reads_19 : decode (zb m_M_reads) 19 = .ok (.ifCond .eq 7, 3) := zdal_p dlC_M_reads_71 (i := 9) rfl
theorem d_M_reads_22 : decode (zb m_M_reads) 22 = .ok (.aload_n 0, 1) := zdal_p dlC_M_reads_71 (i := 10) rfl
theorem d_M_reads_23 : decode (zb m_M_reads) 23 = .ok (.invokevirtual 193, 3) := zdal_p dlC_M_reads_71 (i := 11) rfl
theorem d_M_reads_26 : decode (zb m_M_reads) 26 = .ok (.aload_n 0, 1) := zdal_p dlC_M_reads_71 (i := 12) rfl
theorem d_M_reads_27 : decode (zb m_M_reads) 27 = .ok (.aload_n 0, 1) := zdal_p dlC_M_reads_71 (i := 13) rfl
theorem d_M_reads_28 : decode (zb m_M_reads) 28 = .ok (.iconst 1, 1) := zdal_p dlC_M_reads_71 (i := 14) rfl
theorem d_M_reads_29 : decode (zb m_M_reads) 29 = .ok (.bipush 6, 2) := zdal_p dlC_M_reads_71 (i := 15) rfl
theorem d_M_reads_31 : decode (zb m_M_reads) 31 = .ok (.invokevirtual 322, 3) := zdal_p dlC_M_reads_71 (i := 16) rfl
theorem d_M_reads_34 : decode (zb m_M_reads) 34 = .ok (.putfield 115, 3) := zdal_p dlC_M_reads_71 (i := 17) rfl
theorem d_M_reads_37 : decode (zb m_M_reads) 37 = .ok (.aload_n 0, 1) := zdal_p dlC_M_reads_71 (i := 18) rfl
theorem d_M_reads_38 : decode (zb m_M_reads) 38 = .ok (.bipush 59, 2) := zdal_p dlC_M_reads_71 (i := 19) rfl
theorem d_M_reads_40 : decode (zb m_M_reads) 40 = .ok (.invokevirtual 355, 3) := zdal_p dlC_M_reads_71 (i := 20) rfl
theorem d_M_reads_43 : decode (zb m_M_reads) 43 = .ok (.aload_n 0, 1) := zdal_p dlC_M_reads_71 (i := 21) rfl
theorem d_M_reads_44 : decode (zb m_M_reads) 44 = .ok (.ldc2_w 177, 3) := zdal_p dlC_M_reads_71 (i := 22) rfl
theorem d_M_reads_47 : decode (zb m_M_reads) 47 = .ok (.invokevirtual 312, 3) := zdal_p dlC_M_reads_71 (i := 23) rfl
theorem dlC_M_reads_72 : zdal (zb m_M_reads) [(50, (.ifCond .eq 10, 3)), (53, (.aload_n 0, 1)), (54, (.invokevirtual 361, 3)), (57, (.goto (-14), 3)), (60, (.aload_n 0, 1)), (61, (.invokevirtual 183, 3)), (64, (.ifCond .eq 7, 3)), (67, (.aload_n 0, 1)), (68, (.invokevirtual 118, 3)), (71, (.aload_n 0, 1)), (72, (.ldc2_w 179, 3)), (75, (.invokevirtual 312, 3)), (78, (.ifCond .eq 10, 3)), (81, (.aload_n 0, 1)), (82, (.invokevirtual 364, 3)), (85, (.goto (-14), 3)), (88, (.aload_n 0, 1)), (89, (.invokevirtual 183, 3)), (92, (.ifCond .eq 15, 3)), (95, (.aload_n 0, 1)), (96, (.getfield 155, 3)), (99, (.ifCond .eq 8, 3)), (102, (.aload_n 0, 1)), (103, (.iconst 2, 1))] = true := zDs 50 (by decide +kernel)
theorem d_M_reads_50 : decode (zb m_M_reads) 50 = .ok (.ifCond .eq 10, 3) := zdal_p dlC_M_reads_72 (i := 0) rfl
theorem d_M_reads_53 : decode (zb m_M_reads) 53 = .ok (.aload_n 0, 1) := zdal_p dlC_M_reads_72 (i := 1) rfl
theorem d_M_reads_54 : decode (zb m_M_reads) 54 = .ok (.invokevirtual 361, 3) := zdal_p dlC_M_reads_72 (i := 2) rfl
theorem d_M_reads_57 : decode (zb m_M_reads) 57 = .ok (.goto (-14), 3) := zdal_p dlC_M_reads_72 (i := 3) rfl
theorem d_M_reads_60 : decode (zb m_M_reads) 60 = .ok (.aload_n 0, 1) := zdal_p dlC_M_reads_72 (i := 4) rfl
theorem d_M_reads_61 : decode (zb m_M_reads) 61 = .ok (.invokevirtual 183, 3) := zdal_p dlC_M_reads_72 (i := 5) rfl
theorem d_M_reads_64 : decode (zb m_M_reads) 64 = .ok (.ifCond .eq 7, 3) := zdal_p dlC_M_reads_72 (i := 6) rfl
theorem d_M_reads_67 : decode (zb m_M_reads) 67 = .ok (.aload_n 0, 1) := zdal_p dlC_M_reads_72 (i := 7) rfl
theorem d_M_reads_68 : decode (zb m_M_reads) 68 = .ok (.invokevirtual 118, 3) := zdal_p dlC_M_reads_72 (i := 8) rfl
theorem d_M_reads_71 : decode (zb m_M_reads) 71 = .ok (.aload_n 0, 1) := zdal_p dlC_M_reads_72 (i := 9) rfl
theorem d_M_reads_72 : decode (zb m_M_reads) 72 = .ok (.ldc2_w 179, 3) := zdal_p dlC_M_reads_72 (i := 10) rfl
theorem d_M_reads_75 : decode (zb m_M_reads) 75 = .ok (.invokevirtual 312, 3) := zdal_p dlC_M_reads_72 (i := 11) rfl
theorem d_M_reads_78 : decode (zb m_M_reads) 78 = .ok (.ifCond .eq 10, 3) := zdal_p dlC_M_reads_72 (i := 12) rfl
theorem d_M_reads_81 : decode (zb m_M_reads) 81 = .ok (.aload_n 0, 1) := zdal_p dlC_M_reads_72 (i := 13) rfl
theorem d_M_reads_82 : decode (zb m_M_reads) 82 = .ok (.invokevirtual 364, 3) := zdal_p dlC_M_reads_72 (i := 14) rfl
theorem d_M_reads_85 : decode (zb m_M_reads) 85 = .ok (.goto (-14), 3) := zdal_p dlC_M_reads_72 (i := 15) rfl
theorem d_M_reads_88 : decode (zb m_M_reads) 88 = .ok (.aload_n 0, 1) := zdal_p dlC_M_reads_72 (i := 16) rfl
theorem d_M_reads_89 : decode (zb m_M_reads) 89 = .ok (.invokevirtual 183, 3) := zdal_p dlC_M_reads_72 (i := 17) rfl
theorem d_M_reads_92 : decode (zb m_M_reads) 92 = .ok (.ifCond .eq 15, 3) := zdal_p dlC_M_reads_72 (i := 18) rfl
theorem d_M_reads_95 : decode (zb m_M_reads) 95 = .ok (.aload_n 0, 1) := zdal_p dlC_M_reads_72 (i := 19) rfl
theorem d_M_reads_96 : decode (zb m_M_reads) 96 = .ok (.getfield 155, 3) := zdal_p dlC_M_reads_72 (i := 20) rfl
theorem d_M_reads_99 : decode (zb m_M_reads) 99 = .ok (.ifCond .eq 8, 3) := zdal_p dlC_M_reads_72 (i := 21) rfl
theorem d_M_reads_102 : decode (zb m_M_reads) 102 = .ok (.aload_n 0, 1) := zdal_p dlC_M_reads_72 (i := 22) rfl
theorem d_M_reads_103 : decode (zb m_M_reads) 103 = .ok (.iconst 2, 1) := zdal_p dlC_M_reads_72 (i := 23) rfl
theorem dlC_M_reads_73 : zdal (zb m_M_reads) [(104, (.invokevirtual 190, 3)), (107, (.return_, 1))] = true := zDs 104 (by decide +kernel)
theorem d_M_reads_104 : decode (zb m_M_reads) 104 = .ok (.invokevirtual 190, 3) := zdal_p dlC_M_reads_73 (i := 0) rfl
theorem d_M_reads_107 : decode (zb m_M_reads) 107 = .ok (.return_, 1) := zdal_p dlC_M_reads_73 (i := 1) rfl
theorem dlC_M_isWord_74 : zdal (zb m_M_isWord) [(0, (.aload_n 0, 1)), (1, (.getfield 172, 3)), (4, (.ifCond .ne 24, 3)), (7, (.aload_n 0, 1)), (8, (.getfield 155, 3)), (11, (.iconst 1, 1)), (12, (.if_icmp .ne 16, 3)), (15, (.aload_n 0, 1)), (16, (.getfield 148, 3)), (19, (.lload_n 1, 1)), (20, (.lcmp, 1)), (21, (.ifCond .ne 7, 3)), (24, (.iconst 1, 1)), (25, (.goto 4, 3)), (28, (.iconst 0, 1)), (29, (.ireturn, 1))] = true := zDs 0 (by decide +kernel)
theorem d_M_isWord_0 : decode (zb m_M_isWord) 0 = .ok (.aload_n 0, 1) := zdal_p dlC_M_isWord_74 (i := 0) rfl
theorem d_M_isWord_1 : decode (zb m_M_isWord) 1 = .ok (.getfield 172, 3) := zdal_p dlC_M_isWord_74 (i := 1) rfl
theorem d_M_isWord_4 : decode (zb m_M_isWord) 4 = .ok (.ifCond .ne 24, 3) := zdal_p dlC_M_isWord_74 (i := 2) rfl
theorem d_M_isWord_7 : decode (zb m_M_isWord) 7 = .ok (.aload_n 0, 1) := zdal_p dlC_M_isWord_74 (i := 3) rfl
theorem d_M_isWord_8 : decode (zb m_M_isWord) 8 = .ok (.getfield 155, 3) := zdal_p dlC_M_isWord_74 (i := 4) rfl
theorem d_M_isWord_11 : decode (zb m_M_isWord) 11 = .ok (.iconst 1, 1) := zdal_p dlC_M_isWord_74 (i := 5) rfl
theorem d_M_isWord_12 : decode (zb m_M_isWord) 12 = .ok (.if_icmp .ne 16, 3) := zdal_p dlC_M_isWord_74 (i := 6) rfl
theorem d_M_isWord_15 : decode (zb m_M_isWord) 15 = .ok (.aload_n 0, 1) := zdal_p dlC_M_isWord_74 (i := 7) rfl
theorem d_M_isWord_16 : decode (zb m_M_isWord) 16 = .ok (.getfield 148, 3) := zdal_p dlC_M_isWord_74 (i := 8) rfl
theorem d_M_isWord_19 : decode (zb m_M_isWord) 19 = .ok (.lload_n 1, 1) := zdal_p dlC_M_isWord_74 (i := 9) rfl
theorem d_M_isWord_20 : decode (zb m_M_isWord) 20 = .ok (.lcmp, 1) := zdal_p dlC_M_isWord_74 (i := 10) rfl
theorem d_M_isWord_21 : decode (zb m_M_isWord) 21 = .ok (.ifCond .ne 7, 3) := zdal_p dlC_M_isWord_74 (i := 11) rfl
theorem d_M_isWord_24 : decode (zb m_M_isWord) 24 = .ok (.iconst 1, 1) := zdal_p dlC_M_isWord_74 (i := 12) rfl
theorem d_M_isWord_25 : decode (zb m_M_isWord) 25 = .ok (.goto 4, 3) := zdal_p dlC_M_isWord_74 (i := 13) rfl
theorem d_M_isWord_28 : decode (zb m_M_isWord) 28 = .ok (.iconst 0, 1) := zdal_p dlC_M_isWord_74 (i := 14) rfl
theorem d_M_isWord_29 : decode (zb m_M_isWord) 29 = .ok (.ireturn, 1) := zdal_p dlC_M_isWord_74 (i := 15) rfl
theorem dlC_M_wrong_75 : zdal (zb m_M_wrong) [(0, (.aload_n 0, 1)), (1, (.aload_n 0, 1)), (2, (.getfield 155, 3)), (5, (.iconst 4, 1)), (6, (.if_icmp .ne 7, 3)), (9, (.iconst 1, 1)), (10, (.goto 4, 3)), (13, (.iload_n 1, 1)), (14, (.aload_n 0, 1)), (15, (.getfield 145, 3)), (18, (.invokevirtual 168, 3)), (21, (.return_, 1))] = true := zDs 0 (by decide +kernel)
theorem d_M_wrong_0 : decode (zb m_M_wrong) 0 = .ok (.aload_n 0, 1) := zdal_p dlC_M_wrong_75 (i := 0) rfl
theorem d_M_wrong_1 : decode (zb m_M_wrong) 1 = .ok (.aload_n 0, 1) := zdal_p dlC_M_wrong_75 (i := 1) rfl
theorem d_M_wrong_2 : decode (zb m_M_wrong) 2 = .ok (.getfield 155, 3) := zdal_p dlC_M_wrong_75 (i := 2) rfl
theorem d_M_wrong_5 : decode (zb m_M_wrong) 5 = .ok (.iconst 4, 1) := zdal_p dlC_M_wrong_75 (i := 3) rfl
theorem d_M_wrong_6 : decode (zb m_M_wrong) 6 = .ok (.if_icmp .ne 7, 3) := zdal_p dlC_M_wrong_75 (i := 4) rfl
theorem d_M_wrong_9 : decode (zb m_M_wrong) 9 = .ok (.iconst 1, 1) := zdal_p dlC_M_wrong_75 (i := 5) rfl
theorem d_M_wrong_10 : decode (zb m_M_wrong) 10 = .ok (.goto 4, 3) := zdal_p dlC_M_wrong_75 (i := 6) rfl
theorem d_M_wrong_13 : decode (zb m_M_wrong) 13 = .ok (.iload_n 1, 1) := zdal_p dlC_M_wrong_75 (i := 7) rfl
theorem d_M_wrong_14 : decode (zb m_M_wrong) 14 = .ok (.aload_n 0, 1) := zdal_p dlC_M_wrong_75 (i := 8) rfl
theorem d_M_wrong_15 : decode (zb m_M_wrong) 15 = .ok (.getfield 145, 3) := zdal_p dlC_M_wrong_75 (i := 9) rfl
theorem d_M_wrong_18 : decode (zb m_M_wrong) 18 = .ok (.invokevirtual 168, 3) := zdal_p dlC_M_wrong_75 (i := 10) rfl
theorem d_M_wrong_21 : decode (zb m_M_wrong) 21 = .ok (.return_, 1) := zdal_p dlC_M_wrong_75 (i := 11) rfl
theorem dlC_M_wrongAt_76 : zdal (zb m_M_wrongAt) [(0, (.aload_n 0, 1)), (1, (.getfield 172, 3)), (4, (.ifCond .le 4, 3)), (7, (.return_, 1)), (8, (.aload_n 0, 1)), (9, (.iload_n 1, 1)), (10, (.putfield 172, 3)), (13, (.aload_n 0, 1)), (14, (.iload_n 2, 1)), (15, (.putfield 13, 3)), (18, (.return_, 1))] = true := zDs 0 (by decide +kernel)
theorem d_M_wrongAt_0 : decode (zb m_M_wrongAt) 0 = .ok (.aload_n 0, 1) := zdal_p dlC_M_wrongAt_76 (i := 0) rfl
theorem d_M_wrongAt_1 : decode (zb m_M_wrongAt) 1 = .ok (.getfield 172, 3) := zdal_p dlC_M_wrongAt_76 (i := 1) rfl
theorem d_M_wrongAt_4 : decode (zb m_M_wrongAt) 4 = .ok (.ifCond .le 4, 3) := zdal_p dlC_M_wrongAt_76 (i := 2) rfl
theorem d_M_wrongAt_7 : decode (zb m_M_wrongAt) 7 = .ok (.return_, 1) := zdal_p dlC_M_wrongAt_76 (i := 3) rfl
theorem d_M_wrongAt_8 : decode (zb m_M_wrongAt) 8 = .ok (.aload_n 0, 1) := zdal_p dlC_M_wrongAt_76 (i := 4) rfl
theorem d_M_wrongAt_9 : decode (zb m_M_wrongAt) 9 = .ok (.iload_n 1, 1) := zdal_p dlC_M_wrongAt_76 (i := 5) rfl
theorem d_M_wrongAt_10 : decode (zb m_M_wrongAt) 10 = .ok (.putfield 172, 3) := zdal_p dlC_M_wrongAt_76 (i := 6) rfl
theorem d_M_wrongAt_13 : decode (zb m_M_wrongAt) 13 = .ok (.aload_n 0, 1) := zdal_p dlC_M_wrongAt_76 (i := 7) rfl
theorem d_M_wrongAt_14 : decode (zb m_M_wrongAt) 14 = .ok (.iload_n 2, 1) := zdal_p dlC_M_wrongAt_76 (i := 8) rfl
theorem d_M_wrongAt_15 : decode (zb m_M_wrongAt) 15 = .ok (.putfield 13, 3) := zdal_p dlC_M_wrongAt_76 (i := 9) rfl
theorem d_M_wrongAt_18 : decode (zb m_M_wrongAt) 18 = .ok (.return_, 1) := zdal_p dlC_M_wrongAt_76 (i := 10) rfl
theorem dlC_M_isGood_77 : zdal (zb m_M_isGood) [(0, (.aload_n 0, 1)), (1, (.getfield 172, 3)), (4, (.ifCond .ne 7, 3)), (7, (.iconst 1, 1)), (8, (.goto 4, 3)), (11, (.iconst 0, 1)), (12, (.ireturn, 1))] = true := zDs 0 (by decide +kernel)
theorem d_M_isGood_0 : decode (zb m_M_isGood) 0 = .ok (.aload_n 0, 1) := zdal_p dlC_M_isGood_77 (i := 0) rfl
theorem d_M_isGood_1 : decode (zb m_M_isGood) 1 = .ok (.getfield 172, 3) := zdal_p dlC_M_isGood_77 (i := 1) rfl
theorem d_M_isGood_4 : decode (zb m_M_isGood) 4 = .ok (.ifCond .ne 7, 3) := zdal_p dlC_M_isGood_77 (i := 2) rfl
theorem d_M_isGood_7 : decode (zb m_M_isGood) 7 = .ok (.iconst 1, 1) := zdal_p dlC_M_isGood_77 (i := 3) rfl
theorem d_M_isGood_8 : decode (zb m_M_isGood) 8 = .ok (.goto 4, 3) := zdal_p dlC_M_isGood_77 (i := 4) rfl
theorem d_M_isGood_11 : decode (zb m_M_isGood) 11 = .ok (.iconst 0, 1) := zdal_p dlC_M_isGood_77 (i := 5) rfl
theorem d_M_isGood_12 : decode (zb m_M_isGood) 12 = .ok (.ireturn, 1) := zdal_p dlC_M_isGood_77 (i := 6) rfl
theorem dlC_M_number_78 : zdal (zb m_M_number) [(0, (.aload_n 0, 1)), (1, (.invokevirtual 183, 3)), (4, (.ifCond .eq 16, 3)), (7, (.aload_n 0, 1)), (8, (.getfield 155, 3)), (11, (.iconst 2, 1)), (12, (.if_icmp .eq 8, 3)), (15, (.aload_n 0, 1)), (16, (.iconst 2, 1)), (17, (.invokevirtual 190, 3)), (20, (.aload_n 0, 1)), (21, (.getfield 152, 3)), (24, (.istore_n 3, 1)), (25, (.aload_n 0, 1)), (26, (.invokevirtual 183, 3)), (29, (.ifCond .eq 20, 3)), (32, (.iload_n 3, 1)), (33, (.i2l, 1)), (34, (.iload_n 1, 1)), (35, (.i2l, 1)), (36, (.iload_n 2, 1)), (37, (.i2l, 1)), (38, (.invokestatic 131, 3)), (41, (.ifCond .ne 8, 3))] = true := zDs 0 (by decide +kernel)
theorem d_M_number_0 : decode (zb m_M_number) 0 = .ok (.aload_n 0, 1) := zdal_p dlC_M_number_78 (i := 0) rfl
theorem d_M_number_1 : decode (zb m_M_number) 1 = .ok (.invokevirtual 183, 3) := zdal_p dlC_M_number_78 (i := 1) rfl
theorem d_M_number_4 : decode (zb m_M_number) 4 = .ok (.ifCond .eq 16, 3) := zdal_p dlC_M_number_78 (i := 2) rfl
theorem d_M_number_7 : decode (zb m_M_number) 7 = .ok (.aload_n 0, 1) := zdal_p dlC_M_number_78 (i := 3) rfl
theorem d_M_number_8 : decode (zb m_M_number) 8 = .ok (.getfield 155, 3) := zdal_p dlC_M_number_78 (i := 4) rfl
theorem d_M_number_11 : decode (zb m_M_number) 11 = .ok (.iconst 2, 1) := zdal_p dlC_M_number_78 (i := 5) rfl
theorem d_M_number_12 : decode (zb m_M_number) 12 = .ok (.if_icmp .eq 8, 3) := zdal_p dlC_M_number_78 (i := 6) rfl
theorem d_M_number_15 : decode (zb m_M_number) 15 = .ok (.aload_n 0, 1) := zdal_p dlC_M_number_78 (i := 7) rfl
theorem d_M_number_16 : decode (zb m_M_number) 16 = .ok (.iconst 2, 1) := zdal_p dlC_M_number_78 (i := 8) rfl
theorem d_M_number_17 : decode (zb m_M_number) 17 = .ok (.invokevirtual 190, 3) := zdal_p dlC_M_number_78 (i := 9) rfl
theorem d_M_number_20 : decode (zb m_M_number) 20 = .ok (.aload_n 0, 1) := zdal_p dlC_M_number_78 (i := 10) rfl
theorem d_M_number_21 : decode (zb m_M_number) 21 = .ok (.getfield 152, 3) := zdal_p dlC_M_number_78 (i := 11) rfl
theorem d_M_number_24 : decode (zb m_M_number) 24 = .ok (.istore_n 3, 1) := zdal_p dlC_M_number_78 (i := 12) rfl
theorem d_M_number_25 : decode (zb m_M_number) 25 = .ok (.aload_n 0, 1) := zdal_p dlC_M_number_78 (i := 13) rfl
theorem d_M_number_26 : decode (zb m_M_number) 26 = .ok (.invokevirtual 183, 3) := zdal_p dlC_M_number_78 (i := 14) rfl
theorem d_M_number_29 : decode (zb m_M_number) 29 = .ok (.ifCond .eq 20, 3) := zdal_p dlC_M_number_78 (i := 15) rfl
theorem d_M_number_32 : decode (zb m_M_number) 32 = .ok (.iload_n 3, 1) := zdal_p dlC_M_number_78 (i := 16) rfl
theorem d_M_number_33 : decode (zb m_M_number) 33 = .ok (.i2l, 1) := zdal_p dlC_M_number_78 (i := 17) rfl
theorem d_M_number_34 : decode (zb m_M_number) 34 = .ok (.iload_n 1, 1) := zdal_p dlC_M_number_78 (i := 18) rfl
theorem d_M_number_35 : decode (zb m_M_number) 35 = .ok (.i2l, 1) := zdal_p dlC_M_number_78 (i := 19) rfl
theorem d_M_number_36 : decode (zb m_M_number) 36 = .ok (.iload_n 2, 1) := zdal_p dlC_M_number_78 (i := 20) rfl
theorem d_M_number_37 : decode (zb m_M_number) 37 = .ok (.i2l, 1) := zdal_p dlC_M_number_78 (i := 21) rfl
theorem d_M_number_38 : decode (zb m_M_number) 38 = .ok (.invokestatic 131, 3) := zdal_p dlC_M_number_78 (i := 22) rfl
theorem d_M_number_41 : decode (zb m_M_number) 41 = .ok (.ifCond .ne 8, 3) := zdal_p dlC_M_number_78 (i := 23) rfl
theorem dlC_M_number_79 : zdal (zb m_M_number) [(44, (.aload_n 0, 1)), (45, (.iconst 4, 1)), (46, (.invokevirtual 190, 3)), (49, (.aload_n 0, 1)), (50, (.invokevirtual 183, 3)), (53, (.ifCond .eq 7, 3)), (56, (.aload_n 0, 1)), (57, (.invokevirtual 193, 3)), (60, (.iload_n 3, 1)), (61, (.ireturn, 1))] = true := zDs 44 (by decide +kernel)
theorem d_M_number_44 : decode (zb m_M_number) 44 = .ok (.aload_n 0, 1) := zdal_p dlC_M_number_79 (i := 0) rfl
theorem d_M_number_45 : decode (zb m_M_number) 45 = .ok (.iconst 4, 1) := zdal_p dlC_M_number_79 (i := 1) rfl
theorem d_M_number_46 : decode (zb m_M_number) 46 = .ok (.invokevirtual 190, 3) := zdal_p dlC_M_number_79 (i := 2) rfl
theorem d_M_number_49 : decode (zb m_M_number) 49 = .ok (.aload_n 0, 1) := zdal_p dlC_M_number_79 (i := 3) rfl
theorem d_M_number_50 : decode (zb m_M_number) 50 = .ok (.invokevirtual 183, 3) := zdal_p dlC_M_number_79 (i := 4) rfl
theorem d_M_number_53 : decode (zb m_M_number) 53 = .ok (.ifCond .eq 7, 3) := zdal_p dlC_M_number_79 (i := 5) rfl
theorem d_M_number_56 : decode (zb m_M_number) 56 = .ok (.aload_n 0, 1) := zdal_p dlC_M_number_79 (i := 6) rfl
theorem d_M_number_57 : decode (zb m_M_number) 57 = .ok (.invokevirtual 193, 3) := zdal_p dlC_M_number_79 (i := 7) rfl
theorem d_M_number_60 : decode (zb m_M_number) 60 = .ok (.iload_n 3, 1) := zdal_p dlC_M_number_79 (i := 8) rfl
theorem d_M_number_61 : decode (zb m_M_number) 61 = .ok (.ireturn, 1) := zdal_p dlC_M_number_79 (i := 9) rfl
theorem dlC_M_must_80 : zdal (zb m_M_must) [(0, (.aload_n 0, 1)), (1, (.invokevirtual 183, 3)), (4, (.ifCond .eq 16, 3)), (7, (.aload_n 0, 1)), (8, (.iload_n 1, 1)), (9, (.invokevirtual 187, 3)), (12, (.ifCond .ne 8, 3)), (15, (.aload_n 0, 1)), (16, (.iconst 2, 1)), (17, (.invokevirtual 190, 3)), (20, (.aload_n 0, 1)), (21, (.invokevirtual 183, 3)), (24, (.ifCond .eq 7, 3)), (27, (.aload_n 0, 1)), (28, (.invokevirtual 193, 3)), (31, (.return_, 1))] = true := zDs 0 (by decide +kernel)
theorem d_M_must_0 : decode (zb m_M_must) 0 = .ok (.aload_n 0, 1) := zdal_p dlC_M_must_80 (i := 0) rfl
theorem d_M_must_1 : decode (zb m_M_must) 1 = .ok (.invokevirtual 183, 3) := zdal_p dlC_M_must_80 (i := 1) rfl
theorem d_M_must_4 : decode (zb m_M_must) 4 = .ok (.ifCond .eq 16, 3) := zdal_p dlC_M_must_80 (i := 2) rfl
theorem d_M_must_7 : decode (zb m_M_must) 7 = .ok (.aload_n 0, 1) := zdal_p dlC_M_must_80 (i := 3) rfl
theorem d_M_must_8 : decode (zb m_M_must) 8 = .ok (.iload_n 1, 1) := zdal_p dlC_M_must_80 (i := 4) rfl
theorem d_M_must_9 : decode (zb m_M_must) 9 = .ok (.invokevirtual 187, 3) := zdal_p dlC_M_must_80 (i := 5) rfl
theorem d_M_must_12 : decode (zb m_M_must) 12 = .ok (.ifCond .ne 8, 3) := zdal_p dlC_M_must_80 (i := 6) rfl
theorem d_M_must_15 : decode (zb m_M_must) 15 = .ok (.aload_n 0, 1) := zdal_p dlC_M_must_80 (i := 7) rfl
theorem d_M_must_16 : decode (zb m_M_must) 16 = .ok (.iconst 2, 1) := zdal_p dlC_M_must_80 (i := 8) rfl
theorem d_M_must_17 : decode (zb m_M_must) 17 = .ok (.invokevirtual 190, 3) := zdal_p dlC_M_must_80 (i := 9) rfl
theorem d_M_must_20 : decode (zb m_M_must) 20 = .ok (.aload_n 0, 1) := zdal_p dlC_M_must_80 (i := 10) rfl
theorem d_M_must_21 : decode (zb m_M_must) 21 = .ok (.invokevirtual 183, 3) := zdal_p dlC_M_must_80 (i := 11) rfl
theorem d_M_must_24 : decode (zb m_M_must) 24 = .ok (.ifCond .eq 7, 3) := zdal_p dlC_M_must_80 (i := 12) rfl
theorem d_M_must_27 : decode (zb m_M_must) 27 = .ok (.aload_n 0, 1) := zdal_p dlC_M_must_80 (i := 13) rfl
theorem d_M_must_28 : decode (zb m_M_must) 28 = .ok (.invokevirtual 193, 3) := zdal_p dlC_M_must_80 (i := 14) rfl
theorem d_M_must_31 : decode (zb m_M_must) 31 = .ok (.return_, 1) := zdal_p dlC_M_must_80 (i := 15) rfl
theorem dlC_M_isSignHere_81 : zdal (zb m_M_isSignHere) [(0, (.aload_n 0, 1)), (1, (.getfield 172, 3)), (4, (.ifCond .ne 23, 3)), (7, (.aload_n 0, 1)), (8, (.getfield 155, 3)), (11, (.iconst 3, 1)), (12, (.if_icmp .ne 15, 3)), (15, (.aload_n 0, 1)), (16, (.getfield 152, 3)), (19, (.iload_n 1, 1)), (20, (.if_icmp .ne 7, 3)), (23, (.iconst 1, 1)), (24, (.goto 4, 3)), (27, (.iconst 0, 1)), (28, (.ireturn, 1))] = true := zDs 0 (by decide +kernel)
theorem d_M_isSignHere_0 : decode (zb m_M_isSignHere) 0 = .ok (.aload_n 0, 1) := zdal_p dlC_M_isSignHere_81 (i := 0) rfl
theorem d_M_isSignHere_1 : decode (zb m_M_isSignHere) 1 = .ok (.getfield 172, 3) := zdal_p dlC_M_isSignHere_81 (i := 1) rfl
theorem d_M_isSignHere_4 : decode (zb m_M_isSignHere) 4 = .ok (.ifCond .ne 23, 3) := zdal_p dlC_M_isSignHere_81 (i := 2) rfl
theorem d_M_isSignHere_7 : decode (zb m_M_isSignHere) 7 = .ok (.aload_n 0, 1) := zdal_p dlC_M_isSignHere_81 (i := 3) rfl
theorem d_M_isSignHere_8 : decode (zb m_M_isSignHere) 8 = .ok (.getfield 155, 3) := zdal_p dlC_M_isSignHere_81 (i := 4) rfl
theorem d_M_isSignHere_11 : decode (zb m_M_isSignHere) 11 = .ok (.iconst 3, 1) := zdal_p dlC_M_isSignHere_81 (i := 5) rfl
theorem d_M_isSignHere_12 : decode (zb m_M_isSignHere) 12 = .ok (.if_icmp .ne 15, 3) := zdal_p dlC_M_isSignHere_81 (i := 6) rfl
theorem d_M_isSignHere_15 : decode (zb m_M_isSignHere) 15 = .ok (.aload_n 0, 1) := zdal_p dlC_M_isSignHere_81 (i := 7) rfl
theorem d_M_isSignHere_16 : decode (zb m_M_isSignHere) 16 = .ok (.getfield 152, 3) := zdal_p dlC_M_isSignHere_81 (i := 8) rfl
theorem d_M_isSignHere_19 : decode (zb m_M_isSignHere) 19 = .ok (.iload_n 1, 1) := zdal_p dlC_M_isSignHere_81 (i := 9) rfl
theorem d_M_isSignHere_20 : decode (zb m_M_isSignHere) 20 = .ok (.if_icmp .ne 7, 3) := zdal_p dlC_M_isSignHere_81 (i := 10) rfl
theorem d_M_isSignHere_23 : decode (zb m_M_isSignHere) 23 = .ok (.iconst 1, 1) := zdal_p dlC_M_isSignHere_81 (i := 11) rfl
theorem d_M_isSignHere_24 : decode (zb m_M_isSignHere) 24 = .ok (.goto 4, 3) := zdal_p dlC_M_isSignHere_81 (i := 12) rfl
theorem d_M_isSignHere_27 : decode (zb m_M_isSignHere) 27 = .ok (.iconst 0, 1) := zdal_p dlC_M_isSignHere_81 (i := 13) rfl
theorem d_M_isSignHere_28 : decode (zb m_M_isSignHere) 28 = .ok (.ireturn, 1) := zdal_p dlC_M_isSignHere_81 (i := 14) rfl
theorem dlC_M_moveLine_82 : zdal (zb m_M_moveLine) [(0, (.aload_n 0, 1)), (1, (.getfield 145, 3)), (4, (.istore_n 1, 1)), (5, (.aload_n 0, 1)), (6, (.getfield 199, 3)), (9, (.iconst 4, 1)), (10, (.if_icmp .ne 8, 3)), (13, (.aload_n 0, 1)), (14, (.iconst 5, 1)), (15, (.invokevirtual 190, 3)), (18, (.aload_n 0, 1)), (19, (.invokevirtual 183, 3)), (22, (.ifCond .eq 7, 3)), (25, (.aload_n 0, 1)), (26, (.invokevirtual 193, 3)), (29, (.iconst 0, 1)), (30, (.istore_n 2, 1)), (31, (.iconst 0, 1)), (32, (.istore_n 3, 1)), (33, (.iload_n 3, 1)), (34, (.aload_n 0, 1)), (35, (.getfield 115, 3)), (38, (.if_icmp .ge 100, 3)), (41, (.aload_n 0, 1))] = true := zDs 0 (by decide +kernel)
theorem d_M_moveLine_0 : decode (zb m_M_moveLine) 0 = .ok (.aload_n 0, 1) := zdal_p dlC_M_moveLine_82 (i := 0) rfl
theorem d_M_moveLine_1 : decode (zb m_M_moveLine) 1 = .ok (.getfield 145, 3) := zdal_p dlC_M_moveLine_82 (i := 1) rfl
theorem d_M_moveLine_4 : decode (zb m_M_moveLine) 4 = .ok (.istore_n 1, 1) := zdal_p dlC_M_moveLine_82 (i := 2) rfl
theorem d_M_moveLine_5 : decode (zb m_M_moveLine) 5 = .ok (.aload_n 0, 1) := zdal_p dlC_M_moveLine_82 (i := 3) rfl
theorem d_M_moveLine_6 : decode (zb m_M_moveLine) 6 = .ok (.getfield 199, 3) := zdal_p dlC_M_moveLine_82 (i := 4) rfl
theorem d_M_moveLine_9 : decode (zb m_M_moveLine) 9 = .ok (.iconst 4, 1) := zdal_p dlC_M_moveLine_82 (i := 5) rfl
theorem d_M_moveLine_10 : decode (zb m_M_moveLine) 10 = .ok (.if_icmp .ne 8, 3) := zdal_p dlC_M_moveLine_82 (i := 6) rfl
theorem d_M_moveLine_13 : decode (zb m_M_moveLine) 13 = .ok (.aload_n 0, 1) := zdal_p dlC_M_moveLine_82 (i := 7) rfl
theorem d_M_moveLine_14 : decode (zb m_M_moveLine) 14 = .ok (.iconst 5, 1) := zdal_p dlC_M_moveLine_82 (i := 8) rfl
theorem d_M_moveLine_15 : decode (zb m_M_moveLine) 15 = .ok (.invokevirtual 190, 3) := zdal_p dlC_M_moveLine_82 (i := 9) rfl
theorem d_M_moveLine_18 : decode (zb m_M_moveLine) 18 = .ok (.aload_n 0, 1) := zdal_p dlC_M_moveLine_82 (i := 10) rfl
theorem d_M_moveLine_19 : decode (zb m_M_moveLine) 19 = .ok (.invokevirtual 183, 3) := zdal_p dlC_M_moveLine_82 (i := 11) rfl
theorem d_M_moveLine_22 : decode (zb m_M_moveLine) 22 = .ok (.ifCond .eq 7, 3) := zdal_p dlC_M_moveLine_82 (i := 12) rfl
theorem d_M_moveLine_25 : decode (zb m_M_moveLine) 25 = .ok (.aload_n 0, 1) := zdal_p dlC_M_moveLine_82 (i := 13) rfl
theorem d_M_moveLine_26 : decode (zb m_M_moveLine) 26 = .ok (.invokevirtual 193, 3) := zdal_p dlC_M_moveLine_82 (i := 14) rfl
theorem d_M_moveLine_29 : decode (zb m_M_moveLine) 29 = .ok (.iconst 0, 1) := zdal_p dlC_M_moveLine_82 (i := 15) rfl
theorem d_M_moveLine_30 : decode (zb m_M_moveLine) 30 = .ok (.istore_n 2, 1) := zdal_p dlC_M_moveLine_82 (i := 16) rfl
theorem d_M_moveLine_31 : decode (zb m_M_moveLine) 31 = .ok (.iconst 0, 1) := zdal_p dlC_M_moveLine_82 (i := 17) rfl
theorem d_M_moveLine_32 : decode (zb m_M_moveLine) 32 = .ok (.istore_n 3, 1) := zdal_p dlC_M_moveLine_82 (i := 18) rfl
theorem d_M_moveLine_33 : decode (zb m_M_moveLine) 33 = .ok (.iload_n 3, 1) := zdal_p dlC_M_moveLine_82 (i := 19) rfl
theorem d_M_moveLine_34 : decode (zb m_M_moveLine) 34 = .ok (.aload_n 0, 1) := zdal_p dlC_M_moveLine_82 (i := 20) rfl
theorem d_M_moveLine_35 : decode (zb m_M_moveLine) 35 = .ok (.getfield 115, 3) := zdal_p dlC_M_moveLine_82 (i := 21) rfl
theorem d_M_moveLine_38 : decode (zb m_M_moveLine) 38 = .ok (.if_icmp .ge 100, 3) := zdal_p dlC_M_moveLine_82 (i := 22) rfl
theorem d_M_moveLine_41 : decode (zb m_M_moveLine) 41 = .ok (.aload_n 0, 1) := zdal_p dlC_M_moveLine_82 (i := 23) rfl
theorem dlC_M_moveLine_83 : zdal (zb m_M_moveLine) [(42, (.invokevirtual 183, 3)), (45, (.ifCond .eq 93, 3)), (48, (.aload_n 0, 1)), (49, (.getfield 155, 3)), (52, (.iconst 2, 1)), (53, (.if_icmp .eq 8, 3)), (56, (.aload_n 0, 1)), (57, (.iconst 2, 1)), (58, (.invokevirtual 190, 3)), (61, (.aload_n 0, 1)), (62, (.getfield 152, 3)), (65, (.istore 4, 2)), (67, (.aload_n 0, 1)), (68, (.invokevirtual 183, 3)), (71, (.ifCond .eq 26, 3)), (74, (.iload 4, 2)), (76, (.aload_n 0, 1)), (77, (.getfield 115, 3)), (80, (.if_icmp .ge 12, 3)), (83, (.iload_n 2, 1)), (84, (.iload 4, 2)), (86, (.invokestatic 213, 3)), (89, (.ifCond .eq 8, 3)), (92, (.aload_n 0, 1))] = true := zDs 42 (by decide +kernel)
theorem d_M_moveLine_42 : decode (zb m_M_moveLine) 42 = .ok (.invokevirtual 183, 3) := zdal_p dlC_M_moveLine_83 (i := 0) rfl
theorem d_M_moveLine_45 : decode (zb m_M_moveLine) 45 = .ok (.ifCond .eq 93, 3) := zdal_p dlC_M_moveLine_83 (i := 1) rfl
theorem d_M_moveLine_48 : decode (zb m_M_moveLine) 48 = .ok (.aload_n 0, 1) := zdal_p dlC_M_moveLine_83 (i := 2) rfl
theorem d_M_moveLine_49 : decode (zb m_M_moveLine) 49 = .ok (.getfield 155, 3) := zdal_p dlC_M_moveLine_83 (i := 3) rfl
theorem d_M_moveLine_52 : decode (zb m_M_moveLine) 52 = .ok (.iconst 2, 1) := zdal_p dlC_M_moveLine_83 (i := 4) rfl
theorem d_M_moveLine_53 : decode (zb m_M_moveLine) 53 = .ok (.if_icmp .eq 8, 3) := zdal_p dlC_M_moveLine_83 (i := 5) rfl
theorem d_M_moveLine_56 : decode (zb m_M_moveLine) 56 = .ok (.aload_n 0, 1) := zdal_p dlC_M_moveLine_83 (i := 6) rfl
theorem d_M_moveLine_57 : decode (zb m_M_moveLine) 57 = .ok (.iconst 2, 1) := zdal_p dlC_M_moveLine_83 (i := 7) rfl
theorem d_M_moveLine_58 : decode (zb m_M_moveLine) 58 = .ok (.invokevirtual 190, 3) := zdal_p dlC_M_moveLine_83 (i := 8) rfl
theorem d_M_moveLine_61 : decode (zb m_M_moveLine) 61 = .ok (.aload_n 0, 1) := zdal_p dlC_M_moveLine_83 (i := 9) rfl
theorem d_M_moveLine_62 : decode (zb m_M_moveLine) 62 = .ok (.getfield 152, 3) := zdal_p dlC_M_moveLine_83 (i := 10) rfl
theorem d_M_moveLine_65 : decode (zb m_M_moveLine) 65 = .ok (.istore 4, 2) := zdal_p dlC_M_moveLine_83 (i := 11) rfl
theorem d_M_moveLine_67 : decode (zb m_M_moveLine) 67 = .ok (.aload_n 0, 1) := zdal_p dlC_M_moveLine_83 (i := 12) rfl
theorem d_M_moveLine_68 : decode (zb m_M_moveLine) 68 = .ok (.invokevirtual 183, 3) := zdal_p dlC_M_moveLine_83 (i := 13) rfl
theorem d_M_moveLine_71 : decode (zb m_M_moveLine) 71 = .ok (.ifCond .eq 26, 3) := zdal_p dlC_M_moveLine_83 (i := 14) rfl
theorem d_M_moveLine_74 : decode (zb m_M_moveLine) 74 = .ok (.iload 4, 2) := zdal_p dlC_M_moveLine_83 (i := 15) rfl
theorem d_M_moveLine_76 : decode (zb m_M_moveLine) 76 = .ok (.aload_n 0, 1) := zdal_p dlC_M_moveLine_83 (i := 16) rfl
theorem d_M_moveLine_77 : decode (zb m_M_moveLine) 77 = .ok (.getfield 115, 3) := zdal_p dlC_M_moveLine_83 (i := 17) rfl
theorem d_M_moveLine_80 : decode (zb m_M_moveLine) 80 = .ok (.if_icmp .ge 12, 3) := zdal_p dlC_M_moveLine_83 (i := 18) rfl
theorem d_M_moveLine_83 : decode (zb m_M_moveLine) 83 = .ok (.iload_n 2, 1) := zdal_p dlC_M_moveLine_83 (i := 19) rfl
theorem d_M_moveLine_84 : decode (zb m_M_moveLine) 84 = .ok (.iload 4, 2) := zdal_p dlC_M_moveLine_83 (i := 20) rfl
theorem d_M_moveLine_86 : decode (zb m_M_moveLine) 86 = .ok (.invokestatic 213, 3) := zdal_p dlC_M_moveLine_83 (i := 21) rfl
theorem d_M_moveLine_89 : decode (zb m_M_moveLine) 89 = .ok (.ifCond .eq 8, 3) := zdal_p dlC_M_moveLine_83 (i := 22) rfl
theorem d_M_moveLine_92 : decode (zb m_M_moveLine) 92 = .ok (.aload_n 0, 1) := zdal_p dlC_M_moveLine_83 (i := 23) rfl
theorem dlC_M_moveLine_84 : zdal (zb m_M_moveLine) [(93, (.iconst 4, 1)), (94, (.invokevirtual 190, 3)), (97, (.aload_n 0, 1)), (98, (.getfield 172, 3)), (101, (.ifCond .le 4, 3)), (104, (.return_, 1)), (105, (.iload_n 2, 1)), (106, (.iconst 1, 1)), (107, (.iload 4, 2)), (109, (.ishl, 1)), (110, (.ior, 1)), (111, (.istore_n 2, 1)), (112, (.aload_n 0, 1)), (113, (.getfield 20, 3)), (116, (.bipush 6, 2)), (118, (.aload_n 0, 1)), (119, (.getfield 199, 3)), (122, (.imul, 1)), (123, (.iload_n 3, 1)), (124, (.iadd, 1)), (125, (.iload 4, 2)), (127, (.iastore, 1)), (128, (.aload_n 0, 1)), (129, (.invokevirtual 193, 3))] = true := zDs 93 (by decide +kernel)
theorem d_M_moveLine_93 : decode (zb m_M_moveLine) 93 = .ok (.iconst 4, 1) := zdal_p dlC_M_moveLine_84 (i := 0) rfl
theorem d_M_moveLine_94 : decode (zb m_M_moveLine) 94 = .ok (.invokevirtual 190, 3) := zdal_p dlC_M_moveLine_84 (i := 1) rfl
theorem d_M_moveLine_97 : decode (zb m_M_moveLine) 97 = .ok (.aload_n 0, 1) := zdal_p dlC_M_moveLine_84 (i := 2) rfl
theorem d_M_moveLine_98 : decode (zb m_M_moveLine) 98 = .ok (.getfield 172, 3) := zdal_p dlC_M_moveLine_84 (i := 3) rfl
theorem d_M_moveLine_101 : decode (zb m_M_moveLine) 101 = .ok (.ifCond .le 4, 3) := zdal_p dlC_M_moveLine_84 (i := 4) rfl
theorem d_M_moveLine_104 : decode (zb m_M_moveLine) 104 = .ok (.return_, 1) := zdal_p dlC_M_moveLine_84 (i := 5) rfl
theorem d_M_moveLine_105 : decode (zb m_M_moveLine) 105 = .ok (.iload_n 2, 1) := zdal_p dlC_M_moveLine_84 (i := 6) rfl
theorem d_M_moveLine_106 : decode (zb m_M_moveLine) 106 = .ok (.iconst 1, 1) := zdal_p dlC_M_moveLine_84 (i := 7) rfl
theorem d_M_moveLine_107 : decode (zb m_M_moveLine) 107 = .ok (.iload 4, 2) := zdal_p dlC_M_moveLine_84 (i := 8) rfl
theorem d_M_moveLine_109 : decode (zb m_M_moveLine) 109 = .ok (.ishl, 1) := zdal_p dlC_M_moveLine_84 (i := 9) rfl
theorem d_M_moveLine_110 : decode (zb m_M_moveLine) 110 = .ok (.ior, 1) := zdal_p dlC_M_moveLine_84 (i := 10) rfl
theorem d_M_moveLine_111 : decode (zb m_M_moveLine) 111 = .ok (.istore_n 2, 1) := zdal_p dlC_M_moveLine_84 (i := 11) rfl
theorem d_M_moveLine_112 : decode (zb m_M_moveLine) 112 = .ok (.aload_n 0, 1) := zdal_p dlC_M_moveLine_84 (i := 12) rfl
theorem d_M_moveLine_113 : decode (zb m_M_moveLine) 113 = .ok (.getfield 20, 3) := zdal_p dlC_M_moveLine_84 (i := 13) rfl
theorem d_M_moveLine_116 : decode (zb m_M_moveLine) 116 = .ok (.bipush 6, 2) := zdal_p dlC_M_moveLine_84 (i := 14) rfl
theorem d_M_moveLine_118 : decode (zb m_M_moveLine) 118 = .ok (.aload_n 0, 1) := zdal_p dlC_M_moveLine_84 (i := 15) rfl
theorem d_M_moveLine_119 : decode (zb m_M_moveLine) 119 = .ok (.getfield 199, 3) := zdal_p dlC_M_moveLine_84 (i := 16) rfl
theorem d_M_moveLine_122 : decode (zb m_M_moveLine) 122 = .ok (.imul, 1) := zdal_p dlC_M_moveLine_84 (i := 17) rfl
theorem d_M_moveLine_123 : decode (zb m_M_moveLine) 123 = .ok (.iload_n 3, 1) := zdal_p dlC_M_moveLine_84 (i := 18) rfl
theorem d_M_moveLine_124 : decode (zb m_M_moveLine) 124 = .ok (.iadd, 1) := zdal_p dlC_M_moveLine_84 (i := 19) rfl
theorem d_M_moveLine_125 : decode (zb m_M_moveLine) 125 = .ok (.iload 4, 2) := zdal_p dlC_M_moveLine_84 (i := 20) rfl
theorem d_M_moveLine_127 : decode (zb m_M_moveLine) 127 = .ok (.iastore, 1) := zdal_p dlC_M_moveLine_84 (i := 21) rfl
theorem d_M_moveLine_128 : decode (zb m_M_moveLine) 128 = .ok (.aload_n 0, 1) := zdal_p dlC_M_moveLine_84 (i := 22) rfl
theorem d_M_moveLine_129 : decode (zb m_M_moveLine) 129 = .ok (.invokevirtual 193, 3) := zdal_p dlC_M_moveLine_84 (i := 23) rfl
theorem dlC_M_moveLine_85 : zdal (zb m_M_moveLine) [(132, (.iinc 3 1, 3)), (135, (.goto (-102), 3)), (138, (.aload_n 0, 1)), (139, (.bipush 59, 2)), (141, (.invokevirtual 355, 3)), (144, (.aload_n 0, 1)), (145, (.getfield 172, 3)), (148, (.ifCond .le 4, 3)), (151, (.return_, 1)), (152, (.aload_n 0, 1)), (153, (.dup, 1)), (154, (.getfield 199, 3)), (157, (.iconst 1, 1)), (158, (.iadd, 1)), (159, (.putfield 199, 3)), (162, (.aload_n 0, 1)), (163, (.invokevirtual 226, 3)), (166, (.ifCond .ne 9, 3)), (169, (.aload_n 0, 1)), (170, (.iconst 5, 1)), (171, (.iload_n 1, 1)), (172, (.invokevirtual 168, 3)), (175, (.return_, 1))] = true := zDs 132 (by decide +kernel)
theorem d_M_moveLine_132 : decode (zb m_M_moveLine) 132 = .ok (.iinc 3 1, 3) := zdal_p dlC_M_moveLine_85 (i := 0) rfl
theorem d_M_moveLine_135 : decode (zb m_M_moveLine) 135 = .ok (.goto (-102), 3) := zdal_p dlC_M_moveLine_85 (i := 1) rfl
theorem d_M_moveLine_138 : decode (zb m_M_moveLine) 138 = .ok (.aload_n 0, 1) := zdal_p dlC_M_moveLine_85 (i := 2) rfl
theorem d_M_moveLine_139 : decode (zb m_M_moveLine) 139 = .ok (.bipush 59, 2) := zdal_p dlC_M_moveLine_85 (i := 3) rfl
theorem d_M_moveLine_141 : decode (zb m_M_moveLine) 141 = .ok (.invokevirtual 355, 3) := zdal_p dlC_M_moveLine_85 (i := 4) rfl
theorem d_M_moveLine_144 : decode (zb m_M_moveLine) 144 = .ok (.aload_n 0, 1) := zdal_p dlC_M_moveLine_85 (i := 5) rfl
theorem d_M_moveLine_145 : decode (zb m_M_moveLine) 145 = .ok (.getfield 172, 3) := zdal_p dlC_M_moveLine_85 (i := 6) rfl
theorem d_M_moveLine_148 : decode (zb m_M_moveLine) 148 = .ok (.ifCond .le 4, 3) := zdal_p dlC_M_moveLine_85 (i := 7) rfl
theorem d_M_moveLine_151 : decode (zb m_M_moveLine) 151 = .ok (.return_, 1) := zdal_p dlC_M_moveLine_85 (i := 8) rfl
theorem d_M_moveLine_152 : decode (zb m_M_moveLine) 152 = .ok (.aload_n 0, 1) := zdal_p dlC_M_moveLine_85 (i := 9) rfl
theorem d_M_moveLine_153 : decode (zb m_M_moveLine) 153 = .ok (.dup, 1) := zdal_p dlC_M_moveLine_85 (i := 10) rfl
theorem d_M_moveLine_154 : decode (zb m_M_moveLine) 154 = .ok (.getfield 199, 3) := zdal_p dlC_M_moveLine_85 (i := 11) rfl
theorem d_M_moveLine_157 : decode (zb m_M_moveLine) 157 = .ok (.iconst 1, 1) := zdal_p dlC_M_moveLine_85 (i := 12) rfl
theorem d_M_moveLine_158 : decode (zb m_M_moveLine) 158 = .ok (.iadd, 1) := zdal_p dlC_M_moveLine_85 (i := 13) rfl
theorem d_M_moveLine_159 : decode (zb m_M_moveLine) 159 = .ok (.putfield 199, 3) := zdal_p dlC_M_moveLine_85 (i := 14) rfl
theorem d_M_moveLine_162 : decode (zb m_M_moveLine) 162 = .ok (.aload_n 0, 1) := zdal_p dlC_M_moveLine_85 (i := 15) rfl
theorem d_M_moveLine_163 : decode (zb m_M_moveLine) 163 = .ok (.invokevirtual 226, 3) := zdal_p dlC_M_moveLine_85 (i := 16) rfl
theorem d_M_moveLine_166 : decode (zb m_M_moveLine) 166 = .ok (.ifCond .ne 9, 3) := zdal_p dlC_M_moveLine_85 (i := 17) rfl
theorem d_M_moveLine_169 : decode (zb m_M_moveLine) 169 = .ok (.aload_n 0, 1) := zdal_p dlC_M_moveLine_85 (i := 18) rfl
theorem d_M_moveLine_170 : decode (zb m_M_moveLine) 170 = .ok (.iconst 5, 1) := zdal_p dlC_M_moveLine_85 (i := 19) rfl
theorem d_M_moveLine_171 : decode (zb m_M_moveLine) 171 = .ok (.iload_n 1, 1) := zdal_p dlC_M_moveLine_85 (i := 20) rfl
theorem d_M_moveLine_172 : decode (zb m_M_moveLine) 172 = .ok (.invokevirtual 168, 3) := zdal_p dlC_M_moveLine_85 (i := 21) rfl
theorem d_M_moveLine_175 : decode (zb m_M_moveLine) 175 = .ok (.return_, 1) := zdal_p dlC_M_moveLine_85 (i := 22) rfl
theorem dlC_M_letLine_86 : zdal (zb m_M_letLine) [(0, (.aload_n 0, 1)), (1, (.getfield 145, 3)), (4, (.istore_n 1, 1)), (5, (.aload_n 0, 1)), (6, (.getfield 299, 3)), (9, (.bipush 8, 2)), (11, (.if_icmp .ne 8, 3)), (14, (.aload_n 0, 1)), (15, (.iconst 5, 1)), (16, (.invokevirtual 190, 3)), (19, (.aload_n 0, 1)), (20, (.invokevirtual 183, 3)), (23, (.ifCond .eq 7, 3)), (26, (.aload_n 0, 1)), (27, (.invokevirtual 193, 3)), (30, (.aload_n 0, 1)), (31, (.invokevirtual 183, 3)), (34, (.ifCond .eq 15, 3)), (37, (.aload_n 0, 1)), (38, (.invokevirtual 316, 3)), (41, (.ifCond .ne 8, 3)), (44, (.aload_n 0, 1)), (45, (.iconst 2, 1)), (46, (.invokevirtual 190, 3))] = true := zDs 0 (by decide +kernel)
theorem d_M_letLine_0 : decode (zb m_M_letLine) 0 = .ok (.aload_n 0, 1) := zdal_p dlC_M_letLine_86 (i := 0) rfl
theorem d_M_letLine_1 : decode (zb m_M_letLine) 1 = .ok (.getfield 145, 3) := zdal_p dlC_M_letLine_86 (i := 1) rfl
theorem d_M_letLine_4 : decode (zb m_M_letLine) 4 = .ok (.istore_n 1, 1) := zdal_p dlC_M_letLine_86 (i := 2) rfl
theorem d_M_letLine_5 : decode (zb m_M_letLine) 5 = .ok (.aload_n 0, 1) := zdal_p dlC_M_letLine_86 (i := 3) rfl
theorem d_M_letLine_6 : decode (zb m_M_letLine) 6 = .ok (.getfield 299, 3) := zdal_p dlC_M_letLine_86 (i := 4) rfl
theorem d_M_letLine_9 : decode (zb m_M_letLine) 9 = .ok (.bipush 8, 2) := zdal_p dlC_M_letLine_86 (i := 5) rfl
theorem d_M_letLine_11 : decode (zb m_M_letLine) 11 = .ok (.if_icmp .ne 8, 3) := zdal_p dlC_M_letLine_86 (i := 6) rfl
theorem d_M_letLine_14 : decode (zb m_M_letLine) 14 = .ok (.aload_n 0, 1) := zdal_p dlC_M_letLine_86 (i := 7) rfl
theorem d_M_letLine_15 : decode (zb m_M_letLine) 15 = .ok (.iconst 5, 1) := zdal_p dlC_M_letLine_86 (i := 8) rfl
theorem d_M_letLine_16 : decode (zb m_M_letLine) 16 = .ok (.invokevirtual 190, 3) := zdal_p dlC_M_letLine_86 (i := 9) rfl
theorem d_M_letLine_19 : decode (zb m_M_letLine) 19 = .ok (.aload_n 0, 1) := zdal_p dlC_M_letLine_86 (i := 10) rfl
theorem d_M_letLine_20 : decode (zb m_M_letLine) 20 = .ok (.invokevirtual 183, 3) := zdal_p dlC_M_letLine_86 (i := 11) rfl
theorem d_M_letLine_23 : decode (zb m_M_letLine) 23 = .ok (.ifCond .eq 7, 3) := zdal_p dlC_M_letLine_86 (i := 12) rfl
theorem d_M_letLine_26 : decode (zb m_M_letLine) 26 = .ok (.aload_n 0, 1) := zdal_p dlC_M_letLine_86 (i := 13) rfl
theorem d_M_letLine_27 : decode (zb m_M_letLine) 27 = .ok (.invokevirtual 193, 3) := zdal_p dlC_M_letLine_86 (i := 14) rfl
theorem d_M_letLine_30 : decode (zb m_M_letLine) 30 = .ok (.aload_n 0, 1) := zdal_p dlC_M_letLine_86 (i := 15) rfl
theorem d_M_letLine_31 : decode (zb m_M_letLine) 31 = .ok (.invokevirtual 183, 3) := zdal_p dlC_M_letLine_86 (i := 16) rfl
theorem d_M_letLine_34 : decode (zb m_M_letLine) 34 = .ok (.ifCond .eq 15, 3) := zdal_p dlC_M_letLine_86 (i := 17) rfl
theorem d_M_letLine_37 : decode (zb m_M_letLine) 37 = .ok (.aload_n 0, 1) := zdal_p dlC_M_letLine_86 (i := 18) rfl
theorem d_M_letLine_38 : decode (zb m_M_letLine) 38 = .ok (.invokevirtual 316, 3) := zdal_p dlC_M_letLine_86 (i := 19) rfl
theorem d_M_letLine_41 : decode (zb m_M_letLine) 41 = .ok (.ifCond .ne 8, 3) := zdal_p dlC_M_letLine_86 (i := 20) rfl
theorem d_M_letLine_44 : decode (zb m_M_letLine) 44 = .ok (.aload_n 0, 1) := zdal_p dlC_M_letLine_86 (i := 21) rfl
theorem d_M_letLine_45 : decode (zb m_M_letLine) 45 = .ok (.iconst 2, 1) := zdal_p dlC_M_letLine_86 (i := 22) rfl
theorem d_M_letLine_46 : decode (zb m_M_letLine) 46 = .ok (.invokevirtual 190, 3) := zdal_p dlC_M_letLine_86 (i := 23) rfl
theorem dlC_M_letLine_87 : zdal (zb m_M_letLine) [(49, (.aload_n 0, 1)), (50, (.invokevirtual 183, 3)), (53, (.ifCond .eq 16, 3)), (56, (.aload_n 0, 1)), (57, (.invokevirtual 319, 3)), (60, (.iconst (-1), 1)), (61, (.if_icmp .eq 8, 3)), (64, (.aload_n 0, 1)), (65, (.iconst 3, 1)), (66, (.invokevirtual 190, 3)), (69, (.aload_n 0, 1)), (70, (.getfield 172, 3)), (73, (.ifCond .le 4, 3)), (76, (.return_, 1)), (77, (.aload_n 0, 1)), (78, (.getfield 148, 3)), (81, (.lstore_n 2, 1)), (82, (.aload_n 0, 1)), (83, (.invokevirtual 193, 3)), (86, (.aload_n 0, 1)), (87, (.bipush 61, 2)), (89, (.invokevirtual 355, 3)), (92, (.aload_n 0, 1)), (93, (.invokevirtual 358, 3))] = true := zDs 49 (by decide +kernel)
theorem d_M_letLine_49 : decode (zb m_M_letLine) 49 = .ok (.aload_n 0, 1) := zdal_p dlC_M_letLine_87 (i := 0) rfl
theorem d_M_letLine_50 : decode (zb m_M_letLine) 50 = .ok (.invokevirtual 183, 3) := zdal_p dlC_M_letLine_87 (i := 1) rfl
theorem d_M_letLine_53 : decode (zb m_M_letLine) 53 = .ok (.ifCond .eq 16, 3) := zdal_p dlC_M_letLine_87 (i := 2) rfl
theorem d_M_letLine_56 : decode (zb m_M_letLine) 56 = .ok (.aload_n 0, 1) := zdal_p dlC_M_letLine_87 (i := 3) rfl
theorem d_M_letLine_57 : decode (zb m_M_letLine) 57 = .ok (.invokevirtual 319, 3) := zdal_p dlC_M_letLine_87 (i := 4) rfl
theorem d_M_letLine_60 : decode (zb m_M_letLine) 60 = .ok (.iconst (-1), 1) := zdal_p dlC_M_letLine_87 (i := 5) rfl
theorem d_M_letLine_61 : decode (zb m_M_letLine) 61 = .ok (.if_icmp .eq 8, 3) := zdal_p dlC_M_letLine_87 (i := 6) rfl
theorem d_M_letLine_64 : decode (zb m_M_letLine) 64 = .ok (.aload_n 0, 1) := zdal_p dlC_M_letLine_87 (i := 7) rfl
theorem d_M_letLine_65 : decode (zb m_M_letLine) 65 = .ok (.iconst 3, 1) := zdal_p dlC_M_letLine_87 (i := 8) rfl
theorem d_M_letLine_66 : decode (zb m_M_letLine) 66 = .ok (.invokevirtual 190, 3) := zdal_p dlC_M_letLine_87 (i := 9) rfl
theorem d_M_letLine_69 : decode (zb m_M_letLine) 69 = .ok (.aload_n 0, 1) := zdal_p dlC_M_letLine_87 (i := 10) rfl
theorem d_M_letLine_70 : decode (zb m_M_letLine) 70 = .ok (.getfield 172, 3) := zdal_p dlC_M_letLine_87 (i := 11) rfl
theorem d_M_letLine_73 : decode (zb m_M_letLine) 73 = .ok (.ifCond .le 4, 3) := zdal_p dlC_M_letLine_87 (i := 12) rfl
theorem d_M_letLine_76 : decode (zb m_M_letLine) 76 = .ok (.return_, 1) := zdal_p dlC_M_letLine_87 (i := 13) rfl
theorem d_M_letLine_77 : decode (zb m_M_letLine) 77 = .ok (.aload_n 0, 1) := zdal_p dlC_M_letLine_87 (i := 14) rfl
theorem d_M_letLine_78 : decode (zb m_M_letLine) 78 = .ok (.getfield 148, 3) := zdal_p dlC_M_letLine_87 (i := 15) rfl
theorem d_M_letLine_81 : decode (zb m_M_letLine) 81 = .ok (.lstore_n 2, 1) := zdal_p dlC_M_letLine_87 (i := 16) rfl
theorem d_M_letLine_82 : decode (zb m_M_letLine) 82 = .ok (.aload_n 0, 1) := zdal_p dlC_M_letLine_87 (i := 17) rfl
theorem d_M_letLine_83 : decode (zb m_M_letLine) 83 = .ok (.invokevirtual 193, 3) := zdal_p dlC_M_letLine_87 (i := 18) rfl
theorem d_M_letLine_86 : decode (zb m_M_letLine) 86 = .ok (.aload_n 0, 1) := zdal_p dlC_M_letLine_87 (i := 19) rfl
theorem d_M_letLine_87 : decode (zb m_M_letLine) 87 = .ok (.bipush 61, 2) := zdal_p dlC_M_letLine_87 (i := 20) rfl
theorem d_M_letLine_89 : decode (zb m_M_letLine) 89 = .ok (.invokevirtual 355, 3) := zdal_p dlC_M_letLine_87 (i := 21) rfl
theorem d_M_letLine_92 : decode (zb m_M_letLine) 92 = .ok (.aload_n 0, 1) := zdal_p dlC_M_letLine_87 (i := 22) rfl
theorem d_M_letLine_93 : decode (zb m_M_letLine) 93 = .ok (.invokevirtual 358, 3) := zdal_p dlC_M_letLine_87 (i := 23) rfl
theorem dlC_M_letLine_88 : zdal (zb m_M_letLine) [(96, (.aload_n 0, 1)), (97, (.bipush 59, 2)), (99, (.invokevirtual 355, 3)), (102, (.aload_n 0, 1)), (103, (.invokevirtual 183, 3)), (106, (.ifCond .eq 17, 3)), (109, (.aload_n 0, 1)), (110, (.getfield 275, 3)), (113, (.ifCond .eq 10, 3)), (116, (.aload_n 0, 1)), (117, (.bipush 6, 2)), (119, (.iload_n 1, 1)), (120, (.invokevirtual 168, 3)), (123, (.aload_n 0, 1)), (124, (.getfield 172, 3)), (127, (.ifCond .le 4, 3)), (130, (.return_, 1)), (131, (.aload_n 0, 1)), (132, (.getfield 75, 3)), (135, (.aload_n 0, 1)), (136, (.getfield 299, 3)), (139, (.lload_n 2, 1)), (140, (.lastore, 1)), (141, (.iconst 0, 1))] = true := zDs 96 (by decide +kernel)
theorem d_M_letLine_96 : decode (zb m_M_letLine) 96 = .ok (.aload_n 0, 1) := zdal_p dlC_M_letLine_88 (i := 0) rfl
theorem d_M_letLine_97 : decode (zb m_M_letLine) 97 = .ok (.bipush 59, 2) := zdal_p dlC_M_letLine_88 (i := 1) rfl
theorem d_M_letLine_99 : decode (zb m_M_letLine) 99 = .ok (.invokevirtual 355, 3) := zdal_p dlC_M_letLine_88 (i := 2) rfl
theorem d_M_letLine_102 : decode (zb m_M_letLine) 102 = .ok (.aload_n 0, 1) := zdal_p dlC_M_letLine_88 (i := 3) rfl
theorem d_M_letLine_103 : decode (zb m_M_letLine) 103 = .ok (.invokevirtual 183, 3) := zdal_p dlC_M_letLine_88 (i := 4) rfl
theorem d_M_letLine_106 : decode (zb m_M_letLine) 106 = .ok (.ifCond .eq 17, 3) := zdal_p dlC_M_letLine_88 (i := 5) rfl
theorem d_M_letLine_109 : decode (zb m_M_letLine) 109 = .ok (.aload_n 0, 1) := zdal_p dlC_M_letLine_88 (i := 6) rfl
theorem d_M_letLine_110 : decode (zb m_M_letLine) 110 = .ok (.getfield 275, 3) := zdal_p dlC_M_letLine_88 (i := 7) rfl
theorem d_M_letLine_113 : decode (zb m_M_letLine) 113 = .ok (.ifCond .eq 10, 3) := zdal_p dlC_M_letLine_88 (i := 8) rfl
theorem d_M_letLine_116 : decode (zb m_M_letLine) 116 = .ok (.aload_n 0, 1) := zdal_p dlC_M_letLine_88 (i := 9) rfl
theorem d_M_letLine_117 : decode (zb m_M_letLine) 117 = .ok (.bipush 6, 2) := zdal_p dlC_M_letLine_88 (i := 10) rfl
theorem d_M_letLine_119 : decode (zb m_M_letLine) 119 = .ok (.iload_n 1, 1) := zdal_p dlC_M_letLine_88 (i := 11) rfl
theorem d_M_letLine_120 : decode (zb m_M_letLine) 120 = .ok (.invokevirtual 168, 3) := zdal_p dlC_M_letLine_88 (i := 12) rfl
theorem d_M_letLine_123 : decode (zb m_M_letLine) 123 = .ok (.aload_n 0, 1) := zdal_p dlC_M_letLine_88 (i := 13) rfl
theorem d_M_letLine_124 : decode (zb m_M_letLine) 124 = .ok (.getfield 172, 3) := zdal_p dlC_M_letLine_88 (i := 14) rfl
theorem d_M_letLine_127 : decode (zb m_M_letLine) 127 = .ok (.ifCond .le 4, 3) := zdal_p dlC_M_letLine_88 (i := 15) rfl
theorem d_M_letLine_130 : decode (zb m_M_letLine) 130 = .ok (.return_, 1) := zdal_p dlC_M_letLine_88 (i := 16) rfl
theorem d_M_letLine_131 : decode (zb m_M_letLine) 131 = .ok (.aload_n 0, 1) := zdal_p dlC_M_letLine_88 (i := 17) rfl
theorem d_M_letLine_132 : decode (zb m_M_letLine) 132 = .ok (.getfield 75, 3) := zdal_p dlC_M_letLine_88 (i := 18) rfl
theorem d_M_letLine_135 : decode (zb m_M_letLine) 135 = .ok (.aload_n 0, 1) := zdal_p dlC_M_letLine_88 (i := 19) rfl
theorem d_M_letLine_136 : decode (zb m_M_letLine) 136 = .ok (.getfield 299, 3) := zdal_p dlC_M_letLine_88 (i := 20) rfl
theorem d_M_letLine_139 : decode (zb m_M_letLine) 139 = .ok (.lload_n 2, 1) := zdal_p dlC_M_letLine_88 (i := 21) rfl
theorem d_M_letLine_140 : decode (zb m_M_letLine) 140 = .ok (.lastore, 1) := zdal_p dlC_M_letLine_88 (i := 22) rfl
theorem d_M_letLine_141 : decode (zb m_M_letLine) 141 = .ok (.iconst 0, 1) := zdal_p dlC_M_letLine_88 (i := 23) rfl
theorem dlC_M_letLine_89 : zdal (zb m_M_letLine) [(142, (.istore 4, 2)), (144, (.iload 4, 2)), (146, (.aload_n 0, 1)), (147, (.getfield 235, 3)), (150, (.if_icmp .ge 31, 3)), (153, (.aload_n 0, 1)), (154, (.getfield 78, 3)), (157, (.bipush 64, 2)), (159, (.aload_n 0, 1)), (160, (.getfield 299, 3)), (163, (.imul, 1)), (164, (.iload 4, 2)), (166, (.iadd, 1)), (167, (.aload_n 0, 1)), (168, (.getfield 56, 3)), (171, (.iload 4, 2)), (173, (.laload, 1)), (174, (.lastore, 1)), (175, (.iinc 4 1, 3)), (178, (.goto (-34), 3)), (181, (.aload_n 0, 1)), (182, (.dup, 1)), (183, (.getfield 299, 3)), (186, (.iconst 1, 1))] = true := zDs 142 (by decide +kernel)
theorem d_M_letLine_142 : decode (zb m_M_letLine) 142 = .ok (.istore 4, 2) := zdal_p dlC_M_letLine_89 (i := 0) rfl
theorem d_M_letLine_144 : decode (zb m_M_letLine) 144 = .ok (.iload 4, 2) := zdal_p dlC_M_letLine_89 (i := 1) rfl
theorem d_M_letLine_146 : decode (zb m_M_letLine) 146 = .ok (.aload_n 0, 1) := zdal_p dlC_M_letLine_89 (i := 2) rfl
theorem d_M_letLine_147 : decode (zb m_M_letLine) 147 = .ok (.getfield 235, 3) := zdal_p dlC_M_letLine_89 (i := 3) rfl
theorem d_M_letLine_150 : decode (zb m_M_letLine) 150 = .ok (.if_icmp .ge 31, 3) := zdal_p dlC_M_letLine_89 (i := 4) rfl
theorem d_M_letLine_153 : decode (zb m_M_letLine) 153 = .ok (.aload_n 0, 1) := zdal_p dlC_M_letLine_89 (i := 5) rfl
theorem d_M_letLine_154 : decode (zb m_M_letLine) 154 = .ok (.getfield 78, 3) := zdal_p dlC_M_letLine_89 (i := 6) rfl
theorem d_M_letLine_157 : decode (zb m_M_letLine) 157 = .ok (.bipush 64, 2) := zdal_p dlC_M_letLine_89 (i := 7) rfl
theorem d_M_letLine_159 : decode (zb m_M_letLine) 159 = .ok (.aload_n 0, 1) := zdal_p dlC_M_letLine_89 (i := 8) rfl
theorem d_M_letLine_160 : decode (zb m_M_letLine) 160 = .ok (.getfield 299, 3) := zdal_p dlC_M_letLine_89 (i := 9) rfl
theorem d_M_letLine_163 : decode (zb m_M_letLine) 163 = .ok (.imul, 1) := zdal_p dlC_M_letLine_89 (i := 10) rfl
theorem d_M_letLine_164 : decode (zb m_M_letLine) 164 = .ok (.iload 4, 2) := zdal_p dlC_M_letLine_89 (i := 11) rfl
theorem d_M_letLine_166 : decode (zb m_M_letLine) 166 = .ok (.iadd, 1) := zdal_p dlC_M_letLine_89 (i := 12) rfl
theorem d_M_letLine_167 : decode (zb m_M_letLine) 167 = .ok (.aload_n 0, 1) := zdal_p dlC_M_letLine_89 (i := 13) rfl
theorem d_M_letLine_168 : decode (zb m_M_letLine) 168 = .ok (.getfield 56, 3) := zdal_p dlC_M_letLine_89 (i := 14) rfl
theorem d_M_letLine_171 : decode (zb m_M_letLine) 171 = .ok (.iload 4, 2) := zdal_p dlC_M_letLine_89 (i := 15) rfl
theorem d_M_letLine_173 : decode (zb m_M_letLine) 173 = .ok (.laload, 1) := zdal_p dlC_M_letLine_89 (i := 16) rfl
theorem d_M_letLine_174 : decode (zb m_M_letLine) 174 = .ok (.lastore, 1) := zdal_p dlC_M_letLine_89 (i := 17) rfl
theorem d_M_letLine_175 : decode (zb m_M_letLine) 175 = .ok (.iinc 4 1, 3) := zdal_p dlC_M_letLine_89 (i := 18) rfl
theorem d_M_letLine_178 : decode (zb m_M_letLine) 178 = .ok (.goto (-34), 3) := zdal_p dlC_M_letLine_89 (i := 19) rfl
theorem d_M_letLine_181 : decode (zb m_M_letLine) 181 = .ok (.aload_n 0, 1) := zdal_p dlC_M_letLine_89 (i := 20) rfl
theorem d_M_letLine_182 : decode (zb m_M_letLine) 182 = .ok (.dup, 1) := zdal_p dlC_M_letLine_89 (i := 21) rfl
theorem d_M_letLine_183 : decode (zb m_M_letLine) 183 = .ok (.getfield 299, 3) := zdal_p dlC_M_letLine_89 (i := 22) rfl
theorem d_M_letLine_186 : decode (zb m_M_letLine) 186 = .ok (.iconst 1, 1) := zdal_p dlC_M_letLine_89 (i := 23) rfl
theorem dlC_M_letLine_90 : zdal (zb m_M_letLine) [(187, (.iadd, 1)), (188, (.putfield 299, 3)), (191, (.return_, 1))] = true := zDs 187 (by decide +kernel)
theorem d_M_letLine_187 : decode (zb m_M_letLine) 187 = .ok (.iadd, 1) := zdal_p dlC_M_letLine_90 (i := 0) rfl
theorem d_M_letLine_188 : decode (zb m_M_letLine) 188 = .ok (.putfield 299, 3) := zdal_p dlC_M_letLine_90 (i := 1) rfl
theorem d_M_letLine_191 : decode (zb m_M_letLine) 191 = .ok (.return_, 1) := zdal_p dlC_M_letLine_90 (i := 2) rfl
theorem dlC_M_isName_91 : zdal (zb m_M_isName) [(0, (.aload_n 0, 1)), (1, (.getfield 155, 3)), (4, (.iconst 1, 1)), (5, (.if_icmp .ne 51, 3)), (8, (.aload_n 0, 1)), (9, (.getfield 148, 3)), (12, (.ldc2_w 175, 3)), (15, (.lcmp, 1)), (16, (.ifCond .eq 40, 3)), (19, (.aload_n 0, 1)), (20, (.getfield 148, 3)), (23, (.ldc2_w 177, 3)), (26, (.lcmp, 1)), (27, (.ifCond .eq 29, 3)), (30, (.aload_n 0, 1)), (31, (.getfield 148, 3)), (34, (.ldc2_w 179, 3)), (37, (.lcmp, 1)), (38, (.ifCond .eq 18, 3)), (41, (.aload_n 0, 1)), (42, (.getfield 148, 3)), (45, (.ldc2_w 181, 3)), (48, (.lcmp, 1)), (49, (.ifCond .eq 7, 3))] = true := zDs 0 (by decide +kernel)
theorem d_M_isName_0 : decode (zb m_M_isName) 0 = .ok (.aload_n 0, 1) := zdal_p dlC_M_isName_91 (i := 0) rfl
theorem d_M_isName_1 : decode (zb m_M_isName) 1 = .ok (.getfield 155, 3) := zdal_p dlC_M_isName_91 (i := 1) rfl
theorem d_M_isName_4 : decode (zb m_M_isName) 4 = .ok (.iconst 1, 1) := zdal_p dlC_M_isName_91 (i := 2) rfl
theorem d_M_isName_5 : decode (zb m_M_isName) 5 = .ok (.if_icmp .ne 51, 3) := zdal_p dlC_M_isName_91 (i := 3) rfl
theorem d_M_isName_8 : decode (zb m_M_isName) 8 = .ok (.aload_n 0, 1) := zdal_p dlC_M_isName_91 (i := 4) rfl
theorem d_M_isName_9 : decode (zb m_M_isName) 9 = .ok (.getfield 148, 3) := zdal_p dlC_M_isName_91 (i := 5) rfl
theorem d_M_isName_12 : decode (zb m_M_isName) 12 = .ok (.ldc2_w 175, 3) := zdal_p dlC_M_isName_91 (i := 6) rfl
theorem d_M_isName_15 : decode (zb m_M_isName) 15 = .ok (.lcmp, 1) := zdal_p dlC_M_isName_91 (i := 7) rfl
theorem d_M_isName_16 : decode (zb m_M_isName) 16 = .ok (.ifCond .eq 40, 3) := zdal_p dlC_M_isName_91 (i := 8) rfl
theorem d_M_isName_19 : decode (zb m_M_isName) 19 = .ok (.aload_n 0, 1) := zdal_p dlC_M_isName_91 (i := 9) rfl
theorem d_M_isName_20 : decode (zb m_M_isName) 20 = .ok (.getfield 148, 3) := zdal_p dlC_M_isName_91 (i := 10) rfl
theorem d_M_isName_23 : decode (zb m_M_isName) 23 = .ok (.ldc2_w 177, 3) := zdal_p dlC_M_isName_91 (i := 11) rfl
theorem d_M_isName_26 : decode (zb m_M_isName) 26 = .ok (.lcmp, 1) := zdal_p dlC_M_isName_91 (i := 12) rfl
theorem d_M_isName_27 : decode (zb m_M_isName) 27 = .ok (.ifCond .eq 29, 3) := zdal_p dlC_M_isName_91 (i := 13) rfl
theorem d_M_isName_30 : decode (zb m_M_isName) 30 = .ok (.aload_n 0, 1) := zdal_p dlC_M_isName_91 (i := 14) rfl
theorem d_M_isName_31 : decode (zb m_M_isName) 31 = .ok (.getfield 148, 3) := zdal_p dlC_M_isName_91 (i := 15) rfl
theorem d_M_isName_34 : decode (zb m_M_isName) 34 = .ok (.ldc2_w 179, 3) := zdal_p dlC_M_isName_91 (i := 16) rfl
theorem d_M_isName_37 : decode (zb m_M_isName) 37 = .ok (.lcmp, 1) := zdal_p dlC_M_isName_91 (i := 17) rfl
theorem d_M_isName_38 : decode (zb m_M_isName) 38 = .ok (.ifCond .eq 18, 3) := zdal_p dlC_M_isName_91 (i := 18) rfl
theorem d_M_isName_41 : decode (zb m_M_isName) 41 = .ok (.aload_n 0, 1) := zdal_p dlC_M_isName_91 (i := 19) rfl
theorem d_M_isName_42 : decode (zb m_M_isName) 42 = .ok (.getfield 148, 3) := zdal_p dlC_M_isName_91 (i := 20) rfl
theorem d_M_isName_45 : decode (zb m_M_isName) 45 = .ok (.ldc2_w 181, 3) := zdal_p dlC_M_isName_91 (i := 21) rfl
theorem d_M_isName_48 : decode (zb m_M_isName) 48 = .ok (.lcmp, 1) := zdal_p dlC_M_isName_91 (i := 22) rfl
theorem d_M_isName_49 : decode (zb m_M_isName) 49 = .ok (.ifCond .eq 7, 3) := zdal_p dlC_M_isName_91 (i := 23) rfl
theorem dlC_M_isName_92 : zdal (zb m_M_isName) [(52, (.iconst 1, 1)), (53, (.goto 4, 3)), (56, (.iconst 0, 1)), (57, (.ireturn, 1))] = true := zDs 52 (by decide +kernel)
theorem d_M_isName_52 : decode (zb m_M_isName) 52 = .ok (.iconst 1, 1) := zdal_p dlC_M_isName_92 (i := 0) rfl
theorem d_M_isName_53 : decode (zb m_M_isName) 53 = .ok (.goto 4, 3) := zdal_p dlC_M_isName_92 (i := 1) rfl
theorem d_M_isName_56 : decode (zb m_M_isName) 56 = .ok (.iconst 0, 1) := zdal_p dlC_M_isName_92 (i := 2) rfl
theorem d_M_isName_57 : decode (zb m_M_isName) 57 = .ok (.ireturn, 1) := zdal_p dlC_M_isName_92 (i := 3) rfl
theorem dlC_M_nameAt_93 : zdal (zb m_M_nameAt) [(0, (.iconst 0, 1)), (1, (.istore_n 1, 1)), (2, (.iload_n 1, 1)), (3, (.aload_n 0, 1)), (4, (.getfield 299, 3)), (7, (.if_icmp .ge 25, 3)), (10, (.aload_n 0, 1)), (11, (.getfield 75, 3)), (14, (.iload_n 1, 1)), (15, (.laload, 1)), (16, (.aload_n 0, 1)), (17, (.getfield 148, 3)), (20, (.lcmp, 1)), (21, (.ifCond .ne 5, 3)), (24, (.iload_n 1, 1)), (25, (.ireturn, 1)), (26, (.iinc 1 1, 3)), (29, (.goto (-27), 3)), (32, (.iconst (-1), 1)), (33, (.ireturn, 1))] = true := zDs 0 (by decide +kernel)
theorem d_M_nameAt_0 : decode (zb m_M_nameAt) 0 = .ok (.iconst 0, 1) := zdal_p dlC_M_nameAt_93 (i := 0) rfl
theorem d_M_nameAt_1 : decode (zb m_M_nameAt) 1 = .ok (.istore_n 1, 1) := zdal_p dlC_M_nameAt_93 (i := 1) rfl
theorem d_M_nameAt_2 : decode (zb m_M_nameAt) 2 = .ok (.iload_n 1, 1) := zdal_p dlC_M_nameAt_93 (i := 2) rfl
theorem d_M_nameAt_3 : decode (zb m_M_nameAt) 3 = .ok (.aload_n 0, 1) := zdal_p dlC_M_nameAt_93 (i := 3) rfl
theorem d_M_nameAt_4 : decode (zb m_M_nameAt) 4 = .ok (.getfield 299, 3) := zdal_p dlC_M_nameAt_93 (i := 4) rfl
theorem d_M_nameAt_7 : decode (zb m_M_nameAt) 7 = .ok (.if_icmp .ge 25, 3) := zdal_p dlC_M_nameAt_93 (i := 5) rfl
theorem d_M_nameAt_10 : decode (zb m_M_nameAt) 10 = .ok (.aload_n 0, 1) := zdal_p dlC_M_nameAt_93 (i := 6) rfl
theorem d_M_nameAt_11 : decode (zb m_M_nameAt) 11 = .ok (.getfield 75, 3) := zdal_p dlC_M_nameAt_93 (i := 7) rfl
theorem d_M_nameAt_14 : decode (zb m_M_nameAt) 14 = .ok (.iload_n 1, 1) := zdal_p dlC_M_nameAt_93 (i := 8) rfl
theorem d_M_nameAt_15 : decode (zb m_M_nameAt) 15 = .ok (.laload, 1) := zdal_p dlC_M_nameAt_93 (i := 9) rfl
theorem d_M_nameAt_16 : decode (zb m_M_nameAt) 16 = .ok (.aload_n 0, 1) := zdal_p dlC_M_nameAt_93 (i := 10) rfl
theorem d_M_nameAt_17 : decode (zb m_M_nameAt) 17 = .ok (.getfield 148, 3) := zdal_p dlC_M_nameAt_93 (i := 11) rfl
theorem d_M_nameAt_20 : decode (zb m_M_nameAt) 20 = .ok (.lcmp, 1) := zdal_p dlC_M_nameAt_93 (i := 12) rfl
theorem d_M_nameAt_21 : decode (zb m_M_nameAt) 21 = .ok (.ifCond .ne 5, 3) := zdal_p dlC_M_nameAt_93 (i := 13) rfl
theorem d_M_nameAt_24 : decode (zb m_M_nameAt) 24 = .ok (.iload_n 1, 1) := zdal_p dlC_M_nameAt_93 (i := 14) rfl
theorem d_M_nameAt_25 : decode (zb m_M_nameAt) 25 = .ok (.ireturn, 1) := zdal_p dlC_M_nameAt_93 (i := 15) rfl
theorem d_M_nameAt_26 : decode (zb m_M_nameAt) 26 = .ok (.iinc 1 1, 3) := zdal_p dlC_M_nameAt_93 (i := 16) rfl
theorem d_M_nameAt_29 : decode (zb m_M_nameAt) 29 = .ok (.goto (-27), 3) := zdal_p dlC_M_nameAt_93 (i := 17) rfl
theorem d_M_nameAt_32 : decode (zb m_M_nameAt) 32 = .ok (.iconst (-1), 1) := zdal_p dlC_M_nameAt_93 (i := 18) rfl
theorem d_M_nameAt_33 : decode (zb m_M_nameAt) 33 = .ok (.ireturn, 1) := zdal_p dlC_M_nameAt_93 (i := 19) rfl
theorem dlC_M_formula_94 : zdal (zb m_M_formula) [(0, (.aload_n 0, 1)), (1, (.iconst 0, 1)), (2, (.putfield 268, 3)), (5, (.aload_n 0, 1)), (6, (.iconst 0, 1)), (7, (.putfield 305, 3)), (10, (.aload_n 0, 1)), (11, (.iconst 0, 1)), (12, (.putfield 296, 3)), (15, (.aload_n 0, 1)), (16, (.iconst 0, 1)), (17, (.putfield 293, 3)), (20, (.aload_n 0, 1)), (21, (.iconst 0, 1)), (22, (.putfield 275, 3)), (25, (.iconst 1, 1)), (26, (.istore_n 1, 1)), (27, (.aload_n 0, 1)), (28, (.invokevirtual 183, 3)), (31, (.ifCond .eq 140, 3)), (34, (.iload_n 1, 1)), (35, (.ifCond .eq 136, 3)), (38, (.aload_n 0, 1)), (39, (.invokevirtual 183, 3))] = true := zDs 0 (by decide +kernel)
theorem d_M_formula_0 : decode (zb m_M_formula) 0 = .ok (.aload_n 0, 1) := zdal_p dlC_M_formula_94 (i := 0) rfl
theorem d_M_formula_1 : decode (zb m_M_formula) 1 = .ok (.iconst 0, 1) := zdal_p dlC_M_formula_94 (i := 1) rfl
theorem d_M_formula_2 : decode (zb m_M_formula) 2 = .ok (.putfield 268, 3) := zdal_p dlC_M_formula_94 (i := 2) rfl
theorem d_M_formula_5 : decode (zb m_M_formula) 5 = .ok (.aload_n 0, 1) := zdal_p dlC_M_formula_94 (i := 3) rfl
theorem d_M_formula_6 : decode (zb m_M_formula) 6 = .ok (.iconst 0, 1) := zdal_p dlC_M_formula_94 (i := 4) rfl
theorem d_M_formula_7 : decode (zb m_M_formula) 7 = .ok (.putfield 305, 3) := zdal_p dlC_M_formula_94 (i := 5) rfl
theorem d_M_formula_10 : decode (zb m_M_formula) 10 = .ok (.aload_n 0, 1) := zdal_p dlC_M_formula_94 (i := 6) rfl
theorem d_M_formula_11 : decode (zb m_M_formula) 11 = .ok (.iconst 0, 1) := zdal_p dlC_M_formula_94 (i := 7) rfl
theorem d_M_formula_12 : decode (zb m_M_formula) 12 = .ok (.putfield 296, 3) := zdal_p dlC_M_formula_94 (i := 8) rfl
theorem d_M_formula_15 : decode (zb m_M_formula) 15 = .ok (.aload_n 0, 1) := zdal_p dlC_M_formula_94 (i := 9) rfl
theorem d_M_formula_16 : decode (zb m_M_formula) 16 = .ok (.iconst 0, 1) := zdal_p dlC_M_formula_94 (i := 10) rfl
theorem d_M_formula_17 : decode (zb m_M_formula) 17 = .ok (.putfield 293, 3) := zdal_p dlC_M_formula_94 (i := 11) rfl
theorem d_M_formula_20 : decode (zb m_M_formula) 20 = .ok (.aload_n 0, 1) := zdal_p dlC_M_formula_94 (i := 12) rfl
theorem d_M_formula_21 : decode (zb m_M_formula) 21 = .ok (.iconst 0, 1) := zdal_p dlC_M_formula_94 (i := 13) rfl
theorem d_M_formula_22 : decode (zb m_M_formula) 22 = .ok (.putfield 275, 3) := zdal_p dlC_M_formula_94 (i := 14) rfl
theorem d_M_formula_25 : decode (zb m_M_formula) 25 = .ok (.iconst 1, 1) := zdal_p dlC_M_formula_94 (i := 15) rfl
theorem d_M_formula_26 : decode (zb m_M_formula) 26 = .ok (.istore_n 1, 1) := zdal_p dlC_M_formula_94 (i := 16) rfl
theorem d_M_formula_27 : decode (zb m_M_formula) 27 = .ok (.aload_n 0, 1) := zdal_p dlC_M_formula_94 (i := 17) rfl
theorem d_M_formula_28 : decode (zb m_M_formula) 28 = .ok (.invokevirtual 183, 3) := zdal_p dlC_M_formula_94 (i := 18) rfl
theorem d_M_formula_31 : decode (zb m_M_formula) 31 = .ok (.ifCond .eq 140, 3) := zdal_p dlC_M_formula_94 (i := 19) rfl
theorem d_M_formula_34 : decode (zb m_M_formula) 34 = .ok (.iload_n 1, 1) := zdal_p dlC_M_formula_94 (i := 20) rfl
theorem d_M_formula_35 : decode (zb m_M_formula) 35 = .ok (.ifCond .eq 136, 3) := zdal_p dlC_M_formula_94 (i := 21) rfl
theorem d_M_formula_38 : decode (zb m_M_formula) 38 = .ok (.aload_n 0, 1) := zdal_p dlC_M_formula_94 (i := 22) rfl
theorem d_M_formula_39 : decode (zb m_M_formula) 39 = .ok (.invokevirtual 183, 3) := zdal_p dlC_M_formula_94 (i := 23) rfl
theorem dlC_M_formula_95 : zdal (zb m_M_formula) [(42, (.ifCond .eq 15, 3)), (45, (.aload_n 0, 1)), (46, (.invokevirtual 343, 3)), (49, (.ifCond .ne 8, 3)), (52, (.iconst 1, 1)), (53, (.istore_n 1, 1)), (54, (.goto (-16), 3)), (57, (.aload_n 0, 1)), (58, (.invokevirtual 183, 3)), (61, (.ifCond .eq 7, 3)), (64, (.aload_n 0, 1)), (65, (.invokevirtual 346, 3)), (68, (.aload_n 0, 1)), (69, (.invokevirtual 183, 3)), (72, (.ifCond .eq 14, 3)), (75, (.aload_n 0, 1)), (76, (.invokevirtual 349, 3)), (79, (.ifCond .eq 7, 3)), (82, (.iconst 1, 1)), (83, (.goto 4, 3)), (86, (.iconst 0, 1)), (87, (.istore_n 1, 1)), (88, (.aload_n 0, 1)), (89, (.invokevirtual 183, 3))] = true := zDs 42 (by decide +kernel)
theorem d_M_formula_42 : decode (zb m_M_formula) 42 = .ok (.ifCond .eq 15, 3) := zdal_p dlC_M_formula_95 (i := 0) rfl
theorem d_M_formula_45 : decode (zb m_M_formula) 45 = .ok (.aload_n 0, 1) := zdal_p dlC_M_formula_95 (i := 1) rfl
theorem d_M_formula_46 : decode (zb m_M_formula) 46 = .ok (.invokevirtual 343, 3) := zdal_p dlC_M_formula_95 (i := 2) rfl
theorem d_M_formula_49 : decode (zb m_M_formula) 49 = .ok (.ifCond .ne 8, 3) := zdal_p dlC_M_formula_95 (i := 3) rfl
theorem d_M_formula_52 : decode (zb m_M_formula) 52 = .ok (.iconst 1, 1) := zdal_p dlC_M_formula_95 (i := 4) rfl
theorem d_M_formula_53 : decode (zb m_M_formula) 53 = .ok (.istore_n 1, 1) := zdal_p dlC_M_formula_95 (i := 5) rfl
theorem d_M_formula_54 : decode (zb m_M_formula) 54 = .ok (.goto (-16), 3) := zdal_p dlC_M_formula_95 (i := 6) rfl
theorem d_M_formula_57 : decode (zb m_M_formula) 57 = .ok (.aload_n 0, 1) := zdal_p dlC_M_formula_95 (i := 7) rfl
theorem d_M_formula_58 : decode (zb m_M_formula) 58 = .ok (.invokevirtual 183, 3) := zdal_p dlC_M_formula_95 (i := 8) rfl
theorem d_M_formula_61 : decode (zb m_M_formula) 61 = .ok (.ifCond .eq 7, 3) := zdal_p dlC_M_formula_95 (i := 9) rfl
theorem d_M_formula_64 : decode (zb m_M_formula) 64 = .ok (.aload_n 0, 1) := zdal_p dlC_M_formula_95 (i := 10) rfl
theorem d_M_formula_65 : decode (zb m_M_formula) 65 = .ok (.invokevirtual 346, 3) := zdal_p dlC_M_formula_95 (i := 11) rfl
theorem d_M_formula_68 : decode (zb m_M_formula) 68 = .ok (.aload_n 0, 1) := zdal_p dlC_M_formula_95 (i := 12) rfl
theorem d_M_formula_69 : decode (zb m_M_formula) 69 = .ok (.invokevirtual 183, 3) := zdal_p dlC_M_formula_95 (i := 13) rfl
theorem d_M_formula_72 : decode (zb m_M_formula) 72 = .ok (.ifCond .eq 14, 3) := zdal_p dlC_M_formula_95 (i := 14) rfl
theorem d_M_formula_75 : decode (zb m_M_formula) 75 = .ok (.aload_n 0, 1) := zdal_p dlC_M_formula_95 (i := 15) rfl
theorem d_M_formula_76 : decode (zb m_M_formula) 76 = .ok (.invokevirtual 349, 3) := zdal_p dlC_M_formula_95 (i := 16) rfl
theorem d_M_formula_79 : decode (zb m_M_formula) 79 = .ok (.ifCond .eq 7, 3) := zdal_p dlC_M_formula_95 (i := 17) rfl
theorem d_M_formula_82 : decode (zb m_M_formula) 82 = .ok (.iconst 1, 1) := zdal_p dlC_M_formula_95 (i := 18) rfl
theorem d_M_formula_83 : decode (zb m_M_formula) 83 = .ok (.goto 4, 3) := zdal_p dlC_M_formula_95 (i := 19) rfl
theorem d_M_formula_86 : decode (zb m_M_formula) 86 = .ok (.iconst 0, 1) := zdal_p dlC_M_formula_95 (i := 20) rfl
theorem d_M_formula_87 : decode (zb m_M_formula) 87 = .ok (.istore_n 1, 1) := zdal_p dlC_M_formula_95 (i := 21) rfl
theorem d_M_formula_88 : decode (zb m_M_formula) 88 = .ok (.aload_n 0, 1) := zdal_p dlC_M_formula_95 (i := 22) rfl
theorem d_M_formula_89 : decode (zb m_M_formula) 89 = .ok (.invokevirtual 183, 3) := zdal_p dlC_M_formula_95 (i := 23) rfl
theorem dlC_M_formula_96 : zdal (zb m_M_formula) [(92, (.ifCond .eq (-65), 3)), (95, (.iload_n 1, 1)), (96, (.ifCond .ne (-69), 3)), (99, (.aload_n 0, 1)), (100, (.bipush 41, 2)), (102, (.invokevirtual 187, 3)), (105, (.ifCond .eq (-78), 3)), (108, (.aload_n 0, 1)), (109, (.invokevirtual 352, 3)), (112, (.ifCond .eq (-85), 3)), (115, (.aload_n 0, 1)), (116, (.iconst 2, 1)), (117, (.invokevirtual 337, 3)), (120, (.aload_n 0, 1)), (121, (.dup, 1)), (122, (.getfield 305, 3)), (125, (.iconst 1, 1)), (126, (.isub, 1)), (127, (.putfield 305, 3)), (130, (.aload_n 0, 1)), (131, (.dup, 1)), (132, (.getfield 296, 3)), (135, (.iconst 1, 1)), (136, (.isub, 1))] = true := zDs 92 (by decide +kernel)
theorem d_M_formula_92 : decode (zb m_M_formula) 92 = .ok (.ifCond .eq (-65), 3) := zdal_p dlC_M_formula_96 (i := 0) rfl
theorem d_M_formula_95 : decode (zb m_M_formula) 95 = .ok (.iload_n 1, 1) := zdal_p dlC_M_formula_96 (i := 1) rfl
theorem d_M_formula_96 : decode (zb m_M_formula) 96 = .ok (.ifCond .ne (-69), 3) := zdal_p dlC_M_formula_96 (i := 2) rfl
theorem d_M_formula_99 : decode (zb m_M_formula) 99 = .ok (.aload_n 0, 1) := zdal_p dlC_M_formula_96 (i := 3) rfl
theorem d_M_formula_100 : decode (zb m_M_formula) 100 = .ok (.bipush 41, 2) := zdal_p dlC_M_formula_96 (i := 4) rfl
theorem d_M_formula_102 : decode (zb m_M_formula) 102 = .ok (.invokevirtual 187, 3) := zdal_p dlC_M_formula_96 (i := 5) rfl
theorem d_M_formula_105 : decode (zb m_M_formula) 105 = .ok (.ifCond .eq (-78), 3) := zdal_p dlC_M_formula_96 (i := 6) rfl
theorem d_M_formula_108 : decode (zb m_M_formula) 108 = .ok (.aload_n 0, 1) := zdal_p dlC_M_formula_96 (i := 7) rfl
theorem d_M_formula_109 : decode (zb m_M_formula) 109 = .ok (.invokevirtual 352, 3) := zdal_p dlC_M_formula_96 (i := 8) rfl
theorem d_M_formula_112 : decode (zb m_M_formula) 112 = .ok (.ifCond .eq (-85), 3) := zdal_p dlC_M_formula_96 (i := 9) rfl
theorem d_M_formula_115 : decode (zb m_M_formula) 115 = .ok (.aload_n 0, 1) := zdal_p dlC_M_formula_96 (i := 10) rfl
theorem d_M_formula_116 : decode (zb m_M_formula) 116 = .ok (.iconst 2, 1) := zdal_p dlC_M_formula_96 (i := 11) rfl
theorem d_M_formula_117 : decode (zb m_M_formula) 117 = .ok (.invokevirtual 337, 3) := zdal_p dlC_M_formula_96 (i := 12) rfl
theorem d_M_formula_120 : decode (zb m_M_formula) 120 = .ok (.aload_n 0, 1) := zdal_p dlC_M_formula_96 (i := 13) rfl
theorem d_M_formula_121 : decode (zb m_M_formula) 121 = .ok (.dup, 1) := zdal_p dlC_M_formula_96 (i := 14) rfl
theorem d_M_formula_122 : decode (zb m_M_formula) 122 = .ok (.getfield 305, 3) := zdal_p dlC_M_formula_96 (i := 15) rfl
theorem d_M_formula_125 : decode (zb m_M_formula) 125 = .ok (.iconst 1, 1) := zdal_p dlC_M_formula_96 (i := 16) rfl
theorem d_M_formula_126 : decode (zb m_M_formula) 126 = .ok (.isub, 1) := zdal_p dlC_M_formula_96 (i := 17) rfl
theorem d_M_formula_127 : decode (zb m_M_formula) 127 = .ok (.putfield 305, 3) := zdal_p dlC_M_formula_96 (i := 18) rfl
theorem d_M_formula_130 : decode (zb m_M_formula) 130 = .ok (.aload_n 0, 1) := zdal_p dlC_M_formula_96 (i := 19) rfl
theorem d_M_formula_131 : decode (zb m_M_formula) 131 = .ok (.dup, 1) := zdal_p dlC_M_formula_96 (i := 20) rfl
theorem d_M_formula_132 : decode (zb m_M_formula) 132 = .ok (.getfield 296, 3) := zdal_p dlC_M_formula_96 (i := 21) rfl
theorem d_M_formula_135 : decode (zb m_M_formula) 135 = .ok (.iconst 1, 1) := zdal_p dlC_M_formula_96 (i := 22) rfl
theorem d_M_formula_136 : decode (zb m_M_formula) 136 = .ok (.isub, 1) := zdal_p dlC_M_formula_96 (i := 23) rfl
theorem dlC_M_formula_97 : zdal (zb m_M_formula) [(137, (.putfield 296, 3)), (140, (.aload_n 0, 1)), (141, (.invokevirtual 193, 3)), (144, (.aload_n 0, 1)), (145, (.invokevirtual 346, 3)), (148, (.aload_n 0, 1)), (149, (.invokevirtual 183, 3)), (152, (.ifCond .eq 14, 3)), (155, (.aload_n 0, 1)), (156, (.invokevirtual 349, 3)), (159, (.ifCond .eq 7, 3)), (162, (.iconst 1, 1)), (163, (.goto 4, 3)), (166, (.iconst 0, 1)), (167, (.istore_n 1, 1)), (168, (.goto (-80), 3)), (171, (.aload_n 0, 1)), (172, (.invokevirtual 183, 3)), (175, (.ifCond .eq 15, 3)), (178, (.aload_n 0, 1)), (179, (.invokevirtual 352, 3)), (182, (.ifCond .eq 8, 3)), (185, (.aload_n 0, 1)), (186, (.iconst 2, 1))] = true := zDs 137 (by decide +kernel)
theorem d_M_formula_137 : decode (zb m_M_formula) 137 = .ok (.putfield 296, 3) := zdal_p dlC_M_formula_97 (i := 0) rfl
theorem d_M_formula_140 : decode (zb m_M_formula) 140 = .ok (.aload_n 0, 1) := zdal_p dlC_M_formula_97 (i := 1) rfl
theorem d_M_formula_141 : decode (zb m_M_formula) 141 = .ok (.invokevirtual 193, 3) := zdal_p dlC_M_formula_97 (i := 2) rfl
theorem d_M_formula_144 : decode (zb m_M_formula) 144 = .ok (.aload_n 0, 1) := zdal_p dlC_M_formula_97 (i := 3) rfl
theorem d_M_formula_145 : decode (zb m_M_formula) 145 = .ok (.invokevirtual 346, 3) := zdal_p dlC_M_formula_97 (i := 4) rfl
theorem d_M_formula_148 : decode (zb m_M_formula) 148 = .ok (.aload_n 0, 1) := zdal_p dlC_M_formula_97 (i := 5) rfl
theorem d_M_formula_149 : decode (zb m_M_formula) 149 = .ok (.invokevirtual 183, 3) := zdal_p dlC_M_formula_97 (i := 6) rfl
theorem d_M_formula_152 : decode (zb m_M_formula) 152 = .ok (.ifCond .eq 14, 3) := zdal_p dlC_M_formula_97 (i := 7) rfl
theorem d_M_formula_155 : decode (zb m_M_formula) 155 = .ok (.aload_n 0, 1) := zdal_p dlC_M_formula_97 (i := 8) rfl
theorem d_M_formula_156 : decode (zb m_M_formula) 156 = .ok (.invokevirtual 349, 3) := zdal_p dlC_M_formula_97 (i := 9) rfl
theorem d_M_formula_159 : decode (zb m_M_formula) 159 = .ok (.ifCond .eq 7, 3) := zdal_p dlC_M_formula_97 (i := 10) rfl
theorem d_M_formula_162 : decode (zb m_M_formula) 162 = .ok (.iconst 1, 1) := zdal_p dlC_M_formula_97 (i := 11) rfl
theorem d_M_formula_163 : decode (zb m_M_formula) 163 = .ok (.goto 4, 3) := zdal_p dlC_M_formula_97 (i := 12) rfl
theorem d_M_formula_166 : decode (zb m_M_formula) 166 = .ok (.iconst 0, 1) := zdal_p dlC_M_formula_97 (i := 13) rfl
theorem d_M_formula_167 : decode (zb m_M_formula) 167 = .ok (.istore_n 1, 1) := zdal_p dlC_M_formula_97 (i := 14) rfl
theorem d_M_formula_168 : decode (zb m_M_formula) 168 = .ok (.goto (-80), 3) := zdal_p dlC_M_formula_97 (i := 15) rfl
theorem d_M_formula_171 : decode (zb m_M_formula) 171 = .ok (.aload_n 0, 1) := zdal_p dlC_M_formula_97 (i := 16) rfl
theorem d_M_formula_172 : decode (zb m_M_formula) 172 = .ok (.invokevirtual 183, 3) := zdal_p dlC_M_formula_97 (i := 17) rfl
theorem d_M_formula_175 : decode (zb m_M_formula) 175 = .ok (.ifCond .eq 15, 3) := zdal_p dlC_M_formula_97 (i := 18) rfl
theorem d_M_formula_178 : decode (zb m_M_formula) 178 = .ok (.aload_n 0, 1) := zdal_p dlC_M_formula_97 (i := 19) rfl
theorem d_M_formula_179 : decode (zb m_M_formula) 179 = .ok (.invokevirtual 352, 3) := zdal_p dlC_M_formula_97 (i := 20) rfl
theorem d_M_formula_182 : decode (zb m_M_formula) 182 = .ok (.ifCond .eq 8, 3) := zdal_p dlC_M_formula_97 (i := 21) rfl
theorem d_M_formula_185 : decode (zb m_M_formula) 185 = .ok (.aload_n 0, 1) := zdal_p dlC_M_formula_97 (i := 22) rfl
theorem d_M_formula_186 : decode (zb m_M_formula) 186 = .ok (.iconst 2, 1) := zdal_p dlC_M_formula_97 (i := 23) rfl
theorem dlC_M_formula_98 : zdal (zb m_M_formula) [(187, (.invokevirtual 190, 3)), (190, (.aload_n 0, 1)), (191, (.invokevirtual 183, 3)), (194, (.ifCond .eq 8, 3)), (197, (.aload_n 0, 1)), (198, (.iconst 2, 1)), (199, (.invokevirtual 337, 3)), (202, (.return_, 1))] = true := zDs 187 (by decide +kernel)
theorem d_M_formula_187 : decode (zb m_M_formula) 187 = .ok (.invokevirtual 190, 3) := zdal_p dlC_M_formula_98 (i := 0) rfl
theorem d_M_formula_190 : decode (zb m_M_formula) 190 = .ok (.aload_n 0, 1) := zdal_p dlC_M_formula_98 (i := 1) rfl
theorem d_M_formula_191 : decode (zb m_M_formula) 191 = .ok (.invokevirtual 183, 3) := zdal_p dlC_M_formula_98 (i := 2) rfl
theorem d_M_formula_194 : decode (zb m_M_formula) 194 = .ok (.ifCond .eq 8, 3) := zdal_p dlC_M_formula_98 (i := 3) rfl
theorem d_M_formula_197 : decode (zb m_M_formula) 197 = .ok (.aload_n 0, 1) := zdal_p dlC_M_formula_98 (i := 4) rfl
theorem d_M_formula_198 : decode (zb m_M_formula) 198 = .ok (.iconst 2, 1) := zdal_p dlC_M_formula_98 (i := 5) rfl
theorem d_M_formula_199 : decode (zb m_M_formula) 199 = .ok (.invokevirtual 337, 3) := zdal_p dlC_M_formula_98 (i := 6) rfl
theorem d_M_formula_202 : decode (zb m_M_formula) 202 = .ok (.return_, 1) := zdal_p dlC_M_formula_98 (i := 7) rfl
theorem dlC_M_operand_99 : zdal (zb m_M_operand) [(0, (.aload_n 0, 1)), (1, (.bipush 45, 2)), (3, (.invokevirtual 187, 3)), (6, (.ifCond .ne 12, 3)), (9, (.aload_n 0, 1)), (10, (.bipush 40, 2)), (12, (.invokevirtual 187, 3)), (15, (.ifCond .eq 73, 3)), (18, (.aload_n 0, 1)), (19, (.getfield 152, 3)), (22, (.bipush 40, 2)), (24, (.if_icmp .ne 7, 3)), (27, (.iconst 1, 1)), (28, (.goto 4, 3)), (31, (.iconst 0, 1)), (32, (.istore_n 1, 1)), (33, (.aload_n 0, 1)), (34, (.invokevirtual 302, 3)), (37, (.aload_n 0, 1)), (38, (.getfield 72, 3)), (41, (.aload_n 0, 1)), (42, (.getfield 305, 3)), (45, (.iload_n 1, 1)), (46, (.ifCond .eq 7, 3))] = true := zDs 0 (by decide +kernel)
theorem d_M_operand_0 : decode (zb m_M_operand) 0 = .ok (.aload_n 0, 1) := zdal_p dlC_M_operand_99 (i := 0) rfl
theorem d_M_operand_1 : decode (zb m_M_operand) 1 = .ok (.bipush 45, 2) := zdal_p dlC_M_operand_99 (i := 1) rfl
theorem d_M_operand_3 : decode (zb m_M_operand) 3 = .ok (.invokevirtual 187, 3) := zdal_p dlC_M_operand_99 (i := 2) rfl
theorem d_M_operand_6 : decode (zb m_M_operand) 6 = .ok (.ifCond .ne 12, 3) := zdal_p dlC_M_operand_99 (i := 3) rfl
theorem d_M_operand_9 : decode (zb m_M_operand) 9 = .ok (.aload_n 0, 1) := zdal_p dlC_M_operand_99 (i := 4) rfl
theorem d_M_operand_10 : decode (zb m_M_operand) 10 = .ok (.bipush 40, 2) := zdal_p dlC_M_operand_99 (i := 5) rfl
theorem d_M_operand_12 : decode (zb m_M_operand) 12 = .ok (.invokevirtual 187, 3) := zdal_p dlC_M_operand_99 (i := 6) rfl
theorem d_M_operand_15 : decode (zb m_M_operand) 15 = .ok (.ifCond .eq 73, 3) := zdal_p dlC_M_operand_99 (i := 7) rfl
theorem d_M_operand_18 : decode (zb m_M_operand) 18 = .ok (.aload_n 0, 1) := zdal_p dlC_M_operand_99 (i := 8) rfl
theorem d_M_operand_19 : decode (zb m_M_operand) 19 = .ok (.getfield 152, 3) := zdal_p dlC_M_operand_99 (i := 9) rfl
theorem d_M_operand_22 : decode (zb m_M_operand) 22 = .ok (.bipush 40, 2) := zdal_p dlC_M_operand_99 (i := 10) rfl
theorem d_M_operand_24 : decode (zb m_M_operand) 24 = .ok (.if_icmp .ne 7, 3) := zdal_p dlC_M_operand_99 (i := 11) rfl
theorem d_M_operand_27 : decode (zb m_M_operand) 27 = .ok (.iconst 1, 1) := zdal_p dlC_M_operand_99 (i := 12) rfl
theorem d_M_operand_28 : decode (zb m_M_operand) 28 = .ok (.goto 4, 3) := zdal_p dlC_M_operand_99 (i := 13) rfl
theorem d_M_operand_31 : decode (zb m_M_operand) 31 = .ok (.iconst 0, 1) := zdal_p dlC_M_operand_99 (i := 14) rfl
theorem d_M_operand_32 : decode (zb m_M_operand) 32 = .ok (.istore_n 1, 1) := zdal_p dlC_M_operand_99 (i := 15) rfl
theorem d_M_operand_33 : decode (zb m_M_operand) 33 = .ok (.aload_n 0, 1) := zdal_p dlC_M_operand_99 (i := 16) rfl
theorem d_M_operand_34 : decode (zb m_M_operand) 34 = .ok (.invokevirtual 302, 3) := zdal_p dlC_M_operand_99 (i := 17) rfl
theorem d_M_operand_37 : decode (zb m_M_operand) 37 = .ok (.aload_n 0, 1) := zdal_p dlC_M_operand_99 (i := 18) rfl
theorem d_M_operand_38 : decode (zb m_M_operand) 38 = .ok (.getfield 72, 3) := zdal_p dlC_M_operand_99 (i := 19) rfl
theorem d_M_operand_41 : decode (zb m_M_operand) 41 = .ok (.aload_n 0, 1) := zdal_p dlC_M_operand_99 (i := 20) rfl
theorem d_M_operand_42 : decode (zb m_M_operand) 42 = .ok (.getfield 305, 3) := zdal_p dlC_M_operand_99 (i := 21) rfl
theorem d_M_operand_45 : decode (zb m_M_operand) 45 = .ok (.iload_n 1, 1) := zdal_p dlC_M_operand_99 (i := 22) rfl
theorem d_M_operand_46 : decode (zb m_M_operand) 46 = .ok (.ifCond .eq 7, 3) := zdal_p dlC_M_operand_99 (i := 23) rfl
theorem dlC_M_operand_100 : zdal (zb m_M_operand) [(49, (.iconst 0, 1)), (50, (.goto 4, 3)), (53, (.iconst 1, 1)), (54, (.iastore, 1)), (55, (.aload_n 0, 1)), (56, (.dup, 1)), (57, (.getfield 305, 3)), (60, (.iconst 1, 1)), (61, (.iadd, 1)), (62, (.putfield 305, 3)), (65, (.aload_n 0, 1)), (66, (.dup, 1)), (67, (.getfield 296, 3)), (70, (.iconst 1, 1)), (71, (.iadd, 1)), (72, (.putfield 296, 3)), (75, (.aload_n 0, 1)), (76, (.invokevirtual 183, 3)), (79, (.ifCond .eq 7, 3)), (82, (.aload_n 0, 1)), (83, (.invokevirtual 193, 3)), (86, (.iconst 0, 1)), (87, (.ireturn, 1)), (88, (.aload_n 0, 1))] = true := zDs 49 (by decide +kernel)
theorem d_M_operand_49 : decode (zb m_M_operand) 49 = .ok (.iconst 0, 1) := zdal_p dlC_M_operand_100 (i := 0) rfl
theorem d_M_operand_50 : decode (zb m_M_operand) 50 = .ok (.goto 4, 3) := zdal_p dlC_M_operand_100 (i := 1) rfl
theorem d_M_operand_53 : decode (zb m_M_operand) 53 = .ok (.iconst 1, 1) := zdal_p dlC_M_operand_100 (i := 2) rfl
theorem d_M_operand_54 : decode (zb m_M_operand) 54 = .ok (.iastore, 1) := zdal_p dlC_M_operand_100 (i := 3) rfl
theorem d_M_operand_55 : decode (zb m_M_operand) 55 = .ok (.aload_n 0, 1) := zdal_p dlC_M_operand_100 (i := 4) rfl
theorem d_M_operand_56 : decode (zb m_M_operand) 56 = .ok (.dup, 1) := zdal_p dlC_M_operand_100 (i := 5) rfl
theorem d_M_operand_57 : decode (zb m_M_operand) 57 = .ok (.getfield 305, 3) := zdal_p dlC_M_operand_100 (i := 6) rfl
theorem d_M_operand_60 : decode (zb m_M_operand) 60 = .ok (.iconst 1, 1) := zdal_p dlC_M_operand_100 (i := 7) rfl
theorem d_M_operand_61 : decode (zb m_M_operand) 61 = .ok (.iadd, 1) := zdal_p dlC_M_operand_100 (i := 8) rfl
theorem d_M_operand_62 : decode (zb m_M_operand) 62 = .ok (.putfield 305, 3) := zdal_p dlC_M_operand_100 (i := 9) rfl
theorem d_M_operand_65 : decode (zb m_M_operand) 65 = .ok (.aload_n 0, 1) := zdal_p dlC_M_operand_100 (i := 10) rfl
theorem d_M_operand_66 : decode (zb m_M_operand) 66 = .ok (.dup, 1) := zdal_p dlC_M_operand_100 (i := 11) rfl
theorem d_M_operand_67 : decode (zb m_M_operand) 67 = .ok (.getfield 296, 3) := zdal_p dlC_M_operand_100 (i := 12) rfl
theorem d_M_operand_70 : decode (zb m_M_operand) 70 = .ok (.iconst 1, 1) := zdal_p dlC_M_operand_100 (i := 13) rfl
theorem d_M_operand_71 : decode (zb m_M_operand) 71 = .ok (.iadd, 1) := zdal_p dlC_M_operand_100 (i := 14) rfl
theorem d_M_operand_72 : decode (zb m_M_operand) 72 = .ok (.putfield 296, 3) := zdal_p dlC_M_operand_100 (i := 15) rfl
theorem d_M_operand_75 : decode (zb m_M_operand) 75 = .ok (.aload_n 0, 1) := zdal_p dlC_M_operand_100 (i := 16) rfl
theorem d_M_operand_76 : decode (zb m_M_operand) 76 = .ok (.invokevirtual 183, 3) := zdal_p dlC_M_operand_100 (i := 17) rfl
theorem d_M_operand_79 : decode (zb m_M_operand) 79 = .ok (.ifCond .eq 7, 3) := zdal_p dlC_M_operand_100 (i := 18) rfl
theorem d_M_operand_82 : decode (zb m_M_operand) 82 = .ok (.aload_n 0, 1) := zdal_p dlC_M_operand_100 (i := 19) rfl
theorem d_M_operand_83 : decode (zb m_M_operand) 83 = .ok (.invokevirtual 193, 3) := zdal_p dlC_M_operand_100 (i := 20) rfl
theorem d_M_operand_86 : decode (zb m_M_operand) 86 = .ok (.iconst 0, 1) := zdal_p dlC_M_operand_100 (i := 21) rfl
theorem d_M_operand_87 : decode (zb m_M_operand) 87 = .ok (.ireturn, 1) := zdal_p dlC_M_operand_100 (i := 22) rfl
theorem d_M_operand_88 : decode (zb m_M_operand) 88 = .ok (.aload_n 0, 1) := zdal_p dlC_M_operand_100 (i := 23) rfl
theorem dlC_M_operand_101 : zdal (zb m_M_operand) [(89, (.invokevirtual 183, 3)), (92, (.ifCond .eq 33, 3)), (95, (.aload_n 0, 1)), (96, (.getfield 155, 3)), (99, (.iconst 2, 1)), (100, (.if_icmp .ne 25, 3)), (103, (.aload_n 0, 1)), (104, (.invokevirtual 302, 3)), (107, (.aload_n 0, 1)), (108, (.aload_n 0, 1)), (109, (.getfield 235, 3)), (112, (.iconst 1, 1)), (113, (.isub, 1)), (114, (.aload_n 0, 1)), (115, (.getfield 152, 3)), (118, (.i2l, 1)), (119, (.invokevirtual 308, 3)), (122, (.goto 189, 3)), (125, (.aload_n 0, 1)), (126, (.ldc2_w 181, 3)), (129, (.invokevirtual 312, 3)), (132, (.ifCond .eq 80, 3)), (135, (.aload_n 0, 1)), (136, (.invokevirtual 302, 3))] = true := zDs 89 (by decide +kernel)
theorem d_M_operand_89 : decode (zb m_M_operand) 89 = .ok (.invokevirtual 183, 3) := zdal_p dlC_M_operand_101 (i := 0) rfl
theorem d_M_operand_92 : decode (zb m_M_operand) 92 = .ok (.ifCond .eq 33, 3) := zdal_p dlC_M_operand_101 (i := 1) rfl
theorem d_M_operand_95 : decode (zb m_M_operand) 95 = .ok (.aload_n 0, 1) := zdal_p dlC_M_operand_101 (i := 2) rfl
theorem d_M_operand_96 : decode (zb m_M_operand) 96 = .ok (.getfield 155, 3) := zdal_p dlC_M_operand_101 (i := 3) rfl
theorem d_M_operand_99 : decode (zb m_M_operand) 99 = .ok (.iconst 2, 1) := zdal_p dlC_M_operand_101 (i := 4) rfl
theorem d_M_operand_100 : decode (zb m_M_operand) 100 = .ok (.if_icmp .ne 25, 3) := zdal_p dlC_M_operand_101 (i := 5) rfl
theorem d_M_operand_103 : decode (zb m_M_operand) 103 = .ok (.aload_n 0, 1) := zdal_p dlC_M_operand_101 (i := 6) rfl
theorem d_M_operand_104 : decode (zb m_M_operand) 104 = .ok (.invokevirtual 302, 3) := zdal_p dlC_M_operand_101 (i := 7) rfl
theorem d_M_operand_107 : decode (zb m_M_operand) 107 = .ok (.aload_n 0, 1) := zdal_p dlC_M_operand_101 (i := 8) rfl
theorem d_M_operand_108 : decode (zb m_M_operand) 108 = .ok (.aload_n 0, 1) := zdal_p dlC_M_operand_101 (i := 9) rfl
theorem d_M_operand_109 : decode (zb m_M_operand) 109 = .ok (.getfield 235, 3) := zdal_p dlC_M_operand_101 (i := 10) rfl
theorem d_M_operand_112 : decode (zb m_M_operand) 112 = .ok (.iconst 1, 1) := zdal_p dlC_M_operand_101 (i := 11) rfl
theorem d_M_operand_113 : decode (zb m_M_operand) 113 = .ok (.isub, 1) := zdal_p dlC_M_operand_101 (i := 12) rfl
theorem d_M_operand_114 : decode (zb m_M_operand) 114 = .ok (.aload_n 0, 1) := zdal_p dlC_M_operand_101 (i := 13) rfl
theorem d_M_operand_115 : decode (zb m_M_operand) 115 = .ok (.getfield 152, 3) := zdal_p dlC_M_operand_101 (i := 14) rfl
theorem d_M_operand_118 : decode (zb m_M_operand) 118 = .ok (.i2l, 1) := zdal_p dlC_M_operand_101 (i := 15) rfl
theorem d_M_operand_119 : decode (zb m_M_operand) 119 = .ok (.invokevirtual 308, 3) := zdal_p dlC_M_operand_101 (i := 16) rfl
theorem d_M_operand_122 : decode (zb m_M_operand) 122 = .ok (.goto 189, 3) := zdal_p dlC_M_operand_101 (i := 17) rfl
theorem d_M_operand_125 : decode (zb m_M_operand) 125 = .ok (.aload_n 0, 1) := zdal_p dlC_M_operand_101 (i := 18) rfl
theorem d_M_operand_126 : decode (zb m_M_operand) 126 = .ok (.ldc2_w 181, 3) := zdal_p dlC_M_operand_101 (i := 19) rfl
theorem d_M_operand_129 : decode (zb m_M_operand) 129 = .ok (.invokevirtual 312, 3) := zdal_p dlC_M_operand_101 (i := 20) rfl
theorem d_M_operand_132 : decode (zb m_M_operand) 132 = .ok (.ifCond .eq 80, 3) := zdal_p dlC_M_operand_101 (i := 21) rfl
theorem d_M_operand_135 : decode (zb m_M_operand) 135 = .ok (.aload_n 0, 1) := zdal_p dlC_M_operand_101 (i := 22) rfl
theorem d_M_operand_136 : decode (zb m_M_operand) 136 = .ok (.invokevirtual 302, 3) := zdal_p dlC_M_operand_101 (i := 23) rfl
theorem dlC_M_operand_102 : zdal (zb m_M_operand) [(139, (.aload_n 0, 1)), (140, (.invokevirtual 183, 3)), (143, (.ifCond .eq 7, 3)), (146, (.aload_n 0, 1)), (147, (.invokevirtual 193, 3)), (150, (.aload_n 0, 1)), (151, (.invokevirtual 183, 3)), (154, (.ifCond .eq 16, 3)), (157, (.aload_n 0, 1)), (158, (.getfield 155, 3)), (161, (.iconst 2, 1)), (162, (.if_icmp .eq 8, 3)), (165, (.aload_n 0, 1)), (166, (.iconst 2, 1)), (167, (.invokevirtual 190, 3)), (170, (.aload_n 0, 1)), (171, (.invokevirtual 183, 3)), (174, (.ifCond .eq 19, 3)), (177, (.aload_n 0, 1)), (178, (.getfield 152, 3)), (181, (.aload_n 0, 1)), (182, (.getfield 235, 3)), (185, (.if_icmp .lt 8, 3)), (188, (.aload_n 0, 1))] = true := zDs 139 (by decide +kernel)
theorem d_M_operand_139 : decode (zb m_M_operand) 139 = .ok (.aload_n 0, 1) := zdal_p dlC_M_operand_102 (i := 0) rfl
theorem d_M_operand_140 : decode (zb m_M_operand) 140 = .ok (.invokevirtual 183, 3) := zdal_p dlC_M_operand_102 (i := 1) rfl
theorem d_M_operand_143 : decode (zb m_M_operand) 143 = .ok (.ifCond .eq 7, 3) := zdal_p dlC_M_operand_102 (i := 2) rfl
theorem d_M_operand_146 : decode (zb m_M_operand) 146 = .ok (.aload_n 0, 1) := zdal_p dlC_M_operand_102 (i := 3) rfl
theorem d_M_operand_147 : decode (zb m_M_operand) 147 = .ok (.invokevirtual 193, 3) := zdal_p dlC_M_operand_102 (i := 4) rfl
theorem d_M_operand_150 : decode (zb m_M_operand) 150 = .ok (.aload_n 0, 1) := zdal_p dlC_M_operand_102 (i := 5) rfl
theorem d_M_operand_151 : decode (zb m_M_operand) 151 = .ok (.invokevirtual 183, 3) := zdal_p dlC_M_operand_102 (i := 6) rfl
theorem d_M_operand_154 : decode (zb m_M_operand) 154 = .ok (.ifCond .eq 16, 3) := zdal_p dlC_M_operand_102 (i := 7) rfl
theorem d_M_operand_157 : decode (zb m_M_operand) 157 = .ok (.aload_n 0, 1) := zdal_p dlC_M_operand_102 (i := 8) rfl
theorem d_M_operand_158 : decode (zb m_M_operand) 158 = .ok (.getfield 155, 3) := zdal_p dlC_M_operand_102 (i := 9) rfl
theorem d_M_operand_161 : decode (zb m_M_operand) 161 = .ok (.iconst 2, 1) := zdal_p dlC_M_operand_102 (i := 10) rfl
theorem d_M_operand_162 : decode (zb m_M_operand) 162 = .ok (.if_icmp .eq 8, 3) := zdal_p dlC_M_operand_102 (i := 11) rfl
theorem d_M_operand_165 : decode (zb m_M_operand) 165 = .ok (.aload_n 0, 1) := zdal_p dlC_M_operand_102 (i := 12) rfl
theorem d_M_operand_166 : decode (zb m_M_operand) 166 = .ok (.iconst 2, 1) := zdal_p dlC_M_operand_102 (i := 13) rfl
theorem d_M_operand_167 : decode (zb m_M_operand) 167 = .ok (.invokevirtual 190, 3) := zdal_p dlC_M_operand_102 (i := 14) rfl
theorem d_M_operand_170 : decode (zb m_M_operand) 170 = .ok (.aload_n 0, 1) := zdal_p dlC_M_operand_102 (i := 15) rfl
theorem d_M_operand_171 : decode (zb m_M_operand) 171 = .ok (.invokevirtual 183, 3) := zdal_p dlC_M_operand_102 (i := 16) rfl
theorem d_M_operand_174 : decode (zb m_M_operand) 174 = .ok (.ifCond .eq 19, 3) := zdal_p dlC_M_operand_102 (i := 17) rfl
theorem d_M_operand_177 : decode (zb m_M_operand) 177 = .ok (.aload_n 0, 1) := zdal_p dlC_M_operand_102 (i := 18) rfl
theorem d_M_operand_178 : decode (zb m_M_operand) 178 = .ok (.getfield 152, 3) := zdal_p dlC_M_operand_102 (i := 19) rfl
theorem d_M_operand_181 : decode (zb m_M_operand) 181 = .ok (.aload_n 0, 1) := zdal_p dlC_M_operand_102 (i := 20) rfl
theorem d_M_operand_182 : decode (zb m_M_operand) 182 = .ok (.getfield 235, 3) := zdal_p dlC_M_operand_102 (i := 21) rfl
theorem d_M_operand_185 : decode (zb m_M_operand) 185 = .ok (.if_icmp .lt 8, 3) := zdal_p dlC_M_operand_102 (i := 22) rfl
theorem d_M_operand_188 : decode (zb m_M_operand) 188 = .ok (.aload_n 0, 1) := zdal_p dlC_M_operand_102 (i := 23) rfl
theorem dlC_M_operand_103 : zdal (zb m_M_operand) [(189, (.iconst 4, 1)), (190, (.invokevirtual 190, 3)), (193, (.aload_n 0, 1)), (194, (.invokevirtual 183, 3)), (197, (.ifCond .eq 114, 3)), (200, (.aload_n 0, 1)), (201, (.aload_n 0, 1)), (202, (.getfield 152, 3)), (205, (.lconst 1, 1)), (206, (.invokevirtual 308, 3)), (209, (.goto 102, 3)), (212, (.aload_n 0, 1)), (213, (.invokevirtual 183, 3)), (216, (.ifCond .eq 90, 3)), (219, (.aload_n 0, 1)), (220, (.invokevirtual 316, 3)), (223, (.ifCond .eq 83, 3)), (226, (.aload_n 0, 1)), (227, (.invokevirtual 319, 3)), (230, (.istore_n 1, 1)), (231, (.iload_n 1, 1)), (232, (.iconst (-1), 1)), (233, (.if_icmp .ne 8, 3)), (236, (.aload_n 0, 1))] = true := zDs 189 (by decide +kernel)
theorem d_M_operand_189 : decode (zb m_M_operand) 189 = .ok (.iconst 4, 1) := zdal_p dlC_M_operand_103 (i := 0) rfl
theorem d_M_operand_190 : decode (zb m_M_operand) 190 = .ok (.invokevirtual 190, 3) := zdal_p dlC_M_operand_103 (i := 1) rfl
theorem d_M_operand_193 : decode (zb m_M_operand) 193 = .ok (.aload_n 0, 1) := zdal_p dlC_M_operand_103 (i := 2) rfl
theorem d_M_operand_194 : decode (zb m_M_operand) 194 = .ok (.invokevirtual 183, 3) := zdal_p dlC_M_operand_103 (i := 3) rfl
theorem d_M_operand_197 : decode (zb m_M_operand) 197 = .ok (.ifCond .eq 114, 3) := zdal_p dlC_M_operand_103 (i := 4) rfl
theorem d_M_operand_200 : decode (zb m_M_operand) 200 = .ok (.aload_n 0, 1) := zdal_p dlC_M_operand_103 (i := 5) rfl
theorem d_M_operand_201 : decode (zb m_M_operand) 201 = .ok (.aload_n 0, 1) := zdal_p dlC_M_operand_103 (i := 6) rfl
theorem d_M_operand_202 : decode (zb m_M_operand) 202 = .ok (.getfield 152, 3) := zdal_p dlC_M_operand_103 (i := 7) rfl
theorem d_M_operand_205 : decode (zb m_M_operand) 205 = .ok (.lconst 1, 1) := zdal_p dlC_M_operand_103 (i := 8) rfl
theorem d_M_operand_206 : decode (zb m_M_operand) 206 = .ok (.invokevirtual 308, 3) := zdal_p dlC_M_operand_103 (i := 9) rfl
theorem d_M_operand_209 : decode (zb m_M_operand) 209 = .ok (.goto 102, 3) := zdal_p dlC_M_operand_103 (i := 10) rfl
theorem d_M_operand_212 : decode (zb m_M_operand) 212 = .ok (.aload_n 0, 1) := zdal_p dlC_M_operand_103 (i := 11) rfl
theorem d_M_operand_213 : decode (zb m_M_operand) 213 = .ok (.invokevirtual 183, 3) := zdal_p dlC_M_operand_103 (i := 12) rfl
theorem d_M_operand_216 : decode (zb m_M_operand) 216 = .ok (.ifCond .eq 90, 3) := zdal_p dlC_M_operand_103 (i := 13) rfl
theorem d_M_operand_219 : decode (zb m_M_operand) 219 = .ok (.aload_n 0, 1) := zdal_p dlC_M_operand_103 (i := 14) rfl
theorem d_M_operand_220 : decode (zb m_M_operand) 220 = .ok (.invokevirtual 316, 3) := zdal_p dlC_M_operand_103 (i := 15) rfl
theorem d_M_operand_223 : decode (zb m_M_operand) 223 = .ok (.ifCond .eq 83, 3) := zdal_p dlC_M_operand_103 (i := 16) rfl
theorem d_M_operand_226 : decode (zb m_M_operand) 226 = .ok (.aload_n 0, 1) := zdal_p dlC_M_operand_103 (i := 17) rfl
theorem d_M_operand_227 : decode (zb m_M_operand) 227 = .ok (.invokevirtual 319, 3) := zdal_p dlC_M_operand_103 (i := 18) rfl
theorem d_M_operand_230 : decode (zb m_M_operand) 230 = .ok (.istore_n 1, 1) := zdal_p dlC_M_operand_103 (i := 19) rfl
theorem d_M_operand_231 : decode (zb m_M_operand) 231 = .ok (.iload_n 1, 1) := zdal_p dlC_M_operand_103 (i := 20) rfl
theorem d_M_operand_232 : decode (zb m_M_operand) 232 = .ok (.iconst (-1), 1) := zdal_p dlC_M_operand_103 (i := 21) rfl
theorem d_M_operand_233 : decode (zb m_M_operand) 233 = .ok (.if_icmp .ne 8, 3) := zdal_p dlC_M_operand_103 (i := 22) rfl
theorem d_M_operand_236 : decode (zb m_M_operand) 236 = .ok (.aload_n 0, 1) := zdal_p dlC_M_operand_103 (i := 23) rfl
theorem dlC_M_operand_104 : zdal (zb m_M_operand) [(237, (.iconst 3, 1)), (238, (.invokevirtual 190, 3)), (241, (.aload_n 0, 1)), (242, (.invokevirtual 302, 3)), (245, (.aload_n 0, 1)), (246, (.invokevirtual 183, 3)), (249, (.ifCond .eq 54, 3)), (252, (.iconst 0, 1)), (253, (.istore_n 2, 1)), (254, (.iload_n 2, 1)), (255, (.aload_n 0, 1)), (256, (.getfield 235, 3)), (259, (.if_icmp .ge 34, 3)), (262, (.aload_n 0, 1)), (263, (.getfield 56, 3)), (266, (.bipush 64, 2)), (268, (.aload_n 0, 1)), (269, (.getfield 268, 3)), (272, (.imul, 1)), (273, (.iload_n 2, 1)), (274, (.iadd, 1)), (275, (.aload_n 0, 1)), (276, (.getfield 78, 3)), (279, (.bipush 64, 2))] = true := zDs 237 (by decide +kernel)
theorem d_M_operand_237 : decode (zb m_M_operand) 237 = .ok (.iconst 3, 1) := zdal_p dlC_M_operand_104 (i := 0) rfl
theorem d_M_operand_238 : decode (zb m_M_operand) 238 = .ok (.invokevirtual 190, 3) := zdal_p dlC_M_operand_104 (i := 1) rfl
theorem d_M_operand_241 : decode (zb m_M_operand) 241 = .ok (.aload_n 0, 1) := zdal_p dlC_M_operand_104 (i := 2) rfl
theorem d_M_operand_242 : decode (zb m_M_operand) 242 = .ok (.invokevirtual 302, 3) := zdal_p dlC_M_operand_104 (i := 3) rfl
theorem d_M_operand_245 : decode (zb m_M_operand) 245 = .ok (.aload_n 0, 1) := zdal_p dlC_M_operand_104 (i := 4) rfl
theorem d_M_operand_246 : decode (zb m_M_operand) 246 = .ok (.invokevirtual 183, 3) := zdal_p dlC_M_operand_104 (i := 5) rfl
theorem d_M_operand_249 : decode (zb m_M_operand) 249 = .ok (.ifCond .eq 54, 3) := zdal_p dlC_M_operand_104 (i := 6) rfl
theorem d_M_operand_252 : decode (zb m_M_operand) 252 = .ok (.iconst 0, 1) := zdal_p dlC_M_operand_104 (i := 7) rfl
theorem d_M_operand_253 : decode (zb m_M_operand) 253 = .ok (.istore_n 2, 1) := zdal_p dlC_M_operand_104 (i := 8) rfl
theorem d_M_operand_254 : decode (zb m_M_operand) 254 = .ok (.iload_n 2, 1) := zdal_p dlC_M_operand_104 (i := 9) rfl
theorem d_M_operand_255 : decode (zb m_M_operand) 255 = .ok (.aload_n 0, 1) := zdal_p dlC_M_operand_104 (i := 10) rfl
theorem d_M_operand_256 : decode (zb m_M_operand) 256 = .ok (.getfield 235, 3) := zdal_p dlC_M_operand_104 (i := 11) rfl
theorem d_M_operand_259 : decode (zb m_M_operand) 259 = .ok (.if_icmp .ge 34, 3) := zdal_p dlC_M_operand_104 (i := 12) rfl
theorem d_M_operand_262 : decode (zb m_M_operand) 262 = .ok (.aload_n 0, 1) := zdal_p dlC_M_operand_104 (i := 13) rfl
theorem d_M_operand_263 : decode (zb m_M_operand) 263 = .ok (.getfield 56, 3) := zdal_p dlC_M_operand_104 (i := 14) rfl
theorem d_M_operand_266 : decode (zb m_M_operand) 266 = .ok (.bipush 64, 2) := zdal_p dlC_M_operand_104 (i := 15) rfl
theorem d_M_operand_268 : decode (zb m_M_operand) 268 = .ok (.aload_n 0, 1) := zdal_p dlC_M_operand_104 (i := 16) rfl
theorem d_M_operand_269 : decode (zb m_M_operand) 269 = .ok (.getfield 268, 3) := zdal_p dlC_M_operand_104 (i := 17) rfl
theorem d_M_operand_272 : decode (zb m_M_operand) 272 = .ok (.imul, 1) := zdal_p dlC_M_operand_104 (i := 18) rfl
theorem d_M_operand_273 : decode (zb m_M_operand) 273 = .ok (.iload_n 2, 1) := zdal_p dlC_M_operand_104 (i := 19) rfl
theorem d_M_operand_274 : decode (zb m_M_operand) 274 = .ok (.iadd, 1) := zdal_p dlC_M_operand_104 (i := 20) rfl
theorem d_M_operand_275 : decode (zb m_M_operand) 275 = .ok (.aload_n 0, 1) := zdal_p dlC_M_operand_104 (i := 21) rfl
theorem d_M_operand_276 : decode (zb m_M_operand) 276 = .ok (.getfield 78, 3) := zdal_p dlC_M_operand_104 (i := 22) rfl
theorem d_M_operand_279 : decode (zb m_M_operand) 279 = .ok (.bipush 64, 2) := zdal_p dlC_M_operand_104 (i := 23) rfl
theorem dlC_M_operand_105 : zdal (zb m_M_operand) [(281, (.iload_n 1, 1)), (282, (.imul, 1)), (283, (.iload_n 2, 1)), (284, (.iadd, 1)), (285, (.laload, 1)), (286, (.lastore, 1)), (287, (.iinc 2 1, 3)), (290, (.goto (-36), 3)), (293, (.aload_n 0, 1)), (294, (.dup, 1)), (295, (.getfield 268, 3)), (298, (.iconst 1, 1)), (299, (.iadd, 1)), (300, (.putfield 268, 3)), (303, (.goto 8, 3)), (306, (.aload_n 0, 1)), (307, (.iconst 2, 1)), (308, (.invokevirtual 190, 3)), (311, (.aload_n 0, 1)), (312, (.invokevirtual 183, 3)), (315, (.ifCond .eq 7, 3)), (318, (.aload_n 0, 1)), (319, (.invokevirtual 193, 3)), (322, (.iconst 1, 1))] = true := zDs 281 (by decide +kernel)
theorem d_M_operand_281 : decode (zb m_M_operand) 281 = .ok (.iload_n 1, 1) := zdal_p dlC_M_operand_105 (i := 0) rfl
theorem d_M_operand_282 : decode (zb m_M_operand) 282 = .ok (.imul, 1) := zdal_p dlC_M_operand_105 (i := 1) rfl
theorem d_M_operand_283 : decode (zb m_M_operand) 283 = .ok (.iload_n 2, 1) := zdal_p dlC_M_operand_105 (i := 2) rfl
theorem d_M_operand_284 : decode (zb m_M_operand) 284 = .ok (.iadd, 1) := zdal_p dlC_M_operand_105 (i := 3) rfl
theorem d_M_operand_285 : decode (zb m_M_operand) 285 = .ok (.laload, 1) := zdal_p dlC_M_operand_105 (i := 4) rfl
theorem d_M_operand_286 : decode (zb m_M_operand) 286 = .ok (.lastore, 1) := zdal_p dlC_M_operand_105 (i := 5) rfl
theorem d_M_operand_287 : decode (zb m_M_operand) 287 = .ok (.iinc 2 1, 3) := zdal_p dlC_M_operand_105 (i := 6) rfl
theorem d_M_operand_290 : decode (zb m_M_operand) 290 = .ok (.goto (-36), 3) := zdal_p dlC_M_operand_105 (i := 7) rfl
theorem d_M_operand_293 : decode (zb m_M_operand) 293 = .ok (.aload_n 0, 1) := zdal_p dlC_M_operand_105 (i := 8) rfl
theorem d_M_operand_294 : decode (zb m_M_operand) 294 = .ok (.dup, 1) := zdal_p dlC_M_operand_105 (i := 9) rfl
theorem d_M_operand_295 : decode (zb m_M_operand) 295 = .ok (.getfield 268, 3) := zdal_p dlC_M_operand_105 (i := 10) rfl
theorem d_M_operand_298 : decode (zb m_M_operand) 298 = .ok (.iconst 1, 1) := zdal_p dlC_M_operand_105 (i := 11) rfl
theorem d_M_operand_299 : decode (zb m_M_operand) 299 = .ok (.iadd, 1) := zdal_p dlC_M_operand_105 (i := 12) rfl
theorem d_M_operand_300 : decode (zb m_M_operand) 300 = .ok (.putfield 268, 3) := zdal_p dlC_M_operand_105 (i := 13) rfl
theorem d_M_operand_303 : decode (zb m_M_operand) 303 = .ok (.goto 8, 3) := zdal_p dlC_M_operand_105 (i := 14) rfl
theorem d_M_operand_306 : decode (zb m_M_operand) 306 = .ok (.aload_n 0, 1) := zdal_p dlC_M_operand_105 (i := 15) rfl
theorem d_M_operand_307 : decode (zb m_M_operand) 307 = .ok (.iconst 2, 1) := zdal_p dlC_M_operand_105 (i := 16) rfl
theorem d_M_operand_308 : decode (zb m_M_operand) 308 = .ok (.invokevirtual 190, 3) := zdal_p dlC_M_operand_105 (i := 17) rfl
theorem d_M_operand_311 : decode (zb m_M_operand) 311 = .ok (.aload_n 0, 1) := zdal_p dlC_M_operand_105 (i := 18) rfl
theorem d_M_operand_312 : decode (zb m_M_operand) 312 = .ok (.invokevirtual 183, 3) := zdal_p dlC_M_operand_105 (i := 19) rfl
theorem d_M_operand_315 : decode (zb m_M_operand) 315 = .ok (.ifCond .eq 7, 3) := zdal_p dlC_M_operand_105 (i := 20) rfl
theorem d_M_operand_318 : decode (zb m_M_operand) 318 = .ok (.aload_n 0, 1) := zdal_p dlC_M_operand_105 (i := 21) rfl
theorem d_M_operand_319 : decode (zb m_M_operand) 319 = .ok (.invokevirtual 193, 3) := zdal_p dlC_M_operand_105 (i := 22) rfl
theorem d_M_operand_322 : decode (zb m_M_operand) 322 = .ok (.iconst 1, 1) := zdal_p dlC_M_operand_105 (i := 23) rfl
theorem dlC_M_operand_106 : zdal (zb m_M_operand) [(323, (.ireturn, 1))] = true := zDs 323 (by decide +kernel)
theorem d_M_operand_323 : decode (zb m_M_operand) 323 = .ok (.ireturn, 1) := zdal_p dlC_M_operand_106 (i := 0) rfl
theorem dlC_M_countsUnit_107 : zdal (zb m_M_countsUnit) [(0, (.aload_n 0, 1)), (1, (.invokevirtual 183, 3)), (4, (.ifCond .eq 26, 3)), (7, (.aload_n 0, 1)), (8, (.getfield 293, 3)), (11, (.bipush 30, 2)), (13, (.if_icmp .eq 12, 3)), (16, (.aload_n 0, 1)), (17, (.getfield 296, 3)), (20, (.bipush 6, 2)), (22, (.if_icmp .le 8, 3)), (25, (.aload_n 0, 1)), (26, (.iconst 5, 1)), (27, (.invokevirtual 190, 3)), (30, (.aload_n 0, 1)), (31, (.dup, 1)), (32, (.getfield 293, 3)), (35, (.iconst 1, 1)), (36, (.iadd, 1)), (37, (.putfield 293, 3)), (40, (.return_, 1))] = true := zDs 0 (by decide +kernel)
theorem d_M_countsUnit_0 : decode (zb m_M_countsUnit) 0 = .ok (.aload_n 0, 1) := zdal_p dlC_M_countsUnit_107 (i := 0) rfl
theorem d_M_countsUnit_1 : decode (zb m_M_countsUnit) 1 = .ok (.invokevirtual 183, 3) := zdal_p dlC_M_countsUnit_107 (i := 1) rfl
theorem d_M_countsUnit_4 : decode (zb m_M_countsUnit) 4 = .ok (.ifCond .eq 26, 3) := zdal_p dlC_M_countsUnit_107 (i := 2) rfl
theorem d_M_countsUnit_7 : decode (zb m_M_countsUnit) 7 = .ok (.aload_n 0, 1) := zdal_p dlC_M_countsUnit_107 (i := 3) rfl
theorem d_M_countsUnit_8 : decode (zb m_M_countsUnit) 8 = .ok (.getfield 293, 3) := zdal_p dlC_M_countsUnit_107 (i := 4) rfl
theorem d_M_countsUnit_11 : decode (zb m_M_countsUnit) 11 = .ok (.bipush 30, 2) := zdal_p dlC_M_countsUnit_107 (i := 5) rfl
theorem d_M_countsUnit_13 : decode (zb m_M_countsUnit) 13 = .ok (.if_icmp .eq 12, 3) := zdal_p dlC_M_countsUnit_107 (i := 6) rfl
theorem d_M_countsUnit_16 : decode (zb m_M_countsUnit) 16 = .ok (.aload_n 0, 1) := zdal_p dlC_M_countsUnit_107 (i := 7) rfl
theorem d_M_countsUnit_17 : decode (zb m_M_countsUnit) 17 = .ok (.getfield 296, 3) := zdal_p dlC_M_countsUnit_107 (i := 8) rfl
theorem d_M_countsUnit_20 : decode (zb m_M_countsUnit) 20 = .ok (.bipush 6, 2) := zdal_p dlC_M_countsUnit_107 (i := 9) rfl
theorem d_M_countsUnit_22 : decode (zb m_M_countsUnit) 22 = .ok (.if_icmp .le 8, 3) := zdal_p dlC_M_countsUnit_107 (i := 10) rfl
theorem d_M_countsUnit_25 : decode (zb m_M_countsUnit) 25 = .ok (.aload_n 0, 1) := zdal_p dlC_M_countsUnit_107 (i := 11) rfl
theorem d_M_countsUnit_26 : decode (zb m_M_countsUnit) 26 = .ok (.iconst 5, 1) := zdal_p dlC_M_countsUnit_107 (i := 12) rfl
theorem d_M_countsUnit_27 : decode (zb m_M_countsUnit) 27 = .ok (.invokevirtual 190, 3) := zdal_p dlC_M_countsUnit_107 (i := 13) rfl
theorem d_M_countsUnit_30 : decode (zb m_M_countsUnit) 30 = .ok (.aload_n 0, 1) := zdal_p dlC_M_countsUnit_107 (i := 14) rfl
theorem d_M_countsUnit_31 : decode (zb m_M_countsUnit) 31 = .ok (.dup, 1) := zdal_p dlC_M_countsUnit_107 (i := 15) rfl
theorem d_M_countsUnit_32 : decode (zb m_M_countsUnit) 32 = .ok (.getfield 293, 3) := zdal_p dlC_M_countsUnit_107 (i := 16) rfl
theorem d_M_countsUnit_35 : decode (zb m_M_countsUnit) 35 = .ok (.iconst 1, 1) := zdal_p dlC_M_countsUnit_107 (i := 17) rfl
theorem d_M_countsUnit_36 : decode (zb m_M_countsUnit) 36 = .ok (.iadd, 1) := zdal_p dlC_M_countsUnit_107 (i := 18) rfl
theorem d_M_countsUnit_37 : decode (zb m_M_countsUnit) 37 = .ok (.putfield 293, 3) := zdal_p dlC_M_countsUnit_107 (i := 19) rfl
theorem d_M_countsUnit_40 : decode (zb m_M_countsUnit) 40 = .ok (.return_, 1) := zdal_p dlC_M_countsUnit_107 (i := 20) rfl
theorem dlC_M_lays_108 : zdal (zb m_M_lays) [(0, (.iconst 0, 1)), (1, (.istore 4, 2)), (3, (.iload 4, 2)), (5, (.aload_n 0, 1)), (6, (.getfield 235, 3)), (9, (.if_icmp .ge 35, 3)), (12, (.aload_n 0, 1)), (13, (.getfield 56, 3)), (16, (.bipush 64, 2)), (18, (.aload_n 0, 1)), (19, (.getfield 268, 3)), (22, (.imul, 1)), (23, (.iload 4, 2)), (25, (.iadd, 1)), (26, (.iload 4, 2)), (28, (.iload_n 1, 1)), (29, (.if_icmp .ne 7, 3)), (32, (.lload_n 2, 1)), (33, (.goto 4, 3)), (36, (.lconst 0, 1)), (37, (.lastore, 1)), (38, (.iinc 4 1, 3)), (41, (.goto (-38), 3)), (44, (.aload_n 0, 1))] = true := zDs 0 (by decide +kernel)
theorem d_M_lays_0 : decode (zb m_M_lays) 0 = .ok (.iconst 0, 1) := zdal_p dlC_M_lays_108 (i := 0) rfl
theorem d_M_lays_1 : decode (zb m_M_lays) 1 = .ok (.istore 4, 2) := zdal_p dlC_M_lays_108 (i := 1) rfl
theorem d_M_lays_3 : decode (zb m_M_lays) 3 = .ok (.iload 4, 2) := zdal_p dlC_M_lays_108 (i := 2) rfl
theorem d_M_lays_5 : decode (zb m_M_lays) 5 = .ok (.aload_n 0, 1) := zdal_p dlC_M_lays_108 (i := 3) rfl
theorem d_M_lays_6 : decode (zb m_M_lays) 6 = .ok (.getfield 235, 3) := zdal_p dlC_M_lays_108 (i := 4) rfl
theorem d_M_lays_9 : decode (zb m_M_lays) 9 = .ok (.if_icmp .ge 35, 3) := zdal_p dlC_M_lays_108 (i := 5) rfl
theorem d_M_lays_12 : decode (zb m_M_lays) 12 = .ok (.aload_n 0, 1) := zdal_p dlC_M_lays_108 (i := 6) rfl
theorem d_M_lays_13 : decode (zb m_M_lays) 13 = .ok (.getfield 56, 3) := zdal_p dlC_M_lays_108 (i := 7) rfl
theorem d_M_lays_16 : decode (zb m_M_lays) 16 = .ok (.bipush 64, 2) := zdal_p dlC_M_lays_108 (i := 8) rfl
theorem d_M_lays_18 : decode (zb m_M_lays) 18 = .ok (.aload_n 0, 1) := zdal_p dlC_M_lays_108 (i := 9) rfl
theorem d_M_lays_19 : decode (zb m_M_lays) 19 = .ok (.getfield 268, 3) := zdal_p dlC_M_lays_108 (i := 10) rfl
theorem d_M_lays_22 : decode (zb m_M_lays) 22 = .ok (.imul, 1) := zdal_p dlC_M_lays_108 (i := 11) rfl
theorem d_M_lays_23 : decode (zb m_M_lays) 23 = .ok (.iload 4, 2) := zdal_p dlC_M_lays_108 (i := 12) rfl
theorem d_M_lays_25 : decode (zb m_M_lays) 25 = .ok (.iadd, 1) := zdal_p dlC_M_lays_108 (i := 13) rfl
theorem d_M_lays_26 : decode (zb m_M_lays) 26 = .ok (.iload 4, 2) := zdal_p dlC_M_lays_108 (i := 14) rfl
theorem d_M_lays_28 : decode (zb m_M_lays) 28 = .ok (.iload_n 1, 1) := zdal_p dlC_M_lays_108 (i := 15) rfl
theorem d_M_lays_29 : decode (zb m_M_lays) 29 = .ok (.if_icmp .ne 7, 3) := zdal_p dlC_M_lays_108 (i := 16) rfl
theorem d_M_lays_32 : decode (zb m_M_lays) 32 = .ok (.lload_n 2, 1) := zdal_p dlC_M_lays_108 (i := 17) rfl
theorem d_M_lays_33 : decode (zb m_M_lays) 33 = .ok (.goto 4, 3) := zdal_p dlC_M_lays_108 (i := 18) rfl
theorem d_M_lays_36 : decode (zb m_M_lays) 36 = .ok (.lconst 0, 1) := zdal_p dlC_M_lays_108 (i := 19) rfl
theorem d_M_lays_37 : decode (zb m_M_lays) 37 = .ok (.lastore, 1) := zdal_p dlC_M_lays_108 (i := 20) rfl
theorem d_M_lays_38 : decode (zb m_M_lays) 38 = .ok (.iinc 4 1, 3) := zdal_p dlC_M_lays_108 (i := 21) rfl
theorem d_M_lays_41 : decode (zb m_M_lays) 41 = .ok (.goto (-38), 3) := zdal_p dlC_M_lays_108 (i := 22) rfl
theorem d_M_lays_44 : decode (zb m_M_lays) 44 = .ok (.aload_n 0, 1) := zdal_p dlC_M_lays_108 (i := 23) rfl
theorem dlC_M_lays_109 : zdal (zb m_M_lays) [(45, (.dup, 1)), (46, (.getfield 268, 3)), (49, (.iconst 1, 1)), (50, (.iadd, 1)), (51, (.putfield 268, 3)), (54, (.aload_n 0, 1)), (55, (.invokevirtual 279, 3)), (58, (.return_, 1))] = true := zDs 45 (by decide +kernel)
theorem d_M_lays_45 : decode (zb m_M_lays) 45 = .ok (.dup, 1) := zdal_p dlC_M_lays_109 (i := 0) rfl
theorem d_M_lays_46 : decode (zb m_M_lays) 46 = .ok (.getfield 268, 3) := zdal_p dlC_M_lays_109 (i := 1) rfl
theorem d_M_lays_49 : decode (zb m_M_lays) 49 = .ok (.iconst 1, 1) := zdal_p dlC_M_lays_109 (i := 2) rfl
theorem d_M_lays_50 : decode (zb m_M_lays) 50 = .ok (.iadd, 1) := zdal_p dlC_M_lays_109 (i := 3) rfl
theorem d_M_lays_51 : decode (zb m_M_lays) 51 = .ok (.putfield 268, 3) := zdal_p dlC_M_lays_109 (i := 4) rfl
theorem d_M_lays_54 : decode (zb m_M_lays) 54 = .ok (.aload_n 0, 1) := zdal_p dlC_M_lays_109 (i := 5) rfl
theorem d_M_lays_55 : decode (zb m_M_lays) 55 = .ok (.invokevirtual 279, 3) := zdal_p dlC_M_lays_109 (i := 6) rfl
theorem d_M_lays_58 : decode (zb m_M_lays) 58 = .ok (.return_, 1) := zdal_p dlC_M_lays_109 (i := 7) rfl
theorem dlC_M_looks_110 : zdal (zb m_M_looks) [(0, (.aload_n 0, 1)), (1, (.aload_n 0, 1)), (2, (.getfield 56, 3)), (5, (.bipush 64, 2)), (7, (.aload_n 0, 1)), (8, (.getfield 268, 3)), (11, (.iconst 1, 1)), (12, (.isub, 1)), (13, (.imul, 1)), (14, (.invokevirtual 271, 3)), (17, (.ifCond .eq 4, 3)), (20, (.return_, 1)), (21, (.aload_n 0, 1)), (22, (.iconst 1, 1)), (23, (.putfield 275, 3)), (26, (.iconst 0, 1)), (27, (.istore_n 1, 1)), (28, (.iload_n 1, 1)), (29, (.aload_n 0, 1)), (30, (.getfield 235, 3)), (33, (.if_icmp .ge 26, 3)), (36, (.aload_n 0, 1)), (37, (.getfield 56, 3)), (40, (.bipush 64, 2))] = true := zDs 0 (by decide +kernel)
theorem d_M_looks_0 : decode (zb m_M_looks) 0 = .ok (.aload_n 0, 1) := zdal_p dlC_M_looks_110 (i := 0) rfl
theorem d_M_looks_1 : decode (zb m_M_looks) 1 = .ok (.aload_n 0, 1) := zdal_p dlC_M_looks_110 (i := 1) rfl
theorem d_M_looks_2 : decode (zb m_M_looks) 2 = .ok (.getfield 56, 3) := zdal_p dlC_M_looks_110 (i := 2) rfl
theorem d_M_looks_5 : decode (zb m_M_looks) 5 = .ok (.bipush 64, 2) := zdal_p dlC_M_looks_110 (i := 3) rfl
theorem d_M_looks_7 : decode (zb m_M_looks) 7 = .ok (.aload_n 0, 1) := zdal_p dlC_M_looks_110 (i := 4) rfl
theorem d_M_looks_8 : decode (zb m_M_looks) 8 = .ok (.getfield 268, 3) := zdal_p dlC_M_looks_110 (i := 5) rfl
theorem d_M_looks_11 : decode (zb m_M_looks) 11 = .ok (.iconst 1, 1) := zdal_p dlC_M_looks_110 (i := 6) rfl
theorem d_M_looks_12 : decode (zb m_M_looks) 12 = .ok (.isub, 1) := zdal_p dlC_M_looks_110 (i := 7) rfl
theorem d_M_looks_13 : decode (zb m_M_looks) 13 = .ok (.imul, 1) := zdal_p dlC_M_looks_110 (i := 8) rfl
theorem d_M_looks_14 : decode (zb m_M_looks) 14 = .ok (.invokevirtual 271, 3) := zdal_p dlC_M_looks_110 (i := 9) rfl
theorem d_M_looks_17 : decode (zb m_M_looks) 17 = .ok (.ifCond .eq 4, 3) := zdal_p dlC_M_looks_110 (i := 10) rfl
theorem d_M_looks_20 : decode (zb m_M_looks) 20 = .ok (.return_, 1) := zdal_p dlC_M_looks_110 (i := 11) rfl
theorem d_M_looks_21 : decode (zb m_M_looks) 21 = .ok (.aload_n 0, 1) := zdal_p dlC_M_looks_110 (i := 12) rfl
theorem d_M_looks_22 : decode (zb m_M_looks) 22 = .ok (.iconst 1, 1) := zdal_p dlC_M_looks_110 (i := 13) rfl
theorem d_M_looks_23 : decode (zb m_M_looks) 23 = .ok (.putfield 275, 3) := zdal_p dlC_M_looks_110 (i := 14) rfl
theorem d_M_looks_26 : decode (zb m_M_looks) 26 = .ok (.iconst 0, 1) := zdal_p dlC_M_looks_110 (i := 15) rfl
theorem d_M_looks_27 : decode (zb m_M_looks) 27 = .ok (.istore_n 1, 1) := zdal_p dlC_M_looks_110 (i := 16) rfl
theorem d_M_looks_28 : decode (zb m_M_looks) 28 = .ok (.iload_n 1, 1) := zdal_p dlC_M_looks_110 (i := 17) rfl
theorem d_M_looks_29 : decode (zb m_M_looks) 29 = .ok (.aload_n 0, 1) := zdal_p dlC_M_looks_110 (i := 18) rfl
theorem d_M_looks_30 : decode (zb m_M_looks) 30 = .ok (.getfield 235, 3) := zdal_p dlC_M_looks_110 (i := 19) rfl
theorem d_M_looks_33 : decode (zb m_M_looks) 33 = .ok (.if_icmp .ge 26, 3) := zdal_p dlC_M_looks_110 (i := 20) rfl
theorem d_M_looks_36 : decode (zb m_M_looks) 36 = .ok (.aload_n 0, 1) := zdal_p dlC_M_looks_110 (i := 21) rfl
theorem d_M_looks_37 : decode (zb m_M_looks) 37 = .ok (.getfield 56, 3) := zdal_p dlC_M_looks_110 (i := 22) rfl
theorem d_M_looks_40 : decode (zb m_M_looks) 40 = .ok (.bipush 64, 2) := zdal_p dlC_M_looks_110 (i := 23) rfl
theorem dlC_M_looks_111 : zdal (zb m_M_looks) [(42, (.aload_n 0, 1)), (43, (.getfield 268, 3)), (46, (.iconst 1, 1)), (47, (.isub, 1)), (48, (.imul, 1)), (49, (.iload_n 1, 1)), (50, (.iadd, 1)), (51, (.lconst 0, 1)), (52, (.lastore, 1)), (53, (.iinc 1 1, 3)), (56, (.goto (-28), 3)), (59, (.return_, 1))] = true := zDs 42 (by decide +kernel)
theorem d_M_looks_42 : decode (zb m_M_looks) 42 = .ok (.aload_n 0, 1) := zdal_p dlC_M_looks_111 (i := 0) rfl
theorem d_M_looks_43 : decode (zb m_M_looks) 43 = .ok (.getfield 268, 3) := zdal_p dlC_M_looks_111 (i := 1) rfl
theorem d_M_looks_46 : decode (zb m_M_looks) 46 = .ok (.iconst 1, 1) := zdal_p dlC_M_looks_111 (i := 2) rfl
theorem d_M_looks_47 : decode (zb m_M_looks) 47 = .ok (.isub, 1) := zdal_p dlC_M_looks_111 (i := 3) rfl
theorem d_M_looks_48 : decode (zb m_M_looks) 48 = .ok (.imul, 1) := zdal_p dlC_M_looks_111 (i := 4) rfl
theorem d_M_looks_49 : decode (zb m_M_looks) 49 = .ok (.iload_n 1, 1) := zdal_p dlC_M_looks_111 (i := 5) rfl
theorem d_M_looks_50 : decode (zb m_M_looks) 50 = .ok (.iadd, 1) := zdal_p dlC_M_looks_111 (i := 6) rfl
theorem d_M_looks_51 : decode (zb m_M_looks) 51 = .ok (.lconst 0, 1) := zdal_p dlC_M_looks_111 (i := 7) rfl
theorem d_M_looks_52 : decode (zb m_M_looks) 52 = .ok (.lastore, 1) := zdal_p dlC_M_looks_111 (i := 8) rfl
theorem d_M_looks_53 : decode (zb m_M_looks) 53 = .ok (.iinc 1 1, 3) := zdal_p dlC_M_looks_111 (i := 9) rfl
theorem d_M_looks_56 : decode (zb m_M_looks) 56 = .ok (.goto (-28), 3) := zdal_p dlC_M_looks_111 (i := 10) rfl
theorem d_M_looks_59 : decode (zb m_M_looks) 59 = .ok (.return_, 1) := zdal_p dlC_M_looks_111 (i := 11) rfl
theorem dlC_M_isFit_112 : zdal (zb m_M_isFit) [(0, (.iconst 1, 1)), (1, (.istore_n 3, 1)), (2, (.iconst 0, 1)), (3, (.istore 4, 2)), (5, (.iload 4, 2)), (7, (.aload_n 0, 1)), (8, (.getfield 235, 3)), (11, (.if_icmp .ge 37, 3)), (14, (.iload_n 3, 1)), (15, (.ifCond .eq 25, 3)), (18, (.aload_n 1, 1)), (19, (.iload_n 2, 1)), (20, (.iload 4, 2)), (22, (.iadd, 1)), (23, (.laload, 1)), (24, (.ldc2_w 260, 3)), (27, (.ldc2_w 262, 3)), (30, (.invokestatic 131, 3)), (33, (.ifCond .eq 7, 3)), (36, (.iconst 1, 1)), (37, (.goto 4, 3)), (40, (.iconst 0, 1)), (41, (.istore_n 3, 1)), (42, (.iinc 4 1, 3))] = true := zDs 0 (by decide +kernel)
theorem d_M_isFit_0 : decode (zb m_M_isFit) 0 = .ok (.iconst 1, 1) := zdal_p dlC_M_isFit_112 (i := 0) rfl
theorem d_M_isFit_1 : decode (zb m_M_isFit) 1 = .ok (.istore_n 3, 1) := zdal_p dlC_M_isFit_112 (i := 1) rfl
theorem d_M_isFit_2 : decode (zb m_M_isFit) 2 = .ok (.iconst 0, 1) := zdal_p dlC_M_isFit_112 (i := 2) rfl
theorem d_M_isFit_3 : decode (zb m_M_isFit) 3 = .ok (.istore 4, 2) := zdal_p dlC_M_isFit_112 (i := 3) rfl
theorem d_M_isFit_5 : decode (zb m_M_isFit) 5 = .ok (.iload 4, 2) := zdal_p dlC_M_isFit_112 (i := 4) rfl
theorem d_M_isFit_7 : decode (zb m_M_isFit) 7 = .ok (.aload_n 0, 1) := zdal_p dlC_M_isFit_112 (i := 5) rfl
theorem d_M_isFit_8 : decode (zb m_M_isFit) 8 = .ok (.getfield 235, 3) := zdal_p dlC_M_isFit_112 (i := 6) rfl
theorem d_M_isFit_11 : decode (zb m_M_isFit) 11 = .ok (.if_icmp .ge 37, 3) := zdal_p dlC_M_isFit_112 (i := 7) rfl
theorem d_M_isFit_14 : decode (zb m_M_isFit) 14 = .ok (.iload_n 3, 1) := zdal_p dlC_M_isFit_112 (i := 8) rfl
theorem d_M_isFit_15 : decode (zb m_M_isFit) 15 = .ok (.ifCond .eq 25, 3) := zdal_p dlC_M_isFit_112 (i := 9) rfl
theorem d_M_isFit_18 : decode (zb m_M_isFit) 18 = .ok (.aload_n 1, 1) := zdal_p dlC_M_isFit_112 (i := 10) rfl
theorem d_M_isFit_19 : decode (zb m_M_isFit) 19 = .ok (.iload_n 2, 1) := zdal_p dlC_M_isFit_112 (i := 11) rfl
theorem d_M_isFit_20 : decode (zb m_M_isFit) 20 = .ok (.iload 4, 2) := zdal_p dlC_M_isFit_112 (i := 12) rfl
theorem d_M_isFit_22 : decode (zb m_M_isFit) 22 = .ok (.iadd, 1) := zdal_p dlC_M_isFit_112 (i := 13) rfl
theorem d_M_isFit_23 : decode (zb m_M_isFit) 23 = .ok (.laload, 1) := zdal_p dlC_M_isFit_112 (i := 14) rfl
theorem d_M_isFit_24 : decode (zb m_M_isFit) 24 = .ok (.ldc2_w 260, 3) := zdal_p dlC_M_isFit_112 (i := 15) rfl
theorem d_M_isFit_27 : decode (zb m_M_isFit) 27 = .ok (.ldc2_w 262, 3) := zdal_p dlC_M_isFit_112 (i := 16) rfl
theorem d_M_isFit_30 : decode (zb m_M_isFit) 30 = .ok (.invokestatic 131, 3) := zdal_p dlC_M_isFit_112 (i := 17) rfl
theorem d_M_isFit_33 : decode (zb m_M_isFit) 33 = .ok (.ifCond .eq 7, 3) := zdal_p dlC_M_isFit_112 (i := 18) rfl
theorem d_M_isFit_36 : decode (zb m_M_isFit) 36 = .ok (.iconst 1, 1) := zdal_p dlC_M_isFit_112 (i := 19) rfl
theorem d_M_isFit_37 : decode (zb m_M_isFit) 37 = .ok (.goto 4, 3) := zdal_p dlC_M_isFit_112 (i := 20) rfl
theorem d_M_isFit_40 : decode (zb m_M_isFit) 40 = .ok (.iconst 0, 1) := zdal_p dlC_M_isFit_112 (i := 21) rfl
theorem d_M_isFit_41 : decode (zb m_M_isFit) 41 = .ok (.istore_n 3, 1) := zdal_p dlC_M_isFit_112 (i := 22) rfl
theorem d_M_isFit_42 : decode (zb m_M_isFit) 42 = .ok (.iinc 4 1, 3) := zdal_p dlC_M_isFit_112 (i := 23) rfl
theorem dlC_M_isFit_113 : zdal (zb m_M_isFit) [(45, (.goto (-40), 3)), (48, (.iconst 0, 1)), (49, (.istore 4, 2)), (51, (.iload 4, 2)), (53, (.aload_n 0, 1)), (54, (.getfield 235, 3)), (57, (.if_icmp .ge 31, 3)), (60, (.iload_n 3, 1)), (61, (.ifCond .eq 27, 3)), (64, (.aload_n 0, 1)), (65, (.aload_n 1, 1)), (66, (.iload_n 2, 1)), (67, (.iload 4, 2)), (69, (.invokevirtual 264, 3)), (72, (.ldc2_w 260, 3)), (75, (.ldc2_w 262, 3)), (78, (.invokestatic 131, 3)), (81, (.istore_n 3, 1)), (82, (.iinc 4 1, 3)), (85, (.goto (-34), 3)), (88, (.iload_n 3, 1)), (89, (.ireturn, 1))] = true := zDs 45 (by decide +kernel)
theorem d_M_isFit_45 : decode (zb m_M_isFit) 45 = .ok (.goto (-40), 3) := zdal_p dlC_M_isFit_113 (i := 0) rfl
theorem d_M_isFit_48 : decode (zb m_M_isFit) 48 = .ok (.iconst 0, 1) := zdal_p dlC_M_isFit_113 (i := 1) rfl
theorem d_M_isFit_49 : decode (zb m_M_isFit) 49 = .ok (.istore 4, 2) := zdal_p dlC_M_isFit_113 (i := 2) rfl
theorem d_M_isFit_51 : decode (zb m_M_isFit) 51 = .ok (.iload 4, 2) := zdal_p dlC_M_isFit_113 (i := 3) rfl
theorem d_M_isFit_53 : decode (zb m_M_isFit) 53 = .ok (.aload_n 0, 1) := zdal_p dlC_M_isFit_113 (i := 4) rfl
theorem d_M_isFit_54 : decode (zb m_M_isFit) 54 = .ok (.getfield 235, 3) := zdal_p dlC_M_isFit_113 (i := 5) rfl
theorem d_M_isFit_57 : decode (zb m_M_isFit) 57 = .ok (.if_icmp .ge 31, 3) := zdal_p dlC_M_isFit_113 (i := 6) rfl
theorem d_M_isFit_60 : decode (zb m_M_isFit) 60 = .ok (.iload_n 3, 1) := zdal_p dlC_M_isFit_113 (i := 7) rfl
theorem d_M_isFit_61 : decode (zb m_M_isFit) 61 = .ok (.ifCond .eq 27, 3) := zdal_p dlC_M_isFit_113 (i := 8) rfl
theorem d_M_isFit_64 : decode (zb m_M_isFit) 64 = .ok (.aload_n 0, 1) := zdal_p dlC_M_isFit_113 (i := 9) rfl
theorem d_M_isFit_65 : decode (zb m_M_isFit) 65 = .ok (.aload_n 1, 1) := zdal_p dlC_M_isFit_113 (i := 10) rfl
theorem d_M_isFit_66 : decode (zb m_M_isFit) 66 = .ok (.iload_n 2, 1) := zdal_p dlC_M_isFit_113 (i := 11) rfl
theorem d_M_isFit_67 : decode (zb m_M_isFit) 67 = .ok (.iload 4, 2) := zdal_p dlC_M_isFit_113 (i := 12) rfl
theorem d_M_isFit_69 : decode (zb m_M_isFit) 69 = .ok (.invokevirtual 264, 3) := zdal_p dlC_M_isFit_113 (i := 13) rfl
theorem d_M_isFit_72 : decode (zb m_M_isFit) 72 = .ok (.ldc2_w 260, 3) := zdal_p dlC_M_isFit_113 (i := 14) rfl
theorem d_M_isFit_75 : decode (zb m_M_isFit) 75 = .ok (.ldc2_w 262, 3) := zdal_p dlC_M_isFit_113 (i := 15) rfl
theorem d_M_isFit_78 : decode (zb m_M_isFit) 78 = .ok (.invokestatic 131, 3) := zdal_p dlC_M_isFit_113 (i := 16) rfl
theorem d_M_isFit_81 : decode (zb m_M_isFit) 81 = .ok (.istore_n 3, 1) := zdal_p dlC_M_isFit_113 (i := 17) rfl
theorem d_M_isFit_82 : decode (zb m_M_isFit) 82 = .ok (.iinc 4 1, 3) := zdal_p dlC_M_isFit_113 (i := 18) rfl
theorem d_M_isFit_85 : decode (zb m_M_isFit) 85 = .ok (.goto (-34), 3) := zdal_p dlC_M_isFit_113 (i := 19) rfl
theorem d_M_isFit_88 : decode (zb m_M_isFit) 88 = .ok (.iload_n 3, 1) := zdal_p dlC_M_isFit_113 (i := 20) rfl
theorem d_M_isFit_89 : decode (zb m_M_isFit) 89 = .ok (.ireturn, 1) := zdal_p dlC_M_isFit_113 (i := 21) rfl
theorem dlC_M_markAt_114 : zdal (zb m_M_markAt) [(0, (.lconst 0, 1)), (1, (.lstore 4, 2)), (3, (.iconst 0, 1)), (4, (.istore 6, 2)), (6, (.iload 6, 2)), (8, (.aload_n 0, 1)), (9, (.getfield 235, 3)), (12, (.if_icmp .ge 34, 3)), (15, (.lload 4, 2)), (17, (.aload_n 1, 1)), (18, (.iload_n 2, 1)), (19, (.iload 6, 2)), (21, (.iadd, 1)), (22, (.laload, 1)), (23, (.aload_n 0, 1)), (24, (.getfield 50, 3)), (27, (.bipush 64, 2)), (29, (.iload 6, 2)), (31, (.imul, 1)), (32, (.iload_n 3, 1)), (33, (.iadd, 1)), (34, (.iaload, 1)), (35, (.i2l, 1)), (36, (.lmul, 1))] = true := zDs 0 (by decide +kernel)
theorem d_M_markAt_0 : decode (zb m_M_markAt) 0 = .ok (.lconst 0, 1) := zdal_p dlC_M_markAt_114 (i := 0) rfl
theorem d_M_markAt_1 : decode (zb m_M_markAt) 1 = .ok (.lstore 4, 2) := zdal_p dlC_M_markAt_114 (i := 1) rfl
theorem d_M_markAt_3 : decode (zb m_M_markAt) 3 = .ok (.iconst 0, 1) := zdal_p dlC_M_markAt_114 (i := 2) rfl
theorem d_M_markAt_4 : decode (zb m_M_markAt) 4 = .ok (.istore 6, 2) := zdal_p dlC_M_markAt_114 (i := 3) rfl
theorem d_M_markAt_6 : decode (zb m_M_markAt) 6 = .ok (.iload 6, 2) := zdal_p dlC_M_markAt_114 (i := 4) rfl
theorem d_M_markAt_8 : decode (zb m_M_markAt) 8 = .ok (.aload_n 0, 1) := zdal_p dlC_M_markAt_114 (i := 5) rfl
theorem d_M_markAt_9 : decode (zb m_M_markAt) 9 = .ok (.getfield 235, 3) := zdal_p dlC_M_markAt_114 (i := 6) rfl
theorem d_M_markAt_12 : decode (zb m_M_markAt) 12 = .ok (.if_icmp .ge 34, 3) := zdal_p dlC_M_markAt_114 (i := 7) rfl
theorem d_M_markAt_15 : decode (zb m_M_markAt) 15 = .ok (.lload 4, 2) := zdal_p dlC_M_markAt_114 (i := 8) rfl
theorem d_M_markAt_17 : decode (zb m_M_markAt) 17 = .ok (.aload_n 1, 1) := zdal_p dlC_M_markAt_114 (i := 9) rfl
theorem d_M_markAt_18 : decode (zb m_M_markAt) 18 = .ok (.iload_n 2, 1) := zdal_p dlC_M_markAt_114 (i := 10) rfl
theorem d_M_markAt_19 : decode (zb m_M_markAt) 19 = .ok (.iload 6, 2) := zdal_p dlC_M_markAt_114 (i := 11) rfl
theorem d_M_markAt_21 : decode (zb m_M_markAt) 21 = .ok (.iadd, 1) := zdal_p dlC_M_markAt_114 (i := 12) rfl
theorem d_M_markAt_22 : decode (zb m_M_markAt) 22 = .ok (.laload, 1) := zdal_p dlC_M_markAt_114 (i := 13) rfl
theorem d_M_markAt_23 : decode (zb m_M_markAt) 23 = .ok (.aload_n 0, 1) := zdal_p dlC_M_markAt_114 (i := 14) rfl
theorem d_M_markAt_24 : decode (zb m_M_markAt) 24 = .ok (.getfield 50, 3) := zdal_p dlC_M_markAt_114 (i := 15) rfl
theorem d_M_markAt_27 : decode (zb m_M_markAt) 27 = .ok (.bipush 64, 2) := zdal_p dlC_M_markAt_114 (i := 16) rfl
theorem d_M_markAt_29 : decode (zb m_M_markAt) 29 = .ok (.iload 6, 2) := zdal_p dlC_M_markAt_114 (i := 17) rfl
theorem d_M_markAt_31 : decode (zb m_M_markAt) 31 = .ok (.imul, 1) := zdal_p dlC_M_markAt_114 (i := 18) rfl
theorem d_M_markAt_32 : decode (zb m_M_markAt) 32 = .ok (.iload_n 3, 1) := zdal_p dlC_M_markAt_114 (i := 19) rfl
theorem d_M_markAt_33 : decode (zb m_M_markAt) 33 = .ok (.iadd, 1) := zdal_p dlC_M_markAt_114 (i := 20) rfl
theorem d_M_markAt_34 : decode (zb m_M_markAt) 34 = .ok (.iaload, 1) := zdal_p dlC_M_markAt_114 (i := 21) rfl
theorem d_M_markAt_35 : decode (zb m_M_markAt) 35 = .ok (.i2l, 1) := zdal_p dlC_M_markAt_114 (i := 22) rfl
theorem d_M_markAt_36 : decode (zb m_M_markAt) 36 = .ok (.lmul, 1) := zdal_p dlC_M_markAt_114 (i := 23) rfl
theorem dlC_M_markAt_115 : zdal (zb m_M_markAt) [(37, (.ladd, 1)), (38, (.lstore 4, 2)), (40, (.iinc 6 1, 3)), (43, (.goto (-37), 3)), (46, (.lload 4, 2)), (48, (.lreturn, 1))] = true := zDs 37 (by decide +kernel)
theorem d_M_markAt_37 : decode (zb m_M_markAt) 37 = .ok (.ladd, 1) := zdal_p dlC_M_markAt_115 (i := 0) rfl
theorem d_M_markAt_38 : decode (zb m_M_markAt) 38 = .ok (.lstore 4, 2) := zdal_p dlC_M_markAt_115 (i := 1) rfl
theorem d_M_markAt_40 : decode (zb m_M_markAt) 40 = .ok (.iinc 6 1, 3) := zdal_p dlC_M_markAt_115 (i := 2) rfl
theorem d_M_markAt_43 : decode (zb m_M_markAt) 43 = .ok (.goto (-37), 3) := zdal_p dlC_M_markAt_115 (i := 3) rfl
theorem d_M_markAt_46 : decode (zb m_M_markAt) 46 = .ok (.lload 4, 2) := zdal_p dlC_M_markAt_115 (i := 4) rfl
theorem d_M_markAt_48 : decode (zb m_M_markAt) 48 = .ok (.lreturn, 1) := zdal_p dlC_M_markAt_115 (i := 5) rfl
theorem dlC_M_closes_116 : zdal (zb m_M_closes) [(0, (.aload_n 0, 1)), (1, (.bipush 94, 2)), (3, (.invokevirtual 187, 3)), (6, (.ifCond .eq 27, 3)), (9, (.aload_n 0, 1)), (10, (.invokevirtual 193, 3)), (13, (.aload_n 0, 1)), (14, (.iconst 0, 1)), (15, (.bipush 9, 2)), (17, (.invokevirtual 322, 3)), (20, (.istore_n 1, 1)), (21, (.aload_n 0, 1)), (22, (.invokevirtual 183, 3)), (25, (.ifCond .eq 8, 3)), (28, (.aload_n 0, 1)), (29, (.iload_n 1, 1)), (30, (.invokevirtual 325, 3)), (33, (.aload_n 0, 1)), (34, (.invokevirtual 183, 3)), (37, (.ifCond .eq 52, 3)), (40, (.aload_n 0, 1)), (41, (.getfield 305, 3)), (44, (.ifCond .le 45, 3)), (47, (.aload_n 0, 1))] = true := zDs 0 (by decide +kernel)
theorem d_M_closes_0 : decode (zb m_M_closes) 0 = .ok (.aload_n 0, 1) := zdal_p dlC_M_closes_116 (i := 0) rfl
theorem d_M_closes_1 : decode (zb m_M_closes) 1 = .ok (.bipush 94, 2) := zdal_p dlC_M_closes_116 (i := 1) rfl
theorem d_M_closes_3 : decode (zb m_M_closes) 3 = .ok (.invokevirtual 187, 3) := zdal_p dlC_M_closes_116 (i := 2) rfl
theorem d_M_closes_6 : decode (zb m_M_closes) 6 = .ok (.ifCond .eq 27, 3) := zdal_p dlC_M_closes_116 (i := 3) rfl
theorem d_M_closes_9 : decode (zb m_M_closes) 9 = .ok (.aload_n 0, 1) := zdal_p dlC_M_closes_116 (i := 4) rfl
theorem d_M_closes_10 : decode (zb m_M_closes) 10 = .ok (.invokevirtual 193, 3) := zdal_p dlC_M_closes_116 (i := 5) rfl
theorem d_M_closes_13 : decode (zb m_M_closes) 13 = .ok (.aload_n 0, 1) := zdal_p dlC_M_closes_116 (i := 6) rfl
theorem d_M_closes_14 : decode (zb m_M_closes) 14 = .ok (.iconst 0, 1) := zdal_p dlC_M_closes_116 (i := 7) rfl
theorem d_M_closes_15 : decode (zb m_M_closes) 15 = .ok (.bipush 9, 2) := zdal_p dlC_M_closes_116 (i := 8) rfl
theorem d_M_closes_17 : decode (zb m_M_closes) 17 = .ok (.invokevirtual 322, 3) := zdal_p dlC_M_closes_116 (i := 9) rfl
theorem d_M_closes_20 : decode (zb m_M_closes) 20 = .ok (.istore_n 1, 1) := zdal_p dlC_M_closes_116 (i := 10) rfl
theorem d_M_closes_21 : decode (zb m_M_closes) 21 = .ok (.aload_n 0, 1) := zdal_p dlC_M_closes_116 (i := 11) rfl
theorem d_M_closes_22 : decode (zb m_M_closes) 22 = .ok (.invokevirtual 183, 3) := zdal_p dlC_M_closes_116 (i := 12) rfl
theorem d_M_closes_25 : decode (zb m_M_closes) 25 = .ok (.ifCond .eq 8, 3) := zdal_p dlC_M_closes_116 (i := 13) rfl
theorem d_M_closes_28 : decode (zb m_M_closes) 28 = .ok (.aload_n 0, 1) := zdal_p dlC_M_closes_116 (i := 14) rfl
theorem d_M_closes_29 : decode (zb m_M_closes) 29 = .ok (.iload_n 1, 1) := zdal_p dlC_M_closes_116 (i := 15) rfl
theorem d_M_closes_30 : decode (zb m_M_closes) 30 = .ok (.invokevirtual 325, 3) := zdal_p dlC_M_closes_116 (i := 16) rfl
theorem d_M_closes_33 : decode (zb m_M_closes) 33 = .ok (.aload_n 0, 1) := zdal_p dlC_M_closes_116 (i := 17) rfl
theorem d_M_closes_34 : decode (zb m_M_closes) 34 = .ok (.invokevirtual 183, 3) := zdal_p dlC_M_closes_116 (i := 18) rfl
theorem d_M_closes_37 : decode (zb m_M_closes) 37 = .ok (.ifCond .eq 52, 3) := zdal_p dlC_M_closes_116 (i := 19) rfl
theorem d_M_closes_40 : decode (zb m_M_closes) 40 = .ok (.aload_n 0, 1) := zdal_p dlC_M_closes_116 (i := 20) rfl
theorem d_M_closes_41 : decode (zb m_M_closes) 41 = .ok (.getfield 305, 3) := zdal_p dlC_M_closes_116 (i := 21) rfl
theorem d_M_closes_44 : decode (zb m_M_closes) 44 = .ok (.ifCond .le 45, 3) := zdal_p dlC_M_closes_116 (i := 22) rfl
theorem d_M_closes_47 : decode (zb m_M_closes) 47 = .ok (.aload_n 0, 1) := zdal_p dlC_M_closes_116 (i := 23) rfl
theorem dlC_M_closes_117 : zdal (zb m_M_closes) [(48, (.getfield 72, 3)), (51, (.aload_n 0, 1)), (52, (.getfield 305, 3)), (55, (.iconst 1, 1)), (56, (.isub, 1)), (57, (.iaload, 1)), (58, (.iconst 1, 1)), (59, (.if_icmp .ne 30, 3)), (62, (.aload_n 0, 1)), (63, (.invokevirtual 328, 3)), (66, (.aload_n 0, 1)), (67, (.dup, 1)), (68, (.getfield 305, 3)), (71, (.iconst 1, 1)), (72, (.isub, 1)), (73, (.putfield 305, 3)), (76, (.aload_n 0, 1)), (77, (.dup, 1)), (78, (.getfield 296, 3)), (81, (.iconst 1, 1)), (82, (.isub, 1)), (83, (.putfield 296, 3)), (86, (.goto (-53), 3)), (89, (.return_, 1))] = true := zDs 48 (by decide +kernel)
theorem d_M_closes_48 : decode (zb m_M_closes) 48 = .ok (.getfield 72, 3) := zdal_p dlC_M_closes_117 (i := 0) rfl
theorem d_M_closes_51 : decode (zb m_M_closes) 51 = .ok (.aload_n 0, 1) := zdal_p dlC_M_closes_117 (i := 1) rfl
theorem d_M_closes_52 : decode (zb m_M_closes) 52 = .ok (.getfield 305, 3) := zdal_p dlC_M_closes_117 (i := 2) rfl
theorem d_M_closes_55 : decode (zb m_M_closes) 55 = .ok (.iconst 1, 1) := zdal_p dlC_M_closes_117 (i := 3) rfl
theorem d_M_closes_56 : decode (zb m_M_closes) 56 = .ok (.isub, 1) := zdal_p dlC_M_closes_117 (i := 4) rfl
theorem d_M_closes_57 : decode (zb m_M_closes) 57 = .ok (.iaload, 1) := zdal_p dlC_M_closes_117 (i := 5) rfl
theorem d_M_closes_58 : decode (zb m_M_closes) 58 = .ok (.iconst 1, 1) := zdal_p dlC_M_closes_117 (i := 6) rfl
theorem d_M_closes_59 : decode (zb m_M_closes) 59 = .ok (.if_icmp .ne 30, 3) := zdal_p dlC_M_closes_117 (i := 7) rfl
theorem d_M_closes_62 : decode (zb m_M_closes) 62 = .ok (.aload_n 0, 1) := zdal_p dlC_M_closes_117 (i := 8) rfl
theorem d_M_closes_63 : decode (zb m_M_closes) 63 = .ok (.invokevirtual 328, 3) := zdal_p dlC_M_closes_117 (i := 9) rfl
theorem d_M_closes_66 : decode (zb m_M_closes) 66 = .ok (.aload_n 0, 1) := zdal_p dlC_M_closes_117 (i := 10) rfl
theorem d_M_closes_67 : decode (zb m_M_closes) 67 = .ok (.dup, 1) := zdal_p dlC_M_closes_117 (i := 11) rfl
theorem d_M_closes_68 : decode (zb m_M_closes) 68 = .ok (.getfield 305, 3) := zdal_p dlC_M_closes_117 (i := 12) rfl
theorem d_M_closes_71 : decode (zb m_M_closes) 71 = .ok (.iconst 1, 1) := zdal_p dlC_M_closes_117 (i := 13) rfl
theorem d_M_closes_72 : decode (zb m_M_closes) 72 = .ok (.isub, 1) := zdal_p dlC_M_closes_117 (i := 14) rfl
theorem d_M_closes_73 : decode (zb m_M_closes) 73 = .ok (.putfield 305, 3) := zdal_p dlC_M_closes_117 (i := 15) rfl
theorem d_M_closes_76 : decode (zb m_M_closes) 76 = .ok (.aload_n 0, 1) := zdal_p dlC_M_closes_117 (i := 16) rfl
theorem d_M_closes_77 : decode (zb m_M_closes) 77 = .ok (.dup, 1) := zdal_p dlC_M_closes_117 (i := 17) rfl
theorem d_M_closes_78 : decode (zb m_M_closes) 78 = .ok (.getfield 296, 3) := zdal_p dlC_M_closes_117 (i := 18) rfl
theorem d_M_closes_81 : decode (zb m_M_closes) 81 = .ok (.iconst 1, 1) := zdal_p dlC_M_closes_117 (i := 19) rfl
theorem d_M_closes_82 : decode (zb m_M_closes) 82 = .ok (.isub, 1) := zdal_p dlC_M_closes_117 (i := 20) rfl
theorem d_M_closes_83 : decode (zb m_M_closes) 83 = .ok (.putfield 296, 3) := zdal_p dlC_M_closes_117 (i := 21) rfl
theorem d_M_closes_86 : decode (zb m_M_closes) 86 = .ok (.goto (-53), 3) := zdal_p dlC_M_closes_117 (i := 22) rfl
theorem d_M_closes_89 : decode (zb m_M_closes) 89 = .ok (.return_, 1) := zdal_p dlC_M_closes_117 (i := 23) rfl
theorem dlC_M_powers_118 : zdal (zb m_M_powers) [(0, (.aload_n 0, 1)), (1, (.aload_n 0, 1)), (2, (.getfield 268, 3)), (5, (.iconst 1, 1)), (6, (.isub, 1)), (7, (.aload_n 0, 1)), (8, (.getfield 63, 3)), (11, (.invokevirtual 282, 3)), (14, (.iconst 0, 1)), (15, (.istore_n 2, 1)), (16, (.iload_n 2, 1)), (17, (.aload_n 0, 1)), (18, (.getfield 235, 3)), (21, (.if_icmp .ge 16, 3)), (24, (.aload_n 0, 1)), (25, (.getfield 60, 3)), (28, (.iload_n 2, 1)), (29, (.lconst 1, 1)), (30, (.lastore, 1)), (31, (.iinc 2 1, 3)), (34, (.goto (-18), 3)), (37, (.iconst 0, 1)), (38, (.istore_n 2, 1)), (39, (.iload_n 2, 1))] = true := zDs 0 (by decide +kernel)
theorem d_M_powers_0 : decode (zb m_M_powers) 0 = .ok (.aload_n 0, 1) := zdal_p dlC_M_powers_118 (i := 0) rfl
theorem d_M_powers_1 : decode (zb m_M_powers) 1 = .ok (.aload_n 0, 1) := zdal_p dlC_M_powers_118 (i := 1) rfl
theorem d_M_powers_2 : decode (zb m_M_powers) 2 = .ok (.getfield 268, 3) := zdal_p dlC_M_powers_118 (i := 2) rfl
theorem d_M_powers_5 : decode (zb m_M_powers) 5 = .ok (.iconst 1, 1) := zdal_p dlC_M_powers_118 (i := 3) rfl
theorem d_M_powers_6 : decode (zb m_M_powers) 6 = .ok (.isub, 1) := zdal_p dlC_M_powers_118 (i := 4) rfl
theorem d_M_powers_7 : decode (zb m_M_powers) 7 = .ok (.aload_n 0, 1) := zdal_p dlC_M_powers_118 (i := 5) rfl
theorem d_M_powers_8 : decode (zb m_M_powers) 8 = .ok (.getfield 63, 3) := zdal_p dlC_M_powers_118 (i := 6) rfl
theorem d_M_powers_11 : decode (zb m_M_powers) 11 = .ok (.invokevirtual 282, 3) := zdal_p dlC_M_powers_118 (i := 7) rfl
theorem d_M_powers_14 : decode (zb m_M_powers) 14 = .ok (.iconst 0, 1) := zdal_p dlC_M_powers_118 (i := 8) rfl
theorem d_M_powers_15 : decode (zb m_M_powers) 15 = .ok (.istore_n 2, 1) := zdal_p dlC_M_powers_118 (i := 9) rfl
theorem d_M_powers_16 : decode (zb m_M_powers) 16 = .ok (.iload_n 2, 1) := zdal_p dlC_M_powers_118 (i := 10) rfl
theorem d_M_powers_17 : decode (zb m_M_powers) 17 = .ok (.aload_n 0, 1) := zdal_p dlC_M_powers_118 (i := 11) rfl
theorem d_M_powers_18 : decode (zb m_M_powers) 18 = .ok (.getfield 235, 3) := zdal_p dlC_M_powers_118 (i := 12) rfl
theorem d_M_powers_21 : decode (zb m_M_powers) 21 = .ok (.if_icmp .ge 16, 3) := zdal_p dlC_M_powers_118 (i := 13) rfl
theorem d_M_powers_24 : decode (zb m_M_powers) 24 = .ok (.aload_n 0, 1) := zdal_p dlC_M_powers_118 (i := 14) rfl
theorem d_M_powers_25 : decode (zb m_M_powers) 25 = .ok (.getfield 60, 3) := zdal_p dlC_M_powers_118 (i := 15) rfl
theorem d_M_powers_28 : decode (zb m_M_powers) 28 = .ok (.iload_n 2, 1) := zdal_p dlC_M_powers_118 (i := 16) rfl
theorem d_M_powers_29 : decode (zb m_M_powers) 29 = .ok (.lconst 1, 1) := zdal_p dlC_M_powers_118 (i := 17) rfl
theorem d_M_powers_30 : decode (zb m_M_powers) 30 = .ok (.lastore, 1) := zdal_p dlC_M_powers_118 (i := 18) rfl
theorem d_M_powers_31 : decode (zb m_M_powers) 31 = .ok (.iinc 2 1, 3) := zdal_p dlC_M_powers_118 (i := 19) rfl
theorem d_M_powers_34 : decode (zb m_M_powers) 34 = .ok (.goto (-18), 3) := zdal_p dlC_M_powers_118 (i := 20) rfl
theorem d_M_powers_37 : decode (zb m_M_powers) 37 = .ok (.iconst 0, 1) := zdal_p dlC_M_powers_118 (i := 21) rfl
theorem d_M_powers_38 : decode (zb m_M_powers) 38 = .ok (.istore_n 2, 1) := zdal_p dlC_M_powers_118 (i := 22) rfl
theorem d_M_powers_39 : decode (zb m_M_powers) 39 = .ok (.iload_n 2, 1) := zdal_p dlC_M_powers_118 (i := 23) rfl
theorem dlC_M_powers_119 : zdal (zb m_M_powers) [(40, (.iload_n 1, 1)), (41, (.if_icmp .ge 38, 3)), (44, (.aload_n 0, 1)), (45, (.invokevirtual 286, 3)), (48, (.aload_n 0, 1)), (49, (.aload_n 0, 1)), (50, (.getfield 60, 3)), (53, (.aload_n 0, 1)), (54, (.getfield 56, 3)), (57, (.bipush 64, 2)), (59, (.aload_n 0, 1)), (60, (.getfield 268, 3)), (63, (.iconst 1, 1)), (64, (.isub, 1)), (65, (.imul, 1)), (66, (.invokevirtual 289, 3)), (69, (.aload_n 0, 1)), (70, (.invokevirtual 279, 3)), (73, (.iinc 2 1, 3)), (76, (.goto (-37), 3)), (79, (.iload_n 1, 1)), (80, (.ifCond .ne 24, 3)), (83, (.aload_n 0, 1)), (84, (.aload_n 0, 1))] = true := zDs 40 (by decide +kernel)
theorem d_M_powers_40 : decode (zb m_M_powers) 40 = .ok (.iload_n 1, 1) := zdal_p dlC_M_powers_119 (i := 0) rfl
theorem d_M_powers_41 : decode (zb m_M_powers) 41 = .ok (.if_icmp .ge 38, 3) := zdal_p dlC_M_powers_119 (i := 1) rfl
theorem d_M_powers_44 : decode (zb m_M_powers) 44 = .ok (.aload_n 0, 1) := zdal_p dlC_M_powers_119 (i := 2) rfl
theorem d_M_powers_45 : decode (zb m_M_powers) 45 = .ok (.invokevirtual 286, 3) := zdal_p dlC_M_powers_119 (i := 3) rfl
theorem d_M_powers_48 : decode (zb m_M_powers) 48 = .ok (.aload_n 0, 1) := zdal_p dlC_M_powers_119 (i := 4) rfl
theorem d_M_powers_49 : decode (zb m_M_powers) 49 = .ok (.aload_n 0, 1) := zdal_p dlC_M_powers_119 (i := 5) rfl
theorem d_M_powers_50 : decode (zb m_M_powers) 50 = .ok (.getfield 60, 3) := zdal_p dlC_M_powers_119 (i := 6) rfl
theorem d_M_powers_53 : decode (zb m_M_powers) 53 = .ok (.aload_n 0, 1) := zdal_p dlC_M_powers_119 (i := 7) rfl
theorem d_M_powers_54 : decode (zb m_M_powers) 54 = .ok (.getfield 56, 3) := zdal_p dlC_M_powers_119 (i := 8) rfl
theorem d_M_powers_57 : decode (zb m_M_powers) 57 = .ok (.bipush 64, 2) := zdal_p dlC_M_powers_119 (i := 9) rfl
theorem d_M_powers_59 : decode (zb m_M_powers) 59 = .ok (.aload_n 0, 1) := zdal_p dlC_M_powers_119 (i := 10) rfl
theorem d_M_powers_60 : decode (zb m_M_powers) 60 = .ok (.getfield 268, 3) := zdal_p dlC_M_powers_119 (i := 11) rfl
theorem d_M_powers_63 : decode (zb m_M_powers) 63 = .ok (.iconst 1, 1) := zdal_p dlC_M_powers_119 (i := 12) rfl
theorem d_M_powers_64 : decode (zb m_M_powers) 64 = .ok (.isub, 1) := zdal_p dlC_M_powers_119 (i := 13) rfl
theorem d_M_powers_65 : decode (zb m_M_powers) 65 = .ok (.imul, 1) := zdal_p dlC_M_powers_119 (i := 14) rfl
theorem d_M_powers_66 : decode (zb m_M_powers) 66 = .ok (.invokevirtual 289, 3) := zdal_p dlC_M_powers_119 (i := 15) rfl
theorem d_M_powers_69 : decode (zb m_M_powers) 69 = .ok (.aload_n 0, 1) := zdal_p dlC_M_powers_119 (i := 16) rfl
theorem d_M_powers_70 : decode (zb m_M_powers) 70 = .ok (.invokevirtual 279, 3) := zdal_p dlC_M_powers_119 (i := 17) rfl
theorem d_M_powers_73 : decode (zb m_M_powers) 73 = .ok (.iinc 2 1, 3) := zdal_p dlC_M_powers_119 (i := 18) rfl
theorem d_M_powers_76 : decode (zb m_M_powers) 76 = .ok (.goto (-37), 3) := zdal_p dlC_M_powers_119 (i := 19) rfl
theorem d_M_powers_79 : decode (zb m_M_powers) 79 = .ok (.iload_n 1, 1) := zdal_p dlC_M_powers_119 (i := 20) rfl
theorem d_M_powers_80 : decode (zb m_M_powers) 80 = .ok (.ifCond .ne 24, 3) := zdal_p dlC_M_powers_119 (i := 21) rfl
theorem d_M_powers_83 : decode (zb m_M_powers) 83 = .ok (.aload_n 0, 1) := zdal_p dlC_M_powers_119 (i := 22) rfl
theorem d_M_powers_84 : decode (zb m_M_powers) 84 = .ok (.aload_n 0, 1) := zdal_p dlC_M_powers_119 (i := 23) rfl
theorem dlC_M_powers_120 : zdal (zb m_M_powers) [(85, (.getfield 60, 3)), (88, (.aload_n 0, 1)), (89, (.getfield 56, 3)), (92, (.bipush 64, 2)), (94, (.aload_n 0, 1)), (95, (.getfield 268, 3)), (98, (.iconst 1, 1)), (99, (.isub, 1)), (100, (.imul, 1)), (101, (.invokevirtual 289, 3)), (104, (.return_, 1))] = true := zDs 85 (by decide +kernel)
theorem d_M_powers_85 : decode (zb m_M_powers) 85 = .ok (.getfield 60, 3) := zdal_p dlC_M_powers_120 (i := 0) rfl
theorem d_M_powers_88 : decode (zb m_M_powers) 88 = .ok (.aload_n 0, 1) := zdal_p dlC_M_powers_120 (i := 1) rfl
theorem d_M_powers_89 : decode (zb m_M_powers) 89 = .ok (.getfield 56, 3) := zdal_p dlC_M_powers_120 (i := 2) rfl
theorem d_M_powers_92 : decode (zb m_M_powers) 92 = .ok (.bipush 64, 2) := zdal_p dlC_M_powers_120 (i := 3) rfl
theorem d_M_powers_94 : decode (zb m_M_powers) 94 = .ok (.aload_n 0, 1) := zdal_p dlC_M_powers_120 (i := 4) rfl
theorem d_M_powers_95 : decode (zb m_M_powers) 95 = .ok (.getfield 268, 3) := zdal_p dlC_M_powers_120 (i := 5) rfl
theorem d_M_powers_98 : decode (zb m_M_powers) 98 = .ok (.iconst 1, 1) := zdal_p dlC_M_powers_120 (i := 6) rfl
theorem d_M_powers_99 : decode (zb m_M_powers) 99 = .ok (.isub, 1) := zdal_p dlC_M_powers_120 (i := 7) rfl
theorem d_M_powers_100 : decode (zb m_M_powers) 100 = .ok (.imul, 1) := zdal_p dlC_M_powers_120 (i := 8) rfl
theorem d_M_powers_101 : decode (zb m_M_powers) 101 = .ok (.invokevirtual 289, 3) := zdal_p dlC_M_powers_120 (i := 9) rfl
theorem d_M_powers_104 : decode (zb m_M_powers) 104 = .ok (.return_, 1) := zdal_p dlC_M_powers_120 (i := 10) rfl
theorem dlC_M_marksOf_121 : zdal (zb m_M_marksOf) [(0, (.iconst 0, 1)), (1, (.istore_n 3, 1)), (2, (.iload_n 3, 1)), (3, (.aload_n 0, 1)), (4, (.getfield 235, 3)), (7, (.if_icmp .ge 25, 3)), (10, (.aload_n 2, 1)), (11, (.iload_n 3, 1)), (12, (.aload_n 0, 1)), (13, (.aload_n 0, 1)), (14, (.getfield 56, 3)), (17, (.bipush 64, 2)), (19, (.iload_n 1, 1)), (20, (.imul, 1)), (21, (.iload_n 3, 1)), (22, (.invokevirtual 264, 3)), (25, (.lastore, 1)), (26, (.iinc 3 1, 3)), (29, (.goto (-27), 3)), (32, (.return_, 1))] = true := zDs 0 (by decide +kernel)
theorem d_M_marksOf_0 : decode (zb m_M_marksOf) 0 = .ok (.iconst 0, 1) := zdal_p dlC_M_marksOf_121 (i := 0) rfl
theorem d_M_marksOf_1 : decode (zb m_M_marksOf) 1 = .ok (.istore_n 3, 1) := zdal_p dlC_M_marksOf_121 (i := 1) rfl
theorem d_M_marksOf_2 : decode (zb m_M_marksOf) 2 = .ok (.iload_n 3, 1) := zdal_p dlC_M_marksOf_121 (i := 2) rfl
theorem d_M_marksOf_3 : decode (zb m_M_marksOf) 3 = .ok (.aload_n 0, 1) := zdal_p dlC_M_marksOf_121 (i := 3) rfl
theorem d_M_marksOf_4 : decode (zb m_M_marksOf) 4 = .ok (.getfield 235, 3) := zdal_p dlC_M_marksOf_121 (i := 4) rfl
theorem d_M_marksOf_7 : decode (zb m_M_marksOf) 7 = .ok (.if_icmp .ge 25, 3) := zdal_p dlC_M_marksOf_121 (i := 5) rfl
theorem d_M_marksOf_10 : decode (zb m_M_marksOf) 10 = .ok (.aload_n 2, 1) := zdal_p dlC_M_marksOf_121 (i := 6) rfl
theorem d_M_marksOf_11 : decode (zb m_M_marksOf) 11 = .ok (.iload_n 3, 1) := zdal_p dlC_M_marksOf_121 (i := 7) rfl
theorem d_M_marksOf_12 : decode (zb m_M_marksOf) 12 = .ok (.aload_n 0, 1) := zdal_p dlC_M_marksOf_121 (i := 8) rfl
theorem d_M_marksOf_13 : decode (zb m_M_marksOf) 13 = .ok (.aload_n 0, 1) := zdal_p dlC_M_marksOf_121 (i := 9) rfl
theorem d_M_marksOf_14 : decode (zb m_M_marksOf) 14 = .ok (.getfield 56, 3) := zdal_p dlC_M_marksOf_121 (i := 10) rfl
theorem d_M_marksOf_17 : decode (zb m_M_marksOf) 17 = .ok (.bipush 64, 2) := zdal_p dlC_M_marksOf_121 (i := 11) rfl
theorem d_M_marksOf_19 : decode (zb m_M_marksOf) 19 = .ok (.iload_n 1, 1) := zdal_p dlC_M_marksOf_121 (i := 12) rfl
theorem d_M_marksOf_20 : decode (zb m_M_marksOf) 20 = .ok (.imul, 1) := zdal_p dlC_M_marksOf_121 (i := 13) rfl
theorem d_M_marksOf_21 : decode (zb m_M_marksOf) 21 = .ok (.iload_n 3, 1) := zdal_p dlC_M_marksOf_121 (i := 14) rfl
theorem d_M_marksOf_22 : decode (zb m_M_marksOf) 22 = .ok (.invokevirtual 264, 3) := zdal_p dlC_M_marksOf_121 (i := 15) rfl
theorem d_M_marksOf_25 : decode (zb m_M_marksOf) 25 = .ok (.lastore, 1) := zdal_p dlC_M_marksOf_121 (i := 16) rfl
theorem d_M_marksOf_26 : decode (zb m_M_marksOf) 26 = .ok (.iinc 3 1, 3) := zdal_p dlC_M_marksOf_121 (i := 17) rfl
theorem d_M_marksOf_29 : decode (zb m_M_marksOf) 29 = .ok (.goto (-27), 3) := zdal_p dlC_M_marksOf_121 (i := 18) rfl
theorem d_M_marksOf_32 : decode (zb m_M_marksOf) 32 = .ok (.return_, 1) := zdal_p dlC_M_marksOf_121 (i := 19) rfl
theorem dlC_M_multiplies_122 : zdal (zb m_M_multiplies) [(0, (.iconst 0, 1)), (1, (.istore_n 1, 1)), (2, (.iload_n 1, 1)), (3, (.aload_n 0, 1)), (4, (.getfield 235, 3)), (7, (.if_icmp .ge 118, 3)), (10, (.aload_n 0, 1)), (11, (.getfield 60, 3)), (14, (.iload_n 1, 1)), (15, (.laload, 1)), (16, (.lconst 0, 1)), (17, (.lcmp, 1)), (18, (.ifCond .ge 13, 3)), (21, (.aload_n 0, 1)), (22, (.getfield 60, 3)), (25, (.iload_n 1, 1)), (26, (.laload, 1)), (27, (.lneg, 1)), (28, (.goto 9, 3)), (31, (.aload_n 0, 1)), (32, (.getfield 60, 3)), (35, (.iload_n 1, 1)), (36, (.laload, 1)), (37, (.lstore_n 2, 1))] = true := zDs 0 (by decide +kernel)
theorem d_M_multiplies_0 : decode (zb m_M_multiplies) 0 = .ok (.iconst 0, 1) := zdal_p dlC_M_multiplies_122 (i := 0) rfl
theorem d_M_multiplies_1 : decode (zb m_M_multiplies) 1 = .ok (.istore_n 1, 1) := zdal_p dlC_M_multiplies_122 (i := 1) rfl
theorem d_M_multiplies_2 : decode (zb m_M_multiplies) 2 = .ok (.iload_n 1, 1) := zdal_p dlC_M_multiplies_122 (i := 2) rfl
theorem d_M_multiplies_3 : decode (zb m_M_multiplies) 3 = .ok (.aload_n 0, 1) := zdal_p dlC_M_multiplies_122 (i := 3) rfl
theorem d_M_multiplies_4 : decode (zb m_M_multiplies) 4 = .ok (.getfield 235, 3) := zdal_p dlC_M_multiplies_122 (i := 4) rfl
theorem d_M_multiplies_7 : decode (zb m_M_multiplies) 7 = .ok (.if_icmp .ge 118, 3) := zdal_p dlC_M_multiplies_122 (i := 5) rfl
theorem d_M_multiplies_10 : decode (zb m_M_multiplies) 10 = .ok (.aload_n 0, 1) := zdal_p dlC_M_multiplies_122 (i := 6) rfl
theorem d_M_multiplies_11 : decode (zb m_M_multiplies) 11 = .ok (.getfield 60, 3) := zdal_p dlC_M_multiplies_122 (i := 7) rfl
theorem d_M_multiplies_14 : decode (zb m_M_multiplies) 14 = .ok (.iload_n 1, 1) := zdal_p dlC_M_multiplies_122 (i := 8) rfl
theorem d_M_multiplies_15 : decode (zb m_M_multiplies) 15 = .ok (.laload, 1) := zdal_p dlC_M_multiplies_122 (i := 9) rfl
theorem d_M_multiplies_16 : decode (zb m_M_multiplies) 16 = .ok (.lconst 0, 1) := zdal_p dlC_M_multiplies_122 (i := 10) rfl
theorem d_M_multiplies_17 : decode (zb m_M_multiplies) 17 = .ok (.lcmp, 1) := zdal_p dlC_M_multiplies_122 (i := 11) rfl
theorem d_M_multiplies_18 : decode (zb m_M_multiplies) 18 = .ok (.ifCond .ge 13, 3) := zdal_p dlC_M_multiplies_122 (i := 12) rfl
theorem d_M_multiplies_21 : decode (zb m_M_multiplies) 21 = .ok (.aload_n 0, 1) := zdal_p dlC_M_multiplies_122 (i := 13) rfl
theorem d_M_multiplies_22 : decode (zb m_M_multiplies) 22 = .ok (.getfield 60, 3) := zdal_p dlC_M_multiplies_122 (i := 14) rfl
theorem d_M_multiplies_25 : decode (zb m_M_multiplies) 25 = .ok (.iload_n 1, 1) := zdal_p dlC_M_multiplies_122 (i := 15) rfl
theorem d_M_multiplies_26 : decode (zb m_M_multiplies) 26 = .ok (.laload, 1) := zdal_p dlC_M_multiplies_122 (i := 16) rfl
theorem d_M_multiplies_27 : decode (zb m_M_multiplies) 27 = .ok (.lneg, 1) := zdal_p dlC_M_multiplies_122 (i := 17) rfl
theorem d_M_multiplies_28 : decode (zb m_M_multiplies) 28 = .ok (.goto 9, 3) := zdal_p dlC_M_multiplies_122 (i := 18) rfl
theorem d_M_multiplies_31 : decode (zb m_M_multiplies) 31 = .ok (.aload_n 0, 1) := zdal_p dlC_M_multiplies_122 (i := 19) rfl
theorem d_M_multiplies_32 : decode (zb m_M_multiplies) 32 = .ok (.getfield 60, 3) := zdal_p dlC_M_multiplies_122 (i := 20) rfl
theorem d_M_multiplies_35 : decode (zb m_M_multiplies) 35 = .ok (.iload_n 1, 1) := zdal_p dlC_M_multiplies_122 (i := 21) rfl
theorem d_M_multiplies_36 : decode (zb m_M_multiplies) 36 = .ok (.laload, 1) := zdal_p dlC_M_multiplies_122 (i := 22) rfl
theorem d_M_multiplies_37 : decode (zb m_M_multiplies) 37 = .ok (.lstore_n 2, 1) := zdal_p dlC_M_multiplies_122 (i := 23) rfl
theorem dlC_M_multiplies_123 : zdal (zb m_M_multiplies) [(38, (.aload_n 0, 1)), (39, (.getfield 63, 3)), (42, (.iload_n 1, 1)), (43, (.laload, 1)), (44, (.lconst 0, 1)), (45, (.lcmp, 1)), (46, (.ifCond .ge 13, 3)), (49, (.aload_n 0, 1)), (50, (.getfield 63, 3)), (53, (.iload_n 1, 1)), (54, (.laload, 1)), (55, (.lneg, 1)), (56, (.goto 9, 3)), (59, (.aload_n 0, 1)), (60, (.getfield 63, 3)), (63, (.iload_n 1, 1)), (64, (.laload, 1)), (65, (.lstore 4, 2)), (67, (.lload_n 2, 1)), (68, (.lconst 0, 1)), (69, (.lcmp, 1)), (70, (.ifCond .le 19, 3)), (73, (.lload 4, 2)), (75, (.ldc2_w 262, 3))] = true := zDs 38 (by decide +kernel)
theorem d_M_multiplies_38 : decode (zb m_M_multiplies) 38 = .ok (.aload_n 0, 1) := zdal_p dlC_M_multiplies_123 (i := 0) rfl
theorem d_M_multiplies_39 : decode (zb m_M_multiplies) 39 = .ok (.getfield 63, 3) := zdal_p dlC_M_multiplies_123 (i := 1) rfl
theorem d_M_multiplies_42 : decode (zb m_M_multiplies) 42 = .ok (.iload_n 1, 1) := zdal_p dlC_M_multiplies_123 (i := 2) rfl
theorem d_M_multiplies_43 : decode (zb m_M_multiplies) 43 = .ok (.laload, 1) := zdal_p dlC_M_multiplies_123 (i := 3) rfl
theorem d_M_multiplies_44 : decode (zb m_M_multiplies) 44 = .ok (.lconst 0, 1) := zdal_p dlC_M_multiplies_123 (i := 4) rfl
theorem d_M_multiplies_45 : decode (zb m_M_multiplies) 45 = .ok (.lcmp, 1) := zdal_p dlC_M_multiplies_123 (i := 5) rfl
theorem d_M_multiplies_46 : decode (zb m_M_multiplies) 46 = .ok (.ifCond .ge 13, 3) := zdal_p dlC_M_multiplies_123 (i := 6) rfl
theorem d_M_multiplies_49 : decode (zb m_M_multiplies) 49 = .ok (.aload_n 0, 1) := zdal_p dlC_M_multiplies_123 (i := 7) rfl
theorem d_M_multiplies_50 : decode (zb m_M_multiplies) 50 = .ok (.getfield 63, 3) := zdal_p dlC_M_multiplies_123 (i := 8) rfl
theorem d_M_multiplies_53 : decode (zb m_M_multiplies) 53 = .ok (.iload_n 1, 1) := zdal_p dlC_M_multiplies_123 (i := 9) rfl
theorem d_M_multiplies_54 : decode (zb m_M_multiplies) 54 = .ok (.laload, 1) := zdal_p dlC_M_multiplies_123 (i := 10) rfl
theorem d_M_multiplies_55 : decode (zb m_M_multiplies) 55 = .ok (.lneg, 1) := zdal_p dlC_M_multiplies_123 (i := 11) rfl
theorem d_M_multiplies_56 : decode (zb m_M_multiplies) 56 = .ok (.goto 9, 3) := zdal_p dlC_M_multiplies_123 (i := 12) rfl
theorem d_M_multiplies_59 : decode (zb m_M_multiplies) 59 = .ok (.aload_n 0, 1) := zdal_p dlC_M_multiplies_123 (i := 13) rfl
theorem d_M_multiplies_60 : decode (zb m_M_multiplies) 60 = .ok (.getfield 63, 3) := zdal_p dlC_M_multiplies_123 (i := 14) rfl
theorem d_M_multiplies_63 : decode (zb m_M_multiplies) 63 = .ok (.iload_n 1, 1) := zdal_p dlC_M_multiplies_123 (i := 15) rfl
theorem d_M_multiplies_64 : decode (zb m_M_multiplies) 64 = .ok (.laload, 1) := zdal_p dlC_M_multiplies_123 (i := 16) rfl
theorem d_M_multiplies_65 : decode (zb m_M_multiplies) 65 = .ok (.lstore 4, 2) := zdal_p dlC_M_multiplies_123 (i := 17) rfl
theorem d_M_multiplies_67 : decode (zb m_M_multiplies) 67 = .ok (.lload_n 2, 1) := zdal_p dlC_M_multiplies_123 (i := 18) rfl
theorem d_M_multiplies_68 : decode (zb m_M_multiplies) 68 = .ok (.lconst 0, 1) := zdal_p dlC_M_multiplies_123 (i := 19) rfl
theorem d_M_multiplies_69 : decode (zb m_M_multiplies) 69 = .ok (.lcmp, 1) := zdal_p dlC_M_multiplies_123 (i := 20) rfl
theorem d_M_multiplies_70 : decode (zb m_M_multiplies) 70 = .ok (.ifCond .le 19, 3) := zdal_p dlC_M_multiplies_123 (i := 21) rfl
theorem d_M_multiplies_73 : decode (zb m_M_multiplies) 73 = .ok (.lload 4, 2) := zdal_p dlC_M_multiplies_123 (i := 22) rfl
theorem d_M_multiplies_75 : decode (zb m_M_multiplies) 75 = .ok (.ldc2_w 262, 3) := zdal_p dlC_M_multiplies_123 (i := 23) rfl
theorem dlC_M_multiplies_124 : zdal (zb m_M_multiplies) [(78, (.lload_n 2, 1)), (79, (.ldiv, 1)), (80, (.lcmp, 1)), (81, (.ifCond .le 8, 3)), (84, (.aload_n 0, 1)), (85, (.iconst 1, 1)), (86, (.putfield 275, 3)), (89, (.aload_n 0, 1)), (90, (.getfield 60, 3)), (93, (.iload_n 1, 1)), (94, (.aload_n 0, 1)), (95, (.getfield 275, 3)), (98, (.ifCond .eq 7, 3)), (101, (.lconst 0, 1)), (102, (.goto 16, 3)), (105, (.aload_n 0, 1)), (106, (.getfield 60, 3)), (109, (.iload_n 1, 1)), (110, (.laload, 1)), (111, (.aload_n 0, 1)), (112, (.getfield 63, 3)), (115, (.iload_n 1, 1)), (116, (.laload, 1)), (117, (.lmul, 1))] = true := zDs 78 (by decide +kernel)
theorem d_M_multiplies_78 : decode (zb m_M_multiplies) 78 = .ok (.lload_n 2, 1) := zdal_p dlC_M_multiplies_124 (i := 0) rfl
theorem d_M_multiplies_79 : decode (zb m_M_multiplies) 79 = .ok (.ldiv, 1) := zdal_p dlC_M_multiplies_124 (i := 1) rfl
theorem d_M_multiplies_80 : decode (zb m_M_multiplies) 80 = .ok (.lcmp, 1) := zdal_p dlC_M_multiplies_124 (i := 2) rfl
theorem d_M_multiplies_81 : decode (zb m_M_multiplies) 81 = .ok (.ifCond .le 8, 3) := zdal_p dlC_M_multiplies_124 (i := 3) rfl
theorem d_M_multiplies_84 : decode (zb m_M_multiplies) 84 = .ok (.aload_n 0, 1) := zdal_p dlC_M_multiplies_124 (i := 4) rfl
theorem d_M_multiplies_85 : decode (zb m_M_multiplies) 85 = .ok (.iconst 1, 1) := zdal_p dlC_M_multiplies_124 (i := 5) rfl
theorem d_M_multiplies_86 : decode (zb m_M_multiplies) 86 = .ok (.putfield 275, 3) := zdal_p dlC_M_multiplies_124 (i := 6) rfl
theorem d_M_multiplies_89 : decode (zb m_M_multiplies) 89 = .ok (.aload_n 0, 1) := zdal_p dlC_M_multiplies_124 (i := 7) rfl
theorem d_M_multiplies_90 : decode (zb m_M_multiplies) 90 = .ok (.getfield 60, 3) := zdal_p dlC_M_multiplies_124 (i := 8) rfl
theorem d_M_multiplies_93 : decode (zb m_M_multiplies) 93 = .ok (.iload_n 1, 1) := zdal_p dlC_M_multiplies_124 (i := 9) rfl
theorem d_M_multiplies_94 : decode (zb m_M_multiplies) 94 = .ok (.aload_n 0, 1) := zdal_p dlC_M_multiplies_124 (i := 10) rfl
theorem d_M_multiplies_95 : decode (zb m_M_multiplies) 95 = .ok (.getfield 275, 3) := zdal_p dlC_M_multiplies_124 (i := 11) rfl
theorem d_M_multiplies_98 : decode (zb m_M_multiplies) 98 = .ok (.ifCond .eq 7, 3) := zdal_p dlC_M_multiplies_124 (i := 12) rfl
theorem d_M_multiplies_101 : decode (zb m_M_multiplies) 101 = .ok (.lconst 0, 1) := zdal_p dlC_M_multiplies_124 (i := 13) rfl
theorem d_M_multiplies_102 : decode (zb m_M_multiplies) 102 = .ok (.goto 16, 3) := zdal_p dlC_M_multiplies_124 (i := 14) rfl
theorem d_M_multiplies_105 : decode (zb m_M_multiplies) 105 = .ok (.aload_n 0, 1) := zdal_p dlC_M_multiplies_124 (i := 15) rfl
theorem d_M_multiplies_106 : decode (zb m_M_multiplies) 106 = .ok (.getfield 60, 3) := zdal_p dlC_M_multiplies_124 (i := 16) rfl
theorem d_M_multiplies_109 : decode (zb m_M_multiplies) 109 = .ok (.iload_n 1, 1) := zdal_p dlC_M_multiplies_124 (i := 17) rfl
theorem d_M_multiplies_110 : decode (zb m_M_multiplies) 110 = .ok (.laload, 1) := zdal_p dlC_M_multiplies_124 (i := 18) rfl
theorem d_M_multiplies_111 : decode (zb m_M_multiplies) 111 = .ok (.aload_n 0, 1) := zdal_p dlC_M_multiplies_124 (i := 19) rfl
theorem d_M_multiplies_112 : decode (zb m_M_multiplies) 112 = .ok (.getfield 63, 3) := zdal_p dlC_M_multiplies_124 (i := 20) rfl
theorem d_M_multiplies_115 : decode (zb m_M_multiplies) 115 = .ok (.iload_n 1, 1) := zdal_p dlC_M_multiplies_124 (i := 21) rfl
theorem d_M_multiplies_116 : decode (zb m_M_multiplies) 116 = .ok (.laload, 1) := zdal_p dlC_M_multiplies_124 (i := 22) rfl
theorem d_M_multiplies_117 : decode (zb m_M_multiplies) 117 = .ok (.lmul, 1) := zdal_p dlC_M_multiplies_124 (i := 23) rfl
theorem dlC_M_multiplies_125 : zdal (zb m_M_multiplies) [(118, (.lastore, 1)), (119, (.iinc 1 1, 3)), (122, (.goto (-120), 3)), (125, (.return_, 1))] = true := zDs 118 (by decide +kernel)
theorem d_M_multiplies_118 : decode (zb m_M_multiplies) 118 = .ok (.lastore, 1) := zdal_p dlC_M_multiplies_125 (i := 0) rfl
theorem d_M_multiplies_119 : decode (zb m_M_multiplies) 119 = .ok (.iinc 1 1, 3) := zdal_p dlC_M_multiplies_125 (i := 1) rfl
theorem d_M_multiplies_122 : decode (zb m_M_multiplies) 122 = .ok (.goto (-120), 3) := zdal_p dlC_M_multiplies_125 (i := 2) rfl
theorem d_M_multiplies_125 : decode (zb m_M_multiplies) 125 = .ok (.return_, 1) := zdal_p dlC_M_multiplies_125 (i := 3) rfl
theorem dlC_M_numbers_126 : zdal (zb m_M_numbers) [(0, (.aload_n 0, 1)), (1, (.getfield 235, 3)), (4, (.iconst 1, 1)), (5, (.isub, 1)), (6, (.istore 4, 2)), (8, (.iload 4, 2)), (10, (.ifCond .lt 85, 3)), (13, (.aload_n 1, 1)), (14, (.iload 4, 2)), (16, (.laload, 1)), (17, (.lstore 5, 2)), (19, (.iload 4, 2)), (21, (.iconst 1, 1)), (22, (.iadd, 1)), (23, (.istore 7, 2)), (25, (.iload 7, 2)), (27, (.aload_n 0, 1)), (28, (.getfield 235, 3)), (31, (.if_icmp .ge 35, 3)), (34, (.lload 5, 2)), (36, (.aload_n 2, 1)), (37, (.iload_n 3, 1)), (38, (.iload 7, 2)), (40, (.iadd, 1))] = true := zDs 0 (by decide +kernel)
theorem d_M_numbers_0 : decode (zb m_M_numbers) 0 = .ok (.aload_n 0, 1) := zdal_p dlC_M_numbers_126 (i := 0) rfl
theorem d_M_numbers_1 : decode (zb m_M_numbers) 1 = .ok (.getfield 235, 3) := zdal_p dlC_M_numbers_126 (i := 1) rfl
theorem d_M_numbers_4 : decode (zb m_M_numbers) 4 = .ok (.iconst 1, 1) := zdal_p dlC_M_numbers_126 (i := 2) rfl
theorem d_M_numbers_5 : decode (zb m_M_numbers) 5 = .ok (.isub, 1) := zdal_p dlC_M_numbers_126 (i := 3) rfl
theorem d_M_numbers_6 : decode (zb m_M_numbers) 6 = .ok (.istore 4, 2) := zdal_p dlC_M_numbers_126 (i := 4) rfl
theorem d_M_numbers_8 : decode (zb m_M_numbers) 8 = .ok (.iload 4, 2) := zdal_p dlC_M_numbers_126 (i := 5) rfl
theorem d_M_numbers_10 : decode (zb m_M_numbers) 10 = .ok (.ifCond .lt 85, 3) := zdal_p dlC_M_numbers_126 (i := 6) rfl
theorem d_M_numbers_13 : decode (zb m_M_numbers) 13 = .ok (.aload_n 1, 1) := zdal_p dlC_M_numbers_126 (i := 7) rfl
theorem d_M_numbers_14 : decode (zb m_M_numbers) 14 = .ok (.iload 4, 2) := zdal_p dlC_M_numbers_126 (i := 8) rfl
theorem d_M_numbers_16 : decode (zb m_M_numbers) 16 = .ok (.laload, 1) := zdal_p dlC_M_numbers_126 (i := 9) rfl
theorem d_M_numbers_17 : decode (zb m_M_numbers) 17 = .ok (.lstore 5, 2) := zdal_p dlC_M_numbers_126 (i := 10) rfl
theorem d_M_numbers_19 : decode (zb m_M_numbers) 19 = .ok (.iload 4, 2) := zdal_p dlC_M_numbers_126 (i := 11) rfl
theorem d_M_numbers_21 : decode (zb m_M_numbers) 21 = .ok (.iconst 1, 1) := zdal_p dlC_M_numbers_126 (i := 12) rfl
theorem d_M_numbers_22 : decode (zb m_M_numbers) 22 = .ok (.iadd, 1) := zdal_p dlC_M_numbers_126 (i := 13) rfl
theorem d_M_numbers_23 : decode (zb m_M_numbers) 23 = .ok (.istore 7, 2) := zdal_p dlC_M_numbers_126 (i := 14) rfl
theorem d_M_numbers_25 : decode (zb m_M_numbers) 25 = .ok (.iload 7, 2) := zdal_p dlC_M_numbers_126 (i := 15) rfl
theorem d_M_numbers_27 : decode (zb m_M_numbers) 27 = .ok (.aload_n 0, 1) := zdal_p dlC_M_numbers_126 (i := 16) rfl
theorem d_M_numbers_28 : decode (zb m_M_numbers) 28 = .ok (.getfield 235, 3) := zdal_p dlC_M_numbers_126 (i := 17) rfl
theorem d_M_numbers_31 : decode (zb m_M_numbers) 31 = .ok (.if_icmp .ge 35, 3) := zdal_p dlC_M_numbers_126 (i := 18) rfl
theorem d_M_numbers_34 : decode (zb m_M_numbers) 34 = .ok (.lload 5, 2) := zdal_p dlC_M_numbers_126 (i := 19) rfl
theorem d_M_numbers_36 : decode (zb m_M_numbers) 36 = .ok (.aload_n 2, 1) := zdal_p dlC_M_numbers_126 (i := 20) rfl
theorem d_M_numbers_37 : decode (zb m_M_numbers) 37 = .ok (.iload_n 3, 1) := zdal_p dlC_M_numbers_126 (i := 21) rfl
theorem d_M_numbers_38 : decode (zb m_M_numbers) 38 = .ok (.iload 7, 2) := zdal_p dlC_M_numbers_126 (i := 22) rfl
theorem d_M_numbers_40 : decode (zb m_M_numbers) 40 = .ok (.iadd, 1) := zdal_p dlC_M_numbers_126 (i := 23) rfl
theorem dlC_M_numbers_127 : zdal (zb m_M_numbers) [(41, (.laload, 1)), (42, (.aload_n 0, 1)), (43, (.getfield 50, 3)), (46, (.bipush 64, 2)), (48, (.iload 7, 2)), (50, (.imul, 1)), (51, (.iload 4, 2)), (53, (.iadd, 1)), (54, (.iaload, 1)), (55, (.i2l, 1)), (56, (.lmul, 1)), (57, (.lsub, 1)), (58, (.lstore 5, 2)), (60, (.iinc 7 1, 3)), (63, (.goto (-38), 3)), (66, (.aload_n 2, 1)), (67, (.iload_n 3, 1)), (68, (.iload 4, 2)), (70, (.iadd, 1)), (71, (.lload 5, 2)), (73, (.aload_n 0, 1)), (74, (.getfield 50, 3)), (77, (.bipush 64, 2)), (79, (.iload 4, 2))] = true := zDs 41 (by decide +kernel)
theorem d_M_numbers_41 : decode (zb m_M_numbers) 41 = .ok (.laload, 1) := zdal_p dlC_M_numbers_127 (i := 0) rfl
theorem d_M_numbers_42 : decode (zb m_M_numbers) 42 = .ok (.aload_n 0, 1) := zdal_p dlC_M_numbers_127 (i := 1) rfl
theorem d_M_numbers_43 : decode (zb m_M_numbers) 43 = .ok (.getfield 50, 3) := zdal_p dlC_M_numbers_127 (i := 2) rfl
theorem d_M_numbers_46 : decode (zb m_M_numbers) 46 = .ok (.bipush 64, 2) := zdal_p dlC_M_numbers_127 (i := 3) rfl
theorem d_M_numbers_48 : decode (zb m_M_numbers) 48 = .ok (.iload 7, 2) := zdal_p dlC_M_numbers_127 (i := 4) rfl
theorem d_M_numbers_50 : decode (zb m_M_numbers) 50 = .ok (.imul, 1) := zdal_p dlC_M_numbers_127 (i := 5) rfl
theorem d_M_numbers_51 : decode (zb m_M_numbers) 51 = .ok (.iload 4, 2) := zdal_p dlC_M_numbers_127 (i := 6) rfl
theorem d_M_numbers_53 : decode (zb m_M_numbers) 53 = .ok (.iadd, 1) := zdal_p dlC_M_numbers_127 (i := 7) rfl
theorem d_M_numbers_54 : decode (zb m_M_numbers) 54 = .ok (.iaload, 1) := zdal_p dlC_M_numbers_127 (i := 8) rfl
theorem d_M_numbers_55 : decode (zb m_M_numbers) 55 = .ok (.i2l, 1) := zdal_p dlC_M_numbers_127 (i := 9) rfl
theorem d_M_numbers_56 : decode (zb m_M_numbers) 56 = .ok (.lmul, 1) := zdal_p dlC_M_numbers_127 (i := 10) rfl
theorem d_M_numbers_57 : decode (zb m_M_numbers) 57 = .ok (.lsub, 1) := zdal_p dlC_M_numbers_127 (i := 11) rfl
theorem d_M_numbers_58 : decode (zb m_M_numbers) 58 = .ok (.lstore 5, 2) := zdal_p dlC_M_numbers_127 (i := 12) rfl
theorem d_M_numbers_60 : decode (zb m_M_numbers) 60 = .ok (.iinc 7 1, 3) := zdal_p dlC_M_numbers_127 (i := 13) rfl
theorem d_M_numbers_63 : decode (zb m_M_numbers) 63 = .ok (.goto (-38), 3) := zdal_p dlC_M_numbers_127 (i := 14) rfl
theorem d_M_numbers_66 : decode (zb m_M_numbers) 66 = .ok (.aload_n 2, 1) := zdal_p dlC_M_numbers_127 (i := 15) rfl
theorem d_M_numbers_67 : decode (zb m_M_numbers) 67 = .ok (.iload_n 3, 1) := zdal_p dlC_M_numbers_127 (i := 16) rfl
theorem d_M_numbers_68 : decode (zb m_M_numbers) 68 = .ok (.iload 4, 2) := zdal_p dlC_M_numbers_127 (i := 17) rfl
theorem d_M_numbers_70 : decode (zb m_M_numbers) 70 = .ok (.iadd, 1) := zdal_p dlC_M_numbers_127 (i := 18) rfl
theorem d_M_numbers_71 : decode (zb m_M_numbers) 71 = .ok (.lload 5, 2) := zdal_p dlC_M_numbers_127 (i := 19) rfl
theorem d_M_numbers_73 : decode (zb m_M_numbers) 73 = .ok (.aload_n 0, 1) := zdal_p dlC_M_numbers_127 (i := 20) rfl
theorem d_M_numbers_74 : decode (zb m_M_numbers) 74 = .ok (.getfield 50, 3) := zdal_p dlC_M_numbers_127 (i := 21) rfl
theorem d_M_numbers_77 : decode (zb m_M_numbers) 77 = .ok (.bipush 64, 2) := zdal_p dlC_M_numbers_127 (i := 22) rfl
theorem d_M_numbers_79 : decode (zb m_M_numbers) 79 = .ok (.iload 4, 2) := zdal_p dlC_M_numbers_127 (i := 23) rfl
theorem dlC_M_numbers_128 : zdal (zb m_M_numbers) [(81, (.imul, 1)), (82, (.iload 4, 2)), (84, (.iadd, 1)), (85, (.iaload, 1)), (86, (.i2l, 1)), (87, (.ldiv, 1)), (88, (.lastore, 1)), (89, (.iinc 4 (-1), 3)), (92, (.goto (-84), 3)), (95, (.return_, 1))] = true := zDs 81 (by decide +kernel)
theorem d_M_numbers_81 : decode (zb m_M_numbers) 81 = .ok (.imul, 1) := zdal_p dlC_M_numbers_128 (i := 0) rfl
theorem d_M_numbers_82 : decode (zb m_M_numbers) 82 = .ok (.iload 4, 2) := zdal_p dlC_M_numbers_128 (i := 1) rfl
theorem d_M_numbers_84 : decode (zb m_M_numbers) 84 = .ok (.iadd, 1) := zdal_p dlC_M_numbers_128 (i := 2) rfl
theorem d_M_numbers_85 : decode (zb m_M_numbers) 85 = .ok (.iaload, 1) := zdal_p dlC_M_numbers_128 (i := 3) rfl
theorem d_M_numbers_86 : decode (zb m_M_numbers) 86 = .ok (.i2l, 1) := zdal_p dlC_M_numbers_128 (i := 4) rfl
theorem d_M_numbers_87 : decode (zb m_M_numbers) 87 = .ok (.ldiv, 1) := zdal_p dlC_M_numbers_128 (i := 5) rfl
theorem d_M_numbers_88 : decode (zb m_M_numbers) 88 = .ok (.lastore, 1) := zdal_p dlC_M_numbers_128 (i := 6) rfl
theorem d_M_numbers_89 : decode (zb m_M_numbers) 89 = .ok (.iinc 4 (-1), 3) := zdal_p dlC_M_numbers_128 (i := 7) rfl
theorem d_M_numbers_92 : decode (zb m_M_numbers) 92 = .ok (.goto (-84), 3) := zdal_p dlC_M_numbers_128 (i := 8) rfl
theorem d_M_numbers_95 : decode (zb m_M_numbers) 95 = .ok (.return_, 1) := zdal_p dlC_M_numbers_128 (i := 9) rfl
theorem dlC_M_negates_129 : zdal (zb m_M_negates) [(0, (.iconst 0, 1)), (1, (.istore_n 1, 1)), (2, (.iload_n 1, 1)), (3, (.aload_n 0, 1)), (4, (.getfield 235, 3)), (7, (.if_icmp .ge 42, 3)), (10, (.aload_n 0, 1)), (11, (.getfield 56, 3)), (14, (.bipush 64, 2)), (16, (.aload_n 0, 1)), (17, (.getfield 268, 3)), (20, (.iconst 1, 1)), (21, (.isub, 1)), (22, (.imul, 1)), (23, (.iload_n 1, 1)), (24, (.iadd, 1)), (25, (.aload_n 0, 1)), (26, (.getfield 56, 3)), (29, (.bipush 64, 2)), (31, (.aload_n 0, 1)), (32, (.getfield 268, 3)), (35, (.iconst 1, 1)), (36, (.isub, 1)), (37, (.imul, 1))] = true := zDs 0 (by decide +kernel)
theorem d_M_negates_0 : decode (zb m_M_negates) 0 = .ok (.iconst 0, 1) := zdal_p dlC_M_negates_129 (i := 0) rfl
theorem d_M_negates_1 : decode (zb m_M_negates) 1 = .ok (.istore_n 1, 1) := zdal_p dlC_M_negates_129 (i := 1) rfl
theorem d_M_negates_2 : decode (zb m_M_negates) 2 = .ok (.iload_n 1, 1) := zdal_p dlC_M_negates_129 (i := 2) rfl
theorem d_M_negates_3 : decode (zb m_M_negates) 3 = .ok (.aload_n 0, 1) := zdal_p dlC_M_negates_129 (i := 3) rfl
theorem d_M_negates_4 : decode (zb m_M_negates) 4 = .ok (.getfield 235, 3) := zdal_p dlC_M_negates_129 (i := 4) rfl
theorem d_M_negates_7 : decode (zb m_M_negates) 7 = .ok (.if_icmp .ge 42, 3) := zdal_p dlC_M_negates_129 (i := 5) rfl
theorem d_M_negates_10 : decode (zb m_M_negates) 10 = .ok (.aload_n 0, 1) := zdal_p dlC_M_negates_129 (i := 6) rfl
theorem d_M_negates_11 : decode (zb m_M_negates) 11 = .ok (.getfield 56, 3) := zdal_p dlC_M_negates_129 (i := 7) rfl
theorem d_M_negates_14 : decode (zb m_M_negates) 14 = .ok (.bipush 64, 2) := zdal_p dlC_M_negates_129 (i := 8) rfl
theorem d_M_negates_16 : decode (zb m_M_negates) 16 = .ok (.aload_n 0, 1) := zdal_p dlC_M_negates_129 (i := 9) rfl
theorem d_M_negates_17 : decode (zb m_M_negates) 17 = .ok (.getfield 268, 3) := zdal_p dlC_M_negates_129 (i := 10) rfl
theorem d_M_negates_20 : decode (zb m_M_negates) 20 = .ok (.iconst 1, 1) := zdal_p dlC_M_negates_129 (i := 11) rfl
theorem d_M_negates_21 : decode (zb m_M_negates) 21 = .ok (.isub, 1) := zdal_p dlC_M_negates_129 (i := 12) rfl
theorem d_M_negates_22 : decode (zb m_M_negates) 22 = .ok (.imul, 1) := zdal_p dlC_M_negates_129 (i := 13) rfl
theorem d_M_negates_23 : decode (zb m_M_negates) 23 = .ok (.iload_n 1, 1) := zdal_p dlC_M_negates_129 (i := 14) rfl
theorem d_M_negates_24 : decode (zb m_M_negates) 24 = .ok (.iadd, 1) := zdal_p dlC_M_negates_129 (i := 15) rfl
theorem d_M_negates_25 : decode (zb m_M_negates) 25 = .ok (.aload_n 0, 1) := zdal_p dlC_M_negates_129 (i := 16) rfl
theorem d_M_negates_26 : decode (zb m_M_negates) 26 = .ok (.getfield 56, 3) := zdal_p dlC_M_negates_129 (i := 17) rfl
theorem d_M_negates_29 : decode (zb m_M_negates) 29 = .ok (.bipush 64, 2) := zdal_p dlC_M_negates_129 (i := 18) rfl
theorem d_M_negates_31 : decode (zb m_M_negates) 31 = .ok (.aload_n 0, 1) := zdal_p dlC_M_negates_129 (i := 19) rfl
theorem d_M_negates_32 : decode (zb m_M_negates) 32 = .ok (.getfield 268, 3) := zdal_p dlC_M_negates_129 (i := 20) rfl
theorem d_M_negates_35 : decode (zb m_M_negates) 35 = .ok (.iconst 1, 1) := zdal_p dlC_M_negates_129 (i := 21) rfl
theorem d_M_negates_36 : decode (zb m_M_negates) 36 = .ok (.isub, 1) := zdal_p dlC_M_negates_129 (i := 22) rfl
theorem d_M_negates_37 : decode (zb m_M_negates) 37 = .ok (.imul, 1) := zdal_p dlC_M_negates_129 (i := 23) rfl
theorem dlC_M_negates_130 : zdal (zb m_M_negates) [(38, (.iload_n 1, 1)), (39, (.iadd, 1)), (40, (.laload, 1)), (41, (.lneg, 1)), (42, (.lastore, 1)), (43, (.iinc 1 1, 3)), (46, (.goto (-44), 3)), (49, (.return_, 1))] = true := zDs 38 (by decide +kernel)
theorem d_M_negates_38 : decode (zb m_M_negates) 38 = .ok (.iload_n 1, 1) := zdal_p dlC_M_negates_130 (i := 0) rfl
theorem d_M_negates_39 : decode (zb m_M_negates) 39 = .ok (.iadd, 1) := zdal_p dlC_M_negates_130 (i := 1) rfl
theorem d_M_negates_40 : decode (zb m_M_negates) 40 = .ok (.laload, 1) := zdal_p dlC_M_negates_130 (i := 2) rfl
theorem d_M_negates_41 : decode (zb m_M_negates) 41 = .ok (.lneg, 1) := zdal_p dlC_M_negates_130 (i := 3) rfl
theorem d_M_negates_42 : decode (zb m_M_negates) 42 = .ok (.lastore, 1) := zdal_p dlC_M_negates_130 (i := 4) rfl
theorem d_M_negates_43 : decode (zb m_M_negates) 43 = .ok (.iinc 1 1, 3) := zdal_p dlC_M_negates_130 (i := 5) rfl
theorem d_M_negates_46 : decode (zb m_M_negates) 46 = .ok (.goto (-44), 3) := zdal_p dlC_M_negates_130 (i := 6) rfl
theorem d_M_negates_49 : decode (zb m_M_negates) 49 = .ok (.return_, 1) := zdal_p dlC_M_negates_130 (i := 7) rfl
theorem dlC_M_goesOn_131 : zdal (zb m_M_goesOn) [(0, (.aload_n 0, 1)), (1, (.bipush 42, 2)), (3, (.invokevirtual 187, 3)), (6, (.ifCond .eq 10, 3)), (9, (.aload_n 0, 1)), (10, (.iconst 4, 1)), (11, (.invokevirtual 340, 3)), (14, (.iconst 1, 1)), (15, (.ireturn, 1)), (16, (.aload_n 0, 1)), (17, (.bipush 43, 2)), (19, (.invokevirtual 187, 3)), (22, (.ifCond .ne 12, 3)), (25, (.aload_n 0, 1)), (26, (.bipush 45, 2)), (28, (.invokevirtual 187, 3)), (31, (.ifCond .eq 23, 3)), (34, (.aload_n 0, 1)), (35, (.aload_n 0, 1)), (36, (.getfield 152, 3)), (39, (.bipush 43, 2)), (41, (.if_icmp .ne 7, 3)), (44, (.iconst 2, 1)), (45, (.goto 4, 3))] = true := zDs 0 (by decide +kernel)
theorem d_M_goesOn_0 : decode (zb m_M_goesOn) 0 = .ok (.aload_n 0, 1) := zdal_p dlC_M_goesOn_131 (i := 0) rfl
theorem d_M_goesOn_1 : decode (zb m_M_goesOn) 1 = .ok (.bipush 42, 2) := zdal_p dlC_M_goesOn_131 (i := 1) rfl
theorem d_M_goesOn_3 : decode (zb m_M_goesOn) 3 = .ok (.invokevirtual 187, 3) := zdal_p dlC_M_goesOn_131 (i := 2) rfl
theorem d_M_goesOn_6 : decode (zb m_M_goesOn) 6 = .ok (.ifCond .eq 10, 3) := zdal_p dlC_M_goesOn_131 (i := 3) rfl
theorem d_M_goesOn_9 : decode (zb m_M_goesOn) 9 = .ok (.aload_n 0, 1) := zdal_p dlC_M_goesOn_131 (i := 4) rfl
theorem d_M_goesOn_10 : decode (zb m_M_goesOn) 10 = .ok (.iconst 4, 1) := zdal_p dlC_M_goesOn_131 (i := 5) rfl
theorem d_M_goesOn_11 : decode (zb m_M_goesOn) 11 = .ok (.invokevirtual 340, 3) := zdal_p dlC_M_goesOn_131 (i := 6) rfl
theorem d_M_goesOn_14 : decode (zb m_M_goesOn) 14 = .ok (.iconst 1, 1) := zdal_p dlC_M_goesOn_131 (i := 7) rfl
theorem d_M_goesOn_15 : decode (zb m_M_goesOn) 15 = .ok (.ireturn, 1) := zdal_p dlC_M_goesOn_131 (i := 8) rfl
theorem d_M_goesOn_16 : decode (zb m_M_goesOn) 16 = .ok (.aload_n 0, 1) := zdal_p dlC_M_goesOn_131 (i := 9) rfl
theorem d_M_goesOn_17 : decode (zb m_M_goesOn) 17 = .ok (.bipush 43, 2) := zdal_p dlC_M_goesOn_131 (i := 10) rfl
theorem d_M_goesOn_19 : decode (zb m_M_goesOn) 19 = .ok (.invokevirtual 187, 3) := zdal_p dlC_M_goesOn_131 (i := 11) rfl
theorem d_M_goesOn_22 : decode (zb m_M_goesOn) 22 = .ok (.ifCond .ne 12, 3) := zdal_p dlC_M_goesOn_131 (i := 12) rfl
theorem d_M_goesOn_25 : decode (zb m_M_goesOn) 25 = .ok (.aload_n 0, 1) := zdal_p dlC_M_goesOn_131 (i := 13) rfl
theorem d_M_goesOn_26 : decode (zb m_M_goesOn) 26 = .ok (.bipush 45, 2) := zdal_p dlC_M_goesOn_131 (i := 14) rfl
theorem d_M_goesOn_28 : decode (zb m_M_goesOn) 28 = .ok (.invokevirtual 187, 3) := zdal_p dlC_M_goesOn_131 (i := 15) rfl
theorem d_M_goesOn_31 : decode (zb m_M_goesOn) 31 = .ok (.ifCond .eq 23, 3) := zdal_p dlC_M_goesOn_131 (i := 16) rfl
theorem d_M_goesOn_34 : decode (zb m_M_goesOn) 34 = .ok (.aload_n 0, 1) := zdal_p dlC_M_goesOn_131 (i := 17) rfl
theorem d_M_goesOn_35 : decode (zb m_M_goesOn) 35 = .ok (.aload_n 0, 1) := zdal_p dlC_M_goesOn_131 (i := 18) rfl
theorem d_M_goesOn_36 : decode (zb m_M_goesOn) 36 = .ok (.getfield 152, 3) := zdal_p dlC_M_goesOn_131 (i := 19) rfl
theorem d_M_goesOn_39 : decode (zb m_M_goesOn) 39 = .ok (.bipush 43, 2) := zdal_p dlC_M_goesOn_131 (i := 20) rfl
theorem d_M_goesOn_41 : decode (zb m_M_goesOn) 41 = .ok (.if_icmp .ne 7, 3) := zdal_p dlC_M_goesOn_131 (i := 21) rfl
theorem d_M_goesOn_44 : decode (zb m_M_goesOn) 44 = .ok (.iconst 2, 1) := zdal_p dlC_M_goesOn_131 (i := 22) rfl
theorem d_M_goesOn_45 : decode (zb m_M_goesOn) 45 = .ok (.goto 4, 3) := zdal_p dlC_M_goesOn_131 (i := 23) rfl
theorem dlC_M_goesOn_132 : zdal (zb m_M_goesOn) [(48, (.iconst 3, 1)), (49, (.invokevirtual 340, 3)), (52, (.iconst 1, 1)), (53, (.ireturn, 1)), (54, (.iconst 0, 1)), (55, (.ireturn, 1))] = true := zDs 48 (by decide +kernel)
theorem d_M_goesOn_48 : decode (zb m_M_goesOn) 48 = .ok (.iconst 3, 1) := zdal_p dlC_M_goesOn_132 (i := 0) rfl
theorem d_M_goesOn_49 : decode (zb m_M_goesOn) 49 = .ok (.invokevirtual 340, 3) := zdal_p dlC_M_goesOn_132 (i := 1) rfl
theorem d_M_goesOn_52 : decode (zb m_M_goesOn) 52 = .ok (.iconst 1, 1) := zdal_p dlC_M_goesOn_132 (i := 2) rfl
theorem d_M_goesOn_53 : decode (zb m_M_goesOn) 53 = .ok (.ireturn, 1) := zdal_p dlC_M_goesOn_132 (i := 3) rfl
theorem d_M_goesOn_54 : decode (zb m_M_goesOn) 54 = .ok (.iconst 0, 1) := zdal_p dlC_M_goesOn_132 (i := 4) rfl
theorem d_M_goesOn_55 : decode (zb m_M_goesOn) 55 = .ok (.ireturn, 1) := zdal_p dlC_M_goesOn_132 (i := 5) rfl
theorem dlC_M_waitsFor_133 : zdal (zb m_M_waitsFor) [(0, (.aload_n 0, 1)), (1, (.iload_n 1, 1)), (2, (.iconst 4, 1)), (3, (.if_icmp .ne 7, 3)), (6, (.iconst 4, 1)), (7, (.goto 4, 3)), (10, (.iconst 2, 1)), (11, (.invokevirtual 337, 3)), (14, (.aload_n 0, 1)), (15, (.getfield 72, 3)), (18, (.aload_n 0, 1)), (19, (.getfield 305, 3)), (22, (.iload_n 1, 1)), (23, (.iastore, 1)), (24, (.aload_n 0, 1)), (25, (.dup, 1)), (26, (.getfield 305, 3)), (29, (.iconst 1, 1)), (30, (.iadd, 1)), (31, (.putfield 305, 3)), (34, (.aload_n 0, 1)), (35, (.invokevirtual 193, 3)), (38, (.return_, 1))] = true := zDs 0 (by decide +kernel)
theorem d_M_waitsFor_0 : decode (zb m_M_waitsFor) 0 = .ok (.aload_n 0, 1) := zdal_p dlC_M_waitsFor_133 (i := 0) rfl
theorem d_M_waitsFor_1 : decode (zb m_M_waitsFor) 1 = .ok (.iload_n 1, 1) := zdal_p dlC_M_waitsFor_133 (i := 1) rfl
theorem d_M_waitsFor_2 : decode (zb m_M_waitsFor) 2 = .ok (.iconst 4, 1) := zdal_p dlC_M_waitsFor_133 (i := 2) rfl
theorem d_M_waitsFor_3 : decode (zb m_M_waitsFor) 3 = .ok (.if_icmp .ne 7, 3) := zdal_p dlC_M_waitsFor_133 (i := 3) rfl
theorem d_M_waitsFor_6 : decode (zb m_M_waitsFor) 6 = .ok (.iconst 4, 1) := zdal_p dlC_M_waitsFor_133 (i := 4) rfl
theorem d_M_waitsFor_7 : decode (zb m_M_waitsFor) 7 = .ok (.goto 4, 3) := zdal_p dlC_M_waitsFor_133 (i := 5) rfl
theorem d_M_waitsFor_10 : decode (zb m_M_waitsFor) 10 = .ok (.iconst 2, 1) := zdal_p dlC_M_waitsFor_133 (i := 6) rfl
theorem d_M_waitsFor_11 : decode (zb m_M_waitsFor) 11 = .ok (.invokevirtual 337, 3) := zdal_p dlC_M_waitsFor_133 (i := 7) rfl
theorem d_M_waitsFor_14 : decode (zb m_M_waitsFor) 14 = .ok (.aload_n 0, 1) := zdal_p dlC_M_waitsFor_133 (i := 8) rfl
theorem d_M_waitsFor_15 : decode (zb m_M_waitsFor) 15 = .ok (.getfield 72, 3) := zdal_p dlC_M_waitsFor_133 (i := 9) rfl
theorem d_M_waitsFor_18 : decode (zb m_M_waitsFor) 18 = .ok (.aload_n 0, 1) := zdal_p dlC_M_waitsFor_133 (i := 10) rfl
theorem d_M_waitsFor_19 : decode (zb m_M_waitsFor) 19 = .ok (.getfield 305, 3) := zdal_p dlC_M_waitsFor_133 (i := 11) rfl
theorem d_M_waitsFor_22 : decode (zb m_M_waitsFor) 22 = .ok (.iload_n 1, 1) := zdal_p dlC_M_waitsFor_133 (i := 12) rfl
theorem d_M_waitsFor_23 : decode (zb m_M_waitsFor) 23 = .ok (.iastore, 1) := zdal_p dlC_M_waitsFor_133 (i := 13) rfl
theorem d_M_waitsFor_24 : decode (zb m_M_waitsFor) 24 = .ok (.aload_n 0, 1) := zdal_p dlC_M_waitsFor_133 (i := 14) rfl
theorem d_M_waitsFor_25 : decode (zb m_M_waitsFor) 25 = .ok (.dup, 1) := zdal_p dlC_M_waitsFor_133 (i := 15) rfl
theorem d_M_waitsFor_26 : decode (zb m_M_waitsFor) 26 = .ok (.getfield 305, 3) := zdal_p dlC_M_waitsFor_133 (i := 16) rfl
theorem d_M_waitsFor_29 : decode (zb m_M_waitsFor) 29 = .ok (.iconst 1, 1) := zdal_p dlC_M_waitsFor_133 (i := 17) rfl
theorem d_M_waitsFor_30 : decode (zb m_M_waitsFor) 30 = .ok (.iadd, 1) := zdal_p dlC_M_waitsFor_133 (i := 18) rfl
theorem d_M_waitsFor_31 : decode (zb m_M_waitsFor) 31 = .ok (.putfield 305, 3) := zdal_p dlC_M_waitsFor_133 (i := 19) rfl
theorem d_M_waitsFor_34 : decode (zb m_M_waitsFor) 34 = .ok (.aload_n 0, 1) := zdal_p dlC_M_waitsFor_133 (i := 20) rfl
theorem d_M_waitsFor_35 : decode (zb m_M_waitsFor) 35 = .ok (.invokevirtual 193, 3) := zdal_p dlC_M_waitsFor_133 (i := 21) rfl
theorem d_M_waitsFor_38 : decode (zb m_M_waitsFor) 38 = .ok (.return_, 1) := zdal_p dlC_M_waitsFor_133 (i := 22) rfl
theorem dlC_M_works_134 : zdal (zb m_M_works) [(0, (.aload_n 0, 1)), (1, (.getfield 305, 3)), (4, (.ifCond .le 69, 3)), (7, (.aload_n 0, 1)), (8, (.getfield 72, 3)), (11, (.aload_n 0, 1)), (12, (.getfield 305, 3)), (15, (.iconst 1, 1)), (16, (.isub, 1)), (17, (.iaload, 1)), (18, (.iload_n 1, 1)), (19, (.if_icmp .lt 54, 3)), (22, (.aload_n 0, 1)), (23, (.getfield 72, 3)), (26, (.aload_n 0, 1)), (27, (.getfield 305, 3)), (30, (.iconst 1, 1)), (31, (.isub, 1)), (32, (.iaload, 1)), (33, (.istore_n 2, 1)), (34, (.aload_n 0, 1)), (35, (.dup, 1)), (36, (.getfield 305, 3)), (39, (.iconst 1, 1))] = true := zDs 0 (by decide +kernel)
theorem d_M_works_0 : decode (zb m_M_works) 0 = .ok (.aload_n 0, 1) := zdal_p dlC_M_works_134 (i := 0) rfl
theorem d_M_works_1 : decode (zb m_M_works) 1 = .ok (.getfield 305, 3) := zdal_p dlC_M_works_134 (i := 1) rfl
theorem d_M_works_4 : decode (zb m_M_works) 4 = .ok (.ifCond .le 69, 3) := zdal_p dlC_M_works_134 (i := 2) rfl
theorem d_M_works_7 : decode (zb m_M_works) 7 = .ok (.aload_n 0, 1) := zdal_p dlC_M_works_134 (i := 3) rfl
theorem d_M_works_8 : decode (zb m_M_works) 8 = .ok (.getfield 72, 3) := zdal_p dlC_M_works_134 (i := 4) rfl
theorem d_M_works_11 : decode (zb m_M_works) 11 = .ok (.aload_n 0, 1) := zdal_p dlC_M_works_134 (i := 5) rfl
theorem d_M_works_12 : decode (zb m_M_works) 12 = .ok (.getfield 305, 3) := zdal_p dlC_M_works_134 (i := 6) rfl
theorem d_M_works_15 : decode (zb m_M_works) 15 = .ok (.iconst 1, 1) := zdal_p dlC_M_works_134 (i := 7) rfl
theorem d_M_works_16 : decode (zb m_M_works) 16 = .ok (.isub, 1) := zdal_p dlC_M_works_134 (i := 8) rfl
theorem d_M_works_17 : decode (zb m_M_works) 17 = .ok (.iaload, 1) := zdal_p dlC_M_works_134 (i := 9) rfl
theorem d_M_works_18 : decode (zb m_M_works) 18 = .ok (.iload_n 1, 1) := zdal_p dlC_M_works_134 (i := 10) rfl
theorem d_M_works_19 : decode (zb m_M_works) 19 = .ok (.if_icmp .lt 54, 3) := zdal_p dlC_M_works_134 (i := 11) rfl
theorem d_M_works_22 : decode (zb m_M_works) 22 = .ok (.aload_n 0, 1) := zdal_p dlC_M_works_134 (i := 12) rfl
theorem d_M_works_23 : decode (zb m_M_works) 23 = .ok (.getfield 72, 3) := zdal_p dlC_M_works_134 (i := 13) rfl
theorem d_M_works_26 : decode (zb m_M_works) 26 = .ok (.aload_n 0, 1) := zdal_p dlC_M_works_134 (i := 14) rfl
theorem d_M_works_27 : decode (zb m_M_works) 27 = .ok (.getfield 305, 3) := zdal_p dlC_M_works_134 (i := 15) rfl
theorem d_M_works_30 : decode (zb m_M_works) 30 = .ok (.iconst 1, 1) := zdal_p dlC_M_works_134 (i := 16) rfl
theorem d_M_works_31 : decode (zb m_M_works) 31 = .ok (.isub, 1) := zdal_p dlC_M_works_134 (i := 17) rfl
theorem d_M_works_32 : decode (zb m_M_works) 32 = .ok (.iaload, 1) := zdal_p dlC_M_works_134 (i := 18) rfl
theorem d_M_works_33 : decode (zb m_M_works) 33 = .ok (.istore_n 2, 1) := zdal_p dlC_M_works_134 (i := 19) rfl
theorem d_M_works_34 : decode (zb m_M_works) 34 = .ok (.aload_n 0, 1) := zdal_p dlC_M_works_134 (i := 20) rfl
theorem d_M_works_35 : decode (zb m_M_works) 35 = .ok (.dup, 1) := zdal_p dlC_M_works_134 (i := 21) rfl
theorem d_M_works_36 : decode (zb m_M_works) 36 = .ok (.getfield 305, 3) := zdal_p dlC_M_works_134 (i := 22) rfl
theorem d_M_works_39 : decode (zb m_M_works) 39 = .ok (.iconst 1, 1) := zdal_p dlC_M_works_134 (i := 23) rfl
theorem dlC_M_works_135 : zdal (zb m_M_works) [(40, (.isub, 1)), (41, (.putfield 305, 3)), (44, (.iload_n 2, 1)), (45, (.iconst 4, 1)), (46, (.if_icmp .ne 10, 3)), (49, (.aload_n 0, 1)), (50, (.invokevirtual 331, 3)), (53, (.goto 17, 3)), (56, (.aload_n 0, 1)), (57, (.iload_n 2, 1)), (58, (.iconst 2, 1)), (59, (.if_icmp .ne 7, 3)), (62, (.iconst 1, 1)), (63, (.goto 4, 3)), (66, (.iconst (-1), 1)), (67, (.invokevirtual 334, 3)), (70, (.goto (-70), 3)), (73, (.return_, 1))] = true := zDs 40 (by decide +kernel)
theorem d_M_works_40 : decode (zb m_M_works) 40 = .ok (.isub, 1) := zdal_p dlC_M_works_135 (i := 0) rfl
theorem d_M_works_41 : decode (zb m_M_works) 41 = .ok (.putfield 305, 3) := zdal_p dlC_M_works_135 (i := 1) rfl
theorem d_M_works_44 : decode (zb m_M_works) 44 = .ok (.iload_n 2, 1) := zdal_p dlC_M_works_135 (i := 2) rfl
theorem d_M_works_45 : decode (zb m_M_works) 45 = .ok (.iconst 4, 1) := zdal_p dlC_M_works_135 (i := 3) rfl
theorem d_M_works_46 : decode (zb m_M_works) 46 = .ok (.if_icmp .ne 10, 3) := zdal_p dlC_M_works_135 (i := 4) rfl
theorem d_M_works_49 : decode (zb m_M_works) 49 = .ok (.aload_n 0, 1) := zdal_p dlC_M_works_135 (i := 5) rfl
theorem d_M_works_50 : decode (zb m_M_works) 50 = .ok (.invokevirtual 331, 3) := zdal_p dlC_M_works_135 (i := 6) rfl
theorem d_M_works_53 : decode (zb m_M_works) 53 = .ok (.goto 17, 3) := zdal_p dlC_M_works_135 (i := 7) rfl
theorem d_M_works_56 : decode (zb m_M_works) 56 = .ok (.aload_n 0, 1) := zdal_p dlC_M_works_135 (i := 8) rfl
theorem d_M_works_57 : decode (zb m_M_works) 57 = .ok (.iload_n 2, 1) := zdal_p dlC_M_works_135 (i := 9) rfl
theorem d_M_works_58 : decode (zb m_M_works) 58 = .ok (.iconst 2, 1) := zdal_p dlC_M_works_135 (i := 10) rfl
theorem d_M_works_59 : decode (zb m_M_works) 59 = .ok (.if_icmp .ne 7, 3) := zdal_p dlC_M_works_135 (i := 11) rfl
theorem d_M_works_62 : decode (zb m_M_works) 62 = .ok (.iconst 1, 1) := zdal_p dlC_M_works_135 (i := 12) rfl
theorem d_M_works_63 : decode (zb m_M_works) 63 = .ok (.goto 4, 3) := zdal_p dlC_M_works_135 (i := 13) rfl
theorem d_M_works_66 : decode (zb m_M_works) 66 = .ok (.iconst (-1), 1) := zdal_p dlC_M_works_135 (i := 14) rfl
theorem d_M_works_67 : decode (zb m_M_works) 67 = .ok (.invokevirtual 334, 3) := zdal_p dlC_M_works_135 (i := 15) rfl
theorem d_M_works_70 : decode (zb m_M_works) 70 = .ok (.goto (-70), 3) := zdal_p dlC_M_works_135 (i := 16) rfl
theorem d_M_works_73 : decode (zb m_M_works) 73 = .ok (.return_, 1) := zdal_p dlC_M_works_135 (i := 17) rfl
theorem dlC_M_timesTwo_136 : zdal (zb m_M_timesTwo) [(0, (.aload_n 0, 1)), (1, (.aload_n 0, 1)), (2, (.getfield 268, 3)), (5, (.iconst 2, 1)), (6, (.isub, 1)), (7, (.aload_n 0, 1)), (8, (.getfield 60, 3)), (11, (.invokevirtual 282, 3)), (14, (.aload_n 0, 1)), (15, (.aload_n 0, 1)), (16, (.getfield 268, 3)), (19, (.iconst 1, 1)), (20, (.isub, 1)), (21, (.aload_n 0, 1)), (22, (.getfield 63, 3)), (25, (.invokevirtual 282, 3)), (28, (.aload_n 0, 1)), (29, (.invokevirtual 286, 3)), (32, (.aload_n 0, 1)), (33, (.dup, 1)), (34, (.getfield 268, 3)), (37, (.iconst 1, 1)), (38, (.isub, 1)), (39, (.putfield 268, 3))] = true := zDs 0 (by decide +kernel)
theorem d_M_timesTwo_0 : decode (zb m_M_timesTwo) 0 = .ok (.aload_n 0, 1) := zdal_p dlC_M_timesTwo_136 (i := 0) rfl
theorem d_M_timesTwo_1 : decode (zb m_M_timesTwo) 1 = .ok (.aload_n 0, 1) := zdal_p dlC_M_timesTwo_136 (i := 1) rfl
theorem d_M_timesTwo_2 : decode (zb m_M_timesTwo) 2 = .ok (.getfield 268, 3) := zdal_p dlC_M_timesTwo_136 (i := 2) rfl
theorem d_M_timesTwo_5 : decode (zb m_M_timesTwo) 5 = .ok (.iconst 2, 1) := zdal_p dlC_M_timesTwo_136 (i := 3) rfl
theorem d_M_timesTwo_6 : decode (zb m_M_timesTwo) 6 = .ok (.isub, 1) := zdal_p dlC_M_timesTwo_136 (i := 4) rfl
theorem d_M_timesTwo_7 : decode (zb m_M_timesTwo) 7 = .ok (.aload_n 0, 1) := zdal_p dlC_M_timesTwo_136 (i := 5) rfl
theorem d_M_timesTwo_8 : decode (zb m_M_timesTwo) 8 = .ok (.getfield 60, 3) := zdal_p dlC_M_timesTwo_136 (i := 6) rfl
theorem d_M_timesTwo_11 : decode (zb m_M_timesTwo) 11 = .ok (.invokevirtual 282, 3) := zdal_p dlC_M_timesTwo_136 (i := 7) rfl
theorem d_M_timesTwo_14 : decode (zb m_M_timesTwo) 14 = .ok (.aload_n 0, 1) := zdal_p dlC_M_timesTwo_136 (i := 8) rfl
theorem d_M_timesTwo_15 : decode (zb m_M_timesTwo) 15 = .ok (.aload_n 0, 1) := zdal_p dlC_M_timesTwo_136 (i := 9) rfl
theorem d_M_timesTwo_16 : decode (zb m_M_timesTwo) 16 = .ok (.getfield 268, 3) := zdal_p dlC_M_timesTwo_136 (i := 10) rfl
theorem d_M_timesTwo_19 : decode (zb m_M_timesTwo) 19 = .ok (.iconst 1, 1) := zdal_p dlC_M_timesTwo_136 (i := 11) rfl
theorem d_M_timesTwo_20 : decode (zb m_M_timesTwo) 20 = .ok (.isub, 1) := zdal_p dlC_M_timesTwo_136 (i := 12) rfl
theorem d_M_timesTwo_21 : decode (zb m_M_timesTwo) 21 = .ok (.aload_n 0, 1) := zdal_p dlC_M_timesTwo_136 (i := 13) rfl
theorem d_M_timesTwo_22 : decode (zb m_M_timesTwo) 22 = .ok (.getfield 63, 3) := zdal_p dlC_M_timesTwo_136 (i := 14) rfl
theorem d_M_timesTwo_25 : decode (zb m_M_timesTwo) 25 = .ok (.invokevirtual 282, 3) := zdal_p dlC_M_timesTwo_136 (i := 15) rfl
theorem d_M_timesTwo_28 : decode (zb m_M_timesTwo) 28 = .ok (.aload_n 0, 1) := zdal_p dlC_M_timesTwo_136 (i := 16) rfl
theorem d_M_timesTwo_29 : decode (zb m_M_timesTwo) 29 = .ok (.invokevirtual 286, 3) := zdal_p dlC_M_timesTwo_136 (i := 17) rfl
theorem d_M_timesTwo_32 : decode (zb m_M_timesTwo) 32 = .ok (.aload_n 0, 1) := zdal_p dlC_M_timesTwo_136 (i := 18) rfl
theorem d_M_timesTwo_33 : decode (zb m_M_timesTwo) 33 = .ok (.dup, 1) := zdal_p dlC_M_timesTwo_136 (i := 19) rfl
theorem d_M_timesTwo_34 : decode (zb m_M_timesTwo) 34 = .ok (.getfield 268, 3) := zdal_p dlC_M_timesTwo_136 (i := 20) rfl
theorem d_M_timesTwo_37 : decode (zb m_M_timesTwo) 37 = .ok (.iconst 1, 1) := zdal_p dlC_M_timesTwo_136 (i := 21) rfl
theorem d_M_timesTwo_38 : decode (zb m_M_timesTwo) 38 = .ok (.isub, 1) := zdal_p dlC_M_timesTwo_136 (i := 22) rfl
theorem d_M_timesTwo_39 : decode (zb m_M_timesTwo) 39 = .ok (.putfield 268, 3) := zdal_p dlC_M_timesTwo_136 (i := 23) rfl
theorem dlC_M_timesTwo_137 : zdal (zb m_M_timesTwo) [(42, (.aload_n 0, 1)), (43, (.aload_n 0, 1)), (44, (.getfield 60, 3)), (47, (.aload_n 0, 1)), (48, (.getfield 56, 3)), (51, (.bipush 64, 2)), (53, (.aload_n 0, 1)), (54, (.getfield 268, 3)), (57, (.iconst 1, 1)), (58, (.isub, 1)), (59, (.imul, 1)), (60, (.invokevirtual 289, 3)), (63, (.aload_n 0, 1)), (64, (.invokevirtual 279, 3)), (67, (.return_, 1))] = true := zDs 42 (by decide +kernel)
theorem d_M_timesTwo_42 : decode (zb m_M_timesTwo) 42 = .ok (.aload_n 0, 1) := zdal_p dlC_M_timesTwo_137 (i := 0) rfl
theorem d_M_timesTwo_43 : decode (zb m_M_timesTwo) 43 = .ok (.aload_n 0, 1) := zdal_p dlC_M_timesTwo_137 (i := 1) rfl
theorem d_M_timesTwo_44 : decode (zb m_M_timesTwo) 44 = .ok (.getfield 60, 3) := zdal_p dlC_M_timesTwo_137 (i := 2) rfl
theorem d_M_timesTwo_47 : decode (zb m_M_timesTwo) 47 = .ok (.aload_n 0, 1) := zdal_p dlC_M_timesTwo_137 (i := 3) rfl
theorem d_M_timesTwo_48 : decode (zb m_M_timesTwo) 48 = .ok (.getfield 56, 3) := zdal_p dlC_M_timesTwo_137 (i := 4) rfl
theorem d_M_timesTwo_51 : decode (zb m_M_timesTwo) 51 = .ok (.bipush 64, 2) := zdal_p dlC_M_timesTwo_137 (i := 5) rfl
theorem d_M_timesTwo_53 : decode (zb m_M_timesTwo) 53 = .ok (.aload_n 0, 1) := zdal_p dlC_M_timesTwo_137 (i := 6) rfl
theorem d_M_timesTwo_54 : decode (zb m_M_timesTwo) 54 = .ok (.getfield 268, 3) := zdal_p dlC_M_timesTwo_137 (i := 7) rfl
theorem d_M_timesTwo_57 : decode (zb m_M_timesTwo) 57 = .ok (.iconst 1, 1) := zdal_p dlC_M_timesTwo_137 (i := 8) rfl
theorem d_M_timesTwo_58 : decode (zb m_M_timesTwo) 58 = .ok (.isub, 1) := zdal_p dlC_M_timesTwo_137 (i := 9) rfl
theorem d_M_timesTwo_59 : decode (zb m_M_timesTwo) 59 = .ok (.imul, 1) := zdal_p dlC_M_timesTwo_137 (i := 10) rfl
theorem d_M_timesTwo_60 : decode (zb m_M_timesTwo) 60 = .ok (.invokevirtual 289, 3) := zdal_p dlC_M_timesTwo_137 (i := 11) rfl
theorem d_M_timesTwo_63 : decode (zb m_M_timesTwo) 63 = .ok (.aload_n 0, 1) := zdal_p dlC_M_timesTwo_137 (i := 12) rfl
theorem d_M_timesTwo_64 : decode (zb m_M_timesTwo) 64 = .ok (.invokevirtual 279, 3) := zdal_p dlC_M_timesTwo_137 (i := 13) rfl
theorem d_M_timesTwo_67 : decode (zb m_M_timesTwo) 67 = .ok (.return_, 1) := zdal_p dlC_M_timesTwo_137 (i := 14) rfl
theorem dlC_M_adds_138 : zdal (zb m_M_adds) [(0, (.iconst 0, 1)), (1, (.istore_n 2, 1)), (2, (.iload_n 2, 1)), (3, (.aload_n 0, 1)), (4, (.getfield 235, 3)), (7, (.if_icmp .ge 47, 3)), (10, (.aload_n 0, 1)), (11, (.getfield 56, 3)), (14, (.bipush 64, 2)), (16, (.aload_n 0, 1)), (17, (.getfield 268, 3)), (20, (.iconst 2, 1)), (21, (.isub, 1)), (22, (.imul, 1)), (23, (.iload_n 2, 1)), (24, (.iadd, 1)), (25, (.dup2, 1)), (26, (.laload, 1)), (27, (.iload_n 1, 1)), (28, (.i2l, 1)), (29, (.aload_n 0, 1)), (30, (.getfield 56, 3)), (33, (.bipush 64, 2)), (35, (.aload_n 0, 1))] = true := zDs 0 (by decide +kernel)
theorem d_M_adds_0 : decode (zb m_M_adds) 0 = .ok (.iconst 0, 1) := zdal_p dlC_M_adds_138 (i := 0) rfl
theorem d_M_adds_1 : decode (zb m_M_adds) 1 = .ok (.istore_n 2, 1) := zdal_p dlC_M_adds_138 (i := 1) rfl
theorem d_M_adds_2 : decode (zb m_M_adds) 2 = .ok (.iload_n 2, 1) := zdal_p dlC_M_adds_138 (i := 2) rfl
theorem d_M_adds_3 : decode (zb m_M_adds) 3 = .ok (.aload_n 0, 1) := zdal_p dlC_M_adds_138 (i := 3) rfl
theorem d_M_adds_4 : decode (zb m_M_adds) 4 = .ok (.getfield 235, 3) := zdal_p dlC_M_adds_138 (i := 4) rfl
theorem d_M_adds_7 : decode (zb m_M_adds) 7 = .ok (.if_icmp .ge 47, 3) := zdal_p dlC_M_adds_138 (i := 5) rfl
theorem d_M_adds_10 : decode (zb m_M_adds) 10 = .ok (.aload_n 0, 1) := zdal_p dlC_M_adds_138 (i := 6) rfl
theorem d_M_adds_11 : decode (zb m_M_adds) 11 = .ok (.getfield 56, 3) := zdal_p dlC_M_adds_138 (i := 7) rfl
theorem d_M_adds_14 : decode (zb m_M_adds) 14 = .ok (.bipush 64, 2) := zdal_p dlC_M_adds_138 (i := 8) rfl
theorem d_M_adds_16 : decode (zb m_M_adds) 16 = .ok (.aload_n 0, 1) := zdal_p dlC_M_adds_138 (i := 9) rfl
theorem d_M_adds_17 : decode (zb m_M_adds) 17 = .ok (.getfield 268, 3) := zdal_p dlC_M_adds_138 (i := 10) rfl
theorem d_M_adds_20 : decode (zb m_M_adds) 20 = .ok (.iconst 2, 1) := zdal_p dlC_M_adds_138 (i := 11) rfl
theorem d_M_adds_21 : decode (zb m_M_adds) 21 = .ok (.isub, 1) := zdal_p dlC_M_adds_138 (i := 12) rfl
theorem d_M_adds_22 : decode (zb m_M_adds) 22 = .ok (.imul, 1) := zdal_p dlC_M_adds_138 (i := 13) rfl
theorem d_M_adds_23 : decode (zb m_M_adds) 23 = .ok (.iload_n 2, 1) := zdal_p dlC_M_adds_138 (i := 14) rfl
theorem d_M_adds_24 : decode (zb m_M_adds) 24 = .ok (.iadd, 1) := zdal_p dlC_M_adds_138 (i := 15) rfl
theorem d_M_adds_25 : decode (zb m_M_adds) 25 = .ok (.dup2, 1) := zdal_p dlC_M_adds_138 (i := 16) rfl
theorem d_M_adds_26 : decode (zb m_M_adds) 26 = .ok (.laload, 1) := zdal_p dlC_M_adds_138 (i := 17) rfl
theorem d_M_adds_27 : decode (zb m_M_adds) 27 = .ok (.iload_n 1, 1) := zdal_p dlC_M_adds_138 (i := 18) rfl
theorem d_M_adds_28 : decode (zb m_M_adds) 28 = .ok (.i2l, 1) := zdal_p dlC_M_adds_138 (i := 19) rfl
theorem d_M_adds_29 : decode (zb m_M_adds) 29 = .ok (.aload_n 0, 1) := zdal_p dlC_M_adds_138 (i := 20) rfl
theorem d_M_adds_30 : decode (zb m_M_adds) 30 = .ok (.getfield 56, 3) := zdal_p dlC_M_adds_138 (i := 21) rfl
theorem d_M_adds_33 : decode (zb m_M_adds) 33 = .ok (.bipush 64, 2) := zdal_p dlC_M_adds_138 (i := 22) rfl
theorem d_M_adds_35 : decode (zb m_M_adds) 35 = .ok (.aload_n 0, 1) := zdal_p dlC_M_adds_138 (i := 23) rfl
theorem dlC_M_adds_139 : zdal (zb m_M_adds) [(36, (.getfield 268, 3)), (39, (.iconst 1, 1)), (40, (.isub, 1)), (41, (.imul, 1)), (42, (.iload_n 2, 1)), (43, (.iadd, 1)), (44, (.laload, 1)), (45, (.lmul, 1)), (46, (.ladd, 1)), (47, (.lastore, 1)), (48, (.iinc 2 1, 3)), (51, (.goto (-49), 3)), (54, (.aload_n 0, 1)), (55, (.dup, 1)), (56, (.getfield 268, 3)), (59, (.iconst 1, 1)), (60, (.isub, 1)), (61, (.putfield 268, 3)), (64, (.aload_n 0, 1)), (65, (.invokevirtual 279, 3)), (68, (.return_, 1))] = true := zDs 36 (by decide +kernel)
theorem d_M_adds_36 : decode (zb m_M_adds) 36 = .ok (.getfield 268, 3) := zdal_p dlC_M_adds_139 (i := 0) rfl
theorem d_M_adds_39 : decode (zb m_M_adds) 39 = .ok (.iconst 1, 1) := zdal_p dlC_M_adds_139 (i := 1) rfl
theorem d_M_adds_40 : decode (zb m_M_adds) 40 = .ok (.isub, 1) := zdal_p dlC_M_adds_139 (i := 2) rfl
theorem d_M_adds_41 : decode (zb m_M_adds) 41 = .ok (.imul, 1) := zdal_p dlC_M_adds_139 (i := 3) rfl
theorem d_M_adds_42 : decode (zb m_M_adds) 42 = .ok (.iload_n 2, 1) := zdal_p dlC_M_adds_139 (i := 4) rfl
theorem d_M_adds_43 : decode (zb m_M_adds) 43 = .ok (.iadd, 1) := zdal_p dlC_M_adds_139 (i := 5) rfl
theorem d_M_adds_44 : decode (zb m_M_adds) 44 = .ok (.laload, 1) := zdal_p dlC_M_adds_139 (i := 6) rfl
theorem d_M_adds_45 : decode (zb m_M_adds) 45 = .ok (.lmul, 1) := zdal_p dlC_M_adds_139 (i := 7) rfl
theorem d_M_adds_46 : decode (zb m_M_adds) 46 = .ok (.ladd, 1) := zdal_p dlC_M_adds_139 (i := 8) rfl
theorem d_M_adds_47 : decode (zb m_M_adds) 47 = .ok (.lastore, 1) := zdal_p dlC_M_adds_139 (i := 9) rfl
theorem d_M_adds_48 : decode (zb m_M_adds) 48 = .ok (.iinc 2 1, 3) := zdal_p dlC_M_adds_139 (i := 10) rfl
theorem d_M_adds_51 : decode (zb m_M_adds) 51 = .ok (.goto (-49), 3) := zdal_p dlC_M_adds_139 (i := 11) rfl
theorem d_M_adds_54 : decode (zb m_M_adds) 54 = .ok (.aload_n 0, 1) := zdal_p dlC_M_adds_139 (i := 12) rfl
theorem d_M_adds_55 : decode (zb m_M_adds) 55 = .ok (.dup, 1) := zdal_p dlC_M_adds_139 (i := 13) rfl
theorem d_M_adds_56 : decode (zb m_M_adds) 56 = .ok (.getfield 268, 3) := zdal_p dlC_M_adds_139 (i := 14) rfl
theorem d_M_adds_59 : decode (zb m_M_adds) 59 = .ok (.iconst 1, 1) := zdal_p dlC_M_adds_139 (i := 15) rfl
theorem d_M_adds_60 : decode (zb m_M_adds) 60 = .ok (.isub, 1) := zdal_p dlC_M_adds_139 (i := 16) rfl
theorem d_M_adds_61 : decode (zb m_M_adds) 61 = .ok (.putfield 268, 3) := zdal_p dlC_M_adds_139 (i := 17) rfl
theorem d_M_adds_64 : decode (zb m_M_adds) 64 = .ok (.aload_n 0, 1) := zdal_p dlC_M_adds_139 (i := 18) rfl
theorem d_M_adds_65 : decode (zb m_M_adds) 65 = .ok (.invokevirtual 279, 3) := zdal_p dlC_M_adds_139 (i := 19) rfl
theorem d_M_adds_68 : decode (zb m_M_adds) 68 = .ok (.return_, 1) := zdal_p dlC_M_adds_139 (i := 20) rfl
theorem dlC_M_isOpen_140 : zdal (zb m_M_isOpen) [(0, (.iconst 0, 1)), (1, (.istore_n 1, 1)), (2, (.iload_n 1, 1)), (3, (.aload_n 0, 1)), (4, (.getfield 305, 3)), (7, (.if_icmp .ge 20, 3)), (10, (.aload_n 0, 1)), (11, (.getfield 72, 3)), (14, (.iload_n 1, 1)), (15, (.iaload, 1)), (16, (.ifCond .ne 5, 3)), (19, (.iconst 1, 1)), (20, (.ireturn, 1)), (21, (.iinc 1 1, 3)), (24, (.goto (-22), 3)), (27, (.iconst 0, 1)), (28, (.ireturn, 1))] = true := zDs 0 (by decide +kernel)
theorem d_M_isOpen_0 : decode (zb m_M_isOpen) 0 = .ok (.iconst 0, 1) := zdal_p dlC_M_isOpen_140 (i := 0) rfl
theorem d_M_isOpen_1 : decode (zb m_M_isOpen) 1 = .ok (.istore_n 1, 1) := zdal_p dlC_M_isOpen_140 (i := 1) rfl
theorem d_M_isOpen_2 : decode (zb m_M_isOpen) 2 = .ok (.iload_n 1, 1) := zdal_p dlC_M_isOpen_140 (i := 2) rfl
theorem d_M_isOpen_3 : decode (zb m_M_isOpen) 3 = .ok (.aload_n 0, 1) := zdal_p dlC_M_isOpen_140 (i := 3) rfl
theorem d_M_isOpen_4 : decode (zb m_M_isOpen) 4 = .ok (.getfield 305, 3) := zdal_p dlC_M_isOpen_140 (i := 4) rfl
theorem d_M_isOpen_7 : decode (zb m_M_isOpen) 7 = .ok (.if_icmp .ge 20, 3) := zdal_p dlC_M_isOpen_140 (i := 5) rfl
theorem d_M_isOpen_10 : decode (zb m_M_isOpen) 10 = .ok (.aload_n 0, 1) := zdal_p dlC_M_isOpen_140 (i := 6) rfl
theorem d_M_isOpen_11 : decode (zb m_M_isOpen) 11 = .ok (.getfield 72, 3) := zdal_p dlC_M_isOpen_140 (i := 7) rfl
theorem d_M_isOpen_14 : decode (zb m_M_isOpen) 14 = .ok (.iload_n 1, 1) := zdal_p dlC_M_isOpen_140 (i := 8) rfl
theorem d_M_isOpen_15 : decode (zb m_M_isOpen) 15 = .ok (.iaload, 1) := zdal_p dlC_M_isOpen_140 (i := 9) rfl
theorem d_M_isOpen_16 : decode (zb m_M_isOpen) 16 = .ok (.ifCond .ne 5, 3) := zdal_p dlC_M_isOpen_140 (i := 10) rfl
theorem d_M_isOpen_19 : decode (zb m_M_isOpen) 19 = .ok (.iconst 1, 1) := zdal_p dlC_M_isOpen_140 (i := 11) rfl
theorem d_M_isOpen_20 : decode (zb m_M_isOpen) 20 = .ok (.ireturn, 1) := zdal_p dlC_M_isOpen_140 (i := 12) rfl
theorem d_M_isOpen_21 : decode (zb m_M_isOpen) 21 = .ok (.iinc 1 1, 3) := zdal_p dlC_M_isOpen_140 (i := 13) rfl
theorem d_M_isOpen_24 : decode (zb m_M_isOpen) 24 = .ok (.goto (-22), 3) := zdal_p dlC_M_isOpen_140 (i := 14) rfl
theorem d_M_isOpen_27 : decode (zb m_M_isOpen) 27 = .ok (.iconst 0, 1) := zdal_p dlC_M_isOpen_140 (i := 15) rfl
theorem d_M_isOpen_28 : decode (zb m_M_isOpen) 28 = .ok (.ireturn, 1) := zdal_p dlC_M_isOpen_140 (i := 16) rfl
theorem dlC_M_tells_141 : zdal (zb m_M_tells) [(0, (.aload_n 0, 1)), (1, (.aload_n 0, 1)), (2, (.getfield 172, 3)), (5, (.putfield 379, 3)), (8, (.aload_n 0, 1)), (9, (.aload_n 0, 1)), (10, (.getfield 13, 3)), (13, (.putfield 17, 3)), (16, (.return_, 1))] = true := zDs 0 (by decide +kernel)
theorem d_M_tells_0 : decode (zb m_M_tells) 0 = .ok (.aload_n 0, 1) := zdal_p dlC_M_tells_141 (i := 0) rfl
theorem d_M_tells_1 : decode (zb m_M_tells) 1 = .ok (.aload_n 0, 1) := zdal_p dlC_M_tells_141 (i := 1) rfl
theorem d_M_tells_2 : decode (zb m_M_tells) 2 = .ok (.getfield 172, 3) := zdal_p dlC_M_tells_141 (i := 2) rfl
theorem d_M_tells_5 : decode (zb m_M_tells) 5 = .ok (.putfield 379, 3) := zdal_p dlC_M_tells_141 (i := 3) rfl
theorem d_M_tells_8 : decode (zb m_M_tells) 8 = .ok (.aload_n 0, 1) := zdal_p dlC_M_tells_141 (i := 4) rfl
theorem d_M_tells_9 : decode (zb m_M_tells) 9 = .ok (.aload_n 0, 1) := zdal_p dlC_M_tells_141 (i := 5) rfl
theorem d_M_tells_10 : decode (zb m_M_tells) 10 = .ok (.getfield 13, 3) := zdal_p dlC_M_tells_141 (i := 6) rfl
theorem d_M_tells_13 : decode (zb m_M_tells) 13 = .ok (.putfield 17, 3) := zdal_p dlC_M_tells_141 (i := 7) rfl
theorem d_M_tells_16 : decode (zb m_M_tells) 16 = .ok (.return_, 1) := zdal_p dlC_M_tells_141 (i := 8) rfl
theorem dlC_M_goesBack_142 : zdal (zb m_M_goesBack) [(0, (.aload_n 0, 1)), (1, (.aload_n 0, 1)), (2, (.getfield 382, 3)), (5, (.putfield 115, 3)), (8, (.aload_n 0, 1)), (9, (.aload_n 0, 1)), (10, (.getfield 385, 3)), (13, (.putfield 199, 3)), (16, (.aload_n 0, 1)), (17, (.aload_n 0, 1)), (18, (.getfield 388, 3)), (21, (.putfield 299, 3)), (24, (.iconst 0, 1)), (25, (.istore_n 1, 1)), (26, (.iload_n 1, 1)), (27, (.bipush 24, 2)), (29, (.if_icmp .ge 21, 3)), (32, (.aload_n 0, 1)), (33, (.getfield 20, 3)), (36, (.iload_n 1, 1)), (37, (.aload_n 0, 1)), (38, (.getfield 23, 3)), (41, (.iload_n 1, 1)), (42, (.iaload, 1))] = true := zDs 0 (by decide +kernel)
theorem d_M_goesBack_0 : decode (zb m_M_goesBack) 0 = .ok (.aload_n 0, 1) := zdal_p dlC_M_goesBack_142 (i := 0) rfl
theorem d_M_goesBack_1 : decode (zb m_M_goesBack) 1 = .ok (.aload_n 0, 1) := zdal_p dlC_M_goesBack_142 (i := 1) rfl
theorem d_M_goesBack_2 : decode (zb m_M_goesBack) 2 = .ok (.getfield 382, 3) := zdal_p dlC_M_goesBack_142 (i := 2) rfl
theorem d_M_goesBack_5 : decode (zb m_M_goesBack) 5 = .ok (.putfield 115, 3) := zdal_p dlC_M_goesBack_142 (i := 3) rfl
theorem d_M_goesBack_8 : decode (zb m_M_goesBack) 8 = .ok (.aload_n 0, 1) := zdal_p dlC_M_goesBack_142 (i := 4) rfl
theorem d_M_goesBack_9 : decode (zb m_M_goesBack) 9 = .ok (.aload_n 0, 1) := zdal_p dlC_M_goesBack_142 (i := 5) rfl
theorem d_M_goesBack_10 : decode (zb m_M_goesBack) 10 = .ok (.getfield 385, 3) := zdal_p dlC_M_goesBack_142 (i := 6) rfl
theorem d_M_goesBack_13 : decode (zb m_M_goesBack) 13 = .ok (.putfield 199, 3) := zdal_p dlC_M_goesBack_142 (i := 7) rfl
theorem d_M_goesBack_16 : decode (zb m_M_goesBack) 16 = .ok (.aload_n 0, 1) := zdal_p dlC_M_goesBack_142 (i := 8) rfl
theorem d_M_goesBack_17 : decode (zb m_M_goesBack) 17 = .ok (.aload_n 0, 1) := zdal_p dlC_M_goesBack_142 (i := 9) rfl
theorem d_M_goesBack_18 : decode (zb m_M_goesBack) 18 = .ok (.getfield 388, 3) := zdal_p dlC_M_goesBack_142 (i := 10) rfl
theorem d_M_goesBack_21 : decode (zb m_M_goesBack) 21 = .ok (.putfield 299, 3) := zdal_p dlC_M_goesBack_142 (i := 11) rfl
theorem d_M_goesBack_24 : decode (zb m_M_goesBack) 24 = .ok (.iconst 0, 1) := zdal_p dlC_M_goesBack_142 (i := 12) rfl
theorem d_M_goesBack_25 : decode (zb m_M_goesBack) 25 = .ok (.istore_n 1, 1) := zdal_p dlC_M_goesBack_142 (i := 13) rfl
theorem d_M_goesBack_26 : decode (zb m_M_goesBack) 26 = .ok (.iload_n 1, 1) := zdal_p dlC_M_goesBack_142 (i := 14) rfl
theorem d_M_goesBack_27 : decode (zb m_M_goesBack) 27 = .ok (.bipush 24, 2) := zdal_p dlC_M_goesBack_142 (i := 15) rfl
theorem d_M_goesBack_29 : decode (zb m_M_goesBack) 29 = .ok (.if_icmp .ge 21, 3) := zdal_p dlC_M_goesBack_142 (i := 16) rfl
theorem d_M_goesBack_32 : decode (zb m_M_goesBack) 32 = .ok (.aload_n 0, 1) := zdal_p dlC_M_goesBack_142 (i := 17) rfl
theorem d_M_goesBack_33 : decode (zb m_M_goesBack) 33 = .ok (.getfield 20, 3) := zdal_p dlC_M_goesBack_142 (i := 18) rfl
theorem d_M_goesBack_36 : decode (zb m_M_goesBack) 36 = .ok (.iload_n 1, 1) := zdal_p dlC_M_goesBack_142 (i := 19) rfl
theorem d_M_goesBack_37 : decode (zb m_M_goesBack) 37 = .ok (.aload_n 0, 1) := zdal_p dlC_M_goesBack_142 (i := 20) rfl
theorem d_M_goesBack_38 : decode (zb m_M_goesBack) 38 = .ok (.getfield 23, 3) := zdal_p dlC_M_goesBack_142 (i := 21) rfl
theorem d_M_goesBack_41 : decode (zb m_M_goesBack) 41 = .ok (.iload_n 1, 1) := zdal_p dlC_M_goesBack_142 (i := 22) rfl
theorem d_M_goesBack_42 : decode (zb m_M_goesBack) 42 = .ok (.iaload, 1) := zdal_p dlC_M_goesBack_142 (i := 23) rfl
theorem dlC_M_goesBack_143 : zdal (zb m_M_goesBack) [(43, (.iastore, 1)), (44, (.iinc 1 1, 3)), (47, (.goto (-21), 3)), (50, (.iconst 0, 1)), (51, (.istore_n 1, 1)), (52, (.iload_n 1, 1)), (53, (.bipush 8, 2)), (55, (.if_icmp .ge 21, 3)), (58, (.aload_n 0, 1)), (59, (.getfield 75, 3)), (62, (.iload_n 1, 1)), (63, (.aload_n 0, 1)), (64, (.getfield 81, 3)), (67, (.iload_n 1, 1)), (68, (.laload, 1)), (69, (.lastore, 1)), (70, (.iinc 1 1, 3)), (73, (.goto (-21), 3)), (76, (.iconst 0, 1)), (77, (.istore_n 1, 1)), (78, (.iload_n 1, 1)), (79, (.sipush 512, 3)), (82, (.if_icmp .ge 21, 3)), (85, (.aload_n 0, 1))] = true := zDs 43 (by decide +kernel)
theorem d_M_goesBack_43 : decode (zb m_M_goesBack) 43 = .ok (.iastore, 1) := zdal_p dlC_M_goesBack_143 (i := 0) rfl
theorem d_M_goesBack_44 : decode (zb m_M_goesBack) 44 = .ok (.iinc 1 1, 3) := zdal_p dlC_M_goesBack_143 (i := 1) rfl
theorem d_M_goesBack_47 : decode (zb m_M_goesBack) 47 = .ok (.goto (-21), 3) := zdal_p dlC_M_goesBack_143 (i := 2) rfl
theorem d_M_goesBack_50 : decode (zb m_M_goesBack) 50 = .ok (.iconst 0, 1) := zdal_p dlC_M_goesBack_143 (i := 3) rfl
theorem d_M_goesBack_51 : decode (zb m_M_goesBack) 51 = .ok (.istore_n 1, 1) := zdal_p dlC_M_goesBack_143 (i := 4) rfl
theorem d_M_goesBack_52 : decode (zb m_M_goesBack) 52 = .ok (.iload_n 1, 1) := zdal_p dlC_M_goesBack_143 (i := 5) rfl
theorem d_M_goesBack_53 : decode (zb m_M_goesBack) 53 = .ok (.bipush 8, 2) := zdal_p dlC_M_goesBack_143 (i := 6) rfl
theorem d_M_goesBack_55 : decode (zb m_M_goesBack) 55 = .ok (.if_icmp .ge 21, 3) := zdal_p dlC_M_goesBack_143 (i := 7) rfl
theorem d_M_goesBack_58 : decode (zb m_M_goesBack) 58 = .ok (.aload_n 0, 1) := zdal_p dlC_M_goesBack_143 (i := 8) rfl
theorem d_M_goesBack_59 : decode (zb m_M_goesBack) 59 = .ok (.getfield 75, 3) := zdal_p dlC_M_goesBack_143 (i := 9) rfl
theorem d_M_goesBack_62 : decode (zb m_M_goesBack) 62 = .ok (.iload_n 1, 1) := zdal_p dlC_M_goesBack_143 (i := 10) rfl
theorem d_M_goesBack_63 : decode (zb m_M_goesBack) 63 = .ok (.aload_n 0, 1) := zdal_p dlC_M_goesBack_143 (i := 11) rfl
theorem d_M_goesBack_64 : decode (zb m_M_goesBack) 64 = .ok (.getfield 81, 3) := zdal_p dlC_M_goesBack_143 (i := 12) rfl
theorem d_M_goesBack_67 : decode (zb m_M_goesBack) 67 = .ok (.iload_n 1, 1) := zdal_p dlC_M_goesBack_143 (i := 13) rfl
theorem d_M_goesBack_68 : decode (zb m_M_goesBack) 68 = .ok (.laload, 1) := zdal_p dlC_M_goesBack_143 (i := 14) rfl
theorem d_M_goesBack_69 : decode (zb m_M_goesBack) 69 = .ok (.lastore, 1) := zdal_p dlC_M_goesBack_143 (i := 15) rfl
theorem d_M_goesBack_70 : decode (zb m_M_goesBack) 70 = .ok (.iinc 1 1, 3) := zdal_p dlC_M_goesBack_143 (i := 16) rfl
theorem d_M_goesBack_73 : decode (zb m_M_goesBack) 73 = .ok (.goto (-21), 3) := zdal_p dlC_M_goesBack_143 (i := 17) rfl
theorem d_M_goesBack_76 : decode (zb m_M_goesBack) 76 = .ok (.iconst 0, 1) := zdal_p dlC_M_goesBack_143 (i := 18) rfl
theorem d_M_goesBack_77 : decode (zb m_M_goesBack) 77 = .ok (.istore_n 1, 1) := zdal_p dlC_M_goesBack_143 (i := 19) rfl
theorem d_M_goesBack_78 : decode (zb m_M_goesBack) 78 = .ok (.iload_n 1, 1) := zdal_p dlC_M_goesBack_143 (i := 20) rfl
theorem d_M_goesBack_79 : decode (zb m_M_goesBack) 79 = .ok (.sipush 512, 3) := zdal_p dlC_M_goesBack_143 (i := 21) rfl
theorem d_M_goesBack_82 : decode (zb m_M_goesBack) 82 = .ok (.if_icmp .ge 21, 3) := zdal_p dlC_M_goesBack_143 (i := 22) rfl
theorem d_M_goesBack_85 : decode (zb m_M_goesBack) 85 = .ok (.aload_n 0, 1) := zdal_p dlC_M_goesBack_143 (i := 23) rfl
theorem dlC_M_goesBack_144 : zdal (zb m_M_goesBack) [(86, (.getfield 78, 3)), (89, (.iload_n 1, 1)), (90, (.aload_n 0, 1)), (91, (.getfield 84, 3)), (94, (.iload_n 1, 1)), (95, (.laload, 1)), (96, (.lastore, 1)), (97, (.iinc 1 1, 3)), (100, (.goto (-22), 3)), (103, (.aload_n 0, 1)), (104, (.invokevirtual 118, 3)), (107, (.aload_n 0, 1)), (108, (.iconst 0, 1)), (109, (.putfield 394, 3)), (112, (.return_, 1))] = true := zDs 86 (by decide +kernel)
theorem d_M_goesBack_86 : decode (zb m_M_goesBack) 86 = .ok (.getfield 78, 3) := zdal_p dlC_M_goesBack_144 (i := 0) rfl
theorem d_M_goesBack_89 : decode (zb m_M_goesBack) 89 = .ok (.iload_n 1, 1) := zdal_p dlC_M_goesBack_144 (i := 1) rfl
theorem d_M_goesBack_90 : decode (zb m_M_goesBack) 90 = .ok (.aload_n 0, 1) := zdal_p dlC_M_goesBack_144 (i := 2) rfl
theorem d_M_goesBack_91 : decode (zb m_M_goesBack) 91 = .ok (.getfield 84, 3) := zdal_p dlC_M_goesBack_144 (i := 3) rfl
theorem d_M_goesBack_94 : decode (zb m_M_goesBack) 94 = .ok (.iload_n 1, 1) := zdal_p dlC_M_goesBack_144 (i := 4) rfl
theorem d_M_goesBack_95 : decode (zb m_M_goesBack) 95 = .ok (.laload, 1) := zdal_p dlC_M_goesBack_144 (i := 5) rfl
theorem d_M_goesBack_96 : decode (zb m_M_goesBack) 96 = .ok (.lastore, 1) := zdal_p dlC_M_goesBack_144 (i := 6) rfl
theorem d_M_goesBack_97 : decode (zb m_M_goesBack) 97 = .ok (.iinc 1 1, 3) := zdal_p dlC_M_goesBack_144 (i := 7) rfl
theorem d_M_goesBack_100 : decode (zb m_M_goesBack) 100 = .ok (.goto (-22), 3) := zdal_p dlC_M_goesBack_144 (i := 8) rfl
theorem d_M_goesBack_103 : decode (zb m_M_goesBack) 103 = .ok (.aload_n 0, 1) := zdal_p dlC_M_goesBack_144 (i := 9) rfl
theorem d_M_goesBack_104 : decode (zb m_M_goesBack) 104 = .ok (.invokevirtual 118, 3) := zdal_p dlC_M_goesBack_144 (i := 10) rfl
theorem d_M_goesBack_107 : decode (zb m_M_goesBack) 107 = .ok (.aload_n 0, 1) := zdal_p dlC_M_goesBack_144 (i := 11) rfl
theorem d_M_goesBack_108 : decode (zb m_M_goesBack) 108 = .ok (.iconst 0, 1) := zdal_p dlC_M_goesBack_144 (i := 12) rfl
theorem d_M_goesBack_109 : decode (zb m_M_goesBack) 109 = .ok (.putfield 394, 3) := zdal_p dlC_M_goesBack_144 (i := 13) rfl
theorem d_M_goesBack_112 : decode (zb m_M_goesBack) 112 = .ok (.return_, 1) := zdal_p dlC_M_goesBack_144 (i := 14) rfl
theorem dlC_M_fault_145 : zdal (zb m_M_fault) [(0, (.iload_n 1, 1)), (1, (.ifCond .ne 10, 3)), (4, (.aload_n 0, 1)), (5, (.getfield 379, 3)), (8, (.goto 16, 3)), (11, (.iload_n 1, 1)), (12, (.iconst 1, 1)), (13, (.if_icmp .ne 10, 3)), (16, (.aload_n 0, 1)), (17, (.getfield 17, 3)), (20, (.goto 4, 3)), (23, (.iconst (-1), 1)), (24, (.ireturn, 1))] = true := zDs 0 (by decide +kernel)
theorem d_M_fault_0 : decode (zb m_M_fault) 0 = .ok (.iload_n 1, 1) := zdal_p dlC_M_fault_145 (i := 0) rfl
theorem d_M_fault_1 : decode (zb m_M_fault) 1 = .ok (.ifCond .ne 10, 3) := zdal_p dlC_M_fault_145 (i := 1) rfl
theorem d_M_fault_4 : decode (zb m_M_fault) 4 = .ok (.aload_n 0, 1) := zdal_p dlC_M_fault_145 (i := 2) rfl
theorem d_M_fault_5 : decode (zb m_M_fault) 5 = .ok (.getfield 379, 3) := zdal_p dlC_M_fault_145 (i := 3) rfl
theorem d_M_fault_8 : decode (zb m_M_fault) 8 = .ok (.goto 16, 3) := zdal_p dlC_M_fault_145 (i := 4) rfl
theorem d_M_fault_11 : decode (zb m_M_fault) 11 = .ok (.iload_n 1, 1) := zdal_p dlC_M_fault_145 (i := 5) rfl
theorem d_M_fault_12 : decode (zb m_M_fault) 12 = .ok (.iconst 1, 1) := zdal_p dlC_M_fault_145 (i := 6) rfl
theorem d_M_fault_13 : decode (zb m_M_fault) 13 = .ok (.if_icmp .ne 10, 3) := zdal_p dlC_M_fault_145 (i := 7) rfl
theorem d_M_fault_16 : decode (zb m_M_fault) 16 = .ok (.aload_n 0, 1) := zdal_p dlC_M_fault_145 (i := 8) rfl
theorem d_M_fault_17 : decode (zb m_M_fault) 17 = .ok (.getfield 17, 3) := zdal_p dlC_M_fault_145 (i := 9) rfl
theorem d_M_fault_20 : decode (zb m_M_fault) 20 = .ok (.goto 4, 3) := zdal_p dlC_M_fault_145 (i := 10) rfl
theorem d_M_fault_23 : decode (zb m_M_fault) 23 = .ok (.iconst (-1), 1) := zdal_p dlC_M_fault_145 (i := 11) rfl
theorem d_M_fault_24 : decode (zb m_M_fault) 24 = .ok (.ireturn, 1) := zdal_p dlC_M_fault_145 (i := 12) rfl
theorem dlC_M_about_146 : zdal (zb m_M_about) [(0, (.iload_n 1, 1)), (1, (.tableswitch 107 0 8 #[51, 56, 61, 66, 71, 76, 81, 97, 102], 51)), (52, (.aload_n 0, 1)), (53, (.getfield 382, 3)), (56, (.ireturn, 1)), (57, (.aload_n 0, 1)), (58, (.getfield 385, 3)), (61, (.ireturn, 1)), (62, (.aload_n 0, 1)), (63, (.getfield 388, 3)), (66, (.ireturn, 1)), (67, (.aload_n 0, 1)), (68, (.getfield 196, 3)), (71, (.ireturn, 1)), (72, (.aload_n 0, 1)), (73, (.getfield 220, 3)), (76, (.ireturn, 1)), (77, (.aload_n 0, 1)), (78, (.getfield 235, 3)), (81, (.ireturn, 1)), (82, (.aload_n 0, 1)), (83, (.iconst 1, 1)), (84, (.aload_n 0, 1)), (85, (.getfield 196, 3))] = true := zDs 0 (by decide +kernel)
theorem d_M_about_0 : decode (zb m_M_about) 0 = .ok (.iload_n 1, 1) := zdal_p dlC_M_about_146 (i := 0) rfl
theorem d_M_about_1 : decode (zb m_M_about) 1 = .ok (.tableswitch 107 0 8 #[51, 56, 61, 66, 71, 76, 81, 97, 102], 51) := zdal_p dlC_M_about_146 (i := 1) rfl
theorem d_M_about_52 : decode (zb m_M_about) 52 = .ok (.aload_n 0, 1) := zdal_p dlC_M_about_146 (i := 2) rfl
theorem d_M_about_53 : decode (zb m_M_about) 53 = .ok (.getfield 382, 3) := zdal_p dlC_M_about_146 (i := 3) rfl
theorem d_M_about_56 : decode (zb m_M_about) 56 = .ok (.ireturn, 1) := zdal_p dlC_M_about_146 (i := 4) rfl
theorem d_M_about_57 : decode (zb m_M_about) 57 = .ok (.aload_n 0, 1) := zdal_p dlC_M_about_146 (i := 5) rfl
theorem d_M_about_58 : decode (zb m_M_about) 58 = .ok (.getfield 385, 3) := zdal_p dlC_M_about_146 (i := 6) rfl
theorem d_M_about_61 : decode (zb m_M_about) 61 = .ok (.ireturn, 1) := zdal_p dlC_M_about_146 (i := 7) rfl
theorem d_M_about_62 : decode (zb m_M_about) 62 = .ok (.aload_n 0, 1) := zdal_p dlC_M_about_146 (i := 8) rfl
theorem d_M_about_63 : decode (zb m_M_about) 63 = .ok (.getfield 388, 3) := zdal_p dlC_M_about_146 (i := 9) rfl
theorem d_M_about_66 : decode (zb m_M_about) 66 = .ok (.ireturn, 1) := zdal_p dlC_M_about_146 (i := 10) rfl
theorem d_M_about_67 : decode (zb m_M_about) 67 = .ok (.aload_n 0, 1) := zdal_p dlC_M_about_146 (i := 11) rfl
theorem d_M_about_68 : decode (zb m_M_about) 68 = .ok (.getfield 196, 3) := zdal_p dlC_M_about_146 (i := 12) rfl
theorem d_M_about_71 : decode (zb m_M_about) 71 = .ok (.ireturn, 1) := zdal_p dlC_M_about_146 (i := 13) rfl
theorem d_M_about_72 : decode (zb m_M_about) 72 = .ok (.aload_n 0, 1) := zdal_p dlC_M_about_146 (i := 14) rfl
theorem d_M_about_73 : decode (zb m_M_about) 73 = .ok (.getfield 220, 3) := zdal_p dlC_M_about_146 (i := 15) rfl
theorem d_M_about_76 : decode (zb m_M_about) 76 = .ok (.ireturn, 1) := zdal_p dlC_M_about_146 (i := 16) rfl
theorem d_M_about_77 : decode (zb m_M_about) 77 = .ok (.aload_n 0, 1) := zdal_p dlC_M_about_146 (i := 17) rfl
theorem d_M_about_78 : decode (zb m_M_about) 78 = .ok (.getfield 235, 3) := zdal_p dlC_M_about_146 (i := 18) rfl
theorem d_M_about_81 : decode (zb m_M_about) 81 = .ok (.ireturn, 1) := zdal_p dlC_M_about_146 (i := 19) rfl
theorem d_M_about_82 : decode (zb m_M_about) 82 = .ok (.aload_n 0, 1) := zdal_p dlC_M_about_146 (i := 20) rfl
theorem d_M_about_83 : decode (zb m_M_about) 83 = .ok (.iconst 1, 1) := zdal_p dlC_M_about_146 (i := 21) rfl
theorem d_M_about_84 : decode (zb m_M_about) 84 = .ok (.aload_n 0, 1) := zdal_p dlC_M_about_146 (i := 22) rfl
theorem d_M_about_85 : decode (zb m_M_about) 85 = .ok (.getfield 196, 3) := zdal_p dlC_M_about_146 (i := 23) rfl
theorem dlC_M_about_147 : zdal (zb m_M_about) [(88, (.ishl, 1)), (89, (.iconst 1, 1)), (90, (.isub, 1)), (91, (.invokevirtual 397, 3)), (94, (.invokestatic 256, 3)), (97, (.ireturn, 1)), (98, (.aload_n 0, 1)), (99, (.getfield 391, 3)), (102, (.ireturn, 1)), (103, (.aload_n 0, 1)), (104, (.getfield 124, 3)), (107, (.ireturn, 1)), (108, (.iconst (-1), 1)), (109, (.ireturn, 1))] = true := zDs 88 (by decide +kernel)
theorem d_M_about_88 : decode (zb m_M_about) 88 = .ok (.ishl, 1) := zdal_p dlC_M_about_147 (i := 0) rfl
theorem d_M_about_89 : decode (zb m_M_about) 89 = .ok (.iconst 1, 1) := zdal_p dlC_M_about_147 (i := 1) rfl
theorem d_M_about_90 : decode (zb m_M_about) 90 = .ok (.isub, 1) := zdal_p dlC_M_about_147 (i := 2) rfl
theorem d_M_about_91 : decode (zb m_M_about) 91 = .ok (.invokevirtual 397, 3) := zdal_p dlC_M_about_147 (i := 3) rfl
theorem d_M_about_94 : decode (zb m_M_about) 94 = .ok (.invokestatic 256, 3) := zdal_p dlC_M_about_147 (i := 4) rfl
theorem d_M_about_97 : decode (zb m_M_about) 97 = .ok (.ireturn, 1) := zdal_p dlC_M_about_147 (i := 5) rfl
theorem d_M_about_98 : decode (zb m_M_about) 98 = .ok (.aload_n 0, 1) := zdal_p dlC_M_about_147 (i := 6) rfl
theorem d_M_about_99 : decode (zb m_M_about) 99 = .ok (.getfield 391, 3) := zdal_p dlC_M_about_147 (i := 7) rfl
theorem d_M_about_102 : decode (zb m_M_about) 102 = .ok (.ireturn, 1) := zdal_p dlC_M_about_147 (i := 8) rfl
theorem d_M_about_103 : decode (zb m_M_about) 103 = .ok (.aload_n 0, 1) := zdal_p dlC_M_about_147 (i := 9) rfl
theorem d_M_about_104 : decode (zb m_M_about) 104 = .ok (.getfield 124, 3) := zdal_p dlC_M_about_147 (i := 10) rfl
theorem d_M_about_107 : decode (zb m_M_about) 107 = .ok (.ireturn, 1) := zdal_p dlC_M_about_147 (i := 11) rfl
theorem d_M_about_108 : decode (zb m_M_about) 108 = .ok (.iconst (-1), 1) := zdal_p dlC_M_about_147 (i := 12) rfl
theorem d_M_about_109 : decode (zb m_M_about) 109 = .ok (.ireturn, 1) := zdal_p dlC_M_about_147 (i := 13) rfl
theorem dlC_M_areAlike_148 : zdal (zb m_M_areAlike) [(0, (.iconst 0, 1)), (1, (.istore_n 2, 1)), (2, (.iload_n 2, 1)), (3, (.aload_n 0, 1)), (4, (.getfield 196, 3)), (7, (.if_icmp .ge 58, 3)), (10, (.iconst 0, 1)), (11, (.istore_n 3, 1)), (12, (.iload_n 3, 1)), (13, (.aload_n 0, 1)), (14, (.getfield 196, 3)), (17, (.if_icmp .ge 42, 3)), (20, (.iload_n 1, 1)), (21, (.iload_n 2, 1)), (22, (.invokestatic 213, 3)), (25, (.ifCond .eq 28, 3)), (28, (.iload_n 1, 1)), (29, (.iload_n 3, 1)), (30, (.invokestatic 213, 3)), (33, (.ifCond .eq 20, 3)), (36, (.aload_n 0, 1)), (37, (.iload_n 2, 1)), (38, (.iload_n 3, 1)), (39, (.invokevirtual 216, 3))] = true := zDs 0 (by decide +kernel)
theorem d_M_areAlike_0 : decode (zb m_M_areAlike) 0 = .ok (.iconst 0, 1) := zdal_p dlC_M_areAlike_148 (i := 0) rfl
theorem d_M_areAlike_1 : decode (zb m_M_areAlike) 1 = .ok (.istore_n 2, 1) := zdal_p dlC_M_areAlike_148 (i := 1) rfl
theorem d_M_areAlike_2 : decode (zb m_M_areAlike) 2 = .ok (.iload_n 2, 1) := zdal_p dlC_M_areAlike_148 (i := 2) rfl
theorem d_M_areAlike_3 : decode (zb m_M_areAlike) 3 = .ok (.aload_n 0, 1) := zdal_p dlC_M_areAlike_148 (i := 3) rfl
theorem d_M_areAlike_4 : decode (zb m_M_areAlike) 4 = .ok (.getfield 196, 3) := zdal_p dlC_M_areAlike_148 (i := 4) rfl
theorem d_M_areAlike_7 : decode (zb m_M_areAlike) 7 = .ok (.if_icmp .ge 58, 3) := zdal_p dlC_M_areAlike_148 (i := 5) rfl
theorem d_M_areAlike_10 : decode (zb m_M_areAlike) 10 = .ok (.iconst 0, 1) := zdal_p dlC_M_areAlike_148 (i := 6) rfl
theorem d_M_areAlike_11 : decode (zb m_M_areAlike) 11 = .ok (.istore_n 3, 1) := zdal_p dlC_M_areAlike_148 (i := 7) rfl
theorem d_M_areAlike_12 : decode (zb m_M_areAlike) 12 = .ok (.iload_n 3, 1) := zdal_p dlC_M_areAlike_148 (i := 8) rfl
theorem d_M_areAlike_13 : decode (zb m_M_areAlike) 13 = .ok (.aload_n 0, 1) := zdal_p dlC_M_areAlike_148 (i := 9) rfl
theorem d_M_areAlike_14 : decode (zb m_M_areAlike) 14 = .ok (.getfield 196, 3) := zdal_p dlC_M_areAlike_148 (i := 10) rfl
theorem d_M_areAlike_17 : decode (zb m_M_areAlike) 17 = .ok (.if_icmp .ge 42, 3) := zdal_p dlC_M_areAlike_148 (i := 11) rfl
theorem d_M_areAlike_20 : decode (zb m_M_areAlike) 20 = .ok (.iload_n 1, 1) := zdal_p dlC_M_areAlike_148 (i := 12) rfl
theorem d_M_areAlike_21 : decode (zb m_M_areAlike) 21 = .ok (.iload_n 2, 1) := zdal_p dlC_M_areAlike_148 (i := 13) rfl
theorem d_M_areAlike_22 : decode (zb m_M_areAlike) 22 = .ok (.invokestatic 213, 3) := zdal_p dlC_M_areAlike_148 (i := 14) rfl
theorem d_M_areAlike_25 : decode (zb m_M_areAlike) 25 = .ok (.ifCond .eq 28, 3) := zdal_p dlC_M_areAlike_148 (i := 15) rfl
theorem d_M_areAlike_28 : decode (zb m_M_areAlike) 28 = .ok (.iload_n 1, 1) := zdal_p dlC_M_areAlike_148 (i := 16) rfl
theorem d_M_areAlike_29 : decode (zb m_M_areAlike) 29 = .ok (.iload_n 3, 1) := zdal_p dlC_M_areAlike_148 (i := 17) rfl
theorem d_M_areAlike_30 : decode (zb m_M_areAlike) 30 = .ok (.invokestatic 213, 3) := zdal_p dlC_M_areAlike_148 (i := 18) rfl
theorem d_M_areAlike_33 : decode (zb m_M_areAlike) 33 = .ok (.ifCond .eq 20, 3) := zdal_p dlC_M_areAlike_148 (i := 19) rfl
theorem d_M_areAlike_36 : decode (zb m_M_areAlike) 36 = .ok (.aload_n 0, 1) := zdal_p dlC_M_areAlike_148 (i := 20) rfl
theorem d_M_areAlike_37 : decode (zb m_M_areAlike) 37 = .ok (.iload_n 2, 1) := zdal_p dlC_M_areAlike_148 (i := 21) rfl
theorem d_M_areAlike_38 : decode (zb m_M_areAlike) 38 = .ok (.iload_n 3, 1) := zdal_p dlC_M_areAlike_148 (i := 22) rfl
theorem d_M_areAlike_39 : decode (zb m_M_areAlike) 39 = .ok (.invokevirtual 216, 3) := zdal_p dlC_M_areAlike_148 (i := 23) rfl
theorem dlC_M_areAlike_149 : zdal (zb m_M_areAlike) [(42, (.aload_n 0, 1)), (43, (.iload_n 3, 1)), (44, (.iload_n 2, 1)), (45, (.invokevirtual 216, 3)), (48, (.if_icmp .eq 5, 3)), (51, (.iconst 0, 1)), (52, (.ireturn, 1)), (53, (.iinc 3 1, 3)), (56, (.goto (-44), 3)), (59, (.iinc 2 1, 3)), (62, (.goto (-60), 3)), (65, (.iconst 1, 1)), (66, (.ireturn, 1))] = true := zDs 42 (by decide +kernel)
theorem d_M_areAlike_42 : decode (zb m_M_areAlike) 42 = .ok (.aload_n 0, 1) := zdal_p dlC_M_areAlike_149 (i := 0) rfl
theorem d_M_areAlike_43 : decode (zb m_M_areAlike) 43 = .ok (.iload_n 3, 1) := zdal_p dlC_M_areAlike_149 (i := 1) rfl
theorem d_M_areAlike_44 : decode (zb m_M_areAlike) 44 = .ok (.iload_n 2, 1) := zdal_p dlC_M_areAlike_149 (i := 2) rfl
theorem d_M_areAlike_45 : decode (zb m_M_areAlike) 45 = .ok (.invokevirtual 216, 3) := zdal_p dlC_M_areAlike_149 (i := 3) rfl
theorem d_M_areAlike_48 : decode (zb m_M_areAlike) 48 = .ok (.if_icmp .eq 5, 3) := zdal_p dlC_M_areAlike_149 (i := 4) rfl
theorem d_M_areAlike_51 : decode (zb m_M_areAlike) 51 = .ok (.iconst 0, 1) := zdal_p dlC_M_areAlike_149 (i := 5) rfl
theorem d_M_areAlike_52 : decode (zb m_M_areAlike) 52 = .ok (.ireturn, 1) := zdal_p dlC_M_areAlike_149 (i := 6) rfl
theorem d_M_areAlike_53 : decode (zb m_M_areAlike) 53 = .ok (.iinc 3 1, 3) := zdal_p dlC_M_areAlike_149 (i := 7) rfl
theorem d_M_areAlike_56 : decode (zb m_M_areAlike) 56 = .ok (.goto (-44), 3) := zdal_p dlC_M_areAlike_149 (i := 8) rfl
theorem d_M_areAlike_59 : decode (zb m_M_areAlike) 59 = .ok (.iinc 2 1, 3) := zdal_p dlC_M_areAlike_149 (i := 9) rfl
theorem d_M_areAlike_62 : decode (zb m_M_areAlike) 62 = .ok (.goto (-60), 3) := zdal_p dlC_M_areAlike_149 (i := 10) rfl
theorem d_M_areAlike_65 : decode (zb m_M_areAlike) 65 = .ok (.iconst 1, 1) := zdal_p dlC_M_areAlike_149 (i := 11) rfl
theorem d_M_areAlike_66 : decode (zb m_M_areAlike) 66 = .ok (.ireturn, 1) := zdal_p dlC_M_areAlike_149 (i := 12) rfl
