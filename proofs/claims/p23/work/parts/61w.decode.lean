theorem dg_at {code : ByteArray} {L : List (Nat × Jvm.ClassFile.Instr × Nat)} (h : L.all (fun q => decide (decode code q.1 = .ok q.2)) = true) (k : Nat) (q : Nat × Jvm.ClassFile.Instr × Nat) (hk : L[k]? = some q) : decode code q.1 = .ok q.2 := of_decide_eq_true (List.all_eq_true.mp h q (List.mem_of_getElem? hk))

theorem dL_law_33 : decode cL_law 33 = .ok (.tableswitch 1197 0 25 #[119, 142, 205, 248, 281, 304, 367, 390, 403, 416, 469, 572, 605, 628, 661, 704, 727, 780, 823, 876, 899, 922, 945, 978, 1161, 1184], 119) := by decide +kernel
theorem dLg_0 : ([(0, .new 7, 3), (3, .dup, 1), (4, .invokespecial 9, 3), (7, .astore_n 1, 1), (8, .new 10, 3), (11, .dup, 1), (12, .invokespecial 12, 3), (15, .astore_n 2, 1), (16, .iconst 0, 1), (17, .istore_n 3, 1), (18, .iload_n 3, 1), (19, .aload_n 0, 1), (20, .arraylength, 1), (21, .bipush 11, 2), (23, .isub, 1), (24, .if_icmp .gt 1212, 3), (27, .aload_n 0, 1), (28, .iload_n 3, 1), (29, .iaload, 1), (30, .bipush 31, 2), (32, .iand, 1), (152, .aload_n 1, 1), (153, .aload_n 0, 1), (154, .iload_n 3, 1), (155, .iconst 1, 1), (156, .iadd, 1), (157, .iaload, 1), (158, .invokevirtual 13, 3), (161, .pop, 1), (162, .aload_n 2, 1), (163, .aload_n 0, 1), (164, .iload_n 3, 1), (165, .iconst 1, 1), (166, .iadd, 1), (167, .iaload, 1), (168, .invokevirtual 17, 3), (171, .pop, 1), (172, .goto 1058, 3), (175, .aload_n 1, 1), (176, .aload_n 0, 1)] : List (Nat × Jvm.ClassFile.Instr × Nat)).all (fun q => decide (decode cL_law q.1 = .ok q.2)) = true := by decide +kernel
theorem dL_law_0 : decode cL_law 0 = .ok (.new 7, 3) := dg_at dLg_0 0 (0, .new 7, 3) rfl
theorem dL_law_3 : decode cL_law 3 = .ok (.dup, 1) := dg_at dLg_0 1 (3, .dup, 1) rfl
theorem dL_law_4 : decode cL_law 4 = .ok (.invokespecial 9, 3) := dg_at dLg_0 2 (4, .invokespecial 9, 3) rfl
theorem dL_law_7 : decode cL_law 7 = .ok (.astore_n 1, 1) := dg_at dLg_0 3 (7, .astore_n 1, 1) rfl
theorem dL_law_8 : decode cL_law 8 = .ok (.new 10, 3) := dg_at dLg_0 4 (8, .new 10, 3) rfl
theorem dL_law_11 : decode cL_law 11 = .ok (.dup, 1) := dg_at dLg_0 5 (11, .dup, 1) rfl
theorem dL_law_12 : decode cL_law 12 = .ok (.invokespecial 12, 3) := dg_at dLg_0 6 (12, .invokespecial 12, 3) rfl
theorem dL_law_15 : decode cL_law 15 = .ok (.astore_n 2, 1) := dg_at dLg_0 7 (15, .astore_n 2, 1) rfl
theorem dL_law_16 : decode cL_law 16 = .ok (.iconst 0, 1) := dg_at dLg_0 8 (16, .iconst 0, 1) rfl
theorem dL_law_17 : decode cL_law 17 = .ok (.istore_n 3, 1) := dg_at dLg_0 9 (17, .istore_n 3, 1) rfl
theorem dL_law_18 : decode cL_law 18 = .ok (.iload_n 3, 1) := dg_at dLg_0 10 (18, .iload_n 3, 1) rfl
theorem dL_law_19 : decode cL_law 19 = .ok (.aload_n 0, 1) := dg_at dLg_0 11 (19, .aload_n 0, 1) rfl
theorem dL_law_20 : decode cL_law 20 = .ok (.arraylength, 1) := dg_at dLg_0 12 (20, .arraylength, 1) rfl
theorem dL_law_21 : decode cL_law 21 = .ok (.bipush 11, 2) := dg_at dLg_0 13 (21, .bipush 11, 2) rfl
theorem dL_law_23 : decode cL_law 23 = .ok (.isub, 1) := dg_at dLg_0 14 (23, .isub, 1) rfl
theorem dL_law_24 : decode cL_law 24 = .ok (.if_icmp .gt 1212, 3) := dg_at dLg_0 15 (24, .if_icmp .gt 1212, 3) rfl
theorem dL_law_27 : decode cL_law 27 = .ok (.aload_n 0, 1) := dg_at dLg_0 16 (27, .aload_n 0, 1) rfl
theorem dL_law_28 : decode cL_law 28 = .ok (.iload_n 3, 1) := dg_at dLg_0 17 (28, .iload_n 3, 1) rfl
theorem dL_law_29 : decode cL_law 29 = .ok (.iaload, 1) := dg_at dLg_0 18 (29, .iaload, 1) rfl
theorem dL_law_30 : decode cL_law 30 = .ok (.bipush 31, 2) := dg_at dLg_0 19 (30, .bipush 31, 2) rfl
theorem dL_law_32 : decode cL_law 32 = .ok (.iand, 1) := dg_at dLg_0 20 (32, .iand, 1) rfl
theorem dL_law_152 : decode cL_law 152 = .ok (.aload_n 1, 1) := dg_at dLg_0 21 (152, .aload_n 1, 1) rfl
theorem dL_law_153 : decode cL_law 153 = .ok (.aload_n 0, 1) := dg_at dLg_0 22 (153, .aload_n 0, 1) rfl
theorem dL_law_154 : decode cL_law 154 = .ok (.iload_n 3, 1) := dg_at dLg_0 23 (154, .iload_n 3, 1) rfl
theorem dL_law_155 : decode cL_law 155 = .ok (.iconst 1, 1) := dg_at dLg_0 24 (155, .iconst 1, 1) rfl
theorem dL_law_156 : decode cL_law 156 = .ok (.iadd, 1) := dg_at dLg_0 25 (156, .iadd, 1) rfl
theorem dL_law_157 : decode cL_law 157 = .ok (.iaload, 1) := dg_at dLg_0 26 (157, .iaload, 1) rfl
theorem dL_law_158 : decode cL_law 158 = .ok (.invokevirtual 13, 3) := dg_at dLg_0 27 (158, .invokevirtual 13, 3) rfl
theorem dL_law_161 : decode cL_law 161 = .ok (.pop, 1) := dg_at dLg_0 28 (161, .pop, 1) rfl
theorem dL_law_162 : decode cL_law 162 = .ok (.aload_n 2, 1) := dg_at dLg_0 29 (162, .aload_n 2, 1) rfl
theorem dL_law_163 : decode cL_law 163 = .ok (.aload_n 0, 1) := dg_at dLg_0 30 (163, .aload_n 0, 1) rfl
theorem dL_law_164 : decode cL_law 164 = .ok (.iload_n 3, 1) := dg_at dLg_0 31 (164, .iload_n 3, 1) rfl
theorem dL_law_165 : decode cL_law 165 = .ok (.iconst 1, 1) := dg_at dLg_0 32 (165, .iconst 1, 1) rfl
theorem dL_law_166 : decode cL_law 166 = .ok (.iadd, 1) := dg_at dLg_0 33 (166, .iadd, 1) rfl
theorem dL_law_167 : decode cL_law 167 = .ok (.iaload, 1) := dg_at dLg_0 34 (167, .iaload, 1) rfl
theorem dL_law_168 : decode cL_law 168 = .ok (.invokevirtual 17, 3) := dg_at dLg_0 35 (168, .invokevirtual 17, 3) rfl
theorem dL_law_171 : decode cL_law 171 = .ok (.pop, 1) := dg_at dLg_0 36 (171, .pop, 1) rfl
theorem dL_law_172 : decode cL_law 172 = .ok (.goto 1058, 3) := dg_at dLg_0 37 (172, .goto 1058, 3) rfl
theorem dL_law_175 : decode cL_law 175 = .ok (.aload_n 1, 1) := dg_at dLg_0 38 (175, .aload_n 1, 1) rfl
theorem dL_law_176 : decode cL_law 176 = .ok (.aload_n 0, 1) := dg_at dLg_0 39 (176, .aload_n 0, 1) rfl
theorem dLg_1 : ([(177, .iload_n 3, 1), (178, .iconst 1, 1), (179, .iadd, 1), (180, .iaload, 1), (181, .aload_n 0, 1), (182, .iload_n 3, 1), (183, .iconst 2, 1), (184, .iadd, 1), (185, .iaload, 1), (186, .aload_n 0, 1), (187, .iload_n 3, 1), (188, .iconst 3, 1), (189, .iadd, 1), (190, .iaload, 1), (191, .aload_n 0, 1), (192, .iload_n 3, 1), (193, .iconst 4, 1), (194, .iadd, 1), (195, .iaload, 1), (196, .aload_n 0, 1), (197, .iload_n 3, 1), (198, .iconst 5, 1), (199, .iadd, 1), (200, .iaload, 1), (201, .invokevirtual 18, 3), (204, .pop, 1), (205, .aload_n 2, 1), (206, .aload_n 0, 1), (207, .iload_n 3, 1), (208, .iconst 1, 1), (209, .iadd, 1), (210, .iaload, 1), (211, .aload_n 0, 1), (212, .iload_n 3, 1), (213, .iconst 2, 1), (214, .iadd, 1), (215, .iaload, 1), (216, .aload_n 0, 1), (217, .iload_n 3, 1), (218, .iconst 3, 1)] : List (Nat × Jvm.ClassFile.Instr × Nat)).all (fun q => decide (decode cL_law q.1 = .ok q.2)) = true := by decide +kernel
theorem dL_law_177 : decode cL_law 177 = .ok (.iload_n 3, 1) := dg_at dLg_1 0 (177, .iload_n 3, 1) rfl
theorem dL_law_178 : decode cL_law 178 = .ok (.iconst 1, 1) := dg_at dLg_1 1 (178, .iconst 1, 1) rfl
theorem dL_law_179 : decode cL_law 179 = .ok (.iadd, 1) := dg_at dLg_1 2 (179, .iadd, 1) rfl
theorem dL_law_180 : decode cL_law 180 = .ok (.iaload, 1) := dg_at dLg_1 3 (180, .iaload, 1) rfl
theorem dL_law_181 : decode cL_law 181 = .ok (.aload_n 0, 1) := dg_at dLg_1 4 (181, .aload_n 0, 1) rfl
theorem dL_law_182 : decode cL_law 182 = .ok (.iload_n 3, 1) := dg_at dLg_1 5 (182, .iload_n 3, 1) rfl
theorem dL_law_183 : decode cL_law 183 = .ok (.iconst 2, 1) := dg_at dLg_1 6 (183, .iconst 2, 1) rfl
theorem dL_law_184 : decode cL_law 184 = .ok (.iadd, 1) := dg_at dLg_1 7 (184, .iadd, 1) rfl
theorem dL_law_185 : decode cL_law 185 = .ok (.iaload, 1) := dg_at dLg_1 8 (185, .iaload, 1) rfl
theorem dL_law_186 : decode cL_law 186 = .ok (.aload_n 0, 1) := dg_at dLg_1 9 (186, .aload_n 0, 1) rfl
theorem dL_law_187 : decode cL_law 187 = .ok (.iload_n 3, 1) := dg_at dLg_1 10 (187, .iload_n 3, 1) rfl
theorem dL_law_188 : decode cL_law 188 = .ok (.iconst 3, 1) := dg_at dLg_1 11 (188, .iconst 3, 1) rfl
theorem dL_law_189 : decode cL_law 189 = .ok (.iadd, 1) := dg_at dLg_1 12 (189, .iadd, 1) rfl
theorem dL_law_190 : decode cL_law 190 = .ok (.iaload, 1) := dg_at dLg_1 13 (190, .iaload, 1) rfl
theorem dL_law_191 : decode cL_law 191 = .ok (.aload_n 0, 1) := dg_at dLg_1 14 (191, .aload_n 0, 1) rfl
theorem dL_law_192 : decode cL_law 192 = .ok (.iload_n 3, 1) := dg_at dLg_1 15 (192, .iload_n 3, 1) rfl
theorem dL_law_193 : decode cL_law 193 = .ok (.iconst 4, 1) := dg_at dLg_1 16 (193, .iconst 4, 1) rfl
theorem dL_law_194 : decode cL_law 194 = .ok (.iadd, 1) := dg_at dLg_1 17 (194, .iadd, 1) rfl
theorem dL_law_195 : decode cL_law 195 = .ok (.iaload, 1) := dg_at dLg_1 18 (195, .iaload, 1) rfl
theorem dL_law_196 : decode cL_law 196 = .ok (.aload_n 0, 1) := dg_at dLg_1 19 (196, .aload_n 0, 1) rfl
theorem dL_law_197 : decode cL_law 197 = .ok (.iload_n 3, 1) := dg_at dLg_1 20 (197, .iload_n 3, 1) rfl
theorem dL_law_198 : decode cL_law 198 = .ok (.iconst 5, 1) := dg_at dLg_1 21 (198, .iconst 5, 1) rfl
theorem dL_law_199 : decode cL_law 199 = .ok (.iadd, 1) := dg_at dLg_1 22 (199, .iadd, 1) rfl
theorem dL_law_200 : decode cL_law 200 = .ok (.iaload, 1) := dg_at dLg_1 23 (200, .iaload, 1) rfl
theorem dL_law_201 : decode cL_law 201 = .ok (.invokevirtual 18, 3) := dg_at dLg_1 24 (201, .invokevirtual 18, 3) rfl
theorem dL_law_204 : decode cL_law 204 = .ok (.pop, 1) := dg_at dLg_1 25 (204, .pop, 1) rfl
theorem dL_law_205 : decode cL_law 205 = .ok (.aload_n 2, 1) := dg_at dLg_1 26 (205, .aload_n 2, 1) rfl
theorem dL_law_206 : decode cL_law 206 = .ok (.aload_n 0, 1) := dg_at dLg_1 27 (206, .aload_n 0, 1) rfl
theorem dL_law_207 : decode cL_law 207 = .ok (.iload_n 3, 1) := dg_at dLg_1 28 (207, .iload_n 3, 1) rfl
theorem dL_law_208 : decode cL_law 208 = .ok (.iconst 1, 1) := dg_at dLg_1 29 (208, .iconst 1, 1) rfl
theorem dL_law_209 : decode cL_law 209 = .ok (.iadd, 1) := dg_at dLg_1 30 (209, .iadd, 1) rfl
theorem dL_law_210 : decode cL_law 210 = .ok (.iaload, 1) := dg_at dLg_1 31 (210, .iaload, 1) rfl
theorem dL_law_211 : decode cL_law 211 = .ok (.aload_n 0, 1) := dg_at dLg_1 32 (211, .aload_n 0, 1) rfl
theorem dL_law_212 : decode cL_law 212 = .ok (.iload_n 3, 1) := dg_at dLg_1 33 (212, .iload_n 3, 1) rfl
theorem dL_law_213 : decode cL_law 213 = .ok (.iconst 2, 1) := dg_at dLg_1 34 (213, .iconst 2, 1) rfl
theorem dL_law_214 : decode cL_law 214 = .ok (.iadd, 1) := dg_at dLg_1 35 (214, .iadd, 1) rfl
theorem dL_law_215 : decode cL_law 215 = .ok (.iaload, 1) := dg_at dLg_1 36 (215, .iaload, 1) rfl
theorem dL_law_216 : decode cL_law 216 = .ok (.aload_n 0, 1) := dg_at dLg_1 37 (216, .aload_n 0, 1) rfl
theorem dL_law_217 : decode cL_law 217 = .ok (.iload_n 3, 1) := dg_at dLg_1 38 (217, .iload_n 3, 1) rfl
theorem dL_law_218 : decode cL_law 218 = .ok (.iconst 3, 1) := dg_at dLg_1 39 (218, .iconst 3, 1) rfl
theorem dLg_2 : ([(219, .iadd, 1), (220, .iaload, 1), (221, .aload_n 0, 1), (222, .iload_n 3, 1), (223, .iconst 4, 1), (224, .iadd, 1), (225, .iaload, 1), (226, .aload_n 0, 1), (227, .iload_n 3, 1), (228, .iconst 5, 1), (229, .iadd, 1), (230, .iaload, 1), (231, .invokevirtual 22, 3), (234, .pop, 1), (235, .goto 995, 3), (238, .aload_n 1, 1), (239, .aload_n 0, 1), (240, .iload_n 3, 1), (241, .iconst 1, 1), (242, .iadd, 1), (243, .iaload, 1), (244, .aload_n 0, 1), (245, .iload_n 3, 1), (246, .iconst 2, 1), (247, .iadd, 1), (248, .iaload, 1), (249, .aload_n 0, 1), (250, .iload_n 3, 1), (251, .iconst 3, 1), (252, .iadd, 1), (253, .iaload, 1), (254, .invokevirtual 23, 3), (257, .pop, 1), (258, .aload_n 2, 1), (259, .aload_n 0, 1), (260, .iload_n 3, 1), (261, .iconst 1, 1), (262, .iadd, 1), (263, .iaload, 1), (264, .aload_n 0, 1)] : List (Nat × Jvm.ClassFile.Instr × Nat)).all (fun q => decide (decode cL_law q.1 = .ok q.2)) = true := by decide +kernel
theorem dL_law_219 : decode cL_law 219 = .ok (.iadd, 1) := dg_at dLg_2 0 (219, .iadd, 1) rfl
theorem dL_law_220 : decode cL_law 220 = .ok (.iaload, 1) := dg_at dLg_2 1 (220, .iaload, 1) rfl
theorem dL_law_221 : decode cL_law 221 = .ok (.aload_n 0, 1) := dg_at dLg_2 2 (221, .aload_n 0, 1) rfl
theorem dL_law_222 : decode cL_law 222 = .ok (.iload_n 3, 1) := dg_at dLg_2 3 (222, .iload_n 3, 1) rfl
theorem dL_law_223 : decode cL_law 223 = .ok (.iconst 4, 1) := dg_at dLg_2 4 (223, .iconst 4, 1) rfl
theorem dL_law_224 : decode cL_law 224 = .ok (.iadd, 1) := dg_at dLg_2 5 (224, .iadd, 1) rfl
theorem dL_law_225 : decode cL_law 225 = .ok (.iaload, 1) := dg_at dLg_2 6 (225, .iaload, 1) rfl
theorem dL_law_226 : decode cL_law 226 = .ok (.aload_n 0, 1) := dg_at dLg_2 7 (226, .aload_n 0, 1) rfl
theorem dL_law_227 : decode cL_law 227 = .ok (.iload_n 3, 1) := dg_at dLg_2 8 (227, .iload_n 3, 1) rfl
theorem dL_law_228 : decode cL_law 228 = .ok (.iconst 5, 1) := dg_at dLg_2 9 (228, .iconst 5, 1) rfl
theorem dL_law_229 : decode cL_law 229 = .ok (.iadd, 1) := dg_at dLg_2 10 (229, .iadd, 1) rfl
theorem dL_law_230 : decode cL_law 230 = .ok (.iaload, 1) := dg_at dLg_2 11 (230, .iaload, 1) rfl
theorem dL_law_231 : decode cL_law 231 = .ok (.invokevirtual 22, 3) := dg_at dLg_2 12 (231, .invokevirtual 22, 3) rfl
theorem dL_law_234 : decode cL_law 234 = .ok (.pop, 1) := dg_at dLg_2 13 (234, .pop, 1) rfl
theorem dL_law_235 : decode cL_law 235 = .ok (.goto 995, 3) := dg_at dLg_2 14 (235, .goto 995, 3) rfl
theorem dL_law_238 : decode cL_law 238 = .ok (.aload_n 1, 1) := dg_at dLg_2 15 (238, .aload_n 1, 1) rfl
theorem dL_law_239 : decode cL_law 239 = .ok (.aload_n 0, 1) := dg_at dLg_2 16 (239, .aload_n 0, 1) rfl
theorem dL_law_240 : decode cL_law 240 = .ok (.iload_n 3, 1) := dg_at dLg_2 17 (240, .iload_n 3, 1) rfl
theorem dL_law_241 : decode cL_law 241 = .ok (.iconst 1, 1) := dg_at dLg_2 18 (241, .iconst 1, 1) rfl
theorem dL_law_242 : decode cL_law 242 = .ok (.iadd, 1) := dg_at dLg_2 19 (242, .iadd, 1) rfl
theorem dL_law_243 : decode cL_law 243 = .ok (.iaload, 1) := dg_at dLg_2 20 (243, .iaload, 1) rfl
theorem dL_law_244 : decode cL_law 244 = .ok (.aload_n 0, 1) := dg_at dLg_2 21 (244, .aload_n 0, 1) rfl
theorem dL_law_245 : decode cL_law 245 = .ok (.iload_n 3, 1) := dg_at dLg_2 22 (245, .iload_n 3, 1) rfl
theorem dL_law_246 : decode cL_law 246 = .ok (.iconst 2, 1) := dg_at dLg_2 23 (246, .iconst 2, 1) rfl
theorem dL_law_247 : decode cL_law 247 = .ok (.iadd, 1) := dg_at dLg_2 24 (247, .iadd, 1) rfl
theorem dL_law_248 : decode cL_law 248 = .ok (.iaload, 1) := dg_at dLg_2 25 (248, .iaload, 1) rfl
theorem dL_law_249 : decode cL_law 249 = .ok (.aload_n 0, 1) := dg_at dLg_2 26 (249, .aload_n 0, 1) rfl
theorem dL_law_250 : decode cL_law 250 = .ok (.iload_n 3, 1) := dg_at dLg_2 27 (250, .iload_n 3, 1) rfl
theorem dL_law_251 : decode cL_law 251 = .ok (.iconst 3, 1) := dg_at dLg_2 28 (251, .iconst 3, 1) rfl
theorem dL_law_252 : decode cL_law 252 = .ok (.iadd, 1) := dg_at dLg_2 29 (252, .iadd, 1) rfl
theorem dL_law_253 : decode cL_law 253 = .ok (.iaload, 1) := dg_at dLg_2 30 (253, .iaload, 1) rfl
theorem dL_law_254 : decode cL_law 254 = .ok (.invokevirtual 23, 3) := dg_at dLg_2 31 (254, .invokevirtual 23, 3) rfl
theorem dL_law_257 : decode cL_law 257 = .ok (.pop, 1) := dg_at dLg_2 32 (257, .pop, 1) rfl
theorem dL_law_258 : decode cL_law 258 = .ok (.aload_n 2, 1) := dg_at dLg_2 33 (258, .aload_n 2, 1) rfl
theorem dL_law_259 : decode cL_law 259 = .ok (.aload_n 0, 1) := dg_at dLg_2 34 (259, .aload_n 0, 1) rfl
theorem dL_law_260 : decode cL_law 260 = .ok (.iload_n 3, 1) := dg_at dLg_2 35 (260, .iload_n 3, 1) rfl
theorem dL_law_261 : decode cL_law 261 = .ok (.iconst 1, 1) := dg_at dLg_2 36 (261, .iconst 1, 1) rfl
theorem dL_law_262 : decode cL_law 262 = .ok (.iadd, 1) := dg_at dLg_2 37 (262, .iadd, 1) rfl
theorem dL_law_263 : decode cL_law 263 = .ok (.iaload, 1) := dg_at dLg_2 38 (263, .iaload, 1) rfl
theorem dL_law_264 : decode cL_law 264 = .ok (.aload_n 0, 1) := dg_at dLg_2 39 (264, .aload_n 0, 1) rfl
theorem dLg_3 : ([(265, .iload_n 3, 1), (266, .iconst 2, 1), (267, .iadd, 1), (268, .iaload, 1), (269, .aload_n 0, 1), (270, .iload_n 3, 1), (271, .iconst 3, 1), (272, .iadd, 1), (273, .iaload, 1), (274, .invokevirtual 27, 3), (277, .pop, 1), (278, .goto 952, 3), (281, .aload_n 1, 1), (282, .aload_n 0, 1), (283, .iload_n 3, 1), (284, .iconst 1, 1), (285, .iadd, 1), (286, .iaload, 1), (287, .aload_n 0, 1), (288, .iload_n 3, 1), (289, .iconst 2, 1), (290, .iadd, 1), (291, .iaload, 1), (292, .invokevirtual 28, 3), (295, .pop, 1), (296, .aload_n 2, 1), (297, .aload_n 0, 1), (298, .iload_n 3, 1), (299, .iconst 1, 1), (300, .iadd, 1), (301, .iaload, 1), (302, .aload_n 0, 1), (303, .iload_n 3, 1), (304, .iconst 2, 1), (305, .iadd, 1), (306, .iaload, 1), (307, .invokevirtual 32, 3), (310, .pop, 1), (311, .goto 919, 3), (314, .aload_n 1, 1)] : List (Nat × Jvm.ClassFile.Instr × Nat)).all (fun q => decide (decode cL_law q.1 = .ok q.2)) = true := by decide +kernel
theorem dL_law_265 : decode cL_law 265 = .ok (.iload_n 3, 1) := dg_at dLg_3 0 (265, .iload_n 3, 1) rfl
theorem dL_law_266 : decode cL_law 266 = .ok (.iconst 2, 1) := dg_at dLg_3 1 (266, .iconst 2, 1) rfl
theorem dL_law_267 : decode cL_law 267 = .ok (.iadd, 1) := dg_at dLg_3 2 (267, .iadd, 1) rfl
theorem dL_law_268 : decode cL_law 268 = .ok (.iaload, 1) := dg_at dLg_3 3 (268, .iaload, 1) rfl
theorem dL_law_269 : decode cL_law 269 = .ok (.aload_n 0, 1) := dg_at dLg_3 4 (269, .aload_n 0, 1) rfl
theorem dL_law_270 : decode cL_law 270 = .ok (.iload_n 3, 1) := dg_at dLg_3 5 (270, .iload_n 3, 1) rfl
theorem dL_law_271 : decode cL_law 271 = .ok (.iconst 3, 1) := dg_at dLg_3 6 (271, .iconst 3, 1) rfl
theorem dL_law_272 : decode cL_law 272 = .ok (.iadd, 1) := dg_at dLg_3 7 (272, .iadd, 1) rfl
theorem dL_law_273 : decode cL_law 273 = .ok (.iaload, 1) := dg_at dLg_3 8 (273, .iaload, 1) rfl
theorem dL_law_274 : decode cL_law 274 = .ok (.invokevirtual 27, 3) := dg_at dLg_3 9 (274, .invokevirtual 27, 3) rfl
theorem dL_law_277 : decode cL_law 277 = .ok (.pop, 1) := dg_at dLg_3 10 (277, .pop, 1) rfl
theorem dL_law_278 : decode cL_law 278 = .ok (.goto 952, 3) := dg_at dLg_3 11 (278, .goto 952, 3) rfl
theorem dL_law_281 : decode cL_law 281 = .ok (.aload_n 1, 1) := dg_at dLg_3 12 (281, .aload_n 1, 1) rfl
theorem dL_law_282 : decode cL_law 282 = .ok (.aload_n 0, 1) := dg_at dLg_3 13 (282, .aload_n 0, 1) rfl
theorem dL_law_283 : decode cL_law 283 = .ok (.iload_n 3, 1) := dg_at dLg_3 14 (283, .iload_n 3, 1) rfl
theorem dL_law_284 : decode cL_law 284 = .ok (.iconst 1, 1) := dg_at dLg_3 15 (284, .iconst 1, 1) rfl
theorem dL_law_285 : decode cL_law 285 = .ok (.iadd, 1) := dg_at dLg_3 16 (285, .iadd, 1) rfl
theorem dL_law_286 : decode cL_law 286 = .ok (.iaload, 1) := dg_at dLg_3 17 (286, .iaload, 1) rfl
theorem dL_law_287 : decode cL_law 287 = .ok (.aload_n 0, 1) := dg_at dLg_3 18 (287, .aload_n 0, 1) rfl
theorem dL_law_288 : decode cL_law 288 = .ok (.iload_n 3, 1) := dg_at dLg_3 19 (288, .iload_n 3, 1) rfl
theorem dL_law_289 : decode cL_law 289 = .ok (.iconst 2, 1) := dg_at dLg_3 20 (289, .iconst 2, 1) rfl
theorem dL_law_290 : decode cL_law 290 = .ok (.iadd, 1) := dg_at dLg_3 21 (290, .iadd, 1) rfl
theorem dL_law_291 : decode cL_law 291 = .ok (.iaload, 1) := dg_at dLg_3 22 (291, .iaload, 1) rfl
theorem dL_law_292 : decode cL_law 292 = .ok (.invokevirtual 28, 3) := dg_at dLg_3 23 (292, .invokevirtual 28, 3) rfl
theorem dL_law_295 : decode cL_law 295 = .ok (.pop, 1) := dg_at dLg_3 24 (295, .pop, 1) rfl
theorem dL_law_296 : decode cL_law 296 = .ok (.aload_n 2, 1) := dg_at dLg_3 25 (296, .aload_n 2, 1) rfl
theorem dL_law_297 : decode cL_law 297 = .ok (.aload_n 0, 1) := dg_at dLg_3 26 (297, .aload_n 0, 1) rfl
theorem dL_law_298 : decode cL_law 298 = .ok (.iload_n 3, 1) := dg_at dLg_3 27 (298, .iload_n 3, 1) rfl
theorem dL_law_299 : decode cL_law 299 = .ok (.iconst 1, 1) := dg_at dLg_3 28 (299, .iconst 1, 1) rfl
theorem dL_law_300 : decode cL_law 300 = .ok (.iadd, 1) := dg_at dLg_3 29 (300, .iadd, 1) rfl
theorem dL_law_301 : decode cL_law 301 = .ok (.iaload, 1) := dg_at dLg_3 30 (301, .iaload, 1) rfl
theorem dL_law_302 : decode cL_law 302 = .ok (.aload_n 0, 1) := dg_at dLg_3 31 (302, .aload_n 0, 1) rfl
theorem dL_law_303 : decode cL_law 303 = .ok (.iload_n 3, 1) := dg_at dLg_3 32 (303, .iload_n 3, 1) rfl
theorem dL_law_304 : decode cL_law 304 = .ok (.iconst 2, 1) := dg_at dLg_3 33 (304, .iconst 2, 1) rfl
theorem dL_law_305 : decode cL_law 305 = .ok (.iadd, 1) := dg_at dLg_3 34 (305, .iadd, 1) rfl
theorem dL_law_306 : decode cL_law 306 = .ok (.iaload, 1) := dg_at dLg_3 35 (306, .iaload, 1) rfl
theorem dL_law_307 : decode cL_law 307 = .ok (.invokevirtual 32, 3) := dg_at dLg_3 36 (307, .invokevirtual 32, 3) rfl
theorem dL_law_310 : decode cL_law 310 = .ok (.pop, 1) := dg_at dLg_3 37 (310, .pop, 1) rfl
theorem dL_law_311 : decode cL_law 311 = .ok (.goto 919, 3) := dg_at dLg_3 38 (311, .goto 919, 3) rfl
theorem dL_law_314 : decode cL_law 314 = .ok (.aload_n 1, 1) := dg_at dLg_3 39 (314, .aload_n 1, 1) rfl
theorem dLg_4 : ([(315, .aload_n 0, 1), (316, .iload_n 3, 1), (317, .iconst 1, 1), (318, .iadd, 1), (319, .iaload, 1), (320, .invokevirtual 33, 3), (323, .pop, 1), (324, .aload_n 2, 1), (325, .aload_n 0, 1), (326, .iload_n 3, 1), (327, .iconst 1, 1), (328, .iadd, 1), (329, .iaload, 1), (330, .invokevirtual 36, 3), (333, .pop, 1), (334, .goto 896, 3), (337, .aload_n 1, 1), (338, .aload_n 0, 1), (339, .iload_n 3, 1), (340, .iconst 1, 1), (341, .iadd, 1), (342, .iaload, 1), (343, .aload_n 0, 1), (344, .iload_n 3, 1), (345, .iconst 2, 1), (346, .iadd, 1), (347, .iaload, 1), (348, .aload_n 0, 1), (349, .iload_n 3, 1), (350, .iconst 3, 1), (351, .iadd, 1), (352, .iaload, 1), (353, .aload_n 0, 1), (354, .iload_n 3, 1), (355, .iconst 4, 1), (356, .iadd, 1), (357, .iaload, 1), (358, .aload_n 0, 1), (359, .iload_n 3, 1), (360, .iconst 5, 1)] : List (Nat × Jvm.ClassFile.Instr × Nat)).all (fun q => decide (decode cL_law q.1 = .ok q.2)) = true := by decide +kernel
theorem dL_law_315 : decode cL_law 315 = .ok (.aload_n 0, 1) := dg_at dLg_4 0 (315, .aload_n 0, 1) rfl
theorem dL_law_316 : decode cL_law 316 = .ok (.iload_n 3, 1) := dg_at dLg_4 1 (316, .iload_n 3, 1) rfl
theorem dL_law_317 : decode cL_law 317 = .ok (.iconst 1, 1) := dg_at dLg_4 2 (317, .iconst 1, 1) rfl
theorem dL_law_318 : decode cL_law 318 = .ok (.iadd, 1) := dg_at dLg_4 3 (318, .iadd, 1) rfl
theorem dL_law_319 : decode cL_law 319 = .ok (.iaload, 1) := dg_at dLg_4 4 (319, .iaload, 1) rfl
theorem dL_law_320 : decode cL_law 320 = .ok (.invokevirtual 33, 3) := dg_at dLg_4 5 (320, .invokevirtual 33, 3) rfl
theorem dL_law_323 : decode cL_law 323 = .ok (.pop, 1) := dg_at dLg_4 6 (323, .pop, 1) rfl
theorem dL_law_324 : decode cL_law 324 = .ok (.aload_n 2, 1) := dg_at dLg_4 7 (324, .aload_n 2, 1) rfl
theorem dL_law_325 : decode cL_law 325 = .ok (.aload_n 0, 1) := dg_at dLg_4 8 (325, .aload_n 0, 1) rfl
theorem dL_law_326 : decode cL_law 326 = .ok (.iload_n 3, 1) := dg_at dLg_4 9 (326, .iload_n 3, 1) rfl
theorem dL_law_327 : decode cL_law 327 = .ok (.iconst 1, 1) := dg_at dLg_4 10 (327, .iconst 1, 1) rfl
theorem dL_law_328 : decode cL_law 328 = .ok (.iadd, 1) := dg_at dLg_4 11 (328, .iadd, 1) rfl
theorem dL_law_329 : decode cL_law 329 = .ok (.iaload, 1) := dg_at dLg_4 12 (329, .iaload, 1) rfl
theorem dL_law_330 : decode cL_law 330 = .ok (.invokevirtual 36, 3) := dg_at dLg_4 13 (330, .invokevirtual 36, 3) rfl
theorem dL_law_333 : decode cL_law 333 = .ok (.pop, 1) := dg_at dLg_4 14 (333, .pop, 1) rfl
theorem dL_law_334 : decode cL_law 334 = .ok (.goto 896, 3) := dg_at dLg_4 15 (334, .goto 896, 3) rfl
theorem dL_law_337 : decode cL_law 337 = .ok (.aload_n 1, 1) := dg_at dLg_4 16 (337, .aload_n 1, 1) rfl
theorem dL_law_338 : decode cL_law 338 = .ok (.aload_n 0, 1) := dg_at dLg_4 17 (338, .aload_n 0, 1) rfl
theorem dL_law_339 : decode cL_law 339 = .ok (.iload_n 3, 1) := dg_at dLg_4 18 (339, .iload_n 3, 1) rfl
theorem dL_law_340 : decode cL_law 340 = .ok (.iconst 1, 1) := dg_at dLg_4 19 (340, .iconst 1, 1) rfl
theorem dL_law_341 : decode cL_law 341 = .ok (.iadd, 1) := dg_at dLg_4 20 (341, .iadd, 1) rfl
theorem dL_law_342 : decode cL_law 342 = .ok (.iaload, 1) := dg_at dLg_4 21 (342, .iaload, 1) rfl
theorem dL_law_343 : decode cL_law 343 = .ok (.aload_n 0, 1) := dg_at dLg_4 22 (343, .aload_n 0, 1) rfl
theorem dL_law_344 : decode cL_law 344 = .ok (.iload_n 3, 1) := dg_at dLg_4 23 (344, .iload_n 3, 1) rfl
theorem dL_law_345 : decode cL_law 345 = .ok (.iconst 2, 1) := dg_at dLg_4 24 (345, .iconst 2, 1) rfl
theorem dL_law_346 : decode cL_law 346 = .ok (.iadd, 1) := dg_at dLg_4 25 (346, .iadd, 1) rfl
theorem dL_law_347 : decode cL_law 347 = .ok (.iaload, 1) := dg_at dLg_4 26 (347, .iaload, 1) rfl
theorem dL_law_348 : decode cL_law 348 = .ok (.aload_n 0, 1) := dg_at dLg_4 27 (348, .aload_n 0, 1) rfl
theorem dL_law_349 : decode cL_law 349 = .ok (.iload_n 3, 1) := dg_at dLg_4 28 (349, .iload_n 3, 1) rfl
theorem dL_law_350 : decode cL_law 350 = .ok (.iconst 3, 1) := dg_at dLg_4 29 (350, .iconst 3, 1) rfl
theorem dL_law_351 : decode cL_law 351 = .ok (.iadd, 1) := dg_at dLg_4 30 (351, .iadd, 1) rfl
theorem dL_law_352 : decode cL_law 352 = .ok (.iaload, 1) := dg_at dLg_4 31 (352, .iaload, 1) rfl
theorem dL_law_353 : decode cL_law 353 = .ok (.aload_n 0, 1) := dg_at dLg_4 32 (353, .aload_n 0, 1) rfl
theorem dL_law_354 : decode cL_law 354 = .ok (.iload_n 3, 1) := dg_at dLg_4 33 (354, .iload_n 3, 1) rfl
theorem dL_law_355 : decode cL_law 355 = .ok (.iconst 4, 1) := dg_at dLg_4 34 (355, .iconst 4, 1) rfl
theorem dL_law_356 : decode cL_law 356 = .ok (.iadd, 1) := dg_at dLg_4 35 (356, .iadd, 1) rfl
theorem dL_law_357 : decode cL_law 357 = .ok (.iaload, 1) := dg_at dLg_4 36 (357, .iaload, 1) rfl
theorem dL_law_358 : decode cL_law 358 = .ok (.aload_n 0, 1) := dg_at dLg_4 37 (358, .aload_n 0, 1) rfl
theorem dL_law_359 : decode cL_law 359 = .ok (.iload_n 3, 1) := dg_at dLg_4 38 (359, .iload_n 3, 1) rfl
theorem dL_law_360 : decode cL_law 360 = .ok (.iconst 5, 1) := dg_at dLg_4 39 (360, .iconst 5, 1) rfl
theorem dLg_5 : ([(361, .iadd, 1), (362, .iaload, 1), (363, .invokevirtual 37, 3), (366, .pop, 1), (367, .aload_n 2, 1), (368, .aload_n 0, 1), (369, .iload_n 3, 1), (370, .iconst 1, 1), (371, .iadd, 1), (372, .iaload, 1), (373, .aload_n 0, 1), (374, .iload_n 3, 1), (375, .iconst 2, 1), (376, .iadd, 1), (377, .iaload, 1), (378, .aload_n 0, 1), (379, .iload_n 3, 1), (380, .iconst 3, 1), (381, .iadd, 1), (382, .iaload, 1), (383, .aload_n 0, 1), (384, .iload_n 3, 1), (385, .iconst 4, 1), (386, .iadd, 1), (387, .iaload, 1), (388, .aload_n 0, 1), (389, .iload_n 3, 1), (390, .iconst 5, 1), (391, .iadd, 1), (392, .iaload, 1), (393, .invokevirtual 40, 3), (396, .pop, 1), (397, .goto 833, 3), (400, .aload_n 1, 1), (401, .aload_n 0, 1), (402, .iload_n 3, 1), (403, .iconst 1, 1), (404, .iadd, 1), (405, .iaload, 1), (406, .invokevirtual 41, 3)] : List (Nat × Jvm.ClassFile.Instr × Nat)).all (fun q => decide (decode cL_law q.1 = .ok q.2)) = true := by decide +kernel
theorem dL_law_361 : decode cL_law 361 = .ok (.iadd, 1) := dg_at dLg_5 0 (361, .iadd, 1) rfl
theorem dL_law_362 : decode cL_law 362 = .ok (.iaload, 1) := dg_at dLg_5 1 (362, .iaload, 1) rfl
theorem dL_law_363 : decode cL_law 363 = .ok (.invokevirtual 37, 3) := dg_at dLg_5 2 (363, .invokevirtual 37, 3) rfl
theorem dL_law_366 : decode cL_law 366 = .ok (.pop, 1) := dg_at dLg_5 3 (366, .pop, 1) rfl
theorem dL_law_367 : decode cL_law 367 = .ok (.aload_n 2, 1) := dg_at dLg_5 4 (367, .aload_n 2, 1) rfl
theorem dL_law_368 : decode cL_law 368 = .ok (.aload_n 0, 1) := dg_at dLg_5 5 (368, .aload_n 0, 1) rfl
theorem dL_law_369 : decode cL_law 369 = .ok (.iload_n 3, 1) := dg_at dLg_5 6 (369, .iload_n 3, 1) rfl
theorem dL_law_370 : decode cL_law 370 = .ok (.iconst 1, 1) := dg_at dLg_5 7 (370, .iconst 1, 1) rfl
theorem dL_law_371 : decode cL_law 371 = .ok (.iadd, 1) := dg_at dLg_5 8 (371, .iadd, 1) rfl
theorem dL_law_372 : decode cL_law 372 = .ok (.iaload, 1) := dg_at dLg_5 9 (372, .iaload, 1) rfl
theorem dL_law_373 : decode cL_law 373 = .ok (.aload_n 0, 1) := dg_at dLg_5 10 (373, .aload_n 0, 1) rfl
theorem dL_law_374 : decode cL_law 374 = .ok (.iload_n 3, 1) := dg_at dLg_5 11 (374, .iload_n 3, 1) rfl
theorem dL_law_375 : decode cL_law 375 = .ok (.iconst 2, 1) := dg_at dLg_5 12 (375, .iconst 2, 1) rfl
theorem dL_law_376 : decode cL_law 376 = .ok (.iadd, 1) := dg_at dLg_5 13 (376, .iadd, 1) rfl
theorem dL_law_377 : decode cL_law 377 = .ok (.iaload, 1) := dg_at dLg_5 14 (377, .iaload, 1) rfl
theorem dL_law_378 : decode cL_law 378 = .ok (.aload_n 0, 1) := dg_at dLg_5 15 (378, .aload_n 0, 1) rfl
theorem dL_law_379 : decode cL_law 379 = .ok (.iload_n 3, 1) := dg_at dLg_5 16 (379, .iload_n 3, 1) rfl
theorem dL_law_380 : decode cL_law 380 = .ok (.iconst 3, 1) := dg_at dLg_5 17 (380, .iconst 3, 1) rfl
theorem dL_law_381 : decode cL_law 381 = .ok (.iadd, 1) := dg_at dLg_5 18 (381, .iadd, 1) rfl
theorem dL_law_382 : decode cL_law 382 = .ok (.iaload, 1) := dg_at dLg_5 19 (382, .iaload, 1) rfl
theorem dL_law_383 : decode cL_law 383 = .ok (.aload_n 0, 1) := dg_at dLg_5 20 (383, .aload_n 0, 1) rfl
theorem dL_law_384 : decode cL_law 384 = .ok (.iload_n 3, 1) := dg_at dLg_5 21 (384, .iload_n 3, 1) rfl
theorem dL_law_385 : decode cL_law 385 = .ok (.iconst 4, 1) := dg_at dLg_5 22 (385, .iconst 4, 1) rfl
theorem dL_law_386 : decode cL_law 386 = .ok (.iadd, 1) := dg_at dLg_5 23 (386, .iadd, 1) rfl
theorem dL_law_387 : decode cL_law 387 = .ok (.iaload, 1) := dg_at dLg_5 24 (387, .iaload, 1) rfl
theorem dL_law_388 : decode cL_law 388 = .ok (.aload_n 0, 1) := dg_at dLg_5 25 (388, .aload_n 0, 1) rfl
theorem dL_law_389 : decode cL_law 389 = .ok (.iload_n 3, 1) := dg_at dLg_5 26 (389, .iload_n 3, 1) rfl
theorem dL_law_390 : decode cL_law 390 = .ok (.iconst 5, 1) := dg_at dLg_5 27 (390, .iconst 5, 1) rfl
theorem dL_law_391 : decode cL_law 391 = .ok (.iadd, 1) := dg_at dLg_5 28 (391, .iadd, 1) rfl
theorem dL_law_392 : decode cL_law 392 = .ok (.iaload, 1) := dg_at dLg_5 29 (392, .iaload, 1) rfl
theorem dL_law_393 : decode cL_law 393 = .ok (.invokevirtual 40, 3) := dg_at dLg_5 30 (393, .invokevirtual 40, 3) rfl
theorem dL_law_396 : decode cL_law 396 = .ok (.pop, 1) := dg_at dLg_5 31 (396, .pop, 1) rfl
theorem dL_law_397 : decode cL_law 397 = .ok (.goto 833, 3) := dg_at dLg_5 32 (397, .goto 833, 3) rfl
theorem dL_law_400 : decode cL_law 400 = .ok (.aload_n 1, 1) := dg_at dLg_5 33 (400, .aload_n 1, 1) rfl
theorem dL_law_401 : decode cL_law 401 = .ok (.aload_n 0, 1) := dg_at dLg_5 34 (401, .aload_n 0, 1) rfl
theorem dL_law_402 : decode cL_law 402 = .ok (.iload_n 3, 1) := dg_at dLg_5 35 (402, .iload_n 3, 1) rfl
theorem dL_law_403 : decode cL_law 403 = .ok (.iconst 1, 1) := dg_at dLg_5 36 (403, .iconst 1, 1) rfl
theorem dL_law_404 : decode cL_law 404 = .ok (.iadd, 1) := dg_at dLg_5 37 (404, .iadd, 1) rfl
theorem dL_law_405 : decode cL_law 405 = .ok (.iaload, 1) := dg_at dLg_5 38 (405, .iaload, 1) rfl
theorem dL_law_406 : decode cL_law 406 = .ok (.invokevirtual 41, 3) := dg_at dLg_5 39 (406, .invokevirtual 41, 3) rfl
theorem dLg_6 : ([(409, .pop, 1), (410, .aload_n 2, 1), (411, .aload_n 0, 1), (412, .iload_n 3, 1), (413, .iconst 1, 1), (414, .iadd, 1), (415, .iaload, 1), (416, .invokevirtual 44, 3), (419, .pop, 1), (420, .goto 810, 3), (423, .aload_n 1, 1), (424, .invokevirtual 45, 3), (427, .pop, 1), (428, .aload_n 2, 1), (429, .invokevirtual 49, 3), (432, .pop, 1), (433, .goto 797, 3), (436, .aload_n 1, 1), (437, .invokevirtual 50, 3), (440, .pop, 1), (441, .aload_n 2, 1), (442, .invokevirtual 53, 3), (445, .pop, 1), (446, .goto 784, 3), (449, .aload_n 1, 1), (450, .aload_n 0, 1), (451, .iload_n 3, 1), (452, .iconst 1, 1), (453, .iadd, 1), (454, .iaload, 1), (455, .aload_n 0, 1), (456, .iload_n 3, 1), (457, .iconst 2, 1), (458, .iadd, 1), (459, .iaload, 1), (460, .aload_n 0, 1), (461, .iload_n 3, 1), (462, .iconst 3, 1), (463, .iadd, 1), (464, .iaload, 1)] : List (Nat × Jvm.ClassFile.Instr × Nat)).all (fun q => decide (decode cL_law q.1 = .ok q.2)) = true := by decide +kernel
theorem dL_law_409 : decode cL_law 409 = .ok (.pop, 1) := dg_at dLg_6 0 (409, .pop, 1) rfl
theorem dL_law_410 : decode cL_law 410 = .ok (.aload_n 2, 1) := dg_at dLg_6 1 (410, .aload_n 2, 1) rfl
theorem dL_law_411 : decode cL_law 411 = .ok (.aload_n 0, 1) := dg_at dLg_6 2 (411, .aload_n 0, 1) rfl
theorem dL_law_412 : decode cL_law 412 = .ok (.iload_n 3, 1) := dg_at dLg_6 3 (412, .iload_n 3, 1) rfl
theorem dL_law_413 : decode cL_law 413 = .ok (.iconst 1, 1) := dg_at dLg_6 4 (413, .iconst 1, 1) rfl
theorem dL_law_414 : decode cL_law 414 = .ok (.iadd, 1) := dg_at dLg_6 5 (414, .iadd, 1) rfl
theorem dL_law_415 : decode cL_law 415 = .ok (.iaload, 1) := dg_at dLg_6 6 (415, .iaload, 1) rfl
theorem dL_law_416 : decode cL_law 416 = .ok (.invokevirtual 44, 3) := dg_at dLg_6 7 (416, .invokevirtual 44, 3) rfl
theorem dL_law_419 : decode cL_law 419 = .ok (.pop, 1) := dg_at dLg_6 8 (419, .pop, 1) rfl
theorem dL_law_420 : decode cL_law 420 = .ok (.goto 810, 3) := dg_at dLg_6 9 (420, .goto 810, 3) rfl
theorem dL_law_423 : decode cL_law 423 = .ok (.aload_n 1, 1) := dg_at dLg_6 10 (423, .aload_n 1, 1) rfl
theorem dL_law_424 : decode cL_law 424 = .ok (.invokevirtual 45, 3) := dg_at dLg_6 11 (424, .invokevirtual 45, 3) rfl
theorem dL_law_427 : decode cL_law 427 = .ok (.pop, 1) := dg_at dLg_6 12 (427, .pop, 1) rfl
theorem dL_law_428 : decode cL_law 428 = .ok (.aload_n 2, 1) := dg_at dLg_6 13 (428, .aload_n 2, 1) rfl
theorem dL_law_429 : decode cL_law 429 = .ok (.invokevirtual 49, 3) := dg_at dLg_6 14 (429, .invokevirtual 49, 3) rfl
theorem dL_law_432 : decode cL_law 432 = .ok (.pop, 1) := dg_at dLg_6 15 (432, .pop, 1) rfl
theorem dL_law_433 : decode cL_law 433 = .ok (.goto 797, 3) := dg_at dLg_6 16 (433, .goto 797, 3) rfl
theorem dL_law_436 : decode cL_law 436 = .ok (.aload_n 1, 1) := dg_at dLg_6 17 (436, .aload_n 1, 1) rfl
theorem dL_law_437 : decode cL_law 437 = .ok (.invokevirtual 50, 3) := dg_at dLg_6 18 (437, .invokevirtual 50, 3) rfl
theorem dL_law_440 : decode cL_law 440 = .ok (.pop, 1) := dg_at dLg_6 19 (440, .pop, 1) rfl
theorem dL_law_441 : decode cL_law 441 = .ok (.aload_n 2, 1) := dg_at dLg_6 20 (441, .aload_n 2, 1) rfl
theorem dL_law_442 : decode cL_law 442 = .ok (.invokevirtual 53, 3) := dg_at dLg_6 21 (442, .invokevirtual 53, 3) rfl
theorem dL_law_445 : decode cL_law 445 = .ok (.pop, 1) := dg_at dLg_6 22 (445, .pop, 1) rfl
theorem dL_law_446 : decode cL_law 446 = .ok (.goto 784, 3) := dg_at dLg_6 23 (446, .goto 784, 3) rfl
theorem dL_law_449 : decode cL_law 449 = .ok (.aload_n 1, 1) := dg_at dLg_6 24 (449, .aload_n 1, 1) rfl
theorem dL_law_450 : decode cL_law 450 = .ok (.aload_n 0, 1) := dg_at dLg_6 25 (450, .aload_n 0, 1) rfl
theorem dL_law_451 : decode cL_law 451 = .ok (.iload_n 3, 1) := dg_at dLg_6 26 (451, .iload_n 3, 1) rfl
theorem dL_law_452 : decode cL_law 452 = .ok (.iconst 1, 1) := dg_at dLg_6 27 (452, .iconst 1, 1) rfl
theorem dL_law_453 : decode cL_law 453 = .ok (.iadd, 1) := dg_at dLg_6 28 (453, .iadd, 1) rfl
theorem dL_law_454 : decode cL_law 454 = .ok (.iaload, 1) := dg_at dLg_6 29 (454, .iaload, 1) rfl
theorem dL_law_455 : decode cL_law 455 = .ok (.aload_n 0, 1) := dg_at dLg_6 30 (455, .aload_n 0, 1) rfl
theorem dL_law_456 : decode cL_law 456 = .ok (.iload_n 3, 1) := dg_at dLg_6 31 (456, .iload_n 3, 1) rfl
theorem dL_law_457 : decode cL_law 457 = .ok (.iconst 2, 1) := dg_at dLg_6 32 (457, .iconst 2, 1) rfl
theorem dL_law_458 : decode cL_law 458 = .ok (.iadd, 1) := dg_at dLg_6 33 (458, .iadd, 1) rfl
theorem dL_law_459 : decode cL_law 459 = .ok (.iaload, 1) := dg_at dLg_6 34 (459, .iaload, 1) rfl
theorem dL_law_460 : decode cL_law 460 = .ok (.aload_n 0, 1) := dg_at dLg_6 35 (460, .aload_n 0, 1) rfl
theorem dL_law_461 : decode cL_law 461 = .ok (.iload_n 3, 1) := dg_at dLg_6 36 (461, .iload_n 3, 1) rfl
theorem dL_law_462 : decode cL_law 462 = .ok (.iconst 3, 1) := dg_at dLg_6 37 (462, .iconst 3, 1) rfl
theorem dL_law_463 : decode cL_law 463 = .ok (.iadd, 1) := dg_at dLg_6 38 (463, .iadd, 1) rfl
theorem dL_law_464 : decode cL_law 464 = .ok (.iaload, 1) := dg_at dLg_6 39 (464, .iaload, 1) rfl
theorem dLg_7 : ([(465, .aload_n 0, 1), (466, .iload_n 3, 1), (467, .iconst 4, 1), (468, .iadd, 1), (469, .iaload, 1), (470, .invokevirtual 54, 3), (473, .pop2, 1), (474, .aload_n 2, 1), (475, .aload_n 0, 1), (476, .iload_n 3, 1), (477, .iconst 1, 1), (478, .iadd, 1), (479, .iaload, 1), (480, .aload_n 0, 1), (481, .iload_n 3, 1), (482, .iconst 2, 1), (483, .iadd, 1), (484, .iaload, 1), (485, .aload_n 0, 1), (486, .iload_n 3, 1), (487, .iconst 3, 1), (488, .iadd, 1), (489, .iaload, 1), (490, .aload_n 0, 1), (491, .iload_n 3, 1), (492, .iconst 4, 1), (493, .iadd, 1), (494, .iaload, 1), (495, .invokevirtual 58, 3), (498, .pop2, 1), (499, .goto 731, 3), (502, .aload_n 1, 1), (503, .aload_n 0, 1), (504, .iload_n 3, 1), (505, .iconst 1, 1), (506, .iadd, 1), (507, .iaload, 1), (508, .aload_n 0, 1), (509, .iload_n 3, 1), (510, .iconst 2, 1)] : List (Nat × Jvm.ClassFile.Instr × Nat)).all (fun q => decide (decode cL_law q.1 = .ok q.2)) = true := by decide +kernel
theorem dL_law_465 : decode cL_law 465 = .ok (.aload_n 0, 1) := dg_at dLg_7 0 (465, .aload_n 0, 1) rfl
theorem dL_law_466 : decode cL_law 466 = .ok (.iload_n 3, 1) := dg_at dLg_7 1 (466, .iload_n 3, 1) rfl
theorem dL_law_467 : decode cL_law 467 = .ok (.iconst 4, 1) := dg_at dLg_7 2 (467, .iconst 4, 1) rfl
theorem dL_law_468 : decode cL_law 468 = .ok (.iadd, 1) := dg_at dLg_7 3 (468, .iadd, 1) rfl
theorem dL_law_469 : decode cL_law 469 = .ok (.iaload, 1) := dg_at dLg_7 4 (469, .iaload, 1) rfl
theorem dL_law_470 : decode cL_law 470 = .ok (.invokevirtual 54, 3) := dg_at dLg_7 5 (470, .invokevirtual 54, 3) rfl
theorem dL_law_473 : decode cL_law 473 = .ok (.pop2, 1) := dg_at dLg_7 6 (473, .pop2, 1) rfl
theorem dL_law_474 : decode cL_law 474 = .ok (.aload_n 2, 1) := dg_at dLg_7 7 (474, .aload_n 2, 1) rfl
theorem dL_law_475 : decode cL_law 475 = .ok (.aload_n 0, 1) := dg_at dLg_7 8 (475, .aload_n 0, 1) rfl
theorem dL_law_476 : decode cL_law 476 = .ok (.iload_n 3, 1) := dg_at dLg_7 9 (476, .iload_n 3, 1) rfl
theorem dL_law_477 : decode cL_law 477 = .ok (.iconst 1, 1) := dg_at dLg_7 10 (477, .iconst 1, 1) rfl
theorem dL_law_478 : decode cL_law 478 = .ok (.iadd, 1) := dg_at dLg_7 11 (478, .iadd, 1) rfl
theorem dL_law_479 : decode cL_law 479 = .ok (.iaload, 1) := dg_at dLg_7 12 (479, .iaload, 1) rfl
theorem dL_law_480 : decode cL_law 480 = .ok (.aload_n 0, 1) := dg_at dLg_7 13 (480, .aload_n 0, 1) rfl
theorem dL_law_481 : decode cL_law 481 = .ok (.iload_n 3, 1) := dg_at dLg_7 14 (481, .iload_n 3, 1) rfl
theorem dL_law_482 : decode cL_law 482 = .ok (.iconst 2, 1) := dg_at dLg_7 15 (482, .iconst 2, 1) rfl
theorem dL_law_483 : decode cL_law 483 = .ok (.iadd, 1) := dg_at dLg_7 16 (483, .iadd, 1) rfl
theorem dL_law_484 : decode cL_law 484 = .ok (.iaload, 1) := dg_at dLg_7 17 (484, .iaload, 1) rfl
theorem dL_law_485 : decode cL_law 485 = .ok (.aload_n 0, 1) := dg_at dLg_7 18 (485, .aload_n 0, 1) rfl
theorem dL_law_486 : decode cL_law 486 = .ok (.iload_n 3, 1) := dg_at dLg_7 19 (486, .iload_n 3, 1) rfl
theorem dL_law_487 : decode cL_law 487 = .ok (.iconst 3, 1) := dg_at dLg_7 20 (487, .iconst 3, 1) rfl
theorem dL_law_488 : decode cL_law 488 = .ok (.iadd, 1) := dg_at dLg_7 21 (488, .iadd, 1) rfl
theorem dL_law_489 : decode cL_law 489 = .ok (.iaload, 1) := dg_at dLg_7 22 (489, .iaload, 1) rfl
theorem dL_law_490 : decode cL_law 490 = .ok (.aload_n 0, 1) := dg_at dLg_7 23 (490, .aload_n 0, 1) rfl
theorem dL_law_491 : decode cL_law 491 = .ok (.iload_n 3, 1) := dg_at dLg_7 24 (491, .iload_n 3, 1) rfl
theorem dL_law_492 : decode cL_law 492 = .ok (.iconst 4, 1) := dg_at dLg_7 25 (492, .iconst 4, 1) rfl
theorem dL_law_493 : decode cL_law 493 = .ok (.iadd, 1) := dg_at dLg_7 26 (493, .iadd, 1) rfl
theorem dL_law_494 : decode cL_law 494 = .ok (.iaload, 1) := dg_at dLg_7 27 (494, .iaload, 1) rfl
theorem dL_law_495 : decode cL_law 495 = .ok (.invokevirtual 58, 3) := dg_at dLg_7 28 (495, .invokevirtual 58, 3) rfl
theorem dL_law_498 : decode cL_law 498 = .ok (.pop2, 1) := dg_at dLg_7 29 (498, .pop2, 1) rfl
theorem dL_law_499 : decode cL_law 499 = .ok (.goto 731, 3) := dg_at dLg_7 30 (499, .goto 731, 3) rfl
theorem dL_law_502 : decode cL_law 502 = .ok (.aload_n 1, 1) := dg_at dLg_7 31 (502, .aload_n 1, 1) rfl
theorem dL_law_503 : decode cL_law 503 = .ok (.aload_n 0, 1) := dg_at dLg_7 32 (503, .aload_n 0, 1) rfl
theorem dL_law_504 : decode cL_law 504 = .ok (.iload_n 3, 1) := dg_at dLg_7 33 (504, .iload_n 3, 1) rfl
theorem dL_law_505 : decode cL_law 505 = .ok (.iconst 1, 1) := dg_at dLg_7 34 (505, .iconst 1, 1) rfl
theorem dL_law_506 : decode cL_law 506 = .ok (.iadd, 1) := dg_at dLg_7 35 (506, .iadd, 1) rfl
theorem dL_law_507 : decode cL_law 507 = .ok (.iaload, 1) := dg_at dLg_7 36 (507, .iaload, 1) rfl
theorem dL_law_508 : decode cL_law 508 = .ok (.aload_n 0, 1) := dg_at dLg_7 37 (508, .aload_n 0, 1) rfl
theorem dL_law_509 : decode cL_law 509 = .ok (.iload_n 3, 1) := dg_at dLg_7 38 (509, .iload_n 3, 1) rfl
theorem dL_law_510 : decode cL_law 510 = .ok (.iconst 2, 1) := dg_at dLg_7 39 (510, .iconst 2, 1) rfl
theorem dLg_8 : ([(511, .iadd, 1), (512, .iaload, 1), (513, .i2l, 1), (514, .bipush 32, 2), (516, .lshl, 1), (517, .aload_n 0, 1), (518, .iload_n 3, 1), (519, .iconst 3, 1), (520, .iadd, 1), (521, .iaload, 1), (522, .i2l, 1), (523, .ldc2_w 59, 3), (526, .land, 1), (527, .lor, 1), (528, .aload_n 0, 1), (529, .iload_n 3, 1), (530, .iconst 4, 1), (531, .iadd, 1), (532, .iaload, 1), (533, .i2l, 1), (534, .bipush 32, 2), (536, .lshl, 1), (537, .aload_n 0, 1), (538, .iload_n 3, 1), (539, .iconst 5, 1), (540, .iadd, 1), (541, .iaload, 1), (542, .i2l, 1), (543, .ldc2_w 59, 3), (546, .land, 1), (547, .lor, 1), (548, .invokevirtual 61, 3), (551, .pop, 1), (552, .aload_n 2, 1), (553, .aload_n 0, 1), (554, .iload_n 3, 1), (555, .iconst 1, 1), (556, .iadd, 1), (557, .iaload, 1), (558, .aload_n 0, 1)] : List (Nat × Jvm.ClassFile.Instr × Nat)).all (fun q => decide (decode cL_law q.1 = .ok q.2)) = true := by decide +kernel
theorem dL_law_511 : decode cL_law 511 = .ok (.iadd, 1) := dg_at dLg_8 0 (511, .iadd, 1) rfl
theorem dL_law_512 : decode cL_law 512 = .ok (.iaload, 1) := dg_at dLg_8 1 (512, .iaload, 1) rfl
theorem dL_law_513 : decode cL_law 513 = .ok (.i2l, 1) := dg_at dLg_8 2 (513, .i2l, 1) rfl
theorem dL_law_514 : decode cL_law 514 = .ok (.bipush 32, 2) := dg_at dLg_8 3 (514, .bipush 32, 2) rfl
theorem dL_law_516 : decode cL_law 516 = .ok (.lshl, 1) := dg_at dLg_8 4 (516, .lshl, 1) rfl
theorem dL_law_517 : decode cL_law 517 = .ok (.aload_n 0, 1) := dg_at dLg_8 5 (517, .aload_n 0, 1) rfl
theorem dL_law_518 : decode cL_law 518 = .ok (.iload_n 3, 1) := dg_at dLg_8 6 (518, .iload_n 3, 1) rfl
theorem dL_law_519 : decode cL_law 519 = .ok (.iconst 3, 1) := dg_at dLg_8 7 (519, .iconst 3, 1) rfl
theorem dL_law_520 : decode cL_law 520 = .ok (.iadd, 1) := dg_at dLg_8 8 (520, .iadd, 1) rfl
theorem dL_law_521 : decode cL_law 521 = .ok (.iaload, 1) := dg_at dLg_8 9 (521, .iaload, 1) rfl
theorem dL_law_522 : decode cL_law 522 = .ok (.i2l, 1) := dg_at dLg_8 10 (522, .i2l, 1) rfl
theorem dL_law_523 : decode cL_law 523 = .ok (.ldc2_w 59, 3) := dg_at dLg_8 11 (523, .ldc2_w 59, 3) rfl
theorem dL_law_526 : decode cL_law 526 = .ok (.land, 1) := dg_at dLg_8 12 (526, .land, 1) rfl
theorem dL_law_527 : decode cL_law 527 = .ok (.lor, 1) := dg_at dLg_8 13 (527, .lor, 1) rfl
theorem dL_law_528 : decode cL_law 528 = .ok (.aload_n 0, 1) := dg_at dLg_8 14 (528, .aload_n 0, 1) rfl
theorem dL_law_529 : decode cL_law 529 = .ok (.iload_n 3, 1) := dg_at dLg_8 15 (529, .iload_n 3, 1) rfl
theorem dL_law_530 : decode cL_law 530 = .ok (.iconst 4, 1) := dg_at dLg_8 16 (530, .iconst 4, 1) rfl
theorem dL_law_531 : decode cL_law 531 = .ok (.iadd, 1) := dg_at dLg_8 17 (531, .iadd, 1) rfl
theorem dL_law_532 : decode cL_law 532 = .ok (.iaload, 1) := dg_at dLg_8 18 (532, .iaload, 1) rfl
theorem dL_law_533 : decode cL_law 533 = .ok (.i2l, 1) := dg_at dLg_8 19 (533, .i2l, 1) rfl
theorem dL_law_534 : decode cL_law 534 = .ok (.bipush 32, 2) := dg_at dLg_8 20 (534, .bipush 32, 2) rfl
theorem dL_law_536 : decode cL_law 536 = .ok (.lshl, 1) := dg_at dLg_8 21 (536, .lshl, 1) rfl
theorem dL_law_537 : decode cL_law 537 = .ok (.aload_n 0, 1) := dg_at dLg_8 22 (537, .aload_n 0, 1) rfl
theorem dL_law_538 : decode cL_law 538 = .ok (.iload_n 3, 1) := dg_at dLg_8 23 (538, .iload_n 3, 1) rfl
theorem dL_law_539 : decode cL_law 539 = .ok (.iconst 5, 1) := dg_at dLg_8 24 (539, .iconst 5, 1) rfl
theorem dL_law_540 : decode cL_law 540 = .ok (.iadd, 1) := dg_at dLg_8 25 (540, .iadd, 1) rfl
theorem dL_law_541 : decode cL_law 541 = .ok (.iaload, 1) := dg_at dLg_8 26 (541, .iaload, 1) rfl
theorem dL_law_542 : decode cL_law 542 = .ok (.i2l, 1) := dg_at dLg_8 27 (542, .i2l, 1) rfl
theorem dL_law_543 : decode cL_law 543 = .ok (.ldc2_w 59, 3) := dg_at dLg_8 28 (543, .ldc2_w 59, 3) rfl
theorem dL_law_546 : decode cL_law 546 = .ok (.land, 1) := dg_at dLg_8 29 (546, .land, 1) rfl
theorem dL_law_547 : decode cL_law 547 = .ok (.lor, 1) := dg_at dLg_8 30 (547, .lor, 1) rfl
theorem dL_law_548 : decode cL_law 548 = .ok (.invokevirtual 61, 3) := dg_at dLg_8 31 (548, .invokevirtual 61, 3) rfl
theorem dL_law_551 : decode cL_law 551 = .ok (.pop, 1) := dg_at dLg_8 32 (551, .pop, 1) rfl
theorem dL_law_552 : decode cL_law 552 = .ok (.aload_n 2, 1) := dg_at dLg_8 33 (552, .aload_n 2, 1) rfl
theorem dL_law_553 : decode cL_law 553 = .ok (.aload_n 0, 1) := dg_at dLg_8 34 (553, .aload_n 0, 1) rfl
theorem dL_law_554 : decode cL_law 554 = .ok (.iload_n 3, 1) := dg_at dLg_8 35 (554, .iload_n 3, 1) rfl
theorem dL_law_555 : decode cL_law 555 = .ok (.iconst 1, 1) := dg_at dLg_8 36 (555, .iconst 1, 1) rfl
theorem dL_law_556 : decode cL_law 556 = .ok (.iadd, 1) := dg_at dLg_8 37 (556, .iadd, 1) rfl
theorem dL_law_557 : decode cL_law 557 = .ok (.iaload, 1) := dg_at dLg_8 38 (557, .iaload, 1) rfl
theorem dL_law_558 : decode cL_law 558 = .ok (.aload_n 0, 1) := dg_at dLg_8 39 (558, .aload_n 0, 1) rfl
theorem dLg_9 : ([(559, .iload_n 3, 1), (560, .iconst 2, 1), (561, .iadd, 1), (562, .iaload, 1), (563, .i2l, 1), (564, .bipush 32, 2), (566, .lshl, 1), (567, .aload_n 0, 1), (568, .iload_n 3, 1), (569, .iconst 3, 1), (570, .iadd, 1), (571, .iaload, 1), (572, .i2l, 1), (573, .ldc2_w 59, 3), (576, .land, 1), (577, .lor, 1), (578, .aload_n 0, 1), (579, .iload_n 3, 1), (580, .iconst 4, 1), (581, .iadd, 1), (582, .iaload, 1), (583, .i2l, 1), (584, .bipush 32, 2), (586, .lshl, 1), (587, .aload_n 0, 1), (588, .iload_n 3, 1), (589, .iconst 5, 1), (590, .iadd, 1), (591, .iaload, 1), (592, .i2l, 1), (593, .ldc2_w 59, 3), (596, .land, 1), (597, .lor, 1), (598, .invokevirtual 65, 3), (601, .pop, 1), (602, .goto 628, 3), (605, .aload_n 1, 1), (606, .aload_n 0, 1), (607, .iload_n 3, 1), (608, .iconst 1, 1)] : List (Nat × Jvm.ClassFile.Instr × Nat)).all (fun q => decide (decode cL_law q.1 = .ok q.2)) = true := by decide +kernel
theorem dL_law_559 : decode cL_law 559 = .ok (.iload_n 3, 1) := dg_at dLg_9 0 (559, .iload_n 3, 1) rfl
theorem dL_law_560 : decode cL_law 560 = .ok (.iconst 2, 1) := dg_at dLg_9 1 (560, .iconst 2, 1) rfl
theorem dL_law_561 : decode cL_law 561 = .ok (.iadd, 1) := dg_at dLg_9 2 (561, .iadd, 1) rfl
theorem dL_law_562 : decode cL_law 562 = .ok (.iaload, 1) := dg_at dLg_9 3 (562, .iaload, 1) rfl
theorem dL_law_563 : decode cL_law 563 = .ok (.i2l, 1) := dg_at dLg_9 4 (563, .i2l, 1) rfl
theorem dL_law_564 : decode cL_law 564 = .ok (.bipush 32, 2) := dg_at dLg_9 5 (564, .bipush 32, 2) rfl
theorem dL_law_566 : decode cL_law 566 = .ok (.lshl, 1) := dg_at dLg_9 6 (566, .lshl, 1) rfl
theorem dL_law_567 : decode cL_law 567 = .ok (.aload_n 0, 1) := dg_at dLg_9 7 (567, .aload_n 0, 1) rfl
theorem dL_law_568 : decode cL_law 568 = .ok (.iload_n 3, 1) := dg_at dLg_9 8 (568, .iload_n 3, 1) rfl
theorem dL_law_569 : decode cL_law 569 = .ok (.iconst 3, 1) := dg_at dLg_9 9 (569, .iconst 3, 1) rfl
theorem dL_law_570 : decode cL_law 570 = .ok (.iadd, 1) := dg_at dLg_9 10 (570, .iadd, 1) rfl
theorem dL_law_571 : decode cL_law 571 = .ok (.iaload, 1) := dg_at dLg_9 11 (571, .iaload, 1) rfl
theorem dL_law_572 : decode cL_law 572 = .ok (.i2l, 1) := dg_at dLg_9 12 (572, .i2l, 1) rfl
theorem dL_law_573 : decode cL_law 573 = .ok (.ldc2_w 59, 3) := dg_at dLg_9 13 (573, .ldc2_w 59, 3) rfl
theorem dL_law_576 : decode cL_law 576 = .ok (.land, 1) := dg_at dLg_9 14 (576, .land, 1) rfl
theorem dL_law_577 : decode cL_law 577 = .ok (.lor, 1) := dg_at dLg_9 15 (577, .lor, 1) rfl
theorem dL_law_578 : decode cL_law 578 = .ok (.aload_n 0, 1) := dg_at dLg_9 16 (578, .aload_n 0, 1) rfl
theorem dL_law_579 : decode cL_law 579 = .ok (.iload_n 3, 1) := dg_at dLg_9 17 (579, .iload_n 3, 1) rfl
theorem dL_law_580 : decode cL_law 580 = .ok (.iconst 4, 1) := dg_at dLg_9 18 (580, .iconst 4, 1) rfl
theorem dL_law_581 : decode cL_law 581 = .ok (.iadd, 1) := dg_at dLg_9 19 (581, .iadd, 1) rfl
theorem dL_law_582 : decode cL_law 582 = .ok (.iaload, 1) := dg_at dLg_9 20 (582, .iaload, 1) rfl
theorem dL_law_583 : decode cL_law 583 = .ok (.i2l, 1) := dg_at dLg_9 21 (583, .i2l, 1) rfl
theorem dL_law_584 : decode cL_law 584 = .ok (.bipush 32, 2) := dg_at dLg_9 22 (584, .bipush 32, 2) rfl
theorem dL_law_586 : decode cL_law 586 = .ok (.lshl, 1) := dg_at dLg_9 23 (586, .lshl, 1) rfl
theorem dL_law_587 : decode cL_law 587 = .ok (.aload_n 0, 1) := dg_at dLg_9 24 (587, .aload_n 0, 1) rfl
theorem dL_law_588 : decode cL_law 588 = .ok (.iload_n 3, 1) := dg_at dLg_9 25 (588, .iload_n 3, 1) rfl
theorem dL_law_589 : decode cL_law 589 = .ok (.iconst 5, 1) := dg_at dLg_9 26 (589, .iconst 5, 1) rfl
theorem dL_law_590 : decode cL_law 590 = .ok (.iadd, 1) := dg_at dLg_9 27 (590, .iadd, 1) rfl
theorem dL_law_591 : decode cL_law 591 = .ok (.iaload, 1) := dg_at dLg_9 28 (591, .iaload, 1) rfl
theorem dL_law_592 : decode cL_law 592 = .ok (.i2l, 1) := dg_at dLg_9 29 (592, .i2l, 1) rfl
theorem dL_law_593 : decode cL_law 593 = .ok (.ldc2_w 59, 3) := dg_at dLg_9 30 (593, .ldc2_w 59, 3) rfl
theorem dL_law_596 : decode cL_law 596 = .ok (.land, 1) := dg_at dLg_9 31 (596, .land, 1) rfl
theorem dL_law_597 : decode cL_law 597 = .ok (.lor, 1) := dg_at dLg_9 32 (597, .lor, 1) rfl
theorem dL_law_598 : decode cL_law 598 = .ok (.invokevirtual 65, 3) := dg_at dLg_9 33 (598, .invokevirtual 65, 3) rfl
theorem dL_law_601 : decode cL_law 601 = .ok (.pop, 1) := dg_at dLg_9 34 (601, .pop, 1) rfl
theorem dL_law_602 : decode cL_law 602 = .ok (.goto 628, 3) := dg_at dLg_9 35 (602, .goto 628, 3) rfl
theorem dL_law_605 : decode cL_law 605 = .ok (.aload_n 1, 1) := dg_at dLg_9 36 (605, .aload_n 1, 1) rfl
theorem dL_law_606 : decode cL_law 606 = .ok (.aload_n 0, 1) := dg_at dLg_9 37 (606, .aload_n 0, 1) rfl
theorem dL_law_607 : decode cL_law 607 = .ok (.iload_n 3, 1) := dg_at dLg_9 38 (607, .iload_n 3, 1) rfl
theorem dL_law_608 : decode cL_law 608 = .ok (.iconst 1, 1) := dg_at dLg_9 39 (608, .iconst 1, 1) rfl
theorem dLg_10 : ([(609, .iadd, 1), (610, .iaload, 1), (611, .aload_n 0, 1), (612, .iload_n 3, 1), (613, .iconst 2, 1), (614, .iadd, 1), (615, .iaload, 1), (616, .invokevirtual 66, 3), (619, .pop, 1), (620, .aload_n 2, 1), (621, .aload_n 0, 1), (622, .iload_n 3, 1), (623, .iconst 1, 1), (624, .iadd, 1), (625, .iaload, 1), (626, .aload_n 0, 1), (627, .iload_n 3, 1), (628, .iconst 2, 1), (629, .iadd, 1), (630, .iaload, 1), (631, .invokevirtual 69, 3), (634, .pop, 1), (635, .goto 595, 3), (638, .aload_n 1, 1), (639, .aload_n 0, 1), (640, .iload_n 3, 1), (641, .iconst 1, 1), (642, .iadd, 1), (643, .iaload, 1), (644, .invokevirtual 70, 3), (647, .pop, 1), (648, .aload_n 2, 1), (649, .aload_n 0, 1), (650, .iload_n 3, 1), (651, .iconst 1, 1), (652, .iadd, 1), (653, .iaload, 1), (654, .invokevirtual 73, 3), (657, .pop, 1), (658, .goto 572, 3)] : List (Nat × Jvm.ClassFile.Instr × Nat)).all (fun q => decide (decode cL_law q.1 = .ok q.2)) = true := by decide +kernel
theorem dL_law_609 : decode cL_law 609 = .ok (.iadd, 1) := dg_at dLg_10 0 (609, .iadd, 1) rfl
theorem dL_law_610 : decode cL_law 610 = .ok (.iaload, 1) := dg_at dLg_10 1 (610, .iaload, 1) rfl
theorem dL_law_611 : decode cL_law 611 = .ok (.aload_n 0, 1) := dg_at dLg_10 2 (611, .aload_n 0, 1) rfl
theorem dL_law_612 : decode cL_law 612 = .ok (.iload_n 3, 1) := dg_at dLg_10 3 (612, .iload_n 3, 1) rfl
theorem dL_law_613 : decode cL_law 613 = .ok (.iconst 2, 1) := dg_at dLg_10 4 (613, .iconst 2, 1) rfl
theorem dL_law_614 : decode cL_law 614 = .ok (.iadd, 1) := dg_at dLg_10 5 (614, .iadd, 1) rfl
theorem dL_law_615 : decode cL_law 615 = .ok (.iaload, 1) := dg_at dLg_10 6 (615, .iaload, 1) rfl
theorem dL_law_616 : decode cL_law 616 = .ok (.invokevirtual 66, 3) := dg_at dLg_10 7 (616, .invokevirtual 66, 3) rfl
theorem dL_law_619 : decode cL_law 619 = .ok (.pop, 1) := dg_at dLg_10 8 (619, .pop, 1) rfl
theorem dL_law_620 : decode cL_law 620 = .ok (.aload_n 2, 1) := dg_at dLg_10 9 (620, .aload_n 2, 1) rfl
theorem dL_law_621 : decode cL_law 621 = .ok (.aload_n 0, 1) := dg_at dLg_10 10 (621, .aload_n 0, 1) rfl
theorem dL_law_622 : decode cL_law 622 = .ok (.iload_n 3, 1) := dg_at dLg_10 11 (622, .iload_n 3, 1) rfl
theorem dL_law_623 : decode cL_law 623 = .ok (.iconst 1, 1) := dg_at dLg_10 12 (623, .iconst 1, 1) rfl
theorem dL_law_624 : decode cL_law 624 = .ok (.iadd, 1) := dg_at dLg_10 13 (624, .iadd, 1) rfl
theorem dL_law_625 : decode cL_law 625 = .ok (.iaload, 1) := dg_at dLg_10 14 (625, .iaload, 1) rfl
theorem dL_law_626 : decode cL_law 626 = .ok (.aload_n 0, 1) := dg_at dLg_10 15 (626, .aload_n 0, 1) rfl
theorem dL_law_627 : decode cL_law 627 = .ok (.iload_n 3, 1) := dg_at dLg_10 16 (627, .iload_n 3, 1) rfl
theorem dL_law_628 : decode cL_law 628 = .ok (.iconst 2, 1) := dg_at dLg_10 17 (628, .iconst 2, 1) rfl
theorem dL_law_629 : decode cL_law 629 = .ok (.iadd, 1) := dg_at dLg_10 18 (629, .iadd, 1) rfl
theorem dL_law_630 : decode cL_law 630 = .ok (.iaload, 1) := dg_at dLg_10 19 (630, .iaload, 1) rfl
theorem dL_law_631 : decode cL_law 631 = .ok (.invokevirtual 69, 3) := dg_at dLg_10 20 (631, .invokevirtual 69, 3) rfl
theorem dL_law_634 : decode cL_law 634 = .ok (.pop, 1) := dg_at dLg_10 21 (634, .pop, 1) rfl
theorem dL_law_635 : decode cL_law 635 = .ok (.goto 595, 3) := dg_at dLg_10 22 (635, .goto 595, 3) rfl
theorem dL_law_638 : decode cL_law 638 = .ok (.aload_n 1, 1) := dg_at dLg_10 23 (638, .aload_n 1, 1) rfl
theorem dL_law_639 : decode cL_law 639 = .ok (.aload_n 0, 1) := dg_at dLg_10 24 (639, .aload_n 0, 1) rfl
theorem dL_law_640 : decode cL_law 640 = .ok (.iload_n 3, 1) := dg_at dLg_10 25 (640, .iload_n 3, 1) rfl
theorem dL_law_641 : decode cL_law 641 = .ok (.iconst 1, 1) := dg_at dLg_10 26 (641, .iconst 1, 1) rfl
theorem dL_law_642 : decode cL_law 642 = .ok (.iadd, 1) := dg_at dLg_10 27 (642, .iadd, 1) rfl
theorem dL_law_643 : decode cL_law 643 = .ok (.iaload, 1) := dg_at dLg_10 28 (643, .iaload, 1) rfl
theorem dL_law_644 : decode cL_law 644 = .ok (.invokevirtual 70, 3) := dg_at dLg_10 29 (644, .invokevirtual 70, 3) rfl
theorem dL_law_647 : decode cL_law 647 = .ok (.pop, 1) := dg_at dLg_10 30 (647, .pop, 1) rfl
theorem dL_law_648 : decode cL_law 648 = .ok (.aload_n 2, 1) := dg_at dLg_10 31 (648, .aload_n 2, 1) rfl
theorem dL_law_649 : decode cL_law 649 = .ok (.aload_n 0, 1) := dg_at dLg_10 32 (649, .aload_n 0, 1) rfl
theorem dL_law_650 : decode cL_law 650 = .ok (.iload_n 3, 1) := dg_at dLg_10 33 (650, .iload_n 3, 1) rfl
theorem dL_law_651 : decode cL_law 651 = .ok (.iconst 1, 1) := dg_at dLg_10 34 (651, .iconst 1, 1) rfl
theorem dL_law_652 : decode cL_law 652 = .ok (.iadd, 1) := dg_at dLg_10 35 (652, .iadd, 1) rfl
theorem dL_law_653 : decode cL_law 653 = .ok (.iaload, 1) := dg_at dLg_10 36 (653, .iaload, 1) rfl
theorem dL_law_654 : decode cL_law 654 = .ok (.invokevirtual 73, 3) := dg_at dLg_10 37 (654, .invokevirtual 73, 3) rfl
theorem dL_law_657 : decode cL_law 657 = .ok (.pop, 1) := dg_at dLg_10 38 (657, .pop, 1) rfl
theorem dL_law_658 : decode cL_law 658 = .ok (.goto 572, 3) := dg_at dLg_10 39 (658, .goto 572, 3) rfl
theorem dLg_11 : ([(661, .aload_n 1, 1), (662, .aload_n 0, 1), (663, .iload_n 3, 1), (664, .iconst 1, 1), (665, .iadd, 1), (666, .iaload, 1), (667, .aload_n 0, 1), (668, .iload_n 3, 1), (669, .iconst 2, 1), (670, .iadd, 1), (671, .iaload, 1), (672, .invokevirtual 74, 3), (675, .pop2, 1), (676, .aload_n 2, 1), (677, .aload_n 0, 1), (678, .iload_n 3, 1), (679, .iconst 1, 1), (680, .iadd, 1), (681, .iaload, 1), (682, .aload_n 0, 1), (683, .iload_n 3, 1), (684, .iconst 2, 1), (685, .iadd, 1), (686, .iaload, 1), (687, .invokevirtual 78, 3), (690, .pop2, 1), (691, .goto 539, 3), (694, .aload_n 1, 1), (695, .aload_n 0, 1), (696, .iload_n 3, 1), (697, .iconst 1, 1), (698, .iadd, 1), (699, .iaload, 1), (700, .aload_n 0, 1), (701, .iload_n 3, 1), (702, .iconst 2, 1), (703, .iadd, 1), (704, .iaload, 1), (705, .aload_n 0, 1), (706, .iload_n 3, 1)] : List (Nat × Jvm.ClassFile.Instr × Nat)).all (fun q => decide (decode cL_law q.1 = .ok q.2)) = true := by decide +kernel
theorem dL_law_661 : decode cL_law 661 = .ok (.aload_n 1, 1) := dg_at dLg_11 0 (661, .aload_n 1, 1) rfl
theorem dL_law_662 : decode cL_law 662 = .ok (.aload_n 0, 1) := dg_at dLg_11 1 (662, .aload_n 0, 1) rfl
theorem dL_law_663 : decode cL_law 663 = .ok (.iload_n 3, 1) := dg_at dLg_11 2 (663, .iload_n 3, 1) rfl
theorem dL_law_664 : decode cL_law 664 = .ok (.iconst 1, 1) := dg_at dLg_11 3 (664, .iconst 1, 1) rfl
theorem dL_law_665 : decode cL_law 665 = .ok (.iadd, 1) := dg_at dLg_11 4 (665, .iadd, 1) rfl
theorem dL_law_666 : decode cL_law 666 = .ok (.iaload, 1) := dg_at dLg_11 5 (666, .iaload, 1) rfl
theorem dL_law_667 : decode cL_law 667 = .ok (.aload_n 0, 1) := dg_at dLg_11 6 (667, .aload_n 0, 1) rfl
theorem dL_law_668 : decode cL_law 668 = .ok (.iload_n 3, 1) := dg_at dLg_11 7 (668, .iload_n 3, 1) rfl
theorem dL_law_669 : decode cL_law 669 = .ok (.iconst 2, 1) := dg_at dLg_11 8 (669, .iconst 2, 1) rfl
theorem dL_law_670 : decode cL_law 670 = .ok (.iadd, 1) := dg_at dLg_11 9 (670, .iadd, 1) rfl
theorem dL_law_671 : decode cL_law 671 = .ok (.iaload, 1) := dg_at dLg_11 10 (671, .iaload, 1) rfl
theorem dL_law_672 : decode cL_law 672 = .ok (.invokevirtual 74, 3) := dg_at dLg_11 11 (672, .invokevirtual 74, 3) rfl
theorem dL_law_675 : decode cL_law 675 = .ok (.pop2, 1) := dg_at dLg_11 12 (675, .pop2, 1) rfl
theorem dL_law_676 : decode cL_law 676 = .ok (.aload_n 2, 1) := dg_at dLg_11 13 (676, .aload_n 2, 1) rfl
theorem dL_law_677 : decode cL_law 677 = .ok (.aload_n 0, 1) := dg_at dLg_11 14 (677, .aload_n 0, 1) rfl
theorem dL_law_678 : decode cL_law 678 = .ok (.iload_n 3, 1) := dg_at dLg_11 15 (678, .iload_n 3, 1) rfl
theorem dL_law_679 : decode cL_law 679 = .ok (.iconst 1, 1) := dg_at dLg_11 16 (679, .iconst 1, 1) rfl
theorem dL_law_680 : decode cL_law 680 = .ok (.iadd, 1) := dg_at dLg_11 17 (680, .iadd, 1) rfl
theorem dL_law_681 : decode cL_law 681 = .ok (.iaload, 1) := dg_at dLg_11 18 (681, .iaload, 1) rfl
theorem dL_law_682 : decode cL_law 682 = .ok (.aload_n 0, 1) := dg_at dLg_11 19 (682, .aload_n 0, 1) rfl
theorem dL_law_683 : decode cL_law 683 = .ok (.iload_n 3, 1) := dg_at dLg_11 20 (683, .iload_n 3, 1) rfl
theorem dL_law_684 : decode cL_law 684 = .ok (.iconst 2, 1) := dg_at dLg_11 21 (684, .iconst 2, 1) rfl
theorem dL_law_685 : decode cL_law 685 = .ok (.iadd, 1) := dg_at dLg_11 22 (685, .iadd, 1) rfl
theorem dL_law_686 : decode cL_law 686 = .ok (.iaload, 1) := dg_at dLg_11 23 (686, .iaload, 1) rfl
theorem dL_law_687 : decode cL_law 687 = .ok (.invokevirtual 78, 3) := dg_at dLg_11 24 (687, .invokevirtual 78, 3) rfl
theorem dL_law_690 : decode cL_law 690 = .ok (.pop2, 1) := dg_at dLg_11 25 (690, .pop2, 1) rfl
theorem dL_law_691 : decode cL_law 691 = .ok (.goto 539, 3) := dg_at dLg_11 26 (691, .goto 539, 3) rfl
theorem dL_law_694 : decode cL_law 694 = .ok (.aload_n 1, 1) := dg_at dLg_11 27 (694, .aload_n 1, 1) rfl
theorem dL_law_695 : decode cL_law 695 = .ok (.aload_n 0, 1) := dg_at dLg_11 28 (695, .aload_n 0, 1) rfl
theorem dL_law_696 : decode cL_law 696 = .ok (.iload_n 3, 1) := dg_at dLg_11 29 (696, .iload_n 3, 1) rfl
theorem dL_law_697 : decode cL_law 697 = .ok (.iconst 1, 1) := dg_at dLg_11 30 (697, .iconst 1, 1) rfl
theorem dL_law_698 : decode cL_law 698 = .ok (.iadd, 1) := dg_at dLg_11 31 (698, .iadd, 1) rfl
theorem dL_law_699 : decode cL_law 699 = .ok (.iaload, 1) := dg_at dLg_11 32 (699, .iaload, 1) rfl
theorem dL_law_700 : decode cL_law 700 = .ok (.aload_n 0, 1) := dg_at dLg_11 33 (700, .aload_n 0, 1) rfl
theorem dL_law_701 : decode cL_law 701 = .ok (.iload_n 3, 1) := dg_at dLg_11 34 (701, .iload_n 3, 1) rfl
theorem dL_law_702 : decode cL_law 702 = .ok (.iconst 2, 1) := dg_at dLg_11 35 (702, .iconst 2, 1) rfl
theorem dL_law_703 : decode cL_law 703 = .ok (.iadd, 1) := dg_at dLg_11 36 (703, .iadd, 1) rfl
theorem dL_law_704 : decode cL_law 704 = .ok (.iaload, 1) := dg_at dLg_11 37 (704, .iaload, 1) rfl
theorem dL_law_705 : decode cL_law 705 = .ok (.aload_n 0, 1) := dg_at dLg_11 38 (705, .aload_n 0, 1) rfl
theorem dL_law_706 : decode cL_law 706 = .ok (.iload_n 3, 1) := dg_at dLg_11 39 (706, .iload_n 3, 1) rfl
theorem dLg_12 : ([(707, .iconst 3, 1), (708, .iadd, 1), (709, .iaload, 1), (710, .invokevirtual 79, 3), (713, .pop, 1), (714, .aload_n 2, 1), (715, .aload_n 0, 1), (716, .iload_n 3, 1), (717, .iconst 1, 1), (718, .iadd, 1), (719, .iaload, 1), (720, .aload_n 0, 1), (721, .iload_n 3, 1), (722, .iconst 2, 1), (723, .iadd, 1), (724, .iaload, 1), (725, .aload_n 0, 1), (726, .iload_n 3, 1), (727, .iconst 3, 1), (728, .iadd, 1), (729, .iaload, 1), (730, .invokevirtual 82, 3), (733, .pop, 1), (734, .goto 496, 3), (737, .aload_n 1, 1), (738, .aload_n 0, 1), (739, .iload_n 3, 1), (740, .iconst 1, 1), (741, .iadd, 1), (742, .iaload, 1), (743, .invokevirtual 83, 3), (746, .pop, 1), (747, .aload_n 2, 1), (748, .aload_n 0, 1), (749, .iload_n 3, 1), (750, .iconst 1, 1), (751, .iadd, 1), (752, .iaload, 1), (753, .invokevirtual 86, 3), (756, .pop, 1)] : List (Nat × Jvm.ClassFile.Instr × Nat)).all (fun q => decide (decode cL_law q.1 = .ok q.2)) = true := by decide +kernel
theorem dL_law_707 : decode cL_law 707 = .ok (.iconst 3, 1) := dg_at dLg_12 0 (707, .iconst 3, 1) rfl
theorem dL_law_708 : decode cL_law 708 = .ok (.iadd, 1) := dg_at dLg_12 1 (708, .iadd, 1) rfl
theorem dL_law_709 : decode cL_law 709 = .ok (.iaload, 1) := dg_at dLg_12 2 (709, .iaload, 1) rfl
theorem dL_law_710 : decode cL_law 710 = .ok (.invokevirtual 79, 3) := dg_at dLg_12 3 (710, .invokevirtual 79, 3) rfl
theorem dL_law_713 : decode cL_law 713 = .ok (.pop, 1) := dg_at dLg_12 4 (713, .pop, 1) rfl
theorem dL_law_714 : decode cL_law 714 = .ok (.aload_n 2, 1) := dg_at dLg_12 5 (714, .aload_n 2, 1) rfl
theorem dL_law_715 : decode cL_law 715 = .ok (.aload_n 0, 1) := dg_at dLg_12 6 (715, .aload_n 0, 1) rfl
theorem dL_law_716 : decode cL_law 716 = .ok (.iload_n 3, 1) := dg_at dLg_12 7 (716, .iload_n 3, 1) rfl
theorem dL_law_717 : decode cL_law 717 = .ok (.iconst 1, 1) := dg_at dLg_12 8 (717, .iconst 1, 1) rfl
theorem dL_law_718 : decode cL_law 718 = .ok (.iadd, 1) := dg_at dLg_12 9 (718, .iadd, 1) rfl
theorem dL_law_719 : decode cL_law 719 = .ok (.iaload, 1) := dg_at dLg_12 10 (719, .iaload, 1) rfl
theorem dL_law_720 : decode cL_law 720 = .ok (.aload_n 0, 1) := dg_at dLg_12 11 (720, .aload_n 0, 1) rfl
theorem dL_law_721 : decode cL_law 721 = .ok (.iload_n 3, 1) := dg_at dLg_12 12 (721, .iload_n 3, 1) rfl
theorem dL_law_722 : decode cL_law 722 = .ok (.iconst 2, 1) := dg_at dLg_12 13 (722, .iconst 2, 1) rfl
theorem dL_law_723 : decode cL_law 723 = .ok (.iadd, 1) := dg_at dLg_12 14 (723, .iadd, 1) rfl
theorem dL_law_724 : decode cL_law 724 = .ok (.iaload, 1) := dg_at dLg_12 15 (724, .iaload, 1) rfl
theorem dL_law_725 : decode cL_law 725 = .ok (.aload_n 0, 1) := dg_at dLg_12 16 (725, .aload_n 0, 1) rfl
theorem dL_law_726 : decode cL_law 726 = .ok (.iload_n 3, 1) := dg_at dLg_12 17 (726, .iload_n 3, 1) rfl
theorem dL_law_727 : decode cL_law 727 = .ok (.iconst 3, 1) := dg_at dLg_12 18 (727, .iconst 3, 1) rfl
theorem dL_law_728 : decode cL_law 728 = .ok (.iadd, 1) := dg_at dLg_12 19 (728, .iadd, 1) rfl
theorem dL_law_729 : decode cL_law 729 = .ok (.iaload, 1) := dg_at dLg_12 20 (729, .iaload, 1) rfl
theorem dL_law_730 : decode cL_law 730 = .ok (.invokevirtual 82, 3) := dg_at dLg_12 21 (730, .invokevirtual 82, 3) rfl
theorem dL_law_733 : decode cL_law 733 = .ok (.pop, 1) := dg_at dLg_12 22 (733, .pop, 1) rfl
theorem dL_law_734 : decode cL_law 734 = .ok (.goto 496, 3) := dg_at dLg_12 23 (734, .goto 496, 3) rfl
theorem dL_law_737 : decode cL_law 737 = .ok (.aload_n 1, 1) := dg_at dLg_12 24 (737, .aload_n 1, 1) rfl
theorem dL_law_738 : decode cL_law 738 = .ok (.aload_n 0, 1) := dg_at dLg_12 25 (738, .aload_n 0, 1) rfl
theorem dL_law_739 : decode cL_law 739 = .ok (.iload_n 3, 1) := dg_at dLg_12 26 (739, .iload_n 3, 1) rfl
theorem dL_law_740 : decode cL_law 740 = .ok (.iconst 1, 1) := dg_at dLg_12 27 (740, .iconst 1, 1) rfl
theorem dL_law_741 : decode cL_law 741 = .ok (.iadd, 1) := dg_at dLg_12 28 (741, .iadd, 1) rfl
theorem dL_law_742 : decode cL_law 742 = .ok (.iaload, 1) := dg_at dLg_12 29 (742, .iaload, 1) rfl
theorem dL_law_743 : decode cL_law 743 = .ok (.invokevirtual 83, 3) := dg_at dLg_12 30 (743, .invokevirtual 83, 3) rfl
theorem dL_law_746 : decode cL_law 746 = .ok (.pop, 1) := dg_at dLg_12 31 (746, .pop, 1) rfl
theorem dL_law_747 : decode cL_law 747 = .ok (.aload_n 2, 1) := dg_at dLg_12 32 (747, .aload_n 2, 1) rfl
theorem dL_law_748 : decode cL_law 748 = .ok (.aload_n 0, 1) := dg_at dLg_12 33 (748, .aload_n 0, 1) rfl
theorem dL_law_749 : decode cL_law 749 = .ok (.iload_n 3, 1) := dg_at dLg_12 34 (749, .iload_n 3, 1) rfl
theorem dL_law_750 : decode cL_law 750 = .ok (.iconst 1, 1) := dg_at dLg_12 35 (750, .iconst 1, 1) rfl
theorem dL_law_751 : decode cL_law 751 = .ok (.iadd, 1) := dg_at dLg_12 36 (751, .iadd, 1) rfl
theorem dL_law_752 : decode cL_law 752 = .ok (.iaload, 1) := dg_at dLg_12 37 (752, .iaload, 1) rfl
theorem dL_law_753 : decode cL_law 753 = .ok (.invokevirtual 86, 3) := dg_at dLg_12 38 (753, .invokevirtual 86, 3) rfl
theorem dL_law_756 : decode cL_law 756 = .ok (.pop, 1) := dg_at dLg_12 39 (756, .pop, 1) rfl
theorem dLg_13 : ([(757, .goto 473, 3), (760, .aload_n 1, 1), (761, .aload_n 0, 1), (762, .iload_n 3, 1), (763, .iconst 1, 1), (764, .iadd, 1), (765, .iaload, 1), (766, .aload_n 0, 1), (767, .iload_n 3, 1), (768, .iconst 2, 1), (769, .iadd, 1), (770, .iaload, 1), (771, .aload_n 0, 1), (772, .iload_n 3, 1), (773, .iconst 3, 1), (774, .iadd, 1), (775, .iaload, 1), (776, .aload_n 0, 1), (777, .iload_n 3, 1), (778, .iconst 4, 1), (779, .iadd, 1), (780, .iaload, 1), (781, .invokevirtual 87, 3), (784, .pop, 1), (785, .aload_n 2, 1), (786, .aload_n 0, 1), (787, .iload_n 3, 1), (788, .iconst 1, 1), (789, .iadd, 1), (790, .iaload, 1), (791, .aload_n 0, 1), (792, .iload_n 3, 1), (793, .iconst 2, 1), (794, .iadd, 1), (795, .iaload, 1), (796, .aload_n 0, 1), (797, .iload_n 3, 1), (798, .iconst 3, 1), (799, .iadd, 1), (800, .iaload, 1)] : List (Nat × Jvm.ClassFile.Instr × Nat)).all (fun q => decide (decode cL_law q.1 = .ok q.2)) = true := by decide +kernel
theorem dL_law_757 : decode cL_law 757 = .ok (.goto 473, 3) := dg_at dLg_13 0 (757, .goto 473, 3) rfl
theorem dL_law_760 : decode cL_law 760 = .ok (.aload_n 1, 1) := dg_at dLg_13 1 (760, .aload_n 1, 1) rfl
theorem dL_law_761 : decode cL_law 761 = .ok (.aload_n 0, 1) := dg_at dLg_13 2 (761, .aload_n 0, 1) rfl
theorem dL_law_762 : decode cL_law 762 = .ok (.iload_n 3, 1) := dg_at dLg_13 3 (762, .iload_n 3, 1) rfl
theorem dL_law_763 : decode cL_law 763 = .ok (.iconst 1, 1) := dg_at dLg_13 4 (763, .iconst 1, 1) rfl
theorem dL_law_764 : decode cL_law 764 = .ok (.iadd, 1) := dg_at dLg_13 5 (764, .iadd, 1) rfl
theorem dL_law_765 : decode cL_law 765 = .ok (.iaload, 1) := dg_at dLg_13 6 (765, .iaload, 1) rfl
theorem dL_law_766 : decode cL_law 766 = .ok (.aload_n 0, 1) := dg_at dLg_13 7 (766, .aload_n 0, 1) rfl
theorem dL_law_767 : decode cL_law 767 = .ok (.iload_n 3, 1) := dg_at dLg_13 8 (767, .iload_n 3, 1) rfl
theorem dL_law_768 : decode cL_law 768 = .ok (.iconst 2, 1) := dg_at dLg_13 9 (768, .iconst 2, 1) rfl
theorem dL_law_769 : decode cL_law 769 = .ok (.iadd, 1) := dg_at dLg_13 10 (769, .iadd, 1) rfl
theorem dL_law_770 : decode cL_law 770 = .ok (.iaload, 1) := dg_at dLg_13 11 (770, .iaload, 1) rfl
theorem dL_law_771 : decode cL_law 771 = .ok (.aload_n 0, 1) := dg_at dLg_13 12 (771, .aload_n 0, 1) rfl
theorem dL_law_772 : decode cL_law 772 = .ok (.iload_n 3, 1) := dg_at dLg_13 13 (772, .iload_n 3, 1) rfl
theorem dL_law_773 : decode cL_law 773 = .ok (.iconst 3, 1) := dg_at dLg_13 14 (773, .iconst 3, 1) rfl
theorem dL_law_774 : decode cL_law 774 = .ok (.iadd, 1) := dg_at dLg_13 15 (774, .iadd, 1) rfl
theorem dL_law_775 : decode cL_law 775 = .ok (.iaload, 1) := dg_at dLg_13 16 (775, .iaload, 1) rfl
theorem dL_law_776 : decode cL_law 776 = .ok (.aload_n 0, 1) := dg_at dLg_13 17 (776, .aload_n 0, 1) rfl
theorem dL_law_777 : decode cL_law 777 = .ok (.iload_n 3, 1) := dg_at dLg_13 18 (777, .iload_n 3, 1) rfl
theorem dL_law_778 : decode cL_law 778 = .ok (.iconst 4, 1) := dg_at dLg_13 19 (778, .iconst 4, 1) rfl
theorem dL_law_779 : decode cL_law 779 = .ok (.iadd, 1) := dg_at dLg_13 20 (779, .iadd, 1) rfl
theorem dL_law_780 : decode cL_law 780 = .ok (.iaload, 1) := dg_at dLg_13 21 (780, .iaload, 1) rfl
theorem dL_law_781 : decode cL_law 781 = .ok (.invokevirtual 87, 3) := dg_at dLg_13 22 (781, .invokevirtual 87, 3) rfl
theorem dL_law_784 : decode cL_law 784 = .ok (.pop, 1) := dg_at dLg_13 23 (784, .pop, 1) rfl
theorem dL_law_785 : decode cL_law 785 = .ok (.aload_n 2, 1) := dg_at dLg_13 24 (785, .aload_n 2, 1) rfl
theorem dL_law_786 : decode cL_law 786 = .ok (.aload_n 0, 1) := dg_at dLg_13 25 (786, .aload_n 0, 1) rfl
theorem dL_law_787 : decode cL_law 787 = .ok (.iload_n 3, 1) := dg_at dLg_13 26 (787, .iload_n 3, 1) rfl
theorem dL_law_788 : decode cL_law 788 = .ok (.iconst 1, 1) := dg_at dLg_13 27 (788, .iconst 1, 1) rfl
theorem dL_law_789 : decode cL_law 789 = .ok (.iadd, 1) := dg_at dLg_13 28 (789, .iadd, 1) rfl
theorem dL_law_790 : decode cL_law 790 = .ok (.iaload, 1) := dg_at dLg_13 29 (790, .iaload, 1) rfl
theorem dL_law_791 : decode cL_law 791 = .ok (.aload_n 0, 1) := dg_at dLg_13 30 (791, .aload_n 0, 1) rfl
theorem dL_law_792 : decode cL_law 792 = .ok (.iload_n 3, 1) := dg_at dLg_13 31 (792, .iload_n 3, 1) rfl
theorem dL_law_793 : decode cL_law 793 = .ok (.iconst 2, 1) := dg_at dLg_13 32 (793, .iconst 2, 1) rfl
theorem dL_law_794 : decode cL_law 794 = .ok (.iadd, 1) := dg_at dLg_13 33 (794, .iadd, 1) rfl
theorem dL_law_795 : decode cL_law 795 = .ok (.iaload, 1) := dg_at dLg_13 34 (795, .iaload, 1) rfl
theorem dL_law_796 : decode cL_law 796 = .ok (.aload_n 0, 1) := dg_at dLg_13 35 (796, .aload_n 0, 1) rfl
theorem dL_law_797 : decode cL_law 797 = .ok (.iload_n 3, 1) := dg_at dLg_13 36 (797, .iload_n 3, 1) rfl
theorem dL_law_798 : decode cL_law 798 = .ok (.iconst 3, 1) := dg_at dLg_13 37 (798, .iconst 3, 1) rfl
theorem dL_law_799 : decode cL_law 799 = .ok (.iadd, 1) := dg_at dLg_13 38 (799, .iadd, 1) rfl
theorem dL_law_800 : decode cL_law 800 = .ok (.iaload, 1) := dg_at dLg_13 39 (800, .iaload, 1) rfl
theorem dLg_14 : ([(801, .aload_n 0, 1), (802, .iload_n 3, 1), (803, .iconst 4, 1), (804, .iadd, 1), (805, .iaload, 1), (806, .invokevirtual 91, 3), (809, .pop, 1), (810, .goto 420, 3), (813, .aload_n 1, 1), (814, .aload_n 0, 1), (815, .iload_n 3, 1), (816, .iconst 1, 1), (817, .iadd, 1), (818, .iaload, 1), (819, .aload_n 0, 1), (820, .iload_n 3, 1), (821, .iconst 2, 1), (822, .iadd, 1), (823, .iaload, 1), (824, .aload_n 0, 1), (825, .iload_n 3, 1), (826, .iconst 3, 1), (827, .iadd, 1), (828, .iaload, 1), (829, .invokevirtual 92, 3), (832, .pop2, 1), (833, .aload_n 2, 1), (834, .aload_n 0, 1), (835, .iload_n 3, 1), (836, .iconst 1, 1), (837, .iadd, 1), (838, .iaload, 1), (839, .aload_n 0, 1), (840, .iload_n 3, 1), (841, .iconst 2, 1), (842, .iadd, 1), (843, .iaload, 1), (844, .aload_n 0, 1), (845, .iload_n 3, 1), (846, .iconst 3, 1)] : List (Nat × Jvm.ClassFile.Instr × Nat)).all (fun q => decide (decode cL_law q.1 = .ok q.2)) = true := by decide +kernel
theorem dL_law_801 : decode cL_law 801 = .ok (.aload_n 0, 1) := dg_at dLg_14 0 (801, .aload_n 0, 1) rfl
theorem dL_law_802 : decode cL_law 802 = .ok (.iload_n 3, 1) := dg_at dLg_14 1 (802, .iload_n 3, 1) rfl
theorem dL_law_803 : decode cL_law 803 = .ok (.iconst 4, 1) := dg_at dLg_14 2 (803, .iconst 4, 1) rfl
theorem dL_law_804 : decode cL_law 804 = .ok (.iadd, 1) := dg_at dLg_14 3 (804, .iadd, 1) rfl
theorem dL_law_805 : decode cL_law 805 = .ok (.iaload, 1) := dg_at dLg_14 4 (805, .iaload, 1) rfl
theorem dL_law_806 : decode cL_law 806 = .ok (.invokevirtual 91, 3) := dg_at dLg_14 5 (806, .invokevirtual 91, 3) rfl
theorem dL_law_809 : decode cL_law 809 = .ok (.pop, 1) := dg_at dLg_14 6 (809, .pop, 1) rfl
theorem dL_law_810 : decode cL_law 810 = .ok (.goto 420, 3) := dg_at dLg_14 7 (810, .goto 420, 3) rfl
theorem dL_law_813 : decode cL_law 813 = .ok (.aload_n 1, 1) := dg_at dLg_14 8 (813, .aload_n 1, 1) rfl
theorem dL_law_814 : decode cL_law 814 = .ok (.aload_n 0, 1) := dg_at dLg_14 9 (814, .aload_n 0, 1) rfl
theorem dL_law_815 : decode cL_law 815 = .ok (.iload_n 3, 1) := dg_at dLg_14 10 (815, .iload_n 3, 1) rfl
theorem dL_law_816 : decode cL_law 816 = .ok (.iconst 1, 1) := dg_at dLg_14 11 (816, .iconst 1, 1) rfl
theorem dL_law_817 : decode cL_law 817 = .ok (.iadd, 1) := dg_at dLg_14 12 (817, .iadd, 1) rfl
theorem dL_law_818 : decode cL_law 818 = .ok (.iaload, 1) := dg_at dLg_14 13 (818, .iaload, 1) rfl
theorem dL_law_819 : decode cL_law 819 = .ok (.aload_n 0, 1) := dg_at dLg_14 14 (819, .aload_n 0, 1) rfl
theorem dL_law_820 : decode cL_law 820 = .ok (.iload_n 3, 1) := dg_at dLg_14 15 (820, .iload_n 3, 1) rfl
theorem dL_law_821 : decode cL_law 821 = .ok (.iconst 2, 1) := dg_at dLg_14 16 (821, .iconst 2, 1) rfl
theorem dL_law_822 : decode cL_law 822 = .ok (.iadd, 1) := dg_at dLg_14 17 (822, .iadd, 1) rfl
theorem dL_law_823 : decode cL_law 823 = .ok (.iaload, 1) := dg_at dLg_14 18 (823, .iaload, 1) rfl
theorem dL_law_824 : decode cL_law 824 = .ok (.aload_n 0, 1) := dg_at dLg_14 19 (824, .aload_n 0, 1) rfl
theorem dL_law_825 : decode cL_law 825 = .ok (.iload_n 3, 1) := dg_at dLg_14 20 (825, .iload_n 3, 1) rfl
theorem dL_law_826 : decode cL_law 826 = .ok (.iconst 3, 1) := dg_at dLg_14 21 (826, .iconst 3, 1) rfl
theorem dL_law_827 : decode cL_law 827 = .ok (.iadd, 1) := dg_at dLg_14 22 (827, .iadd, 1) rfl
theorem dL_law_828 : decode cL_law 828 = .ok (.iaload, 1) := dg_at dLg_14 23 (828, .iaload, 1) rfl
theorem dL_law_829 : decode cL_law 829 = .ok (.invokevirtual 92, 3) := dg_at dLg_14 24 (829, .invokevirtual 92, 3) rfl
theorem dL_law_832 : decode cL_law 832 = .ok (.pop2, 1) := dg_at dLg_14 25 (832, .pop2, 1) rfl
theorem dL_law_833 : decode cL_law 833 = .ok (.aload_n 2, 1) := dg_at dLg_14 26 (833, .aload_n 2, 1) rfl
theorem dL_law_834 : decode cL_law 834 = .ok (.aload_n 0, 1) := dg_at dLg_14 27 (834, .aload_n 0, 1) rfl
theorem dL_law_835 : decode cL_law 835 = .ok (.iload_n 3, 1) := dg_at dLg_14 28 (835, .iload_n 3, 1) rfl
theorem dL_law_836 : decode cL_law 836 = .ok (.iconst 1, 1) := dg_at dLg_14 29 (836, .iconst 1, 1) rfl
theorem dL_law_837 : decode cL_law 837 = .ok (.iadd, 1) := dg_at dLg_14 30 (837, .iadd, 1) rfl
theorem dL_law_838 : decode cL_law 838 = .ok (.iaload, 1) := dg_at dLg_14 31 (838, .iaload, 1) rfl
theorem dL_law_839 : decode cL_law 839 = .ok (.aload_n 0, 1) := dg_at dLg_14 32 (839, .aload_n 0, 1) rfl
theorem dL_law_840 : decode cL_law 840 = .ok (.iload_n 3, 1) := dg_at dLg_14 33 (840, .iload_n 3, 1) rfl
theorem dL_law_841 : decode cL_law 841 = .ok (.iconst 2, 1) := dg_at dLg_14 34 (841, .iconst 2, 1) rfl
theorem dL_law_842 : decode cL_law 842 = .ok (.iadd, 1) := dg_at dLg_14 35 (842, .iadd, 1) rfl
theorem dL_law_843 : decode cL_law 843 = .ok (.iaload, 1) := dg_at dLg_14 36 (843, .iaload, 1) rfl
theorem dL_law_844 : decode cL_law 844 = .ok (.aload_n 0, 1) := dg_at dLg_14 37 (844, .aload_n 0, 1) rfl
theorem dL_law_845 : decode cL_law 845 = .ok (.iload_n 3, 1) := dg_at dLg_14 38 (845, .iload_n 3, 1) rfl
theorem dL_law_846 : decode cL_law 846 = .ok (.iconst 3, 1) := dg_at dLg_14 39 (846, .iconst 3, 1) rfl
theorem dLg_15 : ([(847, .iadd, 1), (848, .iaload, 1), (849, .invokevirtual 96, 3), (852, .pop2, 1), (853, .goto 377, 3), (856, .aload_n 1, 1), (857, .aload_n 0, 1), (858, .iload_n 3, 1), (859, .iconst 1, 1), (860, .iadd, 1), (861, .iaload, 1), (862, .aload_n 0, 1), (863, .iload_n 3, 1), (864, .iconst 2, 1), (865, .iadd, 1), (866, .iaload, 1), (867, .aload_n 0, 1), (868, .iload_n 3, 1), (869, .iconst 3, 1), (870, .iadd, 1), (871, .iaload, 1), (872, .aload_n 0, 1), (873, .iload_n 3, 1), (874, .iconst 4, 1), (875, .iadd, 1), (876, .iaload, 1), (877, .invokevirtual 97, 3), (880, .pop, 1), (881, .aload_n 2, 1), (882, .aload_n 0, 1), (883, .iload_n 3, 1), (884, .iconst 1, 1), (885, .iadd, 1), (886, .iaload, 1), (887, .aload_n 0, 1), (888, .iload_n 3, 1), (889, .iconst 2, 1), (890, .iadd, 1), (891, .iaload, 1), (892, .aload_n 0, 1)] : List (Nat × Jvm.ClassFile.Instr × Nat)).all (fun q => decide (decode cL_law q.1 = .ok q.2)) = true := by decide +kernel
theorem dL_law_847 : decode cL_law 847 = .ok (.iadd, 1) := dg_at dLg_15 0 (847, .iadd, 1) rfl
theorem dL_law_848 : decode cL_law 848 = .ok (.iaload, 1) := dg_at dLg_15 1 (848, .iaload, 1) rfl
theorem dL_law_849 : decode cL_law 849 = .ok (.invokevirtual 96, 3) := dg_at dLg_15 2 (849, .invokevirtual 96, 3) rfl
theorem dL_law_852 : decode cL_law 852 = .ok (.pop2, 1) := dg_at dLg_15 3 (852, .pop2, 1) rfl
theorem dL_law_853 : decode cL_law 853 = .ok (.goto 377, 3) := dg_at dLg_15 4 (853, .goto 377, 3) rfl
theorem dL_law_856 : decode cL_law 856 = .ok (.aload_n 1, 1) := dg_at dLg_15 5 (856, .aload_n 1, 1) rfl
theorem dL_law_857 : decode cL_law 857 = .ok (.aload_n 0, 1) := dg_at dLg_15 6 (857, .aload_n 0, 1) rfl
theorem dL_law_858 : decode cL_law 858 = .ok (.iload_n 3, 1) := dg_at dLg_15 7 (858, .iload_n 3, 1) rfl
theorem dL_law_859 : decode cL_law 859 = .ok (.iconst 1, 1) := dg_at dLg_15 8 (859, .iconst 1, 1) rfl
theorem dL_law_860 : decode cL_law 860 = .ok (.iadd, 1) := dg_at dLg_15 9 (860, .iadd, 1) rfl
theorem dL_law_861 : decode cL_law 861 = .ok (.iaload, 1) := dg_at dLg_15 10 (861, .iaload, 1) rfl
theorem dL_law_862 : decode cL_law 862 = .ok (.aload_n 0, 1) := dg_at dLg_15 11 (862, .aload_n 0, 1) rfl
theorem dL_law_863 : decode cL_law 863 = .ok (.iload_n 3, 1) := dg_at dLg_15 12 (863, .iload_n 3, 1) rfl
theorem dL_law_864 : decode cL_law 864 = .ok (.iconst 2, 1) := dg_at dLg_15 13 (864, .iconst 2, 1) rfl
theorem dL_law_865 : decode cL_law 865 = .ok (.iadd, 1) := dg_at dLg_15 14 (865, .iadd, 1) rfl
theorem dL_law_866 : decode cL_law 866 = .ok (.iaload, 1) := dg_at dLg_15 15 (866, .iaload, 1) rfl
theorem dL_law_867 : decode cL_law 867 = .ok (.aload_n 0, 1) := dg_at dLg_15 16 (867, .aload_n 0, 1) rfl
theorem dL_law_868 : decode cL_law 868 = .ok (.iload_n 3, 1) := dg_at dLg_15 17 (868, .iload_n 3, 1) rfl
theorem dL_law_869 : decode cL_law 869 = .ok (.iconst 3, 1) := dg_at dLg_15 18 (869, .iconst 3, 1) rfl
theorem dL_law_870 : decode cL_law 870 = .ok (.iadd, 1) := dg_at dLg_15 19 (870, .iadd, 1) rfl
theorem dL_law_871 : decode cL_law 871 = .ok (.iaload, 1) := dg_at dLg_15 20 (871, .iaload, 1) rfl
theorem dL_law_872 : decode cL_law 872 = .ok (.aload_n 0, 1) := dg_at dLg_15 21 (872, .aload_n 0, 1) rfl
theorem dL_law_873 : decode cL_law 873 = .ok (.iload_n 3, 1) := dg_at dLg_15 22 (873, .iload_n 3, 1) rfl
theorem dL_law_874 : decode cL_law 874 = .ok (.iconst 4, 1) := dg_at dLg_15 23 (874, .iconst 4, 1) rfl
theorem dL_law_875 : decode cL_law 875 = .ok (.iadd, 1) := dg_at dLg_15 24 (875, .iadd, 1) rfl
theorem dL_law_876 : decode cL_law 876 = .ok (.iaload, 1) := dg_at dLg_15 25 (876, .iaload, 1) rfl
theorem dL_law_877 : decode cL_law 877 = .ok (.invokevirtual 97, 3) := dg_at dLg_15 26 (877, .invokevirtual 97, 3) rfl
theorem dL_law_880 : decode cL_law 880 = .ok (.pop, 1) := dg_at dLg_15 27 (880, .pop, 1) rfl
theorem dL_law_881 : decode cL_law 881 = .ok (.aload_n 2, 1) := dg_at dLg_15 28 (881, .aload_n 2, 1) rfl
theorem dL_law_882 : decode cL_law 882 = .ok (.aload_n 0, 1) := dg_at dLg_15 29 (882, .aload_n 0, 1) rfl
theorem dL_law_883 : decode cL_law 883 = .ok (.iload_n 3, 1) := dg_at dLg_15 30 (883, .iload_n 3, 1) rfl
theorem dL_law_884 : decode cL_law 884 = .ok (.iconst 1, 1) := dg_at dLg_15 31 (884, .iconst 1, 1) rfl
theorem dL_law_885 : decode cL_law 885 = .ok (.iadd, 1) := dg_at dLg_15 32 (885, .iadd, 1) rfl
theorem dL_law_886 : decode cL_law 886 = .ok (.iaload, 1) := dg_at dLg_15 33 (886, .iaload, 1) rfl
theorem dL_law_887 : decode cL_law 887 = .ok (.aload_n 0, 1) := dg_at dLg_15 34 (887, .aload_n 0, 1) rfl
theorem dL_law_888 : decode cL_law 888 = .ok (.iload_n 3, 1) := dg_at dLg_15 35 (888, .iload_n 3, 1) rfl
theorem dL_law_889 : decode cL_law 889 = .ok (.iconst 2, 1) := dg_at dLg_15 36 (889, .iconst 2, 1) rfl
theorem dL_law_890 : decode cL_law 890 = .ok (.iadd, 1) := dg_at dLg_15 37 (890, .iadd, 1) rfl
theorem dL_law_891 : decode cL_law 891 = .ok (.iaload, 1) := dg_at dLg_15 38 (891, .iaload, 1) rfl
theorem dL_law_892 : decode cL_law 892 = .ok (.aload_n 0, 1) := dg_at dLg_15 39 (892, .aload_n 0, 1) rfl
theorem dLg_16 : ([(893, .iload_n 3, 1), (894, .iconst 3, 1), (895, .iadd, 1), (896, .iaload, 1), (897, .aload_n 0, 1), (898, .iload_n 3, 1), (899, .iconst 4, 1), (900, .iadd, 1), (901, .iaload, 1), (902, .invokevirtual 100, 3), (905, .pop, 1), (906, .goto 324, 3), (909, .aload_n 1, 1), (910, .aload_n 0, 1), (911, .iload_n 3, 1), (912, .iconst 1, 1), (913, .iadd, 1), (914, .iaload, 1), (915, .invokevirtual 101, 3), (918, .pop, 1), (919, .aload_n 2, 1), (920, .aload_n 0, 1), (921, .iload_n 3, 1), (922, .iconst 1, 1), (923, .iadd, 1), (924, .iaload, 1), (925, .invokevirtual 104, 3), (928, .pop, 1), (929, .goto 301, 3), (932, .aload_n 1, 1), (933, .aload_n 0, 1), (934, .iload_n 3, 1), (935, .iconst 1, 1), (936, .iadd, 1), (937, .iaload, 1), (938, .invokevirtual 105, 3), (941, .pop, 1), (942, .aload_n 2, 1), (943, .aload_n 0, 1), (944, .iload_n 3, 1)] : List (Nat × Jvm.ClassFile.Instr × Nat)).all (fun q => decide (decode cL_law q.1 = .ok q.2)) = true := by decide +kernel
theorem dL_law_893 : decode cL_law 893 = .ok (.iload_n 3, 1) := dg_at dLg_16 0 (893, .iload_n 3, 1) rfl
theorem dL_law_894 : decode cL_law 894 = .ok (.iconst 3, 1) := dg_at dLg_16 1 (894, .iconst 3, 1) rfl
theorem dL_law_895 : decode cL_law 895 = .ok (.iadd, 1) := dg_at dLg_16 2 (895, .iadd, 1) rfl
theorem dL_law_896 : decode cL_law 896 = .ok (.iaload, 1) := dg_at dLg_16 3 (896, .iaload, 1) rfl
theorem dL_law_897 : decode cL_law 897 = .ok (.aload_n 0, 1) := dg_at dLg_16 4 (897, .aload_n 0, 1) rfl
theorem dL_law_898 : decode cL_law 898 = .ok (.iload_n 3, 1) := dg_at dLg_16 5 (898, .iload_n 3, 1) rfl
theorem dL_law_899 : decode cL_law 899 = .ok (.iconst 4, 1) := dg_at dLg_16 6 (899, .iconst 4, 1) rfl
theorem dL_law_900 : decode cL_law 900 = .ok (.iadd, 1) := dg_at dLg_16 7 (900, .iadd, 1) rfl
theorem dL_law_901 : decode cL_law 901 = .ok (.iaload, 1) := dg_at dLg_16 8 (901, .iaload, 1) rfl
theorem dL_law_902 : decode cL_law 902 = .ok (.invokevirtual 100, 3) := dg_at dLg_16 9 (902, .invokevirtual 100, 3) rfl
theorem dL_law_905 : decode cL_law 905 = .ok (.pop, 1) := dg_at dLg_16 10 (905, .pop, 1) rfl
theorem dL_law_906 : decode cL_law 906 = .ok (.goto 324, 3) := dg_at dLg_16 11 (906, .goto 324, 3) rfl
theorem dL_law_909 : decode cL_law 909 = .ok (.aload_n 1, 1) := dg_at dLg_16 12 (909, .aload_n 1, 1) rfl
theorem dL_law_910 : decode cL_law 910 = .ok (.aload_n 0, 1) := dg_at dLg_16 13 (910, .aload_n 0, 1) rfl
theorem dL_law_911 : decode cL_law 911 = .ok (.iload_n 3, 1) := dg_at dLg_16 14 (911, .iload_n 3, 1) rfl
theorem dL_law_912 : decode cL_law 912 = .ok (.iconst 1, 1) := dg_at dLg_16 15 (912, .iconst 1, 1) rfl
theorem dL_law_913 : decode cL_law 913 = .ok (.iadd, 1) := dg_at dLg_16 16 (913, .iadd, 1) rfl
theorem dL_law_914 : decode cL_law 914 = .ok (.iaload, 1) := dg_at dLg_16 17 (914, .iaload, 1) rfl
theorem dL_law_915 : decode cL_law 915 = .ok (.invokevirtual 101, 3) := dg_at dLg_16 18 (915, .invokevirtual 101, 3) rfl
theorem dL_law_918 : decode cL_law 918 = .ok (.pop, 1) := dg_at dLg_16 19 (918, .pop, 1) rfl
theorem dL_law_919 : decode cL_law 919 = .ok (.aload_n 2, 1) := dg_at dLg_16 20 (919, .aload_n 2, 1) rfl
theorem dL_law_920 : decode cL_law 920 = .ok (.aload_n 0, 1) := dg_at dLg_16 21 (920, .aload_n 0, 1) rfl
theorem dL_law_921 : decode cL_law 921 = .ok (.iload_n 3, 1) := dg_at dLg_16 22 (921, .iload_n 3, 1) rfl
theorem dL_law_922 : decode cL_law 922 = .ok (.iconst 1, 1) := dg_at dLg_16 23 (922, .iconst 1, 1) rfl
theorem dL_law_923 : decode cL_law 923 = .ok (.iadd, 1) := dg_at dLg_16 24 (923, .iadd, 1) rfl
theorem dL_law_924 : decode cL_law 924 = .ok (.iaload, 1) := dg_at dLg_16 25 (924, .iaload, 1) rfl
theorem dL_law_925 : decode cL_law 925 = .ok (.invokevirtual 104, 3) := dg_at dLg_16 26 (925, .invokevirtual 104, 3) rfl
theorem dL_law_928 : decode cL_law 928 = .ok (.pop, 1) := dg_at dLg_16 27 (928, .pop, 1) rfl
theorem dL_law_929 : decode cL_law 929 = .ok (.goto 301, 3) := dg_at dLg_16 28 (929, .goto 301, 3) rfl
theorem dL_law_932 : decode cL_law 932 = .ok (.aload_n 1, 1) := dg_at dLg_16 29 (932, .aload_n 1, 1) rfl
theorem dL_law_933 : decode cL_law 933 = .ok (.aload_n 0, 1) := dg_at dLg_16 30 (933, .aload_n 0, 1) rfl
theorem dL_law_934 : decode cL_law 934 = .ok (.iload_n 3, 1) := dg_at dLg_16 31 (934, .iload_n 3, 1) rfl
theorem dL_law_935 : decode cL_law 935 = .ok (.iconst 1, 1) := dg_at dLg_16 32 (935, .iconst 1, 1) rfl
theorem dL_law_936 : decode cL_law 936 = .ok (.iadd, 1) := dg_at dLg_16 33 (936, .iadd, 1) rfl
theorem dL_law_937 : decode cL_law 937 = .ok (.iaload, 1) := dg_at dLg_16 34 (937, .iaload, 1) rfl
theorem dL_law_938 : decode cL_law 938 = .ok (.invokevirtual 105, 3) := dg_at dLg_16 35 (938, .invokevirtual 105, 3) rfl
theorem dL_law_941 : decode cL_law 941 = .ok (.pop, 1) := dg_at dLg_16 36 (941, .pop, 1) rfl
theorem dL_law_942 : decode cL_law 942 = .ok (.aload_n 2, 1) := dg_at dLg_16 37 (942, .aload_n 2, 1) rfl
theorem dL_law_943 : decode cL_law 943 = .ok (.aload_n 0, 1) := dg_at dLg_16 38 (943, .aload_n 0, 1) rfl
theorem dL_law_944 : decode cL_law 944 = .ok (.iload_n 3, 1) := dg_at dLg_16 39 (944, .iload_n 3, 1) rfl
theorem dLg_17 : ([(945, .iconst 1, 1), (946, .iadd, 1), (947, .iaload, 1), (948, .invokevirtual 108, 3), (951, .pop, 1), (952, .goto 278, 3), (955, .aload_n 1, 1), (956, .aload_n 0, 1), (957, .iload_n 3, 1), (958, .iconst 1, 1), (959, .iadd, 1), (960, .iaload, 1), (961, .invokevirtual 109, 3), (964, .aload_n 2, 1), (965, .aload_n 0, 1), (966, .iload_n 3, 1), (967, .iconst 1, 1), (968, .iadd, 1), (969, .iaload, 1), (970, .invokevirtual 112, 3), (973, .if_icmp .eq 257, 3), (978, .aload_n 1, 1), (979, .aload_n 0, 1), (980, .iload_n 3, 1), (981, .iconst 1, 1), (982, .iadd, 1), (983, .iaload, 1), (984, .aload_n 0, 1), (985, .iload_n 3, 1), (986, .iconst 2, 1), (987, .iadd, 1), (988, .iaload, 1), (989, .invokevirtual 113, 3), (992, .pop, 1), (993, .aload_n 2, 1), (994, .aload_n 0, 1), (995, .iload_n 3, 1), (996, .iconst 1, 1), (997, .iadd, 1), (998, .iaload, 1)] : List (Nat × Jvm.ClassFile.Instr × Nat)).all (fun q => decide (decode cL_law q.1 = .ok q.2)) = true := by decide +kernel
theorem dL_law_945 : decode cL_law 945 = .ok (.iconst 1, 1) := dg_at dLg_17 0 (945, .iconst 1, 1) rfl
theorem dL_law_946 : decode cL_law 946 = .ok (.iadd, 1) := dg_at dLg_17 1 (946, .iadd, 1) rfl
theorem dL_law_947 : decode cL_law 947 = .ok (.iaload, 1) := dg_at dLg_17 2 (947, .iaload, 1) rfl
theorem dL_law_948 : decode cL_law 948 = .ok (.invokevirtual 108, 3) := dg_at dLg_17 3 (948, .invokevirtual 108, 3) rfl
theorem dL_law_951 : decode cL_law 951 = .ok (.pop, 1) := dg_at dLg_17 4 (951, .pop, 1) rfl
theorem dL_law_952 : decode cL_law 952 = .ok (.goto 278, 3) := dg_at dLg_17 5 (952, .goto 278, 3) rfl
theorem dL_law_955 : decode cL_law 955 = .ok (.aload_n 1, 1) := dg_at dLg_17 6 (955, .aload_n 1, 1) rfl
theorem dL_law_956 : decode cL_law 956 = .ok (.aload_n 0, 1) := dg_at dLg_17 7 (956, .aload_n 0, 1) rfl
theorem dL_law_957 : decode cL_law 957 = .ok (.iload_n 3, 1) := dg_at dLg_17 8 (957, .iload_n 3, 1) rfl
theorem dL_law_958 : decode cL_law 958 = .ok (.iconst 1, 1) := dg_at dLg_17 9 (958, .iconst 1, 1) rfl
theorem dL_law_959 : decode cL_law 959 = .ok (.iadd, 1) := dg_at dLg_17 10 (959, .iadd, 1) rfl
theorem dL_law_960 : decode cL_law 960 = .ok (.iaload, 1) := dg_at dLg_17 11 (960, .iaload, 1) rfl
theorem dL_law_961 : decode cL_law 961 = .ok (.invokevirtual 109, 3) := dg_at dLg_17 12 (961, .invokevirtual 109, 3) rfl
theorem dL_law_964 : decode cL_law 964 = .ok (.aload_n 2, 1) := dg_at dLg_17 13 (964, .aload_n 2, 1) rfl
theorem dL_law_965 : decode cL_law 965 = .ok (.aload_n 0, 1) := dg_at dLg_17 14 (965, .aload_n 0, 1) rfl
theorem dL_law_966 : decode cL_law 966 = .ok (.iload_n 3, 1) := dg_at dLg_17 15 (966, .iload_n 3, 1) rfl
theorem dL_law_967 : decode cL_law 967 = .ok (.iconst 1, 1) := dg_at dLg_17 16 (967, .iconst 1, 1) rfl
theorem dL_law_968 : decode cL_law 968 = .ok (.iadd, 1) := dg_at dLg_17 17 (968, .iadd, 1) rfl
theorem dL_law_969 : decode cL_law 969 = .ok (.iaload, 1) := dg_at dLg_17 18 (969, .iaload, 1) rfl
theorem dL_law_970 : decode cL_law 970 = .ok (.invokevirtual 112, 3) := dg_at dLg_17 19 (970, .invokevirtual 112, 3) rfl
theorem dL_law_973 : decode cL_law 973 = .ok (.if_icmp .eq 257, 3) := dg_at dLg_17 20 (973, .if_icmp .eq 257, 3) rfl
theorem dL_law_978 : decode cL_law 978 = .ok (.aload_n 1, 1) := dg_at dLg_17 21 (978, .aload_n 1, 1) rfl
theorem dL_law_979 : decode cL_law 979 = .ok (.aload_n 0, 1) := dg_at dLg_17 22 (979, .aload_n 0, 1) rfl
theorem dL_law_980 : decode cL_law 980 = .ok (.iload_n 3, 1) := dg_at dLg_17 23 (980, .iload_n 3, 1) rfl
theorem dL_law_981 : decode cL_law 981 = .ok (.iconst 1, 1) := dg_at dLg_17 24 (981, .iconst 1, 1) rfl
theorem dL_law_982 : decode cL_law 982 = .ok (.iadd, 1) := dg_at dLg_17 25 (982, .iadd, 1) rfl
theorem dL_law_983 : decode cL_law 983 = .ok (.iaload, 1) := dg_at dLg_17 26 (983, .iaload, 1) rfl
theorem dL_law_984 : decode cL_law 984 = .ok (.aload_n 0, 1) := dg_at dLg_17 27 (984, .aload_n 0, 1) rfl
theorem dL_law_985 : decode cL_law 985 = .ok (.iload_n 3, 1) := dg_at dLg_17 28 (985, .iload_n 3, 1) rfl
theorem dL_law_986 : decode cL_law 986 = .ok (.iconst 2, 1) := dg_at dLg_17 29 (986, .iconst 2, 1) rfl
theorem dL_law_987 : decode cL_law 987 = .ok (.iadd, 1) := dg_at dLg_17 30 (987, .iadd, 1) rfl
theorem dL_law_988 : decode cL_law 988 = .ok (.iaload, 1) := dg_at dLg_17 31 (988, .iaload, 1) rfl
theorem dL_law_989 : decode cL_law 989 = .ok (.invokevirtual 113, 3) := dg_at dLg_17 32 (989, .invokevirtual 113, 3) rfl
theorem dL_law_992 : decode cL_law 992 = .ok (.pop, 1) := dg_at dLg_17 33 (992, .pop, 1) rfl
theorem dL_law_993 : decode cL_law 993 = .ok (.aload_n 2, 1) := dg_at dLg_17 34 (993, .aload_n 2, 1) rfl
theorem dL_law_994 : decode cL_law 994 = .ok (.aload_n 0, 1) := dg_at dLg_17 35 (994, .aload_n 0, 1) rfl
theorem dL_law_995 : decode cL_law 995 = .ok (.iload_n 3, 1) := dg_at dLg_17 36 (995, .iload_n 3, 1) rfl
theorem dL_law_996 : decode cL_law 996 = .ok (.iconst 1, 1) := dg_at dLg_17 37 (996, .iconst 1, 1) rfl
theorem dL_law_997 : decode cL_law 997 = .ok (.iadd, 1) := dg_at dLg_17 38 (997, .iadd, 1) rfl
theorem dL_law_998 : decode cL_law 998 = .ok (.iaload, 1) := dg_at dLg_17 39 (998, .iaload, 1) rfl
theorem dLg_18 : ([(999, .aload_n 0, 1), (1000, .iload_n 3, 1), (1001, .iconst 2, 1), (1002, .iadd, 1), (1003, .iaload, 1), (1004, .invokevirtual 116, 3), (1007, .pop, 1), (1008, .goto 222, 3), (1011, .aload_n 1, 1), (1012, .aload_n 0, 1), (1013, .iload_n 3, 1), (1014, .iconst 1, 1), (1015, .iadd, 1), (1016, .iaload, 1), (1017, .aload_n 0, 1), (1018, .iload_n 3, 1), (1019, .iconst 2, 1), (1020, .iadd, 1), (1021, .iaload, 1), (1022, .aload_n 0, 1), (1023, .iload_n 3, 1), (1024, .iconst 3, 1), (1025, .iadd, 1), (1026, .iaload, 1), (1027, .aload_n 0, 1), (1028, .iload_n 3, 1), (1029, .iconst 4, 1), (1030, .iadd, 1), (1031, .iaload, 1), (1032, .i2l, 1), (1033, .bipush 32, 2), (1035, .lshl, 1), (1036, .aload_n 0, 1), (1037, .iload_n 3, 1), (1038, .iconst 5, 1), (1039, .iadd, 1), (1040, .iaload, 1), (1041, .i2l, 1), (1042, .ldc2_w 59, 3), (1045, .land, 1)] : List (Nat × Jvm.ClassFile.Instr × Nat)).all (fun q => decide (decode cL_law q.1 = .ok q.2)) = true := by decide +kernel
theorem dL_law_999 : decode cL_law 999 = .ok (.aload_n 0, 1) := dg_at dLg_18 0 (999, .aload_n 0, 1) rfl
theorem dL_law_1000 : decode cL_law 1000 = .ok (.iload_n 3, 1) := dg_at dLg_18 1 (1000, .iload_n 3, 1) rfl
theorem dL_law_1001 : decode cL_law 1001 = .ok (.iconst 2, 1) := dg_at dLg_18 2 (1001, .iconst 2, 1) rfl
theorem dL_law_1002 : decode cL_law 1002 = .ok (.iadd, 1) := dg_at dLg_18 3 (1002, .iadd, 1) rfl
theorem dL_law_1003 : decode cL_law 1003 = .ok (.iaload, 1) := dg_at dLg_18 4 (1003, .iaload, 1) rfl
theorem dL_law_1004 : decode cL_law 1004 = .ok (.invokevirtual 116, 3) := dg_at dLg_18 5 (1004, .invokevirtual 116, 3) rfl
theorem dL_law_1007 : decode cL_law 1007 = .ok (.pop, 1) := dg_at dLg_18 6 (1007, .pop, 1) rfl
theorem dL_law_1008 : decode cL_law 1008 = .ok (.goto 222, 3) := dg_at dLg_18 7 (1008, .goto 222, 3) rfl
theorem dL_law_1011 : decode cL_law 1011 = .ok (.aload_n 1, 1) := dg_at dLg_18 8 (1011, .aload_n 1, 1) rfl
theorem dL_law_1012 : decode cL_law 1012 = .ok (.aload_n 0, 1) := dg_at dLg_18 9 (1012, .aload_n 0, 1) rfl
theorem dL_law_1013 : decode cL_law 1013 = .ok (.iload_n 3, 1) := dg_at dLg_18 10 (1013, .iload_n 3, 1) rfl
theorem dL_law_1014 : decode cL_law 1014 = .ok (.iconst 1, 1) := dg_at dLg_18 11 (1014, .iconst 1, 1) rfl
theorem dL_law_1015 : decode cL_law 1015 = .ok (.iadd, 1) := dg_at dLg_18 12 (1015, .iadd, 1) rfl
theorem dL_law_1016 : decode cL_law 1016 = .ok (.iaload, 1) := dg_at dLg_18 13 (1016, .iaload, 1) rfl
theorem dL_law_1017 : decode cL_law 1017 = .ok (.aload_n 0, 1) := dg_at dLg_18 14 (1017, .aload_n 0, 1) rfl
theorem dL_law_1018 : decode cL_law 1018 = .ok (.iload_n 3, 1) := dg_at dLg_18 15 (1018, .iload_n 3, 1) rfl
theorem dL_law_1019 : decode cL_law 1019 = .ok (.iconst 2, 1) := dg_at dLg_18 16 (1019, .iconst 2, 1) rfl
theorem dL_law_1020 : decode cL_law 1020 = .ok (.iadd, 1) := dg_at dLg_18 17 (1020, .iadd, 1) rfl
theorem dL_law_1021 : decode cL_law 1021 = .ok (.iaload, 1) := dg_at dLg_18 18 (1021, .iaload, 1) rfl
theorem dL_law_1022 : decode cL_law 1022 = .ok (.aload_n 0, 1) := dg_at dLg_18 19 (1022, .aload_n 0, 1) rfl
theorem dL_law_1023 : decode cL_law 1023 = .ok (.iload_n 3, 1) := dg_at dLg_18 20 (1023, .iload_n 3, 1) rfl
theorem dL_law_1024 : decode cL_law 1024 = .ok (.iconst 3, 1) := dg_at dLg_18 21 (1024, .iconst 3, 1) rfl
theorem dL_law_1025 : decode cL_law 1025 = .ok (.iadd, 1) := dg_at dLg_18 22 (1025, .iadd, 1) rfl
theorem dL_law_1026 : decode cL_law 1026 = .ok (.iaload, 1) := dg_at dLg_18 23 (1026, .iaload, 1) rfl
theorem dL_law_1027 : decode cL_law 1027 = .ok (.aload_n 0, 1) := dg_at dLg_18 24 (1027, .aload_n 0, 1) rfl
theorem dL_law_1028 : decode cL_law 1028 = .ok (.iload_n 3, 1) := dg_at dLg_18 25 (1028, .iload_n 3, 1) rfl
theorem dL_law_1029 : decode cL_law 1029 = .ok (.iconst 4, 1) := dg_at dLg_18 26 (1029, .iconst 4, 1) rfl
theorem dL_law_1030 : decode cL_law 1030 = .ok (.iadd, 1) := dg_at dLg_18 27 (1030, .iadd, 1) rfl
theorem dL_law_1031 : decode cL_law 1031 = .ok (.iaload, 1) := dg_at dLg_18 28 (1031, .iaload, 1) rfl
theorem dL_law_1032 : decode cL_law 1032 = .ok (.i2l, 1) := dg_at dLg_18 29 (1032, .i2l, 1) rfl
theorem dL_law_1033 : decode cL_law 1033 = .ok (.bipush 32, 2) := dg_at dLg_18 30 (1033, .bipush 32, 2) rfl
theorem dL_law_1035 : decode cL_law 1035 = .ok (.lshl, 1) := dg_at dLg_18 31 (1035, .lshl, 1) rfl
theorem dL_law_1036 : decode cL_law 1036 = .ok (.aload_n 0, 1) := dg_at dLg_18 32 (1036, .aload_n 0, 1) rfl
theorem dL_law_1037 : decode cL_law 1037 = .ok (.iload_n 3, 1) := dg_at dLg_18 33 (1037, .iload_n 3, 1) rfl
theorem dL_law_1038 : decode cL_law 1038 = .ok (.iconst 5, 1) := dg_at dLg_18 34 (1038, .iconst 5, 1) rfl
theorem dL_law_1039 : decode cL_law 1039 = .ok (.iadd, 1) := dg_at dLg_18 35 (1039, .iadd, 1) rfl
theorem dL_law_1040 : decode cL_law 1040 = .ok (.iaload, 1) := dg_at dLg_18 36 (1040, .iaload, 1) rfl
theorem dL_law_1041 : decode cL_law 1041 = .ok (.i2l, 1) := dg_at dLg_18 37 (1041, .i2l, 1) rfl
theorem dL_law_1042 : decode cL_law 1042 = .ok (.ldc2_w 59, 3) := dg_at dLg_18 38 (1042, .ldc2_w 59, 3) rfl
theorem dL_law_1045 : decode cL_law 1045 = .ok (.land, 1) := dg_at dLg_18 39 (1045, .land, 1) rfl
theorem dLg_19 : ([(1046, .lor, 1), (1047, .aload_n 0, 1), (1048, .iload_n 3, 1), (1049, .bipush 6, 2), (1051, .iadd, 1), (1052, .iaload, 1), (1053, .i2l, 1), (1054, .bipush 32, 2), (1056, .lshl, 1), (1057, .aload_n 0, 1), (1058, .iload_n 3, 1), (1059, .bipush 7, 2), (1061, .iadd, 1), (1062, .iaload, 1), (1063, .i2l, 1), (1064, .ldc2_w 59, 3), (1067, .land, 1), (1068, .lor, 1), (1069, .aload_n 0, 1), (1070, .iload_n 3, 1), (1071, .bipush 8, 2), (1073, .iadd, 1), (1074, .iaload, 1), (1075, .i2l, 1), (1076, .bipush 32, 2), (1078, .lshl, 1), (1079, .aload_n 0, 1), (1080, .iload_n 3, 1), (1081, .bipush 9, 2), (1083, .iadd, 1), (1084, .iaload, 1), (1085, .i2l, 1), (1086, .ldc2_w 59, 3), (1089, .land, 1), (1090, .lor, 1), (1091, .aload_n 0, 1), (1092, .iload_n 3, 1), (1093, .bipush 10, 2), (1095, .iadd, 1), (1096, .iaload, 1)] : List (Nat × Jvm.ClassFile.Instr × Nat)).all (fun q => decide (decode cL_law q.1 = .ok q.2)) = true := by decide +kernel
theorem dL_law_1046 : decode cL_law 1046 = .ok (.lor, 1) := dg_at dLg_19 0 (1046, .lor, 1) rfl
theorem dL_law_1047 : decode cL_law 1047 = .ok (.aload_n 0, 1) := dg_at dLg_19 1 (1047, .aload_n 0, 1) rfl
theorem dL_law_1048 : decode cL_law 1048 = .ok (.iload_n 3, 1) := dg_at dLg_19 2 (1048, .iload_n 3, 1) rfl
theorem dL_law_1049 : decode cL_law 1049 = .ok (.bipush 6, 2) := dg_at dLg_19 3 (1049, .bipush 6, 2) rfl
theorem dL_law_1051 : decode cL_law 1051 = .ok (.iadd, 1) := dg_at dLg_19 4 (1051, .iadd, 1) rfl
theorem dL_law_1052 : decode cL_law 1052 = .ok (.iaload, 1) := dg_at dLg_19 5 (1052, .iaload, 1) rfl
theorem dL_law_1053 : decode cL_law 1053 = .ok (.i2l, 1) := dg_at dLg_19 6 (1053, .i2l, 1) rfl
theorem dL_law_1054 : decode cL_law 1054 = .ok (.bipush 32, 2) := dg_at dLg_19 7 (1054, .bipush 32, 2) rfl
theorem dL_law_1056 : decode cL_law 1056 = .ok (.lshl, 1) := dg_at dLg_19 8 (1056, .lshl, 1) rfl
theorem dL_law_1057 : decode cL_law 1057 = .ok (.aload_n 0, 1) := dg_at dLg_19 9 (1057, .aload_n 0, 1) rfl
theorem dL_law_1058 : decode cL_law 1058 = .ok (.iload_n 3, 1) := dg_at dLg_19 10 (1058, .iload_n 3, 1) rfl
theorem dL_law_1059 : decode cL_law 1059 = .ok (.bipush 7, 2) := dg_at dLg_19 11 (1059, .bipush 7, 2) rfl
theorem dL_law_1061 : decode cL_law 1061 = .ok (.iadd, 1) := dg_at dLg_19 12 (1061, .iadd, 1) rfl
theorem dL_law_1062 : decode cL_law 1062 = .ok (.iaload, 1) := dg_at dLg_19 13 (1062, .iaload, 1) rfl
theorem dL_law_1063 : decode cL_law 1063 = .ok (.i2l, 1) := dg_at dLg_19 14 (1063, .i2l, 1) rfl
theorem dL_law_1064 : decode cL_law 1064 = .ok (.ldc2_w 59, 3) := dg_at dLg_19 15 (1064, .ldc2_w 59, 3) rfl
theorem dL_law_1067 : decode cL_law 1067 = .ok (.land, 1) := dg_at dLg_19 16 (1067, .land, 1) rfl
theorem dL_law_1068 : decode cL_law 1068 = .ok (.lor, 1) := dg_at dLg_19 17 (1068, .lor, 1) rfl
theorem dL_law_1069 : decode cL_law 1069 = .ok (.aload_n 0, 1) := dg_at dLg_19 18 (1069, .aload_n 0, 1) rfl
theorem dL_law_1070 : decode cL_law 1070 = .ok (.iload_n 3, 1) := dg_at dLg_19 19 (1070, .iload_n 3, 1) rfl
theorem dL_law_1071 : decode cL_law 1071 = .ok (.bipush 8, 2) := dg_at dLg_19 20 (1071, .bipush 8, 2) rfl
theorem dL_law_1073 : decode cL_law 1073 = .ok (.iadd, 1) := dg_at dLg_19 21 (1073, .iadd, 1) rfl
theorem dL_law_1074 : decode cL_law 1074 = .ok (.iaload, 1) := dg_at dLg_19 22 (1074, .iaload, 1) rfl
theorem dL_law_1075 : decode cL_law 1075 = .ok (.i2l, 1) := dg_at dLg_19 23 (1075, .i2l, 1) rfl
theorem dL_law_1076 : decode cL_law 1076 = .ok (.bipush 32, 2) := dg_at dLg_19 24 (1076, .bipush 32, 2) rfl
theorem dL_law_1078 : decode cL_law 1078 = .ok (.lshl, 1) := dg_at dLg_19 25 (1078, .lshl, 1) rfl
theorem dL_law_1079 : decode cL_law 1079 = .ok (.aload_n 0, 1) := dg_at dLg_19 26 (1079, .aload_n 0, 1) rfl
theorem dL_law_1080 : decode cL_law 1080 = .ok (.iload_n 3, 1) := dg_at dLg_19 27 (1080, .iload_n 3, 1) rfl
theorem dL_law_1081 : decode cL_law 1081 = .ok (.bipush 9, 2) := dg_at dLg_19 28 (1081, .bipush 9, 2) rfl
theorem dL_law_1083 : decode cL_law 1083 = .ok (.iadd, 1) := dg_at dLg_19 29 (1083, .iadd, 1) rfl
theorem dL_law_1084 : decode cL_law 1084 = .ok (.iaload, 1) := dg_at dLg_19 30 (1084, .iaload, 1) rfl
theorem dL_law_1085 : decode cL_law 1085 = .ok (.i2l, 1) := dg_at dLg_19 31 (1085, .i2l, 1) rfl
theorem dL_law_1086 : decode cL_law 1086 = .ok (.ldc2_w 59, 3) := dg_at dLg_19 32 (1086, .ldc2_w 59, 3) rfl
theorem dL_law_1089 : decode cL_law 1089 = .ok (.land, 1) := dg_at dLg_19 33 (1089, .land, 1) rfl
theorem dL_law_1090 : decode cL_law 1090 = .ok (.lor, 1) := dg_at dLg_19 34 (1090, .lor, 1) rfl
theorem dL_law_1091 : decode cL_law 1091 = .ok (.aload_n 0, 1) := dg_at dLg_19 35 (1091, .aload_n 0, 1) rfl
theorem dL_law_1092 : decode cL_law 1092 = .ok (.iload_n 3, 1) := dg_at dLg_19 36 (1092, .iload_n 3, 1) rfl
theorem dL_law_1093 : decode cL_law 1093 = .ok (.bipush 10, 2) := dg_at dLg_19 37 (1093, .bipush 10, 2) rfl
theorem dL_law_1095 : decode cL_law 1095 = .ok (.iadd, 1) := dg_at dLg_19 38 (1095, .iadd, 1) rfl
theorem dL_law_1096 : decode cL_law 1096 = .ok (.iaload, 1) := dg_at dLg_19 39 (1096, .iaload, 1) rfl
theorem dLg_20 : ([(1097, .invokevirtual 117, 3), (1100, .pop2, 1), (1101, .aload_n 2, 1), (1102, .aload_n 0, 1), (1103, .iload_n 3, 1), (1104, .iconst 1, 1), (1105, .iadd, 1), (1106, .iaload, 1), (1107, .aload_n 0, 1), (1108, .iload_n 3, 1), (1109, .iconst 2, 1), (1110, .iadd, 1), (1111, .iaload, 1), (1112, .aload_n 0, 1), (1113, .iload_n 3, 1), (1114, .iconst 3, 1), (1115, .iadd, 1), (1116, .iaload, 1), (1117, .aload_n 0, 1), (1118, .iload_n 3, 1), (1119, .iconst 4, 1), (1120, .iadd, 1), (1121, .iaload, 1), (1122, .i2l, 1), (1123, .bipush 32, 2), (1125, .lshl, 1), (1126, .aload_n 0, 1), (1127, .iload_n 3, 1), (1128, .iconst 5, 1), (1129, .iadd, 1), (1130, .iaload, 1), (1131, .i2l, 1), (1132, .ldc2_w 59, 3), (1135, .land, 1), (1136, .lor, 1), (1137, .aload_n 0, 1), (1138, .iload_n 3, 1), (1139, .bipush 6, 2), (1141, .iadd, 1), (1142, .iaload, 1)] : List (Nat × Jvm.ClassFile.Instr × Nat)).all (fun q => decide (decode cL_law q.1 = .ok q.2)) = true := by decide +kernel
theorem dL_law_1097 : decode cL_law 1097 = .ok (.invokevirtual 117, 3) := dg_at dLg_20 0 (1097, .invokevirtual 117, 3) rfl
theorem dL_law_1100 : decode cL_law 1100 = .ok (.pop2, 1) := dg_at dLg_20 1 (1100, .pop2, 1) rfl
theorem dL_law_1101 : decode cL_law 1101 = .ok (.aload_n 2, 1) := dg_at dLg_20 2 (1101, .aload_n 2, 1) rfl
theorem dL_law_1102 : decode cL_law 1102 = .ok (.aload_n 0, 1) := dg_at dLg_20 3 (1102, .aload_n 0, 1) rfl
theorem dL_law_1103 : decode cL_law 1103 = .ok (.iload_n 3, 1) := dg_at dLg_20 4 (1103, .iload_n 3, 1) rfl
theorem dL_law_1104 : decode cL_law 1104 = .ok (.iconst 1, 1) := dg_at dLg_20 5 (1104, .iconst 1, 1) rfl
theorem dL_law_1105 : decode cL_law 1105 = .ok (.iadd, 1) := dg_at dLg_20 6 (1105, .iadd, 1) rfl
theorem dL_law_1106 : decode cL_law 1106 = .ok (.iaload, 1) := dg_at dLg_20 7 (1106, .iaload, 1) rfl
theorem dL_law_1107 : decode cL_law 1107 = .ok (.aload_n 0, 1) := dg_at dLg_20 8 (1107, .aload_n 0, 1) rfl
theorem dL_law_1108 : decode cL_law 1108 = .ok (.iload_n 3, 1) := dg_at dLg_20 9 (1108, .iload_n 3, 1) rfl
theorem dL_law_1109 : decode cL_law 1109 = .ok (.iconst 2, 1) := dg_at dLg_20 10 (1109, .iconst 2, 1) rfl
theorem dL_law_1110 : decode cL_law 1110 = .ok (.iadd, 1) := dg_at dLg_20 11 (1110, .iadd, 1) rfl
theorem dL_law_1111 : decode cL_law 1111 = .ok (.iaload, 1) := dg_at dLg_20 12 (1111, .iaload, 1) rfl
theorem dL_law_1112 : decode cL_law 1112 = .ok (.aload_n 0, 1) := dg_at dLg_20 13 (1112, .aload_n 0, 1) rfl
theorem dL_law_1113 : decode cL_law 1113 = .ok (.iload_n 3, 1) := dg_at dLg_20 14 (1113, .iload_n 3, 1) rfl
theorem dL_law_1114 : decode cL_law 1114 = .ok (.iconst 3, 1) := dg_at dLg_20 15 (1114, .iconst 3, 1) rfl
theorem dL_law_1115 : decode cL_law 1115 = .ok (.iadd, 1) := dg_at dLg_20 16 (1115, .iadd, 1) rfl
theorem dL_law_1116 : decode cL_law 1116 = .ok (.iaload, 1) := dg_at dLg_20 17 (1116, .iaload, 1) rfl
theorem dL_law_1117 : decode cL_law 1117 = .ok (.aload_n 0, 1) := dg_at dLg_20 18 (1117, .aload_n 0, 1) rfl
theorem dL_law_1118 : decode cL_law 1118 = .ok (.iload_n 3, 1) := dg_at dLg_20 19 (1118, .iload_n 3, 1) rfl
theorem dL_law_1119 : decode cL_law 1119 = .ok (.iconst 4, 1) := dg_at dLg_20 20 (1119, .iconst 4, 1) rfl
theorem dL_law_1120 : decode cL_law 1120 = .ok (.iadd, 1) := dg_at dLg_20 21 (1120, .iadd, 1) rfl
theorem dL_law_1121 : decode cL_law 1121 = .ok (.iaload, 1) := dg_at dLg_20 22 (1121, .iaload, 1) rfl
theorem dL_law_1122 : decode cL_law 1122 = .ok (.i2l, 1) := dg_at dLg_20 23 (1122, .i2l, 1) rfl
theorem dL_law_1123 : decode cL_law 1123 = .ok (.bipush 32, 2) := dg_at dLg_20 24 (1123, .bipush 32, 2) rfl
theorem dL_law_1125 : decode cL_law 1125 = .ok (.lshl, 1) := dg_at dLg_20 25 (1125, .lshl, 1) rfl
theorem dL_law_1126 : decode cL_law 1126 = .ok (.aload_n 0, 1) := dg_at dLg_20 26 (1126, .aload_n 0, 1) rfl
theorem dL_law_1127 : decode cL_law 1127 = .ok (.iload_n 3, 1) := dg_at dLg_20 27 (1127, .iload_n 3, 1) rfl
theorem dL_law_1128 : decode cL_law 1128 = .ok (.iconst 5, 1) := dg_at dLg_20 28 (1128, .iconst 5, 1) rfl
theorem dL_law_1129 : decode cL_law 1129 = .ok (.iadd, 1) := dg_at dLg_20 29 (1129, .iadd, 1) rfl
theorem dL_law_1130 : decode cL_law 1130 = .ok (.iaload, 1) := dg_at dLg_20 30 (1130, .iaload, 1) rfl
theorem dL_law_1131 : decode cL_law 1131 = .ok (.i2l, 1) := dg_at dLg_20 31 (1131, .i2l, 1) rfl
theorem dL_law_1132 : decode cL_law 1132 = .ok (.ldc2_w 59, 3) := dg_at dLg_20 32 (1132, .ldc2_w 59, 3) rfl
theorem dL_law_1135 : decode cL_law 1135 = .ok (.land, 1) := dg_at dLg_20 33 (1135, .land, 1) rfl
theorem dL_law_1136 : decode cL_law 1136 = .ok (.lor, 1) := dg_at dLg_20 34 (1136, .lor, 1) rfl
theorem dL_law_1137 : decode cL_law 1137 = .ok (.aload_n 0, 1) := dg_at dLg_20 35 (1137, .aload_n 0, 1) rfl
theorem dL_law_1138 : decode cL_law 1138 = .ok (.iload_n 3, 1) := dg_at dLg_20 36 (1138, .iload_n 3, 1) rfl
theorem dL_law_1139 : decode cL_law 1139 = .ok (.bipush 6, 2) := dg_at dLg_20 37 (1139, .bipush 6, 2) rfl
theorem dL_law_1141 : decode cL_law 1141 = .ok (.iadd, 1) := dg_at dLg_20 38 (1141, .iadd, 1) rfl
theorem dL_law_1142 : decode cL_law 1142 = .ok (.iaload, 1) := dg_at dLg_20 39 (1142, .iaload, 1) rfl
theorem dLg_21 : ([(1143, .i2l, 1), (1144, .bipush 32, 2), (1146, .lshl, 1), (1147, .aload_n 0, 1), (1148, .iload_n 3, 1), (1149, .bipush 7, 2), (1151, .iadd, 1), (1152, .iaload, 1), (1153, .i2l, 1), (1154, .ldc2_w 59, 3), (1157, .land, 1), (1158, .lor, 1), (1159, .aload_n 0, 1), (1160, .iload_n 3, 1), (1161, .bipush 8, 2), (1163, .iadd, 1), (1164, .iaload, 1), (1165, .i2l, 1), (1166, .bipush 32, 2), (1168, .lshl, 1), (1169, .aload_n 0, 1), (1170, .iload_n 3, 1), (1171, .bipush 9, 2), (1173, .iadd, 1), (1174, .iaload, 1), (1175, .i2l, 1), (1176, .ldc2_w 59, 3), (1179, .land, 1), (1180, .lor, 1), (1181, .aload_n 0, 1), (1182, .iload_n 3, 1), (1183, .bipush 10, 2), (1185, .iadd, 1), (1186, .iaload, 1), (1187, .invokevirtual 121, 3), (1190, .pop2, 1), (1191, .goto 39, 3), (1194, .aload_n 1, 1), (1195, .aload_n 0, 1), (1196, .iload_n 3, 1)] : List (Nat × Jvm.ClassFile.Instr × Nat)).all (fun q => decide (decode cL_law q.1 = .ok q.2)) = true := by decide +kernel
theorem dL_law_1143 : decode cL_law 1143 = .ok (.i2l, 1) := dg_at dLg_21 0 (1143, .i2l, 1) rfl
theorem dL_law_1144 : decode cL_law 1144 = .ok (.bipush 32, 2) := dg_at dLg_21 1 (1144, .bipush 32, 2) rfl
theorem dL_law_1146 : decode cL_law 1146 = .ok (.lshl, 1) := dg_at dLg_21 2 (1146, .lshl, 1) rfl
theorem dL_law_1147 : decode cL_law 1147 = .ok (.aload_n 0, 1) := dg_at dLg_21 3 (1147, .aload_n 0, 1) rfl
theorem dL_law_1148 : decode cL_law 1148 = .ok (.iload_n 3, 1) := dg_at dLg_21 4 (1148, .iload_n 3, 1) rfl
theorem dL_law_1149 : decode cL_law 1149 = .ok (.bipush 7, 2) := dg_at dLg_21 5 (1149, .bipush 7, 2) rfl
theorem dL_law_1151 : decode cL_law 1151 = .ok (.iadd, 1) := dg_at dLg_21 6 (1151, .iadd, 1) rfl
theorem dL_law_1152 : decode cL_law 1152 = .ok (.iaload, 1) := dg_at dLg_21 7 (1152, .iaload, 1) rfl
theorem dL_law_1153 : decode cL_law 1153 = .ok (.i2l, 1) := dg_at dLg_21 8 (1153, .i2l, 1) rfl
theorem dL_law_1154 : decode cL_law 1154 = .ok (.ldc2_w 59, 3) := dg_at dLg_21 9 (1154, .ldc2_w 59, 3) rfl
theorem dL_law_1157 : decode cL_law 1157 = .ok (.land, 1) := dg_at dLg_21 10 (1157, .land, 1) rfl
theorem dL_law_1158 : decode cL_law 1158 = .ok (.lor, 1) := dg_at dLg_21 11 (1158, .lor, 1) rfl
theorem dL_law_1159 : decode cL_law 1159 = .ok (.aload_n 0, 1) := dg_at dLg_21 12 (1159, .aload_n 0, 1) rfl
theorem dL_law_1160 : decode cL_law 1160 = .ok (.iload_n 3, 1) := dg_at dLg_21 13 (1160, .iload_n 3, 1) rfl
theorem dL_law_1161 : decode cL_law 1161 = .ok (.bipush 8, 2) := dg_at dLg_21 14 (1161, .bipush 8, 2) rfl
theorem dL_law_1163 : decode cL_law 1163 = .ok (.iadd, 1) := dg_at dLg_21 15 (1163, .iadd, 1) rfl
theorem dL_law_1164 : decode cL_law 1164 = .ok (.iaload, 1) := dg_at dLg_21 16 (1164, .iaload, 1) rfl
theorem dL_law_1165 : decode cL_law 1165 = .ok (.i2l, 1) := dg_at dLg_21 17 (1165, .i2l, 1) rfl
theorem dL_law_1166 : decode cL_law 1166 = .ok (.bipush 32, 2) := dg_at dLg_21 18 (1166, .bipush 32, 2) rfl
theorem dL_law_1168 : decode cL_law 1168 = .ok (.lshl, 1) := dg_at dLg_21 19 (1168, .lshl, 1) rfl
theorem dL_law_1169 : decode cL_law 1169 = .ok (.aload_n 0, 1) := dg_at dLg_21 20 (1169, .aload_n 0, 1) rfl
theorem dL_law_1170 : decode cL_law 1170 = .ok (.iload_n 3, 1) := dg_at dLg_21 21 (1170, .iload_n 3, 1) rfl
theorem dL_law_1171 : decode cL_law 1171 = .ok (.bipush 9, 2) := dg_at dLg_21 22 (1171, .bipush 9, 2) rfl
theorem dL_law_1173 : decode cL_law 1173 = .ok (.iadd, 1) := dg_at dLg_21 23 (1173, .iadd, 1) rfl
theorem dL_law_1174 : decode cL_law 1174 = .ok (.iaload, 1) := dg_at dLg_21 24 (1174, .iaload, 1) rfl
theorem dL_law_1175 : decode cL_law 1175 = .ok (.i2l, 1) := dg_at dLg_21 25 (1175, .i2l, 1) rfl
theorem dL_law_1176 : decode cL_law 1176 = .ok (.ldc2_w 59, 3) := dg_at dLg_21 26 (1176, .ldc2_w 59, 3) rfl
theorem dL_law_1179 : decode cL_law 1179 = .ok (.land, 1) := dg_at dLg_21 27 (1179, .land, 1) rfl
theorem dL_law_1180 : decode cL_law 1180 = .ok (.lor, 1) := dg_at dLg_21 28 (1180, .lor, 1) rfl
theorem dL_law_1181 : decode cL_law 1181 = .ok (.aload_n 0, 1) := dg_at dLg_21 29 (1181, .aload_n 0, 1) rfl
theorem dL_law_1182 : decode cL_law 1182 = .ok (.iload_n 3, 1) := dg_at dLg_21 30 (1182, .iload_n 3, 1) rfl
theorem dL_law_1183 : decode cL_law 1183 = .ok (.bipush 10, 2) := dg_at dLg_21 31 (1183, .bipush 10, 2) rfl
theorem dL_law_1185 : decode cL_law 1185 = .ok (.iadd, 1) := dg_at dLg_21 32 (1185, .iadd, 1) rfl
theorem dL_law_1186 : decode cL_law 1186 = .ok (.iaload, 1) := dg_at dLg_21 33 (1186, .iaload, 1) rfl
theorem dL_law_1187 : decode cL_law 1187 = .ok (.invokevirtual 121, 3) := dg_at dLg_21 34 (1187, .invokevirtual 121, 3) rfl
theorem dL_law_1190 : decode cL_law 1190 = .ok (.pop2, 1) := dg_at dLg_21 35 (1190, .pop2, 1) rfl
theorem dL_law_1191 : decode cL_law 1191 = .ok (.goto 39, 3) := dg_at dLg_21 36 (1191, .goto 39, 3) rfl
theorem dL_law_1194 : decode cL_law 1194 = .ok (.aload_n 1, 1) := dg_at dLg_21 37 (1194, .aload_n 1, 1) rfl
theorem dL_law_1195 : decode cL_law 1195 = .ok (.aload_n 0, 1) := dg_at dLg_21 38 (1195, .aload_n 0, 1) rfl
theorem dL_law_1196 : decode cL_law 1196 = .ok (.iload_n 3, 1) := dg_at dLg_21 39 (1196, .iload_n 3, 1) rfl
theorem dLg_22 : ([(1197, .iconst 1, 1), (1198, .iadd, 1), (1199, .iaload, 1), (1200, .invokevirtual 122, 3), (1203, .pop, 1), (1204, .aload_n 2, 1), (1205, .aload_n 0, 1), (1206, .iload_n 3, 1), (1207, .iconst 1, 1), (1208, .iadd, 1), (1209, .iaload, 1), (1210, .invokevirtual 125, 3), (1213, .pop, 1), (1214, .goto 16, 3), (1217, .aload_n 1, 1), (1218, .invokevirtual 126, 3), (1221, .pop, 1), (1222, .aload_n 2, 1), (1223, .invokevirtual 129, 3), (1226, .pop, 1), (1227, .goto 3, 3), (1230, .iinc 3 11, 3), (1233, .goto (-1215), 3), (1236, .iconst 1, 1), (1237, .ireturn, 1)] : List (Nat × Jvm.ClassFile.Instr × Nat)).all (fun q => decide (decode cL_law q.1 = .ok q.2)) = true := by decide +kernel
theorem dL_law_1197 : decode cL_law 1197 = .ok (.iconst 1, 1) := dg_at dLg_22 0 (1197, .iconst 1, 1) rfl
theorem dL_law_1198 : decode cL_law 1198 = .ok (.iadd, 1) := dg_at dLg_22 1 (1198, .iadd, 1) rfl
theorem dL_law_1199 : decode cL_law 1199 = .ok (.iaload, 1) := dg_at dLg_22 2 (1199, .iaload, 1) rfl
theorem dL_law_1200 : decode cL_law 1200 = .ok (.invokevirtual 122, 3) := dg_at dLg_22 3 (1200, .invokevirtual 122, 3) rfl
theorem dL_law_1203 : decode cL_law 1203 = .ok (.pop, 1) := dg_at dLg_22 4 (1203, .pop, 1) rfl
theorem dL_law_1204 : decode cL_law 1204 = .ok (.aload_n 2, 1) := dg_at dLg_22 5 (1204, .aload_n 2, 1) rfl
theorem dL_law_1205 : decode cL_law 1205 = .ok (.aload_n 0, 1) := dg_at dLg_22 6 (1205, .aload_n 0, 1) rfl
theorem dL_law_1206 : decode cL_law 1206 = .ok (.iload_n 3, 1) := dg_at dLg_22 7 (1206, .iload_n 3, 1) rfl
theorem dL_law_1207 : decode cL_law 1207 = .ok (.iconst 1, 1) := dg_at dLg_22 8 (1207, .iconst 1, 1) rfl
theorem dL_law_1208 : decode cL_law 1208 = .ok (.iadd, 1) := dg_at dLg_22 9 (1208, .iadd, 1) rfl
theorem dL_law_1209 : decode cL_law 1209 = .ok (.iaload, 1) := dg_at dLg_22 10 (1209, .iaload, 1) rfl
theorem dL_law_1210 : decode cL_law 1210 = .ok (.invokevirtual 125, 3) := dg_at dLg_22 11 (1210, .invokevirtual 125, 3) rfl
theorem dL_law_1213 : decode cL_law 1213 = .ok (.pop, 1) := dg_at dLg_22 12 (1213, .pop, 1) rfl
theorem dL_law_1214 : decode cL_law 1214 = .ok (.goto 16, 3) := dg_at dLg_22 13 (1214, .goto 16, 3) rfl
theorem dL_law_1217 : decode cL_law 1217 = .ok (.aload_n 1, 1) := dg_at dLg_22 14 (1217, .aload_n 1, 1) rfl
theorem dL_law_1218 : decode cL_law 1218 = .ok (.invokevirtual 126, 3) := dg_at dLg_22 15 (1218, .invokevirtual 126, 3) rfl
theorem dL_law_1221 : decode cL_law 1221 = .ok (.pop, 1) := dg_at dLg_22 16 (1221, .pop, 1) rfl
theorem dL_law_1222 : decode cL_law 1222 = .ok (.aload_n 2, 1) := dg_at dLg_22 17 (1222, .aload_n 2, 1) rfl
theorem dL_law_1223 : decode cL_law 1223 = .ok (.invokevirtual 129, 3) := dg_at dLg_22 18 (1223, .invokevirtual 129, 3) rfl
theorem dL_law_1226 : decode cL_law 1226 = .ok (.pop, 1) := dg_at dLg_22 19 (1226, .pop, 1) rfl
theorem dL_law_1227 : decode cL_law 1227 = .ok (.goto 3, 3) := dg_at dLg_22 20 (1227, .goto 3, 3) rfl
theorem dL_law_1230 : decode cL_law 1230 = .ok (.iinc 3 11, 3) := dg_at dLg_22 21 (1230, .iinc 3 11, 3) rfl
theorem dL_law_1233 : decode cL_law 1233 = .ok (.goto (-1215), 3) := dg_at dLg_22 22 (1233, .goto (-1215), 3) rfl
theorem dL_law_1236 : decode cL_law 1236 = .ok (.iconst 1, 1) := dg_at dLg_22 23 (1236, .iconst 1, 1) rfl
theorem dL_law_1237 : decode cL_law 1237 = .ok (.ireturn, 1) := dg_at dLg_22 24 (1237, .ireturn, 1) rfl
