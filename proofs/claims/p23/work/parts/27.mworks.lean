theorem dX9_works_0 : decode cX9_works 0 = .ok (.iconst 0, 1) := by decide +kernel
theorem dX9_works_1 : decode cX9_works 1 = .ok (.istore 4, 2) := by decide +kernel
theorem dX9_works_3 : decode cX9_works 3 = .ok (.iconst 0, 1) := by decide +kernel
theorem dX9_works_4 : decode cX9_works 4 = .ok (.istore 5, 2) := by decide +kernel
theorem dX9_works_6 : decode cX9_works 6 = .ok (.iload 5, 2) := by decide +kernel
theorem dX9_works_8 : decode cX9_works 8 = .ok (.aload_n 0, 1) := by decide +kernel
theorem dX9_works_9 : decode cX9_works 9 = .ok (.getfield 49, 3) := by decide +kernel
theorem dX9_works_12 : decode cX9_works 12 = .ok (.iload_n 1, 1) := by decide +kernel
theorem dX9_works_13 : decode cX9_works 13 = .ok (.iaload, 1) := by decide +kernel
theorem dX9_works_14 : decode cX9_works 14 = .ok (.if_icmp .ge 258, 3) := by decide +kernel
theorem dX9_works_272 : decode cX9_works 272 = .ok (.aload_n 0, 1) := by decide +kernel
theorem dX9_works_273 : decode cX9_works 273 = .ok (.getfield 68, 3) := by decide +kernel
theorem dX9_works_276 : decode cX9_works 276 = .ok (.iconst 0, 1) := by decide +kernel
theorem dX9_works_277 : decode cX9_works 277 = .ok (.laload, 1) := by decide +kernel
theorem dX9_works_278 : decode cX9_works 278 = .ok (.lreturn, 1) := by decide +kernel
theorem dX9_works_17 : decode cX9_works 17 = .ok (.sipush 250, 3) := by decide +kernel
theorem dX9_works_20 : decode cX9_works 20 = .ok (.iload_n 1, 1) := by decide +kernel
theorem dX9_works_21 : decode cX9_works 21 = .ok (.imul, 1) := by decide +kernel
theorem dX9_works_22 : decode cX9_works 22 = .ok (.iload 5, 2) := by decide +kernel
theorem dX9_works_24 : decode cX9_works 24 = .ok (.iadd, 1) := by decide +kernel
theorem dX9_works_25 : decode cX9_works 25 = .ok (.istore 6, 2) := by decide +kernel
theorem dX9_works_27 : decode cX9_works 27 = .ok (.aload_n 0, 1) := by decide +kernel
theorem dX9_works_28 : decode cX9_works 28 = .ok (.getfield 52, 3) := by decide +kernel
theorem dX9_works_31 : decode cX9_works 31 = .ok (.iload 6, 2) := by decide +kernel
theorem dX9_works_33 : decode cX9_works 33 = .ok (.iaload, 1) := by decide +kernel
theorem dX9_works_34 : decode cX9_works 34 = .ok (.istore 7, 2) := by decide +kernel
theorem dX9_works_36 : decode cX9_works 36 = .ok (.iload 7, 2) := by decide +kernel
theorem dX9_works_38 : decode cX9_works 38 = .ok (.iconst 1, 1) := by decide +kernel
theorem dX9_works_39 : decode cX9_works 39 = .ok (.if_icmp .lt 45, 3) := by decide +kernel
theorem dX9_works_84 : decode cX9_works 84 = .ok (.iload 7, 2) := by decide +kernel
theorem dX9_works_86 : decode cX9_works 86 = .ok (.iconst 5, 1) := by decide +kernel
theorem dX9_works_87 : decode cX9_works 87 = .ok (.if_icmp .ne 39, 3) := by decide +kernel
theorem dX9_works_126 : decode cX9_works 126 = .ok (.iload 7, 2) := by decide +kernel
theorem dX9_works_128 : decode cX9_works 128 = .ok (.ifCond .ne 21, 3) := by decide +kernel
theorem dX9_works_149 : decode cX9_works 149 = .ok (.iload 7, 2) := by decide +kernel
theorem dX9_works_151 : decode cX9_works 151 = .ok (.bipush 6, 2) := by decide +kernel
theorem dX9_works_153 : decode cX9_works 153 = .ok (.if_icmp .ne 25, 3) := by decide +kernel
theorem dX9_works_178 : decode cX9_works 178 = .ok (.iload 7, 2) := by decide +kernel
theorem dX9_works_180 : decode cX9_works 180 = .ok (.bipush 7, 2) := by decide +kernel
theorem dX9_works_182 : decode cX9_works 182 = .ok (.if_icmp .eq 10, 3) := by decide +kernel
theorem dX9_works_185 : decode cX9_works 185 = .ok (.iload 7, 2) := by decide +kernel
theorem dX9_works_187 : decode cX9_works 187 = .ok (.bipush 8, 2) := by decide +kernel
theorem dX9_works_189 : decode cX9_works 189 = .ok (.if_icmp .ne 38, 3) := by decide +kernel
theorem dX9_works_227 : decode cX9_works 227 = .ok (.aload_n 0, 1) := by decide +kernel
theorem dX9_works_228 : decode cX9_works 228 = .ok (.getfield 68, 3) := by decide +kernel
theorem dX9_works_231 : decode cX9_works 231 = .ok (.iload 4, 2) := by decide +kernel
theorem dX9_works_233 : decode cX9_works 233 = .ok (.aload_n 0, 1) := by decide +kernel
theorem dX9_works_234 : decode cX9_works 234 = .ok (.iload 7, 2) := by decide +kernel
theorem dX9_works_236 : decode cX9_works 236 = .ok (.aload_n 0, 1) := by decide +kernel
theorem dX9_works_237 : decode cX9_works 237 = .ok (.getfield 55, 3) := by decide +kernel
theorem dX9_works_240 : decode cX9_works 240 = .ok (.iload 6, 2) := by decide +kernel
theorem dX9_works_242 : decode cX9_works 242 = .ok (.iaload, 1) := by decide +kernel
theorem dX9_works_243 : decode cX9_works 243 = .ok (.aload_n 0, 1) := by decide +kernel
theorem dX9_works_244 : decode cX9_works 244 = .ok (.getfield 58, 3) := by decide +kernel
theorem dX9_works_247 : decode cX9_works 247 = .ok (.iload 6, 2) := by decide +kernel
theorem dX9_works_249 : decode cX9_works 249 = .ok (.iaload, 1) := by decide +kernel
theorem dX9_works_250 : decode cX9_works 250 = .ok (.aload_n 0, 1) := by decide +kernel
theorem dX9_works_251 : decode cX9_works 251 = .ok (.getfield 61, 3) := by decide +kernel
theorem dX9_works_254 : decode cX9_works 254 = .ok (.iload 6, 2) := by decide +kernel
theorem dX9_works_256 : decode cX9_works 256 = .ok (.iaload, 1) := by decide +kernel
theorem dX9_works_257 : decode cX9_works 257 = .ok (.iload_n 2, 1) := by decide +kernel
theorem dX9_works_258 : decode cX9_works 258 = .ok (.iload_n 3, 1) := by decide +kernel
set_option maxRecDepth 20000 in
theorem ggX9_works_X9_windowed : GoodIn wsX9_works wsX9_windowed := goodIn_r _ [36, 21, 22, 23, 4, 24, 25, 26, 11, 27, 28, 29, 30, 31, 32, 37, 38, 39, 40, 41, 42, 43, 44, 45, 46, 47, 48, 49, 50, 51, 52, 53, 54, 55, 56, 57, 58, 59, 60, 61, 62, 63, 64, 65, 66, 67, 68, 69, 70, 71, 72, 73, 74, 75, 76, 77, 78, 79, 80, 81, 82, 83, 84, 85, 86, 87] (by decide +kernel) (by decide +kernel)
set_option maxRecDepth 20000 in
theorem gX9_works_X9_windowed : GoodIn wsX9_works (wsV RX9 289 RX9 yX9_windowed wsX9_windowed) := goodIn_app (goodIn_of _ (by decide +kernel)) ggX9_works_X9_windowed
theorem dX9_works_259 : decode cX9_works 259 = .ok (.invokevirtual 289, 3) := by decide +kernel
theorem dX9_works_262 : decode cX9_works 262 = .ok (.lastore, 1) := by decide +kernel
theorem dX9_works_263 : decode cX9_works 263 = .ok (.iinc 4 1, 3) := by decide +kernel
theorem dX9_works_266 : decode cX9_works 266 = .ok (.iinc 5 1, 3) := by decide +kernel
theorem dX9_works_269 : decode cX9_works 269 = .ok (.goto (-263), 3) := by decide +kernel
theorem dX9_works_131 : decode cX9_works 131 = .ok (.aload_n 0, 1) := by decide +kernel
theorem dX9_works_132 : decode cX9_works 132 = .ok (.getfield 68, 3) := by decide +kernel
theorem dX9_works_135 : decode cX9_works 135 = .ok (.iload 4, 2) := by decide +kernel
theorem dX9_works_137 : decode cX9_works 137 = .ok (.aload_n 0, 1) := by decide +kernel
theorem dX9_works_138 : decode cX9_works 138 = .ok (.getfield 55, 3) := by decide +kernel
theorem dX9_works_141 : decode cX9_works 141 = .ok (.iload 6, 2) := by decide +kernel
theorem dX9_works_143 : decode cX9_works 143 = .ok (.iaload, 1) := by decide +kernel
theorem dX9_works_144 : decode cX9_works 144 = .ok (.i2l, 1) := by decide +kernel
theorem dX9_works_145 : decode cX9_works 145 = .ok (.lastore, 1) := by decide +kernel
theorem dX9_works_146 : decode cX9_works 146 = .ok (.goto 117, 3) := by decide +kernel
theorem dX9_works_42 : decode cX9_works 42 = .ok (.iload 7, 2) := by decide +kernel
theorem dX9_works_44 : decode cX9_works 44 = .ok (.iconst 4, 1) := by decide +kernel
theorem dX9_works_45 : decode cX9_works 45 = .ok (.if_icmp .gt 39, 3) := by decide +kernel
theorem dX9_works_192 : decode cX9_works 192 = .ok (.aload_n 0, 1) := by decide +kernel
theorem dX9_works_193 : decode cX9_works 193 = .ok (.getfield 68, 3) := by decide +kernel
theorem dX9_works_196 : decode cX9_works 196 = .ok (.iload 4, 2) := by decide +kernel
theorem dX9_works_198 : decode cX9_works 198 = .ok (.aload_n 0, 1) := by decide +kernel
theorem dX9_works_199 : decode cX9_works 199 = .ok (.aload_n 0, 1) := by decide +kernel
theorem dX9_works_200 : decode cX9_works 200 = .ok (.getfield 55, 3) := by decide +kernel
theorem dX9_works_203 : decode cX9_works 203 = .ok (.iload 6, 2) := by decide +kernel
theorem dX9_works_205 : decode cX9_works 205 = .ok (.iaload, 1) := by decide +kernel
theorem dX9_works_206 : decode cX9_works 206 = .ok (.iload_n 2, 1) := by decide +kernel
theorem dX9_works_207 : decode cX9_works 207 = .ok (.iload_n 3, 1) := by decide +kernel
theorem dX9_works_208 : decode cX9_works 208 = .ok (.iload 7, 2) := by decide +kernel
theorem dX9_works_210 : decode cX9_works 210 = .ok (.bipush 8, 2) := by decide +kernel
theorem dX9_works_212 : decode cX9_works 212 = .ok (.if_icmp .ne 7, 3) := by decide +kernel
theorem dX9_works_219 : decode cX9_works 219 = .ok (.iconst 0, 1) := by decide +kernel
set_option maxRecDepth 20000 in
theorem ggX9_works_X9_latest : GoodIn wsX9_works wsX9_latest := goodIn_r _ [20, 21, 22, 4, 23, 24, 25, 26, 11, 27, 28, 29, 30, 31, 32, 37, 38, 39, 40, 41, 42, 43, 44, 45, 46, 47, 48, 49, 50, 51, 52, 53, 54, 55, 56, 57, 58, 59, 60, 61, 62, 63, 64, 65, 66, 67, 68, 69, 70, 71, 72, 73, 74, 75, 76, 77, 78, 79, 80, 81, 82, 83, 84, 85, 86, 87] (by decide +kernel) (by decide +kernel)
set_option maxRecDepth 20000 in
theorem gX9_works_X9_latest : GoodIn wsX9_works (wsV RX9 285 RX9 yX9_latest wsX9_latest) := goodIn_app (goodIn_of _ (by decide +kernel)) ggX9_works_X9_latest
theorem dX9_works_220 : decode cX9_works 220 = .ok (.invokevirtual 285, 3) := by decide +kernel
theorem dX9_works_223 : decode cX9_works 223 = .ok (.lastore, 1) := by decide +kernel
theorem dX9_works_224 : decode cX9_works 224 = .ok (.goto 39, 3) := by decide +kernel
theorem dX9_works_215 : decode cX9_works 215 = .ok (.iconst 1, 1) := by decide +kernel
theorem dX9_works_216 : decode cX9_works 216 = .ok (.goto 4, 3) := by decide +kernel
theorem dX9_works_156 : decode cX9_works 156 = .ok (.aload_n 0, 1) := by decide +kernel
theorem dX9_works_157 : decode cX9_works 157 = .ok (.getfield 68, 3) := by decide +kernel
theorem dX9_works_160 : decode cX9_works 160 = .ok (.iload 4, 2) := by decide +kernel
theorem dX9_works_162 : decode cX9_works 162 = .ok (.aload_n 0, 1) := by decide +kernel
theorem dX9_works_163 : decode cX9_works 163 = .ok (.getfield 64, 3) := by decide +kernel
theorem dX9_works_166 : decode cX9_works 166 = .ok (.aload_n 0, 1) := by decide +kernel
theorem dX9_works_167 : decode cX9_works 167 = .ok (.getfield 55, 3) := by decide +kernel
theorem dX9_works_170 : decode cX9_works 170 = .ok (.iload 6, 2) := by decide +kernel
theorem dX9_works_172 : decode cX9_works 172 = .ok (.iaload, 1) := by decide +kernel
theorem dX9_works_173 : decode cX9_works 173 = .ok (.laload, 1) := by decide +kernel
theorem dX9_works_174 : decode cX9_works 174 = .ok (.lastore, 1) := by decide +kernel
theorem dX9_works_175 : decode cX9_works 175 = .ok (.goto 88, 3) := by decide +kernel
theorem dX9_works_90 : decode cX9_works 90 = .ok (.aload_n 0, 1) := by decide +kernel
theorem dX9_works_91 : decode cX9_works 91 = .ok (.getfield 68, 3) := by decide +kernel
theorem dX9_works_94 : decode cX9_works 94 = .ok (.iload 4, 2) := by decide +kernel
theorem dX9_works_96 : decode cX9_works 96 = .ok (.iconst 1, 1) := by decide +kernel
theorem dX9_works_97 : decode cX9_works 97 = .ok (.isub, 1) := by decide +kernel
theorem dX9_works_98 : decode cX9_works 98 = .ok (.laload, 1) := by decide +kernel
theorem dX9_works_99 : decode cX9_works 99 = .ok (.ldc2_w 274, 3) := by decide +kernel
theorem dX9_works_102 : decode cX9_works 102 = .ok (.lcmp, 1) := by decide +kernel
theorem dX9_works_103 : decode cX9_works 103 = .ok (.ifCond .ne 163, 3) := by decide +kernel
theorem dX9_works_106 : decode cX9_works 106 = .ok (.aload_n 0, 1) := by decide +kernel
theorem dX9_works_107 : decode cX9_works 107 = .ok (.getfield 68, 3) := by decide +kernel
theorem dX9_works_110 : decode cX9_works 110 = .ok (.iload 4, 2) := by decide +kernel
theorem dX9_works_112 : decode cX9_works 112 = .ok (.iconst 1, 1) := by decide +kernel
theorem dX9_works_113 : decode cX9_works 113 = .ok (.isub, 1) := by decide +kernel
theorem dX9_works_114 : decode cX9_works 114 = .ok (.aload_n 0, 1) := by decide +kernel
theorem dX9_works_115 : decode cX9_works 115 = .ok (.getfield 55, 3) := by decide +kernel
theorem dX9_works_118 : decode cX9_works 118 = .ok (.iload 6, 2) := by decide +kernel
theorem dX9_works_120 : decode cX9_works 120 = .ok (.iaload, 1) := by decide +kernel
theorem dX9_works_121 : decode cX9_works 121 = .ok (.i2l, 1) := by decide +kernel
theorem dX9_works_122 : decode cX9_works 122 = .ok (.lastore, 1) := by decide +kernel
theorem dX9_works_123 : decode cX9_works 123 = .ok (.goto 143, 3) := by decide +kernel
theorem dX9_works_48 : decode cX9_works 48 = .ok (.iinc 4 (-1), 3) := by decide +kernel
theorem dX9_works_51 : decode cX9_works 51 = .ok (.aload_n 0, 1) := by decide +kernel
theorem dX9_works_52 : decode cX9_works 52 = .ok (.getfield 68, 3) := by decide +kernel
theorem dX9_works_55 : decode cX9_works 55 = .ok (.iload 4, 2) := by decide +kernel
theorem dX9_works_57 : decode cX9_works 57 = .ok (.iconst 1, 1) := by decide +kernel
theorem dX9_works_58 : decode cX9_works 58 = .ok (.isub, 1) := by decide +kernel
theorem dX9_works_59 : decode cX9_works 59 = .ok (.iload 7, 2) := by decide +kernel
theorem dX9_works_61 : decode cX9_works 61 = .ok (.aload_n 0, 1) := by decide +kernel
theorem dX9_works_62 : decode cX9_works 62 = .ok (.getfield 68, 3) := by decide +kernel
theorem dX9_works_65 : decode cX9_works 65 = .ok (.iload 4, 2) := by decide +kernel
theorem dX9_works_67 : decode cX9_works 67 = .ok (.iconst 1, 1) := by decide +kernel
theorem dX9_works_68 : decode cX9_works 68 = .ok (.isub, 1) := by decide +kernel
theorem dX9_works_69 : decode cX9_works 69 = .ok (.laload, 1) := by decide +kernel
theorem dX9_works_70 : decode cX9_works 70 = .ok (.aload_n 0, 1) := by decide +kernel
theorem dX9_works_71 : decode cX9_works 71 = .ok (.getfield 68, 3) := by decide +kernel
theorem dX9_works_74 : decode cX9_works 74 = .ok (.iload 4, 2) := by decide +kernel
theorem dX9_works_76 : decode cX9_works 76 = .ok (.laload, 1) := by decide +kernel
set_option maxRecDepth 20000 in
theorem ggX9_works_X9_two : GoodIn wsX9_works wsX9_two := goodIn_r _ [12, 4, 13, 14, 15, 11, 16] (by decide +kernel) (by decide +kernel)
set_option maxRecDepth 20000 in
theorem gX9_works_X9_two : GoodIn wsX9_works (va_wsS RX9 281 yX9_two wsX9_two) := goodIn_app (goodIn_of _ (by decide +kernel)) ggX9_works_X9_two
theorem dX9_works_77 : decode cX9_works 77 = .ok (.invokestatic 281, 3) := by decide +kernel
theorem dX9_works_80 : decode cX9_works 80 = .ok (.lastore, 1) := by decide +kernel
theorem dX9_works_81 : decode cX9_works 81 = .ok (.goto 185, 3) := by decide +kernel
theorem dX9_valueOf_0 : decode cX9_valueOf 0 = .ok (.iconst 0, 1) := by decide +kernel
theorem dX9_valueOf_1 : decode cX9_valueOf 1 = .ok (.istore 5, 2) := by decide +kernel
theorem dX9_valueOf_3 : decode cX9_valueOf 3 = .ok (.iload 5, 2) := by decide +kernel
theorem dX9_valueOf_5 : decode cX9_valueOf 5 = .ok (.bipush 20, 2) := by decide +kernel
theorem dX9_valueOf_7 : decode cX9_valueOf 7 = .ok (.if_icmp .ge 39, 3) := by decide +kernel
theorem dX9_valueOf_46 : decode cX9_valueOf 46 = .ok (.iconst 0, 1) := by decide +kernel
theorem dX9_valueOf_47 : decode cX9_valueOf 47 = .ok (.istore 5, 2) := by decide +kernel
theorem dX9_valueOf_49 : decode cX9_valueOf 49 = .ok (.iload 5, 2) := by decide +kernel
theorem dX9_valueOf_51 : decode cX9_valueOf 51 = .ok (.iload_n 1, 1) := by decide +kernel
theorem dX9_valueOf_52 : decode cX9_valueOf 52 = .ok (.if_icmp .gt 25, 3) := by decide +kernel
theorem dX9_valueOf_77 : decode cX9_valueOf 77 = .ok (.aload_n 0, 1) := by decide +kernel
theorem dX9_valueOf_78 : decode cX9_valueOf 78 = .ok (.getfield 64, 3) := by decide +kernel
theorem dX9_valueOf_81 : decode cX9_valueOf 81 = .ok (.iload_n 1, 1) := by decide +kernel
theorem dX9_valueOf_82 : decode cX9_valueOf 82 = .ok (.laload, 1) := by decide +kernel
theorem dX9_valueOf_83 : decode cX9_valueOf 83 = .ok (.lreturn, 1) := by decide +kernel
theorem dX9_valueOf_55 : decode cX9_valueOf 55 = .ok (.aload_n 0, 1) := by decide +kernel
theorem dX9_valueOf_56 : decode cX9_valueOf 56 = .ok (.getfield 64, 3) := by decide +kernel
theorem dX9_valueOf_59 : decode cX9_valueOf 59 = .ok (.iload 5, 2) := by decide +kernel
theorem dX9_valueOf_61 : decode cX9_valueOf 61 = .ok (.aload_n 0, 1) := by decide +kernel
theorem dX9_valueOf_62 : decode cX9_valueOf 62 = .ok (.iload 5, 2) := by decide +kernel
theorem dX9_valueOf_64 : decode cX9_valueOf 64 = .ok (.iload_n 3, 1) := by decide +kernel
theorem dX9_valueOf_65 : decode cX9_valueOf 65 = .ok (.iload 4, 2) := by decide +kernel
set_option maxRecDepth 20000 in
theorem ggX9_valueOf_X9_works : GoodIn wsX9_valueOf wsX9_works := goodIn_r _ [13, 14, 15, 16, 17, 18, 2, 19, 20, 21, 22, 6, 23, 24, 25, 26, 27, 28, 29, 30, 31, 32, 33, 34, 35, 36, 37, 38, 39, 40, 1, 41, 42, 43, 44, 45, 46, 47, 48, 49, 50, 51, 52, 53, 54, 55, 56, 57, 58, 59, 60, 61, 62, 63, 64, 65, 66, 67, 68, 69, 70, 71, 72, 73, 74, 75, 76, 77, 78, 79, 80, 81, 82, 83, 84, 85, 86, 87, 88, 89, 90, 91, 92, 93, 94, 95, 96, 97] (by decide +kernel) (by decide +kernel)
set_option maxRecDepth 20000 in
theorem gX9_valueOf_X9_works : GoodIn wsX9_valueOf (wsV RX9 293 RX9 yX9_works wsX9_works) := goodIn_app (goodIn_of _ (by decide +kernel)) ggX9_valueOf_X9_works
theorem dX9_valueOf_67 : decode cX9_valueOf 67 = .ok (.invokevirtual 293, 3) := by decide +kernel
theorem dX9_valueOf_70 : decode cX9_valueOf 70 = .ok (.lastore, 1) := by decide +kernel
theorem dX9_valueOf_71 : decode cX9_valueOf 71 = .ok (.iinc 5 1, 3) := by decide +kernel
theorem dX9_valueOf_74 : decode cX9_valueOf 74 = .ok (.goto (-25), 3) := by decide +kernel
theorem dX9_valueOf_10 : decode cX9_valueOf 10 = .ok (.aload_n 0, 1) := by decide +kernel
theorem dX9_valueOf_11 : decode cX9_valueOf 11 = .ok (.getfield 71, 3) := by decide +kernel
theorem dX9_valueOf_14 : decode cX9_valueOf 14 = .ok (.iload 5, 2) := by decide +kernel
theorem dX9_valueOf_16 : decode cX9_valueOf 16 = .ok (.aload_n 0, 1) := by decide +kernel
theorem dX9_valueOf_17 : decode cX9_valueOf 17 = .ok (.iload 5, 2) := by decide +kernel
theorem dX9_valueOf_19 : decode cX9_valueOf 19 = .ok (.iload 4, 2) := by decide +kernel
set_option maxRecDepth 20000 in
theorem ggX9_valueOf_X9_last : GoodIn wsX9_valueOf wsX9_last := goodIn_r _ [7, 8, 9, 47, 48, 49, 50, 51, 52, 53, 54, 55, 56, 57, 58, 59, 60, 61, 62, 63, 64, 65, 66, 67, 68, 69, 70, 71, 72, 73, 74, 75, 76, 77, 78, 79, 80, 81, 82, 83, 84, 85, 86, 87, 88, 89, 90, 91, 92, 93, 94, 95, 96, 97] (by decide +kernel) (by decide +kernel)
set_option maxRecDepth 20000 in
theorem gX9_valueOf_X9_last : GoodIn wsX9_valueOf (wsV RX9 157 RX9 yX9_last wsX9_last) := goodIn_app (goodIn_of _ (by decide +kernel)) ggX9_valueOf_X9_last
theorem dX9_valueOf_21 : decode cX9_valueOf 21 = .ok (.invokevirtual 157, 3) := by decide +kernel
theorem dX9_valueOf_24 : decode cX9_valueOf 24 = .ok (.aload_n 0, 1) := by decide +kernel
theorem dX9_valueOf_25 : decode cX9_valueOf 25 = .ok (.iload_n 2, 1) := by decide +kernel
theorem dX9_valueOf_26 : decode cX9_valueOf 26 = .ok (.iload 4, 2) := by decide +kernel
theorem dX9_valueOf_28 : decode cX9_valueOf 28 = .ok (.invokevirtual 157, 3) := by decide +kernel
theorem dX9_valueOf_31 : decode cX9_valueOf 31 = .ok (.if_icmp .ne 7, 3) := by decide +kernel
theorem dX9_valueOf_38 : decode cX9_valueOf 38 = .ok (.iconst 0, 1) := by decide +kernel
theorem dX9_valueOf_39 : decode cX9_valueOf 39 = .ok (.bastore, 1) := by decide +kernel
theorem dX9_valueOf_40 : decode cX9_valueOf 40 = .ok (.iinc 5 1, 3) := by decide +kernel
theorem dX9_valueOf_43 : decode cX9_valueOf 43 = .ok (.goto (-40), 3) := by decide +kernel
theorem dX9_valueOf_34 : decode cX9_valueOf 34 = .ok (.iconst 1, 1) := by decide +kernel
theorem dX9_valueOf_35 : decode cX9_valueOf 35 = .ok (.goto 4, 3) := by decide +kernel
theorem dX9_value_0 : decode cX9_value 0 = .ok (.aload_n 0, 1) := by decide +kernel
theorem dX9_value_1 : decode cX9_value 1 = .ok (.iload_n 1, 1) := by decide +kernel
set_option maxRecDepth 20000 in
theorem ggX9_value_X9_isTrait : GoodIn wsX9_value wsX9_isTrait := goodIn_r _ [6, 7, 8, 9, 5, 10, 67, 68, 69, 70, 71, 72, 73, 74, 75, 76, 77, 78, 79, 80, 81, 82, 83, 84, 85, 86, 87, 88, 89, 90, 91, 92, 93, 94, 95, 96, 97, 98, 99, 100, 101, 102, 103, 104, 105, 106, 107, 108, 109, 110, 111, 112, 113, 114, 115, 116, 117] (by decide +kernel) (by decide +kernel)
set_option maxRecDepth 20000 in
theorem gX9_value_X9_isTrait : GoodIn wsX9_value (wsV RX9 297 RX9 yX9_isTrait wsX9_isTrait) := goodIn_app (goodIn_of _ (by decide +kernel)) ggX9_value_X9_isTrait
theorem dX9_value_2 : decode cX9_value 2 = .ok (.invokevirtual 297, 3) := by decide +kernel
theorem dX9_value_5 : decode cX9_value 5 = .ok (.ifCond .eq 37, 3) := by decide +kernel
theorem dX9_value_42 : decode cX9_value 42 = .ok (.ldc2_w 274, 3) := by decide +kernel
theorem dX9_value_45 : decode cX9_value 45 = .ok (.lreturn, 1) := by decide +kernel
theorem dX9_value_8 : decode cX9_value 8 = .ok (.iload_n 2, 1) := by decide +kernel
set_option maxRecDepth 20000 in
theorem ggX9_value_X9_isPerson : GoodIn wsX9_value wsX9_isPerson := goodIn_r _ [13, 14, 8, 9, 5, 10] (by decide +kernel) (by decide +kernel)
set_option maxRecDepth 20000 in
theorem gX9_value_X9_isPerson : GoodIn wsX9_value (va_wsS RX9 150 yX9_isPerson wsX9_isPerson) := goodIn_app (goodIn_of _ (by decide +kernel)) ggX9_value_X9_isPerson
theorem dX9_value_9 : decode cX9_value 9 = .ok (.invokestatic 150, 3) := by decide +kernel
theorem dX9_value_12 : decode cX9_value 12 = .ok (.ifCond .eq 30, 3) := by decide +kernel
theorem dX9_value_15 : decode cX9_value 15 = .ok (.iload_n 3, 1) := by decide +kernel
set_option maxRecDepth 20000 in
theorem ggX9_value_X9_isMoment : GoodIn wsX9_value wsX9_isMoment := goodIn_r _ [17, 18, 8, 9, 5, 10] (by decide +kernel) (by decide +kernel)
set_option maxRecDepth 20000 in
theorem gX9_value_X9_isMoment : GoodIn wsX9_value (va_wsS RX9 142 yX9_isMoment wsX9_isMoment) := goodIn_app (goodIn_of _ (by decide +kernel)) ggX9_value_X9_isMoment
theorem dX9_value_16 : decode cX9_value 16 = .ok (.invokestatic 142, 3) := by decide +kernel
theorem dX9_value_19 : decode cX9_value 19 = .ok (.ifCond .eq 23, 3) := by decide +kernel
theorem dX9_value_22 : decode cX9_value 22 = .ok (.iload 4, 2) := by decide +kernel
theorem dX9_value_24 : decode cX9_value 24 = .ok (.invokestatic 142, 3) := by decide +kernel
theorem dX9_value_27 : decode cX9_value 27 = .ok (.ifCond .eq 15, 3) := by decide +kernel
theorem dX9_value_30 : decode cX9_value 30 = .ok (.aload_n 0, 1) := by decide +kernel
theorem dX9_value_31 : decode cX9_value 31 = .ok (.iload_n 1, 1) := by decide +kernel
theorem dX9_value_32 : decode cX9_value 32 = .ok (.iload_n 2, 1) := by decide +kernel
theorem dX9_value_33 : decode cX9_value 33 = .ok (.iload_n 3, 1) := by decide +kernel
theorem dX9_value_34 : decode cX9_value 34 = .ok (.iload 4, 2) := by decide +kernel
set_option maxRecDepth 20000 in
theorem ggX9_value_X9_valueOf : GoodIn wsX9_value wsX9_valueOf := goodIn_r _ [22, 23, 24, 25, 26, 27, 5, 28, 29, 30, 31, 32, 33, 34, 35, 36, 37, 1, 38, 39, 40, 41, 42, 43, 44, 45, 46, 47, 48, 49, 50, 51, 52, 53, 54, 55, 56, 57, 58, 59, 60, 61, 62, 63, 64, 65, 66, 67, 68, 69, 70, 71, 72, 73, 74, 75, 76, 77, 78, 79, 80, 81, 82, 83, 84, 85, 86, 87, 88, 89, 90, 91, 92, 93, 94, 95, 96, 97, 98, 99, 100, 101, 102, 103, 104, 105, 106, 107, 108, 109, 110, 111, 112, 113, 114, 115, 116, 117] (by decide +kernel) (by decide +kernel)
set_option maxRecDepth 20000 in
theorem gX9_value_X9_valueOf : GoodIn wsX9_value (wsV RX9 300 RX9 yX9_valueOf wsX9_valueOf) := goodIn_app (goodIn_of _ (by decide +kernel)) ggX9_value_X9_valueOf
theorem dX9_value_36 : decode cX9_value 36 = .ok (.invokevirtual 300, 3) := by decide +kernel
theorem dX9_value_39 : decode cX9_value 39 = .ok (.goto 6, 3) := by decide +kernel
set_option maxHeartbeats 8000000 in
set_option maxRecDepth 100000 in
theorem k_X9_works (l : Launch) (dC : Nat → ClassId) (dI : Nat → Nat → Nat) (cA : Nat → ClassId) (sz : Nat) (am : Nat → Nat) (v_status : Int32) (v_now : Int32) (v_told : Int32) (v_merges : Int32) (v_taped : Int32) (v_size : Int32) (v_from : Int32) (v_to : Int32) (v_fault : Int32) (v_readFault : Int32) (v_traits : Int32) (v_length : Int32) (v_open : Int32) (v_leaks : Int32) (v_places : Int32) (v_models : Int32) (f_isGone : Nat → Int32) (f_rowStream : Nat → Int32) (f_isOne : Nat → Int32) (f_rowPerson : Nat → Int32) (f_rowMoment : Nat → Int32) (f_rowKnown : Nat → Int32) (f_rowValue : Nat → Int32) (f_size0 : Nat → Int32) (f_step : Nat → Int32) (f_stepA : Nat → Int32) (f_stepB : Nat → Int32) (f_stepC : Nat → Int32) (f_heap : Nat → Int64) (f_values : Nat → Int64) (a : Int32) (tt : Int32) (kk : Int32) (i_v_now : 0 ≤ v_now.toInt ∧ v_now.toInt ≤ 100000) (i_v_told : 0 ≤ v_told.toInt ∧ v_told.toInt ≤ 400) (i_v_taped : 0 ≤ v_taped.toInt ∧ v_taped.toInt ≤ 200) (i_v_size : 0 ≤ v_size.toInt ∧ v_size.toInt ≤ 200) (i_v_from : 0 ≤ v_from.toInt ∧ v_from.toInt ≤ 200) (i_v_to : 0 ≤ v_to.toInt ∧ v_to.toInt ≤ 200) (i_v_traits : 0 ≤ v_traits.toInt ∧ v_traits.toInt ≤ 20) (i_v_length : 0 ≤ v_length.toInt ∧ v_length.toInt ≤ 200) (i_v_open : 0 ≤ v_open.toInt ∧ v_open.toInt ≤ 8) (i_v_places : 0 ≤ v_places.toInt ∧ v_places.toInt ≤ 2000) (i_v_models : 0 ≤ v_models.toInt ∧ v_models.toInt ≤ 10) (i_f_rowPerson : inB 0 19 400 f_rowPerson) (i_f_size0 : inB 0 200 20 f_size0) (ha : 0 ≤ a.toInt ∧ a.toInt ≤ 19) (hwf : wfp f_step f_stepA (250 * a.toInt.toNat) (f_size0 a.toInt.toNat).toInt.toNat) : Met l yX9_works wsX9_works ({ frames := 2, cells := 0, slots := 0, locals := 55 }) (va_Pc [.ref (am 0), .int a, .int tt, .int kk] (fun U => U.heap.size = sz ∧ va_P (dC, dI) vwCl [((am 0), .inr (9, F9 am v_status v_now v_told v_merges v_taped v_size v_from v_to v_fault v_readFault v_traits v_length v_open v_leaks v_places v_models)), ((am 6), .inl (cA 2, 400, .inl f_isGone)), ((am 2), .inl (cA 0, 400, .inl f_rowStream)), ((am 19), .inl (cA 2, 20, .inl f_isOne)), ((am 1), .inl (cA 0, 400, .inl f_rowPerson)), ((am 3), .inl (cA 0, 400, .inl f_rowMoment)), ((am 4), .inl (cA 0, 400, .inl f_rowKnown)), ((am 5), .inl (cA 0, 400, .inl f_rowValue)), ((am 12), .inl (cA 0, 20, .inl f_size0)), ((am 13), .inl (cA 0, 5000, .inl f_step)), ((am 14), .inl (cA 0, 5000, .inl f_stepA)), ((am 15), .inl (cA 0, 5000, .inl f_stepB)), ((am 16), .inl (cA 0, 5000, .inl f_stepC)), ((am 18), .inl (cA 1, 250, .inr (.inl f_heap))), ((am 17), .inl (cA 1, 20, .inr (.inl f_values)))] U.heap ∧ va_K (dC, dI) vwCl (tyL cA) U ∧ va_D (fun _ => True) [((am 0), .inr (9, F9 am v_status v_now v_told v_merges v_taped v_size v_from v_to v_fault v_readFault v_traits v_length v_open v_leaks v_places v_models)), ((am 6), .inl (cA 2, 400, .inl f_isGone)), ((am 2), .inl (cA 0, 400, .inl f_rowStream)), ((am 19), .inl (cA 2, 20, .inl f_isOne)), ((am 1), .inl (cA 0, 400, .inl f_rowPerson)), ((am 3), .inl (cA 0, 400, .inl f_rowMoment)), ((am 4), .inl (cA 0, 400, .inl f_rowKnown)), ((am 5), .inl (cA 0, 400, .inl f_rowValue)), ((am 12), .inl (cA 0, 20, .inl f_size0)), ((am 13), .inl (cA 0, 5000, .inl f_step)), ((am 14), .inl (cA 0, 5000, .inl f_stepA)), ((am 15), .inl (cA 0, 5000, .inl f_stepB)), ((am 16), .inl (cA 0, 5000, .inl f_stepC)), ((am 18), .inl (cA 1, 250, .inr (.inl f_heap))), ((am 17), .inl (cA 1, 20, .inr (.inl f_values)))] ∧ nw_ok U)) (va_Ql (fun (r : Int64) (u : (Nat → Int64)) => True) (fun (u : (Nat → Int64)) (t : State) => va_P (dC, dI) vwCl [((am 0), .inr (9, F9 am v_status v_now v_told v_merges v_taped v_size v_from v_to v_fault v_readFault v_traits v_length v_open v_leaks v_places v_models)), ((am 6), .inl (cA 2, 400, .inl f_isGone)), ((am 2), .inl (cA 0, 400, .inl f_rowStream)), ((am 19), .inl (cA 2, 20, .inl f_isOne)), ((am 1), .inl (cA 0, 400, .inl f_rowPerson)), ((am 3), .inl (cA 0, 400, .inl f_rowMoment)), ((am 4), .inl (cA 0, 400, .inl f_rowKnown)), ((am 5), .inl (cA 0, 400, .inl f_rowValue)), ((am 12), .inl (cA 0, 20, .inl f_size0)), ((am 13), .inl (cA 0, 5000, .inl f_step)), ((am 14), .inl (cA 0, 5000, .inl f_stepA)), ((am 15), .inl (cA 0, 5000, .inl f_stepB)), ((am 16), .inl (cA 0, 5000, .inl f_stepC)), ((am 18), .inl (cA 1, 250, .inr (.inl u))), ((am 17), .inl (cA 1, 20, .inr (.inl f_values)))] t.heap ∧ va_D (va_A [((am 0), .inr (9, F9 am v_status v_now v_told v_merges v_taped v_size v_from v_to v_fault v_readFault v_traits v_length v_open v_leaks v_places v_models)), ((am 6), .inl (cA 2, 400, .inl f_isGone)), ((am 2), .inl (cA 0, 400, .inl f_rowStream)), ((am 19), .inl (cA 2, 20, .inl f_isOne)), ((am 1), .inl (cA 0, 400, .inl f_rowPerson)), ((am 3), .inl (cA 0, 400, .inl f_rowMoment)), ((am 4), .inl (cA 0, 400, .inl f_rowKnown)), ((am 5), .inl (cA 0, 400, .inl f_rowValue)), ((am 12), .inl (cA 0, 20, .inl f_size0)), ((am 13), .inl (cA 0, 5000, .inl f_step)), ((am 14), .inl (cA 0, 5000, .inl f_stepA)), ((am 15), .inl (cA 0, 5000, .inl f_stepB)), ((am 16), .inl (cA 0, 5000, .inl f_stepC)), ((am 18), .inl (cA 1, 250, .inr (.inl f_heap))), ((am 17), .inl (cA 1, 20, .inr (.inl f_values)))] sz) [((am 0), .inr (9, F9 am v_status v_now v_told v_merges v_taped v_size v_from v_to v_fault v_readFault v_traits v_length v_open v_leaks v_places v_models)), ((am 6), .inl (cA 2, 400, .inl f_isGone)), ((am 2), .inl (cA 0, 400, .inl f_rowStream)), ((am 19), .inl (cA 2, 20, .inl f_isOne)), ((am 1), .inl (cA 0, 400, .inl f_rowPerson)), ((am 3), .inl (cA 0, 400, .inl f_rowMoment)), ((am 4), .inl (cA 0, 400, .inl f_rowKnown)), ((am 5), .inl (cA 0, 400, .inl f_rowValue)), ((am 12), .inl (cA 0, 20, .inl f_size0)), ((am 13), .inl (cA 0, 5000, .inl f_step)), ((am 14), .inl (cA 0, 5000, .inl f_stepA)), ((am 15), .inl (cA 0, 5000, .inl f_stepB)), ((am 16), .inl (cA 0, 5000, .inl f_stepC)), ((am 18), .inl (cA 1, 250, .inr (.inl u))), ((am 17), .inl (cA 1, 20, .inr (.inl f_values)))]) (va_A [((am 0), .inr (9, F9 am v_status v_now v_told v_merges v_taped v_size v_from v_to v_fault v_readFault v_traits v_length v_open v_leaks v_places v_models)), ((am 6), .inl (cA 2, 400, .inl f_isGone)), ((am 2), .inl (cA 0, 400, .inl f_rowStream)), ((am 19), .inl (cA 2, 20, .inl f_isOne)), ((am 1), .inl (cA 0, 400, .inl f_rowPerson)), ((am 3), .inl (cA 0, 400, .inl f_rowMoment)), ((am 4), .inl (cA 0, 400, .inl f_rowKnown)), ((am 5), .inl (cA 0, 400, .inl f_rowValue)), ((am 12), .inl (cA 0, 20, .inl f_size0)), ((am 13), .inl (cA 0, 5000, .inl f_step)), ((am 14), .inl (cA 0, 5000, .inl f_stepA)), ((am 15), .inl (cA 0, 5000, .inl f_stepB)), ((am 16), .inl (cA 0, 5000, .inl f_stepC)), ((am 18), .inl (cA 1, 250, .inr (.inl f_heap))), ((am 17), .inl (cA 1, 20, .inr (.inl f_values)))] sz)) 0 0 (va_A [((am 0), .inr (9, F9 am v_status v_now v_told v_merges v_taped v_size v_from v_to v_fault v_readFault v_traits v_length v_open v_leaks v_places v_models)), ((am 6), .inl (cA 2, 400, .inl f_isGone)), ((am 2), .inl (cA 0, 400, .inl f_rowStream)), ((am 19), .inl (cA 2, 20, .inl f_isOne)), ((am 1), .inl (cA 0, 400, .inl f_rowPerson)), ((am 3), .inl (cA 0, 400, .inl f_rowMoment)), ((am 4), .inl (cA 0, 400, .inl f_rowKnown)), ((am 5), .inl (cA 0, 400, .inl f_rowValue)), ((am 12), .inl (cA 0, 20, .inl f_size0)), ((am 13), .inl (cA 0, 5000, .inl f_step)), ((am 14), .inl (cA 0, 5000, .inl f_stepA)), ((am 15), .inl (cA 0, 5000, .inl f_stepB)), ((am 16), .inl (cA 0, 5000, .inl f_stepC)), ((am 18), .inl (cA 1, 250, .inr (.inl f_heap))), ((am 17), .inl (cA 1, 20, .inr (.inl f_values)))] sz) := by
  refine Met.ofW (cc := cX9_works) (maxL := 8) (ret := (some .long)) (by decide) rfl ?_
  intro p e s m args below meth c s₁ B hml hv
  obtain ⟨rfl, hsz, hP, hK, hD0, hN⟩ := hv
  have hx := B.exec
  have hb := B.bytes
  have hr := B.returns
  have hts := atoms_spec (ws := wsX9_works) B.pre
  have hown : s.vm.findClass RX9 = some m.cls := findClass_of_methodNamed B.named
  have hlocks := B.notSynchronized
  subst hsz
  have hD := hD0.self (sz := s.heap.size)
  generalize hAe : va_A [((am 0), .inr (9, F9 am v_status v_now v_told v_merges v_taped v_size v_from v_to v_fault v_readFault v_traits v_length v_open v_leaks v_places v_models)), ((am 6), .inl (cA 2, 400, .inl f_isGone)), ((am 2), .inl (cA 0, 400, .inl f_rowStream)), ((am 19), .inl (cA 2, 20, .inl f_isOne)), ((am 1), .inl (cA 0, 400, .inl f_rowPerson)), ((am 3), .inl (cA 0, 400, .inl f_rowMoment)), ((am 4), .inl (cA 0, 400, .inl f_rowKnown)), ((am 5), .inl (cA 0, 400, .inl f_rowValue)), ((am 12), .inl (cA 0, 20, .inl f_size0)), ((am 13), .inl (cA 0, 5000, .inl f_step)), ((am 14), .inl (cA 0, 5000, .inl f_stepA)), ((am 15), .inl (cA 0, 5000, .inl f_stepB)), ((am 16), .inl (cA 0, 5000, .inl f_stepC)), ((am 18), .inl (cA 1, 250, .inr (.inl f_heap))), ((am 17), .inl (cA 1, 20, .inr (.inl f_values)))] s.heap.size = A at hD ⊢
  have hA : ∀ q : Nat, s.heap.size ≤ q → A q := fun q h => by rw [← hAe]; exact Or.inr h
  have hS : va_S A s.heap s.heap [] := va_S.rf
  have hIX9 : ∀ w ∈ u_ws RX9 TX9 51, w ∈ wsX9_works := by decide +kernel
  have hl := lv_entry ([.ref (am 0), .int a, .int tt, .int kk]) (n := 8) (Nat.le_of_ble_eq_true rfl)
  rw [lg_entry_eq]
  generalize (lg_sl ([.ref (am 0), .int a, .int tt, .int kk]) ++ List.replicate (8 - (lg_sl ([.ref (am 0), .int a, .int tt, .int kk])).length) Slot.unset).toArray = ls at hl ⊢
  have hl : lv_has ls 8 [(0, .ref (am 0)), (1, .int a), (2, .int tt), (3, .int kk)] := hl
  generalize hQe : MQ below _ _ _ _ _ _ = QQ
  refine lv_iconst (v := 0) hx hb dX9_works_0 (by decide) ?_
  refine lv_istore (lv' := [(4, .int 0), (0, .ref (am 0)), (1, .int a), (2, .int tt), (3, .int kk)]) hx hb dX9_works_1 hl (by decide) rfl (fun ls hl => ?_)
  refine lv_iconst (v := 0) hx hb dX9_works_3 (by decide) ?_
  refine lv_istore (lv' := [(5, .int 0), (4, .int 0), (0, .ref (am 0)), (1, .int a), (2, .int tt), (3, .int kk)]) hx hb dX9_works_4 hl (by decide) rfl (fun ls hl => ?_)
  have loop6_1 : ∀ (n : Nat) (j5 : Int32) (n4 : Int32) (w_f_heap_6 : Nat → Int64) (H : Heap) (locs : List Loc) (ls : Array Slot), 200 - j5.toInt < (n : Int) → (0 ≤ j5.toInt ∧ j5.toInt ≤ 200) → (0 ≤ n4.toInt ∧ n4.toInt ≤ 200) → (n4.toInt = dep f_step (250 * a.toInt.toNat) j5.toInt.toNat) → va_P (dC, dI) vwCl [((am 0), .inr (9, F9 am v_status v_now v_told v_merges v_taped v_size v_from v_to v_fault v_readFault v_traits v_length v_open v_leaks v_places v_models)), ((am 6), .inl (cA 2, 400, .inl f_isGone)), ((am 2), .inl (cA 0, 400, .inl f_rowStream)), ((am 19), .inl (cA 2, 20, .inl f_isOne)), ((am 1), .inl (cA 0, 400, .inl f_rowPerson)), ((am 3), .inl (cA 0, 400, .inl f_rowMoment)), ((am 4), .inl (cA 0, 400, .inl f_rowKnown)), ((am 5), .inl (cA 0, 400, .inl f_rowValue)), ((am 12), .inl (cA 0, 20, .inl f_size0)), ((am 13), .inl (cA 0, 5000, .inl f_step)), ((am 14), .inl (cA 0, 5000, .inl f_stepA)), ((am 15), .inl (cA 0, 5000, .inl f_stepB)), ((am 16), .inl (cA 0, 5000, .inl f_stepC)), ((am 18), .inl (cA 1, 250, .inr (.inl w_f_heap_6))), ((am 17), .inl (cA 1, 20, .inr (.inl f_values)))] H → va_D A [((am 0), .inr (9, F9 am v_status v_now v_told v_merges v_taped v_size v_from v_to v_fault v_readFault v_traits v_length v_open v_leaks v_places v_models)), ((am 6), .inl (cA 2, 400, .inl f_isGone)), ((am 2), .inl (cA 0, 400, .inl f_rowStream)), ((am 19), .inl (cA 2, 20, .inl f_isOne)), ((am 1), .inl (cA 0, 400, .inl f_rowPerson)), ((am 3), .inl (cA 0, 400, .inl f_rowMoment)), ((am 4), .inl (cA 0, 400, .inl f_rowKnown)), ((am 5), .inl (cA 0, 400, .inl f_rowValue)), ((am 12), .inl (cA 0, 20, .inl f_size0)), ((am 13), .inl (cA 0, 5000, .inl f_step)), ((am 14), .inl (cA 0, 5000, .inl f_stepA)), ((am 15), .inl (cA 0, 5000, .inl f_stepB)), ((am 16), .inl (cA 0, 5000, .inl f_stepC)), ((am 18), .inl (cA 1, 250, .inr (.inl w_f_heap_6))), ((am 17), .inl (cA 1, 20, .inr (.inl f_values)))] → va_S A s.heap H locs → lv_has ls 8 [(5, .int j5), (4, .int n4), (0, .ref (am 0)), (1, .int a), (2, .int tt), (3, .int kk)] → W p l e ({ frames := 2, cells := 0, slots := 0, locals := 55 }) s m ([.ref (am 0), .int a, .int tt, .int kk] : List Value).toArray below meth c H locs 0 0 QQ (F0 m 6 ls []) := by
    intro n
    induction n with
    | zero => intro j5 n4 w_f_heap_6 H locs ls hme hv0_6 hv1_6 hv2_6; exfalso; omega
    | succ n ih_6 =>
      intro j5 n4 w_f_heap_6 H locs ls hme_6 hv0_6 hv1_6 hv2_6 hP hD hS hl
      refine lv_iload hx hb dX9_works_6 (lv_at hl 0 rfl) ?_
      refine lv_aload_n hx hb dX9_works_8 rfl (lv_at hl 2 rfl) ?_
      refine va_get (D := (dC, dI)) (ci := 9) (v := .ref (am 12)) (C := RX9) (T := TX9) (N := 51) hx hb hts hIX9 hown hK hP 0 rfl rfl 25 (by decide) (hts (.fieldLink RX9 49 "TraitHouseModel" "size0" "[I") (by decide +kernel)) (fun _ h9 => h9) rfl dX9_works_9 ?_
      refine lv_iload_n hx hb dX9_works_12 rfl (lv_at hl 3 rfl) ?_
      have h_2 : vp_in a 20 := (vp_in_iff.mpr ⟨by omega, by omega⟩)
      refine va_iald hx hb hK hP 8 0 rfl rfl h_2 dX9_works_13 ?_
      refine lv_topi (fun x_3 ex_3 => ?_)
      have bx_3 := i_f_size0 _ (jix h_2)
      rw [← ex_3] at bx_3
      refine lv_icmp_ge (tgt := 272) hx hb dX9_works_14 (by decide) (fun c_4 => ?_) (fun c_4 => ?_)
      · have dc_4 : x_3.toInt ≤ j5.toInt := jI_le c_4 rfl rfl
        refine lv_aload_n hx hb dX9_works_272 rfl (lv_at hl 2 rfl) ?_
        refine va_get (D := (dC, dI)) (ci := 9) (v := .ref (am 18)) (C := RX9) (T := TX9) (N := 51) hx hb hts hIX9 hown hK hP 0 rfl rfl 31 (by decide) (hts (.fieldLink RX9 68 "TraitHouseModel" "heap" "[J") (by decide +kernel)) (fun _ h9 => h9) rfl dX9_works_273 ?_
        refine lv_iconst (v := 0) hx hb dX9_works_276 (by decide) ?_
        have h_5 : vp_in 0 250 := (vp_in_iff.mpr ⟨by decide, by decide⟩)
        refine va_lald hx hb hK hP 13 1 rfl rfl h_5 dX9_works_277 ?_
        refine lv_topl (fun y_6 ey_6 => ?_)
        obtain ⟨hP9, hD9⟩ := va_pd (ws' := [((am 0), .inr (9, F9 am v_status v_now v_told v_merges v_taped v_size v_from v_to v_fault v_readFault v_traits v_length v_open v_leaks v_places v_models)), ((am 6), .inl (cA 2, 400, .inl f_isGone)), ((am 2), .inl (cA 0, 400, .inl f_rowStream)), ((am 19), .inl (cA 2, 20, .inl f_isOne)), ((am 1), .inl (cA 0, 400, .inl f_rowPerson)), ((am 3), .inl (cA 0, 400, .inl f_rowMoment)), ((am 4), .inl (cA 0, 400, .inl f_rowKnown)), ((am 5), .inl (cA 0, 400, .inl f_rowValue)), ((am 12), .inl (cA 0, 20, .inl f_size0)), ((am 13), .inl (cA 0, 5000, .inl f_step)), ((am 14), .inl (cA 0, 5000, .inl f_stepA)), ((am 15), .inl (cA 0, 5000, .inl f_stepB)), ((am 16), .inl (cA 0, 5000, .inl f_stepC)), ((am 18), .inl (cA 1, 250, .inr (.inl w_f_heap_6))), ((am 17), .inl (cA 1, 20, .inr (.inl f_values)))]) hP hD [0, 1, 2, 3, 4, 5, 6, 7, 8, 9, 10, 11, 12, 13, 14] (by decide) rfl
        subst hQe
        have hans : (y_6 : Int64).toInt = y_6.toInt := rfl
        exact W.lret (v := y_6) hx hb hr (fun t ht hW => ⟨⟨y_6, w_f_heap_6, rfl, trivial, by rw [ht]; exact hP9, hD9⟩, hS.F ht⟩) hS.2.2 dX9_works_278
      · have dc_4 : j5.toInt < x_3.toInt := jI_nle c_4 rfl rfl
        refine lv_sipush (v := 250) hx hb dX9_works_17 (by decide) ?_
        refine lv_iload_n hx hb dX9_works_20 rfl (lv_at hl 3 rfl) ?_
        refine lv_imul hx hb dX9_works_21 ?_
        refine lv_topi (fun x_7 ex_7 => ?_)
        have dx_7 : x_7.toInt = 250 * a.toInt := by rw [ex_7]; exact jI_mul (by decide) rfl (by omega) (by omega)
        refine lv_iload hx hb dX9_works_22 (lv_at hl 0 rfl) ?_
        refine lv_iadd hx hb dX9_works_24 ?_
        refine lv_topi (fun x_8 ex_8 => ?_)
        have dx_8 : x_8.toInt = x_7.toInt + j5.toInt := by rw [ex_8]; exact jI_add rfl rfl (by omega) (by omega)
        refine lv_istore (lv' := [(6, .int x_8), (5, .int j5), (4, .int n4), (0, .ref (am 0)), (1, .int a), (2, .int tt), (3, .int kk)]) hx hb dX9_works_25 hl (by decide) rfl (fun ls hl => ?_)
        refine lv_aload_n hx hb dX9_works_27 rfl (lv_at hl 3 rfl) ?_
        refine va_get (D := (dC, dI)) (ci := 9) (v := .ref (am 13)) (C := RX9) (T := TX9) (N := 51) hx hb hts hIX9 hown hK hP 0 rfl rfl 26 (by decide) (hts (.fieldLink RX9 52 "TraitHouseModel" "step" "[I") (by decide +kernel)) (fun _ h9 => h9) rfl dX9_works_28 ?_
        refine lv_iload hx hb dX9_works_31 (lv_at hl 0 rfl) ?_
        have h_9 : vp_in x_8 5000 := (vp_in_iff.mpr ⟨by omega, by omega⟩)
        refine va_iald hx hb hK hP 9 0 rfl rfl h_9 dX9_works_33 ?_
        refine lv_topi (fun x_10 ex_10 => ?_)
        refine lv_istore (lv' := [(7, .int x_10), (6, .int x_8), (5, .int j5), (4, .int n4), (0, .ref (am 0)), (1, .int a), (2, .int tt), (3, .int kk)]) hx hb dX9_works_34 hl (by decide) rfl (fun ls hl => ?_)
        have hwf9 := wf_at (j := j5) (fA := f_stepA) (at_ := x_8) hwf rfl (by omega) (by omega) ex_3 (by omega) (by omega) ex_10 hv2_6
        refine lv_iload hx hb dX9_works_36 (lv_at hl 0 rfl) ?_
        refine lv_iconst (v := 1) hx hb dX9_works_38 (by decide) ?_
        refine lv_icmp_lt (tgt := 84) hx hb dX9_works_39 (by decide) (fun c_11 => ?_) (fun c_11 => ?_)
        · have dc_11 : x_10.toInt < 1 := jI_lt c_11 rfl (by decide)
          refine lv_iload hx hb dX9_works_84 (lv_at hl 0 rfl) ?_
          refine lv_iconst (v := 5) hx hb dX9_works_86 (by decide) ?_
          refine lv_icmp_ne (tgt := 126) hx hb dX9_works_87 (by decide) (fun c_12 => ?_) (fun c_12 => ?_)
          · have dc_12 : ¬ x_10.toInt = 5 := jI_ne c_12 rfl (by decide)
            refine lv_iload hx hb dX9_works_126 (lv_at hl 0 rfl) ?_
            refine lv_if_ne (tgt := 149) hx hb dX9_works_128 (by decide) (fun c_13 => ?_) (fun c_13 => ?_)
            · have dc_13 : ¬ x_10.toInt = 0 := jI_ne c_13 rfl (by decide)
              refine lv_iload hx hb dX9_works_149 (lv_at hl 0 rfl) ?_
              refine lv_bipush (v := 6) hx hb dX9_works_151 (by decide) ?_
              refine lv_icmp_ne (tgt := 178) hx hb dX9_works_153 (by decide) (fun c_14 => ?_) (fun c_14 => ?_)
              · have dc_14 : ¬ x_10.toInt = 6 := jI_ne c_14 rfl (by decide)
                refine lv_iload hx hb dX9_works_178 (lv_at hl 0 rfl) ?_
                refine lv_bipush (v := 7) hx hb dX9_works_180 (by decide) ?_
                refine lv_icmp_eq (tgt := 192) hx hb dX9_works_182 (by decide) (fun c_15 => ?_) (fun c_15 => ?_)
                · have dc_15 : x_10.toInt = 7 := jI_eq c_15 rfl (by decide)
                  exfalso; omega
                · have dc_15 : ¬ x_10.toInt = 7 := jI_ne c_15 rfl (by decide)
                  refine lv_iload hx hb dX9_works_185 (lv_at hl 0 rfl) ?_
                  refine lv_bipush (v := 8) hx hb dX9_works_187 (by decide) ?_
                  refine lv_icmp_ne (tgt := 227) hx hb dX9_works_189 (by decide) (fun c_16 => ?_) (fun c_16 => ?_)
                  · have dc_16 : ¬ x_10.toInt = 8 := jI_ne c_16 rfl (by decide)
                    refine lv_aload_n hx hb dX9_works_227 rfl (lv_at hl 4 rfl) ?_
                    refine va_get (D := (dC, dI)) (ci := 9) (v := .ref (am 18)) (C := RX9) (T := TX9) (N := 51) hx hb hts hIX9 hown hK hP 0 rfl rfl 31 (by decide) (hts (.fieldLink RX9 68 "TraitHouseModel" "heap" "[J") (by decide +kernel)) (fun _ h9 => h9) rfl dX9_works_228 ?_
                    refine lv_iload hx hb dX9_works_231 (lv_at hl 3 rfl) ?_
                    refine lv_aload_n hx hb dX9_works_233 rfl (lv_at hl 4 rfl) ?_
                    refine lv_iload hx hb dX9_works_234 (lv_at hl 0 rfl) ?_
                    refine lv_aload_n hx hb dX9_works_236 rfl (lv_at hl 4 rfl) ?_
                    refine va_get (D := (dC, dI)) (ci := 9) (v := .ref (am 14)) (C := RX9) (T := TX9) (N := 51) hx hb hts hIX9 hown hK hP 0 rfl rfl 27 (by decide) (hts (.fieldLink RX9 55 "TraitHouseModel" "stepA" "[I") (by decide +kernel)) (fun _ h9 => h9) rfl dX9_works_237 ?_
                    refine lv_iload hx hb dX9_works_240 (lv_at hl 1 rfl) ?_
                    have h_17 : vp_in x_8 5000 := (vp_in_iff.mpr ⟨by omega, by omega⟩)
                    refine va_iald hx hb hK hP 10 0 rfl rfl h_17 dX9_works_242 ?_
                    refine lv_topi (fun x_18 ex_18 => ?_)
                    refine lv_aload_n hx hb dX9_works_243 rfl (lv_at hl 4 rfl) ?_
                    refine va_get (D := (dC, dI)) (ci := 9) (v := .ref (am 15)) (C := RX9) (T := TX9) (N := 51) hx hb hts hIX9 hown hK hP 0 rfl rfl 28 (by decide) (hts (.fieldLink RX9 58 "TraitHouseModel" "stepB" "[I") (by decide +kernel)) (fun _ h9 => h9) rfl dX9_works_244 ?_
                    refine lv_iload hx hb dX9_works_247 (lv_at hl 1 rfl) ?_
                    have h_19 : vp_in x_8 5000 := (vp_in_iff.mpr ⟨by omega, by omega⟩)
                    refine va_iald hx hb hK hP 11 0 rfl rfl h_19 dX9_works_249 ?_
                    refine lv_topi (fun x_20 ex_20 => ?_)
                    refine lv_aload_n hx hb dX9_works_250 rfl (lv_at hl 4 rfl) ?_
                    refine va_get (D := (dC, dI)) (ci := 9) (v := .ref (am 16)) (C := RX9) (T := TX9) (N := 51) hx hb hts hIX9 hown hK hP 0 rfl rfl 29 (by decide) (hts (.fieldLink RX9 61 "TraitHouseModel" "stepC" "[I") (by decide +kernel)) (fun _ h9 => h9) rfl dX9_works_251 ?_
                    refine lv_iload hx hb dX9_works_254 (lv_at hl 1 rfl) ?_
                    have h_21 : vp_in x_8 5000 := (vp_in_iff.mpr ⟨by omega, by omega⟩)
                    refine va_iald hx hb hK hP 12 0 rfl rfl h_21 dX9_works_256 ?_
                    refine lv_topi (fun x_22 ex_22 => ?_)
                    refine lv_iload_n hx hb dX9_works_257 rfl (lv_at hl 6 rfl) ?_
                    refine lv_iload_n hx hb dX9_works_258 rfl (lv_at hl 7 rfl) ?_
                    obtain ⟨hPc, hDc, hFc, hCc⟩ := va_pre (ws' := [((am 0), .inr (9, F9 am v_status v_now v_told v_merges v_taped v_size v_from v_to v_fault v_readFault v_traits v_length v_open v_leaks v_places v_models)), ((am 6), .inl (cA 2, 400, .inl f_isGone)), ((am 2), .inl (cA 0, 400, .inl f_rowStream)), ((am 19), .inl (cA 2, 20, .inl f_isOne)), ((am 1), .inl (cA 0, 400, .inl f_rowPerson)), ((am 3), .inl (cA 0, 400, .inl f_rowMoment)), ((am 4), .inl (cA 0, 400, .inl f_rowKnown)), ((am 5), .inl (cA 0, 400, .inl f_rowValue))]) hP hD hS hA [0, 1, 2, 3, 4, 5, 6, 7] (by decide) rfl
                    refine va_calll (va_runV (As := [.int x_10, .int x_18, .int x_20, .int x_22, .int tt, .int kk]) (rest := [.int n4, .ref (am 18)]) ⟨hx, hb, hml, hown, hts⟩ (k_X9_windowed l dC dI cA H.size am v_status v_now v_told v_merges v_taped v_size v_from v_to v_fault v_readFault v_traits v_length v_open v_leaks v_places v_models f_isGone f_rowStream f_isOne f_rowPerson f_rowMoment f_rowKnown f_rowValue x_10 x_18 x_20 x_22 tt kk i_v_now i_v_told i_v_taped i_v_size i_v_from i_v_to i_v_traits i_v_length i_v_open i_v_places i_v_models i_f_rowPerson) (cwV 6 hts gX9_works_X9_windowed rfl rfl rfl (by decide +kernel) ⟨Nat.le_of_ble_eq_true rfl, Nat.le_of_ble_eq_true rfl⟩) ⟨fun a U g mk q => by obtain ⟨q0, q1, qP, qK, qD, qN⟩ := q; exact ⟨q0, q1, qP, va_K.moved (u := U) (U := U.calling g mk a) (Vm.Alike.refl U.vm) qK, qD, qN.same rfl⟩, va_recv hK hPc (ci := 9) (q0 := 0) rfl rfl, fun U hU hW => ⟨rfl, by rw [hU], by rw [hU]; exact hPc, va_K.moved hW.alike hK, hDc.weaken (fun _ _ _ _ => trivial), hN.warm hW⟩⟩ rfl rfl hl.1 rfl (lv_room (Nat.le_of_ble_eq_true rfl)) dX9_works_259 ⟨Nat.le_of_ble_eq_true rfl, Nat.le_of_ble_eq_true rfl⟩) hS (fun q _ h => hFc q h) hFc (fun r_23 u_24 t H1 locs ht hvm hw_25 hB hz1 hk1 hS => ?_)
                    try dsimp only at hw_25 hB
                    obtain ⟨hP1, hD1⟩ := hB
                    rw [ht] at hP1
                    obtain ⟨hP, hD⟩ := va_join (wr := [((am 12), .inl (cA 0, 20, .inl f_size0)), ((am 13), .inl (cA 0, 5000, .inl f_step)), ((am 14), .inl (cA 0, 5000, .inl f_stepA)), ((am 15), .inl (cA 0, 5000, .inl f_stepB)), ((am 16), .inl (cA 0, 5000, .inl f_stepC)), ((am 18), .inl (cA 1, 250, .inr (.inl w_f_heap_6))), ((am 17), .inl (cA 1, 20, .inr (.inl f_values)))]) (w1 := [((am 0), .inr (9, F9 am v_status v_now v_told v_merges v_taped v_size v_from v_to v_fault v_readFault v_traits v_length v_open v_leaks v_places v_models)), ((am 6), .inl (cA 2, 400, .inl f_isGone)), ((am 2), .inl (cA 0, 400, .inl f_rowStream)), ((am 19), .inl (cA 2, 20, .inl f_isOne)), ((am 1), .inl (cA 0, 400, .inl f_rowPerson)), ((am 3), .inl (cA 0, 400, .inl f_rowMoment)), ((am 4), .inl (cA 0, 400, .inl f_rowKnown)), ((am 5), .inl (cA 0, 400, .inl f_rowValue))]) hP hD [0, 1, 2, 3, 4, 5, 6, 7] [8, 9, 10, 11, 12, 13, 14] hCc rfl (by decide) (by decide) hk1 hFc hP1 hD1
                    clear hz1
                    generalize H1 = H at hP hS ⊢
                    have h_26 : vp_in n4 250 := (vp_in_iff.mpr ⟨by omega, by omega⟩)
                    refine va_last hx hb hK hP hD hS 5 1 rfl rfl h_26 dX9_works_262 (fun H locs hP hD hS => ?_)
                    replace hP : va_P (dC, dI) vwCl [((am 12), .inl (cA 0, 20, .inl f_size0)), ((am 13), .inl (cA 0, 5000, .inl f_step)), ((am 14), .inl (cA 0, 5000, .inl f_stepA)), ((am 15), .inl (cA 0, 5000, .inl f_stepB)), ((am 16), .inl (cA 0, 5000, .inl f_stepC)), ((am 18), .inl (cA 1, 250, .inr (.inl (vp_updL w_f_heap_6 n4.toNatClampNeg r_23)))), ((am 17), .inl (cA 1, 20, .inr (.inl f_values))), ((am 0), .inr (9, F9 am v_status v_now v_told v_merges v_taped v_size v_from v_to v_fault v_readFault v_traits v_length v_open v_leaks v_places v_models)), ((am 6), .inl (cA 2, 400, .inl f_isGone)), ((am 2), .inl (cA 0, 400, .inl f_rowStream)), ((am 19), .inl (cA 2, 20, .inl f_isOne)), ((am 1), .inl (cA 0, 400, .inl f_rowPerson)), ((am 3), .inl (cA 0, 400, .inl f_rowMoment)), ((am 4), .inl (cA 0, 400, .inl f_rowKnown)), ((am 5), .inl (cA 0, 400, .inl f_rowValue))] H := hP
                    replace hD : va_D A [((am 12), .inl (cA 0, 20, .inl f_size0)), ((am 13), .inl (cA 0, 5000, .inl f_step)), ((am 14), .inl (cA 0, 5000, .inl f_stepA)), ((am 15), .inl (cA 0, 5000, .inl f_stepB)), ((am 16), .inl (cA 0, 5000, .inl f_stepC)), ((am 18), .inl (cA 1, 250, .inr (.inl (vp_updL w_f_heap_6 n4.toNatClampNeg r_23)))), ((am 17), .inl (cA 1, 20, .inr (.inl f_values))), ((am 0), .inr (9, F9 am v_status v_now v_told v_merges v_taped v_size v_from v_to v_fault v_readFault v_traits v_length v_open v_leaks v_places v_models)), ((am 6), .inl (cA 2, 400, .inl f_isGone)), ((am 2), .inl (cA 0, 400, .inl f_rowStream)), ((am 19), .inl (cA 2, 20, .inl f_isOne)), ((am 1), .inl (cA 0, 400, .inl f_rowPerson)), ((am 3), .inl (cA 0, 400, .inl f_rowMoment)), ((am 4), .inl (cA 0, 400, .inl f_rowKnown)), ((am 5), .inl (cA 0, 400, .inl f_rowValue))] := hD
                    obtain ⟨g_27, eg_27⟩ : ∃ g : Nat → Int64, g = vp_updL w_f_heap_6 n4.toNatClampNeg r_23 := ⟨_, rfl⟩
                    rw [← eg_27] at hP hD
                    obtain ⟨x_28, ex_28⟩ : ∃ y : Int32, y = n4 + 1 := ⟨_, rfl⟩
                    have dx_28 : x_28.toInt = n4.toInt + 1 := by rw [ex_28]; exact jI_add rfl (by decide) (by omega) (by omega)
                    refine lv_iinc (v := x_28) (lv' := [(4, .int x_28), (7, .int x_10), (6, .int x_8), (5, .int j5), (0, .ref (am 0)), (1, .int a), (2, .int tt), (3, .int kk)]) hx hb dX9_works_263 hl (k := 3) rfl (by rw [ex_28]; rfl) (by decide) rfl (fun ls hl => ?_)
                    obtain ⟨x_29, ex_29⟩ : ∃ y : Int32, y = j5 + 1 := ⟨_, rfl⟩
                    have dx_29 : x_29.toInt = j5.toInt + 1 := by rw [ex_29]; exact jI_add rfl (by decide) (by omega) (by omega)
                    refine lv_iinc (v := x_29) (lv' := [(5, .int x_29), (4, .int x_28), (7, .int x_10), (6, .int x_8), (0, .ref (am 0)), (1, .int a), (2, .int tt), (3, .int kk)]) hx hb dX9_works_266 hl (k := 3) rfl (by rw [ex_29]; rfl) (by decide) rfl (fun ls hl => ?_)
                    refine lv_goto (tgt := 6) hx hb dX9_works_269 (by decide) ?_
                    exact ih_6 x_29 x_28 g_27 _ _ ls (by omega) (by omega) (by omega) (by have e9 : x_29.toInt.toNat = j5.toInt.toNat + 1 := (by omega); rw [e9]; omega) (hP.sub [7, 8, 9, 10, 11, 12, 13, 14, 0, 1, 2, 3, 4, 5, 6] rfl) (hD.sub [7, 8, 9, 10, 11, 12, 13, 14, 0, 1, 2, 3, 4, 5, 6] (by decide) rfl) hS (lv_sub hl [0, 1, 4, 5, 6, 7] rfl)
                  · have dc_16 : x_10.toInt = 8 := jI_eq c_16 rfl (by decide)
                    exfalso; omega
              · have dc_14 : x_10.toInt = 6 := jI_eq c_14 rfl (by decide)
                exfalso; omega
            · have dc_13 : x_10.toInt = 0 := jI_eq c_13 rfl (by decide)
              refine lv_aload_n hx hb dX9_works_131 rfl (lv_at hl 4 rfl) ?_
              refine va_get (D := (dC, dI)) (ci := 9) (v := .ref (am 18)) (C := RX9) (T := TX9) (N := 51) hx hb hts hIX9 hown hK hP 0 rfl rfl 31 (by decide) (hts (.fieldLink RX9 68 "TraitHouseModel" "heap" "[J") (by decide +kernel)) (fun _ h9 => h9) rfl dX9_works_132 ?_
              refine lv_iload hx hb dX9_works_135 (lv_at hl 3 rfl) ?_
              refine lv_aload_n hx hb dX9_works_137 rfl (lv_at hl 4 rfl) ?_
              refine va_get (D := (dC, dI)) (ci := 9) (v := .ref (am 14)) (C := RX9) (T := TX9) (N := 51) hx hb hts hIX9 hown hK hP 0 rfl rfl 27 (by decide) (hts (.fieldLink RX9 55 "TraitHouseModel" "stepA" "[I") (by decide +kernel)) (fun _ h9 => h9) rfl dX9_works_138 ?_
              refine lv_iload hx hb dX9_works_141 (lv_at hl 1 rfl) ?_
              have h_30 : vp_in x_8 5000 := (vp_in_iff.mpr ⟨by omega, by omega⟩)
              refine va_iald hx hb hK hP 10 0 rfl rfl h_30 dX9_works_143 ?_
              refine lv_topi (fun x_31 ex_31 => ?_)
              obtain ⟨y_32, ey_32⟩ : ∃ y : Int64, y = x_31.toInt64 := ⟨_, rfl⟩
              have dy_32 : y_32.toInt = x_31.toInt := by rw [ey_32]; exact Int32.toInt_toInt64 _
              refine lv_i2l (v := y_32) hx hb dX9_works_144 ey_32.symm ?_
              have h_33 : vp_in n4 250 := (vp_in_iff.mpr ⟨by omega, by omega⟩)
              refine va_last hx hb hK hP hD hS 13 1 rfl rfl h_33 dX9_works_145 (fun H locs hP hD hS => ?_)
              replace hP : va_P (dC, dI) vwCl [((am 0), .inr (9, F9 am v_status v_now v_told v_merges v_taped v_size v_from v_to v_fault v_readFault v_traits v_length v_open v_leaks v_places v_models)), ((am 6), .inl (cA 2, 400, .inl f_isGone)), ((am 2), .inl (cA 0, 400, .inl f_rowStream)), ((am 19), .inl (cA 2, 20, .inl f_isOne)), ((am 1), .inl (cA 0, 400, .inl f_rowPerson)), ((am 3), .inl (cA 0, 400, .inl f_rowMoment)), ((am 4), .inl (cA 0, 400, .inl f_rowKnown)), ((am 5), .inl (cA 0, 400, .inl f_rowValue)), ((am 12), .inl (cA 0, 20, .inl f_size0)), ((am 13), .inl (cA 0, 5000, .inl f_step)), ((am 14), .inl (cA 0, 5000, .inl f_stepA)), ((am 15), .inl (cA 0, 5000, .inl f_stepB)), ((am 16), .inl (cA 0, 5000, .inl f_stepC)), ((am 18), .inl (cA 1, 250, .inr (.inl (vp_updL w_f_heap_6 n4.toNatClampNeg y_32)))), ((am 17), .inl (cA 1, 20, .inr (.inl f_values)))] H := hP
              replace hD : va_D A [((am 0), .inr (9, F9 am v_status v_now v_told v_merges v_taped v_size v_from v_to v_fault v_readFault v_traits v_length v_open v_leaks v_places v_models)), ((am 6), .inl (cA 2, 400, .inl f_isGone)), ((am 2), .inl (cA 0, 400, .inl f_rowStream)), ((am 19), .inl (cA 2, 20, .inl f_isOne)), ((am 1), .inl (cA 0, 400, .inl f_rowPerson)), ((am 3), .inl (cA 0, 400, .inl f_rowMoment)), ((am 4), .inl (cA 0, 400, .inl f_rowKnown)), ((am 5), .inl (cA 0, 400, .inl f_rowValue)), ((am 12), .inl (cA 0, 20, .inl f_size0)), ((am 13), .inl (cA 0, 5000, .inl f_step)), ((am 14), .inl (cA 0, 5000, .inl f_stepA)), ((am 15), .inl (cA 0, 5000, .inl f_stepB)), ((am 16), .inl (cA 0, 5000, .inl f_stepC)), ((am 18), .inl (cA 1, 250, .inr (.inl (vp_updL w_f_heap_6 n4.toNatClampNeg y_32)))), ((am 17), .inl (cA 1, 20, .inr (.inl f_values)))] := hD
              obtain ⟨g_34, eg_34⟩ : ∃ g : Nat → Int64, g = vp_updL w_f_heap_6 n4.toNatClampNeg y_32 := ⟨_, rfl⟩
              rw [← eg_34] at hP hD
              refine lv_goto (tgt := 263) hx hb dX9_works_146 (by decide) ?_
              obtain ⟨x_35, ex_35⟩ : ∃ y : Int32, y = n4 + 1 := ⟨_, rfl⟩
              have dx_35 : x_35.toInt = n4.toInt + 1 := by rw [ex_35]; exact jI_add rfl (by decide) (by omega) (by omega)
              refine lv_iinc (v := x_35) (lv' := [(4, .int x_35), (7, .int x_10), (6, .int x_8), (5, .int j5), (0, .ref (am 0)), (1, .int a), (2, .int tt), (3, .int kk)]) hx hb dX9_works_263 hl (k := 3) rfl (by rw [ex_35]; rfl) (by decide) rfl (fun ls hl => ?_)
              obtain ⟨x_36, ex_36⟩ : ∃ y : Int32, y = j5 + 1 := ⟨_, rfl⟩
              have dx_36 : x_36.toInt = j5.toInt + 1 := by rw [ex_36]; exact jI_add rfl (by decide) (by omega) (by omega)
              refine lv_iinc (v := x_36) (lv' := [(5, .int x_36), (4, .int x_35), (7, .int x_10), (6, .int x_8), (0, .ref (am 0)), (1, .int a), (2, .int tt), (3, .int kk)]) hx hb dX9_works_266 hl (k := 3) rfl (by rw [ex_36]; rfl) (by decide) rfl (fun ls hl => ?_)
              refine lv_goto (tgt := 6) hx hb dX9_works_269 (by decide) ?_
              exact ih_6 x_36 x_35 g_34 _ _ ls (by omega) (by omega) (by omega) (by have e9 : x_36.toInt.toNat = j5.toInt.toNat + 1 := (by omega); rw [e9]; omega) (hP.sub [0, 1, 2, 3, 4, 5, 6, 7, 8, 9, 10, 11, 12, 13, 14] rfl) (hD.sub [0, 1, 2, 3, 4, 5, 6, 7, 8, 9, 10, 11, 12, 13, 14] (by decide) rfl) hS (lv_sub hl [0, 1, 4, 5, 6, 7] rfl)
          · have dc_12 : x_10.toInt = 5 := jI_eq c_12 rfl (by decide)
            exfalso; omega
        · have dc_11 : 1 ≤ x_10.toInt := jI_nlt c_11 rfl (by decide)
          refine lv_iload hx hb dX9_works_42 (lv_at hl 0 rfl) ?_
          refine lv_iconst (v := 4) hx hb dX9_works_44 (by decide) ?_
          refine lv_icmp_gt (tgt := 84) hx hb dX9_works_45 (by decide) (fun c_37 => ?_) (fun c_37 => ?_)
          · have dc_37 : 4 < x_10.toInt := jI_lt c_37 (by decide) rfl
            refine lv_iload hx hb dX9_works_84 (lv_at hl 0 rfl) ?_
            refine lv_iconst (v := 5) hx hb dX9_works_86 (by decide) ?_
            refine lv_icmp_ne (tgt := 126) hx hb dX9_works_87 (by decide) (fun c_38 => ?_) (fun c_38 => ?_)
            · have dc_38 : ¬ x_10.toInt = 5 := jI_ne c_38 rfl (by decide)
              refine lv_iload hx hb dX9_works_126 (lv_at hl 0 rfl) ?_
              refine lv_if_ne (tgt := 149) hx hb dX9_works_128 (by decide) (fun c_39 => ?_) (fun c_39 => ?_)
              · have dc_39 : ¬ x_10.toInt = 0 := jI_ne c_39 rfl (by decide)
                refine lv_iload hx hb dX9_works_149 (lv_at hl 0 rfl) ?_
                refine lv_bipush (v := 6) hx hb dX9_works_151 (by decide) ?_
                refine lv_icmp_ne (tgt := 178) hx hb dX9_works_153 (by decide) (fun c_40 => ?_) (fun c_40 => ?_)
                · have dc_40 : ¬ x_10.toInt = 6 := jI_ne c_40 rfl (by decide)
                  refine lv_iload hx hb dX9_works_178 (lv_at hl 0 rfl) ?_
                  refine lv_bipush (v := 7) hx hb dX9_works_180 (by decide) ?_
                  refine lv_icmp_eq (tgt := 192) hx hb dX9_works_182 (by decide) (fun c_41 => ?_) (fun c_41 => ?_)
                  · have dc_41 : x_10.toInt = 7 := jI_eq c_41 rfl (by decide)
                    refine lv_aload_n hx hb dX9_works_192 rfl (lv_at hl 4 rfl) ?_
                    refine va_get (D := (dC, dI)) (ci := 9) (v := .ref (am 18)) (C := RX9) (T := TX9) (N := 51) hx hb hts hIX9 hown hK hP 0 rfl rfl 31 (by decide) (hts (.fieldLink RX9 68 "TraitHouseModel" "heap" "[J") (by decide +kernel)) (fun _ h9 => h9) rfl dX9_works_193 ?_
                    refine lv_iload hx hb dX9_works_196 (lv_at hl 3 rfl) ?_
                    refine lv_aload_n hx hb dX9_works_198 rfl (lv_at hl 4 rfl) ?_
                    refine lv_aload_n hx hb dX9_works_199 rfl (lv_at hl 4 rfl) ?_
                    refine va_get (D := (dC, dI)) (ci := 9) (v := .ref (am 14)) (C := RX9) (T := TX9) (N := 51) hx hb hts hIX9 hown hK hP 0 rfl rfl 27 (by decide) (hts (.fieldLink RX9 55 "TraitHouseModel" "stepA" "[I") (by decide +kernel)) (fun _ h9 => h9) rfl dX9_works_200 ?_
                    refine lv_iload hx hb dX9_works_203 (lv_at hl 1 rfl) ?_
                    have h_42 : vp_in x_8 5000 := (vp_in_iff.mpr ⟨by omega, by omega⟩)
                    refine va_iald hx hb hK hP 10 0 rfl rfl h_42 dX9_works_205 ?_
                    refine lv_topi (fun x_43 ex_43 => ?_)
                    refine lv_iload_n hx hb dX9_works_206 rfl (lv_at hl 6 rfl) ?_
                    refine lv_iload_n hx hb dX9_works_207 rfl (lv_at hl 7 rfl) ?_
                    refine lv_iload hx hb dX9_works_208 (lv_at hl 0 rfl) ?_
                    refine lv_bipush (v := 8) hx hb dX9_works_210 (by decide) ?_
                    refine lv_icmp_ne (tgt := 219) hx hb dX9_works_212 (by decide) (fun c_44 => ?_) (fun c_44 => ?_)
                    · have dc_44 : ¬ x_10.toInt = 8 := jI_ne c_44 rfl (by decide)
                      refine lv_iconst (v := 0) hx hb dX9_works_219 (by decide) ?_
                      have hk_45 : (0 : Int32).toInt = 0 := by decide
                      obtain ⟨hPc, hDc, hFc, hCc⟩ := va_pre (ws' := [((am 0), .inr (9, F9 am v_status v_now v_told v_merges v_taped v_size v_from v_to v_fault v_readFault v_traits v_length v_open v_leaks v_places v_models)), ((am 6), .inl (cA 2, 400, .inl f_isGone)), ((am 2), .inl (cA 0, 400, .inl f_rowStream)), ((am 19), .inl (cA 2, 20, .inl f_isOne)), ((am 1), .inl (cA 0, 400, .inl f_rowPerson)), ((am 3), .inl (cA 0, 400, .inl f_rowMoment)), ((am 4), .inl (cA 0, 400, .inl f_rowKnown)), ((am 5), .inl (cA 0, 400, .inl f_rowValue))]) hP hD hS hA [0, 1, 2, 3, 4, 5, 6, 7] (by decide) rfl
                      refine va_calll (va_runV (As := [.int x_43, .int tt, .int kk, .int 0]) (rest := [.int n4, .ref (am 18)]) ⟨hx, hb, hml, hown, hts⟩ (k_X9_latest l dC dI cA H.size am v_status v_now v_told v_merges v_taped v_size v_from v_to v_fault v_readFault v_traits v_length v_open v_leaks v_places v_models f_isGone f_rowStream f_isOne f_rowPerson f_rowMoment f_rowKnown f_rowValue x_43 tt kk 0 i_v_now i_v_told i_v_taped i_v_size i_v_from i_v_to i_v_traits i_v_length i_v_open i_v_places i_v_models i_f_rowPerson) (cwV 4 hts gX9_works_X9_latest rfl rfl rfl (by decide +kernel) ⟨Nat.le_of_ble_eq_true rfl, Nat.le_of_ble_eq_true rfl⟩) ⟨fun a U g mk q => by obtain ⟨q0, q1, qP, qK, qD, qN⟩ := q; exact ⟨q0, q1, qP, va_K.moved (u := U) (U := U.calling g mk a) (Vm.Alike.refl U.vm) qK, qD, qN.same rfl⟩, va_recv hK hPc (ci := 9) (q0 := 0) rfl rfl, fun U hU hW => ⟨rfl, by rw [hU], by rw [hU]; exact hPc, va_K.moved hW.alike hK, hDc.weaken (fun _ _ _ _ => trivial), hN.warm hW⟩⟩ rfl rfl hl.1 rfl (lv_room (Nat.le_of_ble_eq_true rfl)) dX9_works_220 ⟨Nat.le_of_ble_eq_true rfl, Nat.le_of_ble_eq_true rfl⟩) hS (fun q _ h => hFc q h) hFc (fun r_46 u_47 t H1 locs ht hvm hw_48 hB hz1 hk1 hS => ?_)
                      try dsimp only at hw_48 hB
                      obtain ⟨hP1, hD1⟩ := hB
                      rw [ht] at hP1
                      obtain ⟨hP, hD⟩ := va_join (wr := [((am 12), .inl (cA 0, 20, .inl f_size0)), ((am 13), .inl (cA 0, 5000, .inl f_step)), ((am 14), .inl (cA 0, 5000, .inl f_stepA)), ((am 15), .inl (cA 0, 5000, .inl f_stepB)), ((am 16), .inl (cA 0, 5000, .inl f_stepC)), ((am 18), .inl (cA 1, 250, .inr (.inl w_f_heap_6))), ((am 17), .inl (cA 1, 20, .inr (.inl f_values)))]) (w1 := [((am 0), .inr (9, F9 am v_status v_now v_told v_merges v_taped v_size v_from v_to v_fault v_readFault v_traits v_length v_open v_leaks v_places v_models)), ((am 6), .inl (cA 2, 400, .inl f_isGone)), ((am 2), .inl (cA 0, 400, .inl f_rowStream)), ((am 19), .inl (cA 2, 20, .inl f_isOne)), ((am 1), .inl (cA 0, 400, .inl f_rowPerson)), ((am 3), .inl (cA 0, 400, .inl f_rowMoment)), ((am 4), .inl (cA 0, 400, .inl f_rowKnown)), ((am 5), .inl (cA 0, 400, .inl f_rowValue))]) hP hD [0, 1, 2, 3, 4, 5, 6, 7] [8, 9, 10, 11, 12, 13, 14] hCc rfl (by decide) (by decide) hk1 hFc hP1 hD1
                      clear hz1
                      generalize H1 = H at hP hS ⊢
                      have h_49 : vp_in n4 250 := (vp_in_iff.mpr ⟨by omega, by omega⟩)
                      refine va_last hx hb hK hP hD hS 5 1 rfl rfl h_49 dX9_works_223 (fun H locs hP hD hS => ?_)
                      replace hP : va_P (dC, dI) vwCl [((am 12), .inl (cA 0, 20, .inl f_size0)), ((am 13), .inl (cA 0, 5000, .inl f_step)), ((am 14), .inl (cA 0, 5000, .inl f_stepA)), ((am 15), .inl (cA 0, 5000, .inl f_stepB)), ((am 16), .inl (cA 0, 5000, .inl f_stepC)), ((am 18), .inl (cA 1, 250, .inr (.inl (vp_updL w_f_heap_6 n4.toNatClampNeg r_46)))), ((am 17), .inl (cA 1, 20, .inr (.inl f_values))), ((am 0), .inr (9, F9 am v_status v_now v_told v_merges v_taped v_size v_from v_to v_fault v_readFault v_traits v_length v_open v_leaks v_places v_models)), ((am 6), .inl (cA 2, 400, .inl f_isGone)), ((am 2), .inl (cA 0, 400, .inl f_rowStream)), ((am 19), .inl (cA 2, 20, .inl f_isOne)), ((am 1), .inl (cA 0, 400, .inl f_rowPerson)), ((am 3), .inl (cA 0, 400, .inl f_rowMoment)), ((am 4), .inl (cA 0, 400, .inl f_rowKnown)), ((am 5), .inl (cA 0, 400, .inl f_rowValue))] H := hP
                      replace hD : va_D A [((am 12), .inl (cA 0, 20, .inl f_size0)), ((am 13), .inl (cA 0, 5000, .inl f_step)), ((am 14), .inl (cA 0, 5000, .inl f_stepA)), ((am 15), .inl (cA 0, 5000, .inl f_stepB)), ((am 16), .inl (cA 0, 5000, .inl f_stepC)), ((am 18), .inl (cA 1, 250, .inr (.inl (vp_updL w_f_heap_6 n4.toNatClampNeg r_46)))), ((am 17), .inl (cA 1, 20, .inr (.inl f_values))), ((am 0), .inr (9, F9 am v_status v_now v_told v_merges v_taped v_size v_from v_to v_fault v_readFault v_traits v_length v_open v_leaks v_places v_models)), ((am 6), .inl (cA 2, 400, .inl f_isGone)), ((am 2), .inl (cA 0, 400, .inl f_rowStream)), ((am 19), .inl (cA 2, 20, .inl f_isOne)), ((am 1), .inl (cA 0, 400, .inl f_rowPerson)), ((am 3), .inl (cA 0, 400, .inl f_rowMoment)), ((am 4), .inl (cA 0, 400, .inl f_rowKnown)), ((am 5), .inl (cA 0, 400, .inl f_rowValue))] := hD
                      obtain ⟨g_50, eg_50⟩ : ∃ g : Nat → Int64, g = vp_updL w_f_heap_6 n4.toNatClampNeg r_46 := ⟨_, rfl⟩
                      rw [← eg_50] at hP hD
                      refine lv_goto (tgt := 263) hx hb dX9_works_224 (by decide) ?_
                      obtain ⟨x_51, ex_51⟩ : ∃ y : Int32, y = n4 + 1 := ⟨_, rfl⟩
                      have dx_51 : x_51.toInt = n4.toInt + 1 := by rw [ex_51]; exact jI_add rfl (by decide) (by omega) (by omega)
                      refine lv_iinc (v := x_51) (lv' := [(4, .int x_51), (7, .int x_10), (6, .int x_8), (5, .int j5), (0, .ref (am 0)), (1, .int a), (2, .int tt), (3, .int kk)]) hx hb dX9_works_263 hl (k := 3) rfl (by rw [ex_51]; rfl) (by decide) rfl (fun ls hl => ?_)
                      obtain ⟨x_52, ex_52⟩ : ∃ y : Int32, y = j5 + 1 := ⟨_, rfl⟩
                      have dx_52 : x_52.toInt = j5.toInt + 1 := by rw [ex_52]; exact jI_add rfl (by decide) (by omega) (by omega)
                      refine lv_iinc (v := x_52) (lv' := [(5, .int x_52), (4, .int x_51), (7, .int x_10), (6, .int x_8), (0, .ref (am 0)), (1, .int a), (2, .int tt), (3, .int kk)]) hx hb dX9_works_266 hl (k := 3) rfl (by rw [ex_52]; rfl) (by decide) rfl (fun ls hl => ?_)
                      refine lv_goto (tgt := 6) hx hb dX9_works_269 (by decide) ?_
                      exact ih_6 x_52 x_51 g_50 _ _ ls (by omega) (by omega) (by omega) (by have e9 : x_52.toInt.toNat = j5.toInt.toNat + 1 := (by omega); rw [e9]; omega) (hP.sub [7, 8, 9, 10, 11, 12, 13, 14, 0, 1, 2, 3, 4, 5, 6] rfl) (hD.sub [7, 8, 9, 10, 11, 12, 13, 14, 0, 1, 2, 3, 4, 5, 6] (by decide) rfl) hS (lv_sub hl [0, 1, 4, 5, 6, 7] rfl)
                    · have dc_44 : x_10.toInt = 8 := jI_eq c_44 rfl (by decide)
                      exfalso; omega
                  · have dc_41 : ¬ x_10.toInt = 7 := jI_ne c_41 rfl (by decide)
                    refine lv_iload hx hb dX9_works_185 (lv_at hl 0 rfl) ?_
                    refine lv_bipush (v := 8) hx hb dX9_works_187 (by decide) ?_
                    refine lv_icmp_ne (tgt := 227) hx hb dX9_works_189 (by decide) (fun c_53 => ?_) (fun c_53 => ?_)
                    · have dc_53 : ¬ x_10.toInt = 8 := jI_ne c_53 rfl (by decide)
                      refine lv_aload_n hx hb dX9_works_227 rfl (lv_at hl 4 rfl) ?_
                      refine va_get (D := (dC, dI)) (ci := 9) (v := .ref (am 18)) (C := RX9) (T := TX9) (N := 51) hx hb hts hIX9 hown hK hP 0 rfl rfl 31 (by decide) (hts (.fieldLink RX9 68 "TraitHouseModel" "heap" "[J") (by decide +kernel)) (fun _ h9 => h9) rfl dX9_works_228 ?_
                      refine lv_iload hx hb dX9_works_231 (lv_at hl 3 rfl) ?_
                      refine lv_aload_n hx hb dX9_works_233 rfl (lv_at hl 4 rfl) ?_
                      refine lv_iload hx hb dX9_works_234 (lv_at hl 0 rfl) ?_
                      refine lv_aload_n hx hb dX9_works_236 rfl (lv_at hl 4 rfl) ?_
                      refine va_get (D := (dC, dI)) (ci := 9) (v := .ref (am 14)) (C := RX9) (T := TX9) (N := 51) hx hb hts hIX9 hown hK hP 0 rfl rfl 27 (by decide) (hts (.fieldLink RX9 55 "TraitHouseModel" "stepA" "[I") (by decide +kernel)) (fun _ h9 => h9) rfl dX9_works_237 ?_
                      refine lv_iload hx hb dX9_works_240 (lv_at hl 1 rfl) ?_
                      have h_54 : vp_in x_8 5000 := (vp_in_iff.mpr ⟨by omega, by omega⟩)
                      refine va_iald hx hb hK hP 10 0 rfl rfl h_54 dX9_works_242 ?_
                      refine lv_topi (fun x_55 ex_55 => ?_)
                      refine lv_aload_n hx hb dX9_works_243 rfl (lv_at hl 4 rfl) ?_
                      refine va_get (D := (dC, dI)) (ci := 9) (v := .ref (am 15)) (C := RX9) (T := TX9) (N := 51) hx hb hts hIX9 hown hK hP 0 rfl rfl 28 (by decide) (hts (.fieldLink RX9 58 "TraitHouseModel" "stepB" "[I") (by decide +kernel)) (fun _ h9 => h9) rfl dX9_works_244 ?_
                      refine lv_iload hx hb dX9_works_247 (lv_at hl 1 rfl) ?_
                      have h_56 : vp_in x_8 5000 := (vp_in_iff.mpr ⟨by omega, by omega⟩)
                      refine va_iald hx hb hK hP 11 0 rfl rfl h_56 dX9_works_249 ?_
                      refine lv_topi (fun x_57 ex_57 => ?_)
                      refine lv_aload_n hx hb dX9_works_250 rfl (lv_at hl 4 rfl) ?_
                      refine va_get (D := (dC, dI)) (ci := 9) (v := .ref (am 16)) (C := RX9) (T := TX9) (N := 51) hx hb hts hIX9 hown hK hP 0 rfl rfl 29 (by decide) (hts (.fieldLink RX9 61 "TraitHouseModel" "stepC" "[I") (by decide +kernel)) (fun _ h9 => h9) rfl dX9_works_251 ?_
                      refine lv_iload hx hb dX9_works_254 (lv_at hl 1 rfl) ?_
                      have h_58 : vp_in x_8 5000 := (vp_in_iff.mpr ⟨by omega, by omega⟩)
                      refine va_iald hx hb hK hP 12 0 rfl rfl h_58 dX9_works_256 ?_
                      refine lv_topi (fun x_59 ex_59 => ?_)
                      refine lv_iload_n hx hb dX9_works_257 rfl (lv_at hl 6 rfl) ?_
                      refine lv_iload_n hx hb dX9_works_258 rfl (lv_at hl 7 rfl) ?_
                      obtain ⟨hPc, hDc, hFc, hCc⟩ := va_pre (ws' := [((am 0), .inr (9, F9 am v_status v_now v_told v_merges v_taped v_size v_from v_to v_fault v_readFault v_traits v_length v_open v_leaks v_places v_models)), ((am 6), .inl (cA 2, 400, .inl f_isGone)), ((am 2), .inl (cA 0, 400, .inl f_rowStream)), ((am 19), .inl (cA 2, 20, .inl f_isOne)), ((am 1), .inl (cA 0, 400, .inl f_rowPerson)), ((am 3), .inl (cA 0, 400, .inl f_rowMoment)), ((am 4), .inl (cA 0, 400, .inl f_rowKnown)), ((am 5), .inl (cA 0, 400, .inl f_rowValue))]) hP hD hS hA [0, 1, 2, 3, 4, 5, 6, 7] (by decide) rfl
                      refine va_calll (va_runV (As := [.int x_10, .int x_55, .int x_57, .int x_59, .int tt, .int kk]) (rest := [.int n4, .ref (am 18)]) ⟨hx, hb, hml, hown, hts⟩ (k_X9_windowed l dC dI cA H.size am v_status v_now v_told v_merges v_taped v_size v_from v_to v_fault v_readFault v_traits v_length v_open v_leaks v_places v_models f_isGone f_rowStream f_isOne f_rowPerson f_rowMoment f_rowKnown f_rowValue x_10 x_55 x_57 x_59 tt kk i_v_now i_v_told i_v_taped i_v_size i_v_from i_v_to i_v_traits i_v_length i_v_open i_v_places i_v_models i_f_rowPerson) (cwV 6 hts gX9_works_X9_windowed rfl rfl rfl (by decide +kernel) ⟨Nat.le_of_ble_eq_true rfl, Nat.le_of_ble_eq_true rfl⟩) ⟨fun a U g mk q => by obtain ⟨q0, q1, qP, qK, qD, qN⟩ := q; exact ⟨q0, q1, qP, va_K.moved (u := U) (U := U.calling g mk a) (Vm.Alike.refl U.vm) qK, qD, qN.same rfl⟩, va_recv hK hPc (ci := 9) (q0 := 0) rfl rfl, fun U hU hW => ⟨rfl, by rw [hU], by rw [hU]; exact hPc, va_K.moved hW.alike hK, hDc.weaken (fun _ _ _ _ => trivial), hN.warm hW⟩⟩ rfl rfl hl.1 rfl (lv_room (Nat.le_of_ble_eq_true rfl)) dX9_works_259 ⟨Nat.le_of_ble_eq_true rfl, Nat.le_of_ble_eq_true rfl⟩) hS (fun q _ h => hFc q h) hFc (fun r_60 u_61 t H1 locs ht hvm hw_62 hB hz1 hk1 hS => ?_)
                      try dsimp only at hw_62 hB
                      obtain ⟨hP1, hD1⟩ := hB
                      rw [ht] at hP1
                      obtain ⟨hP, hD⟩ := va_join (wr := [((am 12), .inl (cA 0, 20, .inl f_size0)), ((am 13), .inl (cA 0, 5000, .inl f_step)), ((am 14), .inl (cA 0, 5000, .inl f_stepA)), ((am 15), .inl (cA 0, 5000, .inl f_stepB)), ((am 16), .inl (cA 0, 5000, .inl f_stepC)), ((am 18), .inl (cA 1, 250, .inr (.inl w_f_heap_6))), ((am 17), .inl (cA 1, 20, .inr (.inl f_values)))]) (w1 := [((am 0), .inr (9, F9 am v_status v_now v_told v_merges v_taped v_size v_from v_to v_fault v_readFault v_traits v_length v_open v_leaks v_places v_models)), ((am 6), .inl (cA 2, 400, .inl f_isGone)), ((am 2), .inl (cA 0, 400, .inl f_rowStream)), ((am 19), .inl (cA 2, 20, .inl f_isOne)), ((am 1), .inl (cA 0, 400, .inl f_rowPerson)), ((am 3), .inl (cA 0, 400, .inl f_rowMoment)), ((am 4), .inl (cA 0, 400, .inl f_rowKnown)), ((am 5), .inl (cA 0, 400, .inl f_rowValue))]) hP hD [0, 1, 2, 3, 4, 5, 6, 7] [8, 9, 10, 11, 12, 13, 14] hCc rfl (by decide) (by decide) hk1 hFc hP1 hD1
                      clear hz1
                      generalize H1 = H at hP hS ⊢
                      have h_63 : vp_in n4 250 := (vp_in_iff.mpr ⟨by omega, by omega⟩)
                      refine va_last hx hb hK hP hD hS 5 1 rfl rfl h_63 dX9_works_262 (fun H locs hP hD hS => ?_)
                      replace hP : va_P (dC, dI) vwCl [((am 12), .inl (cA 0, 20, .inl f_size0)), ((am 13), .inl (cA 0, 5000, .inl f_step)), ((am 14), .inl (cA 0, 5000, .inl f_stepA)), ((am 15), .inl (cA 0, 5000, .inl f_stepB)), ((am 16), .inl (cA 0, 5000, .inl f_stepC)), ((am 18), .inl (cA 1, 250, .inr (.inl (vp_updL w_f_heap_6 n4.toNatClampNeg r_60)))), ((am 17), .inl (cA 1, 20, .inr (.inl f_values))), ((am 0), .inr (9, F9 am v_status v_now v_told v_merges v_taped v_size v_from v_to v_fault v_readFault v_traits v_length v_open v_leaks v_places v_models)), ((am 6), .inl (cA 2, 400, .inl f_isGone)), ((am 2), .inl (cA 0, 400, .inl f_rowStream)), ((am 19), .inl (cA 2, 20, .inl f_isOne)), ((am 1), .inl (cA 0, 400, .inl f_rowPerson)), ((am 3), .inl (cA 0, 400, .inl f_rowMoment)), ((am 4), .inl (cA 0, 400, .inl f_rowKnown)), ((am 5), .inl (cA 0, 400, .inl f_rowValue))] H := hP
                      replace hD : va_D A [((am 12), .inl (cA 0, 20, .inl f_size0)), ((am 13), .inl (cA 0, 5000, .inl f_step)), ((am 14), .inl (cA 0, 5000, .inl f_stepA)), ((am 15), .inl (cA 0, 5000, .inl f_stepB)), ((am 16), .inl (cA 0, 5000, .inl f_stepC)), ((am 18), .inl (cA 1, 250, .inr (.inl (vp_updL w_f_heap_6 n4.toNatClampNeg r_60)))), ((am 17), .inl (cA 1, 20, .inr (.inl f_values))), ((am 0), .inr (9, F9 am v_status v_now v_told v_merges v_taped v_size v_from v_to v_fault v_readFault v_traits v_length v_open v_leaks v_places v_models)), ((am 6), .inl (cA 2, 400, .inl f_isGone)), ((am 2), .inl (cA 0, 400, .inl f_rowStream)), ((am 19), .inl (cA 2, 20, .inl f_isOne)), ((am 1), .inl (cA 0, 400, .inl f_rowPerson)), ((am 3), .inl (cA 0, 400, .inl f_rowMoment)), ((am 4), .inl (cA 0, 400, .inl f_rowKnown)), ((am 5), .inl (cA 0, 400, .inl f_rowValue))] := hD
                      obtain ⟨g_64, eg_64⟩ : ∃ g : Nat → Int64, g = vp_updL w_f_heap_6 n4.toNatClampNeg r_60 := ⟨_, rfl⟩
                      rw [← eg_64] at hP hD
                      obtain ⟨x_65, ex_65⟩ : ∃ y : Int32, y = n4 + 1 := ⟨_, rfl⟩
                      have dx_65 : x_65.toInt = n4.toInt + 1 := by rw [ex_65]; exact jI_add rfl (by decide) (by omega) (by omega)
                      refine lv_iinc (v := x_65) (lv' := [(4, .int x_65), (7, .int x_10), (6, .int x_8), (5, .int j5), (0, .ref (am 0)), (1, .int a), (2, .int tt), (3, .int kk)]) hx hb dX9_works_263 hl (k := 3) rfl (by rw [ex_65]; rfl) (by decide) rfl (fun ls hl => ?_)
                      obtain ⟨x_66, ex_66⟩ : ∃ y : Int32, y = j5 + 1 := ⟨_, rfl⟩
                      have dx_66 : x_66.toInt = j5.toInt + 1 := by rw [ex_66]; exact jI_add rfl (by decide) (by omega) (by omega)
                      refine lv_iinc (v := x_66) (lv' := [(5, .int x_66), (4, .int x_65), (7, .int x_10), (6, .int x_8), (0, .ref (am 0)), (1, .int a), (2, .int tt), (3, .int kk)]) hx hb dX9_works_266 hl (k := 3) rfl (by rw [ex_66]; rfl) (by decide) rfl (fun ls hl => ?_)
                      refine lv_goto (tgt := 6) hx hb dX9_works_269 (by decide) ?_
                      exact ih_6 x_66 x_65 g_64 _ _ ls (by omega) (by omega) (by omega) (by have e9 : x_66.toInt.toNat = j5.toInt.toNat + 1 := (by omega); rw [e9]; omega) (hP.sub [7, 8, 9, 10, 11, 12, 13, 14, 0, 1, 2, 3, 4, 5, 6] rfl) (hD.sub [7, 8, 9, 10, 11, 12, 13, 14, 0, 1, 2, 3, 4, 5, 6] (by decide) rfl) hS (lv_sub hl [0, 1, 4, 5, 6, 7] rfl)
                    · have dc_53 : x_10.toInt = 8 := jI_eq c_53 rfl (by decide)
                      refine lv_aload_n hx hb dX9_works_192 rfl (lv_at hl 4 rfl) ?_
                      refine va_get (D := (dC, dI)) (ci := 9) (v := .ref (am 18)) (C := RX9) (T := TX9) (N := 51) hx hb hts hIX9 hown hK hP 0 rfl rfl 31 (by decide) (hts (.fieldLink RX9 68 "TraitHouseModel" "heap" "[J") (by decide +kernel)) (fun _ h9 => h9) rfl dX9_works_193 ?_
                      refine lv_iload hx hb dX9_works_196 (lv_at hl 3 rfl) ?_
                      refine lv_aload_n hx hb dX9_works_198 rfl (lv_at hl 4 rfl) ?_
                      refine lv_aload_n hx hb dX9_works_199 rfl (lv_at hl 4 rfl) ?_
                      refine va_get (D := (dC, dI)) (ci := 9) (v := .ref (am 14)) (C := RX9) (T := TX9) (N := 51) hx hb hts hIX9 hown hK hP 0 rfl rfl 27 (by decide) (hts (.fieldLink RX9 55 "TraitHouseModel" "stepA" "[I") (by decide +kernel)) (fun _ h9 => h9) rfl dX9_works_200 ?_
                      refine lv_iload hx hb dX9_works_203 (lv_at hl 1 rfl) ?_
                      have h_67 : vp_in x_8 5000 := (vp_in_iff.mpr ⟨by omega, by omega⟩)
                      refine va_iald hx hb hK hP 10 0 rfl rfl h_67 dX9_works_205 ?_
                      refine lv_topi (fun x_68 ex_68 => ?_)
                      refine lv_iload_n hx hb dX9_works_206 rfl (lv_at hl 6 rfl) ?_
                      refine lv_iload_n hx hb dX9_works_207 rfl (lv_at hl 7 rfl) ?_
                      refine lv_iload hx hb dX9_works_208 (lv_at hl 0 rfl) ?_
                      refine lv_bipush (v := 8) hx hb dX9_works_210 (by decide) ?_
                      refine lv_icmp_ne (tgt := 219) hx hb dX9_works_212 (by decide) (fun c_69 => ?_) (fun c_69 => ?_)
                      · have dc_69 : ¬ x_10.toInt = 8 := jI_ne c_69 rfl (by decide)
                        exfalso; omega
                      · have dc_69 : x_10.toInt = 8 := jI_eq c_69 rfl (by decide)
                        refine lv_iconst (v := 1) hx hb dX9_works_215 (by decide) ?_
                        refine lv_goto (tgt := 220) hx hb dX9_works_216 (by decide) ?_
                        have hk_70 : (1 : Int32).toInt = 1 := by decide
                        obtain ⟨hPc, hDc, hFc, hCc⟩ := va_pre (ws' := [((am 0), .inr (9, F9 am v_status v_now v_told v_merges v_taped v_size v_from v_to v_fault v_readFault v_traits v_length v_open v_leaks v_places v_models)), ((am 6), .inl (cA 2, 400, .inl f_isGone)), ((am 2), .inl (cA 0, 400, .inl f_rowStream)), ((am 19), .inl (cA 2, 20, .inl f_isOne)), ((am 1), .inl (cA 0, 400, .inl f_rowPerson)), ((am 3), .inl (cA 0, 400, .inl f_rowMoment)), ((am 4), .inl (cA 0, 400, .inl f_rowKnown)), ((am 5), .inl (cA 0, 400, .inl f_rowValue))]) hP hD hS hA [0, 1, 2, 3, 4, 5, 6, 7] (by decide) rfl
                        refine va_calll (va_runV (As := [.int x_68, .int tt, .int kk, .int 1]) (rest := [.int n4, .ref (am 18)]) ⟨hx, hb, hml, hown, hts⟩ (k_X9_latest l dC dI cA H.size am v_status v_now v_told v_merges v_taped v_size v_from v_to v_fault v_readFault v_traits v_length v_open v_leaks v_places v_models f_isGone f_rowStream f_isOne f_rowPerson f_rowMoment f_rowKnown f_rowValue x_68 tt kk 1 i_v_now i_v_told i_v_taped i_v_size i_v_from i_v_to i_v_traits i_v_length i_v_open i_v_places i_v_models i_f_rowPerson) (cwV 4 hts gX9_works_X9_latest rfl rfl rfl (by decide +kernel) ⟨Nat.le_of_ble_eq_true rfl, Nat.le_of_ble_eq_true rfl⟩) ⟨fun a U g mk q => by obtain ⟨q0, q1, qP, qK, qD, qN⟩ := q; exact ⟨q0, q1, qP, va_K.moved (u := U) (U := U.calling g mk a) (Vm.Alike.refl U.vm) qK, qD, qN.same rfl⟩, va_recv hK hPc (ci := 9) (q0 := 0) rfl rfl, fun U hU hW => ⟨rfl, by rw [hU], by rw [hU]; exact hPc, va_K.moved hW.alike hK, hDc.weaken (fun _ _ _ _ => trivial), hN.warm hW⟩⟩ rfl rfl hl.1 rfl (lv_room (Nat.le_of_ble_eq_true rfl)) dX9_works_220 ⟨Nat.le_of_ble_eq_true rfl, Nat.le_of_ble_eq_true rfl⟩) hS (fun q _ h => hFc q h) hFc (fun r_71 u_72 t H1 locs ht hvm hw_73 hB hz1 hk1 hS => ?_)
                        try dsimp only at hw_73 hB
                        obtain ⟨hP1, hD1⟩ := hB
                        rw [ht] at hP1
                        obtain ⟨hP, hD⟩ := va_join (wr := [((am 12), .inl (cA 0, 20, .inl f_size0)), ((am 13), .inl (cA 0, 5000, .inl f_step)), ((am 14), .inl (cA 0, 5000, .inl f_stepA)), ((am 15), .inl (cA 0, 5000, .inl f_stepB)), ((am 16), .inl (cA 0, 5000, .inl f_stepC)), ((am 18), .inl (cA 1, 250, .inr (.inl w_f_heap_6))), ((am 17), .inl (cA 1, 20, .inr (.inl f_values)))]) (w1 := [((am 0), .inr (9, F9 am v_status v_now v_told v_merges v_taped v_size v_from v_to v_fault v_readFault v_traits v_length v_open v_leaks v_places v_models)), ((am 6), .inl (cA 2, 400, .inl f_isGone)), ((am 2), .inl (cA 0, 400, .inl f_rowStream)), ((am 19), .inl (cA 2, 20, .inl f_isOne)), ((am 1), .inl (cA 0, 400, .inl f_rowPerson)), ((am 3), .inl (cA 0, 400, .inl f_rowMoment)), ((am 4), .inl (cA 0, 400, .inl f_rowKnown)), ((am 5), .inl (cA 0, 400, .inl f_rowValue))]) hP hD [0, 1, 2, 3, 4, 5, 6, 7] [8, 9, 10, 11, 12, 13, 14] hCc rfl (by decide) (by decide) hk1 hFc hP1 hD1
                        clear hz1
                        generalize H1 = H at hP hS ⊢
                        have h_74 : vp_in n4 250 := (vp_in_iff.mpr ⟨by omega, by omega⟩)
                        refine va_last hx hb hK hP hD hS 5 1 rfl rfl h_74 dX9_works_223 (fun H locs hP hD hS => ?_)
                        replace hP : va_P (dC, dI) vwCl [((am 12), .inl (cA 0, 20, .inl f_size0)), ((am 13), .inl (cA 0, 5000, .inl f_step)), ((am 14), .inl (cA 0, 5000, .inl f_stepA)), ((am 15), .inl (cA 0, 5000, .inl f_stepB)), ((am 16), .inl (cA 0, 5000, .inl f_stepC)), ((am 18), .inl (cA 1, 250, .inr (.inl (vp_updL w_f_heap_6 n4.toNatClampNeg r_71)))), ((am 17), .inl (cA 1, 20, .inr (.inl f_values))), ((am 0), .inr (9, F9 am v_status v_now v_told v_merges v_taped v_size v_from v_to v_fault v_readFault v_traits v_length v_open v_leaks v_places v_models)), ((am 6), .inl (cA 2, 400, .inl f_isGone)), ((am 2), .inl (cA 0, 400, .inl f_rowStream)), ((am 19), .inl (cA 2, 20, .inl f_isOne)), ((am 1), .inl (cA 0, 400, .inl f_rowPerson)), ((am 3), .inl (cA 0, 400, .inl f_rowMoment)), ((am 4), .inl (cA 0, 400, .inl f_rowKnown)), ((am 5), .inl (cA 0, 400, .inl f_rowValue))] H := hP
                        replace hD : va_D A [((am 12), .inl (cA 0, 20, .inl f_size0)), ((am 13), .inl (cA 0, 5000, .inl f_step)), ((am 14), .inl (cA 0, 5000, .inl f_stepA)), ((am 15), .inl (cA 0, 5000, .inl f_stepB)), ((am 16), .inl (cA 0, 5000, .inl f_stepC)), ((am 18), .inl (cA 1, 250, .inr (.inl (vp_updL w_f_heap_6 n4.toNatClampNeg r_71)))), ((am 17), .inl (cA 1, 20, .inr (.inl f_values))), ((am 0), .inr (9, F9 am v_status v_now v_told v_merges v_taped v_size v_from v_to v_fault v_readFault v_traits v_length v_open v_leaks v_places v_models)), ((am 6), .inl (cA 2, 400, .inl f_isGone)), ((am 2), .inl (cA 0, 400, .inl f_rowStream)), ((am 19), .inl (cA 2, 20, .inl f_isOne)), ((am 1), .inl (cA 0, 400, .inl f_rowPerson)), ((am 3), .inl (cA 0, 400, .inl f_rowMoment)), ((am 4), .inl (cA 0, 400, .inl f_rowKnown)), ((am 5), .inl (cA 0, 400, .inl f_rowValue))] := hD
                        obtain ⟨g_75, eg_75⟩ : ∃ g : Nat → Int64, g = vp_updL w_f_heap_6 n4.toNatClampNeg r_71 := ⟨_, rfl⟩
                        rw [← eg_75] at hP hD
                        refine lv_goto (tgt := 263) hx hb dX9_works_224 (by decide) ?_
                        obtain ⟨x_76, ex_76⟩ : ∃ y : Int32, y = n4 + 1 := ⟨_, rfl⟩
                        have dx_76 : x_76.toInt = n4.toInt + 1 := by rw [ex_76]; exact jI_add rfl (by decide) (by omega) (by omega)
                        refine lv_iinc (v := x_76) (lv' := [(4, .int x_76), (7, .int x_10), (6, .int x_8), (5, .int j5), (0, .ref (am 0)), (1, .int a), (2, .int tt), (3, .int kk)]) hx hb dX9_works_263 hl (k := 3) rfl (by rw [ex_76]; rfl) (by decide) rfl (fun ls hl => ?_)
                        obtain ⟨x_77, ex_77⟩ : ∃ y : Int32, y = j5 + 1 := ⟨_, rfl⟩
                        have dx_77 : x_77.toInt = j5.toInt + 1 := by rw [ex_77]; exact jI_add rfl (by decide) (by omega) (by omega)
                        refine lv_iinc (v := x_77) (lv' := [(5, .int x_77), (4, .int x_76), (7, .int x_10), (6, .int x_8), (0, .ref (am 0)), (1, .int a), (2, .int tt), (3, .int kk)]) hx hb dX9_works_266 hl (k := 3) rfl (by rw [ex_77]; rfl) (by decide) rfl (fun ls hl => ?_)
                        refine lv_goto (tgt := 6) hx hb dX9_works_269 (by decide) ?_
                        exact ih_6 x_77 x_76 g_75 _ _ ls (by omega) (by omega) (by omega) (by have e9 : x_77.toInt.toNat = j5.toInt.toNat + 1 := (by omega); rw [e9]; omega) (hP.sub [7, 8, 9, 10, 11, 12, 13, 14, 0, 1, 2, 3, 4, 5, 6] rfl) (hD.sub [7, 8, 9, 10, 11, 12, 13, 14, 0, 1, 2, 3, 4, 5, 6] (by decide) rfl) hS (lv_sub hl [0, 1, 4, 5, 6, 7] rfl)
                · have dc_40 : x_10.toInt = 6 := jI_eq c_40 rfl (by decide)
                  refine lv_aload_n hx hb dX9_works_156 rfl (lv_at hl 4 rfl) ?_
                  refine va_get (D := (dC, dI)) (ci := 9) (v := .ref (am 18)) (C := RX9) (T := TX9) (N := 51) hx hb hts hIX9 hown hK hP 0 rfl rfl 31 (by decide) (hts (.fieldLink RX9 68 "TraitHouseModel" "heap" "[J") (by decide +kernel)) (fun _ h9 => h9) rfl dX9_works_157 ?_
                  refine lv_iload hx hb dX9_works_160 (lv_at hl 3 rfl) ?_
                  refine lv_aload_n hx hb dX9_works_162 rfl (lv_at hl 4 rfl) ?_
                  refine va_get (D := (dC, dI)) (ci := 9) (v := .ref (am 17)) (C := RX9) (T := TX9) (N := 51) hx hb hts hIX9 hown hK hP 0 rfl rfl 30 (by decide) (hts (.fieldLink RX9 64 "TraitHouseModel" "values" "[J") (by decide +kernel)) (fun _ h9 => h9) rfl dX9_works_163 ?_
                  refine lv_aload_n hx hb dX9_works_166 rfl (lv_at hl 4 rfl) ?_
                  refine va_get (D := (dC, dI)) (ci := 9) (v := .ref (am 14)) (C := RX9) (T := TX9) (N := 51) hx hb hts hIX9 hown hK hP 0 rfl rfl 27 (by decide) (hts (.fieldLink RX9 55 "TraitHouseModel" "stepA" "[I") (by decide +kernel)) (fun _ h9 => h9) rfl dX9_works_167 ?_
                  refine lv_iload hx hb dX9_works_170 (lv_at hl 1 rfl) ?_
                  have h_78 : vp_in x_8 5000 := (vp_in_iff.mpr ⟨by omega, by omega⟩)
                  refine va_iald hx hb hK hP 10 0 rfl rfl h_78 dX9_works_172 ?_
                  refine lv_topi (fun x_79 ex_79 => ?_)
                  have hA9 := hwf9.2.2.1 (by omega)
                  rw [← ex_79] at hA9
                  have h_80 : vp_in x_79 20 := (vp_in_iff.mpr ⟨by omega, by omega⟩)
                  refine va_lald hx hb hK hP 14 1 rfl rfl h_80 dX9_works_173 ?_
                  refine lv_topl (fun y_81 ey_81 => ?_)
                  have h_82 : vp_in n4 250 := (vp_in_iff.mpr ⟨by omega, by omega⟩)
                  refine va_last hx hb hK hP hD hS 13 1 rfl rfl h_82 dX9_works_174 (fun H locs hP hD hS => ?_)
                  replace hP : va_P (dC, dI) vwCl [((am 0), .inr (9, F9 am v_status v_now v_told v_merges v_taped v_size v_from v_to v_fault v_readFault v_traits v_length v_open v_leaks v_places v_models)), ((am 6), .inl (cA 2, 400, .inl f_isGone)), ((am 2), .inl (cA 0, 400, .inl f_rowStream)), ((am 19), .inl (cA 2, 20, .inl f_isOne)), ((am 1), .inl (cA 0, 400, .inl f_rowPerson)), ((am 3), .inl (cA 0, 400, .inl f_rowMoment)), ((am 4), .inl (cA 0, 400, .inl f_rowKnown)), ((am 5), .inl (cA 0, 400, .inl f_rowValue)), ((am 12), .inl (cA 0, 20, .inl f_size0)), ((am 13), .inl (cA 0, 5000, .inl f_step)), ((am 14), .inl (cA 0, 5000, .inl f_stepA)), ((am 15), .inl (cA 0, 5000, .inl f_stepB)), ((am 16), .inl (cA 0, 5000, .inl f_stepC)), ((am 18), .inl (cA 1, 250, .inr (.inl (vp_updL w_f_heap_6 n4.toNatClampNeg y_81)))), ((am 17), .inl (cA 1, 20, .inr (.inl f_values)))] H := hP
                  replace hD : va_D A [((am 0), .inr (9, F9 am v_status v_now v_told v_merges v_taped v_size v_from v_to v_fault v_readFault v_traits v_length v_open v_leaks v_places v_models)), ((am 6), .inl (cA 2, 400, .inl f_isGone)), ((am 2), .inl (cA 0, 400, .inl f_rowStream)), ((am 19), .inl (cA 2, 20, .inl f_isOne)), ((am 1), .inl (cA 0, 400, .inl f_rowPerson)), ((am 3), .inl (cA 0, 400, .inl f_rowMoment)), ((am 4), .inl (cA 0, 400, .inl f_rowKnown)), ((am 5), .inl (cA 0, 400, .inl f_rowValue)), ((am 12), .inl (cA 0, 20, .inl f_size0)), ((am 13), .inl (cA 0, 5000, .inl f_step)), ((am 14), .inl (cA 0, 5000, .inl f_stepA)), ((am 15), .inl (cA 0, 5000, .inl f_stepB)), ((am 16), .inl (cA 0, 5000, .inl f_stepC)), ((am 18), .inl (cA 1, 250, .inr (.inl (vp_updL w_f_heap_6 n4.toNatClampNeg y_81)))), ((am 17), .inl (cA 1, 20, .inr (.inl f_values)))] := hD
                  obtain ⟨g_83, eg_83⟩ : ∃ g : Nat → Int64, g = vp_updL w_f_heap_6 n4.toNatClampNeg y_81 := ⟨_, rfl⟩
                  rw [← eg_83] at hP hD
                  refine lv_goto (tgt := 263) hx hb dX9_works_175 (by decide) ?_
                  obtain ⟨x_84, ex_84⟩ : ∃ y : Int32, y = n4 + 1 := ⟨_, rfl⟩
                  have dx_84 : x_84.toInt = n4.toInt + 1 := by rw [ex_84]; exact jI_add rfl (by decide) (by omega) (by omega)
                  refine lv_iinc (v := x_84) (lv' := [(4, .int x_84), (7, .int x_10), (6, .int x_8), (5, .int j5), (0, .ref (am 0)), (1, .int a), (2, .int tt), (3, .int kk)]) hx hb dX9_works_263 hl (k := 3) rfl (by rw [ex_84]; rfl) (by decide) rfl (fun ls hl => ?_)
                  obtain ⟨x_85, ex_85⟩ : ∃ y : Int32, y = j5 + 1 := ⟨_, rfl⟩
                  have dx_85 : x_85.toInt = j5.toInt + 1 := by rw [ex_85]; exact jI_add rfl (by decide) (by omega) (by omega)
                  refine lv_iinc (v := x_85) (lv' := [(5, .int x_85), (4, .int x_84), (7, .int x_10), (6, .int x_8), (0, .ref (am 0)), (1, .int a), (2, .int tt), (3, .int kk)]) hx hb dX9_works_266 hl (k := 3) rfl (by rw [ex_85]; rfl) (by decide) rfl (fun ls hl => ?_)
                  refine lv_goto (tgt := 6) hx hb dX9_works_269 (by decide) ?_
                  exact ih_6 x_85 x_84 g_83 _ _ ls (by omega) (by omega) (by omega) (by have e9 : x_85.toInt.toNat = j5.toInt.toNat + 1 := (by omega); rw [e9]; omega) (hP.sub [0, 1, 2, 3, 4, 5, 6, 7, 8, 9, 10, 11, 12, 13, 14] rfl) (hD.sub [0, 1, 2, 3, 4, 5, 6, 7, 8, 9, 10, 11, 12, 13, 14] (by decide) rfl) hS (lv_sub hl [0, 1, 4, 5, 6, 7] rfl)
              · have dc_39 : x_10.toInt = 0 := jI_eq c_39 rfl (by decide)
                exfalso; omega
            · have dc_38 : x_10.toInt = 5 := jI_eq c_38 rfl (by decide)
              refine lv_aload_n hx hb dX9_works_90 rfl (lv_at hl 4 rfl) ?_
              refine va_get (D := (dC, dI)) (ci := 9) (v := .ref (am 18)) (C := RX9) (T := TX9) (N := 51) hx hb hts hIX9 hown hK hP 0 rfl rfl 31 (by decide) (hts (.fieldLink RX9 68 "TraitHouseModel" "heap" "[J") (by decide +kernel)) (fun _ h9 => h9) rfl dX9_works_91 ?_
              refine lv_iload hx hb dX9_works_94 (lv_at hl 3 rfl) ?_
              refine lv_iconst (v := 1) hx hb dX9_works_96 (by decide) ?_
              refine lv_isub hx hb dX9_works_97 ?_
              refine lv_topi (fun x_86 ex_86 => ?_)
              have dx_86 : x_86.toInt = n4.toInt - 1 := by rw [ex_86]; exact jI_sub rfl (by decide) (by omega) (by omega)
              have h_87 : vp_in x_86 250 := (vp_in_iff.mpr ⟨by omega, by omega⟩)
              refine va_lald hx hb hK hP 13 1 rfl rfl h_87 dX9_works_98 ?_
              refine lv_topl (fun y_88 ey_88 => ?_)
              refine lv_ldc2 hx hb hown (hts (.constantLong RX9 274 (-9000000000000000000)) (by decide +kernel)) dX9_works_99 ?_
              refine W.lcmp hx hb dX9_works_102 ?_
              refine lv_topi (fun k_89 ek_89 => ?_)
              have dk_89 : (k_89.toInt < 0 ↔ y_88.toInt < (-9000000000000000000)) ∧ (k_89.toInt = 0 ↔ y_88.toInt = (-9000000000000000000)) ∧ (0 < k_89.toInt ↔ (-9000000000000000000) < y_88.toInt) := jI_cmp ek_89 rfl (by decide)
              refine lv_if_ne (tgt := 266) hx hb dX9_works_103 (by decide) (fun c_90 => ?_) (fun c_90 => ?_)
              · have dc_90 : ¬ k_89.toInt = 0 := jI_ne c_90 rfl (by decide)
                obtain ⟨x_91, ex_91⟩ : ∃ y : Int32, y = j5 + 1 := ⟨_, rfl⟩
                have dx_91 : x_91.toInt = j5.toInt + 1 := by rw [ex_91]; exact jI_add rfl (by decide) (by omega) (by omega)
                refine lv_iinc (v := x_91) (lv' := [(5, .int x_91), (7, .int x_10), (6, .int x_8), (4, .int n4), (0, .ref (am 0)), (1, .int a), (2, .int tt), (3, .int kk)]) hx hb dX9_works_266 hl (k := 2) rfl (by rw [ex_91]; rfl) (by decide) rfl (fun ls hl => ?_)
                refine lv_goto (tgt := 6) hx hb dX9_works_269 (by decide) ?_
                exact ih_6 x_91 n4 w_f_heap_6 _ _ ls (by omega) (by omega) hv1_6 (by have e9 : x_91.toInt.toNat = j5.toInt.toNat + 1 := (by omega); rw [e9]; omega) (hP.sub [0, 1, 2, 3, 4, 5, 6, 7, 8, 9, 10, 11, 12, 13, 14] rfl) (hD.sub [0, 1, 2, 3, 4, 5, 6, 7, 8, 9, 10, 11, 12, 13, 14] (by decide) rfl) hS (lv_sub hl [0, 3, 4, 5, 6, 7] rfl)
              · have dc_90 : k_89.toInt = 0 := jI_eq c_90 rfl (by decide)
                refine lv_aload_n hx hb dX9_works_106 rfl (lv_at hl 4 rfl) ?_
                refine va_get (D := (dC, dI)) (ci := 9) (v := .ref (am 18)) (C := RX9) (T := TX9) (N := 51) hx hb hts hIX9 hown hK hP 0 rfl rfl 31 (by decide) (hts (.fieldLink RX9 68 "TraitHouseModel" "heap" "[J") (by decide +kernel)) (fun _ h9 => h9) rfl dX9_works_107 ?_
                refine lv_iload hx hb dX9_works_110 (lv_at hl 3 rfl) ?_
                refine lv_iconst (v := 1) hx hb dX9_works_112 (by decide) ?_
                refine lv_isub hx hb dX9_works_113 ?_
                refine lv_topi (fun x_92 ex_92 => ?_)
                have dx_92 : x_92.toInt = n4.toInt - 1 := by rw [ex_92]; exact jI_sub rfl (by decide) (by omega) (by omega)
                refine lv_aload_n hx hb dX9_works_114 rfl (lv_at hl 4 rfl) ?_
                refine va_get (D := (dC, dI)) (ci := 9) (v := .ref (am 14)) (C := RX9) (T := TX9) (N := 51) hx hb hts hIX9 hown hK hP 0 rfl rfl 27 (by decide) (hts (.fieldLink RX9 55 "TraitHouseModel" "stepA" "[I") (by decide +kernel)) (fun _ h9 => h9) rfl dX9_works_115 ?_
                refine lv_iload hx hb dX9_works_118 (lv_at hl 1 rfl) ?_
                have h_93 : vp_in x_8 5000 := (vp_in_iff.mpr ⟨by omega, by omega⟩)
                refine va_iald hx hb hK hP 10 0 rfl rfl h_93 dX9_works_120 ?_
                refine lv_topi (fun x_94 ex_94 => ?_)
                obtain ⟨y_95, ey_95⟩ : ∃ y : Int64, y = x_94.toInt64 := ⟨_, rfl⟩
                have dy_95 : y_95.toInt = x_94.toInt := by rw [ey_95]; exact Int32.toInt_toInt64 _
                refine lv_i2l (v := y_95) hx hb dX9_works_121 ey_95.symm ?_
                have h_96 : vp_in x_92 250 := (vp_in_iff.mpr ⟨by omega, by omega⟩)
                refine va_last hx hb hK hP hD hS 13 1 rfl rfl h_96 dX9_works_122 (fun H locs hP hD hS => ?_)
                replace hP : va_P (dC, dI) vwCl [((am 0), .inr (9, F9 am v_status v_now v_told v_merges v_taped v_size v_from v_to v_fault v_readFault v_traits v_length v_open v_leaks v_places v_models)), ((am 6), .inl (cA 2, 400, .inl f_isGone)), ((am 2), .inl (cA 0, 400, .inl f_rowStream)), ((am 19), .inl (cA 2, 20, .inl f_isOne)), ((am 1), .inl (cA 0, 400, .inl f_rowPerson)), ((am 3), .inl (cA 0, 400, .inl f_rowMoment)), ((am 4), .inl (cA 0, 400, .inl f_rowKnown)), ((am 5), .inl (cA 0, 400, .inl f_rowValue)), ((am 12), .inl (cA 0, 20, .inl f_size0)), ((am 13), .inl (cA 0, 5000, .inl f_step)), ((am 14), .inl (cA 0, 5000, .inl f_stepA)), ((am 15), .inl (cA 0, 5000, .inl f_stepB)), ((am 16), .inl (cA 0, 5000, .inl f_stepC)), ((am 18), .inl (cA 1, 250, .inr (.inl (vp_updL w_f_heap_6 x_92.toNatClampNeg y_95)))), ((am 17), .inl (cA 1, 20, .inr (.inl f_values)))] H := hP
                replace hD : va_D A [((am 0), .inr (9, F9 am v_status v_now v_told v_merges v_taped v_size v_from v_to v_fault v_readFault v_traits v_length v_open v_leaks v_places v_models)), ((am 6), .inl (cA 2, 400, .inl f_isGone)), ((am 2), .inl (cA 0, 400, .inl f_rowStream)), ((am 19), .inl (cA 2, 20, .inl f_isOne)), ((am 1), .inl (cA 0, 400, .inl f_rowPerson)), ((am 3), .inl (cA 0, 400, .inl f_rowMoment)), ((am 4), .inl (cA 0, 400, .inl f_rowKnown)), ((am 5), .inl (cA 0, 400, .inl f_rowValue)), ((am 12), .inl (cA 0, 20, .inl f_size0)), ((am 13), .inl (cA 0, 5000, .inl f_step)), ((am 14), .inl (cA 0, 5000, .inl f_stepA)), ((am 15), .inl (cA 0, 5000, .inl f_stepB)), ((am 16), .inl (cA 0, 5000, .inl f_stepC)), ((am 18), .inl (cA 1, 250, .inr (.inl (vp_updL w_f_heap_6 x_92.toNatClampNeg y_95)))), ((am 17), .inl (cA 1, 20, .inr (.inl f_values)))] := hD
                obtain ⟨g_97, eg_97⟩ : ∃ g : Nat → Int64, g = vp_updL w_f_heap_6 x_92.toNatClampNeg y_95 := ⟨_, rfl⟩
                rw [← eg_97] at hP hD
                refine lv_goto (tgt := 266) hx hb dX9_works_123 (by decide) ?_
                obtain ⟨x_98, ex_98⟩ : ∃ y : Int32, y = j5 + 1 := ⟨_, rfl⟩
                have dx_98 : x_98.toInt = j5.toInt + 1 := by rw [ex_98]; exact jI_add rfl (by decide) (by omega) (by omega)
                refine lv_iinc (v := x_98) (lv' := [(5, .int x_98), (7, .int x_10), (6, .int x_8), (4, .int n4), (0, .ref (am 0)), (1, .int a), (2, .int tt), (3, .int kk)]) hx hb dX9_works_266 hl (k := 2) rfl (by rw [ex_98]; rfl) (by decide) rfl (fun ls hl => ?_)
                refine lv_goto (tgt := 6) hx hb dX9_works_269 (by decide) ?_
                exact ih_6 x_98 n4 g_97 _ _ ls (by omega) (by omega) hv1_6 (by have e9 : x_98.toInt.toNat = j5.toInt.toNat + 1 := (by omega); rw [e9]; omega) (hP.sub [0, 1, 2, 3, 4, 5, 6, 7, 8, 9, 10, 11, 12, 13, 14] rfl) (hD.sub [0, 1, 2, 3, 4, 5, 6, 7, 8, 9, 10, 11, 12, 13, 14] (by decide) rfl) hS (lv_sub hl [0, 3, 4, 5, 6, 7] rfl)
          · have dc_37 : x_10.toInt ≤ 4 := jI_nlt c_37 (by decide) rfl
            obtain ⟨x_99, ex_99⟩ : ∃ y : Int32, y = n4 + (-1) := ⟨_, rfl⟩
            have dx_99 : x_99.toInt = n4.toInt + (-1) := by rw [ex_99]; exact jI_add rfl (by decide) (by omega) (by omega)
            refine lv_iinc (v := x_99) (lv' := [(4, .int x_99), (7, .int x_10), (6, .int x_8), (5, .int j5), (0, .ref (am 0)), (1, .int a), (2, .int tt), (3, .int kk)]) hx hb dX9_works_48 hl (k := 3) rfl (by rw [ex_99]; rfl) (by decide) rfl (fun ls hl => ?_)
            refine lv_aload_n hx hb dX9_works_51 rfl (lv_at hl 4 rfl) ?_
            refine va_get (D := (dC, dI)) (ci := 9) (v := .ref (am 18)) (C := RX9) (T := TX9) (N := 51) hx hb hts hIX9 hown hK hP 0 rfl rfl 31 (by decide) (hts (.fieldLink RX9 68 "TraitHouseModel" "heap" "[J") (by decide +kernel)) (fun _ h9 => h9) rfl dX9_works_52 ?_
            refine lv_iload hx hb dX9_works_55 (lv_at hl 0 rfl) ?_
            refine lv_iconst (v := 1) hx hb dX9_works_57 (by decide) ?_
            refine lv_isub hx hb dX9_works_58 ?_
            refine lv_topi (fun x_100 ex_100 => ?_)
            have dx_100 : x_100.toInt = x_99.toInt - 1 := by rw [ex_100]; exact jI_sub rfl (by decide) (by omega) (by omega)
            refine lv_iload hx hb dX9_works_59 (lv_at hl 1 rfl) ?_
            refine lv_aload_n hx hb dX9_works_61 rfl (lv_at hl 4 rfl) ?_
            refine va_get (D := (dC, dI)) (ci := 9) (v := .ref (am 18)) (C := RX9) (T := TX9) (N := 51) hx hb hts hIX9 hown hK hP 0 rfl rfl 31 (by decide) (hts (.fieldLink RX9 68 "TraitHouseModel" "heap" "[J") (by decide +kernel)) (fun _ h9 => h9) rfl dX9_works_62 ?_
            refine lv_iload hx hb dX9_works_65 (lv_at hl 0 rfl) ?_
            refine lv_iconst (v := 1) hx hb dX9_works_67 (by decide) ?_
            refine lv_isub hx hb dX9_works_68 ?_
            refine lv_topi (fun x_101 ex_101 => ?_)
            have dx_101 : x_101.toInt = x_99.toInt - 1 := by rw [ex_101]; exact jI_sub rfl (by decide) (by omega) (by omega)
            have h_102 : vp_in x_101 250 := (vp_in_iff.mpr ⟨by omega, by omega⟩)
            refine va_lald hx hb hK hP 13 1 rfl rfl h_102 dX9_works_69 ?_
            refine lv_topl (fun y_103 ey_103 => ?_)
            refine lv_aload_n hx hb dX9_works_70 rfl (lv_at hl 4 rfl) ?_
            refine va_get (D := (dC, dI)) (ci := 9) (v := .ref (am 18)) (C := RX9) (T := TX9) (N := 51) hx hb hts hIX9 hown hK hP 0 rfl rfl 31 (by decide) (hts (.fieldLink RX9 68 "TraitHouseModel" "heap" "[J") (by decide +kernel)) (fun _ h9 => h9) rfl dX9_works_71 ?_
            refine lv_iload hx hb dX9_works_74 (lv_at hl 0 rfl) ?_
            have h_104 : vp_in x_99 250 := (vp_in_iff.mpr ⟨by omega, by omega⟩)
            refine va_lald hx hb hK hP 13 1 rfl rfl h_104 dX9_works_76 ?_
            refine lv_topl (fun y_105 ey_105 => ?_)
            obtain ⟨hPc, hDc, hFc, hCc⟩ := va_pre (ws' := []) hP hD hS hA [] (by decide) rfl
            refine va_calll (va_runS (As := [.int x_10, .long y_103, .long y_105]) (rest := [.int x_100, .ref (am 18)]) ⟨hx, hb, hml, hown, hts⟩ (k_X9_two l dC dI cA H.size x_10 y_103 y_105 ) (va_cwS 3 hts gX9_works_X9_two rfl rfl rfl (by decide +kernel) ⟨Nat.le_of_ble_eq_true rfl, Nat.le_of_ble_eq_true rfl⟩) ⟨fun a U g mk q => by obtain ⟨q0, q1, qP, qK, qD, qN⟩ := q; exact ⟨q0, q1, qP, va_K.moved (u := U) (U := U.calling g mk a) (Vm.Alike.refl U.vm) qK, qD, qN.same rfl⟩, fun U hU hW => ⟨rfl, by rw [hU], by rw [hU]; exact hPc, va_K.moved hW.alike hK, hDc.weaken (fun _ _ _ _ => trivial), hN.warm hW⟩⟩ rfl rfl hl.1 rfl (lv_room (Nat.le_of_ble_eq_true rfl)) dX9_works_77 ⟨Nat.le_of_ble_eq_true rfl, Nat.le_of_ble_eq_true rfl⟩) hS (fun q _ h => hFc q h) hFc (fun r_106 u_107 t H1 locs ht hvm hw_108 hB hz1 hk1 hS => ?_)
            try dsimp only at hw_108 hB
            obtain ⟨hP1, hD1⟩ := hB
            rw [ht] at hP1
            obtain ⟨hP, hD⟩ := va_join (wr := [((am 0), .inr (9, F9 am v_status v_now v_told v_merges v_taped v_size v_from v_to v_fault v_readFault v_traits v_length v_open v_leaks v_places v_models)), ((am 6), .inl (cA 2, 400, .inl f_isGone)), ((am 2), .inl (cA 0, 400, .inl f_rowStream)), ((am 19), .inl (cA 2, 20, .inl f_isOne)), ((am 1), .inl (cA 0, 400, .inl f_rowPerson)), ((am 3), .inl (cA 0, 400, .inl f_rowMoment)), ((am 4), .inl (cA 0, 400, .inl f_rowKnown)), ((am 5), .inl (cA 0, 400, .inl f_rowValue)), ((am 12), .inl (cA 0, 20, .inl f_size0)), ((am 13), .inl (cA 0, 5000, .inl f_step)), ((am 14), .inl (cA 0, 5000, .inl f_stepA)), ((am 15), .inl (cA 0, 5000, .inl f_stepB)), ((am 16), .inl (cA 0, 5000, .inl f_stepC)), ((am 18), .inl (cA 1, 250, .inr (.inl w_f_heap_6))), ((am 17), .inl (cA 1, 20, .inr (.inl f_values)))]) (w1 := []) hP hD [] [0, 1, 2, 3, 4, 5, 6, 7, 8, 9, 10, 11, 12, 13, 14] hCc rfl (by decide) (by decide) hk1 hFc hP1 hD1
            clear hz1
            generalize H1 = H at hP hS ⊢
            have h_109 : vp_in x_100 250 := (vp_in_iff.mpr ⟨by omega, by omega⟩)
            refine va_last hx hb hK hP hD hS 13 1 rfl rfl h_109 dX9_works_80 (fun H locs hP hD hS => ?_)
            replace hP : va_P (dC, dI) vwCl [((am 0), .inr (9, F9 am v_status v_now v_told v_merges v_taped v_size v_from v_to v_fault v_readFault v_traits v_length v_open v_leaks v_places v_models)), ((am 6), .inl (cA 2, 400, .inl f_isGone)), ((am 2), .inl (cA 0, 400, .inl f_rowStream)), ((am 19), .inl (cA 2, 20, .inl f_isOne)), ((am 1), .inl (cA 0, 400, .inl f_rowPerson)), ((am 3), .inl (cA 0, 400, .inl f_rowMoment)), ((am 4), .inl (cA 0, 400, .inl f_rowKnown)), ((am 5), .inl (cA 0, 400, .inl f_rowValue)), ((am 12), .inl (cA 0, 20, .inl f_size0)), ((am 13), .inl (cA 0, 5000, .inl f_step)), ((am 14), .inl (cA 0, 5000, .inl f_stepA)), ((am 15), .inl (cA 0, 5000, .inl f_stepB)), ((am 16), .inl (cA 0, 5000, .inl f_stepC)), ((am 18), .inl (cA 1, 250, .inr (.inl (vp_updL w_f_heap_6 x_100.toNatClampNeg r_106)))), ((am 17), .inl (cA 1, 20, .inr (.inl f_values)))] H := hP
            replace hD : va_D A [((am 0), .inr (9, F9 am v_status v_now v_told v_merges v_taped v_size v_from v_to v_fault v_readFault v_traits v_length v_open v_leaks v_places v_models)), ((am 6), .inl (cA 2, 400, .inl f_isGone)), ((am 2), .inl (cA 0, 400, .inl f_rowStream)), ((am 19), .inl (cA 2, 20, .inl f_isOne)), ((am 1), .inl (cA 0, 400, .inl f_rowPerson)), ((am 3), .inl (cA 0, 400, .inl f_rowMoment)), ((am 4), .inl (cA 0, 400, .inl f_rowKnown)), ((am 5), .inl (cA 0, 400, .inl f_rowValue)), ((am 12), .inl (cA 0, 20, .inl f_size0)), ((am 13), .inl (cA 0, 5000, .inl f_step)), ((am 14), .inl (cA 0, 5000, .inl f_stepA)), ((am 15), .inl (cA 0, 5000, .inl f_stepB)), ((am 16), .inl (cA 0, 5000, .inl f_stepC)), ((am 18), .inl (cA 1, 250, .inr (.inl (vp_updL w_f_heap_6 x_100.toNatClampNeg r_106)))), ((am 17), .inl (cA 1, 20, .inr (.inl f_values)))] := hD
            obtain ⟨g_110, eg_110⟩ : ∃ g : Nat → Int64, g = vp_updL w_f_heap_6 x_100.toNatClampNeg r_106 := ⟨_, rfl⟩
            rw [← eg_110] at hP hD
            refine lv_goto (tgt := 266) hx hb dX9_works_81 (by decide) ?_
            obtain ⟨x_111, ex_111⟩ : ∃ y : Int32, y = j5 + 1 := ⟨_, rfl⟩
            have dx_111 : x_111.toInt = j5.toInt + 1 := by rw [ex_111]; exact jI_add rfl (by decide) (by omega) (by omega)
            refine lv_iinc (v := x_111) (lv' := [(5, .int x_111), (4, .int x_99), (7, .int x_10), (6, .int x_8), (0, .ref (am 0)), (1, .int a), (2, .int tt), (3, .int kk)]) hx hb dX9_works_266 hl (k := 3) rfl (by rw [ex_111]; rfl) (by decide) rfl (fun ls hl => ?_)
            refine lv_goto (tgt := 6) hx hb dX9_works_269 (by decide) ?_
            exact ih_6 x_111 x_99 g_110 _ _ ls (by omega) (by omega) (by omega) (by have e9 : x_111.toInt.toNat = j5.toInt.toNat + 1 := (by omega); rw [e9]; omega) (hP.sub [0, 1, 2, 3, 4, 5, 6, 7, 8, 9, 10, 11, 12, 13, 14] rfl) (hD.sub [0, 1, 2, 3, 4, 5, 6, 7, 8, 9, 10, 11, 12, 13, 14] (by decide) rfl) hS (lv_sub hl [0, 1, 4, 5, 6, 7] rfl)
  have hk_112 : (0 : Int32).toInt = 0 := by decide
  have hk_113 : (0 : Int32).toInt = 0 := by decide
  exact loop6_1 (Int.toNat (200 - (0 : Int32).toInt) + 1) 0 0 f_heap _ _ ls (by omega) (by omega) (by omega) (rfl) hP hD hS (lv_sub hl [0, 1, 2, 3, 4, 5] rfl)

set_option maxHeartbeats 8000000 in
set_option maxRecDepth 100000 in
theorem k_X9_valueOf (l : Launch) (dC : Nat → ClassId) (dI : Nat → Nat → Nat) (cA : Nat → ClassId) (sz : Nat) (am : Nat → Nat) (v_status : Int32) (v_now : Int32) (v_told : Int32) (v_merges : Int32) (v_taped : Int32) (v_size : Int32) (v_from : Int32) (v_to : Int32) (v_fault : Int32) (v_readFault : Int32) (v_traits : Int32) (v_length : Int32) (v_open : Int32) (v_leaks : Int32) (v_places : Int32) (v_models : Int32) (f_isGone : Nat → Int32) (f_rowStream : Nat → Int32) (f_isOne : Nat → Int32) (f_rowPerson : Nat → Int32) (f_rowMoment : Nat → Int32) (f_rowKnown : Nat → Int32) (f_rowValue : Nat → Int32) (f_size0 : Nat → Int32) (f_step : Nat → Int32) (f_stepA : Nat → Int32) (f_stepB : Nat → Int32) (f_stepC : Nat → Int32) (f_heap : Nat → Int64) (f_values : Nat → Int64) (f_mergeTo : Nat → Int32) (f_mergeKnown : Nat → Int32) (tt : Int32) (pp : Int32) (mo : Int32) (kn : Int32) (i_v_now : 0 ≤ v_now.toInt ∧ v_now.toInt ≤ 100000) (i_v_told : 0 ≤ v_told.toInt ∧ v_told.toInt ≤ 400) (i_v_taped : 0 ≤ v_taped.toInt ∧ v_taped.toInt ≤ 200) (i_v_size : 0 ≤ v_size.toInt ∧ v_size.toInt ≤ 200) (i_v_from : 0 ≤ v_from.toInt ∧ v_from.toInt ≤ 200) (i_v_to : 0 ≤ v_to.toInt ∧ v_to.toInt ≤ 200) (i_v_traits : 0 ≤ v_traits.toInt ∧ v_traits.toInt ≤ 20) (i_v_length : 0 ≤ v_length.toInt ∧ v_length.toInt ≤ 200) (i_v_open : 0 ≤ v_open.toInt ∧ v_open.toInt ≤ 8) (i_v_places : 0 ≤ v_places.toInt ∧ v_places.toInt ≤ 2000) (i_v_models : 0 ≤ v_models.toInt ∧ v_models.toInt ≤ 10) (i_f_rowPerson : inB 0 19 400 f_rowPerson) (i_f_size0 : inB 0 200 20 f_size0) (i_f_mergeTo : inB (-1) 19 20 f_mergeTo) (i_f_mergeKnown : inB 0 100000 20 f_mergeKnown) (hac : Acyc f_mergeTo) (hpr : progOK f_step f_stepA f_size0 v_traits) (htt : 0 ≤ tt.toInt ∧ tt.toInt < v_traits.toInt) (hpp : 0 ≤ pp.toInt ∧ pp.toInt ≤ 19) : Met l yX9_valueOf wsX9_valueOf ({ frames := 3, cells := 0, slots := 0, locals := 82 }) (va_Pc [.ref (am 0), .int tt, .int pp, .int mo, .int kn] (fun U => U.heap.size = sz ∧ va_P (dC, dI) vwCl [((am 0), .inr (9, F9 am v_status v_now v_told v_merges v_taped v_size v_from v_to v_fault v_readFault v_traits v_length v_open v_leaks v_places v_models)), ((am 6), .inl (cA 2, 400, .inl f_isGone)), ((am 2), .inl (cA 0, 400, .inl f_rowStream)), ((am 19), .inl (cA 2, 20, .inl f_isOne)), ((am 1), .inl (cA 0, 400, .inl f_rowPerson)), ((am 3), .inl (cA 0, 400, .inl f_rowMoment)), ((am 4), .inl (cA 0, 400, .inl f_rowKnown)), ((am 5), .inl (cA 0, 400, .inl f_rowValue)), ((am 12), .inl (cA 0, 20, .inl f_size0)), ((am 13), .inl (cA 0, 5000, .inl f_step)), ((am 14), .inl (cA 0, 5000, .inl f_stepA)), ((am 15), .inl (cA 0, 5000, .inl f_stepB)), ((am 16), .inl (cA 0, 5000, .inl f_stepC)), ((am 18), .inl (cA 1, 250, .inr (.inl f_heap))), ((am 17), .inl (cA 1, 20, .inr (.inl f_values))), ((am 7), .inl (cA 0, 20, .inl f_mergeTo)), ((am 8), .inl (cA 0, 20, .inl f_mergeKnown))] U.heap ∧ va_K (dC, dI) vwCl (tyL cA) U ∧ va_D (fun _ => True) [((am 0), .inr (9, F9 am v_status v_now v_told v_merges v_taped v_size v_from v_to v_fault v_readFault v_traits v_length v_open v_leaks v_places v_models)), ((am 6), .inl (cA 2, 400, .inl f_isGone)), ((am 2), .inl (cA 0, 400, .inl f_rowStream)), ((am 19), .inl (cA 2, 20, .inl f_isOne)), ((am 1), .inl (cA 0, 400, .inl f_rowPerson)), ((am 3), .inl (cA 0, 400, .inl f_rowMoment)), ((am 4), .inl (cA 0, 400, .inl f_rowKnown)), ((am 5), .inl (cA 0, 400, .inl f_rowValue)), ((am 12), .inl (cA 0, 20, .inl f_size0)), ((am 13), .inl (cA 0, 5000, .inl f_step)), ((am 14), .inl (cA 0, 5000, .inl f_stepA)), ((am 15), .inl (cA 0, 5000, .inl f_stepB)), ((am 16), .inl (cA 0, 5000, .inl f_stepC)), ((am 18), .inl (cA 1, 250, .inr (.inl f_heap))), ((am 17), .inl (cA 1, 20, .inr (.inl f_values))), ((am 7), .inl (cA 0, 20, .inl f_mergeTo)), ((am 8), .inl (cA 0, 20, .inl f_mergeKnown))] ∧ nw_ok U)) (va_Ql (fun (r : Int64) (u : (Nat → Int64) × (Nat → Int64) × (Nat → Int32)) => True) (fun (u : (Nat → Int64) × (Nat → Int64) × (Nat → Int32)) (t : State) => va_P (dC, dI) vwCl [((am 0), .inr (9, F9 am v_status v_now v_told v_merges v_taped v_size v_from v_to v_fault v_readFault v_traits v_length v_open v_leaks v_places v_models)), ((am 6), .inl (cA 2, 400, .inl f_isGone)), ((am 2), .inl (cA 0, 400, .inl f_rowStream)), ((am 19), .inl (cA 2, 20, .inl u.2.2)), ((am 1), .inl (cA 0, 400, .inl f_rowPerson)), ((am 3), .inl (cA 0, 400, .inl f_rowMoment)), ((am 4), .inl (cA 0, 400, .inl f_rowKnown)), ((am 5), .inl (cA 0, 400, .inl f_rowValue)), ((am 12), .inl (cA 0, 20, .inl f_size0)), ((am 13), .inl (cA 0, 5000, .inl f_step)), ((am 14), .inl (cA 0, 5000, .inl f_stepA)), ((am 15), .inl (cA 0, 5000, .inl f_stepB)), ((am 16), .inl (cA 0, 5000, .inl f_stepC)), ((am 18), .inl (cA 1, 250, .inr (.inl u.1))), ((am 17), .inl (cA 1, 20, .inr (.inl u.2.1))), ((am 7), .inl (cA 0, 20, .inl f_mergeTo)), ((am 8), .inl (cA 0, 20, .inl f_mergeKnown))] t.heap ∧ va_D (va_A [((am 0), .inr (9, F9 am v_status v_now v_told v_merges v_taped v_size v_from v_to v_fault v_readFault v_traits v_length v_open v_leaks v_places v_models)), ((am 6), .inl (cA 2, 400, .inl f_isGone)), ((am 2), .inl (cA 0, 400, .inl f_rowStream)), ((am 19), .inl (cA 2, 20, .inl f_isOne)), ((am 1), .inl (cA 0, 400, .inl f_rowPerson)), ((am 3), .inl (cA 0, 400, .inl f_rowMoment)), ((am 4), .inl (cA 0, 400, .inl f_rowKnown)), ((am 5), .inl (cA 0, 400, .inl f_rowValue)), ((am 12), .inl (cA 0, 20, .inl f_size0)), ((am 13), .inl (cA 0, 5000, .inl f_step)), ((am 14), .inl (cA 0, 5000, .inl f_stepA)), ((am 15), .inl (cA 0, 5000, .inl f_stepB)), ((am 16), .inl (cA 0, 5000, .inl f_stepC)), ((am 18), .inl (cA 1, 250, .inr (.inl f_heap))), ((am 17), .inl (cA 1, 20, .inr (.inl f_values))), ((am 7), .inl (cA 0, 20, .inl f_mergeTo)), ((am 8), .inl (cA 0, 20, .inl f_mergeKnown))] sz) [((am 0), .inr (9, F9 am v_status v_now v_told v_merges v_taped v_size v_from v_to v_fault v_readFault v_traits v_length v_open v_leaks v_places v_models)), ((am 6), .inl (cA 2, 400, .inl f_isGone)), ((am 2), .inl (cA 0, 400, .inl f_rowStream)), ((am 19), .inl (cA 2, 20, .inl u.2.2)), ((am 1), .inl (cA 0, 400, .inl f_rowPerson)), ((am 3), .inl (cA 0, 400, .inl f_rowMoment)), ((am 4), .inl (cA 0, 400, .inl f_rowKnown)), ((am 5), .inl (cA 0, 400, .inl f_rowValue)), ((am 12), .inl (cA 0, 20, .inl f_size0)), ((am 13), .inl (cA 0, 5000, .inl f_step)), ((am 14), .inl (cA 0, 5000, .inl f_stepA)), ((am 15), .inl (cA 0, 5000, .inl f_stepB)), ((am 16), .inl (cA 0, 5000, .inl f_stepC)), ((am 18), .inl (cA 1, 250, .inr (.inl u.1))), ((am 17), .inl (cA 1, 20, .inr (.inl u.2.1))), ((am 7), .inl (cA 0, 20, .inl f_mergeTo)), ((am 8), .inl (cA 0, 20, .inl f_mergeKnown))]) (va_A [((am 0), .inr (9, F9 am v_status v_now v_told v_merges v_taped v_size v_from v_to v_fault v_readFault v_traits v_length v_open v_leaks v_places v_models)), ((am 6), .inl (cA 2, 400, .inl f_isGone)), ((am 2), .inl (cA 0, 400, .inl f_rowStream)), ((am 19), .inl (cA 2, 20, .inl f_isOne)), ((am 1), .inl (cA 0, 400, .inl f_rowPerson)), ((am 3), .inl (cA 0, 400, .inl f_rowMoment)), ((am 4), .inl (cA 0, 400, .inl f_rowKnown)), ((am 5), .inl (cA 0, 400, .inl f_rowValue)), ((am 12), .inl (cA 0, 20, .inl f_size0)), ((am 13), .inl (cA 0, 5000, .inl f_step)), ((am 14), .inl (cA 0, 5000, .inl f_stepA)), ((am 15), .inl (cA 0, 5000, .inl f_stepB)), ((am 16), .inl (cA 0, 5000, .inl f_stepC)), ((am 18), .inl (cA 1, 250, .inr (.inl f_heap))), ((am 17), .inl (cA 1, 20, .inr (.inl f_values))), ((am 7), .inl (cA 0, 20, .inl f_mergeTo)), ((am 8), .inl (cA 0, 20, .inl f_mergeKnown))] sz)) 0 0 (va_A [((am 0), .inr (9, F9 am v_status v_now v_told v_merges v_taped v_size v_from v_to v_fault v_readFault v_traits v_length v_open v_leaks v_places v_models)), ((am 6), .inl (cA 2, 400, .inl f_isGone)), ((am 2), .inl (cA 0, 400, .inl f_rowStream)), ((am 19), .inl (cA 2, 20, .inl f_isOne)), ((am 1), .inl (cA 0, 400, .inl f_rowPerson)), ((am 3), .inl (cA 0, 400, .inl f_rowMoment)), ((am 4), .inl (cA 0, 400, .inl f_rowKnown)), ((am 5), .inl (cA 0, 400, .inl f_rowValue)), ((am 12), .inl (cA 0, 20, .inl f_size0)), ((am 13), .inl (cA 0, 5000, .inl f_step)), ((am 14), .inl (cA 0, 5000, .inl f_stepA)), ((am 15), .inl (cA 0, 5000, .inl f_stepB)), ((am 16), .inl (cA 0, 5000, .inl f_stepC)), ((am 18), .inl (cA 1, 250, .inr (.inl f_heap))), ((am 17), .inl (cA 1, 20, .inr (.inl f_values))), ((am 7), .inl (cA 0, 20, .inl f_mergeTo)), ((am 8), .inl (cA 0, 20, .inl f_mergeKnown))] sz) := by
  refine Met.ofW (cc := cX9_valueOf) (maxL := 6) (ret := (some .long)) (by decide) rfl ?_
  intro p e s m args below meth c s₁ B hml hv
  obtain ⟨rfl, hsz, hP, hK, hD0, hN⟩ := hv
  have hx := B.exec
  have hb := B.bytes
  have hr := B.returns
  have hts := atoms_spec (ws := wsX9_valueOf) B.pre
  have hown : s.vm.findClass RX9 = some m.cls := findClass_of_methodNamed B.named
  have hlocks := B.notSynchronized
  subst hsz
  have hD := hD0.self (sz := s.heap.size)
  generalize hAe : va_A [((am 0), .inr (9, F9 am v_status v_now v_told v_merges v_taped v_size v_from v_to v_fault v_readFault v_traits v_length v_open v_leaks v_places v_models)), ((am 6), .inl (cA 2, 400, .inl f_isGone)), ((am 2), .inl (cA 0, 400, .inl f_rowStream)), ((am 19), .inl (cA 2, 20, .inl f_isOne)), ((am 1), .inl (cA 0, 400, .inl f_rowPerson)), ((am 3), .inl (cA 0, 400, .inl f_rowMoment)), ((am 4), .inl (cA 0, 400, .inl f_rowKnown)), ((am 5), .inl (cA 0, 400, .inl f_rowValue)), ((am 12), .inl (cA 0, 20, .inl f_size0)), ((am 13), .inl (cA 0, 5000, .inl f_step)), ((am 14), .inl (cA 0, 5000, .inl f_stepA)), ((am 15), .inl (cA 0, 5000, .inl f_stepB)), ((am 16), .inl (cA 0, 5000, .inl f_stepC)), ((am 18), .inl (cA 1, 250, .inr (.inl f_heap))), ((am 17), .inl (cA 1, 20, .inr (.inl f_values))), ((am 7), .inl (cA 0, 20, .inl f_mergeTo)), ((am 8), .inl (cA 0, 20, .inl f_mergeKnown))] s.heap.size = A at hD ⊢
  have hA : ∀ q : Nat, s.heap.size ≤ q → A q := fun q h => by rw [← hAe]; exact Or.inr h
  have hS : va_S A s.heap s.heap [] := va_S.rf
  have hIX9 : ∀ w ∈ u_ws RX9 TX9 51, w ∈ wsX9_valueOf := by decide +kernel
  have hl := lv_entry ([.ref (am 0), .int tt, .int pp, .int mo, .int kn]) (n := 6) (Nat.le_of_ble_eq_true rfl)
  rw [lg_entry_eq]
  generalize (lg_sl ([.ref (am 0), .int tt, .int pp, .int mo, .int kn]) ++ List.replicate (6 - (lg_sl ([.ref (am 0), .int tt, .int pp, .int mo, .int kn])).length) Slot.unset).toArray = ls at hl ⊢
  have hl : lv_has ls 6 [(0, .ref (am 0)), (1, .int tt), (2, .int pp), (3, .int mo), (4, .int kn)] := hl
  generalize hQe : MQ below _ _ _ _ _ _ = QQ
  refine lv_iconst (v := 0) hx hb dX9_valueOf_0 (by decide) ?_
  refine lv_istore (lv' := [(5, .int 0), (0, .ref (am 0)), (1, .int tt), (2, .int pp), (3, .int mo), (4, .int kn)]) hx hb dX9_valueOf_1 hl (by decide) rfl (fun ls hl => ?_)
  have loop3_1 : ∀ (n : Nat) (i5 : Int32) (w_f_isOne_3 : Nat → Int32) (H : Heap) (locs : List Loc) (ls : Array Slot), 20 - i5.toInt < (n : Int) → (0 ≤ i5.toInt ∧ i5.toInt ≤ 20) → va_P (dC, dI) vwCl [((am 0), .inr (9, F9 am v_status v_now v_told v_merges v_taped v_size v_from v_to v_fault v_readFault v_traits v_length v_open v_leaks v_places v_models)), ((am 6), .inl (cA 2, 400, .inl f_isGone)), ((am 2), .inl (cA 0, 400, .inl f_rowStream)), ((am 19), .inl (cA 2, 20, .inl w_f_isOne_3)), ((am 1), .inl (cA 0, 400, .inl f_rowPerson)), ((am 3), .inl (cA 0, 400, .inl f_rowMoment)), ((am 4), .inl (cA 0, 400, .inl f_rowKnown)), ((am 5), .inl (cA 0, 400, .inl f_rowValue)), ((am 12), .inl (cA 0, 20, .inl f_size0)), ((am 13), .inl (cA 0, 5000, .inl f_step)), ((am 14), .inl (cA 0, 5000, .inl f_stepA)), ((am 15), .inl (cA 0, 5000, .inl f_stepB)), ((am 16), .inl (cA 0, 5000, .inl f_stepC)), ((am 18), .inl (cA 1, 250, .inr (.inl f_heap))), ((am 17), .inl (cA 1, 20, .inr (.inl f_values))), ((am 7), .inl (cA 0, 20, .inl f_mergeTo)), ((am 8), .inl (cA 0, 20, .inl f_mergeKnown))] H → va_D A [((am 0), .inr (9, F9 am v_status v_now v_told v_merges v_taped v_size v_from v_to v_fault v_readFault v_traits v_length v_open v_leaks v_places v_models)), ((am 6), .inl (cA 2, 400, .inl f_isGone)), ((am 2), .inl (cA 0, 400, .inl f_rowStream)), ((am 19), .inl (cA 2, 20, .inl w_f_isOne_3)), ((am 1), .inl (cA 0, 400, .inl f_rowPerson)), ((am 3), .inl (cA 0, 400, .inl f_rowMoment)), ((am 4), .inl (cA 0, 400, .inl f_rowKnown)), ((am 5), .inl (cA 0, 400, .inl f_rowValue)), ((am 12), .inl (cA 0, 20, .inl f_size0)), ((am 13), .inl (cA 0, 5000, .inl f_step)), ((am 14), .inl (cA 0, 5000, .inl f_stepA)), ((am 15), .inl (cA 0, 5000, .inl f_stepB)), ((am 16), .inl (cA 0, 5000, .inl f_stepC)), ((am 18), .inl (cA 1, 250, .inr (.inl f_heap))), ((am 17), .inl (cA 1, 20, .inr (.inl f_values))), ((am 7), .inl (cA 0, 20, .inl f_mergeTo)), ((am 8), .inl (cA 0, 20, .inl f_mergeKnown))] → va_S A s.heap H locs → lv_has ls 6 [(5, .int i5), (0, .ref (am 0)), (1, .int tt), (2, .int pp), (3, .int mo), (4, .int kn)] → W p l e ({ frames := 3, cells := 0, slots := 0, locals := 82 }) s m ([.ref (am 0), .int tt, .int pp, .int mo, .int kn] : List Value).toArray below meth c H locs 0 0 QQ (F0 m 3 ls []) := by
    intro n
    induction n with
    | zero => intro i5 w_f_isOne_3 H locs ls hme hv0_3; exfalso; omega
    | succ n ih_3 =>
      intro i5 w_f_isOne_3 H locs ls hme_3 hv0_3 hP hD hS hl
      refine lv_iload hx hb dX9_valueOf_3 (lv_at hl 0 rfl) ?_
      refine lv_bipush (v := 20) hx hb dX9_valueOf_5 (by decide) ?_
      refine lv_icmp_ge (tgt := 46) hx hb dX9_valueOf_7 (by decide) (fun c_2 => ?_) (fun c_2 => ?_)
      · have dc_2 : 20 ≤ i5.toInt := jI_le c_2 (by decide) rfl
        refine lv_iconst (v := 0) hx hb dX9_valueOf_46 (by decide) ?_
        refine lv_istore (lv' := [(5, .int 0), (0, .ref (am 0)), (1, .int tt), (2, .int pp), (3, .int mo), (4, .int kn)]) hx hb dX9_valueOf_47 hl (by decide) rfl (fun ls hl => ?_)
        have loop49_3 : ∀ (n : Nat) (i5b : Int32) (w_f_values_49 : Nat → Int64) (w_f_heap_49 : Nat → Int64) (H : Heap) (locs : List Loc) (ls : Array Slot), 20 - i5b.toInt < (n : Int) → (0 ≤ i5b.toInt ∧ i5b.toInt ≤ 20) → va_P (dC, dI) vwCl [((am 0), .inr (9, F9 am v_status v_now v_told v_merges v_taped v_size v_from v_to v_fault v_readFault v_traits v_length v_open v_leaks v_places v_models)), ((am 6), .inl (cA 2, 400, .inl f_isGone)), ((am 2), .inl (cA 0, 400, .inl f_rowStream)), ((am 19), .inl (cA 2, 20, .inl w_f_isOne_3)), ((am 1), .inl (cA 0, 400, .inl f_rowPerson)), ((am 3), .inl (cA 0, 400, .inl f_rowMoment)), ((am 4), .inl (cA 0, 400, .inl f_rowKnown)), ((am 5), .inl (cA 0, 400, .inl f_rowValue)), ((am 12), .inl (cA 0, 20, .inl f_size0)), ((am 13), .inl (cA 0, 5000, .inl f_step)), ((am 14), .inl (cA 0, 5000, .inl f_stepA)), ((am 15), .inl (cA 0, 5000, .inl f_stepB)), ((am 16), .inl (cA 0, 5000, .inl f_stepC)), ((am 18), .inl (cA 1, 250, .inr (.inl w_f_heap_49))), ((am 17), .inl (cA 1, 20, .inr (.inl w_f_values_49))), ((am 7), .inl (cA 0, 20, .inl f_mergeTo)), ((am 8), .inl (cA 0, 20, .inl f_mergeKnown))] H → va_D A [((am 0), .inr (9, F9 am v_status v_now v_told v_merges v_taped v_size v_from v_to v_fault v_readFault v_traits v_length v_open v_leaks v_places v_models)), ((am 6), .inl (cA 2, 400, .inl f_isGone)), ((am 2), .inl (cA 0, 400, .inl f_rowStream)), ((am 19), .inl (cA 2, 20, .inl w_f_isOne_3)), ((am 1), .inl (cA 0, 400, .inl f_rowPerson)), ((am 3), .inl (cA 0, 400, .inl f_rowMoment)), ((am 4), .inl (cA 0, 400, .inl f_rowKnown)), ((am 5), .inl (cA 0, 400, .inl f_rowValue)), ((am 12), .inl (cA 0, 20, .inl f_size0)), ((am 13), .inl (cA 0, 5000, .inl f_step)), ((am 14), .inl (cA 0, 5000, .inl f_stepA)), ((am 15), .inl (cA 0, 5000, .inl f_stepB)), ((am 16), .inl (cA 0, 5000, .inl f_stepC)), ((am 18), .inl (cA 1, 250, .inr (.inl w_f_heap_49))), ((am 17), .inl (cA 1, 20, .inr (.inl w_f_values_49))), ((am 7), .inl (cA 0, 20, .inl f_mergeTo)), ((am 8), .inl (cA 0, 20, .inl f_mergeKnown))] → va_S A s.heap H locs → lv_has ls 6 [(5, .int i5b), (0, .ref (am 0)), (1, .int tt), (2, .int pp), (3, .int mo), (4, .int kn)] → W p l e ({ frames := 3, cells := 0, slots := 0, locals := 82 }) s m ([.ref (am 0), .int tt, .int pp, .int mo, .int kn] : List Value).toArray below meth c H locs 0 0 QQ (F0 m 49 ls []) := by
          intro n
          induction n with
          | zero => intro i5b w_f_values_49 w_f_heap_49 H locs ls hme hv0_49; exfalso; omega
          | succ n ih_49 =>
            intro i5b w_f_values_49 w_f_heap_49 H locs ls hme_49 hv0_49 hP hD hS hl
            refine lv_iload hx hb dX9_valueOf_49 (lv_at hl 0 rfl) ?_
            refine lv_iload_n hx hb dX9_valueOf_51 rfl (lv_at hl 2 rfl) ?_
            refine lv_icmp_gt (tgt := 77) hx hb dX9_valueOf_52 (by decide) (fun c_4 => ?_) (fun c_4 => ?_)
            · have dc_4 : tt.toInt < i5b.toInt := jI_lt c_4 rfl rfl
              refine lv_aload_n hx hb dX9_valueOf_77 rfl (lv_at hl 1 rfl) ?_
              refine va_get (D := (dC, dI)) (ci := 9) (v := .ref (am 17)) (C := RX9) (T := TX9) (N := 51) hx hb hts hIX9 hown hK hP 0 rfl rfl 30 (by decide) (hts (.fieldLink RX9 64 "TraitHouseModel" "values" "[J") (by decide +kernel)) (fun _ h9 => h9) rfl dX9_valueOf_78 ?_
              refine lv_iload_n hx hb dX9_valueOf_81 rfl (lv_at hl 2 rfl) ?_
              have h_5 : vp_in tt 20 := (vp_in_iff.mpr ⟨by omega, by omega⟩)
              refine va_lald hx hb hK hP 14 1 rfl rfl h_5 dX9_valueOf_82 ?_
              refine lv_topl (fun y_6 ey_6 => ?_)
              obtain ⟨hP9, hD9⟩ := va_pd (ws' := [((am 0), .inr (9, F9 am v_status v_now v_told v_merges v_taped v_size v_from v_to v_fault v_readFault v_traits v_length v_open v_leaks v_places v_models)), ((am 6), .inl (cA 2, 400, .inl f_isGone)), ((am 2), .inl (cA 0, 400, .inl f_rowStream)), ((am 19), .inl (cA 2, 20, .inl w_f_isOne_3)), ((am 1), .inl (cA 0, 400, .inl f_rowPerson)), ((am 3), .inl (cA 0, 400, .inl f_rowMoment)), ((am 4), .inl (cA 0, 400, .inl f_rowKnown)), ((am 5), .inl (cA 0, 400, .inl f_rowValue)), ((am 12), .inl (cA 0, 20, .inl f_size0)), ((am 13), .inl (cA 0, 5000, .inl f_step)), ((am 14), .inl (cA 0, 5000, .inl f_stepA)), ((am 15), .inl (cA 0, 5000, .inl f_stepB)), ((am 16), .inl (cA 0, 5000, .inl f_stepC)), ((am 18), .inl (cA 1, 250, .inr (.inl w_f_heap_49))), ((am 17), .inl (cA 1, 20, .inr (.inl w_f_values_49))), ((am 7), .inl (cA 0, 20, .inl f_mergeTo)), ((am 8), .inl (cA 0, 20, .inl f_mergeKnown))]) hP hD [0, 1, 2, 3, 4, 5, 6, 7, 8, 9, 10, 11, 12, 13, 14, 15, 16] (by decide) rfl
              subst hQe
              have hans : (y_6 : Int64).toInt = y_6.toInt := rfl
              exact W.lret (v := y_6) hx hb hr (fun t ht hW => ⟨⟨y_6, (w_f_heap_49, w_f_values_49, w_f_isOne_3), rfl, trivial, by rw [ht]; exact hP9, hD9⟩, hS.F ht⟩) hS.2.2 dX9_valueOf_83
            · have dc_4 : i5b.toInt ≤ tt.toInt := jI_nlt c_4 rfl rfl
              refine lv_aload_n hx hb dX9_valueOf_55 rfl (lv_at hl 1 rfl) ?_
              refine va_get (D := (dC, dI)) (ci := 9) (v := .ref (am 17)) (C := RX9) (T := TX9) (N := 51) hx hb hts hIX9 hown hK hP 0 rfl rfl 30 (by decide) (hts (.fieldLink RX9 64 "TraitHouseModel" "values" "[J") (by decide +kernel)) (fun _ h9 => h9) rfl dX9_valueOf_56 ?_
              refine lv_iload hx hb dX9_valueOf_59 (lv_at hl 0 rfl) ?_
              refine lv_aload_n hx hb dX9_valueOf_61 rfl (lv_at hl 1 rfl) ?_
              refine lv_iload hx hb dX9_valueOf_62 (lv_at hl 0 rfl) ?_
              refine lv_iload_n hx hb dX9_valueOf_64 rfl (lv_at hl 4 rfl) ?_
              refine lv_iload hx hb dX9_valueOf_65 (lv_at hl 5 rfl) ?_
              obtain ⟨hPc, hDc, hFc, hCc⟩ := va_pre (ws' := [((am 0), .inr (9, F9 am v_status v_now v_told v_merges v_taped v_size v_from v_to v_fault v_readFault v_traits v_length v_open v_leaks v_places v_models)), ((am 6), .inl (cA 2, 400, .inl f_isGone)), ((am 2), .inl (cA 0, 400, .inl f_rowStream)), ((am 19), .inl (cA 2, 20, .inl w_f_isOne_3)), ((am 1), .inl (cA 0, 400, .inl f_rowPerson)), ((am 3), .inl (cA 0, 400, .inl f_rowMoment)), ((am 4), .inl (cA 0, 400, .inl f_rowKnown)), ((am 5), .inl (cA 0, 400, .inl f_rowValue)), ((am 12), .inl (cA 0, 20, .inl f_size0)), ((am 13), .inl (cA 0, 5000, .inl f_step)), ((am 14), .inl (cA 0, 5000, .inl f_stepA)), ((am 15), .inl (cA 0, 5000, .inl f_stepB)), ((am 16), .inl (cA 0, 5000, .inl f_stepC)), ((am 18), .inl (cA 1, 250, .inr (.inl w_f_heap_49))), ((am 17), .inl (cA 1, 20, .inr (.inl w_f_values_49)))]) hP hD hS hA [0, 1, 2, 3, 4, 5, 6, 7, 8, 9, 10, 11, 12, 13, 14] (by decide) rfl
              refine va_calll (va_runV (As := [.int i5b, .int mo, .int kn]) (rest := [.int i5b, .ref (am 17)]) ⟨hx, hb, hml, hown, hts⟩ (k_X9_works l dC dI cA H.size am v_status v_now v_told v_merges v_taped v_size v_from v_to v_fault v_readFault v_traits v_length v_open v_leaks v_places v_models f_isGone f_rowStream w_f_isOne_3 f_rowPerson f_rowMoment f_rowKnown f_rowValue f_size0 f_step f_stepA f_stepB f_stepC w_f_heap_49 w_f_values_49 i5b mo kn i_v_now i_v_told i_v_taped i_v_size i_v_from i_v_to i_v_traits i_v_length i_v_open i_v_places i_v_models i_f_rowPerson i_f_size0 (by omega) (hpr _ (by omega))) (cwV 3 hts gX9_valueOf_X9_works rfl rfl rfl (by decide +kernel) ⟨Nat.le_of_ble_eq_true rfl, Nat.le_of_ble_eq_true rfl⟩) ⟨fun a U g mk q => by obtain ⟨q0, q1, qP, qK, qD, qN⟩ := q; exact ⟨q0, q1, qP, va_K.moved (u := U) (U := U.calling g mk a) (Vm.Alike.refl U.vm) qK, qD, qN.same rfl⟩, va_recv hK hPc (ci := 9) (q0 := 0) rfl rfl, fun U hU hW => ⟨rfl, by rw [hU], by rw [hU]; exact hPc, va_K.moved hW.alike hK, hDc.weaken (fun _ _ _ _ => trivial), hN.warm hW⟩⟩ rfl rfl hl.1 rfl (lv_room (Nat.le_of_ble_eq_true rfl)) dX9_valueOf_67 ⟨Nat.le_of_ble_eq_true rfl, Nat.le_of_ble_eq_true rfl⟩) hS (fun q _ h => hFc q h) hFc (fun r_7 u_8 t H1 locs ht hvm hw_9 hB hz1 hk1 hS => ?_)
              obtain ⟨w_10, rfl⟩ : ∃ z, z = u_8 := ⟨_, rfl⟩
              try dsimp only at hw_9 hB
              obtain ⟨hP1, hD1⟩ := hB
              rw [ht] at hP1
              obtain ⟨hP, hD⟩ := va_join (wr := [((am 7), .inl (cA 0, 20, .inl f_mergeTo)), ((am 8), .inl (cA 0, 20, .inl f_mergeKnown))]) (w1 := [((am 0), .inr (9, F9 am v_status v_now v_told v_merges v_taped v_size v_from v_to v_fault v_readFault v_traits v_length v_open v_leaks v_places v_models)), ((am 6), .inl (cA 2, 400, .inl f_isGone)), ((am 2), .inl (cA 0, 400, .inl f_rowStream)), ((am 19), .inl (cA 2, 20, .inl w_f_isOne_3)), ((am 1), .inl (cA 0, 400, .inl f_rowPerson)), ((am 3), .inl (cA 0, 400, .inl f_rowMoment)), ((am 4), .inl (cA 0, 400, .inl f_rowKnown)), ((am 5), .inl (cA 0, 400, .inl f_rowValue)), ((am 12), .inl (cA 0, 20, .inl f_size0)), ((am 13), .inl (cA 0, 5000, .inl f_step)), ((am 14), .inl (cA 0, 5000, .inl f_stepA)), ((am 15), .inl (cA 0, 5000, .inl f_stepB)), ((am 16), .inl (cA 0, 5000, .inl f_stepC)), ((am 18), .inl (cA 1, 250, .inr (.inl w_10))), ((am 17), .inl (cA 1, 20, .inr (.inl w_f_values_49)))]) hP hD [0, 1, 2, 3, 4, 5, 6, 7, 8, 9, 10, 11, 12, 13, 14] [15, 16] hCc rfl (by decide) (by decide) hk1 hFc hP1 hD1
              clear hz1
              generalize H1 = H at hP hS ⊢
              have h_11 : vp_in i5b 20 := (vp_in_iff.mpr ⟨by omega, by omega⟩)
              refine va_last hx hb hK hP hD hS 16 1 rfl rfl h_11 dX9_valueOf_70 (fun H locs hP hD hS => ?_)
              replace hP : va_P (dC, dI) vwCl [((am 7), .inl (cA 0, 20, .inl f_mergeTo)), ((am 8), .inl (cA 0, 20, .inl f_mergeKnown)), ((am 0), .inr (9, F9 am v_status v_now v_told v_merges v_taped v_size v_from v_to v_fault v_readFault v_traits v_length v_open v_leaks v_places v_models)), ((am 6), .inl (cA 2, 400, .inl f_isGone)), ((am 2), .inl (cA 0, 400, .inl f_rowStream)), ((am 19), .inl (cA 2, 20, .inl w_f_isOne_3)), ((am 1), .inl (cA 0, 400, .inl f_rowPerson)), ((am 3), .inl (cA 0, 400, .inl f_rowMoment)), ((am 4), .inl (cA 0, 400, .inl f_rowKnown)), ((am 5), .inl (cA 0, 400, .inl f_rowValue)), ((am 12), .inl (cA 0, 20, .inl f_size0)), ((am 13), .inl (cA 0, 5000, .inl f_step)), ((am 14), .inl (cA 0, 5000, .inl f_stepA)), ((am 15), .inl (cA 0, 5000, .inl f_stepB)), ((am 16), .inl (cA 0, 5000, .inl f_stepC)), ((am 18), .inl (cA 1, 250, .inr (.inl w_10))), ((am 17), .inl (cA 1, 20, .inr (.inl (vp_updL w_f_values_49 i5b.toNatClampNeg r_7))))] H := hP
              replace hD : va_D A [((am 7), .inl (cA 0, 20, .inl f_mergeTo)), ((am 8), .inl (cA 0, 20, .inl f_mergeKnown)), ((am 0), .inr (9, F9 am v_status v_now v_told v_merges v_taped v_size v_from v_to v_fault v_readFault v_traits v_length v_open v_leaks v_places v_models)), ((am 6), .inl (cA 2, 400, .inl f_isGone)), ((am 2), .inl (cA 0, 400, .inl f_rowStream)), ((am 19), .inl (cA 2, 20, .inl w_f_isOne_3)), ((am 1), .inl (cA 0, 400, .inl f_rowPerson)), ((am 3), .inl (cA 0, 400, .inl f_rowMoment)), ((am 4), .inl (cA 0, 400, .inl f_rowKnown)), ((am 5), .inl (cA 0, 400, .inl f_rowValue)), ((am 12), .inl (cA 0, 20, .inl f_size0)), ((am 13), .inl (cA 0, 5000, .inl f_step)), ((am 14), .inl (cA 0, 5000, .inl f_stepA)), ((am 15), .inl (cA 0, 5000, .inl f_stepB)), ((am 16), .inl (cA 0, 5000, .inl f_stepC)), ((am 18), .inl (cA 1, 250, .inr (.inl w_10))), ((am 17), .inl (cA 1, 20, .inr (.inl (vp_updL w_f_values_49 i5b.toNatClampNeg r_7))))] := hD
              obtain ⟨g_12, eg_12⟩ : ∃ g : Nat → Int64, g = vp_updL w_f_values_49 i5b.toNatClampNeg r_7 := ⟨_, rfl⟩
              rw [← eg_12] at hP hD
              obtain ⟨x_13, ex_13⟩ : ∃ y : Int32, y = i5b + 1 := ⟨_, rfl⟩
              have dx_13 : x_13.toInt = i5b.toInt + 1 := by rw [ex_13]; exact jI_add rfl (by decide) (by omega) (by omega)
              refine lv_iinc (v := x_13) (lv' := [(5, .int x_13), (0, .ref (am 0)), (1, .int tt), (2, .int pp), (3, .int mo), (4, .int kn)]) hx hb dX9_valueOf_71 hl (k := 0) rfl (by rw [ex_13]; rfl) (by decide) rfl (fun ls hl => ?_)
              refine lv_goto (tgt := 49) hx hb dX9_valueOf_74 (by decide) ?_
              exact ih_49 x_13 g_12 w_10 _ _ ls (by omega) (by omega) (hP.sub [2, 3, 4, 5, 6, 7, 8, 9, 10, 11, 12, 13, 14, 15, 16, 0, 1] rfl) (hD.sub [2, 3, 4, 5, 6, 7, 8, 9, 10, 11, 12, 13, 14, 15, 16, 0, 1] (by decide) rfl) hS (lv_sub hl [0, 1, 2, 3, 4, 5] rfl)
        have hk_14 : (0 : Int32).toInt = 0 := by decide
        exact loop49_3 (Int.toNat (20 - (0 : Int32).toInt) + 1) 0 f_values f_heap _ _ ls (by omega) (by omega) hP hD hS (lv_sub hl [0, 1, 2, 3, 4, 5] rfl)
      · have dc_2 : i5.toInt < 20 := jI_nle c_2 (by decide) rfl
        refine lv_aload_n hx hb dX9_valueOf_10 rfl (lv_at hl 1 rfl) ?_
        refine va_get (D := (dC, dI)) (ci := 9) (v := .ref (am 19)) (C := RX9) (T := TX9) (N := 51) hx hb hts hIX9 hown hK hP 0 rfl rfl 32 (by decide) (hts (.fieldLink RX9 71 "TraitHouseModel" "isOne" "[Z") (by decide +kernel)) (fun _ h9 => h9) rfl dX9_valueOf_11 ?_
        refine lv_iload hx hb dX9_valueOf_14 (lv_at hl 0 rfl) ?_
        refine lv_aload_n hx hb dX9_valueOf_16 rfl (lv_at hl 1 rfl) ?_
        refine lv_iload hx hb dX9_valueOf_17 (lv_at hl 0 rfl) ?_
        refine lv_iload hx hb dX9_valueOf_19 (lv_at hl 5 rfl) ?_
        obtain ⟨hPc, hDc, hFc, hCc⟩ := va_pre (ws' := [((am 0), .inr (9, F9 am v_status v_now v_told v_merges v_taped v_size v_from v_to v_fault v_readFault v_traits v_length v_open v_leaks v_places v_models)), ((am 7), .inl (cA 0, 20, .inl f_mergeTo)), ((am 8), .inl (cA 0, 20, .inl f_mergeKnown))]) hP hD hS hA [0, 15, 16] (by decide) rfl
        refine va_calli (va_runV (As := [.int i5, .int kn]) (rest := [.int i5, .ref (am 19)]) ⟨hx, hb, hml, hown, hts⟩ (k_X9_last l dC dI cA H.size am v_status v_now v_told v_merges v_taped v_size v_from v_to v_fault v_readFault v_traits v_length v_open v_leaks v_places v_models f_mergeTo f_mergeKnown i5 kn i_v_now i_v_told i_v_taped i_v_size i_v_from i_v_to i_v_traits i_v_length i_v_open i_v_places i_v_models i_f_mergeTo i_f_mergeKnown hac (by omega)) (cwV 2 hts gX9_valueOf_X9_last rfl rfl rfl (by decide +kernel) ⟨Nat.le_of_ble_eq_true rfl, Nat.le_of_ble_eq_true rfl⟩) ⟨fun a U g mk q => by obtain ⟨q0, q1, qP, qK, qD, qN⟩ := q; exact ⟨q0, q1, qP, va_K.moved (u := U) (U := U.calling g mk a) (Vm.Alike.refl U.vm) qK, qD, qN.same rfl⟩, va_recv hK hPc (ci := 9) (q0 := 0) rfl rfl, fun U hU hW => ⟨rfl, by rw [hU], by rw [hU]; exact hPc, va_K.moved hW.alike hK, hDc.weaken (fun _ _ _ _ => trivial), hN.warm hW⟩⟩ rfl rfl hl.1 rfl (lv_room (Nat.le_of_ble_eq_true rfl)) dX9_valueOf_21 ⟨Nat.le_of_ble_eq_true rfl, Nat.le_of_ble_eq_true rfl⟩) hS (fun q _ h => hFc q h) hFc (fun r_15 u_16 t H1 locs ht hvm hw_17 hB hz1 hk1 hS => ?_)
        try dsimp only at hw_17 hB
        have po_18 := hw_17
        clear hw_17
        obtain ⟨hP1, hD1⟩ := hB
        rw [ht] at hP1
        obtain ⟨hP, hD⟩ := va_join (wr := [((am 6), .inl (cA 2, 400, .inl f_isGone)), ((am 2), .inl (cA 0, 400, .inl f_rowStream)), ((am 19), .inl (cA 2, 20, .inl w_f_isOne_3)), ((am 1), .inl (cA 0, 400, .inl f_rowPerson)), ((am 3), .inl (cA 0, 400, .inl f_rowMoment)), ((am 4), .inl (cA 0, 400, .inl f_rowKnown)), ((am 5), .inl (cA 0, 400, .inl f_rowValue)), ((am 12), .inl (cA 0, 20, .inl f_size0)), ((am 13), .inl (cA 0, 5000, .inl f_step)), ((am 14), .inl (cA 0, 5000, .inl f_stepA)), ((am 15), .inl (cA 0, 5000, .inl f_stepB)), ((am 16), .inl (cA 0, 5000, .inl f_stepC)), ((am 18), .inl (cA 1, 250, .inr (.inl f_heap))), ((am 17), .inl (cA 1, 20, .inr (.inl f_values)))]) (w1 := [((am 0), .inr (9, F9 am v_status v_now v_told v_merges v_taped v_size v_from v_to v_fault v_readFault v_traits v_length v_open v_leaks v_places v_models)), ((am 7), .inl (cA 0, 20, .inl f_mergeTo)), ((am 8), .inl (cA 0, 20, .inl f_mergeKnown))]) hP hD [0, 15, 16] [1, 2, 3, 4, 5, 6, 7, 8, 9, 10, 11, 12, 13, 14] hCc rfl (by decide) (by decide) hk1 hFc hP1 hD1
        clear hz1
        generalize H1 = H at hP hS ⊢
        refine lv_aload_n hx hb dX9_valueOf_24 rfl (lv_at hl 1 rfl) ?_
        refine lv_iload_n hx hb dX9_valueOf_25 rfl (lv_at hl 3 rfl) ?_
        refine lv_iload hx hb dX9_valueOf_26 (lv_at hl 5 rfl) ?_
        obtain ⟨hPc, hDc, hFc, hCc⟩ := va_pre (ws' := [((am 0), .inr (9, F9 am v_status v_now v_told v_merges v_taped v_size v_from v_to v_fault v_readFault v_traits v_length v_open v_leaks v_places v_models)), ((am 7), .inl (cA 0, 20, .inl f_mergeTo)), ((am 8), .inl (cA 0, 20, .inl f_mergeKnown))]) hP hD hS hA [14, 15, 16] (by decide) rfl
        refine va_calli (va_runV (As := [.int pp, .int kn]) (rest := [.int r_15, .int i5, .ref (am 19)]) ⟨hx, hb, hml, hown, hts⟩ (k_X9_last l dC dI cA H.size am v_status v_now v_told v_merges v_taped v_size v_from v_to v_fault v_readFault v_traits v_length v_open v_leaks v_places v_models f_mergeTo f_mergeKnown pp kn i_v_now i_v_told i_v_taped i_v_size i_v_from i_v_to i_v_traits i_v_length i_v_open i_v_places i_v_models i_f_mergeTo i_f_mergeKnown hac hpp) (cwV 2 hts gX9_valueOf_X9_last rfl rfl rfl (by decide +kernel) ⟨Nat.le_of_ble_eq_true rfl, Nat.le_of_ble_eq_true rfl⟩) ⟨fun a U g mk q => by obtain ⟨q0, q1, qP, qK, qD, qN⟩ := q; exact ⟨q0, q1, qP, va_K.moved (u := U) (U := U.calling g mk a) (Vm.Alike.refl U.vm) qK, qD, qN.same rfl⟩, va_recv hK hPc (ci := 9) (q0 := 0) rfl rfl, fun U hU hW => ⟨rfl, by rw [hU], by rw [hU]; exact hPc, va_K.moved hW.alike hK, hDc.weaken (fun _ _ _ _ => trivial), hN.warm hW⟩⟩ rfl rfl hl.1 rfl (lv_room (Nat.le_of_ble_eq_true rfl)) dX9_valueOf_28 ⟨Nat.le_of_ble_eq_true rfl, Nat.le_of_ble_eq_true rfl⟩) hS (fun q _ h => hFc q h) hFc (fun r_19 u_20 t H1 locs ht hvm hw_21 hB hz1 hk1 hS => ?_)
        try dsimp only at hw_21 hB
        have po_22 := hw_21
        clear hw_21
        obtain ⟨hP1, hD1⟩ := hB
        rw [ht] at hP1
        obtain ⟨hP, hD⟩ := va_join (wr := [((am 6), .inl (cA 2, 400, .inl f_isGone)), ((am 2), .inl (cA 0, 400, .inl f_rowStream)), ((am 19), .inl (cA 2, 20, .inl w_f_isOne_3)), ((am 1), .inl (cA 0, 400, .inl f_rowPerson)), ((am 3), .inl (cA 0, 400, .inl f_rowMoment)), ((am 4), .inl (cA 0, 400, .inl f_rowKnown)), ((am 5), .inl (cA 0, 400, .inl f_rowValue)), ((am 12), .inl (cA 0, 20, .inl f_size0)), ((am 13), .inl (cA 0, 5000, .inl f_step)), ((am 14), .inl (cA 0, 5000, .inl f_stepA)), ((am 15), .inl (cA 0, 5000, .inl f_stepB)), ((am 16), .inl (cA 0, 5000, .inl f_stepC)), ((am 18), .inl (cA 1, 250, .inr (.inl f_heap))), ((am 17), .inl (cA 1, 20, .inr (.inl f_values)))]) (w1 := [((am 0), .inr (9, F9 am v_status v_now v_told v_merges v_taped v_size v_from v_to v_fault v_readFault v_traits v_length v_open v_leaks v_places v_models)), ((am 7), .inl (cA 0, 20, .inl f_mergeTo)), ((am 8), .inl (cA 0, 20, .inl f_mergeKnown))]) hP hD [14, 15, 16] [0, 1, 2, 3, 4, 5, 6, 7, 8, 9, 10, 11, 12, 13] hCc rfl (by decide) (by decide) hk1 hFc hP1 hD1
        clear hz1
        generalize H1 = H at hP hS ⊢
        refine lv_icmp_ne (tgt := 38) hx hb dX9_valueOf_31 (by decide) (fun c_23 => ?_) (fun c_23 => ?_)
        · have dc_23 : ¬ r_15.toInt = r_19.toInt := jI_ne c_23 rfl rfl
          refine lv_iconst (v := 0) hx hb dX9_valueOf_38 (by decide) ?_
          have h_24 : vp_in i5 20 := (vp_in_iff.mpr ⟨by omega, by omega⟩)
          refine va_zast hx hb hK hP hD hS 2 2 rfl rfl h_24 dX9_valueOf_39 (fun H locs hP hD hS => ?_)
          replace hP : va_P (dC, dI) vwCl [((am 6), .inl (cA 2, 400, .inl f_isGone)), ((am 2), .inl (cA 0, 400, .inl f_rowStream)), ((am 19), .inl (cA 2, 20, .inl (upd w_f_isOne_3 i5.toNatClampNeg (vp_nar .boolean 0)))), ((am 1), .inl (cA 0, 400, .inl f_rowPerson)), ((am 3), .inl (cA 0, 400, .inl f_rowMoment)), ((am 4), .inl (cA 0, 400, .inl f_rowKnown)), ((am 5), .inl (cA 0, 400, .inl f_rowValue)), ((am 12), .inl (cA 0, 20, .inl f_size0)), ((am 13), .inl (cA 0, 5000, .inl f_step)), ((am 14), .inl (cA 0, 5000, .inl f_stepA)), ((am 15), .inl (cA 0, 5000, .inl f_stepB)), ((am 16), .inl (cA 0, 5000, .inl f_stepC)), ((am 18), .inl (cA 1, 250, .inr (.inl f_heap))), ((am 17), .inl (cA 1, 20, .inr (.inl f_values))), ((am 0), .inr (9, F9 am v_status v_now v_told v_merges v_taped v_size v_from v_to v_fault v_readFault v_traits v_length v_open v_leaks v_places v_models)), ((am 7), .inl (cA 0, 20, .inl f_mergeTo)), ((am 8), .inl (cA 0, 20, .inl f_mergeKnown))] H := hP
          replace hD : va_D A [((am 6), .inl (cA 2, 400, .inl f_isGone)), ((am 2), .inl (cA 0, 400, .inl f_rowStream)), ((am 19), .inl (cA 2, 20, .inl (upd w_f_isOne_3 i5.toNatClampNeg (vp_nar .boolean 0)))), ((am 1), .inl (cA 0, 400, .inl f_rowPerson)), ((am 3), .inl (cA 0, 400, .inl f_rowMoment)), ((am 4), .inl (cA 0, 400, .inl f_rowKnown)), ((am 5), .inl (cA 0, 400, .inl f_rowValue)), ((am 12), .inl (cA 0, 20, .inl f_size0)), ((am 13), .inl (cA 0, 5000, .inl f_step)), ((am 14), .inl (cA 0, 5000, .inl f_stepA)), ((am 15), .inl (cA 0, 5000, .inl f_stepB)), ((am 16), .inl (cA 0, 5000, .inl f_stepC)), ((am 18), .inl (cA 1, 250, .inr (.inl f_heap))), ((am 17), .inl (cA 1, 20, .inr (.inl f_values))), ((am 0), .inr (9, F9 am v_status v_now v_told v_merges v_taped v_size v_from v_to v_fault v_readFault v_traits v_length v_open v_leaks v_places v_models)), ((am 7), .inl (cA 0, 20, .inl f_mergeTo)), ((am 8), .inl (cA 0, 20, .inl f_mergeKnown))] := hD
          obtain ⟨g_25, eg_25⟩ : ∃ g : Nat → Int32, g = upd w_f_isOne_3 i5.toNatClampNeg (vp_nar .boolean 0) := ⟨_, rfl⟩
          rw [← eg_25] at hP hD
          obtain ⟨x_26, ex_26⟩ : ∃ y : Int32, y = i5 + 1 := ⟨_, rfl⟩
          have dx_26 : x_26.toInt = i5.toInt + 1 := by rw [ex_26]; exact jI_add rfl (by decide) (by omega) (by omega)
          refine lv_iinc (v := x_26) (lv' := [(5, .int x_26), (0, .ref (am 0)), (1, .int tt), (2, .int pp), (3, .int mo), (4, .int kn)]) hx hb dX9_valueOf_40 hl (k := 0) rfl (by rw [ex_26]; rfl) (by decide) rfl (fun ls hl => ?_)
          refine lv_goto (tgt := 3) hx hb dX9_valueOf_43 (by decide) ?_
          exact ih_3 x_26 g_25 _ _ ls (by omega) (by omega) (hP.sub [14, 0, 1, 2, 3, 4, 5, 6, 7, 8, 9, 10, 11, 12, 13, 15, 16] rfl) (hD.sub [14, 0, 1, 2, 3, 4, 5, 6, 7, 8, 9, 10, 11, 12, 13, 15, 16] (by decide) rfl) hS (lv_sub hl [0, 1, 2, 3, 4, 5] rfl)
        · have dc_23 : r_15.toInt = r_19.toInt := jI_eq c_23 rfl rfl
          refine lv_iconst (v := 1) hx hb dX9_valueOf_34 (by decide) ?_
          refine lv_goto (tgt := 39) hx hb dX9_valueOf_35 (by decide) ?_
          have h_27 : vp_in i5 20 := (vp_in_iff.mpr ⟨by omega, by omega⟩)
          refine va_zast hx hb hK hP hD hS 2 2 rfl rfl h_27 dX9_valueOf_39 (fun H locs hP hD hS => ?_)
          replace hP : va_P (dC, dI) vwCl [((am 6), .inl (cA 2, 400, .inl f_isGone)), ((am 2), .inl (cA 0, 400, .inl f_rowStream)), ((am 19), .inl (cA 2, 20, .inl (upd w_f_isOne_3 i5.toNatClampNeg (vp_nar .boolean 1)))), ((am 1), .inl (cA 0, 400, .inl f_rowPerson)), ((am 3), .inl (cA 0, 400, .inl f_rowMoment)), ((am 4), .inl (cA 0, 400, .inl f_rowKnown)), ((am 5), .inl (cA 0, 400, .inl f_rowValue)), ((am 12), .inl (cA 0, 20, .inl f_size0)), ((am 13), .inl (cA 0, 5000, .inl f_step)), ((am 14), .inl (cA 0, 5000, .inl f_stepA)), ((am 15), .inl (cA 0, 5000, .inl f_stepB)), ((am 16), .inl (cA 0, 5000, .inl f_stepC)), ((am 18), .inl (cA 1, 250, .inr (.inl f_heap))), ((am 17), .inl (cA 1, 20, .inr (.inl f_values))), ((am 0), .inr (9, F9 am v_status v_now v_told v_merges v_taped v_size v_from v_to v_fault v_readFault v_traits v_length v_open v_leaks v_places v_models)), ((am 7), .inl (cA 0, 20, .inl f_mergeTo)), ((am 8), .inl (cA 0, 20, .inl f_mergeKnown))] H := hP
          replace hD : va_D A [((am 6), .inl (cA 2, 400, .inl f_isGone)), ((am 2), .inl (cA 0, 400, .inl f_rowStream)), ((am 19), .inl (cA 2, 20, .inl (upd w_f_isOne_3 i5.toNatClampNeg (vp_nar .boolean 1)))), ((am 1), .inl (cA 0, 400, .inl f_rowPerson)), ((am 3), .inl (cA 0, 400, .inl f_rowMoment)), ((am 4), .inl (cA 0, 400, .inl f_rowKnown)), ((am 5), .inl (cA 0, 400, .inl f_rowValue)), ((am 12), .inl (cA 0, 20, .inl f_size0)), ((am 13), .inl (cA 0, 5000, .inl f_step)), ((am 14), .inl (cA 0, 5000, .inl f_stepA)), ((am 15), .inl (cA 0, 5000, .inl f_stepB)), ((am 16), .inl (cA 0, 5000, .inl f_stepC)), ((am 18), .inl (cA 1, 250, .inr (.inl f_heap))), ((am 17), .inl (cA 1, 20, .inr (.inl f_values))), ((am 0), .inr (9, F9 am v_status v_now v_told v_merges v_taped v_size v_from v_to v_fault v_readFault v_traits v_length v_open v_leaks v_places v_models)), ((am 7), .inl (cA 0, 20, .inl f_mergeTo)), ((am 8), .inl (cA 0, 20, .inl f_mergeKnown))] := hD
          obtain ⟨g_28, eg_28⟩ : ∃ g : Nat → Int32, g = upd w_f_isOne_3 i5.toNatClampNeg (vp_nar .boolean 1) := ⟨_, rfl⟩
          rw [← eg_28] at hP hD
          obtain ⟨x_29, ex_29⟩ : ∃ y : Int32, y = i5 + 1 := ⟨_, rfl⟩
          have dx_29 : x_29.toInt = i5.toInt + 1 := by rw [ex_29]; exact jI_add rfl (by decide) (by omega) (by omega)
          refine lv_iinc (v := x_29) (lv' := [(5, .int x_29), (0, .ref (am 0)), (1, .int tt), (2, .int pp), (3, .int mo), (4, .int kn)]) hx hb dX9_valueOf_40 hl (k := 0) rfl (by rw [ex_29]; rfl) (by decide) rfl (fun ls hl => ?_)
          refine lv_goto (tgt := 3) hx hb dX9_valueOf_43 (by decide) ?_
          exact ih_3 x_29 g_28 _ _ ls (by omega) (by omega) (hP.sub [14, 0, 1, 2, 3, 4, 5, 6, 7, 8, 9, 10, 11, 12, 13, 15, 16] rfl) (hD.sub [14, 0, 1, 2, 3, 4, 5, 6, 7, 8, 9, 10, 11, 12, 13, 15, 16] (by decide) rfl) hS (lv_sub hl [0, 1, 2, 3, 4, 5] rfl)
  have hk_30 : (0 : Int32).toInt = 0 := by decide
  exact loop3_1 (Int.toNat (20 - (0 : Int32).toInt) + 1) 0 f_isOne _ _ ls (by omega) (by omega) hP hD hS (lv_sub hl [0, 1, 2, 3, 4, 5] rfl)

set_option maxHeartbeats 8000000 in
set_option maxRecDepth 100000 in
theorem k_X9_value (l : Launch) (dC : Nat → ClassId) (dI : Nat → Nat → Nat) (cA : Nat → ClassId) (sz : Nat) (am : Nat → Nat) (v_status : Int32) (v_now : Int32) (v_told : Int32) (v_merges : Int32) (v_taped : Int32) (v_size : Int32) (v_from : Int32) (v_to : Int32) (v_fault : Int32) (v_readFault : Int32) (v_traits : Int32) (v_length : Int32) (v_open : Int32) (v_leaks : Int32) (v_places : Int32) (v_models : Int32) (f_isGone : Nat → Int32) (f_rowStream : Nat → Int32) (f_isOne : Nat → Int32) (f_rowPerson : Nat → Int32) (f_rowMoment : Nat → Int32) (f_rowKnown : Nat → Int32) (f_rowValue : Nat → Int32) (f_size0 : Nat → Int32) (f_step : Nat → Int32) (f_stepA : Nat → Int32) (f_stepB : Nat → Int32) (f_stepC : Nat → Int32) (f_heap : Nat → Int64) (f_values : Nat → Int64) (f_mergeTo : Nat → Int32) (f_mergeKnown : Nat → Int32) (tt : Int32) (pp : Int32) (mo : Int32) (kn : Int32) (i_v_now : 0 ≤ v_now.toInt ∧ v_now.toInt ≤ 100000) (i_v_told : 0 ≤ v_told.toInt ∧ v_told.toInt ≤ 400) (i_v_taped : 0 ≤ v_taped.toInt ∧ v_taped.toInt ≤ 200) (i_v_size : 0 ≤ v_size.toInt ∧ v_size.toInt ≤ 200) (i_v_from : 0 ≤ v_from.toInt ∧ v_from.toInt ≤ 200) (i_v_to : 0 ≤ v_to.toInt ∧ v_to.toInt ≤ 200) (i_v_traits : 0 ≤ v_traits.toInt ∧ v_traits.toInt ≤ 20) (i_v_length : 0 ≤ v_length.toInt ∧ v_length.toInt ≤ 200) (i_v_open : 0 ≤ v_open.toInt ∧ v_open.toInt ≤ 8) (i_v_places : 0 ≤ v_places.toInt ∧ v_places.toInt ≤ 2000) (i_v_models : 0 ≤ v_models.toInt ∧ v_models.toInt ≤ 10) (i_f_rowPerson : inB 0 19 400 f_rowPerson) (i_f_size0 : inB 0 200 20 f_size0) (i_f_mergeTo : inB (-1) 19 20 f_mergeTo) (i_f_mergeKnown : inB 0 100000 20 f_mergeKnown) (hac : Acyc f_mergeTo) (hpr : progOK f_step f_stepA f_size0 v_traits) : Met l yX9_value wsX9_value ({ frames := 4, cells := 0, slots := 0, locals := 107 }) (va_Pc [.ref (am 0), .int tt, .int pp, .int mo, .int kn] (fun U => U.heap.size = sz ∧ va_P (dC, dI) vwCl [((am 0), .inr (9, F9 am v_status v_now v_told v_merges v_taped v_size v_from v_to v_fault v_readFault v_traits v_length v_open v_leaks v_places v_models)), ((am 6), .inl (cA 2, 400, .inl f_isGone)), ((am 2), .inl (cA 0, 400, .inl f_rowStream)), ((am 19), .inl (cA 2, 20, .inl f_isOne)), ((am 1), .inl (cA 0, 400, .inl f_rowPerson)), ((am 3), .inl (cA 0, 400, .inl f_rowMoment)), ((am 4), .inl (cA 0, 400, .inl f_rowKnown)), ((am 5), .inl (cA 0, 400, .inl f_rowValue)), ((am 12), .inl (cA 0, 20, .inl f_size0)), ((am 13), .inl (cA 0, 5000, .inl f_step)), ((am 14), .inl (cA 0, 5000, .inl f_stepA)), ((am 15), .inl (cA 0, 5000, .inl f_stepB)), ((am 16), .inl (cA 0, 5000, .inl f_stepC)), ((am 18), .inl (cA 1, 250, .inr (.inl f_heap))), ((am 17), .inl (cA 1, 20, .inr (.inl f_values))), ((am 7), .inl (cA 0, 20, .inl f_mergeTo)), ((am 8), .inl (cA 0, 20, .inl f_mergeKnown))] U.heap ∧ va_K (dC, dI) vwCl (tyL cA) U ∧ va_D (fun _ => True) [((am 0), .inr (9, F9 am v_status v_now v_told v_merges v_taped v_size v_from v_to v_fault v_readFault v_traits v_length v_open v_leaks v_places v_models)), ((am 6), .inl (cA 2, 400, .inl f_isGone)), ((am 2), .inl (cA 0, 400, .inl f_rowStream)), ((am 19), .inl (cA 2, 20, .inl f_isOne)), ((am 1), .inl (cA 0, 400, .inl f_rowPerson)), ((am 3), .inl (cA 0, 400, .inl f_rowMoment)), ((am 4), .inl (cA 0, 400, .inl f_rowKnown)), ((am 5), .inl (cA 0, 400, .inl f_rowValue)), ((am 12), .inl (cA 0, 20, .inl f_size0)), ((am 13), .inl (cA 0, 5000, .inl f_step)), ((am 14), .inl (cA 0, 5000, .inl f_stepA)), ((am 15), .inl (cA 0, 5000, .inl f_stepB)), ((am 16), .inl (cA 0, 5000, .inl f_stepC)), ((am 18), .inl (cA 1, 250, .inr (.inl f_heap))), ((am 17), .inl (cA 1, 20, .inr (.inl f_values))), ((am 7), .inl (cA 0, 20, .inl f_mergeTo)), ((am 8), .inl (cA 0, 20, .inl f_mergeKnown))] ∧ nw_ok U)) (va_Ql (fun (r : Int64) (u : (Nat → Int64) × (Nat → Int64) × (Nat → Int32)) => True) (fun (u : (Nat → Int64) × (Nat → Int64) × (Nat → Int32)) (t : State) => va_P (dC, dI) vwCl [((am 0), .inr (9, F9 am v_status v_now v_told v_merges v_taped v_size v_from v_to v_fault v_readFault v_traits v_length v_open v_leaks v_places v_models)), ((am 6), .inl (cA 2, 400, .inl f_isGone)), ((am 2), .inl (cA 0, 400, .inl f_rowStream)), ((am 19), .inl (cA 2, 20, .inl u.2.2)), ((am 1), .inl (cA 0, 400, .inl f_rowPerson)), ((am 3), .inl (cA 0, 400, .inl f_rowMoment)), ((am 4), .inl (cA 0, 400, .inl f_rowKnown)), ((am 5), .inl (cA 0, 400, .inl f_rowValue)), ((am 12), .inl (cA 0, 20, .inl f_size0)), ((am 13), .inl (cA 0, 5000, .inl f_step)), ((am 14), .inl (cA 0, 5000, .inl f_stepA)), ((am 15), .inl (cA 0, 5000, .inl f_stepB)), ((am 16), .inl (cA 0, 5000, .inl f_stepC)), ((am 18), .inl (cA 1, 250, .inr (.inl u.1))), ((am 17), .inl (cA 1, 20, .inr (.inl u.2.1))), ((am 7), .inl (cA 0, 20, .inl f_mergeTo)), ((am 8), .inl (cA 0, 20, .inl f_mergeKnown))] t.heap ∧ va_D (va_A [((am 0), .inr (9, F9 am v_status v_now v_told v_merges v_taped v_size v_from v_to v_fault v_readFault v_traits v_length v_open v_leaks v_places v_models)), ((am 6), .inl (cA 2, 400, .inl f_isGone)), ((am 2), .inl (cA 0, 400, .inl f_rowStream)), ((am 19), .inl (cA 2, 20, .inl f_isOne)), ((am 1), .inl (cA 0, 400, .inl f_rowPerson)), ((am 3), .inl (cA 0, 400, .inl f_rowMoment)), ((am 4), .inl (cA 0, 400, .inl f_rowKnown)), ((am 5), .inl (cA 0, 400, .inl f_rowValue)), ((am 12), .inl (cA 0, 20, .inl f_size0)), ((am 13), .inl (cA 0, 5000, .inl f_step)), ((am 14), .inl (cA 0, 5000, .inl f_stepA)), ((am 15), .inl (cA 0, 5000, .inl f_stepB)), ((am 16), .inl (cA 0, 5000, .inl f_stepC)), ((am 18), .inl (cA 1, 250, .inr (.inl f_heap))), ((am 17), .inl (cA 1, 20, .inr (.inl f_values))), ((am 7), .inl (cA 0, 20, .inl f_mergeTo)), ((am 8), .inl (cA 0, 20, .inl f_mergeKnown))] sz) [((am 0), .inr (9, F9 am v_status v_now v_told v_merges v_taped v_size v_from v_to v_fault v_readFault v_traits v_length v_open v_leaks v_places v_models)), ((am 6), .inl (cA 2, 400, .inl f_isGone)), ((am 2), .inl (cA 0, 400, .inl f_rowStream)), ((am 19), .inl (cA 2, 20, .inl u.2.2)), ((am 1), .inl (cA 0, 400, .inl f_rowPerson)), ((am 3), .inl (cA 0, 400, .inl f_rowMoment)), ((am 4), .inl (cA 0, 400, .inl f_rowKnown)), ((am 5), .inl (cA 0, 400, .inl f_rowValue)), ((am 12), .inl (cA 0, 20, .inl f_size0)), ((am 13), .inl (cA 0, 5000, .inl f_step)), ((am 14), .inl (cA 0, 5000, .inl f_stepA)), ((am 15), .inl (cA 0, 5000, .inl f_stepB)), ((am 16), .inl (cA 0, 5000, .inl f_stepC)), ((am 18), .inl (cA 1, 250, .inr (.inl u.1))), ((am 17), .inl (cA 1, 20, .inr (.inl u.2.1))), ((am 7), .inl (cA 0, 20, .inl f_mergeTo)), ((am 8), .inl (cA 0, 20, .inl f_mergeKnown))]) (va_A [((am 0), .inr (9, F9 am v_status v_now v_told v_merges v_taped v_size v_from v_to v_fault v_readFault v_traits v_length v_open v_leaks v_places v_models)), ((am 6), .inl (cA 2, 400, .inl f_isGone)), ((am 2), .inl (cA 0, 400, .inl f_rowStream)), ((am 19), .inl (cA 2, 20, .inl f_isOne)), ((am 1), .inl (cA 0, 400, .inl f_rowPerson)), ((am 3), .inl (cA 0, 400, .inl f_rowMoment)), ((am 4), .inl (cA 0, 400, .inl f_rowKnown)), ((am 5), .inl (cA 0, 400, .inl f_rowValue)), ((am 12), .inl (cA 0, 20, .inl f_size0)), ((am 13), .inl (cA 0, 5000, .inl f_step)), ((am 14), .inl (cA 0, 5000, .inl f_stepA)), ((am 15), .inl (cA 0, 5000, .inl f_stepB)), ((am 16), .inl (cA 0, 5000, .inl f_stepC)), ((am 18), .inl (cA 1, 250, .inr (.inl f_heap))), ((am 17), .inl (cA 1, 20, .inr (.inl f_values))), ((am 7), .inl (cA 0, 20, .inl f_mergeTo)), ((am 8), .inl (cA 0, 20, .inl f_mergeKnown))] sz)) 0 0 (va_A [((am 0), .inr (9, F9 am v_status v_now v_told v_merges v_taped v_size v_from v_to v_fault v_readFault v_traits v_length v_open v_leaks v_places v_models)), ((am 6), .inl (cA 2, 400, .inl f_isGone)), ((am 2), .inl (cA 0, 400, .inl f_rowStream)), ((am 19), .inl (cA 2, 20, .inl f_isOne)), ((am 1), .inl (cA 0, 400, .inl f_rowPerson)), ((am 3), .inl (cA 0, 400, .inl f_rowMoment)), ((am 4), .inl (cA 0, 400, .inl f_rowKnown)), ((am 5), .inl (cA 0, 400, .inl f_rowValue)), ((am 12), .inl (cA 0, 20, .inl f_size0)), ((am 13), .inl (cA 0, 5000, .inl f_step)), ((am 14), .inl (cA 0, 5000, .inl f_stepA)), ((am 15), .inl (cA 0, 5000, .inl f_stepB)), ((am 16), .inl (cA 0, 5000, .inl f_stepC)), ((am 18), .inl (cA 1, 250, .inr (.inl f_heap))), ((am 17), .inl (cA 1, 20, .inr (.inl f_values))), ((am 7), .inl (cA 0, 20, .inl f_mergeTo)), ((am 8), .inl (cA 0, 20, .inl f_mergeKnown))] sz) := by
  refine Met.ofW (cc := cX9_value) (maxL := 5) (ret := (some .long)) (by decide) rfl ?_
  intro p e s m args below meth c s₁ B hml hv
  obtain ⟨rfl, hsz, hP, hK, hD0, hN⟩ := hv
  have hx := B.exec
  have hb := B.bytes
  have hr := B.returns
  have hts := atoms_spec (ws := wsX9_value) B.pre
  have hown : s.vm.findClass RX9 = some m.cls := findClass_of_methodNamed B.named
  have hlocks := B.notSynchronized
  subst hsz
  have hD := hD0.self (sz := s.heap.size)
  generalize hAe : va_A [((am 0), .inr (9, F9 am v_status v_now v_told v_merges v_taped v_size v_from v_to v_fault v_readFault v_traits v_length v_open v_leaks v_places v_models)), ((am 6), .inl (cA 2, 400, .inl f_isGone)), ((am 2), .inl (cA 0, 400, .inl f_rowStream)), ((am 19), .inl (cA 2, 20, .inl f_isOne)), ((am 1), .inl (cA 0, 400, .inl f_rowPerson)), ((am 3), .inl (cA 0, 400, .inl f_rowMoment)), ((am 4), .inl (cA 0, 400, .inl f_rowKnown)), ((am 5), .inl (cA 0, 400, .inl f_rowValue)), ((am 12), .inl (cA 0, 20, .inl f_size0)), ((am 13), .inl (cA 0, 5000, .inl f_step)), ((am 14), .inl (cA 0, 5000, .inl f_stepA)), ((am 15), .inl (cA 0, 5000, .inl f_stepB)), ((am 16), .inl (cA 0, 5000, .inl f_stepC)), ((am 18), .inl (cA 1, 250, .inr (.inl f_heap))), ((am 17), .inl (cA 1, 20, .inr (.inl f_values))), ((am 7), .inl (cA 0, 20, .inl f_mergeTo)), ((am 8), .inl (cA 0, 20, .inl f_mergeKnown))] s.heap.size = A at hD ⊢
  have hA : ∀ q : Nat, s.heap.size ≤ q → A q := fun q h => by rw [← hAe]; exact Or.inr h
  have hS : va_S A s.heap s.heap [] := va_S.rf
  have hl := lv_entry ([.ref (am 0), .int tt, .int pp, .int mo, .int kn]) (n := 5) (Nat.le_of_ble_eq_true rfl)
  rw [lg_entry_eq]
  generalize (lg_sl ([.ref (am 0), .int tt, .int pp, .int mo, .int kn]) ++ List.replicate (5 - (lg_sl ([.ref (am 0), .int tt, .int pp, .int mo, .int kn])).length) Slot.unset).toArray = ls at hl ⊢
  have hl : lv_has ls 5 [(0, .ref (am 0)), (1, .int tt), (2, .int pp), (3, .int mo), (4, .int kn)] := hl
  generalize hQe : MQ below _ _ _ _ _ _ = QQ
  refine lv_aload_n hx hb dX9_value_0 rfl (lv_at hl 0 rfl) ?_
  refine lv_iload_n hx hb dX9_value_1 rfl (lv_at hl 1 rfl) ?_
  obtain ⟨hPc, hDc, hFc, hCc⟩ := va_pre (ws' := [((am 0), .inr (9, F9 am v_status v_now v_told v_merges v_taped v_size v_from v_to v_fault v_readFault v_traits v_length v_open v_leaks v_places v_models))]) hP hD hS hA [0] (by decide) rfl
  refine va_calli (va_runV (As := [.int tt]) (rest := []) ⟨hx, hb, hml, hown, hts⟩ (k_X9_isTrait l dC dI cA s.heap.size am v_status v_now v_told v_merges v_taped v_size v_from v_to v_fault v_readFault v_traits v_length v_open v_leaks v_places v_models tt i_v_now i_v_told i_v_taped i_v_size i_v_from i_v_to i_v_traits i_v_length i_v_open i_v_places i_v_models) (cwV 1 hts gX9_value_X9_isTrait rfl rfl rfl (by decide +kernel) ⟨Nat.le_of_ble_eq_true rfl, Nat.le_of_ble_eq_true rfl⟩) ⟨fun a U g mk q => by obtain ⟨q0, q1, qP, qK, qD, qN⟩ := q; exact ⟨q0, q1, qP, va_K.moved (u := U) (U := U.calling g mk a) (Vm.Alike.refl U.vm) qK, qD, qN.same rfl⟩, va_recv hK hPc (ci := 9) (q0 := 0) rfl rfl, fun U hU hW => ⟨rfl, by rw [hU], by rw [hU]; exact hPc, va_K.moved hW.alike hK, hDc.weaken (fun _ _ _ _ => trivial), hN.warm hW⟩⟩ rfl rfl hl.1 rfl (lv_room (Nat.le_of_ble_eq_true rfl)) dX9_value_2 ⟨Nat.le_of_ble_eq_true rfl, Nat.le_of_ble_eq_true rfl⟩) hS (fun q _ h => hFc q h) hFc (fun r_1 u_2 t H1 locs ht hvm hw_3 hB hz1 hk1 hS => ?_)
  try dsimp only at hw_3 hB
  have po_4 := hw_3
  clear hw_3
  obtain ⟨hP1, hD1⟩ := hB
  rw [ht] at hP1
  obtain ⟨hP, hD⟩ := va_join (wr := [((am 6), .inl (cA 2, 400, .inl f_isGone)), ((am 2), .inl (cA 0, 400, .inl f_rowStream)), ((am 19), .inl (cA 2, 20, .inl f_isOne)), ((am 1), .inl (cA 0, 400, .inl f_rowPerson)), ((am 3), .inl (cA 0, 400, .inl f_rowMoment)), ((am 4), .inl (cA 0, 400, .inl f_rowKnown)), ((am 5), .inl (cA 0, 400, .inl f_rowValue)), ((am 12), .inl (cA 0, 20, .inl f_size0)), ((am 13), .inl (cA 0, 5000, .inl f_step)), ((am 14), .inl (cA 0, 5000, .inl f_stepA)), ((am 15), .inl (cA 0, 5000, .inl f_stepB)), ((am 16), .inl (cA 0, 5000, .inl f_stepC)), ((am 18), .inl (cA 1, 250, .inr (.inl f_heap))), ((am 17), .inl (cA 1, 20, .inr (.inl f_values))), ((am 7), .inl (cA 0, 20, .inl f_mergeTo)), ((am 8), .inl (cA 0, 20, .inl f_mergeKnown))]) (w1 := [((am 0), .inr (9, F9 am v_status v_now v_told v_merges v_taped v_size v_from v_to v_fault v_readFault v_traits v_length v_open v_leaks v_places v_models))]) hP hD [0] [1, 2, 3, 4, 5, 6, 7, 8, 9, 10, 11, 12, 13, 14, 15, 16] hCc rfl (by decide) (by decide) hk1 hFc hP1 hD1
  clear hz1
  generalize H1 = H at hP hS ⊢
  refine lv_if_eq (tgt := 42) hx hb dX9_value_5 (by decide) (fun c_5 => ?_) (fun c_5 => ?_)
  · have dc_5 : r_1.toInt = 0 := jI_eq c_5 rfl (by decide)
    refine lv_ldc2 hx hb hown (hts (.constantLong RX9 274 (-9000000000000000000)) (by decide +kernel)) dX9_value_42 ?_
    obtain ⟨hP9, hD9⟩ := va_pd (ws' := [((am 0), .inr (9, F9 am v_status v_now v_told v_merges v_taped v_size v_from v_to v_fault v_readFault v_traits v_length v_open v_leaks v_places v_models)), ((am 6), .inl (cA 2, 400, .inl f_isGone)), ((am 2), .inl (cA 0, 400, .inl f_rowStream)), ((am 19), .inl (cA 2, 20, .inl f_isOne)), ((am 1), .inl (cA 0, 400, .inl f_rowPerson)), ((am 3), .inl (cA 0, 400, .inl f_rowMoment)), ((am 4), .inl (cA 0, 400, .inl f_rowKnown)), ((am 5), .inl (cA 0, 400, .inl f_rowValue)), ((am 12), .inl (cA 0, 20, .inl f_size0)), ((am 13), .inl (cA 0, 5000, .inl f_step)), ((am 14), .inl (cA 0, 5000, .inl f_stepA)), ((am 15), .inl (cA 0, 5000, .inl f_stepB)), ((am 16), .inl (cA 0, 5000, .inl f_stepC)), ((am 18), .inl (cA 1, 250, .inr (.inl f_heap))), ((am 17), .inl (cA 1, 20, .inr (.inl f_values))), ((am 7), .inl (cA 0, 20, .inl f_mergeTo)), ((am 8), .inl (cA 0, 20, .inl f_mergeKnown))]) hP hD [16, 0, 1, 2, 3, 4, 5, 6, 7, 8, 9, 10, 11, 12, 13, 14, 15] (by decide) rfl
    subst hQe
    have hans : ((-9000000000000000000) : Int64).toInt = (-9000000000000000000) := (by decide)
    exact W.lret (v := (-9000000000000000000)) hx hb hr (fun t ht hW => ⟨⟨(-9000000000000000000), (f_heap, f_values, f_isOne), rfl, trivial, by rw [ht]; exact hP9, hD9⟩, hS.F ht⟩) hS.2.2 dX9_value_45
  · have dc_5 : ¬ r_1.toInt = 0 := jI_ne c_5 rfl (by decide)
    refine lv_iload_n hx hb dX9_value_8 rfl (lv_at hl 2 rfl) ?_
    obtain ⟨hPc, hDc, hFc, hCc⟩ := va_pre (ws' := []) hP hD hS hA [] (by decide) rfl
    refine va_calli (va_runS (As := [.int pp]) (rest := []) ⟨hx, hb, hml, hown, hts⟩ (k_X9_isPerson l dC dI cA H.size pp ) (va_cwS 1 hts gX9_value_X9_isPerson rfl rfl rfl (by decide +kernel) ⟨Nat.le_of_ble_eq_true rfl, Nat.le_of_ble_eq_true rfl⟩) ⟨fun a U g mk q => by obtain ⟨q0, q1, qP, qK, qD, qN⟩ := q; exact ⟨q0, q1, qP, va_K.moved (u := U) (U := U.calling g mk a) (Vm.Alike.refl U.vm) qK, qD, qN.same rfl⟩, fun U hU hW => ⟨rfl, by rw [hU], by rw [hU]; exact hPc, va_K.moved hW.alike hK, hDc.weaken (fun _ _ _ _ => trivial), hN.warm hW⟩⟩ rfl rfl hl.1 rfl (lv_room (Nat.le_of_ble_eq_true rfl)) dX9_value_9 ⟨Nat.le_of_ble_eq_true rfl, Nat.le_of_ble_eq_true rfl⟩) hS (fun q _ h => hFc q h) hFc (fun r_6 u_7 t H1 locs ht hvm hw_8 hB hz1 hk1 hS => ?_)
    try dsimp only at hw_8 hB
    have po_9 := hw_8
    clear hw_8
    obtain ⟨hP1, hD1⟩ := hB
    rw [ht] at hP1
    obtain ⟨hP, hD⟩ := va_join (wr := [((am 6), .inl (cA 2, 400, .inl f_isGone)), ((am 2), .inl (cA 0, 400, .inl f_rowStream)), ((am 19), .inl (cA 2, 20, .inl f_isOne)), ((am 1), .inl (cA 0, 400, .inl f_rowPerson)), ((am 3), .inl (cA 0, 400, .inl f_rowMoment)), ((am 4), .inl (cA 0, 400, .inl f_rowKnown)), ((am 5), .inl (cA 0, 400, .inl f_rowValue)), ((am 12), .inl (cA 0, 20, .inl f_size0)), ((am 13), .inl (cA 0, 5000, .inl f_step)), ((am 14), .inl (cA 0, 5000, .inl f_stepA)), ((am 15), .inl (cA 0, 5000, .inl f_stepB)), ((am 16), .inl (cA 0, 5000, .inl f_stepC)), ((am 18), .inl (cA 1, 250, .inr (.inl f_heap))), ((am 17), .inl (cA 1, 20, .inr (.inl f_values))), ((am 7), .inl (cA 0, 20, .inl f_mergeTo)), ((am 8), .inl (cA 0, 20, .inl f_mergeKnown)), ((am 0), .inr (9, F9 am v_status v_now v_told v_merges v_taped v_size v_from v_to v_fault v_readFault v_traits v_length v_open v_leaks v_places v_models))]) (w1 := []) hP hD [] [0, 1, 2, 3, 4, 5, 6, 7, 8, 9, 10, 11, 12, 13, 14, 15, 16] hCc rfl (by decide) (by decide) hk1 hFc hP1 hD1
    clear hz1
    generalize H1 = H at hP hS ⊢
    refine lv_if_eq (tgt := 42) hx hb dX9_value_12 (by decide) (fun c_10 => ?_) (fun c_10 => ?_)
    · have dc_10 : r_6.toInt = 0 := jI_eq c_10 rfl (by decide)
      refine lv_ldc2 hx hb hown (hts (.constantLong RX9 274 (-9000000000000000000)) (by decide +kernel)) dX9_value_42 ?_
      obtain ⟨hP9, hD9⟩ := va_pd (ws' := [((am 0), .inr (9, F9 am v_status v_now v_told v_merges v_taped v_size v_from v_to v_fault v_readFault v_traits v_length v_open v_leaks v_places v_models)), ((am 6), .inl (cA 2, 400, .inl f_isGone)), ((am 2), .inl (cA 0, 400, .inl f_rowStream)), ((am 19), .inl (cA 2, 20, .inl f_isOne)), ((am 1), .inl (cA 0, 400, .inl f_rowPerson)), ((am 3), .inl (cA 0, 400, .inl f_rowMoment)), ((am 4), .inl (cA 0, 400, .inl f_rowKnown)), ((am 5), .inl (cA 0, 400, .inl f_rowValue)), ((am 12), .inl (cA 0, 20, .inl f_size0)), ((am 13), .inl (cA 0, 5000, .inl f_step)), ((am 14), .inl (cA 0, 5000, .inl f_stepA)), ((am 15), .inl (cA 0, 5000, .inl f_stepB)), ((am 16), .inl (cA 0, 5000, .inl f_stepC)), ((am 18), .inl (cA 1, 250, .inr (.inl f_heap))), ((am 17), .inl (cA 1, 20, .inr (.inl f_values))), ((am 7), .inl (cA 0, 20, .inl f_mergeTo)), ((am 8), .inl (cA 0, 20, .inl f_mergeKnown))]) hP hD [16, 0, 1, 2, 3, 4, 5, 6, 7, 8, 9, 10, 11, 12, 13, 14, 15] (by decide) rfl
      subst hQe
      have hans : ((-9000000000000000000) : Int64).toInt = (-9000000000000000000) := (by decide)
      exact W.lret (v := (-9000000000000000000)) hx hb hr (fun t ht hW => ⟨⟨(-9000000000000000000), (f_heap, f_values, f_isOne), rfl, trivial, by rw [ht]; exact hP9, hD9⟩, hS.F ht⟩) hS.2.2 dX9_value_45
    · have dc_10 : ¬ r_6.toInt = 0 := jI_ne c_10 rfl (by decide)
      refine lv_iload_n hx hb dX9_value_15 rfl (lv_at hl 3 rfl) ?_
      obtain ⟨hPc, hDc, hFc, hCc⟩ := va_pre (ws' := []) hP hD hS hA [] (by decide) rfl
      refine va_calli (va_runS (As := [.int mo]) (rest := []) ⟨hx, hb, hml, hown, hts⟩ (k_X9_isMoment l dC dI cA H.size mo ) (va_cwS 1 hts gX9_value_X9_isMoment rfl rfl rfl (by decide +kernel) ⟨Nat.le_of_ble_eq_true rfl, Nat.le_of_ble_eq_true rfl⟩) ⟨fun a U g mk q => by obtain ⟨q0, q1, qP, qK, qD, qN⟩ := q; exact ⟨q0, q1, qP, va_K.moved (u := U) (U := U.calling g mk a) (Vm.Alike.refl U.vm) qK, qD, qN.same rfl⟩, fun U hU hW => ⟨rfl, by rw [hU], by rw [hU]; exact hPc, va_K.moved hW.alike hK, hDc.weaken (fun _ _ _ _ => trivial), hN.warm hW⟩⟩ rfl rfl hl.1 rfl (lv_room (Nat.le_of_ble_eq_true rfl)) dX9_value_16 ⟨Nat.le_of_ble_eq_true rfl, Nat.le_of_ble_eq_true rfl⟩) hS (fun q _ h => hFc q h) hFc (fun r_11 u_12 t H1 locs ht hvm hw_13 hB hz1 hk1 hS => ?_)
      try dsimp only at hw_13 hB
      have po_14 := hw_13
      clear hw_13
      obtain ⟨hP1, hD1⟩ := hB
      rw [ht] at hP1
      obtain ⟨hP, hD⟩ := va_join (wr := [((am 6), .inl (cA 2, 400, .inl f_isGone)), ((am 2), .inl (cA 0, 400, .inl f_rowStream)), ((am 19), .inl (cA 2, 20, .inl f_isOne)), ((am 1), .inl (cA 0, 400, .inl f_rowPerson)), ((am 3), .inl (cA 0, 400, .inl f_rowMoment)), ((am 4), .inl (cA 0, 400, .inl f_rowKnown)), ((am 5), .inl (cA 0, 400, .inl f_rowValue)), ((am 12), .inl (cA 0, 20, .inl f_size0)), ((am 13), .inl (cA 0, 5000, .inl f_step)), ((am 14), .inl (cA 0, 5000, .inl f_stepA)), ((am 15), .inl (cA 0, 5000, .inl f_stepB)), ((am 16), .inl (cA 0, 5000, .inl f_stepC)), ((am 18), .inl (cA 1, 250, .inr (.inl f_heap))), ((am 17), .inl (cA 1, 20, .inr (.inl f_values))), ((am 7), .inl (cA 0, 20, .inl f_mergeTo)), ((am 8), .inl (cA 0, 20, .inl f_mergeKnown)), ((am 0), .inr (9, F9 am v_status v_now v_told v_merges v_taped v_size v_from v_to v_fault v_readFault v_traits v_length v_open v_leaks v_places v_models))]) (w1 := []) hP hD [] [0, 1, 2, 3, 4, 5, 6, 7, 8, 9, 10, 11, 12, 13, 14, 15, 16] hCc rfl (by decide) (by decide) hk1 hFc hP1 hD1
      clear hz1
      generalize H1 = H at hP hS ⊢
      refine lv_if_eq (tgt := 42) hx hb dX9_value_19 (by decide) (fun c_15 => ?_) (fun c_15 => ?_)
      · have dc_15 : r_11.toInt = 0 := jI_eq c_15 rfl (by decide)
        refine lv_ldc2 hx hb hown (hts (.constantLong RX9 274 (-9000000000000000000)) (by decide +kernel)) dX9_value_42 ?_
        obtain ⟨hP9, hD9⟩ := va_pd (ws' := [((am 0), .inr (9, F9 am v_status v_now v_told v_merges v_taped v_size v_from v_to v_fault v_readFault v_traits v_length v_open v_leaks v_places v_models)), ((am 6), .inl (cA 2, 400, .inl f_isGone)), ((am 2), .inl (cA 0, 400, .inl f_rowStream)), ((am 19), .inl (cA 2, 20, .inl f_isOne)), ((am 1), .inl (cA 0, 400, .inl f_rowPerson)), ((am 3), .inl (cA 0, 400, .inl f_rowMoment)), ((am 4), .inl (cA 0, 400, .inl f_rowKnown)), ((am 5), .inl (cA 0, 400, .inl f_rowValue)), ((am 12), .inl (cA 0, 20, .inl f_size0)), ((am 13), .inl (cA 0, 5000, .inl f_step)), ((am 14), .inl (cA 0, 5000, .inl f_stepA)), ((am 15), .inl (cA 0, 5000, .inl f_stepB)), ((am 16), .inl (cA 0, 5000, .inl f_stepC)), ((am 18), .inl (cA 1, 250, .inr (.inl f_heap))), ((am 17), .inl (cA 1, 20, .inr (.inl f_values))), ((am 7), .inl (cA 0, 20, .inl f_mergeTo)), ((am 8), .inl (cA 0, 20, .inl f_mergeKnown))]) hP hD [16, 0, 1, 2, 3, 4, 5, 6, 7, 8, 9, 10, 11, 12, 13, 14, 15] (by decide) rfl
        subst hQe
        have hans : ((-9000000000000000000) : Int64).toInt = (-9000000000000000000) := (by decide)
        exact W.lret (v := (-9000000000000000000)) hx hb hr (fun t ht hW => ⟨⟨(-9000000000000000000), (f_heap, f_values, f_isOne), rfl, trivial, by rw [ht]; exact hP9, hD9⟩, hS.F ht⟩) hS.2.2 dX9_value_45
      · have dc_15 : ¬ r_11.toInt = 0 := jI_ne c_15 rfl (by decide)
        refine lv_iload hx hb dX9_value_22 (lv_at hl 4 rfl) ?_
        obtain ⟨hPc, hDc, hFc, hCc⟩ := va_pre (ws' := []) hP hD hS hA [] (by decide) rfl
        refine va_calli (va_runS (As := [.int kn]) (rest := []) ⟨hx, hb, hml, hown, hts⟩ (k_X9_isMoment l dC dI cA H.size kn ) (va_cwS 1 hts gX9_value_X9_isMoment rfl rfl rfl (by decide +kernel) ⟨Nat.le_of_ble_eq_true rfl, Nat.le_of_ble_eq_true rfl⟩) ⟨fun a U g mk q => by obtain ⟨q0, q1, qP, qK, qD, qN⟩ := q; exact ⟨q0, q1, qP, va_K.moved (u := U) (U := U.calling g mk a) (Vm.Alike.refl U.vm) qK, qD, qN.same rfl⟩, fun U hU hW => ⟨rfl, by rw [hU], by rw [hU]; exact hPc, va_K.moved hW.alike hK, hDc.weaken (fun _ _ _ _ => trivial), hN.warm hW⟩⟩ rfl rfl hl.1 rfl (lv_room (Nat.le_of_ble_eq_true rfl)) dX9_value_24 ⟨Nat.le_of_ble_eq_true rfl, Nat.le_of_ble_eq_true rfl⟩) hS (fun q _ h => hFc q h) hFc (fun r_16 u_17 t H1 locs ht hvm hw_18 hB hz1 hk1 hS => ?_)
        try dsimp only at hw_18 hB
        have po_19 := hw_18
        clear hw_18
        obtain ⟨hP1, hD1⟩ := hB
        rw [ht] at hP1
        obtain ⟨hP, hD⟩ := va_join (wr := [((am 6), .inl (cA 2, 400, .inl f_isGone)), ((am 2), .inl (cA 0, 400, .inl f_rowStream)), ((am 19), .inl (cA 2, 20, .inl f_isOne)), ((am 1), .inl (cA 0, 400, .inl f_rowPerson)), ((am 3), .inl (cA 0, 400, .inl f_rowMoment)), ((am 4), .inl (cA 0, 400, .inl f_rowKnown)), ((am 5), .inl (cA 0, 400, .inl f_rowValue)), ((am 12), .inl (cA 0, 20, .inl f_size0)), ((am 13), .inl (cA 0, 5000, .inl f_step)), ((am 14), .inl (cA 0, 5000, .inl f_stepA)), ((am 15), .inl (cA 0, 5000, .inl f_stepB)), ((am 16), .inl (cA 0, 5000, .inl f_stepC)), ((am 18), .inl (cA 1, 250, .inr (.inl f_heap))), ((am 17), .inl (cA 1, 20, .inr (.inl f_values))), ((am 7), .inl (cA 0, 20, .inl f_mergeTo)), ((am 8), .inl (cA 0, 20, .inl f_mergeKnown)), ((am 0), .inr (9, F9 am v_status v_now v_told v_merges v_taped v_size v_from v_to v_fault v_readFault v_traits v_length v_open v_leaks v_places v_models))]) (w1 := []) hP hD [] [0, 1, 2, 3, 4, 5, 6, 7, 8, 9, 10, 11, 12, 13, 14, 15, 16] hCc rfl (by decide) (by decide) hk1 hFc hP1 hD1
        clear hz1
        generalize H1 = H at hP hS ⊢
        refine lv_if_eq (tgt := 42) hx hb dX9_value_27 (by decide) (fun c_20 => ?_) (fun c_20 => ?_)
        · have dc_20 : r_16.toInt = 0 := jI_eq c_20 rfl (by decide)
          refine lv_ldc2 hx hb hown (hts (.constantLong RX9 274 (-9000000000000000000)) (by decide +kernel)) dX9_value_42 ?_
          obtain ⟨hP9, hD9⟩ := va_pd (ws' := [((am 0), .inr (9, F9 am v_status v_now v_told v_merges v_taped v_size v_from v_to v_fault v_readFault v_traits v_length v_open v_leaks v_places v_models)), ((am 6), .inl (cA 2, 400, .inl f_isGone)), ((am 2), .inl (cA 0, 400, .inl f_rowStream)), ((am 19), .inl (cA 2, 20, .inl f_isOne)), ((am 1), .inl (cA 0, 400, .inl f_rowPerson)), ((am 3), .inl (cA 0, 400, .inl f_rowMoment)), ((am 4), .inl (cA 0, 400, .inl f_rowKnown)), ((am 5), .inl (cA 0, 400, .inl f_rowValue)), ((am 12), .inl (cA 0, 20, .inl f_size0)), ((am 13), .inl (cA 0, 5000, .inl f_step)), ((am 14), .inl (cA 0, 5000, .inl f_stepA)), ((am 15), .inl (cA 0, 5000, .inl f_stepB)), ((am 16), .inl (cA 0, 5000, .inl f_stepC)), ((am 18), .inl (cA 1, 250, .inr (.inl f_heap))), ((am 17), .inl (cA 1, 20, .inr (.inl f_values))), ((am 7), .inl (cA 0, 20, .inl f_mergeTo)), ((am 8), .inl (cA 0, 20, .inl f_mergeKnown))]) hP hD [16, 0, 1, 2, 3, 4, 5, 6, 7, 8, 9, 10, 11, 12, 13, 14, 15] (by decide) rfl
          subst hQe
          have hans : ((-9000000000000000000) : Int64).toInt = (-9000000000000000000) := (by decide)
          exact W.lret (v := (-9000000000000000000)) hx hb hr (fun t ht hW => ⟨⟨(-9000000000000000000), (f_heap, f_values, f_isOne), rfl, trivial, by rw [ht]; exact hP9, hD9⟩, hS.F ht⟩) hS.2.2 dX9_value_45
        · have dc_20 : ¬ r_16.toInt = 0 := jI_ne c_20 rfl (by decide)
          refine lv_aload_n hx hb dX9_value_30 rfl (lv_at hl 0 rfl) ?_
          refine lv_iload_n hx hb dX9_value_31 rfl (lv_at hl 1 rfl) ?_
          refine lv_iload_n hx hb dX9_value_32 rfl (lv_at hl 2 rfl) ?_
          refine lv_iload_n hx hb dX9_value_33 rfl (lv_at hl 3 rfl) ?_
          refine lv_iload hx hb dX9_value_34 (lv_at hl 4 rfl) ?_
          obtain ⟨hPc, hDc, hFc, hCc⟩ := va_pre (ws' := [((am 0), .inr (9, F9 am v_status v_now v_told v_merges v_taped v_size v_from v_to v_fault v_readFault v_traits v_length v_open v_leaks v_places v_models)), ((am 6), .inl (cA 2, 400, .inl f_isGone)), ((am 2), .inl (cA 0, 400, .inl f_rowStream)), ((am 19), .inl (cA 2, 20, .inl f_isOne)), ((am 1), .inl (cA 0, 400, .inl f_rowPerson)), ((am 3), .inl (cA 0, 400, .inl f_rowMoment)), ((am 4), .inl (cA 0, 400, .inl f_rowKnown)), ((am 5), .inl (cA 0, 400, .inl f_rowValue)), ((am 12), .inl (cA 0, 20, .inl f_size0)), ((am 13), .inl (cA 0, 5000, .inl f_step)), ((am 14), .inl (cA 0, 5000, .inl f_stepA)), ((am 15), .inl (cA 0, 5000, .inl f_stepB)), ((am 16), .inl (cA 0, 5000, .inl f_stepC)), ((am 18), .inl (cA 1, 250, .inr (.inl f_heap))), ((am 17), .inl (cA 1, 20, .inr (.inl f_values))), ((am 7), .inl (cA 0, 20, .inl f_mergeTo)), ((am 8), .inl (cA 0, 20, .inl f_mergeKnown))]) hP hD hS hA [16, 0, 1, 2, 3, 4, 5, 6, 7, 8, 9, 10, 11, 12, 13, 14, 15] (by decide) rfl
          refine va_calll (va_runV (As := [.int tt, .int pp, .int mo, .int kn]) (rest := []) ⟨hx, hb, hml, hown, hts⟩ (k_X9_valueOf l dC dI cA H.size am v_status v_now v_told v_merges v_taped v_size v_from v_to v_fault v_readFault v_traits v_length v_open v_leaks v_places v_models f_isGone f_rowStream f_isOne f_rowPerson f_rowMoment f_rowKnown f_rowValue f_size0 f_step f_stepA f_stepB f_stepC f_heap f_values f_mergeTo f_mergeKnown tt pp mo kn i_v_now i_v_told i_v_taped i_v_size i_v_from i_v_to i_v_traits i_v_length i_v_open i_v_places i_v_models i_f_rowPerson i_f_size0 i_f_mergeTo i_f_mergeKnown hac hpr (by omega) (by omega)) (cwV 4 hts gX9_value_X9_valueOf rfl rfl rfl (by decide +kernel) ⟨Nat.le_of_ble_eq_true rfl, Nat.le_of_ble_eq_true rfl⟩) ⟨fun a U g mk q => by obtain ⟨q0, q1, qP, qK, qD, qN⟩ := q; exact ⟨q0, q1, qP, va_K.moved (u := U) (U := U.calling g mk a) (Vm.Alike.refl U.vm) qK, qD, qN.same rfl⟩, va_recv hK hPc (ci := 9) (q0 := 0) rfl rfl, fun U hU hW => ⟨rfl, by rw [hU], by rw [hU]; exact hPc, va_K.moved hW.alike hK, hDc.weaken (fun _ _ _ _ => trivial), hN.warm hW⟩⟩ rfl rfl hl.1 rfl (lv_room (Nat.le_of_ble_eq_true rfl)) dX9_value_36 ⟨Nat.le_of_ble_eq_true rfl, Nat.le_of_ble_eq_true rfl⟩) hS (fun q _ h => hFc q h) hFc (fun r_21 u_22 t H1 locs ht hvm hw_23 hB hz1 hk1 hS => ?_)
          obtain ⟨w_24, w_25, w_26⟩ := u_22
          try dsimp only at hw_23 hB
          obtain ⟨hP1, hD1⟩ := hB
          rw [ht] at hP1
          obtain ⟨hP, hD⟩ := va_join (wr := []) (w1 := [((am 0), .inr (9, F9 am v_status v_now v_told v_merges v_taped v_size v_from v_to v_fault v_readFault v_traits v_length v_open v_leaks v_places v_models)), ((am 6), .inl (cA 2, 400, .inl f_isGone)), ((am 2), .inl (cA 0, 400, .inl f_rowStream)), ((am 19), .inl (cA 2, 20, .inl w_26)), ((am 1), .inl (cA 0, 400, .inl f_rowPerson)), ((am 3), .inl (cA 0, 400, .inl f_rowMoment)), ((am 4), .inl (cA 0, 400, .inl f_rowKnown)), ((am 5), .inl (cA 0, 400, .inl f_rowValue)), ((am 12), .inl (cA 0, 20, .inl f_size0)), ((am 13), .inl (cA 0, 5000, .inl f_step)), ((am 14), .inl (cA 0, 5000, .inl f_stepA)), ((am 15), .inl (cA 0, 5000, .inl f_stepB)), ((am 16), .inl (cA 0, 5000, .inl f_stepC)), ((am 18), .inl (cA 1, 250, .inr (.inl w_24))), ((am 17), .inl (cA 1, 20, .inr (.inl w_25))), ((am 7), .inl (cA 0, 20, .inl f_mergeTo)), ((am 8), .inl (cA 0, 20, .inl f_mergeKnown))]) hP hD [16, 0, 1, 2, 3, 4, 5, 6, 7, 8, 9, 10, 11, 12, 13, 14, 15] [] hCc rfl (by decide) (by decide) hk1 hFc hP1 hD1
          clear hz1
          generalize H1 = H at hP hS ⊢
          refine lv_goto (tgt := 45) hx hb dX9_value_39 (by decide) ?_
          obtain ⟨hP9, hD9⟩ := va_pd (ws' := [((am 0), .inr (9, F9 am v_status v_now v_told v_merges v_taped v_size v_from v_to v_fault v_readFault v_traits v_length v_open v_leaks v_places v_models)), ((am 6), .inl (cA 2, 400, .inl f_isGone)), ((am 2), .inl (cA 0, 400, .inl f_rowStream)), ((am 19), .inl (cA 2, 20, .inl w_26)), ((am 1), .inl (cA 0, 400, .inl f_rowPerson)), ((am 3), .inl (cA 0, 400, .inl f_rowMoment)), ((am 4), .inl (cA 0, 400, .inl f_rowKnown)), ((am 5), .inl (cA 0, 400, .inl f_rowValue)), ((am 12), .inl (cA 0, 20, .inl f_size0)), ((am 13), .inl (cA 0, 5000, .inl f_step)), ((am 14), .inl (cA 0, 5000, .inl f_stepA)), ((am 15), .inl (cA 0, 5000, .inl f_stepB)), ((am 16), .inl (cA 0, 5000, .inl f_stepC)), ((am 18), .inl (cA 1, 250, .inr (.inl w_24))), ((am 17), .inl (cA 1, 20, .inr (.inl w_25))), ((am 7), .inl (cA 0, 20, .inl f_mergeTo)), ((am 8), .inl (cA 0, 20, .inl f_mergeKnown))]) hP hD [0, 1, 2, 3, 4, 5, 6, 7, 8, 9, 10, 11, 12, 13, 14, 15, 16] (by decide) rfl
          subst hQe
          have hans : (r_21 : Int64).toInt = r_21.toInt := rfl
          exact W.lret (v := r_21) hx hb hr (fun t ht hW => ⟨⟨r_21, (w_24, w_25, w_26), rfl, trivial, by rw [ht]; exact hP9, hD9⟩, hS.F ht⟩) hS.2.2 dX9_value_45
