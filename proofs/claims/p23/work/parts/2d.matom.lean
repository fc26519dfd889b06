theorem dX9_bracket_0 : decode cX9_bracket 0 = .ok (.aload_n 0, 1) := by decide +kernel
theorem dX9_bracket_1 : decode cX9_bracket 1 = .ok (.getfield 254, 3) := by decide +kernel
theorem dX9_bracket_4 : decode cX9_bracket 4 = .ok (.bipush 8, 2) := by decide +kernel
theorem dX9_bracket_6 : decode cX9_bracket 6 = .ok (.if_icmp .ne 8, 3) := by decide +kernel
theorem dX9_bracket_14 : decode cX9_bracket 14 = .ok (.aload_n 0, 1) := by decide +kernel
theorem dX9_bracket_15 : decode cX9_bracket 15 = .ok (.dup, 1) := by decide +kernel
theorem dX9_bracket_16 : decode cX9_bracket 16 = .ok (.getfield 254, 3) := by decide +kernel
theorem dX9_bracket_19 : decode cX9_bracket 19 = .ok (.iconst 1, 1) := by decide +kernel
theorem dX9_bracket_20 : decode cX9_bracket 20 = .ok (.iadd, 1) := by decide +kernel
theorem dX9_bracket_21 : decode cX9_bracket 21 = .ok (.putfield 254, 3) := by decide +kernel
theorem dX9_bracket_24 : decode cX9_bracket 24 = .ok (.aload_n 0, 1) := by decide +kernel
set_option maxRecDepth 20000 in
theorem ggX9_bracket_X9_next : GoodIn wsX9_bracket wsX9_next := goodIn_r _ [12, 13, 8, 14, 15, 16, 17, 18, 5, 19, 86, 87, 88, 89, 90, 91, 92, 93, 94, 95, 96, 97, 98, 99, 100, 101, 102, 103, 104, 105, 106, 107, 108, 109, 110, 111, 112, 113, 114, 115, 116, 117, 118, 119, 120, 121, 122, 123, 124, 125, 126, 127, 128, 129, 130, 131, 132, 133, 134, 135, 136] (by decide +kernel) (by decide +kernel)
set_option maxRecDepth 20000 in
theorem gX9_bracket_X9_next : GoodIn wsX9_bracket (wsV RX9 194 RX9 yX9_next wsX9_next) := goodIn_app (goodIn_of _ (by decide +kernel)) ggX9_bracket_X9_next
theorem dX9_bracket_25 : decode cX9_bracket 25 = .ok (.invokevirtual 194, 3) := by decide +kernel
theorem dX9_bracket_28 : decode cX9_bracket 28 = .ok (.aload_n 0, 1) := by decide +kernel
set_option maxRecDepth 20000 in
theorem ggX9_bracket_X9_sum : GoodIn wsX9_bracket wsX9_sum := goodIn_r _ [78, 79, 80, 81, 5, 23, 24, 25, 26, 7, 27, 28, 29, 30, 8, 14, 15, 13, 9, 10, 11, 12, 16, 17, 18, 19, 47, 48, 49, 50, 34, 51, 52, 53, 54, 55, 31, 32, 33, 35, 36, 37, 38, 39, 40, 41, 42, 43, 44, 45, 46, 2, 3, 4, 6, 56, 57, 58, 59, 60, 61, 62, 63, 64, 65, 66, 67, 68, 69, 70, 71, 72, 0, 1, 20, 21, 22, 73, 74, 75, 76, 77, 82, 83, 84, 85, 86, 87, 88, 89, 90, 91, 92, 93, 94, 95, 96, 97, 98, 99, 100, 101, 102, 103, 104, 105, 106, 107, 108, 109, 110, 111, 112, 113, 114, 115, 116, 117, 118, 119, 120, 121, 122, 123, 124, 125, 126, 127, 128, 129, 130, 131, 132, 133, 134, 135, 136] (by decide +kernel) (by decide +kernel)
set_option maxRecDepth 20000 in
theorem gX9_bracket_X9_sum : GoodIn wsX9_bracket (wsV RX9 257 RX9 yX9_sum wsX9_sum) := goodIn_app (goodIn_of _ (by decide +kernel)) ggX9_bracket_X9_sum
theorem dX9_bracket_29 : decode cX9_bracket 29 = .ok (.invokevirtual 257, 3) := by decide +kernel
theorem dX9_bracket_32 : decode cX9_bracket 32 = .ok (.aload_n 0, 1) := by decide +kernel
set_option maxRecDepth 20000 in
theorem ggX9_bracket_X9_good : GoodIn wsX9_bracket wsX9_good := goodIn_r _ [26, 7, 86, 87, 88, 89, 90, 91, 92, 93, 94, 95, 96, 97, 98, 99, 100, 101, 102, 103, 104, 105, 106, 107, 108, 109, 110, 111, 112, 113, 114, 115, 116, 117, 118, 119, 120, 121, 122, 123, 124, 125, 126, 127, 128, 129, 130, 131, 132, 133, 134, 135, 136] (by decide +kernel) (by decide +kernel)
set_option maxRecDepth 20000 in
theorem gX9_bracket_X9_good : GoodIn wsX9_bracket (wsV RX9 206 RX9 yX9_good wsX9_good) := goodIn_app (goodIn_of _ (by decide +kernel)) ggX9_bracket_X9_good
theorem dX9_bracket_33 : decode cX9_bracket 33 = .ok (.invokevirtual 206, 3) := by decide +kernel
theorem dX9_bracket_36 : decode cX9_bracket 36 = .ok (.ifCond .eq 16, 3) := by decide +kernel
theorem dX9_bracket_52 : decode cX9_bracket 52 = .ok (.aload_n 0, 1) := by decide +kernel
theorem dX9_bracket_53 : decode cX9_bracket 53 = .ok (.invokevirtual 206, 3) := by decide +kernel
theorem dX9_bracket_56 : decode cX9_bracket 56 = .ok (.ifCond .ne 4, 3) := by decide +kernel
theorem dX9_bracket_59 : decode cX9_bracket 59 = .ok (.return_, 1) := by decide +kernel
theorem dX9_bracket_39 : decode cX9_bracket 39 = .ok (.aload_n 0, 1) := by decide +kernel
theorem dX9_bracket_40 : decode cX9_bracket 40 = .ok (.bipush 41, 2) := by decide +kernel
set_option maxRecDepth 20000 in
theorem ggX9_bracket_X9_isSign : GoodIn wsX9_bracket wsX9_isSign := goodIn_r _ [30, 8, 14, 15, 13, 86, 87, 88, 89, 90, 91, 92, 93, 94, 95, 96, 97, 98, 99, 100, 101, 102, 103, 104, 105, 106, 107, 108, 109, 110, 111, 112, 113, 114, 115, 116, 117, 118, 119, 120, 121, 122, 123, 124, 125, 126, 127, 128, 129, 130, 131, 132, 133, 134, 135, 136] (by decide +kernel) (by decide +kernel)
set_option maxRecDepth 20000 in
theorem gX9_bracket_X9_isSign : GoodIn wsX9_bracket (wsV RX9 210 RX9 yX9_isSign wsX9_isSign) := goodIn_app (goodIn_of _ (by decide +kernel)) ggX9_bracket_X9_isSign
theorem dX9_bracket_42 : decode cX9_bracket 42 = .ok (.invokevirtual 210, 3) := by decide +kernel
theorem dX9_bracket_45 : decode cX9_bracket 45 = .ok (.ifCond .ne 7, 3) := by decide +kernel
theorem dX9_bracket_60 : decode cX9_bracket 60 = .ok (.aload_n 0, 1) := by decide +kernel
theorem dX9_bracket_61 : decode cX9_bracket 61 = .ok (.invokevirtual 194, 3) := by decide +kernel
theorem dX9_bracket_64 : decode cX9_bracket 64 = .ok (.aload_n 0, 1) := by decide +kernel
theorem dX9_bracket_65 : decode cX9_bracket 65 = .ok (.dup, 1) := by decide +kernel
theorem dX9_bracket_66 : decode cX9_bracket 66 = .ok (.getfield 254, 3) := by decide +kernel
theorem dX9_bracket_69 : decode cX9_bracket 69 = .ok (.iconst 1, 1) := by decide +kernel
theorem dX9_bracket_70 : decode cX9_bracket 70 = .ok (.isub, 1) := by decide +kernel
theorem dX9_bracket_71 : decode cX9_bracket 71 = .ok (.putfield 254, 3) := by decide +kernel
theorem dX9_bracket_74 : decode cX9_bracket 74 = .ok (.return_, 1) := by decide +kernel
theorem dX9_bracket_48 : decode cX9_bracket 48 = .ok (.aload_n 0, 1) := by decide +kernel
set_option maxRecDepth 20000 in
theorem ggX9_bracket_X9_faults : GoodIn wsX9_bracket wsX9_faults := goodIn_r _ [6, 7, 8, 86, 87, 88, 89, 90, 91, 92, 93, 94, 95, 96, 97, 98, 99, 100, 101, 102, 103, 104, 105, 106, 107, 108, 109, 110, 111, 112, 113, 114, 115, 116, 117, 118, 119, 120, 121, 122, 123, 124, 125, 126, 127, 128, 129, 130, 131, 132, 133, 134, 135, 136] (by decide +kernel) (by decide +kernel)
set_option maxRecDepth 20000 in
theorem gX9_bracket_X9_faults : GoodIn wsX9_bracket (wsV RX9 187 RX9 yX9_faults wsX9_faults) := goodIn_app (goodIn_of _ (by decide +kernel)) ggX9_bracket_X9_faults
theorem dX9_bracket_49 : decode cX9_bracket 49 = .ok (.invokevirtual 187, 3) := by decide +kernel
theorem dX9_bracket_9 : decode cX9_bracket 9 = .ok (.aload_n 0, 1) := by decide +kernel
theorem dX9_bracket_10 : decode cX9_bracket 10 = .ok (.invokevirtual 187, 3) := by decide +kernel
theorem dX9_bracket_13 : decode cX9_bracket 13 = .ok (.return_, 1) := by decide +kernel
theorem dX9_atom_0 : decode cX9_atom 0 = .ok (.aload_n 0, 1) := by decide +kernel
theorem dX9_atom_1 : decode cX9_atom 1 = .ok (.aload_n 0, 1) := by decide +kernel
theorem dX9_atom_2 : decode cX9_atom 2 = .ok (.getfield 173, 3) := by decide +kernel
theorem dX9_atom_5 : decode cX9_atom 5 = .ok (.bipush 48, 2) := by decide +kernel
theorem dX9_atom_7 : decode cX9_atom 7 = .ok (.bipush 57, 2) := by decide +kernel
set_option maxRecDepth 20000 in
theorem ggX9_atom_X9_isIn : GoodIn wsX9_atom wsX9_isIn := goodIn_r _ [15, 16, 17, 86, 87, 88, 89, 90, 91, 92, 93, 94, 95, 96, 97, 98, 99, 100, 101, 102, 103, 104, 105, 106, 107, 108, 109, 110, 111, 112, 113, 114, 115, 116, 117, 118, 119, 120, 121, 122, 123, 124, 125, 126, 127, 128, 129, 130, 131, 132, 133, 134, 135, 136] (by decide +kernel) (by decide +kernel)
set_option maxRecDepth 20000 in
theorem gX9_atom_X9_isIn : GoodIn wsX9_atom (wsV RX9 176 RX9 yX9_isIn wsX9_isIn) := goodIn_app (goodIn_of _ (by decide +kernel)) ggX9_atom_X9_isIn
theorem dX9_atom_9 : decode cX9_atom 9 = .ok (.invokevirtual 176, 3) := by decide +kernel
theorem dX9_atom_12 : decode cX9_atom 12 = .ok (.ifCond .eq 28, 3) := by decide +kernel
theorem dX9_atom_40 : decode cX9_atom 40 = .ok (.aload_n 0, 1) := by decide +kernel
theorem dX9_atom_41 : decode cX9_atom 41 = .ok (.bipush 40, 2) := by decide +kernel
set_option maxRecDepth 20000 in
theorem ggX9_atom_X9_isSign : GoodIn wsX9_atom wsX9_isSign := goodIn_r _ [50, 1, 16, 17, 22, 86, 87, 88, 89, 90, 91, 92, 93, 94, 95, 96, 97, 98, 99, 100, 101, 102, 103, 104, 105, 106, 107, 108, 109, 110, 111, 112, 113, 114, 115, 116, 117, 118, 119, 120, 121, 122, 123, 124, 125, 126, 127, 128, 129, 130, 131, 132, 133, 134, 135, 136] (by decide +kernel) (by decide +kernel)
set_option maxRecDepth 20000 in
theorem gX9_atom_X9_isSign : GoodIn wsX9_atom (wsV RX9 210 RX9 yX9_isSign wsX9_isSign) := goodIn_app (goodIn_of _ (by decide +kernel)) ggX9_atom_X9_isSign
theorem dX9_atom_43 : decode cX9_atom 43 = .ok (.invokevirtual 210, 3) := by decide +kernel
theorem dX9_atom_46 : decode cX9_atom 46 = .ok (.ifCond .eq 10, 3) := by decide +kernel
theorem dX9_atom_56 : decode cX9_atom 56 = .ok (.aload_n 0, 1) := by decide +kernel
theorem dX9_atom_57 : decode cX9_atom 57 = .ok (.ldc2_w 236, 3) := by decide +kernel
set_option maxRecDepth 20000 in
theorem ggX9_atom_X9_isWord : GoodIn wsX9_atom wsX9_isWord := goodIn_r _ [57, 1, 22, 17, 58, 59, 86, 87, 88, 89, 90, 91, 92, 93, 94, 95, 96, 97, 98, 99, 100, 101, 102, 103, 104, 105, 106, 107, 108, 109, 110, 111, 112, 113, 114, 115, 116, 117, 118, 119, 120, 121, 122, 123, 124, 125, 126, 127, 128, 129, 130, 131, 132, 133, 134, 135, 136] (by decide +kernel) (by decide +kernel)
set_option maxRecDepth 20000 in
theorem gX9_atom_X9_isWord : GoodIn wsX9_atom (wsV RX9 225 RX9 yX9_isWord wsX9_isWord) := goodIn_app (goodIn_of _ (by decide +kernel)) ggX9_atom_X9_isWord
theorem dX9_atom_60 : decode cX9_atom 60 = .ok (.invokevirtual 225, 3) := by decide +kernel
theorem dX9_atom_63 : decode cX9_atom 63 = .ok (.ifCond .eq 61, 3) := by decide +kernel
theorem dX9_atom_124 : decode cX9_atom 124 = .ok (.aload_n 0, 1) := by decide +kernel
theorem dX9_atom_125 : decode cX9_atom 125 = .ok (.ldc2_w 238, 3) := by decide +kernel
theorem dX9_atom_128 : decode cX9_atom 128 = .ok (.invokevirtual 225, 3) := by decide +kernel
theorem dX9_atom_131 : decode cX9_atom 131 = .ok (.ifCond .ne 13, 3) := by decide +kernel
theorem dX9_atom_144 : decode cX9_atom 144 = .ok (.aload_n 0, 1) := by decide +kernel
theorem dX9_atom_145 : decode cX9_atom 145 = .ok (.ldc2_w 238, 3) := by decide +kernel
theorem dX9_atom_148 : decode cX9_atom 148 = .ok (.invokevirtual 225, 3) := by decide +kernel
theorem dX9_atom_151 : decode cX9_atom 151 = .ok (.ifCond .eq 8, 3) := by decide +kernel
theorem dX9_atom_159 : decode cX9_atom 159 = .ok (.bipush 8, 2) := by decide +kernel
theorem dX9_atom_161 : decode cX9_atom 161 = .ok (.istore_n 1, 1) := by decide +kernel
theorem dX9_atom_162 : decode cX9_atom 162 = .ok (.aload_n 0, 1) := by decide +kernel
set_option maxRecDepth 20000 in
theorem ggX9_atom_X9_next : GoodIn wsX9_atom wsX9_next := goodIn_r _ [33, 22, 1, 16, 17, 11, 12, 13, 14, 15, 86, 87, 88, 89, 90, 91, 92, 93, 94, 95, 96, 97, 98, 99, 100, 101, 102, 103, 104, 105, 106, 107, 108, 109, 110, 111, 112, 113, 114, 115, 116, 117, 118, 119, 120, 121, 122, 123, 124, 125, 126, 127, 128, 129, 130, 131, 132, 133, 134, 135, 136] (by decide +kernel) (by decide +kernel)
set_option maxRecDepth 20000 in
theorem gX9_atom_X9_next : GoodIn wsX9_atom (wsV RX9 194 RX9 yX9_next wsX9_next) := goodIn_app (goodIn_of _ (by decide +kernel)) ggX9_atom_X9_next
theorem dX9_atom_163 : decode cX9_atom 163 = .ok (.invokevirtual 194, 3) := by decide +kernel
theorem dX9_atom_166 : decode cX9_atom 166 = .ok (.aload_n 0, 1) := by decide +kernel
theorem dX9_atom_167 : decode cX9_atom 167 = .ok (.iconst 5, 1) := by decide +kernel
set_option maxRecDepth 20000 in
theorem ggX9_atom_X9_number : GoodIn wsX9_atom wsX9_number := goodIn_r _ [21, 1, 22, 23, 17, 24, 11, 12, 13, 14, 15, 16, 25, 26, 27, 28, 29, 30, 31, 32, 33, 86, 87, 88, 89, 90, 91, 92, 93, 94, 95, 96, 97, 98, 99, 100, 101, 102, 103, 104, 105, 106, 107, 108, 109, 110, 111, 112, 113, 114, 115, 116, 117, 118, 119, 120, 121, 122, 123, 124, 125, 126, 127, 128, 129, 130, 131, 132, 133, 134, 135, 136] (by decide +kernel) (by decide +kernel)
set_option maxRecDepth 20000 in
theorem gX9_atom_X9_number : GoodIn wsX9_atom (wsV RX9 230 RX9 yX9_number wsX9_number) := goodIn_app (goodIn_of _ (by decide +kernel)) ggX9_atom_X9_number
theorem dX9_atom_168 : decode cX9_atom 168 = .ok (.invokevirtual 230, 3) := by decide +kernel
theorem dX9_atom_171 : decode cX9_atom 171 = .ok (.istore_n 2, 1) := by decide +kernel
theorem dX9_atom_172 : decode cX9_atom 172 = .ok (.aload_n 0, 1) := by decide +kernel
set_option maxRecDepth 20000 in
theorem ggX9_atom_X9_good : GoodIn wsX9_atom wsX9_good := goodIn_r _ [37, 29, 86, 87, 88, 89, 90, 91, 92, 93, 94, 95, 96, 97, 98, 99, 100, 101, 102, 103, 104, 105, 106, 107, 108, 109, 110, 111, 112, 113, 114, 115, 116, 117, 118, 119, 120, 121, 122, 123, 124, 125, 126, 127, 128, 129, 130, 131, 132, 133, 134, 135, 136] (by decide +kernel) (by decide +kernel)
set_option maxRecDepth 20000 in
theorem gX9_atom_X9_good : GoodIn wsX9_atom (wsV RX9 206 RX9 yX9_good wsX9_good) := goodIn_app (goodIn_of _ (by decide +kernel)) ggX9_atom_X9_good
theorem dX9_atom_173 : decode cX9_atom 173 = .ok (.invokevirtual 206, 3) := by decide +kernel
theorem dX9_atom_176 : decode cX9_atom 176 = .ok (.ifCond .eq 11, 3) := by decide +kernel
theorem dX9_atom_187 : decode cX9_atom 187 = .ok (.goto 82, 3) := by decide +kernel
theorem dX9_atom_269 : decode cX9_atom 269 = .ok (.return_, 1) := by decide +kernel
theorem dX9_atom_179 : decode cX9_atom 179 = .ok (.aload_n 0, 1) := by decide +kernel
theorem dX9_atom_180 : decode cX9_atom 180 = .ok (.iload_n 1, 1) := by decide +kernel
theorem dX9_atom_181 : decode cX9_atom 181 = .ok (.iload_n 2, 1) := by decide +kernel
theorem dX9_atom_182 : decode cX9_atom 182 = .ok (.iconst 0, 1) := by decide +kernel
theorem dX9_atom_183 : decode cX9_atom 183 = .ok (.iconst 0, 1) := by decide +kernel
set_option maxRecDepth 20000 in
theorem ggX9_atom_X9_puts : GoodIn wsX9_atom wsX9_puts := goodIn_r _ [41, 4, 42, 43, 44, 45, 46, 86, 87, 88, 89, 90, 91, 92, 93, 94, 95, 96, 97, 98, 99, 100, 101, 102, 103, 104, 105, 106, 107, 108, 109, 110, 111, 112, 113, 114, 115, 116, 117, 118, 119, 120, 121, 122, 123, 124, 125, 126, 127, 128, 129, 130, 131, 132, 133, 134, 135, 136] (by decide +kernel) (by decide +kernel)
set_option maxRecDepth 20000 in
theorem gX9_atom_X9_puts : GoodIn wsX9_atom (wsV RX9 213 RX9 yX9_puts wsX9_puts) := goodIn_app (goodIn_of _ (by decide +kernel)) ggX9_atom_X9_puts
theorem dX9_atom_184 : decode cX9_atom 184 = .ok (.invokevirtual 213, 3) := by decide +kernel
theorem dX9_atom_154 : decode cX9_atom 154 = .ok (.bipush 7, 2) := by decide +kernel
theorem dX9_atom_156 : decode cX9_atom 156 = .ok (.goto 5, 3) := by decide +kernel
theorem dX9_atom_134 : decode cX9_atom 134 = .ok (.aload_n 0, 1) := by decide +kernel
theorem dX9_atom_135 : decode cX9_atom 135 = .ok (.ldc2_w 240, 3) := by decide +kernel
theorem dX9_atom_138 : decode cX9_atom 138 = .ok (.invokevirtual 225, 3) := by decide +kernel
theorem dX9_atom_141 : decode cX9_atom 141 = .ok (.ifCond .eq 49, 3) := by decide +kernel
theorem dX9_atom_190 : decode cX9_atom 190 = .ok (.aload_n 0, 1) := by decide +kernel
theorem dX9_atom_191 : decode cX9_atom 191 = .ok (.ldc2_w 242, 3) := by decide +kernel
theorem dX9_atom_194 : decode cX9_atom 194 = .ok (.invokevirtual 225, 3) := by decide +kernel
theorem dX9_atom_197 : decode cX9_atom 197 = .ok (.ifCond .eq 8, 3) := by decide +kernel
theorem dX9_atom_205 : decode cX9_atom 205 = .ok (.aload_n 0, 1) := by decide +kernel
theorem dX9_atom_206 : decode cX9_atom 206 = .ok (.ldc2_w 244, 3) := by decide +kernel
theorem dX9_atom_209 : decode cX9_atom 209 = .ok (.invokevirtual 225, 3) := by decide +kernel
theorem dX9_atom_212 : decode cX9_atom 212 = .ok (.ifCond .eq 8, 3) := by decide +kernel
theorem dX9_atom_220 : decode cX9_atom 220 = .ok (.aload_n 0, 1) := by decide +kernel
theorem dX9_atom_221 : decode cX9_atom 221 = .ok (.ldc2_w 246, 3) := by decide +kernel
theorem dX9_atom_224 : decode cX9_atom 224 = .ok (.invokevirtual 225, 3) := by decide +kernel
theorem dX9_atom_227 : decode cX9_atom 227 = .ok (.ifCond .eq 8, 3) := by decide +kernel
theorem dX9_atom_235 : decode cX9_atom 235 = .ok (.aload_n 0, 1) := by decide +kernel
theorem dX9_atom_236 : decode cX9_atom 236 = .ok (.ldc2_w 248, 3) := by decide +kernel
theorem dX9_atom_239 : decode cX9_atom 239 = .ok (.invokevirtual 225, 3) := by decide +kernel
theorem dX9_atom_242 : decode cX9_atom 242 = .ok (.ifCond .eq 8, 3) := by decide +kernel
theorem dX9_atom_250 : decode cX9_atom 250 = .ok (.iconst (-1), 1) := by decide +kernel
theorem dX9_atom_251 : decode cX9_atom 251 = .ok (.istore_n 1, 1) := by decide +kernel
theorem dX9_atom_252 : decode cX9_atom 252 = .ok (.iload_n 1, 1) := by decide +kernel
theorem dX9_atom_253 : decode cX9_atom 253 = .ok (.iconst (-1), 1) := by decide +kernel
theorem dX9_atom_254 : decode cX9_atom 254 = .ok (.if_icmp .ne 10, 3) := by decide +kernel
theorem dX9_atom_257 : decode cX9_atom 257 = .ok (.aload_n 0, 1) := by decide +kernel
set_option maxRecDepth 20000 in
theorem ggX9_atom_X9_faults : GoodIn wsX9_atom wsX9_faults := goodIn_r _ [28, 29, 1, 86, 87, 88, 89, 90, 91, 92, 93, 94, 95, 96, 97, 98, 99, 100, 101, 102, 103, 104, 105, 106, 107, 108, 109, 110, 111, 112, 113, 114, 115, 116, 117, 118, 119, 120, 121, 122, 123, 124, 125, 126, 127, 128, 129, 130, 131, 132, 133, 134, 135, 136] (by decide +kernel) (by decide +kernel)
set_option maxRecDepth 20000 in
theorem gX9_atom_X9_faults : GoodIn wsX9_atom (wsV RX9 187 RX9 yX9_faults wsX9_faults) := goodIn_app (goodIn_of _ (by decide +kernel)) ggX9_atom_X9_faults
theorem dX9_atom_258 : decode cX9_atom 258 = .ok (.invokevirtual 187, 3) := by decide +kernel
theorem dX9_atom_261 : decode cX9_atom 261 = .ok (.goto 8, 3) := by decide +kernel
theorem dX9_atom_245 : decode cX9_atom 245 = .ok (.bipush 12, 2) := by decide +kernel
theorem dX9_atom_247 : decode cX9_atom 247 = .ok (.goto 4, 3) := by decide +kernel
theorem dX9_atom_264 : decode cX9_atom 264 = .ok (.aload_n 0, 1) := by decide +kernel
theorem dX9_atom_265 : decode cX9_atom 265 = .ok (.iload_n 1, 1) := by decide +kernel
set_option maxRecDepth 20000 in
theorem ggX9_atom_X9_window : GoodIn wsX9_atom wsX9_window := goodIn_r _ [63, 64, 2, 65, 1, 29, 66, 67, 30, 31, 32, 14, 33, 22, 16, 17, 11, 12, 13, 15, 18, 19, 20, 21, 23, 24, 25, 26, 27, 28, 34, 35, 36, 37, 54, 55, 56, 57, 58, 59, 38, 39, 40, 41, 4, 42, 43, 44, 45, 46, 86, 87, 88, 89, 90, 91, 92, 93, 94, 95, 96, 97, 98, 99, 100, 101, 102, 103, 104, 105, 106, 107, 108, 109, 110, 111, 112, 113, 114, 115, 116, 117, 118, 119, 120, 121, 122, 123, 124, 125, 126, 127, 128, 129, 130, 131, 132, 133, 134, 135, 136] (by decide +kernel) (by decide +kernel)
set_option maxRecDepth 20000 in
theorem gX9_atom_X9_window : GoodIn wsX9_atom (wsV RX9 250 RX9 yX9_window wsX9_window) := goodIn_app (goodIn_of _ (by decide +kernel)) ggX9_atom_X9_window
theorem dX9_atom_266 : decode cX9_atom 266 = .ok (.invokevirtual 250, 3) := by decide +kernel
theorem dX9_atom_230 : decode cX9_atom 230 = .ok (.bipush 11, 2) := by decide +kernel
theorem dX9_atom_232 : decode cX9_atom 232 = .ok (.goto 19, 3) := by decide +kernel
theorem dX9_atom_215 : decode cX9_atom 215 = .ok (.bipush 10, 2) := by decide +kernel
theorem dX9_atom_217 : decode cX9_atom 217 = .ok (.goto 34, 3) := by decide +kernel
theorem dX9_atom_200 : decode cX9_atom 200 = .ok (.bipush 9, 2) := by decide +kernel
theorem dX9_atom_202 : decode cX9_atom 202 = .ok (.goto 49, 3) := by decide +kernel
theorem dX9_atom_66 : decode cX9_atom 66 = .ok (.aload_n 0, 1) := by decide +kernel
theorem dX9_atom_67 : decode cX9_atom 67 = .ok (.invokevirtual 194, 3) := by decide +kernel
theorem dX9_atom_70 : decode cX9_atom 70 = .ok (.aload_n 0, 1) := by decide +kernel
theorem dX9_atom_71 : decode cX9_atom 71 = .ok (.getfield 197, 3) := by decide +kernel
theorem dX9_atom_74 : decode cX9_atom 74 = .ok (.ifCond .ne 7, 3) := by decide +kernel
theorem dX9_atom_81 : decode cX9_atom 81 = .ok (.aload_n 0, 1) := by decide +kernel
theorem dX9_atom_82 : decode cX9_atom 82 = .ok (.getfield 197, 3) := by decide +kernel
theorem dX9_atom_85 : decode cX9_atom 85 = .ok (.iconst 1, 1) := by decide +kernel
theorem dX9_atom_86 : decode cX9_atom 86 = .ok (.isub, 1) := by decide +kernel
theorem dX9_atom_87 : decode cX9_atom 87 = .ok (.istore_n 1, 1) := by decide +kernel
theorem dX9_atom_88 : decode cX9_atom 88 = .ok (.iload_n 1, 1) := by decide +kernel
theorem dX9_atom_89 : decode cX9_atom 89 = .ok (.ifCond .ge 10, 3) := by decide +kernel
theorem dX9_atom_99 : decode cX9_atom 99 = .ok (.aload_n 0, 1) := by decide +kernel
theorem dX9_atom_100 : decode cX9_atom 100 = .ok (.iload_n 1, 1) := by decide +kernel
theorem dX9_atom_101 : decode cX9_atom 101 = .ok (.invokevirtual 230, 3) := by decide +kernel
theorem dX9_atom_104 : decode cX9_atom 104 = .ok (.istore_n 1, 1) := by decide +kernel
theorem dX9_atom_105 : decode cX9_atom 105 = .ok (.aload_n 0, 1) := by decide +kernel
theorem dX9_atom_106 : decode cX9_atom 106 = .ok (.invokevirtual 206, 3) := by decide +kernel
theorem dX9_atom_109 : decode cX9_atom 109 = .ok (.ifCond .eq 12, 3) := by decide +kernel
theorem dX9_atom_121 : decode cX9_atom 121 = .ok (.goto 148, 3) := by decide +kernel
theorem dX9_atom_112 : decode cX9_atom 112 = .ok (.aload_n 0, 1) := by decide +kernel
theorem dX9_atom_113 : decode cX9_atom 113 = .ok (.bipush 6, 2) := by decide +kernel
theorem dX9_atom_115 : decode cX9_atom 115 = .ok (.iload_n 1, 1) := by decide +kernel
theorem dX9_atom_116 : decode cX9_atom 116 = .ok (.iconst 0, 1) := by decide +kernel
theorem dX9_atom_117 : decode cX9_atom 117 = .ok (.iconst 0, 1) := by decide +kernel
theorem dX9_atom_118 : decode cX9_atom 118 = .ok (.invokevirtual 213, 3) := by decide +kernel
theorem dX9_atom_77 : decode cX9_atom 77 = .ok (.iconst (-1), 1) := by decide +kernel
theorem dX9_atom_78 : decode cX9_atom 78 = .ok (.goto 9, 3) := by decide +kernel
theorem dX9_atom_92 : decode cX9_atom 92 = .ok (.aload_n 0, 1) := by decide +kernel
theorem dX9_atom_93 : decode cX9_atom 93 = .ok (.invokevirtual 187, 3) := by decide +kernel
theorem dX9_atom_96 : decode cX9_atom 96 = .ok (.goto 9, 3) := by decide +kernel
theorem dX9_atom_49 : decode cX9_atom 49 = .ok (.aload_n 0, 1) := by decide +kernel
set_option maxRecDepth 20000 in
theorem ggX9_atom_X9_bracket : GoodIn wsX9_atom wsX9_bracket := goodIn_r _ [68, 69, 25, 26, 27, 14, 28, 29, 1, 30, 31, 32, 33, 22, 16, 17, 11, 12, 13, 15, 70, 71, 72, 34, 35, 36, 37, 47, 48, 49, 50, 0, 2, 3, 4, 5, 6, 7, 8, 9, 10, 18, 19, 20, 21, 23, 24, 38, 39, 40, 41, 42, 43, 44, 45, 46, 51, 52, 53, 54, 55, 56, 57, 58, 59, 60, 61, 62, 63, 64, 65, 66, 67, 73, 74, 75, 76, 77, 78, 79, 80, 81, 82, 83, 84, 85, 86, 87, 88, 89, 90, 91, 92, 93, 94, 95, 96, 97, 98, 99, 100, 101, 102, 103, 104, 105, 106, 107, 108, 109, 110, 111, 112, 113, 114, 115, 116, 117, 118, 119, 120, 121, 122, 123, 124, 125, 126, 127, 128, 129, 130, 131, 132, 133, 134, 135, 136] (by decide +kernel) (by decide +kernel)
set_option maxRecDepth 20000 in
theorem gX9_atom_X9_bracket : GoodIn wsX9_atom (wsV RX9 233 RX9 yX9_bracket wsX9_bracket) := goodIn_app (goodIn_of _ (by decide +kernel)) ggX9_atom_X9_bracket
theorem dX9_atom_50 : decode cX9_atom 50 = .ok (.invokevirtual 233, 3) := by decide +kernel
theorem dX9_atom_53 : decode cX9_atom 53 = .ok (.goto 216, 3) := by decide +kernel
theorem dX9_atom_15 : decode cX9_atom 15 = .ok (.aload_n 0, 1) := by decide +kernel
theorem dX9_atom_16 : decode cX9_atom 16 = .ok (.ldc 229, 2) := by decide +kernel
theorem dX9_atom_18 : decode cX9_atom 18 = .ok (.invokevirtual 230, 3) := by decide +kernel
theorem dX9_atom_21 : decode cX9_atom 21 = .ok (.istore_n 1, 1) := by decide +kernel
theorem dX9_atom_22 : decode cX9_atom 22 = .ok (.aload_n 0, 1) := by decide +kernel
theorem dX9_atom_23 : decode cX9_atom 23 = .ok (.invokevirtual 206, 3) := by decide +kernel
theorem dX9_atom_26 : decode cX9_atom 26 = .ok (.ifCond .eq 11, 3) := by decide +kernel
theorem dX9_atom_37 : decode cX9_atom 37 = .ok (.goto 232, 3) := by decide +kernel
theorem dX9_atom_29 : decode cX9_atom 29 = .ok (.aload_n 0, 1) := by decide +kernel
theorem dX9_atom_30 : decode cX9_atom 30 = .ok (.iconst 0, 1) := by decide +kernel
theorem dX9_atom_31 : decode cX9_atom 31 = .ok (.iload_n 1, 1) := by decide +kernel
theorem dX9_atom_32 : decode cX9_atom 32 = .ok (.iconst 0, 1) := by decide +kernel
theorem dX9_atom_33 : decode cX9_atom 33 = .ok (.iconst 0, 1) := by decide +kernel
theorem dX9_atom_34 : decode cX9_atom 34 = .ok (.invokevirtual 213, 3) := by decide +kernel
theorem dX9_part_0 : decode cX9_part 0 = .ok (.aload_n 0, 1) := by decide +kernel
set_option maxRecDepth 20000 in
theorem ggX9_part_X9_atom : GoodIn wsX9_part wsX9_atom := goodIn_r _ [50, 16, 2, 51, 44, 52, 53, 54, 55, 56, 57, 26, 27, 28, 6, 29, 25, 18, 30, 31, 32, 33, 17, 34, 35, 36, 37, 38, 39, 11, 21, 22, 23, 24, 7, 8, 9, 10, 40, 41, 42, 43, 45, 46, 47, 48, 49, 58, 59, 60, 61, 62, 63, 64, 12, 13, 14, 15, 19, 20, 65, 66, 67, 68, 69, 70, 71, 72, 73, 74, 75, 76, 77, 0, 1, 3, 4, 5, 78, 79, 80, 81, 82, 83, 84, 85, 86, 87, 88, 89, 90, 91, 92, 93, 94, 95, 96, 97, 98, 99, 100, 101, 102, 103, 104, 105, 106, 107, 108, 109, 110, 111, 112, 113, 114, 115, 116, 117, 118, 119, 120, 121, 122, 123, 124, 125, 126, 127, 128, 129, 130, 131, 132, 133, 134, 135, 136] (by decide +kernel) (by decide +kernel)
set_option maxRecDepth 20000 in
theorem gX9_part_X9_atom : GoodIn wsX9_part (wsV RX9 220 RX9 yX9_atom wsX9_atom) := goodIn_app (goodIn_of _ (by decide +kernel)) ggX9_part_X9_atom
theorem dX9_part_1 : decode cX9_part 1 = .ok (.invokevirtual 220, 3) := by decide +kernel
theorem dX9_part_4 : decode cX9_part 4 = .ok (.aload_n 0, 1) := by decide +kernel
set_option maxRecDepth 20000 in
theorem ggX9_part_X9_good : GoodIn wsX9_part wsX9_good := goodIn_r _ [10, 11, 86, 87, 88, 89, 90, 91, 92, 93, 94, 95, 96, 97, 98, 99, 100, 101, 102, 103, 104, 105, 106, 107, 108, 109, 110, 111, 112, 113, 114, 115, 116, 117, 118, 119, 120, 121, 122, 123, 124, 125, 126, 127, 128, 129, 130, 131, 132, 133, 134, 135, 136] (by decide +kernel) (by decide +kernel)
set_option maxRecDepth 20000 in
theorem gX9_part_X9_good : GoodIn wsX9_part (wsV RX9 206 RX9 yX9_good wsX9_good) := goodIn_app (goodIn_of _ (by decide +kernel)) ggX9_part_X9_good
theorem dX9_part_5 : decode cX9_part 5 = .ok (.invokevirtual 206, 3) := by decide +kernel
theorem dX9_part_8 : decode cX9_part 8 = .ok (.ifCond .eq 13, 3) := by decide +kernel
theorem dX9_part_21 : decode cX9_part 21 = .ok (.return_, 1) := by decide +kernel
theorem dX9_part_11 : decode cX9_part 11 = .ok (.aload_n 0, 1) := by decide +kernel
theorem dX9_part_12 : decode cX9_part 12 = .ok (.ldc2_w 223, 3) := by decide +kernel
set_option maxRecDepth 20000 in
theorem ggX9_part_X9_isWord : GoodIn wsX9_part wsX9_isWord := goodIn_r _ [15, 16, 17, 18, 19, 20, 86, 87, 88, 89, 90, 91, 92, 93, 94, 95, 96, 97, 98, 99, 100, 101, 102, 103, 104, 105, 106, 107, 108, 109, 110, 111, 112, 113, 114, 115, 116, 117, 118, 119, 120, 121, 122, 123, 124, 125, 126, 127, 128, 129, 130, 131, 132, 133, 134, 135, 136] (by decide +kernel) (by decide +kernel)
set_option maxRecDepth 20000 in
theorem gX9_part_X9_isWord : GoodIn wsX9_part (wsV RX9 225 RX9 yX9_isWord wsX9_isWord) := goodIn_app (goodIn_of _ (by decide +kernel)) ggX9_part_X9_isWord
theorem dX9_part_15 : decode cX9_part 15 = .ok (.invokevirtual 225, 3) := by decide +kernel
theorem dX9_part_18 : decode cX9_part 18 = .ok (.ifCond .ne 4, 3) := by decide +kernel
theorem dX9_part_22 : decode cX9_part 22 = .ok (.aload_n 0, 1) := by decide +kernel
set_option maxRecDepth 20000 in
theorem ggX9_part_X9_next : GoodIn wsX9_part wsX9_next := goodIn_r _ [24, 17, 16, 25, 18, 26, 27, 28, 6, 29, 86, 87, 88, 89, 90, 91, 92, 93, 94, 95, 96, 97, 98, 99, 100, 101, 102, 103, 104, 105, 106, 107, 108, 109, 110, 111, 112, 113, 114, 115, 116, 117, 118, 119, 120, 121, 122, 123, 124, 125, 126, 127, 128, 129, 130, 131, 132, 133, 134, 135, 136] (by decide +kernel) (by decide +kernel)
set_option maxRecDepth 20000 in
theorem gX9_part_X9_next : GoodIn wsX9_part (wsV RX9 194 RX9 yX9_next wsX9_next) := goodIn_app (goodIn_of _ (by decide +kernel)) ggX9_part_X9_next
theorem dX9_part_23 : decode cX9_part 23 = .ok (.invokevirtual 194, 3) := by decide +kernel
theorem dX9_part_26 : decode cX9_part 26 = .ok (.aload_n 0, 1) := by decide +kernel
theorem dX9_part_27 : decode cX9_part 27 = .ok (.ldc 229, 2) := by decide +kernel
set_option maxRecDepth 20000 in
theorem ggX9_part_X9_number : GoodIn wsX9_part wsX9_number := goodIn_r _ [33, 16, 17, 34, 18, 35, 26, 27, 28, 6, 29, 25, 36, 37, 38, 39, 11, 21, 22, 23, 24, 86, 87, 88, 89, 90, 91, 92, 93, 94, 95, 96, 97, 98, 99, 100, 101, 102, 103, 104, 105, 106, 107, 108, 109, 110, 111, 112, 113, 114, 115, 116, 117, 118, 119, 120, 121, 122, 123, 124, 125, 126, 127, 128, 129, 130, 131, 132, 133, 134, 135, 136] (by decide +kernel) (by decide +kernel)
set_option maxRecDepth 20000 in
theorem gX9_part_X9_number : GoodIn wsX9_part (wsV RX9 230 RX9 yX9_number wsX9_number) := goodIn_app (goodIn_of _ (by decide +kernel)) ggX9_part_X9_number
theorem dX9_part_29 : decode cX9_part 29 = .ok (.invokevirtual 230, 3) := by decide +kernel
theorem dX9_part_32 : decode cX9_part 32 = .ok (.istore_n 1, 1) := by decide +kernel
theorem dX9_part_33 : decode cX9_part 33 = .ok (.aload_n 0, 1) := by decide +kernel
theorem dX9_part_34 : decode cX9_part 34 = .ok (.invokevirtual 206, 3) := by decide +kernel
theorem dX9_part_37 : decode cX9_part 37 = .ok (.ifCond .eq 11, 3) := by decide +kernel
theorem dX9_part_48 : decode cX9_part 48 = .ok (.return_, 1) := by decide +kernel
theorem dX9_part_40 : decode cX9_part 40 = .ok (.aload_n 0, 1) := by decide +kernel
theorem dX9_part_41 : decode cX9_part 41 = .ok (.iconst 5, 1) := by decide +kernel
theorem dX9_part_42 : decode cX9_part 42 = .ok (.iload_n 1, 1) := by decide +kernel
theorem dX9_part_43 : decode cX9_part 43 = .ok (.iconst 0, 1) := by decide +kernel
theorem dX9_part_44 : decode cX9_part 44 = .ok (.iconst 0, 1) := by decide +kernel
set_option maxRecDepth 20000 in
theorem ggX9_part_X9_puts : GoodIn wsX9_part wsX9_puts := goodIn_r _ [43, 44, 45, 46, 47, 48, 49, 86, 87, 88, 89, 90, 91, 92, 93, 94, 95, 96, 97, 98, 99, 100, 101, 102, 103, 104, 105, 106, 107, 108, 109, 110, 111, 112, 113, 114, 115, 116, 117, 118, 119, 120, 121, 122, 123, 124, 125, 126, 127, 128, 129, 130, 131, 132, 133, 134, 135, 136] (by decide +kernel) (by decide +kernel)
set_option maxRecDepth 20000 in
theorem gX9_part_X9_puts : GoodIn wsX9_part (wsV RX9 213 RX9 yX9_puts wsX9_puts) := goodIn_app (goodIn_of _ (by decide +kernel)) ggX9_part_X9_puts
theorem dX9_part_45 : decode cX9_part 45 = .ok (.invokevirtual 213, 3) := by decide +kernel
set_option maxHeartbeats 8000000 in
set_option maxRecDepth 100000 in
theorem k_X9_bracket (l : Launch) (dC : Nat → ClassId) (dI : Nat → Nat → Nat) (cA : Nat → ClassId) (sz : Nat) (am : Nat → Nat) (v_status : Int32) (v_now : Int32) (v_told : Int32) (v_merges : Int32) (v_taped : Int32) (v_size : Int32) (v_from : Int32) (v_to : Int32) (v_fault : Int32) (v_readFault : Int32) (v_traits : Int32) (v_length : Int32) (v_open : Int32) (v_leaks : Int32) (v_places : Int32) (v_models : Int32) (f_tape : Nat → Int32) (f_step : Nat → Int32) (f_stepA : Nat → Int32) (f_stepB : Nat → Int32) (f_stepC : Nat → Int32) (rl : Nat) (FR : Nat) (LO : Nat) (i_v_now : 0 ≤ v_now.toInt ∧ v_now.toInt ≤ 100000) (i_v_told : 0 ≤ v_told.toInt ∧ v_told.toInt ≤ 400) (i_v_taped : 0 ≤ v_taped.toInt ∧ v_taped.toInt ≤ 200) (i_v_size : 0 ≤ v_size.toInt ∧ v_size.toInt ≤ 200) (i_v_from : 0 ≤ v_from.toInt ∧ v_from.toInt ≤ 200) (i_v_to : 0 ≤ v_to.toInt ∧ v_to.toInt ≤ 200) (i_v_traits : 0 ≤ v_traits.toInt ∧ v_traits.toInt ≤ 20) (i_v_length : 0 ≤ v_length.toInt ∧ v_length.toInt ≤ 200) (i_v_open : 0 ≤ v_open.toInt ∧ v_open.toInt ≤ 8) (i_v_places : 0 ≤ v_places.toInt ∧ v_places.toInt ≤ 2000) (i_v_models : 0 ≤ v_models.toInt ∧ v_models.toInt ≤ 10) (htr : v_traits.toInt ≤ 19) (hfr : v_from.toInt ≤ v_to.toInt ∧ v_to.toInt ≤ v_size.toInt ∧ (v_from.toInt < v_size.toInt → v_from.toInt < v_to.toInt)) (htk : tokOK f_tape v_from v_to v_size) (hfl : v_length.toInt ≤ v_from.toInt) (hgd : v_readFault.toInt = (-1)) (hwp : wfp f_step f_stepA (250 * v_traits.toInt.toNat) v_length.toInt.toNat) (hop : 8 - v_open.toInt ≤ (rl : Int)) (ih : 0 < rl → SumC l dC dI cA (rl - 1) FR LO) (hsg : v_from.toInt < v_size.toInt ∧ v_to.toInt = v_from.toInt + 1) : Met l yX9_bracket wsX9_bracket ({ frames := FR + 2, cells := 0, slots := 0, locals := LO + 43 }) (va_Pc [.ref (am 0)] (fun U => U.heap.size = sz ∧ va_P (dC, dI) vwCl [((am 0), .inr (9, F9 am v_status v_now v_told v_merges v_taped v_size v_from v_to v_fault v_readFault v_traits v_length v_open v_leaks v_places v_models)), ((am 10), .inl (cA 3, 200, .inl f_tape)), ((am 13), .inl (cA 0, 5000, .inl f_step)), ((am 14), .inl (cA 0, 5000, .inl f_stepA)), ((am 15), .inl (cA 0, 5000, .inl f_stepB)), ((am 16), .inl (cA 0, 5000, .inl f_stepC))] U.heap ∧ va_K (dC, dI) vwCl (tyL cA) U ∧ va_D (fun _ => True) [((am 0), .inr (9, F9 am v_status v_now v_told v_merges v_taped v_size v_from v_to v_fault v_readFault v_traits v_length v_open v_leaks v_places v_models)), ((am 10), .inl (cA 3, 200, .inl f_tape)), ((am 13), .inl (cA 0, 5000, .inl f_step)), ((am 14), .inl (cA 0, 5000, .inl f_stepA)), ((am 15), .inl (cA 0, 5000, .inl f_stepB)), ((am 16), .inl (cA 0, 5000, .inl f_stepC))] ∧ nw_ok U)) (va_Qv (fun (u : Int32 × Int32 × Int32 × Int32 × Int32 × Int32 × (Nat → Int32) × (Nat → Int32) × (Nat → Int32) × (Nat → Int32)) => (0 ≤ u.1.toInt ∧ u.1.toInt ≤ 200) ∧ (0 ≤ u.2.1.toInt ∧ u.2.1.toInt ≤ 200) ∧ (0 ≤ u.2.2.2.1.toInt ∧ u.2.2.2.1.toInt ≤ 200) ∧ (0 ≤ u.2.2.2.2.1.toInt ∧ u.2.2.2.2.1.toInt ≤ 8) ∧ (v_from.toInt ≤ u.1.toInt ∧ u.1.toInt ≤ u.2.1.toInt ∧ u.2.1.toInt ≤ v_size.toInt ∧ (u.1.toInt < v_size.toInt → u.1.toInt < u.2.1.toInt) ∧ u.2.2.2.1.toInt - v_length.toInt ≤ u.1.toInt - v_from.toInt ∧ v_length.toInt ≤ u.2.2.2.1.toInt ∧ (u.2.2.1.toInt = (-1) → u.2.2.2.2.1.toInt = v_open.toInt)) ∧ (tokOK f_tape u.1 u.2.1 v_size) ∧ (prg f_step f_stepA u.2.2.2.2.2.2.1 u.2.2.2.2.2.2.2.1 (250 * v_traits.toInt.toNat) v_length.toInt.toNat u.2.2.2.1.toInt.toNat (u.2.2.1.toInt = (-1))) ∧ (rs u.2.2.1 u.1 u.2.1 u.2.2.2.2.2.1 (orb u.2.2.2.2.2.2.1 u.2.2.2.2.2.2.2.1 (250 * v_traits.toInt.toNat) u.2.2.2.1.toInt.toNat) = pB (tpe f_tape v_size) v_size.toInt v_traits.toInt (8 - v_open.toInt).toNat v_from.toInt v_to.toInt v_leaks.toInt (orb f_step f_stepA (250 * v_traits.toInt.toNat) v_length.toInt.toNat))) (fun (u : Int32 × Int32 × Int32 × Int32 × Int32 × Int32 × (Nat → Int32) × (Nat → Int32) × (Nat → Int32) × (Nat → Int32)) (t : State) => va_P (dC, dI) vwCl [((am 0), .inr (9, F9 am v_status v_now v_told v_merges v_taped v_size u.1 u.2.1 v_fault u.2.2.1 v_traits u.2.2.2.1 u.2.2.2.2.1 u.2.2.2.2.2.1 v_places v_models)), ((am 10), .inl (cA 3, 200, .inl f_tape)), ((am 13), .inl (cA 0, 5000, .inl u.2.2.2.2.2.2.1)), ((am 14), .inl (cA 0, 5000, .inl u.2.2.2.2.2.2.2.1)), ((am 15), .inl (cA 0, 5000, .inl u.2.2.2.2.2.2.2.2.1)), ((am 16), .inl (cA 0, 5000, .inl u.2.2.2.2.2.2.2.2.2))] t.heap ∧ va_D (va_A [((am 0), .inr (9, F9 am v_status v_now v_told v_merges v_taped v_size v_from v_to v_fault v_readFault v_traits v_length v_open v_leaks v_places v_models)), ((am 10), .inl (cA 3, 200, .inl f_tape)), ((am 13), .inl (cA 0, 5000, .inl f_step)), ((am 14), .inl (cA 0, 5000, .inl f_stepA)), ((am 15), .inl (cA 0, 5000, .inl f_stepB)), ((am 16), .inl (cA 0, 5000, .inl f_stepC))] sz) [((am 0), .inr (9, F9 am v_status v_now v_told v_merges v_taped v_size u.1 u.2.1 v_fault u.2.2.1 v_traits u.2.2.2.1 u.2.2.2.2.1 u.2.2.2.2.2.1 v_places v_models)), ((am 10), .inl (cA 3, 200, .inl f_tape)), ((am 13), .inl (cA 0, 5000, .inl u.2.2.2.2.2.2.1)), ((am 14), .inl (cA 0, 5000, .inl u.2.2.2.2.2.2.2.1)), ((am 15), .inl (cA 0, 5000, .inl u.2.2.2.2.2.2.2.2.1)), ((am 16), .inl (cA 0, 5000, .inl u.2.2.2.2.2.2.2.2.2))]) (va_A [((am 0), .inr (9, F9 am v_status v_now v_told v_merges v_taped v_size v_from v_to v_fault v_readFault v_traits v_length v_open v_leaks v_places v_models)), ((am 10), .inl (cA 3, 200, .inl f_tape)), ((am 13), .inl (cA 0, 5000, .inl f_step)), ((am 14), .inl (cA 0, 5000, .inl f_stepA)), ((am 15), .inl (cA 0, 5000, .inl f_stepB)), ((am 16), .inl (cA 0, 5000, .inl f_stepC))] sz)) 0 0 (va_A [((am 0), .inr (9, F9 am v_status v_now v_told v_merges v_taped v_size v_from v_to v_fault v_readFault v_traits v_length v_open v_leaks v_places v_models)), ((am 10), .inl (cA 3, 200, .inl f_tape)), ((am 13), .inl (cA 0, 5000, .inl f_step)), ((am 14), .inl (cA 0, 5000, .inl f_stepA)), ((am 15), .inl (cA 0, 5000, .inl f_stepB)), ((am 16), .inl (cA 0, 5000, .inl f_stepC))] sz) := by
  refine Met.ofW (cc := cX9_bracket) (maxL := 1) (ret := none) (by decide) rfl ?_
  intro p e s m args below meth c s₁ B hml hv
  obtain ⟨rfl, hsz, hP, hK, hD0, hN⟩ := hv
  have hx := B.exec
  have hb := B.bytes
  have hr := B.returns
  have hts := atoms_spec (ws := wsX9_bracket) B.pre
  have hown : s.vm.findClass RX9 = some m.cls := findClass_of_methodNamed B.named
  have hlocks := B.notSynchronized
  subst hsz
  have hD := hD0.self (sz := s.heap.size)
  generalize hAe : va_A [((am 0), .inr (9, F9 am v_status v_now v_told v_merges v_taped v_size v_from v_to v_fault v_readFault v_traits v_length v_open v_leaks v_places v_models)), ((am 10), .inl (cA 3, 200, .inl f_tape)), ((am 13), .inl (cA 0, 5000, .inl f_step)), ((am 14), .inl (cA 0, 5000, .inl f_stepA)), ((am 15), .inl (cA 0, 5000, .inl f_stepB)), ((am 16), .inl (cA 0, 5000, .inl f_stepC))] s.heap.size = A at hD ⊢
  have hA : ∀ q : Nat, s.heap.size ≤ q → A q := fun q h => by rw [← hAe]; exact Or.inr h
  have hS : va_S A s.heap s.heap [] := va_S.rf
  have hIX9 : ∀ w ∈ u_ws RX9 TX9 51, w ∈ wsX9_bracket := by decide +kernel
  have hl := lv_entry ([.ref (am 0)]) (n := 1) (Nat.le_of_ble_eq_true rfl)
  rw [lg_entry_eq]
  generalize (lg_sl ([.ref (am 0)]) ++ List.replicate (1 - (lg_sl ([.ref (am 0)])).length) Slot.unset).toArray = ls at hl ⊢
  have hl : lv_has ls 1 [(0, .ref (am 0))] := hl
  generalize hQe : MQ below _ _ _ _ _ _ = QQ
  refine lv_aload_n hx hb dX9_bracket_0 rfl (lv_at hl 0 rfl) ?_
  refine va_get (D := (dC, dI)) (ci := 9) (v := .int v_open) (C := RX9) (T := TX9) (N := 51) hx hb hts hIX9 hown hK hP 0 rfl rfl 23 (by decide) (hts (.fieldLink RX9 254 "TraitHouseModel" "open" "I") (by decide +kernel)) (fun _ h9 => h9) rfl dX9_bracket_1 ?_
  refine lv_bipush (v := 8) hx hb dX9_bracket_4 (by decide) ?_
  refine lv_icmp_ne (tgt := 14) hx hb dX9_bracket_6 (by decide) (fun c_1 => ?_) (fun c_1 => ?_)
  · have dc_1 : ¬ v_open.toInt = 8 := jI_ne c_1 rfl (by decide)
    refine lv_aload_n hx hb dX9_bracket_14 rfl (lv_at hl 0 rfl) ?_
    refine lv_dup hx hb dX9_bracket_15 rfl ?_
    refine va_get (D := (dC, dI)) (ci := 9) (v := .int v_open) (C := RX9) (T := TX9) (N := 51) hx hb hts hIX9 hown hK hP 0 rfl rfl 23 (by decide) (hts (.fieldLink RX9 254 "TraitHouseModel" "open" "I") (by decide +kernel)) (fun _ h9 => h9) rfl dX9_bracket_16 ?_
    refine lv_iconst (v := 1) hx hb dX9_bracket_19 (by decide) ?_
    refine lv_iadd hx hb dX9_bracket_20 ?_
    refine lv_topi (fun x_2 ex_2 => ?_)
    have dx_2 : x_2.toInt = v_open.toInt + 1 := by rw [ex_2]; exact jI_add rfl (by decide) (by omega) (by omega)
    refine va_put (D := (dC, dI)) (ci := 9) (v := .int x_2) (ty := .int) (C := RX9) (T := TX9) (N := 51) hx hb hts hIX9 tyX9 tyX9_ok nmX9 hown hK hP hD hS 0 rfl rfl 23 (by decide) (hts (.fieldLink RX9 254 "TraitHouseModel" "open" "I") (by decide +kernel)) (fun _ h9 => h9) rfl (by decide +kernel) rfl rfl (Nat.le_of_ble_eq_true rfl) dX9_bracket_21 (fun H locs hP hD hS => ?_)
    replace hP : va_P (dC, dI) vwCl [((am 0), .inr (9, F9 am v_status v_now v_told v_merges v_taped v_size v_from v_to v_fault v_readFault v_traits v_length x_2 v_leaks v_places v_models)), ((am 10), .inl (cA 3, 200, .inl f_tape)), ((am 13), .inl (cA 0, 5000, .inl f_step)), ((am 14), .inl (cA 0, 5000, .inl f_stepA)), ((am 15), .inl (cA 0, 5000, .inl f_stepB)), ((am 16), .inl (cA 0, 5000, .inl f_stepC))] H := hP
    replace hD : va_D A [((am 0), .inr (9, F9 am v_status v_now v_told v_merges v_taped v_size v_from v_to v_fault v_readFault v_traits v_length x_2 v_leaks v_places v_models)), ((am 10), .inl (cA 3, 200, .inl f_tape)), ((am 13), .inl (cA 0, 5000, .inl f_step)), ((am 14), .inl (cA 0, 5000, .inl f_stepA)), ((am 15), .inl (cA 0, 5000, .inl f_stepB)), ((am 16), .inl (cA 0, 5000, .inl f_stepC))] := hD
    refine lv_aload_n hx hb dX9_bracket_24 rfl (lv_at hl 0 rfl) ?_
    obtain ⟨hPc, hDc, hFc, hCc⟩ := va_pre (ws' := [((am 0), .inr (9, F9 am v_status v_now v_told v_merges v_taped v_size v_from v_to v_fault v_readFault v_traits v_length x_2 v_leaks v_places v_models)), ((am 10), .inl (cA 3, 200, .inl f_tape))]) hP hD hS hA [0, 1] (by decide) rfl
    refine va_callv (va_runV (As := []) (rest := []) ⟨hx, hb, hml, hown, hts⟩ (k_X9_next l dC dI cA H.size am v_status v_now v_told v_merges v_taped v_size v_from v_to v_fault v_readFault v_traits v_length x_2 v_leaks v_places v_models f_tape i_v_now i_v_told i_v_taped i_v_size i_v_from i_v_to i_v_traits i_v_length (by omega) i_v_places i_v_models (by omega)) (cwV 0 hts gX9_bracket_X9_next rfl rfl rfl (by decide +kernel) ⟨Nat.le_of_ble_eq_true rfl, Nat.le_of_ble_eq_true rfl⟩) ⟨fun a U g mk q => by obtain ⟨q0, q1, qP, qK, qD, qN⟩ := q; exact ⟨q0, q1, qP, va_K.moved (u := U) (U := U.calling g mk a) (Vm.Alike.refl U.vm) qK, qD, qN.same rfl⟩, va_recv hK hPc (ci := 9) (q0 := 0) rfl rfl, fun U hU hW => ⟨rfl, by rw [hU], by rw [hU]; exact hPc, va_K.moved hW.alike hK, hDc.weaken (fun _ _ _ _ => trivial), hN.warm hW⟩⟩ rfl rfl hl.1 rfl (lv_room (Nat.le_of_ble_eq_true rfl)) dX9_bracket_25 ⟨Nat.le_of_ble_eq_true rfl, Nat.le_of_ble_eq_true rfl⟩) hS (fun q _ h => hFc q h) hFc (fun u_3 t H1 locs ht hvm hw_4 hB hz1 hk1 hS => ?_)
    obtain ⟨w_5, w_6⟩ := u_3
    try dsimp only at hw_4 hB
    obtain ⟨iv_7, iv_8, po_9, tk_10, ad_11⟩ := hw_4
    obtain ⟨hP1, hD1⟩ := hB
    rw [ht] at hP1
    obtain ⟨hP, hD⟩ := va_join (wr := [((am 13), .inl (cA 0, 5000, .inl f_step)), ((am 14), .inl (cA 0, 5000, .inl f_stepA)), ((am 15), .inl (cA 0, 5000, .inl f_stepB)), ((am 16), .inl (cA 0, 5000, .inl f_stepC))]) (w1 := [((am 0), .inr (9, F9 am v_status v_now v_told v_merges v_taped v_size w_5 w_6 v_fault v_readFault v_traits v_length x_2 v_leaks v_places v_models)), ((am 10), .inl (cA 3, 200, .inl f_tape))]) hP hD [0, 1] [2, 3, 4, 5] hCc rfl (by decide) (by decide) hk1 hFc hP1 hD1
    clear hz1
    generalize H1 = H at hP hS ⊢
    refine lv_aload_n hx hb dX9_bracket_28 rfl (lv_at hl 0 rfl) ?_
    obtain ⟨hPc, hDc, hFc, hCc⟩ := va_pre (ws' := [((am 0), .inr (9, F9 am v_status v_now v_told v_merges v_taped v_size w_5 w_6 v_fault v_readFault v_traits v_length x_2 v_leaks v_places v_models)), ((am 10), .inl (cA 3, 200, .inl f_tape)), ((am 13), .inl (cA 0, 5000, .inl f_step)), ((am 14), .inl (cA 0, 5000, .inl f_stepA)), ((am 15), .inl (cA 0, 5000, .inl f_stepB)), ((am 16), .inl (cA 0, 5000, .inl f_stepC))]) hP hD hS hA [4, 5, 0, 1, 2, 3] (by decide) rfl
    refine va_callv (va_runV (As := []) (rest := []) ⟨hx, hb, hml, hown, hts⟩ (ih (by omega) H.size am v_status v_now v_told v_merges v_taped v_size w_5 w_6 v_fault v_readFault v_traits v_length x_2 v_leaks v_places v_models f_tape f_step f_stepA f_stepB f_stepC i_v_now i_v_told i_v_taped i_v_size iv_7 iv_8 i_v_traits i_v_length (by omega) i_v_places i_v_models htr (by omega) tk_10 (by omega) hgd hwp (by omega)) (cwV 0 hts gX9_bracket_X9_sum rfl rfl rfl (by decide +kernel) ⟨(show (FR + 0) + 1 ≤ FR + 2 from fl_a (F := FR) (a := 0) (b := 1) (c := 2) (by decide)), (show 8 + (2 + 11) + (LO + 0) ≤ LO + 43 from fl_c (F := LO) (a := 8 + (2 + 11)) (b := 0) (c := 43) (by decide))⟩) ⟨fun a U g mk q => by obtain ⟨q0, q1, qP, qK, qD, qN⟩ := q; exact ⟨q0, q1, qP, va_K.moved (u := U) (U := U.calling g mk a) (Vm.Alike.refl U.vm) qK, qD, qN.same rfl⟩, va_recv hK hPc (ci := 9) (q0 := 0) rfl rfl, fun U hU hW => ⟨rfl, by rw [hU], by rw [hU]; exact hPc, va_K.moved hW.alike hK, hDc.weaken (fun _ _ _ _ => trivial), hN.warm hW⟩⟩ rfl rfl hl.1 rfl (lv_room (Nat.le_of_ble_eq_true rfl)) dX9_bracket_29 ⟨(show 0 + 0 ≤ 0 by omega), (show 0 + 0 ≤ 0 by omega)⟩) hS (fun q _ h => hFc q h) hFc (fun u_12 t H1 locs ht hvm hw_13 hB hz1 hk1 hS => ?_)
    obtain ⟨w_14, w_15, w_16, w_17, w_18, w_19, w_20, w_21, w_22, w_23⟩ := u_12
    try dsimp only at hw_13 hB
    obtain ⟨iv_24, iv_25, iv_26, iv_27, po_28, tk_29, pg_30, rs_31⟩ := hw_13
    obtain ⟨hP1, hD1⟩ := hB
    rw [ht] at hP1
    obtain ⟨hP, hD⟩ := va_join (wr := []) (w1 := [((am 0), .inr (9, F9 am v_status v_now v_told v_merges v_taped v_size w_14 w_15 v_fault w_16 v_traits w_17 w_18 w_19 v_places v_models)), ((am 10), .inl (cA 3, 200, .inl f_tape)), ((am 13), .inl (cA 0, 5000, .inl w_20)), ((am 14), .inl (cA 0, 5000, .inl w_21)), ((am 15), .inl (cA 0, 5000, .inl w_22)), ((am 16), .inl (cA 0, 5000, .inl w_23))]) hP hD [4, 5, 0, 1, 2, 3] [] hCc rfl (by decide) (by decide) hk1 hFc hP1 hD1
    clear hz1
    generalize H1 = H at hP hS ⊢
    refine lv_aload_n hx hb dX9_bracket_32 rfl (lv_at hl 0 rfl) ?_
    obtain ⟨hPc, hDc, hFc, hCc⟩ := va_pre (ws' := [((am 0), .inr (9, F9 am v_status v_now v_told v_merges v_taped v_size w_14 w_15 v_fault w_16 v_traits w_17 w_18 w_19 v_places v_models))]) hP hD hS hA [0] (by decide) rfl
    refine va_calli (va_runV (As := []) (rest := []) ⟨hx, hb, hml, hown, hts⟩ (k_X9_good l dC dI cA H.size am v_status v_now v_told v_merges v_taped v_size w_14 w_15 v_fault w_16 v_traits w_17 w_18 w_19 v_places v_models i_v_now i_v_told i_v_taped i_v_size iv_24 iv_25 i_v_traits iv_26 iv_27 i_v_places i_v_models) (cwV 0 hts gX9_bracket_X9_good rfl rfl rfl (by decide +kernel) ⟨Nat.le_of_ble_eq_true rfl, Nat.le_of_ble_eq_true rfl⟩) ⟨fun a U g mk q => by obtain ⟨q0, q1, qP, qK, qD, qN⟩ := q; exact ⟨q0, q1, qP, va_K.moved (u := U) (U := U.calling g mk a) (Vm.Alike.refl U.vm) qK, qD, qN.same rfl⟩, va_recv hK hPc (ci := 9) (q0 := 0) rfl rfl, fun U hU hW => ⟨rfl, by rw [hU], by rw [hU]; exact hPc, va_K.moved hW.alike hK, hDc.weaken (fun _ _ _ _ => trivial), hN.warm hW⟩⟩ rfl rfl hl.1 rfl (lv_room (Nat.le_of_ble_eq_true rfl)) dX9_bracket_33 ⟨Nat.le_of_ble_eq_true rfl, Nat.le_of_ble_eq_true rfl⟩) hS (fun q _ h => hFc q h) hFc (fun r_32 u_33 t H1 locs ht hvm hw_34 hB hz1 hk1 hS => ?_)
    try dsimp only at hw_34 hB
    have po_35 := hw_34
    clear hw_34
    obtain ⟨hP1, hD1⟩ := hB
    rw [ht] at hP1
    obtain ⟨hP, hD⟩ := va_join (wr := [((am 10), .inl (cA 3, 200, .inl f_tape)), ((am 13), .inl (cA 0, 5000, .inl w_20)), ((am 14), .inl (cA 0, 5000, .inl w_21)), ((am 15), .inl (cA 0, 5000, .inl w_22)), ((am 16), .inl (cA 0, 5000, .inl w_23))]) (w1 := [((am 0), .inr (9, F9 am v_status v_now v_told v_merges v_taped v_size w_14 w_15 v_fault w_16 v_traits w_17 w_18 w_19 v_places v_models))]) hP hD [0] [1, 2, 3, 4, 5] hCc rfl (by decide) (by decide) hk1 hFc hP1 hD1
    clear hz1
    generalize H1 = H at hP hS ⊢
    refine lv_if_eq (tgt := 52) hx hb dX9_bracket_36 (by decide) (fun c_36 => ?_) (fun c_36 => ?_)
    · have dc_36 : r_32.toInt = 0 := jI_eq c_36 rfl (by decide)
      replace po_35 := gd_n po_35 dc_36
      refine lv_aload_n hx hb dX9_bracket_52 rfl (lv_at hl 0 rfl) ?_
      obtain ⟨hPc, hDc, hFc, hCc⟩ := va_pre (ws' := [((am 0), .inr (9, F9 am v_status v_now v_told v_merges v_taped v_size w_14 w_15 v_fault w_16 v_traits w_17 w_18 w_19 v_places v_models))]) hP hD hS hA [5] (by decide) rfl
      refine va_calli (va_runV (As := []) (rest := []) ⟨hx, hb, hml, hown, hts⟩ (k_X9_good l dC dI cA H.size am v_status v_now v_told v_merges v_taped v_size w_14 w_15 v_fault w_16 v_traits w_17 w_18 w_19 v_places v_models i_v_now i_v_told i_v_taped i_v_size iv_24 iv_25 i_v_traits iv_26 iv_27 i_v_places i_v_models) (cwV 0 hts gX9_bracket_X9_good rfl rfl rfl (by decide +kernel) ⟨Nat.le_of_ble_eq_true rfl, Nat.le_of_ble_eq_true rfl⟩) ⟨fun a U g mk q => by obtain ⟨q0, q1, qP, qK, qD, qN⟩ := q; exact ⟨q0, q1, qP, va_K.moved (u := U) (U := U.calling g mk a) (Vm.Alike.refl U.vm) qK, qD, qN.same rfl⟩, va_recv hK hPc (ci := 9) (q0 := 0) rfl rfl, fun U hU hW => ⟨rfl, by rw [hU], by rw [hU]; exact hPc, va_K.moved hW.alike hK, hDc.weaken (fun _ _ _ _ => trivial), hN.warm hW⟩⟩ rfl rfl hl.1 rfl (lv_room (Nat.le_of_ble_eq_true rfl)) dX9_bracket_53 ⟨Nat.le_of_ble_eq_true rfl, Nat.le_of_ble_eq_true rfl⟩) hS (fun q _ h => hFc q h) hFc (fun r_37 u_38 t H1 locs ht hvm hw_39 hB hz1 hk1 hS => ?_)
      try dsimp only at hw_39 hB
      have po_40 := hw_39
      clear hw_39
      obtain ⟨hP1, hD1⟩ := hB
      rw [ht] at hP1
      obtain ⟨hP, hD⟩ := va_join (wr := [((am 10), .inl (cA 3, 200, .inl f_tape)), ((am 13), .inl (cA 0, 5000, .inl w_20)), ((am 14), .inl (cA 0, 5000, .inl w_21)), ((am 15), .inl (cA 0, 5000, .inl w_22)), ((am 16), .inl (cA 0, 5000, .inl w_23))]) (w1 := [((am 0), .inr (9, F9 am v_status v_now v_told v_merges v_taped v_size w_14 w_15 v_fault w_16 v_traits w_17 w_18 w_19 v_places v_models))]) hP hD [5] [0, 1, 2, 3, 4] hCc rfl (by decide) (by decide) hk1 hFc hP1 hD1
      clear hz1
      generalize H1 = H at hP hS ⊢
      refine lv_if_ne (tgt := 60) hx hb dX9_bracket_56 (by decide) (fun c_41 => ?_) (fun c_41 => ?_)
      · have dc_41 : ¬ r_37.toInt = 0 := jI_ne c_41 rfl (by decide)
        replace po_40 := gd_y po_40 dc_41
        exfalso; omega
      · have dc_41 : r_37.toInt = 0 := jI_eq c_41 rfl (by decide)
        replace po_40 := gd_n po_40 dc_41
        obtain ⟨hP9, hD9⟩ := va_pd (ws' := [((am 0), .inr (9, F9 am v_status v_now v_told v_merges v_taped v_size w_14 w_15 v_fault w_16 v_traits w_17 w_18 w_19 v_places v_models)), ((am 10), .inl (cA 3, 200, .inl f_tape)), ((am 13), .inl (cA 0, 5000, .inl w_20)), ((am 14), .inl (cA 0, 5000, .inl w_21)), ((am 15), .inl (cA 0, 5000, .inl w_22)), ((am 16), .inl (cA 0, 5000, .inl w_23))]) hP hD [5, 0, 1, 2, 3, 4] (by decide) rfl
        subst hQe
        have hpost : (0 ≤ w_14.toInt ∧ w_14.toInt ≤ 200) ∧ (0 ≤ w_15.toInt ∧ w_15.toInt ≤ 200) ∧ (0 ≤ w_17.toInt ∧ w_17.toInt ≤ 200) ∧ (0 ≤ w_18.toInt ∧ w_18.toInt ≤ 8) ∧ (v_from.toInt ≤ w_14.toInt ∧ w_14.toInt ≤ w_15.toInt ∧ w_15.toInt ≤ v_size.toInt ∧ (w_14.toInt < v_size.toInt → w_14.toInt < w_15.toInt) ∧ w_17.toInt - v_length.toInt ≤ w_14.toInt - v_from.toInt ∧ v_length.toInt ≤ w_17.toInt ∧ (w_16.toInt = (-1) → w_18.toInt = v_open.toInt)) ∧ (tokOK f_tape w_14 w_15 v_size) ∧ (prg f_step f_stepA w_20 w_21 (250 * v_traits.toInt.toNat) v_length.toInt.toNat w_17.toInt.toNat (w_16.toInt = (-1))) ∧ (rs w_16 w_14 w_15 w_19 (orb w_20 w_21 (250 * v_traits.toInt.toNat) w_17.toInt.toNat) = pB (tpe f_tape v_size) v_size.toInt v_traits.toInt (8 - v_open.toInt).toNat v_from.toInt v_to.toInt v_leaks.toInt (orb f_step f_stepA (250 * v_traits.toInt.toNat) v_length.toInt.toNat)) := ⟨iv_24, iv_25, iv_26, iv_27, by omega, tk_29, prg_same pg_30 (fun h => by omega), (by rw [show (8 - v_open.toInt).toNat = (8 - x_2.toInt).toNat + 1 by omega, pB_s, ← ad_11.2, ← ad_11.1, bnd_no rs_31 (by omega)]; exact rs_inl (by omega) (by omega))⟩
        exact W.vret hx hb hr (fun t ht hW => ⟨⟨(w_14, w_15, w_16, w_17, w_18, w_19, w_20, w_21, w_22, w_23), rfl, hpost, by rw [ht]; exact hP9, hD9⟩, hS.F ht⟩) hS.2.2 dX9_bracket_59
    · have dc_36 : ¬ r_32.toInt = 0 := jI_ne c_36 rfl (by decide)
      replace po_35 := gd_y po_35 dc_36
      refine lv_aload_n hx hb dX9_bracket_39 rfl (lv_at hl 0 rfl) ?_
      refine lv_bipush (v := 41) hx hb dX9_bracket_40 (by decide) ?_
      have hk_42 : (41 : Int32).toInt = 41 := by decide
      obtain ⟨hPc, hDc, hFc, hCc⟩ := va_pre (ws' := [((am 0), .inr (9, F9 am v_status v_now v_told v_merges v_taped v_size w_14 w_15 v_fault w_16 v_traits w_17 w_18 w_19 v_places v_models)), ((am 10), .inl (cA 3, 200, .inl f_tape))]) hP hD hS hA [5, 0] (by decide) rfl
      refine va_calli (va_runV (As := [.int 41]) (rest := []) ⟨hx, hb, hml, hown, hts⟩ (k_X9_isSign l dC dI cA H.size am v_status v_now v_told v_merges v_taped v_size w_14 w_15 v_fault w_16 v_traits w_17 w_18 w_19 v_places v_models f_tape 41 i_v_now i_v_told i_v_taped i_v_size iv_24 iv_25 i_v_traits iv_26 iv_27 i_v_places i_v_models (by omega)) (cwV 1 hts gX9_bracket_X9_isSign rfl rfl rfl (by decide +kernel) ⟨Nat.le_of_ble_eq_true rfl, Nat.le_of_ble_eq_true rfl⟩) ⟨fun a U g mk q => by obtain ⟨q0, q1, qP, qK, qD, qN⟩ := q; exact ⟨q0, q1, qP, va_K.moved (u := U) (U := U.calling g mk a) (Vm.Alike.refl U.vm) qK, qD, qN.same rfl⟩, va_recv hK hPc (ci := 9) (q0 := 0) rfl rfl, fun U hU hW => ⟨rfl, by rw [hU], by rw [hU]; exact hPc, va_K.moved hW.alike hK, hDc.weaken (fun _ _ _ _ => trivial), hN.warm hW⟩⟩ rfl rfl hl.1 rfl (lv_room (Nat.le_of_ble_eq_true rfl)) dX9_bracket_42 ⟨Nat.le_of_ble_eq_true rfl, Nat.le_of_ble_eq_true rfl⟩) hS (fun q _ h => hFc q h) hFc (fun r_43 u_44 t H1 locs ht hvm hw_45 hB hz1 hk1 hS => ?_)
      try dsimp only at hw_45 hB
      obtain ⟨po_46, tw_47⟩ := hw_45
      try simp only [hk_42] at po_46 tw_47
      obtain ⟨hP1, hD1⟩ := hB
      rw [ht] at hP1
      obtain ⟨hP, hD⟩ := va_join (wr := [((am 13), .inl (cA 0, 5000, .inl w_20)), ((am 14), .inl (cA 0, 5000, .inl w_21)), ((am 15), .inl (cA 0, 5000, .inl w_22)), ((am 16), .inl (cA 0, 5000, .inl w_23))]) (w1 := [((am 0), .inr (9, F9 am v_status v_now v_told v_merges v_taped v_size w_14 w_15 v_fault w_16 v_traits w_17 w_18 w_19 v_places v_models)), ((am 10), .inl (cA 3, 200, .inl f_tape))]) hP hD [5, 0] [1, 2, 3, 4] hCc rfl (by decide) (by decide) hk1 hFc hP1 hD1
      clear hz1
      generalize H1 = H at hP hS ⊢
      refine lv_if_ne (tgt := 52) hx hb dX9_bracket_45 (by decide) (fun c_48 => ?_) (fun c_48 => ?_)
      · have dc_48 : ¬ r_43.toInt = 0 := jI_ne c_48 rfl (by decide)
        replace po_46 := sg_y po_46 dc_48
        refine lv_aload_n hx hb dX9_bracket_52 rfl (lv_at hl 0 rfl) ?_
        obtain ⟨hPc, hDc, hFc, hCc⟩ := va_pre (ws' := [((am 0), .inr (9, F9 am v_status v_now v_told v_merges v_taped v_size w_14 w_15 v_fault w_16 v_traits w_17 w_18 w_19 v_places v_models))]) hP hD hS hA [4] (by decide) rfl
        refine va_calli (va_runV (As := []) (rest := []) ⟨hx, hb, hml, hown, hts⟩ (k_X9_good l dC dI cA H.size am v_status v_now v_told v_merges v_taped v_size w_14 w_15 v_fault w_16 v_traits w_17 w_18 w_19 v_places v_models i_v_now i_v_told i_v_taped i_v_size iv_24 iv_25 i_v_traits iv_26 iv_27 i_v_places i_v_models) (cwV 0 hts gX9_bracket_X9_good rfl rfl rfl (by decide +kernel) ⟨Nat.le_of_ble_eq_true rfl, Nat.le_of_ble_eq_true rfl⟩) ⟨fun a U g mk q => by obtain ⟨q0, q1, qP, qK, qD, qN⟩ := q; exact ⟨q0, q1, qP, va_K.moved (u := U) (U := U.calling g mk a) (Vm.Alike.refl U.vm) qK, qD, qN.same rfl⟩, va_recv hK hPc (ci := 9) (q0 := 0) rfl rfl, fun U hU hW => ⟨rfl, by rw [hU], by rw [hU]; exact hPc, va_K.moved hW.alike hK, hDc.weaken (fun _ _ _ _ => trivial), hN.warm hW⟩⟩ rfl rfl hl.1 rfl (lv_room (Nat.le_of_ble_eq_true rfl)) dX9_bracket_53 ⟨Nat.le_of_ble_eq_true rfl, Nat.le_of_ble_eq_true rfl⟩) hS (fun q _ h => hFc q h) hFc (fun r_49 u_50 t H1 locs ht hvm hw_51 hB hz1 hk1 hS => ?_)
        try dsimp only at hw_51 hB
        have po_52 := hw_51
        clear hw_51
        obtain ⟨hP1, hD1⟩ := hB
        rw [ht] at hP1
        obtain ⟨hP, hD⟩ := va_join (wr := [((am 13), .inl (cA 0, 5000, .inl w_20)), ((am 14), .inl (cA 0, 5000, .inl w_21)), ((am 15), .inl (cA 0, 5000, .inl w_22)), ((am 16), .inl (cA 0, 5000, .inl w_23)), ((am 10), .inl (cA 3, 200, .inl f_tape))]) (w1 := [((am 0), .inr (9, F9 am v_status v_now v_told v_merges v_taped v_size w_14 w_15 v_fault w_16 v_traits w_17 w_18 w_19 v_places v_models))]) hP hD [4] [0, 1, 2, 3, 5] hCc rfl (by decide) (by decide) hk1 hFc hP1 hD1
        clear hz1
        generalize H1 = H at hP hS ⊢
        refine lv_if_ne (tgt := 60) hx hb dX9_bracket_56 (by decide) (fun c_53 => ?_) (fun c_53 => ?_)
        · have dc_53 : ¬ r_49.toInt = 0 := jI_ne c_53 rfl (by decide)
          replace po_52 := gd_y po_52 dc_53
          refine lv_aload_n hx hb dX9_bracket_60 rfl (lv_at hl 0 rfl) ?_
          obtain ⟨hPc, hDc, hFc, hCc⟩ := va_pre (ws' := [((am 0), .inr (9, F9 am v_status v_now v_told v_merges v_taped v_size w_14 w_15 v_fault w_16 v_traits w_17 w_18 w_19 v_places v_models)), ((am 10), .inl (cA 3, 200, .inl f_tape))]) hP hD hS hA [5, 4] (by decide) rfl
          refine va_callv (va_runV (As := []) (rest := []) ⟨hx, hb, hml, hown, hts⟩ (k_X9_next l dC dI cA H.size am v_status v_now v_told v_merges v_taped v_size w_14 w_15 v_fault w_16 v_traits w_17 w_18 w_19 v_places v_models f_tape i_v_now i_v_told i_v_taped i_v_size iv_24 iv_25 i_v_traits iv_26 iv_27 i_v_places i_v_models (by omega)) (cwV 0 hts gX9_bracket_X9_next rfl rfl rfl (by decide +kernel) ⟨Nat.le_of_ble_eq_true rfl, Nat.le_of_ble_eq_true rfl⟩) ⟨fun a U g mk q => by obtain ⟨q0, q1, qP, qK, qD, qN⟩ := q; exact ⟨q0, q1, qP, va_K.moved (u := U) (U := U.calling g mk a) (Vm.Alike.refl U.vm) qK, qD, qN.same rfl⟩, va_recv hK hPc (ci := 9) (q0 := 0) rfl rfl, fun U hU hW => ⟨rfl, by rw [hU], by rw [hU]; exact hPc, va_K.moved hW.alike hK, hDc.weaken (fun _ _ _ _ => trivial), hN.warm hW⟩⟩ rfl rfl hl.1 rfl (lv_room (Nat.le_of_ble_eq_true rfl)) dX9_bracket_61 ⟨Nat.le_of_ble_eq_true rfl, Nat.le_of_ble_eq_true rfl⟩) hS (fun q _ h => hFc q h) hFc (fun u_54 t H1 locs ht hvm hw_55 hB hz1 hk1 hS => ?_)
          obtain ⟨w_56, w_57⟩ := u_54
          try dsimp only at hw_55 hB
          obtain ⟨iv_58, iv_59, po_60, tk_61, ad_62⟩ := hw_55
          obtain ⟨hP1, hD1⟩ := hB
          rw [ht] at hP1
          obtain ⟨hP, hD⟩ := va_join (wr := [((am 13), .inl (cA 0, 5000, .inl w_20)), ((am 14), .inl (cA 0, 5000, .inl w_21)), ((am 15), .inl (cA 0, 5000, .inl w_22)), ((am 16), .inl (cA 0, 5000, .inl w_23))]) (w1 := [((am 0), .inr (9, F9 am v_status v_now v_told v_merges v_taped v_size w_56 w_57 v_fault w_16 v_traits w_17 w_18 w_19 v_places v_models)), ((am 10), .inl (cA 3, 200, .inl f_tape))]) hP hD [5, 4] [0, 1, 2, 3] hCc rfl (by decide) (by decide) hk1 hFc hP1 hD1
          clear hz1
          generalize H1 = H at hP hS ⊢
          refine lv_aload_n hx hb dX9_bracket_64 rfl (lv_at hl 0 rfl) ?_
          refine lv_dup hx hb dX9_bracket_65 rfl ?_
          refine va_get (D := (dC, dI)) (ci := 9) (v := .int w_18) (C := RX9) (T := TX9) (N := 51) hx hb hts hIX9 hown hK hP 4 rfl rfl 23 (by decide) (hts (.fieldLink RX9 254 "TraitHouseModel" "open" "I") (by decide +kernel)) (fun _ h9 => h9) rfl dX9_bracket_66 ?_
          refine lv_iconst (v := 1) hx hb dX9_bracket_69 (by decide) ?_
          refine lv_isub hx hb dX9_bracket_70 ?_
          refine lv_topi (fun x_63 ex_63 => ?_)
          have dx_63 : x_63.toInt = w_18.toInt - 1 := by rw [ex_63]; exact jI_sub rfl (by decide) (by omega) (by omega)
          refine va_put (D := (dC, dI)) (ci := 9) (v := .int x_63) (ty := .int) (C := RX9) (T := TX9) (N := 51) hx hb hts hIX9 tyX9 tyX9_ok nmX9 hown hK hP hD hS 4 rfl rfl 23 (by decide) (hts (.fieldLink RX9 254 "TraitHouseModel" "open" "I") (by decide +kernel)) (fun _ h9 => h9) rfl (by decide +kernel) rfl rfl (Nat.le_of_ble_eq_true rfl) dX9_bracket_71 (fun H locs hP hD hS => ?_)
          replace hP : va_P (dC, dI) vwCl [((am 13), .inl (cA 0, 5000, .inl w_20)), ((am 14), .inl (cA 0, 5000, .inl w_21)), ((am 15), .inl (cA 0, 5000, .inl w_22)), ((am 16), .inl (cA 0, 5000, .inl w_23)), ((am 0), .inr (9, F9 am v_status v_now v_told v_merges v_taped v_size w_56 w_57 v_fault w_16 v_traits w_17 x_63 w_19 v_places v_models)), ((am 10), .inl (cA 3, 200, .inl f_tape))] H := hP
          replace hD : va_D A [((am 13), .inl (cA 0, 5000, .inl w_20)), ((am 14), .inl (cA 0, 5000, .inl w_21)), ((am 15), .inl (cA 0, 5000, .inl w_22)), ((am 16), .inl (cA 0, 5000, .inl w_23)), ((am 0), .inr (9, F9 am v_status v_now v_told v_merges v_taped v_size w_56 w_57 v_fault w_16 v_traits w_17 x_63 w_19 v_places v_models)), ((am 10), .inl (cA 3, 200, .inl f_tape))] := hD
          obtain ⟨hP9, hD9⟩ := va_pd (ws' := [((am 0), .inr (9, F9 am v_status v_now v_told v_merges v_taped v_size w_56 w_57 v_fault w_16 v_traits w_17 x_63 w_19 v_places v_models)), ((am 10), .inl (cA 3, 200, .inl f_tape)), ((am 13), .inl (cA 0, 5000, .inl w_20)), ((am 14), .inl (cA 0, 5000, .inl w_21)), ((am 15), .inl (cA 0, 5000, .inl w_22)), ((am 16), .inl (cA 0, 5000, .inl w_23))]) hP hD [4, 5, 0, 1, 2, 3] (by decide) rfl
          subst hQe
          have hpost : (0 ≤ w_56.toInt ∧ w_56.toInt ≤ 200) ∧ (0 ≤ w_57.toInt ∧ w_57.toInt ≤ 200) ∧ (0 ≤ w_17.toInt ∧ w_17.toInt ≤ 200) ∧ (0 ≤ x_63.toInt ∧ x_63.toInt ≤ 8) ∧ (v_from.toInt ≤ w_56.toInt ∧ w_56.toInt ≤ w_57.toInt ∧ w_57.toInt ≤ v_size.toInt ∧ (w_56.toInt < v_size.toInt → w_56.toInt < w_57.toInt) ∧ w_17.toInt - v_length.toInt ≤ w_56.toInt - v_from.toInt ∧ v_length.toInt ≤ w_17.toInt ∧ (w_16.toInt = (-1) → x_63.toInt = v_open.toInt)) ∧ (tokOK f_tape w_56 w_57 v_size) ∧ (prg f_step f_stepA w_20 w_21 (250 * v_traits.toInt.toNat) v_length.toInt.toNat w_17.toInt.toNat (w_16.toInt = (-1))) ∧ (rs w_16 w_56 w_57 w_19 (orb w_20 w_21 (250 * v_traits.toInt.toNat) w_17.toInt.toNat) = pB (tpe f_tape v_size) v_size.toInt v_traits.toInt (8 - v_open.toInt).toNat v_from.toInt v_to.toInt v_leaks.toInt (orb f_step f_stepA (250 * v_traits.toInt.toNat) v_length.toInt.toNat)) := ⟨iv_58, iv_59, iv_26, by omega, by omega, tk_61, prg_same pg_30 (fun h => by omega), (by rw [show (8 - v_open.toInt).toNat = (8 - x_2.toInt).toNat + 1 by omega, pB_s, ← ad_11.2, ← ad_11.1, bnd_ok rs_31 (by omega), ptak_ok (tw_47.mp dc_48), ← ad_62.2, ← ad_62.1]; exact rs_inr (by omega) rfl rfl rfl rfl)⟩
          exact W.vret hx hb hr (fun t ht hW => ⟨⟨(w_56, w_57, w_16, w_17, x_63, w_19, w_20, w_21, w_22, w_23), rfl, hpost, by rw [ht]; exact hP9, hD9⟩, hS.F ht⟩) hS.2.2 dX9_bracket_74
        · have dc_53 : r_49.toInt = 0 := jI_eq c_53 rfl (by decide)
          replace po_52 := gd_n po_52 dc_53
          exfalso; omega
      · have dc_48 : r_43.toInt = 0 := jI_eq c_48 rfl (by decide)
        replace po_46 := sg_n po_46
        refine lv_aload_n hx hb dX9_bracket_48 rfl (lv_at hl 0 rfl) ?_
        obtain ⟨hPc, hDc, hFc, hCc⟩ := va_pre (ws' := [((am 0), .inr (9, F9 am v_status v_now v_told v_merges v_taped v_size w_14 w_15 v_fault w_16 v_traits w_17 w_18 w_19 v_places v_models))]) hP hD hS hA [4] (by decide) rfl
        refine va_callv (va_runV (As := []) (rest := []) ⟨hx, hb, hml, hown, hts⟩ (k_X9_faults l dC dI cA H.size am v_status v_now v_told v_merges v_taped v_size w_14 w_15 v_fault w_16 v_traits w_17 w_18 w_19 v_places v_models i_v_now i_v_told i_v_taped i_v_size iv_24 iv_25 i_v_traits iv_26 iv_27 i_v_places i_v_models (by omega)) (cwV 0 hts gX9_bracket_X9_faults rfl rfl rfl (by decide +kernel) ⟨Nat.le_of_ble_eq_true rfl, Nat.le_of_ble_eq_true rfl⟩) ⟨fun a U g mk q => by obtain ⟨q0, q1, qP, qK, qD, qN⟩ := q; exact ⟨q0, q1, qP, va_K.moved (u := U) (U := U.calling g mk a) (Vm.Alike.refl U.vm) qK, qD, qN.same rfl⟩, va_recv hK hPc (ci := 9) (q0 := 0) rfl rfl, fun U hU hW => ⟨rfl, by rw [hU], by rw [hU]; exact hPc, va_K.moved hW.alike hK, hDc.weaken (fun _ _ _ _ => trivial), hN.warm hW⟩⟩ rfl rfl hl.1 rfl (lv_room (Nat.le_of_ble_eq_true rfl)) dX9_bracket_49 ⟨Nat.le_of_ble_eq_true rfl, Nat.le_of_ble_eq_true rfl⟩) hS (fun q _ h => hFc q h) hFc (fun u_64 t H1 locs ht hvm hw_65 hB hz1 hk1 hS => ?_)
        obtain ⟨w_66, rfl⟩ : ∃ z, z = u_64 := ⟨_, rfl⟩
        try dsimp only at hw_65 hB
        have po_67 := hw_65
        clear hw_65
        obtain ⟨hP1, hD1⟩ := hB
        rw [ht] at hP1
        obtain ⟨hP, hD⟩ := va_join (wr := [((am 13), .inl (cA 0, 5000, .inl w_20)), ((am 14), .inl (cA 0, 5000, .inl w_21)), ((am 15), .inl (cA 0, 5000, .inl w_22)), ((am 16), .inl (cA 0, 5000, .inl w_23)), ((am 10), .inl (cA 3, 200, .inl f_tape))]) (w1 := [((am 0), .inr (9, F9 am v_status v_now v_told v_merges v_taped v_size w_14 w_15 v_fault w_66 v_traits w_17 w_18 w_19 v_places v_models))]) hP hD [4] [0, 1, 2, 3, 5] hCc rfl (by decide) (by decide) hk1 hFc hP1 hD1
        clear hz1
        generalize H1 = H at hP hS ⊢
        refine lv_aload_n hx hb dX9_bracket_52 rfl (lv_at hl 0 rfl) ?_
        obtain ⟨hPc, hDc, hFc, hCc⟩ := va_pre (ws' := [((am 0), .inr (9, F9 am v_status v_now v_told v_merges v_taped v_size w_14 w_15 v_fault w_66 v_traits w_17 w_18 w_19 v_places v_models))]) hP hD hS hA [5] (by decide) rfl
        refine va_calli (va_runV (As := []) (rest := []) ⟨hx, hb, hml, hown, hts⟩ (k_X9_good l dC dI cA H.size am v_status v_now v_told v_merges v_taped v_size w_14 w_15 v_fault w_66 v_traits w_17 w_18 w_19 v_places v_models i_v_now i_v_told i_v_taped i_v_size iv_24 iv_25 i_v_traits iv_26 iv_27 i_v_places i_v_models) (cwV 0 hts gX9_bracket_X9_good rfl rfl rfl (by decide +kernel) ⟨Nat.le_of_ble_eq_true rfl, Nat.le_of_ble_eq_true rfl⟩) ⟨fun a U g mk q => by obtain ⟨q0, q1, qP, qK, qD, qN⟩ := q; exact ⟨q0, q1, qP, va_K.moved (u := U) (U := U.calling g mk a) (Vm.Alike.refl U.vm) qK, qD, qN.same rfl⟩, va_recv hK hPc (ci := 9) (q0 := 0) rfl rfl, fun U hU hW => ⟨rfl, by rw [hU], by rw [hU]; exact hPc, va_K.moved hW.alike hK, hDc.weaken (fun _ _ _ _ => trivial), hN.warm hW⟩⟩ rfl rfl hl.1 rfl (lv_room (Nat.le_of_ble_eq_true rfl)) dX9_bracket_53 ⟨Nat.le_of_ble_eq_true rfl, Nat.le_of_ble_eq_true rfl⟩) hS (fun q _ h => hFc q h) hFc (fun r_68 u_69 t H1 locs ht hvm hw_70 hB hz1 hk1 hS => ?_)
        try dsimp only at hw_70 hB
        have po_71 := hw_70
        clear hw_70
        obtain ⟨hP1, hD1⟩ := hB
        rw [ht] at hP1
        obtain ⟨hP, hD⟩ := va_join (wr := [((am 13), .inl (cA 0, 5000, .inl w_20)), ((am 14), .inl (cA 0, 5000, .inl w_21)), ((am 15), .inl (cA 0, 5000, .inl w_22)), ((am 16), .inl (cA 0, 5000, .inl w_23)), ((am 10), .inl (cA 3, 200, .inl f_tape))]) (w1 := [((am 0), .inr (9, F9 am v_status v_now v_told v_merges v_taped v_size w_14 w_15 v_fault w_66 v_traits w_17 w_18 w_19 v_places v_models))]) hP hD [5] [0, 1, 2, 3, 4] hCc rfl (by decide) (by decide) hk1 hFc hP1 hD1
        clear hz1
        generalize H1 = H at hP hS ⊢
        refine lv_if_ne (tgt := 60) hx hb dX9_bracket_56 (by decide) (fun c_72 => ?_) (fun c_72 => ?_)
        · have dc_72 : ¬ r_68.toInt = 0 := jI_ne c_72 rfl (by decide)
          replace po_71 := gd_y po_71 dc_72
          exfalso; omega
        · have dc_72 : r_68.toInt = 0 := jI_eq c_72 rfl (by decide)
          replace po_71 := gd_n po_71 dc_72
          obtain ⟨hP9, hD9⟩ := va_pd (ws' := [((am 0), .inr (9, F9 am v_status v_now v_told v_merges v_taped v_size w_14 w_15 v_fault w_66 v_traits w_17 w_18 w_19 v_places v_models)), ((am 10), .inl (cA 3, 200, .inl f_tape)), ((am 13), .inl (cA 0, 5000, .inl w_20)), ((am 14), .inl (cA 0, 5000, .inl w_21)), ((am 15), .inl (cA 0, 5000, .inl w_22)), ((am 16), .inl (cA 0, 5000, .inl w_23))]) hP hD [5, 4, 0, 1, 2, 3] (by decide) rfl
          subst hQe
          have hpost : (0 ≤ w_14.toInt ∧ w_14.toInt ≤ 200) ∧ (0 ≤ w_15.toInt ∧ w_15.toInt ≤ 200) ∧ (0 ≤ w_17.toInt ∧ w_17.toInt ≤ 200) ∧ (0 ≤ w_18.toInt ∧ w_18.toInt ≤ 8) ∧ (v_from.toInt ≤ w_14.toInt ∧ w_14.toInt ≤ w_15.toInt ∧ w_15.toInt ≤ v_size.toInt ∧ (w_14.toInt < v_size.toInt → w_14.toInt < w_15.toInt) ∧ w_17.toInt - v_length.toInt ≤ w_14.toInt - v_from.toInt ∧ v_length.toInt ≤ w_17.toInt ∧ (w_66.toInt = (-1) → w_18.toInt = v_open.toInt)) ∧ (tokOK f_tape w_14 w_15 v_size) ∧ (prg f_step f_stepA w_20 w_21 (250 * v_traits.toInt.toNat) v_length.toInt.toNat w_17.toInt.toNat (w_66.toInt = (-1))) ∧ (rs w_66 w_14 w_15 w_19 (orb w_20 w_21 (250 * v_traits.toInt.toNat) w_17.toInt.toNat) = pB (tpe f_tape v_size) v_size.toInt v_traits.toInt (8 - v_open.toInt).toNat v_from.toInt v_to.toInt v_leaks.toInt (orb f_step f_stepA (250 * v_traits.toInt.toNat) v_length.toInt.toNat)) := ⟨iv_24, iv_25, iv_26, iv_27, by omega, tk_29, prg_same pg_30 (fun h => by omega), (by rw [show (8 - v_open.toInt).toNat = (8 - x_2.toInt).toNat + 1 by omega, pB_s, ← ad_11.2, ← ad_11.1, bnd_ok rs_31 (by omega), ptak_no (fun h => absurd (tw_47.mpr h) (fun q => q dc_48))]; exact rs_inl (by omega) (by omega))⟩
          exact W.vret hx hb hr (fun t ht hW => ⟨⟨(w_14, w_15, w_66, w_17, w_18, w_19, w_20, w_21, w_22, w_23), rfl, hpost, by rw [ht]; exact hP9, hD9⟩, hS.F ht⟩) hS.2.2 dX9_bracket_59
  · have dc_1 : v_open.toInt = 8 := jI_eq c_1 rfl (by decide)
    refine lv_aload_n hx hb dX9_bracket_9 rfl (lv_at hl 0 rfl) ?_
    obtain ⟨hPc, hDc, hFc, hCc⟩ := va_pre (ws' := [((am 0), .inr (9, F9 am v_status v_now v_told v_merges v_taped v_size v_from v_to v_fault v_readFault v_traits v_length v_open v_leaks v_places v_models))]) hP hD hS hA [0] (by decide) rfl
    refine va_callv (va_runV (As := []) (rest := []) ⟨hx, hb, hml, hown, hts⟩ (k_X9_faults l dC dI cA s.heap.size am v_status v_now v_told v_merges v_taped v_size v_from v_to v_fault v_readFault v_traits v_length v_open v_leaks v_places v_models i_v_now i_v_told i_v_taped i_v_size i_v_from i_v_to i_v_traits i_v_length i_v_open i_v_places i_v_models hgd) (cwV 0 hts gX9_bracket_X9_faults rfl rfl rfl (by decide +kernel) ⟨Nat.le_of_ble_eq_true rfl, Nat.le_of_ble_eq_true rfl⟩) ⟨fun a U g mk q => by obtain ⟨q0, q1, qP, qK, qD, qN⟩ := q; exact ⟨q0, q1, qP, va_K.moved (u := U) (U := U.calling g mk a) (Vm.Alike.refl U.vm) qK, qD, qN.same rfl⟩, va_recv hK hPc (ci := 9) (q0 := 0) rfl rfl, fun U hU hW => ⟨rfl, by rw [hU], by rw [hU]; exact hPc, va_K.moved hW.alike hK, hDc.weaken (fun _ _ _ _ => trivial), hN.warm hW⟩⟩ rfl rfl hl.1 rfl (lv_room (Nat.le_of_ble_eq_true rfl)) dX9_bracket_10 ⟨Nat.le_of_ble_eq_true rfl, Nat.le_of_ble_eq_true rfl⟩) hS (fun q _ h => hFc q h) hFc (fun u_73 t H1 locs ht hvm hw_74 hB hz1 hk1 hS => ?_)
    obtain ⟨w_75, rfl⟩ : ∃ z, z = u_73 := ⟨_, rfl⟩
    try dsimp only at hw_74 hB
    have po_76 := hw_74
    clear hw_74
    obtain ⟨hP1, hD1⟩ := hB
    rw [ht] at hP1
    obtain ⟨hP, hD⟩ := va_join (wr := [((am 10), .inl (cA 3, 200, .inl f_tape)), ((am 13), .inl (cA 0, 5000, .inl f_step)), ((am 14), .inl (cA 0, 5000, .inl f_stepA)), ((am 15), .inl (cA 0, 5000, .inl f_stepB)), ((am 16), .inl (cA 0, 5000, .inl f_stepC))]) (w1 := [((am 0), .inr (9, F9 am v_status v_now v_told v_merges v_taped v_size v_from v_to v_fault w_75 v_traits v_length v_open v_leaks v_places v_models))]) hP hD [0] [1, 2, 3, 4, 5] hCc rfl (by decide) (by decide) hk1 hFc hP1 hD1
    clear hz1
    generalize H1 = H at hP hS ⊢
    obtain ⟨hP9, hD9⟩ := va_pd (ws' := [((am 0), .inr (9, F9 am v_status v_now v_told v_merges v_taped v_size v_from v_to v_fault w_75 v_traits v_length v_open v_leaks v_places v_models)), ((am 10), .inl (cA 3, 200, .inl f_tape)), ((am 13), .inl (cA 0, 5000, .inl f_step)), ((am 14), .inl (cA 0, 5000, .inl f_stepA)), ((am 15), .inl (cA 0, 5000, .inl f_stepB)), ((am 16), .inl (cA 0, 5000, .inl f_stepC))]) hP hD [5, 0, 1, 2, 3, 4] (by decide) rfl
    subst hQe
    have hpost : (0 ≤ v_from.toInt ∧ v_from.toInt ≤ 200) ∧ (0 ≤ v_to.toInt ∧ v_to.toInt ≤ 200) ∧ (0 ≤ v_length.toInt ∧ v_length.toInt ≤ 200) ∧ (0 ≤ v_open.toInt ∧ v_open.toInt ≤ 8) ∧ (v_from.toInt ≤ v_from.toInt ∧ v_from.toInt ≤ v_to.toInt ∧ v_to.toInt ≤ v_size.toInt ∧ (v_from.toInt < v_size.toInt → v_from.toInt < v_to.toInt) ∧ v_length.toInt - v_length.toInt ≤ v_from.toInt - v_from.toInt ∧ v_length.toInt ≤ v_length.toInt ∧ (w_75.toInt = (-1) → v_open.toInt = v_open.toInt)) ∧ (tokOK f_tape v_from v_to v_size) ∧ (prg f_step f_stepA f_step f_stepA (250 * v_traits.toInt.toNat) v_length.toInt.toNat v_length.toInt.toNat (w_75.toInt = (-1))) ∧ (rs w_75 v_from v_to v_leaks (orb f_step f_stepA (250 * v_traits.toInt.toNat) v_length.toInt.toNat) = pB (tpe f_tape v_size) v_size.toInt v_traits.toInt (8 - v_open.toInt).toNat v_from.toInt v_to.toInt v_leaks.toInt (orb f_step f_stepA (250 * v_traits.toInt.toNat) v_length.toInt.toNat)) := ⟨i_v_from, i_v_to, i_v_length, i_v_open, by omega, htk, prg_rf hwp (by omega), (by rw [show (8 - v_open.toInt).toNat = 0 by omega, pB_0]; exact rs_inl (by omega) (by omega))⟩
    exact W.vret hx hb hr (fun t ht hW => ⟨⟨(v_from, v_to, w_75, v_length, v_open, v_leaks, f_step, f_stepA, f_stepB, f_stepC), rfl, hpost, by rw [ht]; exact hP9, hD9⟩, hS.F ht⟩) hS.2.2 dX9_bracket_13

set_option maxHeartbeats 8000000 in
set_option maxRecDepth 100000 in
theorem k_X9_atom (l : Launch) (dC : Nat → ClassId) (dI : Nat → Nat → Nat) (cA : Nat → ClassId) (sz : Nat) (am : Nat → Nat) (v_status : Int32) (v_now : Int32) (v_told : Int32) (v_merges : Int32) (v_taped : Int32) (v_size : Int32) (v_from : Int32) (v_to : Int32) (v_fault : Int32) (v_readFault : Int32) (v_traits : Int32) (v_length : Int32) (v_open : Int32) (v_leaks : Int32) (v_places : Int32) (v_models : Int32) (f_tape : Nat → Int32) (f_step : Nat → Int32) (f_stepA : Nat → Int32) (f_stepB : Nat → Int32) (f_stepC : Nat → Int32) (rl : Nat) (FR : Nat) (LO : Nat) (i_v_now : 0 ≤ v_now.toInt ∧ v_now.toInt ≤ 100000) (i_v_told : 0 ≤ v_told.toInt ∧ v_told.toInt ≤ 400) (i_v_taped : 0 ≤ v_taped.toInt ∧ v_taped.toInt ≤ 200) (i_v_size : 0 ≤ v_size.toInt ∧ v_size.toInt ≤ 200) (i_v_from : 0 ≤ v_from.toInt ∧ v_from.toInt ≤ 200) (i_v_to : 0 ≤ v_to.toInt ∧ v_to.toInt ≤ 200) (i_v_traits : 0 ≤ v_traits.toInt ∧ v_traits.toInt ≤ 20) (i_v_length : 0 ≤ v_length.toInt ∧ v_length.toInt ≤ 200) (i_v_open : 0 ≤ v_open.toInt ∧ v_open.toInt ≤ 8) (i_v_places : 0 ≤ v_places.toInt ∧ v_places.toInt ≤ 2000) (i_v_models : 0 ≤ v_models.toInt ∧ v_models.toInt ≤ 10) (htr : v_traits.toInt ≤ 19) (hfr : v_from.toInt ≤ v_to.toInt ∧ v_to.toInt ≤ v_size.toInt ∧ (v_from.toInt < v_size.toInt → v_from.toInt < v_to.toInt)) (htk : tokOK f_tape v_from v_to v_size) (hfl : v_length.toInt ≤ v_from.toInt) (hgd : v_readFault.toInt = (-1)) (hwp : wfp f_step f_stepA (250 * v_traits.toInt.toNat) v_length.toInt.toNat) (hop : 8 - v_open.toInt ≤ (rl : Int)) (ih : 0 < rl → SumC l dC dI cA (rl - 1) FR LO) : Met l yX9_atom wsX9_atom ({ frames := FR + 4, cells := 0, slots := 0, locals := LO + 92 }) (va_Pc [.ref (am 0)] (fun U => U.heap.size = sz ∧ va_P (dC, dI) vwCl [((am 0), .inr (9, F9 am v_status v_now v_told v_merges v_taped v_size v_from v_to v_fault v_readFault v_traits v_length v_open v_leaks v_places v_models)), ((am 10), .inl (cA 3, 200, .inl f_tape)), ((am 13), .inl (cA 0, 5000, .inl f_step)), ((am 14), .inl (cA 0, 5000, .inl f_stepA)), ((am 15), .inl (cA 0, 5000, .inl f_stepB)), ((am 16), .inl (cA 0, 5000, .inl f_stepC))] U.heap ∧ va_K (dC, dI) vwCl (tyL cA) U ∧ va_D (fun _ => True) [((am 0), .inr (9, F9 am v_status v_now v_told v_merges v_taped v_size v_from v_to v_fault v_readFault v_traits v_length v_open v_leaks v_places v_models)), ((am 10), .inl (cA 3, 200, .inl f_tape)), ((am 13), .inl (cA 0, 5000, .inl f_step)), ((am 14), .inl (cA 0, 5000, .inl f_stepA)), ((am 15), .inl (cA 0, 5000, .inl f_stepB)), ((am 16), .inl (cA 0, 5000, .inl f_stepC))] ∧ nw_ok U)) (va_Qv (fun (u : Int32 × Int32 × Int32 × Int32 × Int32 × Int32 × (Nat → Int32) × (Nat → Int32) × (Nat → Int32) × (Nat → Int32)) => (0 ≤ u.1.toInt ∧ u.1.toInt ≤ 200) ∧ (0 ≤ u.2.1.toInt ∧ u.2.1.toInt ≤ 200) ∧ (0 ≤ u.2.2.2.1.toInt ∧ u.2.2.2.1.toInt ≤ 200) ∧ (0 ≤ u.2.2.2.2.1.toInt ∧ u.2.2.2.2.1.toInt ≤ 8) ∧ (v_from.toInt ≤ u.1.toInt ∧ u.1.toInt ≤ u.2.1.toInt ∧ u.2.1.toInt ≤ v_size.toInt ∧ (u.1.toInt < v_size.toInt → u.1.toInt < u.2.1.toInt) ∧ u.2.2.2.1.toInt - v_length.toInt ≤ u.1.toInt - v_from.toInt ∧ v_length.toInt ≤ u.2.2.2.1.toInt ∧ (u.2.2.1.toInt = (-1) → u.2.2.2.2.1.toInt = v_open.toInt)) ∧ (tokOK f_tape u.1 u.2.1 v_size) ∧ (prg f_step f_stepA u.2.2.2.2.2.2.1 u.2.2.2.2.2.2.2.1 (250 * v_traits.toInt.toNat) v_length.toInt.toNat u.2.2.2.1.toInt.toNat (u.2.2.1.toInt = (-1))) ∧ (rs u.2.2.1 u.1 u.2.1 u.2.2.2.2.2.1 (orb u.2.2.2.2.2.2.1 u.2.2.2.2.2.2.2.1 (250 * v_traits.toInt.toNat) u.2.2.2.1.toInt.toNat) = patom (tpe f_tape v_size) v_size.toInt v_traits.toInt (pB (tpe f_tape v_size) v_size.toInt v_traits.toInt (8 - v_open.toInt).toNat) v_from.toInt v_to.toInt v_leaks.toInt (orb f_step f_stepA (250 * v_traits.toInt.toNat) v_length.toInt.toNat))) (fun (u : Int32 × Int32 × Int32 × Int32 × Int32 × Int32 × (Nat → Int32) × (Nat → Int32) × (Nat → Int32) × (Nat → Int32)) (t : State) => va_P (dC, dI) vwCl [((am 0), .inr (9, F9 am v_status v_now v_told v_merges v_taped v_size u.1 u.2.1 v_fault u.2.2.1 v_traits u.2.2.2.1 u.2.2.2.2.1 u.2.2.2.2.2.1 v_places v_models)), ((am 10), .inl (cA 3, 200, .inl f_tape)), ((am 13), .inl (cA 0, 5000, .inl u.2.2.2.2.2.2.1)), ((am 14), .inl (cA 0, 5000, .inl u.2.2.2.2.2.2.2.1)), ((am 15), .inl (cA 0, 5000, .inl u.2.2.2.2.2.2.2.2.1)), ((am 16), .inl (cA 0, 5000, .inl u.2.2.2.2.2.2.2.2.2))] t.heap ∧ va_D (va_A [((am 0), .inr (9, F9 am v_status v_now v_told v_merges v_taped v_size v_from v_to v_fault v_readFault v_traits v_length v_open v_leaks v_places v_models)), ((am 10), .inl (cA 3, 200, .inl f_tape)), ((am 13), .inl (cA 0, 5000, .inl f_step)), ((am 14), .inl (cA 0, 5000, .inl f_stepA)), ((am 15), .inl (cA 0, 5000, .inl f_stepB)), ((am 16), .inl (cA 0, 5000, .inl f_stepC))] sz) [((am 0), .inr (9, F9 am v_status v_now v_told v_merges v_taped v_size u.1 u.2.1 v_fault u.2.2.1 v_traits u.2.2.2.1 u.2.2.2.2.1 u.2.2.2.2.2.1 v_places v_models)), ((am 10), .inl (cA 3, 200, .inl f_tape)), ((am 13), .inl (cA 0, 5000, .inl u.2.2.2.2.2.2.1)), ((am 14), .inl (cA 0, 5000, .inl u.2.2.2.2.2.2.2.1)), ((am 15), .inl (cA 0, 5000, .inl u.2.2.2.2.2.2.2.2.1)), ((am 16), .inl (cA 0, 5000, .inl u.2.2.2.2.2.2.2.2.2))]) (va_A [((am 0), .inr (9, F9 am v_status v_now v_told v_merges v_taped v_size v_from v_to v_fault v_readFault v_traits v_length v_open v_leaks v_places v_models)), ((am 10), .inl (cA 3, 200, .inl f_tape)), ((am 13), .inl (cA 0, 5000, .inl f_step)), ((am 14), .inl (cA 0, 5000, .inl f_stepA)), ((am 15), .inl (cA 0, 5000, .inl f_stepB)), ((am 16), .inl (cA 0, 5000, .inl f_stepC))] sz)) 0 0 (va_A [((am 0), .inr (9, F9 am v_status v_now v_told v_merges v_taped v_size v_from v_to v_fault v_readFault v_traits v_length v_open v_leaks v_places v_models)), ((am 10), .inl (cA 3, 200, .inl f_tape)), ((am 13), .inl (cA 0, 5000, .inl f_step)), ((am 14), .inl (cA 0, 5000, .inl f_stepA)), ((am 15), .inl (cA 0, 5000, .inl f_stepB)), ((am 16), .inl (cA 0, 5000, .inl f_stepC))] sz) := by
  refine Met.ofW (cc := cX9_atom) (maxL := 3) (ret := none) (by decide) rfl ?_
  intro p e s m args below meth c s₁ B hml hv
  obtain ⟨rfl, hsz, hP, hK, hD0, hN⟩ := hv
  have hx := B.exec
  have hb := B.bytes
  have hr := B.returns
  have hts := atoms_spec (ws := wsX9_atom) B.pre
  have hown : s.vm.findClass RX9 = some m.cls := findClass_of_methodNamed B.named
  have hlocks := B.notSynchronized
  subst hsz
  have hD := hD0.self (sz := s.heap.size)
  generalize hAe : va_A [((am 0), .inr (9, F9 am v_status v_now v_told v_merges v_taped v_size v_from v_to v_fault v_readFault v_traits v_length v_open v_leaks v_places v_models)), ((am 10), .inl (cA 3, 200, .inl f_tape)), ((am 13), .inl (cA 0, 5000, .inl f_step)), ((am 14), .inl (cA 0, 5000, .inl f_stepA)), ((am 15), .inl (cA 0, 5000, .inl f_stepB)), ((am 16), .inl (cA 0, 5000, .inl f_stepC))] s.heap.size = A at hD ⊢
  have hA : ∀ q : Nat, s.heap.size ≤ q → A q := fun q h => by rw [← hAe]; exact Or.inr h
  have hS : va_S A s.heap s.heap [] := va_S.rf
  have hIX9 : ∀ w ∈ u_ws RX9 TX9 51, w ∈ wsX9_atom := by decide +kernel
  have hl := lv_entry ([.ref (am 0)]) (n := 3) (Nat.le_of_ble_eq_true rfl)
  rw [lg_entry_eq]
  generalize (lg_sl ([.ref (am 0)]) ++ List.replicate (3 - (lg_sl ([.ref (am 0)])).length) Slot.unset).toArray = ls at hl ⊢
  have hl : lv_has ls 3 [(0, .ref (am 0))] := hl
  generalize hQe : MQ below _ _ _ _ _ _ = QQ
  refine lv_aload_n hx hb dX9_atom_0 rfl (lv_at hl 0 rfl) ?_
  refine lv_aload_n hx hb dX9_atom_1 rfl (lv_at hl 0 rfl) ?_
  refine va_get (D := (dC, dI)) (ci := 9) (v := .int v_from) (C := RX9) (T := TX9) (N := 51) hx hb hts hIX9 hown hK hP 0 rfl rfl 16 (by decide) (hts (.fieldLink RX9 173 "TraitHouseModel" "from" "I") (by decide +kernel)) (fun _ h9 => h9) rfl dX9_atom_2 ?_
  refine lv_bipush (v := 48) hx hb dX9_atom_5 (by decide) ?_
  refine lv_bipush (v := 57) hx hb dX9_atom_7 (by decide) ?_
  have hk_1 : (48 : Int32).toInt = 48 := by decide
  have hk_2 : (57 : Int32).toInt = 57 := by decide
  obtain ⟨hPc, hDc, hFc, hCc⟩ := va_pre (ws' := [((am 0), .inr (9, F9 am v_status v_now v_told v_merges v_taped v_size v_from v_to v_fault v_readFault v_traits v_length v_open v_leaks v_places v_models)), ((am 10), .inl (cA 3, 200, .inl f_tape))]) hP hD hS hA [0, 1] (by decide) rfl
  refine va_calli (va_runV (As := [.int v_from, .int 48, .int 57]) (rest := []) ⟨hx, hb, hml, hown, hts⟩ (k_X9_isIn l dC dI cA s.heap.size am v_status v_now v_told v_merges v_taped v_size v_from v_to v_fault v_readFault v_traits v_length v_open v_leaks v_places v_models f_tape v_from 48 57 i_v_now i_v_told i_v_taped i_v_size i_v_from i_v_to i_v_traits i_v_length i_v_open i_v_places i_v_models i_v_from (by omega)) (cwV 3 hts gX9_atom_X9_isIn rfl rfl rfl (by decide +kernel) ⟨Nat.le_of_ble_eq_true rfl, Nat.le_of_ble_eq_true rfl⟩) ⟨fun a U g mk q => by obtain ⟨q0, q1, qP, qK, qD, qN⟩ := q; exact ⟨q0, q1, qP, va_K.moved (u := U) (U := U.calling g mk a) (Vm.Alike.refl U.vm) qK, qD, qN.same rfl⟩, va_recv hK hPc (ci := 9) (q0 := 0) rfl rfl, fun U hU hW => ⟨rfl, by rw [hU], by rw [hU]; exact hPc, va_K.moved hW.alike hK, hDc.weaken (fun _ _ _ _ => trivial), hN.warm hW⟩⟩ rfl rfl hl.1 rfl (lv_room (Nat.le_of_ble_eq_true rfl)) dX9_atom_9 ⟨Nat.le_of_ble_eq_true rfl, Nat.le_of_ble_eq_true rfl⟩) hS (fun q _ h => hFc q h) hFc (fun r_3 u_4 t H1 locs ht hvm hw_5 hB hz1 hk1 hS => ?_)
  try dsimp only at hw_5 hB
  obtain ⟨po_6, tp_7⟩ := hw_5
  try simp only [hk_1, hk_2] at po_6 tp_7
  obtain ⟨hP1, hD1⟩ := hB
  rw [ht] at hP1
  obtain ⟨hP, hD⟩ := va_join (wr := [((am 13), .inl (cA 0, 5000, .inl f_step)), ((am 14), .inl (cA 0, 5000, .inl f_stepA)), ((am 15), .inl (cA 0, 5000, .inl f_stepB)), ((am 16), .inl (cA 0, 5000, .inl f_stepC))]) (w1 := [((am 0), .inr (9, F9 am v_status v_now v_told v_merges v_taped v_size v_from v_to v_fault v_readFault v_traits v_length v_open v_leaks v_places v_models)), ((am 10), .inl (cA 3, 200, .inl f_tape))]) hP hD [0, 1] [2, 3, 4, 5] hCc rfl (by decide) (by decide) hk1 hFc hP1 hD1
  clear hz1
  generalize H1 = H at hP hS ⊢
  refine lv_if_eq (tgt := 40) hx hb dX9_atom_12 (by decide) (fun c_8 => ?_) (fun c_8 => ?_)
  · have dc_8 : r_3.toInt = 0 := jI_eq c_8 rfl (by decide)
    replace po_6 := dg_n po_6 dc_8
    refine lv_aload_n hx hb dX9_atom_40 rfl (lv_at hl 0 rfl) ?_
    refine lv_bipush (v := 40) hx hb dX9_atom_41 (by decide) ?_
    have hk_9 : (40 : Int32).toInt = 40 := by decide
    obtain ⟨hPc, hDc, hFc, hCc⟩ := va_pre (ws' := [((am 0), .inr (9, F9 am v_status v_now v_told v_merges v_taped v_size v_from v_to v_fault v_readFault v_traits v_length v_open v_leaks v_places v_models)), ((am 10), .inl (cA 3, 200, .inl f_tape))]) hP hD hS hA [4, 5] (by decide) rfl
    refine va_calli (va_runV (As := [.int 40]) (rest := []) ⟨hx, hb, hml, hown, hts⟩ (k_X9_isSign l dC dI cA H.size am v_status v_now v_told v_merges v_taped v_size v_from v_to v_fault v_readFault v_traits v_length v_open v_leaks v_places v_models f_tape 40 i_v_now i_v_told i_v_taped i_v_size i_v_from i_v_to i_v_traits i_v_length i_v_open i_v_places i_v_models (by omega)) (cwV 1 hts gX9_atom_X9_isSign rfl rfl rfl (by decide +kernel) ⟨Nat.le_of_ble_eq_true rfl, Nat.le_of_ble_eq_true rfl⟩) ⟨fun a U g mk q => by obtain ⟨q0, q1, qP, qK, qD, qN⟩ := q; exact ⟨q0, q1, qP, va_K.moved (u := U) (U := U.calling g mk a) (Vm.Alike.refl U.vm) qK, qD, qN.same rfl⟩, va_recv hK hPc (ci := 9) (q0 := 0) rfl rfl, fun U hU hW => ⟨rfl, by rw [hU], by rw [hU]; exact hPc, va_K.moved hW.alike hK, hDc.weaken (fun _ _ _ _ => trivial), hN.warm hW⟩⟩ rfl rfl hl.1 rfl (lv_room (Nat.le_of_ble_eq_true rfl)) dX9_atom_43 ⟨Nat.le_of_ble_eq_true rfl, Nat.le_of_ble_eq_true rfl⟩) hS (fun q _ h => hFc q h) hFc (fun r_10 u_11 t H1 locs ht hvm hw_12 hB hz1 hk1 hS => ?_)
    try dsimp only at hw_12 hB
    obtain ⟨po_13, tw_14⟩ := hw_12
    try simp only [hk_9] at po_13 tw_14
    obtain ⟨hP1, hD1⟩ := hB
    rw [ht] at hP1
    obtain ⟨hP, hD⟩ := va_join (wr := [((am 13), .inl (cA 0, 5000, .inl f_step)), ((am 14), .inl (cA 0, 5000, .inl f_stepA)), ((am 15), .inl (cA 0, 5000, .inl f_stepB)), ((am 16), .inl (cA 0, 5000, .inl f_stepC))]) (w1 := [((am 0), .inr (9, F9 am v_status v_now v_told v_merges v_taped v_size v_from v_to v_fault v_readFault v_traits v_length v_open v_leaks v_places v_models)), ((am 10), .inl (cA 3, 200, .inl f_tape))]) hP hD [4, 5] [0, 1, 2, 3] hCc rfl (by decide) (by decide) hk1 hFc hP1 hD1
    clear hz1
    generalize H1 = H at hP hS ⊢
    refine lv_if_eq (tgt := 56) hx hb dX9_atom_46 (by decide) (fun c_15 => ?_) (fun c_15 => ?_)
    · have dc_15 : r_10.toInt = 0 := jI_eq c_15 rfl (by decide)
      replace po_13 := sg_n po_13
      refine lv_aload_n hx hb dX9_atom_56 rfl (lv_at hl 0 rfl) ?_
      refine lv_ldc2 hx hb hown (hts (.constantLong RX9 236 (21268052)) (by decide +kernel)) dX9_atom_57 ?_
      have hk_16 : (21268052 : Int64).toInt = 21268052 := by decide
      obtain ⟨hPc, hDc, hFc, hCc⟩ := va_pre (ws' := [((am 0), .inr (9, F9 am v_status v_now v_told v_merges v_taped v_size v_from v_to v_fault v_readFault v_traits v_length v_open v_leaks v_places v_models)), ((am 10), .inl (cA 3, 200, .inl f_tape))]) hP hD hS hA [4, 5] (by decide) rfl
      refine va_calli (va_runV (As := [.long 21268052]) (rest := []) ⟨hx, hb, hml, hown, hts⟩ (k_X9_isWord l dC dI cA H.size am v_status v_now v_told v_merges v_taped v_size v_from v_to v_fault v_readFault v_traits v_length v_open v_leaks v_places v_models f_tape 21268052 i_v_now i_v_told i_v_taped i_v_size i_v_from i_v_to i_v_traits i_v_length i_v_open i_v_places i_v_models (by omega) (by omega) (by omega)) (cwV 1 hts gX9_atom_X9_isWord rfl rfl rfl (by decide +kernel) ⟨Nat.le_of_ble_eq_true rfl, Nat.le_of_ble_eq_true rfl⟩) ⟨fun a U g mk q => by obtain ⟨q0, q1, qP, qK, qD, qN⟩ := q; exact ⟨q0, q1, qP, va_K.moved (u := U) (U := U.calling g mk a) (Vm.Alike.refl U.vm) qK, qD, qN.same rfl⟩, va_recv hK hPc (ci := 9) (q0 := 0) rfl rfl, fun U hU hW => ⟨rfl, by rw [hU], by rw [hU]; exact hPc, va_K.moved hW.alike hK, hDc.weaken (fun _ _ _ _ => trivial), hN.warm hW⟩⟩ rfl rfl hl.1 rfl (lv_room (Nat.le_of_ble_eq_true rfl)) dX9_atom_60 ⟨Nat.le_of_ble_eq_true rfl, Nat.le_of_ble_eq_true rfl⟩) hS (fun q _ h => hFc q h) hFc (fun r_17 u_18 t H1 locs ht hvm hw_19 hB hz1 hk1 hS => ?_)
      try dsimp only at hw_19 hB
      obtain ⟨po_20, tw_21⟩ := hw_19
      try simp only [hk_16] at po_20 tw_21
      obtain ⟨hP1, hD1⟩ := hB
      rw [ht] at hP1
      obtain ⟨hP, hD⟩ := va_join (wr := [((am 13), .inl (cA 0, 5000, .inl f_step)), ((am 14), .inl (cA 0, 5000, .inl f_stepA)), ((am 15), .inl (cA 0, 5000, .inl f_stepB)), ((am 16), .inl (cA 0, 5000, .inl f_stepC))]) (w1 := [((am 0), .inr (9, F9 am v_status v_now v_told v_merges v_taped v_size v_from v_to v_fault v_readFault v_traits v_length v_open v_leaks v_places v_models)), ((am 10), .inl (cA 3, 200, .inl f_tape))]) hP hD [4, 5] [0, 1, 2, 3] hCc rfl (by decide) (by decide) hk1 hFc hP1 hD1
      clear hz1
      rw [twd_Trait] at tw_21
      generalize H1 = H at hP hS ⊢
      replace hP : va_P (dC, dI) vwCl [((am 13), .inl (cA 0, 5000, .inl f_step)), ((am 14), .inl (cA 0, 5000, .inl f_stepA)), ((am 15), .inl (cA 0, 5000, .inl f_stepB)), ((am 16), .inl (cA 0, 5000, .inl f_stepC)), ((am 0), .inr (9, F9 am v_status v_now v_told v_merges v_taped v_size v_from v_to v_fault v_readFault v_traits v_length v_open v_leaks v_places v_models)), ((am 10), .inl (cA 3, 200, .inl f_tape))] H := hP
      replace hD : va_D A [((am 13), .inl (cA 0, 5000, .inl f_step)), ((am 14), .inl (cA 0, 5000, .inl f_stepA)), ((am 15), .inl (cA 0, 5000, .inl f_stepB)), ((am 16), .inl (cA 0, 5000, .inl f_stepC)), ((am 0), .inr (9, F9 am v_status v_now v_told v_merges v_taped v_size v_from v_to v_fault v_readFault v_traits v_length v_open v_leaks v_places v_models)), ((am 10), .inl (cA 3, 200, .inl f_tape))] := hD
      refine lv_if_eq (tgt := 124) hx hb dX9_atom_63 (by decide) (fun c_22 => ?_) (fun c_22 => ?_)
      · have dc_22 : r_17.toInt = 0 := jI_eq c_22 rfl (by decide)
        replace po_20 := sg_n po_20
        refine lv_aload_n hx hb dX9_atom_124 rfl (lv_at hl 0 rfl) ?_
        refine lv_ldc2 hx hb hown (hts (.constantLong RX9 238 (674860)) (by decide +kernel)) dX9_atom_125 ?_
        have hk_23 : (674860 : Int64).toInt = 674860 := by decide
        obtain ⟨hPc, hDc, hFc, hCc⟩ := va_pre (ws' := [((am 0), .inr (9, F9 am v_status v_now v_told v_merges v_taped v_size v_from v_to v_fault v_readFault v_traits v_length v_open v_leaks v_places v_models)), ((am 10), .inl (cA 3, 200, .inl f_tape))]) hP hD hS hA [4, 5] (by decide) rfl
        refine va_calli (va_runV (As := [.long 674860]) (rest := []) ⟨hx, hb, hml, hown, hts⟩ (k_X9_isWord l dC dI cA H.size am v_status v_now v_told v_merges v_taped v_size v_from v_to v_fault v_readFault v_traits v_length v_open v_leaks v_places v_models f_tape 674860 i_v_now i_v_told i_v_taped i_v_size i_v_from i_v_to i_v_traits i_v_length i_v_open i_v_places i_v_models (by omega) (by omega) (by omega)) (cwV 1 hts gX9_atom_X9_isWord rfl rfl rfl (by decide +kernel) ⟨Nat.le_of_ble_eq_true rfl, Nat.le_of_ble_eq_true rfl⟩) ⟨fun a U g mk q => by obtain ⟨q0, q1, qP, qK, qD, qN⟩ := q; exact ⟨q0, q1, qP, va_K.moved (u := U) (U := U.calling g mk a) (Vm.Alike.refl U.vm) qK, qD, qN.same rfl⟩, va_recv hK hPc (ci := 9) (q0 := 0) rfl rfl, fun U hU hW => ⟨rfl, by rw [hU], by rw [hU]; exact hPc, va_K.moved hW.alike hK, hDc.weaken (fun _ _ _ _ => trivial), hN.warm hW⟩⟩ rfl rfl hl.1 rfl (lv_room (Nat.le_of_ble_eq_true rfl)) dX9_atom_128 ⟨Nat.le_of_ble_eq_true rfl, Nat.le_of_ble_eq_true rfl⟩) hS (fun q _ h => hFc q h) hFc (fun r_24 u_25 t H1 locs ht hvm hw_26 hB hz1 hk1 hS => ?_)
        try dsimp only at hw_26 hB
        obtain ⟨po_27, tw_28⟩ := hw_26
        try simp only [hk_23] at po_27 tw_28
        obtain ⟨hP1, hD1⟩ := hB
        rw [ht] at hP1
        obtain ⟨hP, hD⟩ := va_join (wr := [((am 13), .inl (cA 0, 5000, .inl f_step)), ((am 14), .inl (cA 0, 5000, .inl f_stepA)), ((am 15), .inl (cA 0, 5000, .inl f_stepB)), ((am 16), .inl (cA 0, 5000, .inl f_stepC))]) (w1 := [((am 0), .inr (9, F9 am v_status v_now v_told v_merges v_taped v_size v_from v_to v_fault v_readFault v_traits v_length v_open v_leaks v_places v_models)), ((am 10), .inl (cA 3, 200, .inl f_tape))]) hP hD [4, 5] [0, 1, 2, 3] hCc rfl (by decide) (by decide) hk1 hFc hP1 hD1
        clear hz1
        rw [twd_Last] at tw_28
        generalize H1 = H at hP hS ⊢
        replace hP : va_P (dC, dI) vwCl [((am 13), .inl (cA 0, 5000, .inl f_step)), ((am 14), .inl (cA 0, 5000, .inl f_stepA)), ((am 15), .inl (cA 0, 5000, .inl f_stepB)), ((am 16), .inl (cA 0, 5000, .inl f_stepC)), ((am 0), .inr (9, F9 am v_status v_now v_told v_merges v_taped v_size v_from v_to v_fault v_readFault v_traits v_length v_open v_leaks v_places v_models)), ((am 10), .inl (cA 3, 200, .inl f_tape))] H := hP
        replace hD : va_D A [((am 13), .inl (cA 0, 5000, .inl f_step)), ((am 14), .inl (cA 0, 5000, .inl f_stepA)), ((am 15), .inl (cA 0, 5000, .inl f_stepB)), ((am 16), .inl (cA 0, 5000, .inl f_stepC)), ((am 0), .inr (9, F9 am v_status v_now v_told v_merges v_taped v_size v_from v_to v_fault v_readFault v_traits v_length v_open v_leaks v_places v_models)), ((am 10), .inl (cA 3, 200, .inl f_tape))] := hD
        refine lv_if_ne (tgt := 144) hx hb dX9_atom_131 (by decide) (fun c_29 => ?_) (fun c_29 => ?_)
        · have dc_29 : ¬ r_24.toInt = 0 := jI_ne c_29 rfl (by decide)
          replace po_27 := sg_y po_27 dc_29
          refine lv_aload_n hx hb dX9_atom_144 rfl (lv_at hl 0 rfl) ?_
          refine lv_ldc2 hx hb hown (hts (.constantLong RX9 238 (674860)) (by decide +kernel)) dX9_atom_145 ?_
          have hk_30 : (674860 : Int64).toInt = 674860 := by decide
          obtain ⟨hPc, hDc, hFc, hCc⟩ := va_pre (ws' := [((am 0), .inr (9, F9 am v_status v_now v_told v_merges v_taped v_size v_from v_to v_fault v_readFault v_traits v_length v_open v_leaks v_places v_models)), ((am 10), .inl (cA 3, 200, .inl f_tape))]) hP hD hS hA [4, 5] (by decide) rfl
          refine va_calli (va_runV (As := [.long 674860]) (rest := []) ⟨hx, hb, hml, hown, hts⟩ (k_X9_isWord l dC dI cA H.size am v_status v_now v_told v_merges v_taped v_size v_from v_to v_fault v_readFault v_traits v_length v_open v_leaks v_places v_models f_tape 674860 i_v_now i_v_told i_v_taped i_v_size i_v_from i_v_to i_v_traits i_v_length i_v_open i_v_places i_v_models (by omega) (by omega) (by omega)) (cwV 1 hts gX9_atom_X9_isWord rfl rfl rfl (by decide +kernel) ⟨Nat.le_of_ble_eq_true rfl, Nat.le_of_ble_eq_true rfl⟩) ⟨fun a U g mk q => by obtain ⟨q0, q1, qP, qK, qD, qN⟩ := q; exact ⟨q0, q1, qP, va_K.moved (u := U) (U := U.calling g mk a) (Vm.Alike.refl U.vm) qK, qD, qN.same rfl⟩, va_recv hK hPc (ci := 9) (q0 := 0) rfl rfl, fun U hU hW => ⟨rfl, by rw [hU], by rw [hU]; exact hPc, va_K.moved hW.alike hK, hDc.weaken (fun _ _ _ _ => trivial), hN.warm hW⟩⟩ rfl rfl hl.1 rfl (lv_room (Nat.le_of_ble_eq_true rfl)) dX9_atom_148 ⟨Nat.le_of_ble_eq_true rfl, Nat.le_of_ble_eq_true rfl⟩) hS (fun q _ h => hFc q h) hFc (fun r_31 u_32 t H1 locs ht hvm hw_33 hB hz1 hk1 hS => ?_)
          try dsimp only at hw_33 hB
          obtain ⟨po_34, tw_35⟩ := hw_33
          try simp only [hk_30] at po_34 tw_35
          obtain ⟨hP1, hD1⟩ := hB
          rw [ht] at hP1
          obtain ⟨hP, hD⟩ := va_join (wr := [((am 13), .inl (cA 0, 5000, .inl f_step)), ((am 14), .inl (cA 0, 5000, .inl f_stepA)), ((am 15), .inl (cA 0, 5000, .inl f_stepB)), ((am 16), .inl (cA 0, 5000, .inl f_stepC))]) (w1 := [((am 0), .inr (9, F9 am v_status v_now v_told v_merges v_taped v_size v_from v_to v_fault v_readFault v_traits v_length v_open v_leaks v_places v_models)), ((am 10), .inl (cA 3, 200, .inl f_tape))]) hP hD [4, 5] [0, 1, 2, 3] hCc rfl (by decide) (by decide) hk1 hFc hP1 hD1
          clear hz1
          rw [twd_Last] at tw_35
          generalize H1 = H at hP hS ⊢
          replace hP : va_P (dC, dI) vwCl [((am 13), .inl (cA 0, 5000, .inl f_step)), ((am 14), .inl (cA 0, 5000, .inl f_stepA)), ((am 15), .inl (cA 0, 5000, .inl f_stepB)), ((am 16), .inl (cA 0, 5000, .inl f_stepC)), ((am 0), .inr (9, F9 am v_status v_now v_told v_merges v_taped v_size v_from v_to v_fault v_readFault v_traits v_length v_open v_leaks v_places v_models)), ((am 10), .inl (cA 3, 200, .inl f_tape))] H := hP
          replace hD : va_D A [((am 13), .inl (cA 0, 5000, .inl f_step)), ((am 14), .inl (cA 0, 5000, .inl f_stepA)), ((am 15), .inl (cA 0, 5000, .inl f_stepB)), ((am 16), .inl (cA 0, 5000, .inl f_stepC)), ((am 0), .inr (9, F9 am v_status v_now v_told v_merges v_taped v_size v_from v_to v_fault v_readFault v_traits v_length v_open v_leaks v_places v_models)), ((am 10), .inl (cA 3, 200, .inl f_tape))] := hD
          refine lv_if_eq (tgt := 159) hx hb dX9_atom_151 (by decide) (fun c_36 => ?_) (fun c_36 => ?_)
          · have dc_36 : r_31.toInt = 0 := jI_eq c_36 rfl (by decide)
            replace po_34 := sg_n po_34
            refine lv_bipush (v := 8) hx hb dX9_atom_159 (by decide) ?_
            refine lv_istore_n (lv' := [(1, .int 8), (0, .ref (am 0))]) hx hb dX9_atom_161 rfl hl (by decide) rfl (fun ls hl => ?_)
            refine lv_aload_n hx hb dX9_atom_162 rfl (lv_at hl 1 rfl) ?_
            obtain ⟨hPc, hDc, hFc, hCc⟩ := va_pre (ws' := [((am 0), .inr (9, F9 am v_status v_now v_told v_merges v_taped v_size v_from v_to v_fault v_readFault v_traits v_length v_open v_leaks v_places v_models)), ((am 10), .inl (cA 3, 200, .inl f_tape))]) hP hD hS hA [4, 5] (by decide) rfl
            refine va_callv (va_runV (As := []) (rest := []) ⟨hx, hb, hml, hown, hts⟩ (k_X9_next l dC dI cA H.size am v_status v_now v_told v_merges v_taped v_size v_from v_to v_fault v_readFault v_traits v_length v_open v_leaks v_places v_models f_tape i_v_now i_v_told i_v_taped i_v_size i_v_from i_v_to i_v_traits i_v_length i_v_open i_v_places i_v_models (by omega)) (cwV 0 hts gX9_atom_X9_next rfl rfl rfl (by decide +kernel) ⟨Nat.le_of_ble_eq_true rfl, Nat.le_of_ble_eq_true rfl⟩) ⟨fun a U g mk q => by obtain ⟨q0, q1, qP, qK, qD, qN⟩ := q; exact ⟨q0, q1, qP, va_K.moved (u := U) (U := U.calling g mk a) (Vm.Alike.refl U.vm) qK, qD, qN.same rfl⟩, va_recv hK hPc (ci := 9) (q0 := 0) rfl rfl, fun U hU hW => ⟨rfl, by rw [hU], by rw [hU]; exact hPc, va_K.moved hW.alike hK, hDc.weaken (fun _ _ _ _ => trivial), hN.warm hW⟩⟩ rfl rfl hl.1 rfl (lv_room (Nat.le_of_ble_eq_true rfl)) dX9_atom_163 ⟨Nat.le_of_ble_eq_true rfl, Nat.le_of_ble_eq_true rfl⟩) hS (fun q _ h => hFc q h) hFc (fun u_37 t H1 locs ht hvm hw_38 hB hz1 hk1 hS => ?_)
            obtain ⟨w_39, w_40⟩ := u_37
            try dsimp only at hw_38 hB
            obtain ⟨iv_41, iv_42, po_43, tk_44, ad_45⟩ := hw_38
            obtain ⟨hP1, hD1⟩ := hB
            rw [ht] at hP1
            obtain ⟨hP, hD⟩ := va_join (wr := [((am 13), .inl (cA 0, 5000, .inl f_step)), ((am 14), .inl (cA 0, 5000, .inl f_stepA)), ((am 15), .inl (cA 0, 5000, .inl f_stepB)), ((am 16), .inl (cA 0, 5000, .inl f_stepC))]) (w1 := [((am 0), .inr (9, F9 am v_status v_now v_told v_merges v_taped v_size w_39 w_40 v_fault v_readFault v_traits v_length v_open v_leaks v_places v_models)), ((am 10), .inl (cA 3, 200, .inl f_tape))]) hP hD [4, 5] [0, 1, 2, 3] hCc rfl (by decide) (by decide) hk1 hFc hP1 hD1
            clear hz1
            generalize H1 = H at hP hS ⊢
            refine lv_aload_n hx hb dX9_atom_166 rfl (lv_at hl 1 rfl) ?_
            refine lv_iconst (v := 5) hx hb dX9_atom_167 (by decide) ?_
            have hk_46 : (5 : Int32).toInt = 5 := by decide
            obtain ⟨hPc, hDc, hFc, hCc⟩ := va_pre (ws' := [((am 0), .inr (9, F9 am v_status v_now v_told v_merges v_taped v_size w_39 w_40 v_fault v_readFault v_traits v_length v_open v_leaks v_places v_models)), ((am 10), .inl (cA 3, 200, .inl f_tape))]) hP hD hS hA [4, 5] (by decide) rfl
            refine va_calli (va_runV (As := [.int 5]) (rest := []) ⟨hx, hb, hml, hown, hts⟩ (k_X9_number l dC dI cA H.size am v_status v_now v_told v_merges v_taped v_size w_39 w_40 v_fault v_readFault v_traits v_length v_open v_leaks v_places v_models f_tape 5 i_v_now i_v_told i_v_taped i_v_size iv_41 iv_42 i_v_traits i_v_length i_v_open i_v_places i_v_models (by omega) tk_44 hgd (by omega)) (cwV 1 hts gX9_atom_X9_number rfl rfl rfl (by decide +kernel) ⟨Nat.le_of_ble_eq_true rfl, Nat.le_of_ble_eq_true rfl⟩) ⟨fun a U g mk q => by obtain ⟨q0, q1, qP, qK, qD, qN⟩ := q; exact ⟨q0, q1, qP, va_K.moved (u := U) (U := U.calling g mk a) (Vm.Alike.refl U.vm) qK, qD, qN.same rfl⟩, va_recv hK hPc (ci := 9) (q0 := 0) rfl rfl, fun U hU hW => ⟨rfl, by rw [hU], by rw [hU]; exact hPc, va_K.moved hW.alike hK, hDc.weaken (fun _ _ _ _ => trivial), hN.warm hW⟩⟩ rfl rfl hl.1 rfl (lv_room (Nat.le_of_ble_eq_true rfl)) dX9_atom_168 ⟨Nat.le_of_ble_eq_true rfl, Nat.le_of_ble_eq_true rfl⟩) hS (fun q _ h => hFc q h) hFc (fun r_47 u_48 t H1 locs ht hvm hw_49 hB hz1 hk1 hS => ?_)
            obtain ⟨w_50, w_51, w_52⟩ := u_48
            try dsimp only at hw_49 hB
            obtain ⟨iv_53, iv_54, po_55, tk_56, nm_57⟩ := hw_49
            try simp only [hk_46] at po_55 tk_56 nm_57
            obtain ⟨hP1, hD1⟩ := hB
            rw [ht] at hP1
            obtain ⟨hP, hD⟩ := va_join (wr := [((am 13), .inl (cA 0, 5000, .inl f_step)), ((am 14), .inl (cA 0, 5000, .inl f_stepA)), ((am 15), .inl (cA 0, 5000, .inl f_stepB)), ((am 16), .inl (cA 0, 5000, .inl f_stepC))]) (w1 := [((am 0), .inr (9, F9 am v_status v_now v_told v_merges v_taped v_size w_50 w_51 v_fault w_52 v_traits v_length v_open v_leaks v_places v_models)), ((am 10), .inl (cA 3, 200, .inl f_tape))]) hP hD [4, 5] [0, 1, 2, 3] hCc rfl (by decide) (by decide) hk1 hFc hP1 hD1
            clear hz1
            generalize H1 = H at hP hS ⊢
            refine lv_istore_n (lv' := [(2, .int r_47), (1, .int 8), (0, .ref (am 0))]) hx hb dX9_atom_171 rfl hl (by decide) rfl (fun ls hl => ?_)
            refine lv_aload_n hx hb dX9_atom_172 rfl (lv_at hl 2 rfl) ?_
            obtain ⟨hPc, hDc, hFc, hCc⟩ := va_pre (ws' := [((am 0), .inr (9, F9 am v_status v_now v_told v_merges v_taped v_size w_50 w_51 v_fault w_52 v_traits v_length v_open v_leaks v_places v_models))]) hP hD hS hA [4] (by decide) rfl
            refine va_calli (va_runV (As := []) (rest := []) ⟨hx, hb, hml, hown, hts⟩ (k_X9_good l dC dI cA H.size am v_status v_now v_told v_merges v_taped v_size w_50 w_51 v_fault w_52 v_traits v_length v_open v_leaks v_places v_models i_v_now i_v_told i_v_taped i_v_size iv_53 iv_54 i_v_traits i_v_length i_v_open i_v_places i_v_models) (cwV 0 hts gX9_atom_X9_good rfl rfl rfl (by decide +kernel) ⟨Nat.le_of_ble_eq_true rfl, Nat.le_of_ble_eq_true rfl⟩) ⟨fun a U g mk q => by obtain ⟨q0, q1, qP, qK, qD, qN⟩ := q; exact ⟨q0, q1, qP, va_K.moved (u := U) (U := U.calling g mk a) (Vm.Alike.refl U.vm) qK, qD, qN.same rfl⟩, va_recv hK hPc (ci := 9) (q0 := 0) rfl rfl, fun U hU hW => ⟨rfl, by rw [hU], by rw [hU]; exact hPc, va_K.moved hW.alike hK, hDc.weaken (fun _ _ _ _ => trivial), hN.warm hW⟩⟩ rfl rfl hl.1 rfl (lv_room (Nat.le_of_ble_eq_true rfl)) dX9_atom_173 ⟨Nat.le_of_ble_eq_true rfl, Nat.le_of_ble_eq_true rfl⟩) hS (fun q _ h => hFc q h) hFc (fun r_58 u_59 t H1 locs ht hvm hw_60 hB hz1 hk1 hS => ?_)
            try dsimp only at hw_60 hB
            have po_61 := hw_60
            clear hw_60
            obtain ⟨hP1, hD1⟩ := hB
            rw [ht] at hP1
            obtain ⟨hP, hD⟩ := va_join (wr := [((am 13), .inl (cA 0, 5000, .inl f_step)), ((am 14), .inl (cA 0, 5000, .inl f_stepA)), ((am 15), .inl (cA 0, 5000, .inl f_stepB)), ((am 16), .inl (cA 0, 5000, .inl f_stepC)), ((am 10), .inl (cA 3, 200, .inl f_tape))]) (w1 := [((am 0), .inr (9, F9 am v_status v_now v_told v_merges v_taped v_size w_50 w_51 v_fault w_52 v_traits v_length v_open v_leaks v_places v_models))]) hP hD [4] [0, 1, 2, 3, 5] hCc rfl (by decide) (by decide) hk1 hFc hP1 hD1
            clear hz1
            generalize H1 = H at hP hS ⊢
            refine lv_if_eq (tgt := 187) hx hb dX9_atom_176 (by decide) (fun c_62 => ?_) (fun c_62 => ?_)
            · have dc_62 : r_58.toInt = 0 := jI_eq c_62 rfl (by decide)
              replace po_61 := gd_n po_61 dc_62
              replace po_55 := im5_n po_55
              refine lv_goto (tgt := 269) hx hb dX9_atom_187 (by decide) ?_
              obtain ⟨hP9, hD9⟩ := va_pd (ws' := [((am 0), .inr (9, F9 am v_status v_now v_told v_merges v_taped v_size w_50 w_51 v_fault w_52 v_traits v_length v_open v_leaks v_places v_models)), ((am 10), .inl (cA 3, 200, .inl f_tape)), ((am 13), .inl (cA 0, 5000, .inl f_step)), ((am 14), .inl (cA 0, 5000, .inl f_stepA)), ((am 15), .inl (cA 0, 5000, .inl f_stepB)), ((am 16), .inl (cA 0, 5000, .inl f_stepC))]) hP hD [5, 4, 0, 1, 2, 3] (by decide) rfl
              subst hQe
              have hpost : (0 ≤ w_50.toInt ∧ w_50.toInt ≤ 200) ∧ (0 ≤ w_51.toInt ∧ w_51.toInt ≤ 200) ∧ (0 ≤ v_length.toInt ∧ v_length.toInt ≤ 200) ∧ (0 ≤ v_open.toInt ∧ v_open.toInt ≤ 8) ∧ (v_from.toInt ≤ w_50.toInt ∧ w_50.toInt ≤ w_51.toInt ∧ w_51.toInt ≤ v_size.toInt ∧ (w_50.toInt < v_size.toInt → w_50.toInt < w_51.toInt) ∧ v_length.toInt - v_length.toInt ≤ w_50.toInt - v_from.toInt ∧ v_length.toInt ≤ v_length.toInt ∧ (w_52.toInt = (-1) → v_open.toInt = v_open.toInt)) ∧ (tokOK f_tape w_50 w_51 v_size) ∧ (prg f_step f_stepA f_step f_stepA (250 * v_traits.toInt.toNat) v_length.toInt.toNat v_length.toInt.toNat (w_52.toInt = (-1))) ∧ (rs w_52 w_50 w_51 v_leaks (orb f_step f_stepA (250 * v_traits.toInt.toNat) v_length.toInt.toNat) = patom (tpe f_tape v_size) v_size.toInt v_traits.toInt (pB (tpe f_tape v_size) v_size.toInt v_traits.toInt (8 - v_open.toInt).toNat) v_from.toInt v_to.toInt v_leaks.toInt (orb f_step f_stepA (250 * v_traits.toInt.toNat) v_length.toInt.toNat)) := ⟨iv_53, iv_54, i_v_length, i_v_open, by omega, tk_56, prg_rf hwp (by omega), (by have k9 : pkind (tpe f_tape v_size) v_from.toInt v_to.toInt = 2 := (by unfold pkind; rw [if_neg (fun h => absurd (tw_21.mpr h) (fun q => q dc_22)), if_pos (tw_28.mp dc_29)]); rw [patom, if_neg (fun h => absurd (tp_7.mpr h) (fun q => q dc_8)), if_neg (fun h => absurd (tw_14.mpr h) (fun q => q dc_15)), if_neg (show ¬ pkind (tpe f_tape v_size) v_from.toInt v_to.toInt = (-1) by omega), if_neg (show ¬ pkind (tpe f_tape v_size) v_from.toInt v_to.toInt = 1 by omega), if_pos (show pkind (tpe f_tape v_size) v_from.toInt v_to.toInt = 2 ∨ pkind (tpe f_tape v_size) v_from.toInt v_to.toInt = 3 by omega), ← ad_45.2, ← ad_45.1, nm_no nm_57 (by omega)]; exact rs_inl (by omega) (by omega))⟩
              exact W.vret hx hb hr (fun t ht hW => ⟨⟨(w_50, w_51, w_52, v_length, v_open, v_leaks, f_step, f_stepA, f_stepB, f_stepC), rfl, hpost, by rw [ht]; exact hP9, hD9⟩, hS.F ht⟩) hS.2.2 dX9_atom_269
            · have dc_62 : ¬ r_58.toInt = 0 := jI_ne c_62 rfl (by decide)
              replace po_61 := gd_y po_61 dc_62
              replace po_55 := im5_y po_55 po_61
              refine lv_aload_n hx hb dX9_atom_179 rfl (lv_at hl 2 rfl) ?_
              refine lv_iload_n hx hb dX9_atom_180 rfl (lv_at hl 1 rfl) ?_
              refine lv_iload_n hx hb dX9_atom_181 rfl (lv_at hl 0 rfl) ?_
              refine lv_iconst (v := 0) hx hb dX9_atom_182 (by decide) ?_
              refine lv_iconst (v := 0) hx hb dX9_atom_183 (by decide) ?_
              have hk_63 : (8 : Int32).toInt = 8 := by decide
              have hk_64 : (0 : Int32).toInt = 0 := by decide
              obtain ⟨hPc, hDc, hFc, hCc⟩ := va_pre (ws' := [((am 0), .inr (9, F9 am v_status v_now v_told v_merges v_taped v_size w_50 w_51 v_fault w_52 v_traits v_length v_open v_leaks v_places v_models)), ((am 13), .inl (cA 0, 5000, .inl f_step)), ((am 14), .inl (cA 0, 5000, .inl f_stepA)), ((am 15), .inl (cA 0, 5000, .inl f_stepB)), ((am 16), .inl (cA 0, 5000, .inl f_stepC))]) hP hD hS hA [5, 0, 1, 2, 3] (by decide) rfl
              refine va_callv (va_runV (As := [.int 8, .int r_47, .int 0, .int 0]) (rest := []) ⟨hx, hb, hml, hown, hts⟩ (k_X9_puts l dC dI cA H.size am v_status v_now v_told v_merges v_taped v_size w_50 w_51 v_fault w_52 v_traits v_length v_open v_leaks v_places v_models f_step f_stepA f_stepB f_stepC 8 r_47 0 0 i_v_now i_v_told i_v_taped i_v_size iv_53 iv_54 i_v_traits i_v_length i_v_open i_v_places i_v_models htr (by omega)) (cwV 4 hts gX9_atom_X9_puts rfl rfl rfl (by decide +kernel) ⟨Nat.le_of_ble_eq_true rfl, Nat.le_of_ble_eq_true rfl⟩) ⟨fun a U g mk q => by obtain ⟨q0, q1, qP, qK, qD, qN⟩ := q; exact ⟨q0, q1, qP, va_K.moved (u := U) (U := U.calling g mk a) (Vm.Alike.refl U.vm) qK, qD, qN.same rfl⟩, va_recv hK hPc (ci := 9) (q0 := 0) rfl rfl, fun U hU hW => ⟨rfl, by rw [hU], by rw [hU]; exact hPc, va_K.moved hW.alike hK, hDc.weaken (fun _ _ _ _ => trivial), hN.warm hW⟩⟩ rfl rfl hl.1 rfl (lv_room (Nat.le_of_ble_eq_true rfl)) dX9_atom_184 ⟨Nat.le_of_ble_eq_true rfl, Nat.le_of_ble_eq_true rfl⟩) hS (fun q _ h => hFc q h) hFc (fun u_65 t H1 locs ht hvm hw_66 hB hz1 hk1 hS => ?_)
              obtain ⟨w_67, w_68, w_69, w_70, w_71⟩ := u_65
              try dsimp only at hw_66 hB
              obtain ⟨iv_72, po_73, es_74, eA_75⟩ := hw_66
              try simp only [hk_63, hk_64] at po_73 es_74 eA_75
              obtain ⟨hP1, hD1⟩ := hB
              rw [ht] at hP1
              obtain ⟨hP, hD⟩ := va_join (wr := [((am 10), .inl (cA 3, 200, .inl f_tape))]) (w1 := [((am 0), .inr (9, F9 am v_status v_now v_told v_merges v_taped v_size w_50 w_51 v_fault w_52 v_traits w_67 v_open v_leaks v_places v_models)), ((am 13), .inl (cA 0, 5000, .inl w_68)), ((am 14), .inl (cA 0, 5000, .inl w_69)), ((am 15), .inl (cA 0, 5000, .inl w_70)), ((am 16), .inl (cA 0, 5000, .inl w_71))]) hP hD [5, 0, 1, 2, 3] [4] hCc rfl (by decide) (by decide) hk1 hFc hP1 hD1
              clear hz1
              generalize H1 = H at hP hS ⊢
              refine lv_goto (tgt := 269) hx hb dX9_atom_187 (by decide) ?_
              obtain ⟨hP9, hD9⟩ := va_pd (ws' := [((am 0), .inr (9, F9 am v_status v_now v_told v_merges v_taped v_size w_50 w_51 v_fault w_52 v_traits w_67 v_open v_leaks v_places v_models)), ((am 10), .inl (cA 3, 200, .inl f_tape)), ((am 13), .inl (cA 0, 5000, .inl w_68)), ((am 14), .inl (cA 0, 5000, .inl w_69)), ((am 15), .inl (cA 0, 5000, .inl w_70)), ((am 16), .inl (cA 0, 5000, .inl w_71))]) hP hD [1, 0, 2, 3, 4, 5] (by decide) rfl
              subst hQe
              have hpost : (0 ≤ w_50.toInt ∧ w_50.toInt ≤ 200) ∧ (0 ≤ w_51.toInt ∧ w_51.toInt ≤ 200) ∧ (0 ≤ w_67.toInt ∧ w_67.toInt ≤ 200) ∧ (0 ≤ v_open.toInt ∧ v_open.toInt ≤ 8) ∧ (v_from.toInt ≤ w_50.toInt ∧ w_50.toInt ≤ w_51.toInt ∧ w_51.toInt ≤ v_size.toInt ∧ (w_50.toInt < v_size.toInt → w_50.toInt < w_51.toInt) ∧ w_67.toInt - v_length.toInt ≤ w_50.toInt - v_from.toInt ∧ v_length.toInt ≤ w_67.toInt ∧ (w_52.toInt = (-1) → v_open.toInt = v_open.toInt)) ∧ (tokOK f_tape w_50 w_51 v_size) ∧ (prg f_step f_stepA w_68 w_69 (250 * v_traits.toInt.toNat) v_length.toInt.toNat w_67.toInt.toNat (w_52.toInt = (-1))) ∧ (rs w_52 w_50 w_51 v_leaks (orb w_68 w_69 (250 * v_traits.toInt.toNat) w_67.toInt.toNat) = patom (tpe f_tape v_size) v_size.toInt v_traits.toInt (pB (tpe f_tape v_size) v_size.toInt v_traits.toInt (8 - v_open.toInt).toNat) v_from.toInt v_to.toInt v_leaks.toInt (orb f_step f_stepA (250 * v_traits.toInt.toNat) v_length.toInt.toNat)) := ⟨iv_53, iv_54, iv_72, i_v_open, by omega, tk_56, prg_push hwp (by omega) (by omega) es_74 eA_75 (by omega), (by have k9 : pkind (tpe f_tape v_size) v_from.toInt v_to.toInt = 2 := (by unfold pkind; rw [if_neg (fun h => absurd (tw_21.mpr h) (fun q => q dc_22)), if_pos (tw_28.mp dc_29)]); rw [patom, if_neg (fun h => absurd (tp_7.mpr h) (fun q => q dc_8)), if_neg (fun h => absurd (tw_14.mpr h) (fun q => q dc_15)), if_neg (show ¬ pkind (tpe f_tape v_size) v_from.toInt v_to.toInt = (-1) by omega), if_neg (show ¬ pkind (tpe f_tape v_size) v_from.toInt v_to.toInt = 1 by omega), if_pos (show pkind (tpe f_tape v_size) v_from.toInt v_to.toInt = 2 ∨ pkind (tpe f_tape v_size) v_from.toInt v_to.toInt = 3 by omega), ← ad_45.2, ← ad_45.1, nm_ok nm_57 (by omega)]; exact rs_inr (by omega) (by omega) (by omega) (by omega) (orb_0 (by first | omega | decide) es_74 eA_75 (by omega)))⟩
              exact W.vret hx hb hr (fun t ht hW => ⟨⟨(w_50, w_51, w_52, w_67, v_open, v_leaks, w_68, w_69, w_70, w_71), rfl, hpost, by rw [ht]; exact hP9, hD9⟩, hS.F ht⟩) hS.2.2 dX9_atom_269
          · have dc_36 : ¬ r_31.toInt = 0 := jI_ne c_36 rfl (by decide)
            replace po_34 := sg_y po_34 dc_36
            refine lv_bipush (v := 7) hx hb dX9_atom_154 (by decide) ?_
            refine lv_goto (tgt := 161) hx hb dX9_atom_156 (by decide) ?_
            refine lv_istore_n (lv' := [(1, .int 7), (0, .ref (am 0))]) hx hb dX9_atom_161 rfl hl (by decide) rfl (fun ls hl => ?_)
            refine lv_aload_n hx hb dX9_atom_162 rfl (lv_at hl 1 rfl) ?_
            obtain ⟨hPc, hDc, hFc, hCc⟩ := va_pre (ws' := [((am 0), .inr (9, F9 am v_status v_now v_told v_merges v_taped v_size v_from v_to v_fault v_readFault v_traits v_length v_open v_leaks v_places v_models)), ((am 10), .inl (cA 3, 200, .inl f_tape))]) hP hD hS hA [4, 5] (by decide) rfl
            refine va_callv (va_runV (As := []) (rest := []) ⟨hx, hb, hml, hown, hts⟩ (k_X9_next l dC dI cA H.size am v_status v_now v_told v_merges v_taped v_size v_from v_to v_fault v_readFault v_traits v_length v_open v_leaks v_places v_models f_tape i_v_now i_v_told i_v_taped i_v_size i_v_from i_v_to i_v_traits i_v_length i_v_open i_v_places i_v_models (by omega)) (cwV 0 hts gX9_atom_X9_next rfl rfl rfl (by decide +kernel) ⟨Nat.le_of_ble_eq_true rfl, Nat.le_of_ble_eq_true rfl⟩) ⟨fun a U g mk q => by obtain ⟨q0, q1, qP, qK, qD, qN⟩ := q; exact ⟨q0, q1, qP, va_K.moved (u := U) (U := U.calling g mk a) (Vm.Alike.refl U.vm) qK, qD, qN.same rfl⟩, va_recv hK hPc (ci := 9) (q0 := 0) rfl rfl, fun U hU hW => ⟨rfl, by rw [hU], by rw [hU]; exact hPc, va_K.moved hW.alike hK, hDc.weaken (fun _ _ _ _ => trivial), hN.warm hW⟩⟩ rfl rfl hl.1 rfl (lv_room (Nat.le_of_ble_eq_true rfl)) dX9_atom_163 ⟨Nat.le_of_ble_eq_true rfl, Nat.le_of_ble_eq_true rfl⟩) hS (fun q _ h => hFc q h) hFc (fun u_76 t H1 locs ht hvm hw_77 hB hz1 hk1 hS => ?_)
            obtain ⟨w_78, w_79⟩ := u_76
            try dsimp only at hw_77 hB
            obtain ⟨iv_80, iv_81, po_82, tk_83, ad_84⟩ := hw_77
            obtain ⟨hP1, hD1⟩ := hB
            rw [ht] at hP1
            obtain ⟨hP, hD⟩ := va_join (wr := [((am 13), .inl (cA 0, 5000, .inl f_step)), ((am 14), .inl (cA 0, 5000, .inl f_stepA)), ((am 15), .inl (cA 0, 5000, .inl f_stepB)), ((am 16), .inl (cA 0, 5000, .inl f_stepC))]) (w1 := [((am 0), .inr (9, F9 am v_status v_now v_told v_merges v_taped v_size w_78 w_79 v_fault v_readFault v_traits v_length v_open v_leaks v_places v_models)), ((am 10), .inl (cA 3, 200, .inl f_tape))]) hP hD [4, 5] [0, 1, 2, 3] hCc rfl (by decide) (by decide) hk1 hFc hP1 hD1
            clear hz1
            generalize H1 = H at hP hS ⊢
            refine lv_aload_n hx hb dX9_atom_166 rfl (lv_at hl 1 rfl) ?_
            refine lv_iconst (v := 5) hx hb dX9_atom_167 (by decide) ?_
            have hk_85 : (5 : Int32).toInt = 5 := by decide
            obtain ⟨hPc, hDc, hFc, hCc⟩ := va_pre (ws' := [((am 0), .inr (9, F9 am v_status v_now v_told v_merges v_taped v_size w_78 w_79 v_fault v_readFault v_traits v_length v_open v_leaks v_places v_models)), ((am 10), .inl (cA 3, 200, .inl f_tape))]) hP hD hS hA [4, 5] (by decide) rfl
            refine va_calli (va_runV (As := [.int 5]) (rest := []) ⟨hx, hb, hml, hown, hts⟩ (k_X9_number l dC dI cA H.size am v_status v_now v_told v_merges v_taped v_size w_78 w_79 v_fault v_readFault v_traits v_length v_open v_leaks v_places v_models f_tape 5 i_v_now i_v_told i_v_taped i_v_size iv_80 iv_81 i_v_traits i_v_length i_v_open i_v_places i_v_models (by omega) tk_83 hgd (by omega)) (cwV 1 hts gX9_atom_X9_number rfl rfl rfl (by decide +kernel) ⟨Nat.le_of_ble_eq_true rfl, Nat.le_of_ble_eq_true rfl⟩) ⟨fun a U g mk q => by obtain ⟨q0, q1, qP, qK, qD, qN⟩ := q; exact ⟨q0, q1, qP, va_K.moved (u := U) (U := U.calling g mk a) (Vm.Alike.refl U.vm) qK, qD, qN.same rfl⟩, va_recv hK hPc (ci := 9) (q0 := 0) rfl rfl, fun U hU hW => ⟨rfl, by rw [hU], by rw [hU]; exact hPc, va_K.moved hW.alike hK, hDc.weaken (fun _ _ _ _ => trivial), hN.warm hW⟩⟩ rfl rfl hl.1 rfl (lv_room (Nat.le_of_ble_eq_true rfl)) dX9_atom_168 ⟨Nat.le_of_ble_eq_true rfl, Nat.le_of_ble_eq_true rfl⟩) hS (fun q _ h => hFc q h) hFc (fun r_86 u_87 t H1 locs ht hvm hw_88 hB hz1 hk1 hS => ?_)
            obtain ⟨w_89, w_90, w_91⟩ := u_87
            try dsimp only at hw_88 hB
            obtain ⟨iv_92, iv_93, po_94, tk_95, nm_96⟩ := hw_88
            try simp only [hk_85] at po_94 tk_95 nm_96
            obtain ⟨hP1, hD1⟩ := hB
            rw [ht] at hP1
            obtain ⟨hP, hD⟩ := va_join (wr := [((am 13), .inl (cA 0, 5000, .inl f_step)), ((am 14), .inl (cA 0, 5000, .inl f_stepA)), ((am 15), .inl (cA 0, 5000, .inl f_stepB)), ((am 16), .inl (cA 0, 5000, .inl f_stepC))]) (w1 := [((am 0), .inr (9, F9 am v_status v_now v_told v_merges v_taped v_size w_89 w_90 v_fault w_91 v_traits v_length v_open v_leaks v_places v_models)), ((am 10), .inl (cA 3, 200, .inl f_tape))]) hP hD [4, 5] [0, 1, 2, 3] hCc rfl (by decide) (by decide) hk1 hFc hP1 hD1
            clear hz1
            generalize H1 = H at hP hS ⊢
            refine lv_istore_n (lv' := [(2, .int r_86), (1, .int 7), (0, .ref (am 0))]) hx hb dX9_atom_171 rfl hl (by decide) rfl (fun ls hl => ?_)
            refine lv_aload_n hx hb dX9_atom_172 rfl (lv_at hl 2 rfl) ?_
            obtain ⟨hPc, hDc, hFc, hCc⟩ := va_pre (ws' := [((am 0), .inr (9, F9 am v_status v_now v_told v_merges v_taped v_size w_89 w_90 v_fault w_91 v_traits v_length v_open v_leaks v_places v_models))]) hP hD hS hA [4] (by decide) rfl
            refine va_calli (va_runV (As := []) (rest := []) ⟨hx, hb, hml, hown, hts⟩ (k_X9_good l dC dI cA H.size am v_status v_now v_told v_merges v_taped v_size w_89 w_90 v_fault w_91 v_traits v_length v_open v_leaks v_places v_models i_v_now i_v_told i_v_taped i_v_size iv_92 iv_93 i_v_traits i_v_length i_v_open i_v_places i_v_models) (cwV 0 hts gX9_atom_X9_good rfl rfl rfl (by decide +kernel) ⟨Nat.le_of_ble_eq_true rfl, Nat.le_of_ble_eq_true rfl⟩) ⟨fun a U g mk q => by obtain ⟨q0, q1, qP, qK, qD, qN⟩ := q; exact ⟨q0, q1, qP, va_K.moved (u := U) (U := U.calling g mk a) (Vm.Alike.refl U.vm) qK, qD, qN.same rfl⟩, va_recv hK hPc (ci := 9) (q0 := 0) rfl rfl, fun U hU hW => ⟨rfl, by rw [hU], by rw [hU]; exact hPc, va_K.moved hW.alike hK, hDc.weaken (fun _ _ _ _ => trivial), hN.warm hW⟩⟩ rfl rfl hl.1 rfl (lv_room (Nat.le_of_ble_eq_true rfl)) dX9_atom_173 ⟨Nat.le_of_ble_eq_true rfl, Nat.le_of_ble_eq_true rfl⟩) hS (fun q _ h => hFc q h) hFc (fun r_97 u_98 t H1 locs ht hvm hw_99 hB hz1 hk1 hS => ?_)
            try dsimp only at hw_99 hB
            have po_100 := hw_99
            clear hw_99
            obtain ⟨hP1, hD1⟩ := hB
            rw [ht] at hP1
            obtain ⟨hP, hD⟩ := va_join (wr := [((am 13), .inl (cA 0, 5000, .inl f_step)), ((am 14), .inl (cA 0, 5000, .inl f_stepA)), ((am 15), .inl (cA 0, 5000, .inl f_stepB)), ((am 16), .inl (cA 0, 5000, .inl f_stepC)), ((am 10), .inl (cA 3, 200, .inl f_tape))]) (w1 := [((am 0), .inr (9, F9 am v_status v_now v_told v_merges v_taped v_size w_89 w_90 v_fault w_91 v_traits v_length v_open v_leaks v_places v_models))]) hP hD [4] [0, 1, 2, 3, 5] hCc rfl (by decide) (by decide) hk1 hFc hP1 hD1
            clear hz1
            generalize H1 = H at hP hS ⊢
            refine lv_if_eq (tgt := 187) hx hb dX9_atom_176 (by decide) (fun c_101 => ?_) (fun c_101 => ?_)
            · have dc_101 : r_97.toInt = 0 := jI_eq c_101 rfl (by decide)
              replace po_100 := gd_n po_100 dc_101
              replace po_94 := im5_n po_94
              refine lv_goto (tgt := 269) hx hb dX9_atom_187 (by decide) ?_
              obtain ⟨hP9, hD9⟩ := va_pd (ws' := [((am 0), .inr (9, F9 am v_status v_now v_told v_merges v_taped v_size w_89 w_90 v_fault w_91 v_traits v_length v_open v_leaks v_places v_models)), ((am 10), .inl (cA 3, 200, .inl f_tape)), ((am 13), .inl (cA 0, 5000, .inl f_step)), ((am 14), .inl (cA 0, 5000, .inl f_stepA)), ((am 15), .inl (cA 0, 5000, .inl f_stepB)), ((am 16), .inl (cA 0, 5000, .inl f_stepC))]) hP hD [5, 4, 0, 1, 2, 3] (by decide) rfl
              subst hQe
              have hpost : (0 ≤ w_89.toInt ∧ w_89.toInt ≤ 200) ∧ (0 ≤ w_90.toInt ∧ w_90.toInt ≤ 200) ∧ (0 ≤ v_length.toInt ∧ v_length.toInt ≤ 200) ∧ (0 ≤ v_open.toInt ∧ v_open.toInt ≤ 8) ∧ (v_from.toInt ≤ w_89.toInt ∧ w_89.toInt ≤ w_90.toInt ∧ w_90.toInt ≤ v_size.toInt ∧ (w_89.toInt < v_size.toInt → w_89.toInt < w_90.toInt) ∧ v_length.toInt - v_length.toInt ≤ w_89.toInt - v_from.toInt ∧ v_length.toInt ≤ v_length.toInt ∧ (w_91.toInt = (-1) → v_open.toInt = v_open.toInt)) ∧ (tokOK f_tape w_89 w_90 v_size) ∧ (prg f_step f_stepA f_step f_stepA (250 * v_traits.toInt.toNat) v_length.toInt.toNat v_length.toInt.toNat (w_91.toInt = (-1))) ∧ (rs w_91 w_89 w_90 v_leaks (orb f_step f_stepA (250 * v_traits.toInt.toNat) v_length.toInt.toNat) = patom (tpe f_tape v_size) v_size.toInt v_traits.toInt (pB (tpe f_tape v_size) v_size.toInt v_traits.toInt (8 - v_open.toInt).toNat) v_from.toInt v_to.toInt v_leaks.toInt (orb f_step f_stepA (250 * v_traits.toInt.toNat) v_length.toInt.toNat)) := ⟨iv_92, iv_93, i_v_length, i_v_open, by omega, tk_95, prg_rf hwp (by omega), (by have k9 : pkind (tpe f_tape v_size) v_from.toInt v_to.toInt = 2 := (by unfold pkind; rw [if_neg (fun h => absurd (tw_21.mpr h) (fun q => q dc_22)), if_pos (tw_28.mp dc_29)]); rw [patom, if_neg (fun h => absurd (tp_7.mpr h) (fun q => q dc_8)), if_neg (fun h => absurd (tw_14.mpr h) (fun q => q dc_15)), if_neg (show ¬ pkind (tpe f_tape v_size) v_from.toInt v_to.toInt = (-1) by omega), if_neg (show ¬ pkind (tpe f_tape v_size) v_from.toInt v_to.toInt = 1 by omega), if_pos (show pkind (tpe f_tape v_size) v_from.toInt v_to.toInt = 2 ∨ pkind (tpe f_tape v_size) v_from.toInt v_to.toInt = 3 by omega), ← ad_84.2, ← ad_84.1, nm_no nm_96 (by omega)]; exact rs_inl (by omega) (by omega))⟩
              exact W.vret hx hb hr (fun t ht hW => ⟨⟨(w_89, w_90, w_91, v_length, v_open, v_leaks, f_step, f_stepA, f_stepB, f_stepC), rfl, hpost, by rw [ht]; exact hP9, hD9⟩, hS.F ht⟩) hS.2.2 dX9_atom_269
            · have dc_101 : ¬ r_97.toInt = 0 := jI_ne c_101 rfl (by decide)
              replace po_100 := gd_y po_100 dc_101
              replace po_94 := im5_y po_94 po_100
              refine lv_aload_n hx hb dX9_atom_179 rfl (lv_at hl 2 rfl) ?_
              refine lv_iload_n hx hb dX9_atom_180 rfl (lv_at hl 1 rfl) ?_
              refine lv_iload_n hx hb dX9_atom_181 rfl (lv_at hl 0 rfl) ?_
              refine lv_iconst (v := 0) hx hb dX9_atom_182 (by decide) ?_
              refine lv_iconst (v := 0) hx hb dX9_atom_183 (by decide) ?_
              have hk_102 : (7 : Int32).toInt = 7 := by decide
              have hk_103 : (0 : Int32).toInt = 0 := by decide
              obtain ⟨hPc, hDc, hFc, hCc⟩ := va_pre (ws' := [((am 0), .inr (9, F9 am v_status v_now v_told v_merges v_taped v_size w_89 w_90 v_fault w_91 v_traits v_length v_open v_leaks v_places v_models)), ((am 13), .inl (cA 0, 5000, .inl f_step)), ((am 14), .inl (cA 0, 5000, .inl f_stepA)), ((am 15), .inl (cA 0, 5000, .inl f_stepB)), ((am 16), .inl (cA 0, 5000, .inl f_stepC))]) hP hD hS hA [5, 0, 1, 2, 3] (by decide) rfl
              refine va_callv (va_runV (As := [.int 7, .int r_86, .int 0, .int 0]) (rest := []) ⟨hx, hb, hml, hown, hts⟩ (k_X9_puts l dC dI cA H.size am v_status v_now v_told v_merges v_taped v_size w_89 w_90 v_fault w_91 v_traits v_length v_open v_leaks v_places v_models f_step f_stepA f_stepB f_stepC 7 r_86 0 0 i_v_now i_v_told i_v_taped i_v_size iv_92 iv_93 i_v_traits i_v_length i_v_open i_v_places i_v_models htr (by omega)) (cwV 4 hts gX9_atom_X9_puts rfl rfl rfl (by decide +kernel) ⟨Nat.le_of_ble_eq_true rfl, Nat.le_of_ble_eq_true rfl⟩) ⟨fun a U g mk q => by obtain ⟨q0, q1, qP, qK, qD, qN⟩ := q; exact ⟨q0, q1, qP, va_K.moved (u := U) (U := U.calling g mk a) (Vm.Alike.refl U.vm) qK, qD, qN.same rfl⟩, va_recv hK hPc (ci := 9) (q0 := 0) rfl rfl, fun U hU hW => ⟨rfl, by rw [hU], by rw [hU]; exact hPc, va_K.moved hW.alike hK, hDc.weaken (fun _ _ _ _ => trivial), hN.warm hW⟩⟩ rfl rfl hl.1 rfl (lv_room (Nat.le_of_ble_eq_true rfl)) dX9_atom_184 ⟨Nat.le_of_ble_eq_true rfl, Nat.le_of_ble_eq_true rfl⟩) hS (fun q _ h => hFc q h) hFc (fun u_104 t H1 locs ht hvm hw_105 hB hz1 hk1 hS => ?_)
              obtain ⟨w_106, w_107, w_108, w_109, w_110⟩ := u_104
              try dsimp only at hw_105 hB
              obtain ⟨iv_111, po_112, es_113, eA_114⟩ := hw_105
              try simp only [hk_102, hk_103] at po_112 es_113 eA_114
              obtain ⟨hP1, hD1⟩ := hB
              rw [ht] at hP1
              obtain ⟨hP, hD⟩ := va_join (wr := [((am 10), .inl (cA 3, 200, .inl f_tape))]) (w1 := [((am 0), .inr (9, F9 am v_status v_now v_told v_merges v_taped v_size w_89 w_90 v_fault w_91 v_traits w_106 v_open v_leaks v_places v_models)), ((am 13), .inl (cA 0, 5000, .inl w_107)), ((am 14), .inl (cA 0, 5000, .inl w_108)), ((am 15), .inl (cA 0, 5000, .inl w_109)), ((am 16), .inl (cA 0, 5000, .inl w_110))]) hP hD [5, 0, 1, 2, 3] [4] hCc rfl (by decide) (by decide) hk1 hFc hP1 hD1
              clear hz1
              generalize H1 = H at hP hS ⊢
              refine lv_goto (tgt := 269) hx hb dX9_atom_187 (by decide) ?_
              obtain ⟨hP9, hD9⟩ := va_pd (ws' := [((am 0), .inr (9, F9 am v_status v_now v_told v_merges v_taped v_size w_89 w_90 v_fault w_91 v_traits w_106 v_open v_leaks v_places v_models)), ((am 10), .inl (cA 3, 200, .inl f_tape)), ((am 13), .inl (cA 0, 5000, .inl w_107)), ((am 14), .inl (cA 0, 5000, .inl w_108)), ((am 15), .inl (cA 0, 5000, .inl w_109)), ((am 16), .inl (cA 0, 5000, .inl w_110))]) hP hD [1, 0, 2, 3, 4, 5] (by decide) rfl
              subst hQe
              have hpost : (0 ≤ w_89.toInt ∧ w_89.toInt ≤ 200) ∧ (0 ≤ w_90.toInt ∧ w_90.toInt ≤ 200) ∧ (0 ≤ w_106.toInt ∧ w_106.toInt ≤ 200) ∧ (0 ≤ v_open.toInt ∧ v_open.toInt ≤ 8) ∧ (v_from.toInt ≤ w_89.toInt ∧ w_89.toInt ≤ w_90.toInt ∧ w_90.toInt ≤ v_size.toInt ∧ (w_89.toInt < v_size.toInt → w_89.toInt < w_90.toInt) ∧ w_106.toInt - v_length.toInt ≤ w_89.toInt - v_from.toInt ∧ v_length.toInt ≤ w_106.toInt ∧ (w_91.toInt = (-1) → v_open.toInt = v_open.toInt)) ∧ (tokOK f_tape w_89 w_90 v_size) ∧ (prg f_step f_stepA w_107 w_108 (250 * v_traits.toInt.toNat) v_length.toInt.toNat w_106.toInt.toNat (w_91.toInt = (-1))) ∧ (rs w_91 w_89 w_90 v_leaks (orb w_107 w_108 (250 * v_traits.toInt.toNat) w_106.toInt.toNat) = patom (tpe f_tape v_size) v_size.toInt v_traits.toInt (pB (tpe f_tape v_size) v_size.toInt v_traits.toInt (8 - v_open.toInt).toNat) v_from.toInt v_to.toInt v_leaks.toInt (orb f_step f_stepA (250 * v_traits.toInt.toNat) v_length.toInt.toNat)) := ⟨iv_92, iv_93, iv_111, i_v_open, by omega, tk_95, prg_push hwp (by omega) (by omega) es_113 eA_114 (by omega), (by have k9 : pkind (tpe f_tape v_size) v_from.toInt v_to.toInt = 2 := (by unfold pkind; rw [if_neg (fun h => absurd (tw_21.mpr h) (fun q => q dc_22)), if_pos (tw_28.mp dc_29)]); rw [patom, if_neg (fun h => absurd (tp_7.mpr h) (fun q => q dc_8)), if_neg (fun h => absurd (tw_14.mpr h) (fun q => q dc_15)), if_neg (show ¬ pkind (tpe f_tape v_size) v_from.toInt v_to.toInt = (-1) by omega), if_neg (show ¬ pkind (tpe f_tape v_size) v_from.toInt v_to.toInt = 1 by omega), if_pos (show pkind (tpe f_tape v_size) v_from.toInt v_to.toInt = 2 ∨ pkind (tpe f_tape v_size) v_from.toInt v_to.toInt = 3 by omega), ← ad_84.2, ← ad_84.1, nm_ok nm_96 (by omega)]; exact rs_inr (by omega) (by omega) (by omega) (by omega) (orb_0 (by first | omega | decide) es_113 eA_114 (by omega)))⟩
              exact W.vret hx hb hr (fun t ht hW => ⟨⟨(w_89, w_90, w_91, w_106, v_open, v_leaks, w_107, w_108, w_109, w_110), rfl, hpost, by rw [ht]; exact hP9, hD9⟩, hS.F ht⟩) hS.2.2 dX9_atom_269
        · have dc_29 : r_24.toInt = 0 := jI_eq c_29 rfl (by decide)
          replace po_27 := sg_n po_27
          refine lv_aload_n hx hb dX9_atom_134 rfl (lv_at hl 0 rfl) ?_
          refine lv_ldc2 hx hb hown (hts (.constantLong RX9 240 (5345)) (by decide +kernel)) dX9_atom_135 ?_
          have hk_115 : (5345 : Int64).toInt = 5345 := by decide
          obtain ⟨hPc, hDc, hFc, hCc⟩ := va_pre (ws' := [((am 0), .inr (9, F9 am v_status v_now v_told v_merges v_taped v_size v_from v_to v_fault v_readFault v_traits v_length v_open v_leaks v_places v_models)), ((am 10), .inl (cA 3, 200, .inl f_tape))]) hP hD hS hA [4, 5] (by decide) rfl
          refine va_calli (va_runV (As := [.long 5345]) (rest := []) ⟨hx, hb, hml, hown, hts⟩ (k_X9_isWord l dC dI cA H.size am v_status v_now v_told v_merges v_taped v_size v_from v_to v_fault v_readFault v_traits v_length v_open v_leaks v_places v_models f_tape 5345 i_v_now i_v_told i_v_taped i_v_size i_v_from i_v_to i_v_traits i_v_length i_v_open i_v_places i_v_models (by omega) (by omega) (by omega)) (cwV 1 hts gX9_atom_X9_isWord rfl rfl rfl (by decide +kernel) ⟨Nat.le_of_ble_eq_true rfl, Nat.le_of_ble_eq_true rfl⟩) ⟨fun a U g mk q => by obtain ⟨q0, q1, qP, qK, qD, qN⟩ := q; exact ⟨q0, q1, qP, va_K.moved (u := U) (U := U.calling g mk a) (Vm.Alike.refl U.vm) qK, qD, qN.same rfl⟩, va_recv hK hPc (ci := 9) (q0 := 0) rfl rfl, fun U hU hW => ⟨rfl, by rw [hU], by rw [hU]; exact hPc, va_K.moved hW.alike hK, hDc.weaken (fun _ _ _ _ => trivial), hN.warm hW⟩⟩ rfl rfl hl.1 rfl (lv_room (Nat.le_of_ble_eq_true rfl)) dX9_atom_138 ⟨Nat.le_of_ble_eq_true rfl, Nat.le_of_ble_eq_true rfl⟩) hS (fun q _ h => hFc q h) hFc (fun r_116 u_117 t H1 locs ht hvm hw_118 hB hz1 hk1 hS => ?_)
          try dsimp only at hw_118 hB
          obtain ⟨po_119, tw_120⟩ := hw_118
          try simp only [hk_115] at po_119 tw_120
          obtain ⟨hP1, hD1⟩ := hB
          rw [ht] at hP1
          obtain ⟨hP, hD⟩ := va_join (wr := [((am 13), .inl (cA 0, 5000, .inl f_step)), ((am 14), .inl (cA 0, 5000, .inl f_stepA)), ((am 15), .inl (cA 0, 5000, .inl f_stepB)), ((am 16), .inl (cA 0, 5000, .inl f_stepC))]) (w1 := [((am 0), .inr (9, F9 am v_status v_now v_told v_merges v_taped v_size v_from v_to v_fault v_readFault v_traits v_length v_open v_leaks v_places v_models)), ((am 10), .inl (cA 3, 200, .inl f_tape))]) hP hD [4, 5] [0, 1, 2, 3] hCc rfl (by decide) (by decide) hk1 hFc hP1 hD1
          clear hz1
          rw [twd_Age] at tw_120
          generalize H1 = H at hP hS ⊢
          replace hP : va_P (dC, dI) vwCl [((am 13), .inl (cA 0, 5000, .inl f_step)), ((am 14), .inl (cA 0, 5000, .inl f_stepA)), ((am 15), .inl (cA 0, 5000, .inl f_stepB)), ((am 16), .inl (cA 0, 5000, .inl f_stepC)), ((am 0), .inr (9, F9 am v_status v_now v_told v_merges v_taped v_size v_from v_to v_fault v_readFault v_traits v_length v_open v_leaks v_places v_models)), ((am 10), .inl (cA 3, 200, .inl f_tape))] H := hP
          replace hD : va_D A [((am 13), .inl (cA 0, 5000, .inl f_step)), ((am 14), .inl (cA 0, 5000, .inl f_stepA)), ((am 15), .inl (cA 0, 5000, .inl f_stepB)), ((am 16), .inl (cA 0, 5000, .inl f_stepC)), ((am 0), .inr (9, F9 am v_status v_now v_told v_merges v_taped v_size v_from v_to v_fault v_readFault v_traits v_length v_open v_leaks v_places v_models)), ((am 10), .inl (cA 3, 200, .inl f_tape))] := hD
          refine lv_if_eq (tgt := 190) hx hb dX9_atom_141 (by decide) (fun c_121 => ?_) (fun c_121 => ?_)
          · have dc_121 : r_116.toInt = 0 := jI_eq c_121 rfl (by decide)
            replace po_119 := sg_n po_119
            refine lv_aload_n hx hb dX9_atom_190 rfl (lv_at hl 0 rfl) ?_
            refine lv_ldc2 hx hb hown (hts (.constantLong RX9 242 (21452259)) (by decide +kernel)) dX9_atom_191 ?_
            have hk_122 : (21452259 : Int64).toInt = 21452259 := by decide
            obtain ⟨hPc, hDc, hFc, hCc⟩ := va_pre (ws' := [((am 0), .inr (9, F9 am v_status v_now v_told v_merges v_taped v_size v_from v_to v_fault v_readFault v_traits v_length v_open v_leaks v_places v_models)), ((am 10), .inl (cA 3, 200, .inl f_tape))]) hP hD hS hA [4, 5] (by decide) rfl
            refine va_calli (va_runV (As := [.long 21452259]) (rest := []) ⟨hx, hb, hml, hown, hts⟩ (k_X9_isWord l dC dI cA H.size am v_status v_now v_told v_merges v_taped v_size v_from v_to v_fault v_readFault v_traits v_length v_open v_leaks v_places v_models f_tape 21452259 i_v_now i_v_told i_v_taped i_v_size i_v_from i_v_to i_v_traits i_v_length i_v_open i_v_places i_v_models (by omega) (by omega) (by omega)) (cwV 1 hts gX9_atom_X9_isWord rfl rfl rfl (by decide +kernel) ⟨Nat.le_of_ble_eq_true rfl, Nat.le_of_ble_eq_true rfl⟩) ⟨fun a U g mk q => by obtain ⟨q0, q1, qP, qK, qD, qN⟩ := q; exact ⟨q0, q1, qP, va_K.moved (u := U) (U := U.calling g mk a) (Vm.Alike.refl U.vm) qK, qD, qN.same rfl⟩, va_recv hK hPc (ci := 9) (q0 := 0) rfl rfl, fun U hU hW => ⟨rfl, by rw [hU], by rw [hU]; exact hPc, va_K.moved hW.alike hK, hDc.weaken (fun _ _ _ _ => trivial), hN.warm hW⟩⟩ rfl rfl hl.1 rfl (lv_room (Nat.le_of_ble_eq_true rfl)) dX9_atom_194 ⟨Nat.le_of_ble_eq_true rfl, Nat.le_of_ble_eq_true rfl⟩) hS (fun q _ h => hFc q h) hFc (fun r_123 u_124 t H1 locs ht hvm hw_125 hB hz1 hk1 hS => ?_)
            try dsimp only at hw_125 hB
            obtain ⟨po_126, tw_127⟩ := hw_125
            try simp only [hk_122] at po_126 tw_127
            obtain ⟨hP1, hD1⟩ := hB
            rw [ht] at hP1
            obtain ⟨hP, hD⟩ := va_join (wr := [((am 13), .inl (cA 0, 5000, .inl f_step)), ((am 14), .inl (cA 0, 5000, .inl f_stepA)), ((am 15), .inl (cA 0, 5000, .inl f_stepB)), ((am 16), .inl (cA 0, 5000, .inl f_stepC))]) (w1 := [((am 0), .inr (9, F9 am v_status v_now v_told v_merges v_taped v_size v_from v_to v_fault v_readFault v_traits v_length v_open v_leaks v_places v_models)), ((am 10), .inl (cA 3, 200, .inl f_tape))]) hP hD [4, 5] [0, 1, 2, 3] hCc rfl (by decide) (by decide) hk1 hFc hP1 hD1
            clear hz1
            rw [twd_Count] at tw_127
            generalize H1 = H at hP hS ⊢
            replace hP : va_P (dC, dI) vwCl [((am 13), .inl (cA 0, 5000, .inl f_step)), ((am 14), .inl (cA 0, 5000, .inl f_stepA)), ((am 15), .inl (cA 0, 5000, .inl f_stepB)), ((am 16), .inl (cA 0, 5000, .inl f_stepC)), ((am 0), .inr (9, F9 am v_status v_now v_told v_merges v_taped v_size v_from v_to v_fault v_readFault v_traits v_length v_open v_leaks v_places v_models)), ((am 10), .inl (cA 3, 200, .inl f_tape))] H := hP
            replace hD : va_D A [((am 13), .inl (cA 0, 5000, .inl f_step)), ((am 14), .inl (cA 0, 5000, .inl f_stepA)), ((am 15), .inl (cA 0, 5000, .inl f_stepB)), ((am 16), .inl (cA 0, 5000, .inl f_stepC)), ((am 0), .inr (9, F9 am v_status v_now v_told v_merges v_taped v_size v_from v_to v_fault v_readFault v_traits v_length v_open v_leaks v_places v_models)), ((am 10), .inl (cA 3, 200, .inl f_tape))] := hD
            refine lv_if_eq (tgt := 205) hx hb dX9_atom_197 (by decide) (fun c_128 => ?_) (fun c_128 => ?_)
            · have dc_128 : r_123.toInt = 0 := jI_eq c_128 rfl (by decide)
              replace po_126 := sg_n po_126
              refine lv_aload_n hx hb dX9_atom_205 rfl (lv_at hl 0 rfl) ?_
              refine lv_ldc2 hx hb hown (hts (.constantLong RX9 244 (14003)) (by decide +kernel)) dX9_atom_206 ?_
              have hk_129 : (14003 : Int64).toInt = 14003 := by decide
              obtain ⟨hPc, hDc, hFc, hCc⟩ := va_pre (ws' := [((am 0), .inr (9, F9 am v_status v_now v_told v_merges v_taped v_size v_from v_to v_fault v_readFault v_traits v_length v_open v_leaks v_places v_models)), ((am 10), .inl (cA 3, 200, .inl f_tape))]) hP hD hS hA [4, 5] (by decide) rfl
              refine va_calli (va_runV (As := [.long 14003]) (rest := []) ⟨hx, hb, hml, hown, hts⟩ (k_X9_isWord l dC dI cA H.size am v_status v_now v_told v_merges v_taped v_size v_from v_to v_fault v_readFault v_traits v_length v_open v_leaks v_places v_models f_tape 14003 i_v_now i_v_told i_v_taped i_v_size i_v_from i_v_to i_v_traits i_v_length i_v_open i_v_places i_v_models (by omega) (by omega) (by omega)) (cwV 1 hts gX9_atom_X9_isWord rfl rfl rfl (by decide +kernel) ⟨Nat.le_of_ble_eq_true rfl, Nat.le_of_ble_eq_true rfl⟩) ⟨fun a U g mk q => by obtain ⟨q0, q1, qP, qK, qD, qN⟩ := q; exact ⟨q0, q1, qP, va_K.moved (u := U) (U := U.calling g mk a) (Vm.Alike.refl U.vm) qK, qD, qN.same rfl⟩, va_recv hK hPc (ci := 9) (q0 := 0) rfl rfl, fun U hU hW => ⟨rfl, by rw [hU], by rw [hU]; exact hPc, va_K.moved hW.alike hK, hDc.weaken (fun _ _ _ _ => trivial), hN.warm hW⟩⟩ rfl rfl hl.1 rfl (lv_room (Nat.le_of_ble_eq_true rfl)) dX9_atom_209 ⟨Nat.le_of_ble_eq_true rfl, Nat.le_of_ble_eq_true rfl⟩) hS (fun q _ h => hFc q h) hFc (fun r_130 u_131 t H1 locs ht hvm hw_132 hB hz1 hk1 hS => ?_)
              try dsimp only at hw_132 hB
              obtain ⟨po_133, tw_134⟩ := hw_132
              try simp only [hk_129] at po_133 tw_134
              obtain ⟨hP1, hD1⟩ := hB
              rw [ht] at hP1
              obtain ⟨hP, hD⟩ := va_join (wr := [((am 13), .inl (cA 0, 5000, .inl f_step)), ((am 14), .inl (cA 0, 5000, .inl f_stepA)), ((am 15), .inl (cA 0, 5000, .inl f_stepB)), ((am 16), .inl (cA 0, 5000, .inl f_stepC))]) (w1 := [((am 0), .inr (9, F9 am v_status v_now v_told v_merges v_taped v_size v_from v_to v_fault v_readFault v_traits v_length v_open v_leaks v_places v_models)), ((am 10), .inl (cA 3, 200, .inl f_tape))]) hP hD [4, 5] [0, 1, 2, 3] hCc rfl (by decide) (by decide) hk1 hFc hP1 hD1
              clear hz1
              rw [twd_Sum] at tw_134
              generalize H1 = H at hP hS ⊢
              replace hP : va_P (dC, dI) vwCl [((am 13), .inl (cA 0, 5000, .inl f_step)), ((am 14), .inl (cA 0, 5000, .inl f_stepA)), ((am 15), .inl (cA 0, 5000, .inl f_stepB)), ((am 16), .inl (cA 0, 5000, .inl f_stepC)), ((am 0), .inr (9, F9 am v_status v_now v_told v_merges v_taped v_size v_from v_to v_fault v_readFault v_traits v_length v_open v_leaks v_places v_models)), ((am 10), .inl (cA 3, 200, .inl f_tape))] H := hP
              replace hD : va_D A [((am 13), .inl (cA 0, 5000, .inl f_step)), ((am 14), .inl (cA 0, 5000, .inl f_stepA)), ((am 15), .inl (cA 0, 5000, .inl f_stepB)), ((am 16), .inl (cA 0, 5000, .inl f_stepC)), ((am 0), .inr (9, F9 am v_status v_now v_told v_merges v_taped v_size v_from v_to v_fault v_readFault v_traits v_length v_open v_leaks v_places v_models)), ((am 10), .inl (cA 3, 200, .inl f_tape))] := hD
              refine lv_if_eq (tgt := 220) hx hb dX9_atom_212 (by decide) (fun c_135 => ?_) (fun c_135 => ?_)
              · have dc_135 : r_130.toInt = 0 := jI_eq c_135 rfl (by decide)
                replace po_133 := sg_n po_133
                refine lv_aload_n hx hb dX9_atom_220 rfl (lv_at hl 0 rfl) ?_
                refine lv_ldc2 hx hb hown (hts (.constantLong RX9 246 (21595308)) (by decide +kernel)) dX9_atom_221 ?_
                have hk_136 : (21595308 : Int64).toInt = 21595308 := by decide
                obtain ⟨hPc, hDc, hFc, hCc⟩ := va_pre (ws' := [((am 0), .inr (9, F9 am v_status v_now v_told v_merges v_taped v_size v_from v_to v_fault v_readFault v_traits v_length v_open v_leaks v_places v_models)), ((am 10), .inl (cA 3, 200, .inl f_tape))]) hP hD hS hA [4, 5] (by decide) rfl
                refine va_calli (va_runV (As := [.long 21595308]) (rest := []) ⟨hx, hb, hml, hown, hts⟩ (k_X9_isWord l dC dI cA H.size am v_status v_now v_told v_merges v_taped v_size v_from v_to v_fault v_readFault v_traits v_length v_open v_leaks v_places v_models f_tape 21595308 i_v_now i_v_told i_v_taped i_v_size i_v_from i_v_to i_v_traits i_v_length i_v_open i_v_places i_v_models (by omega) (by omega) (by omega)) (cwV 1 hts gX9_atom_X9_isWord rfl rfl rfl (by decide +kernel) ⟨Nat.le_of_ble_eq_true rfl, Nat.le_of_ble_eq_true rfl⟩) ⟨fun a U g mk q => by obtain ⟨q0, q1, qP, qK, qD, qN⟩ := q; exact ⟨q0, q1, qP, va_K.moved (u := U) (U := U.calling g mk a) (Vm.Alike.refl U.vm) qK, qD, qN.same rfl⟩, va_recv hK hPc (ci := 9) (q0 := 0) rfl rfl, fun U hU hW => ⟨rfl, by rw [hU], by rw [hU]; exact hPc, va_K.moved hW.alike hK, hDc.weaken (fun _ _ _ _ => trivial), hN.warm hW⟩⟩ rfl rfl hl.1 rfl (lv_room (Nat.le_of_ble_eq_true rfl)) dX9_atom_224 ⟨Nat.le_of_ble_eq_true rfl, Nat.le_of_ble_eq_true rfl⟩) hS (fun q _ h => hFc q h) hFc (fun r_137 u_138 t H1 locs ht hvm hw_139 hB hz1 hk1 hS => ?_)
                try dsimp only at hw_139 hB
                obtain ⟨po_140, tw_141⟩ := hw_139
                try simp only [hk_136] at po_140 tw_141
                obtain ⟨hP1, hD1⟩ := hB
                rw [ht] at hP1
                obtain ⟨hP, hD⟩ := va_join (wr := [((am 13), .inl (cA 0, 5000, .inl f_step)), ((am 14), .inl (cA 0, 5000, .inl f_stepA)), ((am 15), .inl (cA 0, 5000, .inl f_stepB)), ((am 16), .inl (cA 0, 5000, .inl f_stepC))]) (w1 := [((am 0), .inr (9, F9 am v_status v_now v_told v_merges v_taped v_size v_from v_to v_fault v_readFault v_traits v_length v_open v_leaks v_places v_models)), ((am 10), .inl (cA 3, 200, .inl f_tape))]) hP hD [4, 5] [0, 1, 2, 3] hCc rfl (by decide) (by decide) hk1 hFc hP1 hD1
                clear hz1
                rw [twd_Least] at tw_141
                generalize H1 = H at hP hS ⊢
                replace hP : va_P (dC, dI) vwCl [((am 13), .inl (cA 0, 5000, .inl f_step)), ((am 14), .inl (cA 0, 5000, .inl f_stepA)), ((am 15), .inl (cA 0, 5000, .inl f_stepB)), ((am 16), .inl (cA 0, 5000, .inl f_stepC)), ((am 0), .inr (9, F9 am v_status v_now v_told v_merges v_taped v_size v_from v_to v_fault v_readFault v_traits v_length v_open v_leaks v_places v_models)), ((am 10), .inl (cA 3, 200, .inl f_tape))] H := hP
                replace hD : va_D A [((am 13), .inl (cA 0, 5000, .inl f_step)), ((am 14), .inl (cA 0, 5000, .inl f_stepA)), ((am 15), .inl (cA 0, 5000, .inl f_stepB)), ((am 16), .inl (cA 0, 5000, .inl f_stepC)), ((am 0), .inr (9, F9 am v_status v_now v_told v_merges v_taped v_size v_from v_to v_fault v_readFault v_traits v_length v_open v_leaks v_places v_models)), ((am 10), .inl (cA 3, 200, .inl f_tape))] := hD
                refine lv_if_eq (tgt := 235) hx hb dX9_atom_227 (by decide) (fun c_142 => ?_) (fun c_142 => ?_)
                · have dc_142 : r_137.toInt = 0 := jI_eq c_142 rfl (by decide)
                  replace po_140 := sg_n po_140
                  refine lv_aload_n hx hb dX9_atom_235 rfl (lv_at hl 0 rfl) ?_
                  refine lv_ldc2 hx hb hown (hts (.constantLong RX9 248 (675309)) (by decide +kernel)) dX9_atom_236 ?_
                  have hk_143 : (675309 : Int64).toInt = 675309 := by decide
                  obtain ⟨hPc, hDc, hFc, hCc⟩ := va_pre (ws' := [((am 0), .inr (9, F9 am v_status v_now v_told v_merges v_taped v_size v_from v_to v_fault v_readFault v_traits v_length v_open v_leaks v_places v_models)), ((am 10), .inl (cA 3, 200, .inl f_tape))]) hP hD hS hA [4, 5] (by decide) rfl
                  refine va_calli (va_runV (As := [.long 675309]) (rest := []) ⟨hx, hb, hml, hown, hts⟩ (k_X9_isWord l dC dI cA H.size am v_status v_now v_told v_merges v_taped v_size v_from v_to v_fault v_readFault v_traits v_length v_open v_leaks v_places v_models f_tape 675309 i_v_now i_v_told i_v_taped i_v_size i_v_from i_v_to i_v_traits i_v_length i_v_open i_v_places i_v_models (by omega) (by omega) (by omega)) (cwV 1 hts gX9_atom_X9_isWord rfl rfl rfl (by decide +kernel) ⟨Nat.le_of_ble_eq_true rfl, Nat.le_of_ble_eq_true rfl⟩) ⟨fun a U g mk q => by obtain ⟨q0, q1, qP, qK, qD, qN⟩ := q; exact ⟨q0, q1, qP, va_K.moved (u := U) (U := U.calling g mk a) (Vm.Alike.refl U.vm) qK, qD, qN.same rfl⟩, va_recv hK hPc (ci := 9) (q0 := 0) rfl rfl, fun U hU hW => ⟨rfl, by rw [hU], by rw [hU]; exact hPc, va_K.moved hW.alike hK, hDc.weaken (fun _ _ _ _ => trivial), hN.warm hW⟩⟩ rfl rfl hl.1 rfl (lv_room (Nat.le_of_ble_eq_true rfl)) dX9_atom_239 ⟨Nat.le_of_ble_eq_true rfl, Nat.le_of_ble_eq_true rfl⟩) hS (fun q _ h => hFc q h) hFc (fun r_144 u_145 t H1 locs ht hvm hw_146 hB hz1 hk1 hS => ?_)
                  try dsimp only at hw_146 hB
                  obtain ⟨po_147, tw_148⟩ := hw_146
                  try simp only [hk_143] at po_147 tw_148
                  obtain ⟨hP1, hD1⟩ := hB
                  rw [ht] at hP1
                  obtain ⟨hP, hD⟩ := va_join (wr := [((am 13), .inl (cA 0, 5000, .inl f_step)), ((am 14), .inl (cA 0, 5000, .inl f_stepA)), ((am 15), .inl (cA 0, 5000, .inl f_stepB)), ((am 16), .inl (cA 0, 5000, .inl f_stepC))]) (w1 := [((am 0), .inr (9, F9 am v_status v_now v_told v_merges v_taped v_size v_from v_to v_fault v_readFault v_traits v_length v_open v_leaks v_places v_models)), ((am 10), .inl (cA 3, 200, .inl f_tape))]) hP hD [4, 5] [0, 1, 2, 3] hCc rfl (by decide) (by decide) hk1 hFc hP1 hD1
                  clear hz1
                  rw [twd_Most] at tw_148
                  generalize H1 = H at hP hS ⊢
                  replace hP : va_P (dC, dI) vwCl [((am 13), .inl (cA 0, 5000, .inl f_step)), ((am 14), .inl (cA 0, 5000, .inl f_stepA)), ((am 15), .inl (cA 0, 5000, .inl f_stepB)), ((am 16), .inl (cA 0, 5000, .inl f_stepC)), ((am 0), .inr (9, F9 am v_status v_now v_told v_merges v_taped v_size v_from v_to v_fault v_readFault v_traits v_length v_open v_leaks v_places v_models)), ((am 10), .inl (cA 3, 200, .inl f_tape))] H := hP
                  replace hD : va_D A [((am 13), .inl (cA 0, 5000, .inl f_step)), ((am 14), .inl (cA 0, 5000, .inl f_stepA)), ((am 15), .inl (cA 0, 5000, .inl f_stepB)), ((am 16), .inl (cA 0, 5000, .inl f_stepC)), ((am 0), .inr (9, F9 am v_status v_now v_told v_merges v_taped v_size v_from v_to v_fault v_readFault v_traits v_length v_open v_leaks v_places v_models)), ((am 10), .inl (cA 3, 200, .inl f_tape))] := hD
                  refine lv_if_eq (tgt := 250) hx hb dX9_atom_242 (by decide) (fun c_149 => ?_) (fun c_149 => ?_)
                  · have dc_149 : r_144.toInt = 0 := jI_eq c_149 rfl (by decide)
                    replace po_147 := sg_n po_147
                    refine lv_iconst (v := (-1)) hx hb dX9_atom_250 (by decide) ?_
                    refine lv_istore_n (lv' := [(1, .int (-1)), (0, .ref (am 0))]) hx hb dX9_atom_251 rfl hl (by decide) rfl (fun ls hl => ?_)
                    refine lv_iload_n hx hb dX9_atom_252 rfl (lv_at hl 0 rfl) ?_
                    refine lv_iconst (v := (-1)) hx hb dX9_atom_253 (by decide) ?_
                    refine lv_icmp_ne (tgt := 264) hx hb dX9_atom_254 (by decide) (fun c_150 => absurd c_150 (by decide)) (fun c_150 => ?_)
                    refine lv_aload_n hx hb dX9_atom_257 rfl (lv_at hl 1 rfl) ?_
                    obtain ⟨hPc, hDc, hFc, hCc⟩ := va_pre (ws' := [((am 0), .inr (9, F9 am v_status v_now v_told v_merges v_taped v_size v_from v_to v_fault v_readFault v_traits v_length v_open v_leaks v_places v_models))]) hP hD hS hA [4] (by decide) rfl
                    refine va_callv (va_runV (As := []) (rest := []) ⟨hx, hb, hml, hown, hts⟩ (k_X9_faults l dC dI cA H.size am v_status v_now v_told v_merges v_taped v_size v_from v_to v_fault v_readFault v_traits v_length v_open v_leaks v_places v_models i_v_now i_v_told i_v_taped i_v_size i_v_from i_v_to i_v_traits i_v_length i_v_open i_v_places i_v_models hgd) (cwV 0 hts gX9_atom_X9_faults rfl rfl rfl (by decide +kernel) ⟨Nat.le_of_ble_eq_true rfl, Nat.le_of_ble_eq_true rfl⟩) ⟨fun a U g mk q => by obtain ⟨q0, q1, qP, qK, qD, qN⟩ := q; exact ⟨q0, q1, qP, va_K.moved (u := U) (U := U.calling g mk a) (Vm.Alike.refl U.vm) qK, qD, qN.same rfl⟩, va_recv hK hPc (ci := 9) (q0 := 0) rfl rfl, fun U hU hW => ⟨rfl, by rw [hU], by rw [hU]; exact hPc, va_K.moved hW.alike hK, hDc.weaken (fun _ _ _ _ => trivial), hN.warm hW⟩⟩ rfl rfl hl.1 rfl (lv_room (Nat.le_of_ble_eq_true rfl)) dX9_atom_258 ⟨Nat.le_of_ble_eq_true rfl, Nat.le_of_ble_eq_true rfl⟩) hS (fun q _ h => hFc q h) hFc (fun u_151 t H1 locs ht hvm hw_152 hB hz1 hk1 hS => ?_)
                    obtain ⟨w_153, rfl⟩ : ∃ z, z = u_151 := ⟨_, rfl⟩
                    try dsimp only at hw_152 hB
                    have po_154 := hw_152
                    clear hw_152
                    obtain ⟨hP1, hD1⟩ := hB
                    rw [ht] at hP1
                    obtain ⟨hP, hD⟩ := va_join (wr := [((am 13), .inl (cA 0, 5000, .inl f_step)), ((am 14), .inl (cA 0, 5000, .inl f_stepA)), ((am 15), .inl (cA 0, 5000, .inl f_stepB)), ((am 16), .inl (cA 0, 5000, .inl f_stepC)), ((am 10), .inl (cA 3, 200, .inl f_tape))]) (w1 := [((am 0), .inr (9, F9 am v_status v_now v_told v_merges v_taped v_size v_from v_to v_fault w_153 v_traits v_length v_open v_leaks v_places v_models))]) hP hD [4] [0, 1, 2, 3, 5] hCc rfl (by decide) (by decide) hk1 hFc hP1 hD1
                    clear hz1
                    generalize H1 = H at hP hS ⊢
                    refine lv_goto (tgt := 269) hx hb dX9_atom_261 (by decide) ?_
                    obtain ⟨hP9, hD9⟩ := va_pd (ws' := [((am 0), .inr (9, F9 am v_status v_now v_told v_merges v_taped v_size v_from v_to v_fault w_153 v_traits v_length v_open v_leaks v_places v_models)), ((am 10), .inl (cA 3, 200, .inl f_tape)), ((am 13), .inl (cA 0, 5000, .inl f_step)), ((am 14), .inl (cA 0, 5000, .inl f_stepA)), ((am 15), .inl (cA 0, 5000, .inl f_stepB)), ((am 16), .inl (cA 0, 5000, .inl f_stepC))]) hP hD [5, 4, 0, 1, 2, 3] (by decide) rfl
                    subst hQe
                    have hpost : (0 ≤ v_from.toInt ∧ v_from.toInt ≤ 200) ∧ (0 ≤ v_to.toInt ∧ v_to.toInt ≤ 200) ∧ (0 ≤ v_length.toInt ∧ v_length.toInt ≤ 200) ∧ (0 ≤ v_open.toInt ∧ v_open.toInt ≤ 8) ∧ (v_from.toInt ≤ v_from.toInt ∧ v_from.toInt ≤ v_to.toInt ∧ v_to.toInt ≤ v_size.toInt ∧ (v_from.toInt < v_size.toInt → v_from.toInt < v_to.toInt) ∧ v_length.toInt - v_length.toInt ≤ v_from.toInt - v_from.toInt ∧ v_length.toInt ≤ v_length.toInt ∧ (w_153.toInt = (-1) → v_open.toInt = v_open.toInt)) ∧ (tokOK f_tape v_from v_to v_size) ∧ (prg f_step f_stepA f_step f_stepA (250 * v_traits.toInt.toNat) v_length.toInt.toNat v_length.toInt.toNat (w_153.toInt = (-1))) ∧ (rs w_153 v_from v_to v_leaks (orb f_step f_stepA (250 * v_traits.toInt.toNat) v_length.toInt.toNat) = patom (tpe f_tape v_size) v_size.toInt v_traits.toInt (pB (tpe f_tape v_size) v_size.toInt v_traits.toInt (8 - v_open.toInt).toNat) v_from.toInt v_to.toInt v_leaks.toInt (orb f_step f_stepA (250 * v_traits.toInt.toNat) v_length.toInt.toNat)) := ⟨i_v_from, i_v_to, i_v_length, i_v_open, by omega, htk, prg_rf hwp (by omega), (by have k9 : pkind (tpe f_tape v_size) v_from.toInt v_to.toInt = (-1) := (by unfold pkind; rw [if_neg (fun h => absurd (tw_21.mpr h) (fun q => q dc_22)), if_neg (fun h => absurd (tw_28.mpr h) (fun q => q dc_29)), if_neg (fun h => absurd (tw_120.mpr h) (fun q => q dc_121)), if_neg (fun h => absurd (tw_127.mpr h) (fun q => q dc_128)), if_neg (fun h => absurd (tw_134.mpr h) (fun q => q dc_135)), if_neg (fun h => absurd (tw_141.mpr h) (fun q => q dc_142)), if_neg (fun h => absurd (tw_148.mpr h) (fun q => q dc_149))]); rw [patom, if_neg (fun h => absurd (tp_7.mpr h) (fun q => q dc_8)), if_neg (fun h => absurd (tw_14.mpr h) (fun q => q dc_15)), if_pos k9]; exact rs_inl (by omega) (by omega))⟩
                    exact W.vret hx hb hr (fun t ht hW => ⟨⟨(v_from, v_to, w_153, v_length, v_open, v_leaks, f_step, f_stepA, f_stepB, f_stepC), rfl, hpost, by rw [ht]; exact hP9, hD9⟩, hS.F ht⟩) hS.2.2 dX9_atom_269
                  · have dc_149 : ¬ r_144.toInt = 0 := jI_ne c_149 rfl (by decide)
                    replace po_147 := sg_y po_147 dc_149
                    refine lv_bipush (v := 12) hx hb dX9_atom_245 (by decide) ?_
                    refine lv_goto (tgt := 251) hx hb dX9_atom_247 (by decide) ?_
                    refine lv_istore_n (lv' := [(1, .int 12), (0, .ref (am 0))]) hx hb dX9_atom_251 rfl hl (by decide) rfl (fun ls hl => ?_)
                    refine lv_iload_n hx hb dX9_atom_252 rfl (lv_at hl 0 rfl) ?_
                    refine lv_iconst (v := (-1)) hx hb dX9_atom_253 (by decide) ?_
                    refine lv_icmp_ne (tgt := 264) hx hb dX9_atom_254 (by decide) (fun c_155 => ?_) (fun c_155 => absurd c_155 (by decide))
                    refine lv_aload_n hx hb dX9_atom_264 rfl (lv_at hl 1 rfl) ?_
                    refine lv_iload_n hx hb dX9_atom_265 rfl (lv_at hl 0 rfl) ?_
                    have hk_156 : (12 : Int32).toInt = 12 := by decide
                    obtain ⟨hPc, hDc, hFc, hCc⟩ := va_pre (ws' := [((am 0), .inr (9, F9 am v_status v_now v_told v_merges v_taped v_size v_from v_to v_fault v_readFault v_traits v_length v_open v_leaks v_places v_models)), ((am 10), .inl (cA 3, 200, .inl f_tape)), ((am 13), .inl (cA 0, 5000, .inl f_step)), ((am 14), .inl (cA 0, 5000, .inl f_stepA)), ((am 15), .inl (cA 0, 5000, .inl f_stepB)), ((am 16), .inl (cA 0, 5000, .inl f_stepC))]) hP hD hS hA [4, 5, 0, 1, 2, 3] (by decide) rfl
                    refine va_callv (va_runV (As := [.int 12]) (rest := []) ⟨hx, hb, hml, hown, hts⟩ (k_X9_window l dC dI cA H.size am v_status v_now v_told v_merges v_taped v_size v_from v_to v_fault v_readFault v_traits v_length v_open v_leaks v_places v_models f_tape f_step f_stepA f_stepB f_stepC 12 i_v_now i_v_told i_v_taped i_v_size i_v_from i_v_to i_v_traits i_v_length i_v_open i_v_places i_v_models htr hfr htk hfl hgd hwp (by omega) (by omega)) (cwV 1 hts gX9_atom_X9_window rfl rfl rfl (by decide +kernel) ⟨Nat.le_of_ble_eq_true rfl, Nat.le_of_ble_eq_true rfl⟩) ⟨fun a U g mk q => by obtain ⟨q0, q1, qP, qK, qD, qN⟩ := q; exact ⟨q0, q1, qP, va_K.moved (u := U) (U := U.calling g mk a) (Vm.Alike.refl U.vm) qK, qD, qN.same rfl⟩, va_recv hK hPc (ci := 9) (q0 := 0) rfl rfl, fun U hU hW => ⟨rfl, by rw [hU], by rw [hU]; exact hPc, va_K.moved hW.alike hK, hDc.weaken (fun _ _ _ _ => trivial), hN.warm hW⟩⟩ rfl rfl hl.1 rfl (lv_room (Nat.le_of_ble_eq_true rfl)) dX9_atom_266 ⟨Nat.le_of_ble_eq_true rfl, Nat.le_of_ble_eq_true rfl⟩) hS (fun q _ h => hFc q h) hFc (fun u_157 t H1 locs ht hvm hw_158 hB hz1 hk1 hS => ?_)
                    obtain ⟨w_159, w_160, w_161, w_162, w_163, w_164, w_165, w_166, w_167, w_168⟩ := u_157
                    try dsimp only at hw_158 hB
                    obtain ⟨iv_169, iv_170, iv_171, iv_172, po_173, tk_174, pg_175, rs_176⟩ := hw_158
                    try simp only [hk_156] at po_173 tk_174 pg_175 rs_176
                    obtain ⟨hP1, hD1⟩ := hB
                    rw [ht] at hP1
                    obtain ⟨hP, hD⟩ := va_join (wr := []) (w1 := [((am 0), .inr (9, F9 am v_status v_now v_told v_merges v_taped v_size w_159 w_160 v_fault w_161 v_traits w_162 w_163 w_164 v_places v_models)), ((am 10), .inl (cA 3, 200, .inl f_tape)), ((am 13), .inl (cA 0, 5000, .inl w_165)), ((am 14), .inl (cA 0, 5000, .inl w_166)), ((am 15), .inl (cA 0, 5000, .inl w_167)), ((am 16), .inl (cA 0, 5000, .inl w_168))]) hP hD [4, 5, 0, 1, 2, 3] [] hCc rfl (by decide) (by decide) hk1 hFc hP1 hD1
                    clear hz1
                    generalize H1 = H at hP hS ⊢
                    obtain ⟨hP9, hD9⟩ := va_pd (ws' := [((am 0), .inr (9, F9 am v_status v_now v_told v_merges v_taped v_size w_159 w_160 v_fault w_161 v_traits w_162 w_163 w_164 v_places v_models)), ((am 10), .inl (cA 3, 200, .inl f_tape)), ((am 13), .inl (cA 0, 5000, .inl w_165)), ((am 14), .inl (cA 0, 5000, .inl w_166)), ((am 15), .inl (cA 0, 5000, .inl w_167)), ((am 16), .inl (cA 0, 5000, .inl w_168))]) hP hD [0, 1, 2, 3, 4, 5] (by decide) rfl
                    subst hQe
                    have hpost : (0 ≤ w_159.toInt ∧ w_159.toInt ≤ 200) ∧ (0 ≤ w_160.toInt ∧ w_160.toInt ≤ 200) ∧ (0 ≤ w_162.toInt ∧ w_162.toInt ≤ 200) ∧ (0 ≤ w_163.toInt ∧ w_163.toInt ≤ 8) ∧ (v_from.toInt ≤ w_159.toInt ∧ w_159.toInt ≤ w_160.toInt ∧ w_160.toInt ≤ v_size.toInt ∧ (w_159.toInt < v_size.toInt → w_159.toInt < w_160.toInt) ∧ w_162.toInt - v_length.toInt ≤ w_159.toInt - v_from.toInt ∧ v_length.toInt ≤ w_162.toInt ∧ (w_161.toInt = (-1) → w_163.toInt = v_open.toInt)) ∧ (tokOK f_tape w_159 w_160 v_size) ∧ (prg f_step f_stepA w_165 w_166 (250 * v_traits.toInt.toNat) v_length.toInt.toNat w_162.toInt.toNat (w_161.toInt = (-1))) ∧ (rs w_161 w_159 w_160 w_164 (orb w_165 w_166 (250 * v_traits.toInt.toNat) w_162.toInt.toNat) = patom (tpe f_tape v_size) v_size.toInt v_traits.toInt (pB (tpe f_tape v_size) v_size.toInt v_traits.toInt (8 - v_open.toInt).toNat) v_from.toInt v_to.toInt v_leaks.toInt (orb f_step f_stepA (250 * v_traits.toInt.toNat) v_length.toInt.toNat)) := ⟨iv_169, iv_170, iv_171, iv_172, by omega, tk_174, pg_175, (by have k9 : pkind (tpe f_tape v_size) v_from.toInt v_to.toInt = 7 := (by unfold pkind; rw [if_neg (fun h => absurd (tw_21.mpr h) (fun q => q dc_22)), if_neg (fun h => absurd (tw_28.mpr h) (fun q => q dc_29)), if_neg (fun h => absurd (tw_120.mpr h) (fun q => q dc_121)), if_neg (fun h => absurd (tw_127.mpr h) (fun q => q dc_128)), if_neg (fun h => absurd (tw_134.mpr h) (fun q => q dc_135)), if_neg (fun h => absurd (tw_141.mpr h) (fun q => q dc_142)), if_pos (tw_148.mp dc_149)]); rw [patom, if_neg (fun h => absurd (tp_7.mpr h) (fun q => q dc_8)), if_neg (fun h => absurd (tw_14.mpr h) (fun q => q dc_15)), if_neg (show ¬ pkind (tpe f_tape v_size) v_from.toInt v_to.toInt = (-1) by omega), if_neg (show ¬ pkind (tpe f_tape v_size) v_from.toInt v_to.toInt = 1 by omega), if_neg (show ¬ (pkind (tpe f_tape v_size) v_from.toInt v_to.toInt = 2 ∨ pkind (tpe f_tape v_size) v_from.toInt v_to.toInt = 3) by omega)]; exact rs_176)⟩
                    exact W.vret hx hb hr (fun t ht hW => ⟨⟨(w_159, w_160, w_161, w_162, w_163, w_164, w_165, w_166, w_167, w_168), rfl, hpost, by rw [ht]; exact hP9, hD9⟩, hS.F ht⟩) hS.2.2 dX9_atom_269
                · have dc_142 : ¬ r_137.toInt = 0 := jI_ne c_142 rfl (by decide)
                  replace po_140 := sg_y po_140 dc_142
                  refine lv_bipush (v := 11) hx hb dX9_atom_230 (by decide) ?_
                  refine lv_goto (tgt := 251) hx hb dX9_atom_232 (by decide) ?_
                  refine lv_istore_n (lv' := [(1, .int 11), (0, .ref (am 0))]) hx hb dX9_atom_251 rfl hl (by decide) rfl (fun ls hl => ?_)
                  refine lv_iload_n hx hb dX9_atom_252 rfl (lv_at hl 0 rfl) ?_
                  refine lv_iconst (v := (-1)) hx hb dX9_atom_253 (by decide) ?_
                  refine lv_icmp_ne (tgt := 264) hx hb dX9_atom_254 (by decide) (fun c_177 => ?_) (fun c_177 => absurd c_177 (by decide))
                  refine lv_aload_n hx hb dX9_atom_264 rfl (lv_at hl 1 rfl) ?_
                  refine lv_iload_n hx hb dX9_atom_265 rfl (lv_at hl 0 rfl) ?_
                  have hk_178 : (11 : Int32).toInt = 11 := by decide
                  obtain ⟨hPc, hDc, hFc, hCc⟩ := va_pre (ws' := [((am 0), .inr (9, F9 am v_status v_now v_told v_merges v_taped v_size v_from v_to v_fault v_readFault v_traits v_length v_open v_leaks v_places v_models)), ((am 10), .inl (cA 3, 200, .inl f_tape)), ((am 13), .inl (cA 0, 5000, .inl f_step)), ((am 14), .inl (cA 0, 5000, .inl f_stepA)), ((am 15), .inl (cA 0, 5000, .inl f_stepB)), ((am 16), .inl (cA 0, 5000, .inl f_stepC))]) hP hD hS hA [4, 5, 0, 1, 2, 3] (by decide) rfl
                  refine va_callv (va_runV (As := [.int 11]) (rest := []) ⟨hx, hb, hml, hown, hts⟩ (k_X9_window l dC dI cA H.size am v_status v_now v_told v_merges v_taped v_size v_from v_to v_fault v_readFault v_traits v_length v_open v_leaks v_places v_models f_tape f_step f_stepA f_stepB f_stepC 11 i_v_now i_v_told i_v_taped i_v_size i_v_from i_v_to i_v_traits i_v_length i_v_open i_v_places i_v_models htr hfr htk hfl hgd hwp (by omega) (by omega)) (cwV 1 hts gX9_atom_X9_window rfl rfl rfl (by decide +kernel) ⟨Nat.le_of_ble_eq_true rfl, Nat.le_of_ble_eq_true rfl⟩) ⟨fun a U g mk q => by obtain ⟨q0, q1, qP, qK, qD, qN⟩ := q; exact ⟨q0, q1, qP, va_K.moved (u := U) (U := U.calling g mk a) (Vm.Alike.refl U.vm) qK, qD, qN.same rfl⟩, va_recv hK hPc (ci := 9) (q0 := 0) rfl rfl, fun U hU hW => ⟨rfl, by rw [hU], by rw [hU]; exact hPc, va_K.moved hW.alike hK, hDc.weaken (fun _ _ _ _ => trivial), hN.warm hW⟩⟩ rfl rfl hl.1 rfl (lv_room (Nat.le_of_ble_eq_true rfl)) dX9_atom_266 ⟨Nat.le_of_ble_eq_true rfl, Nat.le_of_ble_eq_true rfl⟩) hS (fun q _ h => hFc q h) hFc (fun u_179 t H1 locs ht hvm hw_180 hB hz1 hk1 hS => ?_)
                  obtain ⟨w_181, w_182, w_183, w_184, w_185, w_186, w_187, w_188, w_189, w_190⟩ := u_179
                  try dsimp only at hw_180 hB
                  obtain ⟨iv_191, iv_192, iv_193, iv_194, po_195, tk_196, pg_197, rs_198⟩ := hw_180
                  try simp only [hk_178] at po_195 tk_196 pg_197 rs_198
                  obtain ⟨hP1, hD1⟩ := hB
                  rw [ht] at hP1
                  obtain ⟨hP, hD⟩ := va_join (wr := []) (w1 := [((am 0), .inr (9, F9 am v_status v_now v_told v_merges v_taped v_size w_181 w_182 v_fault w_183 v_traits w_184 w_185 w_186 v_places v_models)), ((am 10), .inl (cA 3, 200, .inl f_tape)), ((am 13), .inl (cA 0, 5000, .inl w_187)), ((am 14), .inl (cA 0, 5000, .inl w_188)), ((am 15), .inl (cA 0, 5000, .inl w_189)), ((am 16), .inl (cA 0, 5000, .inl w_190))]) hP hD [4, 5, 0, 1, 2, 3] [] hCc rfl (by decide) (by decide) hk1 hFc hP1 hD1
                  clear hz1
                  generalize H1 = H at hP hS ⊢
                  obtain ⟨hP9, hD9⟩ := va_pd (ws' := [((am 0), .inr (9, F9 am v_status v_now v_told v_merges v_taped v_size w_181 w_182 v_fault w_183 v_traits w_184 w_185 w_186 v_places v_models)), ((am 10), .inl (cA 3, 200, .inl f_tape)), ((am 13), .inl (cA 0, 5000, .inl w_187)), ((am 14), .inl (cA 0, 5000, .inl w_188)), ((am 15), .inl (cA 0, 5000, .inl w_189)), ((am 16), .inl (cA 0, 5000, .inl w_190))]) hP hD [0, 1, 2, 3, 4, 5] (by decide) rfl
                  subst hQe
                  have hpost : (0 ≤ w_181.toInt ∧ w_181.toInt ≤ 200) ∧ (0 ≤ w_182.toInt ∧ w_182.toInt ≤ 200) ∧ (0 ≤ w_184.toInt ∧ w_184.toInt ≤ 200) ∧ (0 ≤ w_185.toInt ∧ w_185.toInt ≤ 8) ∧ (v_from.toInt ≤ w_181.toInt ∧ w_181.toInt ≤ w_182.toInt ∧ w_182.toInt ≤ v_size.toInt ∧ (w_181.toInt < v_size.toInt → w_181.toInt < w_182.toInt) ∧ w_184.toInt - v_length.toInt ≤ w_181.toInt - v_from.toInt ∧ v_length.toInt ≤ w_184.toInt ∧ (w_183.toInt = (-1) → w_185.toInt = v_open.toInt)) ∧ (tokOK f_tape w_181 w_182 v_size) ∧ (prg f_step f_stepA w_187 w_188 (250 * v_traits.toInt.toNat) v_length.toInt.toNat w_184.toInt.toNat (w_183.toInt = (-1))) ∧ (rs w_183 w_181 w_182 w_186 (orb w_187 w_188 (250 * v_traits.toInt.toNat) w_184.toInt.toNat) = patom (tpe f_tape v_size) v_size.toInt v_traits.toInt (pB (tpe f_tape v_size) v_size.toInt v_traits.toInt (8 - v_open.toInt).toNat) v_from.toInt v_to.toInt v_leaks.toInt (orb f_step f_stepA (250 * v_traits.toInt.toNat) v_length.toInt.toNat)) := ⟨iv_191, iv_192, iv_193, iv_194, by omega, tk_196, pg_197, (by have k9 : pkind (tpe f_tape v_size) v_from.toInt v_to.toInt = 6 := (by unfold pkind; rw [if_neg (fun h => absurd (tw_21.mpr h) (fun q => q dc_22)), if_neg (fun h => absurd (tw_28.mpr h) (fun q => q dc_29)), if_neg (fun h => absurd (tw_120.mpr h) (fun q => q dc_121)), if_neg (fun h => absurd (tw_127.mpr h) (fun q => q dc_128)), if_neg (fun h => absurd (tw_134.mpr h) (fun q => q dc_135)), if_pos (tw_141.mp dc_142)]); rw [patom, if_neg (fun h => absurd (tp_7.mpr h) (fun q => q dc_8)), if_neg (fun h => absurd (tw_14.mpr h) (fun q => q dc_15)), if_neg (show ¬ pkind (tpe f_tape v_size) v_from.toInt v_to.toInt = (-1) by omega), if_neg (show ¬ pkind (tpe f_tape v_size) v_from.toInt v_to.toInt = 1 by omega), if_neg (show ¬ (pkind (tpe f_tape v_size) v_from.toInt v_to.toInt = 2 ∨ pkind (tpe f_tape v_size) v_from.toInt v_to.toInt = 3) by omega)]; exact rs_198)⟩
                  exact W.vret hx hb hr (fun t ht hW => ⟨⟨(w_181, w_182, w_183, w_184, w_185, w_186, w_187, w_188, w_189, w_190), rfl, hpost, by rw [ht]; exact hP9, hD9⟩, hS.F ht⟩) hS.2.2 dX9_atom_269
              · have dc_135 : ¬ r_130.toInt = 0 := jI_ne c_135 rfl (by decide)
                replace po_133 := sg_y po_133 dc_135
                refine lv_bipush (v := 10) hx hb dX9_atom_215 (by decide) ?_
                refine lv_goto (tgt := 251) hx hb dX9_atom_217 (by decide) ?_
                refine lv_istore_n (lv' := [(1, .int 10), (0, .ref (am 0))]) hx hb dX9_atom_251 rfl hl (by decide) rfl (fun ls hl => ?_)
                refine lv_iload_n hx hb dX9_atom_252 rfl (lv_at hl 0 rfl) ?_
                refine lv_iconst (v := (-1)) hx hb dX9_atom_253 (by decide) ?_
                refine lv_icmp_ne (tgt := 264) hx hb dX9_atom_254 (by decide) (fun c_199 => ?_) (fun c_199 => absurd c_199 (by decide))
                refine lv_aload_n hx hb dX9_atom_264 rfl (lv_at hl 1 rfl) ?_
                refine lv_iload_n hx hb dX9_atom_265 rfl (lv_at hl 0 rfl) ?_
                have hk_200 : (10 : Int32).toInt = 10 := by decide
                obtain ⟨hPc, hDc, hFc, hCc⟩ := va_pre (ws' := [((am 0), .inr (9, F9 am v_status v_now v_told v_merges v_taped v_size v_from v_to v_fault v_readFault v_traits v_length v_open v_leaks v_places v_models)), ((am 10), .inl (cA 3, 200, .inl f_tape)), ((am 13), .inl (cA 0, 5000, .inl f_step)), ((am 14), .inl (cA 0, 5000, .inl f_stepA)), ((am 15), .inl (cA 0, 5000, .inl f_stepB)), ((am 16), .inl (cA 0, 5000, .inl f_stepC))]) hP hD hS hA [4, 5, 0, 1, 2, 3] (by decide) rfl
                refine va_callv (va_runV (As := [.int 10]) (rest := []) ⟨hx, hb, hml, hown, hts⟩ (k_X9_window l dC dI cA H.size am v_status v_now v_told v_merges v_taped v_size v_from v_to v_fault v_readFault v_traits v_length v_open v_leaks v_places v_models f_tape f_step f_stepA f_stepB f_stepC 10 i_v_now i_v_told i_v_taped i_v_size i_v_from i_v_to i_v_traits i_v_length i_v_open i_v_places i_v_models htr hfr htk hfl hgd hwp (by omega) (by omega)) (cwV 1 hts gX9_atom_X9_window rfl rfl rfl (by decide +kernel) ⟨Nat.le_of_ble_eq_true rfl, Nat.le_of_ble_eq_true rfl⟩) ⟨fun a U g mk q => by obtain ⟨q0, q1, qP, qK, qD, qN⟩ := q; exact ⟨q0, q1, qP, va_K.moved (u := U) (U := U.calling g mk a) (Vm.Alike.refl U.vm) qK, qD, qN.same rfl⟩, va_recv hK hPc (ci := 9) (q0 := 0) rfl rfl, fun U hU hW => ⟨rfl, by rw [hU], by rw [hU]; exact hPc, va_K.moved hW.alike hK, hDc.weaken (fun _ _ _ _ => trivial), hN.warm hW⟩⟩ rfl rfl hl.1 rfl (lv_room (Nat.le_of_ble_eq_true rfl)) dX9_atom_266 ⟨Nat.le_of_ble_eq_true rfl, Nat.le_of_ble_eq_true rfl⟩) hS (fun q _ h => hFc q h) hFc (fun u_201 t H1 locs ht hvm hw_202 hB hz1 hk1 hS => ?_)
                obtain ⟨w_203, w_204, w_205, w_206, w_207, w_208, w_209, w_210, w_211, w_212⟩ := u_201
                try dsimp only at hw_202 hB
                obtain ⟨iv_213, iv_214, iv_215, iv_216, po_217, tk_218, pg_219, rs_220⟩ := hw_202
                try simp only [hk_200] at po_217 tk_218 pg_219 rs_220
                obtain ⟨hP1, hD1⟩ := hB
                rw [ht] at hP1
                obtain ⟨hP, hD⟩ := va_join (wr := []) (w1 := [((am 0), .inr (9, F9 am v_status v_now v_told v_merges v_taped v_size w_203 w_204 v_fault w_205 v_traits w_206 w_207 w_208 v_places v_models)), ((am 10), .inl (cA 3, 200, .inl f_tape)), ((am 13), .inl (cA 0, 5000, .inl w_209)), ((am 14), .inl (cA 0, 5000, .inl w_210)), ((am 15), .inl (cA 0, 5000, .inl w_211)), ((am 16), .inl (cA 0, 5000, .inl w_212))]) hP hD [4, 5, 0, 1, 2, 3] [] hCc rfl (by decide) (by decide) hk1 hFc hP1 hD1
                clear hz1
                generalize H1 = H at hP hS ⊢
                obtain ⟨hP9, hD9⟩ := va_pd (ws' := [((am 0), .inr (9, F9 am v_status v_now v_told v_merges v_taped v_size w_203 w_204 v_fault w_205 v_traits w_206 w_207 w_208 v_places v_models)), ((am 10), .inl (cA 3, 200, .inl f_tape)), ((am 13), .inl (cA 0, 5000, .inl w_209)), ((am 14), .inl (cA 0, 5000, .inl w_210)), ((am 15), .inl (cA 0, 5000, .inl w_211)), ((am 16), .inl (cA 0, 5000, .inl w_212))]) hP hD [0, 1, 2, 3, 4, 5] (by decide) rfl
                subst hQe
                have hpost : (0 ≤ w_203.toInt ∧ w_203.toInt ≤ 200) ∧ (0 ≤ w_204.toInt ∧ w_204.toInt ≤ 200) ∧ (0 ≤ w_206.toInt ∧ w_206.toInt ≤ 200) ∧ (0 ≤ w_207.toInt ∧ w_207.toInt ≤ 8) ∧ (v_from.toInt ≤ w_203.toInt ∧ w_203.toInt ≤ w_204.toInt ∧ w_204.toInt ≤ v_size.toInt ∧ (w_203.toInt < v_size.toInt → w_203.toInt < w_204.toInt) ∧ w_206.toInt - v_length.toInt ≤ w_203.toInt - v_from.toInt ∧ v_length.toInt ≤ w_206.toInt ∧ (w_205.toInt = (-1) → w_207.toInt = v_open.toInt)) ∧ (tokOK f_tape w_203 w_204 v_size) ∧ (prg f_step f_stepA w_209 w_210 (250 * v_traits.toInt.toNat) v_length.toInt.toNat w_206.toInt.toNat (w_205.toInt = (-1))) ∧ (rs w_205 w_203 w_204 w_208 (orb w_209 w_210 (250 * v_traits.toInt.toNat) w_206.toInt.toNat) = patom (tpe f_tape v_size) v_size.toInt v_traits.toInt (pB (tpe f_tape v_size) v_size.toInt v_traits.toInt (8 - v_open.toInt).toNat) v_from.toInt v_to.toInt v_leaks.toInt (orb f_step f_stepA (250 * v_traits.toInt.toNat) v_length.toInt.toNat)) := ⟨iv_213, iv_214, iv_215, iv_216, by omega, tk_218, pg_219, (by have k9 : pkind (tpe f_tape v_size) v_from.toInt v_to.toInt = 5 := (by unfold pkind; rw [if_neg (fun h => absurd (tw_21.mpr h) (fun q => q dc_22)), if_neg (fun h => absurd (tw_28.mpr h) (fun q => q dc_29)), if_neg (fun h => absurd (tw_120.mpr h) (fun q => q dc_121)), if_neg (fun h => absurd (tw_127.mpr h) (fun q => q dc_128)), if_pos (tw_134.mp dc_135)]); rw [patom, if_neg (fun h => absurd (tp_7.mpr h) (fun q => q dc_8)), if_neg (fun h => absurd (tw_14.mpr h) (fun q => q dc_15)), if_neg (show ¬ pkind (tpe f_tape v_size) v_from.toInt v_to.toInt = (-1) by omega), if_neg (show ¬ pkind (tpe f_tape v_size) v_from.toInt v_to.toInt = 1 by omega), if_neg (show ¬ (pkind (tpe f_tape v_size) v_from.toInt v_to.toInt = 2 ∨ pkind (tpe f_tape v_size) v_from.toInt v_to.toInt = 3) by omega)]; exact rs_220)⟩
                exact W.vret hx hb hr (fun t ht hW => ⟨⟨(w_203, w_204, w_205, w_206, w_207, w_208, w_209, w_210, w_211, w_212), rfl, hpost, by rw [ht]; exact hP9, hD9⟩, hS.F ht⟩) hS.2.2 dX9_atom_269
            · have dc_128 : ¬ r_123.toInt = 0 := jI_ne c_128 rfl (by decide)
              replace po_126 := sg_y po_126 dc_128
              refine lv_bipush (v := 9) hx hb dX9_atom_200 (by decide) ?_
              refine lv_goto (tgt := 251) hx hb dX9_atom_202 (by decide) ?_
              refine lv_istore_n (lv' := [(1, .int 9), (0, .ref (am 0))]) hx hb dX9_atom_251 rfl hl (by decide) rfl (fun ls hl => ?_)
              refine lv_iload_n hx hb dX9_atom_252 rfl (lv_at hl 0 rfl) ?_
              refine lv_iconst (v := (-1)) hx hb dX9_atom_253 (by decide) ?_
              refine lv_icmp_ne (tgt := 264) hx hb dX9_atom_254 (by decide) (fun c_221 => ?_) (fun c_221 => absurd c_221 (by decide))
              refine lv_aload_n hx hb dX9_atom_264 rfl (lv_at hl 1 rfl) ?_
              refine lv_iload_n hx hb dX9_atom_265 rfl (lv_at hl 0 rfl) ?_
              have hk_222 : (9 : Int32).toInt = 9 := by decide
              obtain ⟨hPc, hDc, hFc, hCc⟩ := va_pre (ws' := [((am 0), .inr (9, F9 am v_status v_now v_told v_merges v_taped v_size v_from v_to v_fault v_readFault v_traits v_length v_open v_leaks v_places v_models)), ((am 10), .inl (cA 3, 200, .inl f_tape)), ((am 13), .inl (cA 0, 5000, .inl f_step)), ((am 14), .inl (cA 0, 5000, .inl f_stepA)), ((am 15), .inl (cA 0, 5000, .inl f_stepB)), ((am 16), .inl (cA 0, 5000, .inl f_stepC))]) hP hD hS hA [4, 5, 0, 1, 2, 3] (by decide) rfl
              refine va_callv (va_runV (As := [.int 9]) (rest := []) ⟨hx, hb, hml, hown, hts⟩ (k_X9_window l dC dI cA H.size am v_status v_now v_told v_merges v_taped v_size v_from v_to v_fault v_readFault v_traits v_length v_open v_leaks v_places v_models f_tape f_step f_stepA f_stepB f_stepC 9 i_v_now i_v_told i_v_taped i_v_size i_v_from i_v_to i_v_traits i_v_length i_v_open i_v_places i_v_models htr hfr htk hfl hgd hwp (by omega) (by omega)) (cwV 1 hts gX9_atom_X9_window rfl rfl rfl (by decide +kernel) ⟨Nat.le_of_ble_eq_true rfl, Nat.le_of_ble_eq_true rfl⟩) ⟨fun a U g mk q => by obtain ⟨q0, q1, qP, qK, qD, qN⟩ := q; exact ⟨q0, q1, qP, va_K.moved (u := U) (U := U.calling g mk a) (Vm.Alike.refl U.vm) qK, qD, qN.same rfl⟩, va_recv hK hPc (ci := 9) (q0 := 0) rfl rfl, fun U hU hW => ⟨rfl, by rw [hU], by rw [hU]; exact hPc, va_K.moved hW.alike hK, hDc.weaken (fun _ _ _ _ => trivial), hN.warm hW⟩⟩ rfl rfl hl.1 rfl (lv_room (Nat.le_of_ble_eq_true rfl)) dX9_atom_266 ⟨Nat.le_of_ble_eq_true rfl, Nat.le_of_ble_eq_true rfl⟩) hS (fun q _ h => hFc q h) hFc (fun u_223 t H1 locs ht hvm hw_224 hB hz1 hk1 hS => ?_)
              obtain ⟨w_225, w_226, w_227, w_228, w_229, w_230, w_231, w_232, w_233, w_234⟩ := u_223
              try dsimp only at hw_224 hB
              obtain ⟨iv_235, iv_236, iv_237, iv_238, po_239, tk_240, pg_241, rs_242⟩ := hw_224
              try simp only [hk_222] at po_239 tk_240 pg_241 rs_242
              obtain ⟨hP1, hD1⟩ := hB
              rw [ht] at hP1
              obtain ⟨hP, hD⟩ := va_join (wr := []) (w1 := [((am 0), .inr (9, F9 am v_status v_now v_told v_merges v_taped v_size w_225 w_226 v_fault w_227 v_traits w_228 w_229 w_230 v_places v_models)), ((am 10), .inl (cA 3, 200, .inl f_tape)), ((am 13), .inl (cA 0, 5000, .inl w_231)), ((am 14), .inl (cA 0, 5000, .inl w_232)), ((am 15), .inl (cA 0, 5000, .inl w_233)), ((am 16), .inl (cA 0, 5000, .inl w_234))]) hP hD [4, 5, 0, 1, 2, 3] [] hCc rfl (by decide) (by decide) hk1 hFc hP1 hD1
              clear hz1
              generalize H1 = H at hP hS ⊢
              obtain ⟨hP9, hD9⟩ := va_pd (ws' := [((am 0), .inr (9, F9 am v_status v_now v_told v_merges v_taped v_size w_225 w_226 v_fault w_227 v_traits w_228 w_229 w_230 v_places v_models)), ((am 10), .inl (cA 3, 200, .inl f_tape)), ((am 13), .inl (cA 0, 5000, .inl w_231)), ((am 14), .inl (cA 0, 5000, .inl w_232)), ((am 15), .inl (cA 0, 5000, .inl w_233)), ((am 16), .inl (cA 0, 5000, .inl w_234))]) hP hD [0, 1, 2, 3, 4, 5] (by decide) rfl
              subst hQe
              have hpost : (0 ≤ w_225.toInt ∧ w_225.toInt ≤ 200) ∧ (0 ≤ w_226.toInt ∧ w_226.toInt ≤ 200) ∧ (0 ≤ w_228.toInt ∧ w_228.toInt ≤ 200) ∧ (0 ≤ w_229.toInt ∧ w_229.toInt ≤ 8) ∧ (v_from.toInt ≤ w_225.toInt ∧ w_225.toInt ≤ w_226.toInt ∧ w_226.toInt ≤ v_size.toInt ∧ (w_225.toInt < v_size.toInt → w_225.toInt < w_226.toInt) ∧ w_228.toInt - v_length.toInt ≤ w_225.toInt - v_from.toInt ∧ v_length.toInt ≤ w_228.toInt ∧ (w_227.toInt = (-1) → w_229.toInt = v_open.toInt)) ∧ (tokOK f_tape w_225 w_226 v_size) ∧ (prg f_step f_stepA w_231 w_232 (250 * v_traits.toInt.toNat) v_length.toInt.toNat w_228.toInt.toNat (w_227.toInt = (-1))) ∧ (rs w_227 w_225 w_226 w_230 (orb w_231 w_232 (250 * v_traits.toInt.toNat) w_228.toInt.toNat) = patom (tpe f_tape v_size) v_size.toInt v_traits.toInt (pB (tpe f_tape v_size) v_size.toInt v_traits.toInt (8 - v_open.toInt).toNat) v_from.toInt v_to.toInt v_leaks.toInt (orb f_step f_stepA (250 * v_traits.toInt.toNat) v_length.toInt.toNat)) := ⟨iv_235, iv_236, iv_237, iv_238, by omega, tk_240, pg_241, (by have k9 : pkind (tpe f_tape v_size) v_from.toInt v_to.toInt = 4 := (by unfold pkind; rw [if_neg (fun h => absurd (tw_21.mpr h) (fun q => q dc_22)), if_neg (fun h => absurd (tw_28.mpr h) (fun q => q dc_29)), if_neg (fun h => absurd (tw_120.mpr h) (fun q => q dc_121)), if_pos (tw_127.mp dc_128)]); rw [patom, if_neg (fun h => absurd (tp_7.mpr h) (fun q => q dc_8)), if_neg (fun h => absurd (tw_14.mpr h) (fun q => q dc_15)), if_neg (show ¬ pkind (tpe f_tape v_size) v_from.toInt v_to.toInt = (-1) by omega), if_neg (show ¬ pkind (tpe f_tape v_size) v_from.toInt v_to.toInt = 1 by omega), if_neg (show ¬ (pkind (tpe f_tape v_size) v_from.toInt v_to.toInt = 2 ∨ pkind (tpe f_tape v_size) v_from.toInt v_to.toInt = 3) by omega)]; exact rs_242)⟩
              exact W.vret hx hb hr (fun t ht hW => ⟨⟨(w_225, w_226, w_227, w_228, w_229, w_230, w_231, w_232, w_233, w_234), rfl, hpost, by rw [ht]; exact hP9, hD9⟩, hS.F ht⟩) hS.2.2 dX9_atom_269
          · have dc_121 : ¬ r_116.toInt = 0 := jI_ne c_121 rfl (by decide)
            replace po_119 := sg_y po_119 dc_121
            refine lv_aload_n hx hb dX9_atom_144 rfl (lv_at hl 0 rfl) ?_
            refine lv_ldc2 hx hb hown (hts (.constantLong RX9 238 (674860)) (by decide +kernel)) dX9_atom_145 ?_
            have hk_243 : (674860 : Int64).toInt = 674860 := by decide
            obtain ⟨hPc, hDc, hFc, hCc⟩ := va_pre (ws' := [((am 0), .inr (9, F9 am v_status v_now v_told v_merges v_taped v_size v_from v_to v_fault v_readFault v_traits v_length v_open v_leaks v_places v_models)), ((am 10), .inl (cA 3, 200, .inl f_tape))]) hP hD hS hA [4, 5] (by decide) rfl
            refine va_calli (va_runV (As := [.long 674860]) (rest := []) ⟨hx, hb, hml, hown, hts⟩ (k_X9_isWord l dC dI cA H.size am v_status v_now v_told v_merges v_taped v_size v_from v_to v_fault v_readFault v_traits v_length v_open v_leaks v_places v_models f_tape 674860 i_v_now i_v_told i_v_taped i_v_size i_v_from i_v_to i_v_traits i_v_length i_v_open i_v_places i_v_models (by omega) (by omega) (by omega)) (cwV 1 hts gX9_atom_X9_isWord rfl rfl rfl (by decide +kernel) ⟨Nat.le_of_ble_eq_true rfl, Nat.le_of_ble_eq_true rfl⟩) ⟨fun a U g mk q => by obtain ⟨q0, q1, qP, qK, qD, qN⟩ := q; exact ⟨q0, q1, qP, va_K.moved (u := U) (U := U.calling g mk a) (Vm.Alike.refl U.vm) qK, qD, qN.same rfl⟩, va_recv hK hPc (ci := 9) (q0 := 0) rfl rfl, fun U hU hW => ⟨rfl, by rw [hU], by rw [hU]; exact hPc, va_K.moved hW.alike hK, hDc.weaken (fun _ _ _ _ => trivial), hN.warm hW⟩⟩ rfl rfl hl.1 rfl (lv_room (Nat.le_of_ble_eq_true rfl)) dX9_atom_148 ⟨Nat.le_of_ble_eq_true rfl, Nat.le_of_ble_eq_true rfl⟩) hS (fun q _ h => hFc q h) hFc (fun r_244 u_245 t H1 locs ht hvm hw_246 hB hz1 hk1 hS => ?_)
            try dsimp only at hw_246 hB
            obtain ⟨po_247, tw_248⟩ := hw_246
            try simp only [hk_243] at po_247 tw_248
            obtain ⟨hP1, hD1⟩ := hB
            rw [ht] at hP1
            obtain ⟨hP, hD⟩ := va_join (wr := [((am 13), .inl (cA 0, 5000, .inl f_step)), ((am 14), .inl (cA 0, 5000, .inl f_stepA)), ((am 15), .inl (cA 0, 5000, .inl f_stepB)), ((am 16), .inl (cA 0, 5000, .inl f_stepC))]) (w1 := [((am 0), .inr (9, F9 am v_status v_now v_told v_merges v_taped v_size v_from v_to v_fault v_readFault v_traits v_length v_open v_leaks v_places v_models)), ((am 10), .inl (cA 3, 200, .inl f_tape))]) hP hD [4, 5] [0, 1, 2, 3] hCc rfl (by decide) (by decide) hk1 hFc hP1 hD1
            clear hz1
            rw [twd_Last] at tw_248
            generalize H1 = H at hP hS ⊢
            replace hP : va_P (dC, dI) vwCl [((am 13), .inl (cA 0, 5000, .inl f_step)), ((am 14), .inl (cA 0, 5000, .inl f_stepA)), ((am 15), .inl (cA 0, 5000, .inl f_stepB)), ((am 16), .inl (cA 0, 5000, .inl f_stepC)), ((am 0), .inr (9, F9 am v_status v_now v_told v_merges v_taped v_size v_from v_to v_fault v_readFault v_traits v_length v_open v_leaks v_places v_models)), ((am 10), .inl (cA 3, 200, .inl f_tape))] H := hP
            replace hD : va_D A [((am 13), .inl (cA 0, 5000, .inl f_step)), ((am 14), .inl (cA 0, 5000, .inl f_stepA)), ((am 15), .inl (cA 0, 5000, .inl f_stepB)), ((am 16), .inl (cA 0, 5000, .inl f_stepC)), ((am 0), .inr (9, F9 am v_status v_now v_told v_merges v_taped v_size v_from v_to v_fault v_readFault v_traits v_length v_open v_leaks v_places v_models)), ((am 10), .inl (cA 3, 200, .inl f_tape))] := hD
            refine lv_if_eq (tgt := 159) hx hb dX9_atom_151 (by decide) (fun c_249 => ?_) (fun c_249 => ?_)
            · have dc_249 : r_244.toInt = 0 := jI_eq c_249 rfl (by decide)
              replace po_247 := sg_n po_247
              refine lv_bipush (v := 8) hx hb dX9_atom_159 (by decide) ?_
              refine lv_istore_n (lv' := [(1, .int 8), (0, .ref (am 0))]) hx hb dX9_atom_161 rfl hl (by decide) rfl (fun ls hl => ?_)
              refine lv_aload_n hx hb dX9_atom_162 rfl (lv_at hl 1 rfl) ?_
              obtain ⟨hPc, hDc, hFc, hCc⟩ := va_pre (ws' := [((am 0), .inr (9, F9 am v_status v_now v_told v_merges v_taped v_size v_from v_to v_fault v_readFault v_traits v_length v_open v_leaks v_places v_models)), ((am 10), .inl (cA 3, 200, .inl f_tape))]) hP hD hS hA [4, 5] (by decide) rfl
              refine va_callv (va_runV (As := []) (rest := []) ⟨hx, hb, hml, hown, hts⟩ (k_X9_next l dC dI cA H.size am v_status v_now v_told v_merges v_taped v_size v_from v_to v_fault v_readFault v_traits v_length v_open v_leaks v_places v_models f_tape i_v_now i_v_told i_v_taped i_v_size i_v_from i_v_to i_v_traits i_v_length i_v_open i_v_places i_v_models (by omega)) (cwV 0 hts gX9_atom_X9_next rfl rfl rfl (by decide +kernel) ⟨Nat.le_of_ble_eq_true rfl, Nat.le_of_ble_eq_true rfl⟩) ⟨fun a U g mk q => by obtain ⟨q0, q1, qP, qK, qD, qN⟩ := q; exact ⟨q0, q1, qP, va_K.moved (u := U) (U := U.calling g mk a) (Vm.Alike.refl U.vm) qK, qD, qN.same rfl⟩, va_recv hK hPc (ci := 9) (q0 := 0) rfl rfl, fun U hU hW => ⟨rfl, by rw [hU], by rw [hU]; exact hPc, va_K.moved hW.alike hK, hDc.weaken (fun _ _ _ _ => trivial), hN.warm hW⟩⟩ rfl rfl hl.1 rfl (lv_room (Nat.le_of_ble_eq_true rfl)) dX9_atom_163 ⟨Nat.le_of_ble_eq_true rfl, Nat.le_of_ble_eq_true rfl⟩) hS (fun q _ h => hFc q h) hFc (fun u_250 t H1 locs ht hvm hw_251 hB hz1 hk1 hS => ?_)
              obtain ⟨w_252, w_253⟩ := u_250
              try dsimp only at hw_251 hB
              obtain ⟨iv_254, iv_255, po_256, tk_257, ad_258⟩ := hw_251
              obtain ⟨hP1, hD1⟩ := hB
              rw [ht] at hP1
              obtain ⟨hP, hD⟩ := va_join (wr := [((am 13), .inl (cA 0, 5000, .inl f_step)), ((am 14), .inl (cA 0, 5000, .inl f_stepA)), ((am 15), .inl (cA 0, 5000, .inl f_stepB)), ((am 16), .inl (cA 0, 5000, .inl f_stepC))]) (w1 := [((am 0), .inr (9, F9 am v_status v_now v_told v_merges v_taped v_size w_252 w_253 v_fault v_readFault v_traits v_length v_open v_leaks v_places v_models)), ((am 10), .inl (cA 3, 200, .inl f_tape))]) hP hD [4, 5] [0, 1, 2, 3] hCc rfl (by decide) (by decide) hk1 hFc hP1 hD1
              clear hz1
              generalize H1 = H at hP hS ⊢
              refine lv_aload_n hx hb dX9_atom_166 rfl (lv_at hl 1 rfl) ?_
              refine lv_iconst (v := 5) hx hb dX9_atom_167 (by decide) ?_
              have hk_259 : (5 : Int32).toInt = 5 := by decide
              obtain ⟨hPc, hDc, hFc, hCc⟩ := va_pre (ws' := [((am 0), .inr (9, F9 am v_status v_now v_told v_merges v_taped v_size w_252 w_253 v_fault v_readFault v_traits v_length v_open v_leaks v_places v_models)), ((am 10), .inl (cA 3, 200, .inl f_tape))]) hP hD hS hA [4, 5] (by decide) rfl
              refine va_calli (va_runV (As := [.int 5]) (rest := []) ⟨hx, hb, hml, hown, hts⟩ (k_X9_number l dC dI cA H.size am v_status v_now v_told v_merges v_taped v_size w_252 w_253 v_fault v_readFault v_traits v_length v_open v_leaks v_places v_models f_tape 5 i_v_now i_v_told i_v_taped i_v_size iv_254 iv_255 i_v_traits i_v_length i_v_open i_v_places i_v_models (by omega) tk_257 hgd (by omega)) (cwV 1 hts gX9_atom_X9_number rfl rfl rfl (by decide +kernel) ⟨Nat.le_of_ble_eq_true rfl, Nat.le_of_ble_eq_true rfl⟩) ⟨fun a U g mk q => by obtain ⟨q0, q1, qP, qK, qD, qN⟩ := q; exact ⟨q0, q1, qP, va_K.moved (u := U) (U := U.calling g mk a) (Vm.Alike.refl U.vm) qK, qD, qN.same rfl⟩, va_recv hK hPc (ci := 9) (q0 := 0) rfl rfl, fun U hU hW => ⟨rfl, by rw [hU], by rw [hU]; exact hPc, va_K.moved hW.alike hK, hDc.weaken (fun _ _ _ _ => trivial), hN.warm hW⟩⟩ rfl rfl hl.1 rfl (lv_room (Nat.le_of_ble_eq_true rfl)) dX9_atom_168 ⟨Nat.le_of_ble_eq_true rfl, Nat.le_of_ble_eq_true rfl⟩) hS (fun q _ h => hFc q h) hFc (fun r_260 u_261 t H1 locs ht hvm hw_262 hB hz1 hk1 hS => ?_)
              obtain ⟨w_263, w_264, w_265⟩ := u_261
              try dsimp only at hw_262 hB
              obtain ⟨iv_266, iv_267, po_268, tk_269, nm_270⟩ := hw_262
              try simp only [hk_259] at po_268 tk_269 nm_270
              obtain ⟨hP1, hD1⟩ := hB
              rw [ht] at hP1
              obtain ⟨hP, hD⟩ := va_join (wr := [((am 13), .inl (cA 0, 5000, .inl f_step)), ((am 14), .inl (cA 0, 5000, .inl f_stepA)), ((am 15), .inl (cA 0, 5000, .inl f_stepB)), ((am 16), .inl (cA 0, 5000, .inl f_stepC))]) (w1 := [((am 0), .inr (9, F9 am v_status v_now v_told v_merges v_taped v_size w_263 w_264 v_fault w_265 v_traits v_length v_open v_leaks v_places v_models)), ((am 10), .inl (cA 3, 200, .inl f_tape))]) hP hD [4, 5] [0, 1, 2, 3] hCc rfl (by decide) (by decide) hk1 hFc hP1 hD1
              clear hz1
              generalize H1 = H at hP hS ⊢
              refine lv_istore_n (lv' := [(2, .int r_260), (1, .int 8), (0, .ref (am 0))]) hx hb dX9_atom_171 rfl hl (by decide) rfl (fun ls hl => ?_)
              refine lv_aload_n hx hb dX9_atom_172 rfl (lv_at hl 2 rfl) ?_
              obtain ⟨hPc, hDc, hFc, hCc⟩ := va_pre (ws' := [((am 0), .inr (9, F9 am v_status v_now v_told v_merges v_taped v_size w_263 w_264 v_fault w_265 v_traits v_length v_open v_leaks v_places v_models))]) hP hD hS hA [4] (by decide) rfl
              refine va_calli (va_runV (As := []) (rest := []) ⟨hx, hb, hml, hown, hts⟩ (k_X9_good l dC dI cA H.size am v_status v_now v_told v_merges v_taped v_size w_263 w_264 v_fault w_265 v_traits v_length v_open v_leaks v_places v_models i_v_now i_v_told i_v_taped i_v_size iv_266 iv_267 i_v_traits i_v_length i_v_open i_v_places i_v_models) (cwV 0 hts gX9_atom_X9_good rfl rfl rfl (by decide +kernel) ⟨Nat.le_of_ble_eq_true rfl, Nat.le_of_ble_eq_true rfl⟩) ⟨fun a U g mk q => by obtain ⟨q0, q1, qP, qK, qD, qN⟩ := q; exact ⟨q0, q1, qP, va_K.moved (u := U) (U := U.calling g mk a) (Vm.Alike.refl U.vm) qK, qD, qN.same rfl⟩, va_recv hK hPc (ci := 9) (q0 := 0) rfl rfl, fun U hU hW => ⟨rfl, by rw [hU], by rw [hU]; exact hPc, va_K.moved hW.alike hK, hDc.weaken (fun _ _ _ _ => trivial), hN.warm hW⟩⟩ rfl rfl hl.1 rfl (lv_room (Nat.le_of_ble_eq_true rfl)) dX9_atom_173 ⟨Nat.le_of_ble_eq_true rfl, Nat.le_of_ble_eq_true rfl⟩) hS (fun q _ h => hFc q h) hFc (fun r_271 u_272 t H1 locs ht hvm hw_273 hB hz1 hk1 hS => ?_)
              try dsimp only at hw_273 hB
              have po_274 := hw_273
              clear hw_273
              obtain ⟨hP1, hD1⟩ := hB
              rw [ht] at hP1
              obtain ⟨hP, hD⟩ := va_join (wr := [((am 13), .inl (cA 0, 5000, .inl f_step)), ((am 14), .inl (cA 0, 5000, .inl f_stepA)), ((am 15), .inl (cA 0, 5000, .inl f_stepB)), ((am 16), .inl (cA 0, 5000, .inl f_stepC)), ((am 10), .inl (cA 3, 200, .inl f_tape))]) (w1 := [((am 0), .inr (9, F9 am v_status v_now v_told v_merges v_taped v_size w_263 w_264 v_fault w_265 v_traits v_length v_open v_leaks v_places v_models))]) hP hD [4] [0, 1, 2, 3, 5] hCc rfl (by decide) (by decide) hk1 hFc hP1 hD1
              clear hz1
              generalize H1 = H at hP hS ⊢
              refine lv_if_eq (tgt := 187) hx hb dX9_atom_176 (by decide) (fun c_275 => ?_) (fun c_275 => ?_)
              · have dc_275 : r_271.toInt = 0 := jI_eq c_275 rfl (by decide)
                replace po_274 := gd_n po_274 dc_275
                replace po_268 := im5_n po_268
                refine lv_goto (tgt := 269) hx hb dX9_atom_187 (by decide) ?_
                obtain ⟨hP9, hD9⟩ := va_pd (ws' := [((am 0), .inr (9, F9 am v_status v_now v_told v_merges v_taped v_size w_263 w_264 v_fault w_265 v_traits v_length v_open v_leaks v_places v_models)), ((am 10), .inl (cA 3, 200, .inl f_tape)), ((am 13), .inl (cA 0, 5000, .inl f_step)), ((am 14), .inl (cA 0, 5000, .inl f_stepA)), ((am 15), .inl (cA 0, 5000, .inl f_stepB)), ((am 16), .inl (cA 0, 5000, .inl f_stepC))]) hP hD [5, 4, 0, 1, 2, 3] (by decide) rfl
                subst hQe
                have hpost : (0 ≤ w_263.toInt ∧ w_263.toInt ≤ 200) ∧ (0 ≤ w_264.toInt ∧ w_264.toInt ≤ 200) ∧ (0 ≤ v_length.toInt ∧ v_length.toInt ≤ 200) ∧ (0 ≤ v_open.toInt ∧ v_open.toInt ≤ 8) ∧ (v_from.toInt ≤ w_263.toInt ∧ w_263.toInt ≤ w_264.toInt ∧ w_264.toInt ≤ v_size.toInt ∧ (w_263.toInt < v_size.toInt → w_263.toInt < w_264.toInt) ∧ v_length.toInt - v_length.toInt ≤ w_263.toInt - v_from.toInt ∧ v_length.toInt ≤ v_length.toInt ∧ (w_265.toInt = (-1) → v_open.toInt = v_open.toInt)) ∧ (tokOK f_tape w_263 w_264 v_size) ∧ (prg f_step f_stepA f_step f_stepA (250 * v_traits.toInt.toNat) v_length.toInt.toNat v_length.toInt.toNat (w_265.toInt = (-1))) ∧ (rs w_265 w_263 w_264 v_leaks (orb f_step f_stepA (250 * v_traits.toInt.toNat) v_length.toInt.toNat) = patom (tpe f_tape v_size) v_size.toInt v_traits.toInt (pB (tpe f_tape v_size) v_size.toInt v_traits.toInt (8 - v_open.toInt).toNat) v_from.toInt v_to.toInt v_leaks.toInt (orb f_step f_stepA (250 * v_traits.toInt.toNat) v_length.toInt.toNat)) := ⟨iv_266, iv_267, i_v_length, i_v_open, by omega, tk_269, prg_rf hwp (by omega), (by have k9 : pkind (tpe f_tape v_size) v_from.toInt v_to.toInt = 3 := (by unfold pkind; rw [if_neg (fun h => absurd (tw_21.mpr h) (fun q => q dc_22)), if_neg (fun h => absurd (tw_28.mpr h) (fun q => q dc_29)), if_pos (tw_120.mp dc_121)]); rw [patom, if_neg (fun h => absurd (tp_7.mpr h) (fun q => q dc_8)), if_neg (fun h => absurd (tw_14.mpr h) (fun q => q dc_15)), if_neg (show ¬ pkind (tpe f_tape v_size) v_from.toInt v_to.toInt = (-1) by omega), if_neg (show ¬ pkind (tpe f_tape v_size) v_from.toInt v_to.toInt = 1 by omega), if_pos (show pkind (tpe f_tape v_size) v_from.toInt v_to.toInt = 2 ∨ pkind (tpe f_tape v_size) v_from.toInt v_to.toInt = 3 by omega), ← ad_258.2, ← ad_258.1, nm_no nm_270 (by omega)]; exact rs_inl (by omega) (by omega))⟩
                exact W.vret hx hb hr (fun t ht hW => ⟨⟨(w_263, w_264, w_265, v_length, v_open, v_leaks, f_step, f_stepA, f_stepB, f_stepC), rfl, hpost, by rw [ht]; exact hP9, hD9⟩, hS.F ht⟩) hS.2.2 dX9_atom_269
              · have dc_275 : ¬ r_271.toInt = 0 := jI_ne c_275 rfl (by decide)
                replace po_274 := gd_y po_274 dc_275
                replace po_268 := im5_y po_268 po_274
                refine lv_aload_n hx hb dX9_atom_179 rfl (lv_at hl 2 rfl) ?_
                refine lv_iload_n hx hb dX9_atom_180 rfl (lv_at hl 1 rfl) ?_
                refine lv_iload_n hx hb dX9_atom_181 rfl (lv_at hl 0 rfl) ?_
                refine lv_iconst (v := 0) hx hb dX9_atom_182 (by decide) ?_
                refine lv_iconst (v := 0) hx hb dX9_atom_183 (by decide) ?_
                have hk_276 : (8 : Int32).toInt = 8 := by decide
                have hk_277 : (0 : Int32).toInt = 0 := by decide
                obtain ⟨hPc, hDc, hFc, hCc⟩ := va_pre (ws' := [((am 0), .inr (9, F9 am v_status v_now v_told v_merges v_taped v_size w_263 w_264 v_fault w_265 v_traits v_length v_open v_leaks v_places v_models)), ((am 13), .inl (cA 0, 5000, .inl f_step)), ((am 14), .inl (cA 0, 5000, .inl f_stepA)), ((am 15), .inl (cA 0, 5000, .inl f_stepB)), ((am 16), .inl (cA 0, 5000, .inl f_stepC))]) hP hD hS hA [5, 0, 1, 2, 3] (by decide) rfl
                refine va_callv (va_runV (As := [.int 8, .int r_260, .int 0, .int 0]) (rest := []) ⟨hx, hb, hml, hown, hts⟩ (k_X9_puts l dC dI cA H.size am v_status v_now v_told v_merges v_taped v_size w_263 w_264 v_fault w_265 v_traits v_length v_open v_leaks v_places v_models f_step f_stepA f_stepB f_stepC 8 r_260 0 0 i_v_now i_v_told i_v_taped i_v_size iv_266 iv_267 i_v_traits i_v_length i_v_open i_v_places i_v_models htr (by omega)) (cwV 4 hts gX9_atom_X9_puts rfl rfl rfl (by decide +kernel) ⟨Nat.le_of_ble_eq_true rfl, Nat.le_of_ble_eq_true rfl⟩) ⟨fun a U g mk q => by obtain ⟨q0, q1, qP, qK, qD, qN⟩ := q; exact ⟨q0, q1, qP, va_K.moved (u := U) (U := U.calling g mk a) (Vm.Alike.refl U.vm) qK, qD, qN.same rfl⟩, va_recv hK hPc (ci := 9) (q0 := 0) rfl rfl, fun U hU hW => ⟨rfl, by rw [hU], by rw [hU]; exact hPc, va_K.moved hW.alike hK, hDc.weaken (fun _ _ _ _ => trivial), hN.warm hW⟩⟩ rfl rfl hl.1 rfl (lv_room (Nat.le_of_ble_eq_true rfl)) dX9_atom_184 ⟨Nat.le_of_ble_eq_true rfl, Nat.le_of_ble_eq_true rfl⟩) hS (fun q _ h => hFc q h) hFc (fun u_278 t H1 locs ht hvm hw_279 hB hz1 hk1 hS => ?_)
                obtain ⟨w_280, w_281, w_282, w_283, w_284⟩ := u_278
                try dsimp only at hw_279 hB
                obtain ⟨iv_285, po_286, es_287, eA_288⟩ := hw_279
                try simp only [hk_276, hk_277] at po_286 es_287 eA_288
                obtain ⟨hP1, hD1⟩ := hB
                rw [ht] at hP1
                obtain ⟨hP, hD⟩ := va_join (wr := [((am 10), .inl (cA 3, 200, .inl f_tape))]) (w1 := [((am 0), .inr (9, F9 am v_status v_now v_told v_merges v_taped v_size w_263 w_264 v_fault w_265 v_traits w_280 v_open v_leaks v_places v_models)), ((am 13), .inl (cA 0, 5000, .inl w_281)), ((am 14), .inl (cA 0, 5000, .inl w_282)), ((am 15), .inl (cA 0, 5000, .inl w_283)), ((am 16), .inl (cA 0, 5000, .inl w_284))]) hP hD [5, 0, 1, 2, 3] [4] hCc rfl (by decide) (by decide) hk1 hFc hP1 hD1
                clear hz1
                generalize H1 = H at hP hS ⊢
                refine lv_goto (tgt := 269) hx hb dX9_atom_187 (by decide) ?_
                obtain ⟨hP9, hD9⟩ := va_pd (ws' := [((am 0), .inr (9, F9 am v_status v_now v_told v_merges v_taped v_size w_263 w_264 v_fault w_265 v_traits w_280 v_open v_leaks v_places v_models)), ((am 10), .inl (cA 3, 200, .inl f_tape)), ((am 13), .inl (cA 0, 5000, .inl w_281)), ((am 14), .inl (cA 0, 5000, .inl w_282)), ((am 15), .inl (cA 0, 5000, .inl w_283)), ((am 16), .inl (cA 0, 5000, .inl w_284))]) hP hD [1, 0, 2, 3, 4, 5] (by decide) rfl
                subst hQe
                have hpost : (0 ≤ w_263.toInt ∧ w_263.toInt ≤ 200) ∧ (0 ≤ w_264.toInt ∧ w_264.toInt ≤ 200) ∧ (0 ≤ w_280.toInt ∧ w_280.toInt ≤ 200) ∧ (0 ≤ v_open.toInt ∧ v_open.toInt ≤ 8) ∧ (v_from.toInt ≤ w_263.toInt ∧ w_263.toInt ≤ w_264.toInt ∧ w_264.toInt ≤ v_size.toInt ∧ (w_263.toInt < v_size.toInt → w_263.toInt < w_264.toInt) ∧ w_280.toInt - v_length.toInt ≤ w_263.toInt - v_from.toInt ∧ v_length.toInt ≤ w_280.toInt ∧ (w_265.toInt = (-1) → v_open.toInt = v_open.toInt)) ∧ (tokOK f_tape w_263 w_264 v_size) ∧ (prg f_step f_stepA w_281 w_282 (250 * v_traits.toInt.toNat) v_length.toInt.toNat w_280.toInt.toNat (w_265.toInt = (-1))) ∧ (rs w_265 w_263 w_264 v_leaks (orb w_281 w_282 (250 * v_traits.toInt.toNat) w_280.toInt.toNat) = patom (tpe f_tape v_size) v_size.toInt v_traits.toInt (pB (tpe f_tape v_size) v_size.toInt v_traits.toInt (8 - v_open.toInt).toNat) v_from.toInt v_to.toInt v_leaks.toInt (orb f_step f_stepA (250 * v_traits.toInt.toNat) v_length.toInt.toNat)) := ⟨iv_266, iv_267, iv_285, i_v_open, by omega, tk_269, prg_push hwp (by omega) (by omega) es_287 eA_288 (by omega), (by have k9 : pkind (tpe f_tape v_size) v_from.toInt v_to.toInt = 3 := (by unfold pkind; rw [if_neg (fun h => absurd (tw_21.mpr h) (fun q => q dc_22)), if_neg (fun h => absurd (tw_28.mpr h) (fun q => q dc_29)), if_pos (tw_120.mp dc_121)]); rw [patom, if_neg (fun h => absurd (tp_7.mpr h) (fun q => q dc_8)), if_neg (fun h => absurd (tw_14.mpr h) (fun q => q dc_15)), if_neg (show ¬ pkind (tpe f_tape v_size) v_from.toInt v_to.toInt = (-1) by omega), if_neg (show ¬ pkind (tpe f_tape v_size) v_from.toInt v_to.toInt = 1 by omega), if_pos (show pkind (tpe f_tape v_size) v_from.toInt v_to.toInt = 2 ∨ pkind (tpe f_tape v_size) v_from.toInt v_to.toInt = 3 by omega), ← ad_258.2, ← ad_258.1, nm_ok nm_270 (by omega)]; exact rs_inr (by omega) (by omega) (by omega) (by omega) (orb_0 (by first | omega | decide) es_287 eA_288 (by omega)))⟩
                exact W.vret hx hb hr (fun t ht hW => ⟨⟨(w_263, w_264, w_265, w_280, v_open, v_leaks, w_281, w_282, w_283, w_284), rfl, hpost, by rw [ht]; exact hP9, hD9⟩, hS.F ht⟩) hS.2.2 dX9_atom_269
            · have dc_249 : ¬ r_244.toInt = 0 := jI_ne c_249 rfl (by decide)
              replace po_247 := sg_y po_247 dc_249
              refine lv_bipush (v := 7) hx hb dX9_atom_154 (by decide) ?_
              refine lv_goto (tgt := 161) hx hb dX9_atom_156 (by decide) ?_
              refine lv_istore_n (lv' := [(1, .int 7), (0, .ref (am 0))]) hx hb dX9_atom_161 rfl hl (by decide) rfl (fun ls hl => ?_)
              refine lv_aload_n hx hb dX9_atom_162 rfl (lv_at hl 1 rfl) ?_
              obtain ⟨hPc, hDc, hFc, hCc⟩ := va_pre (ws' := [((am 0), .inr (9, F9 am v_status v_now v_told v_merges v_taped v_size v_from v_to v_fault v_readFault v_traits v_length v_open v_leaks v_places v_models)), ((am 10), .inl (cA 3, 200, .inl f_tape))]) hP hD hS hA [4, 5] (by decide) rfl
              refine va_callv (va_runV (As := []) (rest := []) ⟨hx, hb, hml, hown, hts⟩ (k_X9_next l dC dI cA H.size am v_status v_now v_told v_merges v_taped v_size v_from v_to v_fault v_readFault v_traits v_length v_open v_leaks v_places v_models f_tape i_v_now i_v_told i_v_taped i_v_size i_v_from i_v_to i_v_traits i_v_length i_v_open i_v_places i_v_models (by omega)) (cwV 0 hts gX9_atom_X9_next rfl rfl rfl (by decide +kernel) ⟨Nat.le_of_ble_eq_true rfl, Nat.le_of_ble_eq_true rfl⟩) ⟨fun a U g mk q => by obtain ⟨q0, q1, qP, qK, qD, qN⟩ := q; exact ⟨q0, q1, qP, va_K.moved (u := U) (U := U.calling g mk a) (Vm.Alike.refl U.vm) qK, qD, qN.same rfl⟩, va_recv hK hPc (ci := 9) (q0 := 0) rfl rfl, fun U hU hW => ⟨rfl, by rw [hU], by rw [hU]; exact hPc, va_K.moved hW.alike hK, hDc.weaken (fun _ _ _ _ => trivial), hN.warm hW⟩⟩ rfl rfl hl.1 rfl (lv_room (Nat.le_of_ble_eq_true rfl)) dX9_atom_163 ⟨Nat.le_of_ble_eq_true rfl, Nat.le_of_ble_eq_true rfl⟩) hS (fun q _ h => hFc q h) hFc (fun u_289 t H1 locs ht hvm hw_290 hB hz1 hk1 hS => ?_)
              obtain ⟨w_291, w_292⟩ := u_289
              try dsimp only at hw_290 hB
              obtain ⟨iv_293, iv_294, po_295, tk_296, ad_297⟩ := hw_290
              obtain ⟨hP1, hD1⟩ := hB
              rw [ht] at hP1
              obtain ⟨hP, hD⟩ := va_join (wr := [((am 13), .inl (cA 0, 5000, .inl f_step)), ((am 14), .inl (cA 0, 5000, .inl f_stepA)), ((am 15), .inl (cA 0, 5000, .inl f_stepB)), ((am 16), .inl (cA 0, 5000, .inl f_stepC))]) (w1 := [((am 0), .inr (9, F9 am v_status v_now v_told v_merges v_taped v_size w_291 w_292 v_fault v_readFault v_traits v_length v_open v_leaks v_places v_models)), ((am 10), .inl (cA 3, 200, .inl f_tape))]) hP hD [4, 5] [0, 1, 2, 3] hCc rfl (by decide) (by decide) hk1 hFc hP1 hD1
              clear hz1
              generalize H1 = H at hP hS ⊢
              refine lv_aload_n hx hb dX9_atom_166 rfl (lv_at hl 1 rfl) ?_
              refine lv_iconst (v := 5) hx hb dX9_atom_167 (by decide) ?_
              have hk_298 : (5 : Int32).toInt = 5 := by decide
              obtain ⟨hPc, hDc, hFc, hCc⟩ := va_pre (ws' := [((am 0), .inr (9, F9 am v_status v_now v_told v_merges v_taped v_size w_291 w_292 v_fault v_readFault v_traits v_length v_open v_leaks v_places v_models)), ((am 10), .inl (cA 3, 200, .inl f_tape))]) hP hD hS hA [4, 5] (by decide) rfl
              refine va_calli (va_runV (As := [.int 5]) (rest := []) ⟨hx, hb, hml, hown, hts⟩ (k_X9_number l dC dI cA H.size am v_status v_now v_told v_merges v_taped v_size w_291 w_292 v_fault v_readFault v_traits v_length v_open v_leaks v_places v_models f_tape 5 i_v_now i_v_told i_v_taped i_v_size iv_293 iv_294 i_v_traits i_v_length i_v_open i_v_places i_v_models (by omega) tk_296 hgd (by omega)) (cwV 1 hts gX9_atom_X9_number rfl rfl rfl (by decide +kernel) ⟨Nat.le_of_ble_eq_true rfl, Nat.le_of_ble_eq_true rfl⟩) ⟨fun a U g mk q => by obtain ⟨q0, q1, qP, qK, qD, qN⟩ := q; exact ⟨q0, q1, qP, va_K.moved (u := U) (U := U.calling g mk a) (Vm.Alike.refl U.vm) qK, qD, qN.same rfl⟩, va_recv hK hPc (ci := 9) (q0 := 0) rfl rfl, fun U hU hW => ⟨rfl, by rw [hU], by rw [hU]; exact hPc, va_K.moved hW.alike hK, hDc.weaken (fun _ _ _ _ => trivial), hN.warm hW⟩⟩ rfl rfl hl.1 rfl (lv_room (Nat.le_of_ble_eq_true rfl)) dX9_atom_168 ⟨Nat.le_of_ble_eq_true rfl, Nat.le_of_ble_eq_true rfl⟩) hS (fun q _ h => hFc q h) hFc (fun r_299 u_300 t H1 locs ht hvm hw_301 hB hz1 hk1 hS => ?_)
              obtain ⟨w_302, w_303, w_304⟩ := u_300
              try dsimp only at hw_301 hB
              obtain ⟨iv_305, iv_306, po_307, tk_308, nm_309⟩ := hw_301
              try simp only [hk_298] at po_307 tk_308 nm_309
              obtain ⟨hP1, hD1⟩ := hB
              rw [ht] at hP1
              obtain ⟨hP, hD⟩ := va_join (wr := [((am 13), .inl (cA 0, 5000, .inl f_step)), ((am 14), .inl (cA 0, 5000, .inl f_stepA)), ((am 15), .inl (cA 0, 5000, .inl f_stepB)), ((am 16), .inl (cA 0, 5000, .inl f_stepC))]) (w1 := [((am 0), .inr (9, F9 am v_status v_now v_told v_merges v_taped v_size w_302 w_303 v_fault w_304 v_traits v_length v_open v_leaks v_places v_models)), ((am 10), .inl (cA 3, 200, .inl f_tape))]) hP hD [4, 5] [0, 1, 2, 3] hCc rfl (by decide) (by decide) hk1 hFc hP1 hD1
              clear hz1
              generalize H1 = H at hP hS ⊢
              refine lv_istore_n (lv' := [(2, .int r_299), (1, .int 7), (0, .ref (am 0))]) hx hb dX9_atom_171 rfl hl (by decide) rfl (fun ls hl => ?_)
              refine lv_aload_n hx hb dX9_atom_172 rfl (lv_at hl 2 rfl) ?_
              obtain ⟨hPc, hDc, hFc, hCc⟩ := va_pre (ws' := [((am 0), .inr (9, F9 am v_status v_now v_told v_merges v_taped v_size w_302 w_303 v_fault w_304 v_traits v_length v_open v_leaks v_places v_models))]) hP hD hS hA [4] (by decide) rfl
              refine va_calli (va_runV (As := []) (rest := []) ⟨hx, hb, hml, hown, hts⟩ (k_X9_good l dC dI cA H.size am v_status v_now v_told v_merges v_taped v_size w_302 w_303 v_fault w_304 v_traits v_length v_open v_leaks v_places v_models i_v_now i_v_told i_v_taped i_v_size iv_305 iv_306 i_v_traits i_v_length i_v_open i_v_places i_v_models) (cwV 0 hts gX9_atom_X9_good rfl rfl rfl (by decide +kernel) ⟨Nat.le_of_ble_eq_true rfl, Nat.le_of_ble_eq_true rfl⟩) ⟨fun a U g mk q => by obtain ⟨q0, q1, qP, qK, qD, qN⟩ := q; exact ⟨q0, q1, qP, va_K.moved (u := U) (U := U.calling g mk a) (Vm.Alike.refl U.vm) qK, qD, qN.same rfl⟩, va_recv hK hPc (ci := 9) (q0 := 0) rfl rfl, fun U hU hW => ⟨rfl, by rw [hU], by rw [hU]; exact hPc, va_K.moved hW.alike hK, hDc.weaken (fun _ _ _ _ => trivial), hN.warm hW⟩⟩ rfl rfl hl.1 rfl (lv_room (Nat.le_of_ble_eq_true rfl)) dX9_atom_173 ⟨Nat.le_of_ble_eq_true rfl, Nat.le_of_ble_eq_true rfl⟩) hS (fun q _ h => hFc q h) hFc (fun r_310 u_311 t H1 locs ht hvm hw_312 hB hz1 hk1 hS => ?_)
              try dsimp only at hw_312 hB
              have po_313 := hw_312
              clear hw_312
              obtain ⟨hP1, hD1⟩ := hB
              rw [ht] at hP1
              obtain ⟨hP, hD⟩ := va_join (wr := [((am 13), .inl (cA 0, 5000, .inl f_step)), ((am 14), .inl (cA 0, 5000, .inl f_stepA)), ((am 15), .inl (cA 0, 5000, .inl f_stepB)), ((am 16), .inl (cA 0, 5000, .inl f_stepC)), ((am 10), .inl (cA 3, 200, .inl f_tape))]) (w1 := [((am 0), .inr (9, F9 am v_status v_now v_told v_merges v_taped v_size w_302 w_303 v_fault w_304 v_traits v_length v_open v_leaks v_places v_models))]) hP hD [4] [0, 1, 2, 3, 5] hCc rfl (by decide) (by decide) hk1 hFc hP1 hD1
              clear hz1
              generalize H1 = H at hP hS ⊢
              refine lv_if_eq (tgt := 187) hx hb dX9_atom_176 (by decide) (fun c_314 => ?_) (fun c_314 => ?_)
              · have dc_314 : r_310.toInt = 0 := jI_eq c_314 rfl (by decide)
                replace po_313 := gd_n po_313 dc_314
                replace po_307 := im5_n po_307
                refine lv_goto (tgt := 269) hx hb dX9_atom_187 (by decide) ?_
                obtain ⟨hP9, hD9⟩ := va_pd (ws' := [((am 0), .inr (9, F9 am v_status v_now v_told v_merges v_taped v_size w_302 w_303 v_fault w_304 v_traits v_length v_open v_leaks v_places v_models)), ((am 10), .inl (cA 3, 200, .inl f_tape)), ((am 13), .inl (cA 0, 5000, .inl f_step)), ((am 14), .inl (cA 0, 5000, .inl f_stepA)), ((am 15), .inl (cA 0, 5000, .inl f_stepB)), ((am 16), .inl (cA 0, 5000, .inl f_stepC))]) hP hD [5, 4, 0, 1, 2, 3] (by decide) rfl
                subst hQe
                have hpost : (0 ≤ w_302.toInt ∧ w_302.toInt ≤ 200) ∧ (0 ≤ w_303.toInt ∧ w_303.toInt ≤ 200) ∧ (0 ≤ v_length.toInt ∧ v_length.toInt ≤ 200) ∧ (0 ≤ v_open.toInt ∧ v_open.toInt ≤ 8) ∧ (v_from.toInt ≤ w_302.toInt ∧ w_302.toInt ≤ w_303.toInt ∧ w_303.toInt ≤ v_size.toInt ∧ (w_302.toInt < v_size.toInt → w_302.toInt < w_303.toInt) ∧ v_length.toInt - v_length.toInt ≤ w_302.toInt - v_from.toInt ∧ v_length.toInt ≤ v_length.toInt ∧ (w_304.toInt = (-1) → v_open.toInt = v_open.toInt)) ∧ (tokOK f_tape w_302 w_303 v_size) ∧ (prg f_step f_stepA f_step f_stepA (250 * v_traits.toInt.toNat) v_length.toInt.toNat v_length.toInt.toNat (w_304.toInt = (-1))) ∧ (rs w_304 w_302 w_303 v_leaks (orb f_step f_stepA (250 * v_traits.toInt.toNat) v_length.toInt.toNat) = patom (tpe f_tape v_size) v_size.toInt v_traits.toInt (pB (tpe f_tape v_size) v_size.toInt v_traits.toInt (8 - v_open.toInt).toNat) v_from.toInt v_to.toInt v_leaks.toInt (orb f_step f_stepA (250 * v_traits.toInt.toNat) v_length.toInt.toNat)) := ⟨iv_305, iv_306, i_v_length, i_v_open, by omega, tk_308, prg_rf hwp (by omega), (by have k9 : pkind (tpe f_tape v_size) v_from.toInt v_to.toInt = 3 := (by unfold pkind; rw [if_neg (fun h => absurd (tw_21.mpr h) (fun q => q dc_22)), if_neg (fun h => absurd (tw_28.mpr h) (fun q => q dc_29)), if_pos (tw_120.mp dc_121)]); rw [patom, if_neg (fun h => absurd (tp_7.mpr h) (fun q => q dc_8)), if_neg (fun h => absurd (tw_14.mpr h) (fun q => q dc_15)), if_neg (show ¬ pkind (tpe f_tape v_size) v_from.toInt v_to.toInt = (-1) by omega), if_neg (show ¬ pkind (tpe f_tape v_size) v_from.toInt v_to.toInt = 1 by omega), if_pos (show pkind (tpe f_tape v_size) v_from.toInt v_to.toInt = 2 ∨ pkind (tpe f_tape v_size) v_from.toInt v_to.toInt = 3 by omega), ← ad_297.2, ← ad_297.1, nm_no nm_309 (by omega)]; exact rs_inl (by omega) (by omega))⟩
                exact W.vret hx hb hr (fun t ht hW => ⟨⟨(w_302, w_303, w_304, v_length, v_open, v_leaks, f_step, f_stepA, f_stepB, f_stepC), rfl, hpost, by rw [ht]; exact hP9, hD9⟩, hS.F ht⟩) hS.2.2 dX9_atom_269
              · have dc_314 : ¬ r_310.toInt = 0 := jI_ne c_314 rfl (by decide)
                replace po_313 := gd_y po_313 dc_314
                replace po_307 := im5_y po_307 po_313
                refine lv_aload_n hx hb dX9_atom_179 rfl (lv_at hl 2 rfl) ?_
                refine lv_iload_n hx hb dX9_atom_180 rfl (lv_at hl 1 rfl) ?_
                refine lv_iload_n hx hb dX9_atom_181 rfl (lv_at hl 0 rfl) ?_
                refine lv_iconst (v := 0) hx hb dX9_atom_182 (by decide) ?_
                refine lv_iconst (v := 0) hx hb dX9_atom_183 (by decide) ?_
                have hk_315 : (7 : Int32).toInt = 7 := by decide
                have hk_316 : (0 : Int32).toInt = 0 := by decide
                obtain ⟨hPc, hDc, hFc, hCc⟩ := va_pre (ws' := [((am 0), .inr (9, F9 am v_status v_now v_told v_merges v_taped v_size w_302 w_303 v_fault w_304 v_traits v_length v_open v_leaks v_places v_models)), ((am 13), .inl (cA 0, 5000, .inl f_step)), ((am 14), .inl (cA 0, 5000, .inl f_stepA)), ((am 15), .inl (cA 0, 5000, .inl f_stepB)), ((am 16), .inl (cA 0, 5000, .inl f_stepC))]) hP hD hS hA [5, 0, 1, 2, 3] (by decide) rfl
                refine va_callv (va_runV (As := [.int 7, .int r_299, .int 0, .int 0]) (rest := []) ⟨hx, hb, hml, hown, hts⟩ (k_X9_puts l dC dI cA H.size am v_status v_now v_told v_merges v_taped v_size w_302 w_303 v_fault w_304 v_traits v_length v_open v_leaks v_places v_models f_step f_stepA f_stepB f_stepC 7 r_299 0 0 i_v_now i_v_told i_v_taped i_v_size iv_305 iv_306 i_v_traits i_v_length i_v_open i_v_places i_v_models htr (by omega)) (cwV 4 hts gX9_atom_X9_puts rfl rfl rfl (by decide +kernel) ⟨Nat.le_of_ble_eq_true rfl, Nat.le_of_ble_eq_true rfl⟩) ⟨fun a U g mk q => by obtain ⟨q0, q1, qP, qK, qD, qN⟩ := q; exact ⟨q0, q1, qP, va_K.moved (u := U) (U := U.calling g mk a) (Vm.Alike.refl U.vm) qK, qD, qN.same rfl⟩, va_recv hK hPc (ci := 9) (q0 := 0) rfl rfl, fun U hU hW => ⟨rfl, by rw [hU], by rw [hU]; exact hPc, va_K.moved hW.alike hK, hDc.weaken (fun _ _ _ _ => trivial), hN.warm hW⟩⟩ rfl rfl hl.1 rfl (lv_room (Nat.le_of_ble_eq_true rfl)) dX9_atom_184 ⟨Nat.le_of_ble_eq_true rfl, Nat.le_of_ble_eq_true rfl⟩) hS (fun q _ h => hFc q h) hFc (fun u_317 t H1 locs ht hvm hw_318 hB hz1 hk1 hS => ?_)
                obtain ⟨w_319, w_320, w_321, w_322, w_323⟩ := u_317
                try dsimp only at hw_318 hB
                obtain ⟨iv_324, po_325, es_326, eA_327⟩ := hw_318
                try simp only [hk_315, hk_316] at po_325 es_326 eA_327
                obtain ⟨hP1, hD1⟩ := hB
                rw [ht] at hP1
                obtain ⟨hP, hD⟩ := va_join (wr := [((am 10), .inl (cA 3, 200, .inl f_tape))]) (w1 := [((am 0), .inr (9, F9 am v_status v_now v_told v_merges v_taped v_size w_302 w_303 v_fault w_304 v_traits w_319 v_open v_leaks v_places v_models)), ((am 13), .inl (cA 0, 5000, .inl w_320)), ((am 14), .inl (cA 0, 5000, .inl w_321)), ((am 15), .inl (cA 0, 5000, .inl w_322)), ((am 16), .inl (cA 0, 5000, .inl w_323))]) hP hD [5, 0, 1, 2, 3] [4] hCc rfl (by decide) (by decide) hk1 hFc hP1 hD1
                clear hz1
                generalize H1 = H at hP hS ⊢
                refine lv_goto (tgt := 269) hx hb dX9_atom_187 (by decide) ?_
                obtain ⟨hP9, hD9⟩ := va_pd (ws' := [((am 0), .inr (9, F9 am v_status v_now v_told v_merges v_taped v_size w_302 w_303 v_fault w_304 v_traits w_319 v_open v_leaks v_places v_models)), ((am 10), .inl (cA 3, 200, .inl f_tape)), ((am 13), .inl (cA 0, 5000, .inl w_320)), ((am 14), .inl (cA 0, 5000, .inl w_321)), ((am 15), .inl (cA 0, 5000, .inl w_322)), ((am 16), .inl (cA 0, 5000, .inl w_323))]) hP hD [1, 0, 2, 3, 4, 5] (by decide) rfl
                subst hQe
                have hpost : (0 ≤ w_302.toInt ∧ w_302.toInt ≤ 200) ∧ (0 ≤ w_303.toInt ∧ w_303.toInt ≤ 200) ∧ (0 ≤ w_319.toInt ∧ w_319.toInt ≤ 200) ∧ (0 ≤ v_open.toInt ∧ v_open.toInt ≤ 8) ∧ (v_from.toInt ≤ w_302.toInt ∧ w_302.toInt ≤ w_303.toInt ∧ w_303.toInt ≤ v_size.toInt ∧ (w_302.toInt < v_size.toInt → w_302.toInt < w_303.toInt) ∧ w_319.toInt - v_length.toInt ≤ w_302.toInt - v_from.toInt ∧ v_length.toInt ≤ w_319.toInt ∧ (w_304.toInt = (-1) → v_open.toInt = v_open.toInt)) ∧ (tokOK f_tape w_302 w_303 v_size) ∧ (prg f_step f_stepA w_320 w_321 (250 * v_traits.toInt.toNat) v_length.toInt.toNat w_319.toInt.toNat (w_304.toInt = (-1))) ∧ (rs w_304 w_302 w_303 v_leaks (orb w_320 w_321 (250 * v_traits.toInt.toNat) w_319.toInt.toNat) = patom (tpe f_tape v_size) v_size.toInt v_traits.toInt (pB (tpe f_tape v_size) v_size.toInt v_traits.toInt (8 - v_open.toInt).toNat) v_from.toInt v_to.toInt v_leaks.toInt (orb f_step f_stepA (250 * v_traits.toInt.toNat) v_length.toInt.toNat)) := ⟨iv_305, iv_306, iv_324, i_v_open, by omega, tk_308, prg_push hwp (by omega) (by omega) es_326 eA_327 (by omega), (by have k9 : pkind (tpe f_tape v_size) v_from.toInt v_to.toInt = 3 := (by unfold pkind; rw [if_neg (fun h => absurd (tw_21.mpr h) (fun q => q dc_22)), if_neg (fun h => absurd (tw_28.mpr h) (fun q => q dc_29)), if_pos (tw_120.mp dc_121)]); rw [patom, if_neg (fun h => absurd (tp_7.mpr h) (fun q => q dc_8)), if_neg (fun h => absurd (tw_14.mpr h) (fun q => q dc_15)), if_neg (show ¬ pkind (tpe f_tape v_size) v_from.toInt v_to.toInt = (-1) by omega), if_neg (show ¬ pkind (tpe f_tape v_size) v_from.toInt v_to.toInt = 1 by omega), if_pos (show pkind (tpe f_tape v_size) v_from.toInt v_to.toInt = 2 ∨ pkind (tpe f_tape v_size) v_from.toInt v_to.toInt = 3 by omega), ← ad_297.2, ← ad_297.1, nm_ok nm_309 (by omega)]; exact rs_inr (by omega) (by omega) (by omega) (by omega) (orb_0 (by first | omega | decide) es_326 eA_327 (by omega)))⟩
                exact W.vret hx hb hr (fun t ht hW => ⟨⟨(w_302, w_303, w_304, w_319, v_open, v_leaks, w_320, w_321, w_322, w_323), rfl, hpost, by rw [ht]; exact hP9, hD9⟩, hS.F ht⟩) hS.2.2 dX9_atom_269
      · have dc_22 : ¬ r_17.toInt = 0 := jI_ne c_22 rfl (by decide)
        replace po_20 := sg_y po_20 dc_22
        refine lv_aload_n hx hb dX9_atom_66 rfl (lv_at hl 0 rfl) ?_
        obtain ⟨hPc, hDc, hFc, hCc⟩ := va_pre (ws' := [((am 0), .inr (9, F9 am v_status v_now v_told v_merges v_taped v_size v_from v_to v_fault v_readFault v_traits v_length v_open v_leaks v_places v_models)), ((am 10), .inl (cA 3, 200, .inl f_tape))]) hP hD hS hA [4, 5] (by decide) rfl
        refine va_callv (va_runV (As := []) (rest := []) ⟨hx, hb, hml, hown, hts⟩ (k_X9_next l dC dI cA H.size am v_status v_now v_told v_merges v_taped v_size v_from v_to v_fault v_readFault v_traits v_length v_open v_leaks v_places v_models f_tape i_v_now i_v_told i_v_taped i_v_size i_v_from i_v_to i_v_traits i_v_length i_v_open i_v_places i_v_models (by omega)) (cwV 0 hts gX9_atom_X9_next rfl rfl rfl (by decide +kernel) ⟨Nat.le_of_ble_eq_true rfl, Nat.le_of_ble_eq_true rfl⟩) ⟨fun a U g mk q => by obtain ⟨q0, q1, qP, qK, qD, qN⟩ := q; exact ⟨q0, q1, qP, va_K.moved (u := U) (U := U.calling g mk a) (Vm.Alike.refl U.vm) qK, qD, qN.same rfl⟩, va_recv hK hPc (ci := 9) (q0 := 0) rfl rfl, fun U hU hW => ⟨rfl, by rw [hU], by rw [hU]; exact hPc, va_K.moved hW.alike hK, hDc.weaken (fun _ _ _ _ => trivial), hN.warm hW⟩⟩ rfl rfl hl.1 rfl (lv_room (Nat.le_of_ble_eq_true rfl)) dX9_atom_67 ⟨Nat.le_of_ble_eq_true rfl, Nat.le_of_ble_eq_true rfl⟩) hS (fun q _ h => hFc q h) hFc (fun u_328 t H1 locs ht hvm hw_329 hB hz1 hk1 hS => ?_)
        obtain ⟨w_330, w_331⟩ := u_328
        try dsimp only at hw_329 hB
        obtain ⟨iv_332, iv_333, po_334, tk_335, ad_336⟩ := hw_329
        obtain ⟨hP1, hD1⟩ := hB
        rw [ht] at hP1
        obtain ⟨hP, hD⟩ := va_join (wr := [((am 13), .inl (cA 0, 5000, .inl f_step)), ((am 14), .inl (cA 0, 5000, .inl f_stepA)), ((am 15), .inl (cA 0, 5000, .inl f_stepB)), ((am 16), .inl (cA 0, 5000, .inl f_stepC))]) (w1 := [((am 0), .inr (9, F9 am v_status v_now v_told v_merges v_taped v_size w_330 w_331 v_fault v_readFault v_traits v_length v_open v_leaks v_places v_models)), ((am 10), .inl (cA 3, 200, .inl f_tape))]) hP hD [4, 5] [0, 1, 2, 3] hCc rfl (by decide) (by decide) hk1 hFc hP1 hD1
        clear hz1
        generalize H1 = H at hP hS ⊢
        refine lv_aload_n hx hb dX9_atom_70 rfl (lv_at hl 0 rfl) ?_
        refine va_get (D := (dC, dI)) (ci := 9) (v := .int v_traits) (C := RX9) (T := TX9) (N := 51) hx hb hts hIX9 hown hK hP 4 rfl rfl 21 (by decide) (hts (.fieldLink RX9 197 "TraitHouseModel" "traits" "I") (by decide +kernel)) (fun _ h9 => h9) rfl dX9_atom_71 ?_
        refine lv_if_ne (tgt := 81) hx hb dX9_atom_74 (by decide) (fun c_337 => ?_) (fun c_337 => ?_)
        · have dc_337 : ¬ v_traits.toInt = 0 := jI_ne c_337 rfl (by decide)
          refine lv_aload_n hx hb dX9_atom_81 rfl (lv_at hl 0 rfl) ?_
          refine va_get (D := (dC, dI)) (ci := 9) (v := .int v_traits) (C := RX9) (T := TX9) (N := 51) hx hb hts hIX9 hown hK hP 4 rfl rfl 21 (by decide) (hts (.fieldLink RX9 197 "TraitHouseModel" "traits" "I") (by decide +kernel)) (fun _ h9 => h9) rfl dX9_atom_82 ?_
          refine lv_iconst (v := 1) hx hb dX9_atom_85 (by decide) ?_
          refine lv_isub hx hb dX9_atom_86 ?_
          refine lv_topi (fun x_338 ex_338 => ?_)
          have dx_338 : x_338.toInt = v_traits.toInt - 1 := by rw [ex_338]; exact jI_sub rfl (by decide) (by omega) (by omega)
          refine lv_istore_n (lv' := [(1, .int x_338), (0, .ref (am 0))]) hx hb dX9_atom_87 rfl hl (by decide) rfl (fun ls hl => ?_)
          refine lv_iload_n hx hb dX9_atom_88 rfl (lv_at hl 0 rfl) ?_
          refine lv_if_ge (tgt := 99) hx hb dX9_atom_89 (by decide) (fun c_339 => ?_) (fun c_339 => ?_)
          · have dc_339 : 0 ≤ x_338.toInt := jI_le c_339 (by decide) rfl
            refine lv_aload_n hx hb dX9_atom_99 rfl (lv_at hl 1 rfl) ?_
            refine lv_iload_n hx hb dX9_atom_100 rfl (lv_at hl 0 rfl) ?_
            obtain ⟨hPc, hDc, hFc, hCc⟩ := va_pre (ws' := [((am 0), .inr (9, F9 am v_status v_now v_told v_merges v_taped v_size w_330 w_331 v_fault v_readFault v_traits v_length v_open v_leaks v_places v_models)), ((am 10), .inl (cA 3, 200, .inl f_tape))]) hP hD hS hA [4, 5] (by decide) rfl
            refine va_calli (va_runV (As := [.int x_338]) (rest := []) ⟨hx, hb, hml, hown, hts⟩ (k_X9_number l dC dI cA H.size am v_status v_now v_told v_merges v_taped v_size w_330 w_331 v_fault v_readFault v_traits v_length v_open v_leaks v_places v_models f_tape x_338 i_v_now i_v_told i_v_taped i_v_size iv_332 iv_333 i_v_traits i_v_length i_v_open i_v_places i_v_models (by omega) tk_335 hgd (by omega)) (cwV 1 hts gX9_atom_X9_number rfl rfl rfl (by decide +kernel) ⟨Nat.le_of_ble_eq_true rfl, Nat.le_of_ble_eq_true rfl⟩) ⟨fun a U g mk q => by obtain ⟨q0, q1, qP, qK, qD, qN⟩ := q; exact ⟨q0, q1, qP, va_K.moved (u := U) (U := U.calling g mk a) (Vm.Alike.refl U.vm) qK, qD, qN.same rfl⟩, va_recv hK hPc (ci := 9) (q0 := 0) rfl rfl, fun U hU hW => ⟨rfl, by rw [hU], by rw [hU]; exact hPc, va_K.moved hW.alike hK, hDc.weaken (fun _ _ _ _ => trivial), hN.warm hW⟩⟩ rfl rfl hl.1 rfl (lv_room (Nat.le_of_ble_eq_true rfl)) dX9_atom_101 ⟨Nat.le_of_ble_eq_true rfl, Nat.le_of_ble_eq_true rfl⟩) hS (fun q _ h => hFc q h) hFc (fun r_340 u_341 t H1 locs ht hvm hw_342 hB hz1 hk1 hS => ?_)
            obtain ⟨w_343, w_344, w_345⟩ := u_341
            try dsimp only at hw_342 hB
            obtain ⟨iv_346, iv_347, po_348, tk_349, nm_350⟩ := hw_342
            obtain ⟨hP1, hD1⟩ := hB
            rw [ht] at hP1
            obtain ⟨hP, hD⟩ := va_join (wr := [((am 13), .inl (cA 0, 5000, .inl f_step)), ((am 14), .inl (cA 0, 5000, .inl f_stepA)), ((am 15), .inl (cA 0, 5000, .inl f_stepB)), ((am 16), .inl (cA 0, 5000, .inl f_stepC))]) (w1 := [((am 0), .inr (9, F9 am v_status v_now v_told v_merges v_taped v_size w_343 w_344 v_fault w_345 v_traits v_length v_open v_leaks v_places v_models)), ((am 10), .inl (cA 3, 200, .inl f_tape))]) hP hD [4, 5] [0, 1, 2, 3] hCc rfl (by decide) (by decide) hk1 hFc hP1 hD1
            clear hz1
            generalize H1 = H at hP hS ⊢
            refine lv_istore_n (lv' := [(1, .int r_340), (0, .ref (am 0))]) hx hb dX9_atom_104 rfl hl (by decide) rfl (fun ls hl => ?_)
            refine lv_aload_n hx hb dX9_atom_105 rfl (lv_at hl 1 rfl) ?_
            obtain ⟨hPc, hDc, hFc, hCc⟩ := va_pre (ws' := [((am 0), .inr (9, F9 am v_status v_now v_told v_merges v_taped v_size w_343 w_344 v_fault w_345 v_traits v_length v_open v_leaks v_places v_models))]) hP hD hS hA [4] (by decide) rfl
            refine va_calli (va_runV (As := []) (rest := []) ⟨hx, hb, hml, hown, hts⟩ (k_X9_good l dC dI cA H.size am v_status v_now v_told v_merges v_taped v_size w_343 w_344 v_fault w_345 v_traits v_length v_open v_leaks v_places v_models i_v_now i_v_told i_v_taped i_v_size iv_346 iv_347 i_v_traits i_v_length i_v_open i_v_places i_v_models) (cwV 0 hts gX9_atom_X9_good rfl rfl rfl (by decide +kernel) ⟨Nat.le_of_ble_eq_true rfl, Nat.le_of_ble_eq_true rfl⟩) ⟨fun a U g mk q => by obtain ⟨q0, q1, qP, qK, qD, qN⟩ := q; exact ⟨q0, q1, qP, va_K.moved (u := U) (U := U.calling g mk a) (Vm.Alike.refl U.vm) qK, qD, qN.same rfl⟩, va_recv hK hPc (ci := 9) (q0 := 0) rfl rfl, fun U hU hW => ⟨rfl, by rw [hU], by rw [hU]; exact hPc, va_K.moved hW.alike hK, hDc.weaken (fun _ _ _ _ => trivial), hN.warm hW⟩⟩ rfl rfl hl.1 rfl (lv_room (Nat.le_of_ble_eq_true rfl)) dX9_atom_106 ⟨Nat.le_of_ble_eq_true rfl, Nat.le_of_ble_eq_true rfl⟩) hS (fun q _ h => hFc q h) hFc (fun r_351 u_352 t H1 locs ht hvm hw_353 hB hz1 hk1 hS => ?_)
            try dsimp only at hw_353 hB
            have po_354 := hw_353
            clear hw_353
            obtain ⟨hP1, hD1⟩ := hB
            rw [ht] at hP1
            obtain ⟨hP, hD⟩ := va_join (wr := [((am 13), .inl (cA 0, 5000, .inl f_step)), ((am 14), .inl (cA 0, 5000, .inl f_stepA)), ((am 15), .inl (cA 0, 5000, .inl f_stepB)), ((am 16), .inl (cA 0, 5000, .inl f_stepC)), ((am 10), .inl (cA 3, 200, .inl f_tape))]) (w1 := [((am 0), .inr (9, F9 am v_status v_now v_told v_merges v_taped v_size w_343 w_344 v_fault w_345 v_traits v_length v_open v_leaks v_places v_models))]) hP hD [4] [0, 1, 2, 3, 5] hCc rfl (by decide) (by decide) hk1 hFc hP1 hD1
            clear hz1
            generalize H1 = H at hP hS ⊢
            refine lv_if_eq (tgt := 121) hx hb dX9_atom_109 (by decide) (fun c_355 => ?_) (fun c_355 => ?_)
            · have dc_355 : r_351.toInt = 0 := jI_eq c_355 rfl (by decide)
              replace po_354 := gd_n po_354 dc_355
              replace po_348 := im5_n po_348
              refine lv_goto (tgt := 269) hx hb dX9_atom_121 (by decide) ?_
              obtain ⟨hP9, hD9⟩ := va_pd (ws' := [((am 0), .inr (9, F9 am v_status v_now v_told v_merges v_taped v_size w_343 w_344 v_fault w_345 v_traits v_length v_open v_leaks v_places v_models)), ((am 10), .inl (cA 3, 200, .inl f_tape)), ((am 13), .inl (cA 0, 5000, .inl f_step)), ((am 14), .inl (cA 0, 5000, .inl f_stepA)), ((am 15), .inl (cA 0, 5000, .inl f_stepB)), ((am 16), .inl (cA 0, 5000, .inl f_stepC))]) hP hD [5, 4, 0, 1, 2, 3] (by decide) rfl
              subst hQe
              have hpost : (0 ≤ w_343.toInt ∧ w_343.toInt ≤ 200) ∧ (0 ≤ w_344.toInt ∧ w_344.toInt ≤ 200) ∧ (0 ≤ v_length.toInt ∧ v_length.toInt ≤ 200) ∧ (0 ≤ v_open.toInt ∧ v_open.toInt ≤ 8) ∧ (v_from.toInt ≤ w_343.toInt ∧ w_343.toInt ≤ w_344.toInt ∧ w_344.toInt ≤ v_size.toInt ∧ (w_343.toInt < v_size.toInt → w_343.toInt < w_344.toInt) ∧ v_length.toInt - v_length.toInt ≤ w_343.toInt - v_from.toInt ∧ v_length.toInt ≤ v_length.toInt ∧ (w_345.toInt = (-1) → v_open.toInt = v_open.toInt)) ∧ (tokOK f_tape w_343 w_344 v_size) ∧ (prg f_step f_stepA f_step f_stepA (250 * v_traits.toInt.toNat) v_length.toInt.toNat v_length.toInt.toNat (w_345.toInt = (-1))) ∧ (rs w_345 w_343 w_344 v_leaks (orb f_step f_stepA (250 * v_traits.toInt.toNat) v_length.toInt.toNat) = patom (tpe f_tape v_size) v_size.toInt v_traits.toInt (pB (tpe f_tape v_size) v_size.toInt v_traits.toInt (8 - v_open.toInt).toNat) v_from.toInt v_to.toInt v_leaks.toInt (orb f_step f_stepA (250 * v_traits.toInt.toNat) v_length.toInt.toNat)) := ⟨iv_346, iv_347, i_v_length, i_v_open, by omega, tk_349, prg_rf hwp (by omega), (by have k9 : pkind (tpe f_tape v_size) v_from.toInt v_to.toInt = 1 := (by unfold pkind; rw [if_pos (tw_21.mp dc_22)]); rw [patom, if_neg (fun h => absurd (tp_7.mpr h) (fun q => q dc_8)), if_neg (fun h => absurd (tw_14.mpr h) (fun q => q dc_15)), if_neg (show ¬ pkind (tpe f_tape v_size) v_from.toInt v_to.toInt = (-1) by omega), if_pos k9, ← ad_336.2, ← ad_336.1, show v_traits.toInt - 1 = x_338.toInt by omega, nm_no nm_350 (by omega)]; exact rs_inl (by omega) (by omega))⟩
              exact W.vret hx hb hr (fun t ht hW => ⟨⟨(w_343, w_344, w_345, v_length, v_open, v_leaks, f_step, f_stepA, f_stepB, f_stepC), rfl, hpost, by rw [ht]; exact hP9, hD9⟩, hS.F ht⟩) hS.2.2 dX9_atom_269
            · have dc_355 : ¬ r_351.toInt = 0 := jI_ne c_355 rfl (by decide)
              replace po_354 := gd_y po_354 dc_355
              replace po_348 := im5_y po_348 po_354
              refine lv_aload_n hx hb dX9_atom_112 rfl (lv_at hl 1 rfl) ?_
              refine lv_bipush (v := 6) hx hb dX9_atom_113 (by decide) ?_
              refine lv_iload_n hx hb dX9_atom_115 rfl (lv_at hl 0 rfl) ?_
              refine lv_iconst (v := 0) hx hb dX9_atom_116 (by decide) ?_
              refine lv_iconst (v := 0) hx hb dX9_atom_117 (by decide) ?_
              have hk_356 : (6 : Int32).toInt = 6 := by decide
              have hk_357 : (0 : Int32).toInt = 0 := by decide
              obtain ⟨hPc, hDc, hFc, hCc⟩ := va_pre (ws' := [((am 0), .inr (9, F9 am v_status v_now v_told v_merges v_taped v_size w_343 w_344 v_fault w_345 v_traits v_length v_open v_leaks v_places v_models)), ((am 13), .inl (cA 0, 5000, .inl f_step)), ((am 14), .inl (cA 0, 5000, .inl f_stepA)), ((am 15), .inl (cA 0, 5000, .inl f_stepB)), ((am 16), .inl (cA 0, 5000, .inl f_stepC))]) hP hD hS hA [5, 0, 1, 2, 3] (by decide) rfl
              refine va_callv (va_runV (As := [.int 6, .int r_340, .int 0, .int 0]) (rest := []) ⟨hx, hb, hml, hown, hts⟩ (k_X9_puts l dC dI cA H.size am v_status v_now v_told v_merges v_taped v_size w_343 w_344 v_fault w_345 v_traits v_length v_open v_leaks v_places v_models f_step f_stepA f_stepB f_stepC 6 r_340 0 0 i_v_now i_v_told i_v_taped i_v_size iv_346 iv_347 i_v_traits i_v_length i_v_open i_v_places i_v_models htr (by omega)) (cwV 4 hts gX9_atom_X9_puts rfl rfl rfl (by decide +kernel) ⟨Nat.le_of_ble_eq_true rfl, Nat.le_of_ble_eq_true rfl⟩) ⟨fun a U g mk q => by obtain ⟨q0, q1, qP, qK, qD, qN⟩ := q; exact ⟨q0, q1, qP, va_K.moved (u := U) (U := U.calling g mk a) (Vm.Alike.refl U.vm) qK, qD, qN.same rfl⟩, va_recv hK hPc (ci := 9) (q0 := 0) rfl rfl, fun U hU hW => ⟨rfl, by rw [hU], by rw [hU]; exact hPc, va_K.moved hW.alike hK, hDc.weaken (fun _ _ _ _ => trivial), hN.warm hW⟩⟩ rfl rfl hl.1 rfl (lv_room (Nat.le_of_ble_eq_true rfl)) dX9_atom_118 ⟨Nat.le_of_ble_eq_true rfl, Nat.le_of_ble_eq_true rfl⟩) hS (fun q _ h => hFc q h) hFc (fun u_358 t H1 locs ht hvm hw_359 hB hz1 hk1 hS => ?_)
              obtain ⟨w_360, w_361, w_362, w_363, w_364⟩ := u_358
              try dsimp only at hw_359 hB
              obtain ⟨iv_365, po_366, es_367, eA_368⟩ := hw_359
              try simp only [hk_356, hk_357] at po_366 es_367 eA_368
              obtain ⟨hP1, hD1⟩ := hB
              rw [ht] at hP1
              obtain ⟨hP, hD⟩ := va_join (wr := [((am 10), .inl (cA 3, 200, .inl f_tape))]) (w1 := [((am 0), .inr (9, F9 am v_status v_now v_told v_merges v_taped v_size w_343 w_344 v_fault w_345 v_traits w_360 v_open v_leaks v_places v_models)), ((am 13), .inl (cA 0, 5000, .inl w_361)), ((am 14), .inl (cA 0, 5000, .inl w_362)), ((am 15), .inl (cA 0, 5000, .inl w_363)), ((am 16), .inl (cA 0, 5000, .inl w_364))]) hP hD [5, 0, 1, 2, 3] [4] hCc rfl (by decide) (by decide) hk1 hFc hP1 hD1
              clear hz1
              generalize H1 = H at hP hS ⊢
              refine lv_goto (tgt := 269) hx hb dX9_atom_121 (by decide) ?_
              obtain ⟨hP9, hD9⟩ := va_pd (ws' := [((am 0), .inr (9, F9 am v_status v_now v_told v_merges v_taped v_size w_343 w_344 v_fault w_345 v_traits w_360 v_open v_leaks v_places v_models)), ((am 10), .inl (cA 3, 200, .inl f_tape)), ((am 13), .inl (cA 0, 5000, .inl w_361)), ((am 14), .inl (cA 0, 5000, .inl w_362)), ((am 15), .inl (cA 0, 5000, .inl w_363)), ((am 16), .inl (cA 0, 5000, .inl w_364))]) hP hD [1, 0, 2, 3, 4, 5] (by decide) rfl
              subst hQe
              have hpost : (0 ≤ w_343.toInt ∧ w_343.toInt ≤ 200) ∧ (0 ≤ w_344.toInt ∧ w_344.toInt ≤ 200) ∧ (0 ≤ w_360.toInt ∧ w_360.toInt ≤ 200) ∧ (0 ≤ v_open.toInt ∧ v_open.toInt ≤ 8) ∧ (v_from.toInt ≤ w_343.toInt ∧ w_343.toInt ≤ w_344.toInt ∧ w_344.toInt ≤ v_size.toInt ∧ (w_343.toInt < v_size.toInt → w_343.toInt < w_344.toInt) ∧ w_360.toInt - v_length.toInt ≤ w_343.toInt - v_from.toInt ∧ v_length.toInt ≤ w_360.toInt ∧ (w_345.toInt = (-1) → v_open.toInt = v_open.toInt)) ∧ (tokOK f_tape w_343 w_344 v_size) ∧ (prg f_step f_stepA w_361 w_362 (250 * v_traits.toInt.toNat) v_length.toInt.toNat w_360.toInt.toNat (w_345.toInt = (-1))) ∧ (rs w_345 w_343 w_344 v_leaks (orb w_361 w_362 (250 * v_traits.toInt.toNat) w_360.toInt.toNat) = patom (tpe f_tape v_size) v_size.toInt v_traits.toInt (pB (tpe f_tape v_size) v_size.toInt v_traits.toInt (8 - v_open.toInt).toNat) v_from.toInt v_to.toInt v_leaks.toInt (orb f_step f_stepA (250 * v_traits.toInt.toNat) v_length.toInt.toNat)) := ⟨iv_346, iv_347, iv_365, i_v_open, by omega, tk_349, prg_push hwp (by omega) (by omega) es_367 eA_368 (by omega), (by have k9 : pkind (tpe f_tape v_size) v_from.toInt v_to.toInt = 1 := (by unfold pkind; rw [if_pos (tw_21.mp dc_22)]); rw [patom, if_neg (fun h => absurd (tp_7.mpr h) (fun q => q dc_8)), if_neg (fun h => absurd (tw_14.mpr h) (fun q => q dc_15)), if_neg (show ¬ pkind (tpe f_tape v_size) v_from.toInt v_to.toInt = (-1) by omega), if_pos k9, ← ad_336.2, ← ad_336.1, show v_traits.toInt - 1 = x_338.toInt by omega, nm_ok nm_350 (by omega)]; exact rs_inr (by omega) (by omega) (by omega) (by omega) (orb_6 (by first | omega | decide) es_367 eA_368 (by omega)))⟩
              exact W.vret hx hb hr (fun t ht hW => ⟨⟨(w_343, w_344, w_345, w_360, v_open, v_leaks, w_361, w_362, w_363, w_364), rfl, hpost, by rw [ht]; exact hP9, hD9⟩, hS.F ht⟩) hS.2.2 dX9_atom_269
          · have dc_339 : x_338.toInt < 0 := jI_nle c_339 (by decide) rfl
            exfalso; omega
        · have dc_337 : v_traits.toInt = 0 := jI_eq c_337 rfl (by decide)
          refine lv_iconst (v := (-1)) hx hb dX9_atom_77 (by decide) ?_
          refine lv_goto (tgt := 87) hx hb dX9_atom_78 (by decide) ?_
          refine lv_istore_n (lv' := [(1, .int (-1)), (0, .ref (am 0))]) hx hb dX9_atom_87 rfl hl (by decide) rfl (fun ls hl => ?_)
          refine lv_iload_n hx hb dX9_atom_88 rfl (lv_at hl 0 rfl) ?_
          refine lv_if_ge (tgt := 99) hx hb dX9_atom_89 (by decide) (fun c_369 => absurd c_369 (by decide)) (fun c_369 => ?_)
          refine lv_aload_n hx hb dX9_atom_92 rfl (lv_at hl 1 rfl) ?_
          obtain ⟨hPc, hDc, hFc, hCc⟩ := va_pre (ws' := [((am 0), .inr (9, F9 am v_status v_now v_told v_merges v_taped v_size w_330 w_331 v_fault v_readFault v_traits v_length v_open v_leaks v_places v_models))]) hP hD hS hA [4] (by decide) rfl
          refine va_callv (va_runV (As := []) (rest := []) ⟨hx, hb, hml, hown, hts⟩ (k_X9_faults l dC dI cA H.size am v_status v_now v_told v_merges v_taped v_size w_330 w_331 v_fault v_readFault v_traits v_length v_open v_leaks v_places v_models i_v_now i_v_told i_v_taped i_v_size iv_332 iv_333 i_v_traits i_v_length i_v_open i_v_places i_v_models hgd) (cwV 0 hts gX9_atom_X9_faults rfl rfl rfl (by decide +kernel) ⟨Nat.le_of_ble_eq_true rfl, Nat.le_of_ble_eq_true rfl⟩) ⟨fun a U g mk q => by obtain ⟨q0, q1, qP, qK, qD, qN⟩ := q; exact ⟨q0, q1, qP, va_K.moved (u := U) (U := U.calling g mk a) (Vm.Alike.refl U.vm) qK, qD, qN.same rfl⟩, va_recv hK hPc (ci := 9) (q0 := 0) rfl rfl, fun U hU hW => ⟨rfl, by rw [hU], by rw [hU]; exact hPc, va_K.moved hW.alike hK, hDc.weaken (fun _ _ _ _ => trivial), hN.warm hW⟩⟩ rfl rfl hl.1 rfl (lv_room (Nat.le_of_ble_eq_true rfl)) dX9_atom_93 ⟨Nat.le_of_ble_eq_true rfl, Nat.le_of_ble_eq_true rfl⟩) hS (fun q _ h => hFc q h) hFc (fun u_370 t H1 locs ht hvm hw_371 hB hz1 hk1 hS => ?_)
          obtain ⟨w_372, rfl⟩ : ∃ z, z = u_370 := ⟨_, rfl⟩
          try dsimp only at hw_371 hB
          have po_373 := hw_371
          clear hw_371
          obtain ⟨hP1, hD1⟩ := hB
          rw [ht] at hP1
          obtain ⟨hP, hD⟩ := va_join (wr := [((am 13), .inl (cA 0, 5000, .inl f_step)), ((am 14), .inl (cA 0, 5000, .inl f_stepA)), ((am 15), .inl (cA 0, 5000, .inl f_stepB)), ((am 16), .inl (cA 0, 5000, .inl f_stepC)), ((am 10), .inl (cA 3, 200, .inl f_tape))]) (w1 := [((am 0), .inr (9, F9 am v_status v_now v_told v_merges v_taped v_size w_330 w_331 v_fault w_372 v_traits v_length v_open v_leaks v_places v_models))]) hP hD [4] [0, 1, 2, 3, 5] hCc rfl (by decide) (by decide) hk1 hFc hP1 hD1
          clear hz1
          generalize H1 = H at hP hS ⊢
          refine lv_goto (tgt := 105) hx hb dX9_atom_96 (by decide) ?_
          refine lv_aload_n hx hb dX9_atom_105 rfl (lv_at hl 1 rfl) ?_
          obtain ⟨hPc, hDc, hFc, hCc⟩ := va_pre (ws' := [((am 0), .inr (9, F9 am v_status v_now v_told v_merges v_taped v_size w_330 w_331 v_fault w_372 v_traits v_length v_open v_leaks v_places v_models))]) hP hD hS hA [5] (by decide) rfl
          refine va_calli (va_runV (As := []) (rest := []) ⟨hx, hb, hml, hown, hts⟩ (k_X9_good l dC dI cA H.size am v_status v_now v_told v_merges v_taped v_size w_330 w_331 v_fault w_372 v_traits v_length v_open v_leaks v_places v_models i_v_now i_v_told i_v_taped i_v_size iv_332 iv_333 i_v_traits i_v_length i_v_open i_v_places i_v_models) (cwV 0 hts gX9_atom_X9_good rfl rfl rfl (by decide +kernel) ⟨Nat.le_of_ble_eq_true rfl, Nat.le_of_ble_eq_true rfl⟩) ⟨fun a U g mk q => by obtain ⟨q0, q1, qP, qK, qD, qN⟩ := q; exact ⟨q0, q1, qP, va_K.moved (u := U) (U := U.calling g mk a) (Vm.Alike.refl U.vm) qK, qD, qN.same rfl⟩, va_recv hK hPc (ci := 9) (q0 := 0) rfl rfl, fun U hU hW => ⟨rfl, by rw [hU], by rw [hU]; exact hPc, va_K.moved hW.alike hK, hDc.weaken (fun _ _ _ _ => trivial), hN.warm hW⟩⟩ rfl rfl hl.1 rfl (lv_room (Nat.le_of_ble_eq_true rfl)) dX9_atom_106 ⟨Nat.le_of_ble_eq_true rfl, Nat.le_of_ble_eq_true rfl⟩) hS (fun q _ h => hFc q h) hFc (fun r_374 u_375 t H1 locs ht hvm hw_376 hB hz1 hk1 hS => ?_)
          try dsimp only at hw_376 hB
          have po_377 := hw_376
          clear hw_376
          obtain ⟨hP1, hD1⟩ := hB
          rw [ht] at hP1
          obtain ⟨hP, hD⟩ := va_join (wr := [((am 13), .inl (cA 0, 5000, .inl f_step)), ((am 14), .inl (cA 0, 5000, .inl f_stepA)), ((am 15), .inl (cA 0, 5000, .inl f_stepB)), ((am 16), .inl (cA 0, 5000, .inl f_stepC)), ((am 10), .inl (cA 3, 200, .inl f_tape))]) (w1 := [((am 0), .inr (9, F9 am v_status v_now v_told v_merges v_taped v_size w_330 w_331 v_fault w_372 v_traits v_length v_open v_leaks v_places v_models))]) hP hD [5] [0, 1, 2, 3, 4] hCc rfl (by decide) (by decide) hk1 hFc hP1 hD1
          clear hz1
          generalize H1 = H at hP hS ⊢
          refine lv_if_eq (tgt := 121) hx hb dX9_atom_109 (by decide) (fun c_378 => ?_) (fun c_378 => ?_)
          · have dc_378 : r_374.toInt = 0 := jI_eq c_378 rfl (by decide)
            replace po_377 := gd_n po_377 dc_378
            refine lv_goto (tgt := 269) hx hb dX9_atom_121 (by decide) ?_
            obtain ⟨hP9, hD9⟩ := va_pd (ws' := [((am 0), .inr (9, F9 am v_status v_now v_told v_merges v_taped v_size w_330 w_331 v_fault w_372 v_traits v_length v_open v_leaks v_places v_models)), ((am 10), .inl (cA 3, 200, .inl f_tape)), ((am 13), .inl (cA 0, 5000, .inl f_step)), ((am 14), .inl (cA 0, 5000, .inl f_stepA)), ((am 15), .inl (cA 0, 5000, .inl f_stepB)), ((am 16), .inl (cA 0, 5000, .inl f_stepC))]) hP hD [5, 4, 0, 1, 2, 3] (by decide) rfl
            subst hQe
            have hpost : (0 ≤ w_330.toInt ∧ w_330.toInt ≤ 200) ∧ (0 ≤ w_331.toInt ∧ w_331.toInt ≤ 200) ∧ (0 ≤ v_length.toInt ∧ v_length.toInt ≤ 200) ∧ (0 ≤ v_open.toInt ∧ v_open.toInt ≤ 8) ∧ (v_from.toInt ≤ w_330.toInt ∧ w_330.toInt ≤ w_331.toInt ∧ w_331.toInt ≤ v_size.toInt ∧ (w_330.toInt < v_size.toInt → w_330.toInt < w_331.toInt) ∧ v_length.toInt - v_length.toInt ≤ w_330.toInt - v_from.toInt ∧ v_length.toInt ≤ v_length.toInt ∧ (w_372.toInt = (-1) → v_open.toInt = v_open.toInt)) ∧ (tokOK f_tape w_330 w_331 v_size) ∧ (prg f_step f_stepA f_step f_stepA (250 * v_traits.toInt.toNat) v_length.toInt.toNat v_length.toInt.toNat (w_372.toInt = (-1))) ∧ (rs w_372 w_330 w_331 v_leaks (orb f_step f_stepA (250 * v_traits.toInt.toNat) v_length.toInt.toNat) = patom (tpe f_tape v_size) v_size.toInt v_traits.toInt (pB (tpe f_tape v_size) v_size.toInt v_traits.toInt (8 - v_open.toInt).toNat) v_from.toInt v_to.toInt v_leaks.toInt (orb f_step f_stepA (250 * v_traits.toInt.toNat) v_length.toInt.toNat)) := ⟨iv_332, iv_333, i_v_length, i_v_open, by omega, tk_335, prg_rf hwp (by omega), (by have k9 : pkind (tpe f_tape v_size) v_from.toInt v_to.toInt = 1 := (by unfold pkind; rw [if_pos (tw_21.mp dc_22)]); rw [patom, if_neg (fun h => absurd (tp_7.mpr h) (fun q => q dc_8)), if_neg (fun h => absurd (tw_14.mpr h) (fun q => q dc_15)), if_neg (show ¬ pkind (tpe f_tape v_size) v_from.toInt v_to.toInt = (-1) by omega), if_pos k9, ← ad_336.2, ← ad_336.1, pnum_no (nOK_neg tk_335 (by omega) (by omega) (by omega))]; exact rs_inl (by omega) (by omega))⟩
            exact W.vret hx hb hr (fun t ht hW => ⟨⟨(w_330, w_331, w_372, v_length, v_open, v_leaks, f_step, f_stepA, f_stepB, f_stepC), rfl, hpost, by rw [ht]; exact hP9, hD9⟩, hS.F ht⟩) hS.2.2 dX9_atom_269
          · have dc_378 : ¬ r_374.toInt = 0 := jI_ne c_378 rfl (by decide)
            replace po_377 := gd_y po_377 dc_378
            exfalso; omega
    · have dc_15 : ¬ r_10.toInt = 0 := jI_ne c_15 rfl (by decide)
      replace po_13 := sg_y po_13 dc_15
      refine lv_aload_n hx hb dX9_atom_49 rfl (lv_at hl 0 rfl) ?_
      obtain ⟨hPc, hDc, hFc, hCc⟩ := va_pre (ws' := [((am 0), .inr (9, F9 am v_status v_now v_told v_merges v_taped v_size v_from v_to v_fault v_readFault v_traits v_length v_open v_leaks v_places v_models)), ((am 10), .inl (cA 3, 200, .inl f_tape)), ((am 13), .inl (cA 0, 5000, .inl f_step)), ((am 14), .inl (cA 0, 5000, .inl f_stepA)), ((am 15), .inl (cA 0, 5000, .inl f_stepB)), ((am 16), .inl (cA 0, 5000, .inl f_stepC))]) hP hD hS hA [4, 5, 0, 1, 2, 3] (by decide) rfl
      refine va_callv (va_runV (As := []) (rest := []) ⟨hx, hb, hml, hown, hts⟩ (k_X9_bracket l dC dI cA H.size am v_status v_now v_told v_merges v_taped v_size v_from v_to v_fault v_readFault v_traits v_length v_open v_leaks v_places v_models f_tape f_step f_stepA f_stepB f_stepC rl FR LO i_v_now i_v_told i_v_taped i_v_size i_v_from i_v_to i_v_traits i_v_length i_v_open i_v_places i_v_models htr hfr htk hfl hgd hwp hop ih (by omega)) (cwV 0 hts gX9_atom_X9_bracket rfl rfl rfl (by decide +kernel) ⟨(show (FR + 2) + 1 ≤ FR + 4 from fl_a (F := FR) (a := 2) (b := 1) (c := 4) (by decide)), (show 8 + (1 + 11) + (LO + 43) ≤ LO + 92 from fl_c (F := LO) (a := 8 + (1 + 11)) (b := 43) (c := 92) (by decide))⟩) ⟨fun a U g mk q => by obtain ⟨q0, q1, qP, qK, qD, qN⟩ := q; exact ⟨q0, q1, qP, va_K.moved (u := U) (U := U.calling g mk a) (Vm.Alike.refl U.vm) qK, qD, qN.same rfl⟩, va_recv hK hPc (ci := 9) (q0 := 0) rfl rfl, fun U hU hW => ⟨rfl, by rw [hU], by rw [hU]; exact hPc, va_K.moved hW.alike hK, hDc.weaken (fun _ _ _ _ => trivial), hN.warm hW⟩⟩ rfl rfl hl.1 rfl (lv_room (Nat.le_of_ble_eq_true rfl)) dX9_atom_50 ⟨(show 0 + 0 ≤ 0 by omega), (show 0 + 0 ≤ 0 by omega)⟩) hS (fun q _ h => hFc q h) hFc (fun u_379 t H1 locs ht hvm hw_380 hB hz1 hk1 hS => ?_)
      obtain ⟨w_381, w_382, w_383, w_384, w_385, w_386, w_387, w_388, w_389, w_390⟩ := u_379
      try dsimp only at hw_380 hB
      obtain ⟨iv_391, iv_392, iv_393, iv_394, po_395, tk_396, pg_397, rs_398⟩ := hw_380
      obtain ⟨hP1, hD1⟩ := hB
      rw [ht] at hP1
      obtain ⟨hP, hD⟩ := va_join (wr := []) (w1 := [((am 0), .inr (9, F9 am v_status v_now v_told v_merges v_taped v_size w_381 w_382 v_fault w_383 v_traits w_384 w_385 w_386 v_places v_models)), ((am 10), .inl (cA 3, 200, .inl f_tape)), ((am 13), .inl (cA 0, 5000, .inl w_387)), ((am 14), .inl (cA 0, 5000, .inl w_388)), ((am 15), .inl (cA 0, 5000, .inl w_389)), ((am 16), .inl (cA 0, 5000, .inl w_390))]) hP hD [4, 5, 0, 1, 2, 3] [] hCc rfl (by decide) (by decide) hk1 hFc hP1 hD1
      clear hz1
      generalize H1 = H at hP hS ⊢
      refine lv_goto (tgt := 269) hx hb dX9_atom_53 (by decide) ?_
      obtain ⟨hP9, hD9⟩ := va_pd (ws' := [((am 0), .inr (9, F9 am v_status v_now v_told v_merges v_taped v_size w_381 w_382 v_fault w_383 v_traits w_384 w_385 w_386 v_places v_models)), ((am 10), .inl (cA 3, 200, .inl f_tape)), ((am 13), .inl (cA 0, 5000, .inl w_387)), ((am 14), .inl (cA 0, 5000, .inl w_388)), ((am 15), .inl (cA 0, 5000, .inl w_389)), ((am 16), .inl (cA 0, 5000, .inl w_390))]) hP hD [0, 1, 2, 3, 4, 5] (by decide) rfl
      subst hQe
      have hpost : (0 ≤ w_381.toInt ∧ w_381.toInt ≤ 200) ∧ (0 ≤ w_382.toInt ∧ w_382.toInt ≤ 200) ∧ (0 ≤ w_384.toInt ∧ w_384.toInt ≤ 200) ∧ (0 ≤ w_385.toInt ∧ w_385.toInt ≤ 8) ∧ (v_from.toInt ≤ w_381.toInt ∧ w_381.toInt ≤ w_382.toInt ∧ w_382.toInt ≤ v_size.toInt ∧ (w_381.toInt < v_size.toInt → w_381.toInt < w_382.toInt) ∧ w_384.toInt - v_length.toInt ≤ w_381.toInt - v_from.toInt ∧ v_length.toInt ≤ w_384.toInt ∧ (w_383.toInt = (-1) → w_385.toInt = v_open.toInt)) ∧ (tokOK f_tape w_381 w_382 v_size) ∧ (prg f_step f_stepA w_387 w_388 (250 * v_traits.toInt.toNat) v_length.toInt.toNat w_384.toInt.toNat (w_383.toInt = (-1))) ∧ (rs w_383 w_381 w_382 w_386 (orb w_387 w_388 (250 * v_traits.toInt.toNat) w_384.toInt.toNat) = patom (tpe f_tape v_size) v_size.toInt v_traits.toInt (pB (tpe f_tape v_size) v_size.toInt v_traits.toInt (8 - v_open.toInt).toNat) v_from.toInt v_to.toInt v_leaks.toInt (orb f_step f_stepA (250 * v_traits.toInt.toNat) v_length.toInt.toNat)) := ⟨iv_391, iv_392, iv_393, iv_394, by omega, tk_396, pg_397, (by rw [patom, if_neg (fun h => absurd (tp_7.mpr h) (fun q => q dc_8)), if_pos (tw_14.mp dc_15)]; exact rs_398)⟩
      exact W.vret hx hb hr (fun t ht hW => ⟨⟨(w_381, w_382, w_383, w_384, w_385, w_386, w_387, w_388, w_389, w_390), rfl, hpost, by rw [ht]; exact hP9, hD9⟩, hS.F ht⟩) hS.2.2 dX9_atom_269
  · have dc_8 : ¬ r_3.toInt = 0 := jI_ne c_8 rfl (by decide)
    replace po_6 := dg_y po_6 dc_8
    refine lv_aload_n hx hb dX9_atom_15 rfl (lv_at hl 0 rfl) ?_
    refine lv_ldc hx hb hown (hts (.constant RX9 229 (1000000)) (by decide +kernel)) dX9_atom_16 ?_
    have hk_399 : (1000000 : Int32).toInt = 1000000 := by decide
    obtain ⟨hPc, hDc, hFc, hCc⟩ := va_pre (ws' := [((am 0), .inr (9, F9 am v_status v_now v_told v_merges v_taped v_size v_from v_to v_fault v_readFault v_traits v_length v_open v_leaks v_places v_models)), ((am 10), .inl (cA 3, 200, .inl f_tape))]) hP hD hS hA [4, 5] (by decide) rfl
    refine va_calli (va_runV (As := [.int 1000000]) (rest := []) ⟨hx, hb, hml, hown, hts⟩ (k_X9_number l dC dI cA H.size am v_status v_now v_told v_merges v_taped v_size v_from v_to v_fault v_readFault v_traits v_length v_open v_leaks v_places v_models f_tape 1000000 i_v_now i_v_told i_v_taped i_v_size i_v_from i_v_to i_v_traits i_v_length i_v_open i_v_places i_v_models hfr htk hgd (by omega)) (cwV 1 hts gX9_atom_X9_number rfl rfl rfl (by decide +kernel) ⟨Nat.le_of_ble_eq_true rfl, Nat.le_of_ble_eq_true rfl⟩) ⟨fun a U g mk q => by obtain ⟨q0, q1, qP, qK, qD, qN⟩ := q; exact ⟨q0, q1, qP, va_K.moved (u := U) (U := U.calling g mk a) (Vm.Alike.refl U.vm) qK, qD, qN.same rfl⟩, va_recv hK hPc (ci := 9) (q0 := 0) rfl rfl, fun U hU hW => ⟨rfl, by rw [hU], by rw [hU]; exact hPc, va_K.moved hW.alike hK, hDc.weaken (fun _ _ _ _ => trivial), hN.warm hW⟩⟩ rfl rfl hl.1 rfl (lv_room (Nat.le_of_ble_eq_true rfl)) dX9_atom_18 ⟨Nat.le_of_ble_eq_true rfl, Nat.le_of_ble_eq_true rfl⟩) hS (fun q _ h => hFc q h) hFc (fun r_400 u_401 t H1 locs ht hvm hw_402 hB hz1 hk1 hS => ?_)
    obtain ⟨w_403, w_404, w_405⟩ := u_401
    try dsimp only at hw_402 hB
    obtain ⟨iv_406, iv_407, po_408, tk_409, nm_410⟩ := hw_402
    try simp only [hk_399] at po_408 tk_409 nm_410
    obtain ⟨hP1, hD1⟩ := hB
    rw [ht] at hP1
    obtain ⟨hP, hD⟩ := va_join (wr := [((am 13), .inl (cA 0, 5000, .inl f_step)), ((am 14), .inl (cA 0, 5000, .inl f_stepA)), ((am 15), .inl (cA 0, 5000, .inl f_stepB)), ((am 16), .inl (cA 0, 5000, .inl f_stepC))]) (w1 := [((am 0), .inr (9, F9 am v_status v_now v_told v_merges v_taped v_size w_403 w_404 v_fault w_405 v_traits v_length v_open v_leaks v_places v_models)), ((am 10), .inl (cA 3, 200, .inl f_tape))]) hP hD [4, 5] [0, 1, 2, 3] hCc rfl (by decide) (by decide) hk1 hFc hP1 hD1
    clear hz1
    generalize H1 = H at hP hS ⊢
    refine lv_istore_n (lv' := [(1, .int r_400), (0, .ref (am 0))]) hx hb dX9_atom_21 rfl hl (by decide) rfl (fun ls hl => ?_)
    refine lv_aload_n hx hb dX9_atom_22 rfl (lv_at hl 1 rfl) ?_
    obtain ⟨hPc, hDc, hFc, hCc⟩ := va_pre (ws' := [((am 0), .inr (9, F9 am v_status v_now v_told v_merges v_taped v_size w_403 w_404 v_fault w_405 v_traits v_length v_open v_leaks v_places v_models))]) hP hD hS hA [4] (by decide) rfl
    refine va_calli (va_runV (As := []) (rest := []) ⟨hx, hb, hml, hown, hts⟩ (k_X9_good l dC dI cA H.size am v_status v_now v_told v_merges v_taped v_size w_403 w_404 v_fault w_405 v_traits v_length v_open v_leaks v_places v_models i_v_now i_v_told i_v_taped i_v_size iv_406 iv_407 i_v_traits i_v_length i_v_open i_v_places i_v_models) (cwV 0 hts gX9_atom_X9_good rfl rfl rfl (by decide +kernel) ⟨Nat.le_of_ble_eq_true rfl, Nat.le_of_ble_eq_true rfl⟩) ⟨fun a U g mk q => by obtain ⟨q0, q1, qP, qK, qD, qN⟩ := q; exact ⟨q0, q1, qP, va_K.moved (u := U) (U := U.calling g mk a) (Vm.Alike.refl U.vm) qK, qD, qN.same rfl⟩, va_recv hK hPc (ci := 9) (q0 := 0) rfl rfl, fun U hU hW => ⟨rfl, by rw [hU], by rw [hU]; exact hPc, va_K.moved hW.alike hK, hDc.weaken (fun _ _ _ _ => trivial), hN.warm hW⟩⟩ rfl rfl hl.1 rfl (lv_room (Nat.le_of_ble_eq_true rfl)) dX9_atom_23 ⟨Nat.le_of_ble_eq_true rfl, Nat.le_of_ble_eq_true rfl⟩) hS (fun q _ h => hFc q h) hFc (fun r_411 u_412 t H1 locs ht hvm hw_413 hB hz1 hk1 hS => ?_)
    try dsimp only at hw_413 hB
    have po_414 := hw_413
    clear hw_413
    obtain ⟨hP1, hD1⟩ := hB
    rw [ht] at hP1
    obtain ⟨hP, hD⟩ := va_join (wr := [((am 13), .inl (cA 0, 5000, .inl f_step)), ((am 14), .inl (cA 0, 5000, .inl f_stepA)), ((am 15), .inl (cA 0, 5000, .inl f_stepB)), ((am 16), .inl (cA 0, 5000, .inl f_stepC)), ((am 10), .inl (cA 3, 200, .inl f_tape))]) (w1 := [((am 0), .inr (9, F9 am v_status v_now v_told v_merges v_taped v_size w_403 w_404 v_fault w_405 v_traits v_length v_open v_leaks v_places v_models))]) hP hD [4] [0, 1, 2, 3, 5] hCc rfl (by decide) (by decide) hk1 hFc hP1 hD1
    clear hz1
    generalize H1 = H at hP hS ⊢
    refine lv_if_eq (tgt := 37) hx hb dX9_atom_26 (by decide) (fun c_415 => ?_) (fun c_415 => ?_)
    · have dc_415 : r_411.toInt = 0 := jI_eq c_415 rfl (by decide)
      replace po_414 := gd_n po_414 dc_415
      replace po_408 := im5_n po_408
      refine lv_goto (tgt := 269) hx hb dX9_atom_37 (by decide) ?_
      obtain ⟨hP9, hD9⟩ := va_pd (ws' := [((am 0), .inr (9, F9 am v_status v_now v_told v_merges v_taped v_size w_403 w_404 v_fault w_405 v_traits v_length v_open v_leaks v_places v_models)), ((am 10), .inl (cA 3, 200, .inl f_tape)), ((am 13), .inl (cA 0, 5000, .inl f_step)), ((am 14), .inl (cA 0, 5000, .inl f_stepA)), ((am 15), .inl (cA 0, 5000, .inl f_stepB)), ((am 16), .inl (cA 0, 5000, .inl f_stepC))]) hP hD [5, 4, 0, 1, 2, 3] (by decide) rfl
      subst hQe
      have hpost : (0 ≤ w_403.toInt ∧ w_403.toInt ≤ 200) ∧ (0 ≤ w_404.toInt ∧ w_404.toInt ≤ 200) ∧ (0 ≤ v_length.toInt ∧ v_length.toInt ≤ 200) ∧ (0 ≤ v_open.toInt ∧ v_open.toInt ≤ 8) ∧ (v_from.toInt ≤ w_403.toInt ∧ w_403.toInt ≤ w_404.toInt ∧ w_404.toInt ≤ v_size.toInt ∧ (w_403.toInt < v_size.toInt → w_403.toInt < w_404.toInt) ∧ v_length.toInt - v_length.toInt ≤ w_403.toInt - v_from.toInt ∧ v_length.toInt ≤ v_length.toInt ∧ (w_405.toInt = (-1) → v_open.toInt = v_open.toInt)) ∧ (tokOK f_tape w_403 w_404 v_size) ∧ (prg f_step f_stepA f_step f_stepA (250 * v_traits.toInt.toNat) v_length.toInt.toNat v_length.toInt.toNat (w_405.toInt = (-1))) ∧ (rs w_405 w_403 w_404 v_leaks (orb f_step f_stepA (250 * v_traits.toInt.toNat) v_length.toInt.toNat) = patom (tpe f_tape v_size) v_size.toInt v_traits.toInt (pB (tpe f_tape v_size) v_size.toInt v_traits.toInt (8 - v_open.toInt).toNat) v_from.toInt v_to.toInt v_leaks.toInt (orb f_step f_stepA (250 * v_traits.toInt.toNat) v_length.toInt.toNat)) := ⟨iv_406, iv_407, i_v_length, i_v_open, by omega, tk_409, prg_rf hwp (by omega), (by rw [patom, if_pos (tp_7.mp dc_8), nm_no nm_410 (by omega)]; exact rs_inl (by omega) (by omega))⟩
      exact W.vret hx hb hr (fun t ht hW => ⟨⟨(w_403, w_404, w_405, v_length, v_open, v_leaks, f_step, f_stepA, f_stepB, f_stepC), rfl, hpost, by rw [ht]; exact hP9, hD9⟩, hS.F ht⟩) hS.2.2 dX9_atom_269
    · have dc_415 : ¬ r_411.toInt = 0 := jI_ne c_415 rfl (by decide)
      replace po_414 := gd_y po_414 dc_415
      replace po_408 := im5_y po_408 po_414
      refine lv_aload_n hx hb dX9_atom_29 rfl (lv_at hl 1 rfl) ?_
      refine lv_iconst (v := 0) hx hb dX9_atom_30 (by decide) ?_
      refine lv_iload_n hx hb dX9_atom_31 rfl (lv_at hl 0 rfl) ?_
      refine lv_iconst (v := 0) hx hb dX9_atom_32 (by decide) ?_
      refine lv_iconst (v := 0) hx hb dX9_atom_33 (by decide) ?_
      have hk_416 : (0 : Int32).toInt = 0 := by decide
      obtain ⟨hPc, hDc, hFc, hCc⟩ := va_pre (ws' := [((am 0), .inr (9, F9 am v_status v_now v_told v_merges v_taped v_size w_403 w_404 v_fault w_405 v_traits v_length v_open v_leaks v_places v_models)), ((am 13), .inl (cA 0, 5000, .inl f_step)), ((am 14), .inl (cA 0, 5000, .inl f_stepA)), ((am 15), .inl (cA 0, 5000, .inl f_stepB)), ((am 16), .inl (cA 0, 5000, .inl f_stepC))]) hP hD hS hA [5, 0, 1, 2, 3] (by decide) rfl
      refine va_callv (va_runV (As := [.int 0, .int r_400, .int 0, .int 0]) (rest := []) ⟨hx, hb, hml, hown, hts⟩ (k_X9_puts l dC dI cA H.size am v_status v_now v_told v_merges v_taped v_size w_403 w_404 v_fault w_405 v_traits v_length v_open v_leaks v_places v_models f_step f_stepA f_stepB f_stepC 0 r_400 0 0 i_v_now i_v_told i_v_taped i_v_size iv_406 iv_407 i_v_traits i_v_length i_v_open i_v_places i_v_models htr (by omega)) (cwV 4 hts gX9_atom_X9_puts rfl rfl rfl (by decide +kernel) ⟨Nat.le_of_ble_eq_true rfl, Nat.le_of_ble_eq_true rfl⟩) ⟨fun a U g mk q => by obtain ⟨q0, q1, qP, qK, qD, qN⟩ := q; exact ⟨q0, q1, qP, va_K.moved (u := U) (U := U.calling g mk a) (Vm.Alike.refl U.vm) qK, qD, qN.same rfl⟩, va_recv hK hPc (ci := 9) (q0 := 0) rfl rfl, fun U hU hW => ⟨rfl, by rw [hU], by rw [hU]; exact hPc, va_K.moved hW.alike hK, hDc.weaken (fun _ _ _ _ => trivial), hN.warm hW⟩⟩ rfl rfl hl.1 rfl (lv_room (Nat.le_of_ble_eq_true rfl)) dX9_atom_34 ⟨Nat.le_of_ble_eq_true rfl, Nat.le_of_ble_eq_true rfl⟩) hS (fun q _ h => hFc q h) hFc (fun u_417 t H1 locs ht hvm hw_418 hB hz1 hk1 hS => ?_)
      obtain ⟨w_419, w_420, w_421, w_422, w_423⟩ := u_417
      try dsimp only at hw_418 hB
      obtain ⟨iv_424, po_425, es_426, eA_427⟩ := hw_418
      try simp only [hk_416] at po_425 es_426 eA_427
      obtain ⟨hP1, hD1⟩ := hB
      rw [ht] at hP1
      obtain ⟨hP, hD⟩ := va_join (wr := [((am 10), .inl (cA 3, 200, .inl f_tape))]) (w1 := [((am 0), .inr (9, F9 am v_status v_now v_told v_merges v_taped v_size w_403 w_404 v_fault w_405 v_traits w_419 v_open v_leaks v_places v_models)), ((am 13), .inl (cA 0, 5000, .inl w_420)), ((am 14), .inl (cA 0, 5000, .inl w_421)), ((am 15), .inl (cA 0, 5000, .inl w_422)), ((am 16), .inl (cA 0, 5000, .inl w_423))]) hP hD [5, 0, 1, 2, 3] [4] hCc rfl (by decide) (by decide) hk1 hFc hP1 hD1
      clear hz1
      generalize H1 = H at hP hS ⊢
      refine lv_goto (tgt := 269) hx hb dX9_atom_37 (by decide) ?_
      obtain ⟨hP9, hD9⟩ := va_pd (ws' := [((am 0), .inr (9, F9 am v_status v_now v_told v_merges v_taped v_size w_403 w_404 v_fault w_405 v_traits w_419 v_open v_leaks v_places v_models)), ((am 10), .inl (cA 3, 200, .inl f_tape)), ((am 13), .inl (cA 0, 5000, .inl w_420)), ((am 14), .inl (cA 0, 5000, .inl w_421)), ((am 15), .inl (cA 0, 5000, .inl w_422)), ((am 16), .inl (cA 0, 5000, .inl w_423))]) hP hD [1, 0, 2, 3, 4, 5] (by decide) rfl
      subst hQe
      have hpost : (0 ≤ w_403.toInt ∧ w_403.toInt ≤ 200) ∧ (0 ≤ w_404.toInt ∧ w_404.toInt ≤ 200) ∧ (0 ≤ w_419.toInt ∧ w_419.toInt ≤ 200) ∧ (0 ≤ v_open.toInt ∧ v_open.toInt ≤ 8) ∧ (v_from.toInt ≤ w_403.toInt ∧ w_403.toInt ≤ w_404.toInt ∧ w_404.toInt ≤ v_size.toInt ∧ (w_403.toInt < v_size.toInt → w_403.toInt < w_404.toInt) ∧ w_419.toInt - v_length.toInt ≤ w_403.toInt - v_from.toInt ∧ v_length.toInt ≤ w_419.toInt ∧ (w_405.toInt = (-1) → v_open.toInt = v_open.toInt)) ∧ (tokOK f_tape w_403 w_404 v_size) ∧ (prg f_step f_stepA w_420 w_421 (250 * v_traits.toInt.toNat) v_length.toInt.toNat w_419.toInt.toNat (w_405.toInt = (-1))) ∧ (rs w_405 w_403 w_404 v_leaks (orb w_420 w_421 (250 * v_traits.toInt.toNat) w_419.toInt.toNat) = patom (tpe f_tape v_size) v_size.toInt v_traits.toInt (pB (tpe f_tape v_size) v_size.toInt v_traits.toInt (8 - v_open.toInt).toNat) v_from.toInt v_to.toInt v_leaks.toInt (orb f_step f_stepA (250 * v_traits.toInt.toNat) v_length.toInt.toNat)) := ⟨iv_406, iv_407, iv_424, i_v_open, by omega, tk_409, prg_push hwp (by omega) (by omega) es_426 eA_427 (by omega), (by rw [patom, if_pos (tp_7.mp dc_8), nm_ok nm_410 (by omega)]; exact rs_inr (by omega) (by omega) (by omega) (by omega) (orb_0 (by first | omega | decide) es_426 eA_427 (by omega)))⟩
      exact W.vret hx hb hr (fun t ht hW => ⟨⟨(w_403, w_404, w_405, w_419, v_open, v_leaks, w_420, w_421, w_422, w_423), rfl, hpost, by rw [ht]; exact hP9, hD9⟩, hS.F ht⟩) hS.2.2 dX9_atom_269

set_option maxHeartbeats 8000000 in
set_option maxRecDepth 100000 in
theorem k_X9_part (l : Launch) (dC : Nat → ClassId) (dI : Nat → Nat → Nat) (cA : Nat → ClassId) (sz : Nat) (am : Nat → Nat) (v_status : Int32) (v_now : Int32) (v_told : Int32) (v_merges : Int32) (v_taped : Int32) (v_size : Int32) (v_from : Int32) (v_to : Int32) (v_fault : Int32) (v_readFault : Int32) (v_traits : Int32) (v_length : Int32) (v_open : Int32) (v_leaks : Int32) (v_places : Int32) (v_models : Int32) (f_tape : Nat → Int32) (f_step : Nat → Int32) (f_stepA : Nat → Int32) (f_stepB : Nat → Int32) (f_stepC : Nat → Int32) (rl : Nat) (FR : Nat) (LO : Nat) (i_v_now : 0 ≤ v_now.toInt ∧ v_now.toInt ≤ 100000) (i_v_told : 0 ≤ v_told.toInt ∧ v_told.toInt ≤ 400) (i_v_taped : 0 ≤ v_taped.toInt ∧ v_taped.toInt ≤ 200) (i_v_size : 0 ≤ v_size.toInt ∧ v_size.toInt ≤ 200) (i_v_from : 0 ≤ v_from.toInt ∧ v_from.toInt ≤ 200) (i_v_to : 0 ≤ v_to.toInt ∧ v_to.toInt ≤ 200) (i_v_traits : 0 ≤ v_traits.toInt ∧ v_traits.toInt ≤ 20) (i_v_length : 0 ≤ v_length.toInt ∧ v_length.toInt ≤ 200) (i_v_open : 0 ≤ v_open.toInt ∧ v_open.toInt ≤ 8) (i_v_places : 0 ≤ v_places.toInt ∧ v_places.toInt ≤ 2000) (i_v_models : 0 ≤ v_models.toInt ∧ v_models.toInt ≤ 10) (htr : v_traits.toInt ≤ 19) (hfr : v_from.toInt ≤ v_to.toInt ∧ v_to.toInt ≤ v_size.toInt ∧ (v_from.toInt < v_size.toInt → v_from.toInt < v_to.toInt)) (htk : tokOK f_tape v_from v_to v_size) (hfl : v_length.toInt ≤ v_from.toInt) (hgd : v_readFault.toInt = (-1)) (hwp : wfp f_step f_stepA (250 * v_traits.toInt.toNat) v_length.toInt.toNat) (hop : 8 - v_open.toInt ≤ (rl : Int)) (ih : 0 < rl → SumC l dC dI cA (rl - 1) FR LO) : Met l yX9_part wsX9_part ({ frames := FR + 5, cells := 0, slots := 0, locals := LO + 114 }) (va_Pc [.ref (am 0)] (fun U => U.heap.size = sz ∧ va_P (dC, dI) vwCl [((am 0), .inr (9, F9 am v_status v_now v_told v_merges v_taped v_size v_from v_to v_fault v_readFault v_traits v_length v_open v_leaks v_places v_models)), ((am 10), .inl (cA 3, 200, .inl f_tape)), ((am 13), .inl (cA 0, 5000, .inl f_step)), ((am 14), .inl (cA 0, 5000, .inl f_stepA)), ((am 15), .inl (cA 0, 5000, .inl f_stepB)), ((am 16), .inl (cA 0, 5000, .inl f_stepC))] U.heap ∧ va_K (dC, dI) vwCl (tyL cA) U ∧ va_D (fun _ => True) [((am 0), .inr (9, F9 am v_status v_now v_told v_merges v_taped v_size v_from v_to v_fault v_readFault v_traits v_length v_open v_leaks v_places v_models)), ((am 10), .inl (cA 3, 200, .inl f_tape)), ((am 13), .inl (cA 0, 5000, .inl f_step)), ((am 14), .inl (cA 0, 5000, .inl f_stepA)), ((am 15), .inl (cA 0, 5000, .inl f_stepB)), ((am 16), .inl (cA 0, 5000, .inl f_stepC))] ∧ nw_ok U)) (va_Qv (fun (u : Int32 × Int32 × Int32 × Int32 × Int32 × Int32 × (Nat → Int32) × (Nat → Int32) × (Nat → Int32) × (Nat → Int32)) => (0 ≤ u.1.toInt ∧ u.1.toInt ≤ 200) ∧ (0 ≤ u.2.1.toInt ∧ u.2.1.toInt ≤ 200) ∧ (0 ≤ u.2.2.2.1.toInt ∧ u.2.2.2.1.toInt ≤ 200) ∧ (0 ≤ u.2.2.2.2.1.toInt ∧ u.2.2.2.2.1.toInt ≤ 8) ∧ (v_from.toInt ≤ u.1.toInt ∧ u.1.toInt ≤ u.2.1.toInt ∧ u.2.1.toInt ≤ v_size.toInt ∧ (u.1.toInt < v_size.toInt → u.1.toInt < u.2.1.toInt) ∧ u.2.2.2.1.toInt - v_length.toInt ≤ u.1.toInt - v_from.toInt ∧ v_length.toInt ≤ u.2.2.2.1.toInt ∧ (u.2.2.1.toInt = (-1) → u.2.2.2.2.1.toInt = v_open.toInt)) ∧ (tokOK f_tape u.1 u.2.1 v_size) ∧ (prg f_step f_stepA u.2.2.2.2.2.2.1 u.2.2.2.2.2.2.2.1 (250 * v_traits.toInt.toNat) v_length.toInt.toNat u.2.2.2.1.toInt.toNat (u.2.2.1.toInt = (-1))) ∧ (rs u.2.2.1 u.1 u.2.1 u.2.2.2.2.2.1 (orb u.2.2.2.2.2.2.1 u.2.2.2.2.2.2.2.1 (250 * v_traits.toInt.toNat) u.2.2.2.1.toInt.toNat) = ppart (tpe f_tape v_size) v_size.toInt v_traits.toInt (pB (tpe f_tape v_size) v_size.toInt v_traits.toInt (8 - v_open.toInt).toNat) v_from.toInt v_to.toInt v_leaks.toInt (orb f_step f_stepA (250 * v_traits.toInt.toNat) v_length.toInt.toNat))) (fun (u : Int32 × Int32 × Int32 × Int32 × Int32 × Int32 × (Nat → Int32) × (Nat → Int32) × (Nat → Int32) × (Nat → Int32)) (t : State) => va_P (dC, dI) vwCl [((am 0), .inr (9, F9 am v_status v_now v_told v_merges v_taped v_size u.1 u.2.1 v_fault u.2.2.1 v_traits u.2.2.2.1 u.2.2.2.2.1 u.2.2.2.2.2.1 v_places v_models)), ((am 10), .inl (cA 3, 200, .inl f_tape)), ((am 13), .inl (cA 0, 5000, .inl u.2.2.2.2.2.2.1)), ((am 14), .inl (cA 0, 5000, .inl u.2.2.2.2.2.2.2.1)), ((am 15), .inl (cA 0, 5000, .inl u.2.2.2.2.2.2.2.2.1)), ((am 16), .inl (cA 0, 5000, .inl u.2.2.2.2.2.2.2.2.2))] t.heap ∧ va_D (va_A [((am 0), .inr (9, F9 am v_status v_now v_told v_merges v_taped v_size v_from v_to v_fault v_readFault v_traits v_length v_open v_leaks v_places v_models)), ((am 10), .inl (cA 3, 200, .inl f_tape)), ((am 13), .inl (cA 0, 5000, .inl f_step)), ((am 14), .inl (cA 0, 5000, .inl f_stepA)), ((am 15), .inl (cA 0, 5000, .inl f_stepB)), ((am 16), .inl (cA 0, 5000, .inl f_stepC))] sz) [((am 0), .inr (9, F9 am v_status v_now v_told v_merges v_taped v_size u.1 u.2.1 v_fault u.2.2.1 v_traits u.2.2.2.1 u.2.2.2.2.1 u.2.2.2.2.2.1 v_places v_models)), ((am 10), .inl (cA 3, 200, .inl f_tape)), ((am 13), .inl (cA 0, 5000, .inl u.2.2.2.2.2.2.1)), ((am 14), .inl (cA 0, 5000, .inl u.2.2.2.2.2.2.2.1)), ((am 15), .inl (cA 0, 5000, .inl u.2.2.2.2.2.2.2.2.1)), ((am 16), .inl (cA 0, 5000, .inl u.2.2.2.2.2.2.2.2.2))]) (va_A [((am 0), .inr (9, F9 am v_status v_now v_told v_merges v_taped v_size v_from v_to v_fault v_readFault v_traits v_length v_open v_leaks v_places v_models)), ((am 10), .inl (cA 3, 200, .inl f_tape)), ((am 13), .inl (cA 0, 5000, .inl f_step)), ((am 14), .inl (cA 0, 5000, .inl f_stepA)), ((am 15), .inl (cA 0, 5000, .inl f_stepB)), ((am 16), .inl (cA 0, 5000, .inl f_stepC))] sz)) 0 0 (va_A [((am 0), .inr (9, F9 am v_status v_now v_told v_merges v_taped v_size v_from v_to v_fault v_readFault v_traits v_length v_open v_leaks v_places v_models)), ((am 10), .inl (cA 3, 200, .inl f_tape)), ((am 13), .inl (cA 0, 5000, .inl f_step)), ((am 14), .inl (cA 0, 5000, .inl f_stepA)), ((am 15), .inl (cA 0, 5000, .inl f_stepB)), ((am 16), .inl (cA 0, 5000, .inl f_stepC))] sz) := by
  refine Met.ofW (cc := cX9_part) (maxL := 2) (ret := none) (by decide) rfl ?_
  intro p e s m args below meth c s₁ B hml hv
  obtain ⟨rfl, hsz, hP, hK, hD0, hN⟩ := hv
  have hx := B.exec
  have hb := B.bytes
  have hr := B.returns
  have hts := atoms_spec (ws := wsX9_part) B.pre
  have hown : s.vm.findClass RX9 = some m.cls := findClass_of_methodNamed B.named
  have hlocks := B.notSynchronized
  subst hsz
  have hD := hD0.self (sz := s.heap.size)
  generalize hAe : va_A [((am 0), .inr (9, F9 am v_status v_now v_told v_merges v_taped v_size v_from v_to v_fault v_readFault v_traits v_length v_open v_leaks v_places v_models)), ((am 10), .inl (cA 3, 200, .inl f_tape)), ((am 13), .inl (cA 0, 5000, .inl f_step)), ((am 14), .inl (cA 0, 5000, .inl f_stepA)), ((am 15), .inl (cA 0, 5000, .inl f_stepB)), ((am 16), .inl (cA 0, 5000, .inl f_stepC))] s.heap.size = A at hD ⊢
  have hA : ∀ q : Nat, s.heap.size ≤ q → A q := fun q h => by rw [← hAe]; exact Or.inr h
  have hS : va_S A s.heap s.heap [] := va_S.rf
  have hl := lv_entry ([.ref (am 0)]) (n := 2) (Nat.le_of_ble_eq_true rfl)
  rw [lg_entry_eq]
  generalize (lg_sl ([.ref (am 0)]) ++ List.replicate (2 - (lg_sl ([.ref (am 0)])).length) Slot.unset).toArray = ls at hl ⊢
  have hl : lv_has ls 2 [(0, .ref (am 0))] := hl
  generalize hQe : MQ below _ _ _ _ _ _ = QQ
  refine lv_aload_n hx hb dX9_part_0 rfl (lv_at hl 0 rfl) ?_
  obtain ⟨hPc, hDc, hFc, hCc⟩ := va_pre (ws' := [((am 0), .inr (9, F9 am v_status v_now v_told v_merges v_taped v_size v_from v_to v_fault v_readFault v_traits v_length v_open v_leaks v_places v_models)), ((am 10), .inl (cA 3, 200, .inl f_tape)), ((am 13), .inl (cA 0, 5000, .inl f_step)), ((am 14), .inl (cA 0, 5000, .inl f_stepA)), ((am 15), .inl (cA 0, 5000, .inl f_stepB)), ((am 16), .inl (cA 0, 5000, .inl f_stepC))]) hP hD hS hA [0, 1, 2, 3, 4, 5] (by decide) rfl
  refine va_callv (va_runV (As := []) (rest := []) ⟨hx, hb, hml, hown, hts⟩ (k_X9_atom l dC dI cA s.heap.size am v_status v_now v_told v_merges v_taped v_size v_from v_to v_fault v_readFault v_traits v_length v_open v_leaks v_places v_models f_tape f_step f_stepA f_stepB f_stepC rl FR LO i_v_now i_v_told i_v_taped i_v_size i_v_from i_v_to i_v_traits i_v_length i_v_open i_v_places i_v_models htr hfr htk hfl hgd hwp hop ih) (cwV 0 hts gX9_part_X9_atom rfl rfl rfl (by decide +kernel) ⟨(show (FR + 4) + 1 ≤ FR + 5 from fl_a (F := FR) (a := 4) (b := 1) (c := 5) (by decide)), (show 8 + (3 + 11) + (LO + 92) ≤ LO + 114 from fl_c (F := LO) (a := 8 + (3 + 11)) (b := 92) (c := 114) (by decide))⟩) ⟨fun a U g mk q => by obtain ⟨q0, q1, qP, qK, qD, qN⟩ := q; exact ⟨q0, q1, qP, va_K.moved (u := U) (U := U.calling g mk a) (Vm.Alike.refl U.vm) qK, qD, qN.same rfl⟩, va_recv hK hPc (ci := 9) (q0 := 0) rfl rfl, fun U hU hW => ⟨rfl, by rw [hU], by rw [hU]; exact hPc, va_K.moved hW.alike hK, hDc.weaken (fun _ _ _ _ => trivial), hN.warm hW⟩⟩ rfl rfl hl.1 rfl (lv_room (Nat.le_of_ble_eq_true rfl)) dX9_part_1 ⟨(show 0 + 0 ≤ 0 by omega), (show 0 + 0 ≤ 0 by omega)⟩) hS (fun q _ h => hFc q h) hFc (fun u_1 t H1 locs ht hvm hw_2 hB hz1 hk1 hS => ?_)
  obtain ⟨w_3, w_4, w_5, w_6, w_7, w_8, w_9, w_10, w_11, w_12⟩ := u_1
  try dsimp only at hw_2 hB
  obtain ⟨iv_13, iv_14, iv_15, iv_16, po_17, tk_18, pg_19, rs_20⟩ := hw_2
  obtain ⟨hP1, hD1⟩ := hB
  rw [ht] at hP1
  obtain ⟨hP, hD⟩ := va_join (wr := []) (w1 := [((am 0), .inr (9, F9 am v_status v_now v_told v_merges v_taped v_size w_3 w_4 v_fault w_5 v_traits w_6 w_7 w_8 v_places v_models)), ((am 10), .inl (cA 3, 200, .inl f_tape)), ((am 13), .inl (cA 0, 5000, .inl w_9)), ((am 14), .inl (cA 0, 5000, .inl w_10)), ((am 15), .inl (cA 0, 5000, .inl w_11)), ((am 16), .inl (cA 0, 5000, .inl w_12))]) hP hD [0, 1, 2, 3, 4, 5] [] hCc rfl (by decide) (by decide) hk1 hFc hP1 hD1
  clear hz1
  generalize H1 = H at hP hS ⊢
  refine lv_aload_n hx hb dX9_part_4 rfl (lv_at hl 0 rfl) ?_
  obtain ⟨hPc, hDc, hFc, hCc⟩ := va_pre (ws' := [((am 0), .inr (9, F9 am v_status v_now v_told v_merges v_taped v_size w_3 w_4 v_fault w_5 v_traits w_6 w_7 w_8 v_places v_models))]) hP hD hS hA [0] (by decide) rfl
  refine va_calli (va_runV (As := []) (rest := []) ⟨hx, hb, hml, hown, hts⟩ (k_X9_good l dC dI cA H.size am v_status v_now v_told v_merges v_taped v_size w_3 w_4 v_fault w_5 v_traits w_6 w_7 w_8 v_places v_models i_v_now i_v_told i_v_taped i_v_size iv_13 iv_14 i_v_traits iv_15 iv_16 i_v_places i_v_models) (cwV 0 hts gX9_part_X9_good rfl rfl rfl (by decide +kernel) ⟨Nat.le_of_ble_eq_true rfl, Nat.le_of_ble_eq_true rfl⟩) ⟨fun a U g mk q => by obtain ⟨q0, q1, qP, qK, qD, qN⟩ := q; exact ⟨q0, q1, qP, va_K.moved (u := U) (U := U.calling g mk a) (Vm.Alike.refl U.vm) qK, qD, qN.same rfl⟩, va_recv hK hPc (ci := 9) (q0 := 0) rfl rfl, fun U hU hW => ⟨rfl, by rw [hU], by rw [hU]; exact hPc, va_K.moved hW.alike hK, hDc.weaken (fun _ _ _ _ => trivial), hN.warm hW⟩⟩ rfl rfl hl.1 rfl (lv_room (Nat.le_of_ble_eq_true rfl)) dX9_part_5 ⟨Nat.le_of_ble_eq_true rfl, Nat.le_of_ble_eq_true rfl⟩) hS (fun q _ h => hFc q h) hFc (fun r_21 u_22 t H1 locs ht hvm hw_23 hB hz1 hk1 hS => ?_)
  try dsimp only at hw_23 hB
  have po_24 := hw_23
  clear hw_23
  obtain ⟨hP1, hD1⟩ := hB
  rw [ht] at hP1
  obtain ⟨hP, hD⟩ := va_join (wr := [((am 10), .inl (cA 3, 200, .inl f_tape)), ((am 13), .inl (cA 0, 5000, .inl w_9)), ((am 14), .inl (cA 0, 5000, .inl w_10)), ((am 15), .inl (cA 0, 5000, .inl w_11)), ((am 16), .inl (cA 0, 5000, .inl w_12))]) (w1 := [((am 0), .inr (9, F9 am v_status v_now v_told v_merges v_taped v_size w_3 w_4 v_fault w_5 v_traits w_6 w_7 w_8 v_places v_models))]) hP hD [0] [1, 2, 3, 4, 5] hCc rfl (by decide) (by decide) hk1 hFc hP1 hD1
  clear hz1
  generalize H1 = H at hP hS ⊢
  refine lv_if_eq (tgt := 21) hx hb dX9_part_8 (by decide) (fun c_25 => ?_) (fun c_25 => ?_)
  · have dc_25 : r_21.toInt = 0 := jI_eq c_25 rfl (by decide)
    replace po_24 := gd_n po_24 dc_25
    replace po_17 := im7_n po_17
    obtain ⟨hP9, hD9⟩ := va_pd (ws' := [((am 0), .inr (9, F9 am v_status v_now v_told v_merges v_taped v_size w_3 w_4 v_fault w_5 v_traits w_6 w_7 w_8 v_places v_models)), ((am 10), .inl (cA 3, 200, .inl f_tape)), ((am 13), .inl (cA 0, 5000, .inl w_9)), ((am 14), .inl (cA 0, 5000, .inl w_10)), ((am 15), .inl (cA 0, 5000, .inl w_11)), ((am 16), .inl (cA 0, 5000, .inl w_12))]) hP hD [5, 0, 1, 2, 3, 4] (by decide) rfl
    subst hQe
    have hpost : (0 ≤ w_3.toInt ∧ w_3.toInt ≤ 200) ∧ (0 ≤ w_4.toInt ∧ w_4.toInt ≤ 200) ∧ (0 ≤ w_6.toInt ∧ w_6.toInt ≤ 200) ∧ (0 ≤ w_7.toInt ∧ w_7.toInt ≤ 8) ∧ (v_from.toInt ≤ w_3.toInt ∧ w_3.toInt ≤ w_4.toInt ∧ w_4.toInt ≤ v_size.toInt ∧ (w_3.toInt < v_size.toInt → w_3.toInt < w_4.toInt) ∧ w_6.toInt - v_length.toInt ≤ w_3.toInt - v_from.toInt ∧ v_length.toInt ≤ w_6.toInt ∧ (w_5.toInt = (-1) → w_7.toInt = v_open.toInt)) ∧ (tokOK f_tape w_3 w_4 v_size) ∧ (prg f_step f_stepA w_9 w_10 (250 * v_traits.toInt.toNat) v_length.toInt.toNat w_6.toInt.toNat (w_5.toInt = (-1))) ∧ (rs w_5 w_3 w_4 w_8 (orb w_9 w_10 (250 * v_traits.toInt.toNat) w_6.toInt.toNat) = ppart (tpe f_tape v_size) v_size.toInt v_traits.toInt (pB (tpe f_tape v_size) v_size.toInt v_traits.toInt (8 - v_open.toInt).toNat) v_from.toInt v_to.toInt v_leaks.toInt (orb f_step f_stepA (250 * v_traits.toInt.toNat) v_length.toInt.toNat)) := ⟨iv_13, iv_14, iv_15, iv_16, by omega, tk_18, prg_same pg_19 (fun h => by omega), (by rw [ppart, bnd_no rs_20 (by omega)]; exact rs_inl (by omega) (by omega))⟩
    exact W.vret hx hb hr (fun t ht hW => ⟨⟨(w_3, w_4, w_5, w_6, w_7, w_8, w_9, w_10, w_11, w_12), rfl, hpost, by rw [ht]; exact hP9, hD9⟩, hS.F ht⟩) hS.2.2 dX9_part_21
  · have dc_25 : ¬ r_21.toInt = 0 := jI_ne c_25 rfl (by decide)
    replace po_24 := gd_y po_24 dc_25
    replace po_17 := im7_y po_17 po_24
    refine lv_aload_n hx hb dX9_part_11 rfl (lv_at hl 0 rfl) ?_
    refine lv_ldc2 hx hb hown (hts (.constantLong RX9 223 (183685)) (by decide +kernel)) dX9_part_12 ?_
    have hk_26 : (183685 : Int64).toInt = 183685 := by decide
    obtain ⟨hPc, hDc, hFc, hCc⟩ := va_pre (ws' := [((am 0), .inr (9, F9 am v_status v_now v_told v_merges v_taped v_size w_3 w_4 v_fault w_5 v_traits w_6 w_7 w_8 v_places v_models)), ((am 10), .inl (cA 3, 200, .inl f_tape))]) hP hD hS hA [5, 0] (by decide) rfl
    refine va_calli (va_runV (As := [.long 183685]) (rest := []) ⟨hx, hb, hml, hown, hts⟩ (k_X9_isWord l dC dI cA H.size am v_status v_now v_told v_merges v_taped v_size w_3 w_4 v_fault w_5 v_traits w_6 w_7 w_8 v_places v_models f_tape 183685 i_v_now i_v_told i_v_taped i_v_size iv_13 iv_14 i_v_traits iv_15 iv_16 i_v_places i_v_models (by omega) (by omega) (by omega)) (cwV 1 hts gX9_part_X9_isWord rfl rfl rfl (by decide +kernel) ⟨Nat.le_of_ble_eq_true rfl, Nat.le_of_ble_eq_true rfl⟩) ⟨fun a U g mk q => by obtain ⟨q0, q1, qP, qK, qD, qN⟩ := q; exact ⟨q0, q1, qP, va_K.moved (u := U) (U := U.calling g mk a) (Vm.Alike.refl U.vm) qK, qD, qN.same rfl⟩, va_recv hK hPc (ci := 9) (q0 := 0) rfl rfl, fun U hU hW => ⟨rfl, by rw [hU], by rw [hU]; exact hPc, va_K.moved hW.alike hK, hDc.weaken (fun _ _ _ _ => trivial), hN.warm hW⟩⟩ rfl rfl hl.1 rfl (lv_room (Nat.le_of_ble_eq_true rfl)) dX9_part_15 ⟨Nat.le_of_ble_eq_true rfl, Nat.le_of_ble_eq_true rfl⟩) hS (fun q _ h => hFc q h) hFc (fun r_27 u_28 t H1 locs ht hvm hw_29 hB hz1 hk1 hS => ?_)
    try dsimp only at hw_29 hB
    obtain ⟨po_30, tw_31⟩ := hw_29
    try simp only [hk_26] at po_30 tw_31
    obtain ⟨hP1, hD1⟩ := hB
    rw [ht] at hP1
    obtain ⟨hP, hD⟩ := va_join (wr := [((am 13), .inl (cA 0, 5000, .inl w_9)), ((am 14), .inl (cA 0, 5000, .inl w_10)), ((am 15), .inl (cA 0, 5000, .inl w_11)), ((am 16), .inl (cA 0, 5000, .inl w_12))]) (w1 := [((am 0), .inr (9, F9 am v_status v_now v_told v_merges v_taped v_size w_3 w_4 v_fault w_5 v_traits w_6 w_7 w_8 v_places v_models)), ((am 10), .inl (cA 3, 200, .inl f_tape))]) hP hD [5, 0] [1, 2, 3, 4] hCc rfl (by decide) (by decide) hk1 hFc hP1 hD1
    clear hz1
    rw [twd_Else] at tw_31
    generalize H1 = H at hP hS ⊢
    replace hP : va_P (dC, dI) vwCl [((am 13), .inl (cA 0, 5000, .inl w_9)), ((am 14), .inl (cA 0, 5000, .inl w_10)), ((am 15), .inl (cA 0, 5000, .inl w_11)), ((am 16), .inl (cA 0, 5000, .inl w_12)), ((am 0), .inr (9, F9 am v_status v_now v_told v_merges v_taped v_size w_3 w_4 v_fault w_5 v_traits w_6 w_7 w_8 v_places v_models)), ((am 10), .inl (cA 3, 200, .inl f_tape))] H := hP
    replace hD : va_D A [((am 13), .inl (cA 0, 5000, .inl w_9)), ((am 14), .inl (cA 0, 5000, .inl w_10)), ((am 15), .inl (cA 0, 5000, .inl w_11)), ((am 16), .inl (cA 0, 5000, .inl w_12)), ((am 0), .inr (9, F9 am v_status v_now v_told v_merges v_taped v_size w_3 w_4 v_fault w_5 v_traits w_6 w_7 w_8 v_places v_models)), ((am 10), .inl (cA 3, 200, .inl f_tape))] := hD
    refine lv_if_ne (tgt := 22) hx hb dX9_part_18 (by decide) (fun c_32 => ?_) (fun c_32 => ?_)
    · have dc_32 : ¬ r_27.toInt = 0 := jI_ne c_32 rfl (by decide)
      replace po_30 := sg_y po_30 dc_32
      refine lv_aload_n hx hb dX9_part_22 rfl (lv_at hl 0 rfl) ?_
      obtain ⟨hPc, hDc, hFc, hCc⟩ := va_pre (ws' := [((am 0), .inr (9, F9 am v_status v_now v_told v_merges v_taped v_size w_3 w_4 v_fault w_5 v_traits w_6 w_7 w_8 v_places v_models)), ((am 10), .inl (cA 3, 200, .inl f_tape))]) hP hD hS hA [4, 5] (by decide) rfl
      refine va_callv (va_runV (As := []) (rest := []) ⟨hx, hb, hml, hown, hts⟩ (k_X9_next l dC dI cA H.size am v_status v_now v_told v_merges v_taped v_size w_3 w_4 v_fault w_5 v_traits w_6 w_7 w_8 v_places v_models f_tape i_v_now i_v_told i_v_taped i_v_size iv_13 iv_14 i_v_traits iv_15 iv_16 i_v_places i_v_models (by omega)) (cwV 0 hts gX9_part_X9_next rfl rfl rfl (by decide +kernel) ⟨Nat.le_of_ble_eq_true rfl, Nat.le_of_ble_eq_true rfl⟩) ⟨fun a U g mk q => by obtain ⟨q0, q1, qP, qK, qD, qN⟩ := q; exact ⟨q0, q1, qP, va_K.moved (u := U) (U := U.calling g mk a) (Vm.Alike.refl U.vm) qK, qD, qN.same rfl⟩, va_recv hK hPc (ci := 9) (q0 := 0) rfl rfl, fun U hU hW => ⟨rfl, by rw [hU], by rw [hU]; exact hPc, va_K.moved hW.alike hK, hDc.weaken (fun _ _ _ _ => trivial), hN.warm hW⟩⟩ rfl rfl hl.1 rfl (lv_room (Nat.le_of_ble_eq_true rfl)) dX9_part_23 ⟨Nat.le_of_ble_eq_true rfl, Nat.le_of_ble_eq_true rfl⟩) hS (fun q _ h => hFc q h) hFc (fun u_33 t H1 locs ht hvm hw_34 hB hz1 hk1 hS => ?_)
      obtain ⟨w_35, w_36⟩ := u_33
      try dsimp only at hw_34 hB
      obtain ⟨iv_37, iv_38, po_39, tk_40, ad_41⟩ := hw_34
      obtain ⟨hP1, hD1⟩ := hB
      rw [ht] at hP1
      obtain ⟨hP, hD⟩ := va_join (wr := [((am 13), .inl (cA 0, 5000, .inl w_9)), ((am 14), .inl (cA 0, 5000, .inl w_10)), ((am 15), .inl (cA 0, 5000, .inl w_11)), ((am 16), .inl (cA 0, 5000, .inl w_12))]) (w1 := [((am 0), .inr (9, F9 am v_status v_now v_told v_merges v_taped v_size w_35 w_36 v_fault w_5 v_traits w_6 w_7 w_8 v_places v_models)), ((am 10), .inl (cA 3, 200, .inl f_tape))]) hP hD [4, 5] [0, 1, 2, 3] hCc rfl (by decide) (by decide) hk1 hFc hP1 hD1
      clear hz1
      generalize H1 = H at hP hS ⊢
      refine lv_aload_n hx hb dX9_part_26 rfl (lv_at hl 0 rfl) ?_
      refine lv_ldc hx hb hown (hts (.constant RX9 229 (1000000)) (by decide +kernel)) dX9_part_27 ?_
      have hk_42 : (1000000 : Int32).toInt = 1000000 := by decide
      obtain ⟨hPc, hDc, hFc, hCc⟩ := va_pre (ws' := [((am 0), .inr (9, F9 am v_status v_now v_told v_merges v_taped v_size w_35 w_36 v_fault w_5 v_traits w_6 w_7 w_8 v_places v_models)), ((am 10), .inl (cA 3, 200, .inl f_tape))]) hP hD hS hA [4, 5] (by decide) rfl
      refine va_calli (va_runV (As := [.int 1000000]) (rest := []) ⟨hx, hb, hml, hown, hts⟩ (k_X9_number l dC dI cA H.size am v_status v_now v_told v_merges v_taped v_size w_35 w_36 v_fault w_5 v_traits w_6 w_7 w_8 v_places v_models f_tape 1000000 i_v_now i_v_told i_v_taped i_v_size iv_37 iv_38 i_v_traits iv_15 iv_16 i_v_places i_v_models (by omega) tk_40 (by omega) (by omega)) (cwV 1 hts gX9_part_X9_number rfl rfl rfl (by decide +kernel) ⟨Nat.le_of_ble_eq_true rfl, Nat.le_of_ble_eq_true rfl⟩) ⟨fun a U g mk q => by obtain ⟨q0, q1, qP, qK, qD, qN⟩ := q; exact ⟨q0, q1, qP, va_K.moved (u := U) (U := U.calling g mk a) (Vm.Alike.refl U.vm) qK, qD, qN.same rfl⟩, va_recv hK hPc (ci := 9) (q0 := 0) rfl rfl, fun U hU hW => ⟨rfl, by rw [hU], by rw [hU]; exact hPc, va_K.moved hW.alike hK, hDc.weaken (fun _ _ _ _ => trivial), hN.warm hW⟩⟩ rfl rfl hl.1 rfl (lv_room (Nat.le_of_ble_eq_true rfl)) dX9_part_29 ⟨Nat.le_of_ble_eq_true rfl, Nat.le_of_ble_eq_true rfl⟩) hS (fun q _ h => hFc q h) hFc (fun r_43 u_44 t H1 locs ht hvm hw_45 hB hz1 hk1 hS => ?_)
      obtain ⟨w_46, w_47, w_48⟩ := u_44
      try dsimp only at hw_45 hB
      obtain ⟨iv_49, iv_50, po_51, tk_52, nm_53⟩ := hw_45
      try simp only [hk_42] at po_51 tk_52 nm_53
      obtain ⟨hP1, hD1⟩ := hB
      rw [ht] at hP1
      obtain ⟨hP, hD⟩ := va_join (wr := [((am 13), .inl (cA 0, 5000, .inl w_9)), ((am 14), .inl (cA 0, 5000, .inl w_10)), ((am 15), .inl (cA 0, 5000, .inl w_11)), ((am 16), .inl (cA 0, 5000, .inl w_12))]) (w1 := [((am 0), .inr (9, F9 am v_status v_now v_told v_merges v_taped v_size w_46 w_47 v_fault w_48 v_traits w_6 w_7 w_8 v_places v_models)), ((am 10), .inl (cA 3, 200, .inl f_tape))]) hP hD [4, 5] [0, 1, 2, 3] hCc rfl (by decide) (by decide) hk1 hFc hP1 hD1
      clear hz1
      generalize H1 = H at hP hS ⊢
      refine lv_istore_n (lv' := [(1, .int r_43), (0, .ref (am 0))]) hx hb dX9_part_32 rfl hl (by decide) rfl (fun ls hl => ?_)
      refine lv_aload_n hx hb dX9_part_33 rfl (lv_at hl 1 rfl) ?_
      obtain ⟨hPc, hDc, hFc, hCc⟩ := va_pre (ws' := [((am 0), .inr (9, F9 am v_status v_now v_told v_merges v_taped v_size w_46 w_47 v_fault w_48 v_traits w_6 w_7 w_8 v_places v_models))]) hP hD hS hA [4] (by decide) rfl
      refine va_calli (va_runV (As := []) (rest := []) ⟨hx, hb, hml, hown, hts⟩ (k_X9_good l dC dI cA H.size am v_status v_now v_told v_merges v_taped v_size w_46 w_47 v_fault w_48 v_traits w_6 w_7 w_8 v_places v_models i_v_now i_v_told i_v_taped i_v_size iv_49 iv_50 i_v_traits iv_15 iv_16 i_v_places i_v_models) (cwV 0 hts gX9_part_X9_good rfl rfl rfl (by decide +kernel) ⟨Nat.le_of_ble_eq_true rfl, Nat.le_of_ble_eq_true rfl⟩) ⟨fun a U g mk q => by obtain ⟨q0, q1, qP, qK, qD, qN⟩ := q; exact ⟨q0, q1, qP, va_K.moved (u := U) (U := U.calling g mk a) (Vm.Alike.refl U.vm) qK, qD, qN.same rfl⟩, va_recv hK hPc (ci := 9) (q0 := 0) rfl rfl, fun U hU hW => ⟨rfl, by rw [hU], by rw [hU]; exact hPc, va_K.moved hW.alike hK, hDc.weaken (fun _ _ _ _ => trivial), hN.warm hW⟩⟩ rfl rfl hl.1 rfl (lv_room (Nat.le_of_ble_eq_true rfl)) dX9_part_34 ⟨Nat.le_of_ble_eq_true rfl, Nat.le_of_ble_eq_true rfl⟩) hS (fun q _ h => hFc q h) hFc (fun r_54 u_55 t H1 locs ht hvm hw_56 hB hz1 hk1 hS => ?_)
      try dsimp only at hw_56 hB
      have po_57 := hw_56
      clear hw_56
      obtain ⟨hP1, hD1⟩ := hB
      rw [ht] at hP1
      obtain ⟨hP, hD⟩ := va_join (wr := [((am 13), .inl (cA 0, 5000, .inl w_9)), ((am 14), .inl (cA 0, 5000, .inl w_10)), ((am 15), .inl (cA 0, 5000, .inl w_11)), ((am 16), .inl (cA 0, 5000, .inl w_12)), ((am 10), .inl (cA 3, 200, .inl f_tape))]) (w1 := [((am 0), .inr (9, F9 am v_status v_now v_told v_merges v_taped v_size w_46 w_47 v_fault w_48 v_traits w_6 w_7 w_8 v_places v_models))]) hP hD [4] [0, 1, 2, 3, 5] hCc rfl (by decide) (by decide) hk1 hFc hP1 hD1
      clear hz1
      generalize H1 = H at hP hS ⊢
      refine lv_if_eq (tgt := 48) hx hb dX9_part_37 (by decide) (fun c_58 => ?_) (fun c_58 => ?_)
      · have dc_58 : r_54.toInt = 0 := jI_eq c_58 rfl (by decide)
        replace po_57 := gd_n po_57 dc_58
        replace po_51 := im5_n po_51
        obtain ⟨hP9, hD9⟩ := va_pd (ws' := [((am 0), .inr (9, F9 am v_status v_now v_told v_merges v_taped v_size w_46 w_47 v_fault w_48 v_traits w_6 w_7 w_8 v_places v_models)), ((am 10), .inl (cA 3, 200, .inl f_tape)), ((am 13), .inl (cA 0, 5000, .inl w_9)), ((am 14), .inl (cA 0, 5000, .inl w_10)), ((am 15), .inl (cA 0, 5000, .inl w_11)), ((am 16), .inl (cA 0, 5000, .inl w_12))]) hP hD [5, 4, 0, 1, 2, 3] (by decide) rfl
        subst hQe
        have hpost : (0 ≤ w_46.toInt ∧ w_46.toInt ≤ 200) ∧ (0 ≤ w_47.toInt ∧ w_47.toInt ≤ 200) ∧ (0 ≤ w_6.toInt ∧ w_6.toInt ≤ 200) ∧ (0 ≤ w_7.toInt ∧ w_7.toInt ≤ 8) ∧ (v_from.toInt ≤ w_46.toInt ∧ w_46.toInt ≤ w_47.toInt ∧ w_47.toInt ≤ v_size.toInt ∧ (w_46.toInt < v_size.toInt → w_46.toInt < w_47.toInt) ∧ w_6.toInt - v_length.toInt ≤ w_46.toInt - v_from.toInt ∧ v_length.toInt ≤ w_6.toInt ∧ (w_48.toInt = (-1) → w_7.toInt = v_open.toInt)) ∧ (tokOK f_tape w_46 w_47 v_size) ∧ (prg f_step f_stepA w_9 w_10 (250 * v_traits.toInt.toNat) v_length.toInt.toNat w_6.toInt.toNat (w_48.toInt = (-1))) ∧ (rs w_48 w_46 w_47 w_8 (orb w_9 w_10 (250 * v_traits.toInt.toNat) w_6.toInt.toNat) = ppart (tpe f_tape v_size) v_size.toInt v_traits.toInt (pB (tpe f_tape v_size) v_size.toInt v_traits.toInt (8 - v_open.toInt).toNat) v_from.toInt v_to.toInt v_leaks.toInt (orb f_step f_stepA (250 * v_traits.toInt.toNat) v_length.toInt.toNat)) := ⟨iv_49, iv_50, iv_15, iv_16, by omega, tk_52, prg_same pg_19 (fun h => by omega), (by rw [ppart, bnd_ok rs_20 (by omega), if_pos (tw_31.mp dc_32), ← ad_41.2, ← ad_41.1, nm_no nm_53 (by omega)]; exact rs_inl (by omega) (by omega))⟩
        exact W.vret hx hb hr (fun t ht hW => ⟨⟨(w_46, w_47, w_48, w_6, w_7, w_8, w_9, w_10, w_11, w_12), rfl, hpost, by rw [ht]; exact hP9, hD9⟩, hS.F ht⟩) hS.2.2 dX9_part_48
      · have dc_58 : ¬ r_54.toInt = 0 := jI_ne c_58 rfl (by decide)
        replace po_57 := gd_y po_57 dc_58
        replace po_51 := im5_y po_51 po_57
        refine lv_aload_n hx hb dX9_part_40 rfl (lv_at hl 1 rfl) ?_
        refine lv_iconst (v := 5) hx hb dX9_part_41 (by decide) ?_
        refine lv_iload_n hx hb dX9_part_42 rfl (lv_at hl 0 rfl) ?_
        refine lv_iconst (v := 0) hx hb dX9_part_43 (by decide) ?_
        refine lv_iconst (v := 0) hx hb dX9_part_44 (by decide) ?_
        have hk_59 : (5 : Int32).toInt = 5 := by decide
        have hk_60 : (0 : Int32).toInt = 0 := by decide
        obtain ⟨hPc, hDc, hFc, hCc⟩ := va_pre (ws' := [((am 0), .inr (9, F9 am v_status v_now v_told v_merges v_taped v_size w_46 w_47 v_fault w_48 v_traits w_6 w_7 w_8 v_places v_models)), ((am 13), .inl (cA 0, 5000, .inl w_9)), ((am 14), .inl (cA 0, 5000, .inl w_10)), ((am 15), .inl (cA 0, 5000, .inl w_11)), ((am 16), .inl (cA 0, 5000, .inl w_12))]) hP hD hS hA [5, 0, 1, 2, 3] (by decide) rfl
        refine va_callv (va_runV (As := [.int 5, .int r_43, .int 0, .int 0]) (rest := []) ⟨hx, hb, hml, hown, hts⟩ (k_X9_puts l dC dI cA H.size am v_status v_now v_told v_merges v_taped v_size w_46 w_47 v_fault w_48 v_traits w_6 w_7 w_8 v_places v_models w_9 w_10 w_11 w_12 5 r_43 0 0 i_v_now i_v_told i_v_taped i_v_size iv_49 iv_50 i_v_traits iv_15 iv_16 i_v_places i_v_models htr (by omega)) (cwV 4 hts gX9_part_X9_puts rfl rfl rfl (by decide +kernel) ⟨Nat.le_of_ble_eq_true rfl, Nat.le_of_ble_eq_true rfl⟩) ⟨fun a U g mk q => by obtain ⟨q0, q1, qP, qK, qD, qN⟩ := q; exact ⟨q0, q1, qP, va_K.moved (u := U) (U := U.calling g mk a) (Vm.Alike.refl U.vm) qK, qD, qN.same rfl⟩, va_recv hK hPc (ci := 9) (q0 := 0) rfl rfl, fun U hU hW => ⟨rfl, by rw [hU], by rw [hU]; exact hPc, va_K.moved hW.alike hK, hDc.weaken (fun _ _ _ _ => trivial), hN.warm hW⟩⟩ rfl rfl hl.1 rfl (lv_room (Nat.le_of_ble_eq_true rfl)) dX9_part_45 ⟨Nat.le_of_ble_eq_true rfl, Nat.le_of_ble_eq_true rfl⟩) hS (fun q _ h => hFc q h) hFc (fun u_61 t H1 locs ht hvm hw_62 hB hz1 hk1 hS => ?_)
        obtain ⟨w_63, w_64, w_65, w_66, w_67⟩ := u_61
        try dsimp only at hw_62 hB
        obtain ⟨iv_68, po_69, es_70, eA_71⟩ := hw_62
        try simp only [hk_59, hk_60] at po_69 es_70 eA_71
        obtain ⟨hP1, hD1⟩ := hB
        rw [ht] at hP1
        obtain ⟨hP, hD⟩ := va_join (wr := [((am 10), .inl (cA 3, 200, .inl f_tape))]) (w1 := [((am 0), .inr (9, F9 am v_status v_now v_told v_merges v_taped v_size w_46 w_47 v_fault w_48 v_traits w_63 w_7 w_8 v_places v_models)), ((am 13), .inl (cA 0, 5000, .inl w_64)), ((am 14), .inl (cA 0, 5000, .inl w_65)), ((am 15), .inl (cA 0, 5000, .inl w_66)), ((am 16), .inl (cA 0, 5000, .inl w_67))]) hP hD [5, 0, 1, 2, 3] [4] hCc rfl (by decide) (by decide) hk1 hFc hP1 hD1
        clear hz1
        generalize H1 = H at hP hS ⊢
        obtain ⟨hP9, hD9⟩ := va_pd (ws' := [((am 0), .inr (9, F9 am v_status v_now v_told v_merges v_taped v_size w_46 w_47 v_fault w_48 v_traits w_63 w_7 w_8 v_places v_models)), ((am 10), .inl (cA 3, 200, .inl f_tape)), ((am 13), .inl (cA 0, 5000, .inl w_64)), ((am 14), .inl (cA 0, 5000, .inl w_65)), ((am 15), .inl (cA 0, 5000, .inl w_66)), ((am 16), .inl (cA 0, 5000, .inl w_67))]) hP hD [1, 0, 2, 3, 4, 5] (by decide) rfl
        subst hQe
        have hpost : (0 ≤ w_46.toInt ∧ w_46.toInt ≤ 200) ∧ (0 ≤ w_47.toInt ∧ w_47.toInt ≤ 200) ∧ (0 ≤ w_63.toInt ∧ w_63.toInt ≤ 200) ∧ (0 ≤ w_7.toInt ∧ w_7.toInt ≤ 8) ∧ (v_from.toInt ≤ w_46.toInt ∧ w_46.toInt ≤ w_47.toInt ∧ w_47.toInt ≤ v_size.toInt ∧ (w_46.toInt < v_size.toInt → w_46.toInt < w_47.toInt) ∧ w_63.toInt - v_length.toInt ≤ w_46.toInt - v_from.toInt ∧ v_length.toInt ≤ w_63.toInt ∧ (w_48.toInt = (-1) → w_7.toInt = v_open.toInt)) ∧ (tokOK f_tape w_46 w_47 v_size) ∧ (prg f_step f_stepA w_64 w_65 (250 * v_traits.toInt.toNat) v_length.toInt.toNat w_63.toInt.toNat (w_48.toInt = (-1))) ∧ (rs w_48 w_46 w_47 w_8 (orb w_64 w_65 (250 * v_traits.toInt.toNat) w_63.toInt.toNat) = ppart (tpe f_tape v_size) v_size.toInt v_traits.toInt (pB (tpe f_tape v_size) v_size.toInt v_traits.toInt (8 - v_open.toInt).toNat) v_from.toInt v_to.toInt v_leaks.toInt (orb f_step f_stepA (250 * v_traits.toInt.toNat) v_length.toInt.toNat)) := ⟨iv_49, iv_50, iv_68, iv_16, by omega, tk_52, prg_else hwp pg_19 (by omega) (by first | omega | decide) es_70 eA_71 (by omega), (by rw [ppart, bnd_ok rs_20 (by omega), if_pos (tw_31.mp dc_32), ← ad_41.2, ← ad_41.1, nm_ok nm_53 (by omega)]; exact rs_inr (by omega) (by omega) (by omega) (by omega) (orb_0 (by first | omega | decide) es_70 eA_71 (by omega)))⟩
        exact W.vret hx hb hr (fun t ht hW => ⟨⟨(w_46, w_47, w_48, w_63, w_7, w_8, w_64, w_65, w_66, w_67), rfl, hpost, by rw [ht]; exact hP9, hD9⟩, hS.F ht⟩) hS.2.2 dX9_part_48
    · have dc_32 : r_27.toInt = 0 := jI_eq c_32 rfl (by decide)
      replace po_30 := sg_n po_30
      obtain ⟨hP9, hD9⟩ := va_pd (ws' := [((am 0), .inr (9, F9 am v_status v_now v_told v_merges v_taped v_size w_3 w_4 v_fault w_5 v_traits w_6 w_7 w_8 v_places v_models)), ((am 10), .inl (cA 3, 200, .inl f_tape)), ((am 13), .inl (cA 0, 5000, .inl w_9)), ((am 14), .inl (cA 0, 5000, .inl w_10)), ((am 15), .inl (cA 0, 5000, .inl w_11)), ((am 16), .inl (cA 0, 5000, .inl w_12))]) hP hD [4, 5, 0, 1, 2, 3] (by decide) rfl
      subst hQe
      have hpost : (0 ≤ w_3.toInt ∧ w_3.toInt ≤ 200) ∧ (0 ≤ w_4.toInt ∧ w_4.toInt ≤ 200) ∧ (0 ≤ w_6.toInt ∧ w_6.toInt ≤ 200) ∧ (0 ≤ w_7.toInt ∧ w_7.toInt ≤ 8) ∧ (v_from.toInt ≤ w_3.toInt ∧ w_3.toInt ≤ w_4.toInt ∧ w_4.toInt ≤ v_size.toInt ∧ (w_3.toInt < v_size.toInt → w_3.toInt < w_4.toInt) ∧ w_6.toInt - v_length.toInt ≤ w_3.toInt - v_from.toInt ∧ v_length.toInt ≤ w_6.toInt ∧ (w_5.toInt = (-1) → w_7.toInt = v_open.toInt)) ∧ (tokOK f_tape w_3 w_4 v_size) ∧ (prg f_step f_stepA w_9 w_10 (250 * v_traits.toInt.toNat) v_length.toInt.toNat w_6.toInt.toNat (w_5.toInt = (-1))) ∧ (rs w_5 w_3 w_4 w_8 (orb w_9 w_10 (250 * v_traits.toInt.toNat) w_6.toInt.toNat) = ppart (tpe f_tape v_size) v_size.toInt v_traits.toInt (pB (tpe f_tape v_size) v_size.toInt v_traits.toInt (8 - v_open.toInt).toNat) v_from.toInt v_to.toInt v_leaks.toInt (orb f_step f_stepA (250 * v_traits.toInt.toNat) v_length.toInt.toNat)) := ⟨iv_13, iv_14, iv_15, iv_16, by omega, tk_18, prg_same pg_19 (fun h => by omega), (by rw [ppart, bnd_ok rs_20 (by omega), if_neg (fun h => absurd (tw_31.mpr h) (fun q => q dc_32))]; exact rs_inr (by omega) rfl rfl rfl rfl)⟩
      exact W.vret hx hb hr (fun t ht hW => ⟨⟨(w_3, w_4, w_5, w_6, w_7, w_8, w_9, w_10, w_11, w_12), rfl, hpost, by rw [ht]; exact hP9, hD9⟩, hS.F ht⟩) hS.2.2 dX9_part_21
