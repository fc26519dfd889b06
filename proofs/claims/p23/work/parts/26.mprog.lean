theorem dX9_counts_0 : decode cX9_counts 0 = .ok (.aload_n 0, 1) := by decide +kernel
theorem dX9_counts_1 : decode cX9_counts 1 = .ok (.getfield 25, 3) := by decide +kernel
theorem dX9_counts_4 : decode cX9_counts 4 = .ok (.iload_n 1, 1) := by decide +kernel
theorem dX9_counts_5 : decode cX9_counts 5 = .ok (.baload, 1) := by decide +kernel
theorem dX9_counts_6 : decode cX9_counts 6 = .ok (.ifCond .ne 52, 3) := by decide +kernel
theorem dX9_counts_58 : decode cX9_counts 58 = .ok (.iconst 0, 1) := by decide +kernel
theorem dX9_counts_59 : decode cX9_counts 59 = .ok (.ireturn, 1) := by decide +kernel
theorem dX9_counts_9 : decode cX9_counts 9 = .ok (.aload_n 0, 1) := by decide +kernel
theorem dX9_counts_10 : decode cX9_counts 10 = .ok (.getfield 13, 3) := by decide +kernel
theorem dX9_counts_13 : decode cX9_counts 13 = .ok (.iload_n 1, 1) := by decide +kernel
theorem dX9_counts_14 : decode cX9_counts 14 = .ok (.iaload, 1) := by decide +kernel
theorem dX9_counts_15 : decode cX9_counts 15 = .ok (.iload_n 2, 1) := by decide +kernel
theorem dX9_counts_16 : decode cX9_counts 16 = .ok (.if_icmp .ne 42, 3) := by decide +kernel
theorem dX9_counts_19 : decode cX9_counts 19 = .ok (.aload_n 0, 1) := by decide +kernel
theorem dX9_counts_20 : decode cX9_counts 20 = .ok (.getfield 71, 3) := by decide +kernel
theorem dX9_counts_23 : decode cX9_counts 23 = .ok (.aload_n 0, 1) := by decide +kernel
theorem dX9_counts_24 : decode cX9_counts 24 = .ok (.getfield 7, 3) := by decide +kernel
theorem dX9_counts_27 : decode cX9_counts 27 = .ok (.iload_n 1, 1) := by decide +kernel
theorem dX9_counts_28 : decode cX9_counts 28 = .ok (.iaload, 1) := by decide +kernel
theorem dX9_counts_29 : decode cX9_counts 29 = .ok (.baload, 1) := by decide +kernel
theorem dX9_counts_30 : decode cX9_counts 30 = .ok (.ifCond .eq 28, 3) := by decide +kernel
theorem dX9_counts_33 : decode cX9_counts 33 = .ok (.aload_n 0, 1) := by decide +kernel
theorem dX9_counts_34 : decode cX9_counts 34 = .ok (.getfield 16, 3) := by decide +kernel
theorem dX9_counts_37 : decode cX9_counts 37 = .ok (.iload_n 1, 1) := by decide +kernel
theorem dX9_counts_38 : decode cX9_counts 38 = .ok (.iaload, 1) := by decide +kernel
theorem dX9_counts_39 : decode cX9_counts 39 = .ok (.iload_n 3, 1) := by decide +kernel
theorem dX9_counts_40 : decode cX9_counts 40 = .ok (.if_icmp .gt 18, 3) := by decide +kernel
theorem dX9_counts_43 : decode cX9_counts 43 = .ok (.aload_n 0, 1) := by decide +kernel
theorem dX9_counts_44 : decode cX9_counts 44 = .ok (.getfield 19, 3) := by decide +kernel
theorem dX9_counts_47 : decode cX9_counts 47 = .ok (.iload_n 1, 1) := by decide +kernel
theorem dX9_counts_48 : decode cX9_counts 48 = .ok (.iaload, 1) := by decide +kernel
theorem dX9_counts_49 : decode cX9_counts 49 = .ok (.iload 4, 2) := by decide +kernel
theorem dX9_counts_51 : decode cX9_counts 51 = .ok (.if_icmp .gt 7, 3) := by decide +kernel
theorem dX9_counts_54 : decode cX9_counts 54 = .ok (.iconst 1, 1) := by decide +kernel
theorem dX9_counts_55 : decode cX9_counts 55 = .ok (.goto 4, 3) := by decide +kernel
theorem dX9_latest_0 : decode cX9_latest 0 = .ok (.iconst (-1), 1) := by decide +kernel
theorem dX9_latest_1 : decode cX9_latest 1 = .ok (.istore 5, 2) := by decide +kernel
theorem dX9_latest_3 : decode cX9_latest 3 = .ok (.iconst 0, 1) := by decide +kernel
theorem dX9_latest_4 : decode cX9_latest 4 = .ok (.istore 6, 2) := by decide +kernel
theorem dX9_latest_6 : decode cX9_latest 6 = .ok (.iload 6, 2) := by decide +kernel
theorem dX9_latest_8 : decode cX9_latest 8 = .ok (.aload_n 0, 1) := by decide +kernel
theorem dX9_latest_9 : decode cX9_latest 9 = .ok (.getfield 153, 3) := by decide +kernel
theorem dX9_latest_12 : decode cX9_latest 12 = .ok (.if_icmp .ge 48, 3) := by decide +kernel
theorem dX9_latest_60 : decode cX9_latest 60 = .ok (.iload 5, 2) := by decide +kernel
theorem dX9_latest_62 : decode cX9_latest 62 = .ok (.iconst (-1), 1) := by decide +kernel
theorem dX9_latest_63 : decode cX9_latest 63 = .ok (.if_icmp .ne 9, 3) := by decide +kernel
theorem dX9_latest_72 : decode cX9_latest 72 = .ok (.iload 4, 2) := by decide +kernel
theorem dX9_latest_74 : decode cX9_latest 74 = .ok (.ifCond .eq 16, 3) := by decide +kernel
theorem dX9_latest_90 : decode cX9_latest 90 = .ok (.aload_n 0, 1) := by decide +kernel
theorem dX9_latest_91 : decode cX9_latest 91 = .ok (.getfield 22, 3) := by decide +kernel
theorem dX9_latest_94 : decode cX9_latest 94 = .ok (.iload 5, 2) := by decide +kernel
theorem dX9_latest_96 : decode cX9_latest 96 = .ok (.iaload, 1) := by decide +kernel
theorem dX9_latest_97 : decode cX9_latest 97 = .ok (.i2l, 1) := by decide +kernel
theorem dX9_latest_98 : decode cX9_latest 98 = .ok (.lreturn, 1) := by decide +kernel
theorem dX9_latest_77 : decode cX9_latest 77 = .ok (.iload_n 2, 1) := by decide +kernel
theorem dX9_latest_78 : decode cX9_latest 78 = .ok (.aload_n 0, 1) := by decide +kernel
theorem dX9_latest_79 : decode cX9_latest 79 = .ok (.getfield 16, 3) := by decide +kernel
theorem dX9_latest_82 : decode cX9_latest 82 = .ok (.iload 5, 2) := by decide +kernel
theorem dX9_latest_84 : decode cX9_latest 84 = .ok (.iaload, 1) := by decide +kernel
theorem dX9_latest_85 : decode cX9_latest 85 = .ok (.isub, 1) := by decide +kernel
theorem dX9_latest_86 : decode cX9_latest 86 = .ok (.i2l, 1) := by decide +kernel
theorem dX9_latest_87 : decode cX9_latest 87 = .ok (.goto 11, 3) := by decide +kernel
theorem dX9_latest_66 : decode cX9_latest 66 = .ok (.ldc2_w 274, 3) := by decide +kernel
theorem dX9_latest_69 : decode cX9_latest 69 = .ok (.goto 29, 3) := by decide +kernel
theorem dX9_latest_15 : decode cX9_latest 15 = .ok (.aload_n 0, 1) := by decide +kernel
theorem dX9_latest_16 : decode cX9_latest 16 = .ok (.iload 6, 2) := by decide +kernel
theorem dX9_latest_18 : decode cX9_latest 18 = .ok (.iload_n 1, 1) := by decide +kernel
theorem dX9_latest_19 : decode cX9_latest 19 = .ok (.iload_n 2, 1) := by decide +kernel
theorem dX9_latest_20 : decode cX9_latest 20 = .ok (.iload_n 3, 1) := by decide +kernel
set_option maxRecDepth 20000 in
theorem ggX9_latest_X9_counts : GoodIn wsX9_latest wsX9_counts := goodIn_r _ [9, 10, 11, 12, 13, 2, 14, 15, 16, 17, 18, 19, 20, 21, 22, 23, 24, 25, 26, 27, 28, 29, 30, 31, 32, 33, 34, 35, 36, 37, 38, 39, 40, 41, 42, 43, 44, 45, 46, 47, 48, 49, 50, 51, 52, 53, 54, 55, 56, 57, 58, 59, 60, 61, 62, 63, 64, 65] (by decide +kernel) (by decide +kernel)
set_option maxRecDepth 20000 in
theorem gX9_latest_X9_counts : GoodIn wsX9_latest (wsV RX9 270 RX9 yX9_counts wsX9_counts) := goodIn_app (goodIn_of _ (by decide +kernel)) ggX9_latest_X9_counts
theorem dX9_latest_21 : decode cX9_latest 21 = .ok (.invokevirtual 270, 3) := by decide +kernel
theorem dX9_latest_24 : decode cX9_latest 24 = .ok (.ifCond .eq 30, 3) := by decide +kernel
theorem dX9_latest_54 : decode cX9_latest 54 = .ok (.iinc 6 1, 3) := by decide +kernel
theorem dX9_latest_57 : decode cX9_latest 57 = .ok (.goto (-51), 3) := by decide +kernel
theorem dX9_latest_27 : decode cX9_latest 27 = .ok (.iload 5, 2) := by decide +kernel
theorem dX9_latest_29 : decode cX9_latest 29 = .ok (.iconst (-1), 1) := by decide +kernel
theorem dX9_latest_30 : decode cX9_latest 30 = .ok (.if_icmp .eq 20, 3) := by decide +kernel
theorem dX9_latest_50 : decode cX9_latest 50 = .ok (.iload 6, 2) := by decide +kernel
theorem dX9_latest_52 : decode cX9_latest 52 = .ok (.istore 5, 2) := by decide +kernel
theorem dX9_latest_33 : decode cX9_latest 33 = .ok (.aload_n 0, 1) := by decide +kernel
theorem dX9_latest_34 : decode cX9_latest 34 = .ok (.getfield 16, 3) := by decide +kernel
theorem dX9_latest_37 : decode cX9_latest 37 = .ok (.iload 6, 2) := by decide +kernel
theorem dX9_latest_39 : decode cX9_latest 39 = .ok (.iaload, 1) := by decide +kernel
theorem dX9_latest_40 : decode cX9_latest 40 = .ok (.aload_n 0, 1) := by decide +kernel
theorem dX9_latest_41 : decode cX9_latest 41 = .ok (.getfield 16, 3) := by decide +kernel
theorem dX9_latest_44 : decode cX9_latest 44 = .ok (.iload 5, 2) := by decide +kernel
theorem dX9_latest_46 : decode cX9_latest 46 = .ok (.iaload, 1) := by decide +kernel
theorem dX9_latest_47 : decode cX9_latest 47 = .ok (.if_icmp .lt 7, 3) := by decide +kernel
theorem dX9_windowed_0 : decode cX9_windowed 0 = .ok (.iconst 0, 1) := by decide +kernel
theorem dX9_windowed_1 : decode cX9_windowed 1 = .ok (.istore 7, 2) := by decide +kernel
theorem dX9_windowed_3 : decode cX9_windowed 3 = .ok (.lconst 0, 1) := by decide +kernel
theorem dX9_windowed_4 : decode cX9_windowed 4 = .ok (.lstore 8, 2) := by decide +kernel
theorem dX9_windowed_6 : decode cX9_windowed 6 = .ok (.iconst 0, 1) := by decide +kernel
theorem dX9_windowed_7 : decode cX9_windowed 7 = .ok (.istore 10, 2) := by decide +kernel
theorem dX9_windowed_9 : decode cX9_windowed 9 = .ok (.iload 10, 2) := by decide +kernel
theorem dX9_windowed_11 : decode cX9_windowed 11 = .ok (.aload_n 0, 1) := by decide +kernel
theorem dX9_windowed_12 : decode cX9_windowed 12 = .ok (.getfield 153, 3) := by decide +kernel
theorem dX9_windowed_15 : decode cX9_windowed 15 = .ok (.if_icmp .ge 169, 3) := by decide +kernel
theorem dX9_windowed_184 : decode cX9_windowed 184 = .ok (.iload_n 1, 1) := by decide +kernel
theorem dX9_windowed_185 : decode cX9_windowed 185 = .ok (.bipush 9, 2) := by decide +kernel
theorem dX9_windowed_187 : decode cX9_windowed 187 = .ok (.if_icmp .ne 9, 3) := by decide +kernel
theorem dX9_windowed_196 : decode cX9_windowed 196 = .ok (.iload 7, 2) := by decide +kernel
theorem dX9_windowed_198 : decode cX9_windowed 198 = .ok (.ifCond .ne 9, 3) := by decide +kernel
theorem dX9_windowed_207 : decode cX9_windowed 207 = .ok (.lload 8, 2) := by decide +kernel
theorem dX9_windowed_209 : decode cX9_windowed 209 = .ok (.lreturn, 1) := by decide +kernel
theorem dX9_windowed_201 : decode cX9_windowed 201 = .ok (.ldc2_w 274, 3) := by decide +kernel
theorem dX9_windowed_204 : decode cX9_windowed 204 = .ok (.goto 5, 3) := by decide +kernel
theorem dX9_windowed_190 : decode cX9_windowed 190 = .ok (.iload 7, 2) := by decide +kernel
theorem dX9_windowed_192 : decode cX9_windowed 192 = .ok (.i2l, 1) := by decide +kernel
theorem dX9_windowed_193 : decode cX9_windowed 193 = .ok (.goto 16, 3) := by decide +kernel
theorem dX9_windowed_18 : decode cX9_windowed 18 = .ok (.aload_n 0, 1) := by decide +kernel
theorem dX9_windowed_19 : decode cX9_windowed 19 = .ok (.iload 10, 2) := by decide +kernel
theorem dX9_windowed_21 : decode cX9_windowed 21 = .ok (.iload_n 2, 1) := by decide +kernel
theorem dX9_windowed_22 : decode cX9_windowed 22 = .ok (.iload 5, 2) := by decide +kernel
theorem dX9_windowed_24 : decode cX9_windowed 24 = .ok (.iload 6, 2) := by decide +kernel
set_option maxRecDepth 20000 in
theorem ggX9_windowed_X9_counts : GoodIn wsX9_windowed wsX9_counts := goodIn_r _ [9, 10, 11, 12, 13, 2, 14, 15, 16, 17, 18, 19, 20, 21, 22, 23, 24, 25, 26, 27, 28, 29, 30, 31, 32, 33, 34, 35, 36, 37, 38, 39, 40, 41, 42, 43, 44, 45, 46, 47, 48, 49, 50, 51, 52, 53, 54, 55, 56, 57, 58, 59, 60, 61, 62, 63, 64, 65] (by decide +kernel) (by decide +kernel)
set_option maxRecDepth 20000 in
theorem gX9_windowed_X9_counts : GoodIn wsX9_windowed (wsV RX9 270 RX9 yX9_counts wsX9_counts) := goodIn_app (goodIn_of _ (by decide +kernel)) ggX9_windowed_X9_counts
theorem dX9_windowed_26 : decode cX9_windowed 26 = .ok (.invokevirtual 270, 3) := by decide +kernel
theorem dX9_windowed_29 : decode cX9_windowed 29 = .ok (.ifCond .eq 149, 3) := by decide +kernel
theorem dX9_windowed_178 : decode cX9_windowed 178 = .ok (.iinc 10 1, 3) := by decide +kernel
theorem dX9_windowed_181 : decode cX9_windowed 181 = .ok (.goto (-172), 3) := by decide +kernel
theorem dX9_windowed_32 : decode cX9_windowed 32 = .ok (.aload_n 0, 1) := by decide +kernel
theorem dX9_windowed_33 : decode cX9_windowed 33 = .ok (.getfield 16, 3) := by decide +kernel
theorem dX9_windowed_36 : decode cX9_windowed 36 = .ok (.iload 10, 2) := by decide +kernel
theorem dX9_windowed_38 : decode cX9_windowed 38 = .ok (.iaload, 1) := by decide +kernel
theorem dX9_windowed_39 : decode cX9_windowed 39 = .ok (.iload 5, 2) := by decide +kernel
theorem dX9_windowed_41 : decode cX9_windowed 41 = .ok (.iload_n 3, 1) := by decide +kernel
theorem dX9_windowed_42 : decode cX9_windowed 42 = .ok (.isub, 1) := by decide +kernel
theorem dX9_windowed_43 : decode cX9_windowed 43 = .ok (.if_icmp .lt 135, 3) := by decide +kernel
theorem dX9_windowed_46 : decode cX9_windowed 46 = .ok (.aload_n 0, 1) := by decide +kernel
theorem dX9_windowed_47 : decode cX9_windowed 47 = .ok (.getfield 16, 3) := by decide +kernel
theorem dX9_windowed_50 : decode cX9_windowed 50 = .ok (.iload 10, 2) := by decide +kernel
theorem dX9_windowed_52 : decode cX9_windowed 52 = .ok (.iaload, 1) := by decide +kernel
theorem dX9_windowed_53 : decode cX9_windowed 53 = .ok (.iload 5, 2) := by decide +kernel
theorem dX9_windowed_55 : decode cX9_windowed 55 = .ok (.iload 4, 2) := by decide +kernel
theorem dX9_windowed_57 : decode cX9_windowed 57 = .ok (.isub, 1) := by decide +kernel
theorem dX9_windowed_58 : decode cX9_windowed 58 = .ok (.if_icmp .le 6, 3) := by decide +kernel
theorem dX9_windowed_64 : decode cX9_windowed 64 = .ok (.iload 7, 2) := by decide +kernel
theorem dX9_windowed_66 : decode cX9_windowed 66 = .ok (.ifCond .ne 7, 3) := by decide +kernel
theorem dX9_windowed_73 : decode cX9_windowed 73 = .ok (.iconst 0, 1) := by decide +kernel
theorem dX9_windowed_74 : decode cX9_windowed 74 = .ok (.istore 11, 2) := by decide +kernel
theorem dX9_windowed_76 : decode cX9_windowed 76 = .ok (.iinc 7 1, 3) := by decide +kernel
theorem dX9_windowed_79 : decode cX9_windowed 79 = .ok (.iload_n 1, 1) := by decide +kernel
theorem dX9_windowed_80 : decode cX9_windowed 80 = .ok (.bipush 10, 2) := by decide +kernel
theorem dX9_windowed_82 : decode cX9_windowed 82 = .ok (.if_icmp .ne 19, 3) := by decide +kernel
theorem dX9_windowed_101 : decode cX9_windowed 101 = .ok (.iload_n 1, 1) := by decide +kernel
theorem dX9_windowed_102 : decode cX9_windowed 102 = .ok (.bipush 11, 2) := by decide +kernel
theorem dX9_windowed_104 : decode cX9_windowed 104 = .ok (.if_icmp .ne 40, 3) := by decide +kernel
theorem dX9_windowed_144 : decode cX9_windowed 144 = .ok (.iload 11, 2) := by decide +kernel
theorem dX9_windowed_146 : decode cX9_windowed 146 = .ok (.ifCond .ne 17, 3) := by decide +kernel
theorem dX9_windowed_149 : decode cX9_windowed 149 = .ok (.aload_n 0, 1) := by decide +kernel
theorem dX9_windowed_150 : decode cX9_windowed 150 = .ok (.getfield 22, 3) := by decide +kernel
theorem dX9_windowed_153 : decode cX9_windowed 153 = .ok (.iload 10, 2) := by decide +kernel
theorem dX9_windowed_155 : decode cX9_windowed 155 = .ok (.iaload, 1) := by decide +kernel
theorem dX9_windowed_156 : decode cX9_windowed 156 = .ok (.i2l, 1) := by decide +kernel
theorem dX9_windowed_157 : decode cX9_windowed 157 = .ok (.lload 8, 2) := by decide +kernel
theorem dX9_windowed_159 : decode cX9_windowed 159 = .ok (.lcmp, 1) := by decide +kernel
theorem dX9_windowed_160 : decode cX9_windowed 160 = .ok (.ifCond .le 14, 3) := by decide +kernel
theorem dX9_windowed_174 : decode cX9_windowed 174 = .ok (.lload 8, 2) := by decide +kernel
theorem dX9_windowed_176 : decode cX9_windowed 176 = .ok (.lstore 8, 2) := by decide +kernel
theorem dX9_windowed_163 : decode cX9_windowed 163 = .ok (.aload_n 0, 1) := by decide +kernel
theorem dX9_windowed_164 : decode cX9_windowed 164 = .ok (.getfield 22, 3) := by decide +kernel
theorem dX9_windowed_167 : decode cX9_windowed 167 = .ok (.iload 10, 2) := by decide +kernel
theorem dX9_windowed_169 : decode cX9_windowed 169 = .ok (.iaload, 1) := by decide +kernel
theorem dX9_windowed_170 : decode cX9_windowed 170 = .ok (.i2l, 1) := by decide +kernel
theorem dX9_windowed_171 : decode cX9_windowed 171 = .ok (.goto 5, 3) := by decide +kernel
theorem dX9_windowed_107 : decode cX9_windowed 107 = .ok (.iload 11, 2) := by decide +kernel
theorem dX9_windowed_109 : decode cX9_windowed 109 = .ok (.ifCond .ne 17, 3) := by decide +kernel
theorem dX9_windowed_112 : decode cX9_windowed 112 = .ok (.aload_n 0, 1) := by decide +kernel
theorem dX9_windowed_113 : decode cX9_windowed 113 = .ok (.getfield 22, 3) := by decide +kernel
theorem dX9_windowed_116 : decode cX9_windowed 116 = .ok (.iload 10, 2) := by decide +kernel
theorem dX9_windowed_118 : decode cX9_windowed 118 = .ok (.iaload, 1) := by decide +kernel
theorem dX9_windowed_119 : decode cX9_windowed 119 = .ok (.i2l, 1) := by decide +kernel
theorem dX9_windowed_120 : decode cX9_windowed 120 = .ok (.lload 8, 2) := by decide +kernel
theorem dX9_windowed_122 : decode cX9_windowed 122 = .ok (.lcmp, 1) := by decide +kernel
theorem dX9_windowed_123 : decode cX9_windowed 123 = .ok (.ifCond .ge 14, 3) := by decide +kernel
theorem dX9_windowed_137 : decode cX9_windowed 137 = .ok (.lload 8, 2) := by decide +kernel
theorem dX9_windowed_139 : decode cX9_windowed 139 = .ok (.lstore 8, 2) := by decide +kernel
theorem dX9_windowed_141 : decode cX9_windowed 141 = .ok (.goto 37, 3) := by decide +kernel
theorem dX9_windowed_126 : decode cX9_windowed 126 = .ok (.aload_n 0, 1) := by decide +kernel
theorem dX9_windowed_127 : decode cX9_windowed 127 = .ok (.getfield 22, 3) := by decide +kernel
theorem dX9_windowed_130 : decode cX9_windowed 130 = .ok (.iload 10, 2) := by decide +kernel
theorem dX9_windowed_132 : decode cX9_windowed 132 = .ok (.iaload, 1) := by decide +kernel
theorem dX9_windowed_133 : decode cX9_windowed 133 = .ok (.i2l, 1) := by decide +kernel
theorem dX9_windowed_134 : decode cX9_windowed 134 = .ok (.goto 5, 3) := by decide +kernel
theorem dX9_windowed_85 : decode cX9_windowed 85 = .ok (.lload 8, 2) := by decide +kernel
theorem dX9_windowed_87 : decode cX9_windowed 87 = .ok (.aload_n 0, 1) := by decide +kernel
theorem dX9_windowed_88 : decode cX9_windowed 88 = .ok (.getfield 22, 3) := by decide +kernel
theorem dX9_windowed_91 : decode cX9_windowed 91 = .ok (.iload 10, 2) := by decide +kernel
theorem dX9_windowed_93 : decode cX9_windowed 93 = .ok (.iaload, 1) := by decide +kernel
theorem dX9_windowed_94 : decode cX9_windowed 94 = .ok (.i2l, 1) := by decide +kernel
theorem dX9_windowed_95 : decode cX9_windowed 95 = .ok (.ladd, 1) := by decide +kernel
theorem dX9_windowed_96 : decode cX9_windowed 96 = .ok (.lstore 8, 2) := by decide +kernel
theorem dX9_windowed_98 : decode cX9_windowed 98 = .ok (.goto 80, 3) := by decide +kernel
theorem dX9_windowed_69 : decode cX9_windowed 69 = .ok (.iconst 1, 1) := by decide +kernel
theorem dX9_windowed_70 : decode cX9_windowed 70 = .ok (.goto 4, 3) := by decide +kernel
theorem dX9_windowed_61 : decode cX9_windowed 61 = .ok (.goto 117, 3) := by decide +kernel
theorem dX9_size_0 : decode cX9_size 0 = .ok (.lload_n 0, 1) := by decide +kernel
theorem dX9_size_1 : decode cX9_size 1 = .ok (.lconst 0, 1) := by decide +kernel
theorem dX9_size_2 : decode cX9_size 2 = .ok (.lcmp, 1) := by decide +kernel
theorem dX9_size_3 : decode cX9_size 3 = .ok (.ifCond .ge 8, 3) := by decide +kernel
theorem dX9_size_11 : decode cX9_size 11 = .ok (.lload_n 0, 1) := by decide +kernel
theorem dX9_size_12 : decode cX9_size 12 = .ok (.lreturn, 1) := by decide +kernel
theorem dX9_size_6 : decode cX9_size 6 = .ok (.lload_n 0, 1) := by decide +kernel
theorem dX9_size_7 : decode cX9_size 7 = .ok (.lneg, 1) := by decide +kernel
theorem dX9_size_8 : decode cX9_size 8 = .ok (.goto 4, 3) := by decide +kernel
theorem dX9_two_0 : decode cX9_two 0 = .ok (.lload_n 1, 1) := by decide +kernel
theorem dX9_two_1 : decode cX9_two 1 = .ok (.ldc2_w 274, 3) := by decide +kernel
theorem dX9_two_4 : decode cX9_two 4 = .ok (.lcmp, 1) := by decide +kernel
theorem dX9_two_5 : decode cX9_two 5 = .ok (.ifCond .eq 11, 3) := by decide +kernel
theorem dX9_two_16 : decode cX9_two 16 = .ok (.ldc2_w 274, 3) := by decide +kernel
theorem dX9_two_19 : decode cX9_two 19 = .ok (.lreturn, 1) := by decide +kernel
theorem dX9_two_8 : decode cX9_two 8 = .ok (.lload_n 3, 1) := by decide +kernel
theorem dX9_two_9 : decode cX9_two 9 = .ok (.ldc2_w 274, 3) := by decide +kernel
theorem dX9_two_12 : decode cX9_two 12 = .ok (.lcmp, 1) := by decide +kernel
theorem dX9_two_13 : decode cX9_two 13 = .ok (.ifCond .ne 7, 3) := by decide +kernel
theorem dX9_two_20 : decode cX9_two 20 = .ok (.iload_n 0, 1) := by decide +kernel
theorem dX9_two_21 : decode cX9_two 21 = .ok (.tableswitch 77 1 3 #[27, 35, 43], 27) := by decide +kernel
theorem dX9_two_98 : decode cX9_two 98 = .ok (.lload_n 3, 1) := by decide +kernel
theorem dX9_two_99 : decode cX9_two 99 = .ok (.lconst 0, 1) := by decide +kernel
theorem dX9_two_100 : decode cX9_two 100 = .ok (.lcmp, 1) := by decide +kernel
theorem dX9_two_101 : decode cX9_two 101 = .ok (.ifCond .ne 7, 3) := by decide +kernel
theorem dX9_two_108 : decode cX9_two 108 = .ok (.lload_n 1, 1) := by decide +kernel
theorem dX9_two_109 : decode cX9_two 109 = .ok (.lload_n 3, 1) := by decide +kernel
theorem dX9_two_110 : decode cX9_two 110 = .ok (.ldiv, 1) := by decide +kernel
theorem dX9_two_111 : decode cX9_two 111 = .ok (.lstore 5, 2) := by decide +kernel
theorem dX9_two_113 : decode cX9_two 113 = .ok (.lload 5, 2) := by decide +kernel
set_option maxRecDepth 20000 in
theorem ggX9_two_X9_size : GoodIn wsX9_two wsX9_size := goodIn_r _ [6] (by decide +kernel) (by decide +kernel)
set_option maxRecDepth 20000 in
theorem gX9_two_X9_size : GoodIn wsX9_two (va_wsS RX9 276 yX9_size wsX9_size) := goodIn_app (goodIn_of _ (by decide +kernel)) ggX9_two_X9_size
theorem dX9_two_115 : decode cX9_two 115 = .ok (.invokestatic 276, 3) := by decide +kernel
theorem dX9_two_118 : decode cX9_two 118 = .ok (.ldc2_w 279, 3) := by decide +kernel
theorem dX9_two_121 : decode cX9_two 121 = .ok (.lcmp, 1) := by decide +kernel
theorem dX9_two_122 : decode cX9_two 122 = .ok (.ifCond .le 9, 3) := by decide +kernel
theorem dX9_two_131 : decode cX9_two 131 = .ok (.lload 5, 2) := by decide +kernel
theorem dX9_two_133 : decode cX9_two 133 = .ok (.lreturn, 1) := by decide +kernel
theorem dX9_two_125 : decode cX9_two 125 = .ok (.ldc2_w 274, 3) := by decide +kernel
theorem dX9_two_128 : decode cX9_two 128 = .ok (.goto 5, 3) := by decide +kernel
theorem dX9_two_104 : decode cX9_two 104 = .ok (.ldc2_w 274, 3) := by decide +kernel
theorem dX9_two_107 : decode cX9_two 107 = .ok (.lreturn, 1) := by decide +kernel
theorem dX9_two_48 : decode cX9_two 48 = .ok (.lload_n 1, 1) := by decide +kernel
theorem dX9_two_49 : decode cX9_two 49 = .ok (.lload_n 3, 1) := by decide +kernel
theorem dX9_two_50 : decode cX9_two 50 = .ok (.ladd, 1) := by decide +kernel
theorem dX9_two_51 : decode cX9_two 51 = .ok (.lstore 5, 2) := by decide +kernel
theorem dX9_two_53 : decode cX9_two 53 = .ok (.goto 60, 3) := by decide +kernel
theorem dX9_two_56 : decode cX9_two 56 = .ok (.lload_n 1, 1) := by decide +kernel
theorem dX9_two_57 : decode cX9_two 57 = .ok (.lload_n 3, 1) := by decide +kernel
theorem dX9_two_58 : decode cX9_two 58 = .ok (.lsub, 1) := by decide +kernel
theorem dX9_two_59 : decode cX9_two 59 = .ok (.lstore 5, 2) := by decide +kernel
theorem dX9_two_61 : decode cX9_two 61 = .ok (.goto 52, 3) := by decide +kernel
theorem dX9_two_64 : decode cX9_two 64 = .ok (.lload_n 1, 1) := by decide +kernel
theorem dX9_two_65 : decode cX9_two 65 = .ok (.lconst 0, 1) := by decide +kernel
theorem dX9_two_66 : decode cX9_two 66 = .ok (.lcmp, 1) := by decide +kernel
theorem dX9_two_67 : decode cX9_two 67 = .ok (.ifCond .eq 23, 3) := by decide +kernel
theorem dX9_two_90 : decode cX9_two 90 = .ok (.lload_n 1, 1) := by decide +kernel
theorem dX9_two_91 : decode cX9_two 91 = .ok (.lload_n 3, 1) := by decide +kernel
theorem dX9_two_92 : decode cX9_two 92 = .ok (.lmul, 1) := by decide +kernel
theorem dX9_two_93 : decode cX9_two 93 = .ok (.lstore 5, 2) := by decide +kernel
theorem dX9_two_95 : decode cX9_two 95 = .ok (.goto 18, 3) := by decide +kernel
theorem dX9_two_70 : decode cX9_two 70 = .ok (.lload_n 3, 1) := by decide +kernel
theorem dX9_two_71 : decode cX9_two 71 = .ok (.invokestatic 276, 3) := by decide +kernel
theorem dX9_two_74 : decode cX9_two 74 = .ok (.ldc2_w 279, 3) := by decide +kernel
theorem dX9_two_77 : decode cX9_two 77 = .ok (.lload_n 1, 1) := by decide +kernel
theorem dX9_two_78 : decode cX9_two 78 = .ok (.invokestatic 276, 3) := by decide +kernel
theorem dX9_two_81 : decode cX9_two 81 = .ok (.ldiv, 1) := by decide +kernel
theorem dX9_two_82 : decode cX9_two 82 = .ok (.lcmp, 1) := by decide +kernel
theorem dX9_two_83 : decode cX9_two 83 = .ok (.ifCond .le 7, 3) := by decide +kernel
theorem dX9_two_86 : decode cX9_two 86 = .ok (.ldc2_w 274, 3) := by decide +kernel
theorem dX9_two_89 : decode cX9_two 89 = .ok (.lreturn, 1) := by decide +kernel
/-- how a step moves the height of the pile -/
def dlt (c : Int32) : Int := if 1 ≤ c.toInt ∧ c.toInt ≤ 4 then -1 else if c.toInt = 5 then 0 else 1
def dep (f : Nat → Int32) (b : Nat) : Nat → Int
  | 0 => 0
  | j + 1 => dep f b j + dlt (f (b + j))
def wfp (f fA : Nat → Int32) (b n : Nat) : Prop := ∀ j, j < n → ((1 ≤ (f (b + j)).toInt ∧ (f (b + j)).toInt ≤ 4 → 2 ≤ dep f b j) ∧ ((f (b + j)).toInt = 5 → 1 ≤ dep f b j) ∧ ((f (b + j)).toInt = 6 → 0 ≤ (fA (b + j)).toInt ∧ (fA (b + j)).toInt ≤ 19))
def progOK (f fA f0 : Nat → Int32) (n : Int32) : Prop := ∀ i : Nat, (i : Int) < n.toInt → wfp f fA (250 * i) (f0 i).toInt.toNat
theorem dep_le (f : Nat → Int32) (b : Nat) : ∀ j : Nat, dep f b j ≤ j := by
  intro j
  induction j with
  | zero => exact Int.le_refl 0
  | succ j ih =>
    show dep f b j + dlt (f (b + j)) ≤ _
    have : dlt (f (b + j)) ≤ 1 := by
      unfold dlt
      split
      · omega
      · split <;> omega
    omega
theorem wf_at {f fA f0 : Nat → Int32} {i j at_ c x n : Int32} {N : Nat} (h : wfp f fA (250 * i.toInt.toNat) N) (hN : N = (f0 i.toInt.toNat).toInt.toNat) (h0 : 0 ≤ i.toInt) (hj : 0 ≤ j.toInt) (ex : x = f0 i.toNatClampNeg) (hx : j.toInt < x.toInt) (ha : at_.toInt = 250 * i.toInt + j.toInt) (ec : c = f at_.toNatClampNeg) (hn : n.toInt = dep f (250 * i.toInt.toNat) j.toInt.toNat) : (1 ≤ c.toInt ∧ c.toInt ≤ 4 → 2 ≤ n.toInt) ∧ (c.toInt = 5 → 1 ≤ n.toInt) ∧ (c.toInt = 6 → 0 ≤ (fA at_.toNatClampNeg).toInt ∧ (fA at_.toNatClampNeg).toInt ≤ 19) ∧ n.toInt ≤ j.toInt ∧ (1 ≤ c.toInt ∧ c.toInt ≤ 4 → dep f (250 * i.toInt.toNat) (j.toInt.toNat + 1) = n.toInt - 1) ∧ (c.toInt = 5 → dep f (250 * i.toInt.toNat) (j.toInt.toNat + 1) = n.toInt) ∧ (¬ (1 ≤ c.toInt ∧ c.toInt ≤ 4) → ¬ c.toInt = 5 → dep f (250 * i.toInt.toNat) (j.toInt.toNat + 1) = n.toInt + 1) := by
  have e1 : at_.toNatClampNeg = 250 * i.toInt.toNat + j.toInt.toNat := by
    have : at_.toNatClampNeg = at_.toInt.toNat := rfl
    omega
  have e2 : i.toNatClampNeg = i.toInt.toNat := rfl
  rw [e2] at ex
  rw [e1] at ec ⊢
  obtain ⟨w1, w2, w3⟩ := h j.toInt.toNat (by rw [hN, ← ex]; omega)
  rw [← ec, ← hn] at w1 w2
  rw [← ec] at w3
  have e3 : dep f (250 * i.toInt.toNat) (j.toInt.toNat + 1) = n.toInt + dlt c := by
    show dep f _ j.toInt.toNat + dlt (f (250 * i.toInt.toNat + j.toInt.toNat)) = _
    rw [← ec, ← hn]
  have e4 := dep_le f (250 * i.toInt.toNat) j.toInt.toNat
  rw [← hn] at e4
  refine ⟨w1, w2, w3, by omega, fun q => ?_, fun q => ?_, fun q1 q2 => ?_⟩
  · rw [e3, dlt, if_pos q]; omega
  · rw [e3, dlt, if_neg (by omega), if_pos q]; omega
  · rw [e3, dlt, if_neg q1, if_neg q2]
theorem dep_nn {f fA : Nat → Int32} {b N : Nat} (h : wfp f fA b N) : ∀ j : Nat, j ≤ N → 0 ≤ dep f b j := by
  intro j
  induction j with
  | zero => intro _; exact Int.le_refl 0
  | succ j ih =>
    intro hj
    have h1 := ih (by omega)
    obtain ⟨w1, w2, w3⟩ := h j (by omega)
    show 0 ≤ dep f b j + dlt (f (b + j))
    unfold dlt
    split
    · next q => have := w1 q; omega
    · split <;> omega

set_option maxHeartbeats 8000000 in
set_option maxRecDepth 100000 in
theorem k_X9_counts (l : Launch) (dC : Nat → ClassId) (dI : Nat → Nat → Nat) (cA : Nat → ClassId) (sz : Nat) (am : Nat → Nat) (v_status : Int32) (v_now : Int32) (v_told : Int32) (v_merges : Int32) (v_taped : Int32) (v_size : Int32) (v_from : Int32) (v_to : Int32) (v_fault : Int32) (v_readFault : Int32) (v_traits : Int32) (v_length : Int32) (v_open : Int32) (v_leaks : Int32) (v_places : Int32) (v_models : Int32) (f_isGone : Nat → Int32) (f_rowStream : Nat → Int32) (f_isOne : Nat → Int32) (f_rowPerson : Nat → Int32) (f_rowMoment : Nat → Int32) (f_rowKnown : Nat → Int32) (rw : Int32) (ss : Int32) (tt : Int32) (kk : Int32) (i_v_now : 0 ≤ v_now.toInt ∧ v_now.toInt ≤ 100000) (i_v_told : 0 ≤ v_told.toInt ∧ v_told.toInt ≤ 400) (i_v_taped : 0 ≤ v_taped.toInt ∧ v_taped.toInt ≤ 200) (i_v_size : 0 ≤ v_size.toInt ∧ v_size.toInt ≤ 200) (i_v_from : 0 ≤ v_from.toInt ∧ v_from.toInt ≤ 200) (i_v_to : 0 ≤ v_to.toInt ∧ v_to.toInt ≤ 200) (i_v_traits : 0 ≤ v_traits.toInt ∧ v_traits.toInt ≤ 20) (i_v_length : 0 ≤ v_length.toInt ∧ v_length.toInt ≤ 200) (i_v_open : 0 ≤ v_open.toInt ∧ v_open.toInt ≤ 8) (i_v_places : 0 ≤ v_places.toInt ∧ v_places.toInt ≤ 2000) (i_v_models : 0 ≤ v_models.toInt ∧ v_models.toInt ≤ 10) (i_f_rowPerson : inB 0 19 400 f_rowPerson) (hrw : 0 ≤ rw.toInt ∧ rw.toInt ≤ 399) : Met l yX9_counts wsX9_counts ({ frames := 0, cells := 0, slots := 0, locals := 0 }) (va_Pc [.ref (am 0), .int rw, .int ss, .int tt, .int kk] (fun U => U.heap.size = sz ∧ va_P (dC, dI) vwCl [((am 0), .inr (9, F9 am v_status v_now v_told v_merges v_taped v_size v_from v_to v_fault v_readFault v_traits v_length v_open v_leaks v_places v_models)), ((am 6), .inl (cA 2, 400, .inl f_isGone)), ((am 2), .inl (cA 0, 400, .inl f_rowStream)), ((am 19), .inl (cA 2, 20, .inl f_isOne)), ((am 1), .inl (cA 0, 400, .inl f_rowPerson)), ((am 3), .inl (cA 0, 400, .inl f_rowMoment)), ((am 4), .inl (cA 0, 400, .inl f_rowKnown))] U.heap ∧ va_K (dC, dI) vwCl (tyL cA) U ∧ va_D (fun _ => True) [((am 0), .inr (9, F9 am v_status v_now v_told v_merges v_taped v_size v_from v_to v_fault v_readFault v_traits v_length v_open v_leaks v_places v_models)), ((am 6), .inl (cA 2, 400, .inl f_isGone)), ((am 2), .inl (cA 0, 400, .inl f_rowStream)), ((am 19), .inl (cA 2, 20, .inl f_isOne)), ((am 1), .inl (cA 0, 400, .inl f_rowPerson)), ((am 3), .inl (cA 0, 400, .inl f_rowMoment)), ((am 4), .inl (cA 0, 400, .inl f_rowKnown))] ∧ nw_ok U)) (va_Qi (fun (r : Int32) (_ : Unit) => (0 ≤ r.toInt ∧ r.toInt ≤ 1)) (fun (_ : Unit) (t : State) => va_P (dC, dI) vwCl [((am 0), .inr (9, F9 am v_status v_now v_told v_merges v_taped v_size v_from v_to v_fault v_readFault v_traits v_length v_open v_leaks v_places v_models)), ((am 6), .inl (cA 2, 400, .inl f_isGone)), ((am 2), .inl (cA 0, 400, .inl f_rowStream)), ((am 19), .inl (cA 2, 20, .inl f_isOne)), ((am 1), .inl (cA 0, 400, .inl f_rowPerson)), ((am 3), .inl (cA 0, 400, .inl f_rowMoment)), ((am 4), .inl (cA 0, 400, .inl f_rowKnown))] t.heap ∧ va_D (va_A [((am 0), .inr (9, F9 am v_status v_now v_told v_merges v_taped v_size v_from v_to v_fault v_readFault v_traits v_length v_open v_leaks v_places v_models)), ((am 6), .inl (cA 2, 400, .inl f_isGone)), ((am 2), .inl (cA 0, 400, .inl f_rowStream)), ((am 19), .inl (cA 2, 20, .inl f_isOne)), ((am 1), .inl (cA 0, 400, .inl f_rowPerson)), ((am 3), .inl (cA 0, 400, .inl f_rowMoment)), ((am 4), .inl (cA 0, 400, .inl f_rowKnown))] sz) [((am 0), .inr (9, F9 am v_status v_now v_told v_merges v_taped v_size v_from v_to v_fault v_readFault v_traits v_length v_open v_leaks v_places v_models)), ((am 6), .inl (cA 2, 400, .inl f_isGone)), ((am 2), .inl (cA 0, 400, .inl f_rowStream)), ((am 19), .inl (cA 2, 20, .inl f_isOne)), ((am 1), .inl (cA 0, 400, .inl f_rowPerson)), ((am 3), .inl (cA 0, 400, .inl f_rowMoment)), ((am 4), .inl (cA 0, 400, .inl f_rowKnown))]) (va_A [((am 0), .inr (9, F9 am v_status v_now v_told v_merges v_taped v_size v_from v_to v_fault v_readFault v_traits v_length v_open v_leaks v_places v_models)), ((am 6), .inl (cA 2, 400, .inl f_isGone)), ((am 2), .inl (cA 0, 400, .inl f_rowStream)), ((am 19), .inl (cA 2, 20, .inl f_isOne)), ((am 1), .inl (cA 0, 400, .inl f_rowPerson)), ((am 3), .inl (cA 0, 400, .inl f_rowMoment)), ((am 4), .inl (cA 0, 400, .inl f_rowKnown))] sz)) 0 0 (va_A [((am 0), .inr (9, F9 am v_status v_now v_told v_merges v_taped v_size v_from v_to v_fault v_readFault v_traits v_length v_open v_leaks v_places v_models)), ((am 6), .inl (cA 2, 400, .inl f_isGone)), ((am 2), .inl (cA 0, 400, .inl f_rowStream)), ((am 19), .inl (cA 2, 20, .inl f_isOne)), ((am 1), .inl (cA 0, 400, .inl f_rowPerson)), ((am 3), .inl (cA 0, 400, .inl f_rowMoment)), ((am 4), .inl (cA 0, 400, .inl f_rowKnown))] sz) := by
  refine Met.ofW (cc := cX9_counts) (maxL := 5) (ret := (some .boolean)) (by decide) rfl ?_
  intro p e s m args below meth c s₁ B hml hv
  obtain ⟨rfl, hsz, hP, hK, hD0, hN⟩ := hv
  have hx := B.exec
  have hb := B.bytes
  have hr := B.returns
  have hts := atoms_spec (ws := wsX9_counts) B.pre
  have hown : s.vm.findClass RX9 = some m.cls := findClass_of_methodNamed B.named
  have hlocks := B.notSynchronized
  subst hsz
  have hD := hD0.self (sz := s.heap.size)
  generalize hAe : va_A [((am 0), .inr (9, F9 am v_status v_now v_told v_merges v_taped v_size v_from v_to v_fault v_readFault v_traits v_length v_open v_leaks v_places v_models)), ((am 6), .inl (cA 2, 400, .inl f_isGone)), ((am 2), .inl (cA 0, 400, .inl f_rowStream)), ((am 19), .inl (cA 2, 20, .inl f_isOne)), ((am 1), .inl (cA 0, 400, .inl f_rowPerson)), ((am 3), .inl (cA 0, 400, .inl f_rowMoment)), ((am 4), .inl (cA 0, 400, .inl f_rowKnown))] s.heap.size = A at hD ⊢
  have hA : ∀ q : Nat, s.heap.size ≤ q → A q := fun q h => by rw [← hAe]; exact Or.inr h
  have hS : va_S A s.heap s.heap [] := va_S.rf
  have hIX9 : ∀ w ∈ u_ws RX9 TX9 51, w ∈ wsX9_counts := by decide +kernel
  have hl := lv_entry ([.ref (am 0), .int rw, .int ss, .int tt, .int kk]) (n := 5) (Nat.le_of_ble_eq_true rfl)
  rw [lg_entry_eq]
  generalize (lg_sl ([.ref (am 0), .int rw, .int ss, .int tt, .int kk]) ++ List.replicate (5 - (lg_sl ([.ref (am 0), .int rw, .int ss, .int tt, .int kk])).length) Slot.unset).toArray = ls at hl ⊢
  have hl : lv_has ls 5 [(0, .ref (am 0)), (1, .int rw), (2, .int ss), (3, .int tt), (4, .int kk)] := hl
  generalize hQe : MQ below _ _ _ _ _ _ = QQ
  refine lv_aload_n hx hb dX9_counts_0 rfl (lv_at hl 0 rfl) ?_
  refine va_get (D := (dC, dI)) (ci := 9) (v := .ref (am 6)) (C := RX9) (T := TX9) (N := 51) hx hb hts hIX9 hown hK hP 0 rfl rfl 8 (by decide) (hts (.fieldLink RX9 25 "TraitHouseModel" "isGone" "[Z") (by decide +kernel)) (fun _ h9 => h9) rfl dX9_counts_1 ?_
  refine lv_iload_n hx hb dX9_counts_4 rfl (lv_at hl 1 rfl) ?_
  have h_1 : vp_in rw 400 := (vp_in_iff.mpr ⟨by omega, by omega⟩)
  refine va_zald hx hb hK hP 1 2 rfl rfl h_1 dX9_counts_5 ?_
  refine lv_topi (fun x_2 ex_2 => ?_)
  refine lv_if_ne (tgt := 58) hx hb dX9_counts_6 (by decide) (fun c_3 => ?_) (fun c_3 => ?_)
  · have dc_3 : ¬ x_2.toInt = 0 := jI_ne c_3 rfl (by decide)
    refine lv_iconst (v := 0) hx hb dX9_counts_58 (by decide) ?_
    obtain ⟨hP9, hD9⟩ := va_pd (ws' := [((am 0), .inr (9, F9 am v_status v_now v_told v_merges v_taped v_size v_from v_to v_fault v_readFault v_traits v_length v_open v_leaks v_places v_models)), ((am 6), .inl (cA 2, 400, .inl f_isGone)), ((am 2), .inl (cA 0, 400, .inl f_rowStream)), ((am 19), .inl (cA 2, 20, .inl f_isOne)), ((am 1), .inl (cA 0, 400, .inl f_rowPerson)), ((am 3), .inl (cA 0, 400, .inl f_rowMoment)), ((am 4), .inl (cA 0, 400, .inl f_rowKnown))]) hP hD [0, 1, 2, 3, 4, 5, 6] (by decide) rfl
    subst hQe
    have hans : (0 : Int32).toInt = 0 := (by decide)
    have hpost : (0 ≤ (0 : Int32).toInt ∧ (0 : Int32).toInt ≤ 1) := by omega
    exact W.zret (v := 0) hx hb hr (by decide) (fun t ht hW => ⟨⟨0, (), rfl, hpost, by rw [ht]; exact hP9, hD9⟩, hS.F ht⟩) hS.2.2 dX9_counts_59
  · have dc_3 : x_2.toInt = 0 := jI_eq c_3 rfl (by decide)
    refine lv_aload_n hx hb dX9_counts_9 rfl (lv_at hl 0 rfl) ?_
    refine va_get (D := (dC, dI)) (ci := 9) (v := .ref (am 2)) (C := RX9) (T := TX9) (N := 51) hx hb hts hIX9 hown hK hP 0 rfl rfl 4 (by decide) (hts (.fieldLink RX9 13 "TraitHouseModel" "rowStream" "[I") (by decide +kernel)) (fun _ h9 => h9) rfl dX9_counts_10 ?_
    refine lv_iload_n hx hb dX9_counts_13 rfl (lv_at hl 1 rfl) ?_
    have h_4 : vp_in rw 400 := (vp_in_iff.mpr ⟨by omega, by omega⟩)
    refine va_iald hx hb hK hP 2 0 rfl rfl h_4 dX9_counts_14 ?_
    refine lv_topi (fun x_5 ex_5 => ?_)
    refine lv_iload_n hx hb dX9_counts_15 rfl (lv_at hl 2 rfl) ?_
    refine lv_icmp_ne (tgt := 58) hx hb dX9_counts_16 (by decide) (fun c_6 => ?_) (fun c_6 => ?_)
    · have dc_6 : ¬ x_5.toInt = ss.toInt := jI_ne c_6 rfl rfl
      refine lv_iconst (v := 0) hx hb dX9_counts_58 (by decide) ?_
      obtain ⟨hP9, hD9⟩ := va_pd (ws' := [((am 0), .inr (9, F9 am v_status v_now v_told v_merges v_taped v_size v_from v_to v_fault v_readFault v_traits v_length v_open v_leaks v_places v_models)), ((am 6), .inl (cA 2, 400, .inl f_isGone)), ((am 2), .inl (cA 0, 400, .inl f_rowStream)), ((am 19), .inl (cA 2, 20, .inl f_isOne)), ((am 1), .inl (cA 0, 400, .inl f_rowPerson)), ((am 3), .inl (cA 0, 400, .inl f_rowMoment)), ((am 4), .inl (cA 0, 400, .inl f_rowKnown))]) hP hD [0, 1, 2, 3, 4, 5, 6] (by decide) rfl
      subst hQe
      have hans : (0 : Int32).toInt = 0 := (by decide)
      have hpost : (0 ≤ (0 : Int32).toInt ∧ (0 : Int32).toInt ≤ 1) := by omega
      exact W.zret (v := 0) hx hb hr (by decide) (fun t ht hW => ⟨⟨0, (), rfl, hpost, by rw [ht]; exact hP9, hD9⟩, hS.F ht⟩) hS.2.2 dX9_counts_59
    · have dc_6 : x_5.toInt = ss.toInt := jI_eq c_6 rfl rfl
      refine lv_aload_n hx hb dX9_counts_19 rfl (lv_at hl 0 rfl) ?_
      refine va_get (D := (dC, dI)) (ci := 9) (v := .ref (am 19)) (C := RX9) (T := TX9) (N := 51) hx hb hts hIX9 hown hK hP 0 rfl rfl 32 (by decide) (hts (.fieldLink RX9 71 "TraitHouseModel" "isOne" "[Z") (by decide +kernel)) (fun _ h9 => h9) rfl dX9_counts_20 ?_
      refine lv_aload_n hx hb dX9_counts_23 rfl (lv_at hl 0 rfl) ?_
      refine va_get (D := (dC, dI)) (ci := 9) (v := .ref (am 1)) (C := RX9) (T := TX9) (N := 51) hx hb hts hIX9 hown hK hP 0 rfl rfl 3 (by decide) (hts (.fieldLink RX9 7 "TraitHouseModel" "rowPerson" "[I") (by decide +kernel)) (fun _ h9 => h9) rfl dX9_counts_24 ?_
      refine lv_iload_n hx hb dX9_counts_27 rfl (lv_at hl 1 rfl) ?_
      have h_7 : vp_in rw 400 := (vp_in_iff.mpr ⟨by omega, by omega⟩)
      refine va_iald hx hb hK hP 4 0 rfl rfl h_7 dX9_counts_28 ?_
      refine lv_topi (fun x_8 ex_8 => ?_)
      have bx_8 := i_f_rowPerson _ (jix h_7)
      rw [← ex_8] at bx_8
      have h_9 : vp_in x_8 20 := (vp_in_iff.mpr ⟨by omega, by omega⟩)
      refine va_zald hx hb hK hP 3 2 rfl rfl h_9 dX9_counts_29 ?_
      refine lv_topi (fun x_10 ex_10 => ?_)
      refine lv_if_eq (tgt := 58) hx hb dX9_counts_30 (by decide) (fun c_11 => ?_) (fun c_11 => ?_)
      · have dc_11 : x_10.toInt = 0 := jI_eq c_11 rfl (by decide)
        refine lv_iconst (v := 0) hx hb dX9_counts_58 (by decide) ?_
        obtain ⟨hP9, hD9⟩ := va_pd (ws' := [((am 0), .inr (9, F9 am v_status v_now v_told v_merges v_taped v_size v_from v_to v_fault v_readFault v_traits v_length v_open v_leaks v_places v_models)), ((am 6), .inl (cA 2, 400, .inl f_isGone)), ((am 2), .inl (cA 0, 400, .inl f_rowStream)), ((am 19), .inl (cA 2, 20, .inl f_isOne)), ((am 1), .inl (cA 0, 400, .inl f_rowPerson)), ((am 3), .inl (cA 0, 400, .inl f_rowMoment)), ((am 4), .inl (cA 0, 400, .inl f_rowKnown))]) hP hD [0, 1, 2, 3, 4, 5, 6] (by decide) rfl
        subst hQe
        have hans : (0 : Int32).toInt = 0 := (by decide)
        have hpost : (0 ≤ (0 : Int32).toInt ∧ (0 : Int32).toInt ≤ 1) := by omega
        exact W.zret (v := 0) hx hb hr (by decide) (fun t ht hW => ⟨⟨0, (), rfl, hpost, by rw [ht]; exact hP9, hD9⟩, hS.F ht⟩) hS.2.2 dX9_counts_59
      · have dc_11 : ¬ x_10.toInt = 0 := jI_ne c_11 rfl (by decide)
        refine lv_aload_n hx hb dX9_counts_33 rfl (lv_at hl 0 rfl) ?_
        refine va_get (D := (dC, dI)) (ci := 9) (v := .ref (am 3)) (C := RX9) (T := TX9) (N := 51) hx hb hts hIX9 hown hK hP 0 rfl rfl 5 (by decide) (hts (.fieldLink RX9 16 "TraitHouseModel" "rowMoment" "[I") (by decide +kernel)) (fun _ h9 => h9) rfl dX9_counts_34 ?_
        refine lv_iload_n hx hb dX9_counts_37 rfl (lv_at hl 1 rfl) ?_
        have h_12 : vp_in rw 400 := (vp_in_iff.mpr ⟨by omega, by omega⟩)
        refine va_iald hx hb hK hP 5 0 rfl rfl h_12 dX9_counts_38 ?_
        refine lv_topi (fun x_13 ex_13 => ?_)
        refine lv_iload_n hx hb dX9_counts_39 rfl (lv_at hl 3 rfl) ?_
        refine lv_icmp_gt (tgt := 58) hx hb dX9_counts_40 (by decide) (fun c_14 => ?_) (fun c_14 => ?_)
        · have dc_14 : tt.toInt < x_13.toInt := jI_lt c_14 rfl rfl
          refine lv_iconst (v := 0) hx hb dX9_counts_58 (by decide) ?_
          obtain ⟨hP9, hD9⟩ := va_pd (ws' := [((am 0), .inr (9, F9 am v_status v_now v_told v_merges v_taped v_size v_from v_to v_fault v_readFault v_traits v_length v_open v_leaks v_places v_models)), ((am 6), .inl (cA 2, 400, .inl f_isGone)), ((am 2), .inl (cA 0, 400, .inl f_rowStream)), ((am 19), .inl (cA 2, 20, .inl f_isOne)), ((am 1), .inl (cA 0, 400, .inl f_rowPerson)), ((am 3), .inl (cA 0, 400, .inl f_rowMoment)), ((am 4), .inl (cA 0, 400, .inl f_rowKnown))]) hP hD [0, 1, 2, 3, 4, 5, 6] (by decide) rfl
          subst hQe
          have hans : (0 : Int32).toInt = 0 := (by decide)
          have hpost : (0 ≤ (0 : Int32).toInt ∧ (0 : Int32).toInt ≤ 1) := by omega
          exact W.zret (v := 0) hx hb hr (by decide) (fun t ht hW => ⟨⟨0, (), rfl, hpost, by rw [ht]; exact hP9, hD9⟩, hS.F ht⟩) hS.2.2 dX9_counts_59
        · have dc_14 : x_13.toInt ≤ tt.toInt := jI_nlt c_14 rfl rfl
          refine lv_aload_n hx hb dX9_counts_43 rfl (lv_at hl 0 rfl) ?_
          refine va_get (D := (dC, dI)) (ci := 9) (v := .ref (am 4)) (C := RX9) (T := TX9) (N := 51) hx hb hts hIX9 hown hK hP 0 rfl rfl 6 (by decide) (hts (.fieldLink RX9 19 "TraitHouseModel" "rowKnown" "[I") (by decide +kernel)) (fun _ h9 => h9) rfl dX9_counts_44 ?_
          refine lv_iload_n hx hb dX9_counts_47 rfl (lv_at hl 1 rfl) ?_
          have h_15 : vp_in rw 400 := (vp_in_iff.mpr ⟨by omega, by omega⟩)
          refine va_iald hx hb hK hP 6 0 rfl rfl h_15 dX9_counts_48 ?_
          refine lv_topi (fun x_16 ex_16 => ?_)
          refine lv_iload hx hb dX9_counts_49 (lv_at hl 4 rfl) ?_
          refine lv_icmp_gt (tgt := 58) hx hb dX9_counts_51 (by decide) (fun c_17 => ?_) (fun c_17 => ?_)
          · have dc_17 : kk.toInt < x_16.toInt := jI_lt c_17 rfl rfl
            refine lv_iconst (v := 0) hx hb dX9_counts_58 (by decide) ?_
            obtain ⟨hP9, hD9⟩ := va_pd (ws' := [((am 0), .inr (9, F9 am v_status v_now v_told v_merges v_taped v_size v_from v_to v_fault v_readFault v_traits v_length v_open v_leaks v_places v_models)), ((am 6), .inl (cA 2, 400, .inl f_isGone)), ((am 2), .inl (cA 0, 400, .inl f_rowStream)), ((am 19), .inl (cA 2, 20, .inl f_isOne)), ((am 1), .inl (cA 0, 400, .inl f_rowPerson)), ((am 3), .inl (cA 0, 400, .inl f_rowMoment)), ((am 4), .inl (cA 0, 400, .inl f_rowKnown))]) hP hD [0, 1, 2, 3, 4, 5, 6] (by decide) rfl
            subst hQe
            have hans : (0 : Int32).toInt = 0 := (by decide)
            have hpost : (0 ≤ (0 : Int32).toInt ∧ (0 : Int32).toInt ≤ 1) := by omega
            exact W.zret (v := 0) hx hb hr (by decide) (fun t ht hW => ⟨⟨0, (), rfl, hpost, by rw [ht]; exact hP9, hD9⟩, hS.F ht⟩) hS.2.2 dX9_counts_59
          · have dc_17 : x_16.toInt ≤ kk.toInt := jI_nlt c_17 rfl rfl
            refine lv_iconst (v := 1) hx hb dX9_counts_54 (by decide) ?_
            refine lv_goto (tgt := 59) hx hb dX9_counts_55 (by decide) ?_
            obtain ⟨hP9, hD9⟩ := va_pd (ws' := [((am 0), .inr (9, F9 am v_status v_now v_told v_merges v_taped v_size v_from v_to v_fault v_readFault v_traits v_length v_open v_leaks v_places v_models)), ((am 6), .inl (cA 2, 400, .inl f_isGone)), ((am 2), .inl (cA 0, 400, .inl f_rowStream)), ((am 19), .inl (cA 2, 20, .inl f_isOne)), ((am 1), .inl (cA 0, 400, .inl f_rowPerson)), ((am 3), .inl (cA 0, 400, .inl f_rowMoment)), ((am 4), .inl (cA 0, 400, .inl f_rowKnown))]) hP hD [0, 1, 2, 3, 4, 5, 6] (by decide) rfl
            subst hQe
            have hans : (1 : Int32).toInt = 1 := (by decide)
            have hpost : (0 ≤ (1 : Int32).toInt ∧ (1 : Int32).toInt ≤ 1) := by omega
            exact W.zret (v := 1) hx hb hr (by decide) (fun t ht hW => ⟨⟨1, (), rfl, hpost, by rw [ht]; exact hP9, hD9⟩, hS.F ht⟩) hS.2.2 dX9_counts_59

set_option maxHeartbeats 8000000 in
set_option maxRecDepth 100000 in
theorem k_X9_latest (l : Launch) (dC : Nat → ClassId) (dI : Nat → Nat → Nat) (cA : Nat → ClassId) (sz : Nat) (am : Nat → Nat) (v_status : Int32) (v_now : Int32) (v_told : Int32) (v_merges : Int32) (v_taped : Int32) (v_size : Int32) (v_from : Int32) (v_to : Int32) (v_fault : Int32) (v_readFault : Int32) (v_traits : Int32) (v_length : Int32) (v_open : Int32) (v_leaks : Int32) (v_places : Int32) (v_models : Int32) (f_isGone : Nat → Int32) (f_rowStream : Nat → Int32) (f_isOne : Nat → Int32) (f_rowPerson : Nat → Int32) (f_rowMoment : Nat → Int32) (f_rowKnown : Nat → Int32) (f_rowValue : Nat → Int32) (ss : Int32) (tt : Int32) (kk : Int32) (si : Int32) (i_v_now : 0 ≤ v_now.toInt ∧ v_now.toInt ≤ 100000) (i_v_told : 0 ≤ v_told.toInt ∧ v_told.toInt ≤ 400) (i_v_taped : 0 ≤ v_taped.toInt ∧ v_taped.toInt ≤ 200) (i_v_size : 0 ≤ v_size.toInt ∧ v_size.toInt ≤ 200) (i_v_from : 0 ≤ v_from.toInt ∧ v_from.toInt ≤ 200) (i_v_to : 0 ≤ v_to.toInt ∧ v_to.toInt ≤ 200) (i_v_traits : 0 ≤ v_traits.toInt ∧ v_traits.toInt ≤ 20) (i_v_length : 0 ≤ v_length.toInt ∧ v_length.toInt ≤ 200) (i_v_open : 0 ≤ v_open.toInt ∧ v_open.toInt ≤ 8) (i_v_places : 0 ≤ v_places.toInt ∧ v_places.toInt ≤ 2000) (i_v_models : 0 ≤ v_models.toInt ∧ v_models.toInt ≤ 10) (i_f_rowPerson : inB 0 19 400 f_rowPerson)  : Met l yX9_latest wsX9_latest ({ frames := 1, cells := 0, slots := 0, locals := 24 }) (va_Pc [.ref (am 0), .int ss, .int tt, .int kk, .int si] (fun U => U.heap.size = sz ∧ va_P (dC, dI) vwCl [((am 0), .inr (9, F9 am v_status v_now v_told v_merges v_taped v_size v_from v_to v_fault v_readFault v_traits v_length v_open v_leaks v_places v_models)), ((am 6), .inl (cA 2, 400, .inl f_isGone)), ((am 2), .inl (cA 0, 400, .inl f_rowStream)), ((am 19), .inl (cA 2, 20, .inl f_isOne)), ((am 1), .inl (cA 0, 400, .inl f_rowPerson)), ((am 3), .inl (cA 0, 400, .inl f_rowMoment)), ((am 4), .inl (cA 0, 400, .inl f_rowKnown)), ((am 5), .inl (cA 0, 400, .inl f_rowValue))] U.heap ∧ va_K (dC, dI) vwCl (tyL cA) U ∧ va_D (fun _ => True) [((am 0), .inr (9, F9 am v_status v_now v_told v_merges v_taped v_size v_from v_to v_fault v_readFault v_traits v_length v_open v_leaks v_places v_models)), ((am 6), .inl (cA 2, 400, .inl f_isGone)), ((am 2), .inl (cA 0, 400, .inl f_rowStream)), ((am 19), .inl (cA 2, 20, .inl f_isOne)), ((am 1), .inl (cA 0, 400, .inl f_rowPerson)), ((am 3), .inl (cA 0, 400, .inl f_rowMoment)), ((am 4), .inl (cA 0, 400, .inl f_rowKnown)), ((am 5), .inl (cA 0, 400, .inl f_rowValue))] ∧ nw_ok U)) (va_Ql (fun (r : Int64) (_ : Unit) => True) (fun (_ : Unit) (t : State) => va_P (dC, dI) vwCl [((am 0), .inr (9, F9 am v_status v_now v_told v_merges v_taped v_size v_from v_to v_fault v_readFault v_traits v_length v_open v_leaks v_places v_models)), ((am 6), .inl (cA 2, 400, .inl f_isGone)), ((am 2), .inl (cA 0, 400, .inl f_rowStream)), ((am 19), .inl (cA 2, 20, .inl f_isOne)), ((am 1), .inl (cA 0, 400, .inl f_rowPerson)), ((am 3), .inl (cA 0, 400, .inl f_rowMoment)), ((am 4), .inl (cA 0, 400, .inl f_rowKnown)), ((am 5), .inl (cA 0, 400, .inl f_rowValue))] t.heap ∧ va_D (va_A [((am 0), .inr (9, F9 am v_status v_now v_told v_merges v_taped v_size v_from v_to v_fault v_readFault v_traits v_length v_open v_leaks v_places v_models)), ((am 6), .inl (cA 2, 400, .inl f_isGone)), ((am 2), .inl (cA 0, 400, .inl f_rowStream)), ((am 19), .inl (cA 2, 20, .inl f_isOne)), ((am 1), .inl (cA 0, 400, .inl f_rowPerson)), ((am 3), .inl (cA 0, 400, .inl f_rowMoment)), ((am 4), .inl (cA 0, 400, .inl f_rowKnown)), ((am 5), .inl (cA 0, 400, .inl f_rowValue))] sz) [((am 0), .inr (9, F9 am v_status v_now v_told v_merges v_taped v_size v_from v_to v_fault v_readFault v_traits v_length v_open v_leaks v_places v_models)), ((am 6), .inl (cA 2, 400, .inl f_isGone)), ((am 2), .inl (cA 0, 400, .inl f_rowStream)), ((am 19), .inl (cA 2, 20, .inl f_isOne)), ((am 1), .inl (cA 0, 400, .inl f_rowPerson)), ((am 3), .inl (cA 0, 400, .inl f_rowMoment)), ((am 4), .inl (cA 0, 400, .inl f_rowKnown)), ((am 5), .inl (cA 0, 400, .inl f_rowValue))]) (va_A [((am 0), .inr (9, F9 am v_status v_now v_told v_merges v_taped v_size v_from v_to v_fault v_readFault v_traits v_length v_open v_leaks v_places v_models)), ((am 6), .inl (cA 2, 400, .inl f_isGone)), ((am 2), .inl (cA 0, 400, .inl f_rowStream)), ((am 19), .inl (cA 2, 20, .inl f_isOne)), ((am 1), .inl (cA 0, 400, .inl f_rowPerson)), ((am 3), .inl (cA 0, 400, .inl f_rowMoment)), ((am 4), .inl (cA 0, 400, .inl f_rowKnown)), ((am 5), .inl (cA 0, 400, .inl f_rowValue))] sz)) 0 0 (va_A [((am 0), .inr (9, F9 am v_status v_now v_told v_merges v_taped v_size v_from v_to v_fault v_readFault v_traits v_length v_open v_leaks v_places v_models)), ((am 6), .inl (cA 2, 400, .inl f_isGone)), ((am 2), .inl (cA 0, 400, .inl f_rowStream)), ((am 19), .inl (cA 2, 20, .inl f_isOne)), ((am 1), .inl (cA 0, 400, .inl f_rowPerson)), ((am 3), .inl (cA 0, 400, .inl f_rowMoment)), ((am 4), .inl (cA 0, 400, .inl f_rowKnown)), ((am 5), .inl (cA 0, 400, .inl f_rowValue))] sz) := by
  refine Met.ofW (cc := cX9_latest) (maxL := 7) (ret := (some .long)) (by decide) rfl ?_
  intro p e s m args below meth c s₁ B hml hv
  obtain ⟨rfl, hsz, hP, hK, hD0, hN⟩ := hv
  have hx := B.exec
  have hb := B.bytes
  have hr := B.returns
  have hts := atoms_spec (ws := wsX9_latest) B.pre
  have hown : s.vm.findClass RX9 = some m.cls := findClass_of_methodNamed B.named
  have hlocks := B.notSynchronized
  subst hsz
  have hD := hD0.self (sz := s.heap.size)
  generalize hAe : va_A [((am 0), .inr (9, F9 am v_status v_now v_told v_merges v_taped v_size v_from v_to v_fault v_readFault v_traits v_length v_open v_leaks v_places v_models)), ((am 6), .inl (cA 2, 400, .inl f_isGone)), ((am 2), .inl (cA 0, 400, .inl f_rowStream)), ((am 19), .inl (cA 2, 20, .inl f_isOne)), ((am 1), .inl (cA 0, 400, .inl f_rowPerson)), ((am 3), .inl (cA 0, 400, .inl f_rowMoment)), ((am 4), .inl (cA 0, 400, .inl f_rowKnown)), ((am 5), .inl (cA 0, 400, .inl f_rowValue))] s.heap.size = A at hD ⊢
  have hA : ∀ q : Nat, s.heap.size ≤ q → A q := fun q h => by rw [← hAe]; exact Or.inr h
  have hS : va_S A s.heap s.heap [] := va_S.rf
  have hIX9 : ∀ w ∈ u_ws RX9 TX9 51, w ∈ wsX9_latest := by decide +kernel
  have hl := lv_entry ([.ref (am 0), .int ss, .int tt, .int kk, .int si]) (n := 7) (Nat.le_of_ble_eq_true rfl)
  rw [lg_entry_eq]
  generalize (lg_sl ([.ref (am 0), .int ss, .int tt, .int kk, .int si]) ++ List.replicate (7 - (lg_sl ([.ref (am 0), .int ss, .int tt, .int kk, .int si])).length) Slot.unset).toArray = ls at hl ⊢
  have hl : lv_has ls 7 [(0, .ref (am 0)), (1, .int ss), (2, .int tt), (3, .int kk), (4, .int si)] := hl
  generalize hQe : MQ below _ _ _ _ _ _ = QQ
  refine lv_iconst (v := (-1)) hx hb dX9_latest_0 (by decide) ?_
  refine lv_istore (lv' := [(5, .int (-1)), (0, .ref (am 0)), (1, .int ss), (2, .int tt), (3, .int kk), (4, .int si)]) hx hb dX9_latest_1 hl (by decide) rfl (fun ls hl => ?_)
  refine lv_iconst (v := 0) hx hb dX9_latest_3 (by decide) ?_
  refine lv_istore (lv' := [(6, .int 0), (5, .int (-1)), (0, .ref (am 0)), (1, .int ss), (2, .int tt), (3, .int kk), (4, .int si)]) hx hb dX9_latest_4 hl (by decide) rfl (fun ls hl => ?_)
  have loop6_1 : ∀ (n : Nat) (i6 : Int32) (b5 : Int32) (H : Heap) (locs : List Loc) (ls : Array Slot), 400 - i6.toInt < (n : Int) → (0 ≤ i6.toInt ∧ i6.toInt ≤ 400) → ((-1) ≤ b5.toInt ∧ b5.toInt ≤ 399) → va_P (dC, dI) vwCl [((am 0), .inr (9, F9 am v_status v_now v_told v_merges v_taped v_size v_from v_to v_fault v_readFault v_traits v_length v_open v_leaks v_places v_models)), ((am 6), .inl (cA 2, 400, .inl f_isGone)), ((am 2), .inl (cA 0, 400, .inl f_rowStream)), ((am 19), .inl (cA 2, 20, .inl f_isOne)), ((am 1), .inl (cA 0, 400, .inl f_rowPerson)), ((am 3), .inl (cA 0, 400, .inl f_rowMoment)), ((am 4), .inl (cA 0, 400, .inl f_rowKnown)), ((am 5), .inl (cA 0, 400, .inl f_rowValue))] H → va_D A [((am 0), .inr (9, F9 am v_status v_now v_told v_merges v_taped v_size v_from v_to v_fault v_readFault v_traits v_length v_open v_leaks v_places v_models)), ((am 6), .inl (cA 2, 400, .inl f_isGone)), ((am 2), .inl (cA 0, 400, .inl f_rowStream)), ((am 19), .inl (cA 2, 20, .inl f_isOne)), ((am 1), .inl (cA 0, 400, .inl f_rowPerson)), ((am 3), .inl (cA 0, 400, .inl f_rowMoment)), ((am 4), .inl (cA 0, 400, .inl f_rowKnown)), ((am 5), .inl (cA 0, 400, .inl f_rowValue))] → va_S A s.heap H locs → lv_has ls 7 [(6, .int i6), (5, .int b5), (0, .ref (am 0)), (1, .int ss), (2, .int tt), (3, .int kk), (4, .int si)] → W p l e ({ frames := 1, cells := 0, slots := 0, locals := 24 }) s m ([.ref (am 0), .int ss, .int tt, .int kk, .int si] : List Value).toArray below meth c H locs 0 0 QQ (F0 m 6 ls []) := by
    intro n
    induction n with
    | zero => intro i6 b5 H locs ls hme hv0_6 hv1_6; exfalso; omega
    | succ n ih_6 =>
      intro i6 b5 H locs ls hme_6 hv0_6 hv1_6 hP hD hS hl
      refine lv_iload hx hb dX9_latest_6 (lv_at hl 0 rfl) ?_
      refine lv_aload_n hx hb dX9_latest_8 rfl (lv_at hl 2 rfl) ?_
      refine va_get (D := (dC, dI)) (ci := 9) (v := .int v_told) (C := RX9) (T := TX9) (N := 51) hx hb hts hIX9 hown hK hP 0 rfl rfl 2 (by decide) (hts (.fieldLink RX9 153 "TraitHouseModel" "told" "I") (by decide +kernel)) (fun _ h9 => h9) rfl dX9_latest_9 ?_
      refine lv_icmp_ge (tgt := 60) hx hb dX9_latest_12 (by decide) (fun c_2 => ?_) (fun c_2 => ?_)
      · have dc_2 : v_told.toInt ≤ i6.toInt := jI_le c_2 rfl rfl
        refine lv_iload hx hb dX9_latest_60 (lv_at hl 1 rfl) ?_
        refine lv_iconst (v := (-1)) hx hb dX9_latest_62 (by decide) ?_
        refine lv_icmp_ne (tgt := 72) hx hb dX9_latest_63 (by decide) (fun c_3 => ?_) (fun c_3 => ?_)
        · have dc_3 : ¬ b5.toInt = (-1) := jI_ne c_3 rfl (by decide)
          refine lv_iload hx hb dX9_latest_72 (lv_at hl 6 rfl) ?_
          refine lv_if_eq (tgt := 90) hx hb dX9_latest_74 (by decide) (fun c_4 => ?_) (fun c_4 => ?_)
          · have dc_4 : si.toInt = 0 := jI_eq c_4 rfl (by decide)
            refine lv_aload_n hx hb dX9_latest_90 rfl (lv_at hl 2 rfl) ?_
            refine va_get (D := (dC, dI)) (ci := 9) (v := .ref (am 5)) (C := RX9) (T := TX9) (N := 51) hx hb hts hIX9 hown hK hP 0 rfl rfl 7 (by decide) (hts (.fieldLink RX9 22 "TraitHouseModel" "rowValue" "[I") (by decide +kernel)) (fun _ h9 => h9) rfl dX9_latest_91 ?_
            refine lv_iload hx hb dX9_latest_94 (lv_at hl 1 rfl) ?_
            have h_5 : vp_in b5 400 := (vp_in_iff.mpr ⟨by omega, by omega⟩)
            refine va_iald hx hb hK hP 7 0 rfl rfl h_5 dX9_latest_96 ?_
            refine lv_topi (fun x_6 ex_6 => ?_)
            obtain ⟨y_7, ey_7⟩ : ∃ y : Int64, y = x_6.toInt64 := ⟨_, rfl⟩
            have dy_7 : y_7.toInt = x_6.toInt := by rw [ey_7]; exact Int32.toInt_toInt64 _
            refine lv_i2l (v := y_7) hx hb dX9_latest_97 ey_7.symm ?_
            obtain ⟨hP9, hD9⟩ := va_pd (ws' := [((am 0), .inr (9, F9 am v_status v_now v_told v_merges v_taped v_size v_from v_to v_fault v_readFault v_traits v_length v_open v_leaks v_places v_models)), ((am 6), .inl (cA 2, 400, .inl f_isGone)), ((am 2), .inl (cA 0, 400, .inl f_rowStream)), ((am 19), .inl (cA 2, 20, .inl f_isOne)), ((am 1), .inl (cA 0, 400, .inl f_rowPerson)), ((am 3), .inl (cA 0, 400, .inl f_rowMoment)), ((am 4), .inl (cA 0, 400, .inl f_rowKnown)), ((am 5), .inl (cA 0, 400, .inl f_rowValue))]) hP hD [0, 1, 2, 3, 4, 5, 6, 7] (by decide) rfl
            subst hQe
            have hans : (y_7 : Int64).toInt = y_7.toInt := rfl
            exact W.lret (v := y_7) hx hb hr (fun t ht hW => ⟨⟨y_7, (), rfl, trivial, by rw [ht]; exact hP9, hD9⟩, hS.F ht⟩) hS.2.2 dX9_latest_98
          · have dc_4 : ¬ si.toInt = 0 := jI_ne c_4 rfl (by decide)
            refine lv_iload_n hx hb dX9_latest_77 rfl (lv_at hl 4 rfl) ?_
            refine lv_aload_n hx hb dX9_latest_78 rfl (lv_at hl 2 rfl) ?_
            refine va_get (D := (dC, dI)) (ci := 9) (v := .ref (am 3)) (C := RX9) (T := TX9) (N := 51) hx hb hts hIX9 hown hK hP 0 rfl rfl 5 (by decide) (hts (.fieldLink RX9 16 "TraitHouseModel" "rowMoment" "[I") (by decide +kernel)) (fun _ h9 => h9) rfl dX9_latest_79 ?_
            refine lv_iload hx hb dX9_latest_82 (lv_at hl 1 rfl) ?_
            have h_8 : vp_in b5 400 := (vp_in_iff.mpr ⟨by omega, by omega⟩)
            refine va_iald hx hb hK hP 5 0 rfl rfl h_8 dX9_latest_84 ?_
            refine lv_topi (fun x_9 ex_9 => ?_)
            refine lv_isub hx hb dX9_latest_85 ?_
            refine lv_topi (fun x_10 ex_10 => ?_)
            obtain ⟨y_11, ey_11⟩ : ∃ y : Int64, y = x_10.toInt64 := ⟨_, rfl⟩
            have dy_11 : y_11.toInt = x_10.toInt := by rw [ey_11]; exact Int32.toInt_toInt64 _
            refine lv_i2l (v := y_11) hx hb dX9_latest_86 ey_11.symm ?_
            refine lv_goto (tgt := 98) hx hb dX9_latest_87 (by decide) ?_
            obtain ⟨hP9, hD9⟩ := va_pd (ws' := [((am 0), .inr (9, F9 am v_status v_now v_told v_merges v_taped v_size v_from v_to v_fault v_readFault v_traits v_length v_open v_leaks v_places v_models)), ((am 6), .inl (cA 2, 400, .inl f_isGone)), ((am 2), .inl (cA 0, 400, .inl f_rowStream)), ((am 19), .inl (cA 2, 20, .inl f_isOne)), ((am 1), .inl (cA 0, 400, .inl f_rowPerson)), ((am 3), .inl (cA 0, 400, .inl f_rowMoment)), ((am 4), .inl (cA 0, 400, .inl f_rowKnown)), ((am 5), .inl (cA 0, 400, .inl f_rowValue))]) hP hD [0, 1, 2, 3, 4, 5, 6, 7] (by decide) rfl
            subst hQe
            have hans : (y_11 : Int64).toInt = y_11.toInt := rfl
            exact W.lret (v := y_11) hx hb hr (fun t ht hW => ⟨⟨y_11, (), rfl, trivial, by rw [ht]; exact hP9, hD9⟩, hS.F ht⟩) hS.2.2 dX9_latest_98
        · have dc_3 : b5.toInt = (-1) := jI_eq c_3 rfl (by decide)
          refine lv_ldc2 hx hb hown (hts (.constantLong RX9 274 (-9000000000000000000)) (by decide +kernel)) dX9_latest_66 ?_
          refine lv_goto (tgt := 98) hx hb dX9_latest_69 (by decide) ?_
          obtain ⟨hP9, hD9⟩ := va_pd (ws' := [((am 0), .inr (9, F9 am v_status v_now v_told v_merges v_taped v_size v_from v_to v_fault v_readFault v_traits v_length v_open v_leaks v_places v_models)), ((am 6), .inl (cA 2, 400, .inl f_isGone)), ((am 2), .inl (cA 0, 400, .inl f_rowStream)), ((am 19), .inl (cA 2, 20, .inl f_isOne)), ((am 1), .inl (cA 0, 400, .inl f_rowPerson)), ((am 3), .inl (cA 0, 400, .inl f_rowMoment)), ((am 4), .inl (cA 0, 400, .inl f_rowKnown)), ((am 5), .inl (cA 0, 400, .inl f_rowValue))]) hP hD [0, 1, 2, 3, 4, 5, 6, 7] (by decide) rfl
          subst hQe
          have hans : ((-9000000000000000000) : Int64).toInt = (-9000000000000000000) := (by decide)
          exact W.lret (v := (-9000000000000000000)) hx hb hr (fun t ht hW => ⟨⟨(-9000000000000000000), (), rfl, trivial, by rw [ht]; exact hP9, hD9⟩, hS.F ht⟩) hS.2.2 dX9_latest_98
      · have dc_2 : i6.toInt < v_told.toInt := jI_nle c_2 rfl rfl
        refine lv_aload_n hx hb dX9_latest_15 rfl (lv_at hl 2 rfl) ?_
        refine lv_iload hx hb dX9_latest_16 (lv_at hl 0 rfl) ?_
        refine lv_iload_n hx hb dX9_latest_18 rfl (lv_at hl 3 rfl) ?_
        refine lv_iload_n hx hb dX9_latest_19 rfl (lv_at hl 4 rfl) ?_
        refine lv_iload_n hx hb dX9_latest_20 rfl (lv_at hl 5 rfl) ?_
        obtain ⟨hPc, hDc, hFc, hCc⟩ := va_pre (ws' := [((am 0), .inr (9, F9 am v_status v_now v_told v_merges v_taped v_size v_from v_to v_fault v_readFault v_traits v_length v_open v_leaks v_places v_models)), ((am 6), .inl (cA 2, 400, .inl f_isGone)), ((am 2), .inl (cA 0, 400, .inl f_rowStream)), ((am 19), .inl (cA 2, 20, .inl f_isOne)), ((am 1), .inl (cA 0, 400, .inl f_rowPerson)), ((am 3), .inl (cA 0, 400, .inl f_rowMoment)), ((am 4), .inl (cA 0, 400, .inl f_rowKnown))]) hP hD hS hA [0, 1, 2, 3, 4, 5, 6] (by decide) rfl
        refine va_calli (va_runV (As := [.int i6, .int ss, .int tt, .int kk]) (rest := []) ⟨hx, hb, hml, hown, hts⟩ (k_X9_counts l dC dI cA H.size am v_status v_now v_told v_merges v_taped v_size v_from v_to v_fault v_readFault v_traits v_length v_open v_leaks v_places v_models f_isGone f_rowStream f_isOne f_rowPerson f_rowMoment f_rowKnown i6 ss tt kk i_v_now i_v_told i_v_taped i_v_size i_v_from i_v_to i_v_traits i_v_length i_v_open i_v_places i_v_models i_f_rowPerson (by omega)) (cwV 4 hts gX9_latest_X9_counts rfl rfl rfl (by decide +kernel) ⟨Nat.le_of_ble_eq_true rfl, Nat.le_of_ble_eq_true rfl⟩) ⟨fun a U g mk q => by obtain ⟨q0, q1, qP, qK, qD, qN⟩ := q; exact ⟨q0, q1, qP, va_K.moved (u := U) (U := U.calling g mk a) (Vm.Alike.refl U.vm) qK, qD, qN.same rfl⟩, va_recv hK hPc (ci := 9) (q0 := 0) rfl rfl, fun U hU hW => ⟨rfl, by rw [hU], by rw [hU]; exact hPc, va_K.moved hW.alike hK, hDc.weaken (fun _ _ _ _ => trivial), hN.warm hW⟩⟩ rfl rfl hl.1 rfl (lv_room (Nat.le_of_ble_eq_true rfl)) dX9_latest_21 ⟨Nat.le_of_ble_eq_true rfl, Nat.le_of_ble_eq_true rfl⟩) hS (fun q _ h => hFc q h) hFc (fun r_12 u_13 t H1 locs ht hvm hw_14 hB hz1 hk1 hS => ?_)
        try dsimp only at hw_14 hB
        have po_15 := hw_14
        clear hw_14
        obtain ⟨hP1, hD1⟩ := hB
        rw [ht] at hP1
        obtain ⟨hP, hD⟩ := va_join (wr := [((am 5), .inl (cA 0, 400, .inl f_rowValue))]) (w1 := [((am 0), .inr (9, F9 am v_status v_now v_told v_merges v_taped v_size v_from v_to v_fault v_readFault v_traits v_length v_open v_leaks v_places v_models)), ((am 6), .inl (cA 2, 400, .inl f_isGone)), ((am 2), .inl (cA 0, 400, .inl f_rowStream)), ((am 19), .inl (cA 2, 20, .inl f_isOne)), ((am 1), .inl (cA 0, 400, .inl f_rowPerson)), ((am 3), .inl (cA 0, 400, .inl f_rowMoment)), ((am 4), .inl (cA 0, 400, .inl f_rowKnown))]) hP hD [0, 1, 2, 3, 4, 5, 6] [7] hCc rfl (by decide) (by decide) hk1 hFc hP1 hD1
        clear hz1
        generalize H1 = H at hP hS ⊢
        refine lv_if_eq (tgt := 54) hx hb dX9_latest_24 (by decide) (fun c_16 => ?_) (fun c_16 => ?_)
        · have dc_16 : r_12.toInt = 0 := jI_eq c_16 rfl (by decide)
          obtain ⟨x_17, ex_17⟩ : ∃ y : Int32, y = i6 + 1 := ⟨_, rfl⟩
          have dx_17 : x_17.toInt = i6.toInt + 1 := by rw [ex_17]; exact jI_add rfl (by decide) (by omega) (by omega)
          refine lv_iinc (v := x_17) (lv' := [(6, .int x_17), (5, .int b5), (0, .ref (am 0)), (1, .int ss), (2, .int tt), (3, .int kk), (4, .int si)]) hx hb dX9_latest_54 hl (k := 0) rfl (by rw [ex_17]; rfl) (by decide) rfl (fun ls hl => ?_)
          refine lv_goto (tgt := 6) hx hb dX9_latest_57 (by decide) ?_
          exact ih_6 x_17 b5 _ _ ls (by omega) (by omega) hv1_6 (hP.sub [1, 2, 3, 4, 5, 6, 7, 0] rfl) (hD.sub [1, 2, 3, 4, 5, 6, 7, 0] (by decide) rfl) hS (lv_sub hl [0, 1, 2, 3, 4, 5, 6] rfl)
        · have dc_16 : ¬ r_12.toInt = 0 := jI_ne c_16 rfl (by decide)
          refine lv_iload hx hb dX9_latest_27 (lv_at hl 1 rfl) ?_
          refine lv_iconst (v := (-1)) hx hb dX9_latest_29 (by decide) ?_
          refine lv_icmp_eq (tgt := 50) hx hb dX9_latest_30 (by decide) (fun c_18 => ?_) (fun c_18 => ?_)
          · have dc_18 : b5.toInt = (-1) := jI_eq c_18 rfl (by decide)
            refine lv_iload hx hb dX9_latest_50 (lv_at hl 0 rfl) ?_
            refine lv_istore (lv' := [(5, .int i6), (6, .int i6), (0, .ref (am 0)), (1, .int ss), (2, .int tt), (3, .int kk), (4, .int si)]) hx hb dX9_latest_52 hl (by decide) rfl (fun ls hl => ?_)
            obtain ⟨x_19, ex_19⟩ : ∃ y : Int32, y = i6 + 1 := ⟨_, rfl⟩
            have dx_19 : x_19.toInt = i6.toInt + 1 := by rw [ex_19]; exact jI_add rfl (by decide) (by omega) (by omega)
            refine lv_iinc (v := x_19) (lv' := [(6, .int x_19), (5, .int i6), (0, .ref (am 0)), (1, .int ss), (2, .int tt), (3, .int kk), (4, .int si)]) hx hb dX9_latest_54 hl (k := 1) rfl (by rw [ex_19]; rfl) (by decide) rfl (fun ls hl => ?_)
            refine lv_goto (tgt := 6) hx hb dX9_latest_57 (by decide) ?_
            exact ih_6 x_19 i6 _ _ ls (by omega) (by omega) (by omega) (hP.sub [1, 2, 3, 4, 5, 6, 7, 0] rfl) (hD.sub [1, 2, 3, 4, 5, 6, 7, 0] (by decide) rfl) hS (lv_sub hl [0, 1, 2, 3, 4, 5, 6] rfl)
          · have dc_18 : ¬ b5.toInt = (-1) := jI_ne c_18 rfl (by decide)
            refine lv_aload_n hx hb dX9_latest_33 rfl (lv_at hl 2 rfl) ?_
            refine va_get (D := (dC, dI)) (ci := 9) (v := .ref (am 3)) (C := RX9) (T := TX9) (N := 51) hx hb hts hIX9 hown hK hP 1 rfl rfl 5 (by decide) (hts (.fieldLink RX9 16 "TraitHouseModel" "rowMoment" "[I") (by decide +kernel)) (fun _ h9 => h9) rfl dX9_latest_34 ?_
            refine lv_iload hx hb dX9_latest_37 (lv_at hl 0 rfl) ?_
            have h_20 : vp_in i6 400 := (vp_in_iff.mpr ⟨by omega, by omega⟩)
            refine va_iald hx hb hK hP 6 0 rfl rfl h_20 dX9_latest_39 ?_
            refine lv_topi (fun x_21 ex_21 => ?_)
            refine lv_aload_n hx hb dX9_latest_40 rfl (lv_at hl 2 rfl) ?_
            refine va_get (D := (dC, dI)) (ci := 9) (v := .ref (am 3)) (C := RX9) (T := TX9) (N := 51) hx hb hts hIX9 hown hK hP 1 rfl rfl 5 (by decide) (hts (.fieldLink RX9 16 "TraitHouseModel" "rowMoment" "[I") (by decide +kernel)) (fun _ h9 => h9) rfl dX9_latest_41 ?_
            refine lv_iload hx hb dX9_latest_44 (lv_at hl 1 rfl) ?_
            have h_22 : vp_in b5 400 := (vp_in_iff.mpr ⟨by omega, by omega⟩)
            refine va_iald hx hb hK hP 6 0 rfl rfl h_22 dX9_latest_46 ?_
            refine lv_topi (fun x_23 ex_23 => ?_)
            refine lv_icmp_lt (tgt := 54) hx hb dX9_latest_47 (by decide) (fun c_24 => ?_) (fun c_24 => ?_)
            · have dc_24 : x_21.toInt < x_23.toInt := jI_lt c_24 rfl rfl
              obtain ⟨x_25, ex_25⟩ : ∃ y : Int32, y = i6 + 1 := ⟨_, rfl⟩
              have dx_25 : x_25.toInt = i6.toInt + 1 := by rw [ex_25]; exact jI_add rfl (by decide) (by omega) (by omega)
              refine lv_iinc (v := x_25) (lv' := [(6, .int x_25), (5, .int b5), (0, .ref (am 0)), (1, .int ss), (2, .int tt), (3, .int kk), (4, .int si)]) hx hb dX9_latest_54 hl (k := 0) rfl (by rw [ex_25]; rfl) (by decide) rfl (fun ls hl => ?_)
              refine lv_goto (tgt := 6) hx hb dX9_latest_57 (by decide) ?_
              exact ih_6 x_25 b5 _ _ ls (by omega) (by omega) hv1_6 (hP.sub [1, 2, 3, 4, 5, 6, 7, 0] rfl) (hD.sub [1, 2, 3, 4, 5, 6, 7, 0] (by decide) rfl) hS (lv_sub hl [0, 1, 2, 3, 4, 5, 6] rfl)
            · have dc_24 : x_23.toInt ≤ x_21.toInt := jI_nlt c_24 rfl rfl
              refine lv_iload hx hb dX9_latest_50 (lv_at hl 0 rfl) ?_
              refine lv_istore (lv' := [(5, .int i6), (6, .int i6), (0, .ref (am 0)), (1, .int ss), (2, .int tt), (3, .int kk), (4, .int si)]) hx hb dX9_latest_52 hl (by decide) rfl (fun ls hl => ?_)
              obtain ⟨x_26, ex_26⟩ : ∃ y : Int32, y = i6 + 1 := ⟨_, rfl⟩
              have dx_26 : x_26.toInt = i6.toInt + 1 := by rw [ex_26]; exact jI_add rfl (by decide) (by omega) (by omega)
              refine lv_iinc (v := x_26) (lv' := [(6, .int x_26), (5, .int i6), (0, .ref (am 0)), (1, .int ss), (2, .int tt), (3, .int kk), (4, .int si)]) hx hb dX9_latest_54 hl (k := 1) rfl (by rw [ex_26]; rfl) (by decide) rfl (fun ls hl => ?_)
              refine lv_goto (tgt := 6) hx hb dX9_latest_57 (by decide) ?_
              exact ih_6 x_26 i6 _ _ ls (by omega) (by omega) (by omega) (hP.sub [1, 2, 3, 4, 5, 6, 7, 0] rfl) (hD.sub [1, 2, 3, 4, 5, 6, 7, 0] (by decide) rfl) hS (lv_sub hl [0, 1, 2, 3, 4, 5, 6] rfl)
  have hk_27 : (0 : Int32).toInt = 0 := by decide
  have hk_28 : ((-1) : Int32).toInt = (-1) := by decide
  exact loop6_1 (Int.toNat (400 - (0 : Int32).toInt) + 1) 0 (-1) _ _ ls (by omega) (by omega) (by omega) hP hD hS (lv_sub hl [0, 1, 2, 3, 4, 5, 6] rfl)

set_option maxHeartbeats 8000000 in
set_option maxRecDepth 100000 in
theorem k_X9_windowed (l : Launch) (dC : Nat → ClassId) (dI : Nat → Nat → Nat) (cA : Nat → ClassId) (sz : Nat) (am : Nat → Nat) (v_status : Int32) (v_now : Int32) (v_told : Int32) (v_merges : Int32) (v_taped : Int32) (v_size : Int32) (v_from : Int32) (v_to : Int32) (v_fault : Int32) (v_readFault : Int32) (v_traits : Int32) (v_length : Int32) (v_open : Int32) (v_leaks : Int32) (v_places : Int32) (v_models : Int32) (f_isGone : Nat → Int32) (f_rowStream : Nat → Int32) (f_isOne : Nat → Int32) (f_rowPerson : Nat → Int32) (f_rowMoment : Nat → Int32) (f_rowKnown : Nat → Int32) (f_rowValue : Nat → Int32) (cd : Int32) (ss : Int32) (xx : Int32) (yy : Int32) (tt : Int32) (kk : Int32) (i_v_now : 0 ≤ v_now.toInt ∧ v_now.toInt ≤ 100000) (i_v_told : 0 ≤ v_told.toInt ∧ v_told.toInt ≤ 400) (i_v_taped : 0 ≤ v_taped.toInt ∧ v_taped.toInt ≤ 200) (i_v_size : 0 ≤ v_size.toInt ∧ v_size.toInt ≤ 200) (i_v_from : 0 ≤ v_from.toInt ∧ v_from.toInt ≤ 200) (i_v_to : 0 ≤ v_to.toInt ∧ v_to.toInt ≤ 200) (i_v_traits : 0 ≤ v_traits.toInt ∧ v_traits.toInt ≤ 20) (i_v_length : 0 ≤ v_length.toInt ∧ v_length.toInt ≤ 200) (i_v_open : 0 ≤ v_open.toInt ∧ v_open.toInt ≤ 8) (i_v_places : 0 ≤ v_places.toInt ∧ v_places.toInt ≤ 2000) (i_v_models : 0 ≤ v_models.toInt ∧ v_models.toInt ≤ 10) (i_f_rowPerson : inB 0 19 400 f_rowPerson)  : Met l yX9_windowed wsX9_windowed ({ frames := 1, cells := 0, slots := 0, locals := 24 }) (va_Pc [.ref (am 0), .int cd, .int ss, .int xx, .int yy, .int tt, .int kk] (fun U => U.heap.size = sz ∧ va_P (dC, dI) vwCl [((am 0), .inr (9, F9 am v_status v_now v_told v_merges v_taped v_size v_from v_to v_fault v_readFault v_traits v_length v_open v_leaks v_places v_models)), ((am 6), .inl (cA 2, 400, .inl f_isGone)), ((am 2), .inl (cA 0, 400, .inl f_rowStream)), ((am 19), .inl (cA 2, 20, .inl f_isOne)), ((am 1), .inl (cA 0, 400, .inl f_rowPerson)), ((am 3), .inl (cA 0, 400, .inl f_rowMoment)), ((am 4), .inl (cA 0, 400, .inl f_rowKnown)), ((am 5), .inl (cA 0, 400, .inl f_rowValue))] U.heap ∧ va_K (dC, dI) vwCl (tyL cA) U ∧ va_D (fun _ => True) [((am 0), .inr (9, F9 am v_status v_now v_told v_merges v_taped v_size v_from v_to v_fault v_readFault v_traits v_length v_open v_leaks v_places v_models)), ((am 6), .inl (cA 2, 400, .inl f_isGone)), ((am 2), .inl (cA 0, 400, .inl f_rowStream)), ((am 19), .inl (cA 2, 20, .inl f_isOne)), ((am 1), .inl (cA 0, 400, .inl f_rowPerson)), ((am 3), .inl (cA 0, 400, .inl f_rowMoment)), ((am 4), .inl (cA 0, 400, .inl f_rowKnown)), ((am 5), .inl (cA 0, 400, .inl f_rowValue))] ∧ nw_ok U)) (va_Ql (fun (r : Int64) (_ : Unit) => True) (fun (_ : Unit) (t : State) => va_P (dC, dI) vwCl [((am 0), .inr (9, F9 am v_status v_now v_told v_merges v_taped v_size v_from v_to v_fault v_readFault v_traits v_length v_open v_leaks v_places v_models)), ((am 6), .inl (cA 2, 400, .inl f_isGone)), ((am 2), .inl (cA 0, 400, .inl f_rowStream)), ((am 19), .inl (cA 2, 20, .inl f_isOne)), ((am 1), .inl (cA 0, 400, .inl f_rowPerson)), ((am 3), .inl (cA 0, 400, .inl f_rowMoment)), ((am 4), .inl (cA 0, 400, .inl f_rowKnown)), ((am 5), .inl (cA 0, 400, .inl f_rowValue))] t.heap ∧ va_D (va_A [((am 0), .inr (9, F9 am v_status v_now v_told v_merges v_taped v_size v_from v_to v_fault v_readFault v_traits v_length v_open v_leaks v_places v_models)), ((am 6), .inl (cA 2, 400, .inl f_isGone)), ((am 2), .inl (cA 0, 400, .inl f_rowStream)), ((am 19), .inl (cA 2, 20, .inl f_isOne)), ((am 1), .inl (cA 0, 400, .inl f_rowPerson)), ((am 3), .inl (cA 0, 400, .inl f_rowMoment)), ((am 4), .inl (cA 0, 400, .inl f_rowKnown)), ((am 5), .inl (cA 0, 400, .inl f_rowValue))] sz) [((am 0), .inr (9, F9 am v_status v_now v_told v_merges v_taped v_size v_from v_to v_fault v_readFault v_traits v_length v_open v_leaks v_places v_models)), ((am 6), .inl (cA 2, 400, .inl f_isGone)), ((am 2), .inl (cA 0, 400, .inl f_rowStream)), ((am 19), .inl (cA 2, 20, .inl f_isOne)), ((am 1), .inl (cA 0, 400, .inl f_rowPerson)), ((am 3), .inl (cA 0, 400, .inl f_rowMoment)), ((am 4), .inl (cA 0, 400, .inl f_rowKnown)), ((am 5), .inl (cA 0, 400, .inl f_rowValue))]) (va_A [((am 0), .inr (9, F9 am v_status v_now v_told v_merges v_taped v_size v_from v_to v_fault v_readFault v_traits v_length v_open v_leaks v_places v_models)), ((am 6), .inl (cA 2, 400, .inl f_isGone)), ((am 2), .inl (cA 0, 400, .inl f_rowStream)), ((am 19), .inl (cA 2, 20, .inl f_isOne)), ((am 1), .inl (cA 0, 400, .inl f_rowPerson)), ((am 3), .inl (cA 0, 400, .inl f_rowMoment)), ((am 4), .inl (cA 0, 400, .inl f_rowKnown)), ((am 5), .inl (cA 0, 400, .inl f_rowValue))] sz)) 0 0 (va_A [((am 0), .inr (9, F9 am v_status v_now v_told v_merges v_taped v_size v_from v_to v_fault v_readFault v_traits v_length v_open v_leaks v_places v_models)), ((am 6), .inl (cA 2, 400, .inl f_isGone)), ((am 2), .inl (cA 0, 400, .inl f_rowStream)), ((am 19), .inl (cA 2, 20, .inl f_isOne)), ((am 1), .inl (cA 0, 400, .inl f_rowPerson)), ((am 3), .inl (cA 0, 400, .inl f_rowMoment)), ((am 4), .inl (cA 0, 400, .inl f_rowKnown)), ((am 5), .inl (cA 0, 400, .inl f_rowValue))] sz) := by
  refine Met.ofW (cc := cX9_windowed) (maxL := 12) (ret := (some .long)) (by decide) rfl ?_
  intro p e s m args below meth c s₁ B hml hv
  obtain ⟨rfl, hsz, hP, hK, hD0, hN⟩ := hv
  have hx := B.exec
  have hb := B.bytes
  have hr := B.returns
  have hts := atoms_spec (ws := wsX9_windowed) B.pre
  have hown : s.vm.findClass RX9 = some m.cls := findClass_of_methodNamed B.named
  have hlocks := B.notSynchronized
  subst hsz
  have hD := hD0.self (sz := s.heap.size)
  generalize hAe : va_A [((am 0), .inr (9, F9 am v_status v_now v_told v_merges v_taped v_size v_from v_to v_fault v_readFault v_traits v_length v_open v_leaks v_places v_models)), ((am 6), .inl (cA 2, 400, .inl f_isGone)), ((am 2), .inl (cA 0, 400, .inl f_rowStream)), ((am 19), .inl (cA 2, 20, .inl f_isOne)), ((am 1), .inl (cA 0, 400, .inl f_rowPerson)), ((am 3), .inl (cA 0, 400, .inl f_rowMoment)), ((am 4), .inl (cA 0, 400, .inl f_rowKnown)), ((am 5), .inl (cA 0, 400, .inl f_rowValue))] s.heap.size = A at hD ⊢
  have hA : ∀ q : Nat, s.heap.size ≤ q → A q := fun q h => by rw [← hAe]; exact Or.inr h
  have hS : va_S A s.heap s.heap [] := va_S.rf
  have hIX9 : ∀ w ∈ u_ws RX9 TX9 51, w ∈ wsX9_windowed := by decide +kernel
  have hl := lv_entry ([.ref (am 0), .int cd, .int ss, .int xx, .int yy, .int tt, .int kk]) (n := 12) (Nat.le_of_ble_eq_true rfl)
  rw [lg_entry_eq]
  generalize (lg_sl ([.ref (am 0), .int cd, .int ss, .int xx, .int yy, .int tt, .int kk]) ++ List.replicate (12 - (lg_sl ([.ref (am 0), .int cd, .int ss, .int xx, .int yy, .int tt, .int kk])).length) Slot.unset).toArray = ls at hl ⊢
  have hl : lv_has ls 12 [(0, .ref (am 0)), (1, .int cd), (2, .int ss), (3, .int xx), (4, .int yy), (5, .int tt), (6, .int kk)] := hl
  generalize hQe : MQ below _ _ _ _ _ _ = QQ
  refine lv_iconst (v := 0) hx hb dX9_windowed_0 (by decide) ?_
  refine lv_istore (lv' := [(7, .int 0), (0, .ref (am 0)), (1, .int cd), (2, .int ss), (3, .int xx), (4, .int yy), (5, .int tt), (6, .int kk)]) hx hb dX9_windowed_1 hl (by decide) rfl (fun ls hl => ?_)
  refine lv_lconst (v := 0) hx hb dX9_windowed_3 (by decide) ?_
  refine lv_lstore (lv' := [(8, .long 0), (7, .int 0), (0, .ref (am 0)), (1, .int cd), (2, .int ss), (3, .int xx), (4, .int yy), (5, .int tt), (6, .int kk)]) hx hb dX9_windowed_4 hl (by decide) rfl (fun ls hl => ?_)
  refine lv_iconst (v := 0) hx hb dX9_windowed_6 (by decide) ?_
  refine lv_istore (lv' := [(10, .int 0), (8, .long 0), (7, .int 0), (0, .ref (am 0)), (1, .int cd), (2, .int ss), (3, .int xx), (4, .int yy), (5, .int tt), (6, .int kk)]) hx hb dX9_windowed_7 hl (by decide) rfl (fun ls hl => ?_)
  have loop9_1 : ∀ (n : Nat) (i10 : Int32) (y8 : Int64) (n7 : Int32) (H : Heap) (locs : List Loc) (ls : Array Slot), 400 - i10.toInt < (n : Int) → (0 ≤ i10.toInt ∧ i10.toInt ≤ 400) → va_P (dC, dI) vwCl [((am 0), .inr (9, F9 am v_status v_now v_told v_merges v_taped v_size v_from v_to v_fault v_readFault v_traits v_length v_open v_leaks v_places v_models)), ((am 6), .inl (cA 2, 400, .inl f_isGone)), ((am 2), .inl (cA 0, 400, .inl f_rowStream)), ((am 19), .inl (cA 2, 20, .inl f_isOne)), ((am 1), .inl (cA 0, 400, .inl f_rowPerson)), ((am 3), .inl (cA 0, 400, .inl f_rowMoment)), ((am 4), .inl (cA 0, 400, .inl f_rowKnown)), ((am 5), .inl (cA 0, 400, .inl f_rowValue))] H → va_D A [((am 0), .inr (9, F9 am v_status v_now v_told v_merges v_taped v_size v_from v_to v_fault v_readFault v_traits v_length v_open v_leaks v_places v_models)), ((am 6), .inl (cA 2, 400, .inl f_isGone)), ((am 2), .inl (cA 0, 400, .inl f_rowStream)), ((am 19), .inl (cA 2, 20, .inl f_isOne)), ((am 1), .inl (cA 0, 400, .inl f_rowPerson)), ((am 3), .inl (cA 0, 400, .inl f_rowMoment)), ((am 4), .inl (cA 0, 400, .inl f_rowKnown)), ((am 5), .inl (cA 0, 400, .inl f_rowValue))] → va_S A s.heap H locs → lv_has ls 12 [(10, .int i10), (8, .long y8), (7, .int n7), (0, .ref (am 0)), (1, .int cd), (2, .int ss), (3, .int xx), (4, .int yy), (5, .int tt), (6, .int kk)] → W p l e ({ frames := 1, cells := 0, slots := 0, locals := 24 }) s m ([.ref (am 0), .int cd, .int ss, .int xx, .int yy, .int tt, .int kk] : List Value).toArray below meth c H locs 0 0 QQ (F0 m 9 ls []) := by
    intro n
    induction n with
    | zero => intro i10 y8 n7 H locs ls hme hv0_9; exfalso; omega
    | succ n ih_9 =>
      intro i10 y8 n7 H locs ls hme_9 hv0_9 hP hD hS hl
      refine lv_iload hx hb dX9_windowed_9 (lv_at hl 0 rfl) ?_
      refine lv_aload_n hx hb dX9_windowed_11 rfl (lv_at hl 3 rfl) ?_
      refine va_get (D := (dC, dI)) (ci := 9) (v := .int v_told) (C := RX9) (T := TX9) (N := 51) hx hb hts hIX9 hown hK hP 0 rfl rfl 2 (by decide) (hts (.fieldLink RX9 153 "TraitHouseModel" "told" "I") (by decide +kernel)) (fun _ h9 => h9) rfl dX9_windowed_12 ?_
      refine lv_icmp_ge (tgt := 184) hx hb dX9_windowed_15 (by decide) (fun c_2 => ?_) (fun c_2 => ?_)
      · have dc_2 : v_told.toInt ≤ i10.toInt := jI_le c_2 rfl rfl
        refine lv_iload_n hx hb dX9_windowed_184 rfl (lv_at hl 4 rfl) ?_
        refine lv_bipush (v := 9) hx hb dX9_windowed_185 (by decide) ?_
        refine lv_icmp_ne (tgt := 196) hx hb dX9_windowed_187 (by decide) (fun c_3 => ?_) (fun c_3 => ?_)
        · have dc_3 : ¬ cd.toInt = 9 := jI_ne c_3 rfl (by decide)
          refine lv_iload hx hb dX9_windowed_196 (lv_at hl 2 rfl) ?_
          refine lv_if_ne (tgt := 207) hx hb dX9_windowed_198 (by decide) (fun c_4 => ?_) (fun c_4 => ?_)
          · have dc_4 : ¬ n7.toInt = 0 := jI_ne c_4 rfl (by decide)
            refine lv_lload hx hb dX9_windowed_207 (lv_at hl 1 rfl) ?_
            obtain ⟨hP9, hD9⟩ := va_pd (ws' := [((am 0), .inr (9, F9 am v_status v_now v_told v_merges v_taped v_size v_from v_to v_fault v_readFault v_traits v_length v_open v_leaks v_places v_models)), ((am 6), .inl (cA 2, 400, .inl f_isGone)), ((am 2), .inl (cA 0, 400, .inl f_rowStream)), ((am 19), .inl (cA 2, 20, .inl f_isOne)), ((am 1), .inl (cA 0, 400, .inl f_rowPerson)), ((am 3), .inl (cA 0, 400, .inl f_rowMoment)), ((am 4), .inl (cA 0, 400, .inl f_rowKnown)), ((am 5), .inl (cA 0, 400, .inl f_rowValue))]) hP hD [0, 1, 2, 3, 4, 5, 6, 7] (by decide) rfl
            subst hQe
            have hans : (y8 : Int64).toInt = y8.toInt := rfl
            exact W.lret (v := y8) hx hb hr (fun t ht hW => ⟨⟨y8, (), rfl, trivial, by rw [ht]; exact hP9, hD9⟩, hS.F ht⟩) hS.2.2 dX9_windowed_209
          · have dc_4 : n7.toInt = 0 := jI_eq c_4 rfl (by decide)
            refine lv_ldc2 hx hb hown (hts (.constantLong RX9 274 (-9000000000000000000)) (by decide +kernel)) dX9_windowed_201 ?_
            refine lv_goto (tgt := 209) hx hb dX9_windowed_204 (by decide) ?_
            obtain ⟨hP9, hD9⟩ := va_pd (ws' := [((am 0), .inr (9, F9 am v_status v_now v_told v_merges v_taped v_size v_from v_to v_fault v_readFault v_traits v_length v_open v_leaks v_places v_models)), ((am 6), .inl (cA 2, 400, .inl f_isGone)), ((am 2), .inl (cA 0, 400, .inl f_rowStream)), ((am 19), .inl (cA 2, 20, .inl f_isOne)), ((am 1), .inl (cA 0, 400, .inl f_rowPerson)), ((am 3), .inl (cA 0, 400, .inl f_rowMoment)), ((am 4), .inl (cA 0, 400, .inl f_rowKnown)), ((am 5), .inl (cA 0, 400, .inl f_rowValue))]) hP hD [0, 1, 2, 3, 4, 5, 6, 7] (by decide) rfl
            subst hQe
            have hans : ((-9000000000000000000) : Int64).toInt = (-9000000000000000000) := (by decide)
            exact W.lret (v := (-9000000000000000000)) hx hb hr (fun t ht hW => ⟨⟨(-9000000000000000000), (), rfl, trivial, by rw [ht]; exact hP9, hD9⟩, hS.F ht⟩) hS.2.2 dX9_windowed_209
        · have dc_3 : cd.toInt = 9 := jI_eq c_3 rfl (by decide)
          refine lv_iload hx hb dX9_windowed_190 (lv_at hl 2 rfl) ?_
          obtain ⟨y_5, ey_5⟩ : ∃ y : Int64, y = n7.toInt64 := ⟨_, rfl⟩
          have dy_5 : y_5.toInt = n7.toInt := by rw [ey_5]; exact Int32.toInt_toInt64 _
          refine lv_i2l (v := y_5) hx hb dX9_windowed_192 ey_5.symm ?_
          refine lv_goto (tgt := 209) hx hb dX9_windowed_193 (by decide) ?_
          obtain ⟨hP9, hD9⟩ := va_pd (ws' := [((am 0), .inr (9, F9 am v_status v_now v_told v_merges v_taped v_size v_from v_to v_fault v_readFault v_traits v_length v_open v_leaks v_places v_models)), ((am 6), .inl (cA 2, 400, .inl f_isGone)), ((am 2), .inl (cA 0, 400, .inl f_rowStream)), ((am 19), .inl (cA 2, 20, .inl f_isOne)), ((am 1), .inl (cA 0, 400, .inl f_rowPerson)), ((am 3), .inl (cA 0, 400, .inl f_rowMoment)), ((am 4), .inl (cA 0, 400, .inl f_rowKnown)), ((am 5), .inl (cA 0, 400, .inl f_rowValue))]) hP hD [0, 1, 2, 3, 4, 5, 6, 7] (by decide) rfl
          subst hQe
          have hans : (y_5 : Int64).toInt = y_5.toInt := rfl
          exact W.lret (v := y_5) hx hb hr (fun t ht hW => ⟨⟨y_5, (), rfl, trivial, by rw [ht]; exact hP9, hD9⟩, hS.F ht⟩) hS.2.2 dX9_windowed_209
      · have dc_2 : i10.toInt < v_told.toInt := jI_nle c_2 rfl rfl
        refine lv_aload_n hx hb dX9_windowed_18 rfl (lv_at hl 3 rfl) ?_
        refine lv_iload hx hb dX9_windowed_19 (lv_at hl 0 rfl) ?_
        refine lv_iload_n hx hb dX9_windowed_21 rfl (lv_at hl 5 rfl) ?_
        refine lv_iload hx hb dX9_windowed_22 (lv_at hl 8 rfl) ?_
        refine lv_iload hx hb dX9_windowed_24 (lv_at hl 9 rfl) ?_
        obtain ⟨hPc, hDc, hFc, hCc⟩ := va_pre (ws' := [((am 0), .inr (9, F9 am v_status v_now v_told v_merges v_taped v_size v_from v_to v_fault v_readFault v_traits v_length v_open v_leaks v_places v_models)), ((am 6), .inl (cA 2, 400, .inl f_isGone)), ((am 2), .inl (cA 0, 400, .inl f_rowStream)), ((am 19), .inl (cA 2, 20, .inl f_isOne)), ((am 1), .inl (cA 0, 400, .inl f_rowPerson)), ((am 3), .inl (cA 0, 400, .inl f_rowMoment)), ((am 4), .inl (cA 0, 400, .inl f_rowKnown))]) hP hD hS hA [0, 1, 2, 3, 4, 5, 6] (by decide) rfl
        refine va_calli (va_runV (As := [.int i10, .int ss, .int tt, .int kk]) (rest := []) ⟨hx, hb, hml, hown, hts⟩ (k_X9_counts l dC dI cA H.size am v_status v_now v_told v_merges v_taped v_size v_from v_to v_fault v_readFault v_traits v_length v_open v_leaks v_places v_models f_isGone f_rowStream f_isOne f_rowPerson f_rowMoment f_rowKnown i10 ss tt kk i_v_now i_v_told i_v_taped i_v_size i_v_from i_v_to i_v_traits i_v_length i_v_open i_v_places i_v_models i_f_rowPerson (by omega)) (cwV 4 hts gX9_windowed_X9_counts rfl rfl rfl (by decide +kernel) ⟨Nat.le_of_ble_eq_true rfl, Nat.le_of_ble_eq_true rfl⟩) ⟨fun a U g mk q => by obtain ⟨q0, q1, qP, qK, qD, qN⟩ := q; exact ⟨q0, q1, qP, va_K.moved (u := U) (U := U.calling g mk a) (Vm.Alike.refl U.vm) qK, qD, qN.same rfl⟩, va_recv hK hPc (ci := 9) (q0 := 0) rfl rfl, fun U hU hW => ⟨rfl, by rw [hU], by rw [hU]; exact hPc, va_K.moved hW.alike hK, hDc.weaken (fun _ _ _ _ => trivial), hN.warm hW⟩⟩ rfl rfl hl.1 rfl (lv_room (Nat.le_of_ble_eq_true rfl)) dX9_windowed_26 ⟨Nat.le_of_ble_eq_true rfl, Nat.le_of_ble_eq_true rfl⟩) hS (fun q _ h => hFc q h) hFc (fun r_6 u_7 t H1 locs ht hvm hw_8 hB hz1 hk1 hS => ?_)
        try dsimp only at hw_8 hB
        have po_9 := hw_8
        clear hw_8
        obtain ⟨hP1, hD1⟩ := hB
        rw [ht] at hP1
        obtain ⟨hP, hD⟩ := va_join (wr := [((am 5), .inl (cA 0, 400, .inl f_rowValue))]) (w1 := [((am 0), .inr (9, F9 am v_status v_now v_told v_merges v_taped v_size v_from v_to v_fault v_readFault v_traits v_length v_open v_leaks v_places v_models)), ((am 6), .inl (cA 2, 400, .inl f_isGone)), ((am 2), .inl (cA 0, 400, .inl f_rowStream)), ((am 19), .inl (cA 2, 20, .inl f_isOne)), ((am 1), .inl (cA 0, 400, .inl f_rowPerson)), ((am 3), .inl (cA 0, 400, .inl f_rowMoment)), ((am 4), .inl (cA 0, 400, .inl f_rowKnown))]) hP hD [0, 1, 2, 3, 4, 5, 6] [7] hCc rfl (by decide) (by decide) hk1 hFc hP1 hD1
        clear hz1
        generalize H1 = H at hP hS ⊢
        refine lv_if_eq (tgt := 178) hx hb dX9_windowed_29 (by decide) (fun c_10 => ?_) (fun c_10 => ?_)
        · have dc_10 : r_6.toInt = 0 := jI_eq c_10 rfl (by decide)
          obtain ⟨x_11, ex_11⟩ : ∃ y : Int32, y = i10 + 1 := ⟨_, rfl⟩
          have dx_11 : x_11.toInt = i10.toInt + 1 := by rw [ex_11]; exact jI_add rfl (by decide) (by omega) (by omega)
          refine lv_iinc (v := x_11) (lv' := [(10, .int x_11), (8, .long y8), (7, .int n7), (0, .ref (am 0)), (1, .int cd), (2, .int ss), (3, .int xx), (4, .int yy), (5, .int tt), (6, .int kk)]) hx hb dX9_windowed_178 hl (k := 0) rfl (by rw [ex_11]; rfl) (by decide) rfl (fun ls hl => ?_)
          refine lv_goto (tgt := 9) hx hb dX9_windowed_181 (by decide) ?_
          exact ih_9 x_11 y8 n7 _ _ ls (by omega) (by omega) (hP.sub [1, 2, 3, 4, 5, 6, 7, 0] rfl) (hD.sub [1, 2, 3, 4, 5, 6, 7, 0] (by decide) rfl) hS (lv_sub hl [0, 1, 2, 3, 4, 5, 6, 7, 8, 9] rfl)
        · have dc_10 : ¬ r_6.toInt = 0 := jI_ne c_10 rfl (by decide)
          refine lv_aload_n hx hb dX9_windowed_32 rfl (lv_at hl 3 rfl) ?_
          refine va_get (D := (dC, dI)) (ci := 9) (v := .ref (am 3)) (C := RX9) (T := TX9) (N := 51) hx hb hts hIX9 hown hK hP 1 rfl rfl 5 (by decide) (hts (.fieldLink RX9 16 "TraitHouseModel" "rowMoment" "[I") (by decide +kernel)) (fun _ h9 => h9) rfl dX9_windowed_33 ?_
          refine lv_iload hx hb dX9_windowed_36 (lv_at hl 0 rfl) ?_
          have h_12 : vp_in i10 400 := (vp_in_iff.mpr ⟨by omega, by omega⟩)
          refine va_iald hx hb hK hP 6 0 rfl rfl h_12 dX9_windowed_38 ?_
          refine lv_topi (fun x_13 ex_13 => ?_)
          refine lv_iload hx hb dX9_windowed_39 (lv_at hl 8 rfl) ?_
          refine lv_iload_n hx hb dX9_windowed_41 rfl (lv_at hl 6 rfl) ?_
          refine lv_isub hx hb dX9_windowed_42 ?_
          refine lv_topi (fun x_14 ex_14 => ?_)
          refine lv_icmp_lt (tgt := 178) hx hb dX9_windowed_43 (by decide) (fun c_15 => ?_) (fun c_15 => ?_)
          · have dc_15 : x_13.toInt < x_14.toInt := jI_lt c_15 rfl rfl
            obtain ⟨x_16, ex_16⟩ : ∃ y : Int32, y = i10 + 1 := ⟨_, rfl⟩
            have dx_16 : x_16.toInt = i10.toInt + 1 := by rw [ex_16]; exact jI_add rfl (by decide) (by omega) (by omega)
            refine lv_iinc (v := x_16) (lv' := [(10, .int x_16), (8, .long y8), (7, .int n7), (0, .ref (am 0)), (1, .int cd), (2, .int ss), (3, .int xx), (4, .int yy), (5, .int tt), (6, .int kk)]) hx hb dX9_windowed_178 hl (k := 0) rfl (by rw [ex_16]; rfl) (by decide) rfl (fun ls hl => ?_)
            refine lv_goto (tgt := 9) hx hb dX9_windowed_181 (by decide) ?_
            exact ih_9 x_16 y8 n7 _ _ ls (by omega) (by omega) (hP.sub [1, 2, 3, 4, 5, 6, 7, 0] rfl) (hD.sub [1, 2, 3, 4, 5, 6, 7, 0] (by decide) rfl) hS (lv_sub hl [0, 1, 2, 3, 4, 5, 6, 7, 8, 9] rfl)
          · have dc_15 : x_14.toInt ≤ x_13.toInt := jI_nlt c_15 rfl rfl
            refine lv_aload_n hx hb dX9_windowed_46 rfl (lv_at hl 3 rfl) ?_
            refine va_get (D := (dC, dI)) (ci := 9) (v := .ref (am 3)) (C := RX9) (T := TX9) (N := 51) hx hb hts hIX9 hown hK hP 1 rfl rfl 5 (by decide) (hts (.fieldLink RX9 16 "TraitHouseModel" "rowMoment" "[I") (by decide +kernel)) (fun _ h9 => h9) rfl dX9_windowed_47 ?_
            refine lv_iload hx hb dX9_windowed_50 (lv_at hl 0 rfl) ?_
            have h_17 : vp_in i10 400 := (vp_in_iff.mpr ⟨by omega, by omega⟩)
            refine va_iald hx hb hK hP 6 0 rfl rfl h_17 dX9_windowed_52 ?_
            refine lv_topi (fun x_18 ex_18 => ?_)
            refine lv_iload hx hb dX9_windowed_53 (lv_at hl 8 rfl) ?_
            refine lv_iload hx hb dX9_windowed_55 (lv_at hl 7 rfl) ?_
            refine lv_isub hx hb dX9_windowed_57 ?_
            refine lv_topi (fun x_19 ex_19 => ?_)
            refine lv_icmp_le (tgt := 64) hx hb dX9_windowed_58 (by decide) (fun c_20 => ?_) (fun c_20 => ?_)
            · have dc_20 : x_18.toInt ≤ x_19.toInt := jI_le c_20 rfl rfl
              refine lv_iload hx hb dX9_windowed_64 (lv_at hl 2 rfl) ?_
              refine lv_if_ne (tgt := 73) hx hb dX9_windowed_66 (by decide) (fun c_21 => ?_) (fun c_21 => ?_)
              · have dc_21 : ¬ n7.toInt = 0 := jI_ne c_21 rfl (by decide)
                refine lv_iconst (v := 0) hx hb dX9_windowed_73 (by decide) ?_
                refine lv_istore (lv' := [(11, .int 0), (10, .int i10), (8, .long y8), (7, .int n7), (0, .ref (am 0)), (1, .int cd), (2, .int ss), (3, .int xx), (4, .int yy), (5, .int tt), (6, .int kk)]) hx hb dX9_windowed_74 hl (by decide) rfl (fun ls hl => ?_)
                obtain ⟨x_22, ex_22⟩ : ∃ y : Int32, y = n7 + 1 := ⟨_, rfl⟩
                refine lv_iinc (v := x_22) (lv' := [(7, .int x_22), (11, .int 0), (10, .int i10), (8, .long y8), (0, .ref (am 0)), (1, .int cd), (2, .int ss), (3, .int xx), (4, .int yy), (5, .int tt), (6, .int kk)]) hx hb dX9_windowed_76 hl (k := 3) rfl (by rw [ex_22]; rfl) (by decide) rfl (fun ls hl => ?_)
                refine lv_iload_n hx hb dX9_windowed_79 rfl (lv_at hl 5 rfl) ?_
                refine lv_bipush (v := 10) hx hb dX9_windowed_80 (by decide) ?_
                refine lv_icmp_ne (tgt := 101) hx hb dX9_windowed_82 (by decide) (fun c_23 => ?_) (fun c_23 => ?_)
                · have dc_23 : ¬ cd.toInt = 10 := jI_ne c_23 rfl (by decide)
                  refine lv_iload_n hx hb dX9_windowed_101 rfl (lv_at hl 5 rfl) ?_
                  refine lv_bipush (v := 11) hx hb dX9_windowed_102 (by decide) ?_
                  refine lv_icmp_ne (tgt := 144) hx hb dX9_windowed_104 (by decide) (fun c_24 => ?_) (fun c_24 => ?_)
                  · have dc_24 : ¬ cd.toInt = 11 := jI_ne c_24 rfl (by decide)
                    refine lv_iload hx hb dX9_windowed_144 (lv_at hl 1 rfl) ?_
                    refine lv_if_ne (tgt := 163) hx hb dX9_windowed_146 (by decide) (fun c_25 => absurd c_25 (by decide)) (fun c_25 => ?_)
                    refine lv_aload_n hx hb dX9_windowed_149 rfl (lv_at hl 4 rfl) ?_
                    refine va_get (D := (dC, dI)) (ci := 9) (v := .ref (am 5)) (C := RX9) (T := TX9) (N := 51) hx hb hts hIX9 hown hK hP 1 rfl rfl 7 (by decide) (hts (.fieldLink RX9 22 "TraitHouseModel" "rowValue" "[I") (by decide +kernel)) (fun _ h9 => h9) rfl dX9_windowed_150 ?_
                    refine lv_iload hx hb dX9_windowed_153 (lv_at hl 2 rfl) ?_
                    have h_26 : vp_in i10 400 := (vp_in_iff.mpr ⟨by omega, by omega⟩)
                    refine va_iald hx hb hK hP 0 0 rfl rfl h_26 dX9_windowed_155 ?_
                    refine lv_topi (fun x_27 ex_27 => ?_)
                    obtain ⟨y_28, ey_28⟩ : ∃ y : Int64, y = x_27.toInt64 := ⟨_, rfl⟩
                    have dy_28 : y_28.toInt = x_27.toInt := by rw [ey_28]; exact Int32.toInt_toInt64 _
                    refine lv_i2l (v := y_28) hx hb dX9_windowed_156 ey_28.symm ?_
                    refine lv_lload hx hb dX9_windowed_157 (lv_at hl 3 rfl) ?_
                    refine W.lcmp hx hb dX9_windowed_159 ?_
                    refine lv_topi (fun k_29 ek_29 => ?_)
                    have dk_29 : (k_29.toInt < 0 ↔ y_28.toInt < y8.toInt) ∧ (k_29.toInt = 0 ↔ y_28.toInt = y8.toInt) ∧ (0 < k_29.toInt ↔ y8.toInt < y_28.toInt) := jI_cmp ek_29 rfl rfl
                    refine lv_if_le (tgt := 174) hx hb dX9_windowed_160 (by decide) (fun c_30 => ?_) (fun c_30 => ?_)
                    · have dc_30 : k_29.toInt ≤ 0 := jI_le c_30 rfl (by decide)
                      refine lv_lload hx hb dX9_windowed_174 (lv_at hl 3 rfl) ?_
                      refine lv_lstore (lv' := [(8, .long y8), (7, .int x_22), (11, .int 0), (10, .int i10), (0, .ref (am 0)), (1, .int cd), (2, .int ss), (3, .int xx), (4, .int yy), (5, .int tt), (6, .int kk)]) hx hb dX9_windowed_176 hl (by decide) rfl (fun ls hl => ?_)
                      obtain ⟨x_31, ex_31⟩ : ∃ y : Int32, y = i10 + 1 := ⟨_, rfl⟩
                      have dx_31 : x_31.toInt = i10.toInt + 1 := by rw [ex_31]; exact jI_add rfl (by decide) (by omega) (by omega)
                      refine lv_iinc (v := x_31) (lv' := [(10, .int x_31), (8, .long y8), (7, .int x_22), (11, .int 0), (0, .ref (am 0)), (1, .int cd), (2, .int ss), (3, .int xx), (4, .int yy), (5, .int tt), (6, .int kk)]) hx hb dX9_windowed_178 hl (k := 3) rfl (by rw [ex_31]; rfl) (by decide) rfl (fun ls hl => ?_)
                      refine lv_goto (tgt := 9) hx hb dX9_windowed_181 (by decide) ?_
                      exact ih_9 x_31 y8 x_22 _ _ ls (by omega) (by omega) (hP.sub [1, 2, 3, 4, 5, 6, 7, 0] rfl) (hD.sub [1, 2, 3, 4, 5, 6, 7, 0] (by decide) rfl) hS (lv_sub hl [0, 1, 2, 4, 5, 6, 7, 8, 9, 10] rfl)
                    · have dc_30 : 0 < k_29.toInt := jI_nle c_30 rfl (by decide)
                      refine lv_aload_n hx hb dX9_windowed_163 rfl (lv_at hl 4 rfl) ?_
                      refine va_get (D := (dC, dI)) (ci := 9) (v := .ref (am 5)) (C := RX9) (T := TX9) (N := 51) hx hb hts hIX9 hown hK hP 1 rfl rfl 7 (by decide) (hts (.fieldLink RX9 22 "TraitHouseModel" "rowValue" "[I") (by decide +kernel)) (fun _ h9 => h9) rfl dX9_windowed_164 ?_
                      refine lv_iload hx hb dX9_windowed_167 (lv_at hl 2 rfl) ?_
                      have h_32 : vp_in i10 400 := (vp_in_iff.mpr ⟨by omega, by omega⟩)
                      refine va_iald hx hb hK hP 0 0 rfl rfl h_32 dX9_windowed_169 ?_
                      refine lv_topi (fun x_33 ex_33 => ?_)
                      obtain ⟨y_34, ey_34⟩ : ∃ y : Int64, y = x_33.toInt64 := ⟨_, rfl⟩
                      have dy_34 : y_34.toInt = x_33.toInt := by rw [ey_34]; exact Int32.toInt_toInt64 _
                      refine lv_i2l (v := y_34) hx hb dX9_windowed_170 ey_34.symm ?_
                      refine lv_goto (tgt := 176) hx hb dX9_windowed_171 (by decide) ?_
                      refine lv_lstore (lv' := [(8, .long y_34), (7, .int x_22), (11, .int 0), (10, .int i10), (0, .ref (am 0)), (1, .int cd), (2, .int ss), (3, .int xx), (4, .int yy), (5, .int tt), (6, .int kk)]) hx hb dX9_windowed_176 hl (by decide) rfl (fun ls hl => ?_)
                      obtain ⟨x_35, ex_35⟩ : ∃ y : Int32, y = i10 + 1 := ⟨_, rfl⟩
                      have dx_35 : x_35.toInt = i10.toInt + 1 := by rw [ex_35]; exact jI_add rfl (by decide) (by omega) (by omega)
                      refine lv_iinc (v := x_35) (lv' := [(10, .int x_35), (8, .long y_34), (7, .int x_22), (11, .int 0), (0, .ref (am 0)), (1, .int cd), (2, .int ss), (3, .int xx), (4, .int yy), (5, .int tt), (6, .int kk)]) hx hb dX9_windowed_178 hl (k := 3) rfl (by rw [ex_35]; rfl) (by decide) rfl (fun ls hl => ?_)
                      refine lv_goto (tgt := 9) hx hb dX9_windowed_181 (by decide) ?_
                      exact ih_9 x_35 y_34 x_22 _ _ ls (by omega) (by omega) (hP.sub [1, 2, 3, 4, 5, 6, 7, 0] rfl) (hD.sub [1, 2, 3, 4, 5, 6, 7, 0] (by decide) rfl) hS (lv_sub hl [0, 1, 2, 4, 5, 6, 7, 8, 9, 10] rfl)
                  · have dc_24 : cd.toInt = 11 := jI_eq c_24 rfl (by decide)
                    refine lv_iload hx hb dX9_windowed_107 (lv_at hl 1 rfl) ?_
                    refine lv_if_ne (tgt := 126) hx hb dX9_windowed_109 (by decide) (fun c_36 => absurd c_36 (by decide)) (fun c_36 => ?_)
                    refine lv_aload_n hx hb dX9_windowed_112 rfl (lv_at hl 4 rfl) ?_
                    refine va_get (D := (dC, dI)) (ci := 9) (v := .ref (am 5)) (C := RX9) (T := TX9) (N := 51) hx hb hts hIX9 hown hK hP 1 rfl rfl 7 (by decide) (hts (.fieldLink RX9 22 "TraitHouseModel" "rowValue" "[I") (by decide +kernel)) (fun _ h9 => h9) rfl dX9_windowed_113 ?_
                    refine lv_iload hx hb dX9_windowed_116 (lv_at hl 2 rfl) ?_
                    have h_37 : vp_in i10 400 := (vp_in_iff.mpr ⟨by omega, by omega⟩)
                    refine va_iald hx hb hK hP 0 0 rfl rfl h_37 dX9_windowed_118 ?_
                    refine lv_topi (fun x_38 ex_38 => ?_)
                    obtain ⟨y_39, ey_39⟩ : ∃ y : Int64, y = x_38.toInt64 := ⟨_, rfl⟩
                    have dy_39 : y_39.toInt = x_38.toInt := by rw [ey_39]; exact Int32.toInt_toInt64 _
                    refine lv_i2l (v := y_39) hx hb dX9_windowed_119 ey_39.symm ?_
                    refine lv_lload hx hb dX9_windowed_120 (lv_at hl 3 rfl) ?_
                    refine W.lcmp hx hb dX9_windowed_122 ?_
                    refine lv_topi (fun k_40 ek_40 => ?_)
                    have dk_40 : (k_40.toInt < 0 ↔ y_39.toInt < y8.toInt) ∧ (k_40.toInt = 0 ↔ y_39.toInt = y8.toInt) ∧ (0 < k_40.toInt ↔ y8.toInt < y_39.toInt) := jI_cmp ek_40 rfl rfl
                    refine lv_if_ge (tgt := 137) hx hb dX9_windowed_123 (by decide) (fun c_41 => ?_) (fun c_41 => ?_)
                    · have dc_41 : 0 ≤ k_40.toInt := jI_le c_41 (by decide) rfl
                      refine lv_lload hx hb dX9_windowed_137 (lv_at hl 3 rfl) ?_
                      refine lv_lstore (lv' := [(8, .long y8), (7, .int x_22), (11, .int 0), (10, .int i10), (0, .ref (am 0)), (1, .int cd), (2, .int ss), (3, .int xx), (4, .int yy), (5, .int tt), (6, .int kk)]) hx hb dX9_windowed_139 hl (by decide) rfl (fun ls hl => ?_)
                      refine lv_goto (tgt := 178) hx hb dX9_windowed_141 (by decide) ?_
                      obtain ⟨x_42, ex_42⟩ : ∃ y : Int32, y = i10 + 1 := ⟨_, rfl⟩
                      have dx_42 : x_42.toInt = i10.toInt + 1 := by rw [ex_42]; exact jI_add rfl (by decide) (by omega) (by omega)
                      refine lv_iinc (v := x_42) (lv' := [(10, .int x_42), (8, .long y8), (7, .int x_22), (11, .int 0), (0, .ref (am 0)), (1, .int cd), (2, .int ss), (3, .int xx), (4, .int yy), (5, .int tt), (6, .int kk)]) hx hb dX9_windowed_178 hl (k := 3) rfl (by rw [ex_42]; rfl) (by decide) rfl (fun ls hl => ?_)
                      refine lv_goto (tgt := 9) hx hb dX9_windowed_181 (by decide) ?_
                      exact ih_9 x_42 y8 x_22 _ _ ls (by omega) (by omega) (hP.sub [1, 2, 3, 4, 5, 6, 7, 0] rfl) (hD.sub [1, 2, 3, 4, 5, 6, 7, 0] (by decide) rfl) hS (lv_sub hl [0, 1, 2, 4, 5, 6, 7, 8, 9, 10] rfl)
                    · have dc_41 : k_40.toInt < 0 := jI_nle c_41 (by decide) rfl
                      refine lv_aload_n hx hb dX9_windowed_126 rfl (lv_at hl 4 rfl) ?_
                      refine va_get (D := (dC, dI)) (ci := 9) (v := .ref (am 5)) (C := RX9) (T := TX9) (N := 51) hx hb hts hIX9 hown hK hP 1 rfl rfl 7 (by decide) (hts (.fieldLink RX9 22 "TraitHouseModel" "rowValue" "[I") (by decide +kernel)) (fun _ h9 => h9) rfl dX9_windowed_127 ?_
                      refine lv_iload hx hb dX9_windowed_130 (lv_at hl 2 rfl) ?_
                      have h_43 : vp_in i10 400 := (vp_in_iff.mpr ⟨by omega, by omega⟩)
                      refine va_iald hx hb hK hP 0 0 rfl rfl h_43 dX9_windowed_132 ?_
                      refine lv_topi (fun x_44 ex_44 => ?_)
                      obtain ⟨y_45, ey_45⟩ : ∃ y : Int64, y = x_44.toInt64 := ⟨_, rfl⟩
                      have dy_45 : y_45.toInt = x_44.toInt := by rw [ey_45]; exact Int32.toInt_toInt64 _
                      refine lv_i2l (v := y_45) hx hb dX9_windowed_133 ey_45.symm ?_
                      refine lv_goto (tgt := 139) hx hb dX9_windowed_134 (by decide) ?_
                      refine lv_lstore (lv' := [(8, .long y_45), (7, .int x_22), (11, .int 0), (10, .int i10), (0, .ref (am 0)), (1, .int cd), (2, .int ss), (3, .int xx), (4, .int yy), (5, .int tt), (6, .int kk)]) hx hb dX9_windowed_139 hl (by decide) rfl (fun ls hl => ?_)
                      refine lv_goto (tgt := 178) hx hb dX9_windowed_141 (by decide) ?_
                      obtain ⟨x_46, ex_46⟩ : ∃ y : Int32, y = i10 + 1 := ⟨_, rfl⟩
                      have dx_46 : x_46.toInt = i10.toInt + 1 := by rw [ex_46]; exact jI_add rfl (by decide) (by omega) (by omega)
                      refine lv_iinc (v := x_46) (lv' := [(10, .int x_46), (8, .long y_45), (7, .int x_22), (11, .int 0), (0, .ref (am 0)), (1, .int cd), (2, .int ss), (3, .int xx), (4, .int yy), (5, .int tt), (6, .int kk)]) hx hb dX9_windowed_178 hl (k := 3) rfl (by rw [ex_46]; rfl) (by decide) rfl (fun ls hl => ?_)
                      refine lv_goto (tgt := 9) hx hb dX9_windowed_181 (by decide) ?_
                      exact ih_9 x_46 y_45 x_22 _ _ ls (by omega) (by omega) (hP.sub [1, 2, 3, 4, 5, 6, 7, 0] rfl) (hD.sub [1, 2, 3, 4, 5, 6, 7, 0] (by decide) rfl) hS (lv_sub hl [0, 1, 2, 4, 5, 6, 7, 8, 9, 10] rfl)
                · have dc_23 : cd.toInt = 10 := jI_eq c_23 rfl (by decide)
                  refine lv_lload hx hb dX9_windowed_85 (lv_at hl 3 rfl) ?_
                  refine lv_aload_n hx hb dX9_windowed_87 rfl (lv_at hl 4 rfl) ?_
                  refine va_get (D := (dC, dI)) (ci := 9) (v := .ref (am 5)) (C := RX9) (T := TX9) (N := 51) hx hb hts hIX9 hown hK hP 1 rfl rfl 7 (by decide) (hts (.fieldLink RX9 22 "TraitHouseModel" "rowValue" "[I") (by decide +kernel)) (fun _ h9 => h9) rfl dX9_windowed_88 ?_
                  refine lv_iload hx hb dX9_windowed_91 (lv_at hl 2 rfl) ?_
                  have h_47 : vp_in i10 400 := (vp_in_iff.mpr ⟨by omega, by omega⟩)
                  refine va_iald hx hb hK hP 0 0 rfl rfl h_47 dX9_windowed_93 ?_
                  refine lv_topi (fun x_48 ex_48 => ?_)
                  obtain ⟨y_49, ey_49⟩ : ∃ y : Int64, y = x_48.toInt64 := ⟨_, rfl⟩
                  have dy_49 : y_49.toInt = x_48.toInt := by rw [ey_49]; exact Int32.toInt_toInt64 _
                  refine lv_i2l (v := y_49) hx hb dX9_windowed_94 ey_49.symm ?_
                  refine lv_ladd hx hb dX9_windowed_95 ?_
                  refine lv_topl (fun y_50 ey_50 => ?_)
                  refine lv_lstore (lv' := [(8, .long y_50), (7, .int x_22), (11, .int 0), (10, .int i10), (0, .ref (am 0)), (1, .int cd), (2, .int ss), (3, .int xx), (4, .int yy), (5, .int tt), (6, .int kk)]) hx hb dX9_windowed_96 hl (by decide) rfl (fun ls hl => ?_)
                  refine lv_goto (tgt := 178) hx hb dX9_windowed_98 (by decide) ?_
                  obtain ⟨x_51, ex_51⟩ : ∃ y : Int32, y = i10 + 1 := ⟨_, rfl⟩
                  have dx_51 : x_51.toInt = i10.toInt + 1 := by rw [ex_51]; exact jI_add rfl (by decide) (by omega) (by omega)
                  refine lv_iinc (v := x_51) (lv' := [(10, .int x_51), (8, .long y_50), (7, .int x_22), (11, .int 0), (0, .ref (am 0)), (1, .int cd), (2, .int ss), (3, .int xx), (4, .int yy), (5, .int tt), (6, .int kk)]) hx hb dX9_windowed_178 hl (k := 3) rfl (by rw [ex_51]; rfl) (by decide) rfl (fun ls hl => ?_)
                  refine lv_goto (tgt := 9) hx hb dX9_windowed_181 (by decide) ?_
                  exact ih_9 x_51 y_50 x_22 _ _ ls (by omega) (by omega) (hP.sub [1, 2, 3, 4, 5, 6, 7, 0] rfl) (hD.sub [1, 2, 3, 4, 5, 6, 7, 0] (by decide) rfl) hS (lv_sub hl [0, 1, 2, 4, 5, 6, 7, 8, 9, 10] rfl)
              · have dc_21 : n7.toInt = 0 := jI_eq c_21 rfl (by decide)
                refine lv_iconst (v := 1) hx hb dX9_windowed_69 (by decide) ?_
                refine lv_goto (tgt := 74) hx hb dX9_windowed_70 (by decide) ?_
                refine lv_istore (lv' := [(11, .int 1), (10, .int i10), (8, .long y8), (7, .int n7), (0, .ref (am 0)), (1, .int cd), (2, .int ss), (3, .int xx), (4, .int yy), (5, .int tt), (6, .int kk)]) hx hb dX9_windowed_74 hl (by decide) rfl (fun ls hl => ?_)
                obtain ⟨x_52, ex_52⟩ : ∃ y : Int32, y = n7 + 1 := ⟨_, rfl⟩
                have dx_52 : x_52.toInt = n7.toInt + 1 := by rw [ex_52]; exact jI_add rfl (by decide) (by omega) (by omega)
                refine lv_iinc (v := x_52) (lv' := [(7, .int x_52), (11, .int 1), (10, .int i10), (8, .long y8), (0, .ref (am 0)), (1, .int cd), (2, .int ss), (3, .int xx), (4, .int yy), (5, .int tt), (6, .int kk)]) hx hb dX9_windowed_76 hl (k := 3) rfl (by rw [ex_52]; rfl) (by decide) rfl (fun ls hl => ?_)
                refine lv_iload_n hx hb dX9_windowed_79 rfl (lv_at hl 5 rfl) ?_
                refine lv_bipush (v := 10) hx hb dX9_windowed_80 (by decide) ?_
                refine lv_icmp_ne (tgt := 101) hx hb dX9_windowed_82 (by decide) (fun c_53 => ?_) (fun c_53 => ?_)
                · have dc_53 : ¬ cd.toInt = 10 := jI_ne c_53 rfl (by decide)
                  refine lv_iload_n hx hb dX9_windowed_101 rfl (lv_at hl 5 rfl) ?_
                  refine lv_bipush (v := 11) hx hb dX9_windowed_102 (by decide) ?_
                  refine lv_icmp_ne (tgt := 144) hx hb dX9_windowed_104 (by decide) (fun c_54 => ?_) (fun c_54 => ?_)
                  · have dc_54 : ¬ cd.toInt = 11 := jI_ne c_54 rfl (by decide)
                    refine lv_iload hx hb dX9_windowed_144 (lv_at hl 1 rfl) ?_
                    refine lv_if_ne (tgt := 163) hx hb dX9_windowed_146 (by decide) (fun c_55 => ?_) (fun c_55 => absurd c_55 (by decide))
                    refine lv_aload_n hx hb dX9_windowed_163 rfl (lv_at hl 4 rfl) ?_
                    refine va_get (D := (dC, dI)) (ci := 9) (v := .ref (am 5)) (C := RX9) (T := TX9) (N := 51) hx hb hts hIX9 hown hK hP 1 rfl rfl 7 (by decide) (hts (.fieldLink RX9 22 "TraitHouseModel" "rowValue" "[I") (by decide +kernel)) (fun _ h9 => h9) rfl dX9_windowed_164 ?_
                    refine lv_iload hx hb dX9_windowed_167 (lv_at hl 2 rfl) ?_
                    have h_56 : vp_in i10 400 := (vp_in_iff.mpr ⟨by omega, by omega⟩)
                    refine va_iald hx hb hK hP 0 0 rfl rfl h_56 dX9_windowed_169 ?_
                    refine lv_topi (fun x_57 ex_57 => ?_)
                    obtain ⟨y_58, ey_58⟩ : ∃ y : Int64, y = x_57.toInt64 := ⟨_, rfl⟩
                    have dy_58 : y_58.toInt = x_57.toInt := by rw [ey_58]; exact Int32.toInt_toInt64 _
                    refine lv_i2l (v := y_58) hx hb dX9_windowed_170 ey_58.symm ?_
                    refine lv_goto (tgt := 176) hx hb dX9_windowed_171 (by decide) ?_
                    refine lv_lstore (lv' := [(8, .long y_58), (7, .int x_52), (11, .int 1), (10, .int i10), (0, .ref (am 0)), (1, .int cd), (2, .int ss), (3, .int xx), (4, .int yy), (5, .int tt), (6, .int kk)]) hx hb dX9_windowed_176 hl (by decide) rfl (fun ls hl => ?_)
                    obtain ⟨x_59, ex_59⟩ : ∃ y : Int32, y = i10 + 1 := ⟨_, rfl⟩
                    have dx_59 : x_59.toInt = i10.toInt + 1 := by rw [ex_59]; exact jI_add rfl (by decide) (by omega) (by omega)
                    refine lv_iinc (v := x_59) (lv' := [(10, .int x_59), (8, .long y_58), (7, .int x_52), (11, .int 1), (0, .ref (am 0)), (1, .int cd), (2, .int ss), (3, .int xx), (4, .int yy), (5, .int tt), (6, .int kk)]) hx hb dX9_windowed_178 hl (k := 3) rfl (by rw [ex_59]; rfl) (by decide) rfl (fun ls hl => ?_)
                    refine lv_goto (tgt := 9) hx hb dX9_windowed_181 (by decide) ?_
                    exact ih_9 x_59 y_58 x_52 _ _ ls (by omega) (by omega) (hP.sub [1, 2, 3, 4, 5, 6, 7, 0] rfl) (hD.sub [1, 2, 3, 4, 5, 6, 7, 0] (by decide) rfl) hS (lv_sub hl [0, 1, 2, 4, 5, 6, 7, 8, 9, 10] rfl)
                  · have dc_54 : cd.toInt = 11 := jI_eq c_54 rfl (by decide)
                    refine lv_iload hx hb dX9_windowed_107 (lv_at hl 1 rfl) ?_
                    refine lv_if_ne (tgt := 126) hx hb dX9_windowed_109 (by decide) (fun c_60 => ?_) (fun c_60 => absurd c_60 (by decide))
                    refine lv_aload_n hx hb dX9_windowed_126 rfl (lv_at hl 4 rfl) ?_
                    refine va_get (D := (dC, dI)) (ci := 9) (v := .ref (am 5)) (C := RX9) (T := TX9) (N := 51) hx hb hts hIX9 hown hK hP 1 rfl rfl 7 (by decide) (hts (.fieldLink RX9 22 "TraitHouseModel" "rowValue" "[I") (by decide +kernel)) (fun _ h9 => h9) rfl dX9_windowed_127 ?_
                    refine lv_iload hx hb dX9_windowed_130 (lv_at hl 2 rfl) ?_
                    have h_61 : vp_in i10 400 := (vp_in_iff.mpr ⟨by omega, by omega⟩)
                    refine va_iald hx hb hK hP 0 0 rfl rfl h_61 dX9_windowed_132 ?_
                    refine lv_topi (fun x_62 ex_62 => ?_)
                    obtain ⟨y_63, ey_63⟩ : ∃ y : Int64, y = x_62.toInt64 := ⟨_, rfl⟩
                    have dy_63 : y_63.toInt = x_62.toInt := by rw [ey_63]; exact Int32.toInt_toInt64 _
                    refine lv_i2l (v := y_63) hx hb dX9_windowed_133 ey_63.symm ?_
                    refine lv_goto (tgt := 139) hx hb dX9_windowed_134 (by decide) ?_
                    refine lv_lstore (lv' := [(8, .long y_63), (7, .int x_52), (11, .int 1), (10, .int i10), (0, .ref (am 0)), (1, .int cd), (2, .int ss), (3, .int xx), (4, .int yy), (5, .int tt), (6, .int kk)]) hx hb dX9_windowed_139 hl (by decide) rfl (fun ls hl => ?_)
                    refine lv_goto (tgt := 178) hx hb dX9_windowed_141 (by decide) ?_
                    obtain ⟨x_64, ex_64⟩ : ∃ y : Int32, y = i10 + 1 := ⟨_, rfl⟩
                    have dx_64 : x_64.toInt = i10.toInt + 1 := by rw [ex_64]; exact jI_add rfl (by decide) (by omega) (by omega)
                    refine lv_iinc (v := x_64) (lv' := [(10, .int x_64), (8, .long y_63), (7, .int x_52), (11, .int 1), (0, .ref (am 0)), (1, .int cd), (2, .int ss), (3, .int xx), (4, .int yy), (5, .int tt), (6, .int kk)]) hx hb dX9_windowed_178 hl (k := 3) rfl (by rw [ex_64]; rfl) (by decide) rfl (fun ls hl => ?_)
                    refine lv_goto (tgt := 9) hx hb dX9_windowed_181 (by decide) ?_
                    exact ih_9 x_64 y_63 x_52 _ _ ls (by omega) (by omega) (hP.sub [1, 2, 3, 4, 5, 6, 7, 0] rfl) (hD.sub [1, 2, 3, 4, 5, 6, 7, 0] (by decide) rfl) hS (lv_sub hl [0, 1, 2, 4, 5, 6, 7, 8, 9, 10] rfl)
                · have dc_53 : cd.toInt = 10 := jI_eq c_53 rfl (by decide)
                  refine lv_lload hx hb dX9_windowed_85 (lv_at hl 3 rfl) ?_
                  refine lv_aload_n hx hb dX9_windowed_87 rfl (lv_at hl 4 rfl) ?_
                  refine va_get (D := (dC, dI)) (ci := 9) (v := .ref (am 5)) (C := RX9) (T := TX9) (N := 51) hx hb hts hIX9 hown hK hP 1 rfl rfl 7 (by decide) (hts (.fieldLink RX9 22 "TraitHouseModel" "rowValue" "[I") (by decide +kernel)) (fun _ h9 => h9) rfl dX9_windowed_88 ?_
                  refine lv_iload hx hb dX9_windowed_91 (lv_at hl 2 rfl) ?_
                  have h_65 : vp_in i10 400 := (vp_in_iff.mpr ⟨by omega, by omega⟩)
                  refine va_iald hx hb hK hP 0 0 rfl rfl h_65 dX9_windowed_93 ?_
                  refine lv_topi (fun x_66 ex_66 => ?_)
                  obtain ⟨y_67, ey_67⟩ : ∃ y : Int64, y = x_66.toInt64 := ⟨_, rfl⟩
                  have dy_67 : y_67.toInt = x_66.toInt := by rw [ey_67]; exact Int32.toInt_toInt64 _
                  refine lv_i2l (v := y_67) hx hb dX9_windowed_94 ey_67.symm ?_
                  refine lv_ladd hx hb dX9_windowed_95 ?_
                  refine lv_topl (fun y_68 ey_68 => ?_)
                  refine lv_lstore (lv' := [(8, .long y_68), (7, .int x_52), (11, .int 1), (10, .int i10), (0, .ref (am 0)), (1, .int cd), (2, .int ss), (3, .int xx), (4, .int yy), (5, .int tt), (6, .int kk)]) hx hb dX9_windowed_96 hl (by decide) rfl (fun ls hl => ?_)
                  refine lv_goto (tgt := 178) hx hb dX9_windowed_98 (by decide) ?_
                  obtain ⟨x_69, ex_69⟩ : ∃ y : Int32, y = i10 + 1 := ⟨_, rfl⟩
                  have dx_69 : x_69.toInt = i10.toInt + 1 := by rw [ex_69]; exact jI_add rfl (by decide) (by omega) (by omega)
                  refine lv_iinc (v := x_69) (lv' := [(10, .int x_69), (8, .long y_68), (7, .int x_52), (11, .int 1), (0, .ref (am 0)), (1, .int cd), (2, .int ss), (3, .int xx), (4, .int yy), (5, .int tt), (6, .int kk)]) hx hb dX9_windowed_178 hl (k := 3) rfl (by rw [ex_69]; rfl) (by decide) rfl (fun ls hl => ?_)
                  refine lv_goto (tgt := 9) hx hb dX9_windowed_181 (by decide) ?_
                  exact ih_9 x_69 y_68 x_52 _ _ ls (by omega) (by omega) (hP.sub [1, 2, 3, 4, 5, 6, 7, 0] rfl) (hD.sub [1, 2, 3, 4, 5, 6, 7, 0] (by decide) rfl) hS (lv_sub hl [0, 1, 2, 4, 5, 6, 7, 8, 9, 10] rfl)
            · have dc_20 : x_19.toInt < x_18.toInt := jI_nle c_20 rfl rfl
              refine lv_goto (tgt := 178) hx hb dX9_windowed_61 (by decide) ?_
              obtain ⟨x_70, ex_70⟩ : ∃ y : Int32, y = i10 + 1 := ⟨_, rfl⟩
              have dx_70 : x_70.toInt = i10.toInt + 1 := by rw [ex_70]; exact jI_add rfl (by decide) (by omega) (by omega)
              refine lv_iinc (v := x_70) (lv' := [(10, .int x_70), (8, .long y8), (7, .int n7), (0, .ref (am 0)), (1, .int cd), (2, .int ss), (3, .int xx), (4, .int yy), (5, .int tt), (6, .int kk)]) hx hb dX9_windowed_178 hl (k := 0) rfl (by rw [ex_70]; rfl) (by decide) rfl (fun ls hl => ?_)
              refine lv_goto (tgt := 9) hx hb dX9_windowed_181 (by decide) ?_
              exact ih_9 x_70 y8 n7 _ _ ls (by omega) (by omega) (hP.sub [1, 2, 3, 4, 5, 6, 7, 0] rfl) (hD.sub [1, 2, 3, 4, 5, 6, 7, 0] (by decide) rfl) hS (lv_sub hl [0, 1, 2, 3, 4, 5, 6, 7, 8, 9] rfl)
  have hk_71 : (0 : Int32).toInt = 0 := by decide
  have hk_72 : (0 : Int64).toInt = 0 := by decide
  have hk_73 : (0 : Int32).toInt = 0 := by decide
  exact loop9_1 (Int.toNat (400 - (0 : Int32).toInt) + 1) 0 0 0 _ _ ls (by omega) (by omega) hP hD hS (lv_sub hl [0, 1, 2, 3, 4, 5, 6, 7, 8, 9] rfl)

set_option maxHeartbeats 8000000 in
set_option maxRecDepth 100000 in
theorem k_X9_size (l : Launch) (dC : Nat → ClassId) (dI : Nat → Nat → Nat) (cA : Nat → ClassId) (sz : Nat) (a : Int64)   : Met l yX9_size wsX9_size ({ frames := 0, cells := 0, slots := 0, locals := 0 }) (va_Pc [.long a] (fun U => U.heap.size = sz ∧ va_P (dC, dI) vwCl [] U.heap ∧ va_K (dC, dI) vwCl (tyL cA) U ∧ va_D (fun _ => True) [] ∧ nw_ok U)) (va_Ql (fun (r : Int64) (_ : Unit) => (r.toInt = 0 ↔ a.toInt = 0)) (fun (_ : Unit) (t : State) => va_P (dC, dI) vwCl [] t.heap ∧ va_D (va_A [] sz) []) (va_A [] sz)) 0 0 (va_A [] sz) := by
  refine Met.ofW (cc := cX9_size) (maxL := 2) (ret := (some .long)) (by decide) rfl ?_
  intro p e s m args below meth c s₁ B hml hv
  obtain ⟨rfl, hsz, hP, hK, hD0, hN⟩ := hv
  have hx := B.exec
  have hb := B.bytes
  have hr := B.returns
  have hts := atoms_spec (ws := wsX9_size) B.pre
  have hown : s.vm.findClass RX9 = some m.cls := findClass_of_methodNamed B.named
  have hlocks := B.notSynchronized
  subst hsz
  have hD := hD0.self (sz := s.heap.size)
  generalize hAe : va_A [] s.heap.size = A at hD ⊢
  have hA : ∀ q : Nat, s.heap.size ≤ q → A q := fun q h => by rw [← hAe]; exact Or.inr h
  have hS : va_S A s.heap s.heap [] := va_S.rf
  have hl := lv_entry ([.long a]) (n := 2) (Nat.le_of_ble_eq_true rfl)
  rw [lg_entry_eq]
  generalize (lg_sl ([.long a]) ++ List.replicate (2 - (lg_sl ([.long a])).length) Slot.unset).toArray = ls at hl ⊢
  have hl : lv_has ls 2 [(0, .long a)] := hl
  generalize hQe : MQ below _ _ _ _ _ _ = QQ
  refine lv_lload_n hx hb dX9_size_0 rfl (lv_at hl 0 rfl) ?_
  refine lv_lconst (v := 0) hx hb dX9_size_1 (by decide) ?_
  refine W.lcmp hx hb dX9_size_2 ?_
  refine lv_topi (fun k_1 ek_1 => ?_)
  have dk_1 : (k_1.toInt < 0 ↔ a.toInt < 0) ∧ (k_1.toInt = 0 ↔ a.toInt = 0) ∧ (0 < k_1.toInt ↔ 0 < a.toInt) := jI_cmp ek_1 rfl (by decide)
  refine lv_if_ge (tgt := 11) hx hb dX9_size_3 (by decide) (fun c_2 => ?_) (fun c_2 => ?_)
  · have dc_2 : 0 ≤ k_1.toInt := jI_le c_2 (by decide) rfl
    refine lv_lload_n hx hb dX9_size_11 rfl (lv_at hl 0 rfl) ?_
    obtain ⟨hP9, hD9⟩ := va_pd (ws' := []) hP hD [] (by decide) rfl
    subst hQe
    have hans : (a : Int64).toInt = a.toInt := rfl
    have hpost : ((a : Int64).toInt = 0 ↔ a.toInt = 0) := by omega
    exact W.lret (v := a) hx hb hr (fun t ht hW => ⟨⟨a, (), rfl, hpost, by rw [ht]; exact hP9, hD9⟩, hS.F ht⟩) hS.2.2 dX9_size_12
  · have dc_2 : k_1.toInt < 0 := jI_nle c_2 (by decide) rfl
    refine lv_lload_n hx hb dX9_size_6 rfl (lv_at hl 0 rfl) ?_
    refine lv_lneg hx hb dX9_size_7 ?_
    refine lv_topl (fun y_3 ey_3 => ?_)
    have dy_3 : y_3.toInt = 0 ↔ a.toInt = 0 := by rw [ey_3]; exact jL_neg0 _
    refine lv_goto (tgt := 12) hx hb dX9_size_8 (by decide) ?_
    obtain ⟨hP9, hD9⟩ := va_pd (ws' := []) hP hD [] (by decide) rfl
    subst hQe
    have hans : (y_3 : Int64).toInt = y_3.toInt := rfl
    have hpost : ((y_3 : Int64).toInt = 0 ↔ a.toInt = 0) := by omega
    exact W.lret (v := y_3) hx hb hr (fun t ht hW => ⟨⟨y_3, (), rfl, hpost, by rw [ht]; exact hP9, hD9⟩, hS.F ht⟩) hS.2.2 dX9_size_12

set_option maxHeartbeats 8000000 in
set_option maxRecDepth 100000 in
theorem k_X9_two (l : Launch) (dC : Nat → ClassId) (dI : Nat → Nat → Nat) (cA : Nat → ClassId) (sz : Nat) (cd : Int32) (a : Int64) (b : Int64)   : Met l yX9_two wsX9_two ({ frames := 1, cells := 0, slots := 0, locals := 21 }) (va_Pc [.int cd, .long a, .long b] (fun U => U.heap.size = sz ∧ va_P (dC, dI) vwCl [] U.heap ∧ va_K (dC, dI) vwCl (tyL cA) U ∧ va_D (fun _ => True) [] ∧ nw_ok U)) (va_Ql (fun (r : Int64) (_ : Unit) => True) (fun (_ : Unit) (t : State) => va_P (dC, dI) vwCl [] t.heap ∧ va_D (va_A [] sz) []) (va_A [] sz)) 0 0 (va_A [] sz) := by
  refine Met.ofW (cc := cX9_two) (maxL := 7) (ret := (some .long)) (by decide) rfl ?_
  intro p e s m args below meth c s₁ B hml hv
  obtain ⟨rfl, hsz, hP, hK, hD0, hN⟩ := hv
  have hx := B.exec
  have hb := B.bytes
  have hr := B.returns
  have hts := atoms_spec (ws := wsX9_two) B.pre
  have hown : s.vm.findClass RX9 = some m.cls := findClass_of_methodNamed B.named
  have hlocks := B.notSynchronized
  subst hsz
  have hD := hD0.self (sz := s.heap.size)
  generalize hAe : va_A [] s.heap.size = A at hD ⊢
  have hA : ∀ q : Nat, s.heap.size ≤ q → A q := fun q h => by rw [← hAe]; exact Or.inr h
  have hS : va_S A s.heap s.heap [] := va_S.rf
  have hl := lv_entry ([.int cd, .long a, .long b]) (n := 7) (Nat.le_of_ble_eq_true rfl)
  rw [lg_entry_eq]
  generalize (lg_sl ([.int cd, .long a, .long b]) ++ List.replicate (7 - (lg_sl ([.int cd, .long a, .long b])).length) Slot.unset).toArray = ls at hl ⊢
  have hl : lv_has ls 7 [(0, .int cd), (1, .long a), (3, .long b)] := hl
  generalize hQe : MQ below _ _ _ _ _ _ = QQ
  refine lv_lload_n hx hb dX9_two_0 rfl (lv_at hl 1 rfl) ?_
  refine lv_ldc2 hx hb hown (hts (.constantLong RX9 274 (-9000000000000000000)) (by decide +kernel)) dX9_two_1 ?_
  refine W.lcmp hx hb dX9_two_4 ?_
  refine lv_topi (fun k_1 ek_1 => ?_)
  have dk_1 : (k_1.toInt < 0 ↔ a.toInt < (-9000000000000000000)) ∧ (k_1.toInt = 0 ↔ a.toInt = (-9000000000000000000)) ∧ (0 < k_1.toInt ↔ (-9000000000000000000) < a.toInt) := jI_cmp ek_1 rfl (by decide)
  refine lv_if_eq (tgt := 16) hx hb dX9_two_5 (by decide) (fun c_2 => ?_) (fun c_2 => ?_)
  · have dc_2 : k_1.toInt = 0 := jI_eq c_2 rfl (by decide)
    refine lv_ldc2 hx hb hown (hts (.constantLong RX9 274 (-9000000000000000000)) (by decide +kernel)) dX9_two_16 ?_
    obtain ⟨hP9, hD9⟩ := va_pd (ws' := []) hP hD [] (by decide) rfl
    subst hQe
    have hans : ((-9000000000000000000) : Int64).toInt = (-9000000000000000000) := (by decide)
    exact W.lret (v := (-9000000000000000000)) hx hb hr (fun t ht hW => ⟨⟨(-9000000000000000000), (), rfl, trivial, by rw [ht]; exact hP9, hD9⟩, hS.F ht⟩) hS.2.2 dX9_two_19
  · have dc_2 : ¬ k_1.toInt = 0 := jI_ne c_2 rfl (by decide)
    refine lv_lload_n hx hb dX9_two_8 rfl (lv_at hl 2 rfl) ?_
    refine lv_ldc2 hx hb hown (hts (.constantLong RX9 274 (-9000000000000000000)) (by decide +kernel)) dX9_two_9 ?_
    refine W.lcmp hx hb dX9_two_12 ?_
    refine lv_topi (fun k_3 ek_3 => ?_)
    have dk_3 : (k_3.toInt < 0 ↔ b.toInt < (-9000000000000000000)) ∧ (k_3.toInt = 0 ↔ b.toInt = (-9000000000000000000)) ∧ (0 < k_3.toInt ↔ (-9000000000000000000) < b.toInt) := jI_cmp ek_3 rfl (by decide)
    refine lv_if_ne (tgt := 20) hx hb dX9_two_13 (by decide) (fun c_4 => ?_) (fun c_4 => ?_)
    · have dc_4 : ¬ k_3.toInt = 0 := jI_ne c_4 rfl (by decide)
      refine lv_iload_n hx hb dX9_two_20 rfl (lv_at hl 0 rfl) ?_
      rcases (jI_range cd 1 3 : (cd.toInt < 1 ∨ 3 < cd.toInt) ∨ (1 ≤ cd.toInt ∧ cd.toInt ≤ 3)) with hsw | hsw
      · refine lv_tableOut (tgt := 98) hx hb dX9_two_21 hsw (by decide) ?_
        refine lv_lload_n hx hb dX9_two_98 rfl (lv_at hl 2 rfl) ?_
        refine lv_lconst (v := 0) hx hb dX9_two_99 (by decide) ?_
        refine W.lcmp hx hb dX9_two_100 ?_
        refine lv_topi (fun k_5 ek_5 => ?_)
        have dk_5 : (k_5.toInt < 0 ↔ b.toInt < 0) ∧ (k_5.toInt = 0 ↔ b.toInt = 0) ∧ (0 < k_5.toInt ↔ 0 < b.toInt) := jI_cmp ek_5 rfl (by decide)
        refine lv_if_ne (tgt := 108) hx hb dX9_two_101 (by decide) (fun c_6 => ?_) (fun c_6 => ?_)
        · have dc_6 : ¬ k_5.toInt = 0 := jI_ne c_6 rfl (by decide)
          refine lv_lload_n hx hb dX9_two_108 rfl (lv_at hl 1 rfl) ?_
          refine lv_lload_n hx hb dX9_two_109 rfl (lv_at hl 2 rfl) ?_
          refine lv_ldiv hx hb dX9_two_110 (jL_ne0 (by omega)) ?_
          refine lv_topl (fun y_7 ey_7 => ?_)
          refine lv_lstore (lv' := [(5, .long y_7), (0, .int cd), (1, .long a), (3, .long b)]) hx hb dX9_two_111 hl (by decide) rfl (fun ls hl => ?_)
          refine lv_lload hx hb dX9_two_113 (lv_at hl 0 rfl) ?_
          obtain ⟨hPc, hDc, hFc, hCc⟩ := va_pre (ws' := []) hP hD hS hA [] (by decide) rfl
          refine va_calll (va_runS (As := [.long y_7]) (rest := []) ⟨hx, hb, hml, hown, hts⟩ (k_X9_size l dC dI cA s.heap.size y_7 ) (va_cwS 1 hts gX9_two_X9_size rfl rfl rfl (by decide +kernel) ⟨Nat.le_of_ble_eq_true rfl, Nat.le_of_ble_eq_true rfl⟩) ⟨fun a U g mk q => by obtain ⟨q0, q1, qP, qK, qD, qN⟩ := q; exact ⟨q0, q1, qP, va_K.moved (u := U) (U := U.calling g mk a) (Vm.Alike.refl U.vm) qK, qD, qN.same rfl⟩, fun U hU hW => ⟨rfl, by rw [hU], by rw [hU]; exact hPc, va_K.moved hW.alike hK, hDc.weaken (fun _ _ _ _ => trivial), hN.warm hW⟩⟩ rfl rfl hl.1 rfl (lv_room (Nat.le_of_ble_eq_true rfl)) dX9_two_115 ⟨Nat.le_of_ble_eq_true rfl, Nat.le_of_ble_eq_true rfl⟩) hS (fun q _ h => hFc q h) hFc (fun r_8 u_9 t H1 locs ht hvm hw_10 hB hz1 hk1 hS => ?_)
          try dsimp only at hw_10 hB
          have po_11 := hw_10
          clear hw_10
          obtain ⟨hP1, hD1⟩ := hB
          rw [ht] at hP1
          obtain ⟨hP, hD⟩ := va_join (wr := []) (w1 := []) hP hD [] [] hCc rfl (by decide) (by decide) hk1 hFc hP1 hD1
          clear hz1
          generalize H1 = H at hP hS ⊢
          refine lv_ldc2 hx hb hown (hts (.constantLong RX9 279 (1000000000000)) (by decide +kernel)) dX9_two_118 ?_
          refine W.lcmp hx hb dX9_two_121 ?_
          refine lv_topi (fun k_12 ek_12 => ?_)
          have dk_12 : (k_12.toInt < 0 ↔ r_8.toInt < 1000000000000) ∧ (k_12.toInt = 0 ↔ r_8.toInt = 1000000000000) ∧ (0 < k_12.toInt ↔ 1000000000000 < r_8.toInt) := jI_cmp ek_12 rfl (by decide)
          refine lv_if_le (tgt := 131) hx hb dX9_two_122 (by decide) (fun c_13 => ?_) (fun c_13 => ?_)
          · have dc_13 : k_12.toInt ≤ 0 := jI_le c_13 rfl (by decide)
            refine lv_lload hx hb dX9_two_131 (lv_at hl 0 rfl) ?_
            obtain ⟨hP9, hD9⟩ := va_pd (ws' := []) hP hD [] (by decide) rfl
            subst hQe
            have hans : (y_7 : Int64).toInt = y_7.toInt := rfl
            exact W.lret (v := y_7) hx hb hr (fun t ht hW => ⟨⟨y_7, (), rfl, trivial, by rw [ht]; exact hP9, hD9⟩, hS.F ht⟩) hS.2.2 dX9_two_133
          · have dc_13 : 0 < k_12.toInt := jI_nle c_13 rfl (by decide)
            refine lv_ldc2 hx hb hown (hts (.constantLong RX9 274 (-9000000000000000000)) (by decide +kernel)) dX9_two_125 ?_
            refine lv_goto (tgt := 133) hx hb dX9_two_128 (by decide) ?_
            obtain ⟨hP9, hD9⟩ := va_pd (ws' := []) hP hD [] (by decide) rfl
            subst hQe
            have hans : ((-9000000000000000000) : Int64).toInt = (-9000000000000000000) := (by decide)
            exact W.lret (v := (-9000000000000000000)) hx hb hr (fun t ht hW => ⟨⟨(-9000000000000000000), (), rfl, trivial, by rw [ht]; exact hP9, hD9⟩, hS.F ht⟩) hS.2.2 dX9_two_133
        · have dc_6 : k_5.toInt = 0 := jI_eq c_6 rfl (by decide)
          refine lv_ldc2 hx hb hown (hts (.constantLong RX9 274 (-9000000000000000000)) (by decide +kernel)) dX9_two_104 ?_
          obtain ⟨hP9, hD9⟩ := va_pd (ws' := []) hP hD [] (by decide) rfl
          subst hQe
          have hans : ((-9000000000000000000) : Int64).toInt = (-9000000000000000000) := (by decide)
          exact W.lret (v := (-9000000000000000000)) hx hb hr (fun t ht hW => ⟨⟨(-9000000000000000000), (), rfl, trivial, by rw [ht]; exact hP9, hD9⟩, hS.F ht⟩) hS.2.2 dX9_two_107
      · rcases (show cd.toInt = 1 ∨ cd.toInt = 2 ∨ cd.toInt = 3 by omega) with hsw | hsw | hsw
        · refine lv_tableIn (off := 27) (tgt := 48) hx hb dX9_two_21 (by omega) (by omega) (by rw [hsw]; rfl) (by decide) ?_
          refine lv_lload_n hx hb dX9_two_48 rfl (lv_at hl 1 rfl) ?_
          refine lv_lload_n hx hb dX9_two_49 rfl (lv_at hl 2 rfl) ?_
          refine lv_ladd hx hb dX9_two_50 ?_
          refine lv_topl (fun y_14 ey_14 => ?_)
          refine lv_lstore (lv' := [(5, .long y_14), (0, .int cd), (1, .long a), (3, .long b)]) hx hb dX9_two_51 hl (by decide) rfl (fun ls hl => ?_)
          refine lv_goto (tgt := 113) hx hb dX9_two_53 (by decide) ?_
          refine lv_lload hx hb dX9_two_113 (lv_at hl 0 rfl) ?_
          obtain ⟨hPc, hDc, hFc, hCc⟩ := va_pre (ws' := []) hP hD hS hA [] (by decide) rfl
          refine va_calll (va_runS (As := [.long y_14]) (rest := []) ⟨hx, hb, hml, hown, hts⟩ (k_X9_size l dC dI cA s.heap.size y_14 ) (va_cwS 1 hts gX9_two_X9_size rfl rfl rfl (by decide +kernel) ⟨Nat.le_of_ble_eq_true rfl, Nat.le_of_ble_eq_true rfl⟩) ⟨fun a U g mk q => by obtain ⟨q0, q1, qP, qK, qD, qN⟩ := q; exact ⟨q0, q1, qP, va_K.moved (u := U) (U := U.calling g mk a) (Vm.Alike.refl U.vm) qK, qD, qN.same rfl⟩, fun U hU hW => ⟨rfl, by rw [hU], by rw [hU]; exact hPc, va_K.moved hW.alike hK, hDc.weaken (fun _ _ _ _ => trivial), hN.warm hW⟩⟩ rfl rfl hl.1 rfl (lv_room (Nat.le_of_ble_eq_true rfl)) dX9_two_115 ⟨Nat.le_of_ble_eq_true rfl, Nat.le_of_ble_eq_true rfl⟩) hS (fun q _ h => hFc q h) hFc (fun r_15 u_16 t H1 locs ht hvm hw_17 hB hz1 hk1 hS => ?_)
          try dsimp only at hw_17 hB
          have po_18 := hw_17
          clear hw_17
          obtain ⟨hP1, hD1⟩ := hB
          rw [ht] at hP1
          obtain ⟨hP, hD⟩ := va_join (wr := []) (w1 := []) hP hD [] [] hCc rfl (by decide) (by decide) hk1 hFc hP1 hD1
          clear hz1
          generalize H1 = H at hP hS ⊢
          refine lv_ldc2 hx hb hown (hts (.constantLong RX9 279 (1000000000000)) (by decide +kernel)) dX9_two_118 ?_
          refine W.lcmp hx hb dX9_two_121 ?_
          refine lv_topi (fun k_19 ek_19 => ?_)
          have dk_19 : (k_19.toInt < 0 ↔ r_15.toInt < 1000000000000) ∧ (k_19.toInt = 0 ↔ r_15.toInt = 1000000000000) ∧ (0 < k_19.toInt ↔ 1000000000000 < r_15.toInt) := jI_cmp ek_19 rfl (by decide)
          refine lv_if_le (tgt := 131) hx hb dX9_two_122 (by decide) (fun c_20 => ?_) (fun c_20 => ?_)
          · have dc_20 : k_19.toInt ≤ 0 := jI_le c_20 rfl (by decide)
            refine lv_lload hx hb dX9_two_131 (lv_at hl 0 rfl) ?_
            obtain ⟨hP9, hD9⟩ := va_pd (ws' := []) hP hD [] (by decide) rfl
            subst hQe
            have hans : (y_14 : Int64).toInt = y_14.toInt := rfl
            exact W.lret (v := y_14) hx hb hr (fun t ht hW => ⟨⟨y_14, (), rfl, trivial, by rw [ht]; exact hP9, hD9⟩, hS.F ht⟩) hS.2.2 dX9_two_133
          · have dc_20 : 0 < k_19.toInt := jI_nle c_20 rfl (by decide)
            refine lv_ldc2 hx hb hown (hts (.constantLong RX9 274 (-9000000000000000000)) (by decide +kernel)) dX9_two_125 ?_
            refine lv_goto (tgt := 133) hx hb dX9_two_128 (by decide) ?_
            obtain ⟨hP9, hD9⟩ := va_pd (ws' := []) hP hD [] (by decide) rfl
            subst hQe
            have hans : ((-9000000000000000000) : Int64).toInt = (-9000000000000000000) := (by decide)
            exact W.lret (v := (-9000000000000000000)) hx hb hr (fun t ht hW => ⟨⟨(-9000000000000000000), (), rfl, trivial, by rw [ht]; exact hP9, hD9⟩, hS.F ht⟩) hS.2.2 dX9_two_133
        · refine lv_tableIn (off := 35) (tgt := 56) hx hb dX9_two_21 (by omega) (by omega) (by rw [hsw]; rfl) (by decide) ?_
          refine lv_lload_n hx hb dX9_two_56 rfl (lv_at hl 1 rfl) ?_
          refine lv_lload_n hx hb dX9_two_57 rfl (lv_at hl 2 rfl) ?_
          refine lv_lsub hx hb dX9_two_58 ?_
          refine lv_topl (fun y_21 ey_21 => ?_)
          refine lv_lstore (lv' := [(5, .long y_21), (0, .int cd), (1, .long a), (3, .long b)]) hx hb dX9_two_59 hl (by decide) rfl (fun ls hl => ?_)
          refine lv_goto (tgt := 113) hx hb dX9_two_61 (by decide) ?_
          refine lv_lload hx hb dX9_two_113 (lv_at hl 0 rfl) ?_
          obtain ⟨hPc, hDc, hFc, hCc⟩ := va_pre (ws' := []) hP hD hS hA [] (by decide) rfl
          refine va_calll (va_runS (As := [.long y_21]) (rest := []) ⟨hx, hb, hml, hown, hts⟩ (k_X9_size l dC dI cA s.heap.size y_21 ) (va_cwS 1 hts gX9_two_X9_size rfl rfl rfl (by decide +kernel) ⟨Nat.le_of_ble_eq_true rfl, Nat.le_of_ble_eq_true rfl⟩) ⟨fun a U g mk q => by obtain ⟨q0, q1, qP, qK, qD, qN⟩ := q; exact ⟨q0, q1, qP, va_K.moved (u := U) (U := U.calling g mk a) (Vm.Alike.refl U.vm) qK, qD, qN.same rfl⟩, fun U hU hW => ⟨rfl, by rw [hU], by rw [hU]; exact hPc, va_K.moved hW.alike hK, hDc.weaken (fun _ _ _ _ => trivial), hN.warm hW⟩⟩ rfl rfl hl.1 rfl (lv_room (Nat.le_of_ble_eq_true rfl)) dX9_two_115 ⟨Nat.le_of_ble_eq_true rfl, Nat.le_of_ble_eq_true rfl⟩) hS (fun q _ h => hFc q h) hFc (fun r_22 u_23 t H1 locs ht hvm hw_24 hB hz1 hk1 hS => ?_)
          try dsimp only at hw_24 hB
          have po_25 := hw_24
          clear hw_24
          obtain ⟨hP1, hD1⟩ := hB
          rw [ht] at hP1
          obtain ⟨hP, hD⟩ := va_join (wr := []) (w1 := []) hP hD [] [] hCc rfl (by decide) (by decide) hk1 hFc hP1 hD1
          clear hz1
          generalize H1 = H at hP hS ⊢
          refine lv_ldc2 hx hb hown (hts (.constantLong RX9 279 (1000000000000)) (by decide +kernel)) dX9_two_118 ?_
          refine W.lcmp hx hb dX9_two_121 ?_
          refine lv_topi (fun k_26 ek_26 => ?_)
          have dk_26 : (k_26.toInt < 0 ↔ r_22.toInt < 1000000000000) ∧ (k_26.toInt = 0 ↔ r_22.toInt = 1000000000000) ∧ (0 < k_26.toInt ↔ 1000000000000 < r_22.toInt) := jI_cmp ek_26 rfl (by decide)
          refine lv_if_le (tgt := 131) hx hb dX9_two_122 (by decide) (fun c_27 => ?_) (fun c_27 => ?_)
          · have dc_27 : k_26.toInt ≤ 0 := jI_le c_27 rfl (by decide)
            refine lv_lload hx hb dX9_two_131 (lv_at hl 0 rfl) ?_
            obtain ⟨hP9, hD9⟩ := va_pd (ws' := []) hP hD [] (by decide) rfl
            subst hQe
            have hans : (y_21 : Int64).toInt = y_21.toInt := rfl
            exact W.lret (v := y_21) hx hb hr (fun t ht hW => ⟨⟨y_21, (), rfl, trivial, by rw [ht]; exact hP9, hD9⟩, hS.F ht⟩) hS.2.2 dX9_two_133
          · have dc_27 : 0 < k_26.toInt := jI_nle c_27 rfl (by decide)
            refine lv_ldc2 hx hb hown (hts (.constantLong RX9 274 (-9000000000000000000)) (by decide +kernel)) dX9_two_125 ?_
            refine lv_goto (tgt := 133) hx hb dX9_two_128 (by decide) ?_
            obtain ⟨hP9, hD9⟩ := va_pd (ws' := []) hP hD [] (by decide) rfl
            subst hQe
            have hans : ((-9000000000000000000) : Int64).toInt = (-9000000000000000000) := (by decide)
            exact W.lret (v := (-9000000000000000000)) hx hb hr (fun t ht hW => ⟨⟨(-9000000000000000000), (), rfl, trivial, by rw [ht]; exact hP9, hD9⟩, hS.F ht⟩) hS.2.2 dX9_two_133
        · refine lv_tableIn (off := 43) (tgt := 64) hx hb dX9_two_21 (by omega) (by omega) (by rw [hsw]; rfl) (by decide) ?_
          refine lv_lload_n hx hb dX9_two_64 rfl (lv_at hl 1 rfl) ?_
          refine lv_lconst (v := 0) hx hb dX9_two_65 (by decide) ?_
          refine W.lcmp hx hb dX9_two_66 ?_
          refine lv_topi (fun k_28 ek_28 => ?_)
          have dk_28 : (k_28.toInt < 0 ↔ a.toInt < 0) ∧ (k_28.toInt = 0 ↔ a.toInt = 0) ∧ (0 < k_28.toInt ↔ 0 < a.toInt) := jI_cmp ek_28 rfl (by decide)
          refine lv_if_eq (tgt := 90) hx hb dX9_two_67 (by decide) (fun c_29 => ?_) (fun c_29 => ?_)
          · have dc_29 : k_28.toInt = 0 := jI_eq c_29 rfl (by decide)
            refine lv_lload_n hx hb dX9_two_90 rfl (lv_at hl 1 rfl) ?_
            refine lv_lload_n hx hb dX9_two_91 rfl (lv_at hl 2 rfl) ?_
            refine lv_lmul hx hb dX9_two_92 ?_
            refine lv_topl (fun y_30 ey_30 => ?_)
            refine lv_lstore (lv' := [(5, .long y_30), (0, .int cd), (1, .long a), (3, .long b)]) hx hb dX9_two_93 hl (by decide) rfl (fun ls hl => ?_)
            refine lv_goto (tgt := 113) hx hb dX9_two_95 (by decide) ?_
            refine lv_lload hx hb dX9_two_113 (lv_at hl 0 rfl) ?_
            obtain ⟨hPc, hDc, hFc, hCc⟩ := va_pre (ws' := []) hP hD hS hA [] (by decide) rfl
            refine va_calll (va_runS (As := [.long y_30]) (rest := []) ⟨hx, hb, hml, hown, hts⟩ (k_X9_size l dC dI cA s.heap.size y_30 ) (va_cwS 1 hts gX9_two_X9_size rfl rfl rfl (by decide +kernel) ⟨Nat.le_of_ble_eq_true rfl, Nat.le_of_ble_eq_true rfl⟩) ⟨fun a U g mk q => by obtain ⟨q0, q1, qP, qK, qD, qN⟩ := q; exact ⟨q0, q1, qP, va_K.moved (u := U) (U := U.calling g mk a) (Vm.Alike.refl U.vm) qK, qD, qN.same rfl⟩, fun U hU hW => ⟨rfl, by rw [hU], by rw [hU]; exact hPc, va_K.moved hW.alike hK, hDc.weaken (fun _ _ _ _ => trivial), hN.warm hW⟩⟩ rfl rfl hl.1 rfl (lv_room (Nat.le_of_ble_eq_true rfl)) dX9_two_115 ⟨Nat.le_of_ble_eq_true rfl, Nat.le_of_ble_eq_true rfl⟩) hS (fun q _ h => hFc q h) hFc (fun r_31 u_32 t H1 locs ht hvm hw_33 hB hz1 hk1 hS => ?_)
            try dsimp only at hw_33 hB
            have po_34 := hw_33
            clear hw_33
            obtain ⟨hP1, hD1⟩ := hB
            rw [ht] at hP1
            obtain ⟨hP, hD⟩ := va_join (wr := []) (w1 := []) hP hD [] [] hCc rfl (by decide) (by decide) hk1 hFc hP1 hD1
            clear hz1
            generalize H1 = H at hP hS ⊢
            refine lv_ldc2 hx hb hown (hts (.constantLong RX9 279 (1000000000000)) (by decide +kernel)) dX9_two_118 ?_
            refine W.lcmp hx hb dX9_two_121 ?_
            refine lv_topi (fun k_35 ek_35 => ?_)
            have dk_35 : (k_35.toInt < 0 ↔ r_31.toInt < 1000000000000) ∧ (k_35.toInt = 0 ↔ r_31.toInt = 1000000000000) ∧ (0 < k_35.toInt ↔ 1000000000000 < r_31.toInt) := jI_cmp ek_35 rfl (by decide)
            refine lv_if_le (tgt := 131) hx hb dX9_two_122 (by decide) (fun c_36 => ?_) (fun c_36 => ?_)
            · have dc_36 : k_35.toInt ≤ 0 := jI_le c_36 rfl (by decide)
              refine lv_lload hx hb dX9_two_131 (lv_at hl 0 rfl) ?_
              obtain ⟨hP9, hD9⟩ := va_pd (ws' := []) hP hD [] (by decide) rfl
              subst hQe
              have hans : (y_30 : Int64).toInt = y_30.toInt := rfl
              exact W.lret (v := y_30) hx hb hr (fun t ht hW => ⟨⟨y_30, (), rfl, trivial, by rw [ht]; exact hP9, hD9⟩, hS.F ht⟩) hS.2.2 dX9_two_133
            · have dc_36 : 0 < k_35.toInt := jI_nle c_36 rfl (by decide)
              refine lv_ldc2 hx hb hown (hts (.constantLong RX9 274 (-9000000000000000000)) (by decide +kernel)) dX9_two_125 ?_
              refine lv_goto (tgt := 133) hx hb dX9_two_128 (by decide) ?_
              obtain ⟨hP9, hD9⟩ := va_pd (ws' := []) hP hD [] (by decide) rfl
              subst hQe
              have hans : ((-9000000000000000000) : Int64).toInt = (-9000000000000000000) := (by decide)
              exact W.lret (v := (-9000000000000000000)) hx hb hr (fun t ht hW => ⟨⟨(-9000000000000000000), (), rfl, trivial, by rw [ht]; exact hP9, hD9⟩, hS.F ht⟩) hS.2.2 dX9_two_133
          · have dc_29 : ¬ k_28.toInt = 0 := jI_ne c_29 rfl (by decide)
            refine lv_lload_n hx hb dX9_two_70 rfl (lv_at hl 2 rfl) ?_
            obtain ⟨hPc, hDc, hFc, hCc⟩ := va_pre (ws' := []) hP hD hS hA [] (by decide) rfl
            refine va_calll (va_runS (As := [.long b]) (rest := []) ⟨hx, hb, hml, hown, hts⟩ (k_X9_size l dC dI cA s.heap.size b ) (va_cwS 1 hts gX9_two_X9_size rfl rfl rfl (by decide +kernel) ⟨Nat.le_of_ble_eq_true rfl, Nat.le_of_ble_eq_true rfl⟩) ⟨fun a U g mk q => by obtain ⟨q0, q1, qP, qK, qD, qN⟩ := q; exact ⟨q0, q1, qP, va_K.moved (u := U) (U := U.calling g mk a) (Vm.Alike.refl U.vm) qK, qD, qN.same rfl⟩, fun U hU hW => ⟨rfl, by rw [hU], by rw [hU]; exact hPc, va_K.moved hW.alike hK, hDc.weaken (fun _ _ _ _ => trivial), hN.warm hW⟩⟩ rfl rfl hl.1 rfl (lv_room (Nat.le_of_ble_eq_true rfl)) dX9_two_71 ⟨Nat.le_of_ble_eq_true rfl, Nat.le_of_ble_eq_true rfl⟩) hS (fun q _ h => hFc q h) hFc (fun r_37 u_38 t H1 locs ht hvm hw_39 hB hz1 hk1 hS => ?_)
            try dsimp only at hw_39 hB
            have po_40 := hw_39
            clear hw_39
            obtain ⟨hP1, hD1⟩ := hB
            rw [ht] at hP1
            obtain ⟨hP, hD⟩ := va_join (wr := []) (w1 := []) hP hD [] [] hCc rfl (by decide) (by decide) hk1 hFc hP1 hD1
            clear hz1
            generalize H1 = H at hP hS ⊢
            refine lv_ldc2 hx hb hown (hts (.constantLong RX9 279 (1000000000000)) (by decide +kernel)) dX9_two_74 ?_
            refine lv_lload_n hx hb dX9_two_77 rfl (lv_at hl 1 rfl) ?_
            obtain ⟨hPc, hDc, hFc, hCc⟩ := va_pre (ws' := []) hP hD hS hA [] (by decide) rfl
            refine va_calll (va_runS (As := [.long a]) (rest := [.long 1000000000000, .long r_37]) ⟨hx, hb, hml, hown, hts⟩ (k_X9_size l dC dI cA H.size a ) (va_cwS 1 hts gX9_two_X9_size rfl rfl rfl (by decide +kernel) ⟨Nat.le_of_ble_eq_true rfl, Nat.le_of_ble_eq_true rfl⟩) ⟨fun a U g mk q => by obtain ⟨q0, q1, qP, qK, qD, qN⟩ := q; exact ⟨q0, q1, qP, va_K.moved (u := U) (U := U.calling g mk a) (Vm.Alike.refl U.vm) qK, qD, qN.same rfl⟩, fun U hU hW => ⟨rfl, by rw [hU], by rw [hU]; exact hPc, va_K.moved hW.alike hK, hDc.weaken (fun _ _ _ _ => trivial), hN.warm hW⟩⟩ rfl rfl hl.1 rfl (lv_room (Nat.le_of_ble_eq_true rfl)) dX9_two_78 ⟨Nat.le_of_ble_eq_true rfl, Nat.le_of_ble_eq_true rfl⟩) hS (fun q _ h => hFc q h) hFc (fun r_41 u_42 t H1 locs ht hvm hw_43 hB hz1 hk1 hS => ?_)
            try dsimp only at hw_43 hB
            have po_44 := hw_43
            clear hw_43
            obtain ⟨hP1, hD1⟩ := hB
            rw [ht] at hP1
            obtain ⟨hP, hD⟩ := va_join (wr := []) (w1 := []) hP hD [] [] hCc rfl (by decide) (by decide) hk1 hFc hP1 hD1
            clear hz1
            generalize H1 = H at hP hS ⊢
            refine lv_ldiv hx hb dX9_two_81 (jL_ne0 (by omega)) ?_
            refine lv_topl (fun y_45 ey_45 => ?_)
            refine W.lcmp hx hb dX9_two_82 ?_
            refine lv_topi (fun k_46 ek_46 => ?_)
            have dk_46 : (k_46.toInt < 0 ↔ r_37.toInt < y_45.toInt) ∧ (k_46.toInt = 0 ↔ r_37.toInt = y_45.toInt) ∧ (0 < k_46.toInt ↔ y_45.toInt < r_37.toInt) := jI_cmp ek_46 rfl rfl
            refine lv_if_le (tgt := 90) hx hb dX9_two_83 (by decide) (fun c_47 => ?_) (fun c_47 => ?_)
            · have dc_47 : k_46.toInt ≤ 0 := jI_le c_47 rfl (by decide)
              refine lv_lload_n hx hb dX9_two_90 rfl (lv_at hl 1 rfl) ?_
              refine lv_lload_n hx hb dX9_two_91 rfl (lv_at hl 2 rfl) ?_
              refine lv_lmul hx hb dX9_two_92 ?_
              refine lv_topl (fun y_48 ey_48 => ?_)
              refine lv_lstore (lv' := [(5, .long y_48), (0, .int cd), (1, .long a), (3, .long b)]) hx hb dX9_two_93 hl (by decide) rfl (fun ls hl => ?_)
              refine lv_goto (tgt := 113) hx hb dX9_two_95 (by decide) ?_
              refine lv_lload hx hb dX9_two_113 (lv_at hl 0 rfl) ?_
              obtain ⟨hPc, hDc, hFc, hCc⟩ := va_pre (ws' := []) hP hD hS hA [] (by decide) rfl
              refine va_calll (va_runS (As := [.long y_48]) (rest := []) ⟨hx, hb, hml, hown, hts⟩ (k_X9_size l dC dI cA H.size y_48 ) (va_cwS 1 hts gX9_two_X9_size rfl rfl rfl (by decide +kernel) ⟨Nat.le_of_ble_eq_true rfl, Nat.le_of_ble_eq_true rfl⟩) ⟨fun a U g mk q => by obtain ⟨q0, q1, qP, qK, qD, qN⟩ := q; exact ⟨q0, q1, qP, va_K.moved (u := U) (U := U.calling g mk a) (Vm.Alike.refl U.vm) qK, qD, qN.same rfl⟩, fun U hU hW => ⟨rfl, by rw [hU], by rw [hU]; exact hPc, va_K.moved hW.alike hK, hDc.weaken (fun _ _ _ _ => trivial), hN.warm hW⟩⟩ rfl rfl hl.1 rfl (lv_room (Nat.le_of_ble_eq_true rfl)) dX9_two_115 ⟨Nat.le_of_ble_eq_true rfl, Nat.le_of_ble_eq_true rfl⟩) hS (fun q _ h => hFc q h) hFc (fun r_49 u_50 t H1 locs ht hvm hw_51 hB hz1 hk1 hS => ?_)
              try dsimp only at hw_51 hB
              have po_52 := hw_51
              clear hw_51
              obtain ⟨hP1, hD1⟩ := hB
              rw [ht] at hP1
              obtain ⟨hP, hD⟩ := va_join (wr := []) (w1 := []) hP hD [] [] hCc rfl (by decide) (by decide) hk1 hFc hP1 hD1
              clear hz1
              generalize H1 = H at hP hS ⊢
              refine lv_ldc2 hx hb hown (hts (.constantLong RX9 279 (1000000000000)) (by decide +kernel)) dX9_two_118 ?_
              refine W.lcmp hx hb dX9_two_121 ?_
              refine lv_topi (fun k_53 ek_53 => ?_)
              have dk_53 : (k_53.toInt < 0 ↔ r_49.toInt < 1000000000000) ∧ (k_53.toInt = 0 ↔ r_49.toInt = 1000000000000) ∧ (0 < k_53.toInt ↔ 1000000000000 < r_49.toInt) := jI_cmp ek_53 rfl (by decide)
              refine lv_if_le (tgt := 131) hx hb dX9_two_122 (by decide) (fun c_54 => ?_) (fun c_54 => ?_)
              · have dc_54 : k_53.toInt ≤ 0 := jI_le c_54 rfl (by decide)
                refine lv_lload hx hb dX9_two_131 (lv_at hl 0 rfl) ?_
                obtain ⟨hP9, hD9⟩ := va_pd (ws' := []) hP hD [] (by decide) rfl
                subst hQe
                have hans : (y_48 : Int64).toInt = y_48.toInt := rfl
                exact W.lret (v := y_48) hx hb hr (fun t ht hW => ⟨⟨y_48, (), rfl, trivial, by rw [ht]; exact hP9, hD9⟩, hS.F ht⟩) hS.2.2 dX9_two_133
              · have dc_54 : 0 < k_53.toInt := jI_nle c_54 rfl (by decide)
                refine lv_ldc2 hx hb hown (hts (.constantLong RX9 274 (-9000000000000000000)) (by decide +kernel)) dX9_two_125 ?_
                refine lv_goto (tgt := 133) hx hb dX9_two_128 (by decide) ?_
                obtain ⟨hP9, hD9⟩ := va_pd (ws' := []) hP hD [] (by decide) rfl
                subst hQe
                have hans : ((-9000000000000000000) : Int64).toInt = (-9000000000000000000) := (by decide)
                exact W.lret (v := (-9000000000000000000)) hx hb hr (fun t ht hW => ⟨⟨(-9000000000000000000), (), rfl, trivial, by rw [ht]; exact hP9, hD9⟩, hS.F ht⟩) hS.2.2 dX9_two_133
            · have dc_47 : 0 < k_46.toInt := jI_nle c_47 rfl (by decide)
              refine lv_ldc2 hx hb hown (hts (.constantLong RX9 274 (-9000000000000000000)) (by decide +kernel)) dX9_two_86 ?_
              obtain ⟨hP9, hD9⟩ := va_pd (ws' := []) hP hD [] (by decide) rfl
              subst hQe
              have hans : ((-9000000000000000000) : Int64).toInt = (-9000000000000000000) := (by decide)
              exact W.lret (v := (-9000000000000000000)) hx hb hr (fun t ht hW => ⟨⟨(-9000000000000000000), (), rfl, trivial, by rw [ht]; exact hP9, hD9⟩, hS.F ht⟩) hS.2.2 dX9_two_89
    · have dc_4 : k_3.toInt = 0 := jI_eq c_4 rfl (by decide)
      refine lv_ldc2 hx hb hown (hts (.constantLong RX9 274 (-9000000000000000000)) (by decide +kernel)) dX9_two_16 ?_
      obtain ⟨hP9, hD9⟩ := va_pd (ws' := []) hP hD [] (by decide) rfl
      subst hQe
      have hans : ((-9000000000000000000) : Int64).toInt = (-9000000000000000000) := (by decide)
      exact W.lret (v := (-9000000000000000000)) hx hb hr (fun t ht hW => ⟨⟨(-9000000000000000000), (), rfl, trivial, by rw [ht]; exact hP9, hD9⟩, hS.F ht⟩) hS.2.2 dX9_two_19
