theorem dX7_isWithin_0 : decode cX7_isWithin 0 = .ok (.iload_n 2, 1) := by decide +kernel
theorem dX7_isWithin_1 : decode cX7_isWithin 1 = .ok (.aload_n 0, 1) := by decide +kernel
theorem dX7_isWithin_2 : decode cX7_isWithin 2 = .ok (.getfield 68, 3) := by decide +kernel
theorem dX7_isWithin_5 : decode cX7_isWithin 5 = .ok (.aload_n 1, 1) := by decide +kernel
theorem dX7_isWithin_6 : decode cX7_isWithin 6 = .ok (.getfield 144, 3) := by decide +kernel
theorem dX7_isWithin_9 : decode cX7_isWithin 9 = .ok (.isub, 1) := by decide +kernel
theorem dX7_isWithin_10 : decode cX7_isWithin 10 = .ok (.if_icmp .lt 20, 3) := by decide +kernel
theorem dX7_isWithin_30 : decode cX7_isWithin 30 = .ok (.iconst 0, 1) := by decide +kernel
theorem dX7_isWithin_31 : decode cX7_isWithin 31 = .ok (.ireturn, 1) := by decide +kernel
theorem dX7_isWithin_13 : decode cX7_isWithin 13 = .ok (.iload_n 2, 1) := by decide +kernel
theorem dX7_isWithin_14 : decode cX7_isWithin 14 = .ok (.aload_n 0, 1) := by decide +kernel
theorem dX7_isWithin_15 : decode cX7_isWithin 15 = .ok (.getfield 68, 3) := by decide +kernel
theorem dX7_isWithin_18 : decode cX7_isWithin 18 = .ok (.aload_n 1, 1) := by decide +kernel
theorem dX7_isWithin_19 : decode cX7_isWithin 19 = .ok (.getfield 147, 3) := by decide +kernel
theorem dX7_isWithin_22 : decode cX7_isWithin 22 = .ok (.isub, 1) := by decide +kernel
theorem dX7_isWithin_23 : decode cX7_isWithin 23 = .ok (.if_icmp .gt 7, 3) := by decide +kernel
theorem dX7_isWithin_26 : decode cX7_isWithin 26 = .ok (.iconst 1, 1) := by decide +kernel
theorem dX7_isWithin_27 : decode cX7_isWithin 27 = .ok (.goto 4, 3) := by decide +kernel
theorem dX7_latest_0 : decode cX7_latest 0 = .ok (.iconst (-1), 1) := by decide +kernel
theorem dX7_latest_1 : decode cX7_latest 1 = .ok (.istore_n 2, 1) := by decide +kernel
theorem dX7_latest_2 : decode cX7_latest 2 = .ok (.iconst 0, 1) := by decide +kernel
theorem dX7_latest_3 : decode cX7_latest 3 = .ok (.istore_n 3, 1) := by decide +kernel
theorem dX7_latest_4 : decode cX7_latest 4 = .ok (.iload_n 3, 1) := by decide +kernel
theorem dX7_latest_5 : decode cX7_latest 5 = .ok (.aload_n 0, 1) := by decide +kernel
theorem dX7_latest_6 : decode cX7_latest 6 = .ok (.getfield 71, 3) := by decide +kernel
theorem dX7_latest_9 : decode cX7_latest 9 = .ok (.if_icmp .ge 64, 3) := by decide +kernel
theorem dX7_latest_73 : decode cX7_latest 73 = .ok (.iload_n 2, 1) := by decide +kernel
theorem dX7_latest_74 : decode cX7_latest 74 = .ok (.iconst (-1), 1) := by decide +kernel
theorem dX7_latest_75 : decode cX7_latest 75 = .ok (.if_icmp .ne 7, 3) := by decide +kernel
theorem dX7_latest_82 : decode cX7_latest 82 = .ok (.aload_n 1, 1) := by decide +kernel
theorem dX7_latest_83 : decode cX7_latest 83 = .ok (.getfield 99, 3) := by decide +kernel
theorem dX7_latest_86 : decode cX7_latest 86 = .ok (.iconst 2, 1) := by decide +kernel
theorem dX7_latest_87 : decode cX7_latest 87 = .ok (.if_icmp .ne 16, 3) := by decide +kernel
theorem dX7_latest_103 : decode cX7_latest 103 = .ok (.aload_n 0, 1) := by decide +kernel
theorem dX7_latest_104 : decode cX7_latest 104 = .ok (.getfield 68, 3) := by decide +kernel
theorem dX7_latest_107 : decode cX7_latest 107 = .ok (.aload_n 0, 1) := by decide +kernel
theorem dX7_latest_108 : decode cX7_latest 108 = .ok (.getfield 26, 3) := by decide +kernel
theorem dX7_latest_111 : decode cX7_latest 111 = .ok (.getfield 82, 3) := by decide +kernel
theorem dX7_latest_114 : decode cX7_latest 114 = .ok (.iload_n 2, 1) := by decide +kernel
theorem dX7_latest_115 : decode cX7_latest 115 = .ok (.iaload, 1) := by decide +kernel
theorem dX7_latest_116 : decode cX7_latest 116 = .ok (.isub, 1) := by decide +kernel
theorem dX7_latest_117 : decode cX7_latest 117 = .ok (.i2l, 1) := by decide +kernel
theorem dX7_latest_118 : decode cX7_latest 118 = .ok (.lreturn, 1) := by decide +kernel
theorem dX7_latest_90 : decode cX7_latest 90 = .ok (.aload_n 0, 1) := by decide +kernel
theorem dX7_latest_91 : decode cX7_latest 91 = .ok (.getfield 26, 3) := by decide +kernel
theorem dX7_latest_94 : decode cX7_latest 94 = .ok (.getfield 125, 3) := by decide +kernel
theorem dX7_latest_97 : decode cX7_latest 97 = .ok (.iload_n 2, 1) := by decide +kernel
theorem dX7_latest_98 : decode cX7_latest 98 = .ok (.iaload, 1) := by decide +kernel
theorem dX7_latest_99 : decode cX7_latest 99 = .ok (.i2l, 1) := by decide +kernel
theorem dX7_latest_100 : decode cX7_latest 100 = .ok (.goto 18, 3) := by decide +kernel
theorem dX7_latest_78 : decode cX7_latest 78 = .ok (.ldc2_w 38, 3) := by decide +kernel
theorem dX7_latest_81 : decode cX7_latest 81 = .ok (.lreturn, 1) := by decide +kernel
theorem dX7_latest_12 : decode cX7_latest 12 = .ok (.aload_n 0, 1) := by decide +kernel
theorem dX7_latest_13 : decode cX7_latest 13 = .ok (.getfield 15, 3) := by decide +kernel
theorem dX7_latest_16 : decode cX7_latest 16 = .ok (.iload_n 3, 1) := by decide +kernel
theorem dX7_latest_17 : decode cX7_latest 17 = .ok (.iaload, 1) := by decide +kernel
theorem dX7_latest_18 : decode cX7_latest 18 = .ok (.istore 4, 2) := by decide +kernel
theorem dX7_latest_20 : decode cX7_latest 20 = .ok (.aload_n 0, 1) := by decide +kernel
theorem dX7_latest_21 : decode cX7_latest 21 = .ok (.getfield 26, 3) := by decide +kernel
theorem dX7_latest_24 : decode cX7_latest 24 = .ok (.getfield 122, 3) := by decide +kernel
theorem dX7_latest_27 : decode cX7_latest 27 = .ok (.iload 4, 2) := by decide +kernel
theorem dX7_latest_29 : decode cX7_latest 29 = .ok (.iaload, 1) := by decide +kernel
theorem dX7_latest_30 : decode cX7_latest 30 = .ok (.aload_n 1, 1) := by decide +kernel
theorem dX7_latest_31 : decode cX7_latest 31 = .ok (.getfield 104, 3) := by decide +kernel
theorem dX7_latest_34 : decode cX7_latest 34 = .ok (.if_icmp .ne 33, 3) := by decide +kernel
theorem dX7_latest_67 : decode cX7_latest 67 = .ok (.iinc 3 1, 3) := by decide +kernel
theorem dX7_latest_70 : decode cX7_latest 70 = .ok (.goto (-66), 3) := by decide +kernel
theorem dX7_latest_37 : decode cX7_latest 37 = .ok (.iload_n 2, 1) := by decide +kernel
theorem dX7_latest_38 : decode cX7_latest 38 = .ok (.iconst (-1), 1) := by decide +kernel
theorem dX7_latest_39 : decode cX7_latest 39 = .ok (.if_icmp .eq 25, 3) := by decide +kernel
theorem dX7_latest_64 : decode cX7_latest 64 = .ok (.iload 4, 2) := by decide +kernel
theorem dX7_latest_66 : decode cX7_latest 66 = .ok (.istore_n 2, 1) := by decide +kernel
theorem dX7_latest_42 : decode cX7_latest 42 = .ok (.aload_n 0, 1) := by decide +kernel
theorem dX7_latest_43 : decode cX7_latest 43 = .ok (.getfield 26, 3) := by decide +kernel
theorem dX7_latest_46 : decode cX7_latest 46 = .ok (.getfield 82, 3) := by decide +kernel
theorem dX7_latest_49 : decode cX7_latest 49 = .ok (.iload 4, 2) := by decide +kernel
theorem dX7_latest_51 : decode cX7_latest 51 = .ok (.iaload, 1) := by decide +kernel
theorem dX7_latest_52 : decode cX7_latest 52 = .ok (.aload_n 0, 1) := by decide +kernel
theorem dX7_latest_53 : decode cX7_latest 53 = .ok (.getfield 26, 3) := by decide +kernel
theorem dX7_latest_56 : decode cX7_latest 56 = .ok (.getfield 82, 3) := by decide +kernel
theorem dX7_latest_59 : decode cX7_latest 59 = .ok (.iload_n 2, 1) := by decide +kernel
theorem dX7_latest_60 : decode cX7_latest 60 = .ok (.iaload, 1) := by decide +kernel
theorem dX7_latest_61 : decode cX7_latest 61 = .ok (.if_icmp .lt 6, 3) := by decide +kernel
theorem dX7_window_0 : decode cX7_window 0 = .ok (.iconst 0, 1) := by decide +kernel
theorem dX7_window_1 : decode cX7_window 1 = .ok (.istore_n 2, 1) := by decide +kernel
theorem dX7_window_2 : decode cX7_window 2 = .ok (.lconst 0, 1) := by decide +kernel
theorem dX7_window_3 : decode cX7_window 3 = .ok (.lstore_n 3, 1) := by decide +kernel
theorem dX7_window_4 : decode cX7_window 4 = .ok (.ldc2_w 127, 3) := by decide +kernel
theorem dX7_window_7 : decode cX7_window 7 = .ok (.lstore 5, 2) := by decide +kernel
theorem dX7_window_9 : decode cX7_window 9 = .ok (.ldc2_w 129, 3) := by decide +kernel
theorem dX7_window_12 : decode cX7_window 12 = .ok (.lstore 7, 2) := by decide +kernel
theorem dX7_window_14 : decode cX7_window 14 = .ok (.iconst 0, 1) := by decide +kernel
theorem dX7_window_15 : decode cX7_window 15 = .ok (.istore 9, 2) := by decide +kernel
theorem dX7_window_17 : decode cX7_window 17 = .ok (.iload 9, 2) := by decide +kernel
theorem dX7_window_19 : decode cX7_window 19 = .ok (.aload_n 0, 1) := by decide +kernel
theorem dX7_window_20 : decode cX7_window 20 = .ok (.getfield 71, 3) := by decide +kernel
theorem dX7_window_23 : decode cX7_window 23 = .ok (.if_icmp .ge 106, 3) := by decide +kernel
theorem dX7_window_129 : decode cX7_window 129 = .ok (.aload_n 1, 1) := by decide +kernel
theorem dX7_window_130 : decode cX7_window 130 = .ok (.getfield 99, 3) := by decide +kernel
theorem dX7_window_133 : decode cX7_window 133 = .ok (.iconst 4, 1) := by decide +kernel
theorem dX7_window_134 : decode cX7_window 134 = .ok (.if_icmp .ne 6, 3) := by decide +kernel
theorem dX7_window_140 : decode cX7_window 140 = .ok (.iload_n 2, 1) := by decide +kernel
theorem dX7_window_141 : decode cX7_window 141 = .ok (.ifCond .ne 7, 3) := by decide +kernel
theorem dX7_window_148 : decode cX7_window 148 = .ok (.aload_n 1, 1) := by decide +kernel
theorem dX7_window_149 : decode cX7_window 149 = .ok (.getfield 99, 3) := by decide +kernel
theorem dX7_window_152 : decode cX7_window 152 = .ok (.iconst 5, 1) := by decide +kernel
theorem dX7_window_153 : decode cX7_window 153 = .ok (.if_icmp .ne 7, 3) := by decide +kernel
theorem dX7_window_160 : decode cX7_window 160 = .ok (.aload_n 1, 1) := by decide +kernel
theorem dX7_window_161 : decode cX7_window 161 = .ok (.getfield 99, 3) := by decide +kernel
theorem dX7_window_164 : decode cX7_window 164 = .ok (.bipush 6, 2) := by decide +kernel
theorem dX7_window_166 : decode cX7_window 166 = .ok (.if_icmp .ne 8, 3) := by decide +kernel
theorem dX7_window_174 : decode cX7_window 174 = .ok (.lload 7, 2) := by decide +kernel
theorem dX7_window_176 : decode cX7_window 176 = .ok (.lreturn, 1) := by decide +kernel
theorem dX7_window_169 : decode cX7_window 169 = .ok (.lload 5, 2) := by decide +kernel
theorem dX7_window_171 : decode cX7_window 171 = .ok (.goto 5, 3) := by decide +kernel
theorem dX7_window_156 : decode cX7_window 156 = .ok (.lload_n 3, 1) := by decide +kernel
theorem dX7_window_157 : decode cX7_window 157 = .ok (.goto 19, 3) := by decide +kernel
theorem dX7_window_144 : decode cX7_window 144 = .ok (.ldc2_w 38, 3) := by decide +kernel
theorem dX7_window_147 : decode cX7_window 147 = .ok (.lreturn, 1) := by decide +kernel
theorem dX7_window_137 : decode cX7_window 137 = .ok (.iload_n 2, 1) := by decide +kernel
theorem dX7_window_138 : decode cX7_window 138 = .ok (.i2l, 1) := by decide +kernel
theorem dX7_window_139 : decode cX7_window 139 = .ok (.lreturn, 1) := by decide +kernel
theorem dX7_window_26 : decode cX7_window 26 = .ok (.aload_n 0, 1) := by decide +kernel
theorem dX7_window_27 : decode cX7_window 27 = .ok (.getfield 15, 3) := by decide +kernel
theorem dX7_window_30 : decode cX7_window 30 = .ok (.iload 9, 2) := by decide +kernel
theorem dX7_window_32 : decode cX7_window 32 = .ok (.iaload, 1) := by decide +kernel
theorem dX7_window_33 : decode cX7_window 33 = .ok (.istore 10, 2) := by decide +kernel
theorem dX7_window_35 : decode cX7_window 35 = .ok (.aload_n 0, 1) := by decide +kernel
theorem dX7_window_36 : decode cX7_window 36 = .ok (.getfield 26, 3) := by decide +kernel
theorem dX7_window_39 : decode cX7_window 39 = .ok (.getfield 122, 3) := by decide +kernel
theorem dX7_window_42 : decode cX7_window 42 = .ok (.iload 10, 2) := by decide +kernel
theorem dX7_window_44 : decode cX7_window 44 = .ok (.iaload, 1) := by decide +kernel
theorem dX7_window_45 : decode cX7_window 45 = .ok (.aload_n 1, 1) := by decide +kernel
theorem dX7_window_46 : decode cX7_window 46 = .ok (.getfield 104, 3) := by decide +kernel
theorem dX7_window_49 : decode cX7_window 49 = .ok (.if_icmp .ne 74, 3) := by decide +kernel
theorem dX7_window_123 : decode cX7_window 123 = .ok (.iinc 9 1, 3) := by decide +kernel
theorem dX7_window_126 : decode cX7_window 126 = .ok (.goto (-109), 3) := by decide +kernel
theorem dX7_window_52 : decode cX7_window 52 = .ok (.aload_n 0, 1) := by decide +kernel
theorem dX7_window_53 : decode cX7_window 53 = .ok (.aload_n 1, 1) := by decide +kernel
theorem dX7_window_54 : decode cX7_window 54 = .ok (.aload_n 0, 1) := by decide +kernel
theorem dX7_window_55 : decode cX7_window 55 = .ok (.getfield 26, 3) := by decide +kernel
theorem dX7_window_58 : decode cX7_window 58 = .ok (.getfield 82, 3) := by decide +kernel
theorem dX7_window_61 : decode cX7_window 61 = .ok (.iload 10, 2) := by decide +kernel
theorem dX7_window_63 : decode cX7_window 63 = .ok (.iaload, 1) := by decide +kernel
set_option maxRecDepth 20000 in
theorem ggX7_window_X7_isWithin : GoodIn wsX7_window wsX7_isWithin := goodIn_r _ [18, 19, 20, 21, 22, 23, 24, 25, 26, 27, 28, 29, 37, 38, 39, 40] (by decide +kernel) (by decide +kernel)
set_option maxRecDepth 20000 in
theorem gX7_window_X7_isWithin : GoodIn wsX7_window (wsV RX7 131 RX7 yX7_isWithin wsX7_isWithin) := goodIn_app (goodIn_of _ (by decide +kernel)) ggX7_window_X7_isWithin
theorem dX7_window_64 : decode cX7_window 64 = .ok (.invokevirtual 131, 3) := by decide +kernel
theorem dX7_window_67 : decode cX7_window 67 = .ok (.ifCond .eq 56, 3) := by decide +kernel
theorem dX7_window_70 : decode cX7_window 70 = .ok (.iinc 2 1, 3) := by decide +kernel
theorem dX7_window_73 : decode cX7_window 73 = .ok (.lload_n 3, 1) := by decide +kernel
theorem dX7_window_74 : decode cX7_window 74 = .ok (.aload_n 0, 1) := by decide +kernel
theorem dX7_window_75 : decode cX7_window 75 = .ok (.getfield 26, 3) := by decide +kernel
theorem dX7_window_78 : decode cX7_window 78 = .ok (.getfield 125, 3) := by decide +kernel
theorem dX7_window_81 : decode cX7_window 81 = .ok (.iload 10, 2) := by decide +kernel
theorem dX7_window_83 : decode cX7_window 83 = .ok (.iaload, 1) := by decide +kernel
theorem dX7_window_84 : decode cX7_window 84 = .ok (.i2l, 1) := by decide +kernel
theorem dX7_window_85 : decode cX7_window 85 = .ok (.ladd, 1) := by decide +kernel
theorem dX7_window_86 : decode cX7_window 86 = .ok (.lstore_n 3, 1) := by decide +kernel
theorem dX7_window_87 : decode cX7_window 87 = .ok (.lload 5, 2) := by decide +kernel
theorem dX7_window_89 : decode cX7_window 89 = .ok (.aload_n 0, 1) := by decide +kernel
theorem dX7_window_90 : decode cX7_window 90 = .ok (.getfield 26, 3) := by decide +kernel
theorem dX7_window_93 : decode cX7_window 93 = .ok (.getfield 125, 3) := by decide +kernel
theorem dX7_window_96 : decode cX7_window 96 = .ok (.iload 10, 2) := by decide +kernel
theorem dX7_window_98 : decode cX7_window 98 = .ok (.iaload, 1) := by decide +kernel
theorem dX7_window_99 : decode cX7_window 99 = .ok (.i2l, 1) := by decide +kernel
theorem dX7_window_100 : decode cX7_window 100 = .ok (.invokestatic 135, 3) := by decide +kernel
theorem dX7_window_103 : decode cX7_window 103 = .ok (.lstore 5, 2) := by decide +kernel
theorem dX7_window_105 : decode cX7_window 105 = .ok (.lload 7, 2) := by decide +kernel
theorem dX7_window_107 : decode cX7_window 107 = .ok (.aload_n 0, 1) := by decide +kernel
theorem dX7_window_108 : decode cX7_window 108 = .ok (.getfield 26, 3) := by decide +kernel
theorem dX7_window_111 : decode cX7_window 111 = .ok (.getfield 125, 3) := by decide +kernel
theorem dX7_window_114 : decode cX7_window 114 = .ok (.iload 10, 2) := by decide +kernel
theorem dX7_window_116 : decode cX7_window 116 = .ok (.iaload, 1) := by decide +kernel
theorem dX7_window_117 : decode cX7_window 117 = .ok (.i2l, 1) := by decide +kernel
theorem dX7_window_118 : decode cX7_window 118 = .ok (.invokestatic 141, 3) := by decide +kernel
theorem dX7_window_121 : decode cX7_window 121 = .ok (.lstore 7, 2) := by decide +kernel
theorem dX7_perform_0 : decode cX7_perform 0 = .ok (.aload_n 1, 1) := by decide +kernel
theorem dX7_perform_1 : decode cX7_perform 1 = .ok (.getfield 99, 3) := by decide +kernel
theorem dX7_perform_4 : decode cX7_perform 4 = .ok (.tableswitch 133 0 8 #[52, 64, 80, 80, 92, 92, 92, 92, 104], 52) := by decide +kernel
theorem dX7_perform_137 : decode cX7_perform 137 = .ok (.aload_n 0, 1) := by decide +kernel
set_option maxRecDepth 20000 in
theorem ggX7_perform_X7_pop : GoodIn wsX7_perform wsX7_pop := goodIn_r _ [42, 8, 2, 9, 53, 54, 55, 56, 57, 58, 59, 60, 61, 62] (by decide +kernel) (by decide +kernel)
set_option maxRecDepth 20000 in
theorem gX7_perform_X7_pop : GoodIn wsX7_perform (wsV RX7 95 RX7 yX7_pop wsX7_pop) := goodIn_app (goodIn_of _ (by decide +kernel)) ggX7_perform_X7_pop
theorem dX7_perform_138 : decode cX7_perform 138 = .ok (.invokevirtual 95, 3) := by decide +kernel
theorem dX7_perform_141 : decode cX7_perform 141 = .ok (.lstore 4, 2) := by decide +kernel
theorem dX7_perform_143 : decode cX7_perform 143 = .ok (.aload_n 0, 1) := by decide +kernel
theorem dX7_perform_144 : decode cX7_perform 144 = .ok (.aload_n 1, 1) := by decide +kernel
theorem dX7_perform_145 : decode cX7_perform 145 = .ok (.getfield 99, 3) := by decide +kernel
theorem dX7_perform_148 : decode cX7_perform 148 = .ok (.aload_n 0, 1) := by decide +kernel
theorem dX7_perform_149 : decode cX7_perform 149 = .ok (.invokevirtual 95, 3) := by decide +kernel
theorem dX7_perform_152 : decode cX7_perform 152 = .ok (.lload 4, 2) := by decide +kernel
set_option maxRecDepth 20000 in
theorem ggX7_perform_X7_join : GoodIn wsX7_perform wsX7_join := goodIn_r _ [45, 2, 46, 47, 6, 48, 10, 11, 12, 13, 14] (by decide +kernel) (by decide +kernel)
set_option maxRecDepth 20000 in
theorem gX7_perform_X7_join : GoodIn wsX7_perform (va_wsS RX7 118 yX7_join wsX7_join) := goodIn_app (goodIn_of _ (by decide +kernel)) ggX7_perform_X7_join
theorem dX7_perform_154 : decode cX7_perform 154 = .ok (.invokestatic 118, 3) := by decide +kernel
set_option maxRecDepth 20000 in
theorem ggX7_perform_X7_push : GoodIn wsX7_perform wsX7_push := goodIn_r _ [7, 8, 9, 10, 11, 12, 13, 14, 2, 53, 54, 55, 56, 57, 58, 59, 60, 61, 62] (by decide +kernel) (by decide +kernel)
set_option maxRecDepth 20000 in
theorem gX7_perform_X7_push : GoodIn wsX7_perform (wsV RX7 107 RX7 yX7_push wsX7_push) := goodIn_app (goodIn_of _ (by decide +kernel)) ggX7_perform_X7_push
theorem dX7_perform_157 : decode cX7_perform 157 = .ok (.invokevirtual 107, 3) := by decide +kernel
theorem dX7_perform_160 : decode cX7_perform 160 = .ok (.return_, 1) := by decide +kernel
theorem dX7_perform_56 : decode cX7_perform 56 = .ok (.aload_n 0, 1) := by decide +kernel
theorem dX7_perform_57 : decode cX7_perform 57 = .ok (.aload_n 1, 1) := by decide +kernel
theorem dX7_perform_58 : decode cX7_perform 58 = .ok (.getfield 104, 3) := by decide +kernel
theorem dX7_perform_61 : decode cX7_perform 61 = .ok (.i2l, 1) := by decide +kernel
theorem dX7_perform_62 : decode cX7_perform 62 = .ok (.invokevirtual 107, 3) := by decide +kernel
theorem dX7_perform_65 : decode cX7_perform 65 = .ok (.goto 95, 3) := by decide +kernel
theorem dX7_perform_68 : decode cX7_perform 68 = .ok (.aload_n 0, 1) := by decide +kernel
theorem dX7_perform_69 : decode cX7_perform 69 = .ok (.aload_n 0, 1) := by decide +kernel
theorem dX7_perform_70 : decode cX7_perform 70 = .ok (.getfield 23, 3) := by decide +kernel
theorem dX7_perform_73 : decode cX7_perform 73 = .ok (.aload_n 1, 1) := by decide +kernel
theorem dX7_perform_74 : decode cX7_perform 74 = .ok (.getfield 104, 3) := by decide +kernel
theorem dX7_perform_77 : decode cX7_perform 77 = .ok (.laload, 1) := by decide +kernel
theorem dX7_perform_78 : decode cX7_perform 78 = .ok (.invokevirtual 107, 3) := by decide +kernel
theorem dX7_perform_81 : decode cX7_perform 81 = .ok (.goto 79, 3) := by decide +kernel
theorem dX7_perform_84 : decode cX7_perform 84 = .ok (.aload_n 0, 1) := by decide +kernel
theorem dX7_perform_85 : decode cX7_perform 85 = .ok (.aload_n 0, 1) := by decide +kernel
theorem dX7_perform_86 : decode cX7_perform 86 = .ok (.aload_n 1, 1) := by decide +kernel
set_option maxRecDepth 20000 in
theorem ggX7_perform_X7_latest : GoodIn wsX7_perform wsX7_latest := goodIn_r _ [18, 19, 20, 21, 2, 22, 53, 54, 55, 56, 57, 58, 59, 60, 61, 62, 63, 64, 65, 66, 67, 68, 69, 49, 50, 51, 52] (by decide +kernel) (by decide +kernel)
set_option maxRecDepth 20000 in
theorem gX7_perform_X7_latest : GoodIn wsX7_perform (wsV RX7 111 RX7 yX7_latest wsX7_latest) := goodIn_app (goodIn_of _ (by decide +kernel)) ggX7_perform_X7_latest
theorem dX7_perform_87 : decode cX7_perform 87 = .ok (.invokevirtual 111, 3) := by decide +kernel
theorem dX7_perform_90 : decode cX7_perform 90 = .ok (.invokevirtual 107, 3) := by decide +kernel
theorem dX7_perform_93 : decode cX7_perform 93 = .ok (.goto 67, 3) := by decide +kernel
theorem dX7_perform_96 : decode cX7_perform 96 = .ok (.aload_n 0, 1) := by decide +kernel
theorem dX7_perform_97 : decode cX7_perform 97 = .ok (.aload_n 0, 1) := by decide +kernel
theorem dX7_perform_98 : decode cX7_perform 98 = .ok (.aload_n 1, 1) := by decide +kernel
set_option maxRecDepth 20000 in
theorem ggX7_perform_X7_window : GoodIn wsX7_perform wsX7_window := goodIn_r _ [26, 27, 28, 19, 20, 21, 29, 30, 12, 31, 32, 33, 34, 2, 35, 36, 37, 6, 38, 22, 53, 54, 55, 56, 57, 58, 59, 60, 61, 62, 63, 64, 65, 66, 67, 68, 69, 49, 50, 51, 52] (by decide +kernel) (by decide +kernel)
set_option maxRecDepth 20000 in
theorem gX7_perform_X7_window : GoodIn wsX7_perform (wsV RX7 115 RX7 yX7_window wsX7_window) := goodIn_app (goodIn_of _ (by decide +kernel)) ggX7_perform_X7_window
theorem dX7_perform_99 : decode cX7_perform 99 = .ok (.invokevirtual 115, 3) := by decide +kernel
theorem dX7_perform_102 : decode cX7_perform 102 = .ok (.invokevirtual 107, 3) := by decide +kernel
theorem dX7_perform_105 : decode cX7_perform 105 = .ok (.goto 55, 3) := by decide +kernel
theorem dX7_perform_108 : decode cX7_perform 108 = .ok (.aload_n 0, 1) := by decide +kernel
theorem dX7_perform_109 : decode cX7_perform 109 = .ok (.invokevirtual 95, 3) := by decide +kernel
theorem dX7_perform_112 : decode cX7_perform 112 = .ok (.lstore_n 2, 1) := by decide +kernel
theorem dX7_perform_113 : decode cX7_perform 113 = .ok (.aload_n 0, 1) := by decide +kernel
theorem dX7_perform_114 : decode cX7_perform 114 = .ok (.lload_n 2, 1) := by decide +kernel
theorem dX7_perform_115 : decode cX7_perform 115 = .ok (.ldc2_w 38, 3) := by decide +kernel
theorem dX7_perform_118 : decode cX7_perform 118 = .ok (.lcmp, 1) := by decide +kernel
theorem dX7_perform_119 : decode cX7_perform 119 = .ok (.ifCond .ne 11, 3) := by decide +kernel
theorem dX7_perform_130 : decode cX7_perform 130 = .ok (.lload_n 2, 1) := by decide +kernel
theorem dX7_perform_131 : decode cX7_perform 131 = .ok (.invokevirtual 107, 3) := by decide +kernel
theorem dX7_perform_134 : decode cX7_perform 134 = .ok (.goto 26, 3) := by decide +kernel
theorem dX7_perform_122 : decode cX7_perform 122 = .ok (.aload_n 1, 1) := by decide +kernel
theorem dX7_perform_123 : decode cX7_perform 123 = .ok (.getfield 104, 3) := by decide +kernel
theorem dX7_perform_126 : decode cX7_perform 126 = .ok (.i2l, 1) := by decide +kernel
theorem dX7_perform_127 : decode cX7_perform 127 = .ok (.goto 4, 3) := by decide +kernel
theorem dX7_workOut_0 : decode cX7_workOut 0 = .ok (.aload_n 0, 1) := by decide +kernel
theorem dX7_workOut_1 : decode cX7_workOut 1 = .ok (.iconst 0, 1) := by decide +kernel
theorem dX7_workOut_2 : decode cX7_workOut 2 = .ok (.putfield 88, 3) := by decide +kernel
theorem dX7_workOut_5 : decode cX7_workOut 5 = .ok (.iconst 0, 1) := by decide +kernel
theorem dX7_workOut_6 : decode cX7_workOut 6 = .ok (.istore_n 2, 1) := by decide +kernel
theorem dX7_workOut_7 : decode cX7_workOut 7 = .ok (.iload_n 2, 1) := by decide +kernel
theorem dX7_workOut_8 : decode cX7_workOut 8 = .ok (.aload_n 1, 1) := by decide +kernel
theorem dX7_workOut_9 : decode cX7_workOut 9 = .ok (.arraylength, 1) := by decide +kernel
theorem dX7_workOut_10 : decode cX7_workOut 10 = .ok (.if_icmp .ge 16, 3) := by decide +kernel
theorem dX7_workOut_26 : decode cX7_workOut 26 = .ok (.aload_n 0, 1) := by decide +kernel
set_option maxRecDepth 20000 in
theorem ggX7_workOut_X7_pop : GoodIn wsX7_workOut wsX7_pop := goodIn_r _ [46, 1, 8, 13, 53, 54, 55, 56, 57, 58, 59, 60, 61, 62] (by decide +kernel) (by decide +kernel)
set_option maxRecDepth 20000 in
theorem gX7_workOut_X7_pop : GoodIn wsX7_workOut (wsV RX7 95 RX7 yX7_pop wsX7_pop) := goodIn_app (goodIn_of _ (by decide +kernel)) ggX7_workOut_X7_pop
theorem dX7_workOut_27 : decode cX7_workOut 27 = .ok (.invokevirtual 95, 3) := by decide +kernel
theorem dX7_workOut_30 : decode cX7_workOut 30 = .ok (.lreturn, 1) := by decide +kernel
theorem dX7_workOut_13 : decode cX7_workOut 13 = .ok (.aload_n 0, 1) := by decide +kernel
theorem dX7_workOut_14 : decode cX7_workOut 14 = .ok (.aload_n 1, 1) := by decide +kernel
theorem dX7_workOut_15 : decode cX7_workOut 15 = .ok (.iload_n 2, 1) := by decide +kernel
theorem dX7_workOut_16 : decode cX7_workOut 16 = .ok (.aaload, 1) := by decide +kernel
set_option maxRecDepth 20000 in
theorem ggX7_workOut_X7_perform : GoodIn wsX7_workOut wsX7_perform := goodIn_r _ [6, 7, 8, 9, 10, 11, 5, 12, 1, 13, 14, 15, 16, 17, 18, 19, 20, 21, 22, 23, 24, 25, 26, 27, 28, 29, 30, 31, 32, 33, 34, 35, 36, 37, 38, 39, 40, 41, 42, 43, 44, 45, 46, 47, 48, 49, 50, 51, 52, 63, 64, 65, 66, 53, 54, 55, 56, 57, 58, 59, 60, 61, 62, 67, 68, 69, 70, 71, 72, 73] (by decide +kernel) (by decide +kernel)
set_option maxRecDepth 20000 in
theorem gX7_workOut_X7_perform : GoodIn wsX7_workOut (wsV RX7 91 RX7 yX7_perform wsX7_perform) := goodIn_app (goodIn_of _ (by decide +kernel)) ggX7_workOut_X7_perform
theorem dX7_workOut_17 : decode cX7_workOut 17 = .ok (.invokevirtual 91, 3) := by decide +kernel
theorem dX7_workOut_20 : decode cX7_workOut 20 = .ok (.iinc 2 1, 3) := by decide +kernel
theorem dX7_workOut_23 : decode cX7_workOut 23 = .ok (.goto (-16), 3) := by decide +kernel
/-! the traits that there are: their objects, rows of steps, what is kept -/
def stepOk (L : List Nat) (f : Nat → va_E) (a : Nat) : Prop := a ∈ L ∧ ∃ kd nb fr to : Int32, f a = .inr (4, [.int kd, .int nb, .int fr, .int to]) ∧ (kd.toInt = 1 → 0 ≤ nb.toInt ∧ nb.toInt ≤ 19)
def stepsOk (cA : Nat → ClassId) (L : List Nat) (f : Nat → va_E) (s : Nat) : Prop := s ∈ L ∧ ∃ (n : Nat) (g : Nat → Option Nat), f s = .inl (cA 4, n, .inr (.inr (.inr (.inr g)))) ∧ n ≤ 200 ∧ ∀ j, j < n → ∃ a, g j = some a ∧ stepOk L f a
def traitOk (cA : Nat → ClassId) (L : List Nat) (f : Nat → va_E) (t : Nat) (nd sa : Int32) : Prop := t ∈ L ∧ ∃ (s v m : Nat) (lf lt : Int64) (he : Int32), f t = .inr (6, [.ref s, .int nd, .ref v, .ref m, .long lf, .long lt, .int sa, .int he]) ∧ stepsOk cA L f s ∧ v ∈ L ∧ (∃ kv : Nat → Int64, f v = .inl (cA 1, 20, .inr (.inl kv))) ∧ m ∈ L ∧ ∃ km : Nat → Int32, f m = .inl (cA 0, 20, .inl km)
def TP (cA : Nat → ClassId) (n : Int32) (fTr : Nat → Option Nat) (L : List Nat) (f : Nat → va_E) (nd sa : Nat → Int32) : Prop := (∀ k : Nat, (k : Int) < n.toInt → ∃ t, fTr k = some t ∧ traitOk cA L f t (nd k) (sa k)) ∧ ∀ i j : Nat, (i : Int) < n.toInt → (j : Int) < n.toInt → fTr i = fTr j → i = j
/-- what may change in the pool: contents of rows of numbers, laws, counts -/
def shpE (e e' : va_E) : Prop := e' = e ∨ (∃ (c : ClassId) (n : Nat) (g g' : Nat → Int32), e = .inl (c, n, .inl g) ∧ e' = .inl (c, n, .inl g')) ∨ (∃ (c : ClassId) (n : Nat) (g g' : Nat → Int64), e = .inl (c, n, .inr (.inl g)) ∧ e' = .inl (c, n, .inr (.inl g'))) ∨ ∃ (s v m : Nat) (nd sa he he' : Int32) (a b a' b' : Int64), e = .inr (6, [.ref s, .int nd, .ref v, .ref m, .long a, .long b, .int sa, .int he]) ∧ e' = .inr (6, [.ref s, .int nd, .ref v, .ref m, .long a', .long b', .int sa, .int he'])
def shp (f f' : Nat → va_E) : Prop := ∀ a, shpE (f a) (f' a)
theorem shp_rf (f : Nat → va_E) : shp f f := fun _ => Or.inl rfl
theorem shpE_tr {e1 e2 e3 : va_E} (h1 : shpE e1 e2) (h2 : shpE e2 e3) : shpE e1 e3 := by
  rcases h1 with h1 | ⟨c, n, g, g', h1, h1'⟩ | ⟨c, n, g, g', h1, h1'⟩ | ⟨s, v, m, nd, sa, he, he', a, b, a', b', h1, h1'⟩
  · rw [h1] at h2; exact h2
  · rcases h2 with h2 | ⟨c2, n2, k, k', h2, h2'⟩ | ⟨c2, n2, k, k', h2, h2'⟩ | ⟨s2, v2, m2, nd2, sa2, he2, he2', a2, b2, a2', b2', h2, h2'⟩
    · exact Or.inr (Or.inl ⟨c, n, g, g', h1, h2.trans h1'⟩)
    · rw [h1'] at h2
      simp only [Sum.inl.injEq, Prod.mk.injEq] at h2
      obtain ⟨rfl, rfl, -⟩ := h2
      exact Or.inr (Or.inl ⟨c, n, g, k', h1, h2'⟩)
    · rw [h1'] at h2; simp at h2
    · rw [h1'] at h2; simp at h2
  · rcases h2 with h2 | ⟨c2, n2, k, k', h2, h2'⟩ | ⟨c2, n2, k, k', h2, h2'⟩ | ⟨s2, v2, m2, nd2, sa2, he2, he2', a2, b2, a2', b2', h2, h2'⟩
    · exact Or.inr (Or.inr (Or.inl ⟨c, n, g, g', h1, h2.trans h1'⟩))
    · rw [h1'] at h2; simp at h2
    · rw [h1'] at h2
      simp only [Sum.inl.injEq, Prod.mk.injEq] at h2
      obtain ⟨rfl, rfl, -⟩ := h2
      exact Or.inr (Or.inr (Or.inl ⟨c, n, g, k', h1, h2'⟩))
    · rw [h1'] at h2; simp at h2
  · rcases h2 with h2 | ⟨c2, n2, k, k', h2, h2'⟩ | ⟨c2, n2, k, k', h2, h2'⟩ | ⟨s2, v2, m2, nd2, sa2, he2, he2', a2, b2, a2', b2', h2, h2'⟩
    · exact Or.inr (Or.inr (Or.inr ⟨s, v, m, nd, sa, he, he', a, b, a', b', h1, h2.trans h1'⟩))
    · rw [h1'] at h2; simp at h2
    · rw [h1'] at h2; simp at h2
    · rw [h1'] at h2
      simp only [Sum.inr.injEq, Prod.mk.injEq, List.cons.injEq, Value.ref.injEq, Value.int.injEq, Value.long.injEq, true_and, and_true] at h2
      obtain ⟨rfl, rfl, rfl, rfl, -, -, rfl, -⟩ := h2
      exact Or.inr (Or.inr (Or.inr ⟨s, v, m, nd, sa, he, he2', a, b, a2', b2', h1, h2'⟩))
theorem shp_tr {f1 f2 f3 : Nat → va_E} (h1 : shp f1 f2) (h2 : shp f2 f3) : shp f1 f3 := fun a => shpE_tr (h1 a) (h2 a)
theorem shp_up {f g : Nat → va_E} {a : Nat} {e e0 : va_E} (eg : g = va_up f a e) (e1 : f a = e0) (h : shpE e0 e) : shp f g := by
  intro b
  rw [eg]
  by_cases q : b = a
  · subst q; rw [va_up_self, e1]; exact h
  · rw [va_up_ne _ _ q]; exact Or.inl rfl
theorem shp_step {L : List Nat} {f f' : Nat → va_E} {a : Nat} (h : shp f f') (ho : stepOk L f a) : stepOk L f' a := by
  obtain ⟨hm, kd, nb, fr, to, he, hk⟩ := ho
  refine ⟨hm, kd, nb, fr, to, ?_, hk⟩
  rcases h a with q | ⟨c, n, g, g', q, -⟩ | ⟨c, n, g, g', q, -⟩ | ⟨s, v, m, nd, sa, he', he'', x, y, x', y', q, -⟩
  · rw [q]; exact he
  · rw [he] at q; simp at q
  · rw [he] at q; simp at q
  · rw [he] at q; simp at q
theorem shp_steps {cA : Nat → ClassId} {L : List Nat} {f f' : Nat → va_E} {s : Nat} (h : shp f f') (ho : stepsOk cA L f s) : stepsOk cA L f' s := by
  obtain ⟨hm, n, g, he, hn, hs⟩ := ho
  refine ⟨hm, n, g, ?_, hn, fun j hj => ?_⟩
  · rcases h s with q | ⟨c, n', k, k', q, -⟩ | ⟨c, n', k, k', q, -⟩ | ⟨s', v, m, nd, sa, he', he'', x, y, x', y', q, -⟩
    · rw [q]; exact he
    · rw [he] at q; simp at q
    · rw [he] at q; simp at q
    · rw [he] at q; simp at q
  · obtain ⟨a, h1, h2⟩ := hs j hj
    exact ⟨a, h1, shp_step h h2⟩
theorem shp_trait {cA : Nat → ClassId} {L : List Nat} {f f' : Nat → va_E} {t : Nat} {nd sa : Int32} (h : shp f f') (ho : traitOk cA L f t nd sa) : traitOk cA L f' t nd sa := by
  obtain ⟨hm, s, v, m, lf, lt, he, ht, hs, hv, ⟨kv, hkv⟩, hmm, ⟨km, hkm⟩⟩ := ho
  have h1 : ∃ (lf' lt' : Int64) (he' : Int32), f' t = .inr (6, [.ref s, .int nd, .ref v, .ref m, .long lf', .long lt', .int sa, .int he']) := by
    rcases h t with q | ⟨c, n', k, k', q, -⟩ | ⟨c, n', k, k', q, -⟩ | ⟨s', v', m', nd', sa', he', he'', x, y, x', y', q, q'⟩
    · exact ⟨lf, lt, he, by rw [q]; exact ht⟩
    · rw [ht] at q; simp at q
    · rw [ht] at q; simp at q
    · rw [ht] at q
      simp only [Sum.inr.injEq, Prod.mk.injEq, List.cons.injEq, Value.ref.injEq, Value.int.injEq, Value.long.injEq, true_and, and_true] at q
      obtain ⟨rfl, rfl, rfl, rfl, -, -, rfl, -⟩ := q
      exact ⟨x', y', he'', q'⟩
  obtain ⟨lf', lt', he', h1⟩ := h1
  refine ⟨hm, s, v, m, lf', lt', he', h1, shp_steps h hs, hv, ?_, hmm, ?_⟩
  · rcases h v with q | ⟨c, n', k, k', q, -⟩ | ⟨c, n', k, k', q, q'⟩ | ⟨s', v', m', nd', sa', he', he'', x, y, x', y', q, -⟩
    · exact ⟨kv, by rw [q]; exact hkv⟩
    · rw [hkv] at q; simp at q
    · rw [hkv] at q
      simp only [Sum.inl.injEq, Prod.mk.injEq] at q
      obtain ⟨rfl, rfl, -⟩ := q
      exact ⟨k', q'⟩
    · rw [hkv] at q; simp at q
  · rcases h m with q | ⟨c, n', k, k', q, q'⟩ | ⟨c, n', k, k', q, -⟩ | ⟨s', v', m', nd', sa', he', he'', x, y, x', y', q, -⟩
    · exact ⟨km, by rw [q]; exact hkm⟩
    · rw [hkm] at q
      simp only [Sum.inl.injEq, Prod.mk.injEq] at q
      obtain ⟨rfl, rfl, -⟩ := q
      exact ⟨k', q'⟩
    · rw [hkm] at q; simp at q
    · rw [hkm] at q; simp at q
theorem shp_TP {cA : Nat → ClassId} {n : Int32} {fTr : Nat → Option Nat} {L : List Nat} {f f' : Nat → va_E} {nd sa : Nat → Int32} (h : TP cA n fTr L f nd sa) (hs : shp f f') : TP cA n fTr L f' nd sa := by
  refine ⟨fun k hk => ?_, h.2⟩
  obtain ⟨t, h1, h2⟩ := h.1 k hk
  exact ⟨t, h1, shp_trait hs h2⟩
theorem TP_at {cA : Nat → ClassId} {n i : Int32} {fTr : Nat → Option Nat} {L : List Nat} {f : Nat → va_E} {nd sa : Nat → Int32} (h : TP cA n fTr L f nd sa) (h0 : 0 ≤ i.toInt) (h1 : i.toInt < n.toInt) : ∃ t, fTr i.toNatClampNeg = some t ∧ traitOk cA L f t (nd i.toNatClampNeg) (sa i.toNatClampNeg) := by
  have e : i.toNatClampNeg = i.toInt.toNat := rfl
  exact h.1 i.toNatClampNeg (by omega)
theorem shpE_i {c : ClassId} {n : Nat} {g g' : Nat → Int32} : shpE (.inl (c, n, .inl g)) (.inl (c, n, .inl g')) := Or.inr (Or.inl ⟨c, n, g, g', rfl, rfl⟩)
theorem shpE_l {c : ClassId} {n : Nat} {g g' : Nat → Int64} : shpE (.inl (c, n, .inr (.inl g))) (.inl (c, n, .inr (.inl g'))) := Or.inr (Or.inr (Or.inl ⟨c, n, g, g', rfl, rfl⟩))
theorem shpE_t {s v m : Nat} {nd sa he he' : Int32} {a b a' b' : Int64} : shpE (.inr (6, [.ref s, .int nd, .ref v, .ref m, .long a, .long b, .int sa, .int he])) (.inr (6, [.ref s, .int nd, .ref v, .ref m, .long a', .long b', .int sa, .int he'])) := Or.inr (Or.inr (Or.inr ⟨s, v, m, nd, sa, he, he', a, b, a', b', rfl, rfl⟩))

set_option maxHeartbeats 8000000 in
set_option maxRecDepth 100000 in
theorem k_X7_isWithin (l : Launch) (dC : Nat → ClassId) (dI : Nat → Nat → Nat) (cA : Nat → ClassId) (sz : Nat) (ax : Nat → Nat) (xSr : Int32) (xWm : Int32) (xTp : Int32) (L : List Nat) (pf : Nat → va_E) (sa : Nat) (kd : Int32) (nb : Int32) (fr : Int32) (to : Int32) (mo : Int32) (i_xSr : 0 ≤ xSr.toInt ∧ xSr.toInt ≤ 400) (i_xTp : 0 ≤ xTp.toInt ∧ xTp.toInt ≤ 200) (hsm : sa ∈ L) (hsf : pf sa = .inr (4, [.int kd, .int nb, .int fr, .int to])) : Met l yX7_isWithin wsX7_isWithin ({ frames := 0, cells := 0, slots := 0, locals := 0 }) (va_Pc [.ref (ax 16), .ref sa, .int mo] (fun U => U.heap.size = sz ∧ va_P (dC, dI) vwCl (([((ax 16), .inr (7, [.ref (ax 1), .ref (ax 7), .ref (ax 15), .ref (ax 17), .ref (ax 18), .ref (ax 19), .ref (ax 20), .int xSr, .int xWm, .int xTp]))] : va_W) ++ va_pl L pf) U.heap ∧ va_K (dC, dI) vwCl (tyL cA) U ∧ va_D (fun _ => True) (([((ax 16), .inr (7, [.ref (ax 1), .ref (ax 7), .ref (ax 15), .ref (ax 17), .ref (ax 18), .ref (ax 19), .ref (ax 20), .int xSr, .int xWm, .int xTp]))] : va_W) ++ va_pl L pf) ∧ nw_ok U)) (va_Qi (fun (r : Int32) (_ : Unit) => (0 ≤ r.toInt ∧ r.toInt ≤ 1)) (fun (_ : Unit) (t : State) => va_P (dC, dI) vwCl (([((ax 16), .inr (7, [.ref (ax 1), .ref (ax 7), .ref (ax 15), .ref (ax 17), .ref (ax 18), .ref (ax 19), .ref (ax 20), .int xSr, .int xWm, .int xTp]))] : va_W) ++ va_pl L pf) t.heap ∧ va_D (va_A (([((ax 16), .inr (7, [.ref (ax 1), .ref (ax 7), .ref (ax 15), .ref (ax 17), .ref (ax 18), .ref (ax 19), .ref (ax 20), .int xSr, .int xWm, .int xTp]))] : va_W) ++ va_pl L pf) sz) (([((ax 16), .inr (7, [.ref (ax 1), .ref (ax 7), .ref (ax 15), .ref (ax 17), .ref (ax 18), .ref (ax 19), .ref (ax 20), .int xSr, .int xWm, .int xTp]))] : va_W) ++ va_pl L pf)) (va_A (([((ax 16), .inr (7, [.ref (ax 1), .ref (ax 7), .ref (ax 15), .ref (ax 17), .ref (ax 18), .ref (ax 19), .ref (ax 20), .int xSr, .int xWm, .int xTp]))] : va_W) ++ va_pl L pf) sz)) 0 0 (va_A (([((ax 16), .inr (7, [.ref (ax 1), .ref (ax 7), .ref (ax 15), .ref (ax 17), .ref (ax 18), .ref (ax 19), .ref (ax 20), .int xSr, .int xWm, .int xTp]))] : va_W) ++ va_pl L pf) sz) := by
  refine Met.ofW (cc := cX7_isWithin) (maxL := 3) (ret := (some .boolean)) (by decide) rfl ?_
  intro p e s m args below meth c s₁ B hml hv
  obtain ⟨rfl, hsz, hP, hK, hD0, hN⟩ := hv
  have hx := B.exec
  have hb := B.bytes
  have hr := B.returns
  have hts := atoms_spec (ws := wsX7_isWithin) B.pre
  have hown : s.vm.findClass RX7 = some m.cls := findClass_of_methodNamed B.named
  have hlocks := B.notSynchronized
  subst hsz
  have hD := hD0.self (sz := s.heap.size)
  generalize hAe : va_A (([((ax 16), .inr (7, [.ref (ax 1), .ref (ax 7), .ref (ax 15), .ref (ax 17), .ref (ax 18), .ref (ax 19), .ref (ax 20), .int xSr, .int xWm, .int xTp]))] : va_W) ++ va_pl L pf) s.heap.size = A at hD ⊢
  have hA : ∀ q : Nat, s.heap.size ≤ q → A q := fun q h => by rw [← hAe]; exact Or.inr h
  have hS : va_S A s.heap s.heap [] := va_S.rf
  have hIX4 : ∀ w ∈ u_ws RX4 TX4 4, w ∈ wsX7_isWithin := by decide +kernel
  have hIX7 : ∀ w ∈ u_ws RX7 TX7 10, w ∈ wsX7_isWithin := by decide +kernel
  have hl := lv_entry ([.ref (ax 16), .ref sa, .int mo]) (n := 3) (Nat.le_of_ble_eq_true rfl)
  rw [lg_entry_eq]
  generalize (lg_sl ([.ref (ax 16), .ref sa, .int mo]) ++ List.replicate (3 - (lg_sl ([.ref (ax 16), .ref sa, .int mo])).length) Slot.unset).toArray = ls at hl ⊢
  have hl : lv_has ls 3 [(0, .ref (ax 16)), (1, .ref sa), (2, .int mo)] := hl
  generalize hQe : MQ below _ _ _ _ _ _ = QQ
  refine lv_iload_n hx hb dX7_isWithin_0 rfl (lv_at hl 2 rfl) ?_
  refine lv_aload_n hx hb dX7_isWithin_1 rfl (lv_at hl 0 rfl) ?_
  refine va_get (D := (dC, dI)) (ci := 7) (v := .int xWm) (C := RX7) (T := TX7) (N := 10) hx hb hts hIX7 hown hK hP 0 rfl rfl 8 (by decide) (hts (.fieldLink RX7 68 "TraitHouse$Worker" "moment" "I") (by decide +kernel)) (fun _ h9 => h9) rfl dX7_isWithin_2 ?_
  refine lv_aload_n hx hb dX7_isWithin_5 rfl (lv_at hl 1 rfl) ?_
  obtain ⟨pk_1, hpk_1⟩ := va_pl_get (X := [((ax 16), .inr (7, [.ref (ax 1), .ref (ax 7), .ref (ax 15), .ref (ax 17), .ref (ax 18), .ref (ax 19), .ref (ax 20), .int xSr, .int xWm, .int xTp]))]) (f := pf) hsm
  have gpk_1 := hpk_1
  rw [hsf] at hpk_1
  refine va_getN (D := (dC, dI)) (ci := 4) (v := .int fr) (C := RX4) (T := TX4) (N := 4) hx hb hts hIX4 hown hK hP pk_1 hpk_1 rfl 2 (by decide) (va_Nw.use rfl (nw_at hN 19 rfl)) (fun _ h9 => h9) rfl dX7_isWithin_6 ?_
  refine lv_isub hx hb dX7_isWithin_9 ?_
  refine lv_topi (fun x_2 ex_2 => ?_)
  refine lv_icmp_lt (tgt := 30) hx hb dX7_isWithin_10 (by decide) (fun c_3 => ?_) (fun c_3 => ?_)
  · have dc_3 : mo.toInt < x_2.toInt := jI_lt c_3 rfl rfl
    refine lv_iconst (v := 0) hx hb dX7_isWithin_30 (by decide) ?_
    have hP9 := hP.part (cx := [((ax 16), .inr (7, [.ref (ax 1), .ref (ax 7), .ref (ax 15), .ref (ax 17), .ref (ax 18), .ref (ax 19), .ref (ax 20), .int xSr, .int xWm, .int xTp]))]) [0] rfl
    have hD9 := hD.part (cx := [((ax 16), .inr (7, [.ref (ax 1), .ref (ax 7), .ref (ax 15), .ref (ax 17), .ref (ax 18), .ref (ax 19), .ref (ax 20), .int xSr, .int xWm, .int xTp]))]) [0] (by decide) rfl
    subst hQe
    have hans : (0 : Int32).toInt = 0 := (by decide)
    have hpost : (0 ≤ (0 : Int32).toInt ∧ (0 : Int32).toInt ≤ 1) := by omega
    exact W.zret (v := 0) hx hb hr (by decide) (fun t ht hW => ⟨⟨0, (), rfl, hpost, by rw [ht]; exact hP9, hD9⟩, hS.F ht⟩) hS.2.2 dX7_isWithin_31
  · have dc_3 : x_2.toInt ≤ mo.toInt := jI_nlt c_3 rfl rfl
    refine lv_iload_n hx hb dX7_isWithin_13 rfl (lv_at hl 2 rfl) ?_
    refine lv_aload_n hx hb dX7_isWithin_14 rfl (lv_at hl 0 rfl) ?_
    refine va_get (D := (dC, dI)) (ci := 7) (v := .int xWm) (C := RX7) (T := TX7) (N := 10) hx hb hts hIX7 hown hK hP 0 rfl rfl 8 (by decide) (hts (.fieldLink RX7 68 "TraitHouse$Worker" "moment" "I") (by decide +kernel)) (fun _ h9 => h9) rfl dX7_isWithin_15 ?_
    refine lv_aload_n hx hb dX7_isWithin_18 rfl (lv_at hl 1 rfl) ?_
    obtain ⟨pk_4, hpk_4⟩ := va_pl_get (X := [((ax 16), .inr (7, [.ref (ax 1), .ref (ax 7), .ref (ax 15), .ref (ax 17), .ref (ax 18), .ref (ax 19), .ref (ax 20), .int xSr, .int xWm, .int xTp]))]) (f := pf) hsm
    have gpk_4 := hpk_4
    rw [hsf] at hpk_4
    refine va_getN (D := (dC, dI)) (ci := 4) (v := .int to) (C := RX4) (T := TX4) (N := 4) hx hb hts hIX4 hown hK hP pk_4 hpk_4 rfl 3 (by decide) (va_Nw.use rfl (nw_at hN 20 rfl)) (fun _ h9 => h9) rfl dX7_isWithin_19 ?_
    refine lv_isub hx hb dX7_isWithin_22 ?_
    refine lv_topi (fun x_5 ex_5 => ?_)
    refine lv_icmp_gt (tgt := 30) hx hb dX7_isWithin_23 (by decide) (fun c_6 => ?_) (fun c_6 => ?_)
    · have dc_6 : x_5.toInt < mo.toInt := jI_lt c_6 rfl rfl
      refine lv_iconst (v := 0) hx hb dX7_isWithin_30 (by decide) ?_
      have hP9 := hP.part (cx := [((ax 16), .inr (7, [.ref (ax 1), .ref (ax 7), .ref (ax 15), .ref (ax 17), .ref (ax 18), .ref (ax 19), .ref (ax 20), .int xSr, .int xWm, .int xTp]))]) [0] rfl
      have hD9 := hD.part (cx := [((ax 16), .inr (7, [.ref (ax 1), .ref (ax 7), .ref (ax 15), .ref (ax 17), .ref (ax 18), .ref (ax 19), .ref (ax 20), .int xSr, .int xWm, .int xTp]))]) [0] (by decide) rfl
      subst hQe
      have hans : (0 : Int32).toInt = 0 := (by decide)
      have hpost : (0 ≤ (0 : Int32).toInt ∧ (0 : Int32).toInt ≤ 1) := by omega
      exact W.zret (v := 0) hx hb hr (by decide) (fun t ht hW => ⟨⟨0, (), rfl, hpost, by rw [ht]; exact hP9, hD9⟩, hS.F ht⟩) hS.2.2 dX7_isWithin_31
    · have dc_6 : mo.toInt ≤ x_5.toInt := jI_nlt c_6 rfl rfl
      refine lv_iconst (v := 1) hx hb dX7_isWithin_26 (by decide) ?_
      refine lv_goto (tgt := 31) hx hb dX7_isWithin_27 (by decide) ?_
      have hP9 := hP.part (cx := [((ax 16), .inr (7, [.ref (ax 1), .ref (ax 7), .ref (ax 15), .ref (ax 17), .ref (ax 18), .ref (ax 19), .ref (ax 20), .int xSr, .int xWm, .int xTp]))]) [0] rfl
      have hD9 := hD.part (cx := [((ax 16), .inr (7, [.ref (ax 1), .ref (ax 7), .ref (ax 15), .ref (ax 17), .ref (ax 18), .ref (ax 19), .ref (ax 20), .int xSr, .int xWm, .int xTp]))]) [0] (by decide) rfl
      subst hQe
      have hans : (1 : Int32).toInt = 1 := (by decide)
      have hpost : (0 ≤ (1 : Int32).toInt ∧ (1 : Int32).toInt ≤ 1) := by omega
      exact W.zret (v := 1) hx hb hr (by decide) (fun t ht hW => ⟨⟨1, (), rfl, hpost, by rw [ht]; exact hP9, hD9⟩, hS.F ht⟩) hS.2.2 dX7_isWithin_31

set_option maxHeartbeats 8000000 in
set_option maxRecDepth 100000 in
theorem k_X7_latest (l : Launch) (dC : Nat → ClassId) (dI : Nat → Nat → Nat) (cA : Nat → ClassId) (sz : Nat) (ax : Nat → Nat) (xSr : Int32) (xWm : Int32) (xTp : Int32) (xRz : Int32) (xRn : Int32) (gS : Nat → Int32) (gM : Nat → Int32) (gV : Nat → Int32) (gW : Nat → Int32) (L : List Nat) (pf : Nat → va_E) (sa : Nat) (kd : Int32) (nb : Int32) (fr : Int32) (to : Int32) (i_xSr : 0 ≤ xSr.toInt ∧ xSr.toInt ≤ 400) (i_xTp : 0 ≤ xTp.toInt ∧ xTp.toInt ≤ 200) (i_xRz : 0 ≤ xRz.toInt ∧ xRz.toInt ≤ 400) (i_gW : inB 0 399 400 gW) (hsm : sa ∈ L) (hsf : pf sa = .inr (4, [.int kd, .int nb, .int fr, .int to])) : Met l yX7_latest wsX7_latest ({ frames := 0, cells := 0, slots := 0, locals := 0 }) (va_Pc [.ref (ax 16), .ref sa] (fun U => U.heap.size = sz ∧ va_P (dC, dI) vwCl (([((ax 16), .inr (7, [.ref (ax 1), .ref (ax 7), .ref (ax 15), .ref (ax 17), .ref (ax 18), .ref (ax 19), .ref (ax 20), .int xSr, .int xWm, .int xTp])), ((ax 1), .inr (3, [.ref (ax 2), .ref (ax 3), .ref (ax 4), .ref (ax 5), .ref (ax 6), .int xRz, .int xRn])), ((ax 3), .inl (cA 0, 400, .inl gS)), ((ax 4), .inl (cA 0, 400, .inl gM)), ((ax 6), .inl (cA 0, 400, .inl gV)), ((ax 18), .inl (cA 0, 400, .inl gW))] : va_W) ++ va_pl L pf) U.heap ∧ va_K (dC, dI) vwCl (tyL cA) U ∧ va_D (fun _ => True) (([((ax 16), .inr (7, [.ref (ax 1), .ref (ax 7), .ref (ax 15), .ref (ax 17), .ref (ax 18), .ref (ax 19), .ref (ax 20), .int xSr, .int xWm, .int xTp])), ((ax 1), .inr (3, [.ref (ax 2), .ref (ax 3), .ref (ax 4), .ref (ax 5), .ref (ax 6), .int xRz, .int xRn])), ((ax 3), .inl (cA 0, 400, .inl gS)), ((ax 4), .inl (cA 0, 400, .inl gM)), ((ax 6), .inl (cA 0, 400, .inl gV)), ((ax 18), .inl (cA 0, 400, .inl gW))] : va_W) ++ va_pl L pf) ∧ nw_ok U)) (va_Ql (fun (r : Int64) (_ : Unit) => True) (fun (_ : Unit) (t : State) => va_P (dC, dI) vwCl (([((ax 16), .inr (7, [.ref (ax 1), .ref (ax 7), .ref (ax 15), .ref (ax 17), .ref (ax 18), .ref (ax 19), .ref (ax 20), .int xSr, .int xWm, .int xTp])), ((ax 1), .inr (3, [.ref (ax 2), .ref (ax 3), .ref (ax 4), .ref (ax 5), .ref (ax 6), .int xRz, .int xRn])), ((ax 3), .inl (cA 0, 400, .inl gS)), ((ax 4), .inl (cA 0, 400, .inl gM)), ((ax 6), .inl (cA 0, 400, .inl gV)), ((ax 18), .inl (cA 0, 400, .inl gW))] : va_W) ++ va_pl L pf) t.heap ∧ va_D (va_A (([((ax 16), .inr (7, [.ref (ax 1), .ref (ax 7), .ref (ax 15), .ref (ax 17), .ref (ax 18), .ref (ax 19), .ref (ax 20), .int xSr, .int xWm, .int xTp])), ((ax 1), .inr (3, [.ref (ax 2), .ref (ax 3), .ref (ax 4), .ref (ax 5), .ref (ax 6), .int xRz, .int xRn])), ((ax 3), .inl (cA 0, 400, .inl gS)), ((ax 4), .inl (cA 0, 400, .inl gM)), ((ax 6), .inl (cA 0, 400, .inl gV)), ((ax 18), .inl (cA 0, 400, .inl gW))] : va_W) ++ va_pl L pf) sz) (([((ax 16), .inr (7, [.ref (ax 1), .ref (ax 7), .ref (ax 15), .ref (ax 17), .ref (ax 18), .ref (ax 19), .ref (ax 20), .int xSr, .int xWm, .int xTp])), ((ax 1), .inr (3, [.ref (ax 2), .ref (ax 3), .ref (ax 4), .ref (ax 5), .ref (ax 6), .int xRz, .int xRn])), ((ax 3), .inl (cA 0, 400, .inl gS)), ((ax 4), .inl (cA 0, 400, .inl gM)), ((ax 6), .inl (cA 0, 400, .inl gV)), ((ax 18), .inl (cA 0, 400, .inl gW))] : va_W) ++ va_pl L pf)) (va_A (([((ax 16), .inr (7, [.ref (ax 1), .ref (ax 7), .ref (ax 15), .ref (ax 17), .ref (ax 18), .ref (ax 19), .ref (ax 20), .int xSr, .int xWm, .int xTp])), ((ax 1), .inr (3, [.ref (ax 2), .ref (ax 3), .ref (ax 4), .ref (ax 5), .ref (ax 6), .int xRz, .int xRn])), ((ax 3), .inl (cA 0, 400, .inl gS)), ((ax 4), .inl (cA 0, 400, .inl gM)), ((ax 6), .inl (cA 0, 400, .inl gV)), ((ax 18), .inl (cA 0, 400, .inl gW))] : va_W) ++ va_pl L pf) sz)) 0 0 (va_A (([((ax 16), .inr (7, [.ref (ax 1), .ref (ax 7), .ref (ax 15), .ref (ax 17), .ref (ax 18), .ref (ax 19), .ref (ax 20), .int xSr, .int xWm, .int xTp])), ((ax 1), .inr (3, [.ref (ax 2), .ref (ax 3), .ref (ax 4), .ref (ax 5), .ref (ax 6), .int xRz, .int xRn])), ((ax 3), .inl (cA 0, 400, .inl gS)), ((ax 4), .inl (cA 0, 400, .inl gM)), ((ax 6), .inl (cA 0, 400, .inl gV)), ((ax 18), .inl (cA 0, 400, .inl gW))] : va_W) ++ va_pl L pf) sz) := by
  refine Met.ofW (cc := cX7_latest) (maxL := 5) (ret := (some .long)) (by decide) rfl ?_
  intro p e s m args below meth c s₁ B hml hv
  obtain ⟨rfl, hsz, hP, hK, hD0, hN⟩ := hv
  have hx := B.exec
  have hb := B.bytes
  have hr := B.returns
  have hts := atoms_spec (ws := wsX7_latest) B.pre
  have hown : s.vm.findClass RX7 = some m.cls := findClass_of_methodNamed B.named
  have hlocks := B.notSynchronized
  subst hsz
  have hD := hD0.self (sz := s.heap.size)
  generalize hAe : va_A (([((ax 16), .inr (7, [.ref (ax 1), .ref (ax 7), .ref (ax 15), .ref (ax 17), .ref (ax 18), .ref (ax 19), .ref (ax 20), .int xSr, .int xWm, .int xTp])), ((ax 1), .inr (3, [.ref (ax 2), .ref (ax 3), .ref (ax 4), .ref (ax 5), .ref (ax 6), .int xRz, .int xRn])), ((ax 3), .inl (cA 0, 400, .inl gS)), ((ax 4), .inl (cA 0, 400, .inl gM)), ((ax 6), .inl (cA 0, 400, .inl gV)), ((ax 18), .inl (cA 0, 400, .inl gW))] : va_W) ++ va_pl L pf) s.heap.size = A at hD ⊢
  have hA : ∀ q : Nat, s.heap.size ≤ q → A q := fun q h => by rw [← hAe]; exact Or.inr h
  have hS : va_S A s.heap s.heap [] := va_S.rf
  have hIX3 : ∀ w ∈ u_ws RX3 TX3 7, w ∈ wsX7_latest := by decide +kernel
  have hIX4 : ∀ w ∈ u_ws RX4 TX4 4, w ∈ wsX7_latest := by decide +kernel
  have hIX7 : ∀ w ∈ u_ws RX7 TX7 10, w ∈ wsX7_latest := by decide +kernel
  have hl := lv_entry ([.ref (ax 16), .ref sa]) (n := 5) (Nat.le_of_ble_eq_true rfl)
  rw [lg_entry_eq]
  generalize (lg_sl ([.ref (ax 16), .ref sa]) ++ List.replicate (5 - (lg_sl ([.ref (ax 16), .ref sa])).length) Slot.unset).toArray = ls at hl ⊢
  have hl : lv_has ls 5 [(0, .ref (ax 16)), (1, .ref sa)] := hl
  generalize hQe : MQ below _ _ _ _ _ _ = QQ
  refine lv_iconst (v := (-1)) hx hb dX7_latest_0 (by decide) ?_
  refine lv_istore_n (lv' := [(2, .int (-1)), (0, .ref (ax 16)), (1, .ref sa)]) hx hb dX7_latest_1 rfl hl (by decide) rfl (fun ls hl => ?_)
  refine lv_iconst (v := 0) hx hb dX7_latest_2 (by decide) ?_
  refine lv_istore_n (lv' := [(3, .int 0), (2, .int (-1)), (0, .ref (ax 16)), (1, .ref sa)]) hx hb dX7_latest_3 rfl hl (by decide) rfl (fun ls hl => ?_)
  have loop4_1 : ∀ (n : Nat) (i3 : Int32) (b2 : Int32) (H : Heap) (locs : List Loc) (ls : Array Slot), 400 - i3.toInt < (n : Int) → (0 ≤ i3.toInt ∧ i3.toInt ≤ 400) → ((-1) ≤ b2.toInt ∧ b2.toInt ≤ 399) → va_P (dC, dI) vwCl (([((ax 16), .inr (7, [.ref (ax 1), .ref (ax 7), .ref (ax 15), .ref (ax 17), .ref (ax 18), .ref (ax 19), .ref (ax 20), .int xSr, .int xWm, .int xTp])), ((ax 1), .inr (3, [.ref (ax 2), .ref (ax 3), .ref (ax 4), .ref (ax 5), .ref (ax 6), .int xRz, .int xRn])), ((ax 3), .inl (cA 0, 400, .inl gS)), ((ax 4), .inl (cA 0, 400, .inl gM)), ((ax 6), .inl (cA 0, 400, .inl gV)), ((ax 18), .inl (cA 0, 400, .inl gW))] : va_W) ++ va_pl L pf) H → va_D A (([((ax 16), .inr (7, [.ref (ax 1), .ref (ax 7), .ref (ax 15), .ref (ax 17), .ref (ax 18), .ref (ax 19), .ref (ax 20), .int xSr, .int xWm, .int xTp])), ((ax 1), .inr (3, [.ref (ax 2), .ref (ax 3), .ref (ax 4), .ref (ax 5), .ref (ax 6), .int xRz, .int xRn])), ((ax 3), .inl (cA 0, 400, .inl gS)), ((ax 4), .inl (cA 0, 400, .inl gM)), ((ax 6), .inl (cA 0, 400, .inl gV)), ((ax 18), .inl (cA 0, 400, .inl gW))] : va_W) ++ va_pl L pf) → va_S A s.heap H locs → lv_has ls 5 [(3, .int i3), (2, .int b2), (0, .ref (ax 16)), (1, .ref sa)] → W p l e ({ frames := 0, cells := 0, slots := 0, locals := 0 }) s m ([.ref (ax 16), .ref sa] : List Value).toArray below meth c H locs 0 0 QQ (F0 m 4 ls []) := by
    intro n
    induction n with
    | zero => intro i3 b2 H locs ls hme hv0_4 hv1_4; exfalso; omega
    | succ n ih_4 =>
      intro i3 b2 H locs ls hme_4 hv0_4 hv1_4 hP hD hS hl
      refine lv_iload_n hx hb dX7_latest_4 rfl (lv_at hl 0 rfl) ?_
      refine lv_aload_n hx hb dX7_latest_5 rfl (lv_at hl 2 rfl) ?_
      refine va_get (D := (dC, dI)) (ci := 7) (v := .int xSr) (C := RX7) (T := TX7) (N := 10) hx hb hts hIX7 hown hK hP 0 rfl rfl 7 (by decide) (hts (.fieldLink RX7 71 "TraitHouse$Worker" "seenRows" "I") (by decide +kernel)) (fun _ h9 => h9) rfl dX7_latest_6 ?_
      refine lv_icmp_ge (tgt := 73) hx hb dX7_latest_9 (by decide) (fun c_2 => ?_) (fun c_2 => ?_)
      · have dc_2 : xSr.toInt ≤ i3.toInt := jI_le c_2 rfl rfl
        refine lv_iload_n hx hb dX7_latest_73 rfl (lv_at hl 1 rfl) ?_
        refine lv_iconst (v := (-1)) hx hb dX7_latest_74 (by decide) ?_
        refine lv_icmp_ne (tgt := 82) hx hb dX7_latest_75 (by decide) (fun c_3 => ?_) (fun c_3 => ?_)
        · have dc_3 : ¬ b2.toInt = (-1) := jI_ne c_3 rfl (by decide)
          refine lv_aload_n hx hb dX7_latest_82 rfl (lv_at hl 3 rfl) ?_
          obtain ⟨pk_4, hpk_4⟩ := va_pl_get (X := [((ax 16), .inr (7, [.ref (ax 1), .ref (ax 7), .ref (ax 15), .ref (ax 17), .ref (ax 18), .ref (ax 19), .ref (ax 20), .int xSr, .int xWm, .int xTp])), ((ax 1), .inr (3, [.ref (ax 2), .ref (ax 3), .ref (ax 4), .ref (ax 5), .ref (ax 6), .int xRz, .int xRn])), ((ax 3), .inl (cA 0, 400, .inl gS)), ((ax 4), .inl (cA 0, 400, .inl gM)), ((ax 6), .inl (cA 0, 400, .inl gV)), ((ax 18), .inl (cA 0, 400, .inl gW))]) (f := pf) hsm
          have gpk_4 := hpk_4
          rw [hsf] at hpk_4
          refine va_getN (D := (dC, dI)) (ci := 4) (v := .int kd) (C := RX4) (T := TX4) (N := 4) hx hb hts hIX4 hown hK hP pk_4 hpk_4 rfl 0 (by decide) (va_Nw.use rfl (nw_at hN 17 rfl)) (fun _ h9 => h9) rfl dX7_latest_83 ?_
          refine lv_iconst (v := 2) hx hb dX7_latest_86 (by decide) ?_
          refine lv_icmp_ne (tgt := 103) hx hb dX7_latest_87 (by decide) (fun c_5 => ?_) (fun c_5 => ?_)
          · have dc_5 : ¬ kd.toInt = 2 := jI_ne c_5 rfl (by decide)
            refine lv_aload_n hx hb dX7_latest_103 rfl (lv_at hl 2 rfl) ?_
            refine va_get (D := (dC, dI)) (ci := 7) (v := .int xWm) (C := RX7) (T := TX7) (N := 10) hx hb hts hIX7 hown hK hP 0 rfl rfl 8 (by decide) (hts (.fieldLink RX7 68 "TraitHouse$Worker" "moment" "I") (by decide +kernel)) (fun _ h9 => h9) rfl dX7_latest_104 ?_
            refine lv_aload_n hx hb dX7_latest_107 rfl (lv_at hl 2 rfl) ?_
            refine va_get (D := (dC, dI)) (ci := 7) (v := .ref (ax 1)) (C := RX7) (T := TX7) (N := 10) hx hb hts hIX7 hown hK hP 0 rfl rfl 0 (by decide) (hts (.fieldLink RX7 26 "TraitHouse$Worker" "rows" "LTraitHouse$Rows;") (by decide +kernel)) (fun _ h9 => h9) rfl dX7_latest_108 ?_
            refine va_getN (D := (dC, dI)) (ci := 3) (v := .ref (ax 4)) (C := RX3) (T := TX3) (N := 7) hx hb hts hIX3 hown hK hP 1 rfl rfl 2 (by decide) (va_Nw.use rfl (nw_at hN 2 rfl)) (fun _ h9 => h9) rfl dX7_latest_111 ?_
            refine lv_iload_n hx hb dX7_latest_114 rfl (lv_at hl 1 rfl) ?_
            have h_6 : vp_in b2 400 := (vp_in_iff.mpr ⟨by omega, by omega⟩)
            refine va_iald hx hb hK hP 3 0 rfl rfl h_6 dX7_latest_115 ?_
            refine lv_topi (fun x_7 ex_7 => ?_)
            refine lv_isub hx hb dX7_latest_116 ?_
            refine lv_topi (fun x_8 ex_8 => ?_)
            obtain ⟨y_9, ey_9⟩ : ∃ y : Int64, y = x_8.toInt64 := ⟨_, rfl⟩
            have dy_9 : y_9.toInt = x_8.toInt := by rw [ey_9]; exact Int32.toInt_toInt64 _
            refine lv_i2l (v := y_9) hx hb dX7_latest_117 ey_9.symm ?_
            have hP9 := hP.part (cx := [((ax 16), .inr (7, [.ref (ax 1), .ref (ax 7), .ref (ax 15), .ref (ax 17), .ref (ax 18), .ref (ax 19), .ref (ax 20), .int xSr, .int xWm, .int xTp])), ((ax 1), .inr (3, [.ref (ax 2), .ref (ax 3), .ref (ax 4), .ref (ax 5), .ref (ax 6), .int xRz, .int xRn])), ((ax 3), .inl (cA 0, 400, .inl gS)), ((ax 4), .inl (cA 0, 400, .inl gM)), ((ax 6), .inl (cA 0, 400, .inl gV)), ((ax 18), .inl (cA 0, 400, .inl gW))]) [0, 1, 2, 3, 4, 5] rfl
            have hD9 := hD.part (cx := [((ax 16), .inr (7, [.ref (ax 1), .ref (ax 7), .ref (ax 15), .ref (ax 17), .ref (ax 18), .ref (ax 19), .ref (ax 20), .int xSr, .int xWm, .int xTp])), ((ax 1), .inr (3, [.ref (ax 2), .ref (ax 3), .ref (ax 4), .ref (ax 5), .ref (ax 6), .int xRz, .int xRn])), ((ax 3), .inl (cA 0, 400, .inl gS)), ((ax 4), .inl (cA 0, 400, .inl gM)), ((ax 6), .inl (cA 0, 400, .inl gV)), ((ax 18), .inl (cA 0, 400, .inl gW))]) [0, 1, 2, 3, 4, 5] (by decide) rfl
            subst hQe
            have hans : (y_9 : Int64).toInt = y_9.toInt := rfl
            exact W.lret (v := y_9) hx hb hr (fun t ht hW => ⟨⟨y_9, (), rfl, trivial, by rw [ht]; exact hP9, hD9⟩, hS.F ht⟩) hS.2.2 dX7_latest_118
          · have dc_5 : kd.toInt = 2 := jI_eq c_5 rfl (by decide)
            refine lv_aload_n hx hb dX7_latest_90 rfl (lv_at hl 2 rfl) ?_
            refine va_get (D := (dC, dI)) (ci := 7) (v := .ref (ax 1)) (C := RX7) (T := TX7) (N := 10) hx hb hts hIX7 hown hK hP 0 rfl rfl 0 (by decide) (hts (.fieldLink RX7 26 "TraitHouse$Worker" "rows" "LTraitHouse$Rows;") (by decide +kernel)) (fun _ h9 => h9) rfl dX7_latest_91 ?_
            refine va_getN (D := (dC, dI)) (ci := 3) (v := .ref (ax 6)) (C := RX3) (T := TX3) (N := 7) hx hb hts hIX3 hown hK hP 1 rfl rfl 4 (by decide) (va_Nw.use rfl (nw_at hN 4 rfl)) (fun _ h9 => h9) rfl dX7_latest_94 ?_
            refine lv_iload_n hx hb dX7_latest_97 rfl (lv_at hl 1 rfl) ?_
            have h_10 : vp_in b2 400 := (vp_in_iff.mpr ⟨by omega, by omega⟩)
            refine va_iald hx hb hK hP 4 0 rfl rfl h_10 dX7_latest_98 ?_
            refine lv_topi (fun x_11 ex_11 => ?_)
            obtain ⟨y_12, ey_12⟩ : ∃ y : Int64, y = x_11.toInt64 := ⟨_, rfl⟩
            have dy_12 : y_12.toInt = x_11.toInt := by rw [ey_12]; exact Int32.toInt_toInt64 _
            refine lv_i2l (v := y_12) hx hb dX7_latest_99 ey_12.symm ?_
            refine lv_goto (tgt := 118) hx hb dX7_latest_100 (by decide) ?_
            have hP9 := hP.part (cx := [((ax 16), .inr (7, [.ref (ax 1), .ref (ax 7), .ref (ax 15), .ref (ax 17), .ref (ax 18), .ref (ax 19), .ref (ax 20), .int xSr, .int xWm, .int xTp])), ((ax 1), .inr (3, [.ref (ax 2), .ref (ax 3), .ref (ax 4), .ref (ax 5), .ref (ax 6), .int xRz, .int xRn])), ((ax 3), .inl (cA 0, 400, .inl gS)), ((ax 4), .inl (cA 0, 400, .inl gM)), ((ax 6), .inl (cA 0, 400, .inl gV)), ((ax 18), .inl (cA 0, 400, .inl gW))]) [0, 1, 2, 3, 4, 5] rfl
            have hD9 := hD.part (cx := [((ax 16), .inr (7, [.ref (ax 1), .ref (ax 7), .ref (ax 15), .ref (ax 17), .ref (ax 18), .ref (ax 19), .ref (ax 20), .int xSr, .int xWm, .int xTp])), ((ax 1), .inr (3, [.ref (ax 2), .ref (ax 3), .ref (ax 4), .ref (ax 5), .ref (ax 6), .int xRz, .int xRn])), ((ax 3), .inl (cA 0, 400, .inl gS)), ((ax 4), .inl (cA 0, 400, .inl gM)), ((ax 6), .inl (cA 0, 400, .inl gV)), ((ax 18), .inl (cA 0, 400, .inl gW))]) [0, 1, 2, 3, 4, 5] (by decide) rfl
            subst hQe
            have hans : (y_12 : Int64).toInt = y_12.toInt := rfl
            exact W.lret (v := y_12) hx hb hr (fun t ht hW => ⟨⟨y_12, (), rfl, trivial, by rw [ht]; exact hP9, hD9⟩, hS.F ht⟩) hS.2.2 dX7_latest_118
        · have dc_3 : b2.toInt = (-1) := jI_eq c_3 rfl (by decide)
          refine lv_ldc2 hx hb hown (hts (.constantLong RX7 38 (-9000000000000000000)) (by decide +kernel)) dX7_latest_78 ?_
          have hP9 := hP.part (cx := [((ax 16), .inr (7, [.ref (ax 1), .ref (ax 7), .ref (ax 15), .ref (ax 17), .ref (ax 18), .ref (ax 19), .ref (ax 20), .int xSr, .int xWm, .int xTp])), ((ax 1), .inr (3, [.ref (ax 2), .ref (ax 3), .ref (ax 4), .ref (ax 5), .ref (ax 6), .int xRz, .int xRn])), ((ax 3), .inl (cA 0, 400, .inl gS)), ((ax 4), .inl (cA 0, 400, .inl gM)), ((ax 6), .inl (cA 0, 400, .inl gV)), ((ax 18), .inl (cA 0, 400, .inl gW))]) [0, 1, 2, 3, 4, 5] rfl
          have hD9 := hD.part (cx := [((ax 16), .inr (7, [.ref (ax 1), .ref (ax 7), .ref (ax 15), .ref (ax 17), .ref (ax 18), .ref (ax 19), .ref (ax 20), .int xSr, .int xWm, .int xTp])), ((ax 1), .inr (3, [.ref (ax 2), .ref (ax 3), .ref (ax 4), .ref (ax 5), .ref (ax 6), .int xRz, .int xRn])), ((ax 3), .inl (cA 0, 400, .inl gS)), ((ax 4), .inl (cA 0, 400, .inl gM)), ((ax 6), .inl (cA 0, 400, .inl gV)), ((ax 18), .inl (cA 0, 400, .inl gW))]) [0, 1, 2, 3, 4, 5] (by decide) rfl
          subst hQe
          have hans : ((-9000000000000000000) : Int64).toInt = (-9000000000000000000) := (by decide)
          exact W.lret (v := (-9000000000000000000)) hx hb hr (fun t ht hW => ⟨⟨(-9000000000000000000), (), rfl, trivial, by rw [ht]; exact hP9, hD9⟩, hS.F ht⟩) hS.2.2 dX7_latest_81
      · have dc_2 : i3.toInt < xSr.toInt := jI_nle c_2 rfl rfl
        refine lv_aload_n hx hb dX7_latest_12 rfl (lv_at hl 2 rfl) ?_
        refine va_get (D := (dC, dI)) (ci := 7) (v := .ref (ax 18)) (C := RX7) (T := TX7) (N := 10) hx hb hts hIX7 hown hK hP 0 rfl rfl 4 (by decide) (hts (.fieldLink RX7 15 "TraitHouse$Worker" "seen" "[I") (by decide +kernel)) (fun _ h9 => h9) rfl dX7_latest_13 ?_
        refine lv_iload_n hx hb dX7_latest_16 rfl (lv_at hl 0 rfl) ?_
        have h_13 : vp_in i3 400 := (vp_in_iff.mpr ⟨by omega, by omega⟩)
        refine va_iald hx hb hK hP 5 0 rfl rfl h_13 dX7_latest_17 ?_
        refine lv_topi (fun x_14 ex_14 => ?_)
        have bx_14 := i_gW _ (jix h_13)
        rw [← ex_14] at bx_14
        refine lv_istore (lv' := [(4, .int x_14), (3, .int i3), (2, .int b2), (0, .ref (ax 16)), (1, .ref sa)]) hx hb dX7_latest_18 hl (by decide) rfl (fun ls hl => ?_)
        refine lv_aload_n hx hb dX7_latest_20 rfl (lv_at hl 3 rfl) ?_
        refine va_get (D := (dC, dI)) (ci := 7) (v := .ref (ax 1)) (C := RX7) (T := TX7) (N := 10) hx hb hts hIX7 hown hK hP 0 rfl rfl 0 (by decide) (hts (.fieldLink RX7 26 "TraitHouse$Worker" "rows" "LTraitHouse$Rows;") (by decide +kernel)) (fun _ h9 => h9) rfl dX7_latest_21 ?_
        refine va_getN (D := (dC, dI)) (ci := 3) (v := .ref (ax 3)) (C := RX3) (T := TX3) (N := 7) hx hb hts hIX3 hown hK hP 1 rfl rfl 1 (by decide) (va_Nw.use rfl (nw_at hN 1 rfl)) (fun _ h9 => h9) rfl dX7_latest_24 ?_
        refine lv_iload hx hb dX7_latest_27 (lv_at hl 0 rfl) ?_
        have h_15 : vp_in x_14 400 := (vp_in_iff.mpr ⟨by omega, by omega⟩)
        refine va_iald hx hb hK hP 2 0 rfl rfl h_15 dX7_latest_29 ?_
        refine lv_topi (fun x_16 ex_16 => ?_)
        refine lv_aload_n hx hb dX7_latest_30 rfl (lv_at hl 4 rfl) ?_
        obtain ⟨pk_17, hpk_17⟩ := va_pl_get (X := [((ax 16), .inr (7, [.ref (ax 1), .ref (ax 7), .ref (ax 15), .ref (ax 17), .ref (ax 18), .ref (ax 19), .ref (ax 20), .int xSr, .int xWm, .int xTp])), ((ax 1), .inr (3, [.ref (ax 2), .ref (ax 3), .ref (ax 4), .ref (ax 5), .ref (ax 6), .int xRz, .int xRn])), ((ax 3), .inl (cA 0, 400, .inl gS)), ((ax 4), .inl (cA 0, 400, .inl gM)), ((ax 6), .inl (cA 0, 400, .inl gV)), ((ax 18), .inl (cA 0, 400, .inl gW))]) (f := pf) hsm
        have gpk_17 := hpk_17
        rw [hsf] at hpk_17
        refine va_getN (D := (dC, dI)) (ci := 4) (v := .int nb) (C := RX4) (T := TX4) (N := 4) hx hb hts hIX4 hown hK hP pk_17 hpk_17 rfl 1 (by decide) (va_Nw.use rfl (nw_at hN 18 rfl)) (fun _ h9 => h9) rfl dX7_latest_31 ?_
        refine lv_icmp_ne (tgt := 67) hx hb dX7_latest_34 (by decide) (fun c_18 => ?_) (fun c_18 => ?_)
        · have dc_18 : ¬ x_16.toInt = nb.toInt := jI_ne c_18 rfl rfl
          obtain ⟨x_19, ex_19⟩ : ∃ y : Int32, y = i3 + 1 := ⟨_, rfl⟩
          have dx_19 : x_19.toInt = i3.toInt + 1 := by rw [ex_19]; exact jI_add rfl (by decide) (by omega) (by omega)
          refine lv_iinc (v := x_19) (lv' := [(3, .int x_19), (4, .int x_14), (2, .int b2), (0, .ref (ax 16)), (1, .ref sa)]) hx hb dX7_latest_67 hl (k := 1) rfl (by rw [ex_19]; rfl) (by decide) rfl (fun ls hl => ?_)
          refine lv_goto (tgt := 4) hx hb dX7_latest_70 (by decide) ?_
          exact ih_4 x_19 b2 _ _ ls (by omega) (by omega) hv1_4 (hP.part (cx := [((ax 16), .inr (7, [.ref (ax 1), .ref (ax 7), .ref (ax 15), .ref (ax 17), .ref (ax 18), .ref (ax 19), .ref (ax 20), .int xSr, .int xWm, .int xTp])), ((ax 1), .inr (3, [.ref (ax 2), .ref (ax 3), .ref (ax 4), .ref (ax 5), .ref (ax 6), .int xRz, .int xRn])), ((ax 3), .inl (cA 0, 400, .inl gS)), ((ax 4), .inl (cA 0, 400, .inl gM)), ((ax 6), .inl (cA 0, 400, .inl gV)), ((ax 18), .inl (cA 0, 400, .inl gW))]) [0, 1, 2, 3, 4, 5] rfl) (hD.part (cx := [((ax 16), .inr (7, [.ref (ax 1), .ref (ax 7), .ref (ax 15), .ref (ax 17), .ref (ax 18), .ref (ax 19), .ref (ax 20), .int xSr, .int xWm, .int xTp])), ((ax 1), .inr (3, [.ref (ax 2), .ref (ax 3), .ref (ax 4), .ref (ax 5), .ref (ax 6), .int xRz, .int xRn])), ((ax 3), .inl (cA 0, 400, .inl gS)), ((ax 4), .inl (cA 0, 400, .inl gM)), ((ax 6), .inl (cA 0, 400, .inl gV)), ((ax 18), .inl (cA 0, 400, .inl gW))]) [0, 1, 2, 3, 4, 5] (by decide) rfl) hS (lv_sub hl [0, 2, 3, 4] rfl)
        · have dc_18 : x_16.toInt = nb.toInt := jI_eq c_18 rfl rfl
          refine lv_iload_n hx hb dX7_latest_37 rfl (lv_at hl 2 rfl) ?_
          refine lv_iconst (v := (-1)) hx hb dX7_latest_38 (by decide) ?_
          refine lv_icmp_eq (tgt := 64) hx hb dX7_latest_39 (by decide) (fun c_20 => ?_) (fun c_20 => ?_)
          · have dc_20 : b2.toInt = (-1) := jI_eq c_20 rfl (by decide)
            refine lv_iload hx hb dX7_latest_64 (lv_at hl 0 rfl) ?_
            refine lv_istore_n (lv' := [(2, .int x_14), (4, .int x_14), (3, .int i3), (0, .ref (ax 16)), (1, .ref sa)]) hx hb dX7_latest_66 rfl hl (by decide) rfl (fun ls hl => ?_)
            obtain ⟨x_21, ex_21⟩ : ∃ y : Int32, y = i3 + 1 := ⟨_, rfl⟩
            have dx_21 : x_21.toInt = i3.toInt + 1 := by rw [ex_21]; exact jI_add rfl (by decide) (by omega) (by omega)
            refine lv_iinc (v := x_21) (lv' := [(3, .int x_21), (2, .int x_14), (4, .int x_14), (0, .ref (ax 16)), (1, .ref sa)]) hx hb dX7_latest_67 hl (k := 2) rfl (by rw [ex_21]; rfl) (by decide) rfl (fun ls hl => ?_)
            refine lv_goto (tgt := 4) hx hb dX7_latest_70 (by decide) ?_
            exact ih_4 x_21 x_14 _ _ ls (by omega) (by omega) (by omega) (hP.part (cx := [((ax 16), .inr (7, [.ref (ax 1), .ref (ax 7), .ref (ax 15), .ref (ax 17), .ref (ax 18), .ref (ax 19), .ref (ax 20), .int xSr, .int xWm, .int xTp])), ((ax 1), .inr (3, [.ref (ax 2), .ref (ax 3), .ref (ax 4), .ref (ax 5), .ref (ax 6), .int xRz, .int xRn])), ((ax 3), .inl (cA 0, 400, .inl gS)), ((ax 4), .inl (cA 0, 400, .inl gM)), ((ax 6), .inl (cA 0, 400, .inl gV)), ((ax 18), .inl (cA 0, 400, .inl gW))]) [0, 1, 2, 3, 4, 5] rfl) (hD.part (cx := [((ax 16), .inr (7, [.ref (ax 1), .ref (ax 7), .ref (ax 15), .ref (ax 17), .ref (ax 18), .ref (ax 19), .ref (ax 20), .int xSr, .int xWm, .int xTp])), ((ax 1), .inr (3, [.ref (ax 2), .ref (ax 3), .ref (ax 4), .ref (ax 5), .ref (ax 6), .int xRz, .int xRn])), ((ax 3), .inl (cA 0, 400, .inl gS)), ((ax 4), .inl (cA 0, 400, .inl gM)), ((ax 6), .inl (cA 0, 400, .inl gV)), ((ax 18), .inl (cA 0, 400, .inl gW))]) [0, 1, 2, 3, 4, 5] (by decide) rfl) hS (lv_sub hl [0, 1, 3, 4] rfl)
          · have dc_20 : ¬ b2.toInt = (-1) := jI_ne c_20 rfl (by decide)
            refine lv_aload_n hx hb dX7_latest_42 rfl (lv_at hl 3 rfl) ?_
            refine va_get (D := (dC, dI)) (ci := 7) (v := .ref (ax 1)) (C := RX7) (T := TX7) (N := 10) hx hb hts hIX7 hown hK hP 0 rfl rfl 0 (by decide) (hts (.fieldLink RX7 26 "TraitHouse$Worker" "rows" "LTraitHouse$Rows;") (by decide +kernel)) (fun _ h9 => h9) rfl dX7_latest_43 ?_
            refine va_getN (D := (dC, dI)) (ci := 3) (v := .ref (ax 4)) (C := RX3) (T := TX3) (N := 7) hx hb hts hIX3 hown hK hP 1 rfl rfl 2 (by decide) (va_Nw.use rfl (nw_at hN 2 rfl)) (fun _ h9 => h9) rfl dX7_latest_46 ?_
            refine lv_iload hx hb dX7_latest_49 (lv_at hl 0 rfl) ?_
            have h_22 : vp_in x_14 400 := (vp_in_iff.mpr ⟨by omega, by omega⟩)
            refine va_iald hx hb hK hP 3 0 rfl rfl h_22 dX7_latest_51 ?_
            refine lv_topi (fun x_23 ex_23 => ?_)
            refine lv_aload_n hx hb dX7_latest_52 rfl (lv_at hl 3 rfl) ?_
            refine va_get (D := (dC, dI)) (ci := 7) (v := .ref (ax 1)) (C := RX7) (T := TX7) (N := 10) hx hb hts hIX7 hown hK hP 0 rfl rfl 0 (by decide) (hts (.fieldLink RX7 26 "TraitHouse$Worker" "rows" "LTraitHouse$Rows;") (by decide +kernel)) (fun _ h9 => h9) rfl dX7_latest_53 ?_
            refine va_getN (D := (dC, dI)) (ci := 3) (v := .ref (ax 4)) (C := RX3) (T := TX3) (N := 7) hx hb hts hIX3 hown hK hP 1 rfl rfl 2 (by decide) (va_Nw.use rfl (nw_at hN 2 rfl)) (fun _ h9 => h9) rfl dX7_latest_56 ?_
            refine lv_iload_n hx hb dX7_latest_59 rfl (lv_at hl 2 rfl) ?_
            have h_24 : vp_in b2 400 := (vp_in_iff.mpr ⟨by omega, by omega⟩)
            refine va_iald hx hb hK hP 3 0 rfl rfl h_24 dX7_latest_60 ?_
            refine lv_topi (fun x_25 ex_25 => ?_)
            refine lv_icmp_lt (tgt := 67) hx hb dX7_latest_61 (by decide) (fun c_26 => ?_) (fun c_26 => ?_)
            · have dc_26 : x_23.toInt < x_25.toInt := jI_lt c_26 rfl rfl
              obtain ⟨x_27, ex_27⟩ : ∃ y : Int32, y = i3 + 1 := ⟨_, rfl⟩
              have dx_27 : x_27.toInt = i3.toInt + 1 := by rw [ex_27]; exact jI_add rfl (by decide) (by omega) (by omega)
              refine lv_iinc (v := x_27) (lv' := [(3, .int x_27), (4, .int x_14), (2, .int b2), (0, .ref (ax 16)), (1, .ref sa)]) hx hb dX7_latest_67 hl (k := 1) rfl (by rw [ex_27]; rfl) (by decide) rfl (fun ls hl => ?_)
              refine lv_goto (tgt := 4) hx hb dX7_latest_70 (by decide) ?_
              exact ih_4 x_27 b2 _ _ ls (by omega) (by omega) hv1_4 (hP.part (cx := [((ax 16), .inr (7, [.ref (ax 1), .ref (ax 7), .ref (ax 15), .ref (ax 17), .ref (ax 18), .ref (ax 19), .ref (ax 20), .int xSr, .int xWm, .int xTp])), ((ax 1), .inr (3, [.ref (ax 2), .ref (ax 3), .ref (ax 4), .ref (ax 5), .ref (ax 6), .int xRz, .int xRn])), ((ax 3), .inl (cA 0, 400, .inl gS)), ((ax 4), .inl (cA 0, 400, .inl gM)), ((ax 6), .inl (cA 0, 400, .inl gV)), ((ax 18), .inl (cA 0, 400, .inl gW))]) [0, 1, 2, 3, 4, 5] rfl) (hD.part (cx := [((ax 16), .inr (7, [.ref (ax 1), .ref (ax 7), .ref (ax 15), .ref (ax 17), .ref (ax 18), .ref (ax 19), .ref (ax 20), .int xSr, .int xWm, .int xTp])), ((ax 1), .inr (3, [.ref (ax 2), .ref (ax 3), .ref (ax 4), .ref (ax 5), .ref (ax 6), .int xRz, .int xRn])), ((ax 3), .inl (cA 0, 400, .inl gS)), ((ax 4), .inl (cA 0, 400, .inl gM)), ((ax 6), .inl (cA 0, 400, .inl gV)), ((ax 18), .inl (cA 0, 400, .inl gW))]) [0, 1, 2, 3, 4, 5] (by decide) rfl) hS (lv_sub hl [0, 2, 3, 4] rfl)
            · have dc_26 : x_25.toInt ≤ x_23.toInt := jI_nlt c_26 rfl rfl
              refine lv_iload hx hb dX7_latest_64 (lv_at hl 0 rfl) ?_
              refine lv_istore_n (lv' := [(2, .int x_14), (4, .int x_14), (3, .int i3), (0, .ref (ax 16)), (1, .ref sa)]) hx hb dX7_latest_66 rfl hl (by decide) rfl (fun ls hl => ?_)
              obtain ⟨x_28, ex_28⟩ : ∃ y : Int32, y = i3 + 1 := ⟨_, rfl⟩
              have dx_28 : x_28.toInt = i3.toInt + 1 := by rw [ex_28]; exact jI_add rfl (by decide) (by omega) (by omega)
              refine lv_iinc (v := x_28) (lv' := [(3, .int x_28), (2, .int x_14), (4, .int x_14), (0, .ref (ax 16)), (1, .ref sa)]) hx hb dX7_latest_67 hl (k := 2) rfl (by rw [ex_28]; rfl) (by decide) rfl (fun ls hl => ?_)
              refine lv_goto (tgt := 4) hx hb dX7_latest_70 (by decide) ?_
              exact ih_4 x_28 x_14 _ _ ls (by omega) (by omega) (by omega) (hP.part (cx := [((ax 16), .inr (7, [.ref (ax 1), .ref (ax 7), .ref (ax 15), .ref (ax 17), .ref (ax 18), .ref (ax 19), .ref (ax 20), .int xSr, .int xWm, .int xTp])), ((ax 1), .inr (3, [.ref (ax 2), .ref (ax 3), .ref (ax 4), .ref (ax 5), .ref (ax 6), .int xRz, .int xRn])), ((ax 3), .inl (cA 0, 400, .inl gS)), ((ax 4), .inl (cA 0, 400, .inl gM)), ((ax 6), .inl (cA 0, 400, .inl gV)), ((ax 18), .inl (cA 0, 400, .inl gW))]) [0, 1, 2, 3, 4, 5] rfl) (hD.part (cx := [((ax 16), .inr (7, [.ref (ax 1), .ref (ax 7), .ref (ax 15), .ref (ax 17), .ref (ax 18), .ref (ax 19), .ref (ax 20), .int xSr, .int xWm, .int xTp])), ((ax 1), .inr (3, [.ref (ax 2), .ref (ax 3), .ref (ax 4), .ref (ax 5), .ref (ax 6), .int xRz, .int xRn])), ((ax 3), .inl (cA 0, 400, .inl gS)), ((ax 4), .inl (cA 0, 400, .inl gM)), ((ax 6), .inl (cA 0, 400, .inl gV)), ((ax 18), .inl (cA 0, 400, .inl gW))]) [0, 1, 2, 3, 4, 5] (by decide) rfl) hS (lv_sub hl [0, 1, 3, 4] rfl)
  have hk_29 : (0 : Int32).toInt = 0 := by decide
  have hk_30 : ((-1) : Int32).toInt = (-1) := by decide
  exact loop4_1 (Int.toNat (400 - (0 : Int32).toInt) + 1) 0 (-1) _ _ ls (by omega) (by omega) (by omega) hP hD hS (lv_sub hl [0, 1, 2, 3] rfl)

set_option maxHeartbeats 8000000 in
set_option maxRecDepth 100000 in
theorem k_X7_window (l : Launch) (dC : Nat → ClassId) (dI : Nat → Nat → Nat) (cA : Nat → ClassId) (sz : Nat) (ax : Nat → Nat) (xSr : Int32) (xWm : Int32) (xTp : Int32) (xRz : Int32) (xRn : Int32) (gS : Nat → Int32) (gM : Nat → Int32) (gV : Nat → Int32) (gW : Nat → Int32) (L : List Nat) (pf : Nat → va_E) (sa : Nat) (kd : Int32) (nb : Int32) (fr : Int32) (to : Int32) (i_xSr : 0 ≤ xSr.toInt ∧ xSr.toInt ≤ 400) (i_xTp : 0 ≤ xTp.toInt ∧ xTp.toInt ≤ 200) (i_xRz : 0 ≤ xRz.toInt ∧ xRz.toInt ≤ 400) (i_gW : inB 0 399 400 gW) (hsm : sa ∈ L) (hsf : pf sa = .inr (4, [.int kd, .int nb, .int fr, .int to])) : Met l yX7_window wsX7_window ({ frames := 1, cells := 0, slots := 0, locals := 23 }) (va_Pc [.ref (ax 16), .ref sa] (fun U => U.heap.size = sz ∧ va_P (dC, dI) vwCl (([((ax 16), .inr (7, [.ref (ax 1), .ref (ax 7), .ref (ax 15), .ref (ax 17), .ref (ax 18), .ref (ax 19), .ref (ax 20), .int xSr, .int xWm, .int xTp])), ((ax 1), .inr (3, [.ref (ax 2), .ref (ax 3), .ref (ax 4), .ref (ax 5), .ref (ax 6), .int xRz, .int xRn])), ((ax 3), .inl (cA 0, 400, .inl gS)), ((ax 4), .inl (cA 0, 400, .inl gM)), ((ax 6), .inl (cA 0, 400, .inl gV)), ((ax 18), .inl (cA 0, 400, .inl gW))] : va_W) ++ va_pl L pf) U.heap ∧ va_K (dC, dI) vwCl (tyL cA) U ∧ va_D (fun _ => True) (([((ax 16), .inr (7, [.ref (ax 1), .ref (ax 7), .ref (ax 15), .ref (ax 17), .ref (ax 18), .ref (ax 19), .ref (ax 20), .int xSr, .int xWm, .int xTp])), ((ax 1), .inr (3, [.ref (ax 2), .ref (ax 3), .ref (ax 4), .ref (ax 5), .ref (ax 6), .int xRz, .int xRn])), ((ax 3), .inl (cA 0, 400, .inl gS)), ((ax 4), .inl (cA 0, 400, .inl gM)), ((ax 6), .inl (cA 0, 400, .inl gV)), ((ax 18), .inl (cA 0, 400, .inl gW))] : va_W) ++ va_pl L pf) ∧ nw_ok U)) (va_Ql (fun (r : Int64) (_ : Unit) => True) (fun (_ : Unit) (t : State) => va_P (dC, dI) vwCl (([((ax 16), .inr (7, [.ref (ax 1), .ref (ax 7), .ref (ax 15), .ref (ax 17), .ref (ax 18), .ref (ax 19), .ref (ax 20), .int xSr, .int xWm, .int xTp])), ((ax 1), .inr (3, [.ref (ax 2), .ref (ax 3), .ref (ax 4), .ref (ax 5), .ref (ax 6), .int xRz, .int xRn])), ((ax 3), .inl (cA 0, 400, .inl gS)), ((ax 4), .inl (cA 0, 400, .inl gM)), ((ax 6), .inl (cA 0, 400, .inl gV)), ((ax 18), .inl (cA 0, 400, .inl gW))] : va_W) ++ va_pl L pf) t.heap ∧ va_D (va_A (([((ax 16), .inr (7, [.ref (ax 1), .ref (ax 7), .ref (ax 15), .ref (ax 17), .ref (ax 18), .ref (ax 19), .ref (ax 20), .int xSr, .int xWm, .int xTp])), ((ax 1), .inr (3, [.ref (ax 2), .ref (ax 3), .ref (ax 4), .ref (ax 5), .ref (ax 6), .int xRz, .int xRn])), ((ax 3), .inl (cA 0, 400, .inl gS)), ((ax 4), .inl (cA 0, 400, .inl gM)), ((ax 6), .inl (cA 0, 400, .inl gV)), ((ax 18), .inl (cA 0, 400, .inl gW))] : va_W) ++ va_pl L pf) sz) (([((ax 16), .inr (7, [.ref (ax 1), .ref (ax 7), .ref (ax 15), .ref (ax 17), .ref (ax 18), .ref (ax 19), .ref (ax 20), .int xSr, .int xWm, .int xTp])), ((ax 1), .inr (3, [.ref (ax 2), .ref (ax 3), .ref (ax 4), .ref (ax 5), .ref (ax 6), .int xRz, .int xRn])), ((ax 3), .inl (cA 0, 400, .inl gS)), ((ax 4), .inl (cA 0, 400, .inl gM)), ((ax 6), .inl (cA 0, 400, .inl gV)), ((ax 18), .inl (cA 0, 400, .inl gW))] : va_W) ++ va_pl L pf)) (va_A (([((ax 16), .inr (7, [.ref (ax 1), .ref (ax 7), .ref (ax 15), .ref (ax 17), .ref (ax 18), .ref (ax 19), .ref (ax 20), .int xSr, .int xWm, .int xTp])), ((ax 1), .inr (3, [.ref (ax 2), .ref (ax 3), .ref (ax 4), .ref (ax 5), .ref (ax 6), .int xRz, .int xRn])), ((ax 3), .inl (cA 0, 400, .inl gS)), ((ax 4), .inl (cA 0, 400, .inl gM)), ((ax 6), .inl (cA 0, 400, .inl gV)), ((ax 18), .inl (cA 0, 400, .inl gW))] : va_W) ++ va_pl L pf) sz)) 0 0 (va_A (([((ax 16), .inr (7, [.ref (ax 1), .ref (ax 7), .ref (ax 15), .ref (ax 17), .ref (ax 18), .ref (ax 19), .ref (ax 20), .int xSr, .int xWm, .int xTp])), ((ax 1), .inr (3, [.ref (ax 2), .ref (ax 3), .ref (ax 4), .ref (ax 5), .ref (ax 6), .int xRz, .int xRn])), ((ax 3), .inl (cA 0, 400, .inl gS)), ((ax 4), .inl (cA 0, 400, .inl gM)), ((ax 6), .inl (cA 0, 400, .inl gV)), ((ax 18), .inl (cA 0, 400, .inl gW))] : va_W) ++ va_pl L pf) sz) := by
  refine Met.ofW (cc := cX7_window) (maxL := 11) (ret := (some .long)) (by decide) rfl ?_
  intro p e s m args below meth c s₁ B hml hv
  obtain ⟨rfl, hsz, hP, hK, hD0, hN⟩ := hv
  have hx := B.exec
  have hb := B.bytes
  have hr := B.returns
  have hts := atoms_spec (ws := wsX7_window) B.pre
  have hown : s.vm.findClass RX7 = some m.cls := findClass_of_methodNamed B.named
  have hlocks := B.notSynchronized
  subst hsz
  have hD := hD0.self (sz := s.heap.size)
  generalize hAe : va_A (([((ax 16), .inr (7, [.ref (ax 1), .ref (ax 7), .ref (ax 15), .ref (ax 17), .ref (ax 18), .ref (ax 19), .ref (ax 20), .int xSr, .int xWm, .int xTp])), ((ax 1), .inr (3, [.ref (ax 2), .ref (ax 3), .ref (ax 4), .ref (ax 5), .ref (ax 6), .int xRz, .int xRn])), ((ax 3), .inl (cA 0, 400, .inl gS)), ((ax 4), .inl (cA 0, 400, .inl gM)), ((ax 6), .inl (cA 0, 400, .inl gV)), ((ax 18), .inl (cA 0, 400, .inl gW))] : va_W) ++ va_pl L pf) s.heap.size = A at hD ⊢
  have hA : ∀ q : Nat, s.heap.size ≤ q → A q := fun q h => by rw [← hAe]; exact Or.inr h
  have hS : va_S A s.heap s.heap [] := va_S.rf
  have hIX3 : ∀ w ∈ u_ws RX3 TX3 7, w ∈ wsX7_window := by decide +kernel
  have hIX4 : ∀ w ∈ u_ws RX4 TX4 4, w ∈ wsX7_window := by decide +kernel
  have hIX7 : ∀ w ∈ u_ws RX7 TX7 10, w ∈ wsX7_window := by decide +kernel
  have hl := lv_entry ([.ref (ax 16), .ref sa]) (n := 11) (Nat.le_of_ble_eq_true rfl)
  rw [lg_entry_eq]
  generalize (lg_sl ([.ref (ax 16), .ref sa]) ++ List.replicate (11 - (lg_sl ([.ref (ax 16), .ref sa])).length) Slot.unset).toArray = ls at hl ⊢
  have hl : lv_has ls 11 [(0, .ref (ax 16)), (1, .ref sa)] := hl
  generalize hQe : MQ below _ _ _ _ _ _ = QQ
  refine lv_iconst (v := 0) hx hb dX7_window_0 (by decide) ?_
  refine lv_istore_n (lv' := [(2, .int 0), (0, .ref (ax 16)), (1, .ref sa)]) hx hb dX7_window_1 rfl hl (by decide) rfl (fun ls hl => ?_)
  refine lv_lconst (v := 0) hx hb dX7_window_2 (by decide) ?_
  refine lv_lstore_n (lv' := [(3, .long 0), (2, .int 0), (0, .ref (ax 16)), (1, .ref sa)]) hx hb dX7_window_3 rfl hl (by decide) rfl (fun ls hl => ?_)
  refine lv_ldc2 hx hb hown (hts (.constantLong RX7 127 (1000000)) (by decide +kernel)) dX7_window_4 ?_
  refine lv_lstore (lv' := [(5, .long 1000000), (3, .long 0), (2, .int 0), (0, .ref (ax 16)), (1, .ref sa)]) hx hb dX7_window_7 hl (by decide) rfl (fun ls hl => ?_)
  refine lv_ldc2 hx hb hown (hts (.constantLong RX7 129 (-1000000)) (by decide +kernel)) dX7_window_9 ?_
  refine lv_lstore (lv' := [(7, .long (-1000000)), (5, .long 1000000), (3, .long 0), (2, .int 0), (0, .ref (ax 16)), (1, .ref sa)]) hx hb dX7_window_12 hl (by decide) rfl (fun ls hl => ?_)
  refine lv_iconst (v := 0) hx hb dX7_window_14 (by decide) ?_
  refine lv_istore (lv' := [(9, .int 0), (7, .long (-1000000)), (5, .long 1000000), (3, .long 0), (2, .int 0), (0, .ref (ax 16)), (1, .ref sa)]) hx hb dX7_window_15 hl (by decide) rfl (fun ls hl => ?_)
  have loop17_1 : ∀ (n : Nat) (i9 : Int32) (y7 : Int64) (y5 : Int64) (y3 : Int64) (n2 : Int32) (H : Heap) (locs : List Loc) (ls : Array Slot), 400 - i9.toInt < (n : Int) → (0 ≤ i9.toInt ∧ i9.toInt ≤ 400) → va_P (dC, dI) vwCl (([((ax 16), .inr (7, [.ref (ax 1), .ref (ax 7), .ref (ax 15), .ref (ax 17), .ref (ax 18), .ref (ax 19), .ref (ax 20), .int xSr, .int xWm, .int xTp])), ((ax 1), .inr (3, [.ref (ax 2), .ref (ax 3), .ref (ax 4), .ref (ax 5), .ref (ax 6), .int xRz, .int xRn])), ((ax 3), .inl (cA 0, 400, .inl gS)), ((ax 4), .inl (cA 0, 400, .inl gM)), ((ax 6), .inl (cA 0, 400, .inl gV)), ((ax 18), .inl (cA 0, 400, .inl gW))] : va_W) ++ va_pl L pf) H → va_D A (([((ax 16), .inr (7, [.ref (ax 1), .ref (ax 7), .ref (ax 15), .ref (ax 17), .ref (ax 18), .ref (ax 19), .ref (ax 20), .int xSr, .int xWm, .int xTp])), ((ax 1), .inr (3, [.ref (ax 2), .ref (ax 3), .ref (ax 4), .ref (ax 5), .ref (ax 6), .int xRz, .int xRn])), ((ax 3), .inl (cA 0, 400, .inl gS)), ((ax 4), .inl (cA 0, 400, .inl gM)), ((ax 6), .inl (cA 0, 400, .inl gV)), ((ax 18), .inl (cA 0, 400, .inl gW))] : va_W) ++ va_pl L pf) → va_S A s.heap H locs → lv_has ls 11 [(9, .int i9), (7, .long y7), (5, .long y5), (3, .long y3), (2, .int n2), (0, .ref (ax 16)), (1, .ref sa)] → W p l e ({ frames := 1, cells := 0, slots := 0, locals := 23 }) s m ([.ref (ax 16), .ref sa] : List Value).toArray below meth c H locs 0 0 QQ (F0 m 17 ls []) := by
    intro n
    induction n with
    | zero => intro i9 y7 y5 y3 n2 H locs ls hme hv0_17; exfalso; omega
    | succ n ih_17 =>
      intro i9 y7 y5 y3 n2 H locs ls hme_17 hv0_17 hP hD hS hl
      refine lv_iload hx hb dX7_window_17 (lv_at hl 0 rfl) ?_
      refine lv_aload_n hx hb dX7_window_19 rfl (lv_at hl 5 rfl) ?_
      refine va_get (D := (dC, dI)) (ci := 7) (v := .int xSr) (C := RX7) (T := TX7) (N := 10) hx hb hts hIX7 hown hK hP 0 rfl rfl 7 (by decide) (hts (.fieldLink RX7 71 "TraitHouse$Worker" "seenRows" "I") (by decide +kernel)) (fun _ h9 => h9) rfl dX7_window_20 ?_
      refine lv_icmp_ge (tgt := 129) hx hb dX7_window_23 (by decide) (fun c_2 => ?_) (fun c_2 => ?_)
      · have dc_2 : xSr.toInt ≤ i9.toInt := jI_le c_2 rfl rfl
        refine lv_aload_n hx hb dX7_window_129 rfl (lv_at hl 6 rfl) ?_
        obtain ⟨pk_3, hpk_3⟩ := va_pl_get (X := [((ax 16), .inr (7, [.ref (ax 1), .ref (ax 7), .ref (ax 15), .ref (ax 17), .ref (ax 18), .ref (ax 19), .ref (ax 20), .int xSr, .int xWm, .int xTp])), ((ax 1), .inr (3, [.ref (ax 2), .ref (ax 3), .ref (ax 4), .ref (ax 5), .ref (ax 6), .int xRz, .int xRn])), ((ax 3), .inl (cA 0, 400, .inl gS)), ((ax 4), .inl (cA 0, 400, .inl gM)), ((ax 6), .inl (cA 0, 400, .inl gV)), ((ax 18), .inl (cA 0, 400, .inl gW))]) (f := pf) hsm
        have gpk_3 := hpk_3
        rw [hsf] at hpk_3
        refine va_getN (D := (dC, dI)) (ci := 4) (v := .int kd) (C := RX4) (T := TX4) (N := 4) hx hb hts hIX4 hown hK hP pk_3 hpk_3 rfl 0 (by decide) (va_Nw.use rfl (nw_at hN 17 rfl)) (fun _ h9 => h9) rfl dX7_window_130 ?_
        refine lv_iconst (v := 4) hx hb dX7_window_133 (by decide) ?_
        refine lv_icmp_ne (tgt := 140) hx hb dX7_window_134 (by decide) (fun c_4 => ?_) (fun c_4 => ?_)
        · have dc_4 : ¬ kd.toInt = 4 := jI_ne c_4 rfl (by decide)
          refine lv_iload_n hx hb dX7_window_140 rfl (lv_at hl 4 rfl) ?_
          refine lv_if_ne (tgt := 148) hx hb dX7_window_141 (by decide) (fun c_5 => ?_) (fun c_5 => ?_)
          · have dc_5 : ¬ n2.toInt = 0 := jI_ne c_5 rfl (by decide)
            refine lv_aload_n hx hb dX7_window_148 rfl (lv_at hl 6 rfl) ?_
            obtain ⟨pk_6, hpk_6⟩ := va_pl_get (X := [((ax 16), .inr (7, [.ref (ax 1), .ref (ax 7), .ref (ax 15), .ref (ax 17), .ref (ax 18), .ref (ax 19), .ref (ax 20), .int xSr, .int xWm, .int xTp])), ((ax 1), .inr (3, [.ref (ax 2), .ref (ax 3), .ref (ax 4), .ref (ax 5), .ref (ax 6), .int xRz, .int xRn])), ((ax 3), .inl (cA 0, 400, .inl gS)), ((ax 4), .inl (cA 0, 400, .inl gM)), ((ax 6), .inl (cA 0, 400, .inl gV)), ((ax 18), .inl (cA 0, 400, .inl gW))]) (f := pf) hsm
            have gpk_6 := hpk_6
            rw [hsf] at hpk_6
            refine va_getN (D := (dC, dI)) (ci := 4) (v := .int kd) (C := RX4) (T := TX4) (N := 4) hx hb hts hIX4 hown hK hP pk_6 hpk_6 rfl 0 (by decide) (va_Nw.use rfl (nw_at hN 17 rfl)) (fun _ h9 => h9) rfl dX7_window_149 ?_
            refine lv_iconst (v := 5) hx hb dX7_window_152 (by decide) ?_
            refine lv_icmp_ne (tgt := 160) hx hb dX7_window_153 (by decide) (fun c_7 => ?_) (fun c_7 => ?_)
            · have dc_7 : ¬ kd.toInt = 5 := jI_ne c_7 rfl (by decide)
              refine lv_aload_n hx hb dX7_window_160 rfl (lv_at hl 6 rfl) ?_
              obtain ⟨pk_8, hpk_8⟩ := va_pl_get (X := [((ax 16), .inr (7, [.ref (ax 1), .ref (ax 7), .ref (ax 15), .ref (ax 17), .ref (ax 18), .ref (ax 19), .ref (ax 20), .int xSr, .int xWm, .int xTp])), ((ax 1), .inr (3, [.ref (ax 2), .ref (ax 3), .ref (ax 4), .ref (ax 5), .ref (ax 6), .int xRz, .int xRn])), ((ax 3), .inl (cA 0, 400, .inl gS)), ((ax 4), .inl (cA 0, 400, .inl gM)), ((ax 6), .inl (cA 0, 400, .inl gV)), ((ax 18), .inl (cA 0, 400, .inl gW))]) (f := pf) hsm
              have gpk_8 := hpk_8
              rw [hsf] at hpk_8
              refine va_getN (D := (dC, dI)) (ci := 4) (v := .int kd) (C := RX4) (T := TX4) (N := 4) hx hb hts hIX4 hown hK hP pk_8 hpk_8 rfl 0 (by decide) (va_Nw.use rfl (nw_at hN 17 rfl)) (fun _ h9 => h9) rfl dX7_window_161 ?_
              refine lv_bipush (v := 6) hx hb dX7_window_164 (by decide) ?_
              refine lv_icmp_ne (tgt := 174) hx hb dX7_window_166 (by decide) (fun c_9 => ?_) (fun c_9 => ?_)
              · have dc_9 : ¬ kd.toInt = 6 := jI_ne c_9 rfl (by decide)
                refine lv_lload hx hb dX7_window_174 (lv_at hl 1 rfl) ?_
                have hP9 := hP.part (cx := [((ax 16), .inr (7, [.ref (ax 1), .ref (ax 7), .ref (ax 15), .ref (ax 17), .ref (ax 18), .ref (ax 19), .ref (ax 20), .int xSr, .int xWm, .int xTp])), ((ax 1), .inr (3, [.ref (ax 2), .ref (ax 3), .ref (ax 4), .ref (ax 5), .ref (ax 6), .int xRz, .int xRn])), ((ax 3), .inl (cA 0, 400, .inl gS)), ((ax 4), .inl (cA 0, 400, .inl gM)), ((ax 6), .inl (cA 0, 400, .inl gV)), ((ax 18), .inl (cA 0, 400, .inl gW))]) [0, 1, 2, 3, 4, 5] rfl
                have hD9 := hD.part (cx := [((ax 16), .inr (7, [.ref (ax 1), .ref (ax 7), .ref (ax 15), .ref (ax 17), .ref (ax 18), .ref (ax 19), .ref (ax 20), .int xSr, .int xWm, .int xTp])), ((ax 1), .inr (3, [.ref (ax 2), .ref (ax 3), .ref (ax 4), .ref (ax 5), .ref (ax 6), .int xRz, .int xRn])), ((ax 3), .inl (cA 0, 400, .inl gS)), ((ax 4), .inl (cA 0, 400, .inl gM)), ((ax 6), .inl (cA 0, 400, .inl gV)), ((ax 18), .inl (cA 0, 400, .inl gW))]) [0, 1, 2, 3, 4, 5] (by decide) rfl
                subst hQe
                have hans : (y7 : Int64).toInt = y7.toInt := rfl
                exact W.lret (v := y7) hx hb hr (fun t ht hW => ⟨⟨y7, (), rfl, trivial, by rw [ht]; exact hP9, hD9⟩, hS.F ht⟩) hS.2.2 dX7_window_176
              · have dc_9 : kd.toInt = 6 := jI_eq c_9 rfl (by decide)
                refine lv_lload hx hb dX7_window_169 (lv_at hl 2 rfl) ?_
                refine lv_goto (tgt := 176) hx hb dX7_window_171 (by decide) ?_
                have hP9 := hP.part (cx := [((ax 16), .inr (7, [.ref (ax 1), .ref (ax 7), .ref (ax 15), .ref (ax 17), .ref (ax 18), .ref (ax 19), .ref (ax 20), .int xSr, .int xWm, .int xTp])), ((ax 1), .inr (3, [.ref (ax 2), .ref (ax 3), .ref (ax 4), .ref (ax 5), .ref (ax 6), .int xRz, .int xRn])), ((ax 3), .inl (cA 0, 400, .inl gS)), ((ax 4), .inl (cA 0, 400, .inl gM)), ((ax 6), .inl (cA 0, 400, .inl gV)), ((ax 18), .inl (cA 0, 400, .inl gW))]) [0, 1, 2, 3, 4, 5] rfl
                have hD9 := hD.part (cx := [((ax 16), .inr (7, [.ref (ax 1), .ref (ax 7), .ref (ax 15), .ref (ax 17), .ref (ax 18), .ref (ax 19), .ref (ax 20), .int xSr, .int xWm, .int xTp])), ((ax 1), .inr (3, [.ref (ax 2), .ref (ax 3), .ref (ax 4), .ref (ax 5), .ref (ax 6), .int xRz, .int xRn])), ((ax 3), .inl (cA 0, 400, .inl gS)), ((ax 4), .inl (cA 0, 400, .inl gM)), ((ax 6), .inl (cA 0, 400, .inl gV)), ((ax 18), .inl (cA 0, 400, .inl gW))]) [0, 1, 2, 3, 4, 5] (by decide) rfl
                subst hQe
                have hans : (y5 : Int64).toInt = y5.toInt := rfl
                exact W.lret (v := y5) hx hb hr (fun t ht hW => ⟨⟨y5, (), rfl, trivial, by rw [ht]; exact hP9, hD9⟩, hS.F ht⟩) hS.2.2 dX7_window_176
            · have dc_7 : kd.toInt = 5 := jI_eq c_7 rfl (by decide)
              refine lv_lload_n hx hb dX7_window_156 rfl (lv_at hl 3 rfl) ?_
              refine lv_goto (tgt := 176) hx hb dX7_window_157 (by decide) ?_
              have hP9 := hP.part (cx := [((ax 16), .inr (7, [.ref (ax 1), .ref (ax 7), .ref (ax 15), .ref (ax 17), .ref (ax 18), .ref (ax 19), .ref (ax 20), .int xSr, .int xWm, .int xTp])), ((ax 1), .inr (3, [.ref (ax 2), .ref (ax 3), .ref (ax 4), .ref (ax 5), .ref (ax 6), .int xRz, .int xRn])), ((ax 3), .inl (cA 0, 400, .inl gS)), ((ax 4), .inl (cA 0, 400, .inl gM)), ((ax 6), .inl (cA 0, 400, .inl gV)), ((ax 18), .inl (cA 0, 400, .inl gW))]) [0, 1, 2, 3, 4, 5] rfl
              have hD9 := hD.part (cx := [((ax 16), .inr (7, [.ref (ax 1), .ref (ax 7), .ref (ax 15), .ref (ax 17), .ref (ax 18), .ref (ax 19), .ref (ax 20), .int xSr, .int xWm, .int xTp])), ((ax 1), .inr (3, [.ref (ax 2), .ref (ax 3), .ref (ax 4), .ref (ax 5), .ref (ax 6), .int xRz, .int xRn])), ((ax 3), .inl (cA 0, 400, .inl gS)), ((ax 4), .inl (cA 0, 400, .inl gM)), ((ax 6), .inl (cA 0, 400, .inl gV)), ((ax 18), .inl (cA 0, 400, .inl gW))]) [0, 1, 2, 3, 4, 5] (by decide) rfl
              subst hQe
              have hans : (y3 : Int64).toInt = y3.toInt := rfl
              exact W.lret (v := y3) hx hb hr (fun t ht hW => ⟨⟨y3, (), rfl, trivial, by rw [ht]; exact hP9, hD9⟩, hS.F ht⟩) hS.2.2 dX7_window_176
          · have dc_5 : n2.toInt = 0 := jI_eq c_5 rfl (by decide)
            refine lv_ldc2 hx hb hown (hts (.constantLong RX7 38 (-9000000000000000000)) (by decide +kernel)) dX7_window_144 ?_
            have hP9 := hP.part (cx := [((ax 16), .inr (7, [.ref (ax 1), .ref (ax 7), .ref (ax 15), .ref (ax 17), .ref (ax 18), .ref (ax 19), .ref (ax 20), .int xSr, .int xWm, .int xTp])), ((ax 1), .inr (3, [.ref (ax 2), .ref (ax 3), .ref (ax 4), .ref (ax 5), .ref (ax 6), .int xRz, .int xRn])), ((ax 3), .inl (cA 0, 400, .inl gS)), ((ax 4), .inl (cA 0, 400, .inl gM)), ((ax 6), .inl (cA 0, 400, .inl gV)), ((ax 18), .inl (cA 0, 400, .inl gW))]) [0, 1, 2, 3, 4, 5] rfl
            have hD9 := hD.part (cx := [((ax 16), .inr (7, [.ref (ax 1), .ref (ax 7), .ref (ax 15), .ref (ax 17), .ref (ax 18), .ref (ax 19), .ref (ax 20), .int xSr, .int xWm, .int xTp])), ((ax 1), .inr (3, [.ref (ax 2), .ref (ax 3), .ref (ax 4), .ref (ax 5), .ref (ax 6), .int xRz, .int xRn])), ((ax 3), .inl (cA 0, 400, .inl gS)), ((ax 4), .inl (cA 0, 400, .inl gM)), ((ax 6), .inl (cA 0, 400, .inl gV)), ((ax 18), .inl (cA 0, 400, .inl gW))]) [0, 1, 2, 3, 4, 5] (by decide) rfl
            subst hQe
            have hans : ((-9000000000000000000) : Int64).toInt = (-9000000000000000000) := (by decide)
            exact W.lret (v := (-9000000000000000000)) hx hb hr (fun t ht hW => ⟨⟨(-9000000000000000000), (), rfl, trivial, by rw [ht]; exact hP9, hD9⟩, hS.F ht⟩) hS.2.2 dX7_window_147
        · have dc_4 : kd.toInt = 4 := jI_eq c_4 rfl (by decide)
          refine lv_iload_n hx hb dX7_window_137 rfl (lv_at hl 4 rfl) ?_
          obtain ⟨y_10, ey_10⟩ : ∃ y : Int64, y = n2.toInt64 := ⟨_, rfl⟩
          have dy_10 : y_10.toInt = n2.toInt := by rw [ey_10]; exact Int32.toInt_toInt64 _
          refine lv_i2l (v := y_10) hx hb dX7_window_138 ey_10.symm ?_
          have hP9 := hP.part (cx := [((ax 16), .inr (7, [.ref (ax 1), .ref (ax 7), .ref (ax 15), .ref (ax 17), .ref (ax 18), .ref (ax 19), .ref (ax 20), .int xSr, .int xWm, .int xTp])), ((ax 1), .inr (3, [.ref (ax 2), .ref (ax 3), .ref (ax 4), .ref (ax 5), .ref (ax 6), .int xRz, .int xRn])), ((ax 3), .inl (cA 0, 400, .inl gS)), ((ax 4), .inl (cA 0, 400, .inl gM)), ((ax 6), .inl (cA 0, 400, .inl gV)), ((ax 18), .inl (cA 0, 400, .inl gW))]) [0, 1, 2, 3, 4, 5] rfl
          have hD9 := hD.part (cx := [((ax 16), .inr (7, [.ref (ax 1), .ref (ax 7), .ref (ax 15), .ref (ax 17), .ref (ax 18), .ref (ax 19), .ref (ax 20), .int xSr, .int xWm, .int xTp])), ((ax 1), .inr (3, [.ref (ax 2), .ref (ax 3), .ref (ax 4), .ref (ax 5), .ref (ax 6), .int xRz, .int xRn])), ((ax 3), .inl (cA 0, 400, .inl gS)), ((ax 4), .inl (cA 0, 400, .inl gM)), ((ax 6), .inl (cA 0, 400, .inl gV)), ((ax 18), .inl (cA 0, 400, .inl gW))]) [0, 1, 2, 3, 4, 5] (by decide) rfl
          subst hQe
          have hans : (y_10 : Int64).toInt = y_10.toInt := rfl
          exact W.lret (v := y_10) hx hb hr (fun t ht hW => ⟨⟨y_10, (), rfl, trivial, by rw [ht]; exact hP9, hD9⟩, hS.F ht⟩) hS.2.2 dX7_window_139
      · have dc_2 : i9.toInt < xSr.toInt := jI_nle c_2 rfl rfl
        refine lv_aload_n hx hb dX7_window_26 rfl (lv_at hl 5 rfl) ?_
        refine va_get (D := (dC, dI)) (ci := 7) (v := .ref (ax 18)) (C := RX7) (T := TX7) (N := 10) hx hb hts hIX7 hown hK hP 0 rfl rfl 4 (by decide) (hts (.fieldLink RX7 15 "TraitHouse$Worker" "seen" "[I") (by decide +kernel)) (fun _ h9 => h9) rfl dX7_window_27 ?_
        refine lv_iload hx hb dX7_window_30 (lv_at hl 0 rfl) ?_
        have h_11 : vp_in i9 400 := (vp_in_iff.mpr ⟨by omega, by omega⟩)
        refine va_iald hx hb hK hP 5 0 rfl rfl h_11 dX7_window_32 ?_
        refine lv_topi (fun x_12 ex_12 => ?_)
        have bx_12 := i_gW _ (jix h_11)
        rw [← ex_12] at bx_12
        refine lv_istore (lv' := [(10, .int x_12), (9, .int i9), (7, .long y7), (5, .long y5), (3, .long y3), (2, .int n2), (0, .ref (ax 16)), (1, .ref sa)]) hx hb dX7_window_33 hl (by decide) rfl (fun ls hl => ?_)
        refine lv_aload_n hx hb dX7_window_35 rfl (lv_at hl 6 rfl) ?_
        refine va_get (D := (dC, dI)) (ci := 7) (v := .ref (ax 1)) (C := RX7) (T := TX7) (N := 10) hx hb hts hIX7 hown hK hP 0 rfl rfl 0 (by decide) (hts (.fieldLink RX7 26 "TraitHouse$Worker" "rows" "LTraitHouse$Rows;") (by decide +kernel)) (fun _ h9 => h9) rfl dX7_window_36 ?_
        refine va_getN (D := (dC, dI)) (ci := 3) (v := .ref (ax 3)) (C := RX3) (T := TX3) (N := 7) hx hb hts hIX3 hown hK hP 1 rfl rfl 1 (by decide) (va_Nw.use rfl (nw_at hN 1 rfl)) (fun _ h9 => h9) rfl dX7_window_39 ?_
        refine lv_iload hx hb dX7_window_42 (lv_at hl 0 rfl) ?_
        have h_13 : vp_in x_12 400 := (vp_in_iff.mpr ⟨by omega, by omega⟩)
        refine va_iald hx hb hK hP 2 0 rfl rfl h_13 dX7_window_44 ?_
        refine lv_topi (fun x_14 ex_14 => ?_)
        refine lv_aload_n hx hb dX7_window_45 rfl (lv_at hl 7 rfl) ?_
        obtain ⟨pk_15, hpk_15⟩ := va_pl_get (X := [((ax 16), .inr (7, [.ref (ax 1), .ref (ax 7), .ref (ax 15), .ref (ax 17), .ref (ax 18), .ref (ax 19), .ref (ax 20), .int xSr, .int xWm, .int xTp])), ((ax 1), .inr (3, [.ref (ax 2), .ref (ax 3), .ref (ax 4), .ref (ax 5), .ref (ax 6), .int xRz, .int xRn])), ((ax 3), .inl (cA 0, 400, .inl gS)), ((ax 4), .inl (cA 0, 400, .inl gM)), ((ax 6), .inl (cA 0, 400, .inl gV)), ((ax 18), .inl (cA 0, 400, .inl gW))]) (f := pf) hsm
        have gpk_15 := hpk_15
        rw [hsf] at hpk_15
        refine va_getN (D := (dC, dI)) (ci := 4) (v := .int nb) (C := RX4) (T := TX4) (N := 4) hx hb hts hIX4 hown hK hP pk_15 hpk_15 rfl 1 (by decide) (va_Nw.use rfl (nw_at hN 18 rfl)) (fun _ h9 => h9) rfl dX7_window_46 ?_
        refine lv_icmp_ne (tgt := 123) hx hb dX7_window_49 (by decide) (fun c_16 => ?_) (fun c_16 => ?_)
        · have dc_16 : ¬ x_14.toInt = nb.toInt := jI_ne c_16 rfl rfl
          obtain ⟨x_17, ex_17⟩ : ∃ y : Int32, y = i9 + 1 := ⟨_, rfl⟩
          have dx_17 : x_17.toInt = i9.toInt + 1 := by rw [ex_17]; exact jI_add rfl (by decide) (by omega) (by omega)
          refine lv_iinc (v := x_17) (lv' := [(9, .int x_17), (10, .int x_12), (7, .long y7), (5, .long y5), (3, .long y3), (2, .int n2), (0, .ref (ax 16)), (1, .ref sa)]) hx hb dX7_window_123 hl (k := 1) rfl (by rw [ex_17]; rfl) (by decide) rfl (fun ls hl => ?_)
          refine lv_goto (tgt := 17) hx hb dX7_window_126 (by decide) ?_
          exact ih_17 x_17 y7 y5 y3 n2 _ _ ls (by omega) (by omega) (hP.part (cx := [((ax 16), .inr (7, [.ref (ax 1), .ref (ax 7), .ref (ax 15), .ref (ax 17), .ref (ax 18), .ref (ax 19), .ref (ax 20), .int xSr, .int xWm, .int xTp])), ((ax 1), .inr (3, [.ref (ax 2), .ref (ax 3), .ref (ax 4), .ref (ax 5), .ref (ax 6), .int xRz, .int xRn])), ((ax 3), .inl (cA 0, 400, .inl gS)), ((ax 4), .inl (cA 0, 400, .inl gM)), ((ax 6), .inl (cA 0, 400, .inl gV)), ((ax 18), .inl (cA 0, 400, .inl gW))]) [0, 1, 2, 3, 4, 5] rfl) (hD.part (cx := [((ax 16), .inr (7, [.ref (ax 1), .ref (ax 7), .ref (ax 15), .ref (ax 17), .ref (ax 18), .ref (ax 19), .ref (ax 20), .int xSr, .int xWm, .int xTp])), ((ax 1), .inr (3, [.ref (ax 2), .ref (ax 3), .ref (ax 4), .ref (ax 5), .ref (ax 6), .int xRz, .int xRn])), ((ax 3), .inl (cA 0, 400, .inl gS)), ((ax 4), .inl (cA 0, 400, .inl gM)), ((ax 6), .inl (cA 0, 400, .inl gV)), ((ax 18), .inl (cA 0, 400, .inl gW))]) [0, 1, 2, 3, 4, 5] (by decide) rfl) hS (lv_sub hl [0, 2, 3, 4, 5, 6, 7] rfl)
        · have dc_16 : x_14.toInt = nb.toInt := jI_eq c_16 rfl rfl
          refine lv_aload_n hx hb dX7_window_52 rfl (lv_at hl 6 rfl) ?_
          refine lv_aload_n hx hb dX7_window_53 rfl (lv_at hl 7 rfl) ?_
          refine lv_aload_n hx hb dX7_window_54 rfl (lv_at hl 6 rfl) ?_
          refine va_get (D := (dC, dI)) (ci := 7) (v := .ref (ax 1)) (C := RX7) (T := TX7) (N := 10) hx hb hts hIX7 hown hK hP 0 rfl rfl 0 (by decide) (hts (.fieldLink RX7 26 "TraitHouse$Worker" "rows" "LTraitHouse$Rows;") (by decide +kernel)) (fun _ h9 => h9) rfl dX7_window_55 ?_
          refine va_getN (D := (dC, dI)) (ci := 3) (v := .ref (ax 4)) (C := RX3) (T := TX3) (N := 7) hx hb hts hIX3 hown hK hP 1 rfl rfl 2 (by decide) (va_Nw.use rfl (nw_at hN 2 rfl)) (fun _ h9 => h9) rfl dX7_window_58 ?_
          refine lv_iload hx hb dX7_window_61 (lv_at hl 0 rfl) ?_
          have h_18 : vp_in x_12 400 := (vp_in_iff.mpr ⟨by omega, by omega⟩)
          refine va_iald hx hb hK hP 3 0 rfl rfl h_18 dX7_window_63 ?_
          refine lv_topi (fun x_19 ex_19 => ?_)
          have hPc := hP.part (cx := [((ax 16), .inr (7, [.ref (ax 1), .ref (ax 7), .ref (ax 15), .ref (ax 17), .ref (ax 18), .ref (ax 19), .ref (ax 20), .int xSr, .int xWm, .int xTp]))]) [0] rfl
          have hDc := hD.part (cx := [((ax 16), .inr (7, [.ref (ax 1), .ref (ax 7), .ref (ax 15), .ref (ax 17), .ref (ax 18), .ref (ax 19), .ref (ax 20), .int xSr, .int xWm, .int xTp]))]) [0] (by decide) rfl
          have hFc := va_freeP (cx := [((ax 16), .inr (7, [.ref (ax 1), .ref (ax 7), .ref (ax 15), .ref (ax 17), .ref (ax 18), .ref (ax 19), .ref (ax 20), .int xSr, .int xWm, .int xTp]))]) hD hS hA [0] rfl
          refine va_calli (va_runV (As := [.ref sa, .int x_19]) (rest := []) ⟨hx, hb, hml, hown, hts⟩ (k_X7_isWithin l dC dI cA H.size ax xSr xWm xTp L pf sa kd nb fr to x_19 i_xSr i_xTp hsm hsf) (cwV 2 hts gX7_window_X7_isWithin rfl rfl rfl (by decide +kernel) ⟨Nat.le_of_ble_eq_true rfl, Nat.le_of_ble_eq_true rfl⟩) ⟨fun a U g mk q => by obtain ⟨q0, q1, qP, qK, qD, qN⟩ := q; exact ⟨q0, q1, qP, va_K.moved (u := U) (U := U.calling g mk a) (Vm.Alike.refl U.vm) qK, qD, qN.same rfl⟩, va_recv hK hPc (ci := 7) (q0 := 0) rfl rfl, fun U hU hW => ⟨rfl, by rw [hU], by rw [hU]; exact hPc, va_K.moved hW.alike hK, hDc.weaken (fun _ _ _ _ => trivial), hN.warm hW⟩⟩ rfl rfl hl.1 rfl (lv_room (Nat.le_of_ble_eq_true rfl)) dX7_window_64 ⟨Nat.le_of_ble_eq_true rfl, Nat.le_of_ble_eq_true rfl⟩) hS (fun q _ h => hFc q h) hFc (fun r_20 u_21 t H1 locs ht hvm hw_22 hB hz1 hk1 hS => ?_)
          try dsimp only at hw_22 hB
          have po_23 := hw_22
          clear hw_22
          obtain ⟨hP1, hD1⟩ := hB
          rw [ht] at hP1
          obtain ⟨hP, hD⟩ := va_joinP (wr := [((ax 1), .inr (3, [.ref (ax 2), .ref (ax 3), .ref (ax 4), .ref (ax 5), .ref (ax 6), .int xRz, .int xRn])), ((ax 3), .inl (cA 0, 400, .inl gS)), ((ax 4), .inl (cA 0, 400, .inl gM)), ((ax 6), .inl (cA 0, 400, .inl gV)), ((ax 18), .inl (cA 0, 400, .inl gW))]) (rx := [((ax 16), .inr (7, [.ref (ax 1), .ref (ax 7), .ref (ax 15), .ref (ax 17), .ref (ax 18), .ref (ax 19), .ref (ax 20), .int xSr, .int xWm, .int xTp]))]) (pl1 := va_pl L pf) hP hD [0] [1, 2, 3, 4, 5] rfl rfl (by decide) (by decide) hk1 hFc hP1 hD1
          clear hz1
          generalize H1 = H at hP hS ⊢
          replace hP : va_P (dC, dI) vwCl (([((ax 1), .inr (3, [.ref (ax 2), .ref (ax 3), .ref (ax 4), .ref (ax 5), .ref (ax 6), .int xRz, .int xRn])), ((ax 3), .inl (cA 0, 400, .inl gS)), ((ax 4), .inl (cA 0, 400, .inl gM)), ((ax 6), .inl (cA 0, 400, .inl gV)), ((ax 18), .inl (cA 0, 400, .inl gW)), ((ax 16), .inr (7, [.ref (ax 1), .ref (ax 7), .ref (ax 15), .ref (ax 17), .ref (ax 18), .ref (ax 19), .ref (ax 20), .int xSr, .int xWm, .int xTp]))] : va_W) ++ va_pl L pf) H := hP
          replace hD : va_D A (([((ax 1), .inr (3, [.ref (ax 2), .ref (ax 3), .ref (ax 4), .ref (ax 5), .ref (ax 6), .int xRz, .int xRn])), ((ax 3), .inl (cA 0, 400, .inl gS)), ((ax 4), .inl (cA 0, 400, .inl gM)), ((ax 6), .inl (cA 0, 400, .inl gV)), ((ax 18), .inl (cA 0, 400, .inl gW)), ((ax 16), .inr (7, [.ref (ax 1), .ref (ax 7), .ref (ax 15), .ref (ax 17), .ref (ax 18), .ref (ax 19), .ref (ax 20), .int xSr, .int xWm, .int xTp]))] : va_W) ++ va_pl L pf) := hD
          refine lv_if_eq (tgt := 123) hx hb dX7_window_67 (by decide) (fun c_24 => ?_) (fun c_24 => ?_)
          · have dc_24 : r_20.toInt = 0 := jI_eq c_24 rfl (by decide)
            obtain ⟨x_25, ex_25⟩ : ∃ y : Int32, y = i9 + 1 := ⟨_, rfl⟩
            have dx_25 : x_25.toInt = i9.toInt + 1 := by rw [ex_25]; exact jI_add rfl (by decide) (by omega) (by omega)
            refine lv_iinc (v := x_25) (lv' := [(9, .int x_25), (10, .int x_12), (7, .long y7), (5, .long y5), (3, .long y3), (2, .int n2), (0, .ref (ax 16)), (1, .ref sa)]) hx hb dX7_window_123 hl (k := 1) rfl (by rw [ex_25]; rfl) (by decide) rfl (fun ls hl => ?_)
            refine lv_goto (tgt := 17) hx hb dX7_window_126 (by decide) ?_
            exact ih_17 x_25 y7 y5 y3 n2 _ _ ls (by omega) (by omega) (hP.part (cx := [((ax 16), .inr (7, [.ref (ax 1), .ref (ax 7), .ref (ax 15), .ref (ax 17), .ref (ax 18), .ref (ax 19), .ref (ax 20), .int xSr, .int xWm, .int xTp])), ((ax 1), .inr (3, [.ref (ax 2), .ref (ax 3), .ref (ax 4), .ref (ax 5), .ref (ax 6), .int xRz, .int xRn])), ((ax 3), .inl (cA 0, 400, .inl gS)), ((ax 4), .inl (cA 0, 400, .inl gM)), ((ax 6), .inl (cA 0, 400, .inl gV)), ((ax 18), .inl (cA 0, 400, .inl gW))]) [5, 0, 1, 2, 3, 4] rfl) (hD.part (cx := [((ax 16), .inr (7, [.ref (ax 1), .ref (ax 7), .ref (ax 15), .ref (ax 17), .ref (ax 18), .ref (ax 19), .ref (ax 20), .int xSr, .int xWm, .int xTp])), ((ax 1), .inr (3, [.ref (ax 2), .ref (ax 3), .ref (ax 4), .ref (ax 5), .ref (ax 6), .int xRz, .int xRn])), ((ax 3), .inl (cA 0, 400, .inl gS)), ((ax 4), .inl (cA 0, 400, .inl gM)), ((ax 6), .inl (cA 0, 400, .inl gV)), ((ax 18), .inl (cA 0, 400, .inl gW))]) [5, 0, 1, 2, 3, 4] (by decide) rfl) hS (lv_sub hl [0, 2, 3, 4, 5, 6, 7] rfl)
          · have dc_24 : ¬ r_20.toInt = 0 := jI_ne c_24 rfl (by decide)
            obtain ⟨x_26, ex_26⟩ : ∃ y : Int32, y = n2 + 1 := ⟨_, rfl⟩
            refine lv_iinc (v := x_26) (lv' := [(2, .int x_26), (10, .int x_12), (9, .int i9), (7, .long y7), (5, .long y5), (3, .long y3), (0, .ref (ax 16)), (1, .ref sa)]) hx hb dX7_window_70 hl (k := 5) rfl (by rw [ex_26]; rfl) (by decide) rfl (fun ls hl => ?_)
            refine lv_lload_n hx hb dX7_window_73 rfl (lv_at hl 5 rfl) ?_
            refine lv_aload_n hx hb dX7_window_74 rfl (lv_at hl 6 rfl) ?_
            refine va_get (D := (dC, dI)) (ci := 7) (v := .ref (ax 1)) (C := RX7) (T := TX7) (N := 10) hx hb hts hIX7 hown hK hP 5 rfl rfl 0 (by decide) (hts (.fieldLink RX7 26 "TraitHouse$Worker" "rows" "LTraitHouse$Rows;") (by decide +kernel)) (fun _ h9 => h9) rfl dX7_window_75 ?_
            refine va_getN (D := (dC, dI)) (ci := 3) (v := .ref (ax 6)) (C := RX3) (T := TX3) (N := 7) hx hb hts hIX3 hown hK hP 0 rfl rfl 4 (by decide) (va_Nw.use rfl (nw_at hN 4 rfl)) (fun _ h9 => h9) rfl dX7_window_78 ?_
            refine lv_iload hx hb dX7_window_81 (lv_at hl 1 rfl) ?_
            have h_27 : vp_in x_12 400 := (vp_in_iff.mpr ⟨by omega, by omega⟩)
            refine va_iald hx hb hK hP 3 0 rfl rfl h_27 dX7_window_83 ?_
            refine lv_topi (fun x_28 ex_28 => ?_)
            obtain ⟨y_29, ey_29⟩ : ∃ y : Int64, y = x_28.toInt64 := ⟨_, rfl⟩
            have dy_29 : y_29.toInt = x_28.toInt := by rw [ey_29]; exact Int32.toInt_toInt64 _
            refine lv_i2l (v := y_29) hx hb dX7_window_84 ey_29.symm ?_
            refine lv_ladd hx hb dX7_window_85 ?_
            refine lv_topl (fun y_30 ey_30 => ?_)
            refine lv_lstore_n (lv' := [(3, .long y_30), (2, .int x_26), (10, .int x_12), (9, .int i9), (7, .long y7), (5, .long y5), (0, .ref (ax 16)), (1, .ref sa)]) hx hb dX7_window_86 rfl hl (by decide) rfl (fun ls hl => ?_)
            refine lv_lload hx hb dX7_window_87 (lv_at hl 5 rfl) ?_
            refine lv_aload_n hx hb dX7_window_89 rfl (lv_at hl 6 rfl) ?_
            refine va_get (D := (dC, dI)) (ci := 7) (v := .ref (ax 1)) (C := RX7) (T := TX7) (N := 10) hx hb hts hIX7 hown hK hP 5 rfl rfl 0 (by decide) (hts (.fieldLink RX7 26 "TraitHouse$Worker" "rows" "LTraitHouse$Rows;") (by decide +kernel)) (fun _ h9 => h9) rfl dX7_window_90 ?_
            refine va_getN (D := (dC, dI)) (ci := 3) (v := .ref (ax 6)) (C := RX3) (T := TX3) (N := 7) hx hb hts hIX3 hown hK hP 0 rfl rfl 4 (by decide) (va_Nw.use rfl (nw_at hN 4 rfl)) (fun _ h9 => h9) rfl dX7_window_93 ?_
            refine lv_iload hx hb dX7_window_96 (lv_at hl 2 rfl) ?_
            have h_31 : vp_in x_12 400 := (vp_in_iff.mpr ⟨by omega, by omega⟩)
            refine va_iald hx hb hK hP 3 0 rfl rfl h_31 dX7_window_98 ?_
            refine lv_topi (fun x_32 ex_32 => ?_)
            obtain ⟨y_33, ey_33⟩ : ∃ y : Int64, y = x_32.toInt64 := ⟨_, rfl⟩
            have dy_33 : y_33.toInt = x_32.toInt := by rw [ey_33]; exact Int32.toInt_toInt64 _
            refine lv_i2l (v := y_33) hx hb dX7_window_99 ey_33.symm ?_
            refine va_mmin_long hx hb (by rw [hml]; exact hl.1.symm) hown (hts (.methodLink RX7 135 Lib.MathLoose.min_long.x) (by decide +kernel)) (hts (.static Lib.MathLoose.min_long.x) (by decide +kernel)) (hts (.initialized "java/lang/Math") (by decide +kernel)) (hts (.code Lib.MathLoose.min_long.x Lib.MathLoose.min_long.code 4 (some .long)) (by decide +kernel)) (Nat.le_of_ble_eq_true rfl) (Nat.le_of_ble_eq_true rfl) (Nat.le_of_ble_eq_true rfl) (Nat.le_of_ble_eq_true rfl) dX7_window_100 ?_
            refine lv_topl (fun y_34 ey_34 => ?_)
            refine lv_lstore (lv' := [(5, .long y_34), (3, .long y_30), (2, .int x_26), (10, .int x_12), (9, .int i9), (7, .long y7), (0, .ref (ax 16)), (1, .ref sa)]) hx hb dX7_window_103 hl (by decide) rfl (fun ls hl => ?_)
            refine lv_lload hx hb dX7_window_105 (lv_at hl 5 rfl) ?_
            refine lv_aload_n hx hb dX7_window_107 rfl (lv_at hl 6 rfl) ?_
            refine va_get (D := (dC, dI)) (ci := 7) (v := .ref (ax 1)) (C := RX7) (T := TX7) (N := 10) hx hb hts hIX7 hown hK hP 5 rfl rfl 0 (by decide) (hts (.fieldLink RX7 26 "TraitHouse$Worker" "rows" "LTraitHouse$Rows;") (by decide +kernel)) (fun _ h9 => h9) rfl dX7_window_108 ?_
            refine va_getN (D := (dC, dI)) (ci := 3) (v := .ref (ax 6)) (C := RX3) (T := TX3) (N := 7) hx hb hts hIX3 hown hK hP 0 rfl rfl 4 (by decide) (va_Nw.use rfl (nw_at hN 4 rfl)) (fun _ h9 => h9) rfl dX7_window_111 ?_
            refine lv_iload hx hb dX7_window_114 (lv_at hl 3 rfl) ?_
            have h_35 : vp_in x_12 400 := (vp_in_iff.mpr ⟨by omega, by omega⟩)
            refine va_iald hx hb hK hP 3 0 rfl rfl h_35 dX7_window_116 ?_
            refine lv_topi (fun x_36 ex_36 => ?_)
            obtain ⟨y_37, ey_37⟩ : ∃ y : Int64, y = x_36.toInt64 := ⟨_, rfl⟩
            have dy_37 : y_37.toInt = x_36.toInt := by rw [ey_37]; exact Int32.toInt_toInt64 _
            refine lv_i2l (v := y_37) hx hb dX7_window_117 ey_37.symm ?_
            refine va_mmax_long hx hb (by rw [hml]; exact hl.1.symm) hown (hts (.methodLink RX7 141 Lib.MathLoose.max_long.x) (by decide +kernel)) (hts (.static Lib.MathLoose.max_long.x) (by decide +kernel)) (hts (.initialized "java/lang/Math") (by decide +kernel)) (hts (.code Lib.MathLoose.max_long.x Lib.MathLoose.max_long.code 4 (some .long)) (by decide +kernel)) (Nat.le_of_ble_eq_true rfl) (Nat.le_of_ble_eq_true rfl) (Nat.le_of_ble_eq_true rfl) (Nat.le_of_ble_eq_true rfl) dX7_window_118 ?_
            refine lv_topl (fun y_38 ey_38 => ?_)
            refine lv_lstore (lv' := [(7, .long y_38), (5, .long y_34), (3, .long y_30), (2, .int x_26), (10, .int x_12), (9, .int i9), (0, .ref (ax 16)), (1, .ref sa)]) hx hb dX7_window_121 hl (by decide) rfl (fun ls hl => ?_)
            obtain ⟨x_39, ex_39⟩ : ∃ y : Int32, y = i9 + 1 := ⟨_, rfl⟩
            have dx_39 : x_39.toInt = i9.toInt + 1 := by rw [ex_39]; exact jI_add rfl (by decide) (by omega) (by omega)
            refine lv_iinc (v := x_39) (lv' := [(9, .int x_39), (7, .long y_38), (5, .long y_34), (3, .long y_30), (2, .int x_26), (10, .int x_12), (0, .ref (ax 16)), (1, .ref sa)]) hx hb dX7_window_123 hl (k := 5) rfl (by rw [ex_39]; rfl) (by decide) rfl (fun ls hl => ?_)
            refine lv_goto (tgt := 17) hx hb dX7_window_126 (by decide) ?_
            exact ih_17 x_39 y_38 y_34 y_30 x_26 _ _ ls (by omega) (by omega) (hP.part (cx := [((ax 16), .inr (7, [.ref (ax 1), .ref (ax 7), .ref (ax 15), .ref (ax 17), .ref (ax 18), .ref (ax 19), .ref (ax 20), .int xSr, .int xWm, .int xTp])), ((ax 1), .inr (3, [.ref (ax 2), .ref (ax 3), .ref (ax 4), .ref (ax 5), .ref (ax 6), .int xRz, .int xRn])), ((ax 3), .inl (cA 0, 400, .inl gS)), ((ax 4), .inl (cA 0, 400, .inl gM)), ((ax 6), .inl (cA 0, 400, .inl gV)), ((ax 18), .inl (cA 0, 400, .inl gW))]) [5, 0, 1, 2, 3, 4] rfl) (hD.part (cx := [((ax 16), .inr (7, [.ref (ax 1), .ref (ax 7), .ref (ax 15), .ref (ax 17), .ref (ax 18), .ref (ax 19), .ref (ax 20), .int xSr, .int xWm, .int xTp])), ((ax 1), .inr (3, [.ref (ax 2), .ref (ax 3), .ref (ax 4), .ref (ax 5), .ref (ax 6), .int xRz, .int xRn])), ((ax 3), .inl (cA 0, 400, .inl gS)), ((ax 4), .inl (cA 0, 400, .inl gM)), ((ax 6), .inl (cA 0, 400, .inl gV)), ((ax 18), .inl (cA 0, 400, .inl gW))]) [5, 0, 1, 2, 3, 4] (by decide) rfl) hS (lv_sub hl [0, 1, 2, 3, 4, 6, 7] rfl)
  have hk_40 : (0 : Int32).toInt = 0 := by decide
  have hk_41 : ((-1000000) : Int64).toInt = (-1000000) := by decide
  have hk_42 : (1000000 : Int64).toInt = 1000000 := by decide
  have hk_43 : (0 : Int64).toInt = 0 := by decide
  have hk_44 : (0 : Int32).toInt = 0 := by decide
  exact loop17_1 (Int.toNat (400 - (0 : Int32).toInt) + 1) 0 (-1000000) 1000000 0 0 _ _ ls (by omega) (by omega) hP hD hS (lv_sub hl [0, 1, 2, 3, 4, 5, 6] rfl)

set_option maxHeartbeats 8000000 in
set_option maxRecDepth 100000 in
theorem k_X7_perform (l : Launch) (dC : Nat → ClassId) (dI : Nat → Nat → Nat) (cA : Nat → ClassId) (sz : Nat) (ax : Nat → Nat) (xSr : Int32) (xWm : Int32) (xTp : Int32) (xRz : Int32) (xRn : Int32) (gS : Nat → Int32) (gM : Nat → Int32) (gV : Nat → Int32) (gW : Nat → Int32) (gKk : Nat → Int64) (gVs : Nat → Int64) (L : List Nat) (pf : Nat → va_E) (sa : Nat) (kd : Int32) (nb : Int32) (fr : Int32) (to : Int32) (i_xSr : 0 ≤ xSr.toInt ∧ xSr.toInt ≤ 400) (i_xTp : 0 ≤ xTp.toInt ∧ xTp.toInt ≤ 200) (i_xRz : 0 ≤ xRz.toInt ∧ xRz.toInt ≤ 400) (i_gW : inB 0 399 400 gW) (hsm : sa ∈ L) (hsf : pf sa = .inr (4, [.int kd, .int nb, .int fr, .int to])) (hsk : kd.toInt = 1 → 0 ≤ nb.toInt ∧ nb.toInt ≤ 19) : Met l yX7_perform wsX7_perform ({ frames := 3, cells := 0, slots := 0, locals := 70 }) (va_Pc [.ref (ax 16), .ref sa] (fun U => U.heap.size = sz ∧ va_P (dC, dI) vwCl (([((ax 16), .inr (7, [.ref (ax 1), .ref (ax 7), .ref (ax 15), .ref (ax 17), .ref (ax 18), .ref (ax 19), .ref (ax 20), .int xSr, .int xWm, .int xTp])), ((ax 1), .inr (3, [.ref (ax 2), .ref (ax 3), .ref (ax 4), .ref (ax 5), .ref (ax 6), .int xRz, .int xRn])), ((ax 3), .inl (cA 0, 400, .inl gS)), ((ax 4), .inl (cA 0, 400, .inl gM)), ((ax 6), .inl (cA 0, 400, .inl gV)), ((ax 18), .inl (cA 0, 400, .inl gW)), ((ax 19), .inl (cA 1, 200, .inr (.inl gKk))), ((ax 20), .inl (cA 1, 20, .inr (.inl gVs)))] : va_W) ++ va_pl L pf) U.heap ∧ va_K (dC, dI) vwCl (tyL cA) U ∧ va_D (fun _ => True) (([((ax 16), .inr (7, [.ref (ax 1), .ref (ax 7), .ref (ax 15), .ref (ax 17), .ref (ax 18), .ref (ax 19), .ref (ax 20), .int xSr, .int xWm, .int xTp])), ((ax 1), .inr (3, [.ref (ax 2), .ref (ax 3), .ref (ax 4), .ref (ax 5), .ref (ax 6), .int xRz, .int xRn])), ((ax 3), .inl (cA 0, 400, .inl gS)), ((ax 4), .inl (cA 0, 400, .inl gM)), ((ax 6), .inl (cA 0, 400, .inl gV)), ((ax 18), .inl (cA 0, 400, .inl gW)), ((ax 19), .inl (cA 1, 200, .inr (.inl gKk))), ((ax 20), .inl (cA 1, 20, .inr (.inl gVs)))] : va_W) ++ va_pl L pf) ∧ nw_ok U)) (va_Qv (fun (u : (Nat → Int64) × Int32) => (0 ≤ u.2.toInt ∧ u.2.toInt ≤ 200)) (fun (u : (Nat → Int64) × Int32) (t : State) => va_P (dC, dI) vwCl (([((ax 16), .inr (7, [.ref (ax 1), .ref (ax 7), .ref (ax 15), .ref (ax 17), .ref (ax 18), .ref (ax 19), .ref (ax 20), .int xSr, .int xWm, .int u.2])), ((ax 1), .inr (3, [.ref (ax 2), .ref (ax 3), .ref (ax 4), .ref (ax 5), .ref (ax 6), .int xRz, .int xRn])), ((ax 3), .inl (cA 0, 400, .inl gS)), ((ax 4), .inl (cA 0, 400, .inl gM)), ((ax 6), .inl (cA 0, 400, .inl gV)), ((ax 18), .inl (cA 0, 400, .inl gW)), ((ax 19), .inl (cA 1, 200, .inr (.inl u.1))), ((ax 20), .inl (cA 1, 20, .inr (.inl gVs)))] : va_W) ++ va_pl L pf) t.heap ∧ va_D (va_A (([((ax 16), .inr (7, [.ref (ax 1), .ref (ax 7), .ref (ax 15), .ref (ax 17), .ref (ax 18), .ref (ax 19), .ref (ax 20), .int xSr, .int xWm, .int xTp])), ((ax 1), .inr (3, [.ref (ax 2), .ref (ax 3), .ref (ax 4), .ref (ax 5), .ref (ax 6), .int xRz, .int xRn])), ((ax 3), .inl (cA 0, 400, .inl gS)), ((ax 4), .inl (cA 0, 400, .inl gM)), ((ax 6), .inl (cA 0, 400, .inl gV)), ((ax 18), .inl (cA 0, 400, .inl gW)), ((ax 19), .inl (cA 1, 200, .inr (.inl gKk))), ((ax 20), .inl (cA 1, 20, .inr (.inl gVs)))] : va_W) ++ va_pl L pf) sz) (([((ax 16), .inr (7, [.ref (ax 1), .ref (ax 7), .ref (ax 15), .ref (ax 17), .ref (ax 18), .ref (ax 19), .ref (ax 20), .int xSr, .int xWm, .int u.2])), ((ax 1), .inr (3, [.ref (ax 2), .ref (ax 3), .ref (ax 4), .ref (ax 5), .ref (ax 6), .int xRz, .int xRn])), ((ax 3), .inl (cA 0, 400, .inl gS)), ((ax 4), .inl (cA 0, 400, .inl gM)), ((ax 6), .inl (cA 0, 400, .inl gV)), ((ax 18), .inl (cA 0, 400, .inl gW)), ((ax 19), .inl (cA 1, 200, .inr (.inl u.1))), ((ax 20), .inl (cA 1, 20, .inr (.inl gVs)))] : va_W) ++ va_pl L pf)) (va_A (([((ax 16), .inr (7, [.ref (ax 1), .ref (ax 7), .ref (ax 15), .ref (ax 17), .ref (ax 18), .ref (ax 19), .ref (ax 20), .int xSr, .int xWm, .int xTp])), ((ax 1), .inr (3, [.ref (ax 2), .ref (ax 3), .ref (ax 4), .ref (ax 5), .ref (ax 6), .int xRz, .int xRn])), ((ax 3), .inl (cA 0, 400, .inl gS)), ((ax 4), .inl (cA 0, 400, .inl gM)), ((ax 6), .inl (cA 0, 400, .inl gV)), ((ax 18), .inl (cA 0, 400, .inl gW)), ((ax 19), .inl (cA 1, 200, .inr (.inl gKk))), ((ax 20), .inl (cA 1, 20, .inr (.inl gVs)))] : va_W) ++ va_pl L pf) sz)) 0 0 (va_A (([((ax 16), .inr (7, [.ref (ax 1), .ref (ax 7), .ref (ax 15), .ref (ax 17), .ref (ax 18), .ref (ax 19), .ref (ax 20), .int xSr, .int xWm, .int xTp])), ((ax 1), .inr (3, [.ref (ax 2), .ref (ax 3), .ref (ax 4), .ref (ax 5), .ref (ax 6), .int xRz, .int xRn])), ((ax 3), .inl (cA 0, 400, .inl gS)), ((ax 4), .inl (cA 0, 400, .inl gM)), ((ax 6), .inl (cA 0, 400, .inl gV)), ((ax 18), .inl (cA 0, 400, .inl gW)), ((ax 19), .inl (cA 1, 200, .inr (.inl gKk))), ((ax 20), .inl (cA 1, 20, .inr (.inl gVs)))] : va_W) ++ va_pl L pf) sz) := by
  refine Met.ofW (cc := cX7_perform) (maxL := 6) (ret := none) (by decide) rfl ?_
  intro p e s m args below meth c s₁ B hml hv
  obtain ⟨rfl, hsz, hP, hK, hD0, hN⟩ := hv
  have hx := B.exec
  have hb := B.bytes
  have hr := B.returns
  have hts := atoms_spec (ws := wsX7_perform) B.pre
  have hown : s.vm.findClass RX7 = some m.cls := findClass_of_methodNamed B.named
  have hlocks := B.notSynchronized
  subst hsz
  have hD := hD0.self (sz := s.heap.size)
  generalize hAe : va_A (([((ax 16), .inr (7, [.ref (ax 1), .ref (ax 7), .ref (ax 15), .ref (ax 17), .ref (ax 18), .ref (ax 19), .ref (ax 20), .int xSr, .int xWm, .int xTp])), ((ax 1), .inr (3, [.ref (ax 2), .ref (ax 3), .ref (ax 4), .ref (ax 5), .ref (ax 6), .int xRz, .int xRn])), ((ax 3), .inl (cA 0, 400, .inl gS)), ((ax 4), .inl (cA 0, 400, .inl gM)), ((ax 6), .inl (cA 0, 400, .inl gV)), ((ax 18), .inl (cA 0, 400, .inl gW)), ((ax 19), .inl (cA 1, 200, .inr (.inl gKk))), ((ax 20), .inl (cA 1, 20, .inr (.inl gVs)))] : va_W) ++ va_pl L pf) s.heap.size = A at hD ⊢
  have hA : ∀ q : Nat, s.heap.size ≤ q → A q := fun q h => by rw [← hAe]; exact Or.inr h
  have hS : va_S A s.heap s.heap [] := va_S.rf
  have hIX4 : ∀ w ∈ u_ws RX4 TX4 4, w ∈ wsX7_perform := by decide +kernel
  have hIX7 : ∀ w ∈ u_ws RX7 TX7 10, w ∈ wsX7_perform := by decide +kernel
  have hl := lv_entry ([.ref (ax 16), .ref sa]) (n := 6) (Nat.le_of_ble_eq_true rfl)
  rw [lg_entry_eq]
  generalize (lg_sl ([.ref (ax 16), .ref sa]) ++ List.replicate (6 - (lg_sl ([.ref (ax 16), .ref sa])).length) Slot.unset).toArray = ls at hl ⊢
  have hl : lv_has ls 6 [(0, .ref (ax 16)), (1, .ref sa)] := hl
  generalize hQe : MQ below _ _ _ _ _ _ = QQ
  refine lv_aload_n hx hb dX7_perform_0 rfl (lv_at hl 1 rfl) ?_
  obtain ⟨pk_1, hpk_1⟩ := va_pl_get (X := [((ax 16), .inr (7, [.ref (ax 1), .ref (ax 7), .ref (ax 15), .ref (ax 17), .ref (ax 18), .ref (ax 19), .ref (ax 20), .int xSr, .int xWm, .int xTp])), ((ax 1), .inr (3, [.ref (ax 2), .ref (ax 3), .ref (ax 4), .ref (ax 5), .ref (ax 6), .int xRz, .int xRn])), ((ax 3), .inl (cA 0, 400, .inl gS)), ((ax 4), .inl (cA 0, 400, .inl gM)), ((ax 6), .inl (cA 0, 400, .inl gV)), ((ax 18), .inl (cA 0, 400, .inl gW)), ((ax 19), .inl (cA 1, 200, .inr (.inl gKk))), ((ax 20), .inl (cA 1, 20, .inr (.inl gVs)))]) (f := pf) hsm
  have gpk_1 := hpk_1
  rw [hsf] at hpk_1
  refine va_getN (D := (dC, dI)) (ci := 4) (v := .int kd) (C := RX4) (T := TX4) (N := 4) hx hb hts hIX4 hown hK hP pk_1 hpk_1 rfl 0 (by decide) (va_Nw.use rfl (nw_at hN 17 rfl)) (fun _ h9 => h9) rfl dX7_perform_1 ?_
  rcases (jI_range kd 0 8 : (kd.toInt < 0 ∨ 8 < kd.toInt) ∨ (0 ≤ kd.toInt ∧ kd.toInt ≤ 8)) with hsw | hsw
  · refine lv_tableOut (tgt := 137) hx hb dX7_perform_4 hsw (by decide) ?_
    refine lv_aload_n hx hb dX7_perform_137 rfl (lv_at hl 0 rfl) ?_
    obtain ⟨hPc, hDc, hFc, hCc⟩ := va_pre (ws' := [((ax 16), .inr (7, [.ref (ax 1), .ref (ax 7), .ref (ax 15), .ref (ax 17), .ref (ax 18), .ref (ax 19), .ref (ax 20), .int xSr, .int xWm, .int xTp])), ((ax 19), .inl (cA 1, 200, .inr (.inl gKk)))]) hP hD hS hA [0, 6] (by decide) rfl
    refine va_calll (va_runV (As := []) (rest := []) ⟨hx, hb, hml, hown, hts⟩ (k_X7_pop l dC dI cA s.heap.size ax xSr xWm xTp gKk i_xSr i_xTp) (cwV 0 hts gX7_perform_X7_pop rfl rfl rfl (by decide +kernel) ⟨Nat.le_of_ble_eq_true rfl, Nat.le_of_ble_eq_true rfl⟩) ⟨fun a U g mk q => by obtain ⟨q0, q1, qP, qK, qD, qN⟩ := q; exact ⟨q0, q1, qP, va_K.moved (u := U) (U := U.calling g mk a) (Vm.Alike.refl U.vm) qK, qD, qN.same rfl⟩, va_recv hK hPc (ci := 7) (q0 := 0) rfl rfl, fun U hU hW => ⟨rfl, by rw [hU], by rw [hU]; exact hPc, va_K.moved hW.alike hK, hDc.weaken (fun _ _ _ _ => trivial), hN.warm hW⟩⟩ rfl rfl hl.1 rfl (lv_room (Nat.le_of_ble_eq_true rfl)) dX7_perform_138 ⟨Nat.le_of_ble_eq_true rfl, Nat.le_of_ble_eq_true rfl⟩) hS (fun q _ h => hFc q h) hFc (fun r_2 u_3 t H1 locs ht hvm hw_4 hB hz1 hk1 hS => ?_)
    obtain ⟨w_5, rfl⟩ : ∃ z, z = u_3 := ⟨_, rfl⟩
    try dsimp only at hw_4 hB
    have iv_6 := hw_4
    clear hw_4
    obtain ⟨hP1, hD1⟩ := hB
    rw [ht] at hP1
    obtain ⟨hP, hD⟩ := va_joinQ (wr := [((ax 1), .inr (3, [.ref (ax 2), .ref (ax 3), .ref (ax 4), .ref (ax 5), .ref (ax 6), .int xRz, .int xRn])), ((ax 3), .inl (cA 0, 400, .inl gS)), ((ax 4), .inl (cA 0, 400, .inl gM)), ((ax 6), .inl (cA 0, 400, .inl gV)), ((ax 18), .inl (cA 0, 400, .inl gW)), ((ax 20), .inl (cA 1, 20, .inr (.inl gVs)))]) (w1 := [((ax 16), .inr (7, [.ref (ax 1), .ref (ax 7), .ref (ax 15), .ref (ax 17), .ref (ax 18), .ref (ax 19), .ref (ax 20), .int xSr, .int xWm, .int w_5])), ((ax 19), .inl (cA 1, 200, .inr (.inl gKk)))]) hP hD [0, 6] [1, 2, 3, 4, 5, 7] rfl rfl (by decide) (by decide) hk1 hFc hP1 hD1
    clear hz1
    generalize H1 = H at hP hS ⊢
    replace hP : va_P (dC, dI) vwCl (([((ax 1), .inr (3, [.ref (ax 2), .ref (ax 3), .ref (ax 4), .ref (ax 5), .ref (ax 6), .int xRz, .int xRn])), ((ax 3), .inl (cA 0, 400, .inl gS)), ((ax 4), .inl (cA 0, 400, .inl gM)), ((ax 6), .inl (cA 0, 400, .inl gV)), ((ax 18), .inl (cA 0, 400, .inl gW)), ((ax 20), .inl (cA 1, 20, .inr (.inl gVs))), ((ax 16), .inr (7, [.ref (ax 1), .ref (ax 7), .ref (ax 15), .ref (ax 17), .ref (ax 18), .ref (ax 19), .ref (ax 20), .int xSr, .int xWm, .int w_5])), ((ax 19), .inl (cA 1, 200, .inr (.inl gKk)))] : va_W) ++ va_pl L pf) H := hP
    replace hD : va_D A (([((ax 1), .inr (3, [.ref (ax 2), .ref (ax 3), .ref (ax 4), .ref (ax 5), .ref (ax 6), .int xRz, .int xRn])), ((ax 3), .inl (cA 0, 400, .inl gS)), ((ax 4), .inl (cA 0, 400, .inl gM)), ((ax 6), .inl (cA 0, 400, .inl gV)), ((ax 18), .inl (cA 0, 400, .inl gW)), ((ax 20), .inl (cA 1, 20, .inr (.inl gVs))), ((ax 16), .inr (7, [.ref (ax 1), .ref (ax 7), .ref (ax 15), .ref (ax 17), .ref (ax 18), .ref (ax 19), .ref (ax 20), .int xSr, .int xWm, .int w_5])), ((ax 19), .inl (cA 1, 200, .inr (.inl gKk)))] : va_W) ++ va_pl L pf) := hD
    refine lv_lstore (lv' := [(4, .long r_2), (0, .ref (ax 16)), (1, .ref sa)]) hx hb dX7_perform_141 hl (by decide) rfl (fun ls hl => ?_)
    refine lv_aload_n hx hb dX7_perform_143 rfl (lv_at hl 1 rfl) ?_
    refine lv_aload_n hx hb dX7_perform_144 rfl (lv_at hl 2 rfl) ?_
    obtain ⟨pk_7, hpk_7⟩ := va_pl_get (X := [((ax 1), .inr (3, [.ref (ax 2), .ref (ax 3), .ref (ax 4), .ref (ax 5), .ref (ax 6), .int xRz, .int xRn])), ((ax 3), .inl (cA 0, 400, .inl gS)), ((ax 4), .inl (cA 0, 400, .inl gM)), ((ax 6), .inl (cA 0, 400, .inl gV)), ((ax 18), .inl (cA 0, 400, .inl gW)), ((ax 20), .inl (cA 1, 20, .inr (.inl gVs))), ((ax 16), .inr (7, [.ref (ax 1), .ref (ax 7), .ref (ax 15), .ref (ax 17), .ref (ax 18), .ref (ax 19), .ref (ax 20), .int xSr, .int xWm, .int w_5])), ((ax 19), .inl (cA 1, 200, .inr (.inl gKk)))]) (f := pf) hsm
    have gpk_7 := hpk_7
    rw [hsf] at hpk_7
    refine va_getN (D := (dC, dI)) (ci := 4) (v := .int kd) (C := RX4) (T := TX4) (N := 4) hx hb hts hIX4 hown hK hP pk_7 hpk_7 rfl 0 (by decide) (va_Nw.use rfl (nw_at hN 17 rfl)) (fun _ h9 => h9) rfl dX7_perform_145 ?_
    refine lv_aload_n hx hb dX7_perform_148 rfl (lv_at hl 1 rfl) ?_
    obtain ⟨hPc, hDc, hFc, hCc⟩ := va_pre (ws' := [((ax 16), .inr (7, [.ref (ax 1), .ref (ax 7), .ref (ax 15), .ref (ax 17), .ref (ax 18), .ref (ax 19), .ref (ax 20), .int xSr, .int xWm, .int w_5])), ((ax 19), .inl (cA 1, 200, .inr (.inl gKk)))]) hP hD hS hA [6, 7] (by decide) rfl
    refine va_calll (va_runV (As := []) (rest := [.int kd, .ref (ax 16)]) ⟨hx, hb, hml, hown, hts⟩ (k_X7_pop l dC dI cA H.size ax xSr xWm w_5 gKk i_xSr iv_6) (cwV 0 hts gX7_perform_X7_pop rfl rfl rfl (by decide +kernel) ⟨Nat.le_of_ble_eq_true rfl, Nat.le_of_ble_eq_true rfl⟩) ⟨fun a U g mk q => by obtain ⟨q0, q1, qP, qK, qD, qN⟩ := q; exact ⟨q0, q1, qP, va_K.moved (u := U) (U := U.calling g mk a) (Vm.Alike.refl U.vm) qK, qD, qN.same rfl⟩, va_recv hK hPc (ci := 7) (q0 := 0) rfl rfl, fun U hU hW => ⟨rfl, by rw [hU], by rw [hU]; exact hPc, va_K.moved hW.alike hK, hDc.weaken (fun _ _ _ _ => trivial), hN.warm hW⟩⟩ rfl rfl hl.1 rfl (lv_room (Nat.le_of_ble_eq_true rfl)) dX7_perform_149 ⟨Nat.le_of_ble_eq_true rfl, Nat.le_of_ble_eq_true rfl⟩) hS (fun q _ h => hFc q h) hFc (fun r_8 u_9 t H1 locs ht hvm hw_10 hB hz1 hk1 hS => ?_)
    obtain ⟨w_11, rfl⟩ : ∃ z, z = u_9 := ⟨_, rfl⟩
    try dsimp only at hw_10 hB
    have iv_12 := hw_10
    clear hw_10
    obtain ⟨hP1, hD1⟩ := hB
    rw [ht] at hP1
    obtain ⟨hP, hD⟩ := va_joinQ (wr := [((ax 1), .inr (3, [.ref (ax 2), .ref (ax 3), .ref (ax 4), .ref (ax 5), .ref (ax 6), .int xRz, .int xRn])), ((ax 3), .inl (cA 0, 400, .inl gS)), ((ax 4), .inl (cA 0, 400, .inl gM)), ((ax 6), .inl (cA 0, 400, .inl gV)), ((ax 18), .inl (cA 0, 400, .inl gW)), ((ax 20), .inl (cA 1, 20, .inr (.inl gVs)))]) (w1 := [((ax 16), .inr (7, [.ref (ax 1), .ref (ax 7), .ref (ax 15), .ref (ax 17), .ref (ax 18), .ref (ax 19), .ref (ax 20), .int xSr, .int xWm, .int w_11])), ((ax 19), .inl (cA 1, 200, .inr (.inl gKk)))]) hP hD [6, 7] [0, 1, 2, 3, 4, 5] rfl rfl (by decide) (by decide) hk1 hFc hP1 hD1
    clear hz1
    generalize H1 = H at hP hS ⊢
    replace hP : va_P (dC, dI) vwCl (([((ax 1), .inr (3, [.ref (ax 2), .ref (ax 3), .ref (ax 4), .ref (ax 5), .ref (ax 6), .int xRz, .int xRn])), ((ax 3), .inl (cA 0, 400, .inl gS)), ((ax 4), .inl (cA 0, 400, .inl gM)), ((ax 6), .inl (cA 0, 400, .inl gV)), ((ax 18), .inl (cA 0, 400, .inl gW)), ((ax 20), .inl (cA 1, 20, .inr (.inl gVs))), ((ax 16), .inr (7, [.ref (ax 1), .ref (ax 7), .ref (ax 15), .ref (ax 17), .ref (ax 18), .ref (ax 19), .ref (ax 20), .int xSr, .int xWm, .int w_11])), ((ax 19), .inl (cA 1, 200, .inr (.inl gKk)))] : va_W) ++ va_pl L pf) H := hP
    replace hD : va_D A (([((ax 1), .inr (3, [.ref (ax 2), .ref (ax 3), .ref (ax 4), .ref (ax 5), .ref (ax 6), .int xRz, .int xRn])), ((ax 3), .inl (cA 0, 400, .inl gS)), ((ax 4), .inl (cA 0, 400, .inl gM)), ((ax 6), .inl (cA 0, 400, .inl gV)), ((ax 18), .inl (cA 0, 400, .inl gW)), ((ax 20), .inl (cA 1, 20, .inr (.inl gVs))), ((ax 16), .inr (7, [.ref (ax 1), .ref (ax 7), .ref (ax 15), .ref (ax 17), .ref (ax 18), .ref (ax 19), .ref (ax 20), .int xSr, .int xWm, .int w_11])), ((ax 19), .inl (cA 1, 200, .inr (.inl gKk)))] : va_W) ++ va_pl L pf) := hD
    refine lv_lload hx hb dX7_perform_152 (lv_at hl 0 rfl) ?_
    obtain ⟨hPc, hDc, hFc, hCc⟩ := va_pre (ws' := []) hP hD hS hA [] (by decide) rfl
    refine va_calll (va_runS (As := [.int kd, .long r_8, .long r_2]) (rest := [.ref (ax 16)]) ⟨hx, hb, hml, hown, hts⟩ (k_X7_join l dC dI cA H.size kd r_8 r_2 ) (va_cwS 3 hts gX7_perform_X7_join rfl rfl rfl (by decide +kernel) ⟨Nat.le_of_ble_eq_true rfl, Nat.le_of_ble_eq_true rfl⟩) ⟨fun a U g mk q => by obtain ⟨q0, q1, qP, qK, qD, qN⟩ := q; exact ⟨q0, q1, qP, va_K.moved (u := U) (U := U.calling g mk a) (Vm.Alike.refl U.vm) qK, qD, qN.same rfl⟩, fun U hU hW => ⟨rfl, by rw [hU], by rw [hU]; exact hPc, va_K.moved hW.alike hK, hDc.weaken (fun _ _ _ _ => trivial), hN.warm hW⟩⟩ rfl rfl hl.1 rfl (lv_room (Nat.le_of_ble_eq_true rfl)) dX7_perform_154 ⟨Nat.le_of_ble_eq_true rfl, Nat.le_of_ble_eq_true rfl⟩) hS (fun q _ h => hFc q h) hFc (fun r_13 u_14 t H1 locs ht hvm hw_15 hB hz1 hk1 hS => ?_)
    try dsimp only at hw_15 hB
    obtain ⟨hP1, hD1⟩ := hB
    rw [ht] at hP1
    obtain ⟨hP, hD⟩ := va_joinQ (wr := [((ax 1), .inr (3, [.ref (ax 2), .ref (ax 3), .ref (ax 4), .ref (ax 5), .ref (ax 6), .int xRz, .int xRn])), ((ax 3), .inl (cA 0, 400, .inl gS)), ((ax 4), .inl (cA 0, 400, .inl gM)), ((ax 6), .inl (cA 0, 400, .inl gV)), ((ax 18), .inl (cA 0, 400, .inl gW)), ((ax 20), .inl (cA 1, 20, .inr (.inl gVs))), ((ax 16), .inr (7, [.ref (ax 1), .ref (ax 7), .ref (ax 15), .ref (ax 17), .ref (ax 18), .ref (ax 19), .ref (ax 20), .int xSr, .int xWm, .int w_11])), ((ax 19), .inl (cA 1, 200, .inr (.inl gKk)))]) (w1 := []) hP hD [] [0, 1, 2, 3, 4, 5, 6, 7] rfl rfl (by decide) (by decide) hk1 hFc hP1 hD1
    clear hz1
    generalize H1 = H at hP hS ⊢
    replace hP : va_P (dC, dI) vwCl (([((ax 1), .inr (3, [.ref (ax 2), .ref (ax 3), .ref (ax 4), .ref (ax 5), .ref (ax 6), .int xRz, .int xRn])), ((ax 3), .inl (cA 0, 400, .inl gS)), ((ax 4), .inl (cA 0, 400, .inl gM)), ((ax 6), .inl (cA 0, 400, .inl gV)), ((ax 18), .inl (cA 0, 400, .inl gW)), ((ax 20), .inl (cA 1, 20, .inr (.inl gVs))), ((ax 16), .inr (7, [.ref (ax 1), .ref (ax 7), .ref (ax 15), .ref (ax 17), .ref (ax 18), .ref (ax 19), .ref (ax 20), .int xSr, .int xWm, .int w_11])), ((ax 19), .inl (cA 1, 200, .inr (.inl gKk)))] : va_W) ++ va_pl L pf) H := hP
    replace hD : va_D A (([((ax 1), .inr (3, [.ref (ax 2), .ref (ax 3), .ref (ax 4), .ref (ax 5), .ref (ax 6), .int xRz, .int xRn])), ((ax 3), .inl (cA 0, 400, .inl gS)), ((ax 4), .inl (cA 0, 400, .inl gM)), ((ax 6), .inl (cA 0, 400, .inl gV)), ((ax 18), .inl (cA 0, 400, .inl gW)), ((ax 20), .inl (cA 1, 20, .inr (.inl gVs))), ((ax 16), .inr (7, [.ref (ax 1), .ref (ax 7), .ref (ax 15), .ref (ax 17), .ref (ax 18), .ref (ax 19), .ref (ax 20), .int xSr, .int xWm, .int w_11])), ((ax 19), .inl (cA 1, 200, .inr (.inl gKk)))] : va_W) ++ va_pl L pf) := hD
    obtain ⟨hPc, hDc, hFc, hCc⟩ := va_pre (ws' := [((ax 16), .inr (7, [.ref (ax 1), .ref (ax 7), .ref (ax 15), .ref (ax 17), .ref (ax 18), .ref (ax 19), .ref (ax 20), .int xSr, .int xWm, .int w_11])), ((ax 19), .inl (cA 1, 200, .inr (.inl gKk)))]) hP hD hS hA [6, 7] (by decide) rfl
    refine va_callv (va_runV (As := [.long r_13]) (rest := []) ⟨hx, hb, hml, hown, hts⟩ (k_X7_push l dC dI cA H.size ax xSr xWm w_11 gKk r_13 i_xSr iv_12) (cwV 1 hts gX7_perform_X7_push rfl rfl rfl (by decide +kernel) ⟨Nat.le_of_ble_eq_true rfl, Nat.le_of_ble_eq_true rfl⟩) ⟨fun a U g mk q => by obtain ⟨q0, q1, qP, qK, qD, qN⟩ := q; exact ⟨q0, q1, qP, va_K.moved (u := U) (U := U.calling g mk a) (Vm.Alike.refl U.vm) qK, qD, qN.same rfl⟩, va_recv hK hPc (ci := 7) (q0 := 0) rfl rfl, fun U hU hW => ⟨rfl, by rw [hU], by rw [hU]; exact hPc, va_K.moved hW.alike hK, hDc.weaken (fun _ _ _ _ => trivial), hN.warm hW⟩⟩ rfl rfl hl.1 rfl (lv_room (Nat.le_of_ble_eq_true rfl)) dX7_perform_157 ⟨Nat.le_of_ble_eq_true rfl, Nat.le_of_ble_eq_true rfl⟩) hS (fun q _ h => hFc q h) hFc (fun u_16 t H1 locs ht hvm hw_17 hB hz1 hk1 hS => ?_)
    obtain ⟨w_18, w_19⟩ := u_16
    try dsimp only at hw_17 hB
    have iv_20 := hw_17
    clear hw_17
    obtain ⟨hP1, hD1⟩ := hB
    rw [ht] at hP1
    obtain ⟨hP, hD⟩ := va_joinQ (wr := [((ax 1), .inr (3, [.ref (ax 2), .ref (ax 3), .ref (ax 4), .ref (ax 5), .ref (ax 6), .int xRz, .int xRn])), ((ax 3), .inl (cA 0, 400, .inl gS)), ((ax 4), .inl (cA 0, 400, .inl gM)), ((ax 6), .inl (cA 0, 400, .inl gV)), ((ax 18), .inl (cA 0, 400, .inl gW)), ((ax 20), .inl (cA 1, 20, .inr (.inl gVs)))]) (w1 := [((ax 16), .inr (7, [.ref (ax 1), .ref (ax 7), .ref (ax 15), .ref (ax 17), .ref (ax 18), .ref (ax 19), .ref (ax 20), .int xSr, .int xWm, .int w_19])), ((ax 19), .inl (cA 1, 200, .inr (.inl w_18)))]) hP hD [6, 7] [0, 1, 2, 3, 4, 5] rfl rfl (by decide) (by decide) hk1 hFc hP1 hD1
    clear hz1
    generalize H1 = H at hP hS ⊢
    replace hP : va_P (dC, dI) vwCl (([((ax 1), .inr (3, [.ref (ax 2), .ref (ax 3), .ref (ax 4), .ref (ax 5), .ref (ax 6), .int xRz, .int xRn])), ((ax 3), .inl (cA 0, 400, .inl gS)), ((ax 4), .inl (cA 0, 400, .inl gM)), ((ax 6), .inl (cA 0, 400, .inl gV)), ((ax 18), .inl (cA 0, 400, .inl gW)), ((ax 20), .inl (cA 1, 20, .inr (.inl gVs))), ((ax 16), .inr (7, [.ref (ax 1), .ref (ax 7), .ref (ax 15), .ref (ax 17), .ref (ax 18), .ref (ax 19), .ref (ax 20), .int xSr, .int xWm, .int w_19])), ((ax 19), .inl (cA 1, 200, .inr (.inl w_18)))] : va_W) ++ va_pl L pf) H := hP
    replace hD : va_D A (([((ax 1), .inr (3, [.ref (ax 2), .ref (ax 3), .ref (ax 4), .ref (ax 5), .ref (ax 6), .int xRz, .int xRn])), ((ax 3), .inl (cA 0, 400, .inl gS)), ((ax 4), .inl (cA 0, 400, .inl gM)), ((ax 6), .inl (cA 0, 400, .inl gV)), ((ax 18), .inl (cA 0, 400, .inl gW)), ((ax 20), .inl (cA 1, 20, .inr (.inl gVs))), ((ax 16), .inr (7, [.ref (ax 1), .ref (ax 7), .ref (ax 15), .ref (ax 17), .ref (ax 18), .ref (ax 19), .ref (ax 20), .int xSr, .int xWm, .int w_19])), ((ax 19), .inl (cA 1, 200, .inr (.inl w_18)))] : va_W) ++ va_pl L pf) := hD
    have hP9 := hP.part (cx := [((ax 16), .inr (7, [.ref (ax 1), .ref (ax 7), .ref (ax 15), .ref (ax 17), .ref (ax 18), .ref (ax 19), .ref (ax 20), .int xSr, .int xWm, .int w_19])), ((ax 1), .inr (3, [.ref (ax 2), .ref (ax 3), .ref (ax 4), .ref (ax 5), .ref (ax 6), .int xRz, .int xRn])), ((ax 3), .inl (cA 0, 400, .inl gS)), ((ax 4), .inl (cA 0, 400, .inl gM)), ((ax 6), .inl (cA 0, 400, .inl gV)), ((ax 18), .inl (cA 0, 400, .inl gW)), ((ax 19), .inl (cA 1, 200, .inr (.inl w_18))), ((ax 20), .inl (cA 1, 20, .inr (.inl gVs)))]) [6, 0, 1, 2, 3, 4, 7, 5] rfl
    have hD9 := hD.part (cx := [((ax 16), .inr (7, [.ref (ax 1), .ref (ax 7), .ref (ax 15), .ref (ax 17), .ref (ax 18), .ref (ax 19), .ref (ax 20), .int xSr, .int xWm, .int w_19])), ((ax 1), .inr (3, [.ref (ax 2), .ref (ax 3), .ref (ax 4), .ref (ax 5), .ref (ax 6), .int xRz, .int xRn])), ((ax 3), .inl (cA 0, 400, .inl gS)), ((ax 4), .inl (cA 0, 400, .inl gM)), ((ax 6), .inl (cA 0, 400, .inl gV)), ((ax 18), .inl (cA 0, 400, .inl gW)), ((ax 19), .inl (cA 1, 200, .inr (.inl w_18))), ((ax 20), .inl (cA 1, 20, .inr (.inl gVs)))]) [6, 0, 1, 2, 3, 4, 7, 5] (by decide) rfl
    subst hQe
    have hpost : (0 ≤ w_19.toInt ∧ w_19.toInt ≤ 200) := iv_20
    exact W.vret hx hb hr (fun t ht hW => ⟨⟨(w_18, w_19), rfl, hpost, by rw [ht]; exact hP9, hD9⟩, hS.F ht⟩) hS.2.2 dX7_perform_160
  · rcases (show kd.toInt = 0 ∨ kd.toInt = 1 ∨ kd.toInt = 2 ∨ kd.toInt = 3 ∨ kd.toInt = 4 ∨ kd.toInt = 5 ∨ kd.toInt = 6 ∨ kd.toInt = 7 ∨ kd.toInt = 8 by omega) with hsw | hsw | hsw | hsw | hsw | hsw | hsw | hsw | hsw
    · refine lv_tableIn (off := 52) (tgt := 56) hx hb dX7_perform_4 (by omega) (by omega) (by rw [hsw]; rfl) (by decide) ?_
      refine lv_aload_n hx hb dX7_perform_56 rfl (lv_at hl 0 rfl) ?_
      refine lv_aload_n hx hb dX7_perform_57 rfl (lv_at hl 1 rfl) ?_
      obtain ⟨pk_21, hpk_21⟩ := va_pl_get (X := [((ax 16), .inr (7, [.ref (ax 1), .ref (ax 7), .ref (ax 15), .ref (ax 17), .ref (ax 18), .ref (ax 19), .ref (ax 20), .int xSr, .int xWm, .int xTp])), ((ax 1), .inr (3, [.ref (ax 2), .ref (ax 3), .ref (ax 4), .ref (ax 5), .ref (ax 6), .int xRz, .int xRn])), ((ax 3), .inl (cA 0, 400, .inl gS)), ((ax 4), .inl (cA 0, 400, .inl gM)), ((ax 6), .inl (cA 0, 400, .inl gV)), ((ax 18), .inl (cA 0, 400, .inl gW)), ((ax 19), .inl (cA 1, 200, .inr (.inl gKk))), ((ax 20), .inl (cA 1, 20, .inr (.inl gVs)))]) (f := pf) hsm
      have gpk_21 := hpk_21
      rw [hsf] at hpk_21
      refine va_getN (D := (dC, dI)) (ci := 4) (v := .int nb) (C := RX4) (T := TX4) (N := 4) hx hb hts hIX4 hown hK hP pk_21 hpk_21 rfl 1 (by decide) (va_Nw.use rfl (nw_at hN 18 rfl)) (fun _ h9 => h9) rfl dX7_perform_58 ?_
      obtain ⟨y_22, ey_22⟩ : ∃ y : Int64, y = nb.toInt64 := ⟨_, rfl⟩
      have dy_22 : y_22.toInt = nb.toInt := by rw [ey_22]; exact Int32.toInt_toInt64 _
      refine lv_i2l (v := y_22) hx hb dX7_perform_61 ey_22.symm ?_
      obtain ⟨hPc, hDc, hFc, hCc⟩ := va_pre (ws' := [((ax 16), .inr (7, [.ref (ax 1), .ref (ax 7), .ref (ax 15), .ref (ax 17), .ref (ax 18), .ref (ax 19), .ref (ax 20), .int xSr, .int xWm, .int xTp])), ((ax 19), .inl (cA 1, 200, .inr (.inl gKk)))]) hP hD hS hA [0, 6] (by decide) rfl
      refine va_callv (va_runV (As := [.long y_22]) (rest := []) ⟨hx, hb, hml, hown, hts⟩ (k_X7_push l dC dI cA s.heap.size ax xSr xWm xTp gKk y_22 i_xSr i_xTp) (cwV 1 hts gX7_perform_X7_push rfl rfl rfl (by decide +kernel) ⟨Nat.le_of_ble_eq_true rfl, Nat.le_of_ble_eq_true rfl⟩) ⟨fun a U g mk q => by obtain ⟨q0, q1, qP, qK, qD, qN⟩ := q; exact ⟨q0, q1, qP, va_K.moved (u := U) (U := U.calling g mk a) (Vm.Alike.refl U.vm) qK, qD, qN.same rfl⟩, va_recv hK hPc (ci := 7) (q0 := 0) rfl rfl, fun U hU hW => ⟨rfl, by rw [hU], by rw [hU]; exact hPc, va_K.moved hW.alike hK, hDc.weaken (fun _ _ _ _ => trivial), hN.warm hW⟩⟩ rfl rfl hl.1 rfl (lv_room (Nat.le_of_ble_eq_true rfl)) dX7_perform_62 ⟨Nat.le_of_ble_eq_true rfl, Nat.le_of_ble_eq_true rfl⟩) hS (fun q _ h => hFc q h) hFc (fun u_23 t H1 locs ht hvm hw_24 hB hz1 hk1 hS => ?_)
      obtain ⟨w_25, w_26⟩ := u_23
      try dsimp only at hw_24 hB
      have iv_27 := hw_24
      clear hw_24
      obtain ⟨hP1, hD1⟩ := hB
      rw [ht] at hP1
      obtain ⟨hP, hD⟩ := va_joinQ (wr := [((ax 1), .inr (3, [.ref (ax 2), .ref (ax 3), .ref (ax 4), .ref (ax 5), .ref (ax 6), .int xRz, .int xRn])), ((ax 3), .inl (cA 0, 400, .inl gS)), ((ax 4), .inl (cA 0, 400, .inl gM)), ((ax 6), .inl (cA 0, 400, .inl gV)), ((ax 18), .inl (cA 0, 400, .inl gW)), ((ax 20), .inl (cA 1, 20, .inr (.inl gVs)))]) (w1 := [((ax 16), .inr (7, [.ref (ax 1), .ref (ax 7), .ref (ax 15), .ref (ax 17), .ref (ax 18), .ref (ax 19), .ref (ax 20), .int xSr, .int xWm, .int w_26])), ((ax 19), .inl (cA 1, 200, .inr (.inl w_25)))]) hP hD [0, 6] [1, 2, 3, 4, 5, 7] rfl rfl (by decide) (by decide) hk1 hFc hP1 hD1
      clear hz1
      generalize H1 = H at hP hS ⊢
      replace hP : va_P (dC, dI) vwCl (([((ax 1), .inr (3, [.ref (ax 2), .ref (ax 3), .ref (ax 4), .ref (ax 5), .ref (ax 6), .int xRz, .int xRn])), ((ax 3), .inl (cA 0, 400, .inl gS)), ((ax 4), .inl (cA 0, 400, .inl gM)), ((ax 6), .inl (cA 0, 400, .inl gV)), ((ax 18), .inl (cA 0, 400, .inl gW)), ((ax 20), .inl (cA 1, 20, .inr (.inl gVs))), ((ax 16), .inr (7, [.ref (ax 1), .ref (ax 7), .ref (ax 15), .ref (ax 17), .ref (ax 18), .ref (ax 19), .ref (ax 20), .int xSr, .int xWm, .int w_26])), ((ax 19), .inl (cA 1, 200, .inr (.inl w_25)))] : va_W) ++ va_pl L pf) H := hP
      replace hD : va_D A (([((ax 1), .inr (3, [.ref (ax 2), .ref (ax 3), .ref (ax 4), .ref (ax 5), .ref (ax 6), .int xRz, .int xRn])), ((ax 3), .inl (cA 0, 400, .inl gS)), ((ax 4), .inl (cA 0, 400, .inl gM)), ((ax 6), .inl (cA 0, 400, .inl gV)), ((ax 18), .inl (cA 0, 400, .inl gW)), ((ax 20), .inl (cA 1, 20, .inr (.inl gVs))), ((ax 16), .inr (7, [.ref (ax 1), .ref (ax 7), .ref (ax 15), .ref (ax 17), .ref (ax 18), .ref (ax 19), .ref (ax 20), .int xSr, .int xWm, .int w_26])), ((ax 19), .inl (cA 1, 200, .inr (.inl w_25)))] : va_W) ++ va_pl L pf) := hD
      refine lv_goto (tgt := 160) hx hb dX7_perform_65 (by decide) ?_
      have hP9 := hP.part (cx := [((ax 16), .inr (7, [.ref (ax 1), .ref (ax 7), .ref (ax 15), .ref (ax 17), .ref (ax 18), .ref (ax 19), .ref (ax 20), .int xSr, .int xWm, .int w_26])), ((ax 1), .inr (3, [.ref (ax 2), .ref (ax 3), .ref (ax 4), .ref (ax 5), .ref (ax 6), .int xRz, .int xRn])), ((ax 3), .inl (cA 0, 400, .inl gS)), ((ax 4), .inl (cA 0, 400, .inl gM)), ((ax 6), .inl (cA 0, 400, .inl gV)), ((ax 18), .inl (cA 0, 400, .inl gW)), ((ax 19), .inl (cA 1, 200, .inr (.inl w_25))), ((ax 20), .inl (cA 1, 20, .inr (.inl gVs)))]) [6, 0, 1, 2, 3, 4, 7, 5] rfl
      have hD9 := hD.part (cx := [((ax 16), .inr (7, [.ref (ax 1), .ref (ax 7), .ref (ax 15), .ref (ax 17), .ref (ax 18), .ref (ax 19), .ref (ax 20), .int xSr, .int xWm, .int w_26])), ((ax 1), .inr (3, [.ref (ax 2), .ref (ax 3), .ref (ax 4), .ref (ax 5), .ref (ax 6), .int xRz, .int xRn])), ((ax 3), .inl (cA 0, 400, .inl gS)), ((ax 4), .inl (cA 0, 400, .inl gM)), ((ax 6), .inl (cA 0, 400, .inl gV)), ((ax 18), .inl (cA 0, 400, .inl gW)), ((ax 19), .inl (cA 1, 200, .inr (.inl w_25))), ((ax 20), .inl (cA 1, 20, .inr (.inl gVs)))]) [6, 0, 1, 2, 3, 4, 7, 5] (by decide) rfl
      subst hQe
      have hpost : (0 ≤ w_26.toInt ∧ w_26.toInt ≤ 200) := iv_27
      exact W.vret hx hb hr (fun t ht hW => ⟨⟨(w_25, w_26), rfl, hpost, by rw [ht]; exact hP9, hD9⟩, hS.F ht⟩) hS.2.2 dX7_perform_160
    · refine lv_tableIn (off := 64) (tgt := 68) hx hb dX7_perform_4 (by omega) (by omega) (by rw [hsw]; rfl) (by decide) ?_
      refine lv_aload_n hx hb dX7_perform_68 rfl (lv_at hl 0 rfl) ?_
      refine lv_aload_n hx hb dX7_perform_69 rfl (lv_at hl 0 rfl) ?_
      refine va_get (D := (dC, dI)) (ci := 7) (v := .ref (ax 20)) (C := RX7) (T := TX7) (N := 10) hx hb hts hIX7 hown hK hP 0 rfl rfl 6 (by decide) (hts (.fieldLink RX7 23 "TraitHouse$Worker" "values" "[J") (by decide +kernel)) (fun _ h9 => h9) rfl dX7_perform_70 ?_
      refine lv_aload_n hx hb dX7_perform_73 rfl (lv_at hl 1 rfl) ?_
      obtain ⟨pk_28, hpk_28⟩ := va_pl_get (X := [((ax 16), .inr (7, [.ref (ax 1), .ref (ax 7), .ref (ax 15), .ref (ax 17), .ref (ax 18), .ref (ax 19), .ref (ax 20), .int xSr, .int xWm, .int xTp])), ((ax 1), .inr (3, [.ref (ax 2), .ref (ax 3), .ref (ax 4), .ref (ax 5), .ref (ax 6), .int xRz, .int xRn])), ((ax 3), .inl (cA 0, 400, .inl gS)), ((ax 4), .inl (cA 0, 400, .inl gM)), ((ax 6), .inl (cA 0, 400, .inl gV)), ((ax 18), .inl (cA 0, 400, .inl gW)), ((ax 19), .inl (cA 1, 200, .inr (.inl gKk))), ((ax 20), .inl (cA 1, 20, .inr (.inl gVs)))]) (f := pf) hsm
      have gpk_28 := hpk_28
      rw [hsf] at hpk_28
      refine va_getN (D := (dC, dI)) (ci := 4) (v := .int nb) (C := RX4) (T := TX4) (N := 4) hx hb hts hIX4 hown hK hP pk_28 hpk_28 rfl 1 (by decide) (va_Nw.use rfl (nw_at hN 18 rfl)) (fun _ h9 => h9) rfl dX7_perform_74 ?_
      have h_29 : vp_in nb 20 := (vp_in_iff.mpr ⟨by omega, by omega⟩)
      refine va_lald hx hb hK hP 7 1 rfl rfl h_29 dX7_perform_77 ?_
      refine lv_topl (fun y_30 ey_30 => ?_)
      obtain ⟨hPc, hDc, hFc, hCc⟩ := va_pre (ws' := [((ax 16), .inr (7, [.ref (ax 1), .ref (ax 7), .ref (ax 15), .ref (ax 17), .ref (ax 18), .ref (ax 19), .ref (ax 20), .int xSr, .int xWm, .int xTp])), ((ax 19), .inl (cA 1, 200, .inr (.inl gKk)))]) hP hD hS hA [0, 6] (by decide) rfl
      refine va_callv (va_runV (As := [.long y_30]) (rest := []) ⟨hx, hb, hml, hown, hts⟩ (k_X7_push l dC dI cA s.heap.size ax xSr xWm xTp gKk y_30 i_xSr i_xTp) (cwV 1 hts gX7_perform_X7_push rfl rfl rfl (by decide +kernel) ⟨Nat.le_of_ble_eq_true rfl, Nat.le_of_ble_eq_true rfl⟩) ⟨fun a U g mk q => by obtain ⟨q0, q1, qP, qK, qD, qN⟩ := q; exact ⟨q0, q1, qP, va_K.moved (u := U) (U := U.calling g mk a) (Vm.Alike.refl U.vm) qK, qD, qN.same rfl⟩, va_recv hK hPc (ci := 7) (q0 := 0) rfl rfl, fun U hU hW => ⟨rfl, by rw [hU], by rw [hU]; exact hPc, va_K.moved hW.alike hK, hDc.weaken (fun _ _ _ _ => trivial), hN.warm hW⟩⟩ rfl rfl hl.1 rfl (lv_room (Nat.le_of_ble_eq_true rfl)) dX7_perform_78 ⟨Nat.le_of_ble_eq_true rfl, Nat.le_of_ble_eq_true rfl⟩) hS (fun q _ h => hFc q h) hFc (fun u_31 t H1 locs ht hvm hw_32 hB hz1 hk1 hS => ?_)
      obtain ⟨w_33, w_34⟩ := u_31
      try dsimp only at hw_32 hB
      have iv_35 := hw_32
      clear hw_32
      obtain ⟨hP1, hD1⟩ := hB
      rw [ht] at hP1
      obtain ⟨hP, hD⟩ := va_joinQ (wr := [((ax 1), .inr (3, [.ref (ax 2), .ref (ax 3), .ref (ax 4), .ref (ax 5), .ref (ax 6), .int xRz, .int xRn])), ((ax 3), .inl (cA 0, 400, .inl gS)), ((ax 4), .inl (cA 0, 400, .inl gM)), ((ax 6), .inl (cA 0, 400, .inl gV)), ((ax 18), .inl (cA 0, 400, .inl gW)), ((ax 20), .inl (cA 1, 20, .inr (.inl gVs)))]) (w1 := [((ax 16), .inr (7, [.ref (ax 1), .ref (ax 7), .ref (ax 15), .ref (ax 17), .ref (ax 18), .ref (ax 19), .ref (ax 20), .int xSr, .int xWm, .int w_34])), ((ax 19), .inl (cA 1, 200, .inr (.inl w_33)))]) hP hD [0, 6] [1, 2, 3, 4, 5, 7] rfl rfl (by decide) (by decide) hk1 hFc hP1 hD1
      clear hz1
      generalize H1 = H at hP hS ⊢
      replace hP : va_P (dC, dI) vwCl (([((ax 1), .inr (3, [.ref (ax 2), .ref (ax 3), .ref (ax 4), .ref (ax 5), .ref (ax 6), .int xRz, .int xRn])), ((ax 3), .inl (cA 0, 400, .inl gS)), ((ax 4), .inl (cA 0, 400, .inl gM)), ((ax 6), .inl (cA 0, 400, .inl gV)), ((ax 18), .inl (cA 0, 400, .inl gW)), ((ax 20), .inl (cA 1, 20, .inr (.inl gVs))), ((ax 16), .inr (7, [.ref (ax 1), .ref (ax 7), .ref (ax 15), .ref (ax 17), .ref (ax 18), .ref (ax 19), .ref (ax 20), .int xSr, .int xWm, .int w_34])), ((ax 19), .inl (cA 1, 200, .inr (.inl w_33)))] : va_W) ++ va_pl L pf) H := hP
      replace hD : va_D A (([((ax 1), .inr (3, [.ref (ax 2), .ref (ax 3), .ref (ax 4), .ref (ax 5), .ref (ax 6), .int xRz, .int xRn])), ((ax 3), .inl (cA 0, 400, .inl gS)), ((ax 4), .inl (cA 0, 400, .inl gM)), ((ax 6), .inl (cA 0, 400, .inl gV)), ((ax 18), .inl (cA 0, 400, .inl gW)), ((ax 20), .inl (cA 1, 20, .inr (.inl gVs))), ((ax 16), .inr (7, [.ref (ax 1), .ref (ax 7), .ref (ax 15), .ref (ax 17), .ref (ax 18), .ref (ax 19), .ref (ax 20), .int xSr, .int xWm, .int w_34])), ((ax 19), .inl (cA 1, 200, .inr (.inl w_33)))] : va_W) ++ va_pl L pf) := hD
      refine lv_goto (tgt := 160) hx hb dX7_perform_81 (by decide) ?_
      have hP9 := hP.part (cx := [((ax 16), .inr (7, [.ref (ax 1), .ref (ax 7), .ref (ax 15), .ref (ax 17), .ref (ax 18), .ref (ax 19), .ref (ax 20), .int xSr, .int xWm, .int w_34])), ((ax 1), .inr (3, [.ref (ax 2), .ref (ax 3), .ref (ax 4), .ref (ax 5), .ref (ax 6), .int xRz, .int xRn])), ((ax 3), .inl (cA 0, 400, .inl gS)), ((ax 4), .inl (cA 0, 400, .inl gM)), ((ax 6), .inl (cA 0, 400, .inl gV)), ((ax 18), .inl (cA 0, 400, .inl gW)), ((ax 19), .inl (cA 1, 200, .inr (.inl w_33))), ((ax 20), .inl (cA 1, 20, .inr (.inl gVs)))]) [6, 0, 1, 2, 3, 4, 7, 5] rfl
      have hD9 := hD.part (cx := [((ax 16), .inr (7, [.ref (ax 1), .ref (ax 7), .ref (ax 15), .ref (ax 17), .ref (ax 18), .ref (ax 19), .ref (ax 20), .int xSr, .int xWm, .int w_34])), ((ax 1), .inr (3, [.ref (ax 2), .ref (ax 3), .ref (ax 4), .ref (ax 5), .ref (ax 6), .int xRz, .int xRn])), ((ax 3), .inl (cA 0, 400, .inl gS)), ((ax 4), .inl (cA 0, 400, .inl gM)), ((ax 6), .inl (cA 0, 400, .inl gV)), ((ax 18), .inl (cA 0, 400, .inl gW)), ((ax 19), .inl (cA 1, 200, .inr (.inl w_33))), ((ax 20), .inl (cA 1, 20, .inr (.inl gVs)))]) [6, 0, 1, 2, 3, 4, 7, 5] (by decide) rfl
      subst hQe
      have hpost : (0 ≤ w_34.toInt ∧ w_34.toInt ≤ 200) := iv_35
      exact W.vret hx hb hr (fun t ht hW => ⟨⟨(w_33, w_34), rfl, hpost, by rw [ht]; exact hP9, hD9⟩, hS.F ht⟩) hS.2.2 dX7_perform_160
    · refine lv_tableIn (off := 80) (tgt := 84) hx hb dX7_perform_4 (by omega) (by omega) (by rw [hsw]; rfl) (by decide) ?_
      refine lv_aload_n hx hb dX7_perform_84 rfl (lv_at hl 0 rfl) ?_
      refine lv_aload_n hx hb dX7_perform_85 rfl (lv_at hl 0 rfl) ?_
      refine lv_aload_n hx hb dX7_perform_86 rfl (lv_at hl 1 rfl) ?_
      have hPc := hP.part (cx := [((ax 16), .inr (7, [.ref (ax 1), .ref (ax 7), .ref (ax 15), .ref (ax 17), .ref (ax 18), .ref (ax 19), .ref (ax 20), .int xSr, .int xWm, .int xTp])), ((ax 1), .inr (3, [.ref (ax 2), .ref (ax 3), .ref (ax 4), .ref (ax 5), .ref (ax 6), .int xRz, .int xRn])), ((ax 3), .inl (cA 0, 400, .inl gS)), ((ax 4), .inl (cA 0, 400, .inl gM)), ((ax 6), .inl (cA 0, 400, .inl gV)), ((ax 18), .inl (cA 0, 400, .inl gW))]) [0, 1, 2, 3, 4, 5] rfl
      have hDc := hD.part (cx := [((ax 16), .inr (7, [.ref (ax 1), .ref (ax 7), .ref (ax 15), .ref (ax 17), .ref (ax 18), .ref (ax 19), .ref (ax 20), .int xSr, .int xWm, .int xTp])), ((ax 1), .inr (3, [.ref (ax 2), .ref (ax 3), .ref (ax 4), .ref (ax 5), .ref (ax 6), .int xRz, .int xRn])), ((ax 3), .inl (cA 0, 400, .inl gS)), ((ax 4), .inl (cA 0, 400, .inl gM)), ((ax 6), .inl (cA 0, 400, .inl gV)), ((ax 18), .inl (cA 0, 400, .inl gW))]) [0, 1, 2, 3, 4, 5] (by decide) rfl
      have hFc := va_freeP (cx := [((ax 16), .inr (7, [.ref (ax 1), .ref (ax 7), .ref (ax 15), .ref (ax 17), .ref (ax 18), .ref (ax 19), .ref (ax 20), .int xSr, .int xWm, .int xTp])), ((ax 1), .inr (3, [.ref (ax 2), .ref (ax 3), .ref (ax 4), .ref (ax 5), .ref (ax 6), .int xRz, .int xRn])), ((ax 3), .inl (cA 0, 400, .inl gS)), ((ax 4), .inl (cA 0, 400, .inl gM)), ((ax 6), .inl (cA 0, 400, .inl gV)), ((ax 18), .inl (cA 0, 400, .inl gW))]) hD hS hA [0, 1, 2, 3, 4, 5] rfl
      refine va_calll (va_runV (As := [.ref sa]) (rest := [.ref (ax 16)]) ⟨hx, hb, hml, hown, hts⟩ (k_X7_latest l dC dI cA s.heap.size ax xSr xWm xTp xRz xRn gS gM gV gW L pf sa kd nb fr to i_xSr i_xTp i_xRz i_gW hsm hsf) (cwV 1 hts gX7_perform_X7_latest rfl rfl rfl (by decide +kernel) ⟨Nat.le_of_ble_eq_true rfl, Nat.le_of_ble_eq_true rfl⟩) ⟨fun a U g mk q => by obtain ⟨q0, q1, qP, qK, qD, qN⟩ := q; exact ⟨q0, q1, qP, va_K.moved (u := U) (U := U.calling g mk a) (Vm.Alike.refl U.vm) qK, qD, qN.same rfl⟩, va_recv hK hPc (ci := 7) (q0 := 0) rfl rfl, fun U hU hW => ⟨rfl, by rw [hU], by rw [hU]; exact hPc, va_K.moved hW.alike hK, hDc.weaken (fun _ _ _ _ => trivial), hN.warm hW⟩⟩ rfl rfl hl.1 rfl (lv_room (Nat.le_of_ble_eq_true rfl)) dX7_perform_87 ⟨Nat.le_of_ble_eq_true rfl, Nat.le_of_ble_eq_true rfl⟩) hS (fun q _ h => hFc q h) hFc (fun r_36 u_37 t H1 locs ht hvm hw_38 hB hz1 hk1 hS => ?_)
      try dsimp only at hw_38 hB
      obtain ⟨hP1, hD1⟩ := hB
      rw [ht] at hP1
      obtain ⟨hP, hD⟩ := va_joinP (wr := [((ax 19), .inl (cA 1, 200, .inr (.inl gKk))), ((ax 20), .inl (cA 1, 20, .inr (.inl gVs)))]) (rx := [((ax 16), .inr (7, [.ref (ax 1), .ref (ax 7), .ref (ax 15), .ref (ax 17), .ref (ax 18), .ref (ax 19), .ref (ax 20), .int xSr, .int xWm, .int xTp])), ((ax 1), .inr (3, [.ref (ax 2), .ref (ax 3), .ref (ax 4), .ref (ax 5), .ref (ax 6), .int xRz, .int xRn])), ((ax 3), .inl (cA 0, 400, .inl gS)), ((ax 4), .inl (cA 0, 400, .inl gM)), ((ax 6), .inl (cA 0, 400, .inl gV)), ((ax 18), .inl (cA 0, 400, .inl gW))]) (pl1 := va_pl L pf) hP hD [0, 1, 2, 3, 4, 5] [6, 7] rfl rfl (by decide) (by decide) hk1 hFc hP1 hD1
      clear hz1
      generalize H1 = H at hP hS ⊢
      replace hP : va_P (dC, dI) vwCl (([((ax 19), .inl (cA 1, 200, .inr (.inl gKk))), ((ax 20), .inl (cA 1, 20, .inr (.inl gVs))), ((ax 16), .inr (7, [.ref (ax 1), .ref (ax 7), .ref (ax 15), .ref (ax 17), .ref (ax 18), .ref (ax 19), .ref (ax 20), .int xSr, .int xWm, .int xTp])), ((ax 1), .inr (3, [.ref (ax 2), .ref (ax 3), .ref (ax 4), .ref (ax 5), .ref (ax 6), .int xRz, .int xRn])), ((ax 3), .inl (cA 0, 400, .inl gS)), ((ax 4), .inl (cA 0, 400, .inl gM)), ((ax 6), .inl (cA 0, 400, .inl gV)), ((ax 18), .inl (cA 0, 400, .inl gW))] : va_W) ++ va_pl L pf) H := hP
      replace hD : va_D A (([((ax 19), .inl (cA 1, 200, .inr (.inl gKk))), ((ax 20), .inl (cA 1, 20, .inr (.inl gVs))), ((ax 16), .inr (7, [.ref (ax 1), .ref (ax 7), .ref (ax 15), .ref (ax 17), .ref (ax 18), .ref (ax 19), .ref (ax 20), .int xSr, .int xWm, .int xTp])), ((ax 1), .inr (3, [.ref (ax 2), .ref (ax 3), .ref (ax 4), .ref (ax 5), .ref (ax 6), .int xRz, .int xRn])), ((ax 3), .inl (cA 0, 400, .inl gS)), ((ax 4), .inl (cA 0, 400, .inl gM)), ((ax 6), .inl (cA 0, 400, .inl gV)), ((ax 18), .inl (cA 0, 400, .inl gW))] : va_W) ++ va_pl L pf) := hD
      obtain ⟨hPc, hDc, hFc, hCc⟩ := va_pre (ws' := [((ax 16), .inr (7, [.ref (ax 1), .ref (ax 7), .ref (ax 15), .ref (ax 17), .ref (ax 18), .ref (ax 19), .ref (ax 20), .int xSr, .int xWm, .int xTp])), ((ax 19), .inl (cA 1, 200, .inr (.inl gKk)))]) hP hD hS hA [2, 0] (by decide) rfl
      refine va_callv (va_runV (As := [.long r_36]) (rest := []) ⟨hx, hb, hml, hown, hts⟩ (k_X7_push l dC dI cA H.size ax xSr xWm xTp gKk r_36 i_xSr i_xTp) (cwV 1 hts gX7_perform_X7_push rfl rfl rfl (by decide +kernel) ⟨Nat.le_of_ble_eq_true rfl, Nat.le_of_ble_eq_true rfl⟩) ⟨fun a U g mk q => by obtain ⟨q0, q1, qP, qK, qD, qN⟩ := q; exact ⟨q0, q1, qP, va_K.moved (u := U) (U := U.calling g mk a) (Vm.Alike.refl U.vm) qK, qD, qN.same rfl⟩, va_recv hK hPc (ci := 7) (q0 := 0) rfl rfl, fun U hU hW => ⟨rfl, by rw [hU], by rw [hU]; exact hPc, va_K.moved hW.alike hK, hDc.weaken (fun _ _ _ _ => trivial), hN.warm hW⟩⟩ rfl rfl hl.1 rfl (lv_room (Nat.le_of_ble_eq_true rfl)) dX7_perform_90 ⟨Nat.le_of_ble_eq_true rfl, Nat.le_of_ble_eq_true rfl⟩) hS (fun q _ h => hFc q h) hFc (fun u_39 t H1 locs ht hvm hw_40 hB hz1 hk1 hS => ?_)
      obtain ⟨w_41, w_42⟩ := u_39
      try dsimp only at hw_40 hB
      have iv_43 := hw_40
      clear hw_40
      obtain ⟨hP1, hD1⟩ := hB
      rw [ht] at hP1
      obtain ⟨hP, hD⟩ := va_joinQ (wr := [((ax 20), .inl (cA 1, 20, .inr (.inl gVs))), ((ax 1), .inr (3, [.ref (ax 2), .ref (ax 3), .ref (ax 4), .ref (ax 5), .ref (ax 6), .int xRz, .int xRn])), ((ax 3), .inl (cA 0, 400, .inl gS)), ((ax 4), .inl (cA 0, 400, .inl gM)), ((ax 6), .inl (cA 0, 400, .inl gV)), ((ax 18), .inl (cA 0, 400, .inl gW))]) (w1 := [((ax 16), .inr (7, [.ref (ax 1), .ref (ax 7), .ref (ax 15), .ref (ax 17), .ref (ax 18), .ref (ax 19), .ref (ax 20), .int xSr, .int xWm, .int w_42])), ((ax 19), .inl (cA 1, 200, .inr (.inl w_41)))]) hP hD [2, 0] [1, 3, 4, 5, 6, 7] rfl rfl (by decide) (by decide) hk1 hFc hP1 hD1
      clear hz1
      generalize H1 = H at hP hS ⊢
      replace hP : va_P (dC, dI) vwCl (([((ax 20), .inl (cA 1, 20, .inr (.inl gVs))), ((ax 1), .inr (3, [.ref (ax 2), .ref (ax 3), .ref (ax 4), .ref (ax 5), .ref (ax 6), .int xRz, .int xRn])), ((ax 3), .inl (cA 0, 400, .inl gS)), ((ax 4), .inl (cA 0, 400, .inl gM)), ((ax 6), .inl (cA 0, 400, .inl gV)), ((ax 18), .inl (cA 0, 400, .inl gW)), ((ax 16), .inr (7, [.ref (ax 1), .ref (ax 7), .ref (ax 15), .ref (ax 17), .ref (ax 18), .ref (ax 19), .ref (ax 20), .int xSr, .int xWm, .int w_42])), ((ax 19), .inl (cA 1, 200, .inr (.inl w_41)))] : va_W) ++ va_pl L pf) H := hP
      replace hD : va_D A (([((ax 20), .inl (cA 1, 20, .inr (.inl gVs))), ((ax 1), .inr (3, [.ref (ax 2), .ref (ax 3), .ref (ax 4), .ref (ax 5), .ref (ax 6), .int xRz, .int xRn])), ((ax 3), .inl (cA 0, 400, .inl gS)), ((ax 4), .inl (cA 0, 400, .inl gM)), ((ax 6), .inl (cA 0, 400, .inl gV)), ((ax 18), .inl (cA 0, 400, .inl gW)), ((ax 16), .inr (7, [.ref (ax 1), .ref (ax 7), .ref (ax 15), .ref (ax 17), .ref (ax 18), .ref (ax 19), .ref (ax 20), .int xSr, .int xWm, .int w_42])), ((ax 19), .inl (cA 1, 200, .inr (.inl w_41)))] : va_W) ++ va_pl L pf) := hD
      refine lv_goto (tgt := 160) hx hb dX7_perform_93 (by decide) ?_
      have hP9 := hP.part (cx := [((ax 16), .inr (7, [.ref (ax 1), .ref (ax 7), .ref (ax 15), .ref (ax 17), .ref (ax 18), .ref (ax 19), .ref (ax 20), .int xSr, .int xWm, .int w_42])), ((ax 1), .inr (3, [.ref (ax 2), .ref (ax 3), .ref (ax 4), .ref (ax 5), .ref (ax 6), .int xRz, .int xRn])), ((ax 3), .inl (cA 0, 400, .inl gS)), ((ax 4), .inl (cA 0, 400, .inl gM)), ((ax 6), .inl (cA 0, 400, .inl gV)), ((ax 18), .inl (cA 0, 400, .inl gW)), ((ax 19), .inl (cA 1, 200, .inr (.inl w_41))), ((ax 20), .inl (cA 1, 20, .inr (.inl gVs)))]) [6, 1, 2, 3, 4, 5, 7, 0] rfl
      have hD9 := hD.part (cx := [((ax 16), .inr (7, [.ref (ax 1), .ref (ax 7), .ref (ax 15), .ref (ax 17), .ref (ax 18), .ref (ax 19), .ref (ax 20), .int xSr, .int xWm, .int w_42])), ((ax 1), .inr (3, [.ref (ax 2), .ref (ax 3), .ref (ax 4), .ref (ax 5), .ref (ax 6), .int xRz, .int xRn])), ((ax 3), .inl (cA 0, 400, .inl gS)), ((ax 4), .inl (cA 0, 400, .inl gM)), ((ax 6), .inl (cA 0, 400, .inl gV)), ((ax 18), .inl (cA 0, 400, .inl gW)), ((ax 19), .inl (cA 1, 200, .inr (.inl w_41))), ((ax 20), .inl (cA 1, 20, .inr (.inl gVs)))]) [6, 1, 2, 3, 4, 5, 7, 0] (by decide) rfl
      subst hQe
      have hpost : (0 ≤ w_42.toInt ∧ w_42.toInt ≤ 200) := iv_43
      exact W.vret hx hb hr (fun t ht hW => ⟨⟨(w_41, w_42), rfl, hpost, by rw [ht]; exact hP9, hD9⟩, hS.F ht⟩) hS.2.2 dX7_perform_160
    · refine lv_tableIn (off := 80) (tgt := 84) hx hb dX7_perform_4 (by omega) (by omega) (by rw [hsw]; rfl) (by decide) ?_
      refine lv_aload_n hx hb dX7_perform_84 rfl (lv_at hl 0 rfl) ?_
      refine lv_aload_n hx hb dX7_perform_85 rfl (lv_at hl 0 rfl) ?_
      refine lv_aload_n hx hb dX7_perform_86 rfl (lv_at hl 1 rfl) ?_
      have hPc := hP.part (cx := [((ax 16), .inr (7, [.ref (ax 1), .ref (ax 7), .ref (ax 15), .ref (ax 17), .ref (ax 18), .ref (ax 19), .ref (ax 20), .int xSr, .int xWm, .int xTp])), ((ax 1), .inr (3, [.ref (ax 2), .ref (ax 3), .ref (ax 4), .ref (ax 5), .ref (ax 6), .int xRz, .int xRn])), ((ax 3), .inl (cA 0, 400, .inl gS)), ((ax 4), .inl (cA 0, 400, .inl gM)), ((ax 6), .inl (cA 0, 400, .inl gV)), ((ax 18), .inl (cA 0, 400, .inl gW))]) [0, 1, 2, 3, 4, 5] rfl
      have hDc := hD.part (cx := [((ax 16), .inr (7, [.ref (ax 1), .ref (ax 7), .ref (ax 15), .ref (ax 17), .ref (ax 18), .ref (ax 19), .ref (ax 20), .int xSr, .int xWm, .int xTp])), ((ax 1), .inr (3, [.ref (ax 2), .ref (ax 3), .ref (ax 4), .ref (ax 5), .ref (ax 6), .int xRz, .int xRn])), ((ax 3), .inl (cA 0, 400, .inl gS)), ((ax 4), .inl (cA 0, 400, .inl gM)), ((ax 6), .inl (cA 0, 400, .inl gV)), ((ax 18), .inl (cA 0, 400, .inl gW))]) [0, 1, 2, 3, 4, 5] (by decide) rfl
      have hFc := va_freeP (cx := [((ax 16), .inr (7, [.ref (ax 1), .ref (ax 7), .ref (ax 15), .ref (ax 17), .ref (ax 18), .ref (ax 19), .ref (ax 20), .int xSr, .int xWm, .int xTp])), ((ax 1), .inr (3, [.ref (ax 2), .ref (ax 3), .ref (ax 4), .ref (ax 5), .ref (ax 6), .int xRz, .int xRn])), ((ax 3), .inl (cA 0, 400, .inl gS)), ((ax 4), .inl (cA 0, 400, .inl gM)), ((ax 6), .inl (cA 0, 400, .inl gV)), ((ax 18), .inl (cA 0, 400, .inl gW))]) hD hS hA [0, 1, 2, 3, 4, 5] rfl
      refine va_calll (va_runV (As := [.ref sa]) (rest := [.ref (ax 16)]) ⟨hx, hb, hml, hown, hts⟩ (k_X7_latest l dC dI cA s.heap.size ax xSr xWm xTp xRz xRn gS gM gV gW L pf sa kd nb fr to i_xSr i_xTp i_xRz i_gW hsm hsf) (cwV 1 hts gX7_perform_X7_latest rfl rfl rfl (by decide +kernel) ⟨Nat.le_of_ble_eq_true rfl, Nat.le_of_ble_eq_true rfl⟩) ⟨fun a U g mk q => by obtain ⟨q0, q1, qP, qK, qD, qN⟩ := q; exact ⟨q0, q1, qP, va_K.moved (u := U) (U := U.calling g mk a) (Vm.Alike.refl U.vm) qK, qD, qN.same rfl⟩, va_recv hK hPc (ci := 7) (q0 := 0) rfl rfl, fun U hU hW => ⟨rfl, by rw [hU], by rw [hU]; exact hPc, va_K.moved hW.alike hK, hDc.weaken (fun _ _ _ _ => trivial), hN.warm hW⟩⟩ rfl rfl hl.1 rfl (lv_room (Nat.le_of_ble_eq_true rfl)) dX7_perform_87 ⟨Nat.le_of_ble_eq_true rfl, Nat.le_of_ble_eq_true rfl⟩) hS (fun q _ h => hFc q h) hFc (fun r_44 u_45 t H1 locs ht hvm hw_46 hB hz1 hk1 hS => ?_)
      try dsimp only at hw_46 hB
      obtain ⟨hP1, hD1⟩ := hB
      rw [ht] at hP1
      obtain ⟨hP, hD⟩ := va_joinP (wr := [((ax 19), .inl (cA 1, 200, .inr (.inl gKk))), ((ax 20), .inl (cA 1, 20, .inr (.inl gVs)))]) (rx := [((ax 16), .inr (7, [.ref (ax 1), .ref (ax 7), .ref (ax 15), .ref (ax 17), .ref (ax 18), .ref (ax 19), .ref (ax 20), .int xSr, .int xWm, .int xTp])), ((ax 1), .inr (3, [.ref (ax 2), .ref (ax 3), .ref (ax 4), .ref (ax 5), .ref (ax 6), .int xRz, .int xRn])), ((ax 3), .inl (cA 0, 400, .inl gS)), ((ax 4), .inl (cA 0, 400, .inl gM)), ((ax 6), .inl (cA 0, 400, .inl gV)), ((ax 18), .inl (cA 0, 400, .inl gW))]) (pl1 := va_pl L pf) hP hD [0, 1, 2, 3, 4, 5] [6, 7] rfl rfl (by decide) (by decide) hk1 hFc hP1 hD1
      clear hz1
      generalize H1 = H at hP hS ⊢
      replace hP : va_P (dC, dI) vwCl (([((ax 19), .inl (cA 1, 200, .inr (.inl gKk))), ((ax 20), .inl (cA 1, 20, .inr (.inl gVs))), ((ax 16), .inr (7, [.ref (ax 1), .ref (ax 7), .ref (ax 15), .ref (ax 17), .ref (ax 18), .ref (ax 19), .ref (ax 20), .int xSr, .int xWm, .int xTp])), ((ax 1), .inr (3, [.ref (ax 2), .ref (ax 3), .ref (ax 4), .ref (ax 5), .ref (ax 6), .int xRz, .int xRn])), ((ax 3), .inl (cA 0, 400, .inl gS)), ((ax 4), .inl (cA 0, 400, .inl gM)), ((ax 6), .inl (cA 0, 400, .inl gV)), ((ax 18), .inl (cA 0, 400, .inl gW))] : va_W) ++ va_pl L pf) H := hP
      replace hD : va_D A (([((ax 19), .inl (cA 1, 200, .inr (.inl gKk))), ((ax 20), .inl (cA 1, 20, .inr (.inl gVs))), ((ax 16), .inr (7, [.ref (ax 1), .ref (ax 7), .ref (ax 15), .ref (ax 17), .ref (ax 18), .ref (ax 19), .ref (ax 20), .int xSr, .int xWm, .int xTp])), ((ax 1), .inr (3, [.ref (ax 2), .ref (ax 3), .ref (ax 4), .ref (ax 5), .ref (ax 6), .int xRz, .int xRn])), ((ax 3), .inl (cA 0, 400, .inl gS)), ((ax 4), .inl (cA 0, 400, .inl gM)), ((ax 6), .inl (cA 0, 400, .inl gV)), ((ax 18), .inl (cA 0, 400, .inl gW))] : va_W) ++ va_pl L pf) := hD
      obtain ⟨hPc, hDc, hFc, hCc⟩ := va_pre (ws' := [((ax 16), .inr (7, [.ref (ax 1), .ref (ax 7), .ref (ax 15), .ref (ax 17), .ref (ax 18), .ref (ax 19), .ref (ax 20), .int xSr, .int xWm, .int xTp])), ((ax 19), .inl (cA 1, 200, .inr (.inl gKk)))]) hP hD hS hA [2, 0] (by decide) rfl
      refine va_callv (va_runV (As := [.long r_44]) (rest := []) ⟨hx, hb, hml, hown, hts⟩ (k_X7_push l dC dI cA H.size ax xSr xWm xTp gKk r_44 i_xSr i_xTp) (cwV 1 hts gX7_perform_X7_push rfl rfl rfl (by decide +kernel) ⟨Nat.le_of_ble_eq_true rfl, Nat.le_of_ble_eq_true rfl⟩) ⟨fun a U g mk q => by obtain ⟨q0, q1, qP, qK, qD, qN⟩ := q; exact ⟨q0, q1, qP, va_K.moved (u := U) (U := U.calling g mk a) (Vm.Alike.refl U.vm) qK, qD, qN.same rfl⟩, va_recv hK hPc (ci := 7) (q0 := 0) rfl rfl, fun U hU hW => ⟨rfl, by rw [hU], by rw [hU]; exact hPc, va_K.moved hW.alike hK, hDc.weaken (fun _ _ _ _ => trivial), hN.warm hW⟩⟩ rfl rfl hl.1 rfl (lv_room (Nat.le_of_ble_eq_true rfl)) dX7_perform_90 ⟨Nat.le_of_ble_eq_true rfl, Nat.le_of_ble_eq_true rfl⟩) hS (fun q _ h => hFc q h) hFc (fun u_47 t H1 locs ht hvm hw_48 hB hz1 hk1 hS => ?_)
      obtain ⟨w_49, w_50⟩ := u_47
      try dsimp only at hw_48 hB
      have iv_51 := hw_48
      clear hw_48
      obtain ⟨hP1, hD1⟩ := hB
      rw [ht] at hP1
      obtain ⟨hP, hD⟩ := va_joinQ (wr := [((ax 20), .inl (cA 1, 20, .inr (.inl gVs))), ((ax 1), .inr (3, [.ref (ax 2), .ref (ax 3), .ref (ax 4), .ref (ax 5), .ref (ax 6), .int xRz, .int xRn])), ((ax 3), .inl (cA 0, 400, .inl gS)), ((ax 4), .inl (cA 0, 400, .inl gM)), ((ax 6), .inl (cA 0, 400, .inl gV)), ((ax 18), .inl (cA 0, 400, .inl gW))]) (w1 := [((ax 16), .inr (7, [.ref (ax 1), .ref (ax 7), .ref (ax 15), .ref (ax 17), .ref (ax 18), .ref (ax 19), .ref (ax 20), .int xSr, .int xWm, .int w_50])), ((ax 19), .inl (cA 1, 200, .inr (.inl w_49)))]) hP hD [2, 0] [1, 3, 4, 5, 6, 7] rfl rfl (by decide) (by decide) hk1 hFc hP1 hD1
      clear hz1
      generalize H1 = H at hP hS ⊢
      replace hP : va_P (dC, dI) vwCl (([((ax 20), .inl (cA 1, 20, .inr (.inl gVs))), ((ax 1), .inr (3, [.ref (ax 2), .ref (ax 3), .ref (ax 4), .ref (ax 5), .ref (ax 6), .int xRz, .int xRn])), ((ax 3), .inl (cA 0, 400, .inl gS)), ((ax 4), .inl (cA 0, 400, .inl gM)), ((ax 6), .inl (cA 0, 400, .inl gV)), ((ax 18), .inl (cA 0, 400, .inl gW)), ((ax 16), .inr (7, [.ref (ax 1), .ref (ax 7), .ref (ax 15), .ref (ax 17), .ref (ax 18), .ref (ax 19), .ref (ax 20), .int xSr, .int xWm, .int w_50])), ((ax 19), .inl (cA 1, 200, .inr (.inl w_49)))] : va_W) ++ va_pl L pf) H := hP
      replace hD : va_D A (([((ax 20), .inl (cA 1, 20, .inr (.inl gVs))), ((ax 1), .inr (3, [.ref (ax 2), .ref (ax 3), .ref (ax 4), .ref (ax 5), .ref (ax 6), .int xRz, .int xRn])), ((ax 3), .inl (cA 0, 400, .inl gS)), ((ax 4), .inl (cA 0, 400, .inl gM)), ((ax 6), .inl (cA 0, 400, .inl gV)), ((ax 18), .inl (cA 0, 400, .inl gW)), ((ax 16), .inr (7, [.ref (ax 1), .ref (ax 7), .ref (ax 15), .ref (ax 17), .ref (ax 18), .ref (ax 19), .ref (ax 20), .int xSr, .int xWm, .int w_50])), ((ax 19), .inl (cA 1, 200, .inr (.inl w_49)))] : va_W) ++ va_pl L pf) := hD
      refine lv_goto (tgt := 160) hx hb dX7_perform_93 (by decide) ?_
      have hP9 := hP.part (cx := [((ax 16), .inr (7, [.ref (ax 1), .ref (ax 7), .ref (ax 15), .ref (ax 17), .ref (ax 18), .ref (ax 19), .ref (ax 20), .int xSr, .int xWm, .int w_50])), ((ax 1), .inr (3, [.ref (ax 2), .ref (ax 3), .ref (ax 4), .ref (ax 5), .ref (ax 6), .int xRz, .int xRn])), ((ax 3), .inl (cA 0, 400, .inl gS)), ((ax 4), .inl (cA 0, 400, .inl gM)), ((ax 6), .inl (cA 0, 400, .inl gV)), ((ax 18), .inl (cA 0, 400, .inl gW)), ((ax 19), .inl (cA 1, 200, .inr (.inl w_49))), ((ax 20), .inl (cA 1, 20, .inr (.inl gVs)))]) [6, 1, 2, 3, 4, 5, 7, 0] rfl
      have hD9 := hD.part (cx := [((ax 16), .inr (7, [.ref (ax 1), .ref (ax 7), .ref (ax 15), .ref (ax 17), .ref (ax 18), .ref (ax 19), .ref (ax 20), .int xSr, .int xWm, .int w_50])), ((ax 1), .inr (3, [.ref (ax 2), .ref (ax 3), .ref (ax 4), .ref (ax 5), .ref (ax 6), .int xRz, .int xRn])), ((ax 3), .inl (cA 0, 400, .inl gS)), ((ax 4), .inl (cA 0, 400, .inl gM)), ((ax 6), .inl (cA 0, 400, .inl gV)), ((ax 18), .inl (cA 0, 400, .inl gW)), ((ax 19), .inl (cA 1, 200, .inr (.inl w_49))), ((ax 20), .inl (cA 1, 20, .inr (.inl gVs)))]) [6, 1, 2, 3, 4, 5, 7, 0] (by decide) rfl
      subst hQe
      have hpost : (0 ≤ w_50.toInt ∧ w_50.toInt ≤ 200) := iv_51
      exact W.vret hx hb hr (fun t ht hW => ⟨⟨(w_49, w_50), rfl, hpost, by rw [ht]; exact hP9, hD9⟩, hS.F ht⟩) hS.2.2 dX7_perform_160
    · refine lv_tableIn (off := 92) (tgt := 96) hx hb dX7_perform_4 (by omega) (by omega) (by rw [hsw]; rfl) (by decide) ?_
      refine lv_aload_n hx hb dX7_perform_96 rfl (lv_at hl 0 rfl) ?_
      refine lv_aload_n hx hb dX7_perform_97 rfl (lv_at hl 0 rfl) ?_
      refine lv_aload_n hx hb dX7_perform_98 rfl (lv_at hl 1 rfl) ?_
      have hPc := hP.part (cx := [((ax 16), .inr (7, [.ref (ax 1), .ref (ax 7), .ref (ax 15), .ref (ax 17), .ref (ax 18), .ref (ax 19), .ref (ax 20), .int xSr, .int xWm, .int xTp])), ((ax 1), .inr (3, [.ref (ax 2), .ref (ax 3), .ref (ax 4), .ref (ax 5), .ref (ax 6), .int xRz, .int xRn])), ((ax 3), .inl (cA 0, 400, .inl gS)), ((ax 4), .inl (cA 0, 400, .inl gM)), ((ax 6), .inl (cA 0, 400, .inl gV)), ((ax 18), .inl (cA 0, 400, .inl gW))]) [0, 1, 2, 3, 4, 5] rfl
      have hDc := hD.part (cx := [((ax 16), .inr (7, [.ref (ax 1), .ref (ax 7), .ref (ax 15), .ref (ax 17), .ref (ax 18), .ref (ax 19), .ref (ax 20), .int xSr, .int xWm, .int xTp])), ((ax 1), .inr (3, [.ref (ax 2), .ref (ax 3), .ref (ax 4), .ref (ax 5), .ref (ax 6), .int xRz, .int xRn])), ((ax 3), .inl (cA 0, 400, .inl gS)), ((ax 4), .inl (cA 0, 400, .inl gM)), ((ax 6), .inl (cA 0, 400, .inl gV)), ((ax 18), .inl (cA 0, 400, .inl gW))]) [0, 1, 2, 3, 4, 5] (by decide) rfl
      have hFc := va_freeP (cx := [((ax 16), .inr (7, [.ref (ax 1), .ref (ax 7), .ref (ax 15), .ref (ax 17), .ref (ax 18), .ref (ax 19), .ref (ax 20), .int xSr, .int xWm, .int xTp])), ((ax 1), .inr (3, [.ref (ax 2), .ref (ax 3), .ref (ax 4), .ref (ax 5), .ref (ax 6), .int xRz, .int xRn])), ((ax 3), .inl (cA 0, 400, .inl gS)), ((ax 4), .inl (cA 0, 400, .inl gM)), ((ax 6), .inl (cA 0, 400, .inl gV)), ((ax 18), .inl (cA 0, 400, .inl gW))]) hD hS hA [0, 1, 2, 3, 4, 5] rfl
      refine va_calll (va_runV (As := [.ref sa]) (rest := [.ref (ax 16)]) ⟨hx, hb, hml, hown, hts⟩ (k_X7_window l dC dI cA s.heap.size ax xSr xWm xTp xRz xRn gS gM gV gW L pf sa kd nb fr to i_xSr i_xTp i_xRz i_gW hsm hsf) (cwV 1 hts gX7_perform_X7_window rfl rfl rfl (by decide +kernel) ⟨Nat.le_of_ble_eq_true rfl, Nat.le_of_ble_eq_true rfl⟩) ⟨fun a U g mk q => by obtain ⟨q0, q1, qP, qK, qD, qN⟩ := q; exact ⟨q0, q1, qP, va_K.moved (u := U) (U := U.calling g mk a) (Vm.Alike.refl U.vm) qK, qD, qN.same rfl⟩, va_recv hK hPc (ci := 7) (q0 := 0) rfl rfl, fun U hU hW => ⟨rfl, by rw [hU], by rw [hU]; exact hPc, va_K.moved hW.alike hK, hDc.weaken (fun _ _ _ _ => trivial), hN.warm hW⟩⟩ rfl rfl hl.1 rfl (lv_room (Nat.le_of_ble_eq_true rfl)) dX7_perform_99 ⟨Nat.le_of_ble_eq_true rfl, Nat.le_of_ble_eq_true rfl⟩) hS (fun q _ h => hFc q h) hFc (fun r_52 u_53 t H1 locs ht hvm hw_54 hB hz1 hk1 hS => ?_)
      try dsimp only at hw_54 hB
      obtain ⟨hP1, hD1⟩ := hB
      rw [ht] at hP1
      obtain ⟨hP, hD⟩ := va_joinP (wr := [((ax 19), .inl (cA 1, 200, .inr (.inl gKk))), ((ax 20), .inl (cA 1, 20, .inr (.inl gVs)))]) (rx := [((ax 16), .inr (7, [.ref (ax 1), .ref (ax 7), .ref (ax 15), .ref (ax 17), .ref (ax 18), .ref (ax 19), .ref (ax 20), .int xSr, .int xWm, .int xTp])), ((ax 1), .inr (3, [.ref (ax 2), .ref (ax 3), .ref (ax 4), .ref (ax 5), .ref (ax 6), .int xRz, .int xRn])), ((ax 3), .inl (cA 0, 400, .inl gS)), ((ax 4), .inl (cA 0, 400, .inl gM)), ((ax 6), .inl (cA 0, 400, .inl gV)), ((ax 18), .inl (cA 0, 400, .inl gW))]) (pl1 := va_pl L pf) hP hD [0, 1, 2, 3, 4, 5] [6, 7] rfl rfl (by decide) (by decide) hk1 hFc hP1 hD1
      clear hz1
      generalize H1 = H at hP hS ⊢
      replace hP : va_P (dC, dI) vwCl (([((ax 19), .inl (cA 1, 200, .inr (.inl gKk))), ((ax 20), .inl (cA 1, 20, .inr (.inl gVs))), ((ax 16), .inr (7, [.ref (ax 1), .ref (ax 7), .ref (ax 15), .ref (ax 17), .ref (ax 18), .ref (ax 19), .ref (ax 20), .int xSr, .int xWm, .int xTp])), ((ax 1), .inr (3, [.ref (ax 2), .ref (ax 3), .ref (ax 4), .ref (ax 5), .ref (ax 6), .int xRz, .int xRn])), ((ax 3), .inl (cA 0, 400, .inl gS)), ((ax 4), .inl (cA 0, 400, .inl gM)), ((ax 6), .inl (cA 0, 400, .inl gV)), ((ax 18), .inl (cA 0, 400, .inl gW))] : va_W) ++ va_pl L pf) H := hP
      replace hD : va_D A (([((ax 19), .inl (cA 1, 200, .inr (.inl gKk))), ((ax 20), .inl (cA 1, 20, .inr (.inl gVs))), ((ax 16), .inr (7, [.ref (ax 1), .ref (ax 7), .ref (ax 15), .ref (ax 17), .ref (ax 18), .ref (ax 19), .ref (ax 20), .int xSr, .int xWm, .int xTp])), ((ax 1), .inr (3, [.ref (ax 2), .ref (ax 3), .ref (ax 4), .ref (ax 5), .ref (ax 6), .int xRz, .int xRn])), ((ax 3), .inl (cA 0, 400, .inl gS)), ((ax 4), .inl (cA 0, 400, .inl gM)), ((ax 6), .inl (cA 0, 400, .inl gV)), ((ax 18), .inl (cA 0, 400, .inl gW))] : va_W) ++ va_pl L pf) := hD
      obtain ⟨hPc, hDc, hFc, hCc⟩ := va_pre (ws' := [((ax 16), .inr (7, [.ref (ax 1), .ref (ax 7), .ref (ax 15), .ref (ax 17), .ref (ax 18), .ref (ax 19), .ref (ax 20), .int xSr, .int xWm, .int xTp])), ((ax 19), .inl (cA 1, 200, .inr (.inl gKk)))]) hP hD hS hA [2, 0] (by decide) rfl
      refine va_callv (va_runV (As := [.long r_52]) (rest := []) ⟨hx, hb, hml, hown, hts⟩ (k_X7_push l dC dI cA H.size ax xSr xWm xTp gKk r_52 i_xSr i_xTp) (cwV 1 hts gX7_perform_X7_push rfl rfl rfl (by decide +kernel) ⟨Nat.le_of_ble_eq_true rfl, Nat.le_of_ble_eq_true rfl⟩) ⟨fun a U g mk q => by obtain ⟨q0, q1, qP, qK, qD, qN⟩ := q; exact ⟨q0, q1, qP, va_K.moved (u := U) (U := U.calling g mk a) (Vm.Alike.refl U.vm) qK, qD, qN.same rfl⟩, va_recv hK hPc (ci := 7) (q0 := 0) rfl rfl, fun U hU hW => ⟨rfl, by rw [hU], by rw [hU]; exact hPc, va_K.moved hW.alike hK, hDc.weaken (fun _ _ _ _ => trivial), hN.warm hW⟩⟩ rfl rfl hl.1 rfl (lv_room (Nat.le_of_ble_eq_true rfl)) dX7_perform_102 ⟨Nat.le_of_ble_eq_true rfl, Nat.le_of_ble_eq_true rfl⟩) hS (fun q _ h => hFc q h) hFc (fun u_55 t H1 locs ht hvm hw_56 hB hz1 hk1 hS => ?_)
      obtain ⟨w_57, w_58⟩ := u_55
      try dsimp only at hw_56 hB
      have iv_59 := hw_56
      clear hw_56
      obtain ⟨hP1, hD1⟩ := hB
      rw [ht] at hP1
      obtain ⟨hP, hD⟩ := va_joinQ (wr := [((ax 20), .inl (cA 1, 20, .inr (.inl gVs))), ((ax 1), .inr (3, [.ref (ax 2), .ref (ax 3), .ref (ax 4), .ref (ax 5), .ref (ax 6), .int xRz, .int xRn])), ((ax 3), .inl (cA 0, 400, .inl gS)), ((ax 4), .inl (cA 0, 400, .inl gM)), ((ax 6), .inl (cA 0, 400, .inl gV)), ((ax 18), .inl (cA 0, 400, .inl gW))]) (w1 := [((ax 16), .inr (7, [.ref (ax 1), .ref (ax 7), .ref (ax 15), .ref (ax 17), .ref (ax 18), .ref (ax 19), .ref (ax 20), .int xSr, .int xWm, .int w_58])), ((ax 19), .inl (cA 1, 200, .inr (.inl w_57)))]) hP hD [2, 0] [1, 3, 4, 5, 6, 7] rfl rfl (by decide) (by decide) hk1 hFc hP1 hD1
      clear hz1
      generalize H1 = H at hP hS ⊢
      replace hP : va_P (dC, dI) vwCl (([((ax 20), .inl (cA 1, 20, .inr (.inl gVs))), ((ax 1), .inr (3, [.ref (ax 2), .ref (ax 3), .ref (ax 4), .ref (ax 5), .ref (ax 6), .int xRz, .int xRn])), ((ax 3), .inl (cA 0, 400, .inl gS)), ((ax 4), .inl (cA 0, 400, .inl gM)), ((ax 6), .inl (cA 0, 400, .inl gV)), ((ax 18), .inl (cA 0, 400, .inl gW)), ((ax 16), .inr (7, [.ref (ax 1), .ref (ax 7), .ref (ax 15), .ref (ax 17), .ref (ax 18), .ref (ax 19), .ref (ax 20), .int xSr, .int xWm, .int w_58])), ((ax 19), .inl (cA 1, 200, .inr (.inl w_57)))] : va_W) ++ va_pl L pf) H := hP
      replace hD : va_D A (([((ax 20), .inl (cA 1, 20, .inr (.inl gVs))), ((ax 1), .inr (3, [.ref (ax 2), .ref (ax 3), .ref (ax 4), .ref (ax 5), .ref (ax 6), .int xRz, .int xRn])), ((ax 3), .inl (cA 0, 400, .inl gS)), ((ax 4), .inl (cA 0, 400, .inl gM)), ((ax 6), .inl (cA 0, 400, .inl gV)), ((ax 18), .inl (cA 0, 400, .inl gW)), ((ax 16), .inr (7, [.ref (ax 1), .ref (ax 7), .ref (ax 15), .ref (ax 17), .ref (ax 18), .ref (ax 19), .ref (ax 20), .int xSr, .int xWm, .int w_58])), ((ax 19), .inl (cA 1, 200, .inr (.inl w_57)))] : va_W) ++ va_pl L pf) := hD
      refine lv_goto (tgt := 160) hx hb dX7_perform_105 (by decide) ?_
      have hP9 := hP.part (cx := [((ax 16), .inr (7, [.ref (ax 1), .ref (ax 7), .ref (ax 15), .ref (ax 17), .ref (ax 18), .ref (ax 19), .ref (ax 20), .int xSr, .int xWm, .int w_58])), ((ax 1), .inr (3, [.ref (ax 2), .ref (ax 3), .ref (ax 4), .ref (ax 5), .ref (ax 6), .int xRz, .int xRn])), ((ax 3), .inl (cA 0, 400, .inl gS)), ((ax 4), .inl (cA 0, 400, .inl gM)), ((ax 6), .inl (cA 0, 400, .inl gV)), ((ax 18), .inl (cA 0, 400, .inl gW)), ((ax 19), .inl (cA 1, 200, .inr (.inl w_57))), ((ax 20), .inl (cA 1, 20, .inr (.inl gVs)))]) [6, 1, 2, 3, 4, 5, 7, 0] rfl
      have hD9 := hD.part (cx := [((ax 16), .inr (7, [.ref (ax 1), .ref (ax 7), .ref (ax 15), .ref (ax 17), .ref (ax 18), .ref (ax 19), .ref (ax 20), .int xSr, .int xWm, .int w_58])), ((ax 1), .inr (3, [.ref (ax 2), .ref (ax 3), .ref (ax 4), .ref (ax 5), .ref (ax 6), .int xRz, .int xRn])), ((ax 3), .inl (cA 0, 400, .inl gS)), ((ax 4), .inl (cA 0, 400, .inl gM)), ((ax 6), .inl (cA 0, 400, .inl gV)), ((ax 18), .inl (cA 0, 400, .inl gW)), ((ax 19), .inl (cA 1, 200, .inr (.inl w_57))), ((ax 20), .inl (cA 1, 20, .inr (.inl gVs)))]) [6, 1, 2, 3, 4, 5, 7, 0] (by decide) rfl
      subst hQe
      have hpost : (0 ≤ w_58.toInt ∧ w_58.toInt ≤ 200) := iv_59
      exact W.vret hx hb hr (fun t ht hW => ⟨⟨(w_57, w_58), rfl, hpost, by rw [ht]; exact hP9, hD9⟩, hS.F ht⟩) hS.2.2 dX7_perform_160
    · refine lv_tableIn (off := 92) (tgt := 96) hx hb dX7_perform_4 (by omega) (by omega) (by rw [hsw]; rfl) (by decide) ?_
      refine lv_aload_n hx hb dX7_perform_96 rfl (lv_at hl 0 rfl) ?_
      refine lv_aload_n hx hb dX7_perform_97 rfl (lv_at hl 0 rfl) ?_
      refine lv_aload_n hx hb dX7_perform_98 rfl (lv_at hl 1 rfl) ?_
      have hPc := hP.part (cx := [((ax 16), .inr (7, [.ref (ax 1), .ref (ax 7), .ref (ax 15), .ref (ax 17), .ref (ax 18), .ref (ax 19), .ref (ax 20), .int xSr, .int xWm, .int xTp])), ((ax 1), .inr (3, [.ref (ax 2), .ref (ax 3), .ref (ax 4), .ref (ax 5), .ref (ax 6), .int xRz, .int xRn])), ((ax 3), .inl (cA 0, 400, .inl gS)), ((ax 4), .inl (cA 0, 400, .inl gM)), ((ax 6), .inl (cA 0, 400, .inl gV)), ((ax 18), .inl (cA 0, 400, .inl gW))]) [0, 1, 2, 3, 4, 5] rfl
      have hDc := hD.part (cx := [((ax 16), .inr (7, [.ref (ax 1), .ref (ax 7), .ref (ax 15), .ref (ax 17), .ref (ax 18), .ref (ax 19), .ref (ax 20), .int xSr, .int xWm, .int xTp])), ((ax 1), .inr (3, [.ref (ax 2), .ref (ax 3), .ref (ax 4), .ref (ax 5), .ref (ax 6), .int xRz, .int xRn])), ((ax 3), .inl (cA 0, 400, .inl gS)), ((ax 4), .inl (cA 0, 400, .inl gM)), ((ax 6), .inl (cA 0, 400, .inl gV)), ((ax 18), .inl (cA 0, 400, .inl gW))]) [0, 1, 2, 3, 4, 5] (by decide) rfl
      have hFc := va_freeP (cx := [((ax 16), .inr (7, [.ref (ax 1), .ref (ax 7), .ref (ax 15), .ref (ax 17), .ref (ax 18), .ref (ax 19), .ref (ax 20), .int xSr, .int xWm, .int xTp])), ((ax 1), .inr (3, [.ref (ax 2), .ref (ax 3), .ref (ax 4), .ref (ax 5), .ref (ax 6), .int xRz, .int xRn])), ((ax 3), .inl (cA 0, 400, .inl gS)), ((ax 4), .inl (cA 0, 400, .inl gM)), ((ax 6), .inl (cA 0, 400, .inl gV)), ((ax 18), .inl (cA 0, 400, .inl gW))]) hD hS hA [0, 1, 2, 3, 4, 5] rfl
      refine va_calll (va_runV (As := [.ref sa]) (rest := [.ref (ax 16)]) ⟨hx, hb, hml, hown, hts⟩ (k_X7_window l dC dI cA s.heap.size ax xSr xWm xTp xRz xRn gS gM gV gW L pf sa kd nb fr to i_xSr i_xTp i_xRz i_gW hsm hsf) (cwV 1 hts gX7_perform_X7_window rfl rfl rfl (by decide +kernel) ⟨Nat.le_of_ble_eq_true rfl, Nat.le_of_ble_eq_true rfl⟩) ⟨fun a U g mk q => by obtain ⟨q0, q1, qP, qK, qD, qN⟩ := q; exact ⟨q0, q1, qP, va_K.moved (u := U) (U := U.calling g mk a) (Vm.Alike.refl U.vm) qK, qD, qN.same rfl⟩, va_recv hK hPc (ci := 7) (q0 := 0) rfl rfl, fun U hU hW => ⟨rfl, by rw [hU], by rw [hU]; exact hPc, va_K.moved hW.alike hK, hDc.weaken (fun _ _ _ _ => trivial), hN.warm hW⟩⟩ rfl rfl hl.1 rfl (lv_room (Nat.le_of_ble_eq_true rfl)) dX7_perform_99 ⟨Nat.le_of_ble_eq_true rfl, Nat.le_of_ble_eq_true rfl⟩) hS (fun q _ h => hFc q h) hFc (fun r_60 u_61 t H1 locs ht hvm hw_62 hB hz1 hk1 hS => ?_)
      try dsimp only at hw_62 hB
      obtain ⟨hP1, hD1⟩ := hB
      rw [ht] at hP1
      obtain ⟨hP, hD⟩ := va_joinP (wr := [((ax 19), .inl (cA 1, 200, .inr (.inl gKk))), ((ax 20), .inl (cA 1, 20, .inr (.inl gVs)))]) (rx := [((ax 16), .inr (7, [.ref (ax 1), .ref (ax 7), .ref (ax 15), .ref (ax 17), .ref (ax 18), .ref (ax 19), .ref (ax 20), .int xSr, .int xWm, .int xTp])), ((ax 1), .inr (3, [.ref (ax 2), .ref (ax 3), .ref (ax 4), .ref (ax 5), .ref (ax 6), .int xRz, .int xRn])), ((ax 3), .inl (cA 0, 400, .inl gS)), ((ax 4), .inl (cA 0, 400, .inl gM)), ((ax 6), .inl (cA 0, 400, .inl gV)), ((ax 18), .inl (cA 0, 400, .inl gW))]) (pl1 := va_pl L pf) hP hD [0, 1, 2, 3, 4, 5] [6, 7] rfl rfl (by decide) (by decide) hk1 hFc hP1 hD1
      clear hz1
      generalize H1 = H at hP hS ⊢
      replace hP : va_P (dC, dI) vwCl (([((ax 19), .inl (cA 1, 200, .inr (.inl gKk))), ((ax 20), .inl (cA 1, 20, .inr (.inl gVs))), ((ax 16), .inr (7, [.ref (ax 1), .ref (ax 7), .ref (ax 15), .ref (ax 17), .ref (ax 18), .ref (ax 19), .ref (ax 20), .int xSr, .int xWm, .int xTp])), ((ax 1), .inr (3, [.ref (ax 2), .ref (ax 3), .ref (ax 4), .ref (ax 5), .ref (ax 6), .int xRz, .int xRn])), ((ax 3), .inl (cA 0, 400, .inl gS)), ((ax 4), .inl (cA 0, 400, .inl gM)), ((ax 6), .inl (cA 0, 400, .inl gV)), ((ax 18), .inl (cA 0, 400, .inl gW))] : va_W) ++ va_pl L pf) H := hP
      replace hD : va_D A (([((ax 19), .inl (cA 1, 200, .inr (.inl gKk))), ((ax 20), .inl (cA 1, 20, .inr (.inl gVs))), ((ax 16), .inr (7, [.ref (ax 1), .ref (ax 7), .ref (ax 15), .ref (ax 17), .ref (ax 18), .ref (ax 19), .ref (ax 20), .int xSr, .int xWm, .int xTp])), ((ax 1), .inr (3, [.ref (ax 2), .ref (ax 3), .ref (ax 4), .ref (ax 5), .ref (ax 6), .int xRz, .int xRn])), ((ax 3), .inl (cA 0, 400, .inl gS)), ((ax 4), .inl (cA 0, 400, .inl gM)), ((ax 6), .inl (cA 0, 400, .inl gV)), ((ax 18), .inl (cA 0, 400, .inl gW))] : va_W) ++ va_pl L pf) := hD
      obtain ⟨hPc, hDc, hFc, hCc⟩ := va_pre (ws' := [((ax 16), .inr (7, [.ref (ax 1), .ref (ax 7), .ref (ax 15), .ref (ax 17), .ref (ax 18), .ref (ax 19), .ref (ax 20), .int xSr, .int xWm, .int xTp])), ((ax 19), .inl (cA 1, 200, .inr (.inl gKk)))]) hP hD hS hA [2, 0] (by decide) rfl
      refine va_callv (va_runV (As := [.long r_60]) (rest := []) ⟨hx, hb, hml, hown, hts⟩ (k_X7_push l dC dI cA H.size ax xSr xWm xTp gKk r_60 i_xSr i_xTp) (cwV 1 hts gX7_perform_X7_push rfl rfl rfl (by decide +kernel) ⟨Nat.le_of_ble_eq_true rfl, Nat.le_of_ble_eq_true rfl⟩) ⟨fun a U g mk q => by obtain ⟨q0, q1, qP, qK, qD, qN⟩ := q; exact ⟨q0, q1, qP, va_K.moved (u := U) (U := U.calling g mk a) (Vm.Alike.refl U.vm) qK, qD, qN.same rfl⟩, va_recv hK hPc (ci := 7) (q0 := 0) rfl rfl, fun U hU hW => ⟨rfl, by rw [hU], by rw [hU]; exact hPc, va_K.moved hW.alike hK, hDc.weaken (fun _ _ _ _ => trivial), hN.warm hW⟩⟩ rfl rfl hl.1 rfl (lv_room (Nat.le_of_ble_eq_true rfl)) dX7_perform_102 ⟨Nat.le_of_ble_eq_true rfl, Nat.le_of_ble_eq_true rfl⟩) hS (fun q _ h => hFc q h) hFc (fun u_63 t H1 locs ht hvm hw_64 hB hz1 hk1 hS => ?_)
      obtain ⟨w_65, w_66⟩ := u_63
      try dsimp only at hw_64 hB
      have iv_67 := hw_64
      clear hw_64
      obtain ⟨hP1, hD1⟩ := hB
      rw [ht] at hP1
      obtain ⟨hP, hD⟩ := va_joinQ (wr := [((ax 20), .inl (cA 1, 20, .inr (.inl gVs))), ((ax 1), .inr (3, [.ref (ax 2), .ref (ax 3), .ref (ax 4), .ref (ax 5), .ref (ax 6), .int xRz, .int xRn])), ((ax 3), .inl (cA 0, 400, .inl gS)), ((ax 4), .inl (cA 0, 400, .inl gM)), ((ax 6), .inl (cA 0, 400, .inl gV)), ((ax 18), .inl (cA 0, 400, .inl gW))]) (w1 := [((ax 16), .inr (7, [.ref (ax 1), .ref (ax 7), .ref (ax 15), .ref (ax 17), .ref (ax 18), .ref (ax 19), .ref (ax 20), .int xSr, .int xWm, .int w_66])), ((ax 19), .inl (cA 1, 200, .inr (.inl w_65)))]) hP hD [2, 0] [1, 3, 4, 5, 6, 7] rfl rfl (by decide) (by decide) hk1 hFc hP1 hD1
      clear hz1
      generalize H1 = H at hP hS ⊢
      replace hP : va_P (dC, dI) vwCl (([((ax 20), .inl (cA 1, 20, .inr (.inl gVs))), ((ax 1), .inr (3, [.ref (ax 2), .ref (ax 3), .ref (ax 4), .ref (ax 5), .ref (ax 6), .int xRz, .int xRn])), ((ax 3), .inl (cA 0, 400, .inl gS)), ((ax 4), .inl (cA 0, 400, .inl gM)), ((ax 6), .inl (cA 0, 400, .inl gV)), ((ax 18), .inl (cA 0, 400, .inl gW)), ((ax 16), .inr (7, [.ref (ax 1), .ref (ax 7), .ref (ax 15), .ref (ax 17), .ref (ax 18), .ref (ax 19), .ref (ax 20), .int xSr, .int xWm, .int w_66])), ((ax 19), .inl (cA 1, 200, .inr (.inl w_65)))] : va_W) ++ va_pl L pf) H := hP
      replace hD : va_D A (([((ax 20), .inl (cA 1, 20, .inr (.inl gVs))), ((ax 1), .inr (3, [.ref (ax 2), .ref (ax 3), .ref (ax 4), .ref (ax 5), .ref (ax 6), .int xRz, .int xRn])), ((ax 3), .inl (cA 0, 400, .inl gS)), ((ax 4), .inl (cA 0, 400, .inl gM)), ((ax 6), .inl (cA 0, 400, .inl gV)), ((ax 18), .inl (cA 0, 400, .inl gW)), ((ax 16), .inr (7, [.ref (ax 1), .ref (ax 7), .ref (ax 15), .ref (ax 17), .ref (ax 18), .ref (ax 19), .ref (ax 20), .int xSr, .int xWm, .int w_66])), ((ax 19), .inl (cA 1, 200, .inr (.inl w_65)))] : va_W) ++ va_pl L pf) := hD
      refine lv_goto (tgt := 160) hx hb dX7_perform_105 (by decide) ?_
      have hP9 := hP.part (cx := [((ax 16), .inr (7, [.ref (ax 1), .ref (ax 7), .ref (ax 15), .ref (ax 17), .ref (ax 18), .ref (ax 19), .ref (ax 20), .int xSr, .int xWm, .int w_66])), ((ax 1), .inr (3, [.ref (ax 2), .ref (ax 3), .ref (ax 4), .ref (ax 5), .ref (ax 6), .int xRz, .int xRn])), ((ax 3), .inl (cA 0, 400, .inl gS)), ((ax 4), .inl (cA 0, 400, .inl gM)), ((ax 6), .inl (cA 0, 400, .inl gV)), ((ax 18), .inl (cA 0, 400, .inl gW)), ((ax 19), .inl (cA 1, 200, .inr (.inl w_65))), ((ax 20), .inl (cA 1, 20, .inr (.inl gVs)))]) [6, 1, 2, 3, 4, 5, 7, 0] rfl
      have hD9 := hD.part (cx := [((ax 16), .inr (7, [.ref (ax 1), .ref (ax 7), .ref (ax 15), .ref (ax 17), .ref (ax 18), .ref (ax 19), .ref (ax 20), .int xSr, .int xWm, .int w_66])), ((ax 1), .inr (3, [.ref (ax 2), .ref (ax 3), .ref (ax 4), .ref (ax 5), .ref (ax 6), .int xRz, .int xRn])), ((ax 3), .inl (cA 0, 400, .inl gS)), ((ax 4), .inl (cA 0, 400, .inl gM)), ((ax 6), .inl (cA 0, 400, .inl gV)), ((ax 18), .inl (cA 0, 400, .inl gW)), ((ax 19), .inl (cA 1, 200, .inr (.inl w_65))), ((ax 20), .inl (cA 1, 20, .inr (.inl gVs)))]) [6, 1, 2, 3, 4, 5, 7, 0] (by decide) rfl
      subst hQe
      have hpost : (0 ≤ w_66.toInt ∧ w_66.toInt ≤ 200) := iv_67
      exact W.vret hx hb hr (fun t ht hW => ⟨⟨(w_65, w_66), rfl, hpost, by rw [ht]; exact hP9, hD9⟩, hS.F ht⟩) hS.2.2 dX7_perform_160
    · refine lv_tableIn (off := 92) (tgt := 96) hx hb dX7_perform_4 (by omega) (by omega) (by rw [hsw]; rfl) (by decide) ?_
      refine lv_aload_n hx hb dX7_perform_96 rfl (lv_at hl 0 rfl) ?_
      refine lv_aload_n hx hb dX7_perform_97 rfl (lv_at hl 0 rfl) ?_
      refine lv_aload_n hx hb dX7_perform_98 rfl (lv_at hl 1 rfl) ?_
      have hPc := hP.part (cx := [((ax 16), .inr (7, [.ref (ax 1), .ref (ax 7), .ref (ax 15), .ref (ax 17), .ref (ax 18), .ref (ax 19), .ref (ax 20), .int xSr, .int xWm, .int xTp])), ((ax 1), .inr (3, [.ref (ax 2), .ref (ax 3), .ref (ax 4), .ref (ax 5), .ref (ax 6), .int xRz, .int xRn])), ((ax 3), .inl (cA 0, 400, .inl gS)), ((ax 4), .inl (cA 0, 400, .inl gM)), ((ax 6), .inl (cA 0, 400, .inl gV)), ((ax 18), .inl (cA 0, 400, .inl gW))]) [0, 1, 2, 3, 4, 5] rfl
      have hDc := hD.part (cx := [((ax 16), .inr (7, [.ref (ax 1), .ref (ax 7), .ref (ax 15), .ref (ax 17), .ref (ax 18), .ref (ax 19), .ref (ax 20), .int xSr, .int xWm, .int xTp])), ((ax 1), .inr (3, [.ref (ax 2), .ref (ax 3), .ref (ax 4), .ref (ax 5), .ref (ax 6), .int xRz, .int xRn])), ((ax 3), .inl (cA 0, 400, .inl gS)), ((ax 4), .inl (cA 0, 400, .inl gM)), ((ax 6), .inl (cA 0, 400, .inl gV)), ((ax 18), .inl (cA 0, 400, .inl gW))]) [0, 1, 2, 3, 4, 5] (by decide) rfl
      have hFc := va_freeP (cx := [((ax 16), .inr (7, [.ref (ax 1), .ref (ax 7), .ref (ax 15), .ref (ax 17), .ref (ax 18), .ref (ax 19), .ref (ax 20), .int xSr, .int xWm, .int xTp])), ((ax 1), .inr (3, [.ref (ax 2), .ref (ax 3), .ref (ax 4), .ref (ax 5), .ref (ax 6), .int xRz, .int xRn])), ((ax 3), .inl (cA 0, 400, .inl gS)), ((ax 4), .inl (cA 0, 400, .inl gM)), ((ax 6), .inl (cA 0, 400, .inl gV)), ((ax 18), .inl (cA 0, 400, .inl gW))]) hD hS hA [0, 1, 2, 3, 4, 5] rfl
      refine va_calll (va_runV (As := [.ref sa]) (rest := [.ref (ax 16)]) ⟨hx, hb, hml, hown, hts⟩ (k_X7_window l dC dI cA s.heap.size ax xSr xWm xTp xRz xRn gS gM gV gW L pf sa kd nb fr to i_xSr i_xTp i_xRz i_gW hsm hsf) (cwV 1 hts gX7_perform_X7_window rfl rfl rfl (by decide +kernel) ⟨Nat.le_of_ble_eq_true rfl, Nat.le_of_ble_eq_true rfl⟩) ⟨fun a U g mk q => by obtain ⟨q0, q1, qP, qK, qD, qN⟩ := q; exact ⟨q0, q1, qP, va_K.moved (u := U) (U := U.calling g mk a) (Vm.Alike.refl U.vm) qK, qD, qN.same rfl⟩, va_recv hK hPc (ci := 7) (q0 := 0) rfl rfl, fun U hU hW => ⟨rfl, by rw [hU], by rw [hU]; exact hPc, va_K.moved hW.alike hK, hDc.weaken (fun _ _ _ _ => trivial), hN.warm hW⟩⟩ rfl rfl hl.1 rfl (lv_room (Nat.le_of_ble_eq_true rfl)) dX7_perform_99 ⟨Nat.le_of_ble_eq_true rfl, Nat.le_of_ble_eq_true rfl⟩) hS (fun q _ h => hFc q h) hFc (fun r_68 u_69 t H1 locs ht hvm hw_70 hB hz1 hk1 hS => ?_)
      try dsimp only at hw_70 hB
      obtain ⟨hP1, hD1⟩ := hB
      rw [ht] at hP1
      obtain ⟨hP, hD⟩ := va_joinP (wr := [((ax 19), .inl (cA 1, 200, .inr (.inl gKk))), ((ax 20), .inl (cA 1, 20, .inr (.inl gVs)))]) (rx := [((ax 16), .inr (7, [.ref (ax 1), .ref (ax 7), .ref (ax 15), .ref (ax 17), .ref (ax 18), .ref (ax 19), .ref (ax 20), .int xSr, .int xWm, .int xTp])), ((ax 1), .inr (3, [.ref (ax 2), .ref (ax 3), .ref (ax 4), .ref (ax 5), .ref (ax 6), .int xRz, .int xRn])), ((ax 3), .inl (cA 0, 400, .inl gS)), ((ax 4), .inl (cA 0, 400, .inl gM)), ((ax 6), .inl (cA 0, 400, .inl gV)), ((ax 18), .inl (cA 0, 400, .inl gW))]) (pl1 := va_pl L pf) hP hD [0, 1, 2, 3, 4, 5] [6, 7] rfl rfl (by decide) (by decide) hk1 hFc hP1 hD1
      clear hz1
      generalize H1 = H at hP hS ⊢
      replace hP : va_P (dC, dI) vwCl (([((ax 19), .inl (cA 1, 200, .inr (.inl gKk))), ((ax 20), .inl (cA 1, 20, .inr (.inl gVs))), ((ax 16), .inr (7, [.ref (ax 1), .ref (ax 7), .ref (ax 15), .ref (ax 17), .ref (ax 18), .ref (ax 19), .ref (ax 20), .int xSr, .int xWm, .int xTp])), ((ax 1), .inr (3, [.ref (ax 2), .ref (ax 3), .ref (ax 4), .ref (ax 5), .ref (ax 6), .int xRz, .int xRn])), ((ax 3), .inl (cA 0, 400, .inl gS)), ((ax 4), .inl (cA 0, 400, .inl gM)), ((ax 6), .inl (cA 0, 400, .inl gV)), ((ax 18), .inl (cA 0, 400, .inl gW))] : va_W) ++ va_pl L pf) H := hP
      replace hD : va_D A (([((ax 19), .inl (cA 1, 200, .inr (.inl gKk))), ((ax 20), .inl (cA 1, 20, .inr (.inl gVs))), ((ax 16), .inr (7, [.ref (ax 1), .ref (ax 7), .ref (ax 15), .ref (ax 17), .ref (ax 18), .ref (ax 19), .ref (ax 20), .int xSr, .int xWm, .int xTp])), ((ax 1), .inr (3, [.ref (ax 2), .ref (ax 3), .ref (ax 4), .ref (ax 5), .ref (ax 6), .int xRz, .int xRn])), ((ax 3), .inl (cA 0, 400, .inl gS)), ((ax 4), .inl (cA 0, 400, .inl gM)), ((ax 6), .inl (cA 0, 400, .inl gV)), ((ax 18), .inl (cA 0, 400, .inl gW))] : va_W) ++ va_pl L pf) := hD
      obtain ⟨hPc, hDc, hFc, hCc⟩ := va_pre (ws' := [((ax 16), .inr (7, [.ref (ax 1), .ref (ax 7), .ref (ax 15), .ref (ax 17), .ref (ax 18), .ref (ax 19), .ref (ax 20), .int xSr, .int xWm, .int xTp])), ((ax 19), .inl (cA 1, 200, .inr (.inl gKk)))]) hP hD hS hA [2, 0] (by decide) rfl
      refine va_callv (va_runV (As := [.long r_68]) (rest := []) ⟨hx, hb, hml, hown, hts⟩ (k_X7_push l dC dI cA H.size ax xSr xWm xTp gKk r_68 i_xSr i_xTp) (cwV 1 hts gX7_perform_X7_push rfl rfl rfl (by decide +kernel) ⟨Nat.le_of_ble_eq_true rfl, Nat.le_of_ble_eq_true rfl⟩) ⟨fun a U g mk q => by obtain ⟨q0, q1, qP, qK, qD, qN⟩ := q; exact ⟨q0, q1, qP, va_K.moved (u := U) (U := U.calling g mk a) (Vm.Alike.refl U.vm) qK, qD, qN.same rfl⟩, va_recv hK hPc (ci := 7) (q0 := 0) rfl rfl, fun U hU hW => ⟨rfl, by rw [hU], by rw [hU]; exact hPc, va_K.moved hW.alike hK, hDc.weaken (fun _ _ _ _ => trivial), hN.warm hW⟩⟩ rfl rfl hl.1 rfl (lv_room (Nat.le_of_ble_eq_true rfl)) dX7_perform_102 ⟨Nat.le_of_ble_eq_true rfl, Nat.le_of_ble_eq_true rfl⟩) hS (fun q _ h => hFc q h) hFc (fun u_71 t H1 locs ht hvm hw_72 hB hz1 hk1 hS => ?_)
      obtain ⟨w_73, w_74⟩ := u_71
      try dsimp only at hw_72 hB
      have iv_75 := hw_72
      clear hw_72
      obtain ⟨hP1, hD1⟩ := hB
      rw [ht] at hP1
      obtain ⟨hP, hD⟩ := va_joinQ (wr := [((ax 20), .inl (cA 1, 20, .inr (.inl gVs))), ((ax 1), .inr (3, [.ref (ax 2), .ref (ax 3), .ref (ax 4), .ref (ax 5), .ref (ax 6), .int xRz, .int xRn])), ((ax 3), .inl (cA 0, 400, .inl gS)), ((ax 4), .inl (cA 0, 400, .inl gM)), ((ax 6), .inl (cA 0, 400, .inl gV)), ((ax 18), .inl (cA 0, 400, .inl gW))]) (w1 := [((ax 16), .inr (7, [.ref (ax 1), .ref (ax 7), .ref (ax 15), .ref (ax 17), .ref (ax 18), .ref (ax 19), .ref (ax 20), .int xSr, .int xWm, .int w_74])), ((ax 19), .inl (cA 1, 200, .inr (.inl w_73)))]) hP hD [2, 0] [1, 3, 4, 5, 6, 7] rfl rfl (by decide) (by decide) hk1 hFc hP1 hD1
      clear hz1
      generalize H1 = H at hP hS ⊢
      replace hP : va_P (dC, dI) vwCl (([((ax 20), .inl (cA 1, 20, .inr (.inl gVs))), ((ax 1), .inr (3, [.ref (ax 2), .ref (ax 3), .ref (ax 4), .ref (ax 5), .ref (ax 6), .int xRz, .int xRn])), ((ax 3), .inl (cA 0, 400, .inl gS)), ((ax 4), .inl (cA 0, 400, .inl gM)), ((ax 6), .inl (cA 0, 400, .inl gV)), ((ax 18), .inl (cA 0, 400, .inl gW)), ((ax 16), .inr (7, [.ref (ax 1), .ref (ax 7), .ref (ax 15), .ref (ax 17), .ref (ax 18), .ref (ax 19), .ref (ax 20), .int xSr, .int xWm, .int w_74])), ((ax 19), .inl (cA 1, 200, .inr (.inl w_73)))] : va_W) ++ va_pl L pf) H := hP
      replace hD : va_D A (([((ax 20), .inl (cA 1, 20, .inr (.inl gVs))), ((ax 1), .inr (3, [.ref (ax 2), .ref (ax 3), .ref (ax 4), .ref (ax 5), .ref (ax 6), .int xRz, .int xRn])), ((ax 3), .inl (cA 0, 400, .inl gS)), ((ax 4), .inl (cA 0, 400, .inl gM)), ((ax 6), .inl (cA 0, 400, .inl gV)), ((ax 18), .inl (cA 0, 400, .inl gW)), ((ax 16), .inr (7, [.ref (ax 1), .ref (ax 7), .ref (ax 15), .ref (ax 17), .ref (ax 18), .ref (ax 19), .ref (ax 20), .int xSr, .int xWm, .int w_74])), ((ax 19), .inl (cA 1, 200, .inr (.inl w_73)))] : va_W) ++ va_pl L pf) := hD
      refine lv_goto (tgt := 160) hx hb dX7_perform_105 (by decide) ?_
      have hP9 := hP.part (cx := [((ax 16), .inr (7, [.ref (ax 1), .ref (ax 7), .ref (ax 15), .ref (ax 17), .ref (ax 18), .ref (ax 19), .ref (ax 20), .int xSr, .int xWm, .int w_74])), ((ax 1), .inr (3, [.ref (ax 2), .ref (ax 3), .ref (ax 4), .ref (ax 5), .ref (ax 6), .int xRz, .int xRn])), ((ax 3), .inl (cA 0, 400, .inl gS)), ((ax 4), .inl (cA 0, 400, .inl gM)), ((ax 6), .inl (cA 0, 400, .inl gV)), ((ax 18), .inl (cA 0, 400, .inl gW)), ((ax 19), .inl (cA 1, 200, .inr (.inl w_73))), ((ax 20), .inl (cA 1, 20, .inr (.inl gVs)))]) [6, 1, 2, 3, 4, 5, 7, 0] rfl
      have hD9 := hD.part (cx := [((ax 16), .inr (7, [.ref (ax 1), .ref (ax 7), .ref (ax 15), .ref (ax 17), .ref (ax 18), .ref (ax 19), .ref (ax 20), .int xSr, .int xWm, .int w_74])), ((ax 1), .inr (3, [.ref (ax 2), .ref (ax 3), .ref (ax 4), .ref (ax 5), .ref (ax 6), .int xRz, .int xRn])), ((ax 3), .inl (cA 0, 400, .inl gS)), ((ax 4), .inl (cA 0, 400, .inl gM)), ((ax 6), .inl (cA 0, 400, .inl gV)), ((ax 18), .inl (cA 0, 400, .inl gW)), ((ax 19), .inl (cA 1, 200, .inr (.inl w_73))), ((ax 20), .inl (cA 1, 20, .inr (.inl gVs)))]) [6, 1, 2, 3, 4, 5, 7, 0] (by decide) rfl
      subst hQe
      have hpost : (0 ≤ w_74.toInt ∧ w_74.toInt ≤ 200) := iv_75
      exact W.vret hx hb hr (fun t ht hW => ⟨⟨(w_73, w_74), rfl, hpost, by rw [ht]; exact hP9, hD9⟩, hS.F ht⟩) hS.2.2 dX7_perform_160
    · refine lv_tableIn (off := 92) (tgt := 96) hx hb dX7_perform_4 (by omega) (by omega) (by rw [hsw]; rfl) (by decide) ?_
      refine lv_aload_n hx hb dX7_perform_96 rfl (lv_at hl 0 rfl) ?_
      refine lv_aload_n hx hb dX7_perform_97 rfl (lv_at hl 0 rfl) ?_
      refine lv_aload_n hx hb dX7_perform_98 rfl (lv_at hl 1 rfl) ?_
      have hPc := hP.part (cx := [((ax 16), .inr (7, [.ref (ax 1), .ref (ax 7), .ref (ax 15), .ref (ax 17), .ref (ax 18), .ref (ax 19), .ref (ax 20), .int xSr, .int xWm, .int xTp])), ((ax 1), .inr (3, [.ref (ax 2), .ref (ax 3), .ref (ax 4), .ref (ax 5), .ref (ax 6), .int xRz, .int xRn])), ((ax 3), .inl (cA 0, 400, .inl gS)), ((ax 4), .inl (cA 0, 400, .inl gM)), ((ax 6), .inl (cA 0, 400, .inl gV)), ((ax 18), .inl (cA 0, 400, .inl gW))]) [0, 1, 2, 3, 4, 5] rfl
      have hDc := hD.part (cx := [((ax 16), .inr (7, [.ref (ax 1), .ref (ax 7), .ref (ax 15), .ref (ax 17), .ref (ax 18), .ref (ax 19), .ref (ax 20), .int xSr, .int xWm, .int xTp])), ((ax 1), .inr (3, [.ref (ax 2), .ref (ax 3), .ref (ax 4), .ref (ax 5), .ref (ax 6), .int xRz, .int xRn])), ((ax 3), .inl (cA 0, 400, .inl gS)), ((ax 4), .inl (cA 0, 400, .inl gM)), ((ax 6), .inl (cA 0, 400, .inl gV)), ((ax 18), .inl (cA 0, 400, .inl gW))]) [0, 1, 2, 3, 4, 5] (by decide) rfl
      have hFc := va_freeP (cx := [((ax 16), .inr (7, [.ref (ax 1), .ref (ax 7), .ref (ax 15), .ref (ax 17), .ref (ax 18), .ref (ax 19), .ref (ax 20), .int xSr, .int xWm, .int xTp])), ((ax 1), .inr (3, [.ref (ax 2), .ref (ax 3), .ref (ax 4), .ref (ax 5), .ref (ax 6), .int xRz, .int xRn])), ((ax 3), .inl (cA 0, 400, .inl gS)), ((ax 4), .inl (cA 0, 400, .inl gM)), ((ax 6), .inl (cA 0, 400, .inl gV)), ((ax 18), .inl (cA 0, 400, .inl gW))]) hD hS hA [0, 1, 2, 3, 4, 5] rfl
      refine va_calll (va_runV (As := [.ref sa]) (rest := [.ref (ax 16)]) ⟨hx, hb, hml, hown, hts⟩ (k_X7_window l dC dI cA s.heap.size ax xSr xWm xTp xRz xRn gS gM gV gW L pf sa kd nb fr to i_xSr i_xTp i_xRz i_gW hsm hsf) (cwV 1 hts gX7_perform_X7_window rfl rfl rfl (by decide +kernel) ⟨Nat.le_of_ble_eq_true rfl, Nat.le_of_ble_eq_true rfl⟩) ⟨fun a U g mk q => by obtain ⟨q0, q1, qP, qK, qD, qN⟩ := q; exact ⟨q0, q1, qP, va_K.moved (u := U) (U := U.calling g mk a) (Vm.Alike.refl U.vm) qK, qD, qN.same rfl⟩, va_recv hK hPc (ci := 7) (q0 := 0) rfl rfl, fun U hU hW => ⟨rfl, by rw [hU], by rw [hU]; exact hPc, va_K.moved hW.alike hK, hDc.weaken (fun _ _ _ _ => trivial), hN.warm hW⟩⟩ rfl rfl hl.1 rfl (lv_room (Nat.le_of_ble_eq_true rfl)) dX7_perform_99 ⟨Nat.le_of_ble_eq_true rfl, Nat.le_of_ble_eq_true rfl⟩) hS (fun q _ h => hFc q h) hFc (fun r_76 u_77 t H1 locs ht hvm hw_78 hB hz1 hk1 hS => ?_)
      try dsimp only at hw_78 hB
      obtain ⟨hP1, hD1⟩ := hB
      rw [ht] at hP1
      obtain ⟨hP, hD⟩ := va_joinP (wr := [((ax 19), .inl (cA 1, 200, .inr (.inl gKk))), ((ax 20), .inl (cA 1, 20, .inr (.inl gVs)))]) (rx := [((ax 16), .inr (7, [.ref (ax 1), .ref (ax 7), .ref (ax 15), .ref (ax 17), .ref (ax 18), .ref (ax 19), .ref (ax 20), .int xSr, .int xWm, .int xTp])), ((ax 1), .inr (3, [.ref (ax 2), .ref (ax 3), .ref (ax 4), .ref (ax 5), .ref (ax 6), .int xRz, .int xRn])), ((ax 3), .inl (cA 0, 400, .inl gS)), ((ax 4), .inl (cA 0, 400, .inl gM)), ((ax 6), .inl (cA 0, 400, .inl gV)), ((ax 18), .inl (cA 0, 400, .inl gW))]) (pl1 := va_pl L pf) hP hD [0, 1, 2, 3, 4, 5] [6, 7] rfl rfl (by decide) (by decide) hk1 hFc hP1 hD1
      clear hz1
      generalize H1 = H at hP hS ⊢
      replace hP : va_P (dC, dI) vwCl (([((ax 19), .inl (cA 1, 200, .inr (.inl gKk))), ((ax 20), .inl (cA 1, 20, .inr (.inl gVs))), ((ax 16), .inr (7, [.ref (ax 1), .ref (ax 7), .ref (ax 15), .ref (ax 17), .ref (ax 18), .ref (ax 19), .ref (ax 20), .int xSr, .int xWm, .int xTp])), ((ax 1), .inr (3, [.ref (ax 2), .ref (ax 3), .ref (ax 4), .ref (ax 5), .ref (ax 6), .int xRz, .int xRn])), ((ax 3), .inl (cA 0, 400, .inl gS)), ((ax 4), .inl (cA 0, 400, .inl gM)), ((ax 6), .inl (cA 0, 400, .inl gV)), ((ax 18), .inl (cA 0, 400, .inl gW))] : va_W) ++ va_pl L pf) H := hP
      replace hD : va_D A (([((ax 19), .inl (cA 1, 200, .inr (.inl gKk))), ((ax 20), .inl (cA 1, 20, .inr (.inl gVs))), ((ax 16), .inr (7, [.ref (ax 1), .ref (ax 7), .ref (ax 15), .ref (ax 17), .ref (ax 18), .ref (ax 19), .ref (ax 20), .int xSr, .int xWm, .int xTp])), ((ax 1), .inr (3, [.ref (ax 2), .ref (ax 3), .ref (ax 4), .ref (ax 5), .ref (ax 6), .int xRz, .int xRn])), ((ax 3), .inl (cA 0, 400, .inl gS)), ((ax 4), .inl (cA 0, 400, .inl gM)), ((ax 6), .inl (cA 0, 400, .inl gV)), ((ax 18), .inl (cA 0, 400, .inl gW))] : va_W) ++ va_pl L pf) := hD
      obtain ⟨hPc, hDc, hFc, hCc⟩ := va_pre (ws' := [((ax 16), .inr (7, [.ref (ax 1), .ref (ax 7), .ref (ax 15), .ref (ax 17), .ref (ax 18), .ref (ax 19), .ref (ax 20), .int xSr, .int xWm, .int xTp])), ((ax 19), .inl (cA 1, 200, .inr (.inl gKk)))]) hP hD hS hA [2, 0] (by decide) rfl
      refine va_callv (va_runV (As := [.long r_76]) (rest := []) ⟨hx, hb, hml, hown, hts⟩ (k_X7_push l dC dI cA H.size ax xSr xWm xTp gKk r_76 i_xSr i_xTp) (cwV 1 hts gX7_perform_X7_push rfl rfl rfl (by decide +kernel) ⟨Nat.le_of_ble_eq_true rfl, Nat.le_of_ble_eq_true rfl⟩) ⟨fun a U g mk q => by obtain ⟨q0, q1, qP, qK, qD, qN⟩ := q; exact ⟨q0, q1, qP, va_K.moved (u := U) (U := U.calling g mk a) (Vm.Alike.refl U.vm) qK, qD, qN.same rfl⟩, va_recv hK hPc (ci := 7) (q0 := 0) rfl rfl, fun U hU hW => ⟨rfl, by rw [hU], by rw [hU]; exact hPc, va_K.moved hW.alike hK, hDc.weaken (fun _ _ _ _ => trivial), hN.warm hW⟩⟩ rfl rfl hl.1 rfl (lv_room (Nat.le_of_ble_eq_true rfl)) dX7_perform_102 ⟨Nat.le_of_ble_eq_true rfl, Nat.le_of_ble_eq_true rfl⟩) hS (fun q _ h => hFc q h) hFc (fun u_79 t H1 locs ht hvm hw_80 hB hz1 hk1 hS => ?_)
      obtain ⟨w_81, w_82⟩ := u_79
      try dsimp only at hw_80 hB
      have iv_83 := hw_80
      clear hw_80
      obtain ⟨hP1, hD1⟩ := hB
      rw [ht] at hP1
      obtain ⟨hP, hD⟩ := va_joinQ (wr := [((ax 20), .inl (cA 1, 20, .inr (.inl gVs))), ((ax 1), .inr (3, [.ref (ax 2), .ref (ax 3), .ref (ax 4), .ref (ax 5), .ref (ax 6), .int xRz, .int xRn])), ((ax 3), .inl (cA 0, 400, .inl gS)), ((ax 4), .inl (cA 0, 400, .inl gM)), ((ax 6), .inl (cA 0, 400, .inl gV)), ((ax 18), .inl (cA 0, 400, .inl gW))]) (w1 := [((ax 16), .inr (7, [.ref (ax 1), .ref (ax 7), .ref (ax 15), .ref (ax 17), .ref (ax 18), .ref (ax 19), .ref (ax 20), .int xSr, .int xWm, .int w_82])), ((ax 19), .inl (cA 1, 200, .inr (.inl w_81)))]) hP hD [2, 0] [1, 3, 4, 5, 6, 7] rfl rfl (by decide) (by decide) hk1 hFc hP1 hD1
      clear hz1
      generalize H1 = H at hP hS ⊢
      replace hP : va_P (dC, dI) vwCl (([((ax 20), .inl (cA 1, 20, .inr (.inl gVs))), ((ax 1), .inr (3, [.ref (ax 2), .ref (ax 3), .ref (ax 4), .ref (ax 5), .ref (ax 6), .int xRz, .int xRn])), ((ax 3), .inl (cA 0, 400, .inl gS)), ((ax 4), .inl (cA 0, 400, .inl gM)), ((ax 6), .inl (cA 0, 400, .inl gV)), ((ax 18), .inl (cA 0, 400, .inl gW)), ((ax 16), .inr (7, [.ref (ax 1), .ref (ax 7), .ref (ax 15), .ref (ax 17), .ref (ax 18), .ref (ax 19), .ref (ax 20), .int xSr, .int xWm, .int w_82])), ((ax 19), .inl (cA 1, 200, .inr (.inl w_81)))] : va_W) ++ va_pl L pf) H := hP
      replace hD : va_D A (([((ax 20), .inl (cA 1, 20, .inr (.inl gVs))), ((ax 1), .inr (3, [.ref (ax 2), .ref (ax 3), .ref (ax 4), .ref (ax 5), .ref (ax 6), .int xRz, .int xRn])), ((ax 3), .inl (cA 0, 400, .inl gS)), ((ax 4), .inl (cA 0, 400, .inl gM)), ((ax 6), .inl (cA 0, 400, .inl gV)), ((ax 18), .inl (cA 0, 400, .inl gW)), ((ax 16), .inr (7, [.ref (ax 1), .ref (ax 7), .ref (ax 15), .ref (ax 17), .ref (ax 18), .ref (ax 19), .ref (ax 20), .int xSr, .int xWm, .int w_82])), ((ax 19), .inl (cA 1, 200, .inr (.inl w_81)))] : va_W) ++ va_pl L pf) := hD
      refine lv_goto (tgt := 160) hx hb dX7_perform_105 (by decide) ?_
      have hP9 := hP.part (cx := [((ax 16), .inr (7, [.ref (ax 1), .ref (ax 7), .ref (ax 15), .ref (ax 17), .ref (ax 18), .ref (ax 19), .ref (ax 20), .int xSr, .int xWm, .int w_82])), ((ax 1), .inr (3, [.ref (ax 2), .ref (ax 3), .ref (ax 4), .ref (ax 5), .ref (ax 6), .int xRz, .int xRn])), ((ax 3), .inl (cA 0, 400, .inl gS)), ((ax 4), .inl (cA 0, 400, .inl gM)), ((ax 6), .inl (cA 0, 400, .inl gV)), ((ax 18), .inl (cA 0, 400, .inl gW)), ((ax 19), .inl (cA 1, 200, .inr (.inl w_81))), ((ax 20), .inl (cA 1, 20, .inr (.inl gVs)))]) [6, 1, 2, 3, 4, 5, 7, 0] rfl
      have hD9 := hD.part (cx := [((ax 16), .inr (7, [.ref (ax 1), .ref (ax 7), .ref (ax 15), .ref (ax 17), .ref (ax 18), .ref (ax 19), .ref (ax 20), .int xSr, .int xWm, .int w_82])), ((ax 1), .inr (3, [.ref (ax 2), .ref (ax 3), .ref (ax 4), .ref (ax 5), .ref (ax 6), .int xRz, .int xRn])), ((ax 3), .inl (cA 0, 400, .inl gS)), ((ax 4), .inl (cA 0, 400, .inl gM)), ((ax 6), .inl (cA 0, 400, .inl gV)), ((ax 18), .inl (cA 0, 400, .inl gW)), ((ax 19), .inl (cA 1, 200, .inr (.inl w_81))), ((ax 20), .inl (cA 1, 20, .inr (.inl gVs)))]) [6, 1, 2, 3, 4, 5, 7, 0] (by decide) rfl
      subst hQe
      have hpost : (0 ≤ w_82.toInt ∧ w_82.toInt ≤ 200) := iv_83
      exact W.vret hx hb hr (fun t ht hW => ⟨⟨(w_81, w_82), rfl, hpost, by rw [ht]; exact hP9, hD9⟩, hS.F ht⟩) hS.2.2 dX7_perform_160
    · refine lv_tableIn (off := 104) (tgt := 108) hx hb dX7_perform_4 (by omega) (by omega) (by rw [hsw]; rfl) (by decide) ?_
      refine lv_aload_n hx hb dX7_perform_108 rfl (lv_at hl 0 rfl) ?_
      obtain ⟨hPc, hDc, hFc, hCc⟩ := va_pre (ws' := [((ax 16), .inr (7, [.ref (ax 1), .ref (ax 7), .ref (ax 15), .ref (ax 17), .ref (ax 18), .ref (ax 19), .ref (ax 20), .int xSr, .int xWm, .int xTp])), ((ax 19), .inl (cA 1, 200, .inr (.inl gKk)))]) hP hD hS hA [0, 6] (by decide) rfl
      refine va_calll (va_runV (As := []) (rest := []) ⟨hx, hb, hml, hown, hts⟩ (k_X7_pop l dC dI cA s.heap.size ax xSr xWm xTp gKk i_xSr i_xTp) (cwV 0 hts gX7_perform_X7_pop rfl rfl rfl (by decide +kernel) ⟨Nat.le_of_ble_eq_true rfl, Nat.le_of_ble_eq_true rfl⟩) ⟨fun a U g mk q => by obtain ⟨q0, q1, qP, qK, qD, qN⟩ := q; exact ⟨q0, q1, qP, va_K.moved (u := U) (U := U.calling g mk a) (Vm.Alike.refl U.vm) qK, qD, qN.same rfl⟩, va_recv hK hPc (ci := 7) (q0 := 0) rfl rfl, fun U hU hW => ⟨rfl, by rw [hU], by rw [hU]; exact hPc, va_K.moved hW.alike hK, hDc.weaken (fun _ _ _ _ => trivial), hN.warm hW⟩⟩ rfl rfl hl.1 rfl (lv_room (Nat.le_of_ble_eq_true rfl)) dX7_perform_109 ⟨Nat.le_of_ble_eq_true rfl, Nat.le_of_ble_eq_true rfl⟩) hS (fun q _ h => hFc q h) hFc (fun r_84 u_85 t H1 locs ht hvm hw_86 hB hz1 hk1 hS => ?_)
      obtain ⟨w_87, rfl⟩ : ∃ z, z = u_85 := ⟨_, rfl⟩
      try dsimp only at hw_86 hB
      have iv_88 := hw_86
      clear hw_86
      obtain ⟨hP1, hD1⟩ := hB
      rw [ht] at hP1
      obtain ⟨hP, hD⟩ := va_joinQ (wr := [((ax 1), .inr (3, [.ref (ax 2), .ref (ax 3), .ref (ax 4), .ref (ax 5), .ref (ax 6), .int xRz, .int xRn])), ((ax 3), .inl (cA 0, 400, .inl gS)), ((ax 4), .inl (cA 0, 400, .inl gM)), ((ax 6), .inl (cA 0, 400, .inl gV)), ((ax 18), .inl (cA 0, 400, .inl gW)), ((ax 20), .inl (cA 1, 20, .inr (.inl gVs)))]) (w1 := [((ax 16), .inr (7, [.ref (ax 1), .ref (ax 7), .ref (ax 15), .ref (ax 17), .ref (ax 18), .ref (ax 19), .ref (ax 20), .int xSr, .int xWm, .int w_87])), ((ax 19), .inl (cA 1, 200, .inr (.inl gKk)))]) hP hD [0, 6] [1, 2, 3, 4, 5, 7] rfl rfl (by decide) (by decide) hk1 hFc hP1 hD1
      clear hz1
      generalize H1 = H at hP hS ⊢
      replace hP : va_P (dC, dI) vwCl (([((ax 1), .inr (3, [.ref (ax 2), .ref (ax 3), .ref (ax 4), .ref (ax 5), .ref (ax 6), .int xRz, .int xRn])), ((ax 3), .inl (cA 0, 400, .inl gS)), ((ax 4), .inl (cA 0, 400, .inl gM)), ((ax 6), .inl (cA 0, 400, .inl gV)), ((ax 18), .inl (cA 0, 400, .inl gW)), ((ax 20), .inl (cA 1, 20, .inr (.inl gVs))), ((ax 16), .inr (7, [.ref (ax 1), .ref (ax 7), .ref (ax 15), .ref (ax 17), .ref (ax 18), .ref (ax 19), .ref (ax 20), .int xSr, .int xWm, .int w_87])), ((ax 19), .inl (cA 1, 200, .inr (.inl gKk)))] : va_W) ++ va_pl L pf) H := hP
      replace hD : va_D A (([((ax 1), .inr (3, [.ref (ax 2), .ref (ax 3), .ref (ax 4), .ref (ax 5), .ref (ax 6), .int xRz, .int xRn])), ((ax 3), .inl (cA 0, 400, .inl gS)), ((ax 4), .inl (cA 0, 400, .inl gM)), ((ax 6), .inl (cA 0, 400, .inl gV)), ((ax 18), .inl (cA 0, 400, .inl gW)), ((ax 20), .inl (cA 1, 20, .inr (.inl gVs))), ((ax 16), .inr (7, [.ref (ax 1), .ref (ax 7), .ref (ax 15), .ref (ax 17), .ref (ax 18), .ref (ax 19), .ref (ax 20), .int xSr, .int xWm, .int w_87])), ((ax 19), .inl (cA 1, 200, .inr (.inl gKk)))] : va_W) ++ va_pl L pf) := hD
      refine lv_lstore_n (lv' := [(2, .long r_84), (0, .ref (ax 16)), (1, .ref sa)]) hx hb dX7_perform_112 rfl hl (by decide) rfl (fun ls hl => ?_)
      refine lv_aload_n hx hb dX7_perform_113 rfl (lv_at hl 1 rfl) ?_
      refine lv_lload_n hx hb dX7_perform_114 rfl (lv_at hl 0 rfl) ?_
      refine lv_ldc2 hx hb hown (hts (.constantLong RX7 38 (-9000000000000000000)) (by decide +kernel)) dX7_perform_115 ?_
      refine W.lcmp hx hb dX7_perform_118 ?_
      refine lv_topi (fun k_89 ek_89 => ?_)
      have dk_89 : (k_89.toInt < 0 ↔ r_84.toInt < (-9000000000000000000)) ∧ (k_89.toInt = 0 ↔ r_84.toInt = (-9000000000000000000)) ∧ (0 < k_89.toInt ↔ (-9000000000000000000) < r_84.toInt) := jI_cmp ek_89 rfl (by decide)
      refine lv_if_ne (tgt := 130) hx hb dX7_perform_119 (by decide) (fun c_90 => ?_) (fun c_90 => ?_)
      · have dc_90 : ¬ k_89.toInt = 0 := jI_ne c_90 rfl (by decide)
        refine lv_lload_n hx hb dX7_perform_130 rfl (lv_at hl 0 rfl) ?_
        obtain ⟨hPc, hDc, hFc, hCc⟩ := va_pre (ws' := [((ax 16), .inr (7, [.ref (ax 1), .ref (ax 7), .ref (ax 15), .ref (ax 17), .ref (ax 18), .ref (ax 19), .ref (ax 20), .int xSr, .int xWm, .int w_87])), ((ax 19), .inl (cA 1, 200, .inr (.inl gKk)))]) hP hD hS hA [6, 7] (by decide) rfl
        refine va_callv (va_runV (As := [.long r_84]) (rest := []) ⟨hx, hb, hml, hown, hts⟩ (k_X7_push l dC dI cA H.size ax xSr xWm w_87 gKk r_84 i_xSr iv_88) (cwV 1 hts gX7_perform_X7_push rfl rfl rfl (by decide +kernel) ⟨Nat.le_of_ble_eq_true rfl, Nat.le_of_ble_eq_true rfl⟩) ⟨fun a U g mk q => by obtain ⟨q0, q1, qP, qK, qD, qN⟩ := q; exact ⟨q0, q1, qP, va_K.moved (u := U) (U := U.calling g mk a) (Vm.Alike.refl U.vm) qK, qD, qN.same rfl⟩, va_recv hK hPc (ci := 7) (q0 := 0) rfl rfl, fun U hU hW => ⟨rfl, by rw [hU], by rw [hU]; exact hPc, va_K.moved hW.alike hK, hDc.weaken (fun _ _ _ _ => trivial), hN.warm hW⟩⟩ rfl rfl hl.1 rfl (lv_room (Nat.le_of_ble_eq_true rfl)) dX7_perform_131 ⟨Nat.le_of_ble_eq_true rfl, Nat.le_of_ble_eq_true rfl⟩) hS (fun q _ h => hFc q h) hFc (fun u_91 t H1 locs ht hvm hw_92 hB hz1 hk1 hS => ?_)
        obtain ⟨w_93, w_94⟩ := u_91
        try dsimp only at hw_92 hB
        have iv_95 := hw_92
        clear hw_92
        obtain ⟨hP1, hD1⟩ := hB
        rw [ht] at hP1
        obtain ⟨hP, hD⟩ := va_joinQ (wr := [((ax 1), .inr (3, [.ref (ax 2), .ref (ax 3), .ref (ax 4), .ref (ax 5), .ref (ax 6), .int xRz, .int xRn])), ((ax 3), .inl (cA 0, 400, .inl gS)), ((ax 4), .inl (cA 0, 400, .inl gM)), ((ax 6), .inl (cA 0, 400, .inl gV)), ((ax 18), .inl (cA 0, 400, .inl gW)), ((ax 20), .inl (cA 1, 20, .inr (.inl gVs)))]) (w1 := [((ax 16), .inr (7, [.ref (ax 1), .ref (ax 7), .ref (ax 15), .ref (ax 17), .ref (ax 18), .ref (ax 19), .ref (ax 20), .int xSr, .int xWm, .int w_94])), ((ax 19), .inl (cA 1, 200, .inr (.inl w_93)))]) hP hD [6, 7] [0, 1, 2, 3, 4, 5] rfl rfl (by decide) (by decide) hk1 hFc hP1 hD1
        clear hz1
        generalize H1 = H at hP hS ⊢
        replace hP : va_P (dC, dI) vwCl (([((ax 1), .inr (3, [.ref (ax 2), .ref (ax 3), .ref (ax 4), .ref (ax 5), .ref (ax 6), .int xRz, .int xRn])), ((ax 3), .inl (cA 0, 400, .inl gS)), ((ax 4), .inl (cA 0, 400, .inl gM)), ((ax 6), .inl (cA 0, 400, .inl gV)), ((ax 18), .inl (cA 0, 400, .inl gW)), ((ax 20), .inl (cA 1, 20, .inr (.inl gVs))), ((ax 16), .inr (7, [.ref (ax 1), .ref (ax 7), .ref (ax 15), .ref (ax 17), .ref (ax 18), .ref (ax 19), .ref (ax 20), .int xSr, .int xWm, .int w_94])), ((ax 19), .inl (cA 1, 200, .inr (.inl w_93)))] : va_W) ++ va_pl L pf) H := hP
        replace hD : va_D A (([((ax 1), .inr (3, [.ref (ax 2), .ref (ax 3), .ref (ax 4), .ref (ax 5), .ref (ax 6), .int xRz, .int xRn])), ((ax 3), .inl (cA 0, 400, .inl gS)), ((ax 4), .inl (cA 0, 400, .inl gM)), ((ax 6), .inl (cA 0, 400, .inl gV)), ((ax 18), .inl (cA 0, 400, .inl gW)), ((ax 20), .inl (cA 1, 20, .inr (.inl gVs))), ((ax 16), .inr (7, [.ref (ax 1), .ref (ax 7), .ref (ax 15), .ref (ax 17), .ref (ax 18), .ref (ax 19), .ref (ax 20), .int xSr, .int xWm, .int w_94])), ((ax 19), .inl (cA 1, 200, .inr (.inl w_93)))] : va_W) ++ va_pl L pf) := hD
        refine lv_goto (tgt := 160) hx hb dX7_perform_134 (by decide) ?_
        have hP9 := hP.part (cx := [((ax 16), .inr (7, [.ref (ax 1), .ref (ax 7), .ref (ax 15), .ref (ax 17), .ref (ax 18), .ref (ax 19), .ref (ax 20), .int xSr, .int xWm, .int w_94])), ((ax 1), .inr (3, [.ref (ax 2), .ref (ax 3), .ref (ax 4), .ref (ax 5), .ref (ax 6), .int xRz, .int xRn])), ((ax 3), .inl (cA 0, 400, .inl gS)), ((ax 4), .inl (cA 0, 400, .inl gM)), ((ax 6), .inl (cA 0, 400, .inl gV)), ((ax 18), .inl (cA 0, 400, .inl gW)), ((ax 19), .inl (cA 1, 200, .inr (.inl w_93))), ((ax 20), .inl (cA 1, 20, .inr (.inl gVs)))]) [6, 0, 1, 2, 3, 4, 7, 5] rfl
        have hD9 := hD.part (cx := [((ax 16), .inr (7, [.ref (ax 1), .ref (ax 7), .ref (ax 15), .ref (ax 17), .ref (ax 18), .ref (ax 19), .ref (ax 20), .int xSr, .int xWm, .int w_94])), ((ax 1), .inr (3, [.ref (ax 2), .ref (ax 3), .ref (ax 4), .ref (ax 5), .ref (ax 6), .int xRz, .int xRn])), ((ax 3), .inl (cA 0, 400, .inl gS)), ((ax 4), .inl (cA 0, 400, .inl gM)), ((ax 6), .inl (cA 0, 400, .inl gV)), ((ax 18), .inl (cA 0, 400, .inl gW)), ((ax 19), .inl (cA 1, 200, .inr (.inl w_93))), ((ax 20), .inl (cA 1, 20, .inr (.inl gVs)))]) [6, 0, 1, 2, 3, 4, 7, 5] (by decide) rfl
        subst hQe
        have hpost : (0 ≤ w_94.toInt ∧ w_94.toInt ≤ 200) := iv_95
        exact W.vret hx hb hr (fun t ht hW => ⟨⟨(w_93, w_94), rfl, hpost, by rw [ht]; exact hP9, hD9⟩, hS.F ht⟩) hS.2.2 dX7_perform_160
      · have dc_90 : k_89.toInt = 0 := jI_eq c_90 rfl (by decide)
        refine lv_aload_n hx hb dX7_perform_122 rfl (lv_at hl 2 rfl) ?_
        obtain ⟨pk_96, hpk_96⟩ := va_pl_get (X := [((ax 1), .inr (3, [.ref (ax 2), .ref (ax 3), .ref (ax 4), .ref (ax 5), .ref (ax 6), .int xRz, .int xRn])), ((ax 3), .inl (cA 0, 400, .inl gS)), ((ax 4), .inl (cA 0, 400, .inl gM)), ((ax 6), .inl (cA 0, 400, .inl gV)), ((ax 18), .inl (cA 0, 400, .inl gW)), ((ax 20), .inl (cA 1, 20, .inr (.inl gVs))), ((ax 16), .inr (7, [.ref (ax 1), .ref (ax 7), .ref (ax 15), .ref (ax 17), .ref (ax 18), .ref (ax 19), .ref (ax 20), .int xSr, .int xWm, .int w_87])), ((ax 19), .inl (cA 1, 200, .inr (.inl gKk)))]) (f := pf) hsm
        have gpk_96 := hpk_96
        rw [hsf] at hpk_96
        refine va_getN (D := (dC, dI)) (ci := 4) (v := .int nb) (C := RX4) (T := TX4) (N := 4) hx hb hts hIX4 hown hK hP pk_96 hpk_96 rfl 1 (by decide) (va_Nw.use rfl (nw_at hN 18 rfl)) (fun _ h9 => h9) rfl dX7_perform_123 ?_
        obtain ⟨y_97, ey_97⟩ : ∃ y : Int64, y = nb.toInt64 := ⟨_, rfl⟩
        have dy_97 : y_97.toInt = nb.toInt := by rw [ey_97]; exact Int32.toInt_toInt64 _
        refine lv_i2l (v := y_97) hx hb dX7_perform_126 ey_97.symm ?_
        refine lv_goto (tgt := 131) hx hb dX7_perform_127 (by decide) ?_
        obtain ⟨hPc, hDc, hFc, hCc⟩ := va_pre (ws' := [((ax 16), .inr (7, [.ref (ax 1), .ref (ax 7), .ref (ax 15), .ref (ax 17), .ref (ax 18), .ref (ax 19), .ref (ax 20), .int xSr, .int xWm, .int w_87])), ((ax 19), .inl (cA 1, 200, .inr (.inl gKk)))]) hP hD hS hA [6, 7] (by decide) rfl
        refine va_callv (va_runV (As := [.long y_97]) (rest := []) ⟨hx, hb, hml, hown, hts⟩ (k_X7_push l dC dI cA H.size ax xSr xWm w_87 gKk y_97 i_xSr iv_88) (cwV 1 hts gX7_perform_X7_push rfl rfl rfl (by decide +kernel) ⟨Nat.le_of_ble_eq_true rfl, Nat.le_of_ble_eq_true rfl⟩) ⟨fun a U g mk q => by obtain ⟨q0, q1, qP, qK, qD, qN⟩ := q; exact ⟨q0, q1, qP, va_K.moved (u := U) (U := U.calling g mk a) (Vm.Alike.refl U.vm) qK, qD, qN.same rfl⟩, va_recv hK hPc (ci := 7) (q0 := 0) rfl rfl, fun U hU hW => ⟨rfl, by rw [hU], by rw [hU]; exact hPc, va_K.moved hW.alike hK, hDc.weaken (fun _ _ _ _ => trivial), hN.warm hW⟩⟩ rfl rfl hl.1 rfl (lv_room (Nat.le_of_ble_eq_true rfl)) dX7_perform_131 ⟨Nat.le_of_ble_eq_true rfl, Nat.le_of_ble_eq_true rfl⟩) hS (fun q _ h => hFc q h) hFc (fun u_98 t H1 locs ht hvm hw_99 hB hz1 hk1 hS => ?_)
        obtain ⟨w_100, w_101⟩ := u_98
        try dsimp only at hw_99 hB
        have iv_102 := hw_99
        clear hw_99
        obtain ⟨hP1, hD1⟩ := hB
        rw [ht] at hP1
        obtain ⟨hP, hD⟩ := va_joinQ (wr := [((ax 1), .inr (3, [.ref (ax 2), .ref (ax 3), .ref (ax 4), .ref (ax 5), .ref (ax 6), .int xRz, .int xRn])), ((ax 3), .inl (cA 0, 400, .inl gS)), ((ax 4), .inl (cA 0, 400, .inl gM)), ((ax 6), .inl (cA 0, 400, .inl gV)), ((ax 18), .inl (cA 0, 400, .inl gW)), ((ax 20), .inl (cA 1, 20, .inr (.inl gVs)))]) (w1 := [((ax 16), .inr (7, [.ref (ax 1), .ref (ax 7), .ref (ax 15), .ref (ax 17), .ref (ax 18), .ref (ax 19), .ref (ax 20), .int xSr, .int xWm, .int w_101])), ((ax 19), .inl (cA 1, 200, .inr (.inl w_100)))]) hP hD [6, 7] [0, 1, 2, 3, 4, 5] rfl rfl (by decide) (by decide) hk1 hFc hP1 hD1
        clear hz1
        generalize H1 = H at hP hS ⊢
        replace hP : va_P (dC, dI) vwCl (([((ax 1), .inr (3, [.ref (ax 2), .ref (ax 3), .ref (ax 4), .ref (ax 5), .ref (ax 6), .int xRz, .int xRn])), ((ax 3), .inl (cA 0, 400, .inl gS)), ((ax 4), .inl (cA 0, 400, .inl gM)), ((ax 6), .inl (cA 0, 400, .inl gV)), ((ax 18), .inl (cA 0, 400, .inl gW)), ((ax 20), .inl (cA 1, 20, .inr (.inl gVs))), ((ax 16), .inr (7, [.ref (ax 1), .ref (ax 7), .ref (ax 15), .ref (ax 17), .ref (ax 18), .ref (ax 19), .ref (ax 20), .int xSr, .int xWm, .int w_101])), ((ax 19), .inl (cA 1, 200, .inr (.inl w_100)))] : va_W) ++ va_pl L pf) H := hP
        replace hD : va_D A (([((ax 1), .inr (3, [.ref (ax 2), .ref (ax 3), .ref (ax 4), .ref (ax 5), .ref (ax 6), .int xRz, .int xRn])), ((ax 3), .inl (cA 0, 400, .inl gS)), ((ax 4), .inl (cA 0, 400, .inl gM)), ((ax 6), .inl (cA 0, 400, .inl gV)), ((ax 18), .inl (cA 0, 400, .inl gW)), ((ax 20), .inl (cA 1, 20, .inr (.inl gVs))), ((ax 16), .inr (7, [.ref (ax 1), .ref (ax 7), .ref (ax 15), .ref (ax 17), .ref (ax 18), .ref (ax 19), .ref (ax 20), .int xSr, .int xWm, .int w_101])), ((ax 19), .inl (cA 1, 200, .inr (.inl w_100)))] : va_W) ++ va_pl L pf) := hD
        refine lv_goto (tgt := 160) hx hb dX7_perform_134 (by decide) ?_
        have hP9 := hP.part (cx := [((ax 16), .inr (7, [.ref (ax 1), .ref (ax 7), .ref (ax 15), .ref (ax 17), .ref (ax 18), .ref (ax 19), .ref (ax 20), .int xSr, .int xWm, .int w_101])), ((ax 1), .inr (3, [.ref (ax 2), .ref (ax 3), .ref (ax 4), .ref (ax 5), .ref (ax 6), .int xRz, .int xRn])), ((ax 3), .inl (cA 0, 400, .inl gS)), ((ax 4), .inl (cA 0, 400, .inl gM)), ((ax 6), .inl (cA 0, 400, .inl gV)), ((ax 18), .inl (cA 0, 400, .inl gW)), ((ax 19), .inl (cA 1, 200, .inr (.inl w_100))), ((ax 20), .inl (cA 1, 20, .inr (.inl gVs)))]) [6, 0, 1, 2, 3, 4, 7, 5] rfl
        have hD9 := hD.part (cx := [((ax 16), .inr (7, [.ref (ax 1), .ref (ax 7), .ref (ax 15), .ref (ax 17), .ref (ax 18), .ref (ax 19), .ref (ax 20), .int xSr, .int xWm, .int w_101])), ((ax 1), .inr (3, [.ref (ax 2), .ref (ax 3), .ref (ax 4), .ref (ax 5), .ref (ax 6), .int xRz, .int xRn])), ((ax 3), .inl (cA 0, 400, .inl gS)), ((ax 4), .inl (cA 0, 400, .inl gM)), ((ax 6), .inl (cA 0, 400, .inl gV)), ((ax 18), .inl (cA 0, 400, .inl gW)), ((ax 19), .inl (cA 1, 200, .inr (.inl w_100))), ((ax 20), .inl (cA 1, 20, .inr (.inl gVs)))]) [6, 0, 1, 2, 3, 4, 7, 5] (by decide) rfl
        subst hQe
        have hpost : (0 ≤ w_101.toInt ∧ w_101.toInt ≤ 200) := iv_102
        exact W.vret hx hb hr (fun t ht hW => ⟨⟨(w_100, w_101), rfl, hpost, by rw [ht]; exact hP9, hD9⟩, hS.F ht⟩) hS.2.2 dX7_perform_160

set_option maxHeartbeats 8000000 in
set_option maxRecDepth 100000 in
theorem k_X7_workOut (l : Launch) (dC : Nat → ClassId) (dI : Nat → Nat → Nat) (cA : Nat → ClassId) (sz : Nat) (ax : Nat → Nat) (xSr : Int32) (xWm : Int32) (xTp : Int32) (xRz : Int32) (xRn : Int32) (gS : Nat → Int32) (gM : Nat → Int32) (gV : Nat → Int32) (gW : Nat → Int32) (gKk : Nat → Int64) (gVs : Nat → Int64) (L : List Nat) (pf : Nat → va_E) (ss : Nat) (i_xSr : 0 ≤ xSr.toInt ∧ xSr.toInt ≤ 400) (i_xTp : 0 ≤ xTp.toInt ∧ xTp.toInt ≤ 200) (i_xRz : 0 ≤ xRz.toInt ∧ xRz.toInt ≤ 400) (i_gW : inB 0 399 400 gW) (hso : stepsOk cA L pf ss) : Met l yX7_workOut wsX7_workOut ({ frames := 4, cells := 0, slots := 0, locals := 95 }) (va_Pc [.ref (ax 16), .ref ss] (fun U => U.heap.size = sz ∧ va_P (dC, dI) vwCl (([((ax 16), .inr (7, [.ref (ax 1), .ref (ax 7), .ref (ax 15), .ref (ax 17), .ref (ax 18), .ref (ax 19), .ref (ax 20), .int xSr, .int xWm, .int xTp])), ((ax 1), .inr (3, [.ref (ax 2), .ref (ax 3), .ref (ax 4), .ref (ax 5), .ref (ax 6), .int xRz, .int xRn])), ((ax 3), .inl (cA 0, 400, .inl gS)), ((ax 4), .inl (cA 0, 400, .inl gM)), ((ax 6), .inl (cA 0, 400, .inl gV)), ((ax 18), .inl (cA 0, 400, .inl gW)), ((ax 19), .inl (cA 1, 200, .inr (.inl gKk))), ((ax 20), .inl (cA 1, 20, .inr (.inl gVs)))] : va_W) ++ va_pl L pf) U.heap ∧ va_K (dC, dI) vwCl (tyL cA) U ∧ va_D (fun _ => True) (([((ax 16), .inr (7, [.ref (ax 1), .ref (ax 7), .ref (ax 15), .ref (ax 17), .ref (ax 18), .ref (ax 19), .ref (ax 20), .int xSr, .int xWm, .int xTp])), ((ax 1), .inr (3, [.ref (ax 2), .ref (ax 3), .ref (ax 4), .ref (ax 5), .ref (ax 6), .int xRz, .int xRn])), ((ax 3), .inl (cA 0, 400, .inl gS)), ((ax 4), .inl (cA 0, 400, .inl gM)), ((ax 6), .inl (cA 0, 400, .inl gV)), ((ax 18), .inl (cA 0, 400, .inl gW)), ((ax 19), .inl (cA 1, 200, .inr (.inl gKk))), ((ax 20), .inl (cA 1, 20, .inr (.inl gVs)))] : va_W) ++ va_pl L pf) ∧ nw_ok U)) (va_Ql (fun (r : Int64) (u : (Nat → Int64) × Int32) => (0 ≤ u.2.toInt ∧ u.2.toInt ≤ 200)) (fun (u : (Nat → Int64) × Int32) (t : State) => va_P (dC, dI) vwCl (([((ax 16), .inr (7, [.ref (ax 1), .ref (ax 7), .ref (ax 15), .ref (ax 17), .ref (ax 18), .ref (ax 19), .ref (ax 20), .int xSr, .int xWm, .int u.2])), ((ax 1), .inr (3, [.ref (ax 2), .ref (ax 3), .ref (ax 4), .ref (ax 5), .ref (ax 6), .int xRz, .int xRn])), ((ax 3), .inl (cA 0, 400, .inl gS)), ((ax 4), .inl (cA 0, 400, .inl gM)), ((ax 6), .inl (cA 0, 400, .inl gV)), ((ax 18), .inl (cA 0, 400, .inl gW)), ((ax 19), .inl (cA 1, 200, .inr (.inl u.1))), ((ax 20), .inl (cA 1, 20, .inr (.inl gVs)))] : va_W) ++ va_pl L pf) t.heap ∧ va_D (va_A (([((ax 16), .inr (7, [.ref (ax 1), .ref (ax 7), .ref (ax 15), .ref (ax 17), .ref (ax 18), .ref (ax 19), .ref (ax 20), .int xSr, .int xWm, .int xTp])), ((ax 1), .inr (3, [.ref (ax 2), .ref (ax 3), .ref (ax 4), .ref (ax 5), .ref (ax 6), .int xRz, .int xRn])), ((ax 3), .inl (cA 0, 400, .inl gS)), ((ax 4), .inl (cA 0, 400, .inl gM)), ((ax 6), .inl (cA 0, 400, .inl gV)), ((ax 18), .inl (cA 0, 400, .inl gW)), ((ax 19), .inl (cA 1, 200, .inr (.inl gKk))), ((ax 20), .inl (cA 1, 20, .inr (.inl gVs)))] : va_W) ++ va_pl L pf) sz) (([((ax 16), .inr (7, [.ref (ax 1), .ref (ax 7), .ref (ax 15), .ref (ax 17), .ref (ax 18), .ref (ax 19), .ref (ax 20), .int xSr, .int xWm, .int u.2])), ((ax 1), .inr (3, [.ref (ax 2), .ref (ax 3), .ref (ax 4), .ref (ax 5), .ref (ax 6), .int xRz, .int xRn])), ((ax 3), .inl (cA 0, 400, .inl gS)), ((ax 4), .inl (cA 0, 400, .inl gM)), ((ax 6), .inl (cA 0, 400, .inl gV)), ((ax 18), .inl (cA 0, 400, .inl gW)), ((ax 19), .inl (cA 1, 200, .inr (.inl u.1))), ((ax 20), .inl (cA 1, 20, .inr (.inl gVs)))] : va_W) ++ va_pl L pf)) (va_A (([((ax 16), .inr (7, [.ref (ax 1), .ref (ax 7), .ref (ax 15), .ref (ax 17), .ref (ax 18), .ref (ax 19), .ref (ax 20), .int xSr, .int xWm, .int xTp])), ((ax 1), .inr (3, [.ref (ax 2), .ref (ax 3), .ref (ax 4), .ref (ax 5), .ref (ax 6), .int xRz, .int xRn])), ((ax 3), .inl (cA 0, 400, .inl gS)), ((ax 4), .inl (cA 0, 400, .inl gM)), ((ax 6), .inl (cA 0, 400, .inl gV)), ((ax 18), .inl (cA 0, 400, .inl gW)), ((ax 19), .inl (cA 1, 200, .inr (.inl gKk))), ((ax 20), .inl (cA 1, 20, .inr (.inl gVs)))] : va_W) ++ va_pl L pf) sz)) 0 0 (va_A (([((ax 16), .inr (7, [.ref (ax 1), .ref (ax 7), .ref (ax 15), .ref (ax 17), .ref (ax 18), .ref (ax 19), .ref (ax 20), .int xSr, .int xWm, .int xTp])), ((ax 1), .inr (3, [.ref (ax 2), .ref (ax 3), .ref (ax 4), .ref (ax 5), .ref (ax 6), .int xRz, .int xRn])), ((ax 3), .inl (cA 0, 400, .inl gS)), ((ax 4), .inl (cA 0, 400, .inl gM)), ((ax 6), .inl (cA 0, 400, .inl gV)), ((ax 18), .inl (cA 0, 400, .inl gW)), ((ax 19), .inl (cA 1, 200, .inr (.inl gKk))), ((ax 20), .inl (cA 1, 20, .inr (.inl gVs)))] : va_W) ++ va_pl L pf) sz) := by
  refine Met.ofW (cc := cX7_workOut) (maxL := 3) (ret := (some .long)) (by decide) rfl ?_
  intro p e s m args below meth c s₁ B hml hv
  obtain ⟨rfl, hsz, hP, hK, hD0, hN⟩ := hv
  have hx := B.exec
  have hb := B.bytes
  have hr := B.returns
  have hts := atoms_spec (ws := wsX7_workOut) B.pre
  have hown : s.vm.findClass RX7 = some m.cls := findClass_of_methodNamed B.named
  have hlocks := B.notSynchronized
  subst hsz
  have hD := hD0.self (sz := s.heap.size)
  generalize hAe : va_A (([((ax 16), .inr (7, [.ref (ax 1), .ref (ax 7), .ref (ax 15), .ref (ax 17), .ref (ax 18), .ref (ax 19), .ref (ax 20), .int xSr, .int xWm, .int xTp])), ((ax 1), .inr (3, [.ref (ax 2), .ref (ax 3), .ref (ax 4), .ref (ax 5), .ref (ax 6), .int xRz, .int xRn])), ((ax 3), .inl (cA 0, 400, .inl gS)), ((ax 4), .inl (cA 0, 400, .inl gM)), ((ax 6), .inl (cA 0, 400, .inl gV)), ((ax 18), .inl (cA 0, 400, .inl gW)), ((ax 19), .inl (cA 1, 200, .inr (.inl gKk))), ((ax 20), .inl (cA 1, 20, .inr (.inl gVs)))] : va_W) ++ va_pl L pf) s.heap.size = A at hD ⊢
  have hA : ∀ q : Nat, s.heap.size ≤ q → A q := fun q h => by rw [← hAe]; exact Or.inr h
  have hS : va_S A s.heap s.heap [] := va_S.rf
  have hso9 := hso
  obtain ⟨hsm, sn, sg, hsf, hsn, hst⟩ := hso9
  have hIX7 : ∀ w ∈ u_ws RX7 TX7 10, w ∈ wsX7_workOut := by decide +kernel
  have hl := lv_entry ([.ref (ax 16), .ref ss]) (n := 3) (Nat.le_of_ble_eq_true rfl)
  rw [lg_entry_eq]
  generalize (lg_sl ([.ref (ax 16), .ref ss]) ++ List.replicate (3 - (lg_sl ([.ref (ax 16), .ref ss])).length) Slot.unset).toArray = ls at hl ⊢
  have hl : lv_has ls 3 [(0, .ref (ax 16)), (1, .ref ss)] := hl
  generalize hQe : MQ below _ _ _ _ _ _ = QQ
  refine lv_aload_n hx hb dX7_workOut_0 rfl (lv_at hl 0 rfl) ?_
  refine lv_iconst (v := 0) hx hb dX7_workOut_1 (by decide) ?_
  refine va_put (D := (dC, dI)) (ci := 7) (v := .int 0) (ty := .int) (C := RX7) (T := TX7) (N := 10) hx hb hts hIX7 tyX7 tyX7_ok nmX7 hown hK hP hD hS 0 rfl rfl 9 (by decide) (hts (.fieldLink RX7 88 "TraitHouse$Worker" "top" "I") (by decide +kernel)) (fun _ h9 => h9) rfl (by decide +kernel) rfl rfl (Nat.le_of_ble_eq_true rfl) dX7_workOut_2 (fun H locs hP hD hS => ?_)
  replace hP : va_P (dC, dI) vwCl (([((ax 16), .inr (7, [.ref (ax 1), .ref (ax 7), .ref (ax 15), .ref (ax 17), .ref (ax 18), .ref (ax 19), .ref (ax 20), .int xSr, .int xWm, .int 0])), ((ax 1), .inr (3, [.ref (ax 2), .ref (ax 3), .ref (ax 4), .ref (ax 5), .ref (ax 6), .int xRz, .int xRn])), ((ax 3), .inl (cA 0, 400, .inl gS)), ((ax 4), .inl (cA 0, 400, .inl gM)), ((ax 6), .inl (cA 0, 400, .inl gV)), ((ax 18), .inl (cA 0, 400, .inl gW)), ((ax 19), .inl (cA 1, 200, .inr (.inl gKk))), ((ax 20), .inl (cA 1, 20, .inr (.inl gVs)))] : va_W) ++ va_pl L pf) H := hP
  replace hD : va_D A (([((ax 16), .inr (7, [.ref (ax 1), .ref (ax 7), .ref (ax 15), .ref (ax 17), .ref (ax 18), .ref (ax 19), .ref (ax 20), .int xSr, .int xWm, .int 0])), ((ax 1), .inr (3, [.ref (ax 2), .ref (ax 3), .ref (ax 4), .ref (ax 5), .ref (ax 6), .int xRz, .int xRn])), ((ax 3), .inl (cA 0, 400, .inl gS)), ((ax 4), .inl (cA 0, 400, .inl gM)), ((ax 6), .inl (cA 0, 400, .inl gV)), ((ax 18), .inl (cA 0, 400, .inl gW)), ((ax 19), .inl (cA 1, 200, .inr (.inl gKk))), ((ax 20), .inl (cA 1, 20, .inr (.inl gVs)))] : va_W) ++ va_pl L pf) := hD
  refine lv_iconst (v := 0) hx hb dX7_workOut_5 (by decide) ?_
  refine lv_istore_n (lv' := [(2, .int 0), (0, .ref (ax 16)), (1, .ref ss)]) hx hb dX7_workOut_6 rfl hl (by decide) rfl (fun ls hl => ?_)
  have loop7_1 : ∀ (n : Nat) (i2 : Int32) (w_gKk_7 : Nat → Int64) (w_xTp_7 : Int32) (H : Heap) (locs : List Loc) (ls : Array Slot), 200 - i2.toInt < (n : Int) → (0 ≤ i2.toInt ∧ i2.toInt ≤ 200) → (0 ≤ w_xTp_7.toInt ∧ w_xTp_7.toInt ≤ 200) → va_P (dC, dI) vwCl (([((ax 16), .inr (7, [.ref (ax 1), .ref (ax 7), .ref (ax 15), .ref (ax 17), .ref (ax 18), .ref (ax 19), .ref (ax 20), .int xSr, .int xWm, .int w_xTp_7])), ((ax 1), .inr (3, [.ref (ax 2), .ref (ax 3), .ref (ax 4), .ref (ax 5), .ref (ax 6), .int xRz, .int xRn])), ((ax 3), .inl (cA 0, 400, .inl gS)), ((ax 4), .inl (cA 0, 400, .inl gM)), ((ax 6), .inl (cA 0, 400, .inl gV)), ((ax 18), .inl (cA 0, 400, .inl gW)), ((ax 19), .inl (cA 1, 200, .inr (.inl w_gKk_7))), ((ax 20), .inl (cA 1, 20, .inr (.inl gVs)))] : va_W) ++ va_pl L pf) H → va_D A (([((ax 16), .inr (7, [.ref (ax 1), .ref (ax 7), .ref (ax 15), .ref (ax 17), .ref (ax 18), .ref (ax 19), .ref (ax 20), .int xSr, .int xWm, .int w_xTp_7])), ((ax 1), .inr (3, [.ref (ax 2), .ref (ax 3), .ref (ax 4), .ref (ax 5), .ref (ax 6), .int xRz, .int xRn])), ((ax 3), .inl (cA 0, 400, .inl gS)), ((ax 4), .inl (cA 0, 400, .inl gM)), ((ax 6), .inl (cA 0, 400, .inl gV)), ((ax 18), .inl (cA 0, 400, .inl gW)), ((ax 19), .inl (cA 1, 200, .inr (.inl w_gKk_7))), ((ax 20), .inl (cA 1, 20, .inr (.inl gVs)))] : va_W) ++ va_pl L pf) → va_S A s.heap H locs → lv_has ls 3 [(2, .int i2), (0, .ref (ax 16)), (1, .ref ss)] → W p l e ({ frames := 4, cells := 0, slots := 0, locals := 95 }) s m ([.ref (ax 16), .ref ss] : List Value).toArray below meth c H locs 0 0 QQ (F0 m 7 ls []) := by
    intro n
    induction n with
    | zero => intro i2 w_gKk_7 w_xTp_7 H locs ls hme hv0_7 hv1_7; exfalso; omega
    | succ n ih_7 =>
      intro i2 w_gKk_7 w_xTp_7 H locs ls hme_7 hv0_7 hv1_7 hP hD hS hl
      refine lv_iload_n hx hb dX7_workOut_7 rfl (lv_at hl 0 rfl) ?_
      refine lv_aload_n hx hb dX7_workOut_8 rfl (lv_at hl 2 rfl) ?_
      obtain ⟨pk_2, hpk_2⟩ := va_pl_get (X := [((ax 16), .inr (7, [.ref (ax 1), .ref (ax 7), .ref (ax 15), .ref (ax 17), .ref (ax 18), .ref (ax 19), .ref (ax 20), .int xSr, .int xWm, .int w_xTp_7])), ((ax 1), .inr (3, [.ref (ax 2), .ref (ax 3), .ref (ax 4), .ref (ax 5), .ref (ax 6), .int xRz, .int xRn])), ((ax 3), .inl (cA 0, 400, .inl gS)), ((ax 4), .inl (cA 0, 400, .inl gM)), ((ax 6), .inl (cA 0, 400, .inl gV)), ((ax 18), .inl (cA 0, 400, .inl gW)), ((ax 19), .inl (cA 1, 200, .inr (.inl w_gKk_7))), ((ax 20), .inl (cA 1, 20, .inr (.inl gVs)))]) (f := pf) hsm
      have gpk_2 := hpk_2
      rw [hsf] at hpk_2
      obtain ⟨x_3, ex_3⟩ : ∃ y : Int32, y = nI sn := ⟨_, rfl⟩
      refine va_alen (v := x_3) hx hb hK hP pk_2 4 hpk_2 rfl ex_3.symm dX7_workOut_9 ?_
      have dx_3 : x_3.toInt = (sn : Int) := by rw [ex_3]; exact nI_toInt (by omega)
      refine lv_icmp_ge (tgt := 26) hx hb dX7_workOut_10 (by decide) (fun c_4 => ?_) (fun c_4 => ?_)
      · have dc_4 : x_3.toInt ≤ i2.toInt := jI_le c_4 rfl rfl
        refine lv_aload_n hx hb dX7_workOut_26 rfl (lv_at hl 1 rfl) ?_
        obtain ⟨hPc, hDc, hFc, hCc⟩ := va_pre (ws' := [((ax 16), .inr (7, [.ref (ax 1), .ref (ax 7), .ref (ax 15), .ref (ax 17), .ref (ax 18), .ref (ax 19), .ref (ax 20), .int xSr, .int xWm, .int w_xTp_7])), ((ax 19), .inl (cA 1, 200, .inr (.inl w_gKk_7)))]) hP hD hS hA [0, 6] (by decide) rfl
        refine va_calll (va_runV (As := []) (rest := []) ⟨hx, hb, hml, hown, hts⟩ (k_X7_pop l dC dI cA H.size ax xSr xWm w_xTp_7 w_gKk_7 i_xSr hv1_7) (cwV 0 hts gX7_workOut_X7_pop rfl rfl rfl (by decide +kernel) ⟨Nat.le_of_ble_eq_true rfl, Nat.le_of_ble_eq_true rfl⟩) ⟨fun a U g mk q => by obtain ⟨q0, q1, qP, qK, qD, qN⟩ := q; exact ⟨q0, q1, qP, va_K.moved (u := U) (U := U.calling g mk a) (Vm.Alike.refl U.vm) qK, qD, qN.same rfl⟩, va_recv hK hPc (ci := 7) (q0 := 0) rfl rfl, fun U hU hW => ⟨rfl, by rw [hU], by rw [hU]; exact hPc, va_K.moved hW.alike hK, hDc.weaken (fun _ _ _ _ => trivial), hN.warm hW⟩⟩ rfl rfl hl.1 rfl (lv_room (Nat.le_of_ble_eq_true rfl)) dX7_workOut_27 ⟨Nat.le_of_ble_eq_true rfl, Nat.le_of_ble_eq_true rfl⟩) hS (fun q _ h => hFc q h) hFc (fun r_5 u_6 t H1 locs ht hvm hw_7 hB hz1 hk1 hS => ?_)
        obtain ⟨w_8, rfl⟩ : ∃ z, z = u_6 := ⟨_, rfl⟩
        try dsimp only at hw_7 hB
        have iv_9 := hw_7
        clear hw_7
        obtain ⟨hP1, hD1⟩ := hB
        rw [ht] at hP1
        obtain ⟨hP, hD⟩ := va_joinQ (wr := [((ax 1), .inr (3, [.ref (ax 2), .ref (ax 3), .ref (ax 4), .ref (ax 5), .ref (ax 6), .int xRz, .int xRn])), ((ax 3), .inl (cA 0, 400, .inl gS)), ((ax 4), .inl (cA 0, 400, .inl gM)), ((ax 6), .inl (cA 0, 400, .inl gV)), ((ax 18), .inl (cA 0, 400, .inl gW)), ((ax 20), .inl (cA 1, 20, .inr (.inl gVs)))]) (w1 := [((ax 16), .inr (7, [.ref (ax 1), .ref (ax 7), .ref (ax 15), .ref (ax 17), .ref (ax 18), .ref (ax 19), .ref (ax 20), .int xSr, .int xWm, .int w_8])), ((ax 19), .inl (cA 1, 200, .inr (.inl w_gKk_7)))]) hP hD [0, 6] [1, 2, 3, 4, 5, 7] rfl rfl (by decide) (by decide) hk1 hFc hP1 hD1
        clear hz1
        generalize H1 = H at hP hS ⊢
        replace hP : va_P (dC, dI) vwCl (([((ax 1), .inr (3, [.ref (ax 2), .ref (ax 3), .ref (ax 4), .ref (ax 5), .ref (ax 6), .int xRz, .int xRn])), ((ax 3), .inl (cA 0, 400, .inl gS)), ((ax 4), .inl (cA 0, 400, .inl gM)), ((ax 6), .inl (cA 0, 400, .inl gV)), ((ax 18), .inl (cA 0, 400, .inl gW)), ((ax 20), .inl (cA 1, 20, .inr (.inl gVs))), ((ax 16), .inr (7, [.ref (ax 1), .ref (ax 7), .ref (ax 15), .ref (ax 17), .ref (ax 18), .ref (ax 19), .ref (ax 20), .int xSr, .int xWm, .int w_8])), ((ax 19), .inl (cA 1, 200, .inr (.inl w_gKk_7)))] : va_W) ++ va_pl L pf) H := hP
        replace hD : va_D A (([((ax 1), .inr (3, [.ref (ax 2), .ref (ax 3), .ref (ax 4), .ref (ax 5), .ref (ax 6), .int xRz, .int xRn])), ((ax 3), .inl (cA 0, 400, .inl gS)), ((ax 4), .inl (cA 0, 400, .inl gM)), ((ax 6), .inl (cA 0, 400, .inl gV)), ((ax 18), .inl (cA 0, 400, .inl gW)), ((ax 20), .inl (cA 1, 20, .inr (.inl gVs))), ((ax 16), .inr (7, [.ref (ax 1), .ref (ax 7), .ref (ax 15), .ref (ax 17), .ref (ax 18), .ref (ax 19), .ref (ax 20), .int xSr, .int xWm, .int w_8])), ((ax 19), .inl (cA 1, 200, .inr (.inl w_gKk_7)))] : va_W) ++ va_pl L pf) := hD
        have hP9 := hP.part (cx := [((ax 16), .inr (7, [.ref (ax 1), .ref (ax 7), .ref (ax 15), .ref (ax 17), .ref (ax 18), .ref (ax 19), .ref (ax 20), .int xSr, .int xWm, .int w_8])), ((ax 1), .inr (3, [.ref (ax 2), .ref (ax 3), .ref (ax 4), .ref (ax 5), .ref (ax 6), .int xRz, .int xRn])), ((ax 3), .inl (cA 0, 400, .inl gS)), ((ax 4), .inl (cA 0, 400, .inl gM)), ((ax 6), .inl (cA 0, 400, .inl gV)), ((ax 18), .inl (cA 0, 400, .inl gW)), ((ax 19), .inl (cA 1, 200, .inr (.inl w_gKk_7))), ((ax 20), .inl (cA 1, 20, .inr (.inl gVs)))]) [6, 0, 1, 2, 3, 4, 7, 5] rfl
        have hD9 := hD.part (cx := [((ax 16), .inr (7, [.ref (ax 1), .ref (ax 7), .ref (ax 15), .ref (ax 17), .ref (ax 18), .ref (ax 19), .ref (ax 20), .int xSr, .int xWm, .int w_8])), ((ax 1), .inr (3, [.ref (ax 2), .ref (ax 3), .ref (ax 4), .ref (ax 5), .ref (ax 6), .int xRz, .int xRn])), ((ax 3), .inl (cA 0, 400, .inl gS)), ((ax 4), .inl (cA 0, 400, .inl gM)), ((ax 6), .inl (cA 0, 400, .inl gV)), ((ax 18), .inl (cA 0, 400, .inl gW)), ((ax 19), .inl (cA 1, 200, .inr (.inl w_gKk_7))), ((ax 20), .inl (cA 1, 20, .inr (.inl gVs)))]) [6, 0, 1, 2, 3, 4, 7, 5] (by decide) rfl
        subst hQe
        have hans : (r_5 : Int64).toInt = r_5.toInt := rfl
        have hpost : (0 ≤ w_8.toInt ∧ w_8.toInt ≤ 200) := iv_9
        exact W.lret (v := r_5) hx hb hr (fun t ht hW => ⟨⟨r_5, (w_gKk_7, w_8), rfl, hpost, by rw [ht]; exact hP9, hD9⟩, hS.F ht⟩) hS.2.2 dX7_workOut_30
      · have dc_4 : i2.toInt < x_3.toInt := jI_nle c_4 rfl rfl
        refine lv_aload_n hx hb dX7_workOut_13 rfl (lv_at hl 1 rfl) ?_
        refine lv_aload_n hx hb dX7_workOut_14 rfl (lv_at hl 2 rfl) ?_
        refine lv_iload_n hx hb dX7_workOut_15 rfl (lv_at hl 0 rfl) ?_
        obtain ⟨pk_10, hpk_10⟩ := va_pl_get (X := [((ax 16), .inr (7, [.ref (ax 1), .ref (ax 7), .ref (ax 15), .ref (ax 17), .ref (ax 18), .ref (ax 19), .ref (ax 20), .int xSr, .int xWm, .int w_xTp_7])), ((ax 1), .inr (3, [.ref (ax 2), .ref (ax 3), .ref (ax 4), .ref (ax 5), .ref (ax 6), .int xRz, .int xRn])), ((ax 3), .inl (cA 0, 400, .inl gS)), ((ax 4), .inl (cA 0, 400, .inl gM)), ((ax 6), .inl (cA 0, 400, .inl gV)), ((ax 18), .inl (cA 0, 400, .inl gW)), ((ax 19), .inl (cA 1, 200, .inr (.inl w_gKk_7))), ((ax 20), .inl (cA 1, 20, .inr (.inl gVs)))]) (f := pf) hsm
        have gpk_10 := hpk_10
        rw [hsf] at hpk_10
        have h_11 : vp_in i2 sn := (vp_in_iff.mpr ⟨by omega, by omega⟩)
        refine va_aldq hx hb hK hP pk_10 4 hpk_10 rfl h_11 dX7_workOut_16 ?_
        obtain ⟨t_12, hae_12, ham_12, kd_12, nb_12, fr_12, to_12, haf_12, hak_12⟩ := hst _ (jix h_11)
        rw [hae_12]
        refine W.eq (g2 := F0 m 17 ls [.ref t_12, .ref (ax 16)]) rfl ?_
        have hPc := hP.part (cx := [((ax 16), .inr (7, [.ref (ax 1), .ref (ax 7), .ref (ax 15), .ref (ax 17), .ref (ax 18), .ref (ax 19), .ref (ax 20), .int xSr, .int xWm, .int w_xTp_7])), ((ax 1), .inr (3, [.ref (ax 2), .ref (ax 3), .ref (ax 4), .ref (ax 5), .ref (ax 6), .int xRz, .int xRn])), ((ax 3), .inl (cA 0, 400, .inl gS)), ((ax 4), .inl (cA 0, 400, .inl gM)), ((ax 6), .inl (cA 0, 400, .inl gV)), ((ax 18), .inl (cA 0, 400, .inl gW)), ((ax 19), .inl (cA 1, 200, .inr (.inl w_gKk_7))), ((ax 20), .inl (cA 1, 20, .inr (.inl gVs)))]) [0, 1, 2, 3, 4, 5, 6, 7] rfl
        have hDc := hD.part (cx := [((ax 16), .inr (7, [.ref (ax 1), .ref (ax 7), .ref (ax 15), .ref (ax 17), .ref (ax 18), .ref (ax 19), .ref (ax 20), .int xSr, .int xWm, .int w_xTp_7])), ((ax 1), .inr (3, [.ref (ax 2), .ref (ax 3), .ref (ax 4), .ref (ax 5), .ref (ax 6), .int xRz, .int xRn])), ((ax 3), .inl (cA 0, 400, .inl gS)), ((ax 4), .inl (cA 0, 400, .inl gM)), ((ax 6), .inl (cA 0, 400, .inl gV)), ((ax 18), .inl (cA 0, 400, .inl gW)), ((ax 19), .inl (cA 1, 200, .inr (.inl w_gKk_7))), ((ax 20), .inl (cA 1, 20, .inr (.inl gVs)))]) [0, 1, 2, 3, 4, 5, 6, 7] (by decide) rfl
        have hFc := va_freeP (cx := [((ax 16), .inr (7, [.ref (ax 1), .ref (ax 7), .ref (ax 15), .ref (ax 17), .ref (ax 18), .ref (ax 19), .ref (ax 20), .int xSr, .int xWm, .int w_xTp_7])), ((ax 1), .inr (3, [.ref (ax 2), .ref (ax 3), .ref (ax 4), .ref (ax 5), .ref (ax 6), .int xRz, .int xRn])), ((ax 3), .inl (cA 0, 400, .inl gS)), ((ax 4), .inl (cA 0, 400, .inl gM)), ((ax 6), .inl (cA 0, 400, .inl gV)), ((ax 18), .inl (cA 0, 400, .inl gW)), ((ax 19), .inl (cA 1, 200, .inr (.inl w_gKk_7))), ((ax 20), .inl (cA 1, 20, .inr (.inl gVs)))]) hD hS hA [0, 1, 2, 3, 4, 5, 6, 7] rfl
        refine va_callv (va_runV (As := [.ref t_12]) (rest := []) ⟨hx, hb, hml, hown, hts⟩ (k_X7_perform l dC dI cA H.size ax xSr xWm w_xTp_7 xRz xRn gS gM gV gW w_gKk_7 gVs L pf t_12 kd_12 nb_12 fr_12 to_12 i_xSr hv1_7 i_xRz i_gW ham_12 haf_12 hak_12) (cwV 1 hts gX7_workOut_X7_perform rfl rfl rfl (by decide +kernel) ⟨Nat.le_of_ble_eq_true rfl, Nat.le_of_ble_eq_true rfl⟩) ⟨fun a U g mk q => by obtain ⟨q0, q1, qP, qK, qD, qN⟩ := q; exact ⟨q0, q1, qP, va_K.moved (u := U) (U := U.calling g mk a) (Vm.Alike.refl U.vm) qK, qD, qN.same rfl⟩, va_recv hK hPc (ci := 7) (q0 := 0) rfl rfl, fun U hU hW => ⟨rfl, by rw [hU], by rw [hU]; exact hPc, va_K.moved hW.alike hK, hDc.weaken (fun _ _ _ _ => trivial), hN.warm hW⟩⟩ rfl rfl hl.1 rfl (lv_room (Nat.le_of_ble_eq_true rfl)) dX7_workOut_17 ⟨Nat.le_of_ble_eq_true rfl, Nat.le_of_ble_eq_true rfl⟩) hS (fun q _ h => hFc q h) hFc (fun u_13 t H1 locs ht hvm hw_14 hB hz1 hk1 hS => ?_)
        obtain ⟨w_15, w_16⟩ := u_13
        try dsimp only at hw_14 hB
        have iv_17 := hw_14
        clear hw_14
        obtain ⟨hP1, hD1⟩ := hB
        rw [ht] at hP1
        obtain ⟨hP, hD⟩ := va_joinP (wr := []) (rx := [((ax 16), .inr (7, [.ref (ax 1), .ref (ax 7), .ref (ax 15), .ref (ax 17), .ref (ax 18), .ref (ax 19), .ref (ax 20), .int xSr, .int xWm, .int w_16])), ((ax 1), .inr (3, [.ref (ax 2), .ref (ax 3), .ref (ax 4), .ref (ax 5), .ref (ax 6), .int xRz, .int xRn])), ((ax 3), .inl (cA 0, 400, .inl gS)), ((ax 4), .inl (cA 0, 400, .inl gM)), ((ax 6), .inl (cA 0, 400, .inl gV)), ((ax 18), .inl (cA 0, 400, .inl gW)), ((ax 19), .inl (cA 1, 200, .inr (.inl w_15))), ((ax 20), .inl (cA 1, 20, .inr (.inl gVs)))]) (pl1 := va_pl L pf) hP hD [0, 1, 2, 3, 4, 5, 6, 7] [] rfl rfl (by decide) (by decide) hk1 hFc hP1 hD1
        clear hz1
        generalize H1 = H at hP hS ⊢
        replace hP : va_P (dC, dI) vwCl (([((ax 16), .inr (7, [.ref (ax 1), .ref (ax 7), .ref (ax 15), .ref (ax 17), .ref (ax 18), .ref (ax 19), .ref (ax 20), .int xSr, .int xWm, .int w_16])), ((ax 1), .inr (3, [.ref (ax 2), .ref (ax 3), .ref (ax 4), .ref (ax 5), .ref (ax 6), .int xRz, .int xRn])), ((ax 3), .inl (cA 0, 400, .inl gS)), ((ax 4), .inl (cA 0, 400, .inl gM)), ((ax 6), .inl (cA 0, 400, .inl gV)), ((ax 18), .inl (cA 0, 400, .inl gW)), ((ax 19), .inl (cA 1, 200, .inr (.inl w_15))), ((ax 20), .inl (cA 1, 20, .inr (.inl gVs)))] : va_W) ++ va_pl L pf) H := hP
        replace hD : va_D A (([((ax 16), .inr (7, [.ref (ax 1), .ref (ax 7), .ref (ax 15), .ref (ax 17), .ref (ax 18), .ref (ax 19), .ref (ax 20), .int xSr, .int xWm, .int w_16])), ((ax 1), .inr (3, [.ref (ax 2), .ref (ax 3), .ref (ax 4), .ref (ax 5), .ref (ax 6), .int xRz, .int xRn])), ((ax 3), .inl (cA 0, 400, .inl gS)), ((ax 4), .inl (cA 0, 400, .inl gM)), ((ax 6), .inl (cA 0, 400, .inl gV)), ((ax 18), .inl (cA 0, 400, .inl gW)), ((ax 19), .inl (cA 1, 200, .inr (.inl w_15))), ((ax 20), .inl (cA 1, 20, .inr (.inl gVs)))] : va_W) ++ va_pl L pf) := hD
        obtain ⟨x_18, ex_18⟩ : ∃ y : Int32, y = i2 + 1 := ⟨_, rfl⟩
        have dx_18 : x_18.toInt = i2.toInt + 1 := by rw [ex_18]; exact jI_add rfl (by decide) (by omega) (by omega)
        refine lv_iinc (v := x_18) (lv' := [(2, .int x_18), (0, .ref (ax 16)), (1, .ref ss)]) hx hb dX7_workOut_20 hl (k := 0) rfl (by rw [ex_18]; rfl) (by decide) rfl (fun ls hl => ?_)
        refine lv_goto (tgt := 7) hx hb dX7_workOut_23 (by decide) ?_
        exact ih_7 x_18 w_15 w_16 _ _ ls (by omega) (by omega) iv_17 (hP.part (cx := [((ax 16), .inr (7, [.ref (ax 1), .ref (ax 7), .ref (ax 15), .ref (ax 17), .ref (ax 18), .ref (ax 19), .ref (ax 20), .int xSr, .int xWm, .int w_16])), ((ax 1), .inr (3, [.ref (ax 2), .ref (ax 3), .ref (ax 4), .ref (ax 5), .ref (ax 6), .int xRz, .int xRn])), ((ax 3), .inl (cA 0, 400, .inl gS)), ((ax 4), .inl (cA 0, 400, .inl gM)), ((ax 6), .inl (cA 0, 400, .inl gV)), ((ax 18), .inl (cA 0, 400, .inl gW)), ((ax 19), .inl (cA 1, 200, .inr (.inl w_15))), ((ax 20), .inl (cA 1, 20, .inr (.inl gVs)))]) [0, 1, 2, 3, 4, 5, 6, 7] rfl) (hD.part (cx := [((ax 16), .inr (7, [.ref (ax 1), .ref (ax 7), .ref (ax 15), .ref (ax 17), .ref (ax 18), .ref (ax 19), .ref (ax 20), .int xSr, .int xWm, .int w_16])), ((ax 1), .inr (3, [.ref (ax 2), .ref (ax 3), .ref (ax 4), .ref (ax 5), .ref (ax 6), .int xRz, .int xRn])), ((ax 3), .inl (cA 0, 400, .inl gS)), ((ax 4), .inl (cA 0, 400, .inl gM)), ((ax 6), .inl (cA 0, 400, .inl gV)), ((ax 18), .inl (cA 0, 400, .inl gW)), ((ax 19), .inl (cA 1, 200, .inr (.inl w_15))), ((ax 20), .inl (cA 1, 20, .inr (.inl gVs)))]) [0, 1, 2, 3, 4, 5, 6, 7] (by decide) rfl) hS (lv_sub hl [0, 1, 2] rfl)
  have hk_19 : (0 : Int32).toInt = 0 := by decide
  have hk_20 : (0 : Int32).toInt = 0 := by decide
  exact loop7_1 (Int.toNat (200 - (0 : Int32).toInt) + 1) 0 gKk 0 _ _ ls (by omega) (by omega) (by omega) hP hD hS (lv_sub hl [0, 1, 2] rfl)
