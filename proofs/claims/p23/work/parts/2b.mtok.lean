theorem dX9_isIn_0 : decode cX9_isIn 0 = .ok (.iload_n 1, 1) := by decide +kernel
theorem dX9_isIn_1 : decode cX9_isIn 1 = .ok (.aload_n 0, 1) := by decide +kernel
theorem dX9_isIn_2 : decode cX9_isIn 2 = .ok (.getfield 167, 3) := by decide +kernel
theorem dX9_isIn_5 : decode cX9_isIn 5 = .ok (.if_icmp .ge 27, 3) := by decide +kernel
theorem dX9_isIn_32 : decode cX9_isIn 32 = .ok (.iconst 0, 1) := by decide +kernel
theorem dX9_isIn_33 : decode cX9_isIn 33 = .ok (.ireturn, 1) := by decide +kernel
theorem dX9_isIn_8 : decode cX9_isIn 8 = .ok (.aload_n 0, 1) := by decide +kernel
theorem dX9_isIn_9 : decode cX9_isIn 9 = .ok (.getfield 38, 3) := by decide +kernel
theorem dX9_isIn_12 : decode cX9_isIn 12 = .ok (.iload_n 1, 1) := by decide +kernel
theorem dX9_isIn_13 : decode cX9_isIn 13 = .ok (.baload, 1) := by decide +kernel
theorem dX9_isIn_14 : decode cX9_isIn 14 = .ok (.iload_n 2, 1) := by decide +kernel
theorem dX9_isIn_15 : decode cX9_isIn 15 = .ok (.if_icmp .lt 17, 3) := by decide +kernel
theorem dX9_isIn_18 : decode cX9_isIn 18 = .ok (.aload_n 0, 1) := by decide +kernel
theorem dX9_isIn_19 : decode cX9_isIn 19 = .ok (.getfield 38, 3) := by decide +kernel
theorem dX9_isIn_22 : decode cX9_isIn 22 = .ok (.iload_n 1, 1) := by decide +kernel
theorem dX9_isIn_23 : decode cX9_isIn 23 = .ok (.baload, 1) := by decide +kernel
theorem dX9_isIn_24 : decode cX9_isIn 24 = .ok (.iload_n 3, 1) := by decide +kernel
theorem dX9_isIn_25 : decode cX9_isIn 25 = .ok (.if_icmp .gt 7, 3) := by decide +kernel
theorem dX9_isIn_28 : decode cX9_isIn 28 = .ok (.iconst 1, 1) := by decide +kernel
theorem dX9_isIn_29 : decode cX9_isIn 29 = .ok (.goto 4, 3) := by decide +kernel
theorem dX9_next_0 : decode cX9_next 0 = .ok (.aload_n 0, 1) := by decide +kernel
theorem dX9_next_1 : decode cX9_next 1 = .ok (.aload_n 0, 1) := by decide +kernel
theorem dX9_next_2 : decode cX9_next 2 = .ok (.getfield 170, 3) := by decide +kernel
theorem dX9_next_5 : decode cX9_next 5 = .ok (.putfield 173, 3) := by decide +kernel
theorem dX9_next_8 : decode cX9_next 8 = .ok (.aload_n 0, 1) := by decide +kernel
theorem dX9_next_9 : decode cX9_next 9 = .ok (.getfield 173, 3) := by decide +kernel
theorem dX9_next_12 : decode cX9_next 12 = .ok (.aload_n 0, 1) := by decide +kernel
theorem dX9_next_13 : decode cX9_next 13 = .ok (.getfield 167, 3) := by decide +kernel
theorem dX9_next_16 : decode cX9_next 16 = .ok (.if_icmp .ge 30, 3) := by decide +kernel
theorem dX9_next_46 : decode cX9_next 46 = .ok (.aload_n 0, 1) := by decide +kernel
theorem dX9_next_47 : decode cX9_next 47 = .ok (.aload_n 0, 1) := by decide +kernel
theorem dX9_next_48 : decode cX9_next 48 = .ok (.getfield 173, 3) := by decide +kernel
theorem dX9_next_51 : decode cX9_next 51 = .ok (.putfield 170, 3) := by decide +kernel
theorem dX9_next_54 : decode cX9_next 54 = .ok (.aload_n 0, 1) := by decide +kernel
theorem dX9_next_55 : decode cX9_next 55 = .ok (.getfield 173, 3) := by decide +kernel
theorem dX9_next_58 : decode cX9_next 58 = .ok (.aload_n 0, 1) := by decide +kernel
theorem dX9_next_59 : decode cX9_next 59 = .ok (.getfield 167, 3) := by decide +kernel
theorem dX9_next_62 : decode cX9_next 62 = .ok (.if_icmp .ne 4, 3) := by decide +kernel
theorem dX9_next_66 : decode cX9_next 66 = .ok (.aload_n 0, 1) := by decide +kernel
theorem dX9_next_67 : decode cX9_next 67 = .ok (.aload_n 0, 1) := by decide +kernel
theorem dX9_next_68 : decode cX9_next 68 = .ok (.getfield 173, 3) := by decide +kernel
theorem dX9_next_71 : decode cX9_next 71 = .ok (.bipush 97, 2) := by decide +kernel
theorem dX9_next_73 : decode cX9_next 73 = .ok (.bipush 122, 2) := by decide +kernel
set_option maxRecDepth 20000 in
theorem ggX9_next_X9_isIn : GoodIn wsX9_next wsX9_isIn := goodIn_r _ [9, 3, 4, 10, 11, 12, 13, 14, 15, 16, 17, 18, 19, 20, 21, 22, 23, 24, 25, 26, 27, 28, 29, 30, 31, 32, 33, 34, 35, 36, 37, 38, 39, 40, 41, 42, 43, 44, 45, 46, 47, 48, 49, 50, 51, 52, 53, 54, 55, 56, 57, 58, 59, 60] (by decide +kernel) (by decide +kernel)
set_option maxRecDepth 20000 in
theorem gX9_next_X9_isIn : GoodIn wsX9_next (wsV RX9 176 RX9 yX9_isIn wsX9_isIn) := goodIn_app (goodIn_of _ (by decide +kernel)) ggX9_next_X9_isIn
theorem dX9_next_75 : decode cX9_next 75 = .ok (.invokevirtual 176, 3) := by decide +kernel
theorem dX9_next_78 : decode cX9_next 78 = .ok (.ifCond .eq 31, 3) := by decide +kernel
theorem dX9_next_109 : decode cX9_next 109 = .ok (.aload_n 0, 1) := by decide +kernel
theorem dX9_next_110 : decode cX9_next 110 = .ok (.aload_n 0, 1) := by decide +kernel
theorem dX9_next_111 : decode cX9_next 111 = .ok (.getfield 173, 3) := by decide +kernel
theorem dX9_next_114 : decode cX9_next 114 = .ok (.bipush 48, 2) := by decide +kernel
theorem dX9_next_116 : decode cX9_next 116 = .ok (.bipush 57, 2) := by decide +kernel
theorem dX9_next_118 : decode cX9_next 118 = .ok (.invokevirtual 176, 3) := by decide +kernel
theorem dX9_next_121 : decode cX9_next 121 = .ok (.ifCond .eq 31, 3) := by decide +kernel
theorem dX9_next_152 : decode cX9_next 152 = .ok (.aload_n 0, 1) := by decide +kernel
theorem dX9_next_153 : decode cX9_next 153 = .ok (.dup, 1) := by decide +kernel
theorem dX9_next_154 : decode cX9_next 154 = .ok (.getfield 170, 3) := by decide +kernel
theorem dX9_next_157 : decode cX9_next 157 = .ok (.iconst 1, 1) := by decide +kernel
theorem dX9_next_158 : decode cX9_next 158 = .ok (.iadd, 1) := by decide +kernel
theorem dX9_next_159 : decode cX9_next 159 = .ok (.putfield 170, 3) := by decide +kernel
theorem dX9_next_162 : decode cX9_next 162 = .ok (.return_, 1) := by decide +kernel
theorem dX9_next_124 : decode cX9_next 124 = .ok (.aload_n 0, 1) := by decide +kernel
theorem dX9_next_125 : decode cX9_next 125 = .ok (.aload_n 0, 1) := by decide +kernel
theorem dX9_next_126 : decode cX9_next 126 = .ok (.getfield 170, 3) := by decide +kernel
theorem dX9_next_129 : decode cX9_next 129 = .ok (.bipush 48, 2) := by decide +kernel
theorem dX9_next_131 : decode cX9_next 131 = .ok (.bipush 57, 2) := by decide +kernel
theorem dX9_next_133 : decode cX9_next 133 = .ok (.invokevirtual 176, 3) := by decide +kernel
theorem dX9_next_136 : decode cX9_next 136 = .ok (.ifCond .eq 26, 3) := by decide +kernel
theorem dX9_next_139 : decode cX9_next 139 = .ok (.aload_n 0, 1) := by decide +kernel
theorem dX9_next_140 : decode cX9_next 140 = .ok (.dup, 1) := by decide +kernel
theorem dX9_next_141 : decode cX9_next 141 = .ok (.getfield 170, 3) := by decide +kernel
theorem dX9_next_144 : decode cX9_next 144 = .ok (.iconst 1, 1) := by decide +kernel
theorem dX9_next_145 : decode cX9_next 145 = .ok (.iadd, 1) := by decide +kernel
theorem dX9_next_146 : decode cX9_next 146 = .ok (.putfield 170, 3) := by decide +kernel
theorem dX9_next_149 : decode cX9_next 149 = .ok (.goto (-25), 3) := by decide +kernel
theorem dX9_next_81 : decode cX9_next 81 = .ok (.aload_n 0, 1) := by decide +kernel
theorem dX9_next_82 : decode cX9_next 82 = .ok (.aload_n 0, 1) := by decide +kernel
theorem dX9_next_83 : decode cX9_next 83 = .ok (.getfield 170, 3) := by decide +kernel
theorem dX9_next_86 : decode cX9_next 86 = .ok (.bipush 97, 2) := by decide +kernel
theorem dX9_next_88 : decode cX9_next 88 = .ok (.bipush 122, 2) := by decide +kernel
theorem dX9_next_90 : decode cX9_next 90 = .ok (.invokevirtual 176, 3) := by decide +kernel
theorem dX9_next_93 : decode cX9_next 93 = .ok (.ifCond .eq 69, 3) := by decide +kernel
theorem dX9_next_96 : decode cX9_next 96 = .ok (.aload_n 0, 1) := by decide +kernel
theorem dX9_next_97 : decode cX9_next 97 = .ok (.dup, 1) := by decide +kernel
theorem dX9_next_98 : decode cX9_next 98 = .ok (.getfield 170, 3) := by decide +kernel
theorem dX9_next_101 : decode cX9_next 101 = .ok (.iconst 1, 1) := by decide +kernel
theorem dX9_next_102 : decode cX9_next 102 = .ok (.iadd, 1) := by decide +kernel
theorem dX9_next_103 : decode cX9_next 103 = .ok (.putfield 170, 3) := by decide +kernel
theorem dX9_next_106 : decode cX9_next 106 = .ok (.goto (-25), 3) := by decide +kernel
theorem dX9_next_65 : decode cX9_next 65 = .ok (.return_, 1) := by decide +kernel
theorem dX9_next_19 : decode cX9_next 19 = .ok (.aload_n 0, 1) := by decide +kernel
theorem dX9_next_20 : decode cX9_next 20 = .ok (.getfield 38, 3) := by decide +kernel
theorem dX9_next_23 : decode cX9_next 23 = .ok (.aload_n 0, 1) := by decide +kernel
theorem dX9_next_24 : decode cX9_next 24 = .ok (.getfield 173, 3) := by decide +kernel
theorem dX9_next_27 : decode cX9_next 27 = .ok (.baload, 1) := by decide +kernel
theorem dX9_next_28 : decode cX9_next 28 = .ok (.bipush 32, 2) := by decide +kernel
theorem dX9_next_30 : decode cX9_next 30 = .ok (.if_icmp .ne 16, 3) := by decide +kernel
theorem dX9_next_33 : decode cX9_next 33 = .ok (.aload_n 0, 1) := by decide +kernel
theorem dX9_next_34 : decode cX9_next 34 = .ok (.dup, 1) := by decide +kernel
theorem dX9_next_35 : decode cX9_next 35 = .ok (.getfield 173, 3) := by decide +kernel
theorem dX9_next_38 : decode cX9_next 38 = .ok (.iconst 1, 1) := by decide +kernel
theorem dX9_next_39 : decode cX9_next 39 = .ok (.iadd, 1) := by decide +kernel
theorem dX9_next_40 : decode cX9_next 40 = .ok (.putfield 173, 3) := by decide +kernel
theorem dX9_next_43 : decode cX9_next 43 = .ok (.goto (-35), 3) := by decide +kernel
theorem dX9_isWord_0 : decode cX9_isWord 0 = .ok (.lload_n 1, 1) := by decide +kernel
theorem dX9_isWord_1 : decode cX9_isWord 1 = .ok (.lstore_n 3, 1) := by decide +kernel
theorem dX9_isWord_2 : decode cX9_isWord 2 = .ok (.aload_n 0, 1) := by decide +kernel
theorem dX9_isWord_3 : decode cX9_isWord 3 = .ok (.getfield 173, 3) := by decide +kernel
theorem dX9_isWord_6 : decode cX9_isWord 6 = .ok (.istore 5, 2) := by decide +kernel
theorem dX9_isWord_8 : decode cX9_isWord 8 = .ok (.lload_n 3, 1) := by decide +kernel
theorem dX9_isWord_9 : decode cX9_isWord 9 = .ok (.lconst 0, 1) := by decide +kernel
theorem dX9_isWord_10 : decode cX9_isWord 10 = .ok (.lcmp, 1) := by decide +kernel
theorem dX9_isWord_11 : decode cX9_isWord 11 = .ok (.ifCond .le 45, 3) := by decide +kernel
theorem dX9_isWord_56 : decode cX9_isWord 56 = .ok (.iload 5, 2) := by decide +kernel
theorem dX9_isWord_58 : decode cX9_isWord 58 = .ok (.aload_n 0, 1) := by decide +kernel
theorem dX9_isWord_59 : decode cX9_isWord 59 = .ok (.getfield 170, 3) := by decide +kernel
theorem dX9_isWord_62 : decode cX9_isWord 62 = .ok (.if_icmp .ne 7, 3) := by decide +kernel
theorem dX9_isWord_69 : decode cX9_isWord 69 = .ok (.iconst 0, 1) := by decide +kernel
theorem dX9_isWord_70 : decode cX9_isWord 70 = .ok (.ireturn, 1) := by decide +kernel
theorem dX9_isWord_65 : decode cX9_isWord 65 = .ok (.iconst 1, 1) := by decide +kernel
theorem dX9_isWord_66 : decode cX9_isWord 66 = .ok (.goto 4, 3) := by decide +kernel
theorem dX9_isWord_14 : decode cX9_isWord 14 = .ok (.iload 5, 2) := by decide +kernel
theorem dX9_isWord_16 : decode cX9_isWord 16 = .ok (.aload_n 0, 1) := by decide +kernel
theorem dX9_isWord_17 : decode cX9_isWord 17 = .ok (.getfield 170, 3) := by decide +kernel
theorem dX9_isWord_20 : decode cX9_isWord 20 = .ok (.if_icmp .ge 24, 3) := by decide +kernel
theorem dX9_isWord_44 : decode cX9_isWord 44 = .ok (.iconst 0, 1) := by decide +kernel
theorem dX9_isWord_45 : decode cX9_isWord 45 = .ok (.ireturn, 1) := by decide +kernel
theorem dX9_isWord_23 : decode cX9_isWord 23 = .ok (.aload_n 0, 1) := by decide +kernel
theorem dX9_isWord_24 : decode cX9_isWord 24 = .ok (.getfield 38, 3) := by decide +kernel
theorem dX9_isWord_27 : decode cX9_isWord 27 = .ok (.iload 5, 2) := by decide +kernel
theorem dX9_isWord_29 : decode cX9_isWord 29 = .ok (.baload, 1) := by decide +kernel
theorem dX9_isWord_30 : decode cX9_isWord 30 = .ok (.i2l, 1) := by decide +kernel
theorem dX9_isWord_31 : decode cX9_isWord 31 = .ok (.ldc2_w 180, 3) := by decide +kernel
theorem dX9_isWord_34 : decode cX9_isWord 34 = .ok (.lload_n 3, 1) := by decide +kernel
theorem dX9_isWord_35 : decode cX9_isWord 35 = .ok (.ldc2_w 182, 3) := by decide +kernel
theorem dX9_isWord_38 : decode cX9_isWord 38 = .ok (.land, 1) := by decide +kernel
theorem dX9_isWord_39 : decode cX9_isWord 39 = .ok (.ladd, 1) := by decide +kernel
theorem dX9_isWord_40 : decode cX9_isWord 40 = .ok (.lcmp, 1) := by decide +kernel
theorem dX9_isWord_41 : decode cX9_isWord 41 = .ok (.ifCond .eq 5, 3) := by decide +kernel
theorem dX9_isWord_46 : decode cX9_isWord 46 = .ok (.lload_n 3, 1) := by decide +kernel
theorem dX9_isWord_47 : decode cX9_isWord 47 = .ok (.iconst 5, 1) := by decide +kernel
theorem dX9_isWord_48 : decode cX9_isWord 48 = .ok (.lshr, 1) := by decide +kernel
theorem dX9_isWord_49 : decode cX9_isWord 49 = .ok (.lstore_n 3, 1) := by decide +kernel
theorem dX9_isWord_50 : decode cX9_isWord 50 = .ok (.iinc 5 1, 3) := by decide +kernel
theorem dX9_isWord_53 : decode cX9_isWord 53 = .ok (.goto (-45), 3) := by decide +kernel
theorem dX9_isSign_0 : decode cX9_isSign 0 = .ok (.aload_n 0, 1) := by decide +kernel
theorem dX9_isSign_1 : decode cX9_isSign 1 = .ok (.getfield 173, 3) := by decide +kernel
theorem dX9_isSign_4 : decode cX9_isSign 4 = .ok (.aload_n 0, 1) := by decide +kernel
theorem dX9_isSign_5 : decode cX9_isSign 5 = .ok (.getfield 167, 3) := by decide +kernel
theorem dX9_isSign_8 : decode cX9_isSign 8 = .ok (.if_icmp .ge 33, 3) := by decide +kernel
theorem dX9_isSign_41 : decode cX9_isSign 41 = .ok (.iconst 0, 1) := by decide +kernel
theorem dX9_isSign_42 : decode cX9_isSign 42 = .ok (.ireturn, 1) := by decide +kernel
theorem dX9_isSign_11 : decode cX9_isSign 11 = .ok (.aload_n 0, 1) := by decide +kernel
theorem dX9_isSign_12 : decode cX9_isSign 12 = .ok (.getfield 38, 3) := by decide +kernel
theorem dX9_isSign_15 : decode cX9_isSign 15 = .ok (.aload_n 0, 1) := by decide +kernel
theorem dX9_isSign_16 : decode cX9_isSign 16 = .ok (.getfield 173, 3) := by decide +kernel
theorem dX9_isSign_19 : decode cX9_isSign 19 = .ok (.baload, 1) := by decide +kernel
theorem dX9_isSign_20 : decode cX9_isSign 20 = .ok (.iload_n 1, 1) := by decide +kernel
theorem dX9_isSign_21 : decode cX9_isSign 21 = .ok (.if_icmp .ne 20, 3) := by decide +kernel
theorem dX9_isSign_24 : decode cX9_isSign 24 = .ok (.aload_n 0, 1) := by decide +kernel
theorem dX9_isSign_25 : decode cX9_isSign 25 = .ok (.getfield 170, 3) := by decide +kernel
theorem dX9_isSign_28 : decode cX9_isSign 28 = .ok (.aload_n 0, 1) := by decide +kernel
theorem dX9_isSign_29 : decode cX9_isSign 29 = .ok (.getfield 173, 3) := by decide +kernel
theorem dX9_isSign_32 : decode cX9_isSign 32 = .ok (.iconst 1, 1) := by decide +kernel
theorem dX9_isSign_33 : decode cX9_isSign 33 = .ok (.iadd, 1) := by decide +kernel
theorem dX9_isSign_34 : decode cX9_isSign 34 = .ok (.if_icmp .ne 7, 3) := by decide +kernel
theorem dX9_isSign_37 : decode cX9_isSign 37 = .ok (.iconst 1, 1) := by decide +kernel
theorem dX9_isSign_38 : decode cX9_isSign 38 = .ok (.goto 4, 3) := by decide +kernel
theorem dX9_faults_0 : decode cX9_faults 0 = .ok (.aload_n 0, 1) := by decide +kernel
theorem dX9_faults_1 : decode cX9_faults 1 = .ok (.getfield 184, 3) := by decide +kernel
theorem dX9_faults_4 : decode cX9_faults 4 = .ok (.iconst (-1), 1) := by decide +kernel
theorem dX9_faults_5 : decode cX9_faults 5 = .ok (.if_icmp .ne 11, 3) := by decide +kernel
theorem dX9_faults_8 : decode cX9_faults 8 = .ok (.aload_n 0, 1) := by decide +kernel
theorem dX9_faults_9 : decode cX9_faults 9 = .ok (.aload_n 0, 1) := by decide +kernel
theorem dX9_faults_10 : decode cX9_faults 10 = .ok (.getfield 173, 3) := by decide +kernel
theorem dX9_faults_13 : decode cX9_faults 13 = .ok (.putfield 184, 3) := by decide +kernel
theorem dX9_faults_16 : decode cX9_faults 16 = .ok (.return_, 1) := by decide +kernel
theorem dX9_good_0 : decode cX9_good 0 = .ok (.aload_n 0, 1) := by decide +kernel
theorem dX9_good_1 : decode cX9_good 1 = .ok (.getfield 184, 3) := by decide +kernel
theorem dX9_good_4 : decode cX9_good 4 = .ok (.iconst (-1), 1) := by decide +kernel
theorem dX9_good_5 : decode cX9_good 5 = .ok (.if_icmp .ne 7, 3) := by decide +kernel
theorem dX9_good_12 : decode cX9_good 12 = .ok (.iconst 0, 1) := by decide +kernel
theorem dX9_good_13 : decode cX9_good 13 = .ok (.ireturn, 1) := by decide +kernel
theorem dX9_good_8 : decode cX9_good 8 = .ok (.iconst 1, 1) := by decide +kernel
theorem dX9_good_9 : decode cX9_good 9 = .ok (.goto 4, 3) := by decide +kernel
theorem dX9_number_0 : decode cX9_number 0 = .ok (.aload_n 0, 1) := by decide +kernel
theorem dX9_number_1 : decode cX9_number 1 = .ok (.aload_n 0, 1) := by decide +kernel
theorem dX9_number_2 : decode cX9_number 2 = .ok (.getfield 173, 3) := by decide +kernel
theorem dX9_number_5 : decode cX9_number 5 = .ok (.bipush 48, 2) := by decide +kernel
theorem dX9_number_7 : decode cX9_number 7 = .ok (.bipush 57, 2) := by decide +kernel
set_option maxRecDepth 20000 in
theorem ggX9_number_X9_isIn : GoodIn wsX9_number wsX9_isIn := goodIn_r _ [10, 11, 4, 21, 22, 23, 24, 25, 26, 27, 28, 29, 30, 31, 32, 33, 34, 35, 36, 37, 38, 39, 40, 41, 42, 43, 44, 45, 46, 47, 48, 49, 50, 51, 52, 53, 54, 55, 56, 57, 58, 59, 60, 61, 62, 63, 64, 65, 66, 67, 68, 69, 70, 71] (by decide +kernel) (by decide +kernel)
set_option maxRecDepth 20000 in
theorem gX9_number_X9_isIn : GoodIn wsX9_number (wsV RX9 176 RX9 yX9_isIn wsX9_isIn) := goodIn_app (goodIn_of _ (by decide +kernel)) ggX9_number_X9_isIn
theorem dX9_number_9 : decode cX9_number 9 = .ok (.invokevirtual 176, 3) := by decide +kernel
theorem dX9_number_12 : decode cX9_number 12 = .ok (.ifCond .ne 9, 3) := by decide +kernel
theorem dX9_number_21 : decode cX9_number 21 = .ok (.lconst 0, 1) := by decide +kernel
theorem dX9_number_22 : decode cX9_number 22 = .ok (.lstore_n 2, 1) := by decide +kernel
theorem dX9_number_23 : decode cX9_number 23 = .ok (.aload_n 0, 1) := by decide +kernel
theorem dX9_number_24 : decode cX9_number 24 = .ok (.getfield 173, 3) := by decide +kernel
theorem dX9_number_27 : decode cX9_number 27 = .ok (.istore 4, 2) := by decide +kernel
theorem dX9_number_29 : decode cX9_number 29 = .ok (.iload 4, 2) := by decide +kernel
theorem dX9_number_31 : decode cX9_number 31 = .ok (.aload_n 0, 1) := by decide +kernel
theorem dX9_number_32 : decode cX9_number 32 = .ok (.getfield 170, 3) := by decide +kernel
theorem dX9_number_35 : decode cX9_number 35 = .ok (.if_icmp .ge 39, 3) := by decide +kernel
theorem dX9_number_74 : decode cX9_number 74 = .ok (.lload_n 2, 1) := by decide +kernel
theorem dX9_number_75 : decode cX9_number 75 = .ok (.iload_n 1, 1) := by decide +kernel
theorem dX9_number_76 : decode cX9_number 76 = .ok (.i2l, 1) := by decide +kernel
theorem dX9_number_77 : decode cX9_number 77 = .ok (.lcmp, 1) := by decide +kernel
theorem dX9_number_78 : decode cX9_number 78 = .ok (.ifCond .le 9, 3) := by decide +kernel
theorem dX9_number_87 : decode cX9_number 87 = .ok (.aload_n 0, 1) := by decide +kernel
set_option maxRecDepth 20000 in
theorem ggX9_number_X9_next : GoodIn wsX9_number wsX9_next := goodIn_r _ [20, 2, 1, 11, 4, 6, 7, 8, 9, 10, 21, 22, 23, 24, 25, 26, 27, 28, 29, 30, 31, 32, 33, 34, 35, 36, 37, 38, 39, 40, 41, 42, 43, 44, 45, 46, 47, 48, 49, 50, 51, 52, 53, 54, 55, 56, 57, 58, 59, 60, 61, 62, 63, 64, 65, 66, 67, 68, 69, 70, 71] (by decide +kernel) (by decide +kernel)
set_option maxRecDepth 20000 in
theorem gX9_number_X9_next : GoodIn wsX9_number (wsV RX9 194 RX9 yX9_next wsX9_next) := goodIn_app (goodIn_of _ (by decide +kernel)) ggX9_number_X9_next
theorem dX9_number_88 : decode cX9_number 88 = .ok (.invokevirtual 194, 3) := by decide +kernel
theorem dX9_number_91 : decode cX9_number 91 = .ok (.lload_n 2, 1) := by decide +kernel
theorem dX9_number_92 : decode cX9_number 92 = .ok (.l2i, 1) := by decide +kernel
theorem dX9_number_93 : decode cX9_number 93 = .ok (.ireturn, 1) := by decide +kernel
theorem dX9_number_81 : decode cX9_number 81 = .ok (.aload_n 0, 1) := by decide +kernel
set_option maxRecDepth 20000 in
theorem ggX9_number_X9_faults : GoodIn wsX9_number wsX9_faults := goodIn_r _ [15, 16, 1, 21, 22, 23, 24, 25, 26, 27, 28, 29, 30, 31, 32, 33, 34, 35, 36, 37, 38, 39, 40, 41, 42, 43, 44, 45, 46, 47, 48, 49, 50, 51, 52, 53, 54, 55, 56, 57, 58, 59, 60, 61, 62, 63, 64, 65, 66, 67, 68, 69, 70, 71] (by decide +kernel) (by decide +kernel)
set_option maxRecDepth 20000 in
theorem gX9_number_X9_faults : GoodIn wsX9_number (wsV RX9 187 RX9 yX9_faults wsX9_faults) := goodIn_app (goodIn_of _ (by decide +kernel)) ggX9_number_X9_faults
theorem dX9_number_82 : decode cX9_number 82 = .ok (.invokevirtual 187, 3) := by decide +kernel
theorem dX9_number_85 : decode cX9_number 85 = .ok (.iconst 0, 1) := by decide +kernel
theorem dX9_number_86 : decode cX9_number 86 = .ok (.ireturn, 1) := by decide +kernel
theorem dX9_number_38 : decode cX9_number 38 = .ok (.lload_n 2, 1) := by decide +kernel
theorem dX9_number_39 : decode cX9_number 39 = .ok (.iload_n 1, 1) := by decide +kernel
theorem dX9_number_40 : decode cX9_number 40 = .ok (.i2l, 1) := by decide +kernel
theorem dX9_number_41 : decode cX9_number 41 = .ok (.lcmp, 1) := by decide +kernel
theorem dX9_number_42 : decode cX9_number 42 = .ok (.ifCond .le 7, 3) := by decide +kernel
theorem dX9_number_49 : decode cX9_number 49 = .ok (.ldc2_w 190, 3) := by decide +kernel
theorem dX9_number_52 : decode cX9_number 52 = .ok (.lload_n 2, 1) := by decide +kernel
theorem dX9_number_53 : decode cX9_number 53 = .ok (.lmul, 1) := by decide +kernel
theorem dX9_number_54 : decode cX9_number 54 = .ok (.aload_n 0, 1) := by decide +kernel
theorem dX9_number_55 : decode cX9_number 55 = .ok (.getfield 38, 3) := by decide +kernel
theorem dX9_number_58 : decode cX9_number 58 = .ok (.iload 4, 2) := by decide +kernel
theorem dX9_number_60 : decode cX9_number 60 = .ok (.baload, 1) := by decide +kernel
theorem dX9_number_61 : decode cX9_number 61 = .ok (.i2l, 1) := by decide +kernel
theorem dX9_number_62 : decode cX9_number 62 = .ok (.ladd, 1) := by decide +kernel
theorem dX9_number_63 : decode cX9_number 63 = .ok (.ldc2_w 192, 3) := by decide +kernel
theorem dX9_number_66 : decode cX9_number 66 = .ok (.lsub, 1) := by decide +kernel
theorem dX9_number_67 : decode cX9_number 67 = .ok (.lstore_n 2, 1) := by decide +kernel
theorem dX9_number_68 : decode cX9_number 68 = .ok (.iinc 4 1, 3) := by decide +kernel
theorem dX9_number_71 : decode cX9_number 71 = .ok (.goto (-42), 3) := by decide +kernel
theorem dX9_number_45 : decode cX9_number 45 = .ok (.lload_n 2, 1) := by decide +kernel
theorem dX9_number_46 : decode cX9_number 46 = .ok (.goto 21, 3) := by decide +kernel
theorem dX9_number_15 : decode cX9_number 15 = .ok (.aload_n 0, 1) := by decide +kernel
theorem dX9_number_16 : decode cX9_number 16 = .ok (.invokevirtual 187, 3) := by decide +kernel
theorem dX9_number_19 : decode cX9_number 19 = .ok (.iconst 0, 1) := by decide +kernel
theorem dX9_number_20 : decode cX9_number 20 = .ok (.ireturn, 1) := by decide +kernel
theorem dX9_puts_0 : decode cX9_puts 0 = .ok (.sipush 250, 3) := by decide +kernel
theorem dX9_puts_3 : decode cX9_puts 3 = .ok (.aload_n 0, 1) := by decide +kernel
theorem dX9_puts_4 : decode cX9_puts 4 = .ok (.getfield 197, 3) := by decide +kernel
theorem dX9_puts_7 : decode cX9_puts 7 = .ok (.imul, 1) := by decide +kernel
theorem dX9_puts_8 : decode cX9_puts 8 = .ok (.aload_n 0, 1) := by decide +kernel
theorem dX9_puts_9 : decode cX9_puts 9 = .ok (.getfield 200, 3) := by decide +kernel
theorem dX9_puts_12 : decode cX9_puts 12 = .ok (.iadd, 1) := by decide +kernel
theorem dX9_puts_13 : decode cX9_puts 13 = .ok (.istore 5, 2) := by decide +kernel
theorem dX9_puts_15 : decode cX9_puts 15 = .ok (.aload_n 0, 1) := by decide +kernel
theorem dX9_puts_16 : decode cX9_puts 16 = .ok (.getfield 52, 3) := by decide +kernel
theorem dX9_puts_19 : decode cX9_puts 19 = .ok (.iload 5, 2) := by decide +kernel
theorem dX9_puts_21 : decode cX9_puts 21 = .ok (.iload_n 1, 1) := by decide +kernel
theorem dX9_puts_22 : decode cX9_puts 22 = .ok (.iastore, 1) := by decide +kernel
theorem dX9_puts_23 : decode cX9_puts 23 = .ok (.aload_n 0, 1) := by decide +kernel
theorem dX9_puts_24 : decode cX9_puts 24 = .ok (.getfield 55, 3) := by decide +kernel
theorem dX9_puts_27 : decode cX9_puts 27 = .ok (.iload 5, 2) := by decide +kernel
theorem dX9_puts_29 : decode cX9_puts 29 = .ok (.iload_n 2, 1) := by decide +kernel
theorem dX9_puts_30 : decode cX9_puts 30 = .ok (.iastore, 1) := by decide +kernel
theorem dX9_puts_31 : decode cX9_puts 31 = .ok (.aload_n 0, 1) := by decide +kernel
theorem dX9_puts_32 : decode cX9_puts 32 = .ok (.getfield 58, 3) := by decide +kernel
theorem dX9_puts_35 : decode cX9_puts 35 = .ok (.iload 5, 2) := by decide +kernel
theorem dX9_puts_37 : decode cX9_puts 37 = .ok (.iload_n 3, 1) := by decide +kernel
theorem dX9_puts_38 : decode cX9_puts 38 = .ok (.iastore, 1) := by decide +kernel
theorem dX9_puts_39 : decode cX9_puts 39 = .ok (.aload_n 0, 1) := by decide +kernel
theorem dX9_puts_40 : decode cX9_puts 40 = .ok (.getfield 61, 3) := by decide +kernel
theorem dX9_puts_43 : decode cX9_puts 43 = .ok (.iload 5, 2) := by decide +kernel
theorem dX9_puts_45 : decode cX9_puts 45 = .ok (.iload 4, 2) := by decide +kernel
theorem dX9_puts_47 : decode cX9_puts 47 = .ok (.iastore, 1) := by decide +kernel
theorem dX9_puts_48 : decode cX9_puts 48 = .ok (.aload_n 0, 1) := by decide +kernel
theorem dX9_puts_49 : decode cX9_puts 49 = .ok (.dup, 1) := by decide +kernel
theorem dX9_puts_50 : decode cX9_puts 50 = .ok (.getfield 200, 3) := by decide +kernel
theorem dX9_puts_53 : decode cX9_puts 53 = .ok (.iconst 1, 1) := by decide +kernel
theorem dX9_puts_54 : decode cX9_puts 54 = .ok (.iadd, 1) := by decide +kernel
theorem dX9_puts_55 : decode cX9_puts 55 = .ok (.putfield 200, 3) := by decide +kernel
theorem dX9_puts_58 : decode cX9_puts 58 = .ok (.return_, 1) := by decide +kernel
/-! the reference's reader: a token, the program that is laid -/
def dig (x : Int32) : Prop := 48 ≤ x.toInt ∧ x.toInt ≤ 57
def tokOK (f : Nat → Int32) (from_ to size : Int32) : Prop := from_.toInt < size.toInt → dig (f from_.toNatClampNeg) → ∀ k : Nat, from_.toInt ≤ k → (k : Int) < to.toInt → dig (f k)
def prg (f fA g gA : Nat → Int32) (b l n : Nat) (ok : Prop) : Prop := l ≤ n ∧ (∀ k, k < b + l → g k = f k ∧ gA k = fA k) ∧ wfp g gA b n ∧ (ok → dep g b n = dep f b l + 1)
theorem dep_cong {f g : Nat → Int32} {b : Nat} : ∀ {n : Nat}, (∀ k, k < b + n → g k = f k) → dep g b n = dep f b n := by
  intro n
  induction n with
  | zero => intro _; rfl
  | succ n ih =>
    intro h
    show dep g b n + dlt (g (b + n)) = dep f b n + dlt (f (b + n))
    rw [ih (fun k hk => h k (by omega)), h (b + n) (by omega)]
theorem wfp_ext {f fA g gA : Nat → Int32} {b n : Nat} (h : wfp f fA b n) (hk : ∀ k, k < b + n → g k = f k ∧ gA k = fA k) (hs : (1 ≤ (g (b + n)).toInt ∧ (g (b + n)).toInt ≤ 4 → 2 ≤ dep f b n) ∧ ((g (b + n)).toInt = 5 → 1 ≤ dep f b n) ∧ ((g (b + n)).toInt = 6 → 0 ≤ (gA (b + n)).toInt ∧ (gA (b + n)).toInt ≤ 19)) : wfp g gA b (n + 1) := by
  intro j hj
  rcases Nat.lt_or_ge j n with q | q
  · have e := hk (b + j) (by omega)
    rw [e.1, e.2, dep_cong (n := j) (fun k hk' => (hk k (by omega)).1)]
    exact h j q
  · have e : j = n := by omega
    subst e
    rw [dep_cong (n := j) (fun k hk' => (hk k (by omega)).1)]
    exact hs
theorem prg_rf {f fA : Nat → Int32} {b l : Nat} {ok : Prop} (h : wfp f fA b l) (hn : ¬ ok) : prg f fA f fA b l l ok := ⟨Nat.le_refl _, fun _ _ => ⟨rfl, rfl⟩, h, fun q => absurd q hn⟩
theorem prg_bad {f fA g gA h hA : Nat → Int32} {b l n n2 : Nat} {ok ok1 ok2 : Prop} (h1 : prg f fA g gA b l n ok1) (h2 : prg g gA h hA b n n2 ok2) (hn : ¬ ok) : prg f fA h hA b l n2 ok := by
  refine ⟨Nat.le_trans h1.1 h2.1, fun k hk => ?_, h2.2.2.1, fun q => absurd q hn⟩
  have e1 := h1.2.1 k hk
  have e2 := h2.2.1 k (by have := h1.1; omega)
  exact ⟨e2.1.trans e1.1, e2.2.trans e1.2⟩
theorem prg_same {f fA g gA : Nat → Int32} {b l n : Nat} {ok ok1 : Prop} (h1 : prg f fA g gA b l n ok1) (h : ok → ok1) : prg f fA g gA b l n ok := ⟨h1.1, h1.2.1, h1.2.2.1, fun q => h1.2.2.2 (h q)⟩
theorem upd_lt {f : Nat → Int32} {k b : Nat} {x : Int32} (h : k < b) : upd f b x k = f k := pk_un (Nat.ne_of_lt h)
/-- a value is laid -/
theorem prg_push {f fA g gA : Nat → Int32} {b l n : Nat} {c x : Int32} {ok : Prop} (h : wfp f fA b l) (hc : ¬ (1 ≤ c.toInt ∧ c.toInt ≤ 5)) (h6 : c.toInt = 6 → 0 ≤ x.toInt ∧ x.toInt ≤ 19) (eg : g = upd f (b + l) c) (eA : gA = upd fA (b + l) x) (hn : n = l + 1) : prg f fA g gA b l n ok := by
  subst eg; subst eA; subst hn
  have hk : ∀ k, k < b + l → upd f (b + l) c k = f k ∧ upd fA (b + l) x k = fA k := fun k hk => ⟨upd_lt hk, upd_lt hk⟩
  refine ⟨by omega, hk, wfp_ext h hk ?_, fun _ => ?_⟩
  · rw [pk_us, pk_us]
    exact ⟨fun q => absurd ⟨q.1, by omega⟩ hc, fun q => absurd ⟨by omega, by omega⟩ hc, h6⟩
  · show dep _ b l + dlt (upd f (b + l) c (b + l)) = _
    rw [pk_us, dep_cong (n := l) (fun k hk' => (hk k hk').1), dlt, if_neg (by omega), if_neg (by omega)]
/-- 'else' is laid -/
theorem prg_else {f fA g gA h hA : Nat → Int32} {b l n n2 : Nat} {c x : Int32} {ok ok1 : Prop} (hw : wfp f fA b l) (h1 : prg f fA g gA b l n ok1) (ho : ok1) (hc : c.toInt = 5) (eg : h = upd g (b + n) c) (eA : hA = upd gA (b + n) x) (hn : n2 = n + 1) : prg f fA h hA b l n2 ok := by
  subst eg; subst eA; subst hn
  have hd := h1.2.2.2 ho
  have h0 := dep_nn hw l (Nat.le_refl _)
  have hk : ∀ k, k < b + n → upd g (b + n) c k = g k ∧ upd gA (b + n) x k = gA k := fun k hk => ⟨upd_lt hk, upd_lt hk⟩
  refine ⟨by have := h1.1; omega, fun k hk' => ?_, wfp_ext h1.2.2.1 hk ?_, fun _ => ?_⟩
  · have e := hk k (by have := h1.1; omega)
    have e1 := h1.2.1 k hk'
    exact ⟨e.1.trans e1.1, e.2.trans e1.2⟩
  · rw [pk_us, pk_us]
    exact ⟨fun q => by omega, fun q => by omega, fun q => by omega⟩
  · show dep _ b n + dlt (upd g (b + n) c (b + n)) = _
    rw [pk_us, dep_cong (n := n) (fun k hk' => (hk k hk').1), dlt, if_neg (by omega), if_pos hc, hd]
    omega
/-- a joining step is laid behind two values -/
theorem prg_op {f fA g gA h hA h' hA' : Nat → Int32} {b l n n2 n3 : Nat} {c x : Int32} {ok ok1 ok2 : Prop} (hw : wfp f fA b l) (h1 : prg f fA g gA b l n ok1) (ho1 : ok1) (h2 : prg g gA h hA b n n2 ok2) (ho2 : ok2) (hc : 1 ≤ c.toInt ∧ c.toInt ≤ 4) (eg : h' = upd h (b + n2) c) (eA : hA' = upd hA (b + n2) x) (hn : n3 = n2 + 1) : prg f fA h' hA' b l n3 ok := by
  subst eg; subst eA; subst hn
  have hd := h1.2.2.2 ho1
  have hd2 := h2.2.2.2 ho2
  have h0 := dep_nn hw l (Nat.le_refl _)
  have hk : ∀ k, k < b + n2 → upd h (b + n2) c k = h k ∧ upd hA (b + n2) x k = hA k := fun k hk => ⟨upd_lt hk, upd_lt hk⟩
  have l1 := h1.1
  have l2 := h2.1
  refine ⟨by omega, fun k hk' => ?_, wfp_ext h2.2.2.1 hk ?_, fun _ => ?_⟩
  · have e := hk k (by omega)
    have e1 := h1.2.1 k hk'
    have e2 := h2.2.1 k (by omega)
    exact ⟨e.1.trans (e2.1.trans e1.1), e.2.trans (e2.2.trans e1.2)⟩
  · rw [pk_us, pk_us]
    exact ⟨fun q => by omega, fun q => by omega, fun q => by omega⟩
  · show dep _ b n2 + dlt (upd h (b + n2) c (b + n2)) = _
    rw [pk_us, dep_cong (n := n2) (fun k hk' => (hk k hk').1), dlt, if_pos hc, hd2, hd]
    omega
/-- the programs ahead stay as they were -/
theorem prog_keep {f fA g gA f0 : Nat → Int32} {n : Int32} {b l m : Nat} {ok : Prop} (h : progOK f fA f0 n) (h0 : inB 0 200 20 f0) (hn : n.toInt ≤ 20) (hb : b = 250 * n.toInt.toNat) (hp : prg f fA g gA b l m ok) : progOK g gA f0 n := by
  intro i hi j hj
  have hs := h0 i (by omega)
  have e : ∀ k, k < 250 * i + j + 1 → g k = f k ∧ gA k = fA k := fun k hk => hp.2.1 k (by omega)
  rw [(e _ (by omega)).1, (e _ (by omega)).2, dep_cong (n := j) (fun k hk => (e k (by omega)).1)]
  exact h i hi j hj
theorem prog_new {g gA f0 : Nat → Int32} {n n' len : Int32} (h : progOK g gA f0 n) (hn : 0 ≤ n.toInt) (hn' : n'.toInt = n.toInt + 1) (hw : wfp g gA (250 * n.toInt.toNat) len.toInt.toNat) {f1 : Nat → Int32} (e1 : f1 = upd f0 n.toNatClampNeg len) : progOK g gA f1 n' := by
  intro i hi
  have e : n.toNatClampNeg = n.toInt.toNat := rfl
  rw [e1, e]
  by_cases q : i = n.toInt.toNat
  · subst q; rw [pk_us]; exact hw
  · rw [pk_un q]; exact h i (by omega)
theorem tok_rf {f : Nat → Int32} {from_ to size : Int32} (h : to.toInt ≤ from_.toInt) : tokOK f from_ to size := fun _ _ k h1 h2 => by omega
theorem tok_no {f : Nat → Int32} {from_ to size : Int32} (h : from_.toInt < size.toInt → ¬ dig (f from_.toNatClampNeg)) : tokOK f from_ to size := fun q1 q2 => absurd q2 (h q1)
theorem tok_all {f : Nat → Int32} {from_ to size : Int32} (h : ∀ k : Nat, from_.toInt ≤ k → (k : Int) < to.toInt → dig (f k)) : tokOK f from_ to size := fun _ _ => h

theorem puts_ix {at_ t l : Int32} (h : at_.toInt = 250 * t.toInt + l.toInt) (h0 : 0 ≤ t.toInt) (h1 : 0 ≤ l.toInt) : at_.toNatClampNeg = 250 * t.toInt.toNat + l.toInt.toNat := by
  have : at_.toNatClampNeg = at_.toInt.toNat := rfl
  omega
theorem tok_ext {f : Nat → Int32} {fr to to2 : Int32} {x : Int32} (h : ∀ k : Nat, fr.toInt ≤ k → (k : Int) < to.toInt → dig (f k)) (hd : dig (f to.toNatClampNeg)) (h0 : 0 ≤ to.toInt) (ht : to2.toInt = to.toInt + 1) : ∀ k : Nat, fr.toInt ≤ k → (k : Int) < to2.toInt → dig (f k) := by
  intro k h1 h2
  by_cases e : k = to.toNatClampNeg
  · rw [e]; exact hd
  · have : to.toNatClampNeg = to.toInt.toNat := rfl
    exact h k h1 (by omega)
theorem tok_ne {f : Nat → Int32} {fr to size : Int32} {lo hi : Int} (h : fr.toInt ≤ to.toInt) (hs : fr.toInt < size.toInt) (h1 : lo ≤ (f fr.toNatClampNeg).toInt ∧ (f fr.toNatClampNeg).toInt ≤ hi) (h2 : to.toInt < size.toInt → ¬ (lo ≤ (f to.toNatClampNeg).toInt ∧ (f to.toNatClampNeg).toInt ≤ hi)) : fr.toInt < to.toInt := by
  rcases Int.lt_or_eq_of_le h with q | q
  · exact q
  · have e : fr = to := Int32.toInt_inj.mp q
    subst e
    exact absurd h1 (h2 hs)
theorem tok_one {f : Nat → Int32} {fr to size : Int32} (h0 : 0 ≤ fr.toInt) (ht : to.toInt = fr.toInt + 1) : tokOK f fr to size := by
  intro _ hd k h1 h2
  have : fr.toNatClampNeg = fr.toInt.toNat := rfl
  have e : k = fr.toNatClampNeg := by omega
  rw [e]; exact hd

/-! from the rows of bytes to the pure reader -/
theorem rs_inl {fl p e lk rd : Int32} {a : Int} (h : ¬ fl.toInt = (-1)) (ha : fl.toInt = a) : rs fl p e lk rd = .inl a := by rw [rs_no h, ha]
theorem rs_inr {fl p e lk rd d : Int32} {a b c : Int} (h : fl.toInt = (-1)) (ha : p.toInt = a) (hb : e.toInt = b) (hc : lk.toInt = c) (hd : rd = d) : rs fl p e lk rd = .inr (a, b, c, d) := by rw [rs_ok h, ha, hb, hc, hd]
theorem sk_end {f : Nat → Int32} {z k : Int32} (h0 : 0 ≤ k.toInt) (h : ¬ (k.toInt < z.toInt ∧ (f k.toNatClampNeg).toInt = 32)) : sk (tpe f z) k.toInt = k.toInt := sk_done (fun q => h ((tp_eq h0 (by decide) (by decide)).mp q))
theorem sk_go {f : Nat → Int32} {z k k2 : Int32} (h0 : 0 ≤ k.toInt) (h1 : k.toInt < z.toInt) (hx : (f k.toNatClampNeg).toInt = 32) (hz : z.toInt ≤ 200) (h2 : k2.toInt = k.toInt + 1) : sk (tpe f z) k2.toInt = sk (tpe f z) k.toInt := by
  rw [h2, ← sk_step ((tp_eq h0 (by decide) (by decide)).mpr ⟨h1, hx⟩) (by omega)]
theorem rl_go {g : Int → Int} {lo hi : Int} {k k2 : Int32} (h : lo ≤ g k.toInt ∧ g k.toInt ≤ hi) (hk : k.toInt < 200) (h2 : k2.toInt = k.toInt + 1) : rl g lo hi k2.toInt = rl g lo hi k.toInt := by
  rw [h2, ← rl_step h hk]
/-- a number: taken, or a fault -/
def nmR (g : Int → Int) (z mx p e : Int) (ok : Prop) (r p' e' fl : Int) : Prop := (ok → nOK g mx p e ∧ r = dv g p (e - p).toNat ∧ p' = sk g e ∧ e' = tke g z (sk g e)) ∧ (¬ ok → ¬ nOK g mx p e ∧ fl = p)
theorem nm_ok {g : Int → Int} {z mx p e r p' e' fl : Int} {ok : Prop} {k : Int → Int → Int → RS} (h : nmR g z mx p e ok r p' e' fl) (ho : ok) : pnum g z mx p e k = k r p' e' := by
  obtain ⟨h1, h2, h3, h4⟩ := h.1 ho
  rw [pnum_ok h1, ← h2, ← h4, ← h3]
theorem nm_no {g : Int → Int} {z mx p e r p' e' fl : Int} {ok : Prop} {k : Int → Int → Int → RS} (h : nmR g z mx p e ok r p' e' fl) (ho : ¬ ok) : pnum g z mx p e k = .inl fl := by
  obtain ⟨h1, h2⟩ := h.2 ho
  rw [pnum_no h1, ← h2]
theorem nm_le {g : Int → Int} {z mx x p e r p' e' fl : Int} {ok : Prop} {k : Int → Int → Int → RS} (h : nmR g z mx p e ok r p' e' fl) (ho : ok) (hx : r ≤ x) : pnum g z x p e k = k r p' e' := by
  obtain ⟨h1, h2, h3, h4⟩ := h.1 ho
  rw [pnum_ok ⟨h1.1, h1.2.1, by omega⟩, ← h2, ← h4, ← h3]
theorem nm_gt {g : Int → Int} {z mx x p e r p' e' fl : Int} {ok : Prop} {k : Int → Int → Int → RS} (h : nmR g z mx p e ok r p' e' fl) (ho : ok) (hx : x < r) : pnum g z x p e k = .inl p := by
  obtain ⟨h1, h2, h3, h4⟩ := h.1 ho
  rw [pnum_no (fun q => by have := q.2.2; omega)]
theorem nm_no2 {g : Int → Int} {z mx x p e r p' e' fl : Int} {ok : Prop} {k : Int → Int → Int → RS} (h : nmR g z mx p e ok r p' e' fl) (ho : ¬ ok) (hx : x ≤ mx) : pnum g z x p e k = .inl fl := by
  obtain ⟨h1, h2⟩ := h.2 ho
  rw [pnum_no (fun q => h1 ⟨q.1, q.2.1, by have := q.2.2; omega⟩), ← h2]
/-- the loop of a sum or a term -/
theorem lp_back {g : Int → Int} {z c1 c2 : Int} {sub : Int → Int → Int → Int32 → RS} {n n' : Nat} {fl p e lk rd fl' p' e' lk' rd' : Int32} {a b : Int} {T : RS} (hI : bnd (rs fl p e lk rd) (ploop g z c1 c2 sub n) = T) (hg : fl.toInt = (-1)) (hs : tw g [c1] p.toInt e.toInt = true ∨ tw g [c2] p.toInt e.toInt = true) (hn : n = n' + 1) (ha : a = sk g e.toInt) (hb : b = tke g z (sk g e.toInt)) (hx : rs fl' p' e' lk' rd' = sub a b lk.toInt rd) : bnd (rs fl' p' e' lk' rd') (ploop g z c1 c2 sub n') = T := by
  rw [← hI, rs_ok hg, hn]
  show _ = ploop g z c1 c2 sub (n' + 1) p.toInt e.toInt lk.toInt rd
  rw [ploop_go hs, hx, ha, hb]
theorem lp_end {g : Int → Int} {z c1 c2 : Int} {sub : Int → Int → Int → Int32 → RS} {n : Nat} {fl p e lk rd : Int32} {T : RS} (hI : bnd (rs fl p e lk rd) (ploop g z c1 c2 sub n) = T) (hx : ¬ fl.toInt = (-1) ∨ ¬ (tw g [c1] p.toInt e.toInt = true ∨ tw g [c2] p.toInt e.toInt = true) ∨ n = 0) : rs fl p e lk rd = T := by
  rw [← hI]
  by_cases q : fl.toInt = (-1)
  · rw [rs_ok q]
    show _ = ploop g z c1 c2 sub n p.toInt e.toInt lk.toInt rd
    rcases hx with h | h | h
    · exact absurd q h
    · rw [ploop_end h]
    · rw [h]; rfl
  · rw [rs_no q]; rfl
/-- the same with the loop's own bound -/
def lpI (g : Int → Int) (z c1 c2 : Int) (sub : Int → Int → Int → Int32 → RS) (fl p e lk rd : Int32) (T : RS) : Prop := ∃ n : Nat, 200 - p.toInt ≤ n ∧ bnd (rs fl p e lk rd) (ploop g z c1 c2 sub n) = T
theorem lpI_0 {g : Int → Int} {z c1 c2 : Int} {sub : Int → Int → Int → Int32 → RS} {fl p e lk rd : Int32} {X : RS} (h0 : 0 ≤ p.toInt) (hx : rs fl p e lk rd = X) : lpI g z c1 c2 sub fl p e lk rd (bnd X (ploop g z c1 c2 sub 200)) := ⟨200, by omega, by rw [hx]⟩
theorem lpI_s {g : Int → Int} {z c1 c2 : Int} {sub : Int → Int → Int → Int32 → RS} {fl p e lk rd fl' p' e' lk' rd' : Int32} {a b : Int} {T : RS} (hI : lpI g z c1 c2 sub fl p e lk rd T) (hg : fl.toInt = (-1)) (hs : tw g [c1] p.toInt e.toInt = true ∨ tw g [c2] p.toInt e.toInt = true) (h0 : p.toInt < 200) (hp : p.toInt + 1 ≤ p'.toInt) (ha : a = sk g e.toInt) (hb : b = tke g z (sk g e.toInt)) (hx : rs fl' p' e' lk' rd' = sub a b lk.toInt rd) : lpI g z c1 c2 sub fl' p' e' lk' rd' T := by
  obtain ⟨n, hn, hI⟩ := hI
  exact ⟨n - 1, by omega, lp_back hI hg hs (by omega) ha hb hx⟩
theorem lpI_e {g : Int → Int} {z c1 c2 : Int} {sub : Int → Int → Int → Int32 → RS} {fl p e lk rd : Int32} {T : RS} (hI : lpI g z c1 c2 sub fl p e lk rd T) (hx : ¬ fl.toInt = (-1) ∨ ¬ (tw g [c1] p.toInt e.toInt = true ∨ tw g [c2] p.toInt e.toInt = true)) : rs fl p e lk rd = T := by
  obtain ⟨n, hn, hI⟩ := hI
  exact lp_end hI (by rcases hx with h | h; exact Or.inl h; exact Or.inr (Or.inl h))
theorem tok_g {f : Nat → Int32} {p e z : Int32} (h : tokOK f p e z) (h0 : 0 ≤ p.toInt) (he : e.toInt ≤ z.toInt) (hd : 48 ≤ tpe f z p.toInt ∧ tpe f z p.toInt ≤ 57) : ∀ k : Nat, k < (e.toInt - p.toInt).toNat → 48 ≤ tpe f z (p.toInt + k) ∧ tpe f z (p.toInt + k) ≤ 57 := by
  intro k hk
  obtain ⟨q1, q2⟩ := (tp_rng h0 (by decide) (by decide)).mp hd
  have h1 := h q1 q2 (p.toInt.toNat + k) (by omega) (by omega)
  have e1 : tpe f z (p.toInt + k) = nrm (f (p.toInt.toNat + k)).toInt := by
    show (if 0 ≤ p.toInt + k ∧ p.toInt + k < z.toInt then nrm (f (p.toInt + k).toNat).toInt else 0) = _
    rw [if_pos ⟨by omega, by omega⟩, show (p.toInt + (k : Int)).toNat = p.toInt.toNat + k by omega]
  rw [e1]
  exact (nrm_rng (by decide) (by decide)).mpr h1
theorem dig_at {f : Nat → Int32} {p i z x : Int32} (h0 : 0 ≤ p.toInt) (hpi : p.toInt ≤ i.toInt) (hiz : i.toInt < z.toInt) (ex : x = f i.toNatClampNeg) (hx : 48 ≤ x.toInt ∧ x.toInt ≤ 57) : tpe f z (p.toInt + ((i.toInt - p.toInt).toNat : Nat)) = x.toInt := by
  rw [show p.toInt + (((i.toInt - p.toInt).toNat : Nat) : Int) = i.toInt by omega, tp_in (by omega) hiz, ← ex]
  exact (nrm_eq (by omega) (by omega)).mpr rfl
/-- the reference's number: v, up to k -/
def rnI (g : Int → Int) (mx : Int) (p k : Int32) (v : Int64) : Prop := (v.toInt ≤ mx → v.toInt = dv g p.toInt (k.toInt - p.toInt).toNat) ∧ (mx < v.toInt → mx < dv g p.toInt (k.toInt - p.toInt).toNat)
theorem rn_0 {g : Int → Int} {mx : Int} {p k : Int32} {v : Int64} (hk : k.toInt = p.toInt) (hv : v.toInt = 0) (hm : 0 ≤ mx) : rnI g mx p k v := by
  unfold rnI
  rw [show (k.toInt - p.toInt).toNat = 0 by omega]
  exact ⟨fun _ => hv, fun h => by omega⟩
theorem rn_s {f : Nat → Int32} {mx : Int} {p k k2 z x : Int32} {v v2 : Int64} (h : rnI (tpe f z) mx p k v) (h0 : 0 ≤ p.toInt) (hpi : p.toInt ≤ k.toInt) (hiz : k.toInt < z.toInt) (h2 : k2.toInt = k.toInt + 1) (hv : v.toInt ≤ mx) (ex : x = f k.toNatClampNeg) (hx : 48 ≤ x.toInt ∧ x.toInt ≤ 57) (hv2 : v2.toInt = 10 * v.toInt + x.toInt - 48) : rnI (tpe f z) mx p k2 v2 := by
  have e1 : dv (tpe f z) p.toInt (k2.toInt - p.toInt).toNat = v2.toInt := by
    rw [show (k2.toInt - p.toInt).toNat = (k.toInt - p.toInt).toNat + 1 by omega]
    show 10 * dv (tpe f z) p.toInt (k.toInt - p.toInt).toNat + (tpe f z (p.toInt + ((k.toInt - p.toInt).toNat : Nat)) - 48) = _
    rw [dig_at h0 hpi hiz ex hx, ← h.1 hv]
    omega
  unfold rnI
  rw [e1]
  exact ⟨fun _ => rfl, fun h => h⟩
theorem rn_k {f : Nat → Int32} {mx : Int} {p e k k2 z : Int32} {v : Int64} (h : rnI (tpe f z) mx p k v) (hpi : p.toInt ≤ k.toInt) (hke : k.toInt < e.toInt) (hd : ∀ k : Nat, k < (e.toInt - p.toInt).toNat → 48 ≤ tpe f z (p.toInt + k) ∧ tpe f z (p.toInt + k) ≤ 57) (h2 : k2.toInt = k.toInt + 1) (hv : mx < v.toInt) : rnI (tpe f z) mx p k2 v := by
  have e1 := dv_mono (g := tpe f z) (p := p.toInt) (n := (k.toInt - p.toInt).toNat) (m := (k2.toInt - p.toInt).toNat) (by omega) (fun j hj => (hd j (by omega)).1)
  have e2 := h.2 hv
  exact ⟨fun q => by omega, fun _ => by omega⟩
theorem rn_bad {g : Int → Int} {mx : Int} {p e : Int32} {v : Int64} (h : rnI g mx p e v) (hv : mx < v.toInt) : ¬ nOK g mx p.toInt e.toInt := fun q => by have := h.2 hv; have := q.2.2; omega
theorem rn_ok {g : Int → Int} {mx : Int} {p e : Int32} {v : Int64} (h : rnI g mx p e v) (hv : v.toInt ≤ mx) (hd : 48 ≤ g p.toInt ∧ g p.toInt ≤ 57) (h0 : 0 ≤ v.toInt) : nOK g mx p.toInt e.toInt ∧ v.toInt = dv g p.toInt (e.toInt - p.toInt).toNat := ⟨⟨hd, by rw [← h.1 hv]; exact h0, by rw [← h.1 hv]; exact hv⟩, h.1 hv⟩
theorem rnI_eq {g : Int → Int} {mx : Int} {p k e : Int32} {v : Int64} (h : rnI g mx p k v) (he : k.toInt = e.toInt) : rnI g mx p e v := by
  unfold rnI at h ⊢
  rw [← he]; exact h
theorem nOK_neg {f : Nat → Int32} {mx : Int} {p e z : Int32} (h : tokOK f p e z) (h0 : 0 ≤ p.toInt) (he : e.toInt ≤ z.toInt) (hm : mx < 0) : ¬ nOK (tpe f z) mx p.toInt e.toInt := fun q => by
  have h1 := q.2.1
  have := q.2.2
  omega
/-- a word of the reference: five bits a letter -/
def twd (g : Int → Int) : Nat → Int → Int → Int → Bool
  | 0, _, p, e => decide (p = e)
  | n + 1, w, p, e => if 0 < w then (decide (g p = 96 + w % 32 ∧ p < e) && twd g n (w / 32) (p + 1) e) else decide (p = e)
def twI (g : Int → Int) (l : Int64) (k e : Int32) (T : Bool) : Prop := ∃ n : Nat, l.toInt < 32 ^ n ∧ twd g n l.toInt k.toInt e.toInt = T
theorem twI_0 {g : Int → Int} {l : Int64} {k e p : Int32} (hk : k.toInt = p.toInt) : twI g l k e (twd g 13 l.toInt p.toInt e.toInt) := by
  refine ⟨13, ?_, by rw [hk]⟩
  have h1 := Int64.toInt_lt l
  have e9 : (32 : Int) ^ 13 = 36893488147419103232 := by decide
  rw [e9]
  omega
theorem twI_no {g : Int → Int} {l : Int64} {k e : Int32} {T : Bool} (h : twI g l k e T) (hl : 0 < l.toInt) (hx : ¬ (k.toInt < e.toInt ∧ g k.toInt = 96 + l.toInt % 32)) : ¬ T = true := by
  obtain ⟨n, h1, h2⟩ := h
  rw [← h2]
  cases n with
  | zero => exfalso; have : (32 : Int) ^ 0 = 1 := rfl; omega
  | succ n =>
    show ¬ (if 0 < l.toInt then (decide (g k.toInt = 96 + l.toInt % 32 ∧ k.toInt < e.toInt) && twd g n (l.toInt / 32) (k.toInt + 1) e.toInt) else decide (k.toInt = e.toInt)) = true
    rw [if_pos hl, Bool.and_eq_true, decide_eq_true_iff]
    exact fun q => hx ⟨q.1.2, q.1.1⟩
theorem twI_s {g : Int → Int} {l l2 : Int64} {k k2 e : Int32} {T : Bool} (h : twI g l k e T) (hl : 0 < l.toInt) (h1 : k.toInt < e.toInt) (h2 : g k.toInt = 96 + l.toInt % 32) (hl2 : l2.toInt = l.toInt / 32) (hk : k2.toInt = k.toInt + 1) : twI g l2 k2 e T := by
  obtain ⟨n, q1, q2⟩ := h
  cases n with
  | zero => exfalso; have : (32 : Int) ^ 0 = 1 := rfl; omega
  | succ n =>
    refine ⟨n, ?_, ?_⟩
    · rw [Int.pow_succ] at q1
      rw [hl2]
      exact Int.ediv_lt_of_lt_mul (by decide) q1
    · rw [← q2, hl2, hk]
      show _ = (if 0 < l.toInt then (decide (g k.toInt = 96 + l.toInt % 32 ∧ k.toInt < e.toInt) && twd g n (l.toInt / 32) (k.toInt + 1) e.toInt) else decide (k.toInt = e.toInt))
      rw [if_pos hl, decide_eq_true ⟨h2, h1⟩, Bool.true_and]
theorem twI_e {g : Int → Int} {l : Int64} {k e : Int32} {T : Bool} (h : twI g l k e T) (hl : l.toInt ≤ 0) : T = true ↔ k.toInt = e.toInt := by
  obtain ⟨n, q1, q2⟩ := h
  rw [← q2]
  cases n with
  | zero => show decide (k.toInt = e.toInt) = true ↔ _; exact decide_eq_true_iff
  | succ n =>
    show (if 0 < l.toInt then (decide (g k.toInt = 96 + l.toInt % 32 ∧ k.toInt < e.toInt) && twd g n (l.toInt / 32) (k.toInt + 1) e.toInt) else decide (k.toInt = e.toInt)) = true ↔ _
    rw [if_neg (by omega)]
    exact decide_eq_true_iff
theorem jL_and31 {x y : Int64} (e : y = x &&& 31) (h : 0 ≤ x.toInt) : y.toInt = x.toInt % 32 := by
  have hx : x.toInt = (x.toBitVec.toNat : Int) := by
    have h1 : x.toInt = x.toBitVec.toInt := rfl
    rw [h1, BitVec.toInt_eq_toNat_cond]
    split
    · rfl
    · next q =>
      exfalso
      rw [h1, BitVec.toInt_eq_toNat_cond, if_neg q] at h
      have := x.toBitVec.isLt
      omega
  have hy : y.toBitVec = x.toBitVec &&& 31#64 := by rw [e]; rfl
  have hn : y.toBitVec.toNat = x.toBitVec.toNat % 32 := by
    rw [hy, BitVec.toNat_and, show (31#64 : BitVec 64).toNat = 2 ^ 5 - 1 by decide, Nat.and_two_pow_sub_one_eq_mod]
  have hy2 : y.toInt = (y.toBitVec.toNat : Int) := by
    have h1 : y.toInt = y.toBitVec.toInt := rfl
    rw [h1, BitVec.toInt_eq_toNat_cond, if_pos (by omega)]
  rw [hy2, hn, hx]
  omega
theorem jL_shr5 {x y : Int64} (e : y = x >>> ((5 : Int32).toInt64 &&& 63)) : y.toInt = x.toInt / 32 := by
  have h1 : y.toBitVec = x.toBitVec.sshiftRight 5 := by rw [e]; rfl
  show y.toBitVec.toInt = x.toBitVec.toInt / 32
  rw [h1, BitVec.toInt_sshiftRight, Int.shiftRight_eq_div_pow]
  rfl
theorem orb_0 {f fA g gA : Nat → Int32} {b l n : Nat} {c x : Int32} (hc : ¬ c.toInt = 6) (eg : g = upd f (b + l) c) (eA : gA = upd fA (b + l) x) (hn : n = l + 1) : orb g gA b n = orb f fA b l := by
  subst eg; subst eA; subst hn
  show (if (upd f (b + l) c (b + l)).toInt = 6 then _ else orb (upd f (b + l) c) (upd fA (b + l) x) b l) = _
  rw [pk_us, if_neg hc]
  exact orb_cong (fun k hk => ⟨upd_lt hk, upd_lt hk⟩)
theorem orb_6 {f fA g gA : Nat → Int32} {b l n : Nat} {c x : Int32} (hc : c.toInt = 6) (eg : g = upd f (b + l) c) (eA : gA = upd fA (b + l) x) (hn : n = l + 1) : orb g gA b n = orb f fA b l ||| bti x.toInt := by
  subst eg; subst eA; subst hn
  show (if (upd f (b + l) c (b + l)).toInt = 6 then orb (upd f (b + l) c) (upd fA (b + l) x) b l ||| bti (upd fA (b + l) x (b + l)).toInt else _) = _
  rw [pk_us, if_pos hc, pk_us, orb_cong (fun k hk => ⟨upd_lt hk, upd_lt hk⟩)]

set_option maxHeartbeats 8000000 in
set_option maxRecDepth 100000 in
theorem k_X9_isIn (l : Launch) (dC : Nat → ClassId) (dI : Nat → Nat → Nat) (cA : Nat → ClassId) (sz : Nat) (am : Nat → Nat) (v_status : Int32) (v_now : Int32) (v_told : Int32) (v_merges : Int32) (v_taped : Int32) (v_size : Int32) (v_from : Int32) (v_to : Int32) (v_fault : Int32) (v_readFault : Int32) (v_traits : Int32) (v_length : Int32) (v_open : Int32) (v_leaks : Int32) (v_places : Int32) (v_models : Int32) (f_tape : Nat → Int32) (kk : Int32) (lo : Int32) (hi : Int32) (i_v_now : 0 ≤ v_now.toInt ∧ v_now.toInt ≤ 100000) (i_v_told : 0 ≤ v_told.toInt ∧ v_told.toInt ≤ 400) (i_v_taped : 0 ≤ v_taped.toInt ∧ v_taped.toInt ≤ 200) (i_v_size : 0 ≤ v_size.toInt ∧ v_size.toInt ≤ 200) (i_v_from : 0 ≤ v_from.toInt ∧ v_from.toInt ≤ 200) (i_v_to : 0 ≤ v_to.toInt ∧ v_to.toInt ≤ 200) (i_v_traits : 0 ≤ v_traits.toInt ∧ v_traits.toInt ≤ 20) (i_v_length : 0 ≤ v_length.toInt ∧ v_length.toInt ≤ 200) (i_v_open : 0 ≤ v_open.toInt ∧ v_open.toInt ≤ 8) (i_v_places : 0 ≤ v_places.toInt ∧ v_places.toInt ≤ 2000) (i_v_models : 0 ≤ v_models.toInt ∧ v_models.toInt ≤ 10) (hkk : 0 ≤ kk.toInt ∧ kk.toInt ≤ 200) (hlh : 1 ≤ lo.toInt ∧ hi.toInt ≤ 127) : Met l yX9_isIn wsX9_isIn ({ frames := 0, cells := 0, slots := 0, locals := 0 }) (va_Pc [.ref (am 0), .int kk, .int lo, .int hi] (fun U => U.heap.size = sz ∧ va_P (dC, dI) vwCl [((am 0), .inr (9, F9 am v_status v_now v_told v_merges v_taped v_size v_from v_to v_fault v_readFault v_traits v_length v_open v_leaks v_places v_models)), ((am 10), .inl (cA 3, 200, .inl f_tape))] U.heap ∧ va_K (dC, dI) vwCl (tyL cA) U ∧ va_D (fun _ => True) [((am 0), .inr (9, F9 am v_status v_now v_told v_merges v_taped v_size v_from v_to v_fault v_readFault v_traits v_length v_open v_leaks v_places v_models)), ((am 10), .inl (cA 3, 200, .inl f_tape))] ∧ nw_ok U)) (va_Qi (fun (r : Int32) (_ : Unit) => ((0 ≤ r.toInt ∧ r.toInt ≤ 1) ∧ (¬ r.toInt = 0 → kk.toInt < v_size.toInt ∧ lo.toInt ≤ (f_tape kk.toNatClampNeg).toInt ∧ (f_tape kk.toNatClampNeg).toInt ≤ hi.toInt) ∧ (r.toInt = 0 → kk.toInt < v_size.toInt → ¬ (lo.toInt ≤ (f_tape kk.toNatClampNeg).toInt ∧ (f_tape kk.toNatClampNeg).toInt ≤ hi.toInt))) ∧ ((¬ r.toInt = 0 ↔ (lo.toInt ≤ tpe f_tape v_size kk.toInt ∧ tpe f_tape v_size kk.toInt ≤ hi.toInt)))) (fun (_ : Unit) (t : State) => va_P (dC, dI) vwCl [((am 0), .inr (9, F9 am v_status v_now v_told v_merges v_taped v_size v_from v_to v_fault v_readFault v_traits v_length v_open v_leaks v_places v_models)), ((am 10), .inl (cA 3, 200, .inl f_tape))] t.heap ∧ va_D (va_A [((am 0), .inr (9, F9 am v_status v_now v_told v_merges v_taped v_size v_from v_to v_fault v_readFault v_traits v_length v_open v_leaks v_places v_models)), ((am 10), .inl (cA 3, 200, .inl f_tape))] sz) [((am 0), .inr (9, F9 am v_status v_now v_told v_merges v_taped v_size v_from v_to v_fault v_readFault v_traits v_length v_open v_leaks v_places v_models)), ((am 10), .inl (cA 3, 200, .inl f_tape))]) (va_A [((am 0), .inr (9, F9 am v_status v_now v_told v_merges v_taped v_size v_from v_to v_fault v_readFault v_traits v_length v_open v_leaks v_places v_models)), ((am 10), .inl (cA 3, 200, .inl f_tape))] sz)) 0 0 (va_A [((am 0), .inr (9, F9 am v_status v_now v_told v_merges v_taped v_size v_from v_to v_fault v_readFault v_traits v_length v_open v_leaks v_places v_models)), ((am 10), .inl (cA 3, 200, .inl f_tape))] sz) := by
  refine Met.ofW (cc := cX9_isIn) (maxL := 4) (ret := (some .boolean)) (by decide) rfl ?_
  intro p e s m args below meth c s₁ B hml hv
  obtain ⟨rfl, hsz, hP, hK, hD0, hN⟩ := hv
  have hx := B.exec
  have hb := B.bytes
  have hr := B.returns
  have hts := atoms_spec (ws := wsX9_isIn) B.pre
  have hown : s.vm.findClass RX9 = some m.cls := findClass_of_methodNamed B.named
  have hlocks := B.notSynchronized
  subst hsz
  have hD := hD0.self (sz := s.heap.size)
  generalize hAe : va_A [((am 0), .inr (9, F9 am v_status v_now v_told v_merges v_taped v_size v_from v_to v_fault v_readFault v_traits v_length v_open v_leaks v_places v_models)), ((am 10), .inl (cA 3, 200, .inl f_tape))] s.heap.size = A at hD ⊢
  have hA : ∀ q : Nat, s.heap.size ≤ q → A q := fun q h => by rw [← hAe]; exact Or.inr h
  have hS : va_S A s.heap s.heap [] := va_S.rf
  have hIX9 : ∀ w ∈ u_ws RX9 TX9 51, w ∈ wsX9_isIn := by decide +kernel
  have hl := lv_entry ([.ref (am 0), .int kk, .int lo, .int hi]) (n := 4) (Nat.le_of_ble_eq_true rfl)
  rw [lg_entry_eq]
  generalize (lg_sl ([.ref (am 0), .int kk, .int lo, .int hi]) ++ List.replicate (4 - (lg_sl ([.ref (am 0), .int kk, .int lo, .int hi])).length) Slot.unset).toArray = ls at hl ⊢
  have hl : lv_has ls 4 [(0, .ref (am 0)), (1, .int kk), (2, .int lo), (3, .int hi)] := hl
  generalize hQe : MQ below _ _ _ _ _ _ = QQ
  refine lv_iload_n hx hb dX9_isIn_0 rfl (lv_at hl 1 rfl) ?_
  refine lv_aload_n hx hb dX9_isIn_1 rfl (lv_at hl 0 rfl) ?_
  refine va_get (D := (dC, dI)) (ci := 9) (v := .int v_size) (C := RX9) (T := TX9) (N := 51) hx hb hts hIX9 hown hK hP 0 rfl rfl 15 (by decide) (hts (.fieldLink RX9 167 "TraitHouseModel" "size" "I") (by decide +kernel)) (fun _ h9 => h9) rfl dX9_isIn_2 ?_
  refine lv_icmp_ge (tgt := 32) hx hb dX9_isIn_5 (by decide) (fun c_1 => ?_) (fun c_1 => ?_)
  · have dc_1 : v_size.toInt ≤ kk.toInt := jI_le c_1 rfl rfl
    refine lv_iconst (v := 0) hx hb dX9_isIn_32 (by decide) ?_
    obtain ⟨hP9, hD9⟩ := va_pd (ws' := [((am 0), .inr (9, F9 am v_status v_now v_told v_merges v_taped v_size v_from v_to v_fault v_readFault v_traits v_length v_open v_leaks v_places v_models)), ((am 10), .inl (cA 3, 200, .inl f_tape))]) hP hD [0, 1] (by decide) rfl
    subst hQe
    have hans : (0 : Int32).toInt = 0 := (by decide)
    have hpost : ((0 ≤ (0 : Int32).toInt ∧ (0 : Int32).toInt ≤ 1) ∧ (¬ (0 : Int32).toInt = 0 → kk.toInt < v_size.toInt ∧ lo.toInt ≤ (f_tape kk.toNatClampNeg).toInt ∧ (f_tape kk.toNatClampNeg).toInt ≤ hi.toInt) ∧ ((0 : Int32).toInt = 0 → kk.toInt < v_size.toInt → ¬ (lo.toInt ≤ (f_tape kk.toNatClampNeg).toInt ∧ (f_tape kk.toNatClampNeg).toInt ≤ hi.toInt))) ∧ ((¬ (0 : Int32).toInt = 0 ↔ (lo.toInt ≤ tpe f_tape v_size kk.toInt ∧ tpe f_tape v_size kk.toInt ≤ hi.toInt))) := ⟨by (refine ⟨by omega, fun h => ?_, fun h1 h2 => ?_⟩ <;> omega), by (rw [tp_rng (by omega) (by omega) (by omega)]; omega)⟩
    exact W.zret (v := 0) hx hb hr (by decide) (fun t ht hW => ⟨⟨0, (), rfl, hpost, by rw [ht]; exact hP9, hD9⟩, hS.F ht⟩) hS.2.2 dX9_isIn_33
  · have dc_1 : kk.toInt < v_size.toInt := jI_nle c_1 rfl rfl
    refine lv_aload_n hx hb dX9_isIn_8 rfl (lv_at hl 0 rfl) ?_
    refine va_get (D := (dC, dI)) (ci := 9) (v := .ref (am 10)) (C := RX9) (T := TX9) (N := 51) hx hb hts hIX9 hown hK hP 0 rfl rfl 13 (by decide) (hts (.fieldLink RX9 38 "TraitHouseModel" "tape" "[B") (by decide +kernel)) (fun _ h9 => h9) rfl dX9_isIn_9 ?_
    refine lv_iload_n hx hb dX9_isIn_12 rfl (lv_at hl 1 rfl) ?_
    have h_2 : vp_in kk 200 := (vp_in_iff.mpr ⟨by omega, by omega⟩)
    refine va_bald hx hb hK hP 1 3 rfl rfl h_2 dX9_isIn_13 ?_
    refine lv_topi (fun x_3 ex_3 => ?_)
    refine lv_iload_n hx hb dX9_isIn_14 rfl (lv_at hl 2 rfl) ?_
    refine lv_icmp_lt (tgt := 32) hx hb dX9_isIn_15 (by decide) (fun c_4 => ?_) (fun c_4 => ?_)
    · have dc_4 : x_3.toInt < lo.toInt := jI_lt c_4 rfl rfl
      refine lv_iconst (v := 0) hx hb dX9_isIn_32 (by decide) ?_
      obtain ⟨hP9, hD9⟩ := va_pd (ws' := [((am 0), .inr (9, F9 am v_status v_now v_told v_merges v_taped v_size v_from v_to v_fault v_readFault v_traits v_length v_open v_leaks v_places v_models)), ((am 10), .inl (cA 3, 200, .inl f_tape))]) hP hD [0, 1] (by decide) rfl
      subst hQe
      have hans : (0 : Int32).toInt = 0 := (by decide)
      have hpost : ((0 ≤ (0 : Int32).toInt ∧ (0 : Int32).toInt ≤ 1) ∧ (¬ (0 : Int32).toInt = 0 → kk.toInt < v_size.toInt ∧ lo.toInt ≤ (f_tape kk.toNatClampNeg).toInt ∧ (f_tape kk.toNatClampNeg).toInt ≤ hi.toInt) ∧ ((0 : Int32).toInt = 0 → kk.toInt < v_size.toInt → ¬ (lo.toInt ≤ (f_tape kk.toNatClampNeg).toInt ∧ (f_tape kk.toNatClampNeg).toInt ≤ hi.toInt))) ∧ ((¬ (0 : Int32).toInt = 0 ↔ (lo.toInt ≤ tpe f_tape v_size kk.toInt ∧ tpe f_tape v_size kk.toInt ≤ hi.toInt))) := ⟨by (have zx_3 := congrArg Int32.toInt ex_3; refine ⟨by omega, fun h => ?_, fun h1 h2 => ?_⟩ <;> omega), by (have zx_3 := congrArg Int32.toInt ex_3; rw [tp_rng (by omega) (by omega) (by omega)]; omega)⟩
      exact W.zret (v := 0) hx hb hr (by decide) (fun t ht hW => ⟨⟨0, (), rfl, hpost, by rw [ht]; exact hP9, hD9⟩, hS.F ht⟩) hS.2.2 dX9_isIn_33
    · have dc_4 : lo.toInt ≤ x_3.toInt := jI_nlt c_4 rfl rfl
      refine lv_aload_n hx hb dX9_isIn_18 rfl (lv_at hl 0 rfl) ?_
      refine va_get (D := (dC, dI)) (ci := 9) (v := .ref (am 10)) (C := RX9) (T := TX9) (N := 51) hx hb hts hIX9 hown hK hP 0 rfl rfl 13 (by decide) (hts (.fieldLink RX9 38 "TraitHouseModel" "tape" "[B") (by decide +kernel)) (fun _ h9 => h9) rfl dX9_isIn_19 ?_
      refine lv_iload_n hx hb dX9_isIn_22 rfl (lv_at hl 1 rfl) ?_
      have h_5 : vp_in kk 200 := (vp_in_iff.mpr ⟨by omega, by omega⟩)
      refine va_bald hx hb hK hP 1 3 rfl rfl h_5 dX9_isIn_23 ?_
      refine lv_topi (fun x_6 ex_6 => ?_)
      refine lv_iload_n hx hb dX9_isIn_24 rfl (lv_at hl 3 rfl) ?_
      refine lv_icmp_gt (tgt := 32) hx hb dX9_isIn_25 (by decide) (fun c_7 => ?_) (fun c_7 => ?_)
      · have dc_7 : hi.toInt < x_6.toInt := jI_lt c_7 rfl rfl
        refine lv_iconst (v := 0) hx hb dX9_isIn_32 (by decide) ?_
        obtain ⟨hP9, hD9⟩ := va_pd (ws' := [((am 0), .inr (9, F9 am v_status v_now v_told v_merges v_taped v_size v_from v_to v_fault v_readFault v_traits v_length v_open v_leaks v_places v_models)), ((am 10), .inl (cA 3, 200, .inl f_tape))]) hP hD [0, 1] (by decide) rfl
        subst hQe
        have hans : (0 : Int32).toInt = 0 := (by decide)
        have hpost : ((0 ≤ (0 : Int32).toInt ∧ (0 : Int32).toInt ≤ 1) ∧ (¬ (0 : Int32).toInt = 0 → kk.toInt < v_size.toInt ∧ lo.toInt ≤ (f_tape kk.toNatClampNeg).toInt ∧ (f_tape kk.toNatClampNeg).toInt ≤ hi.toInt) ∧ ((0 : Int32).toInt = 0 → kk.toInt < v_size.toInt → ¬ (lo.toInt ≤ (f_tape kk.toNatClampNeg).toInt ∧ (f_tape kk.toNatClampNeg).toInt ≤ hi.toInt))) ∧ ((¬ (0 : Int32).toInt = 0 ↔ (lo.toInt ≤ tpe f_tape v_size kk.toInt ∧ tpe f_tape v_size kk.toInt ≤ hi.toInt))) := ⟨by (have zx_3 := congrArg Int32.toInt ex_3; have zx_6 := congrArg Int32.toInt ex_6; refine ⟨by omega, fun h => ?_, fun h1 h2 => ?_⟩ <;> omega), by (have zx_3 := congrArg Int32.toInt ex_3; have zx_6 := congrArg Int32.toInt ex_6; rw [tp_rng (by omega) (by omega) (by omega)]; omega)⟩
        exact W.zret (v := 0) hx hb hr (by decide) (fun t ht hW => ⟨⟨0, (), rfl, hpost, by rw [ht]; exact hP9, hD9⟩, hS.F ht⟩) hS.2.2 dX9_isIn_33
      · have dc_7 : x_6.toInt ≤ hi.toInt := jI_nlt c_7 rfl rfl
        refine lv_iconst (v := 1) hx hb dX9_isIn_28 (by decide) ?_
        refine lv_goto (tgt := 33) hx hb dX9_isIn_29 (by decide) ?_
        obtain ⟨hP9, hD9⟩ := va_pd (ws' := [((am 0), .inr (9, F9 am v_status v_now v_told v_merges v_taped v_size v_from v_to v_fault v_readFault v_traits v_length v_open v_leaks v_places v_models)), ((am 10), .inl (cA 3, 200, .inl f_tape))]) hP hD [0, 1] (by decide) rfl
        subst hQe
        have hans : (1 : Int32).toInt = 1 := (by decide)
        have hpost : ((0 ≤ (1 : Int32).toInt ∧ (1 : Int32).toInt ≤ 1) ∧ (¬ (1 : Int32).toInt = 0 → kk.toInt < v_size.toInt ∧ lo.toInt ≤ (f_tape kk.toNatClampNeg).toInt ∧ (f_tape kk.toNatClampNeg).toInt ≤ hi.toInt) ∧ ((1 : Int32).toInt = 0 → kk.toInt < v_size.toInt → ¬ (lo.toInt ≤ (f_tape kk.toNatClampNeg).toInt ∧ (f_tape kk.toNatClampNeg).toInt ≤ hi.toInt))) ∧ ((¬ (1 : Int32).toInt = 0 ↔ (lo.toInt ≤ tpe f_tape v_size kk.toInt ∧ tpe f_tape v_size kk.toInt ≤ hi.toInt))) := ⟨by (have zx_3 := congrArg Int32.toInt ex_3; have zx_6 := congrArg Int32.toInt ex_6; refine ⟨by omega, fun h => ?_, fun h1 h2 => ?_⟩ <;> omega), by (have zx_3 := congrArg Int32.toInt ex_3; have zx_6 := congrArg Int32.toInt ex_6; rw [tp_rng (by omega) (by omega) (by omega)]; omega)⟩
        exact W.zret (v := 1) hx hb hr (by decide) (fun t ht hW => ⟨⟨1, (), rfl, hpost, by rw [ht]; exact hP9, hD9⟩, hS.F ht⟩) hS.2.2 dX9_isIn_33

set_option maxHeartbeats 8000000 in
set_option maxRecDepth 100000 in
theorem k_X9_next (l : Launch) (dC : Nat → ClassId) (dI : Nat → Nat → Nat) (cA : Nat → ClassId) (sz : Nat) (am : Nat → Nat) (v_status : Int32) (v_now : Int32) (v_told : Int32) (v_merges : Int32) (v_taped : Int32) (v_size : Int32) (v_from : Int32) (v_to : Int32) (v_fault : Int32) (v_readFault : Int32) (v_traits : Int32) (v_length : Int32) (v_open : Int32) (v_leaks : Int32) (v_places : Int32) (v_models : Int32) (f_tape : Nat → Int32) (i_v_now : 0 ≤ v_now.toInt ∧ v_now.toInt ≤ 100000) (i_v_told : 0 ≤ v_told.toInt ∧ v_told.toInt ≤ 400) (i_v_taped : 0 ≤ v_taped.toInt ∧ v_taped.toInt ≤ 200) (i_v_size : 0 ≤ v_size.toInt ∧ v_size.toInt ≤ 200) (i_v_from : 0 ≤ v_from.toInt ∧ v_from.toInt ≤ 200) (i_v_to : 0 ≤ v_to.toInt ∧ v_to.toInt ≤ 200) (i_v_traits : 0 ≤ v_traits.toInt ∧ v_traits.toInt ≤ 20) (i_v_length : 0 ≤ v_length.toInt ∧ v_length.toInt ≤ 200) (i_v_open : 0 ≤ v_open.toInt ∧ v_open.toInt ≤ 8) (i_v_places : 0 ≤ v_places.toInt ∧ v_places.toInt ≤ 2000) (i_v_models : 0 ≤ v_models.toInt ∧ v_models.toInt ≤ 10) (hsz : v_to.toInt ≤ v_size.toInt) : Met l yX9_next wsX9_next ({ frames := 1, cells := 0, slots := 0, locals := 23 }) (va_Pc [.ref (am 0)] (fun U => U.heap.size = sz ∧ va_P (dC, dI) vwCl [((am 0), .inr (9, F9 am v_status v_now v_told v_merges v_taped v_size v_from v_to v_fault v_readFault v_traits v_length v_open v_leaks v_places v_models)), ((am 10), .inl (cA 3, 200, .inl f_tape))] U.heap ∧ va_K (dC, dI) vwCl (tyL cA) U ∧ va_D (fun _ => True) [((am 0), .inr (9, F9 am v_status v_now v_told v_merges v_taped v_size v_from v_to v_fault v_readFault v_traits v_length v_open v_leaks v_places v_models)), ((am 10), .inl (cA 3, 200, .inl f_tape))] ∧ nw_ok U)) (va_Qv (fun (u : Int32 × Int32) => (0 ≤ u.1.toInt ∧ u.1.toInt ≤ 200) ∧ (0 ≤ u.2.toInt ∧ u.2.toInt ≤ 200) ∧ (v_to.toInt ≤ u.1.toInt ∧ u.1.toInt ≤ u.2.toInt ∧ u.2.toInt ≤ v_size.toInt ∧ (u.1.toInt < v_size.toInt → u.1.toInt < u.2.toInt)) ∧ (tokOK f_tape u.1 u.2 v_size) ∧ (u.1.toInt = sk (tpe f_tape v_size) v_to.toInt ∧ u.2.toInt = tke (tpe f_tape v_size) v_size.toInt (sk (tpe f_tape v_size) v_to.toInt))) (fun (u : Int32 × Int32) (t : State) => va_P (dC, dI) vwCl [((am 0), .inr (9, F9 am v_status v_now v_told v_merges v_taped v_size u.1 u.2 v_fault v_readFault v_traits v_length v_open v_leaks v_places v_models)), ((am 10), .inl (cA 3, 200, .inl f_tape))] t.heap ∧ va_D (va_A [((am 0), .inr (9, F9 am v_status v_now v_told v_merges v_taped v_size v_from v_to v_fault v_readFault v_traits v_length v_open v_leaks v_places v_models)), ((am 10), .inl (cA 3, 200, .inl f_tape))] sz) [((am 0), .inr (9, F9 am v_status v_now v_told v_merges v_taped v_size u.1 u.2 v_fault v_readFault v_traits v_length v_open v_leaks v_places v_models)), ((am 10), .inl (cA 3, 200, .inl f_tape))]) (va_A [((am 0), .inr (9, F9 am v_status v_now v_told v_merges v_taped v_size v_from v_to v_fault v_readFault v_traits v_length v_open v_leaks v_places v_models)), ((am 10), .inl (cA 3, 200, .inl f_tape))] sz)) 0 0 (va_A [((am 0), .inr (9, F9 am v_status v_now v_told v_merges v_taped v_size v_from v_to v_fault v_readFault v_traits v_length v_open v_leaks v_places v_models)), ((am 10), .inl (cA 3, 200, .inl f_tape))] sz) := by
  refine Met.ofW (cc := cX9_next) (maxL := 1) (ret := none) (by decide) rfl ?_
  intro p e s m args below meth c s₁ B hml hv
  obtain ⟨rfl, hsz, hP, hK, hD0, hN⟩ := hv
  have hx := B.exec
  have hb := B.bytes
  have hr := B.returns
  have hts := atoms_spec (ws := wsX9_next) B.pre
  have hown : s.vm.findClass RX9 = some m.cls := findClass_of_methodNamed B.named
  have hlocks := B.notSynchronized
  subst hsz
  have hD := hD0.self (sz := s.heap.size)
  generalize hAe : va_A [((am 0), .inr (9, F9 am v_status v_now v_told v_merges v_taped v_size v_from v_to v_fault v_readFault v_traits v_length v_open v_leaks v_places v_models)), ((am 10), .inl (cA 3, 200, .inl f_tape))] s.heap.size = A at hD ⊢
  have hA : ∀ q : Nat, s.heap.size ≤ q → A q := fun q h => by rw [← hAe]; exact Or.inr h
  have hS : va_S A s.heap s.heap [] := va_S.rf
  have hIX9 : ∀ w ∈ u_ws RX9 TX9 51, w ∈ wsX9_next := by decide +kernel
  have hl := lv_entry ([.ref (am 0)]) (n := 1) (Nat.le_of_ble_eq_true rfl)
  rw [lg_entry_eq]
  generalize (lg_sl ([.ref (am 0)]) ++ List.replicate (1 - (lg_sl ([.ref (am 0)])).length) Slot.unset).toArray = ls at hl ⊢
  have hl : lv_has ls 1 [(0, .ref (am 0))] := hl
  generalize hQe : MQ below _ _ _ _ _ _ = QQ
  refine lv_aload_n hx hb dX9_next_0 rfl (lv_at hl 0 rfl) ?_
  refine lv_aload_n hx hb dX9_next_1 rfl (lv_at hl 0 rfl) ?_
  refine va_get (D := (dC, dI)) (ci := 9) (v := .int v_to) (C := RX9) (T := TX9) (N := 51) hx hb hts hIX9 hown hK hP 0 rfl rfl 17 (by decide) (hts (.fieldLink RX9 170 "TraitHouseModel" "to" "I") (by decide +kernel)) (fun _ h9 => h9) rfl dX9_next_2 ?_
  refine va_put (D := (dC, dI)) (ci := 9) (v := .int v_to) (ty := .int) (C := RX9) (T := TX9) (N := 51) hx hb hts hIX9 tyX9 tyX9_ok nmX9 hown hK hP hD hS 0 rfl rfl 16 (by decide) (hts (.fieldLink RX9 173 "TraitHouseModel" "from" "I") (by decide +kernel)) (fun _ h9 => h9) rfl (by decide +kernel) rfl rfl (Nat.le_of_ble_eq_true rfl) dX9_next_5 (fun H locs hP hD hS => ?_)
  replace hP : va_P (dC, dI) vwCl [((am 0), .inr (9, F9 am v_status v_now v_told v_merges v_taped v_size v_to v_to v_fault v_readFault v_traits v_length v_open v_leaks v_places v_models)), ((am 10), .inl (cA 3, 200, .inl f_tape))] H := hP
  replace hD : va_D A [((am 0), .inr (9, F9 am v_status v_now v_told v_merges v_taped v_size v_to v_to v_fault v_readFault v_traits v_length v_open v_leaks v_places v_models)), ((am 10), .inl (cA 3, 200, .inl f_tape))] := hD
  have loop8_1 : ∀ (n : Nat) (w_v_from_8 : Int32) (H : Heap) (locs : List Loc) (ls : Array Slot), 200 - w_v_from_8.toInt < (n : Int) → (0 ≤ w_v_from_8.toInt ∧ w_v_from_8.toInt ≤ 200) → (v_to.toInt ≤ w_v_from_8.toInt ∧ w_v_from_8.toInt ≤ v_size.toInt) → (sk (tpe f_tape v_size) w_v_from_8.toInt = sk (tpe f_tape v_size) v_to.toInt) → va_P (dC, dI) vwCl [((am 0), .inr (9, F9 am v_status v_now v_told v_merges v_taped v_size w_v_from_8 v_to v_fault v_readFault v_traits v_length v_open v_leaks v_places v_models)), ((am 10), .inl (cA 3, 200, .inl f_tape))] H → va_D A [((am 0), .inr (9, F9 am v_status v_now v_told v_merges v_taped v_size w_v_from_8 v_to v_fault v_readFault v_traits v_length v_open v_leaks v_places v_models)), ((am 10), .inl (cA 3, 200, .inl f_tape))] → va_S A s.heap H locs → lv_has ls 1 [(0, .ref (am 0))] → W p l e ({ frames := 1, cells := 0, slots := 0, locals := 23 }) s m ([.ref (am 0)] : List Value).toArray below meth c H locs 0 0 QQ (F0 m 8 ls []) := by
    intro n
    induction n with
    | zero => intro w_v_from_8 H locs ls hme hv0_8 hv1_8 hv2_8; exfalso; omega
    | succ n ih_8 =>
      intro w_v_from_8 H locs ls hme_8 hv0_8 hv1_8 hv2_8 hP hD hS hl
      refine lv_aload_n hx hb dX9_next_8 rfl (lv_at hl 0 rfl) ?_
      refine va_get (D := (dC, dI)) (ci := 9) (v := .int w_v_from_8) (C := RX9) (T := TX9) (N := 51) hx hb hts hIX9 hown hK hP 0 rfl rfl 16 (by decide) (hts (.fieldLink RX9 173 "TraitHouseModel" "from" "I") (by decide +kernel)) (fun _ h9 => h9) rfl dX9_next_9 ?_
      refine lv_aload_n hx hb dX9_next_12 rfl (lv_at hl 0 rfl) ?_
      refine va_get (D := (dC, dI)) (ci := 9) (v := .int v_size) (C := RX9) (T := TX9) (N := 51) hx hb hts hIX9 hown hK hP 0 rfl rfl 15 (by decide) (hts (.fieldLink RX9 167 "TraitHouseModel" "size" "I") (by decide +kernel)) (fun _ h9 => h9) rfl dX9_next_13 ?_
      refine lv_icmp_ge (tgt := 46) hx hb dX9_next_16 (by decide) (fun c_2 => ?_) (fun c_2 => ?_)
      · have dc_2 : v_size.toInt ≤ w_v_from_8.toInt := jI_le c_2 rfl rfl
        refine lv_aload_n hx hb dX9_next_46 rfl (lv_at hl 0 rfl) ?_
        refine lv_aload_n hx hb dX9_next_47 rfl (lv_at hl 0 rfl) ?_
        refine va_get (D := (dC, dI)) (ci := 9) (v := .int w_v_from_8) (C := RX9) (T := TX9) (N := 51) hx hb hts hIX9 hown hK hP 0 rfl rfl 16 (by decide) (hts (.fieldLink RX9 173 "TraitHouseModel" "from" "I") (by decide +kernel)) (fun _ h9 => h9) rfl dX9_next_48 ?_
        refine va_put (D := (dC, dI)) (ci := 9) (v := .int w_v_from_8) (ty := .int) (C := RX9) (T := TX9) (N := 51) hx hb hts hIX9 tyX9 tyX9_ok nmX9 hown hK hP hD hS 0 rfl rfl 17 (by decide) (hts (.fieldLink RX9 170 "TraitHouseModel" "to" "I") (by decide +kernel)) (fun _ h9 => h9) rfl (by decide +kernel) rfl rfl (Nat.le_of_ble_eq_true rfl) dX9_next_51 (fun H locs hP hD hS => ?_)
        replace hP : va_P (dC, dI) vwCl [((am 0), .inr (9, F9 am v_status v_now v_told v_merges v_taped v_size w_v_from_8 w_v_from_8 v_fault v_readFault v_traits v_length v_open v_leaks v_places v_models)), ((am 10), .inl (cA 3, 200, .inl f_tape))] H := hP
        replace hD : va_D A [((am 0), .inr (9, F9 am v_status v_now v_told v_merges v_taped v_size w_v_from_8 w_v_from_8 v_fault v_readFault v_traits v_length v_open v_leaks v_places v_models)), ((am 10), .inl (cA 3, 200, .inl f_tape))] := hD
        refine lv_aload_n hx hb dX9_next_54 rfl (lv_at hl 0 rfl) ?_
        refine va_get (D := (dC, dI)) (ci := 9) (v := .int w_v_from_8) (C := RX9) (T := TX9) (N := 51) hx hb hts hIX9 hown hK hP 0 rfl rfl 16 (by decide) (hts (.fieldLink RX9 173 "TraitHouseModel" "from" "I") (by decide +kernel)) (fun _ h9 => h9) rfl dX9_next_55 ?_
        refine lv_aload_n hx hb dX9_next_58 rfl (lv_at hl 0 rfl) ?_
        refine va_get (D := (dC, dI)) (ci := 9) (v := .int v_size) (C := RX9) (T := TX9) (N := 51) hx hb hts hIX9 hown hK hP 0 rfl rfl 15 (by decide) (hts (.fieldLink RX9 167 "TraitHouseModel" "size" "I") (by decide +kernel)) (fun _ h9 => h9) rfl dX9_next_59 ?_
        refine lv_icmp_ne (tgt := 66) hx hb dX9_next_62 (by decide) (fun c_3 => ?_) (fun c_3 => ?_)
        · have dc_3 : ¬ w_v_from_8.toInt = v_size.toInt := jI_ne c_3 rfl rfl
          refine lv_aload_n hx hb dX9_next_66 rfl (lv_at hl 0 rfl) ?_
          refine lv_aload_n hx hb dX9_next_67 rfl (lv_at hl 0 rfl) ?_
          refine va_get (D := (dC, dI)) (ci := 9) (v := .int w_v_from_8) (C := RX9) (T := TX9) (N := 51) hx hb hts hIX9 hown hK hP 0 rfl rfl 16 (by decide) (hts (.fieldLink RX9 173 "TraitHouseModel" "from" "I") (by decide +kernel)) (fun _ h9 => h9) rfl dX9_next_68 ?_
          refine lv_bipush (v := 97) hx hb dX9_next_71 (by decide) ?_
          refine lv_bipush (v := 122) hx hb dX9_next_73 (by decide) ?_
          have hk_4 : (97 : Int32).toInt = 97 := by decide
          have hk_5 : (122 : Int32).toInt = 122 := by decide
          obtain ⟨hPc, hDc, hFc, hCc⟩ := va_pre (ws' := [((am 0), .inr (9, F9 am v_status v_now v_told v_merges v_taped v_size w_v_from_8 w_v_from_8 v_fault v_readFault v_traits v_length v_open v_leaks v_places v_models)), ((am 10), .inl (cA 3, 200, .inl f_tape))]) hP hD hS hA [0, 1] (by decide) rfl
          refine va_calli (va_runV (As := [.int w_v_from_8, .int 97, .int 122]) (rest := []) ⟨hx, hb, hml, hown, hts⟩ (k_X9_isIn l dC dI cA H.size am v_status v_now v_told v_merges v_taped v_size w_v_from_8 w_v_from_8 v_fault v_readFault v_traits v_length v_open v_leaks v_places v_models f_tape w_v_from_8 97 122 i_v_now i_v_told i_v_taped i_v_size hv0_8 hv0_8 i_v_traits i_v_length i_v_open i_v_places i_v_models hv0_8 (by omega)) (cwV 3 hts gX9_next_X9_isIn rfl rfl rfl (by decide +kernel) ⟨Nat.le_of_ble_eq_true rfl, Nat.le_of_ble_eq_true rfl⟩) ⟨fun a U g mk q => by obtain ⟨q0, q1, qP, qK, qD, qN⟩ := q; exact ⟨q0, q1, qP, va_K.moved (u := U) (U := U.calling g mk a) (Vm.Alike.refl U.vm) qK, qD, qN.same rfl⟩, va_recv hK hPc (ci := 9) (q0 := 0) rfl rfl, fun U hU hW => ⟨rfl, by rw [hU], by rw [hU]; exact hPc, va_K.moved hW.alike hK, hDc.weaken (fun _ _ _ _ => trivial), hN.warm hW⟩⟩ rfl rfl hl.1 rfl (lv_room (Nat.le_of_ble_eq_true rfl)) dX9_next_75 ⟨Nat.le_of_ble_eq_true rfl, Nat.le_of_ble_eq_true rfl⟩) hS (fun q _ h => hFc q h) hFc (fun r_6 u_7 t H1 locs ht hvm hw_8 hB hz1 hk1 hS => ?_)
          try dsimp only at hw_8 hB
          obtain ⟨po_9, tp_10⟩ := hw_8
          try simp only [hk_4, hk_5] at po_9 tp_10
          obtain ⟨hP1, hD1⟩ := hB
          rw [ht] at hP1
          obtain ⟨hP, hD⟩ := va_join (wr := []) (w1 := [((am 0), .inr (9, F9 am v_status v_now v_told v_merges v_taped v_size w_v_from_8 w_v_from_8 v_fault v_readFault v_traits v_length v_open v_leaks v_places v_models)), ((am 10), .inl (cA 3, 200, .inl f_tape))]) hP hD [0, 1] [] hCc rfl (by decide) (by decide) hk1 hFc hP1 hD1
          clear hz1
          generalize H1 = H at hP hS ⊢
          refine lv_if_eq (tgt := 109) hx hb dX9_next_78 (by decide) (fun c_11 => ?_) (fun c_11 => ?_)
          · have dc_11 : r_6.toInt = 0 := jI_eq c_11 rfl (by decide)
            replace po_9 := dg_n po_9 dc_11
            refine lv_aload_n hx hb dX9_next_109 rfl (lv_at hl 0 rfl) ?_
            refine lv_aload_n hx hb dX9_next_110 rfl (lv_at hl 0 rfl) ?_
            refine va_get (D := (dC, dI)) (ci := 9) (v := .int w_v_from_8) (C := RX9) (T := TX9) (N := 51) hx hb hts hIX9 hown hK hP 0 rfl rfl 16 (by decide) (hts (.fieldLink RX9 173 "TraitHouseModel" "from" "I") (by decide +kernel)) (fun _ h9 => h9) rfl dX9_next_111 ?_
            refine lv_bipush (v := 48) hx hb dX9_next_114 (by decide) ?_
            refine lv_bipush (v := 57) hx hb dX9_next_116 (by decide) ?_
            have hk_12 : (48 : Int32).toInt = 48 := by decide
            have hk_13 : (57 : Int32).toInt = 57 := by decide
            obtain ⟨hPc, hDc, hFc, hCc⟩ := va_pre (ws' := [((am 0), .inr (9, F9 am v_status v_now v_told v_merges v_taped v_size w_v_from_8 w_v_from_8 v_fault v_readFault v_traits v_length v_open v_leaks v_places v_models)), ((am 10), .inl (cA 3, 200, .inl f_tape))]) hP hD hS hA [0, 1] (by decide) rfl
            refine va_calli (va_runV (As := [.int w_v_from_8, .int 48, .int 57]) (rest := []) ⟨hx, hb, hml, hown, hts⟩ (k_X9_isIn l dC dI cA H.size am v_status v_now v_told v_merges v_taped v_size w_v_from_8 w_v_from_8 v_fault v_readFault v_traits v_length v_open v_leaks v_places v_models f_tape w_v_from_8 48 57 i_v_now i_v_told i_v_taped i_v_size hv0_8 hv0_8 i_v_traits i_v_length i_v_open i_v_places i_v_models hv0_8 (by omega)) (cwV 3 hts gX9_next_X9_isIn rfl rfl rfl (by decide +kernel) ⟨Nat.le_of_ble_eq_true rfl, Nat.le_of_ble_eq_true rfl⟩) ⟨fun a U g mk q => by obtain ⟨q0, q1, qP, qK, qD, qN⟩ := q; exact ⟨q0, q1, qP, va_K.moved (u := U) (U := U.calling g mk a) (Vm.Alike.refl U.vm) qK, qD, qN.same rfl⟩, va_recv hK hPc (ci := 9) (q0 := 0) rfl rfl, fun U hU hW => ⟨rfl, by rw [hU], by rw [hU]; exact hPc, va_K.moved hW.alike hK, hDc.weaken (fun _ _ _ _ => trivial), hN.warm hW⟩⟩ rfl rfl hl.1 rfl (lv_room (Nat.le_of_ble_eq_true rfl)) dX9_next_118 ⟨Nat.le_of_ble_eq_true rfl, Nat.le_of_ble_eq_true rfl⟩) hS (fun q _ h => hFc q h) hFc (fun r_14 u_15 t H1 locs ht hvm hw_16 hB hz1 hk1 hS => ?_)
            try dsimp only at hw_16 hB
            obtain ⟨po_17, tp_18⟩ := hw_16
            try simp only [hk_12, hk_13] at po_17 tp_18
            obtain ⟨hP1, hD1⟩ := hB
            rw [ht] at hP1
            obtain ⟨hP, hD⟩ := va_join (wr := []) (w1 := [((am 0), .inr (9, F9 am v_status v_now v_told v_merges v_taped v_size w_v_from_8 w_v_from_8 v_fault v_readFault v_traits v_length v_open v_leaks v_places v_models)), ((am 10), .inl (cA 3, 200, .inl f_tape))]) hP hD [0, 1] [] hCc rfl (by decide) (by decide) hk1 hFc hP1 hD1
            clear hz1
            generalize H1 = H at hP hS ⊢
            refine lv_if_eq (tgt := 152) hx hb dX9_next_121 (by decide) (fun c_19 => ?_) (fun c_19 => ?_)
            · have dc_19 : r_14.toInt = 0 := jI_eq c_19 rfl (by decide)
              replace po_17 := dg_n po_17 dc_19
              refine lv_aload_n hx hb dX9_next_152 rfl (lv_at hl 0 rfl) ?_
              refine lv_dup hx hb dX9_next_153 rfl ?_
              refine va_get (D := (dC, dI)) (ci := 9) (v := .int w_v_from_8) (C := RX9) (T := TX9) (N := 51) hx hb hts hIX9 hown hK hP 0 rfl rfl 17 (by decide) (hts (.fieldLink RX9 170 "TraitHouseModel" "to" "I") (by decide +kernel)) (fun _ h9 => h9) rfl dX9_next_154 ?_
              refine lv_iconst (v := 1) hx hb dX9_next_157 (by decide) ?_
              refine lv_iadd hx hb dX9_next_158 ?_
              refine lv_topi (fun x_20 ex_20 => ?_)
              have dx_20 : x_20.toInt = w_v_from_8.toInt + 1 := by rw [ex_20]; exact jI_add rfl (by decide) (by omega) (by omega)
              refine va_put (D := (dC, dI)) (ci := 9) (v := .int x_20) (ty := .int) (C := RX9) (T := TX9) (N := 51) hx hb hts hIX9 tyX9 tyX9_ok nmX9 hown hK hP hD hS 0 rfl rfl 17 (by decide) (hts (.fieldLink RX9 170 "TraitHouseModel" "to" "I") (by decide +kernel)) (fun _ h9 => h9) rfl (by decide +kernel) rfl rfl (Nat.le_of_ble_eq_true rfl) dX9_next_159 (fun H locs hP hD hS => ?_)
              replace hP : va_P (dC, dI) vwCl [((am 0), .inr (9, F9 am v_status v_now v_told v_merges v_taped v_size w_v_from_8 x_20 v_fault v_readFault v_traits v_length v_open v_leaks v_places v_models)), ((am 10), .inl (cA 3, 200, .inl f_tape))] H := hP
              replace hD : va_D A [((am 0), .inr (9, F9 am v_status v_now v_told v_merges v_taped v_size w_v_from_8 x_20 v_fault v_readFault v_traits v_length v_open v_leaks v_places v_models)), ((am 10), .inl (cA 3, 200, .inl f_tape))] := hD
              obtain ⟨hP9, hD9⟩ := va_pd (ws' := [((am 0), .inr (9, F9 am v_status v_now v_told v_merges v_taped v_size w_v_from_8 x_20 v_fault v_readFault v_traits v_length v_open v_leaks v_places v_models)), ((am 10), .inl (cA 3, 200, .inl f_tape))]) hP hD [0, 1] (by decide) rfl
              subst hQe
              have hpost : (0 ≤ w_v_from_8.toInt ∧ w_v_from_8.toInt ≤ 200) ∧ (0 ≤ x_20.toInt ∧ x_20.toInt ≤ 200) ∧ (v_to.toInt ≤ w_v_from_8.toInt ∧ w_v_from_8.toInt ≤ x_20.toInt ∧ x_20.toInt ≤ v_size.toInt ∧ (w_v_from_8.toInt < v_size.toInt → w_v_from_8.toInt < x_20.toInt)) ∧ (tokOK f_tape w_v_from_8 x_20 v_size) ∧ (w_v_from_8.toInt = sk (tpe f_tape v_size) v_to.toInt ∧ x_20.toInt = tke (tpe f_tape v_size) v_size.toInt (sk (tpe f_tape v_size) v_to.toInt)) := ⟨hv0_8, by omega, by omega, tok_one (by omega) (by omega), (by have s9 : sk (tpe f_tape v_size) v_to.toInt = w_v_from_8.toInt := (by rw [← hv2_8]; exact sk_end (by omega) (by omega)); rw [s9]; exact ⟨rfl, (by rw [tke_one (by omega) (fun h => absurd (tp_10.mpr h) (fun q => q dc_11)) (fun h => absurd (tp_18.mpr h) (fun q => q dc_19))]; omega)⟩)⟩
              exact W.vret hx hb hr (fun t ht hW => ⟨⟨(w_v_from_8, x_20), rfl, hpost, by rw [ht]; exact hP9, hD9⟩, hS.F ht⟩) hS.2.2 dX9_next_162
            · have dc_19 : ¬ r_14.toInt = 0 := jI_ne c_19 rfl (by decide)
              have loop124_21 : ∀ (n : Nat) (w_v_to_124 : Int32) (H : Heap) (locs : List Loc) (ls : Array Slot), 200 - w_v_to_124.toInt < (n : Int) → (0 ≤ w_v_to_124.toInt ∧ w_v_to_124.toInt ≤ 200) → (w_v_from_8.toInt ≤ w_v_to_124.toInt ∧ w_v_to_124.toInt ≤ v_size.toInt) → (∀ k : Nat, w_v_from_8.toInt ≤ k → (k : Int) < w_v_to_124.toInt → dig (f_tape k)) → (rl (tpe f_tape v_size) 48 57 w_v_to_124.toInt = tke (tpe f_tape v_size) v_size.toInt w_v_from_8.toInt) → va_P (dC, dI) vwCl [((am 0), .inr (9, F9 am v_status v_now v_told v_merges v_taped v_size w_v_from_8 w_v_to_124 v_fault v_readFault v_traits v_length v_open v_leaks v_places v_models)), ((am 10), .inl (cA 3, 200, .inl f_tape))] H → va_D A [((am 0), .inr (9, F9 am v_status v_now v_told v_merges v_taped v_size w_v_from_8 w_v_to_124 v_fault v_readFault v_traits v_length v_open v_leaks v_places v_models)), ((am 10), .inl (cA 3, 200, .inl f_tape))] → va_S A s.heap H locs → lv_has ls 1 [(0, .ref (am 0))] → W p l e ({ frames := 1, cells := 0, slots := 0, locals := 23 }) s m ([.ref (am 0)] : List Value).toArray below meth c H locs 0 0 QQ (F0 m 124 ls []) := by
                intro n
                induction n with
                | zero => intro w_v_to_124 H locs ls hme hv0_124 hv1_124 hv2_124 hv3_124; exfalso; omega
                | succ n ih_124 =>
                  intro w_v_to_124 H locs ls hme_124 hv0_124 hv1_124 hv2_124 hv3_124 hP hD hS hl
                  refine lv_aload_n hx hb dX9_next_124 rfl (lv_at hl 0 rfl) ?_
                  refine lv_aload_n hx hb dX9_next_125 rfl (lv_at hl 0 rfl) ?_
                  refine va_get (D := (dC, dI)) (ci := 9) (v := .int w_v_to_124) (C := RX9) (T := TX9) (N := 51) hx hb hts hIX9 hown hK hP 0 rfl rfl 17 (by decide) (hts (.fieldLink RX9 170 "TraitHouseModel" "to" "I") (by decide +kernel)) (fun _ h9 => h9) rfl dX9_next_126 ?_
                  refine lv_bipush (v := 48) hx hb dX9_next_129 (by decide) ?_
                  refine lv_bipush (v := 57) hx hb dX9_next_131 (by decide) ?_
                  have hk_22 : (48 : Int32).toInt = 48 := by decide
                  have hk_23 : (57 : Int32).toInt = 57 := by decide
                  obtain ⟨hPc, hDc, hFc, hCc⟩ := va_pre (ws' := [((am 0), .inr (9, F9 am v_status v_now v_told v_merges v_taped v_size w_v_from_8 w_v_to_124 v_fault v_readFault v_traits v_length v_open v_leaks v_places v_models)), ((am 10), .inl (cA 3, 200, .inl f_tape))]) hP hD hS hA [0, 1] (by decide) rfl
                  refine va_calli (va_runV (As := [.int w_v_to_124, .int 48, .int 57]) (rest := []) ⟨hx, hb, hml, hown, hts⟩ (k_X9_isIn l dC dI cA H.size am v_status v_now v_told v_merges v_taped v_size w_v_from_8 w_v_to_124 v_fault v_readFault v_traits v_length v_open v_leaks v_places v_models f_tape w_v_to_124 48 57 i_v_now i_v_told i_v_taped i_v_size hv0_8 hv0_124 i_v_traits i_v_length i_v_open i_v_places i_v_models hv0_124 (by omega)) (cwV 3 hts gX9_next_X9_isIn rfl rfl rfl (by decide +kernel) ⟨Nat.le_of_ble_eq_true rfl, Nat.le_of_ble_eq_true rfl⟩) ⟨fun a U g mk q => by obtain ⟨q0, q1, qP, qK, qD, qN⟩ := q; exact ⟨q0, q1, qP, va_K.moved (u := U) (U := U.calling g mk a) (Vm.Alike.refl U.vm) qK, qD, qN.same rfl⟩, va_recv hK hPc (ci := 9) (q0 := 0) rfl rfl, fun U hU hW => ⟨rfl, by rw [hU], by rw [hU]; exact hPc, va_K.moved hW.alike hK, hDc.weaken (fun _ _ _ _ => trivial), hN.warm hW⟩⟩ rfl rfl hl.1 rfl (lv_room (Nat.le_of_ble_eq_true rfl)) dX9_next_133 ⟨Nat.le_of_ble_eq_true rfl, Nat.le_of_ble_eq_true rfl⟩) hS (fun q _ h => hFc q h) hFc (fun r_24 u_25 t H1 locs ht hvm hw_26 hB hz1 hk1 hS => ?_)
                  try dsimp only at hw_26 hB
                  obtain ⟨po_27, tp_28⟩ := hw_26
                  try simp only [hk_22, hk_23] at po_27 tp_28
                  obtain ⟨hP1, hD1⟩ := hB
                  rw [ht] at hP1
                  obtain ⟨hP, hD⟩ := va_join (wr := []) (w1 := [((am 0), .inr (9, F9 am v_status v_now v_told v_merges v_taped v_size w_v_from_8 w_v_to_124 v_fault v_readFault v_traits v_length v_open v_leaks v_places v_models)), ((am 10), .inl (cA 3, 200, .inl f_tape))]) hP hD [0, 1] [] hCc rfl (by decide) (by decide) hk1 hFc hP1 hD1
                  clear hz1
                  generalize H1 = H at hP hS ⊢
                  refine lv_if_eq (tgt := 162) hx hb dX9_next_136 (by decide) (fun c_29 => ?_) (fun c_29 => ?_)
                  · have dc_29 : r_24.toInt = 0 := jI_eq c_29 rfl (by decide)
                    obtain ⟨hP9, hD9⟩ := va_pd (ws' := [((am 0), .inr (9, F9 am v_status v_now v_told v_merges v_taped v_size w_v_from_8 w_v_to_124 v_fault v_readFault v_traits v_length v_open v_leaks v_places v_models)), ((am 10), .inl (cA 3, 200, .inl f_tape))]) hP hD [0, 1] (by decide) rfl
                    subst hQe
                    have hpost : (0 ≤ w_v_from_8.toInt ∧ w_v_from_8.toInt ≤ 200) ∧ (0 ≤ w_v_to_124.toInt ∧ w_v_to_124.toInt ≤ 200) ∧ (v_to.toInt ≤ w_v_from_8.toInt ∧ w_v_from_8.toInt ≤ w_v_to_124.toInt ∧ w_v_to_124.toInt ≤ v_size.toInt ∧ (w_v_from_8.toInt < v_size.toInt → w_v_from_8.toInt < w_v_to_124.toInt)) ∧ (tokOK f_tape w_v_from_8 w_v_to_124 v_size) ∧ (w_v_from_8.toInt = sk (tpe f_tape v_size) v_to.toInt ∧ w_v_to_124.toInt = tke (tpe f_tape v_size) v_size.toInt (sk (tpe f_tape v_size) v_to.toInt)) := ⟨hv0_8, hv0_124, by have hne9 : w_v_from_8.toInt < w_v_to_124.toInt := tok_ne (f := f_tape) (size := v_size) (by omega) (po_17.2.1 (by omega)).1 (po_17.2.1 (by omega)).2 (po_27.2.2 (by omega)); omega, tok_all hv2_124, (by have s9 : sk (tpe f_tape v_size) v_to.toInt = w_v_from_8.toInt := (by rw [← hv2_8]; exact sk_end (by omega) (by omega)); rw [s9]; exact ⟨rfl, (by rw [← hv3_124]; exact (rl_done (fun h => absurd (tp_28.mpr h) (fun q => q dc_29))).symm)⟩)⟩
                    exact W.vret hx hb hr (fun t ht hW => ⟨⟨(w_v_from_8, w_v_to_124), rfl, hpost, by rw [ht]; exact hP9, hD9⟩, hS.F ht⟩) hS.2.2 dX9_next_162
                  · have dc_29 : ¬ r_24.toInt = 0 := jI_ne c_29 rfl (by decide)
                    refine lv_aload_n hx hb dX9_next_139 rfl (lv_at hl 0 rfl) ?_
                    refine lv_dup hx hb dX9_next_140 rfl ?_
                    refine va_get (D := (dC, dI)) (ci := 9) (v := .int w_v_to_124) (C := RX9) (T := TX9) (N := 51) hx hb hts hIX9 hown hK hP 0 rfl rfl 17 (by decide) (hts (.fieldLink RX9 170 "TraitHouseModel" "to" "I") (by decide +kernel)) (fun _ h9 => h9) rfl dX9_next_141 ?_
                    refine lv_iconst (v := 1) hx hb dX9_next_144 (by decide) ?_
                    refine lv_iadd hx hb dX9_next_145 ?_
                    refine lv_topi (fun x_30 ex_30 => ?_)
                    have dx_30 : x_30.toInt = w_v_to_124.toInt + 1 := by rw [ex_30]; exact jI_add rfl (by decide) (by omega) (by omega)
                    refine va_put (D := (dC, dI)) (ci := 9) (v := .int x_30) (ty := .int) (C := RX9) (T := TX9) (N := 51) hx hb hts hIX9 tyX9 tyX9_ok nmX9 hown hK hP hD hS 0 rfl rfl 17 (by decide) (hts (.fieldLink RX9 170 "TraitHouseModel" "to" "I") (by decide +kernel)) (fun _ h9 => h9) rfl (by decide +kernel) rfl rfl (Nat.le_of_ble_eq_true rfl) dX9_next_146 (fun H locs hP hD hS => ?_)
                    replace hP : va_P (dC, dI) vwCl [((am 0), .inr (9, F9 am v_status v_now v_told v_merges v_taped v_size w_v_from_8 x_30 v_fault v_readFault v_traits v_length v_open v_leaks v_places v_models)), ((am 10), .inl (cA 3, 200, .inl f_tape))] H := hP
                    replace hD : va_D A [((am 0), .inr (9, F9 am v_status v_now v_told v_merges v_taped v_size w_v_from_8 x_30 v_fault v_readFault v_traits v_length v_open v_leaks v_places v_models)), ((am 10), .inl (cA 3, 200, .inl f_tape))] := hD
                    refine lv_goto (tgt := 124) hx hb dX9_next_149 (by decide) ?_
                    exact ih_124 x_30 _ _ ls (by omega) (by omega) (by omega) (tok_ext (x := 0) hv2_124 ⟨by have := po_27; have hk1 : (48 : Int32).toInt = 48 := rfl; omega, by have := po_27; have hk2 : (57 : Int32).toInt = 57 := rfl; omega⟩ (by omega) (by omega)) ((rl_go (tp_28.mp dc_29) (by omega) (by omega)).trans hv3_124) (hP.sub [0, 1] rfl) (hD.sub [0, 1] (by decide) rfl) hS (lv_sub hl [0] rfl)
              exact loop124_21 (Int.toNat (200 - (w_v_from_8 : Int32).toInt) + 1) w_v_from_8 _ _ ls (by omega) hv0_8 (by omega) (fun k h1 h2 => by omega) ((by rw [tke_dig (by omega) (tp_18.mp dc_19), ← rl_step (tp_18.mp dc_19) (by omega)])) hP hD hS (lv_sub hl [0] rfl)
          · have dc_11 : ¬ r_6.toInt = 0 := jI_ne c_11 rfl (by decide)
            have loop81_31 : ∀ (n : Nat) (w_v_to_81 : Int32) (H : Heap) (locs : List Loc) (ls : Array Slot), 200 - w_v_to_81.toInt < (n : Int) → (0 ≤ w_v_to_81.toInt ∧ w_v_to_81.toInt ≤ 200) → (w_v_from_8.toInt ≤ w_v_to_81.toInt ∧ w_v_to_81.toInt ≤ v_size.toInt) → (rl (tpe f_tape v_size) 97 122 w_v_to_81.toInt = tke (tpe f_tape v_size) v_size.toInt w_v_from_8.toInt) → va_P (dC, dI) vwCl [((am 0), .inr (9, F9 am v_status v_now v_told v_merges v_taped v_size w_v_from_8 w_v_to_81 v_fault v_readFault v_traits v_length v_open v_leaks v_places v_models)), ((am 10), .inl (cA 3, 200, .inl f_tape))] H → va_D A [((am 0), .inr (9, F9 am v_status v_now v_told v_merges v_taped v_size w_v_from_8 w_v_to_81 v_fault v_readFault v_traits v_length v_open v_leaks v_places v_models)), ((am 10), .inl (cA 3, 200, .inl f_tape))] → va_S A s.heap H locs → lv_has ls 1 [(0, .ref (am 0))] → W p l e ({ frames := 1, cells := 0, slots := 0, locals := 23 }) s m ([.ref (am 0)] : List Value).toArray below meth c H locs 0 0 QQ (F0 m 81 ls []) := by
              intro n
              induction n with
              | zero => intro w_v_to_81 H locs ls hme hv0_81 hv1_81 hv2_81; exfalso; omega
              | succ n ih_81 =>
                intro w_v_to_81 H locs ls hme_81 hv0_81 hv1_81 hv2_81 hP hD hS hl
                refine lv_aload_n hx hb dX9_next_81 rfl (lv_at hl 0 rfl) ?_
                refine lv_aload_n hx hb dX9_next_82 rfl (lv_at hl 0 rfl) ?_
                refine va_get (D := (dC, dI)) (ci := 9) (v := .int w_v_to_81) (C := RX9) (T := TX9) (N := 51) hx hb hts hIX9 hown hK hP 0 rfl rfl 17 (by decide) (hts (.fieldLink RX9 170 "TraitHouseModel" "to" "I") (by decide +kernel)) (fun _ h9 => h9) rfl dX9_next_83 ?_
                refine lv_bipush (v := 97) hx hb dX9_next_86 (by decide) ?_
                refine lv_bipush (v := 122) hx hb dX9_next_88 (by decide) ?_
                have hk_32 : (97 : Int32).toInt = 97 := by decide
                have hk_33 : (122 : Int32).toInt = 122 := by decide
                obtain ⟨hPc, hDc, hFc, hCc⟩ := va_pre (ws' := [((am 0), .inr (9, F9 am v_status v_now v_told v_merges v_taped v_size w_v_from_8 w_v_to_81 v_fault v_readFault v_traits v_length v_open v_leaks v_places v_models)), ((am 10), .inl (cA 3, 200, .inl f_tape))]) hP hD hS hA [0, 1] (by decide) rfl
                refine va_calli (va_runV (As := [.int w_v_to_81, .int 97, .int 122]) (rest := []) ⟨hx, hb, hml, hown, hts⟩ (k_X9_isIn l dC dI cA H.size am v_status v_now v_told v_merges v_taped v_size w_v_from_8 w_v_to_81 v_fault v_readFault v_traits v_length v_open v_leaks v_places v_models f_tape w_v_to_81 97 122 i_v_now i_v_told i_v_taped i_v_size hv0_8 hv0_81 i_v_traits i_v_length i_v_open i_v_places i_v_models hv0_81 (by omega)) (cwV 3 hts gX9_next_X9_isIn rfl rfl rfl (by decide +kernel) ⟨Nat.le_of_ble_eq_true rfl, Nat.le_of_ble_eq_true rfl⟩) ⟨fun a U g mk q => by obtain ⟨q0, q1, qP, qK, qD, qN⟩ := q; exact ⟨q0, q1, qP, va_K.moved (u := U) (U := U.calling g mk a) (Vm.Alike.refl U.vm) qK, qD, qN.same rfl⟩, va_recv hK hPc (ci := 9) (q0 := 0) rfl rfl, fun U hU hW => ⟨rfl, by rw [hU], by rw [hU]; exact hPc, va_K.moved hW.alike hK, hDc.weaken (fun _ _ _ _ => trivial), hN.warm hW⟩⟩ rfl rfl hl.1 rfl (lv_room (Nat.le_of_ble_eq_true rfl)) dX9_next_90 ⟨Nat.le_of_ble_eq_true rfl, Nat.le_of_ble_eq_true rfl⟩) hS (fun q _ h => hFc q h) hFc (fun r_34 u_35 t H1 locs ht hvm hw_36 hB hz1 hk1 hS => ?_)
                try dsimp only at hw_36 hB
                obtain ⟨po_37, tp_38⟩ := hw_36
                try simp only [hk_32, hk_33] at po_37 tp_38
                obtain ⟨hP1, hD1⟩ := hB
                rw [ht] at hP1
                obtain ⟨hP, hD⟩ := va_join (wr := []) (w1 := [((am 0), .inr (9, F9 am v_status v_now v_told v_merges v_taped v_size w_v_from_8 w_v_to_81 v_fault v_readFault v_traits v_length v_open v_leaks v_places v_models)), ((am 10), .inl (cA 3, 200, .inl f_tape))]) hP hD [0, 1] [] hCc rfl (by decide) (by decide) hk1 hFc hP1 hD1
                clear hz1
                generalize H1 = H at hP hS ⊢
                refine lv_if_eq (tgt := 162) hx hb dX9_next_93 (by decide) (fun c_39 => ?_) (fun c_39 => ?_)
                · have dc_39 : r_34.toInt = 0 := jI_eq c_39 rfl (by decide)
                  obtain ⟨hP9, hD9⟩ := va_pd (ws' := [((am 0), .inr (9, F9 am v_status v_now v_told v_merges v_taped v_size w_v_from_8 w_v_to_81 v_fault v_readFault v_traits v_length v_open v_leaks v_places v_models)), ((am 10), .inl (cA 3, 200, .inl f_tape))]) hP hD [0, 1] (by decide) rfl
                  subst hQe
                  have hpost : (0 ≤ w_v_from_8.toInt ∧ w_v_from_8.toInt ≤ 200) ∧ (0 ≤ w_v_to_81.toInt ∧ w_v_to_81.toInt ≤ 200) ∧ (v_to.toInt ≤ w_v_from_8.toInt ∧ w_v_from_8.toInt ≤ w_v_to_81.toInt ∧ w_v_to_81.toInt ≤ v_size.toInt ∧ (w_v_from_8.toInt < v_size.toInt → w_v_from_8.toInt < w_v_to_81.toInt)) ∧ (tokOK f_tape w_v_from_8 w_v_to_81 v_size) ∧ (w_v_from_8.toInt = sk (tpe f_tape v_size) v_to.toInt ∧ w_v_to_81.toInt = tke (tpe f_tape v_size) v_size.toInt (sk (tpe f_tape v_size) v_to.toInt)) := ⟨hv0_8, hv0_81, by have hne9 : w_v_from_8.toInt < w_v_to_81.toInt := tok_ne (f := f_tape) (size := v_size) (by omega) (po_9.2.1 (by omega)).1 (po_9.2.1 (by omega)).2 (po_37.2.2 (by omega)); omega, tok_no (fun _ hd => by have h9 := po_9; have hd1 := hd.1; have hd2 := hd.2; omega), (by have s9 : sk (tpe f_tape v_size) v_to.toInt = w_v_from_8.toInt := (by rw [← hv2_8]; exact sk_end (by omega) (by omega)); rw [s9]; exact ⟨rfl, (by rw [← hv2_81]; exact (rl_done (fun h => absurd (tp_38.mpr h) (fun q => q dc_39))).symm)⟩)⟩
                  exact W.vret hx hb hr (fun t ht hW => ⟨⟨(w_v_from_8, w_v_to_81), rfl, hpost, by rw [ht]; exact hP9, hD9⟩, hS.F ht⟩) hS.2.2 dX9_next_162
                · have dc_39 : ¬ r_34.toInt = 0 := jI_ne c_39 rfl (by decide)
                  replace po_37 := dg_y po_37 dc_39
                  refine lv_aload_n hx hb dX9_next_96 rfl (lv_at hl 0 rfl) ?_
                  refine lv_dup hx hb dX9_next_97 rfl ?_
                  refine va_get (D := (dC, dI)) (ci := 9) (v := .int w_v_to_81) (C := RX9) (T := TX9) (N := 51) hx hb hts hIX9 hown hK hP 0 rfl rfl 17 (by decide) (hts (.fieldLink RX9 170 "TraitHouseModel" "to" "I") (by decide +kernel)) (fun _ h9 => h9) rfl dX9_next_98 ?_
                  refine lv_iconst (v := 1) hx hb dX9_next_101 (by decide) ?_
                  refine lv_iadd hx hb dX9_next_102 ?_
                  refine lv_topi (fun x_40 ex_40 => ?_)
                  have dx_40 : x_40.toInt = w_v_to_81.toInt + 1 := by rw [ex_40]; exact jI_add rfl (by decide) (by omega) (by omega)
                  refine va_put (D := (dC, dI)) (ci := 9) (v := .int x_40) (ty := .int) (C := RX9) (T := TX9) (N := 51) hx hb hts hIX9 tyX9 tyX9_ok nmX9 hown hK hP hD hS 0 rfl rfl 17 (by decide) (hts (.fieldLink RX9 170 "TraitHouseModel" "to" "I") (by decide +kernel)) (fun _ h9 => h9) rfl (by decide +kernel) rfl rfl (Nat.le_of_ble_eq_true rfl) dX9_next_103 (fun H locs hP hD hS => ?_)
                  replace hP : va_P (dC, dI) vwCl [((am 0), .inr (9, F9 am v_status v_now v_told v_merges v_taped v_size w_v_from_8 x_40 v_fault v_readFault v_traits v_length v_open v_leaks v_places v_models)), ((am 10), .inl (cA 3, 200, .inl f_tape))] H := hP
                  replace hD : va_D A [((am 0), .inr (9, F9 am v_status v_now v_told v_merges v_taped v_size w_v_from_8 x_40 v_fault v_readFault v_traits v_length v_open v_leaks v_places v_models)), ((am 10), .inl (cA 3, 200, .inl f_tape))] := hD
                  refine lv_goto (tgt := 81) hx hb dX9_next_106 (by decide) ?_
                  exact ih_81 x_40 _ _ ls (by omega) (by omega) (by omega) ((rl_go (tp_38.mp dc_39) (by omega) (by omega)).trans hv2_81) (hP.sub [0, 1] rfl) (hD.sub [0, 1] (by decide) rfl) hS (lv_sub hl [0] rfl)
            exact loop81_31 (Int.toNat (200 - (w_v_from_8 : Int32).toInt) + 1) w_v_from_8 _ _ ls (by omega) hv0_8 (by omega) ((by rw [tke_let (by omega) (tp_10.mp dc_11), ← rl_step (tp_10.mp dc_11) (by omega)])) hP hD hS (lv_sub hl [0] rfl)
        · have dc_3 : w_v_from_8.toInt = v_size.toInt := jI_eq c_3 rfl rfl
          obtain ⟨hP9, hD9⟩ := va_pd (ws' := [((am 0), .inr (9, F9 am v_status v_now v_told v_merges v_taped v_size w_v_from_8 w_v_from_8 v_fault v_readFault v_traits v_length v_open v_leaks v_places v_models)), ((am 10), .inl (cA 3, 200, .inl f_tape))]) hP hD [0, 1] (by decide) rfl
          subst hQe
          have hpost : (0 ≤ w_v_from_8.toInt ∧ w_v_from_8.toInt ≤ 200) ∧ (0 ≤ w_v_from_8.toInt ∧ w_v_from_8.toInt ≤ 200) ∧ (v_to.toInt ≤ w_v_from_8.toInt ∧ w_v_from_8.toInt ≤ w_v_from_8.toInt ∧ w_v_from_8.toInt ≤ v_size.toInt ∧ (w_v_from_8.toInt < v_size.toInt → w_v_from_8.toInt < w_v_from_8.toInt)) ∧ (tokOK f_tape w_v_from_8 w_v_from_8 v_size) ∧ (w_v_from_8.toInt = sk (tpe f_tape v_size) v_to.toInt ∧ w_v_from_8.toInt = tke (tpe f_tape v_size) v_size.toInt (sk (tpe f_tape v_size) v_to.toInt)) := ⟨hv0_8, hv0_8, by omega, tok_rf (by omega), (by have s9 : sk (tpe f_tape v_size) v_to.toInt = w_v_from_8.toInt := (by rw [← hv2_8]; exact sk_end (by omega) (by omega)); rw [s9]; exact ⟨rfl, (tke_out (by omega)).symm⟩)⟩
          exact W.vret hx hb hr (fun t ht hW => ⟨⟨(w_v_from_8, w_v_from_8), rfl, hpost, by rw [ht]; exact hP9, hD9⟩, hS.F ht⟩) hS.2.2 dX9_next_65
      · have dc_2 : w_v_from_8.toInt < v_size.toInt := jI_nle c_2 rfl rfl
        refine lv_aload_n hx hb dX9_next_19 rfl (lv_at hl 0 rfl) ?_
        refine va_get (D := (dC, dI)) (ci := 9) (v := .ref (am 10)) (C := RX9) (T := TX9) (N := 51) hx hb hts hIX9 hown hK hP 0 rfl rfl 13 (by decide) (hts (.fieldLink RX9 38 "TraitHouseModel" "tape" "[B") (by decide +kernel)) (fun _ h9 => h9) rfl dX9_next_20 ?_
        refine lv_aload_n hx hb dX9_next_23 rfl (lv_at hl 0 rfl) ?_
        refine va_get (D := (dC, dI)) (ci := 9) (v := .int w_v_from_8) (C := RX9) (T := TX9) (N := 51) hx hb hts hIX9 hown hK hP 0 rfl rfl 16 (by decide) (hts (.fieldLink RX9 173 "TraitHouseModel" "from" "I") (by decide +kernel)) (fun _ h9 => h9) rfl dX9_next_24 ?_
        have h_41 : vp_in w_v_from_8 200 := (vp_in_iff.mpr ⟨by omega, by omega⟩)
        refine va_bald hx hb hK hP 1 3 rfl rfl h_41 dX9_next_27 ?_
        refine lv_topi (fun x_42 ex_42 => ?_)
        refine lv_bipush (v := 32) hx hb dX9_next_28 (by decide) ?_
        refine lv_icmp_ne (tgt := 46) hx hb dX9_next_30 (by decide) (fun c_43 => ?_) (fun c_43 => ?_)
        · have dc_43 : ¬ x_42.toInt = 32 := jI_ne c_43 rfl (by decide)
          refine lv_aload_n hx hb dX9_next_46 rfl (lv_at hl 0 rfl) ?_
          refine lv_aload_n hx hb dX9_next_47 rfl (lv_at hl 0 rfl) ?_
          refine va_get (D := (dC, dI)) (ci := 9) (v := .int w_v_from_8) (C := RX9) (T := TX9) (N := 51) hx hb hts hIX9 hown hK hP 0 rfl rfl 16 (by decide) (hts (.fieldLink RX9 173 "TraitHouseModel" "from" "I") (by decide +kernel)) (fun _ h9 => h9) rfl dX9_next_48 ?_
          refine va_put (D := (dC, dI)) (ci := 9) (v := .int w_v_from_8) (ty := .int) (C := RX9) (T := TX9) (N := 51) hx hb hts hIX9 tyX9 tyX9_ok nmX9 hown hK hP hD hS 0 rfl rfl 17 (by decide) (hts (.fieldLink RX9 170 "TraitHouseModel" "to" "I") (by decide +kernel)) (fun _ h9 => h9) rfl (by decide +kernel) rfl rfl (Nat.le_of_ble_eq_true rfl) dX9_next_51 (fun H locs hP hD hS => ?_)
          replace hP : va_P (dC, dI) vwCl [((am 0), .inr (9, F9 am v_status v_now v_told v_merges v_taped v_size w_v_from_8 w_v_from_8 v_fault v_readFault v_traits v_length v_open v_leaks v_places v_models)), ((am 10), .inl (cA 3, 200, .inl f_tape))] H := hP
          replace hD : va_D A [((am 0), .inr (9, F9 am v_status v_now v_told v_merges v_taped v_size w_v_from_8 w_v_from_8 v_fault v_readFault v_traits v_length v_open v_leaks v_places v_models)), ((am 10), .inl (cA 3, 200, .inl f_tape))] := hD
          refine lv_aload_n hx hb dX9_next_54 rfl (lv_at hl 0 rfl) ?_
          refine va_get (D := (dC, dI)) (ci := 9) (v := .int w_v_from_8) (C := RX9) (T := TX9) (N := 51) hx hb hts hIX9 hown hK hP 0 rfl rfl 16 (by decide) (hts (.fieldLink RX9 173 "TraitHouseModel" "from" "I") (by decide +kernel)) (fun _ h9 => h9) rfl dX9_next_55 ?_
          refine lv_aload_n hx hb dX9_next_58 rfl (lv_at hl 0 rfl) ?_
          refine va_get (D := (dC, dI)) (ci := 9) (v := .int v_size) (C := RX9) (T := TX9) (N := 51) hx hb hts hIX9 hown hK hP 0 rfl rfl 15 (by decide) (hts (.fieldLink RX9 167 "TraitHouseModel" "size" "I") (by decide +kernel)) (fun _ h9 => h9) rfl dX9_next_59 ?_
          refine lv_icmp_ne (tgt := 66) hx hb dX9_next_62 (by decide) (fun c_44 => ?_) (fun c_44 => ?_)
          · have dc_44 : ¬ w_v_from_8.toInt = v_size.toInt := jI_ne c_44 rfl rfl
            refine lv_aload_n hx hb dX9_next_66 rfl (lv_at hl 0 rfl) ?_
            refine lv_aload_n hx hb dX9_next_67 rfl (lv_at hl 0 rfl) ?_
            refine va_get (D := (dC, dI)) (ci := 9) (v := .int w_v_from_8) (C := RX9) (T := TX9) (N := 51) hx hb hts hIX9 hown hK hP 0 rfl rfl 16 (by decide) (hts (.fieldLink RX9 173 "TraitHouseModel" "from" "I") (by decide +kernel)) (fun _ h9 => h9) rfl dX9_next_68 ?_
            refine lv_bipush (v := 97) hx hb dX9_next_71 (by decide) ?_
            refine lv_bipush (v := 122) hx hb dX9_next_73 (by decide) ?_
            have hk_45 : (97 : Int32).toInt = 97 := by decide
            have hk_46 : (122 : Int32).toInt = 122 := by decide
            obtain ⟨hPc, hDc, hFc, hCc⟩ := va_pre (ws' := [((am 0), .inr (9, F9 am v_status v_now v_told v_merges v_taped v_size w_v_from_8 w_v_from_8 v_fault v_readFault v_traits v_length v_open v_leaks v_places v_models)), ((am 10), .inl (cA 3, 200, .inl f_tape))]) hP hD hS hA [0, 1] (by decide) rfl
            refine va_calli (va_runV (As := [.int w_v_from_8, .int 97, .int 122]) (rest := []) ⟨hx, hb, hml, hown, hts⟩ (k_X9_isIn l dC dI cA H.size am v_status v_now v_told v_merges v_taped v_size w_v_from_8 w_v_from_8 v_fault v_readFault v_traits v_length v_open v_leaks v_places v_models f_tape w_v_from_8 97 122 i_v_now i_v_told i_v_taped i_v_size hv0_8 hv0_8 i_v_traits i_v_length i_v_open i_v_places i_v_models hv0_8 (by omega)) (cwV 3 hts gX9_next_X9_isIn rfl rfl rfl (by decide +kernel) ⟨Nat.le_of_ble_eq_true rfl, Nat.le_of_ble_eq_true rfl⟩) ⟨fun a U g mk q => by obtain ⟨q0, q1, qP, qK, qD, qN⟩ := q; exact ⟨q0, q1, qP, va_K.moved (u := U) (U := U.calling g mk a) (Vm.Alike.refl U.vm) qK, qD, qN.same rfl⟩, va_recv hK hPc (ci := 9) (q0 := 0) rfl rfl, fun U hU hW => ⟨rfl, by rw [hU], by rw [hU]; exact hPc, va_K.moved hW.alike hK, hDc.weaken (fun _ _ _ _ => trivial), hN.warm hW⟩⟩ rfl rfl hl.1 rfl (lv_room (Nat.le_of_ble_eq_true rfl)) dX9_next_75 ⟨Nat.le_of_ble_eq_true rfl, Nat.le_of_ble_eq_true rfl⟩) hS (fun q _ h => hFc q h) hFc (fun r_47 u_48 t H1 locs ht hvm hw_49 hB hz1 hk1 hS => ?_)
            try dsimp only at hw_49 hB
            obtain ⟨po_50, tp_51⟩ := hw_49
            try simp only [hk_45, hk_46] at po_50 tp_51
            obtain ⟨hP1, hD1⟩ := hB
            rw [ht] at hP1
            obtain ⟨hP, hD⟩ := va_join (wr := []) (w1 := [((am 0), .inr (9, F9 am v_status v_now v_told v_merges v_taped v_size w_v_from_8 w_v_from_8 v_fault v_readFault v_traits v_length v_open v_leaks v_places v_models)), ((am 10), .inl (cA 3, 200, .inl f_tape))]) hP hD [0, 1] [] hCc rfl (by decide) (by decide) hk1 hFc hP1 hD1
            clear hz1
            generalize H1 = H at hP hS ⊢
            refine lv_if_eq (tgt := 109) hx hb dX9_next_78 (by decide) (fun c_52 => ?_) (fun c_52 => ?_)
            · have dc_52 : r_47.toInt = 0 := jI_eq c_52 rfl (by decide)
              replace po_50 := dg_n po_50 dc_52
              refine lv_aload_n hx hb dX9_next_109 rfl (lv_at hl 0 rfl) ?_
              refine lv_aload_n hx hb dX9_next_110 rfl (lv_at hl 0 rfl) ?_
              refine va_get (D := (dC, dI)) (ci := 9) (v := .int w_v_from_8) (C := RX9) (T := TX9) (N := 51) hx hb hts hIX9 hown hK hP 0 rfl rfl 16 (by decide) (hts (.fieldLink RX9 173 "TraitHouseModel" "from" "I") (by decide +kernel)) (fun _ h9 => h9) rfl dX9_next_111 ?_
              refine lv_bipush (v := 48) hx hb dX9_next_114 (by decide) ?_
              refine lv_bipush (v := 57) hx hb dX9_next_116 (by decide) ?_
              have hk_53 : (48 : Int32).toInt = 48 := by decide
              have hk_54 : (57 : Int32).toInt = 57 := by decide
              obtain ⟨hPc, hDc, hFc, hCc⟩ := va_pre (ws' := [((am 0), .inr (9, F9 am v_status v_now v_told v_merges v_taped v_size w_v_from_8 w_v_from_8 v_fault v_readFault v_traits v_length v_open v_leaks v_places v_models)), ((am 10), .inl (cA 3, 200, .inl f_tape))]) hP hD hS hA [0, 1] (by decide) rfl
              refine va_calli (va_runV (As := [.int w_v_from_8, .int 48, .int 57]) (rest := []) ⟨hx, hb, hml, hown, hts⟩ (k_X9_isIn l dC dI cA H.size am v_status v_now v_told v_merges v_taped v_size w_v_from_8 w_v_from_8 v_fault v_readFault v_traits v_length v_open v_leaks v_places v_models f_tape w_v_from_8 48 57 i_v_now i_v_told i_v_taped i_v_size hv0_8 hv0_8 i_v_traits i_v_length i_v_open i_v_places i_v_models hv0_8 (by omega)) (cwV 3 hts gX9_next_X9_isIn rfl rfl rfl (by decide +kernel) ⟨Nat.le_of_ble_eq_true rfl, Nat.le_of_ble_eq_true rfl⟩) ⟨fun a U g mk q => by obtain ⟨q0, q1, qP, qK, qD, qN⟩ := q; exact ⟨q0, q1, qP, va_K.moved (u := U) (U := U.calling g mk a) (Vm.Alike.refl U.vm) qK, qD, qN.same rfl⟩, va_recv hK hPc (ci := 9) (q0 := 0) rfl rfl, fun U hU hW => ⟨rfl, by rw [hU], by rw [hU]; exact hPc, va_K.moved hW.alike hK, hDc.weaken (fun _ _ _ _ => trivial), hN.warm hW⟩⟩ rfl rfl hl.1 rfl (lv_room (Nat.le_of_ble_eq_true rfl)) dX9_next_118 ⟨Nat.le_of_ble_eq_true rfl, Nat.le_of_ble_eq_true rfl⟩) hS (fun q _ h => hFc q h) hFc (fun r_55 u_56 t H1 locs ht hvm hw_57 hB hz1 hk1 hS => ?_)
              try dsimp only at hw_57 hB
              obtain ⟨po_58, tp_59⟩ := hw_57
              try simp only [hk_53, hk_54] at po_58 tp_59
              obtain ⟨hP1, hD1⟩ := hB
              rw [ht] at hP1
              obtain ⟨hP, hD⟩ := va_join (wr := []) (w1 := [((am 0), .inr (9, F9 am v_status v_now v_told v_merges v_taped v_size w_v_from_8 w_v_from_8 v_fault v_readFault v_traits v_length v_open v_leaks v_places v_models)), ((am 10), .inl (cA 3, 200, .inl f_tape))]) hP hD [0, 1] [] hCc rfl (by decide) (by decide) hk1 hFc hP1 hD1
              clear hz1
              generalize H1 = H at hP hS ⊢
              refine lv_if_eq (tgt := 152) hx hb dX9_next_121 (by decide) (fun c_60 => ?_) (fun c_60 => ?_)
              · have dc_60 : r_55.toInt = 0 := jI_eq c_60 rfl (by decide)
                replace po_58 := dg_n po_58 dc_60
                refine lv_aload_n hx hb dX9_next_152 rfl (lv_at hl 0 rfl) ?_
                refine lv_dup hx hb dX9_next_153 rfl ?_
                refine va_get (D := (dC, dI)) (ci := 9) (v := .int w_v_from_8) (C := RX9) (T := TX9) (N := 51) hx hb hts hIX9 hown hK hP 0 rfl rfl 17 (by decide) (hts (.fieldLink RX9 170 "TraitHouseModel" "to" "I") (by decide +kernel)) (fun _ h9 => h9) rfl dX9_next_154 ?_
                refine lv_iconst (v := 1) hx hb dX9_next_157 (by decide) ?_
                refine lv_iadd hx hb dX9_next_158 ?_
                refine lv_topi (fun x_61 ex_61 => ?_)
                have dx_61 : x_61.toInt = w_v_from_8.toInt + 1 := by rw [ex_61]; exact jI_add rfl (by decide) (by omega) (by omega)
                refine va_put (D := (dC, dI)) (ci := 9) (v := .int x_61) (ty := .int) (C := RX9) (T := TX9) (N := 51) hx hb hts hIX9 tyX9 tyX9_ok nmX9 hown hK hP hD hS 0 rfl rfl 17 (by decide) (hts (.fieldLink RX9 170 "TraitHouseModel" "to" "I") (by decide +kernel)) (fun _ h9 => h9) rfl (by decide +kernel) rfl rfl (Nat.le_of_ble_eq_true rfl) dX9_next_159 (fun H locs hP hD hS => ?_)
                replace hP : va_P (dC, dI) vwCl [((am 0), .inr (9, F9 am v_status v_now v_told v_merges v_taped v_size w_v_from_8 x_61 v_fault v_readFault v_traits v_length v_open v_leaks v_places v_models)), ((am 10), .inl (cA 3, 200, .inl f_tape))] H := hP
                replace hD : va_D A [((am 0), .inr (9, F9 am v_status v_now v_told v_merges v_taped v_size w_v_from_8 x_61 v_fault v_readFault v_traits v_length v_open v_leaks v_places v_models)), ((am 10), .inl (cA 3, 200, .inl f_tape))] := hD
                obtain ⟨hP9, hD9⟩ := va_pd (ws' := [((am 0), .inr (9, F9 am v_status v_now v_told v_merges v_taped v_size w_v_from_8 x_61 v_fault v_readFault v_traits v_length v_open v_leaks v_places v_models)), ((am 10), .inl (cA 3, 200, .inl f_tape))]) hP hD [0, 1] (by decide) rfl
                subst hQe
                have hpost : (0 ≤ w_v_from_8.toInt ∧ w_v_from_8.toInt ≤ 200) ∧ (0 ≤ x_61.toInt ∧ x_61.toInt ≤ 200) ∧ (v_to.toInt ≤ w_v_from_8.toInt ∧ w_v_from_8.toInt ≤ x_61.toInt ∧ x_61.toInt ≤ v_size.toInt ∧ (w_v_from_8.toInt < v_size.toInt → w_v_from_8.toInt < x_61.toInt)) ∧ (tokOK f_tape w_v_from_8 x_61 v_size) ∧ (w_v_from_8.toInt = sk (tpe f_tape v_size) v_to.toInt ∧ x_61.toInt = tke (tpe f_tape v_size) v_size.toInt (sk (tpe f_tape v_size) v_to.toInt)) := ⟨hv0_8, by omega, by omega, tok_one (by omega) (by omega), (by have s9 : sk (tpe f_tape v_size) v_to.toInt = w_v_from_8.toInt := (by rw [← hv2_8]; exact sk_end (by omega) (by have zx_42 := congrArg Int32.toInt ex_42; omega)); rw [s9]; exact ⟨rfl, (by rw [tke_one (by omega) (fun h => absurd (tp_51.mpr h) (fun q => q dc_52)) (fun h => absurd (tp_59.mpr h) (fun q => q dc_60))]; omega)⟩)⟩
                exact W.vret hx hb hr (fun t ht hW => ⟨⟨(w_v_from_8, x_61), rfl, hpost, by rw [ht]; exact hP9, hD9⟩, hS.F ht⟩) hS.2.2 dX9_next_162
              · have dc_60 : ¬ r_55.toInt = 0 := jI_ne c_60 rfl (by decide)
                have loop124_62 : ∀ (n : Nat) (w_v_to_124 : Int32) (H : Heap) (locs : List Loc) (ls : Array Slot), 200 - w_v_to_124.toInt < (n : Int) → (0 ≤ w_v_to_124.toInt ∧ w_v_to_124.toInt ≤ 200) → (w_v_from_8.toInt ≤ w_v_to_124.toInt ∧ w_v_to_124.toInt ≤ v_size.toInt) → (∀ k : Nat, w_v_from_8.toInt ≤ k → (k : Int) < w_v_to_124.toInt → dig (f_tape k)) → (rl (tpe f_tape v_size) 48 57 w_v_to_124.toInt = tke (tpe f_tape v_size) v_size.toInt w_v_from_8.toInt) → va_P (dC, dI) vwCl [((am 0), .inr (9, F9 am v_status v_now v_told v_merges v_taped v_size w_v_from_8 w_v_to_124 v_fault v_readFault v_traits v_length v_open v_leaks v_places v_models)), ((am 10), .inl (cA 3, 200, .inl f_tape))] H → va_D A [((am 0), .inr (9, F9 am v_status v_now v_told v_merges v_taped v_size w_v_from_8 w_v_to_124 v_fault v_readFault v_traits v_length v_open v_leaks v_places v_models)), ((am 10), .inl (cA 3, 200, .inl f_tape))] → va_S A s.heap H locs → lv_has ls 1 [(0, .ref (am 0))] → W p l e ({ frames := 1, cells := 0, slots := 0, locals := 23 }) s m ([.ref (am 0)] : List Value).toArray below meth c H locs 0 0 QQ (F0 m 124 ls []) := by
                  intro n
                  induction n with
                  | zero => intro w_v_to_124 H locs ls hme hv0_124 hv1_124 hv2_124 hv3_124; exfalso; omega
                  | succ n ih_124 =>
                    intro w_v_to_124 H locs ls hme_124 hv0_124 hv1_124 hv2_124 hv3_124 hP hD hS hl
                    refine lv_aload_n hx hb dX9_next_124 rfl (lv_at hl 0 rfl) ?_
                    refine lv_aload_n hx hb dX9_next_125 rfl (lv_at hl 0 rfl) ?_
                    refine va_get (D := (dC, dI)) (ci := 9) (v := .int w_v_to_124) (C := RX9) (T := TX9) (N := 51) hx hb hts hIX9 hown hK hP 0 rfl rfl 17 (by decide) (hts (.fieldLink RX9 170 "TraitHouseModel" "to" "I") (by decide +kernel)) (fun _ h9 => h9) rfl dX9_next_126 ?_
                    refine lv_bipush (v := 48) hx hb dX9_next_129 (by decide) ?_
                    refine lv_bipush (v := 57) hx hb dX9_next_131 (by decide) ?_
                    have hk_63 : (48 : Int32).toInt = 48 := by decide
                    have hk_64 : (57 : Int32).toInt = 57 := by decide
                    obtain ⟨hPc, hDc, hFc, hCc⟩ := va_pre (ws' := [((am 0), .inr (9, F9 am v_status v_now v_told v_merges v_taped v_size w_v_from_8 w_v_to_124 v_fault v_readFault v_traits v_length v_open v_leaks v_places v_models)), ((am 10), .inl (cA 3, 200, .inl f_tape))]) hP hD hS hA [0, 1] (by decide) rfl
                    refine va_calli (va_runV (As := [.int w_v_to_124, .int 48, .int 57]) (rest := []) ⟨hx, hb, hml, hown, hts⟩ (k_X9_isIn l dC dI cA H.size am v_status v_now v_told v_merges v_taped v_size w_v_from_8 w_v_to_124 v_fault v_readFault v_traits v_length v_open v_leaks v_places v_models f_tape w_v_to_124 48 57 i_v_now i_v_told i_v_taped i_v_size hv0_8 hv0_124 i_v_traits i_v_length i_v_open i_v_places i_v_models hv0_124 (by omega)) (cwV 3 hts gX9_next_X9_isIn rfl rfl rfl (by decide +kernel) ⟨Nat.le_of_ble_eq_true rfl, Nat.le_of_ble_eq_true rfl⟩) ⟨fun a U g mk q => by obtain ⟨q0, q1, qP, qK, qD, qN⟩ := q; exact ⟨q0, q1, qP, va_K.moved (u := U) (U := U.calling g mk a) (Vm.Alike.refl U.vm) qK, qD, qN.same rfl⟩, va_recv hK hPc (ci := 9) (q0 := 0) rfl rfl, fun U hU hW => ⟨rfl, by rw [hU], by rw [hU]; exact hPc, va_K.moved hW.alike hK, hDc.weaken (fun _ _ _ _ => trivial), hN.warm hW⟩⟩ rfl rfl hl.1 rfl (lv_room (Nat.le_of_ble_eq_true rfl)) dX9_next_133 ⟨Nat.le_of_ble_eq_true rfl, Nat.le_of_ble_eq_true rfl⟩) hS (fun q _ h => hFc q h) hFc (fun r_65 u_66 t H1 locs ht hvm hw_67 hB hz1 hk1 hS => ?_)
                    try dsimp only at hw_67 hB
                    obtain ⟨po_68, tp_69⟩ := hw_67
                    try simp only [hk_63, hk_64] at po_68 tp_69
                    obtain ⟨hP1, hD1⟩ := hB
                    rw [ht] at hP1
                    obtain ⟨hP, hD⟩ := va_join (wr := []) (w1 := [((am 0), .inr (9, F9 am v_status v_now v_told v_merges v_taped v_size w_v_from_8 w_v_to_124 v_fault v_readFault v_traits v_length v_open v_leaks v_places v_models)), ((am 10), .inl (cA 3, 200, .inl f_tape))]) hP hD [0, 1] [] hCc rfl (by decide) (by decide) hk1 hFc hP1 hD1
                    clear hz1
                    generalize H1 = H at hP hS ⊢
                    refine lv_if_eq (tgt := 162) hx hb dX9_next_136 (by decide) (fun c_70 => ?_) (fun c_70 => ?_)
                    · have dc_70 : r_65.toInt = 0 := jI_eq c_70 rfl (by decide)
                      obtain ⟨hP9, hD9⟩ := va_pd (ws' := [((am 0), .inr (9, F9 am v_status v_now v_told v_merges v_taped v_size w_v_from_8 w_v_to_124 v_fault v_readFault v_traits v_length v_open v_leaks v_places v_models)), ((am 10), .inl (cA 3, 200, .inl f_tape))]) hP hD [0, 1] (by decide) rfl
                      subst hQe
                      have hpost : (0 ≤ w_v_from_8.toInt ∧ w_v_from_8.toInt ≤ 200) ∧ (0 ≤ w_v_to_124.toInt ∧ w_v_to_124.toInt ≤ 200) ∧ (v_to.toInt ≤ w_v_from_8.toInt ∧ w_v_from_8.toInt ≤ w_v_to_124.toInt ∧ w_v_to_124.toInt ≤ v_size.toInt ∧ (w_v_from_8.toInt < v_size.toInt → w_v_from_8.toInt < w_v_to_124.toInt)) ∧ (tokOK f_tape w_v_from_8 w_v_to_124 v_size) ∧ (w_v_from_8.toInt = sk (tpe f_tape v_size) v_to.toInt ∧ w_v_to_124.toInt = tke (tpe f_tape v_size) v_size.toInt (sk (tpe f_tape v_size) v_to.toInt)) := ⟨hv0_8, hv0_124, by have hne9 : w_v_from_8.toInt < w_v_to_124.toInt := tok_ne (f := f_tape) (size := v_size) (by omega) (po_58.2.1 (by omega)).1 (po_58.2.1 (by omega)).2 (po_68.2.2 (by omega)); omega, tok_all hv2_124, (by have s9 : sk (tpe f_tape v_size) v_to.toInt = w_v_from_8.toInt := (by rw [← hv2_8]; exact sk_end (by omega) (by have zx_42 := congrArg Int32.toInt ex_42; omega)); rw [s9]; exact ⟨rfl, (by rw [← hv3_124]; exact (rl_done (fun h => absurd (tp_69.mpr h) (fun q => q dc_70))).symm)⟩)⟩
                      exact W.vret hx hb hr (fun t ht hW => ⟨⟨(w_v_from_8, w_v_to_124), rfl, hpost, by rw [ht]; exact hP9, hD9⟩, hS.F ht⟩) hS.2.2 dX9_next_162
                    · have dc_70 : ¬ r_65.toInt = 0 := jI_ne c_70 rfl (by decide)
                      refine lv_aload_n hx hb dX9_next_139 rfl (lv_at hl 0 rfl) ?_
                      refine lv_dup hx hb dX9_next_140 rfl ?_
                      refine va_get (D := (dC, dI)) (ci := 9) (v := .int w_v_to_124) (C := RX9) (T := TX9) (N := 51) hx hb hts hIX9 hown hK hP 0 rfl rfl 17 (by decide) (hts (.fieldLink RX9 170 "TraitHouseModel" "to" "I") (by decide +kernel)) (fun _ h9 => h9) rfl dX9_next_141 ?_
                      refine lv_iconst (v := 1) hx hb dX9_next_144 (by decide) ?_
                      refine lv_iadd hx hb dX9_next_145 ?_
                      refine lv_topi (fun x_71 ex_71 => ?_)
                      have dx_71 : x_71.toInt = w_v_to_124.toInt + 1 := by rw [ex_71]; exact jI_add rfl (by decide) (by omega) (by omega)
                      refine va_put (D := (dC, dI)) (ci := 9) (v := .int x_71) (ty := .int) (C := RX9) (T := TX9) (N := 51) hx hb hts hIX9 tyX9 tyX9_ok nmX9 hown hK hP hD hS 0 rfl rfl 17 (by decide) (hts (.fieldLink RX9 170 "TraitHouseModel" "to" "I") (by decide +kernel)) (fun _ h9 => h9) rfl (by decide +kernel) rfl rfl (Nat.le_of_ble_eq_true rfl) dX9_next_146 (fun H locs hP hD hS => ?_)
                      replace hP : va_P (dC, dI) vwCl [((am 0), .inr (9, F9 am v_status v_now v_told v_merges v_taped v_size w_v_from_8 x_71 v_fault v_readFault v_traits v_length v_open v_leaks v_places v_models)), ((am 10), .inl (cA 3, 200, .inl f_tape))] H := hP
                      replace hD : va_D A [((am 0), .inr (9, F9 am v_status v_now v_told v_merges v_taped v_size w_v_from_8 x_71 v_fault v_readFault v_traits v_length v_open v_leaks v_places v_models)), ((am 10), .inl (cA 3, 200, .inl f_tape))] := hD
                      refine lv_goto (tgt := 124) hx hb dX9_next_149 (by decide) ?_
                      exact ih_124 x_71 _ _ ls (by omega) (by omega) (by omega) (tok_ext (x := 0) hv2_124 ⟨by have := po_68; have hk1 : (48 : Int32).toInt = 48 := rfl; omega, by have := po_68; have hk2 : (57 : Int32).toInt = 57 := rfl; omega⟩ (by omega) (by omega)) ((rl_go (tp_69.mp dc_70) (by omega) (by omega)).trans hv3_124) (hP.sub [0, 1] rfl) (hD.sub [0, 1] (by decide) rfl) hS (lv_sub hl [0] rfl)
                exact loop124_62 (Int.toNat (200 - (w_v_from_8 : Int32).toInt) + 1) w_v_from_8 _ _ ls (by omega) hv0_8 (by omega) (fun k h1 h2 => by omega) ((by rw [tke_dig (by omega) (tp_59.mp dc_60), ← rl_step (tp_59.mp dc_60) (by omega)])) hP hD hS (lv_sub hl [0] rfl)
            · have dc_52 : ¬ r_47.toInt = 0 := jI_ne c_52 rfl (by decide)
              have loop81_72 : ∀ (n : Nat) (w_v_to_81 : Int32) (H : Heap) (locs : List Loc) (ls : Array Slot), 200 - w_v_to_81.toInt < (n : Int) → (0 ≤ w_v_to_81.toInt ∧ w_v_to_81.toInt ≤ 200) → (w_v_from_8.toInt ≤ w_v_to_81.toInt ∧ w_v_to_81.toInt ≤ v_size.toInt) → (rl (tpe f_tape v_size) 97 122 w_v_to_81.toInt = tke (tpe f_tape v_size) v_size.toInt w_v_from_8.toInt) → va_P (dC, dI) vwCl [((am 0), .inr (9, F9 am v_status v_now v_told v_merges v_taped v_size w_v_from_8 w_v_to_81 v_fault v_readFault v_traits v_length v_open v_leaks v_places v_models)), ((am 10), .inl (cA 3, 200, .inl f_tape))] H → va_D A [((am 0), .inr (9, F9 am v_status v_now v_told v_merges v_taped v_size w_v_from_8 w_v_to_81 v_fault v_readFault v_traits v_length v_open v_leaks v_places v_models)), ((am 10), .inl (cA 3, 200, .inl f_tape))] → va_S A s.heap H locs → lv_has ls 1 [(0, .ref (am 0))] → W p l e ({ frames := 1, cells := 0, slots := 0, locals := 23 }) s m ([.ref (am 0)] : List Value).toArray below meth c H locs 0 0 QQ (F0 m 81 ls []) := by
                intro n
                induction n with
                | zero => intro w_v_to_81 H locs ls hme hv0_81 hv1_81 hv2_81; exfalso; omega
                | succ n ih_81 =>
                  intro w_v_to_81 H locs ls hme_81 hv0_81 hv1_81 hv2_81 hP hD hS hl
                  refine lv_aload_n hx hb dX9_next_81 rfl (lv_at hl 0 rfl) ?_
                  refine lv_aload_n hx hb dX9_next_82 rfl (lv_at hl 0 rfl) ?_
                  refine va_get (D := (dC, dI)) (ci := 9) (v := .int w_v_to_81) (C := RX9) (T := TX9) (N := 51) hx hb hts hIX9 hown hK hP 0 rfl rfl 17 (by decide) (hts (.fieldLink RX9 170 "TraitHouseModel" "to" "I") (by decide +kernel)) (fun _ h9 => h9) rfl dX9_next_83 ?_
                  refine lv_bipush (v := 97) hx hb dX9_next_86 (by decide) ?_
                  refine lv_bipush (v := 122) hx hb dX9_next_88 (by decide) ?_
                  have hk_73 : (97 : Int32).toInt = 97 := by decide
                  have hk_74 : (122 : Int32).toInt = 122 := by decide
                  obtain ⟨hPc, hDc, hFc, hCc⟩ := va_pre (ws' := [((am 0), .inr (9, F9 am v_status v_now v_told v_merges v_taped v_size w_v_from_8 w_v_to_81 v_fault v_readFault v_traits v_length v_open v_leaks v_places v_models)), ((am 10), .inl (cA 3, 200, .inl f_tape))]) hP hD hS hA [0, 1] (by decide) rfl
                  refine va_calli (va_runV (As := [.int w_v_to_81, .int 97, .int 122]) (rest := []) ⟨hx, hb, hml, hown, hts⟩ (k_X9_isIn l dC dI cA H.size am v_status v_now v_told v_merges v_taped v_size w_v_from_8 w_v_to_81 v_fault v_readFault v_traits v_length v_open v_leaks v_places v_models f_tape w_v_to_81 97 122 i_v_now i_v_told i_v_taped i_v_size hv0_8 hv0_81 i_v_traits i_v_length i_v_open i_v_places i_v_models hv0_81 (by omega)) (cwV 3 hts gX9_next_X9_isIn rfl rfl rfl (by decide +kernel) ⟨Nat.le_of_ble_eq_true rfl, Nat.le_of_ble_eq_true rfl⟩) ⟨fun a U g mk q => by obtain ⟨q0, q1, qP, qK, qD, qN⟩ := q; exact ⟨q0, q1, qP, va_K.moved (u := U) (U := U.calling g mk a) (Vm.Alike.refl U.vm) qK, qD, qN.same rfl⟩, va_recv hK hPc (ci := 9) (q0 := 0) rfl rfl, fun U hU hW => ⟨rfl, by rw [hU], by rw [hU]; exact hPc, va_K.moved hW.alike hK, hDc.weaken (fun _ _ _ _ => trivial), hN.warm hW⟩⟩ rfl rfl hl.1 rfl (lv_room (Nat.le_of_ble_eq_true rfl)) dX9_next_90 ⟨Nat.le_of_ble_eq_true rfl, Nat.le_of_ble_eq_true rfl⟩) hS (fun q _ h => hFc q h) hFc (fun r_75 u_76 t H1 locs ht hvm hw_77 hB hz1 hk1 hS => ?_)
                  try dsimp only at hw_77 hB
                  obtain ⟨po_78, tp_79⟩ := hw_77
                  try simp only [hk_73, hk_74] at po_78 tp_79
                  obtain ⟨hP1, hD1⟩ := hB
                  rw [ht] at hP1
                  obtain ⟨hP, hD⟩ := va_join (wr := []) (w1 := [((am 0), .inr (9, F9 am v_status v_now v_told v_merges v_taped v_size w_v_from_8 w_v_to_81 v_fault v_readFault v_traits v_length v_open v_leaks v_places v_models)), ((am 10), .inl (cA 3, 200, .inl f_tape))]) hP hD [0, 1] [] hCc rfl (by decide) (by decide) hk1 hFc hP1 hD1
                  clear hz1
                  generalize H1 = H at hP hS ⊢
                  refine lv_if_eq (tgt := 162) hx hb dX9_next_93 (by decide) (fun c_80 => ?_) (fun c_80 => ?_)
                  · have dc_80 : r_75.toInt = 0 := jI_eq c_80 rfl (by decide)
                    obtain ⟨hP9, hD9⟩ := va_pd (ws' := [((am 0), .inr (9, F9 am v_status v_now v_told v_merges v_taped v_size w_v_from_8 w_v_to_81 v_fault v_readFault v_traits v_length v_open v_leaks v_places v_models)), ((am 10), .inl (cA 3, 200, .inl f_tape))]) hP hD [0, 1] (by decide) rfl
                    subst hQe
                    have hpost : (0 ≤ w_v_from_8.toInt ∧ w_v_from_8.toInt ≤ 200) ∧ (0 ≤ w_v_to_81.toInt ∧ w_v_to_81.toInt ≤ 200) ∧ (v_to.toInt ≤ w_v_from_8.toInt ∧ w_v_from_8.toInt ≤ w_v_to_81.toInt ∧ w_v_to_81.toInt ≤ v_size.toInt ∧ (w_v_from_8.toInt < v_size.toInt → w_v_from_8.toInt < w_v_to_81.toInt)) ∧ (tokOK f_tape w_v_from_8 w_v_to_81 v_size) ∧ (w_v_from_8.toInt = sk (tpe f_tape v_size) v_to.toInt ∧ w_v_to_81.toInt = tke (tpe f_tape v_size) v_size.toInt (sk (tpe f_tape v_size) v_to.toInt)) := ⟨hv0_8, hv0_81, by have hne9 : w_v_from_8.toInt < w_v_to_81.toInt := tok_ne (f := f_tape) (size := v_size) (by omega) (po_50.2.1 (by omega)).1 (po_50.2.1 (by omega)).2 (po_78.2.2 (by omega)); omega, tok_no (fun _ hd => by have h9 := po_50; have hd1 := hd.1; have hd2 := hd.2; omega), (by have s9 : sk (tpe f_tape v_size) v_to.toInt = w_v_from_8.toInt := (by rw [← hv2_8]; exact sk_end (by omega) (by have zx_42 := congrArg Int32.toInt ex_42; omega)); rw [s9]; exact ⟨rfl, (by rw [← hv2_81]; exact (rl_done (fun h => absurd (tp_79.mpr h) (fun q => q dc_80))).symm)⟩)⟩
                    exact W.vret hx hb hr (fun t ht hW => ⟨⟨(w_v_from_8, w_v_to_81), rfl, hpost, by rw [ht]; exact hP9, hD9⟩, hS.F ht⟩) hS.2.2 dX9_next_162
                  · have dc_80 : ¬ r_75.toInt = 0 := jI_ne c_80 rfl (by decide)
                    replace po_78 := dg_y po_78 dc_80
                    refine lv_aload_n hx hb dX9_next_96 rfl (lv_at hl 0 rfl) ?_
                    refine lv_dup hx hb dX9_next_97 rfl ?_
                    refine va_get (D := (dC, dI)) (ci := 9) (v := .int w_v_to_81) (C := RX9) (T := TX9) (N := 51) hx hb hts hIX9 hown hK hP 0 rfl rfl 17 (by decide) (hts (.fieldLink RX9 170 "TraitHouseModel" "to" "I") (by decide +kernel)) (fun _ h9 => h9) rfl dX9_next_98 ?_
                    refine lv_iconst (v := 1) hx hb dX9_next_101 (by decide) ?_
                    refine lv_iadd hx hb dX9_next_102 ?_
                    refine lv_topi (fun x_81 ex_81 => ?_)
                    have dx_81 : x_81.toInt = w_v_to_81.toInt + 1 := by rw [ex_81]; exact jI_add rfl (by decide) (by omega) (by omega)
                    refine va_put (D := (dC, dI)) (ci := 9) (v := .int x_81) (ty := .int) (C := RX9) (T := TX9) (N := 51) hx hb hts hIX9 tyX9 tyX9_ok nmX9 hown hK hP hD hS 0 rfl rfl 17 (by decide) (hts (.fieldLink RX9 170 "TraitHouseModel" "to" "I") (by decide +kernel)) (fun _ h9 => h9) rfl (by decide +kernel) rfl rfl (Nat.le_of_ble_eq_true rfl) dX9_next_103 (fun H locs hP hD hS => ?_)
                    replace hP : va_P (dC, dI) vwCl [((am 0), .inr (9, F9 am v_status v_now v_told v_merges v_taped v_size w_v_from_8 x_81 v_fault v_readFault v_traits v_length v_open v_leaks v_places v_models)), ((am 10), .inl (cA 3, 200, .inl f_tape))] H := hP
                    replace hD : va_D A [((am 0), .inr (9, F9 am v_status v_now v_told v_merges v_taped v_size w_v_from_8 x_81 v_fault v_readFault v_traits v_length v_open v_leaks v_places v_models)), ((am 10), .inl (cA 3, 200, .inl f_tape))] := hD
                    refine lv_goto (tgt := 81) hx hb dX9_next_106 (by decide) ?_
                    exact ih_81 x_81 _ _ ls (by omega) (by omega) (by omega) ((rl_go (tp_79.mp dc_80) (by omega) (by omega)).trans hv2_81) (hP.sub [0, 1] rfl) (hD.sub [0, 1] (by decide) rfl) hS (lv_sub hl [0] rfl)
              exact loop81_72 (Int.toNat (200 - (w_v_from_8 : Int32).toInt) + 1) w_v_from_8 _ _ ls (by omega) hv0_8 (by omega) ((by rw [tke_let (by omega) (tp_51.mp dc_52), ← rl_step (tp_51.mp dc_52) (by omega)])) hP hD hS (lv_sub hl [0] rfl)
          · have dc_44 : w_v_from_8.toInt = v_size.toInt := jI_eq c_44 rfl rfl
            obtain ⟨hP9, hD9⟩ := va_pd (ws' := [((am 0), .inr (9, F9 am v_status v_now v_told v_merges v_taped v_size w_v_from_8 w_v_from_8 v_fault v_readFault v_traits v_length v_open v_leaks v_places v_models)), ((am 10), .inl (cA 3, 200, .inl f_tape))]) hP hD [0, 1] (by decide) rfl
            subst hQe
            have hpost : (0 ≤ w_v_from_8.toInt ∧ w_v_from_8.toInt ≤ 200) ∧ (0 ≤ w_v_from_8.toInt ∧ w_v_from_8.toInt ≤ 200) ∧ (v_to.toInt ≤ w_v_from_8.toInt ∧ w_v_from_8.toInt ≤ w_v_from_8.toInt ∧ w_v_from_8.toInt ≤ v_size.toInt ∧ (w_v_from_8.toInt < v_size.toInt → w_v_from_8.toInt < w_v_from_8.toInt)) ∧ (tokOK f_tape w_v_from_8 w_v_from_8 v_size) ∧ (w_v_from_8.toInt = sk (tpe f_tape v_size) v_to.toInt ∧ w_v_from_8.toInt = tke (tpe f_tape v_size) v_size.toInt (sk (tpe f_tape v_size) v_to.toInt)) := ⟨hv0_8, hv0_8, by omega, tok_rf (by omega), (by have s9 : sk (tpe f_tape v_size) v_to.toInt = w_v_from_8.toInt := (by rw [← hv2_8]; exact sk_end (by omega) (by have zx_42 := congrArg Int32.toInt ex_42; omega)); rw [s9]; exact ⟨rfl, (tke_out (by omega)).symm⟩)⟩
            exact W.vret hx hb hr (fun t ht hW => ⟨⟨(w_v_from_8, w_v_from_8), rfl, hpost, by rw [ht]; exact hP9, hD9⟩, hS.F ht⟩) hS.2.2 dX9_next_65
        · have dc_43 : x_42.toInt = 32 := jI_eq c_43 rfl (by decide)
          refine lv_aload_n hx hb dX9_next_33 rfl (lv_at hl 0 rfl) ?_
          refine lv_dup hx hb dX9_next_34 rfl ?_
          refine va_get (D := (dC, dI)) (ci := 9) (v := .int w_v_from_8) (C := RX9) (T := TX9) (N := 51) hx hb hts hIX9 hown hK hP 0 rfl rfl 16 (by decide) (hts (.fieldLink RX9 173 "TraitHouseModel" "from" "I") (by decide +kernel)) (fun _ h9 => h9) rfl dX9_next_35 ?_
          refine lv_iconst (v := 1) hx hb dX9_next_38 (by decide) ?_
          refine lv_iadd hx hb dX9_next_39 ?_
          refine lv_topi (fun x_82 ex_82 => ?_)
          have dx_82 : x_82.toInt = w_v_from_8.toInt + 1 := by rw [ex_82]; exact jI_add rfl (by decide) (by omega) (by omega)
          refine va_put (D := (dC, dI)) (ci := 9) (v := .int x_82) (ty := .int) (C := RX9) (T := TX9) (N := 51) hx hb hts hIX9 tyX9 tyX9_ok nmX9 hown hK hP hD hS 0 rfl rfl 16 (by decide) (hts (.fieldLink RX9 173 "TraitHouseModel" "from" "I") (by decide +kernel)) (fun _ h9 => h9) rfl (by decide +kernel) rfl rfl (Nat.le_of_ble_eq_true rfl) dX9_next_40 (fun H locs hP hD hS => ?_)
          replace hP : va_P (dC, dI) vwCl [((am 0), .inr (9, F9 am v_status v_now v_told v_merges v_taped v_size x_82 v_to v_fault v_readFault v_traits v_length v_open v_leaks v_places v_models)), ((am 10), .inl (cA 3, 200, .inl f_tape))] H := hP
          replace hD : va_D A [((am 0), .inr (9, F9 am v_status v_now v_told v_merges v_taped v_size x_82 v_to v_fault v_readFault v_traits v_length v_open v_leaks v_places v_models)), ((am 10), .inl (cA 3, 200, .inl f_tape))] := hD
          refine lv_goto (tgt := 8) hx hb dX9_next_43 (by decide) ?_
          exact ih_8 x_82 _ _ ls (by omega) (by omega) (by omega) ((sk_go (by omega) (by omega) (by have z9 := congrArg Int32.toInt ex_42; omega) (by omega) (by omega)).trans hv2_8) (hP.sub [0, 1] rfl) (hD.sub [0, 1] (by decide) rfl) hS (lv_sub hl [0] rfl)
  exact loop8_1 (Int.toNat (200 - (v_to : Int32).toInt) + 1) v_to _ _ ls (by omega) i_v_to (by omega) (rfl) hP hD hS (lv_sub hl [0] rfl)

set_option maxHeartbeats 8000000 in
set_option maxRecDepth 100000 in
theorem k_X9_isWord (l : Launch) (dC : Nat → ClassId) (dI : Nat → Nat → Nat) (cA : Nat → ClassId) (sz : Nat) (am : Nat → Nat) (v_status : Int32) (v_now : Int32) (v_told : Int32) (v_merges : Int32) (v_taped : Int32) (v_size : Int32) (v_from : Int32) (v_to : Int32) (v_fault : Int32) (v_readFault : Int32) (v_traits : Int32) (v_length : Int32) (v_open : Int32) (v_leaks : Int32) (v_places : Int32) (v_models : Int32) (f_tape : Nat → Int32) (wo : Int64) (i_v_now : 0 ≤ v_now.toInt ∧ v_now.toInt ≤ 100000) (i_v_told : 0 ≤ v_told.toInt ∧ v_told.toInt ≤ 400) (i_v_taped : 0 ≤ v_taped.toInt ∧ v_taped.toInt ≤ 200) (i_v_size : 0 ≤ v_size.toInt ∧ v_size.toInt ≤ 200) (i_v_from : 0 ≤ v_from.toInt ∧ v_from.toInt ≤ 200) (i_v_to : 0 ≤ v_to.toInt ∧ v_to.toInt ≤ 200) (i_v_traits : 0 ≤ v_traits.toInt ∧ v_traits.toInt ≤ 20) (i_v_length : 0 ≤ v_length.toInt ∧ v_length.toInt ≤ 200) (i_v_open : 0 ≤ v_open.toInt ∧ v_open.toInt ≤ 8) (i_v_places : 0 ≤ v_places.toInt ∧ v_places.toInt ≤ 2000) (i_v_models : 0 ≤ v_models.toInt ∧ v_models.toInt ≤ 10) (hwo : 0 < wo.toInt) (hft : v_from.toInt ≤ v_to.toInt) (hto : v_to.toInt ≤ v_size.toInt) : Met l yX9_isWord wsX9_isWord ({ frames := 0, cells := 0, slots := 0, locals := 0 }) (va_Pc [.ref (am 0), .long wo] (fun U => U.heap.size = sz ∧ va_P (dC, dI) vwCl [((am 0), .inr (9, F9 am v_status v_now v_told v_merges v_taped v_size v_from v_to v_fault v_readFault v_traits v_length v_open v_leaks v_places v_models)), ((am 10), .inl (cA 3, 200, .inl f_tape))] U.heap ∧ va_K (dC, dI) vwCl (tyL cA) U ∧ va_D (fun _ => True) [((am 0), .inr (9, F9 am v_status v_now v_told v_merges v_taped v_size v_from v_to v_fault v_readFault v_traits v_length v_open v_leaks v_places v_models)), ((am 10), .inl (cA 3, 200, .inl f_tape))] ∧ nw_ok U)) (va_Qi (fun (r : Int32) (_ : Unit) => ((0 ≤ r.toInt ∧ r.toInt ≤ 1) ∧ (¬ r.toInt = 0 → v_from.toInt < v_to.toInt)) ∧ (ITW r (twd (tpe f_tape v_size) 13 wo.toInt v_from.toInt v_to.toInt))) (fun (_ : Unit) (t : State) => va_P (dC, dI) vwCl [((am 0), .inr (9, F9 am v_status v_now v_told v_merges v_taped v_size v_from v_to v_fault v_readFault v_traits v_length v_open v_leaks v_places v_models)), ((am 10), .inl (cA 3, 200, .inl f_tape))] t.heap ∧ va_D (va_A [((am 0), .inr (9, F9 am v_status v_now v_told v_merges v_taped v_size v_from v_to v_fault v_readFault v_traits v_length v_open v_leaks v_places v_models)), ((am 10), .inl (cA 3, 200, .inl f_tape))] sz) [((am 0), .inr (9, F9 am v_status v_now v_told v_merges v_taped v_size v_from v_to v_fault v_readFault v_traits v_length v_open v_leaks v_places v_models)), ((am 10), .inl (cA 3, 200, .inl f_tape))]) (va_A [((am 0), .inr (9, F9 am v_status v_now v_told v_merges v_taped v_size v_from v_to v_fault v_readFault v_traits v_length v_open v_leaks v_places v_models)), ((am 10), .inl (cA 3, 200, .inl f_tape))] sz)) 0 0 (va_A [((am 0), .inr (9, F9 am v_status v_now v_told v_merges v_taped v_size v_from v_to v_fault v_readFault v_traits v_length v_open v_leaks v_places v_models)), ((am 10), .inl (cA 3, 200, .inl f_tape))] sz) := by
  refine Met.ofW (cc := cX9_isWord) (maxL := 6) (ret := (some .boolean)) (by decide) rfl ?_
  intro p e s m args below meth c s₁ B hml hv
  obtain ⟨rfl, hsz, hP, hK, hD0, hN⟩ := hv
  have hx := B.exec
  have hb := B.bytes
  have hr := B.returns
  have hts := atoms_spec (ws := wsX9_isWord) B.pre
  have hown : s.vm.findClass RX9 = some m.cls := findClass_of_methodNamed B.named
  have hlocks := B.notSynchronized
  subst hsz
  have hD := hD0.self (sz := s.heap.size)
  generalize hAe : va_A [((am 0), .inr (9, F9 am v_status v_now v_told v_merges v_taped v_size v_from v_to v_fault v_readFault v_traits v_length v_open v_leaks v_places v_models)), ((am 10), .inl (cA 3, 200, .inl f_tape))] s.heap.size = A at hD ⊢
  have hA : ∀ q : Nat, s.heap.size ≤ q → A q := fun q h => by rw [← hAe]; exact Or.inr h
  have hS : va_S A s.heap s.heap [] := va_S.rf
  have hIX9 : ∀ w ∈ u_ws RX9 TX9 51, w ∈ wsX9_isWord := by decide +kernel
  have hl := lv_entry ([.ref (am 0), .long wo]) (n := 6) (Nat.le_of_ble_eq_true rfl)
  rw [lg_entry_eq]
  generalize (lg_sl ([.ref (am 0), .long wo]) ++ List.replicate (6 - (lg_sl ([.ref (am 0), .long wo])).length) Slot.unset).toArray = ls at hl ⊢
  have hl : lv_has ls 6 [(0, .ref (am 0)), (1, .long wo)] := hl
  generalize hQe : MQ below _ _ _ _ _ _ = QQ
  refine lv_lload_n hx hb dX9_isWord_0 rfl (lv_at hl 1 rfl) ?_
  refine lv_lstore_n (lv' := [(3, .long wo), (0, .ref (am 0)), (1, .long wo)]) hx hb dX9_isWord_1 rfl hl (by decide) rfl (fun ls hl => ?_)
  refine lv_aload_n hx hb dX9_isWord_2 rfl (lv_at hl 1 rfl) ?_
  refine va_get (D := (dC, dI)) (ci := 9) (v := .int v_from) (C := RX9) (T := TX9) (N := 51) hx hb hts hIX9 hown hK hP 0 rfl rfl 16 (by decide) (hts (.fieldLink RX9 173 "TraitHouseModel" "from" "I") (by decide +kernel)) (fun _ h9 => h9) rfl dX9_isWord_3 ?_
  refine lv_istore (lv' := [(5, .int v_from), (3, .long wo), (0, .ref (am 0)), (1, .long wo)]) hx hb dX9_isWord_6 hl (by decide) rfl (fun ls hl => ?_)
  have loop8_1 : ∀ (n : Nat) (k5 : Int32) (l3 : Int64) (H : Heap) (locs : List Loc) (ls : Array Slot), 200 - k5.toInt < (n : Int) → (0 ≤ k5.toInt ∧ k5.toInt ≤ 200) → (v_from.toInt ≤ k5.toInt ∧ (l3.toInt ≤ 0 → v_from.toInt < k5.toInt)) → (twI (tpe f_tape v_size) l3 k5 v_to (twd (tpe f_tape v_size) 13 wo.toInt v_from.toInt v_to.toInt)) → va_P (dC, dI) vwCl [((am 0), .inr (9, F9 am v_status v_now v_told v_merges v_taped v_size v_from v_to v_fault v_readFault v_traits v_length v_open v_leaks v_places v_models)), ((am 10), .inl (cA 3, 200, .inl f_tape))] H → va_D A [((am 0), .inr (9, F9 am v_status v_now v_told v_merges v_taped v_size v_from v_to v_fault v_readFault v_traits v_length v_open v_leaks v_places v_models)), ((am 10), .inl (cA 3, 200, .inl f_tape))] → va_S A s.heap H locs → lv_has ls 6 [(5, .int k5), (3, .long l3), (0, .ref (am 0)), (1, .long wo)] → W p l e ({ frames := 0, cells := 0, slots := 0, locals := 0 }) s m ([.ref (am 0), .long wo] : List Value).toArray below meth c H locs 0 0 QQ (F0 m 8 ls []) := by
    intro n
    induction n with
    | zero => intro k5 l3 H locs ls hme hv0_8 hv1_8 hv2_8; exfalso; omega
    | succ n ih_8 =>
      intro k5 l3 H locs ls hme_8 hv0_8 hv1_8 hv2_8 hP hD hS hl
      refine lv_lload_n hx hb dX9_isWord_8 rfl (lv_at hl 1 rfl) ?_
      refine lv_lconst (v := 0) hx hb dX9_isWord_9 (by decide) ?_
      refine W.lcmp hx hb dX9_isWord_10 ?_
      refine lv_topi (fun k_2 ek_2 => ?_)
      have dk_2 : (k_2.toInt < 0 ↔ l3.toInt < 0) ∧ (k_2.toInt = 0 ↔ l3.toInt = 0) ∧ (0 < k_2.toInt ↔ 0 < l3.toInt) := jI_cmp ek_2 rfl (by decide)
      refine lv_if_le (tgt := 56) hx hb dX9_isWord_11 (by decide) (fun c_3 => ?_) (fun c_3 => ?_)
      · have dc_3 : k_2.toInt ≤ 0 := jI_le c_3 rfl (by decide)
        refine lv_iload hx hb dX9_isWord_56 (lv_at hl 0 rfl) ?_
        refine lv_aload_n hx hb dX9_isWord_58 rfl (lv_at hl 2 rfl) ?_
        refine va_get (D := (dC, dI)) (ci := 9) (v := .int v_to) (C := RX9) (T := TX9) (N := 51) hx hb hts hIX9 hown hK hP 0 rfl rfl 17 (by decide) (hts (.fieldLink RX9 170 "TraitHouseModel" "to" "I") (by decide +kernel)) (fun _ h9 => h9) rfl dX9_isWord_59 ?_
        refine lv_icmp_ne (tgt := 69) hx hb dX9_isWord_62 (by decide) (fun c_4 => ?_) (fun c_4 => ?_)
        · have dc_4 : ¬ k5.toInt = v_to.toInt := jI_ne c_4 rfl rfl
          refine lv_iconst (v := 0) hx hb dX9_isWord_69 (by decide) ?_
          obtain ⟨hP9, hD9⟩ := va_pd (ws' := [((am 0), .inr (9, F9 am v_status v_now v_told v_merges v_taped v_size v_from v_to v_fault v_readFault v_traits v_length v_open v_leaks v_places v_models)), ((am 10), .inl (cA 3, 200, .inl f_tape))]) hP hD [0, 1] (by decide) rfl
          subst hQe
          have hans : (0 : Int32).toInt = 0 := (by decide)
          have hpost : ((0 ≤ (0 : Int32).toInt ∧ (0 : Int32).toInt ≤ 1) ∧ (¬ (0 : Int32).toInt = 0 → v_from.toInt < v_to.toInt)) ∧ (ITW (0 : Int32) (twd (tpe f_tape v_size) 13 wo.toInt v_from.toInt v_to.toInt)) := ⟨by omega, (ITW_mk (⟨fun h => (twI_e hv2_8 (by omega)).mpr (by omega), fun h => by have h9 := (twI_e hv2_8 (by omega)).mp h; omega⟩))⟩
          exact W.zret (v := 0) hx hb hr (by decide) (fun t ht hW => ⟨⟨0, (), rfl, hpost, by rw [ht]; exact hP9, hD9⟩, hS.F ht⟩) hS.2.2 dX9_isWord_70
        · have dc_4 : k5.toInt = v_to.toInt := jI_eq c_4 rfl rfl
          refine lv_iconst (v := 1) hx hb dX9_isWord_65 (by decide) ?_
          refine lv_goto (tgt := 70) hx hb dX9_isWord_66 (by decide) ?_
          obtain ⟨hP9, hD9⟩ := va_pd (ws' := [((am 0), .inr (9, F9 am v_status v_now v_told v_merges v_taped v_size v_from v_to v_fault v_readFault v_traits v_length v_open v_leaks v_places v_models)), ((am 10), .inl (cA 3, 200, .inl f_tape))]) hP hD [0, 1] (by decide) rfl
          subst hQe
          have hans : (1 : Int32).toInt = 1 := (by decide)
          have hpost : ((0 ≤ (1 : Int32).toInt ∧ (1 : Int32).toInt ≤ 1) ∧ (¬ (1 : Int32).toInt = 0 → v_from.toInt < v_to.toInt)) ∧ (ITW (1 : Int32) (twd (tpe f_tape v_size) 13 wo.toInt v_from.toInt v_to.toInt)) := ⟨by omega, (ITW_mk (⟨fun h => (twI_e hv2_8 (by omega)).mpr (by omega), fun h => by have h9 := (twI_e hv2_8 (by omega)).mp h; omega⟩))⟩
          exact W.zret (v := 1) hx hb hr (by decide) (fun t ht hW => ⟨⟨1, (), rfl, hpost, by rw [ht]; exact hP9, hD9⟩, hS.F ht⟩) hS.2.2 dX9_isWord_70
      · have dc_3 : 0 < k_2.toInt := jI_nle c_3 rfl (by decide)
        refine lv_iload hx hb dX9_isWord_14 (lv_at hl 0 rfl) ?_
        refine lv_aload_n hx hb dX9_isWord_16 rfl (lv_at hl 2 rfl) ?_
        refine va_get (D := (dC, dI)) (ci := 9) (v := .int v_to) (C := RX9) (T := TX9) (N := 51) hx hb hts hIX9 hown hK hP 0 rfl rfl 17 (by decide) (hts (.fieldLink RX9 170 "TraitHouseModel" "to" "I") (by decide +kernel)) (fun _ h9 => h9) rfl dX9_isWord_17 ?_
        refine lv_icmp_ge (tgt := 44) hx hb dX9_isWord_20 (by decide) (fun c_5 => ?_) (fun c_5 => ?_)
        · have dc_5 : v_to.toInt ≤ k5.toInt := jI_le c_5 rfl rfl
          refine lv_iconst (v := 0) hx hb dX9_isWord_44 (by decide) ?_
          obtain ⟨hP9, hD9⟩ := va_pd (ws' := [((am 0), .inr (9, F9 am v_status v_now v_told v_merges v_taped v_size v_from v_to v_fault v_readFault v_traits v_length v_open v_leaks v_places v_models)), ((am 10), .inl (cA 3, 200, .inl f_tape))]) hP hD [0, 1] (by decide) rfl
          subst hQe
          have hans : (0 : Int32).toInt = 0 := (by decide)
          have hpost : ((0 ≤ (0 : Int32).toInt ∧ (0 : Int32).toInt ≤ 1) ∧ (¬ (0 : Int32).toInt = 0 → v_from.toInt < v_to.toInt)) ∧ (ITW (0 : Int32) (twd (tpe f_tape v_size) 13 wo.toInt v_from.toInt v_to.toInt)) := ⟨by omega, (ITW_mk (iff_of_false (by omega) (twI_no hv2_8 (by omega) (by rw [tp_eq (by omega) (by omega) (by omega)]; omega))))⟩
          exact W.zret (v := 0) hx hb hr (by decide) (fun t ht hW => ⟨⟨0, (), rfl, hpost, by rw [ht]; exact hP9, hD9⟩, hS.F ht⟩) hS.2.2 dX9_isWord_45
        · have dc_5 : k5.toInt < v_to.toInt := jI_nle c_5 rfl rfl
          refine lv_aload_n hx hb dX9_isWord_23 rfl (lv_at hl 2 rfl) ?_
          refine va_get (D := (dC, dI)) (ci := 9) (v := .ref (am 10)) (C := RX9) (T := TX9) (N := 51) hx hb hts hIX9 hown hK hP 0 rfl rfl 13 (by decide) (hts (.fieldLink RX9 38 "TraitHouseModel" "tape" "[B") (by decide +kernel)) (fun _ h9 => h9) rfl dX9_isWord_24 ?_
          refine lv_iload hx hb dX9_isWord_27 (lv_at hl 0 rfl) ?_
          have h_6 : vp_in k5 200 := (vp_in_iff.mpr ⟨by omega, by omega⟩)
          refine va_bald hx hb hK hP 1 3 rfl rfl h_6 dX9_isWord_29 ?_
          refine lv_topi (fun x_7 ex_7 => ?_)
          obtain ⟨y_8, ey_8⟩ : ∃ y : Int64, y = x_7.toInt64 := ⟨_, rfl⟩
          have dy_8 : y_8.toInt = x_7.toInt := by rw [ey_8]; exact Int32.toInt_toInt64 _
          refine lv_i2l (v := y_8) hx hb dX9_isWord_30 ey_8.symm ?_
          refine lv_ldc2 hx hb hown (hts (.constantLong RX9 180 (96)) (by decide +kernel)) dX9_isWord_31 ?_
          refine lv_lload_n hx hb dX9_isWord_34 rfl (lv_at hl 1 rfl) ?_
          refine lv_ldc2 hx hb hown (hts (.constantLong RX9 182 (31)) (by decide +kernel)) dX9_isWord_35 ?_
          refine lv_land hx hb dX9_isWord_38 ?_
          refine lv_topl (fun y_9 ey_9 => ?_)
          have dy_9 : y_9.toInt = l3.toInt % 32 := jL_and31 ey_9 (by omega)
          refine lv_ladd hx hb dX9_isWord_39 ?_
          refine lv_topl (fun y_10 ey_10 => ?_)
          have dy_10 : y_10.toInt = 96 + y_9.toInt := by rw [ey_10]; exact jL_add (by decide) rfl (by omega) (by omega)
          refine W.lcmp hx hb dX9_isWord_40 ?_
          refine lv_topi (fun k_11 ek_11 => ?_)
          have dk_11 : (k_11.toInt < 0 ↔ y_8.toInt < y_10.toInt) ∧ (k_11.toInt = 0 ↔ y_8.toInt = y_10.toInt) ∧ (0 < k_11.toInt ↔ y_10.toInt < y_8.toInt) := jI_cmp ek_11 rfl rfl
          refine lv_if_eq (tgt := 46) hx hb dX9_isWord_41 (by decide) (fun c_12 => ?_) (fun c_12 => ?_)
          · have dc_12 : k_11.toInt = 0 := jI_eq c_12 rfl (by decide)
            refine lv_lload_n hx hb dX9_isWord_46 rfl (lv_at hl 1 rfl) ?_
            refine lv_iconst (v := 5) hx hb dX9_isWord_47 (by decide) ?_
            obtain ⟨y_13, ey_13⟩ : ∃ y : Int64, y = (l3 : Int64) >>> ((5 : Int32).toInt64 &&& 63) := ⟨_, rfl⟩
            refine lv_lshr (v := y_13) hx hb dX9_isWord_48 ey_13.symm ?_
            have dy_13 : y_13.toInt = l3.toInt / 32 := jL_shr5 ey_13
            refine lv_lstore_n (lv' := [(3, .long y_13), (5, .int k5), (0, .ref (am 0)), (1, .long wo)]) hx hb dX9_isWord_49 rfl hl (by decide) rfl (fun ls hl => ?_)
            obtain ⟨x_14, ex_14⟩ : ∃ y : Int32, y = k5 + 1 := ⟨_, rfl⟩
            have dx_14 : x_14.toInt = k5.toInt + 1 := by rw [ex_14]; exact jI_add rfl (by decide) (by omega) (by omega)
            refine lv_iinc (v := x_14) (lv' := [(5, .int x_14), (3, .long y_13), (0, .ref (am 0)), (1, .long wo)]) hx hb dX9_isWord_50 hl (k := 1) rfl (by rw [ex_14]; rfl) (by decide) rfl (fun ls hl => ?_)
            refine lv_goto (tgt := 8) hx hb dX9_isWord_53 (by decide) ?_
            exact ih_8 x_14 y_13 _ _ ls (by omega) (by omega) (by omega) (twI_s hv2_8 (by omega) (by omega) ((tp_eq (by omega) (by omega) (by omega)).mpr ⟨by omega, by have z9 := congrArg Int32.toInt ex_7; omega⟩) (by omega) (by omega)) (hP.sub [0, 1] rfl) (hD.sub [0, 1] (by decide) rfl) hS (lv_sub hl [0, 1, 2, 3] rfl)
          · have dc_12 : ¬ k_11.toInt = 0 := jI_ne c_12 rfl (by decide)
            refine lv_iconst (v := 0) hx hb dX9_isWord_44 (by decide) ?_
            obtain ⟨hP9, hD9⟩ := va_pd (ws' := [((am 0), .inr (9, F9 am v_status v_now v_told v_merges v_taped v_size v_from v_to v_fault v_readFault v_traits v_length v_open v_leaks v_places v_models)), ((am 10), .inl (cA 3, 200, .inl f_tape))]) hP hD [0, 1] (by decide) rfl
            subst hQe
            have hans : (0 : Int32).toInt = 0 := (by decide)
            have hpost : ((0 ≤ (0 : Int32).toInt ∧ (0 : Int32).toInt ≤ 1) ∧ (¬ (0 : Int32).toInt = 0 → v_from.toInt < v_to.toInt)) ∧ (ITW (0 : Int32) (twd (tpe f_tape v_size) 13 wo.toInt v_from.toInt v_to.toInt)) := ⟨by omega, (ITW_mk (iff_of_false (by omega) (twI_no hv2_8 (by omega) (by rw [tp_eq (by omega) (by omega) (by omega)]; have zx_7 := congrArg Int32.toInt ex_7; omega))))⟩
            exact W.zret (v := 0) hx hb hr (by decide) (fun t ht hW => ⟨⟨0, (), rfl, hpost, by rw [ht]; exact hP9, hD9⟩, hS.F ht⟩) hS.2.2 dX9_isWord_45
  exact loop8_1 (Int.toNat (200 - (v_from : Int32).toInt) + 1) v_from wo _ _ ls (by omega) i_v_from (by omega) (twI_0 rfl) hP hD hS (lv_sub hl [0, 1, 2, 3] rfl)

set_option maxHeartbeats 8000000 in
set_option maxRecDepth 100000 in
theorem k_X9_isSign (l : Launch) (dC : Nat → ClassId) (dI : Nat → Nat → Nat) (cA : Nat → ClassId) (sz : Nat) (am : Nat → Nat) (v_status : Int32) (v_now : Int32) (v_told : Int32) (v_merges : Int32) (v_taped : Int32) (v_size : Int32) (v_from : Int32) (v_to : Int32) (v_fault : Int32) (v_readFault : Int32) (v_traits : Int32) (v_length : Int32) (v_open : Int32) (v_leaks : Int32) (v_places : Int32) (v_models : Int32) (f_tape : Nat → Int32) (cc : Int32) (i_v_now : 0 ≤ v_now.toInt ∧ v_now.toInt ≤ 100000) (i_v_told : 0 ≤ v_told.toInt ∧ v_told.toInt ≤ 400) (i_v_taped : 0 ≤ v_taped.toInt ∧ v_taped.toInt ≤ 200) (i_v_size : 0 ≤ v_size.toInt ∧ v_size.toInt ≤ 200) (i_v_from : 0 ≤ v_from.toInt ∧ v_from.toInt ≤ 200) (i_v_to : 0 ≤ v_to.toInt ∧ v_to.toInt ≤ 200) (i_v_traits : 0 ≤ v_traits.toInt ∧ v_traits.toInt ≤ 20) (i_v_length : 0 ≤ v_length.toInt ∧ v_length.toInt ≤ 200) (i_v_open : 0 ≤ v_open.toInt ∧ v_open.toInt ≤ 8) (i_v_places : 0 ≤ v_places.toInt ∧ v_places.toInt ≤ 2000) (i_v_models : 0 ≤ v_models.toInt ∧ v_models.toInt ≤ 10) (hcc : 1 ≤ cc.toInt ∧ cc.toInt ≤ 127) : Met l yX9_isSign wsX9_isSign ({ frames := 0, cells := 0, slots := 0, locals := 0 }) (va_Pc [.ref (am 0), .int cc] (fun U => U.heap.size = sz ∧ va_P (dC, dI) vwCl [((am 0), .inr (9, F9 am v_status v_now v_told v_merges v_taped v_size v_from v_to v_fault v_readFault v_traits v_length v_open v_leaks v_places v_models)), ((am 10), .inl (cA 3, 200, .inl f_tape))] U.heap ∧ va_K (dC, dI) vwCl (tyL cA) U ∧ va_D (fun _ => True) [((am 0), .inr (9, F9 am v_status v_now v_told v_merges v_taped v_size v_from v_to v_fault v_readFault v_traits v_length v_open v_leaks v_places v_models)), ((am 10), .inl (cA 3, 200, .inl f_tape))] ∧ nw_ok U)) (va_Qi (fun (r : Int32) (_ : Unit) => ((0 ≤ r.toInt ∧ r.toInt ≤ 1) ∧ (¬ r.toInt = 0 → v_from.toInt < v_size.toInt ∧ v_to.toInt = v_from.toInt + 1)) ∧ (ITW r (tw (tpe f_tape v_size) [cc.toInt] v_from.toInt v_to.toInt))) (fun (_ : Unit) (t : State) => va_P (dC, dI) vwCl [((am 0), .inr (9, F9 am v_status v_now v_told v_merges v_taped v_size v_from v_to v_fault v_readFault v_traits v_length v_open v_leaks v_places v_models)), ((am 10), .inl (cA 3, 200, .inl f_tape))] t.heap ∧ va_D (va_A [((am 0), .inr (9, F9 am v_status v_now v_told v_merges v_taped v_size v_from v_to v_fault v_readFault v_traits v_length v_open v_leaks v_places v_models)), ((am 10), .inl (cA 3, 200, .inl f_tape))] sz) [((am 0), .inr (9, F9 am v_status v_now v_told v_merges v_taped v_size v_from v_to v_fault v_readFault v_traits v_length v_open v_leaks v_places v_models)), ((am 10), .inl (cA 3, 200, .inl f_tape))]) (va_A [((am 0), .inr (9, F9 am v_status v_now v_told v_merges v_taped v_size v_from v_to v_fault v_readFault v_traits v_length v_open v_leaks v_places v_models)), ((am 10), .inl (cA 3, 200, .inl f_tape))] sz)) 0 0 (va_A [((am 0), .inr (9, F9 am v_status v_now v_told v_merges v_taped v_size v_from v_to v_fault v_readFault v_traits v_length v_open v_leaks v_places v_models)), ((am 10), .inl (cA 3, 200, .inl f_tape))] sz) := by
  refine Met.ofW (cc := cX9_isSign) (maxL := 2) (ret := (some .boolean)) (by decide) rfl ?_
  intro p e s m args below meth c s₁ B hml hv
  obtain ⟨rfl, hsz, hP, hK, hD0, hN⟩ := hv
  have hx := B.exec
  have hb := B.bytes
  have hr := B.returns
  have hts := atoms_spec (ws := wsX9_isSign) B.pre
  have hown : s.vm.findClass RX9 = some m.cls := findClass_of_methodNamed B.named
  have hlocks := B.notSynchronized
  subst hsz
  have hD := hD0.self (sz := s.heap.size)
  generalize hAe : va_A [((am 0), .inr (9, F9 am v_status v_now v_told v_merges v_taped v_size v_from v_to v_fault v_readFault v_traits v_length v_open v_leaks v_places v_models)), ((am 10), .inl (cA 3, 200, .inl f_tape))] s.heap.size = A at hD ⊢
  have hA : ∀ q : Nat, s.heap.size ≤ q → A q := fun q h => by rw [← hAe]; exact Or.inr h
  have hS : va_S A s.heap s.heap [] := va_S.rf
  have hIX9 : ∀ w ∈ u_ws RX9 TX9 51, w ∈ wsX9_isSign := by decide +kernel
  have hl := lv_entry ([.ref (am 0), .int cc]) (n := 2) (Nat.le_of_ble_eq_true rfl)
  rw [lg_entry_eq]
  generalize (lg_sl ([.ref (am 0), .int cc]) ++ List.replicate (2 - (lg_sl ([.ref (am 0), .int cc])).length) Slot.unset).toArray = ls at hl ⊢
  have hl : lv_has ls 2 [(0, .ref (am 0)), (1, .int cc)] := hl
  generalize hQe : MQ below _ _ _ _ _ _ = QQ
  refine lv_aload_n hx hb dX9_isSign_0 rfl (lv_at hl 0 rfl) ?_
  refine va_get (D := (dC, dI)) (ci := 9) (v := .int v_from) (C := RX9) (T := TX9) (N := 51) hx hb hts hIX9 hown hK hP 0 rfl rfl 16 (by decide) (hts (.fieldLink RX9 173 "TraitHouseModel" "from" "I") (by decide +kernel)) (fun _ h9 => h9) rfl dX9_isSign_1 ?_
  refine lv_aload_n hx hb dX9_isSign_4 rfl (lv_at hl 0 rfl) ?_
  refine va_get (D := (dC, dI)) (ci := 9) (v := .int v_size) (C := RX9) (T := TX9) (N := 51) hx hb hts hIX9 hown hK hP 0 rfl rfl 15 (by decide) (hts (.fieldLink RX9 167 "TraitHouseModel" "size" "I") (by decide +kernel)) (fun _ h9 => h9) rfl dX9_isSign_5 ?_
  refine lv_icmp_ge (tgt := 41) hx hb dX9_isSign_8 (by decide) (fun c_1 => ?_) (fun c_1 => ?_)
  · have dc_1 : v_size.toInt ≤ v_from.toInt := jI_le c_1 rfl rfl
    refine lv_iconst (v := 0) hx hb dX9_isSign_41 (by decide) ?_
    obtain ⟨hP9, hD9⟩ := va_pd (ws' := [((am 0), .inr (9, F9 am v_status v_now v_told v_merges v_taped v_size v_from v_to v_fault v_readFault v_traits v_length v_open v_leaks v_places v_models)), ((am 10), .inl (cA 3, 200, .inl f_tape))]) hP hD [0, 1] (by decide) rfl
    subst hQe
    have hans : (0 : Int32).toInt = 0 := (by decide)
    have hpost : ((0 ≤ (0 : Int32).toInt ∧ (0 : Int32).toInt ≤ 1) ∧ (¬ (0 : Int32).toInt = 0 → v_from.toInt < v_size.toInt ∧ v_to.toInt = v_from.toInt + 1)) ∧ (ITW (0 : Int32) (tw (tpe f_tape v_size) [cc.toInt] v_from.toInt v_to.toInt)) := ⟨by omega, (ITW_mk (by (rw [tw_one, tp_eq (by omega) (by omega) (by omega)]; omega)))⟩
    exact W.zret (v := 0) hx hb hr (by decide) (fun t ht hW => ⟨⟨0, (), rfl, hpost, by rw [ht]; exact hP9, hD9⟩, hS.F ht⟩) hS.2.2 dX9_isSign_42
  · have dc_1 : v_from.toInt < v_size.toInt := jI_nle c_1 rfl rfl
    refine lv_aload_n hx hb dX9_isSign_11 rfl (lv_at hl 0 rfl) ?_
    refine va_get (D := (dC, dI)) (ci := 9) (v := .ref (am 10)) (C := RX9) (T := TX9) (N := 51) hx hb hts hIX9 hown hK hP 0 rfl rfl 13 (by decide) (hts (.fieldLink RX9 38 "TraitHouseModel" "tape" "[B") (by decide +kernel)) (fun _ h9 => h9) rfl dX9_isSign_12 ?_
    refine lv_aload_n hx hb dX9_isSign_15 rfl (lv_at hl 0 rfl) ?_
    refine va_get (D := (dC, dI)) (ci := 9) (v := .int v_from) (C := RX9) (T := TX9) (N := 51) hx hb hts hIX9 hown hK hP 0 rfl rfl 16 (by decide) (hts (.fieldLink RX9 173 "TraitHouseModel" "from" "I") (by decide +kernel)) (fun _ h9 => h9) rfl dX9_isSign_16 ?_
    have h_2 : vp_in v_from 200 := (vp_in_iff.mpr ⟨by omega, by omega⟩)
    refine va_bald hx hb hK hP 1 3 rfl rfl h_2 dX9_isSign_19 ?_
    refine lv_topi (fun x_3 ex_3 => ?_)
    refine lv_iload_n hx hb dX9_isSign_20 rfl (lv_at hl 1 rfl) ?_
    refine lv_icmp_ne (tgt := 41) hx hb dX9_isSign_21 (by decide) (fun c_4 => ?_) (fun c_4 => ?_)
    · have dc_4 : ¬ x_3.toInt = cc.toInt := jI_ne c_4 rfl rfl
      refine lv_iconst (v := 0) hx hb dX9_isSign_41 (by decide) ?_
      obtain ⟨hP9, hD9⟩ := va_pd (ws' := [((am 0), .inr (9, F9 am v_status v_now v_told v_merges v_taped v_size v_from v_to v_fault v_readFault v_traits v_length v_open v_leaks v_places v_models)), ((am 10), .inl (cA 3, 200, .inl f_tape))]) hP hD [0, 1] (by decide) rfl
      subst hQe
      have hans : (0 : Int32).toInt = 0 := (by decide)
      have hpost : ((0 ≤ (0 : Int32).toInt ∧ (0 : Int32).toInt ≤ 1) ∧ (¬ (0 : Int32).toInt = 0 → v_from.toInt < v_size.toInt ∧ v_to.toInt = v_from.toInt + 1)) ∧ (ITW (0 : Int32) (tw (tpe f_tape v_size) [cc.toInt] v_from.toInt v_to.toInt)) := ⟨by omega, (ITW_mk (by (have zx_3 := congrArg Int32.toInt ex_3; rw [tw_one, tp_eq (by omega) (by omega) (by omega)]; omega)))⟩
      exact W.zret (v := 0) hx hb hr (by decide) (fun t ht hW => ⟨⟨0, (), rfl, hpost, by rw [ht]; exact hP9, hD9⟩, hS.F ht⟩) hS.2.2 dX9_isSign_42
    · have dc_4 : x_3.toInt = cc.toInt := jI_eq c_4 rfl rfl
      refine lv_aload_n hx hb dX9_isSign_24 rfl (lv_at hl 0 rfl) ?_
      refine va_get (D := (dC, dI)) (ci := 9) (v := .int v_to) (C := RX9) (T := TX9) (N := 51) hx hb hts hIX9 hown hK hP 0 rfl rfl 17 (by decide) (hts (.fieldLink RX9 170 "TraitHouseModel" "to" "I") (by decide +kernel)) (fun _ h9 => h9) rfl dX9_isSign_25 ?_
      refine lv_aload_n hx hb dX9_isSign_28 rfl (lv_at hl 0 rfl) ?_
      refine va_get (D := (dC, dI)) (ci := 9) (v := .int v_from) (C := RX9) (T := TX9) (N := 51) hx hb hts hIX9 hown hK hP 0 rfl rfl 16 (by decide) (hts (.fieldLink RX9 173 "TraitHouseModel" "from" "I") (by decide +kernel)) (fun _ h9 => h9) rfl dX9_isSign_29 ?_
      refine lv_iconst (v := 1) hx hb dX9_isSign_32 (by decide) ?_
      refine lv_iadd hx hb dX9_isSign_33 ?_
      refine lv_topi (fun x_5 ex_5 => ?_)
      have dx_5 : x_5.toInt = v_from.toInt + 1 := by rw [ex_5]; exact jI_add rfl (by decide) (by omega) (by omega)
      refine lv_icmp_ne (tgt := 41) hx hb dX9_isSign_34 (by decide) (fun c_6 => ?_) (fun c_6 => ?_)
      · have dc_6 : ¬ v_to.toInt = x_5.toInt := jI_ne c_6 rfl rfl
        refine lv_iconst (v := 0) hx hb dX9_isSign_41 (by decide) ?_
        obtain ⟨hP9, hD9⟩ := va_pd (ws' := [((am 0), .inr (9, F9 am v_status v_now v_told v_merges v_taped v_size v_from v_to v_fault v_readFault v_traits v_length v_open v_leaks v_places v_models)), ((am 10), .inl (cA 3, 200, .inl f_tape))]) hP hD [0, 1] (by decide) rfl
        subst hQe
        have hans : (0 : Int32).toInt = 0 := (by decide)
        have hpost : ((0 ≤ (0 : Int32).toInt ∧ (0 : Int32).toInt ≤ 1) ∧ (¬ (0 : Int32).toInt = 0 → v_from.toInt < v_size.toInt ∧ v_to.toInt = v_from.toInt + 1)) ∧ (ITW (0 : Int32) (tw (tpe f_tape v_size) [cc.toInt] v_from.toInt v_to.toInt)) := ⟨by omega, (ITW_mk (by (have zx_3 := congrArg Int32.toInt ex_3; rw [tw_one, tp_eq (by omega) (by omega) (by omega)]; omega)))⟩
        exact W.zret (v := 0) hx hb hr (by decide) (fun t ht hW => ⟨⟨0, (), rfl, hpost, by rw [ht]; exact hP9, hD9⟩, hS.F ht⟩) hS.2.2 dX9_isSign_42
      · have dc_6 : v_to.toInt = x_5.toInt := jI_eq c_6 rfl rfl
        refine lv_iconst (v := 1) hx hb dX9_isSign_37 (by decide) ?_
        refine lv_goto (tgt := 42) hx hb dX9_isSign_38 (by decide) ?_
        obtain ⟨hP9, hD9⟩ := va_pd (ws' := [((am 0), .inr (9, F9 am v_status v_now v_told v_merges v_taped v_size v_from v_to v_fault v_readFault v_traits v_length v_open v_leaks v_places v_models)), ((am 10), .inl (cA 3, 200, .inl f_tape))]) hP hD [0, 1] (by decide) rfl
        subst hQe
        have hans : (1 : Int32).toInt = 1 := (by decide)
        have hpost : ((0 ≤ (1 : Int32).toInt ∧ (1 : Int32).toInt ≤ 1) ∧ (¬ (1 : Int32).toInt = 0 → v_from.toInt < v_size.toInt ∧ v_to.toInt = v_from.toInt + 1)) ∧ (ITW (1 : Int32) (tw (tpe f_tape v_size) [cc.toInt] v_from.toInt v_to.toInt)) := ⟨by omega, (ITW_mk (by (have zx_3 := congrArg Int32.toInt ex_3; rw [tw_one, tp_eq (by omega) (by omega) (by omega)]; omega)))⟩
        exact W.zret (v := 1) hx hb hr (by decide) (fun t ht hW => ⟨⟨1, (), rfl, hpost, by rw [ht]; exact hP9, hD9⟩, hS.F ht⟩) hS.2.2 dX9_isSign_42

set_option maxHeartbeats 8000000 in
set_option maxRecDepth 100000 in
theorem k_X9_faults (l : Launch) (dC : Nat → ClassId) (dI : Nat → Nat → Nat) (cA : Nat → ClassId) (sz : Nat) (am : Nat → Nat) (v_status : Int32) (v_now : Int32) (v_told : Int32) (v_merges : Int32) (v_taped : Int32) (v_size : Int32) (v_from : Int32) (v_to : Int32) (v_fault : Int32) (v_readFault : Int32) (v_traits : Int32) (v_length : Int32) (v_open : Int32) (v_leaks : Int32) (v_places : Int32) (v_models : Int32) (i_v_now : 0 ≤ v_now.toInt ∧ v_now.toInt ≤ 100000) (i_v_told : 0 ≤ v_told.toInt ∧ v_told.toInt ≤ 400) (i_v_taped : 0 ≤ v_taped.toInt ∧ v_taped.toInt ≤ 200) (i_v_size : 0 ≤ v_size.toInt ∧ v_size.toInt ≤ 200) (i_v_from : 0 ≤ v_from.toInt ∧ v_from.toInt ≤ 200) (i_v_to : 0 ≤ v_to.toInt ∧ v_to.toInt ≤ 200) (i_v_traits : 0 ≤ v_traits.toInt ∧ v_traits.toInt ≤ 20) (i_v_length : 0 ≤ v_length.toInt ∧ v_length.toInt ≤ 200) (i_v_open : 0 ≤ v_open.toInt ∧ v_open.toInt ≤ 8) (i_v_places : 0 ≤ v_places.toInt ∧ v_places.toInt ≤ 2000) (i_v_models : 0 ≤ v_models.toInt ∧ v_models.toInt ≤ 10) (hgd : v_readFault.toInt = (-1)) : Met l yX9_faults wsX9_faults ({ frames := 0, cells := 0, slots := 0, locals := 0 }) (va_Pc [.ref (am 0)] (fun U => U.heap.size = sz ∧ va_P (dC, dI) vwCl [((am 0), .inr (9, F9 am v_status v_now v_told v_merges v_taped v_size v_from v_to v_fault v_readFault v_traits v_length v_open v_leaks v_places v_models))] U.heap ∧ va_K (dC, dI) vwCl (tyL cA) U ∧ va_D (fun _ => True) [((am 0), .inr (9, F9 am v_status v_now v_told v_merges v_taped v_size v_from v_to v_fault v_readFault v_traits v_length v_open v_leaks v_places v_models))] ∧ nw_ok U)) (va_Qv (fun (u : Int32) => (u.toInt = v_from.toInt)) (fun (u : Int32) (t : State) => va_P (dC, dI) vwCl [((am 0), .inr (9, F9 am v_status v_now v_told v_merges v_taped v_size v_from v_to v_fault u v_traits v_length v_open v_leaks v_places v_models))] t.heap ∧ va_D (va_A [((am 0), .inr (9, F9 am v_status v_now v_told v_merges v_taped v_size v_from v_to v_fault v_readFault v_traits v_length v_open v_leaks v_places v_models))] sz) [((am 0), .inr (9, F9 am v_status v_now v_told v_merges v_taped v_size v_from v_to v_fault u v_traits v_length v_open v_leaks v_places v_models))]) (va_A [((am 0), .inr (9, F9 am v_status v_now v_told v_merges v_taped v_size v_from v_to v_fault v_readFault v_traits v_length v_open v_leaks v_places v_models))] sz)) 0 0 (va_A [((am 0), .inr (9, F9 am v_status v_now v_told v_merges v_taped v_size v_from v_to v_fault v_readFault v_traits v_length v_open v_leaks v_places v_models))] sz) := by
  refine Met.ofW (cc := cX9_faults) (maxL := 1) (ret := none) (by decide) rfl ?_
  intro p e s m args below meth c s₁ B hml hv
  obtain ⟨rfl, hsz, hP, hK, hD0, hN⟩ := hv
  have hx := B.exec
  have hb := B.bytes
  have hr := B.returns
  have hts := atoms_spec (ws := wsX9_faults) B.pre
  have hown : s.vm.findClass RX9 = some m.cls := findClass_of_methodNamed B.named
  have hlocks := B.notSynchronized
  subst hsz
  have hD := hD0.self (sz := s.heap.size)
  generalize hAe : va_A [((am 0), .inr (9, F9 am v_status v_now v_told v_merges v_taped v_size v_from v_to v_fault v_readFault v_traits v_length v_open v_leaks v_places v_models))] s.heap.size = A at hD ⊢
  have hA : ∀ q : Nat, s.heap.size ≤ q → A q := fun q h => by rw [← hAe]; exact Or.inr h
  have hS : va_S A s.heap s.heap [] := va_S.rf
  have hIX9 : ∀ w ∈ u_ws RX9 TX9 51, w ∈ wsX9_faults := by decide +kernel
  have hl := lv_entry ([.ref (am 0)]) (n := 1) (Nat.le_of_ble_eq_true rfl)
  rw [lg_entry_eq]
  generalize (lg_sl ([.ref (am 0)]) ++ List.replicate (1 - (lg_sl ([.ref (am 0)])).length) Slot.unset).toArray = ls at hl ⊢
  have hl : lv_has ls 1 [(0, .ref (am 0))] := hl
  generalize hQe : MQ below _ _ _ _ _ _ = QQ
  refine lv_aload_n hx hb dX9_faults_0 rfl (lv_at hl 0 rfl) ?_
  refine va_get (D := (dC, dI)) (ci := 9) (v := .int v_readFault) (C := RX9) (T := TX9) (N := 51) hx hb hts hIX9 hown hK hP 0 rfl rfl 19 (by decide) (hts (.fieldLink RX9 184 "TraitHouseModel" "readFault" "I") (by decide +kernel)) (fun _ h9 => h9) rfl dX9_faults_1 ?_
  refine lv_iconst (v := (-1)) hx hb dX9_faults_4 (by decide) ?_
  refine lv_icmp_ne (tgt := 16) hx hb dX9_faults_5 (by decide) (fun c_1 => ?_) (fun c_1 => ?_)
  · have dc_1 : ¬ v_readFault.toInt = (-1) := jI_ne c_1 rfl (by decide)
    exfalso; omega
  · have dc_1 : v_readFault.toInt = (-1) := jI_eq c_1 rfl (by decide)
    refine lv_aload_n hx hb dX9_faults_8 rfl (lv_at hl 0 rfl) ?_
    refine lv_aload_n hx hb dX9_faults_9 rfl (lv_at hl 0 rfl) ?_
    refine va_get (D := (dC, dI)) (ci := 9) (v := .int v_from) (C := RX9) (T := TX9) (N := 51) hx hb hts hIX9 hown hK hP 0 rfl rfl 16 (by decide) (hts (.fieldLink RX9 173 "TraitHouseModel" "from" "I") (by decide +kernel)) (fun _ h9 => h9) rfl dX9_faults_10 ?_
    refine va_put (D := (dC, dI)) (ci := 9) (v := .int v_from) (ty := .int) (C := RX9) (T := TX9) (N := 51) hx hb hts hIX9 tyX9 tyX9_ok nmX9 hown hK hP hD hS 0 rfl rfl 19 (by decide) (hts (.fieldLink RX9 184 "TraitHouseModel" "readFault" "I") (by decide +kernel)) (fun _ h9 => h9) rfl (by decide +kernel) rfl rfl (Nat.le_of_ble_eq_true rfl) dX9_faults_13 (fun H locs hP hD hS => ?_)
    replace hP : va_P (dC, dI) vwCl [((am 0), .inr (9, F9 am v_status v_now v_told v_merges v_taped v_size v_from v_to v_fault v_from v_traits v_length v_open v_leaks v_places v_models))] H := hP
    replace hD : va_D A [((am 0), .inr (9, F9 am v_status v_now v_told v_merges v_taped v_size v_from v_to v_fault v_from v_traits v_length v_open v_leaks v_places v_models))] := hD
    obtain ⟨hP9, hD9⟩ := va_pd (ws' := [((am 0), .inr (9, F9 am v_status v_now v_told v_merges v_taped v_size v_from v_to v_fault v_from v_traits v_length v_open v_leaks v_places v_models))]) hP hD [0] (by decide) rfl
    subst hQe
    have hpost : (v_from.toInt = v_from.toInt) := by omega
    exact W.vret hx hb hr (fun t ht hW => ⟨⟨v_from, rfl, hpost, by rw [ht]; exact hP9, hD9⟩, hS.F ht⟩) hS.2.2 dX9_faults_16

set_option maxHeartbeats 8000000 in
set_option maxRecDepth 100000 in
theorem k_X9_good (l : Launch) (dC : Nat → ClassId) (dI : Nat → Nat → Nat) (cA : Nat → ClassId) (sz : Nat) (am : Nat → Nat) (v_status : Int32) (v_now : Int32) (v_told : Int32) (v_merges : Int32) (v_taped : Int32) (v_size : Int32) (v_from : Int32) (v_to : Int32) (v_fault : Int32) (v_readFault : Int32) (v_traits : Int32) (v_length : Int32) (v_open : Int32) (v_leaks : Int32) (v_places : Int32) (v_models : Int32) (i_v_now : 0 ≤ v_now.toInt ∧ v_now.toInt ≤ 100000) (i_v_told : 0 ≤ v_told.toInt ∧ v_told.toInt ≤ 400) (i_v_taped : 0 ≤ v_taped.toInt ∧ v_taped.toInt ≤ 200) (i_v_size : 0 ≤ v_size.toInt ∧ v_size.toInt ≤ 200) (i_v_from : 0 ≤ v_from.toInt ∧ v_from.toInt ≤ 200) (i_v_to : 0 ≤ v_to.toInt ∧ v_to.toInt ≤ 200) (i_v_traits : 0 ≤ v_traits.toInt ∧ v_traits.toInt ≤ 20) (i_v_length : 0 ≤ v_length.toInt ∧ v_length.toInt ≤ 200) (i_v_open : 0 ≤ v_open.toInt ∧ v_open.toInt ≤ 8) (i_v_places : 0 ≤ v_places.toInt ∧ v_places.toInt ≤ 2000) (i_v_models : 0 ≤ v_models.toInt ∧ v_models.toInt ≤ 10)  : Met l yX9_good wsX9_good ({ frames := 0, cells := 0, slots := 0, locals := 0 }) (va_Pc [.ref (am 0)] (fun U => U.heap.size = sz ∧ va_P (dC, dI) vwCl [((am 0), .inr (9, F9 am v_status v_now v_told v_merges v_taped v_size v_from v_to v_fault v_readFault v_traits v_length v_open v_leaks v_places v_models))] U.heap ∧ va_K (dC, dI) vwCl (tyL cA) U ∧ va_D (fun _ => True) [((am 0), .inr (9, F9 am v_status v_now v_told v_merges v_taped v_size v_from v_to v_fault v_readFault v_traits v_length v_open v_leaks v_places v_models))] ∧ nw_ok U)) (va_Qi (fun (r : Int32) (_ : Unit) => ((v_readFault.toInt = (-1) → r.toInt = 1) ∧ (¬ v_readFault.toInt = (-1) → r.toInt = 0))) (fun (_ : Unit) (t : State) => va_P (dC, dI) vwCl [((am 0), .inr (9, F9 am v_status v_now v_told v_merges v_taped v_size v_from v_to v_fault v_readFault v_traits v_length v_open v_leaks v_places v_models))] t.heap ∧ va_D (va_A [((am 0), .inr (9, F9 am v_status v_now v_told v_merges v_taped v_size v_from v_to v_fault v_readFault v_traits v_length v_open v_leaks v_places v_models))] sz) [((am 0), .inr (9, F9 am v_status v_now v_told v_merges v_taped v_size v_from v_to v_fault v_readFault v_traits v_length v_open v_leaks v_places v_models))]) (va_A [((am 0), .inr (9, F9 am v_status v_now v_told v_merges v_taped v_size v_from v_to v_fault v_readFault v_traits v_length v_open v_leaks v_places v_models))] sz)) 0 0 (va_A [((am 0), .inr (9, F9 am v_status v_now v_told v_merges v_taped v_size v_from v_to v_fault v_readFault v_traits v_length v_open v_leaks v_places v_models))] sz) := by
  refine Met.ofW (cc := cX9_good) (maxL := 1) (ret := (some .boolean)) (by decide) rfl ?_
  intro p e s m args below meth c s₁ B hml hv
  obtain ⟨rfl, hsz, hP, hK, hD0, hN⟩ := hv
  have hx := B.exec
  have hb := B.bytes
  have hr := B.returns
  have hts := atoms_spec (ws := wsX9_good) B.pre
  have hown : s.vm.findClass RX9 = some m.cls := findClass_of_methodNamed B.named
  have hlocks := B.notSynchronized
  subst hsz
  have hD := hD0.self (sz := s.heap.size)
  generalize hAe : va_A [((am 0), .inr (9, F9 am v_status v_now v_told v_merges v_taped v_size v_from v_to v_fault v_readFault v_traits v_length v_open v_leaks v_places v_models))] s.heap.size = A at hD ⊢
  have hA : ∀ q : Nat, s.heap.size ≤ q → A q := fun q h => by rw [← hAe]; exact Or.inr h
  have hS : va_S A s.heap s.heap [] := va_S.rf
  have hIX9 : ∀ w ∈ u_ws RX9 TX9 51, w ∈ wsX9_good := by decide +kernel
  have hl := lv_entry ([.ref (am 0)]) (n := 1) (Nat.le_of_ble_eq_true rfl)
  rw [lg_entry_eq]
  generalize (lg_sl ([.ref (am 0)]) ++ List.replicate (1 - (lg_sl ([.ref (am 0)])).length) Slot.unset).toArray = ls at hl ⊢
  have hl : lv_has ls 1 [(0, .ref (am 0))] := hl
  generalize hQe : MQ below _ _ _ _ _ _ = QQ
  refine lv_aload_n hx hb dX9_good_0 rfl (lv_at hl 0 rfl) ?_
  refine va_get (D := (dC, dI)) (ci := 9) (v := .int v_readFault) (C := RX9) (T := TX9) (N := 51) hx hb hts hIX9 hown hK hP 0 rfl rfl 19 (by decide) (hts (.fieldLink RX9 184 "TraitHouseModel" "readFault" "I") (by decide +kernel)) (fun _ h9 => h9) rfl dX9_good_1 ?_
  refine lv_iconst (v := (-1)) hx hb dX9_good_4 (by decide) ?_
  refine lv_icmp_ne (tgt := 12) hx hb dX9_good_5 (by decide) (fun c_1 => ?_) (fun c_1 => ?_)
  · have dc_1 : ¬ v_readFault.toInt = (-1) := jI_ne c_1 rfl (by decide)
    refine lv_iconst (v := 0) hx hb dX9_good_12 (by decide) ?_
    obtain ⟨hP9, hD9⟩ := va_pd (ws' := [((am 0), .inr (9, F9 am v_status v_now v_told v_merges v_taped v_size v_from v_to v_fault v_readFault v_traits v_length v_open v_leaks v_places v_models))]) hP hD [0] (by decide) rfl
    subst hQe
    have hans : (0 : Int32).toInt = 0 := (by decide)
    have hpost : ((v_readFault.toInt = (-1) → (0 : Int32).toInt = 1) ∧ (¬ v_readFault.toInt = (-1) → (0 : Int32).toInt = 0)) := by omega
    exact W.zret (v := 0) hx hb hr (by decide) (fun t ht hW => ⟨⟨0, (), rfl, hpost, by rw [ht]; exact hP9, hD9⟩, hS.F ht⟩) hS.2.2 dX9_good_13
  · have dc_1 : v_readFault.toInt = (-1) := jI_eq c_1 rfl (by decide)
    refine lv_iconst (v := 1) hx hb dX9_good_8 (by decide) ?_
    refine lv_goto (tgt := 13) hx hb dX9_good_9 (by decide) ?_
    obtain ⟨hP9, hD9⟩ := va_pd (ws' := [((am 0), .inr (9, F9 am v_status v_now v_told v_merges v_taped v_size v_from v_to v_fault v_readFault v_traits v_length v_open v_leaks v_places v_models))]) hP hD [0] (by decide) rfl
    subst hQe
    have hans : (1 : Int32).toInt = 1 := (by decide)
    have hpost : ((v_readFault.toInt = (-1) → (1 : Int32).toInt = 1) ∧ (¬ v_readFault.toInt = (-1) → (1 : Int32).toInt = 0)) := by omega
    exact W.zret (v := 1) hx hb hr (by decide) (fun t ht hW => ⟨⟨1, (), rfl, hpost, by rw [ht]; exact hP9, hD9⟩, hS.F ht⟩) hS.2.2 dX9_good_13

set_option maxHeartbeats 8000000 in
set_option maxRecDepth 100000 in
theorem k_X9_number (l : Launch) (dC : Nat → ClassId) (dI : Nat → Nat → Nat) (cA : Nat → ClassId) (sz : Nat) (am : Nat → Nat) (v_status : Int32) (v_now : Int32) (v_told : Int32) (v_merges : Int32) (v_taped : Int32) (v_size : Int32) (v_from : Int32) (v_to : Int32) (v_fault : Int32) (v_readFault : Int32) (v_traits : Int32) (v_length : Int32) (v_open : Int32) (v_leaks : Int32) (v_places : Int32) (v_models : Int32) (f_tape : Nat → Int32) (mx : Int32) (i_v_now : 0 ≤ v_now.toInt ∧ v_now.toInt ≤ 100000) (i_v_told : 0 ≤ v_told.toInt ∧ v_told.toInt ≤ 400) (i_v_taped : 0 ≤ v_taped.toInt ∧ v_taped.toInt ≤ 200) (i_v_size : 0 ≤ v_size.toInt ∧ v_size.toInt ≤ 200) (i_v_from : 0 ≤ v_from.toInt ∧ v_from.toInt ≤ 200) (i_v_to : 0 ≤ v_to.toInt ∧ v_to.toInt ≤ 200) (i_v_traits : 0 ≤ v_traits.toInt ∧ v_traits.toInt ≤ 20) (i_v_length : 0 ≤ v_length.toInt ∧ v_length.toInt ≤ 200) (i_v_open : 0 ≤ v_open.toInt ∧ v_open.toInt ≤ 8) (i_v_places : 0 ≤ v_places.toInt ∧ v_places.toInt ≤ 2000) (i_v_models : 0 ≤ v_models.toInt ∧ v_models.toInt ≤ 10) (hfr : v_from.toInt ≤ v_to.toInt ∧ v_to.toInt ≤ v_size.toInt ∧ (v_from.toInt < v_size.toInt → v_from.toInt < v_to.toInt)) (htk : tokOK f_tape v_from v_to v_size) (hgd : v_readFault.toInt = (-1)) (hmx : 0 ≤ mx.toInt ∧ mx.toInt ≤ 1000000) : Met l yX9_number wsX9_number ({ frames := 2, cells := 0, slots := 0, locals := 43 }) (va_Pc [.ref (am 0), .int mx] (fun U => U.heap.size = sz ∧ va_P (dC, dI) vwCl [((am 0), .inr (9, F9 am v_status v_now v_told v_merges v_taped v_size v_from v_to v_fault v_readFault v_traits v_length v_open v_leaks v_places v_models)), ((am 10), .inl (cA 3, 200, .inl f_tape))] U.heap ∧ va_K (dC, dI) vwCl (tyL cA) U ∧ va_D (fun _ => True) [((am 0), .inr (9, F9 am v_status v_now v_told v_merges v_taped v_size v_from v_to v_fault v_readFault v_traits v_length v_open v_leaks v_places v_models)), ((am 10), .inl (cA 3, 200, .inl f_tape))] ∧ nw_ok U)) (va_Qi (fun (r : Int32) (u : Int32 × Int32 × Int32) => (0 ≤ u.1.toInt ∧ u.1.toInt ≤ 200) ∧ (0 ≤ u.2.1.toInt ∧ u.2.1.toInt ≤ 200) ∧ (v_from.toInt ≤ u.1.toInt ∧ u.1.toInt ≤ u.2.1.toInt ∧ u.2.1.toInt ≤ v_size.toInt ∧ (u.1.toInt < v_size.toInt → u.1.toInt < u.2.1.toInt) ∧ (u.2.2.toInt = (-1) → v_from.toInt < u.1.toInt ∧ 0 ≤ r.toInt ∧ r.toInt ≤ mx.toInt)) ∧ (tokOK f_tape u.1 u.2.1 v_size) ∧ (nmR (tpe f_tape v_size) v_size.toInt mx.toInt v_from.toInt v_to.toInt (u.2.2.toInt = (-1)) r.toInt u.1.toInt u.2.1.toInt u.2.2.toInt)) (fun (u : Int32 × Int32 × Int32) (t : State) => va_P (dC, dI) vwCl [((am 0), .inr (9, F9 am v_status v_now v_told v_merges v_taped v_size u.1 u.2.1 v_fault u.2.2 v_traits v_length v_open v_leaks v_places v_models)), ((am 10), .inl (cA 3, 200, .inl f_tape))] t.heap ∧ va_D (va_A [((am 0), .inr (9, F9 am v_status v_now v_told v_merges v_taped v_size v_from v_to v_fault v_readFault v_traits v_length v_open v_leaks v_places v_models)), ((am 10), .inl (cA 3, 200, .inl f_tape))] sz) [((am 0), .inr (9, F9 am v_status v_now v_told v_merges v_taped v_size u.1 u.2.1 v_fault u.2.2 v_traits v_length v_open v_leaks v_places v_models)), ((am 10), .inl (cA 3, 200, .inl f_tape))]) (va_A [((am 0), .inr (9, F9 am v_status v_now v_told v_merges v_taped v_size v_from v_to v_fault v_readFault v_traits v_length v_open v_leaks v_places v_models)), ((am 10), .inl (cA 3, 200, .inl f_tape))] sz)) 0 0 (va_A [((am 0), .inr (9, F9 am v_status v_now v_told v_merges v_taped v_size v_from v_to v_fault v_readFault v_traits v_length v_open v_leaks v_places v_models)), ((am 10), .inl (cA 3, 200, .inl f_tape))] sz) := by
  refine Met.ofW (cc := cX9_number) (maxL := 5) (ret := (some .int)) (by decide) rfl ?_
  intro p e s m args below meth c s₁ B hml hv
  obtain ⟨rfl, hsz, hP, hK, hD0, hN⟩ := hv
  have hx := B.exec
  have hb := B.bytes
  have hr := B.returns
  have hts := atoms_spec (ws := wsX9_number) B.pre
  have hown : s.vm.findClass RX9 = some m.cls := findClass_of_methodNamed B.named
  have hlocks := B.notSynchronized
  subst hsz
  have hD := hD0.self (sz := s.heap.size)
  generalize hAe : va_A [((am 0), .inr (9, F9 am v_status v_now v_told v_merges v_taped v_size v_from v_to v_fault v_readFault v_traits v_length v_open v_leaks v_places v_models)), ((am 10), .inl (cA 3, 200, .inl f_tape))] s.heap.size = A at hD ⊢
  have hA : ∀ q : Nat, s.heap.size ≤ q → A q := fun q h => by rw [← hAe]; exact Or.inr h
  have hS : va_S A s.heap s.heap [] := va_S.rf
  have hIX9 : ∀ w ∈ u_ws RX9 TX9 51, w ∈ wsX9_number := by decide +kernel
  have hl := lv_entry ([.ref (am 0), .int mx]) (n := 5) (Nat.le_of_ble_eq_true rfl)
  rw [lg_entry_eq]
  generalize (lg_sl ([.ref (am 0), .int mx]) ++ List.replicate (5 - (lg_sl ([.ref (am 0), .int mx])).length) Slot.unset).toArray = ls at hl ⊢
  have hl : lv_has ls 5 [(0, .ref (am 0)), (1, .int mx)] := hl
  generalize hQe : MQ below _ _ _ _ _ _ = QQ
  refine lv_aload_n hx hb dX9_number_0 rfl (lv_at hl 0 rfl) ?_
  refine lv_aload_n hx hb dX9_number_1 rfl (lv_at hl 0 rfl) ?_
  refine va_get (D := (dC, dI)) (ci := 9) (v := .int v_from) (C := RX9) (T := TX9) (N := 51) hx hb hts hIX9 hown hK hP 0 rfl rfl 16 (by decide) (hts (.fieldLink RX9 173 "TraitHouseModel" "from" "I") (by decide +kernel)) (fun _ h9 => h9) rfl dX9_number_2 ?_
  refine lv_bipush (v := 48) hx hb dX9_number_5 (by decide) ?_
  refine lv_bipush (v := 57) hx hb dX9_number_7 (by decide) ?_
  have hk_1 : (48 : Int32).toInt = 48 := by decide
  have hk_2 : (57 : Int32).toInt = 57 := by decide
  obtain ⟨hPc, hDc, hFc, hCc⟩ := va_pre (ws' := [((am 0), .inr (9, F9 am v_status v_now v_told v_merges v_taped v_size v_from v_to v_fault v_readFault v_traits v_length v_open v_leaks v_places v_models)), ((am 10), .inl (cA 3, 200, .inl f_tape))]) hP hD hS hA [0, 1] (by decide) rfl
  refine va_calli (va_runV (As := [.int v_from, .int 48, .int 57]) (rest := []) ⟨hx, hb, hml, hown, hts⟩ (k_X9_isIn l dC dI cA s.heap.size am v_status v_now v_told v_merges v_taped v_size v_from v_to v_fault v_readFault v_traits v_length v_open v_leaks v_places v_models f_tape v_from 48 57 i_v_now i_v_told i_v_taped i_v_size i_v_from i_v_to i_v_traits i_v_length i_v_open i_v_places i_v_models i_v_from (by omega)) (cwV 3 hts gX9_number_X9_isIn rfl rfl rfl (by decide +kernel) ⟨Nat.le_of_ble_eq_true rfl, Nat.le_of_ble_eq_true rfl⟩) ⟨fun a U g mk q => by obtain ⟨q0, q1, qP, qK, qD, qN⟩ := q; exact ⟨q0, q1, qP, va_K.moved (u := U) (U := U.calling g mk a) (Vm.Alike.refl U.vm) qK, qD, qN.same rfl⟩, va_recv hK hPc (ci := 9) (q0 := 0) rfl rfl, fun U hU hW => ⟨rfl, by rw [hU], by rw [hU]; exact hPc, va_K.moved hW.alike hK, hDc.weaken (fun _ _ _ _ => trivial), hN.warm hW⟩⟩ rfl rfl hl.1 rfl (lv_room (Nat.le_of_ble_eq_true rfl)) dX9_number_9 ⟨Nat.le_of_ble_eq_true rfl, Nat.le_of_ble_eq_true rfl⟩) hS (fun q _ h => hFc q h) hFc (fun r_3 u_4 t H1 locs ht hvm hw_5 hB hz1 hk1 hS => ?_)
  try dsimp only at hw_5 hB
  obtain ⟨po_6, tp_7⟩ := hw_5
  try simp only [hk_1, hk_2] at po_6 tp_7
  obtain ⟨hP1, hD1⟩ := hB
  rw [ht] at hP1
  obtain ⟨hP, hD⟩ := va_join (wr := []) (w1 := [((am 0), .inr (9, F9 am v_status v_now v_told v_merges v_taped v_size v_from v_to v_fault v_readFault v_traits v_length v_open v_leaks v_places v_models)), ((am 10), .inl (cA 3, 200, .inl f_tape))]) hP hD [0, 1] [] hCc rfl (by decide) (by decide) hk1 hFc hP1 hD1
  clear hz1
  generalize H1 = H at hP hS ⊢
  refine lv_if_ne (tgt := 21) hx hb dX9_number_12 (by decide) (fun c_8 => ?_) (fun c_8 => ?_)
  · have dc_8 : ¬ r_3.toInt = 0 := jI_ne c_8 rfl (by decide)
    have hdd9 := tp_7.mp (by omega)
    have hal9 := tok_g htk (by omega) (by omega) hdd9
    refine lv_lconst (v := 0) hx hb dX9_number_21 (by decide) ?_
    refine lv_lstore_n (lv' := [(2, .long 0), (0, .ref (am 0)), (1, .int mx)]) hx hb dX9_number_22 rfl hl (by decide) rfl (fun ls hl => ?_)
    refine lv_aload_n hx hb dX9_number_23 rfl (lv_at hl 1 rfl) ?_
    refine va_get (D := (dC, dI)) (ci := 9) (v := .int v_from) (C := RX9) (T := TX9) (N := 51) hx hb hts hIX9 hown hK hP 0 rfl rfl 16 (by decide) (hts (.fieldLink RX9 173 "TraitHouseModel" "from" "I") (by decide +kernel)) (fun _ h9 => h9) rfl dX9_number_24 ?_
    refine lv_istore (lv' := [(4, .int v_from), (2, .long 0), (0, .ref (am 0)), (1, .int mx)]) hx hb dX9_number_27 hl (by decide) rfl (fun ls hl => ?_)
    have loop29_9 : ∀ (n : Nat) (k4 : Int32) (v2 : Int64) (H : Heap) (locs : List Loc) (ls : Array Slot), 200 - k4.toInt < (n : Int) → (0 ≤ k4.toInt ∧ k4.toInt ≤ 200) → (0 ≤ v2.toInt ∧ v2.toInt ≤ 10000009) → (v_from.toInt ≤ k4.toInt) → (k4.toInt ≤ v_to.toInt) → (rnI (tpe f_tape v_size) mx.toInt v_from k4 v2) → va_P (dC, dI) vwCl [((am 0), .inr (9, F9 am v_status v_now v_told v_merges v_taped v_size v_from v_to v_fault v_readFault v_traits v_length v_open v_leaks v_places v_models)), ((am 10), .inl (cA 3, 200, .inl f_tape))] H → va_D A [((am 0), .inr (9, F9 am v_status v_now v_told v_merges v_taped v_size v_from v_to v_fault v_readFault v_traits v_length v_open v_leaks v_places v_models)), ((am 10), .inl (cA 3, 200, .inl f_tape))] → va_S A s.heap H locs → lv_has ls 5 [(4, .int k4), (2, .long v2), (0, .ref (am 0)), (1, .int mx)] → W p l e ({ frames := 2, cells := 0, slots := 0, locals := 43 }) s m ([.ref (am 0), .int mx] : List Value).toArray below meth c H locs 0 0 QQ (F0 m 29 ls []) := by
      intro n
      induction n with
      | zero => intro k4 v2 H locs ls hme hv0_29 hv1_29 hv2_29 hv3_29 hv4_29; exfalso; omega
      | succ n ih_29 =>
        intro k4 v2 H locs ls hme_29 hv0_29 hv1_29 hv2_29 hv3_29 hv4_29 hP hD hS hl
        refine lv_iload hx hb dX9_number_29 (lv_at hl 0 rfl) ?_
        refine lv_aload_n hx hb dX9_number_31 rfl (lv_at hl 2 rfl) ?_
        refine va_get (D := (dC, dI)) (ci := 9) (v := .int v_to) (C := RX9) (T := TX9) (N := 51) hx hb hts hIX9 hown hK hP 0 rfl rfl 17 (by decide) (hts (.fieldLink RX9 170 "TraitHouseModel" "to" "I") (by decide +kernel)) (fun _ h9 => h9) rfl dX9_number_32 ?_
        refine lv_icmp_ge (tgt := 74) hx hb dX9_number_35 (by decide) (fun c_10 => ?_) (fun c_10 => ?_)
        · have dc_10 : v_to.toInt ≤ k4.toInt := jI_le c_10 rfl rfl
          refine lv_lload_n hx hb dX9_number_74 rfl (lv_at hl 1 rfl) ?_
          refine lv_iload_n hx hb dX9_number_75 rfl (lv_at hl 3 rfl) ?_
          obtain ⟨y_11, ey_11⟩ : ∃ y : Int64, y = mx.toInt64 := ⟨_, rfl⟩
          have dy_11 : y_11.toInt = mx.toInt := by rw [ey_11]; exact Int32.toInt_toInt64 _
          refine lv_i2l (v := y_11) hx hb dX9_number_76 ey_11.symm ?_
          refine W.lcmp hx hb dX9_number_77 ?_
          refine lv_topi (fun k_12 ek_12 => ?_)
          have dk_12 : (k_12.toInt < 0 ↔ v2.toInt < y_11.toInt) ∧ (k_12.toInt = 0 ↔ v2.toInt = y_11.toInt) ∧ (0 < k_12.toInt ↔ y_11.toInt < v2.toInt) := jI_cmp ek_12 rfl rfl
          refine lv_if_le (tgt := 87) hx hb dX9_number_78 (by decide) (fun c_13 => ?_) (fun c_13 => ?_)
          · have dc_13 : k_12.toInt ≤ 0 := jI_le c_13 rfl (by decide)
            refine lv_aload_n hx hb dX9_number_87 rfl (lv_at hl 2 rfl) ?_
            obtain ⟨hPc, hDc, hFc, hCc⟩ := va_pre (ws' := [((am 0), .inr (9, F9 am v_status v_now v_told v_merges v_taped v_size v_from v_to v_fault v_readFault v_traits v_length v_open v_leaks v_places v_models)), ((am 10), .inl (cA 3, 200, .inl f_tape))]) hP hD hS hA [0, 1] (by decide) rfl
            refine va_callv (va_runV (As := []) (rest := []) ⟨hx, hb, hml, hown, hts⟩ (k_X9_next l dC dI cA H.size am v_status v_now v_told v_merges v_taped v_size v_from v_to v_fault v_readFault v_traits v_length v_open v_leaks v_places v_models f_tape i_v_now i_v_told i_v_taped i_v_size i_v_from i_v_to i_v_traits i_v_length i_v_open i_v_places i_v_models (by omega)) (cwV 0 hts gX9_number_X9_next rfl rfl rfl (by decide +kernel) ⟨Nat.le_of_ble_eq_true rfl, Nat.le_of_ble_eq_true rfl⟩) ⟨fun a U g mk q => by obtain ⟨q0, q1, qP, qK, qD, qN⟩ := q; exact ⟨q0, q1, qP, va_K.moved (u := U) (U := U.calling g mk a) (Vm.Alike.refl U.vm) qK, qD, qN.same rfl⟩, va_recv hK hPc (ci := 9) (q0 := 0) rfl rfl, fun U hU hW => ⟨rfl, by rw [hU], by rw [hU]; exact hPc, va_K.moved hW.alike hK, hDc.weaken (fun _ _ _ _ => trivial), hN.warm hW⟩⟩ rfl rfl hl.1 rfl (lv_room (Nat.le_of_ble_eq_true rfl)) dX9_number_88 ⟨Nat.le_of_ble_eq_true rfl, Nat.le_of_ble_eq_true rfl⟩) hS (fun q _ h => hFc q h) hFc (fun u_14 t H1 locs ht hvm hw_15 hB hz1 hk1 hS => ?_)
            obtain ⟨w_16, w_17⟩ := u_14
            try dsimp only at hw_15 hB
            obtain ⟨iv_18, iv_19, po_20, tk_21, ad_22⟩ := hw_15
            obtain ⟨hP1, hD1⟩ := hB
            rw [ht] at hP1
            obtain ⟨hP, hD⟩ := va_join (wr := []) (w1 := [((am 0), .inr (9, F9 am v_status v_now v_told v_merges v_taped v_size w_16 w_17 v_fault v_readFault v_traits v_length v_open v_leaks v_places v_models)), ((am 10), .inl (cA 3, 200, .inl f_tape))]) hP hD [0, 1] [] hCc rfl (by decide) (by decide) hk1 hFc hP1 hD1
            clear hz1
            generalize H1 = H at hP hS ⊢
            refine lv_lload_n hx hb dX9_number_91 rfl (lv_at hl 1 rfl) ?_
            obtain ⟨x_23, ex_23⟩ : ∃ y : Int32, y = v2.toInt32 := ⟨_, rfl⟩
            refine lv_l2i (v := x_23) hx hb dX9_number_92 ex_23.symm ?_
            have dx_23 : x_23.toInt = v2.toInt := jL_i ex_23 (by omega) (by omega)
            obtain ⟨hP9, hD9⟩ := va_pd (ws' := [((am 0), .inr (9, F9 am v_status v_now v_told v_merges v_taped v_size w_16 w_17 v_fault v_readFault v_traits v_length v_open v_leaks v_places v_models)), ((am 10), .inl (cA 3, 200, .inl f_tape))]) hP hD [0, 1] (by decide) rfl
            subst hQe
            have hans : (x_23 : Int32).toInt = x_23.toInt := rfl
            have hpost : (0 ≤ w_16.toInt ∧ w_16.toInt ≤ 200) ∧ (0 ≤ w_17.toInt ∧ w_17.toInt ≤ 200) ∧ (v_from.toInt ≤ w_16.toInt ∧ w_16.toInt ≤ w_17.toInt ∧ w_17.toInt ≤ v_size.toInt ∧ (w_16.toInt < v_size.toInt → w_16.toInt < w_17.toInt) ∧ (v_readFault.toInt = (-1) → v_from.toInt < w_16.toInt ∧ 0 ≤ (x_23 : Int32).toInt ∧ (x_23 : Int32).toInt ≤ mx.toInt)) ∧ (tokOK f_tape w_16 w_17 v_size) ∧ (nmR (tpe f_tape v_size) v_size.toInt mx.toInt v_from.toInt v_to.toInt (v_readFault.toInt = (-1)) (x_23 : Int32).toInt w_16.toInt w_17.toInt v_readFault.toInt) := ⟨iv_18, iv_19, by omega, tk_21, ⟨fun _ => ⟨(rn_ok (rnI_eq hv4_29 (by omega : k4.toInt = v_to.toInt)) (by omega) hdd9 (by omega)).1, (by have h9 := (rn_ok (rnI_eq hv4_29 (by omega : k4.toInt = v_to.toInt)) (by omega) hdd9 (by omega)).2; omega), ad_22.1, ad_22.2⟩, fun h => by exfalso; omega⟩⟩
            exact W.iret (v := x_23) hx hb hr (fun t ht hW => ⟨⟨x_23, (w_16, w_17, v_readFault), rfl, hpost, by rw [ht]; exact hP9, hD9⟩, hS.F ht⟩) hS.2.2 dX9_number_93
          · have dc_13 : 0 < k_12.toInt := jI_nle c_13 rfl (by decide)
            refine lv_aload_n hx hb dX9_number_81 rfl (lv_at hl 2 rfl) ?_
            obtain ⟨hPc, hDc, hFc, hCc⟩ := va_pre (ws' := [((am 0), .inr (9, F9 am v_status v_now v_told v_merges v_taped v_size v_from v_to v_fault v_readFault v_traits v_length v_open v_leaks v_places v_models))]) hP hD hS hA [0] (by decide) rfl
            refine va_callv (va_runV (As := []) (rest := []) ⟨hx, hb, hml, hown, hts⟩ (k_X9_faults l dC dI cA H.size am v_status v_now v_told v_merges v_taped v_size v_from v_to v_fault v_readFault v_traits v_length v_open v_leaks v_places v_models i_v_now i_v_told i_v_taped i_v_size i_v_from i_v_to i_v_traits i_v_length i_v_open i_v_places i_v_models hgd) (cwV 0 hts gX9_number_X9_faults rfl rfl rfl (by decide +kernel) ⟨Nat.le_of_ble_eq_true rfl, Nat.le_of_ble_eq_true rfl⟩) ⟨fun a U g mk q => by obtain ⟨q0, q1, qP, qK, qD, qN⟩ := q; exact ⟨q0, q1, qP, va_K.moved (u := U) (U := U.calling g mk a) (Vm.Alike.refl U.vm) qK, qD, qN.same rfl⟩, va_recv hK hPc (ci := 9) (q0 := 0) rfl rfl, fun U hU hW => ⟨rfl, by rw [hU], by rw [hU]; exact hPc, va_K.moved hW.alike hK, hDc.weaken (fun _ _ _ _ => trivial), hN.warm hW⟩⟩ rfl rfl hl.1 rfl (lv_room (Nat.le_of_ble_eq_true rfl)) dX9_number_82 ⟨Nat.le_of_ble_eq_true rfl, Nat.le_of_ble_eq_true rfl⟩) hS (fun q _ h => hFc q h) hFc (fun u_24 t H1 locs ht hvm hw_25 hB hz1 hk1 hS => ?_)
            obtain ⟨w_26, rfl⟩ : ∃ z, z = u_24 := ⟨_, rfl⟩
            try dsimp only at hw_25 hB
            have po_27 := hw_25
            clear hw_25
            obtain ⟨hP1, hD1⟩ := hB
            rw [ht] at hP1
            obtain ⟨hP, hD⟩ := va_join (wr := [((am 10), .inl (cA 3, 200, .inl f_tape))]) (w1 := [((am 0), .inr (9, F9 am v_status v_now v_told v_merges v_taped v_size v_from v_to v_fault w_26 v_traits v_length v_open v_leaks v_places v_models))]) hP hD [0] [1] hCc rfl (by decide) (by decide) hk1 hFc hP1 hD1
            clear hz1
            generalize H1 = H at hP hS ⊢
            refine lv_iconst (v := 0) hx hb dX9_number_85 (by decide) ?_
            obtain ⟨hP9, hD9⟩ := va_pd (ws' := [((am 0), .inr (9, F9 am v_status v_now v_told v_merges v_taped v_size v_from v_to v_fault w_26 v_traits v_length v_open v_leaks v_places v_models)), ((am 10), .inl (cA 3, 200, .inl f_tape))]) hP hD [1, 0] (by decide) rfl
            subst hQe
            have hans : (0 : Int32).toInt = 0 := (by decide)
            have hpost : (0 ≤ v_from.toInt ∧ v_from.toInt ≤ 200) ∧ (0 ≤ v_to.toInt ∧ v_to.toInt ≤ 200) ∧ (v_from.toInt ≤ v_from.toInt ∧ v_from.toInt ≤ v_to.toInt ∧ v_to.toInt ≤ v_size.toInt ∧ (v_from.toInt < v_size.toInt → v_from.toInt < v_to.toInt) ∧ (w_26.toInt = (-1) → v_from.toInt < v_from.toInt ∧ 0 ≤ (0 : Int32).toInt ∧ (0 : Int32).toInt ≤ mx.toInt)) ∧ (tokOK f_tape v_from v_to v_size) ∧ (nmR (tpe f_tape v_size) v_size.toInt mx.toInt v_from.toInt v_to.toInt (w_26.toInt = (-1)) (0 : Int32).toInt v_from.toInt v_to.toInt w_26.toInt) := ⟨i_v_from, i_v_to, by omega, htk, ⟨fun h => by exfalso; omega, fun _ => ⟨rn_bad (rnI_eq hv4_29 (by omega : k4.toInt = v_to.toInt)) (by omega), by omega⟩⟩⟩
            exact W.iret (v := 0) hx hb hr (fun t ht hW => ⟨⟨0, (v_from, v_to, w_26), rfl, hpost, by rw [ht]; exact hP9, hD9⟩, hS.F ht⟩) hS.2.2 dX9_number_86
        · have dc_10 : k4.toInt < v_to.toInt := jI_nle c_10 rfl rfl
          refine lv_lload_n hx hb dX9_number_38 rfl (lv_at hl 1 rfl) ?_
          refine lv_iload_n hx hb dX9_number_39 rfl (lv_at hl 3 rfl) ?_
          obtain ⟨y_28, ey_28⟩ : ∃ y : Int64, y = mx.toInt64 := ⟨_, rfl⟩
          have dy_28 : y_28.toInt = mx.toInt := by rw [ey_28]; exact Int32.toInt_toInt64 _
          refine lv_i2l (v := y_28) hx hb dX9_number_40 ey_28.symm ?_
          refine W.lcmp hx hb dX9_number_41 ?_
          refine lv_topi (fun k_29 ek_29 => ?_)
          have dk_29 : (k_29.toInt < 0 ↔ v2.toInt < y_28.toInt) ∧ (k_29.toInt = 0 ↔ v2.toInt = y_28.toInt) ∧ (0 < k_29.toInt ↔ y_28.toInt < v2.toInt) := jI_cmp ek_29 rfl rfl
          refine lv_if_le (tgt := 49) hx hb dX9_number_42 (by decide) (fun c_30 => ?_) (fun c_30 => ?_)
          · have dc_30 : k_29.toInt ≤ 0 := jI_le c_30 rfl (by decide)
            refine lv_ldc2 hx hb hown (hts (.constantLong RX9 190 (10)) (by decide +kernel)) dX9_number_49 ?_
            refine lv_lload_n hx hb dX9_number_52 rfl (lv_at hl 1 rfl) ?_
            refine lv_lmul hx hb dX9_number_53 ?_
            refine lv_topl (fun y_31 ey_31 => ?_)
            have dy_31 : y_31.toInt = 10 * v2.toInt := by rw [ey_31]; exact jL_mul (by decide) rfl (by omega) (by omega)
            refine lv_aload_n hx hb dX9_number_54 rfl (lv_at hl 2 rfl) ?_
            refine va_get (D := (dC, dI)) (ci := 9) (v := .ref (am 10)) (C := RX9) (T := TX9) (N := 51) hx hb hts hIX9 hown hK hP 0 rfl rfl 13 (by decide) (hts (.fieldLink RX9 38 "TraitHouseModel" "tape" "[B") (by decide +kernel)) (fun _ h9 => h9) rfl dX9_number_55 ?_
            refine lv_iload hx hb dX9_number_58 (lv_at hl 0 rfl) ?_
            have hdg9 := htk (by have := po_6; omega) ⟨by have := po_6; have hk1 : (48 : Int32).toInt = 48 := rfl; omega, by have := po_6; have hk2 : (57 : Int32).toInt = 57 := rfl; omega⟩ k4.toNatClampNeg (by have : k4.toNatClampNeg = k4.toInt.toNat := rfl; omega) (by have : k4.toNatClampNeg = k4.toInt.toNat := rfl; omega)
            have h_32 : vp_in k4 200 := (vp_in_iff.mpr ⟨by omega, by omega⟩)
            refine va_bald hx hb hK hP 1 3 rfl rfl h_32 dX9_number_60 ?_
            refine lv_topi (fun x_33 ex_33 => ?_)
            rw [← ex_33] at hdg9
            have hdg8 := hdg9.1
            have hdg7 := hdg9.2
            obtain ⟨y_34, ey_34⟩ : ∃ y : Int64, y = x_33.toInt64 := ⟨_, rfl⟩
            have dy_34 : y_34.toInt = x_33.toInt := by rw [ey_34]; exact Int32.toInt_toInt64 _
            refine lv_i2l (v := y_34) hx hb dX9_number_61 ey_34.symm ?_
            refine lv_ladd hx hb dX9_number_62 ?_
            refine lv_topl (fun y_35 ey_35 => ?_)
            have dy_35 : y_35.toInt = y_31.toInt + y_34.toInt := by rw [ey_35]; exact jL_add rfl rfl (by omega) (by omega)
            refine lv_ldc2 hx hb hown (hts (.constantLong RX9 192 (48)) (by decide +kernel)) dX9_number_63 ?_
            refine lv_lsub hx hb dX9_number_66 ?_
            refine lv_topl (fun y_36 ey_36 => ?_)
            have dy_36 : y_36.toInt = y_35.toInt - 48 := by rw [ey_36]; exact jL_sub rfl (by decide) (by omega) (by omega)
            refine lv_lstore_n (lv' := [(2, .long y_36), (4, .int k4), (0, .ref (am 0)), (1, .int mx)]) hx hb dX9_number_67 rfl hl (by decide) rfl (fun ls hl => ?_)
            obtain ⟨x_37, ex_37⟩ : ∃ y : Int32, y = k4 + 1 := ⟨_, rfl⟩
            have dx_37 : x_37.toInt = k4.toInt + 1 := by rw [ex_37]; exact jI_add rfl (by decide) (by omega) (by omega)
            refine lv_iinc (v := x_37) (lv' := [(4, .int x_37), (2, .long y_36), (0, .ref (am 0)), (1, .int mx)]) hx hb dX9_number_68 hl (k := 1) rfl (by rw [ex_37]; rfl) (by decide) rfl (fun ls hl => ?_)
            refine lv_goto (tgt := 29) hx hb dX9_number_71 (by decide) ?_
            exact ih_29 x_37 y_36 _ _ ls (by omega) (by omega) (by omega) (by omega) (by omega) (rn_s hv4_29 (by omega) (by omega) (by omega) (by omega) (by omega) ex_33 hdg9 (by omega)) (hP.sub [0, 1] rfl) (hD.sub [0, 1] (by decide) rfl) hS (lv_sub hl [0, 1, 2, 3] rfl)
          · have dc_30 : 0 < k_29.toInt := jI_nle c_30 rfl (by decide)
            refine lv_lload_n hx hb dX9_number_45 rfl (lv_at hl 1 rfl) ?_
            refine lv_goto (tgt := 67) hx hb dX9_number_46 (by decide) ?_
            refine lv_lstore_n (lv' := [(2, .long v2), (4, .int k4), (0, .ref (am 0)), (1, .int mx)]) hx hb dX9_number_67 rfl hl (by decide) rfl (fun ls hl => ?_)
            obtain ⟨x_38, ex_38⟩ : ∃ y : Int32, y = k4 + 1 := ⟨_, rfl⟩
            have dx_38 : x_38.toInt = k4.toInt + 1 := by rw [ex_38]; exact jI_add rfl (by decide) (by omega) (by omega)
            refine lv_iinc (v := x_38) (lv' := [(4, .int x_38), (2, .long v2), (0, .ref (am 0)), (1, .int mx)]) hx hb dX9_number_68 hl (k := 1) rfl (by rw [ex_38]; rfl) (by decide) rfl (fun ls hl => ?_)
            refine lv_goto (tgt := 29) hx hb dX9_number_71 (by decide) ?_
            exact ih_29 x_38 v2 _ _ ls (by omega) (by omega) hv1_29 (by omega) (by omega) (rn_k hv4_29 (by omega) (by omega) hal9 (by omega) (by omega)) (hP.sub [0, 1] rfl) (hD.sub [0, 1] (by decide) rfl) hS (lv_sub hl [0, 1, 2, 3] rfl)
    have hk_39 : (0 : Int64).toInt = 0 := by decide
    exact loop29_9 (Int.toNat (200 - (v_from : Int32).toInt) + 1) v_from 0 _ _ ls (by omega) i_v_from (by omega) (by omega) (by omega) (rn_0 rfl (by decide) (by omega)) hP hD hS (lv_sub hl [0, 1, 2, 3] rfl)
  · have dc_8 : r_3.toInt = 0 := jI_eq c_8 rfl (by decide)
    replace po_6 := dg_n po_6 dc_8
    refine lv_aload_n hx hb dX9_number_15 rfl (lv_at hl 0 rfl) ?_
    obtain ⟨hPc, hDc, hFc, hCc⟩ := va_pre (ws' := [((am 0), .inr (9, F9 am v_status v_now v_told v_merges v_taped v_size v_from v_to v_fault v_readFault v_traits v_length v_open v_leaks v_places v_models))]) hP hD hS hA [0] (by decide) rfl
    refine va_callv (va_runV (As := []) (rest := []) ⟨hx, hb, hml, hown, hts⟩ (k_X9_faults l dC dI cA H.size am v_status v_now v_told v_merges v_taped v_size v_from v_to v_fault v_readFault v_traits v_length v_open v_leaks v_places v_models i_v_now i_v_told i_v_taped i_v_size i_v_from i_v_to i_v_traits i_v_length i_v_open i_v_places i_v_models hgd) (cwV 0 hts gX9_number_X9_faults rfl rfl rfl (by decide +kernel) ⟨Nat.le_of_ble_eq_true rfl, Nat.le_of_ble_eq_true rfl⟩) ⟨fun a U g mk q => by obtain ⟨q0, q1, qP, qK, qD, qN⟩ := q; exact ⟨q0, q1, qP, va_K.moved (u := U) (U := U.calling g mk a) (Vm.Alike.refl U.vm) qK, qD, qN.same rfl⟩, va_recv hK hPc (ci := 9) (q0 := 0) rfl rfl, fun U hU hW => ⟨rfl, by rw [hU], by rw [hU]; exact hPc, va_K.moved hW.alike hK, hDc.weaken (fun _ _ _ _ => trivial), hN.warm hW⟩⟩ rfl rfl hl.1 rfl (lv_room (Nat.le_of_ble_eq_true rfl)) dX9_number_16 ⟨Nat.le_of_ble_eq_true rfl, Nat.le_of_ble_eq_true rfl⟩) hS (fun q _ h => hFc q h) hFc (fun u_40 t H1 locs ht hvm hw_41 hB hz1 hk1 hS => ?_)
    obtain ⟨w_42, rfl⟩ : ∃ z, z = u_40 := ⟨_, rfl⟩
    try dsimp only at hw_41 hB
    have po_43 := hw_41
    clear hw_41
    obtain ⟨hP1, hD1⟩ := hB
    rw [ht] at hP1
    obtain ⟨hP, hD⟩ := va_join (wr := [((am 10), .inl (cA 3, 200, .inl f_tape))]) (w1 := [((am 0), .inr (9, F9 am v_status v_now v_told v_merges v_taped v_size v_from v_to v_fault w_42 v_traits v_length v_open v_leaks v_places v_models))]) hP hD [0] [1] hCc rfl (by decide) (by decide) hk1 hFc hP1 hD1
    clear hz1
    generalize H1 = H at hP hS ⊢
    refine lv_iconst (v := 0) hx hb dX9_number_19 (by decide) ?_
    obtain ⟨hP9, hD9⟩ := va_pd (ws' := [((am 0), .inr (9, F9 am v_status v_now v_told v_merges v_taped v_size v_from v_to v_fault w_42 v_traits v_length v_open v_leaks v_places v_models)), ((am 10), .inl (cA 3, 200, .inl f_tape))]) hP hD [1, 0] (by decide) rfl
    subst hQe
    have hans : (0 : Int32).toInt = 0 := (by decide)
    have hpost : (0 ≤ v_from.toInt ∧ v_from.toInt ≤ 200) ∧ (0 ≤ v_to.toInt ∧ v_to.toInt ≤ 200) ∧ (v_from.toInt ≤ v_from.toInt ∧ v_from.toInt ≤ v_to.toInt ∧ v_to.toInt ≤ v_size.toInt ∧ (v_from.toInt < v_size.toInt → v_from.toInt < v_to.toInt) ∧ (w_42.toInt = (-1) → v_from.toInt < v_from.toInt ∧ 0 ≤ (0 : Int32).toInt ∧ (0 : Int32).toInt ≤ mx.toInt)) ∧ (tokOK f_tape v_from v_to v_size) ∧ (nmR (tpe f_tape v_size) v_size.toInt mx.toInt v_from.toInt v_to.toInt (w_42.toInt = (-1)) (0 : Int32).toInt v_from.toInt v_to.toInt w_42.toInt) := ⟨i_v_from, i_v_to, by omega, htk, ⟨fun h => by exfalso; omega, fun _ => ⟨fun q => absurd (tp_7.mpr q.1) (by omega), by omega⟩⟩⟩
    exact W.iret (v := 0) hx hb hr (fun t ht hW => ⟨⟨0, (v_from, v_to, w_42), rfl, hpost, by rw [ht]; exact hP9, hD9⟩, hS.F ht⟩) hS.2.2 dX9_number_20

set_option maxHeartbeats 8000000 in
set_option maxRecDepth 100000 in
theorem k_X9_puts (l : Launch) (dC : Nat → ClassId) (dI : Nat → Nat → Nat) (cA : Nat → ClassId) (sz : Nat) (am : Nat → Nat) (v_status : Int32) (v_now : Int32) (v_told : Int32) (v_merges : Int32) (v_taped : Int32) (v_size : Int32) (v_from : Int32) (v_to : Int32) (v_fault : Int32) (v_readFault : Int32) (v_traits : Int32) (v_length : Int32) (v_open : Int32) (v_leaks : Int32) (v_places : Int32) (v_models : Int32) (f_step : Nat → Int32) (f_stepA : Nat → Int32) (f_stepB : Nat → Int32) (f_stepC : Nat → Int32) (cd : Int32) (xx : Int32) (yy : Int32) (zz : Int32) (i_v_now : 0 ≤ v_now.toInt ∧ v_now.toInt ≤ 100000) (i_v_told : 0 ≤ v_told.toInt ∧ v_told.toInt ≤ 400) (i_v_taped : 0 ≤ v_taped.toInt ∧ v_taped.toInt ≤ 200) (i_v_size : 0 ≤ v_size.toInt ∧ v_size.toInt ≤ 200) (i_v_from : 0 ≤ v_from.toInt ∧ v_from.toInt ≤ 200) (i_v_to : 0 ≤ v_to.toInt ∧ v_to.toInt ≤ 200) (i_v_traits : 0 ≤ v_traits.toInt ∧ v_traits.toInt ≤ 20) (i_v_length : 0 ≤ v_length.toInt ∧ v_length.toInt ≤ 200) (i_v_open : 0 ≤ v_open.toInt ∧ v_open.toInt ≤ 8) (i_v_places : 0 ≤ v_places.toInt ∧ v_places.toInt ≤ 2000) (i_v_models : 0 ≤ v_models.toInt ∧ v_models.toInt ≤ 10) (htr : v_traits.toInt ≤ 19) (hln : v_length.toInt ≤ 199) : Met l yX9_puts wsX9_puts ({ frames := 0, cells := 0, slots := 0, locals := 0 }) (va_Pc [.ref (am 0), .int cd, .int xx, .int yy, .int zz] (fun U => U.heap.size = sz ∧ va_P (dC, dI) vwCl [((am 0), .inr (9, F9 am v_status v_now v_told v_merges v_taped v_size v_from v_to v_fault v_readFault v_traits v_length v_open v_leaks v_places v_models)), ((am 13), .inl (cA 0, 5000, .inl f_step)), ((am 14), .inl (cA 0, 5000, .inl f_stepA)), ((am 15), .inl (cA 0, 5000, .inl f_stepB)), ((am 16), .inl (cA 0, 5000, .inl f_stepC))] U.heap ∧ va_K (dC, dI) vwCl (tyL cA) U ∧ va_D (fun _ => True) [((am 0), .inr (9, F9 am v_status v_now v_told v_merges v_taped v_size v_from v_to v_fault v_readFault v_traits v_length v_open v_leaks v_places v_models)), ((am 13), .inl (cA 0, 5000, .inl f_step)), ((am 14), .inl (cA 0, 5000, .inl f_stepA)), ((am 15), .inl (cA 0, 5000, .inl f_stepB)), ((am 16), .inl (cA 0, 5000, .inl f_stepC))] ∧ nw_ok U)) (va_Qv (fun (u : Int32 × (Nat → Int32) × (Nat → Int32) × (Nat → Int32) × (Nat → Int32)) => (0 ≤ u.1.toInt ∧ u.1.toInt ≤ 200) ∧ (u.1.toInt = v_length.toInt + 1) ∧ (u.2.1 = upd f_step (250 * v_traits.toInt.toNat + v_length.toInt.toNat) cd) ∧ (u.2.2.1 = upd f_stepA (250 * v_traits.toInt.toNat + v_length.toInt.toNat) xx)) (fun (u : Int32 × (Nat → Int32) × (Nat → Int32) × (Nat → Int32) × (Nat → Int32)) (t : State) => va_P (dC, dI) vwCl [((am 0), .inr (9, F9 am v_status v_now v_told v_merges v_taped v_size v_from v_to v_fault v_readFault v_traits u.1 v_open v_leaks v_places v_models)), ((am 13), .inl (cA 0, 5000, .inl u.2.1)), ((am 14), .inl (cA 0, 5000, .inl u.2.2.1)), ((am 15), .inl (cA 0, 5000, .inl u.2.2.2.1)), ((am 16), .inl (cA 0, 5000, .inl u.2.2.2.2))] t.heap ∧ va_D (va_A [((am 0), .inr (9, F9 am v_status v_now v_told v_merges v_taped v_size v_from v_to v_fault v_readFault v_traits v_length v_open v_leaks v_places v_models)), ((am 13), .inl (cA 0, 5000, .inl f_step)), ((am 14), .inl (cA 0, 5000, .inl f_stepA)), ((am 15), .inl (cA 0, 5000, .inl f_stepB)), ((am 16), .inl (cA 0, 5000, .inl f_stepC))] sz) [((am 0), .inr (9, F9 am v_status v_now v_told v_merges v_taped v_size v_from v_to v_fault v_readFault v_traits u.1 v_open v_leaks v_places v_models)), ((am 13), .inl (cA 0, 5000, .inl u.2.1)), ((am 14), .inl (cA 0, 5000, .inl u.2.2.1)), ((am 15), .inl (cA 0, 5000, .inl u.2.2.2.1)), ((am 16), .inl (cA 0, 5000, .inl u.2.2.2.2))]) (va_A [((am 0), .inr (9, F9 am v_status v_now v_told v_merges v_taped v_size v_from v_to v_fault v_readFault v_traits v_length v_open v_leaks v_places v_models)), ((am 13), .inl (cA 0, 5000, .inl f_step)), ((am 14), .inl (cA 0, 5000, .inl f_stepA)), ((am 15), .inl (cA 0, 5000, .inl f_stepB)), ((am 16), .inl (cA 0, 5000, .inl f_stepC))] sz)) 0 0 (va_A [((am 0), .inr (9, F9 am v_status v_now v_told v_merges v_taped v_size v_from v_to v_fault v_readFault v_traits v_length v_open v_leaks v_places v_models)), ((am 13), .inl (cA 0, 5000, .inl f_step)), ((am 14), .inl (cA 0, 5000, .inl f_stepA)), ((am 15), .inl (cA 0, 5000, .inl f_stepB)), ((am 16), .inl (cA 0, 5000, .inl f_stepC))] sz) := by
  refine Met.ofW (cc := cX9_puts) (maxL := 6) (ret := none) (by decide) rfl ?_
  intro p e s m args below meth c s₁ B hml hv
  obtain ⟨rfl, hsz, hP, hK, hD0, hN⟩ := hv
  have hx := B.exec
  have hb := B.bytes
  have hr := B.returns
  have hts := atoms_spec (ws := wsX9_puts) B.pre
  have hown : s.vm.findClass RX9 = some m.cls := findClass_of_methodNamed B.named
  have hlocks := B.notSynchronized
  subst hsz
  have hD := hD0.self (sz := s.heap.size)
  generalize hAe : va_A [((am 0), .inr (9, F9 am v_status v_now v_told v_merges v_taped v_size v_from v_to v_fault v_readFault v_traits v_length v_open v_leaks v_places v_models)), ((am 13), .inl (cA 0, 5000, .inl f_step)), ((am 14), .inl (cA 0, 5000, .inl f_stepA)), ((am 15), .inl (cA 0, 5000, .inl f_stepB)), ((am 16), .inl (cA 0, 5000, .inl f_stepC))] s.heap.size = A at hD ⊢
  have hA : ∀ q : Nat, s.heap.size ≤ q → A q := fun q h => by rw [← hAe]; exact Or.inr h
  have hS : va_S A s.heap s.heap [] := va_S.rf
  have hIX9 : ∀ w ∈ u_ws RX9 TX9 51, w ∈ wsX9_puts := by decide +kernel
  have hl := lv_entry ([.ref (am 0), .int cd, .int xx, .int yy, .int zz]) (n := 6) (Nat.le_of_ble_eq_true rfl)
  rw [lg_entry_eq]
  generalize (lg_sl ([.ref (am 0), .int cd, .int xx, .int yy, .int zz]) ++ List.replicate (6 - (lg_sl ([.ref (am 0), .int cd, .int xx, .int yy, .int zz])).length) Slot.unset).toArray = ls at hl ⊢
  have hl : lv_has ls 6 [(0, .ref (am 0)), (1, .int cd), (2, .int xx), (3, .int yy), (4, .int zz)] := hl
  generalize hQe : MQ below _ _ _ _ _ _ = QQ
  refine lv_sipush (v := 250) hx hb dX9_puts_0 (by decide) ?_
  refine lv_aload_n hx hb dX9_puts_3 rfl (lv_at hl 0 rfl) ?_
  refine va_get (D := (dC, dI)) (ci := 9) (v := .int v_traits) (C := RX9) (T := TX9) (N := 51) hx hb hts hIX9 hown hK hP 0 rfl rfl 21 (by decide) (hts (.fieldLink RX9 197 "TraitHouseModel" "traits" "I") (by decide +kernel)) (fun _ h9 => h9) rfl dX9_puts_4 ?_
  refine lv_imul hx hb dX9_puts_7 ?_
  refine lv_topi (fun x_1 ex_1 => ?_)
  have dx_1 : x_1.toInt = 250 * v_traits.toInt := by rw [ex_1]; exact jI_mul (by decide) rfl (by omega) (by omega)
  refine lv_aload_n hx hb dX9_puts_8 rfl (lv_at hl 0 rfl) ?_
  refine va_get (D := (dC, dI)) (ci := 9) (v := .int v_length) (C := RX9) (T := TX9) (N := 51) hx hb hts hIX9 hown hK hP 0 rfl rfl 22 (by decide) (hts (.fieldLink RX9 200 "TraitHouseModel" "length" "I") (by decide +kernel)) (fun _ h9 => h9) rfl dX9_puts_9 ?_
  refine lv_iadd hx hb dX9_puts_12 ?_
  refine lv_topi (fun x_2 ex_2 => ?_)
  have dx_2 : x_2.toInt = x_1.toInt + v_length.toInt := by rw [ex_2]; exact jI_add rfl rfl (by omega) (by omega)
  refine lv_istore (lv' := [(5, .int x_2), (0, .ref (am 0)), (1, .int cd), (2, .int xx), (3, .int yy), (4, .int zz)]) hx hb dX9_puts_13 hl (by decide) rfl (fun ls hl => ?_)
  refine lv_aload_n hx hb dX9_puts_15 rfl (lv_at hl 1 rfl) ?_
  refine va_get (D := (dC, dI)) (ci := 9) (v := .ref (am 13)) (C := RX9) (T := TX9) (N := 51) hx hb hts hIX9 hown hK hP 0 rfl rfl 26 (by decide) (hts (.fieldLink RX9 52 "TraitHouseModel" "step" "[I") (by decide +kernel)) (fun _ h9 => h9) rfl dX9_puts_16 ?_
  refine lv_iload hx hb dX9_puts_19 (lv_at hl 0 rfl) ?_
  refine lv_iload_n hx hb dX9_puts_21 rfl (lv_at hl 2 rfl) ?_
  have h_3 : vp_in x_2 5000 := (vp_in_iff.mpr ⟨by omega, by omega⟩)
  refine va_iast hx hb hK hP hD hS 1 0 rfl rfl h_3 dX9_puts_22 (fun H locs hP hD hS => ?_)
  replace hP : va_P (dC, dI) vwCl [((am 0), .inr (9, F9 am v_status v_now v_told v_merges v_taped v_size v_from v_to v_fault v_readFault v_traits v_length v_open v_leaks v_places v_models)), ((am 13), .inl (cA 0, 5000, .inl (upd f_step x_2.toNatClampNeg cd))), ((am 14), .inl (cA 0, 5000, .inl f_stepA)), ((am 15), .inl (cA 0, 5000, .inl f_stepB)), ((am 16), .inl (cA 0, 5000, .inl f_stepC))] H := hP
  replace hD : va_D A [((am 0), .inr (9, F9 am v_status v_now v_told v_merges v_taped v_size v_from v_to v_fault v_readFault v_traits v_length v_open v_leaks v_places v_models)), ((am 13), .inl (cA 0, 5000, .inl (upd f_step x_2.toNatClampNeg cd))), ((am 14), .inl (cA 0, 5000, .inl f_stepA)), ((am 15), .inl (cA 0, 5000, .inl f_stepB)), ((am 16), .inl (cA 0, 5000, .inl f_stepC))] := hD
  obtain ⟨g_4, eg_4⟩ : ∃ g : Nat → Int32, g = upd f_step x_2.toNatClampNeg cd := ⟨_, rfl⟩
  rw [← eg_4] at hP hD
  refine lv_aload_n hx hb dX9_puts_23 rfl (lv_at hl 1 rfl) ?_
  refine va_get (D := (dC, dI)) (ci := 9) (v := .ref (am 14)) (C := RX9) (T := TX9) (N := 51) hx hb hts hIX9 hown hK hP 0 rfl rfl 27 (by decide) (hts (.fieldLink RX9 55 "TraitHouseModel" "stepA" "[I") (by decide +kernel)) (fun _ h9 => h9) rfl dX9_puts_24 ?_
  refine lv_iload hx hb dX9_puts_27 (lv_at hl 0 rfl) ?_
  refine lv_iload_n hx hb dX9_puts_29 rfl (lv_at hl 3 rfl) ?_
  have h_5 : vp_in x_2 5000 := (vp_in_iff.mpr ⟨by omega, by omega⟩)
  refine va_iast hx hb hK hP hD hS 2 0 rfl rfl h_5 dX9_puts_30 (fun H locs hP hD hS => ?_)
  replace hP : va_P (dC, dI) vwCl [((am 0), .inr (9, F9 am v_status v_now v_told v_merges v_taped v_size v_from v_to v_fault v_readFault v_traits v_length v_open v_leaks v_places v_models)), ((am 13), .inl (cA 0, 5000, .inl g_4)), ((am 14), .inl (cA 0, 5000, .inl (upd f_stepA x_2.toNatClampNeg xx))), ((am 15), .inl (cA 0, 5000, .inl f_stepB)), ((am 16), .inl (cA 0, 5000, .inl f_stepC))] H := hP
  replace hD : va_D A [((am 0), .inr (9, F9 am v_status v_now v_told v_merges v_taped v_size v_from v_to v_fault v_readFault v_traits v_length v_open v_leaks v_places v_models)), ((am 13), .inl (cA 0, 5000, .inl g_4)), ((am 14), .inl (cA 0, 5000, .inl (upd f_stepA x_2.toNatClampNeg xx))), ((am 15), .inl (cA 0, 5000, .inl f_stepB)), ((am 16), .inl (cA 0, 5000, .inl f_stepC))] := hD
  obtain ⟨g_6, eg_6⟩ : ∃ g : Nat → Int32, g = upd f_stepA x_2.toNatClampNeg xx := ⟨_, rfl⟩
  rw [← eg_6] at hP hD
  refine lv_aload_n hx hb dX9_puts_31 rfl (lv_at hl 1 rfl) ?_
  refine va_get (D := (dC, dI)) (ci := 9) (v := .ref (am 15)) (C := RX9) (T := TX9) (N := 51) hx hb hts hIX9 hown hK hP 0 rfl rfl 28 (by decide) (hts (.fieldLink RX9 58 "TraitHouseModel" "stepB" "[I") (by decide +kernel)) (fun _ h9 => h9) rfl dX9_puts_32 ?_
  refine lv_iload hx hb dX9_puts_35 (lv_at hl 0 rfl) ?_
  refine lv_iload_n hx hb dX9_puts_37 rfl (lv_at hl 4 rfl) ?_
  have h_7 : vp_in x_2 5000 := (vp_in_iff.mpr ⟨by omega, by omega⟩)
  refine va_iast hx hb hK hP hD hS 3 0 rfl rfl h_7 dX9_puts_38 (fun H locs hP hD hS => ?_)
  replace hP : va_P (dC, dI) vwCl [((am 0), .inr (9, F9 am v_status v_now v_told v_merges v_taped v_size v_from v_to v_fault v_readFault v_traits v_length v_open v_leaks v_places v_models)), ((am 13), .inl (cA 0, 5000, .inl g_4)), ((am 14), .inl (cA 0, 5000, .inl g_6)), ((am 15), .inl (cA 0, 5000, .inl (upd f_stepB x_2.toNatClampNeg yy))), ((am 16), .inl (cA 0, 5000, .inl f_stepC))] H := hP
  replace hD : va_D A [((am 0), .inr (9, F9 am v_status v_now v_told v_merges v_taped v_size v_from v_to v_fault v_readFault v_traits v_length v_open v_leaks v_places v_models)), ((am 13), .inl (cA 0, 5000, .inl g_4)), ((am 14), .inl (cA 0, 5000, .inl g_6)), ((am 15), .inl (cA 0, 5000, .inl (upd f_stepB x_2.toNatClampNeg yy))), ((am 16), .inl (cA 0, 5000, .inl f_stepC))] := hD
  obtain ⟨g_8, eg_8⟩ : ∃ g : Nat → Int32, g = upd f_stepB x_2.toNatClampNeg yy := ⟨_, rfl⟩
  rw [← eg_8] at hP hD
  refine lv_aload_n hx hb dX9_puts_39 rfl (lv_at hl 1 rfl) ?_
  refine va_get (D := (dC, dI)) (ci := 9) (v := .ref (am 16)) (C := RX9) (T := TX9) (N := 51) hx hb hts hIX9 hown hK hP 0 rfl rfl 29 (by decide) (hts (.fieldLink RX9 61 "TraitHouseModel" "stepC" "[I") (by decide +kernel)) (fun _ h9 => h9) rfl dX9_puts_40 ?_
  refine lv_iload hx hb dX9_puts_43 (lv_at hl 0 rfl) ?_
  refine lv_iload hx hb dX9_puts_45 (lv_at hl 5 rfl) ?_
  have h_9 : vp_in x_2 5000 := (vp_in_iff.mpr ⟨by omega, by omega⟩)
  refine va_iast hx hb hK hP hD hS 4 0 rfl rfl h_9 dX9_puts_47 (fun H locs hP hD hS => ?_)
  replace hP : va_P (dC, dI) vwCl [((am 0), .inr (9, F9 am v_status v_now v_told v_merges v_taped v_size v_from v_to v_fault v_readFault v_traits v_length v_open v_leaks v_places v_models)), ((am 13), .inl (cA 0, 5000, .inl g_4)), ((am 14), .inl (cA 0, 5000, .inl g_6)), ((am 15), .inl (cA 0, 5000, .inl g_8)), ((am 16), .inl (cA 0, 5000, .inl (upd f_stepC x_2.toNatClampNeg zz)))] H := hP
  replace hD : va_D A [((am 0), .inr (9, F9 am v_status v_now v_told v_merges v_taped v_size v_from v_to v_fault v_readFault v_traits v_length v_open v_leaks v_places v_models)), ((am 13), .inl (cA 0, 5000, .inl g_4)), ((am 14), .inl (cA 0, 5000, .inl g_6)), ((am 15), .inl (cA 0, 5000, .inl g_8)), ((am 16), .inl (cA 0, 5000, .inl (upd f_stepC x_2.toNatClampNeg zz)))] := hD
  obtain ⟨g_10, eg_10⟩ : ∃ g : Nat → Int32, g = upd f_stepC x_2.toNatClampNeg zz := ⟨_, rfl⟩
  rw [← eg_10] at hP hD
  refine lv_aload_n hx hb dX9_puts_48 rfl (lv_at hl 1 rfl) ?_
  refine lv_dup hx hb dX9_puts_49 rfl ?_
  refine va_get (D := (dC, dI)) (ci := 9) (v := .int v_length) (C := RX9) (T := TX9) (N := 51) hx hb hts hIX9 hown hK hP 0 rfl rfl 22 (by decide) (hts (.fieldLink RX9 200 "TraitHouseModel" "length" "I") (by decide +kernel)) (fun _ h9 => h9) rfl dX9_puts_50 ?_
  refine lv_iconst (v := 1) hx hb dX9_puts_53 (by decide) ?_
  refine lv_iadd hx hb dX9_puts_54 ?_
  refine lv_topi (fun x_11 ex_11 => ?_)
  have dx_11 : x_11.toInt = v_length.toInt + 1 := by rw [ex_11]; exact jI_add rfl (by decide) (by omega) (by omega)
  refine va_put (D := (dC, dI)) (ci := 9) (v := .int x_11) (ty := .int) (C := RX9) (T := TX9) (N := 51) hx hb hts hIX9 tyX9 tyX9_ok nmX9 hown hK hP hD hS 0 rfl rfl 22 (by decide) (hts (.fieldLink RX9 200 "TraitHouseModel" "length" "I") (by decide +kernel)) (fun _ h9 => h9) rfl (by decide +kernel) rfl rfl (Nat.le_of_ble_eq_true rfl) dX9_puts_55 (fun H locs hP hD hS => ?_)
  replace hP : va_P (dC, dI) vwCl [((am 0), .inr (9, F9 am v_status v_now v_told v_merges v_taped v_size v_from v_to v_fault v_readFault v_traits x_11 v_open v_leaks v_places v_models)), ((am 13), .inl (cA 0, 5000, .inl g_4)), ((am 14), .inl (cA 0, 5000, .inl g_6)), ((am 15), .inl (cA 0, 5000, .inl g_8)), ((am 16), .inl (cA 0, 5000, .inl g_10))] H := hP
  replace hD : va_D A [((am 0), .inr (9, F9 am v_status v_now v_told v_merges v_taped v_size v_from v_to v_fault v_readFault v_traits x_11 v_open v_leaks v_places v_models)), ((am 13), .inl (cA 0, 5000, .inl g_4)), ((am 14), .inl (cA 0, 5000, .inl g_6)), ((am 15), .inl (cA 0, 5000, .inl g_8)), ((am 16), .inl (cA 0, 5000, .inl g_10))] := hD
  obtain ⟨hP9, hD9⟩ := va_pd (ws' := [((am 0), .inr (9, F9 am v_status v_now v_told v_merges v_taped v_size v_from v_to v_fault v_readFault v_traits x_11 v_open v_leaks v_places v_models)), ((am 13), .inl (cA 0, 5000, .inl g_4)), ((am 14), .inl (cA 0, 5000, .inl g_6)), ((am 15), .inl (cA 0, 5000, .inl g_8)), ((am 16), .inl (cA 0, 5000, .inl g_10))]) hP hD [0, 1, 2, 3, 4] (by decide) rfl
  subst hQe
  have hpost : (0 ≤ x_11.toInt ∧ x_11.toInt ≤ 200) ∧ (x_11.toInt = v_length.toInt + 1) ∧ (g_4 = upd f_step (250 * v_traits.toInt.toNat + v_length.toInt.toNat) cd) ∧ (g_6 = upd f_stepA (250 * v_traits.toInt.toNat + v_length.toInt.toNat) xx) := ⟨by omega, by omega, by rw [eg_4, puts_ix (t := v_traits) (l := v_length) (by omega) (by omega) (by omega)], by rw [eg_6, puts_ix (t := v_traits) (l := v_length) (by omega) (by omega) (by omega)]⟩
  exact W.vret hx hb hr (fun t ht hW => ⟨⟨(x_11, g_4, g_6, g_8, g_10), rfl, hpost, by rw [ht]; exact hP9, hD9⟩, hS.F ht⟩) hS.2.2 dX9_puts_58
