theorem dX2_isLetterAt_0 : decode cX2_isLetterAt 0 = .ok (.iload_n 1, 1) := by decide +kernel
theorem dX2_isLetterAt_1 : decode cX2_isLetterAt 1 = .ok (.aload_n 0, 1) := by decide +kernel
theorem dX2_isLetterAt_2 : decode cX2_isLetterAt 2 = .ok (.getfield 17, 3) := by decide +kernel
theorem dX2_isLetterAt_5 : decode cX2_isLetterAt 5 = .ok (.getfield 51, 3) := by decide +kernel
theorem dX2_isLetterAt_8 : decode cX2_isLetterAt 8 = .ok (.if_icmp .ge 35, 3) := by decide +kernel
theorem dX2_isLetterAt_43 : decode cX2_isLetterAt 43 = .ok (.iconst 0, 1) := by decide +kernel
theorem dX2_isLetterAt_44 : decode cX2_isLetterAt 44 = .ok (.ireturn, 1) := by decide +kernel
theorem dX2_isLetterAt_11 : decode cX2_isLetterAt 11 = .ok (.aload_n 0, 1) := by decide +kernel
theorem dX2_isLetterAt_12 : decode cX2_isLetterAt 12 = .ok (.getfield 17, 3) := by decide +kernel
theorem dX2_isLetterAt_15 : decode cX2_isLetterAt 15 = .ok (.getfield 135, 3) := by decide +kernel
theorem dX2_isLetterAt_18 : decode cX2_isLetterAt 18 = .ok (.iload_n 1, 1) := by decide +kernel
theorem dX2_isLetterAt_19 : decode cX2_isLetterAt 19 = .ok (.iaload, 1) := by decide +kernel
theorem dX2_isLetterAt_20 : decode cX2_isLetterAt 20 = .ok (.bipush 97, 2) := by decide +kernel
theorem dX2_isLetterAt_22 : decode cX2_isLetterAt 22 = .ok (.if_icmp .lt 21, 3) := by decide +kernel
theorem dX2_isLetterAt_25 : decode cX2_isLetterAt 25 = .ok (.aload_n 0, 1) := by decide +kernel
theorem dX2_isLetterAt_26 : decode cX2_isLetterAt 26 = .ok (.getfield 17, 3) := by decide +kernel
theorem dX2_isLetterAt_29 : decode cX2_isLetterAt 29 = .ok (.getfield 135, 3) := by decide +kernel
theorem dX2_isLetterAt_32 : decode cX2_isLetterAt 32 = .ok (.iload_n 1, 1) := by decide +kernel
theorem dX2_isLetterAt_33 : decode cX2_isLetterAt 33 = .ok (.iaload, 1) := by decide +kernel
theorem dX2_isLetterAt_34 : decode cX2_isLetterAt 34 = .ok (.bipush 122, 2) := by decide +kernel
theorem dX2_isLetterAt_36 : decode cX2_isLetterAt 36 = .ok (.if_icmp .gt 7, 3) := by decide +kernel
theorem dX2_isLetterAt_39 : decode cX2_isLetterAt 39 = .ok (.iconst 1, 1) := by decide +kernel
theorem dX2_isLetterAt_40 : decode cX2_isLetterAt 40 = .ok (.goto 4, 3) := by decide +kernel
theorem dX2_isDigitAt_0 : decode cX2_isDigitAt 0 = .ok (.iload_n 1, 1) := by decide +kernel
theorem dX2_isDigitAt_1 : decode cX2_isDigitAt 1 = .ok (.aload_n 0, 1) := by decide +kernel
theorem dX2_isDigitAt_2 : decode cX2_isDigitAt 2 = .ok (.getfield 17, 3) := by decide +kernel
theorem dX2_isDigitAt_5 : decode cX2_isDigitAt 5 = .ok (.getfield 51, 3) := by decide +kernel
theorem dX2_isDigitAt_8 : decode cX2_isDigitAt 8 = .ok (.if_icmp .ge 35, 3) := by decide +kernel
theorem dX2_isDigitAt_43 : decode cX2_isDigitAt 43 = .ok (.iconst 0, 1) := by decide +kernel
theorem dX2_isDigitAt_44 : decode cX2_isDigitAt 44 = .ok (.ireturn, 1) := by decide +kernel
theorem dX2_isDigitAt_11 : decode cX2_isDigitAt 11 = .ok (.aload_n 0, 1) := by decide +kernel
theorem dX2_isDigitAt_12 : decode cX2_isDigitAt 12 = .ok (.getfield 17, 3) := by decide +kernel
theorem dX2_isDigitAt_15 : decode cX2_isDigitAt 15 = .ok (.getfield 135, 3) := by decide +kernel
theorem dX2_isDigitAt_18 : decode cX2_isDigitAt 18 = .ok (.iload_n 1, 1) := by decide +kernel
theorem dX2_isDigitAt_19 : decode cX2_isDigitAt 19 = .ok (.iaload, 1) := by decide +kernel
theorem dX2_isDigitAt_20 : decode cX2_isDigitAt 20 = .ok (.bipush 48, 2) := by decide +kernel
theorem dX2_isDigitAt_22 : decode cX2_isDigitAt 22 = .ok (.if_icmp .lt 21, 3) := by decide +kernel
theorem dX2_isDigitAt_25 : decode cX2_isDigitAt 25 = .ok (.aload_n 0, 1) := by decide +kernel
theorem dX2_isDigitAt_26 : decode cX2_isDigitAt 26 = .ok (.getfield 17, 3) := by decide +kernel
theorem dX2_isDigitAt_29 : decode cX2_isDigitAt 29 = .ok (.getfield 135, 3) := by decide +kernel
theorem dX2_isDigitAt_32 : decode cX2_isDigitAt 32 = .ok (.iload_n 1, 1) := by decide +kernel
theorem dX2_isDigitAt_33 : decode cX2_isDigitAt 33 = .ok (.iaload, 1) := by decide +kernel
theorem dX2_isDigitAt_34 : decode cX2_isDigitAt 34 = .ok (.bipush 57, 2) := by decide +kernel
theorem dX2_isDigitAt_36 : decode cX2_isDigitAt 36 = .ok (.if_icmp .gt 7, 3) := by decide +kernel
theorem dX2_isDigitAt_39 : decode cX2_isDigitAt 39 = .ok (.iconst 1, 1) := by decide +kernel
theorem dX2_isDigitAt_40 : decode cX2_isDigitAt 40 = .ok (.goto 4, 3) := by decide +kernel
theorem dX2_stop_0 : decode cX2_stop 0 = .ok (.aload_n 0, 1) := by decide +kernel
theorem dX2_stop_1 : decode cX2_stop 1 = .ok (.aload_n 0, 1) := by decide +kernel
theorem dX2_stop_2 : decode cX2_stop 2 = .ok (.getfield 48, 3) := by decide +kernel
theorem dX2_stop_5 : decode cX2_stop 5 = .ok (.putfield 31, 3) := by decide +kernel
theorem dX2_stop_8 : decode cX2_stop 8 = .ok (.iconst 0, 1) := by decide +kernel
theorem dX2_stop_9 : decode cX2_stop 9 = .ok (.ireturn, 1) := by decide +kernel
theorem dX2_advance_0 : decode cX2_advance 0 = .ok (.aload_n 0, 1) := by decide +kernel
theorem dX2_advance_1 : decode cX2_advance 1 = .ok (.aload_n 0, 1) := by decide +kernel
theorem dX2_advance_2 : decode cX2_advance 2 = .ok (.getfield 25, 3) := by decide +kernel
theorem dX2_advance_5 : decode cX2_advance 5 = .ok (.putfield 48, 3) := by decide +kernel
theorem dX2_advance_8 : decode cX2_advance 8 = .ok (.aload_n 0, 1) := by decide +kernel
theorem dX2_advance_9 : decode cX2_advance 9 = .ok (.getfield 48, 3) := by decide +kernel
theorem dX2_advance_12 : decode cX2_advance 12 = .ok (.aload_n 0, 1) := by decide +kernel
theorem dX2_advance_13 : decode cX2_advance 13 = .ok (.getfield 17, 3) := by decide +kernel
theorem dX2_advance_16 : decode cX2_advance 16 = .ok (.getfield 51, 3) := by decide +kernel
theorem dX2_advance_19 : decode cX2_advance 19 = .ok (.if_icmp .ge 33, 3) := by decide +kernel
theorem dX2_advance_52 : decode cX2_advance 52 = .ok (.aload_n 0, 1) := by decide +kernel
theorem dX2_advance_53 : decode cX2_advance 53 = .ok (.aload_n 0, 1) := by decide +kernel
theorem dX2_advance_54 : decode cX2_advance 54 = .ok (.getfield 48, 3) := by decide +kernel
theorem dX2_advance_57 : decode cX2_advance 57 = .ok (.iconst 1, 1) := by decide +kernel
theorem dX2_advance_58 : decode cX2_advance 58 = .ok (.iadd, 1) := by decide +kernel
theorem dX2_advance_59 : decode cX2_advance 59 = .ok (.aload_n 0, 1) := by decide +kernel
theorem dX2_advance_60 : decode cX2_advance 60 = .ok (.getfield 17, 3) := by decide +kernel
theorem dX2_advance_63 : decode cX2_advance 63 = .ok (.getfield 51, 3) := by decide +kernel
theorem dX2_advance_66 : decode cX2_advance 66 = .ok (.invokestatic 150, 3) := by decide +kernel
theorem dX2_advance_69 : decode cX2_advance 69 = .ok (.putfield 25, 3) := by decide +kernel
theorem dX2_advance_72 : decode cX2_advance 72 = .ok (.aload_n 0, 1) := by decide +kernel
theorem dX2_advance_73 : decode cX2_advance 73 = .ok (.aload_n 0, 1) := by decide +kernel
theorem dX2_advance_74 : decode cX2_advance 74 = .ok (.getfield 48, 3) := by decide +kernel
set_option maxRecDepth 20000 in
theorem ggX2_advance_X2_isLetterAt : GoodIn wsX2_advance wsX2_isLetterAt := goodIn_r _ [12, 3, 17, 18, 19, 20, 21, 22, 23, 24, 25, 26, 27] (by decide +kernel) (by decide +kernel)
set_option maxRecDepth 20000 in
theorem gX2_advance_X2_isLetterAt : GoodIn wsX2_advance (wsV RX2 156 RX2 yX2_isLetterAt wsX2_isLetterAt) := goodIn_app (goodIn_of _ (by decide +kernel)) ggX2_advance_X2_isLetterAt
theorem dX2_advance_77 : decode cX2_advance 77 = .ok (.invokevirtual 156, 3) := by decide +kernel
theorem dX2_advance_80 : decode cX2_advance 80 = .ok (.istore_n 1, 1) := by decide +kernel
theorem dX2_advance_81 : decode cX2_advance 81 = .ok (.aload_n 0, 1) := by decide +kernel
theorem dX2_advance_82 : decode cX2_advance 82 = .ok (.aload_n 0, 1) := by decide +kernel
theorem dX2_advance_83 : decode cX2_advance 83 = .ok (.getfield 48, 3) := by decide +kernel
set_option maxRecDepth 20000 in
theorem ggX2_advance_X2_isDigitAt : GoodIn wsX2_advance wsX2_isDigitAt := goodIn_r _ [16, 3, 17, 18, 19, 20, 21, 22, 23, 24, 25, 26, 27] (by decide +kernel) (by decide +kernel)
set_option maxRecDepth 20000 in
theorem gX2_advance_X2_isDigitAt : GoodIn wsX2_advance (wsV RX2 90 RX2 yX2_isDigitAt wsX2_isDigitAt) := goodIn_app (goodIn_of _ (by decide +kernel)) ggX2_advance_X2_isDigitAt
theorem dX2_advance_86 : decode cX2_advance 86 = .ok (.invokevirtual 90, 3) := by decide +kernel
theorem dX2_advance_89 : decode cX2_advance 89 = .ok (.istore_n 2, 1) := by decide +kernel
theorem dX2_advance_90 : decode cX2_advance 90 = .ok (.aload_n 0, 1) := by decide +kernel
theorem dX2_advance_91 : decode cX2_advance 91 = .ok (.getfield 25, 3) := by decide +kernel
theorem dX2_advance_94 : decode cX2_advance 94 = .ok (.aload_n 0, 1) := by decide +kernel
theorem dX2_advance_95 : decode cX2_advance 95 = .ok (.getfield 17, 3) := by decide +kernel
theorem dX2_advance_98 : decode cX2_advance 98 = .ok (.getfield 51, 3) := by decide +kernel
theorem dX2_advance_101 : decode cX2_advance 101 = .ok (.if_icmp .ge 46, 3) := by decide +kernel
theorem dX2_advance_147 : decode cX2_advance 147 = .ok (.return_, 1) := by decide +kernel
theorem dX2_advance_104 : decode cX2_advance 104 = .ok (.iload_n 1, 1) := by decide +kernel
theorem dX2_advance_105 : decode cX2_advance 105 = .ok (.ifCond .eq 14, 3) := by decide +kernel
theorem dX2_advance_119 : decode cX2_advance 119 = .ok (.iload_n 2, 1) := by decide +kernel
theorem dX2_advance_120 : decode cX2_advance 120 = .ok (.ifCond .eq 27, 3) := by decide +kernel
theorem dX2_advance_123 : decode cX2_advance 123 = .ok (.aload_n 0, 1) := by decide +kernel
theorem dX2_advance_124 : decode cX2_advance 124 = .ok (.aload_n 0, 1) := by decide +kernel
theorem dX2_advance_125 : decode cX2_advance 125 = .ok (.getfield 25, 3) := by decide +kernel
theorem dX2_advance_128 : decode cX2_advance 128 = .ok (.invokevirtual 90, 3) := by decide +kernel
theorem dX2_advance_131 : decode cX2_advance 131 = .ok (.ifCond .eq 16, 3) := by decide +kernel
theorem dX2_advance_134 : decode cX2_advance 134 = .ok (.aload_n 0, 1) := by decide +kernel
theorem dX2_advance_135 : decode cX2_advance 135 = .ok (.dup, 1) := by decide +kernel
theorem dX2_advance_136 : decode cX2_advance 136 = .ok (.getfield 25, 3) := by decide +kernel
theorem dX2_advance_139 : decode cX2_advance 139 = .ok (.iconst 1, 1) := by decide +kernel
theorem dX2_advance_140 : decode cX2_advance 140 = .ok (.iadd, 1) := by decide +kernel
theorem dX2_advance_141 : decode cX2_advance 141 = .ok (.putfield 25, 3) := by decide +kernel
theorem dX2_advance_144 : decode cX2_advance 144 = .ok (.goto (-54), 3) := by decide +kernel
theorem dX2_advance_108 : decode cX2_advance 108 = .ok (.aload_n 0, 1) := by decide +kernel
theorem dX2_advance_109 : decode cX2_advance 109 = .ok (.aload_n 0, 1) := by decide +kernel
theorem dX2_advance_110 : decode cX2_advance 110 = .ok (.getfield 25, 3) := by decide +kernel
theorem dX2_advance_113 : decode cX2_advance 113 = .ok (.invokevirtual 156, 3) := by decide +kernel
theorem dX2_advance_116 : decode cX2_advance 116 = .ok (.ifCond .ne 18, 3) := by decide +kernel
theorem dX2_advance_22 : decode cX2_advance 22 = .ok (.aload_n 0, 1) := by decide +kernel
theorem dX2_advance_23 : decode cX2_advance 23 = .ok (.getfield 17, 3) := by decide +kernel
theorem dX2_advance_26 : decode cX2_advance 26 = .ok (.getfield 135, 3) := by decide +kernel
theorem dX2_advance_29 : decode cX2_advance 29 = .ok (.aload_n 0, 1) := by decide +kernel
theorem dX2_advance_30 : decode cX2_advance 30 = .ok (.getfield 48, 3) := by decide +kernel
theorem dX2_advance_33 : decode cX2_advance 33 = .ok (.iaload, 1) := by decide +kernel
theorem dX2_advance_34 : decode cX2_advance 34 = .ok (.bipush 32, 2) := by decide +kernel
theorem dX2_advance_36 : decode cX2_advance 36 = .ok (.if_icmp .ne 16, 3) := by decide +kernel
theorem dX2_advance_39 : decode cX2_advance 39 = .ok (.aload_n 0, 1) := by decide +kernel
theorem dX2_advance_40 : decode cX2_advance 40 = .ok (.dup, 1) := by decide +kernel
theorem dX2_advance_41 : decode cX2_advance 41 = .ok (.getfield 48, 3) := by decide +kernel
theorem dX2_advance_44 : decode cX2_advance 44 = .ok (.iconst 1, 1) := by decide +kernel
theorem dX2_advance_45 : decode cX2_advance 45 = .ok (.iadd, 1) := by decide +kernel
theorem dX2_advance_46 : decode cX2_advance 46 = .ok (.putfield 48, 3) := by decide +kernel
theorem dX2_advance_49 : decode cX2_advance 49 = .ok (.goto (-41), 3) := by decide +kernel
theorem dX2_isAt_0 : decode cX2_isAt 0 = .ok (.aload_n 1, 1) := by decide +kernel
set_option maxRecDepth 20000 in
theorem ggX2_isAt_J0_length_8abf5 : GoodIn wsX2_isAt wsJ0_length_8abf5 := goodIn_r _ [8, 9, 10, 11, 12, 7, 13, 14, 15] (by decide +kernel) (by decide +kernel)
set_option maxRecDepth 20000 in
theorem gX2_isAt_J0_length_8abf5 : GoodIn wsX2_isAt (wsV RX2 141 RJ0 yJ0_length_8abf5 wsJ0_length_8abf5) := goodIn_app (goodIn_of _ (by decide +kernel)) ggX2_isAt_J0_length_8abf5
theorem dX2_isAt_1 : decode cX2_isAt 1 = .ok (.invokevirtual 141, 3) := by decide +kernel
theorem dX2_isAt_4 : decode cX2_isAt 4 = .ok (.istore_n 2, 1) := by decide +kernel
theorem dX2_isAt_5 : decode cX2_isAt 5 = .ok (.aload_n 0, 1) := by decide +kernel
theorem dX2_isAt_6 : decode cX2_isAt 6 = .ok (.getfield 25, 3) := by decide +kernel
theorem dX2_isAt_9 : decode cX2_isAt 9 = .ok (.aload_n 0, 1) := by decide +kernel
theorem dX2_isAt_10 : decode cX2_isAt 10 = .ok (.getfield 48, 3) := by decide +kernel
theorem dX2_isAt_13 : decode cX2_isAt 13 = .ok (.isub, 1) := by decide +kernel
theorem dX2_isAt_14 : decode cX2_isAt 14 = .ok (.iload_n 2, 1) := by decide +kernel
theorem dX2_isAt_15 : decode cX2_isAt 15 = .ok (.if_icmp .eq 5, 3) := by decide +kernel
theorem dX2_isAt_20 : decode cX2_isAt 20 = .ok (.iconst 0, 1) := by decide +kernel
theorem dX2_isAt_21 : decode cX2_isAt 21 = .ok (.istore_n 3, 1) := by decide +kernel
theorem dX2_isAt_22 : decode cX2_isAt 22 = .ok (.iload_n 3, 1) := by decide +kernel
theorem dX2_isAt_23 : decode cX2_isAt 23 = .ok (.iload_n 2, 1) := by decide +kernel
theorem dX2_isAt_24 : decode cX2_isAt 24 = .ok (.if_icmp .ge 33, 3) := by decide +kernel
theorem dX2_isAt_57 : decode cX2_isAt 57 = .ok (.iconst 1, 1) := by decide +kernel
theorem dX2_isAt_58 : decode cX2_isAt 58 = .ok (.ireturn, 1) := by decide +kernel
theorem dX2_isAt_27 : decode cX2_isAt 27 = .ok (.aload_n 0, 1) := by decide +kernel
theorem dX2_isAt_28 : decode cX2_isAt 28 = .ok (.getfield 17, 3) := by decide +kernel
theorem dX2_isAt_31 : decode cX2_isAt 31 = .ok (.getfield 135, 3) := by decide +kernel
theorem dX2_isAt_34 : decode cX2_isAt 34 = .ok (.aload_n 0, 1) := by decide +kernel
theorem dX2_isAt_35 : decode cX2_isAt 35 = .ok (.getfield 48, 3) := by decide +kernel
theorem dX2_isAt_38 : decode cX2_isAt 38 = .ok (.iload_n 3, 1) := by decide +kernel
theorem dX2_isAt_39 : decode cX2_isAt 39 = .ok (.iadd, 1) := by decide +kernel
theorem dX2_isAt_40 : decode cX2_isAt 40 = .ok (.iaload, 1) := by decide +kernel
theorem dX2_isAt_41 : decode cX2_isAt 41 = .ok (.aload_n 1, 1) := by decide +kernel
theorem dX2_isAt_42 : decode cX2_isAt 42 = .ok (.iload_n 3, 1) := by decide +kernel
set_option maxRecDepth 20000 in
theorem ggX2_isAt_J0_charAt_5068e : GoodIn wsX2_isAt wsJ0_charAt_5068e := goodIn_r _ [19, 9, 20, 21, 22, 7, 23, 14, 15, 24, 25, 26, 27, 28, 29, 30, 31, 32, 33, 34, 35, 36, 37, 38, 39, 40, 41, 42, 43, 44, 45, 46, 47, 48, 49, 50, 51, 52] (by decide +kernel) (by decide +kernel)
set_option maxRecDepth 20000 in
theorem gX2_isAt_J0_charAt_5068e : GoodIn wsX2_isAt (wsV RX2 146 RJ0 yJ0_charAt_5068e wsJ0_charAt_5068e) := goodIn_app (goodIn_of _ (by decide +kernel)) ggX2_isAt_J0_charAt_5068e
theorem dX2_isAt_43 : decode cX2_isAt 43 = .ok (.invokevirtual 146, 3) := by decide +kernel
theorem dX2_isAt_46 : decode cX2_isAt 46 = .ok (.if_icmp .eq 5, 3) := by decide +kernel
theorem dX2_isAt_51 : decode cX2_isAt 51 = .ok (.iinc 3 1, 3) := by decide +kernel
theorem dX2_isAt_54 : decode cX2_isAt 54 = .ok (.goto (-32), 3) := by decide +kernel
theorem dX2_isAt_49 : decode cX2_isAt 49 = .ok (.iconst 0, 1) := by decide +kernel
theorem dX2_isAt_50 : decode cX2_isAt 50 = .ok (.ireturn, 1) := by decide +kernel
theorem dX2_isAt_18 : decode cX2_isAt 18 = .ok (.iconst 0, 1) := by decide +kernel
theorem dX2_isAt_19 : decode cX2_isAt 19 = .ok (.ireturn, 1) := by decide +kernel
theorem dX2_kindAt_0 : decode cX2_kindAt 0 = .ok (.aload_n 0, 1) := by decide +kernel
theorem dX2_kindAt_1 : decode cX2_kindAt 1 = .ok (.ldc 120, 2) := by decide +kernel
set_option maxRecDepth 20000 in
theorem ggX2_kindAt_X2_isAt : GoodIn wsX2_kindAt wsX2_isAt := goodIn_r _ [5, 6, 7, 8, 9, 10, 11, 12, 13, 14, 15, 16, 17, 18, 19, 20, 21, 22, 23, 24, 25, 26, 27, 28, 29, 30, 31, 32, 33, 34, 35, 36, 37, 38, 39, 40, 41, 42, 43, 44, 45, 46, 47, 48, 49, 50, 51, 52, 53, 54, 55, 56, 57, 58, 59, 60, 61, 62, 63, 64, 65, 66, 67, 68] (by decide +kernel) (by decide +kernel)
set_option maxRecDepth 20000 in
theorem gX2_kindAt_X2_isAt : GoodIn wsX2_kindAt (wsV RX2 63 RX2 yX2_isAt wsX2_isAt) := goodIn_app (goodIn_of _ (by decide +kernel)) ggX2_kindAt_X2_isAt
theorem dX2_kindAt_3 : decode cX2_kindAt 3 = .ok (.invokevirtual 63, 3) := by decide +kernel
theorem dX2_kindAt_6 : decode cX2_kindAt 6 = .ok (.ifCond .eq 5, 3) := by decide +kernel
theorem dX2_kindAt_11 : decode cX2_kindAt 11 = .ok (.aload_n 0, 1) := by decide +kernel
theorem dX2_kindAt_12 : decode cX2_kindAt 12 = .ok (.ldc 122, 2) := by decide +kernel
theorem dX2_kindAt_14 : decode cX2_kindAt 14 = .ok (.invokevirtual 63, 3) := by decide +kernel
theorem dX2_kindAt_17 : decode cX2_kindAt 17 = .ok (.ifCond .eq 5, 3) := by decide +kernel
theorem dX2_kindAt_22 : decode cX2_kindAt 22 = .ok (.aload_n 0, 1) := by decide +kernel
theorem dX2_kindAt_23 : decode cX2_kindAt 23 = .ok (.ldc 124, 2) := by decide +kernel
theorem dX2_kindAt_25 : decode cX2_kindAt 25 = .ok (.invokevirtual 63, 3) := by decide +kernel
theorem dX2_kindAt_28 : decode cX2_kindAt 28 = .ok (.ifCond .eq 5, 3) := by decide +kernel
theorem dX2_kindAt_33 : decode cX2_kindAt 33 = .ok (.aload_n 0, 1) := by decide +kernel
theorem dX2_kindAt_34 : decode cX2_kindAt 34 = .ok (.ldc 126, 2) := by decide +kernel
theorem dX2_kindAt_36 : decode cX2_kindAt 36 = .ok (.invokevirtual 63, 3) := by decide +kernel
theorem dX2_kindAt_39 : decode cX2_kindAt 39 = .ok (.ifCond .eq 5, 3) := by decide +kernel
theorem dX2_kindAt_44 : decode cX2_kindAt 44 = .ok (.aload_n 0, 1) := by decide +kernel
theorem dX2_kindAt_45 : decode cX2_kindAt 45 = .ok (.ldc 128, 2) := by decide +kernel
theorem dX2_kindAt_47 : decode cX2_kindAt 47 = .ok (.invokevirtual 63, 3) := by decide +kernel
theorem dX2_kindAt_50 : decode cX2_kindAt 50 = .ok (.ifCond .eq 5, 3) := by decide +kernel
theorem dX2_kindAt_55 : decode cX2_kindAt 55 = .ok (.aload_n 0, 1) := by decide +kernel
theorem dX2_kindAt_56 : decode cX2_kindAt 56 = .ok (.ldc 130, 2) := by decide +kernel
theorem dX2_kindAt_58 : decode cX2_kindAt 58 = .ok (.invokevirtual 63, 3) := by decide +kernel
theorem dX2_kindAt_61 : decode cX2_kindAt 61 = .ok (.ifCond .eq 6, 3) := by decide +kernel
theorem dX2_kindAt_67 : decode cX2_kindAt 67 = .ok (.aload_n 0, 1) := by decide +kernel
theorem dX2_kindAt_68 : decode cX2_kindAt 68 = .ok (.ldc 132, 2) := by decide +kernel
theorem dX2_kindAt_70 : decode cX2_kindAt 70 = .ok (.invokevirtual 63, 3) := by decide +kernel
theorem dX2_kindAt_73 : decode cX2_kindAt 73 = .ok (.ifCond .eq 8, 3) := by decide +kernel
theorem dX2_kindAt_81 : decode cX2_kindAt 81 = .ok (.iconst (-1), 1) := by decide +kernel
theorem dX2_kindAt_82 : decode cX2_kindAt 82 = .ok (.ireturn, 1) := by decide +kernel
theorem dX2_kindAt_76 : decode cX2_kindAt 76 = .ok (.bipush 7, 2) := by decide +kernel
theorem dX2_kindAt_78 : decode cX2_kindAt 78 = .ok (.goto 4, 3) := by decide +kernel
theorem dX2_kindAt_64 : decode cX2_kindAt 64 = .ok (.bipush 6, 2) := by decide +kernel
theorem dX2_kindAt_66 : decode cX2_kindAt 66 = .ok (.ireturn, 1) := by decide +kernel
theorem dX2_kindAt_53 : decode cX2_kindAt 53 = .ok (.iconst 5, 1) := by decide +kernel
theorem dX2_kindAt_54 : decode cX2_kindAt 54 = .ok (.ireturn, 1) := by decide +kernel
theorem dX2_kindAt_42 : decode cX2_kindAt 42 = .ok (.iconst 4, 1) := by decide +kernel
theorem dX2_kindAt_43 : decode cX2_kindAt 43 = .ok (.ireturn, 1) := by decide +kernel
theorem dX2_kindAt_31 : decode cX2_kindAt 31 = .ok (.iconst 3, 1) := by decide +kernel
theorem dX2_kindAt_32 : decode cX2_kindAt 32 = .ok (.ireturn, 1) := by decide +kernel
theorem dX2_kindAt_20 : decode cX2_kindAt 20 = .ok (.iconst 2, 1) := by decide +kernel
theorem dX2_kindAt_21 : decode cX2_kindAt 21 = .ok (.ireturn, 1) := by decide +kernel
theorem dX2_kindAt_9 : decode cX2_kindAt 9 = .ok (.iconst 1, 1) := by decide +kernel
theorem dX2_kindAt_10 : decode cX2_kindAt 10 = .ok (.ireturn, 1) := by decide +kernel
theorem dX2_take_0 : decode cX2_take 0 = .ok (.aload_n 0, 1) := by decide +kernel
theorem dX2_take_1 : decode cX2_take 1 = .ok (.aload_n 1, 1) := by decide +kernel
set_option maxRecDepth 20000 in
theorem ggX2_take_X2_isAt : GoodIn wsX2_take wsX2_isAt := goodIn_r _ [5, 6, 7, 8, 9, 10, 11, 12, 13, 14, 15, 16, 17, 18, 19, 20, 21, 22, 23, 24, 25, 26, 27, 28, 29, 30, 31, 32, 33, 34, 35, 36, 37, 38, 39, 40, 41, 42, 43, 44, 45, 46, 47, 48, 49, 50, 51, 52, 53, 54, 55, 56, 57, 79, 80, 81, 82, 83, 84, 85, 86, 87, 88, 89] (by decide +kernel) (by decide +kernel)
set_option maxRecDepth 20000 in
theorem gX2_take_X2_isAt : GoodIn wsX2_take (wsV RX2 63 RX2 yX2_isAt wsX2_isAt) := goodIn_app (goodIn_of _ (by decide +kernel)) ggX2_take_X2_isAt
theorem dX2_take_2 : decode cX2_take 2 = .ok (.invokevirtual 63, 3) := by decide +kernel
theorem dX2_take_5 : decode cX2_take 5 = .ok (.ifCond .ne 8, 3) := by decide +kernel
theorem dX2_take_13 : decode cX2_take 13 = .ok (.aload_n 0, 1) := by decide +kernel
set_option maxRecDepth 20000 in
theorem ggX2_take_X2_advance : GoodIn wsX2_take wsX2_advance := goodIn_r _ [66, 6, 7, 8, 67, 68, 69, 70, 71, 72, 73, 4, 74, 75, 76, 77, 78, 79, 80, 81, 82, 83, 84, 85, 86, 87, 88, 89] (by decide +kernel) (by decide +kernel)
set_option maxRecDepth 20000 in
theorem gX2_take_X2_advance : GoodIn wsX2_take (wsV RX2 41 RX2 yX2_advance wsX2_advance) := goodIn_app (goodIn_of _ (by decide +kernel)) ggX2_take_X2_advance
theorem dX2_take_14 : decode cX2_take 14 = .ok (.invokevirtual 41, 3) := by decide +kernel
theorem dX2_take_17 : decode cX2_take 17 = .ok (.iconst 1, 1) := by decide +kernel
theorem dX2_take_18 : decode cX2_take 18 = .ok (.ireturn, 1) := by decide +kernel
theorem dX2_take_8 : decode cX2_take 8 = .ok (.aload_n 0, 1) := by decide +kernel
set_option maxRecDepth 20000 in
theorem ggX2_take_X2_stop : GoodIn wsX2_take wsX2_stop := goodIn_r _ [61, 7, 62, 79, 80, 81, 82, 83, 84, 85, 86, 87] (by decide +kernel) (by decide +kernel)
set_option maxRecDepth 20000 in
theorem gX2_take_X2_stop : GoodIn wsX2_take (wsV RX2 54 RX2 yX2_stop wsX2_stop) := goodIn_app (goodIn_of _ (by decide +kernel)) ggX2_take_X2_stop
theorem dX2_take_9 : decode cX2_take 9 = .ok (.invokevirtual 54, 3) := by decide +kernel
theorem dX2_take_12 : decode cX2_take 12 = .ok (.ireturn, 1) := by decide +kernel
theorem dX2_takeNumber_0 : decode cX2_takeNumber 0 = .ok (.aload_n 0, 1) := by decide +kernel
theorem dX2_takeNumber_1 : decode cX2_takeNumber 1 = .ok (.aload_n 0, 1) := by decide +kernel
theorem dX2_takeNumber_2 : decode cX2_takeNumber 2 = .ok (.getfield 48, 3) := by decide +kernel
set_option maxRecDepth 20000 in
theorem ggX2_takeNumber_X2_isDigitAt : GoodIn wsX2_takeNumber wsX2_isDigitAt := goodIn_r _ [9, 4, 27, 28, 29, 30, 31, 32, 33, 34, 35, 36, 37] (by decide +kernel) (by decide +kernel)
set_option maxRecDepth 20000 in
theorem gX2_takeNumber_X2_isDigitAt : GoodIn wsX2_takeNumber (wsV RX2 90 RX2 yX2_isDigitAt wsX2_isDigitAt) := goodIn_app (goodIn_of _ (by decide +kernel)) ggX2_takeNumber_X2_isDigitAt
theorem dX2_takeNumber_5 : decode cX2_takeNumber 5 = .ok (.invokevirtual 90, 3) := by decide +kernel
theorem dX2_takeNumber_8 : decode cX2_takeNumber 8 = .ok (.ifCond .eq 7, 3) := by decide +kernel
theorem dX2_takeNumber_15 : decode cX2_takeNumber 15 = .ok (.ldc 134, 2) := by decide +kernel
theorem dX2_takeNumber_17 : decode cX2_takeNumber 17 = .ok (.istore_n 2, 1) := by decide +kernel
theorem dX2_takeNumber_18 : decode cX2_takeNumber 18 = .ok (.aload_n 0, 1) := by decide +kernel
theorem dX2_takeNumber_19 : decode cX2_takeNumber 19 = .ok (.getfield 48, 3) := by decide +kernel
theorem dX2_takeNumber_22 : decode cX2_takeNumber 22 = .ok (.istore_n 3, 1) := by decide +kernel
theorem dX2_takeNumber_23 : decode cX2_takeNumber 23 = .ok (.iload_n 3, 1) := by decide +kernel
theorem dX2_takeNumber_24 : decode cX2_takeNumber 24 = .ok (.aload_n 0, 1) := by decide +kernel
theorem dX2_takeNumber_25 : decode cX2_takeNumber 25 = .ok (.getfield 25, 3) := by decide +kernel
theorem dX2_takeNumber_28 : decode cX2_takeNumber 28 = .ok (.if_icmp .ge 33, 3) := by decide +kernel
theorem dX2_takeNumber_61 : decode cX2_takeNumber 61 = .ok (.iload_n 2, 1) := by decide +kernel
theorem dX2_takeNumber_62 : decode cX2_takeNumber 62 = .ok (.iload_n 1, 1) := by decide +kernel
theorem dX2_takeNumber_63 : decode cX2_takeNumber 63 = .ok (.if_icmp .le 10, 3) := by decide +kernel
theorem dX2_takeNumber_73 : decode cX2_takeNumber 73 = .ok (.aload_n 0, 1) := by decide +kernel
set_option maxRecDepth 20000 in
theorem ggX2_takeNumber_X2_advance : GoodIn wsX2_takeNumber wsX2_advance := goodIn_r _ [18, 3, 1, 4, 19, 20, 21, 22, 23, 24, 25, 8, 26, 5, 6, 7, 9, 27, 28, 29, 30, 31, 32, 33, 34, 35, 36, 37] (by decide +kernel) (by decide +kernel)
set_option maxRecDepth 20000 in
theorem gX2_takeNumber_X2_advance : GoodIn wsX2_takeNumber (wsV RX2 41 RX2 yX2_advance wsX2_advance) := goodIn_app (goodIn_of _ (by decide +kernel)) ggX2_takeNumber_X2_advance
theorem dX2_takeNumber_74 : decode cX2_takeNumber 74 = .ok (.invokevirtual 41, 3) := by decide +kernel
theorem dX2_takeNumber_77 : decode cX2_takeNumber 77 = .ok (.iload_n 2, 1) := by decide +kernel
theorem dX2_takeNumber_78 : decode cX2_takeNumber 78 = .ok (.ireturn, 1) := by decide +kernel
theorem dX2_takeNumber_66 : decode cX2_takeNumber 66 = .ok (.aload_n 0, 1) := by decide +kernel
set_option maxRecDepth 20000 in
theorem ggX2_takeNumber_X2_stop : GoodIn wsX2_takeNumber wsX2_stop := goodIn_r _ [13, 1, 14, 27, 28, 29, 30, 31, 32, 33, 34, 35] (by decide +kernel) (by decide +kernel)
set_option maxRecDepth 20000 in
theorem gX2_takeNumber_X2_stop : GoodIn wsX2_takeNumber (wsV RX2 54 RX2 yX2_stop wsX2_stop) := goodIn_app (goodIn_of _ (by decide +kernel)) ggX2_takeNumber_X2_stop
theorem dX2_takeNumber_67 : decode cX2_takeNumber 67 = .ok (.invokevirtual 54, 3) := by decide +kernel
theorem dX2_takeNumber_70 : decode cX2_takeNumber 70 = .ok (.pop, 1) := by decide +kernel
theorem dX2_takeNumber_71 : decode cX2_takeNumber 71 = .ok (.iconst (-1), 1) := by decide +kernel
theorem dX2_takeNumber_72 : decode cX2_takeNumber 72 = .ok (.ireturn, 1) := by decide +kernel
theorem dX2_takeNumber_31 : decode cX2_takeNumber 31 = .ok (.iload_n 2, 1) := by decide +kernel
theorem dX2_takeNumber_32 : decode cX2_takeNumber 32 = .ok (.ldc 134, 2) := by decide +kernel
theorem dX2_takeNumber_34 : decode cX2_takeNumber 34 = .ok (.if_icmp .ge 27, 3) := by decide +kernel
theorem dX2_takeNumber_37 : decode cX2_takeNumber 37 = .ok (.iload_n 2, 1) := by decide +kernel
theorem dX2_takeNumber_38 : decode cX2_takeNumber 38 = .ok (.bipush 10, 2) := by decide +kernel
theorem dX2_takeNumber_40 : decode cX2_takeNumber 40 = .ok (.imul, 1) := by decide +kernel
theorem dX2_takeNumber_41 : decode cX2_takeNumber 41 = .ok (.aload_n 0, 1) := by decide +kernel
theorem dX2_takeNumber_42 : decode cX2_takeNumber 42 = .ok (.getfield 17, 3) := by decide +kernel
theorem dX2_takeNumber_45 : decode cX2_takeNumber 45 = .ok (.getfield 135, 3) := by decide +kernel
theorem dX2_takeNumber_48 : decode cX2_takeNumber 48 = .ok (.iload_n 3, 1) := by decide +kernel
theorem dX2_takeNumber_49 : decode cX2_takeNumber 49 = .ok (.iaload, 1) := by decide +kernel
theorem dX2_takeNumber_50 : decode cX2_takeNumber 50 = .ok (.iadd, 1) := by decide +kernel
theorem dX2_takeNumber_51 : decode cX2_takeNumber 51 = .ok (.bipush 48, 2) := by decide +kernel
theorem dX2_takeNumber_53 : decode cX2_takeNumber 53 = .ok (.isub, 1) := by decide +kernel
theorem dX2_takeNumber_54 : decode cX2_takeNumber 54 = .ok (.istore_n 2, 1) := by decide +kernel
theorem dX2_takeNumber_55 : decode cX2_takeNumber 55 = .ok (.iinc 3 1, 3) := by decide +kernel
theorem dX2_takeNumber_58 : decode cX2_takeNumber 58 = .ok (.goto (-35), 3) := by decide +kernel
theorem dX2_takeNumber_11 : decode cX2_takeNumber 11 = .ok (.iconst 0, 1) := by decide +kernel
theorem dX2_takeNumber_12 : decode cX2_takeNumber 12 = .ok (.goto 5, 3) := by decide +kernel
/-! the reader of the developers' side: the steps that it makes -/
def stq (z z' : Int) (g g' : Nat → Option Nat) (L : List Nat) (f : Nat → va_E) : Prop := z ≤ z' ∧ (∀ j : Nat, (j : Int) < z → g' j = g j) ∧ (∀ j : Nat, z ≤ (j : Int) → (j : Int) < z' → ∃ a, g' j = some a ∧ stepOk L f a) ∧ ∀ a, a ∈ L → stepOk L f a
theorem stq_0 {z : Int} {g : Nat → Option Nat} {f : Nat → va_E} : stq z z g g [] f := ⟨Int.le_refl z, fun _ _ => rfl, fun j h1 h2 => by omega, fun a h => absurd h List.not_mem_nil⟩
theorem step_sub {L L' : List Nat} {f f' : Nat → va_E} {a : Nat} (h : stepOk L f a) (hL : a ∈ L → a ∈ L') (hf : f' a = f a) : stepOk L' f' a := by
  obtain ⟨h1, kd, nb, fr, to, h2, h3⟩ := h
  exact ⟨hL h1, kd, nb, fr, to, hf.trans h2, h3⟩
theorem stq_tr {z z1 z2 : Int} {g g1 g2 : Nat → Option Nat} {L1 L2 : List Nat} {f1 f2 f : Nat → va_E} (h1 : stq z z1 g g1 L1 f1) (h2 : stq z1 z2 g1 g2 L2 f2) (m1 : ∀ a, a ∈ L1 → f a = f1 a) (m2 : ∀ a, a ∈ L2 → f a = f2 a) : stq z z2 g g2 (L1 ++ L2) f := by
  have l1 := h1.1
  have l2 := h2.1
  refine ⟨by omega, fun j hj => (h2.2.1 j (by omega)).trans (h1.2.1 j hj), fun j q1 q2 => ?_, fun a ha => ?_⟩
  · by_cases q : (j : Int) < z1
    · obtain ⟨a, w1, w2⟩ := h1.2.2.1 j q1 q
      exact ⟨a, (h2.2.1 j q).trans w1, step_sub w2 (fun w => List.mem_append_left _ w) (m1 a w2.1)⟩
    · obtain ⟨a, w1, w2⟩ := h2.2.2.1 j (by omega) q2
      exact ⟨a, w1, step_sub w2 (fun w => List.mem_append_right _ w) (m2 a w2.1)⟩
  · rcases List.mem_append.mp ha with w | w
    · exact step_sub (h1.2.2.2 a w) (fun w => List.mem_append_left _ w) (m1 a w)
    · exact step_sub (h2.2.2.2 a w) (fun w => List.mem_append_right _ w) (m2 a w)
theorem va_D_nd {A : Nat → Prop} {ws : va_W} : va_D A ws ↔ (ws.map Prod.fst).Nodup ∧ ∀ q, q ∈ ws → A q.1 := by
  constructor
  · intro h
    refine ⟨?_, fun q hq => by obtain ⟨k, hk⟩ := List.getElem?_of_mem hq; exact h.2 k q hk⟩
    rw [List.nodup_iff_pairwise_ne, List.pairwise_iff_getElem]
    intro i j hi hj hij e
    rw [List.length_map] at hi hj
    rw [List.getElem_map, List.getElem_map] at e
    have := h.1 i j _ _ (List.getElem?_eq_getElem hi) (List.getElem?_eq_getElem hj) e
    omega
  · intro h
    refine ⟨fun i j p q hi hj e => ?_, fun k q hk => h.2 q (List.mem_of_getElem? hk)⟩
    have hn := h.1
    rw [List.nodup_iff_pairwise_ne, List.pairwise_iff_getElem] at hn
    obtain ⟨li, ei⟩ := List.getElem?_eq_some_iff.mp hi
    obtain ⟨lj, ej⟩ := List.getElem?_eq_some_iff.mp hj
    have mi : (ws.map Prod.fst)[i]'(by rw [List.length_map]; exact li) = p.1 := by rw [List.getElem_map, ei]
    have mj : (ws.map Prod.fst)[j]'(by rw [List.length_map]; exact lj) = q.1 := by rw [List.getElem_map, ej]
    rcases Nat.lt_trichotomy i j with w | w | w
    · exact absurd (by rw [mi, mj, e]) (hn i j (by rw [List.length_map]; exact li) (by rw [List.length_map]; exact lj) w)
    · exact w
    · exact absurd (by rw [mi, mj, e]) (hn j i (by rw [List.length_map]; exact lj) (by rw [List.length_map]; exact li) w)
theorem va_P_mem {D : va_G} {cl : List vw_C} {ws ws' : va_W} {H : Heap} (h : va_P D cl ws H) (hm : ∀ q, q ∈ ws' → q ∈ ws) : va_P D cl ws' H := by
  intro k q hk
  obtain ⟨j, hj⟩ := List.getElem?_of_mem (hm q (List.mem_of_getElem? hk))
  exact h j q hj
theorem va_D_perm {A : Nat → Prop} {ws ws' : va_W} (h : va_D A ws) (hp : ws'.Perm ws) : va_D A ws' := by
  rw [va_D_nd] at h ⊢
  exact ⟨(hp.map Prod.fst).nodup_iff.mpr h.1, fun q hq => h.2 q (hp.mem_iff.mp hq)⟩
theorem pl_cong {L : List Nat} {f g : Nat → va_E} (h : ∀ a, a ∈ L → f a = g a) : va_pl L f = va_pl L g := List.map_congr_left (fun a ha => by rw [h a ha])
/-- two pools become one -/
theorem pl_merge {D : va_G} {cl : List vw_C} {A : Nat → Prop} {wr rx : va_W} {L1 L2 : List Nat} {f1 f2 : Nat → va_E} {H : Heap} (hP : va_P D cl ((wr ++ (rx ++ va_pl L2 f2)) ++ va_pl L1 f1) H) (hD : va_D A ((wr ++ (rx ++ va_pl L2 f2)) ++ va_pl L1 f1)) : ∃ f : Nat → va_E, (∀ a, a ∈ L1 → f a = f1 a) ∧ (∀ a, a ∈ L2 → f a = f2 a) ∧ va_P D cl ((wr ++ rx) ++ va_pl (L1 ++ L2) f) H ∧ va_D A ((wr ++ rx) ++ va_pl (L1 ++ L2) f) := by
  have hdis : ∀ a, a ∈ L2 → a ∉ L1 := by
    intro a h2 h1
    have hn := (va_D_nd.mp hD).1
    rw [List.map_append] at hn
    have := (List.nodup_append.mp hn).2.2
    refine this a ?_ a ?_ rfl
    · rw [List.map_append, List.map_append]
      exact List.mem_append_right _ (List.mem_append_right _ (by unfold va_pl; rw [List.map_map]; exact List.mem_map.mpr ⟨a, h2, rfl⟩))
    · unfold va_pl; rw [List.map_map]; exact List.mem_map.mpr ⟨a, h1, rfl⟩
  refine ⟨fun a => if a ∈ L1 then f1 a else f2 a, fun a h => if_pos h, fun a h => if_neg (hdis a h), ?_⟩
  have e : va_pl (L1 ++ L2) (fun a => if a ∈ L1 then f1 a else f2 a) = va_pl L1 f1 ++ va_pl L2 f2 := by
    rw [show va_pl (L1 ++ L2) (fun a => if a ∈ L1 then f1 a else f2 a) = va_pl L1 (fun a => if a ∈ L1 then f1 a else f2 a) ++ va_pl L2 (fun a => if a ∈ L1 then f1 a else f2 a) from List.map_append]
    rw [pl_cong (f := fun a => if a ∈ L1 then f1 a else f2 a) (g := f1) (fun a h => if_pos h), pl_cong (L := L2) (f := fun a => if a ∈ L1 then f1 a else f2 a) (g := f2) (fun a h => if_neg (hdis a h))]
  rw [e]
  have hp : ((wr ++ rx) ++ (va_pl L1 f1 ++ va_pl L2 f2)).Perm ((wr ++ (rx ++ va_pl L2 f2)) ++ va_pl L1 f1) := by
    have a1 : (wr ++ (rx ++ va_pl L2 f2)) ++ va_pl L1 f1 = (wr ++ rx) ++ (va_pl L2 f2 ++ va_pl L1 f1) := by simp only [List.append_assoc]
    rw [a1]
    exact List.Perm.append_left _ List.perm_append_comm
  exact ⟨va_P_mem hP (fun q hq => hp.mem_iff.mp hq), va_D_perm hD hp⟩
theorem na_of {wc : va_W} {H : Heap} {b q : Nat} (h : ∀ (k : Nat) (e : va_E), wc[k]? = some (q, e) → q < b) (h1 : b ≤ q) (h2 : q < H.size) : ¬ va_A wc H.size q := by
  intro z
  rcases z with ⟨k, e, hk⟩ | z
  · have := h k e hk; omega
  · omega
theorem mem4 {a1 a2 a3 a4 q k : Nat} {e1 e2 e3 e4 e : va_E} (h : ([(a1, e1), (a2, e2), (a3, e3), (a4, e4)] : va_W)[k]? = some (q, e)) : q = a1 ∨ q = a2 ∨ q = a3 ∨ q = a4 := by
  have := List.mem_of_getElem? h
  simp only [List.mem_cons, Prod.mk.injEq, List.not_mem_nil, or_false] at this
  rcases this with ⟨h, -⟩ | ⟨h, -⟩ | ⟨h, -⟩ | ⟨h, -⟩
  · exact Or.inl h
  · exact Or.inr (Or.inl h)
  · exact Or.inr (Or.inr (Or.inl h))
  · exact Or.inr (Or.inr (Or.inr h))
theorem stq_1 {z z' : Int} {g g' : Nat → Option Nat} {q : Nat} {i : Int32} {kd nb fr to : Int32} (hi : 0 ≤ i.toInt) (hz : z = i.toInt) (hz' : z' = z + 1) (eg : g' = va_up g i.toNatClampNeg (some q)) (hk : kd.toInt = 1 → 0 ≤ nb.toInt ∧ nb.toInt ≤ 19) : stq z z' g g' [q] (fun _ => .inr (4, [.int kd, .int nb, .int fr, .int to])) := by
  have e : i.toNatClampNeg = i.toInt.toNat := rfl
  have hs : stepOk [q] (fun _ => .inr (4, [.int kd, .int nb, .int fr, .int to])) q := ⟨List.mem_singleton.mpr rfl, kd, nb, fr, to, rfl, hk⟩
  refine ⟨by omega, fun j hj => ?_, fun j h1 h2 => ⟨q, ?_, hs⟩, fun a ha => ?_⟩
  · rw [eg, va_up_ne _ _ (by omega)]
  · rw [eg, show j = i.toNatClampNeg by omega, va_up_self]
  · rw [List.mem_singleton.mp ha]; exact hs

/-! the class's reader and the pure one -/
def advI (g : Int → Int) (z : Int) (p be lt dg : Int32) : Prop := (¬ lt.toInt = 0 → tke g z p.toInt = rl g 97 122 be.toInt) ∧ (¬ dg.toInt = 0 → tke g z p.toInt = rl g 48 57 be.toInt) ∧ (lt.toInt = 0 → dg.toInt = 0 → tke g z p.toInt = be.toInt) ∧ (lt.toInt = 0 ∨ dg.toInt = 0)
theorem adv_start {f : Nat → Int32} {z p be lt dg : Int32} (hz : p.toInt ≤ z.toInt) (hb : be.toInt = min (p.toInt + 1) z.toInt) (h1 : ¬ lt.toInt = 0 ↔ (97 ≤ tpe f z p.toInt ∧ tpe f z p.toInt ≤ 122)) (h2 : ¬ dg.toInt = 0 ↔ (48 ≤ tpe f z p.toInt ∧ tpe f z p.toInt ≤ 57)) : advI (tpe f z) z.toInt p be lt dg := by
  by_cases q : p.toInt < z.toInt
  · have hb1 : be.toInt = p.toInt + 1 := by omega
    refine ⟨fun h => ?_, fun h => ?_, fun h3 h4 => ?_, by omega⟩
    · rw [tke_let q (h1.mp h), hb1]
    · rw [tke_dig q (h2.mp h), hb1]
    · rw [tke_one q (fun w => absurd h3 (h1.mpr w)) (fun w => absurd h4 (h2.mpr w)), hb1]
  · have e0 : tpe f z p.toInt = 0 := tp_out (by omega)
    rw [e0] at h1 h2
    have hl : lt.toInt = 0 := by omega
    have hd : dg.toInt = 0 := by omega
    refine ⟨fun h => absurd hl h, fun h => absurd hd h, fun _ _ => ?_, Or.inl hl⟩
    rw [tke_out q]; omega
theorem adv_back {g : Int → Int} {z : Int} {p be be2 lt dg : Int32} (h : advI g z p be lt dg) (hs : (¬ lt.toInt = 0 ∧ 97 ≤ g be.toInt ∧ g be.toInt ≤ 122) ∨ (¬ dg.toInt = 0 ∧ 48 ≤ g be.toInt ∧ g be.toInt ≤ 57)) (hk : be.toInt < 200) (h2 : be2.toInt = be.toInt + 1) : advI g z p be2 lt dg := by
  obtain ⟨a1, a2, a3, a4⟩ := h
  rcases hs with ⟨q1, q2⟩ | ⟨q1, q2⟩
  · refine ⟨fun w => ?_, fun w => by exfalso; omega, fun w => absurd w q1, a4⟩
    rw [h2, ← rl_step q2 hk]; exact a1 w
  · refine ⟨fun w => by exfalso; omega, fun w => ?_, fun _ w => absurd w q1, a4⟩
    rw [h2, ← rl_step q2 hk]; exact a2 w
theorem adv_end {f : Nat → Int32} {z p be lt dg : Int32} (h : advI (tpe f z) z.toInt p be lt dg) (hx : be.toInt < z.toInt → ¬ ((¬ lt.toInt = 0 ∧ 97 ≤ tpe f z be.toInt ∧ tpe f z be.toInt ≤ 122) ∨ (¬ dg.toInt = 0 ∧ 48 ≤ tpe f z be.toInt ∧ tpe f z be.toInt ≤ 57))) : tke (tpe f z) z.toInt p.toInt = be.toInt := by
  have hx' : ¬ ((¬ lt.toInt = 0 ∧ 97 ≤ tpe f z be.toInt ∧ tpe f z be.toInt ≤ 122) ∨ (¬ dg.toInt = 0 ∧ 48 ≤ tpe f z be.toInt ∧ tpe f z be.toInt ≤ 57)) := by
    by_cases q : be.toInt < z.toInt
    · exact hx q
    · rw [tp_out (by omega)]; omega
  obtain ⟨a1, a2, a3, a4⟩ := h
  by_cases q1 : lt.toInt = 0
  · by_cases q2 : dg.toInt = 0
    · exact a3 q1 q2
    · rw [a2 q2]; exact rl_done (fun w => hx' (Or.inr ⟨q2, w⟩))
  · rw [a1 q1]; exact rl_done (fun w => hx' (Or.inl ⟨q1, w⟩))
def scs (i : Nat) : List Int := (sbyt i).map Int32.toInt
theorem scs_get (i j : Nat) : (scs i).getD j 0 = ((sbyt i).getD j 0).toInt := by
  unfold scs
  rw [List.getD_eq_getElem?_getD, List.getD_eq_getElem?_getD, List.getElem?_map]
  cases (sbyt i)[j]? with
  | none => decide
  | some x => rfl
theorem scs_len (i : Nat) : (scs i).length = slen i := by
  unfold scs slen
  exact List.length_map ..
theorem sbyt_rng : ∀ i, i < 17 → ∀ j, j < slen i → 1 ≤ ((sbyt i).getD j 0).toInt ∧ ((sbyt i).getD j 0).toInt ≤ 127 := by decide +kernel
theorem at_len {g : Int → Int} {i : Nat} {p e : Int} (h : ¬ e - p = (slen i : Int)) : ¬ tw g (scs i) p e = true := fun q => h (by have := (tw_iff.mp q).1; rw [scs_len] at this; omega)
theorem at_step {f : Nat → Int32} {i : Nat} {z p k k2 ix x c : Int32} (h : ∀ j : Nat, (j : Int) < k.toInt → tpe f z (p.toInt + j) = (scs i).getD j 0) (h0 : 0 ≤ k.toInt) (hp : 0 ≤ p.toInt) (hi : i < 17) (hk : k.toInt < (slen i : Int)) (hix : ix.toInt = p.toInt + k.toInt) (hz : ix.toInt < z.toInt) (ex : x = f ix.toNatClampNeg) (ec : c = (sbyt i).getD k.toNatClampNeg 0) (e : x.toInt = c.toInt) (h2 : k2.toInt = k.toInt + 1) : ∀ j : Nat, (j : Int) < k2.toInt → tpe f z (p.toInt + j) = (scs i).getD j 0 := by
  intro j hj
  by_cases q : (j : Int) < k.toInt
  · exact h j q
  · have ej : j = k.toNatClampNeg := by have : k.toNatClampNeg = k.toInt.toNat := rfl; omega
    have hr := sbyt_rng i hi j (by omega)
    rw [scs_get, ej, ← ec, show p.toInt + ((k.toNatClampNeg : Nat) : Int) = ix.toInt by have : k.toNatClampNeg = k.toInt.toNat := rfl; omega]
    rw [ej, ← ec] at hr
    refine (tp_eq (by omega) hr.1 hr.2).mpr ⟨hz, ?_⟩
    rw [← ex]; exact e
theorem at_no {f : Nat → Int32} {i : Nat} {z p be k ix x c : Int32} (h0 : 0 ≤ k.toInt) (hp : 0 ≤ p.toInt) (hi : i < 17) (hk : k.toInt < (slen i : Int)) (hix : ix.toInt = p.toInt + k.toInt) (ex : x = f ix.toNatClampNeg) (ec : c = (sbyt i).getD k.toNatClampNeg 0) (ne : ¬ x.toInt = c.toInt) : ¬ tw (tpe f z) (scs i) p.toInt be.toInt = true := by
  intro q
  have ek : k.toNatClampNeg = k.toInt.toNat := rfl
  have hr := sbyt_rng i hi k.toNatClampNeg (by omega)
  have := (tw_iff.mp q).2 k.toNatClampNeg (by rw [scs_len]; omega)
  rw [scs_get, ← ec, show p.toInt + ((k.toNatClampNeg : Nat) : Int) = ix.toInt by omega] at this
  rw [← ec] at hr
  have h9 := ((tp_eq (by omega) hr.1 hr.2).mp this).2
  rw [← ex] at h9
  exact ne h9
theorem at_yes {g : Int → Int} {i : Nat} {p e k : Int} (h : ∀ j : Nat, (j : Int) < k → g (p + j) = (scs i).getD j 0) (he : e - p = (slen i : Int)) (hk : (slen i : Int) ≤ k) : tw g (scs i) p e = true := tw_iff.mpr ⟨by rw [scs_len]; omega, fun j hj => h j (by rw [scs_len] at hj; omega)⟩
/-- a word that is wanted: taken, or a fault -/
def tkR (g : Int → Int) (z : Int) (cs : List Int) (p e : Int) (ok : Prop) (p' e' fl : Int) : Prop := (ok → tw g cs p e = true ∧ p' = sk g e ∧ e' = tke g z (sk g e)) ∧ (¬ ok → ¬ tw g cs p e = true ∧ fl = p)
theorem tk_ok {g : Int → Int} {z : Int} {cs : List Int} {p e p' e' fl : Int} {ok : Prop} {k : Int → Int → RS} (h : tkR g z cs p e ok p' e' fl) (ho : ok) : ptak g z cs p e k = k p' e' := by
  obtain ⟨h1, h3, h4⟩ := h.1 ho
  rw [ptak_ok h1, ← h4, ← h3]
theorem tk_no {g : Int → Int} {z : Int} {cs : List Int} {p e p' e' fl : Int} {ok : Prop} {k : Int → Int → RS} (h : tkR g z cs p e ok p' e' fl) (ho : ¬ ok) : ptak g z cs p e k = .inl fl := by
  obtain ⟨h1, h2⟩ := h.2 ho
  rw [ptak_no h1, ← h2]
/-- the class's number: n, up to i -/
def tnI (g : Int → Int) (p i n : Int32) : Prop := (n.toInt < 1000001 → n.toInt = dv g p.toInt (i.toInt - p.toInt).toNat) ∧ (1000001 ≤ n.toInt → 1000001 ≤ dv g p.toInt (i.toInt - p.toInt).toNat)
theorem tn_0 {g : Int → Int} {p i n : Int32} (hk : i.toInt = p.toInt) (hv : n.toInt = 0) : tnI g p i n := by
  unfold tnI
  rw [show (i.toInt - p.toInt).toNat = 0 by omega]
  exact ⟨fun _ => hv, fun h => by omega⟩
theorem tn_s {f : Nat → Int32} {p i i2 z x n n2 : Int32} (h : tnI (tpe f z) p i n) (h0 : 0 ≤ p.toInt) (hpi : p.toInt ≤ i.toInt) (hiz : i.toInt < z.toInt) (h2 : i2.toInt = i.toInt + 1) (hv : n.toInt < 1000001) (ex : x = f i.toNatClampNeg) (hx : 48 ≤ x.toInt ∧ x.toInt ≤ 57) (hv2 : n2.toInt = 10 * n.toInt + x.toInt - 48) : tnI (tpe f z) p i2 n2 := by
  have e1 : dv (tpe f z) p.toInt (i2.toInt - p.toInt).toNat = n2.toInt := by
    rw [show (i2.toInt - p.toInt).toNat = (i.toInt - p.toInt).toNat + 1 by omega]
    show 10 * dv (tpe f z) p.toInt (i.toInt - p.toInt).toNat + (tpe f z (p.toInt + ((i.toInt - p.toInt).toNat : Nat)) - 48) = _
    rw [dig_at h0 hpi hiz ex hx, ← h.1 hv]
    omega
  unfold tnI
  rw [e1]
  exact ⟨fun _ => rfl, fun h => h⟩
theorem tn_bad {f : Nat → Int32} {p e i n z : Int32} {mx : Int} (ht : tokOK f p e z) (h0 : 0 ≤ p.toInt) (he : e.toInt ≤ z.toInt) (h : (48 ≤ tpe f z p.toInt ∧ tpe f z p.toInt ≤ 57) → tnI (tpe f z) p i n) (hi : p.toInt ≤ i.toInt) (hx : e.toInt ≤ i.toInt ∨ 1000001 ≤ n.toInt) (hie : i.toInt ≤ e.toInt) (hm : mx ≤ 1000000) (hn : mx < n.toInt) : ¬ nOK (tpe f z) mx p.toInt e.toInt := by
  intro q
  have h1 := h q.1
  have h2 := dv_mono (g := tpe f z) (p := p.toInt) (n := (i.toInt - p.toInt).toNat) (m := (e.toInt - p.toInt).toNat) (by omega) (fun k hk => (tok_g ht h0 he q.1 k hk).1)
  have h3 := q.2.2
  by_cases w : n.toInt < 1000001
  · have h4 := h1.1 w
    have h5 : i.toInt = e.toInt := by omega
    rw [h5] at h4
    omega
  · have h4 := h1.2 (by omega)
    omega
theorem tn_ok {g : Int → Int} {p e i n : Int32} {mx : Int} (h : tnI g p i n) (hd : 48 ≤ g p.toInt ∧ g p.toInt ≤ 57) (hie : i.toInt = e.toInt) (hn : n.toInt ≤ mx) (hm : mx ≤ 1000000) (h0 : 0 ≤ n.toInt) : nOK g mx p.toInt e.toInt ∧ n.toInt = dv g p.toInt (e.toInt - p.toInt).toNat := by
  have h4 := h.1 (by omega)
  rw [hie] at h4
  exact ⟨⟨hd, by omega, by omega⟩, h4⟩

theorem scs_0 : scs 0 = [43] := rfl
theorem scs_1 : scs 1 = [45] := rfl
theorem scs_2 : scs 2 = [42] := rfl
theorem scs_3 : scs 3 = [47] := rfl
theorem scs_4 : scs 4 = wElse := rfl
theorem scs_5 : scs 5 = [40] := rfl
theorem scs_6 : scs 6 = [41] := rfl
theorem scs_7 : scs 7 = wFrom := rfl
theorem scs_8 : scs 8 = wTo := rfl
theorem scs_9 : scs 9 = wAhead := rfl
theorem scs_10 : scs 10 = wTrait := rfl
theorem scs_11 : scs 11 = wLast := rfl
theorem scs_12 : scs 12 = wAge := rfl
theorem scs_13 : scs 13 = wCount := rfl
theorem scs_14 : scs 14 = wSum := rfl
theorem scs_15 : scs 15 = wLeast := rfl
theorem scs_16 : scs 16 = wMost := rfl

set_option maxHeartbeats 8000000 in
set_option maxRecDepth 100000 in
theorem k_X2_isLetterAt (l : Launch) (dC : Nat → ClassId) (dI : Nat → Nat → Nat) (cA : Nat → ClassId) (sz : Nat) (ax : Nat → Nat) (xSz : Int32) (xPl : Int32) (xBe : Int32) (xRt : Int32) (xRf : Int32) (xRd : Int32) (xLk : Int32) (xTz : Int32) (gB : Nat → Int32) (a : Int32) (i_xSz : 0 ≤ xSz.toInt ∧ xSz.toInt ≤ 200) (i_xPl : 0 ≤ xPl.toInt ∧ xPl.toInt ≤ 200) (i_xBe : 0 ≤ xBe.toInt ∧ xBe.toInt ≤ 200) (i_xRt : 0 ≤ xRt.toInt ∧ xRt.toInt ≤ 20) (i_xTz : 0 ≤ xTz.toInt ∧ xTz.toInt ≤ 200) (i_gB : inB 0 255 200 gB) (ha : 0 ≤ a.toInt ∧ a.toInt ≤ 200) : Met l yX2_isLetterAt wsX2_isLetterAt ({ frames := 0, cells := 0, slots := 0, locals := 0 }) (va_Pc [.ref (ax 13), .int a] (fun U => U.heap.size = sz ∧ va_P (dC, dI) vwCl [((ax 13), .inr (2, [.ref (ax 11), .ref (ax 14), .int xSz, .int xPl, .int xBe, .int xRt, .int xRf, .int xRd, .int xLk])), ((ax 11), .inr (5, [.ref (ax 12), .int xTz])), ((ax 12), .inl (cA 0, 200, .inl gB))] U.heap ∧ va_K (dC, dI) vwCl (tyL cA) U ∧ va_D (fun _ => True) [((ax 13), .inr (2, [.ref (ax 11), .ref (ax 14), .int xSz, .int xPl, .int xBe, .int xRt, .int xRf, .int xRd, .int xLk])), ((ax 11), .inr (5, [.ref (ax 12), .int xTz])), ((ax 12), .inl (cA 0, 200, .inl gB))] ∧ nw_ok U)) (va_Qi (fun (r : Int32) (_ : Unit) => ((0 ≤ r.toInt ∧ r.toInt ≤ 1) ∧ (¬ r.toInt = 0 → a.toInt < xTz.toInt ∧ 97 ≤ (gB a.toNatClampNeg).toInt ∧ (gB a.toNatClampNeg).toInt ≤ 122) ∧ (r.toInt = 0 → a.toInt < xTz.toInt → ¬ (97 ≤ (gB a.toNatClampNeg).toInt ∧ (gB a.toNatClampNeg).toInt ≤ 122))) ∧ ((¬ r.toInt = 0 ↔ (97 ≤ tpe gB xTz a.toInt ∧ tpe gB xTz a.toInt ≤ 122)))) (fun (_ : Unit) (t : State) => va_P (dC, dI) vwCl [((ax 13), .inr (2, [.ref (ax 11), .ref (ax 14), .int xSz, .int xPl, .int xBe, .int xRt, .int xRf, .int xRd, .int xLk])), ((ax 11), .inr (5, [.ref (ax 12), .int xTz])), ((ax 12), .inl (cA 0, 200, .inl gB))] t.heap ∧ va_D (va_A [((ax 13), .inr (2, [.ref (ax 11), .ref (ax 14), .int xSz, .int xPl, .int xBe, .int xRt, .int xRf, .int xRd, .int xLk])), ((ax 11), .inr (5, [.ref (ax 12), .int xTz])), ((ax 12), .inl (cA 0, 200, .inl gB))] sz) [((ax 13), .inr (2, [.ref (ax 11), .ref (ax 14), .int xSz, .int xPl, .int xBe, .int xRt, .int xRf, .int xRd, .int xLk])), ((ax 11), .inr (5, [.ref (ax 12), .int xTz])), ((ax 12), .inl (cA 0, 200, .inl gB))]) (va_A [((ax 13), .inr (2, [.ref (ax 11), .ref (ax 14), .int xSz, .int xPl, .int xBe, .int xRt, .int xRf, .int xRd, .int xLk])), ((ax 11), .inr (5, [.ref (ax 12), .int xTz])), ((ax 12), .inl (cA 0, 200, .inl gB))] sz)) 0 0 (va_A [((ax 13), .inr (2, [.ref (ax 11), .ref (ax 14), .int xSz, .int xPl, .int xBe, .int xRt, .int xRf, .int xRd, .int xLk])), ((ax 11), .inr (5, [.ref (ax 12), .int xTz])), ((ax 12), .inl (cA 0, 200, .inl gB))] sz) := by
  refine Met.ofW (cc := cX2_isLetterAt) (maxL := 2) (ret := (some .boolean)) (by decide) rfl ?_
  intro p e s m args below meth c s₁ B hml hv
  obtain ⟨rfl, hsz, hP, hK, hD0, hN⟩ := hv
  have hx := B.exec
  have hb := B.bytes
  have hr := B.returns
  have hts := atoms_spec (ws := wsX2_isLetterAt) B.pre
  have hown : s.vm.findClass RX2 = some m.cls := findClass_of_methodNamed B.named
  have hlocks := B.notSynchronized
  subst hsz
  have hD := hD0.self (sz := s.heap.size)
  generalize hAe : va_A [((ax 13), .inr (2, [.ref (ax 11), .ref (ax 14), .int xSz, .int xPl, .int xBe, .int xRt, .int xRf, .int xRd, .int xLk])), ((ax 11), .inr (5, [.ref (ax 12), .int xTz])), ((ax 12), .inl (cA 0, 200, .inl gB))] s.heap.size = A at hD ⊢
  have hA : ∀ q : Nat, s.heap.size ≤ q → A q := fun q h => by rw [← hAe]; exact Or.inr h
  have hS : va_S A s.heap s.heap [] := va_S.rf
  have hIX2 : ∀ w ∈ u_ws RX2 TX2 9, w ∈ wsX2_isLetterAt := by decide +kernel
  have hIX5 : ∀ w ∈ u_ws RX5 TX5 2, w ∈ wsX2_isLetterAt := by decide +kernel
  have hl := lv_entry ([.ref (ax 13), .int a]) (n := 2) (Nat.le_of_ble_eq_true rfl)
  rw [lg_entry_eq]
  generalize (lg_sl ([.ref (ax 13), .int a]) ++ List.replicate (2 - (lg_sl ([.ref (ax 13), .int a])).length) Slot.unset).toArray = ls at hl ⊢
  have hl : lv_has ls 2 [(0, .ref (ax 13)), (1, .int a)] := hl
  generalize hQe : MQ below _ _ _ _ _ _ = QQ
  refine lv_iload_n hx hb dX2_isLetterAt_0 rfl (lv_at hl 1 rfl) ?_
  refine lv_aload_n hx hb dX2_isLetterAt_1 rfl (lv_at hl 0 rfl) ?_
  refine va_get (D := (dC, dI)) (ci := 2) (v := .ref (ax 11)) (C := RX2) (T := TX2) (N := 9) hx hb hts hIX2 hown hK hP 0 rfl rfl 0 (by decide) (hts (.fieldLink RX2 17 "TraitHouse$Reader" "tape" "LTraitHouse$Tape;") (by decide +kernel)) (fun _ h9 => h9) rfl dX2_isLetterAt_2 ?_
  refine va_getN (D := (dC, dI)) (ci := 5) (v := .int xTz) (C := RX5) (T := TX5) (N := 2) hx hb hts hIX5 hown hK hP 1 rfl rfl 1 (by decide) (va_Nw.use rfl (nw_at hN 9 rfl)) (fun _ h9 => h9) rfl dX2_isLetterAt_5 ?_
  refine lv_icmp_ge (tgt := 43) hx hb dX2_isLetterAt_8 (by decide) (fun c_1 => ?_) (fun c_1 => ?_)
  · have dc_1 : xTz.toInt ≤ a.toInt := jI_le c_1 rfl rfl
    refine lv_iconst (v := 0) hx hb dX2_isLetterAt_43 (by decide) ?_
    obtain ⟨hP9, hD9⟩ := va_pd (ws' := [((ax 13), .inr (2, [.ref (ax 11), .ref (ax 14), .int xSz, .int xPl, .int xBe, .int xRt, .int xRf, .int xRd, .int xLk])), ((ax 11), .inr (5, [.ref (ax 12), .int xTz])), ((ax 12), .inl (cA 0, 200, .inl gB))]) hP hD [0, 1, 2] (by decide) rfl
    subst hQe
    have hans : (0 : Int32).toInt = 0 := (by decide)
    have hpost : ((0 ≤ (0 : Int32).toInt ∧ (0 : Int32).toInt ≤ 1) ∧ (¬ (0 : Int32).toInt = 0 → a.toInt < xTz.toInt ∧ 97 ≤ (gB a.toNatClampNeg).toInt ∧ (gB a.toNatClampNeg).toInt ≤ 122) ∧ ((0 : Int32).toInt = 0 → a.toInt < xTz.toInt → ¬ (97 ≤ (gB a.toNatClampNeg).toInt ∧ (gB a.toNatClampNeg).toInt ≤ 122))) ∧ ((¬ (0 : Int32).toInt = 0 ↔ (97 ≤ tpe gB xTz a.toInt ∧ tpe gB xTz a.toInt ≤ 122))) := ⟨by (refine ⟨by omega, fun h => ?_, fun h1 h2 => ?_⟩ <;> omega), by (rw [tp_rng (by omega) (by decide) (by decide)]; omega)⟩
    exact W.zret (v := 0) hx hb hr (by decide) (fun t ht hW => ⟨⟨0, (), rfl, hpost, by rw [ht]; exact hP9, hD9⟩, hS.F ht⟩) hS.2.2 dX2_isLetterAt_44
  · have dc_1 : a.toInt < xTz.toInt := jI_nle c_1 rfl rfl
    refine lv_aload_n hx hb dX2_isLetterAt_11 rfl (lv_at hl 0 rfl) ?_
    refine va_get (D := (dC, dI)) (ci := 2) (v := .ref (ax 11)) (C := RX2) (T := TX2) (N := 9) hx hb hts hIX2 hown hK hP 0 rfl rfl 0 (by decide) (hts (.fieldLink RX2 17 "TraitHouse$Reader" "tape" "LTraitHouse$Tape;") (by decide +kernel)) (fun _ h9 => h9) rfl dX2_isLetterAt_12 ?_
    refine va_getN (D := (dC, dI)) (ci := 5) (v := .ref (ax 12)) (C := RX5) (T := TX5) (N := 2) hx hb hts hIX5 hown hK hP 1 rfl rfl 0 (by decide) (va_Nw.use rfl (nw_at hN 8 rfl)) (fun _ h9 => h9) rfl dX2_isLetterAt_15 ?_
    refine lv_iload_n hx hb dX2_isLetterAt_18 rfl (lv_at hl 1 rfl) ?_
    have h_2 : vp_in a 200 := (vp_in_iff.mpr ⟨by omega, by omega⟩)
    refine va_iald hx hb hK hP 2 0 rfl rfl h_2 dX2_isLetterAt_19 ?_
    refine lv_topi (fun x_3 ex_3 => ?_)
    have bx_3 := i_gB _ (jix h_2)
    rw [← ex_3] at bx_3
    refine lv_bipush (v := 97) hx hb dX2_isLetterAt_20 (by decide) ?_
    refine lv_icmp_lt (tgt := 43) hx hb dX2_isLetterAt_22 (by decide) (fun c_4 => ?_) (fun c_4 => ?_)
    · have dc_4 : x_3.toInt < 97 := jI_lt c_4 rfl (by decide)
      refine lv_iconst (v := 0) hx hb dX2_isLetterAt_43 (by decide) ?_
      obtain ⟨hP9, hD9⟩ := va_pd (ws' := [((ax 13), .inr (2, [.ref (ax 11), .ref (ax 14), .int xSz, .int xPl, .int xBe, .int xRt, .int xRf, .int xRd, .int xLk])), ((ax 11), .inr (5, [.ref (ax 12), .int xTz])), ((ax 12), .inl (cA 0, 200, .inl gB))]) hP hD [0, 1, 2] (by decide) rfl
      subst hQe
      have hans : (0 : Int32).toInt = 0 := (by decide)
      have hpost : ((0 ≤ (0 : Int32).toInt ∧ (0 : Int32).toInt ≤ 1) ∧ (¬ (0 : Int32).toInt = 0 → a.toInt < xTz.toInt ∧ 97 ≤ (gB a.toNatClampNeg).toInt ∧ (gB a.toNatClampNeg).toInt ≤ 122) ∧ ((0 : Int32).toInt = 0 → a.toInt < xTz.toInt → ¬ (97 ≤ (gB a.toNatClampNeg).toInt ∧ (gB a.toNatClampNeg).toInt ≤ 122))) ∧ ((¬ (0 : Int32).toInt = 0 ↔ (97 ≤ tpe gB xTz a.toInt ∧ tpe gB xTz a.toInt ≤ 122))) := ⟨by (have zx_3 := congrArg Int32.toInt ex_3; refine ⟨by omega, fun h => ?_, fun h1 h2 => ?_⟩ <;> omega), by (have zx_3 := congrArg Int32.toInt ex_3; rw [tp_rng (by omega) (by decide) (by decide)]; omega)⟩
      exact W.zret (v := 0) hx hb hr (by decide) (fun t ht hW => ⟨⟨0, (), rfl, hpost, by rw [ht]; exact hP9, hD9⟩, hS.F ht⟩) hS.2.2 dX2_isLetterAt_44
    · have dc_4 : 97 ≤ x_3.toInt := jI_nlt c_4 rfl (by decide)
      refine lv_aload_n hx hb dX2_isLetterAt_25 rfl (lv_at hl 0 rfl) ?_
      refine va_get (D := (dC, dI)) (ci := 2) (v := .ref (ax 11)) (C := RX2) (T := TX2) (N := 9) hx hb hts hIX2 hown hK hP 0 rfl rfl 0 (by decide) (hts (.fieldLink RX2 17 "TraitHouse$Reader" "tape" "LTraitHouse$Tape;") (by decide +kernel)) (fun _ h9 => h9) rfl dX2_isLetterAt_26 ?_
      refine va_getN (D := (dC, dI)) (ci := 5) (v := .ref (ax 12)) (C := RX5) (T := TX5) (N := 2) hx hb hts hIX5 hown hK hP 1 rfl rfl 0 (by decide) (va_Nw.use rfl (nw_at hN 8 rfl)) (fun _ h9 => h9) rfl dX2_isLetterAt_29 ?_
      refine lv_iload_n hx hb dX2_isLetterAt_32 rfl (lv_at hl 1 rfl) ?_
      have h_5 : vp_in a 200 := (vp_in_iff.mpr ⟨by omega, by omega⟩)
      refine va_iald hx hb hK hP 2 0 rfl rfl h_5 dX2_isLetterAt_33 ?_
      refine lv_topi (fun x_6 ex_6 => ?_)
      have bx_6 := i_gB _ (jix h_5)
      rw [← ex_6] at bx_6
      refine lv_bipush (v := 122) hx hb dX2_isLetterAt_34 (by decide) ?_
      refine lv_icmp_gt (tgt := 43) hx hb dX2_isLetterAt_36 (by decide) (fun c_7 => ?_) (fun c_7 => ?_)
      · have dc_7 : 122 < x_6.toInt := jI_lt c_7 (by decide) rfl
        refine lv_iconst (v := 0) hx hb dX2_isLetterAt_43 (by decide) ?_
        obtain ⟨hP9, hD9⟩ := va_pd (ws' := [((ax 13), .inr (2, [.ref (ax 11), .ref (ax 14), .int xSz, .int xPl, .int xBe, .int xRt, .int xRf, .int xRd, .int xLk])), ((ax 11), .inr (5, [.ref (ax 12), .int xTz])), ((ax 12), .inl (cA 0, 200, .inl gB))]) hP hD [0, 1, 2] (by decide) rfl
        subst hQe
        have hans : (0 : Int32).toInt = 0 := (by decide)
        have hpost : ((0 ≤ (0 : Int32).toInt ∧ (0 : Int32).toInt ≤ 1) ∧ (¬ (0 : Int32).toInt = 0 → a.toInt < xTz.toInt ∧ 97 ≤ (gB a.toNatClampNeg).toInt ∧ (gB a.toNatClampNeg).toInt ≤ 122) ∧ ((0 : Int32).toInt = 0 → a.toInt < xTz.toInt → ¬ (97 ≤ (gB a.toNatClampNeg).toInt ∧ (gB a.toNatClampNeg).toInt ≤ 122))) ∧ ((¬ (0 : Int32).toInt = 0 ↔ (97 ≤ tpe gB xTz a.toInt ∧ tpe gB xTz a.toInt ≤ 122))) := ⟨by (have zx_3 := congrArg Int32.toInt ex_3; have zx_6 := congrArg Int32.toInt ex_6; refine ⟨by omega, fun h => ?_, fun h1 h2 => ?_⟩ <;> omega), by (have zx_3 := congrArg Int32.toInt ex_3; have zx_6 := congrArg Int32.toInt ex_6; rw [tp_rng (by omega) (by decide) (by decide)]; omega)⟩
        exact W.zret (v := 0) hx hb hr (by decide) (fun t ht hW => ⟨⟨0, (), rfl, hpost, by rw [ht]; exact hP9, hD9⟩, hS.F ht⟩) hS.2.2 dX2_isLetterAt_44
      · have dc_7 : x_6.toInt ≤ 122 := jI_nlt c_7 (by decide) rfl
        refine lv_iconst (v := 1) hx hb dX2_isLetterAt_39 (by decide) ?_
        refine lv_goto (tgt := 44) hx hb dX2_isLetterAt_40 (by decide) ?_
        obtain ⟨hP9, hD9⟩ := va_pd (ws' := [((ax 13), .inr (2, [.ref (ax 11), .ref (ax 14), .int xSz, .int xPl, .int xBe, .int xRt, .int xRf, .int xRd, .int xLk])), ((ax 11), .inr (5, [.ref (ax 12), .int xTz])), ((ax 12), .inl (cA 0, 200, .inl gB))]) hP hD [0, 1, 2] (by decide) rfl
        subst hQe
        have hans : (1 : Int32).toInt = 1 := (by decide)
        have hpost : ((0 ≤ (1 : Int32).toInt ∧ (1 : Int32).toInt ≤ 1) ∧ (¬ (1 : Int32).toInt = 0 → a.toInt < xTz.toInt ∧ 97 ≤ (gB a.toNatClampNeg).toInt ∧ (gB a.toNatClampNeg).toInt ≤ 122) ∧ ((1 : Int32).toInt = 0 → a.toInt < xTz.toInt → ¬ (97 ≤ (gB a.toNatClampNeg).toInt ∧ (gB a.toNatClampNeg).toInt ≤ 122))) ∧ ((¬ (1 : Int32).toInt = 0 ↔ (97 ≤ tpe gB xTz a.toInt ∧ tpe gB xTz a.toInt ≤ 122))) := ⟨by (have zx_3 := congrArg Int32.toInt ex_3; have zx_6 := congrArg Int32.toInt ex_6; refine ⟨by omega, fun h => ?_, fun h1 h2 => ?_⟩ <;> omega), by (have zx_3 := congrArg Int32.toInt ex_3; have zx_6 := congrArg Int32.toInt ex_6; rw [tp_rng (by omega) (by decide) (by decide)]; omega)⟩
        exact W.zret (v := 1) hx hb hr (by decide) (fun t ht hW => ⟨⟨1, (), rfl, hpost, by rw [ht]; exact hP9, hD9⟩, hS.F ht⟩) hS.2.2 dX2_isLetterAt_44

set_option maxHeartbeats 8000000 in
set_option maxRecDepth 100000 in
theorem k_X2_isDigitAt (l : Launch) (dC : Nat → ClassId) (dI : Nat → Nat → Nat) (cA : Nat → ClassId) (sz : Nat) (ax : Nat → Nat) (xSz : Int32) (xPl : Int32) (xBe : Int32) (xRt : Int32) (xRf : Int32) (xRd : Int32) (xLk : Int32) (xTz : Int32) (gB : Nat → Int32) (a : Int32) (i_xSz : 0 ≤ xSz.toInt ∧ xSz.toInt ≤ 200) (i_xPl : 0 ≤ xPl.toInt ∧ xPl.toInt ≤ 200) (i_xBe : 0 ≤ xBe.toInt ∧ xBe.toInt ≤ 200) (i_xRt : 0 ≤ xRt.toInt ∧ xRt.toInt ≤ 20) (i_xTz : 0 ≤ xTz.toInt ∧ xTz.toInt ≤ 200) (i_gB : inB 0 255 200 gB) (ha : 0 ≤ a.toInt ∧ a.toInt ≤ 200) : Met l yX2_isDigitAt wsX2_isDigitAt ({ frames := 0, cells := 0, slots := 0, locals := 0 }) (va_Pc [.ref (ax 13), .int a] (fun U => U.heap.size = sz ∧ va_P (dC, dI) vwCl [((ax 13), .inr (2, [.ref (ax 11), .ref (ax 14), .int xSz, .int xPl, .int xBe, .int xRt, .int xRf, .int xRd, .int xLk])), ((ax 11), .inr (5, [.ref (ax 12), .int xTz])), ((ax 12), .inl (cA 0, 200, .inl gB))] U.heap ∧ va_K (dC, dI) vwCl (tyL cA) U ∧ va_D (fun _ => True) [((ax 13), .inr (2, [.ref (ax 11), .ref (ax 14), .int xSz, .int xPl, .int xBe, .int xRt, .int xRf, .int xRd, .int xLk])), ((ax 11), .inr (5, [.ref (ax 12), .int xTz])), ((ax 12), .inl (cA 0, 200, .inl gB))] ∧ nw_ok U)) (va_Qi (fun (r : Int32) (_ : Unit) => ((0 ≤ r.toInt ∧ r.toInt ≤ 1) ∧ (¬ r.toInt = 0 → a.toInt < xTz.toInt ∧ 48 ≤ (gB a.toNatClampNeg).toInt ∧ (gB a.toNatClampNeg).toInt ≤ 57) ∧ (r.toInt = 0 → a.toInt < xTz.toInt → ¬ (48 ≤ (gB a.toNatClampNeg).toInt ∧ (gB a.toNatClampNeg).toInt ≤ 57))) ∧ ((¬ r.toInt = 0 ↔ (48 ≤ tpe gB xTz a.toInt ∧ tpe gB xTz a.toInt ≤ 57)))) (fun (_ : Unit) (t : State) => va_P (dC, dI) vwCl [((ax 13), .inr (2, [.ref (ax 11), .ref (ax 14), .int xSz, .int xPl, .int xBe, .int xRt, .int xRf, .int xRd, .int xLk])), ((ax 11), .inr (5, [.ref (ax 12), .int xTz])), ((ax 12), .inl (cA 0, 200, .inl gB))] t.heap ∧ va_D (va_A [((ax 13), .inr (2, [.ref (ax 11), .ref (ax 14), .int xSz, .int xPl, .int xBe, .int xRt, .int xRf, .int xRd, .int xLk])), ((ax 11), .inr (5, [.ref (ax 12), .int xTz])), ((ax 12), .inl (cA 0, 200, .inl gB))] sz) [((ax 13), .inr (2, [.ref (ax 11), .ref (ax 14), .int xSz, .int xPl, .int xBe, .int xRt, .int xRf, .int xRd, .int xLk])), ((ax 11), .inr (5, [.ref (ax 12), .int xTz])), ((ax 12), .inl (cA 0, 200, .inl gB))]) (va_A [((ax 13), .inr (2, [.ref (ax 11), .ref (ax 14), .int xSz, .int xPl, .int xBe, .int xRt, .int xRf, .int xRd, .int xLk])), ((ax 11), .inr (5, [.ref (ax 12), .int xTz])), ((ax 12), .inl (cA 0, 200, .inl gB))] sz)) 0 0 (va_A [((ax 13), .inr (2, [.ref (ax 11), .ref (ax 14), .int xSz, .int xPl, .int xBe, .int xRt, .int xRf, .int xRd, .int xLk])), ((ax 11), .inr (5, [.ref (ax 12), .int xTz])), ((ax 12), .inl (cA 0, 200, .inl gB))] sz) := by
  refine Met.ofW (cc := cX2_isDigitAt) (maxL := 2) (ret := (some .boolean)) (by decide) rfl ?_
  intro p e s m args below meth c s₁ B hml hv
  obtain ⟨rfl, hsz, hP, hK, hD0, hN⟩ := hv
  have hx := B.exec
  have hb := B.bytes
  have hr := B.returns
  have hts := atoms_spec (ws := wsX2_isDigitAt) B.pre
  have hown : s.vm.findClass RX2 = some m.cls := findClass_of_methodNamed B.named
  have hlocks := B.notSynchronized
  subst hsz
  have hD := hD0.self (sz := s.heap.size)
  generalize hAe : va_A [((ax 13), .inr (2, [.ref (ax 11), .ref (ax 14), .int xSz, .int xPl, .int xBe, .int xRt, .int xRf, .int xRd, .int xLk])), ((ax 11), .inr (5, [.ref (ax 12), .int xTz])), ((ax 12), .inl (cA 0, 200, .inl gB))] s.heap.size = A at hD ⊢
  have hA : ∀ q : Nat, s.heap.size ≤ q → A q := fun q h => by rw [← hAe]; exact Or.inr h
  have hS : va_S A s.heap s.heap [] := va_S.rf
  have hIX2 : ∀ w ∈ u_ws RX2 TX2 9, w ∈ wsX2_isDigitAt := by decide +kernel
  have hIX5 : ∀ w ∈ u_ws RX5 TX5 2, w ∈ wsX2_isDigitAt := by decide +kernel
  have hl := lv_entry ([.ref (ax 13), .int a]) (n := 2) (Nat.le_of_ble_eq_true rfl)
  rw [lg_entry_eq]
  generalize (lg_sl ([.ref (ax 13), .int a]) ++ List.replicate (2 - (lg_sl ([.ref (ax 13), .int a])).length) Slot.unset).toArray = ls at hl ⊢
  have hl : lv_has ls 2 [(0, .ref (ax 13)), (1, .int a)] := hl
  generalize hQe : MQ below _ _ _ _ _ _ = QQ
  refine lv_iload_n hx hb dX2_isDigitAt_0 rfl (lv_at hl 1 rfl) ?_
  refine lv_aload_n hx hb dX2_isDigitAt_1 rfl (lv_at hl 0 rfl) ?_
  refine va_get (D := (dC, dI)) (ci := 2) (v := .ref (ax 11)) (C := RX2) (T := TX2) (N := 9) hx hb hts hIX2 hown hK hP 0 rfl rfl 0 (by decide) (hts (.fieldLink RX2 17 "TraitHouse$Reader" "tape" "LTraitHouse$Tape;") (by decide +kernel)) (fun _ h9 => h9) rfl dX2_isDigitAt_2 ?_
  refine va_getN (D := (dC, dI)) (ci := 5) (v := .int xTz) (C := RX5) (T := TX5) (N := 2) hx hb hts hIX5 hown hK hP 1 rfl rfl 1 (by decide) (va_Nw.use rfl (nw_at hN 9 rfl)) (fun _ h9 => h9) rfl dX2_isDigitAt_5 ?_
  refine lv_icmp_ge (tgt := 43) hx hb dX2_isDigitAt_8 (by decide) (fun c_1 => ?_) (fun c_1 => ?_)
  · have dc_1 : xTz.toInt ≤ a.toInt := jI_le c_1 rfl rfl
    refine lv_iconst (v := 0) hx hb dX2_isDigitAt_43 (by decide) ?_
    obtain ⟨hP9, hD9⟩ := va_pd (ws' := [((ax 13), .inr (2, [.ref (ax 11), .ref (ax 14), .int xSz, .int xPl, .int xBe, .int xRt, .int xRf, .int xRd, .int xLk])), ((ax 11), .inr (5, [.ref (ax 12), .int xTz])), ((ax 12), .inl (cA 0, 200, .inl gB))]) hP hD [0, 1, 2] (by decide) rfl
    subst hQe
    have hans : (0 : Int32).toInt = 0 := (by decide)
    have hpost : ((0 ≤ (0 : Int32).toInt ∧ (0 : Int32).toInt ≤ 1) ∧ (¬ (0 : Int32).toInt = 0 → a.toInt < xTz.toInt ∧ 48 ≤ (gB a.toNatClampNeg).toInt ∧ (gB a.toNatClampNeg).toInt ≤ 57) ∧ ((0 : Int32).toInt = 0 → a.toInt < xTz.toInt → ¬ (48 ≤ (gB a.toNatClampNeg).toInt ∧ (gB a.toNatClampNeg).toInt ≤ 57))) ∧ ((¬ (0 : Int32).toInt = 0 ↔ (48 ≤ tpe gB xTz a.toInt ∧ tpe gB xTz a.toInt ≤ 57))) := ⟨by (refine ⟨by omega, fun h => ?_, fun h1 h2 => ?_⟩ <;> omega), by (rw [tp_rng (by omega) (by decide) (by decide)]; omega)⟩
    exact W.zret (v := 0) hx hb hr (by decide) (fun t ht hW => ⟨⟨0, (), rfl, hpost, by rw [ht]; exact hP9, hD9⟩, hS.F ht⟩) hS.2.2 dX2_isDigitAt_44
  · have dc_1 : a.toInt < xTz.toInt := jI_nle c_1 rfl rfl
    refine lv_aload_n hx hb dX2_isDigitAt_11 rfl (lv_at hl 0 rfl) ?_
    refine va_get (D := (dC, dI)) (ci := 2) (v := .ref (ax 11)) (C := RX2) (T := TX2) (N := 9) hx hb hts hIX2 hown hK hP 0 rfl rfl 0 (by decide) (hts (.fieldLink RX2 17 "TraitHouse$Reader" "tape" "LTraitHouse$Tape;") (by decide +kernel)) (fun _ h9 => h9) rfl dX2_isDigitAt_12 ?_
    refine va_getN (D := (dC, dI)) (ci := 5) (v := .ref (ax 12)) (C := RX5) (T := TX5) (N := 2) hx hb hts hIX5 hown hK hP 1 rfl rfl 0 (by decide) (va_Nw.use rfl (nw_at hN 8 rfl)) (fun _ h9 => h9) rfl dX2_isDigitAt_15 ?_
    refine lv_iload_n hx hb dX2_isDigitAt_18 rfl (lv_at hl 1 rfl) ?_
    have h_2 : vp_in a 200 := (vp_in_iff.mpr ⟨by omega, by omega⟩)
    refine va_iald hx hb hK hP 2 0 rfl rfl h_2 dX2_isDigitAt_19 ?_
    refine lv_topi (fun x_3 ex_3 => ?_)
    have bx_3 := i_gB _ (jix h_2)
    rw [← ex_3] at bx_3
    refine lv_bipush (v := 48) hx hb dX2_isDigitAt_20 (by decide) ?_
    refine lv_icmp_lt (tgt := 43) hx hb dX2_isDigitAt_22 (by decide) (fun c_4 => ?_) (fun c_4 => ?_)
    · have dc_4 : x_3.toInt < 48 := jI_lt c_4 rfl (by decide)
      refine lv_iconst (v := 0) hx hb dX2_isDigitAt_43 (by decide) ?_
      obtain ⟨hP9, hD9⟩ := va_pd (ws' := [((ax 13), .inr (2, [.ref (ax 11), .ref (ax 14), .int xSz, .int xPl, .int xBe, .int xRt, .int xRf, .int xRd, .int xLk])), ((ax 11), .inr (5, [.ref (ax 12), .int xTz])), ((ax 12), .inl (cA 0, 200, .inl gB))]) hP hD [0, 1, 2] (by decide) rfl
      subst hQe
      have hans : (0 : Int32).toInt = 0 := (by decide)
      have hpost : ((0 ≤ (0 : Int32).toInt ∧ (0 : Int32).toInt ≤ 1) ∧ (¬ (0 : Int32).toInt = 0 → a.toInt < xTz.toInt ∧ 48 ≤ (gB a.toNatClampNeg).toInt ∧ (gB a.toNatClampNeg).toInt ≤ 57) ∧ ((0 : Int32).toInt = 0 → a.toInt < xTz.toInt → ¬ (48 ≤ (gB a.toNatClampNeg).toInt ∧ (gB a.toNatClampNeg).toInt ≤ 57))) ∧ ((¬ (0 : Int32).toInt = 0 ↔ (48 ≤ tpe gB xTz a.toInt ∧ tpe gB xTz a.toInt ≤ 57))) := ⟨by (have zx_3 := congrArg Int32.toInt ex_3; refine ⟨by omega, fun h => ?_, fun h1 h2 => ?_⟩ <;> omega), by (have zx_3 := congrArg Int32.toInt ex_3; rw [tp_rng (by omega) (by decide) (by decide)]; omega)⟩
      exact W.zret (v := 0) hx hb hr (by decide) (fun t ht hW => ⟨⟨0, (), rfl, hpost, by rw [ht]; exact hP9, hD9⟩, hS.F ht⟩) hS.2.2 dX2_isDigitAt_44
    · have dc_4 : 48 ≤ x_3.toInt := jI_nlt c_4 rfl (by decide)
      refine lv_aload_n hx hb dX2_isDigitAt_25 rfl (lv_at hl 0 rfl) ?_
      refine va_get (D := (dC, dI)) (ci := 2) (v := .ref (ax 11)) (C := RX2) (T := TX2) (N := 9) hx hb hts hIX2 hown hK hP 0 rfl rfl 0 (by decide) (hts (.fieldLink RX2 17 "TraitHouse$Reader" "tape" "LTraitHouse$Tape;") (by decide +kernel)) (fun _ h9 => h9) rfl dX2_isDigitAt_26 ?_
      refine va_getN (D := (dC, dI)) (ci := 5) (v := .ref (ax 12)) (C := RX5) (T := TX5) (N := 2) hx hb hts hIX5 hown hK hP 1 rfl rfl 0 (by decide) (va_Nw.use rfl (nw_at hN 8 rfl)) (fun _ h9 => h9) rfl dX2_isDigitAt_29 ?_
      refine lv_iload_n hx hb dX2_isDigitAt_32 rfl (lv_at hl 1 rfl) ?_
      have h_5 : vp_in a 200 := (vp_in_iff.mpr ⟨by omega, by omega⟩)
      refine va_iald hx hb hK hP 2 0 rfl rfl h_5 dX2_isDigitAt_33 ?_
      refine lv_topi (fun x_6 ex_6 => ?_)
      have bx_6 := i_gB _ (jix h_5)
      rw [← ex_6] at bx_6
      refine lv_bipush (v := 57) hx hb dX2_isDigitAt_34 (by decide) ?_
      refine lv_icmp_gt (tgt := 43) hx hb dX2_isDigitAt_36 (by decide) (fun c_7 => ?_) (fun c_7 => ?_)
      · have dc_7 : 57 < x_6.toInt := jI_lt c_7 (by decide) rfl
        refine lv_iconst (v := 0) hx hb dX2_isDigitAt_43 (by decide) ?_
        obtain ⟨hP9, hD9⟩ := va_pd (ws' := [((ax 13), .inr (2, [.ref (ax 11), .ref (ax 14), .int xSz, .int xPl, .int xBe, .int xRt, .int xRf, .int xRd, .int xLk])), ((ax 11), .inr (5, [.ref (ax 12), .int xTz])), ((ax 12), .inl (cA 0, 200, .inl gB))]) hP hD [0, 1, 2] (by decide) rfl
        subst hQe
        have hans : (0 : Int32).toInt = 0 := (by decide)
        have hpost : ((0 ≤ (0 : Int32).toInt ∧ (0 : Int32).toInt ≤ 1) ∧ (¬ (0 : Int32).toInt = 0 → a.toInt < xTz.toInt ∧ 48 ≤ (gB a.toNatClampNeg).toInt ∧ (gB a.toNatClampNeg).toInt ≤ 57) ∧ ((0 : Int32).toInt = 0 → a.toInt < xTz.toInt → ¬ (48 ≤ (gB a.toNatClampNeg).toInt ∧ (gB a.toNatClampNeg).toInt ≤ 57))) ∧ ((¬ (0 : Int32).toInt = 0 ↔ (48 ≤ tpe gB xTz a.toInt ∧ tpe gB xTz a.toInt ≤ 57))) := ⟨by (have zx_3 := congrArg Int32.toInt ex_3; have zx_6 := congrArg Int32.toInt ex_6; refine ⟨by omega, fun h => ?_, fun h1 h2 => ?_⟩ <;> omega), by (have zx_3 := congrArg Int32.toInt ex_3; have zx_6 := congrArg Int32.toInt ex_6; rw [tp_rng (by omega) (by decide) (by decide)]; omega)⟩
        exact W.zret (v := 0) hx hb hr (by decide) (fun t ht hW => ⟨⟨0, (), rfl, hpost, by rw [ht]; exact hP9, hD9⟩, hS.F ht⟩) hS.2.2 dX2_isDigitAt_44
      · have dc_7 : x_6.toInt ≤ 57 := jI_nlt c_7 (by decide) rfl
        refine lv_iconst (v := 1) hx hb dX2_isDigitAt_39 (by decide) ?_
        refine lv_goto (tgt := 44) hx hb dX2_isDigitAt_40 (by decide) ?_
        obtain ⟨hP9, hD9⟩ := va_pd (ws' := [((ax 13), .inr (2, [.ref (ax 11), .ref (ax 14), .int xSz, .int xPl, .int xBe, .int xRt, .int xRf, .int xRd, .int xLk])), ((ax 11), .inr (5, [.ref (ax 12), .int xTz])), ((ax 12), .inl (cA 0, 200, .inl gB))]) hP hD [0, 1, 2] (by decide) rfl
        subst hQe
        have hans : (1 : Int32).toInt = 1 := (by decide)
        have hpost : ((0 ≤ (1 : Int32).toInt ∧ (1 : Int32).toInt ≤ 1) ∧ (¬ (1 : Int32).toInt = 0 → a.toInt < xTz.toInt ∧ 48 ≤ (gB a.toNatClampNeg).toInt ∧ (gB a.toNatClampNeg).toInt ≤ 57) ∧ ((1 : Int32).toInt = 0 → a.toInt < xTz.toInt → ¬ (48 ≤ (gB a.toNatClampNeg).toInt ∧ (gB a.toNatClampNeg).toInt ≤ 57))) ∧ ((¬ (1 : Int32).toInt = 0 ↔ (48 ≤ tpe gB xTz a.toInt ∧ tpe gB xTz a.toInt ≤ 57))) := ⟨by (have zx_3 := congrArg Int32.toInt ex_3; have zx_6 := congrArg Int32.toInt ex_6; refine ⟨by omega, fun h => ?_, fun h1 h2 => ?_⟩ <;> omega), by (have zx_3 := congrArg Int32.toInt ex_3; have zx_6 := congrArg Int32.toInt ex_6; rw [tp_rng (by omega) (by decide) (by decide)]; omega)⟩
        exact W.zret (v := 1) hx hb hr (by decide) (fun t ht hW => ⟨⟨1, (), rfl, hpost, by rw [ht]; exact hP9, hD9⟩, hS.F ht⟩) hS.2.2 dX2_isDigitAt_44

set_option maxHeartbeats 8000000 in
set_option maxRecDepth 100000 in
theorem k_X2_stop (l : Launch) (dC : Nat → ClassId) (dI : Nat → Nat → Nat) (cA : Nat → ClassId) (sz : Nat) (ax : Nat → Nat) (xSz : Int32) (xPl : Int32) (xBe : Int32) (xRt : Int32) (xRf : Int32) (xRd : Int32) (xLk : Int32) (i_xSz : 0 ≤ xSz.toInt ∧ xSz.toInt ≤ 200) (i_xPl : 0 ≤ xPl.toInt ∧ xPl.toInt ≤ 200) (i_xBe : 0 ≤ xBe.toInt ∧ xBe.toInt ≤ 200) (i_xRt : 0 ≤ xRt.toInt ∧ xRt.toInt ≤ 20)  : Met l yX2_stop wsX2_stop ({ frames := 0, cells := 0, slots := 0, locals := 0 }) (va_Pc [.ref (ax 13)] (fun U => U.heap.size = sz ∧ va_P (dC, dI) vwCl [((ax 13), .inr (2, [.ref (ax 11), .ref (ax 14), .int xSz, .int xPl, .int xBe, .int xRt, .int xRf, .int xRd, .int xLk]))] U.heap ∧ va_K (dC, dI) vwCl (tyL cA) U ∧ va_D (fun _ => True) [((ax 13), .inr (2, [.ref (ax 11), .ref (ax 14), .int xSz, .int xPl, .int xBe, .int xRt, .int xRf, .int xRd, .int xLk]))] ∧ nw_ok U)) (va_Qi (fun (r : Int32) (u : Int32) => (r = 0) ∧ (u.toInt = xPl.toInt)) (fun (u : Int32) (t : State) => va_P (dC, dI) vwCl [((ax 13), .inr (2, [.ref (ax 11), .ref (ax 14), .int xSz, .int xPl, .int xBe, .int xRt, .int u, .int xRd, .int xLk]))] t.heap ∧ va_D (va_A [((ax 13), .inr (2, [.ref (ax 11), .ref (ax 14), .int xSz, .int xPl, .int xBe, .int xRt, .int xRf, .int xRd, .int xLk]))] sz) [((ax 13), .inr (2, [.ref (ax 11), .ref (ax 14), .int xSz, .int xPl, .int xBe, .int xRt, .int u, .int xRd, .int xLk]))]) (va_A [((ax 13), .inr (2, [.ref (ax 11), .ref (ax 14), .int xSz, .int xPl, .int xBe, .int xRt, .int xRf, .int xRd, .int xLk]))] sz)) 0 0 (va_A [((ax 13), .inr (2, [.ref (ax 11), .ref (ax 14), .int xSz, .int xPl, .int xBe, .int xRt, .int xRf, .int xRd, .int xLk]))] sz) := by
  refine Met.ofW (cc := cX2_stop) (maxL := 1) (ret := (some .boolean)) (by decide) rfl ?_
  intro p e s m args below meth c s₁ B hml hv
  obtain ⟨rfl, hsz, hP, hK, hD0, hN⟩ := hv
  have hx := B.exec
  have hb := B.bytes
  have hr := B.returns
  have hts := atoms_spec (ws := wsX2_stop) B.pre
  have hown : s.vm.findClass RX2 = some m.cls := findClass_of_methodNamed B.named
  have hlocks := B.notSynchronized
  subst hsz
  have hD := hD0.self (sz := s.heap.size)
  generalize hAe : va_A [((ax 13), .inr (2, [.ref (ax 11), .ref (ax 14), .int xSz, .int xPl, .int xBe, .int xRt, .int xRf, .int xRd, .int xLk]))] s.heap.size = A at hD ⊢
  have hA : ∀ q : Nat, s.heap.size ≤ q → A q := fun q h => by rw [← hAe]; exact Or.inr h
  have hS : va_S A s.heap s.heap [] := va_S.rf
  have hIX2 : ∀ w ∈ u_ws RX2 TX2 9, w ∈ wsX2_stop := by decide +kernel
  have hl := lv_entry ([.ref (ax 13)]) (n := 1) (Nat.le_of_ble_eq_true rfl)
  rw [lg_entry_eq]
  generalize (lg_sl ([.ref (ax 13)]) ++ List.replicate (1 - (lg_sl ([.ref (ax 13)])).length) Slot.unset).toArray = ls at hl ⊢
  have hl : lv_has ls 1 [(0, .ref (ax 13))] := hl
  generalize hQe : MQ below _ _ _ _ _ _ = QQ
  refine lv_aload_n hx hb dX2_stop_0 rfl (lv_at hl 0 rfl) ?_
  refine lv_aload_n hx hb dX2_stop_1 rfl (lv_at hl 0 rfl) ?_
  refine va_get (D := (dC, dI)) (ci := 2) (v := .int xPl) (C := RX2) (T := TX2) (N := 9) hx hb hts hIX2 hown hK hP 0 rfl rfl 3 (by decide) (hts (.fieldLink RX2 48 "TraitHouse$Reader" "place" "I") (by decide +kernel)) (fun _ h9 => h9) rfl dX2_stop_2 ?_
  refine va_put (D := (dC, dI)) (ci := 2) (v := .int xPl) (ty := .int) (C := RX2) (T := TX2) (N := 9) hx hb hts hIX2 tyX2 tyX2_ok nmX2 hown hK hP hD hS 0 rfl rfl 6 (by decide) (hts (.fieldLink RX2 31 "TraitHouse$Reader" "fault" "I") (by decide +kernel)) (fun _ h9 => h9) rfl (by decide +kernel) rfl rfl (Nat.le_of_ble_eq_true rfl) dX2_stop_5 (fun H locs hP hD hS => ?_)
  replace hP : va_P (dC, dI) vwCl [((ax 13), .inr (2, [.ref (ax 11), .ref (ax 14), .int xSz, .int xPl, .int xBe, .int xRt, .int xPl, .int xRd, .int xLk]))] H := hP
  replace hD : va_D A [((ax 13), .inr (2, [.ref (ax 11), .ref (ax 14), .int xSz, .int xPl, .int xBe, .int xRt, .int xPl, .int xRd, .int xLk]))] := hD
  refine lv_iconst (v := 0) hx hb dX2_stop_8 (by decide) ?_
  obtain ⟨hP9, hD9⟩ := va_pd (ws' := [((ax 13), .inr (2, [.ref (ax 11), .ref (ax 14), .int xSz, .int xPl, .int xBe, .int xRt, .int xPl, .int xRd, .int xLk]))]) hP hD [0] (by decide) rfl
  subst hQe
  have hans : (0 : Int32).toInt = 0 := (by decide)
  have hpost : ((0 : Int32) = 0) ∧ (xPl.toInt = xPl.toInt) := ⟨rfl, rfl⟩
  exact W.zret (v := 0) hx hb hr (by decide) (fun t ht hW => ⟨⟨0, xPl, rfl, hpost, by rw [ht]; exact hP9, hD9⟩, hS.F ht⟩) hS.2.2 dX2_stop_9

set_option maxHeartbeats 8000000 in
set_option maxRecDepth 100000 in
theorem k_X2_advance (l : Launch) (dC : Nat → ClassId) (dI : Nat → Nat → Nat) (cA : Nat → ClassId) (sz : Nat) (ax : Nat → Nat) (xSz : Int32) (xPl : Int32) (xBe : Int32) (xRt : Int32) (xRf : Int32) (xRd : Int32) (xLk : Int32) (xTz : Int32) (gB : Nat → Int32) (i_xSz : 0 ≤ xSz.toInt ∧ xSz.toInt ≤ 200) (i_xPl : 0 ≤ xPl.toInt ∧ xPl.toInt ≤ 200) (i_xBe : 0 ≤ xBe.toInt ∧ xBe.toInt ≤ 200) (i_xRt : 0 ≤ xRt.toInt ∧ xRt.toInt ≤ 20) (i_xTz : 0 ≤ xTz.toInt ∧ xTz.toInt ≤ 200) (i_gB : inB 0 255 200 gB) (hbe : xBe.toInt ≤ xTz.toInt) : Met l yX2_advance wsX2_advance ({ frames := 1, cells := 0, slots := 0, locals := 23 }) (va_Pc [.ref (ax 13)] (fun U => U.heap.size = sz ∧ va_P (dC, dI) vwCl [((ax 13), .inr (2, [.ref (ax 11), .ref (ax 14), .int xSz, .int xPl, .int xBe, .int xRt, .int xRf, .int xRd, .int xLk])), ((ax 11), .inr (5, [.ref (ax 12), .int xTz])), ((ax 12), .inl (cA 0, 200, .inl gB))] U.heap ∧ va_K (dC, dI) vwCl (tyL cA) U ∧ va_D (fun _ => True) [((ax 13), .inr (2, [.ref (ax 11), .ref (ax 14), .int xSz, .int xPl, .int xBe, .int xRt, .int xRf, .int xRd, .int xLk])), ((ax 11), .inr (5, [.ref (ax 12), .int xTz])), ((ax 12), .inl (cA 0, 200, .inl gB))] ∧ nw_ok U)) (va_Qv (fun (u : Int32 × Int32) => (0 ≤ u.1.toInt ∧ u.1.toInt ≤ 200) ∧ (0 ≤ u.2.toInt ∧ u.2.toInt ≤ 200) ∧ (xBe.toInt ≤ u.1.toInt ∧ u.1.toInt ≤ u.2.toInt ∧ u.2.toInt ≤ xTz.toInt ∧ (u.1.toInt < xTz.toInt → u.1.toInt < u.2.toInt)) ∧ (tokOK gB u.1 u.2 xTz) ∧ (u.1.toInt = sk (tpe gB xTz) xBe.toInt ∧ u.2.toInt = tke (tpe gB xTz) xTz.toInt (sk (tpe gB xTz) xBe.toInt))) (fun (u : Int32 × Int32) (t : State) => va_P (dC, dI) vwCl [((ax 13), .inr (2, [.ref (ax 11), .ref (ax 14), .int xSz, .int u.1, .int u.2, .int xRt, .int xRf, .int xRd, .int xLk])), ((ax 11), .inr (5, [.ref (ax 12), .int xTz])), ((ax 12), .inl (cA 0, 200, .inl gB))] t.heap ∧ va_D (va_A [((ax 13), .inr (2, [.ref (ax 11), .ref (ax 14), .int xSz, .int xPl, .int xBe, .int xRt, .int xRf, .int xRd, .int xLk])), ((ax 11), .inr (5, [.ref (ax 12), .int xTz])), ((ax 12), .inl (cA 0, 200, .inl gB))] sz) [((ax 13), .inr (2, [.ref (ax 11), .ref (ax 14), .int xSz, .int u.1, .int u.2, .int xRt, .int xRf, .int xRd, .int xLk])), ((ax 11), .inr (5, [.ref (ax 12), .int xTz])), ((ax 12), .inl (cA 0, 200, .inl gB))]) (va_A [((ax 13), .inr (2, [.ref (ax 11), .ref (ax 14), .int xSz, .int xPl, .int xBe, .int xRt, .int xRf, .int xRd, .int xLk])), ((ax 11), .inr (5, [.ref (ax 12), .int xTz])), ((ax 12), .inl (cA 0, 200, .inl gB))] sz)) 0 0 (va_A [((ax 13), .inr (2, [.ref (ax 11), .ref (ax 14), .int xSz, .int xPl, .int xBe, .int xRt, .int xRf, .int xRd, .int xLk])), ((ax 11), .inr (5, [.ref (ax 12), .int xTz])), ((ax 12), .inl (cA 0, 200, .inl gB))] sz) := by
  refine Met.ofW (cc := cX2_advance) (maxL := 3) (ret := none) (by decide) rfl ?_
  intro p e s m args below meth c s₁ B hml hv
  obtain ⟨rfl, hsz, hP, hK, hD0, hN⟩ := hv
  have hx := B.exec
  have hb := B.bytes
  have hr := B.returns
  have hts := atoms_spec (ws := wsX2_advance) B.pre
  have hown : s.vm.findClass RX2 = some m.cls := findClass_of_methodNamed B.named
  have hlocks := B.notSynchronized
  subst hsz
  have hD := hD0.self (sz := s.heap.size)
  generalize hAe : va_A [((ax 13), .inr (2, [.ref (ax 11), .ref (ax 14), .int xSz, .int xPl, .int xBe, .int xRt, .int xRf, .int xRd, .int xLk])), ((ax 11), .inr (5, [.ref (ax 12), .int xTz])), ((ax 12), .inl (cA 0, 200, .inl gB))] s.heap.size = A at hD ⊢
  have hA : ∀ q : Nat, s.heap.size ≤ q → A q := fun q h => by rw [← hAe]; exact Or.inr h
  have hS : va_S A s.heap s.heap [] := va_S.rf
  have hIX2 : ∀ w ∈ u_ws RX2 TX2 9, w ∈ wsX2_advance := by decide +kernel
  have hIX5 : ∀ w ∈ u_ws RX5 TX5 2, w ∈ wsX2_advance := by decide +kernel
  have hl := lv_entry ([.ref (ax 13)]) (n := 3) (Nat.le_of_ble_eq_true rfl)
  rw [lg_entry_eq]
  generalize (lg_sl ([.ref (ax 13)]) ++ List.replicate (3 - (lg_sl ([.ref (ax 13)])).length) Slot.unset).toArray = ls at hl ⊢
  have hl : lv_has ls 3 [(0, .ref (ax 13))] := hl
  generalize hQe : MQ below _ _ _ _ _ _ = QQ
  refine lv_aload_n hx hb dX2_advance_0 rfl (lv_at hl 0 rfl) ?_
  refine lv_aload_n hx hb dX2_advance_1 rfl (lv_at hl 0 rfl) ?_
  refine va_get (D := (dC, dI)) (ci := 2) (v := .int xBe) (C := RX2) (T := TX2) (N := 9) hx hb hts hIX2 hown hK hP 0 rfl rfl 4 (by decide) (hts (.fieldLink RX2 25 "TraitHouse$Reader" "behind" "I") (by decide +kernel)) (fun _ h9 => h9) rfl dX2_advance_2 ?_
  refine va_put (D := (dC, dI)) (ci := 2) (v := .int xBe) (ty := .int) (C := RX2) (T := TX2) (N := 9) hx hb hts hIX2 tyX2 tyX2_ok nmX2 hown hK hP hD hS 0 rfl rfl 3 (by decide) (hts (.fieldLink RX2 48 "TraitHouse$Reader" "place" "I") (by decide +kernel)) (fun _ h9 => h9) rfl (by decide +kernel) rfl rfl (Nat.le_of_ble_eq_true rfl) dX2_advance_5 (fun H locs hP hD hS => ?_)
  replace hP : va_P (dC, dI) vwCl [((ax 13), .inr (2, [.ref (ax 11), .ref (ax 14), .int xSz, .int xBe, .int xBe, .int xRt, .int xRf, .int xRd, .int xLk])), ((ax 11), .inr (5, [.ref (ax 12), .int xTz])), ((ax 12), .inl (cA 0, 200, .inl gB))] H := hP
  replace hD : va_D A [((ax 13), .inr (2, [.ref (ax 11), .ref (ax 14), .int xSz, .int xBe, .int xBe, .int xRt, .int xRf, .int xRd, .int xLk])), ((ax 11), .inr (5, [.ref (ax 12), .int xTz])), ((ax 12), .inl (cA 0, 200, .inl gB))] := hD
  have loop8_1 : ∀ (n : Nat) (w_xPl_8 : Int32) (H : Heap) (locs : List Loc) (ls : Array Slot), 200 - w_xPl_8.toInt < (n : Int) → (0 ≤ w_xPl_8.toInt ∧ w_xPl_8.toInt ≤ 200) → (xBe.toInt ≤ w_xPl_8.toInt ∧ w_xPl_8.toInt ≤ xTz.toInt) → (sk (tpe gB xTz) w_xPl_8.toInt = sk (tpe gB xTz) xBe.toInt) → va_P (dC, dI) vwCl [((ax 13), .inr (2, [.ref (ax 11), .ref (ax 14), .int xSz, .int w_xPl_8, .int xBe, .int xRt, .int xRf, .int xRd, .int xLk])), ((ax 11), .inr (5, [.ref (ax 12), .int xTz])), ((ax 12), .inl (cA 0, 200, .inl gB))] H → va_D A [((ax 13), .inr (2, [.ref (ax 11), .ref (ax 14), .int xSz, .int w_xPl_8, .int xBe, .int xRt, .int xRf, .int xRd, .int xLk])), ((ax 11), .inr (5, [.ref (ax 12), .int xTz])), ((ax 12), .inl (cA 0, 200, .inl gB))] → va_S A s.heap H locs → lv_has ls 3 [(0, .ref (ax 13))] → W p l e ({ frames := 1, cells := 0, slots := 0, locals := 23 }) s m ([.ref (ax 13)] : List Value).toArray below meth c H locs 0 0 QQ (F0 m 8 ls []) := by
    intro n
    induction n with
    | zero => intro w_xPl_8 H locs ls hme hv0_8 hv1_8 hv2_8; exfalso; omega
    | succ n ih_8 =>
      intro w_xPl_8 H locs ls hme_8 hv0_8 hv1_8 hv2_8 hP hD hS hl
      refine lv_aload_n hx hb dX2_advance_8 rfl (lv_at hl 0 rfl) ?_
      refine va_get (D := (dC, dI)) (ci := 2) (v := .int w_xPl_8) (C := RX2) (T := TX2) (N := 9) hx hb hts hIX2 hown hK hP 0 rfl rfl 3 (by decide) (hts (.fieldLink RX2 48 "TraitHouse$Reader" "place" "I") (by decide +kernel)) (fun _ h9 => h9) rfl dX2_advance_9 ?_
      refine lv_aload_n hx hb dX2_advance_12 rfl (lv_at hl 0 rfl) ?_
      refine va_get (D := (dC, dI)) (ci := 2) (v := .ref (ax 11)) (C := RX2) (T := TX2) (N := 9) hx hb hts hIX2 hown hK hP 0 rfl rfl 0 (by decide) (hts (.fieldLink RX2 17 "TraitHouse$Reader" "tape" "LTraitHouse$Tape;") (by decide +kernel)) (fun _ h9 => h9) rfl dX2_advance_13 ?_
      refine va_getN (D := (dC, dI)) (ci := 5) (v := .int xTz) (C := RX5) (T := TX5) (N := 2) hx hb hts hIX5 hown hK hP 1 rfl rfl 1 (by decide) (va_Nw.use rfl (nw_at hN 9 rfl)) (fun _ h9 => h9) rfl dX2_advance_16 ?_
      refine lv_icmp_ge (tgt := 52) hx hb dX2_advance_19 (by decide) (fun c_2 => ?_) (fun c_2 => ?_)
      · have dc_2 : xTz.toInt ≤ w_xPl_8.toInt := jI_le c_2 rfl rfl
        refine lv_aload_n hx hb dX2_advance_52 rfl (lv_at hl 0 rfl) ?_
        refine lv_aload_n hx hb dX2_advance_53 rfl (lv_at hl 0 rfl) ?_
        refine va_get (D := (dC, dI)) (ci := 2) (v := .int w_xPl_8) (C := RX2) (T := TX2) (N := 9) hx hb hts hIX2 hown hK hP 0 rfl rfl 3 (by decide) (hts (.fieldLink RX2 48 "TraitHouse$Reader" "place" "I") (by decide +kernel)) (fun _ h9 => h9) rfl dX2_advance_54 ?_
        refine lv_iconst (v := 1) hx hb dX2_advance_57 (by decide) ?_
        refine lv_iadd hx hb dX2_advance_58 ?_
        refine lv_topi (fun x_3 ex_3 => ?_)
        have dx_3 : x_3.toInt = w_xPl_8.toInt + 1 := by rw [ex_3]; exact jI_add rfl (by decide) (by omega) (by omega)
        refine lv_aload_n hx hb dX2_advance_59 rfl (lv_at hl 0 rfl) ?_
        refine va_get (D := (dC, dI)) (ci := 2) (v := .ref (ax 11)) (C := RX2) (T := TX2) (N := 9) hx hb hts hIX2 hown hK hP 0 rfl rfl 0 (by decide) (hts (.fieldLink RX2 17 "TraitHouse$Reader" "tape" "LTraitHouse$Tape;") (by decide +kernel)) (fun _ h9 => h9) rfl dX2_advance_60 ?_
        refine va_getN (D := (dC, dI)) (ci := 5) (v := .int xTz) (C := RX5) (T := TX5) (N := 2) hx hb hts hIX5 hown hK hP 1 rfl rfl 1 (by decide) (va_Nw.use rfl (nw_at hN 9 rfl)) (fun _ h9 => h9) rfl dX2_advance_63 ?_
        refine va_mmin hx hb (by rw [hml]; exact hl.1.symm) hown (hts (.methodLink RX2 150 Lib.Math.min.name) (by decide +kernel)) (hts (.static Lib.Math.min.name) (by decide +kernel)) (hts (.initialized "java/lang/Math") (by decide +kernel)) (hts (.code Lib.Math.min.name Lib.Math.min.code 2 (some .int)) (by decide +kernel)) (Nat.le_of_ble_eq_true rfl) (Nat.le_of_ble_eq_true rfl) (Nat.le_of_ble_eq_true rfl) (Nat.le_of_ble_eq_true rfl) dX2_advance_66 ?_
        refine lv_topi (fun x_4 ex_4 => ?_)
        have dx_4 : x_4.toInt = min x_3.toInt xTz.toInt := jI_min ex_4 rfl rfl
        refine va_put (D := (dC, dI)) (ci := 2) (v := .int x_4) (ty := .int) (C := RX2) (T := TX2) (N := 9) hx hb hts hIX2 tyX2 tyX2_ok nmX2 hown hK hP hD hS 0 rfl rfl 4 (by decide) (hts (.fieldLink RX2 25 "TraitHouse$Reader" "behind" "I") (by decide +kernel)) (fun _ h9 => h9) rfl (by decide +kernel) rfl rfl (Nat.le_of_ble_eq_true rfl) dX2_advance_69 (fun H locs hP hD hS => ?_)
        replace hP : va_P (dC, dI) vwCl [((ax 13), .inr (2, [.ref (ax 11), .ref (ax 14), .int xSz, .int w_xPl_8, .int x_4, .int xRt, .int xRf, .int xRd, .int xLk])), ((ax 11), .inr (5, [.ref (ax 12), .int xTz])), ((ax 12), .inl (cA 0, 200, .inl gB))] H := hP
        replace hD : va_D A [((ax 13), .inr (2, [.ref (ax 11), .ref (ax 14), .int xSz, .int w_xPl_8, .int x_4, .int xRt, .int xRf, .int xRd, .int xLk])), ((ax 11), .inr (5, [.ref (ax 12), .int xTz])), ((ax 12), .inl (cA 0, 200, .inl gB))] := hD
        refine lv_aload_n hx hb dX2_advance_72 rfl (lv_at hl 0 rfl) ?_
        refine lv_aload_n hx hb dX2_advance_73 rfl (lv_at hl 0 rfl) ?_
        refine va_get (D := (dC, dI)) (ci := 2) (v := .int w_xPl_8) (C := RX2) (T := TX2) (N := 9) hx hb hts hIX2 hown hK hP 0 rfl rfl 3 (by decide) (hts (.fieldLink RX2 48 "TraitHouse$Reader" "place" "I") (by decide +kernel)) (fun _ h9 => h9) rfl dX2_advance_74 ?_
        obtain ⟨hPc, hDc, hFc, hCc⟩ := va_pre (ws' := [((ax 13), .inr (2, [.ref (ax 11), .ref (ax 14), .int xSz, .int w_xPl_8, .int x_4, .int xRt, .int xRf, .int xRd, .int xLk])), ((ax 11), .inr (5, [.ref (ax 12), .int xTz])), ((ax 12), .inl (cA 0, 200, .inl gB))]) hP hD hS hA [0, 1, 2] (by decide) rfl
        refine va_calli (va_runV (As := [.int w_xPl_8]) (rest := []) ⟨hx, hb, hml, hown, hts⟩ (k_X2_isLetterAt l dC dI cA H.size ax xSz w_xPl_8 x_4 xRt xRf xRd xLk xTz gB w_xPl_8 i_xSz hv0_8 (by omega) i_xRt i_xTz i_gB hv0_8) (cwV 1 hts gX2_advance_X2_isLetterAt rfl rfl rfl (by decide +kernel) ⟨Nat.le_of_ble_eq_true rfl, Nat.le_of_ble_eq_true rfl⟩) ⟨fun a U g mk q => by obtain ⟨q0, q1, qP, qK, qD, qN⟩ := q; exact ⟨q0, q1, qP, va_K.moved (u := U) (U := U.calling g mk a) (Vm.Alike.refl U.vm) qK, qD, qN.same rfl⟩, va_recv hK hPc (ci := 2) (q0 := 0) rfl rfl, fun U hU hW => ⟨rfl, by rw [hU], by rw [hU]; exact hPc, va_K.moved hW.alike hK, hDc.weaken (fun _ _ _ _ => trivial), hN.warm hW⟩⟩ rfl rfl hl.1 rfl (lv_room (Nat.le_of_ble_eq_true rfl)) dX2_advance_77 ⟨Nat.le_of_ble_eq_true rfl, Nat.le_of_ble_eq_true rfl⟩) hS (fun q _ h => hFc q h) hFc (fun r_5 u_6 t H1 locs ht hvm hw_7 hB hz1 hk1 hS => ?_)
        try dsimp only at hw_7 hB
        obtain ⟨po_8, tp_9⟩ := hw_7
        obtain ⟨hP1, hD1⟩ := hB
        rw [ht] at hP1
        obtain ⟨hP, hD⟩ := va_join (wr := []) (w1 := [((ax 13), .inr (2, [.ref (ax 11), .ref (ax 14), .int xSz, .int w_xPl_8, .int x_4, .int xRt, .int xRf, .int xRd, .int xLk])), ((ax 11), .inr (5, [.ref (ax 12), .int xTz])), ((ax 12), .inl (cA 0, 200, .inl gB))]) hP hD [0, 1, 2] [] hCc rfl (by decide) (by decide) hk1 hFc hP1 hD1
        clear hz1
        generalize H1 = H at hP hS ⊢
        refine lv_istore_n (lv' := [(1, .int r_5), (0, .ref (ax 13))]) hx hb dX2_advance_80 rfl hl (by decide) rfl (fun ls hl => ?_)
        refine lv_aload_n hx hb dX2_advance_81 rfl (lv_at hl 1 rfl) ?_
        refine lv_aload_n hx hb dX2_advance_82 rfl (lv_at hl 1 rfl) ?_
        refine va_get (D := (dC, dI)) (ci := 2) (v := .int w_xPl_8) (C := RX2) (T := TX2) (N := 9) hx hb hts hIX2 hown hK hP 0 rfl rfl 3 (by decide) (hts (.fieldLink RX2 48 "TraitHouse$Reader" "place" "I") (by decide +kernel)) (fun _ h9 => h9) rfl dX2_advance_83 ?_
        obtain ⟨hPc, hDc, hFc, hCc⟩ := va_pre (ws' := [((ax 13), .inr (2, [.ref (ax 11), .ref (ax 14), .int xSz, .int w_xPl_8, .int x_4, .int xRt, .int xRf, .int xRd, .int xLk])), ((ax 11), .inr (5, [.ref (ax 12), .int xTz])), ((ax 12), .inl (cA 0, 200, .inl gB))]) hP hD hS hA [0, 1, 2] (by decide) rfl
        refine va_calli (va_runV (As := [.int w_xPl_8]) (rest := []) ⟨hx, hb, hml, hown, hts⟩ (k_X2_isDigitAt l dC dI cA H.size ax xSz w_xPl_8 x_4 xRt xRf xRd xLk xTz gB w_xPl_8 i_xSz hv0_8 (by omega) i_xRt i_xTz i_gB hv0_8) (cwV 1 hts gX2_advance_X2_isDigitAt rfl rfl rfl (by decide +kernel) ⟨Nat.le_of_ble_eq_true rfl, Nat.le_of_ble_eq_true rfl⟩) ⟨fun a U g mk q => by obtain ⟨q0, q1, qP, qK, qD, qN⟩ := q; exact ⟨q0, q1, qP, va_K.moved (u := U) (U := U.calling g mk a) (Vm.Alike.refl U.vm) qK, qD, qN.same rfl⟩, va_recv hK hPc (ci := 2) (q0 := 0) rfl rfl, fun U hU hW => ⟨rfl, by rw [hU], by rw [hU]; exact hPc, va_K.moved hW.alike hK, hDc.weaken (fun _ _ _ _ => trivial), hN.warm hW⟩⟩ rfl rfl hl.1 rfl (lv_room (Nat.le_of_ble_eq_true rfl)) dX2_advance_86 ⟨Nat.le_of_ble_eq_true rfl, Nat.le_of_ble_eq_true rfl⟩) hS (fun q _ h => hFc q h) hFc (fun r_10 u_11 t H1 locs ht hvm hw_12 hB hz1 hk1 hS => ?_)
        try dsimp only at hw_12 hB
        obtain ⟨po_13, tp_14⟩ := hw_12
        obtain ⟨hP1, hD1⟩ := hB
        rw [ht] at hP1
        obtain ⟨hP, hD⟩ := va_join (wr := []) (w1 := [((ax 13), .inr (2, [.ref (ax 11), .ref (ax 14), .int xSz, .int w_xPl_8, .int x_4, .int xRt, .int xRf, .int xRd, .int xLk])), ((ax 11), .inr (5, [.ref (ax 12), .int xTz])), ((ax 12), .inl (cA 0, 200, .inl gB))]) hP hD [0, 1, 2] [] hCc rfl (by decide) (by decide) hk1 hFc hP1 hD1
        clear hz1
        generalize H1 = H at hP hS ⊢
        refine lv_istore_n (lv' := [(2, .int r_10), (1, .int r_5), (0, .ref (ax 13))]) hx hb dX2_advance_89 rfl hl (by decide) rfl (fun ls hl => ?_)
        have loop90_15 : ∀ (n : Nat) (w_xBe_90 : Int32) (H : Heap) (locs : List Loc) (ls : Array Slot), 200 - w_xBe_90.toInt < (n : Int) → (0 ≤ w_xBe_90.toInt ∧ w_xBe_90.toInt ≤ 200) → (w_xPl_8.toInt ≤ w_xBe_90.toInt ∧ w_xBe_90.toInt ≤ xTz.toInt ∧ (w_xPl_8.toInt < xTz.toInt → w_xPl_8.toInt < w_xBe_90.toInt)) → (w_xPl_8.toInt < xTz.toInt → dig (gB w_xPl_8.toNatClampNeg) → ∀ k : Nat, w_xPl_8.toInt ≤ k → (k : Int) < w_xBe_90.toInt → dig (gB k)) → (advI (tpe gB xTz) xTz.toInt w_xPl_8 w_xBe_90 r_5 r_10) → va_P (dC, dI) vwCl [((ax 13), .inr (2, [.ref (ax 11), .ref (ax 14), .int xSz, .int w_xPl_8, .int w_xBe_90, .int xRt, .int xRf, .int xRd, .int xLk])), ((ax 11), .inr (5, [.ref (ax 12), .int xTz])), ((ax 12), .inl (cA 0, 200, .inl gB))] H → va_D A [((ax 13), .inr (2, [.ref (ax 11), .ref (ax 14), .int xSz, .int w_xPl_8, .int w_xBe_90, .int xRt, .int xRf, .int xRd, .int xLk])), ((ax 11), .inr (5, [.ref (ax 12), .int xTz])), ((ax 12), .inl (cA 0, 200, .inl gB))] → va_S A s.heap H locs → lv_has ls 3 [(2, .int r_10), (1, .int r_5), (0, .ref (ax 13))] → W p l e ({ frames := 1, cells := 0, slots := 0, locals := 23 }) s m ([.ref (ax 13)] : List Value).toArray below meth c H locs 0 0 QQ (F0 m 90 ls []) := by
          intro n
          induction n with
          | zero => intro w_xBe_90 H locs ls hme hv0_90 hv1_90 hv2_90 hv3_90; exfalso; omega
          | succ n ih_90 =>
            intro w_xBe_90 H locs ls hme_90 hv0_90 hv1_90 hv2_90 hv3_90 hP hD hS hl
            refine lv_aload_n hx hb dX2_advance_90 rfl (lv_at hl 2 rfl) ?_
            refine va_get (D := (dC, dI)) (ci := 2) (v := .int w_xBe_90) (C := RX2) (T := TX2) (N := 9) hx hb hts hIX2 hown hK hP 0 rfl rfl 4 (by decide) (hts (.fieldLink RX2 25 "TraitHouse$Reader" "behind" "I") (by decide +kernel)) (fun _ h9 => h9) rfl dX2_advance_91 ?_
            refine lv_aload_n hx hb dX2_advance_94 rfl (lv_at hl 2 rfl) ?_
            refine va_get (D := (dC, dI)) (ci := 2) (v := .ref (ax 11)) (C := RX2) (T := TX2) (N := 9) hx hb hts hIX2 hown hK hP 0 rfl rfl 0 (by decide) (hts (.fieldLink RX2 17 "TraitHouse$Reader" "tape" "LTraitHouse$Tape;") (by decide +kernel)) (fun _ h9 => h9) rfl dX2_advance_95 ?_
            refine va_getN (D := (dC, dI)) (ci := 5) (v := .int xTz) (C := RX5) (T := TX5) (N := 2) hx hb hts hIX5 hown hK hP 1 rfl rfl 1 (by decide) (va_Nw.use rfl (nw_at hN 9 rfl)) (fun _ h9 => h9) rfl dX2_advance_98 ?_
            refine lv_icmp_ge (tgt := 147) hx hb dX2_advance_101 (by decide) (fun c_16 => ?_) (fun c_16 => ?_)
            · have dc_16 : xTz.toInt ≤ w_xBe_90.toInt := jI_le c_16 rfl rfl
              obtain ⟨hP9, hD9⟩ := va_pd (ws' := [((ax 13), .inr (2, [.ref (ax 11), .ref (ax 14), .int xSz, .int w_xPl_8, .int w_xBe_90, .int xRt, .int xRf, .int xRd, .int xLk])), ((ax 11), .inr (5, [.ref (ax 12), .int xTz])), ((ax 12), .inl (cA 0, 200, .inl gB))]) hP hD [0, 1, 2] (by decide) rfl
              subst hQe
              have hpost : (0 ≤ w_xPl_8.toInt ∧ w_xPl_8.toInt ≤ 200) ∧ (0 ≤ w_xBe_90.toInt ∧ w_xBe_90.toInt ≤ 200) ∧ (xBe.toInt ≤ w_xPl_8.toInt ∧ w_xPl_8.toInt ≤ w_xBe_90.toInt ∧ w_xBe_90.toInt ≤ xTz.toInt ∧ (w_xPl_8.toInt < xTz.toInt → w_xPl_8.toInt < w_xBe_90.toInt)) ∧ (tokOK gB w_xPl_8 w_xBe_90 xTz) ∧ (w_xPl_8.toInt = sk (tpe gB xTz) xBe.toInt ∧ w_xBe_90.toInt = tke (tpe gB xTz) xTz.toInt (sk (tpe gB xTz) xBe.toInt)) := ⟨hv0_8, hv0_90, by omega, hv2_90, (by have s9 : sk (tpe gB xTz) xBe.toInt = w_xPl_8.toInt := (by rw [← hv2_8]; exact sk_end (by omega) (by omega)); rw [s9]; exact ⟨rfl, (adv_end hv3_90 (by omega)).symm⟩)⟩
              exact W.vret hx hb hr (fun t ht hW => ⟨⟨(w_xPl_8, w_xBe_90), rfl, hpost, by rw [ht]; exact hP9, hD9⟩, hS.F ht⟩) hS.2.2 dX2_advance_147
            · have dc_16 : w_xBe_90.toInt < xTz.toInt := jI_nle c_16 rfl rfl
              refine lv_iload_n hx hb dX2_advance_104 rfl (lv_at hl 1 rfl) ?_
              refine lv_if_eq (tgt := 119) hx hb dX2_advance_105 (by decide) (fun c_17 => ?_) (fun c_17 => ?_)
              · have dc_17 : r_5.toInt = 0 := jI_eq c_17 rfl (by decide)
                replace po_8 := dg_n po_8 dc_17
                replace tp_9 := it_n tp_9 dc_17
                refine lv_iload_n hx hb dX2_advance_119 rfl (lv_at hl 0 rfl) ?_
                refine lv_if_eq (tgt := 147) hx hb dX2_advance_120 (by decide) (fun c_18 => ?_) (fun c_18 => ?_)
                · have dc_18 : r_10.toInt = 0 := jI_eq c_18 rfl (by decide)
                  replace po_13 := dg_n po_13 dc_18
                  replace tp_14 := it_n tp_14 dc_18
                  obtain ⟨hP9, hD9⟩ := va_pd (ws' := [((ax 13), .inr (2, [.ref (ax 11), .ref (ax 14), .int xSz, .int w_xPl_8, .int w_xBe_90, .int xRt, .int xRf, .int xRd, .int xLk])), ((ax 11), .inr (5, [.ref (ax 12), .int xTz])), ((ax 12), .inl (cA 0, 200, .inl gB))]) hP hD [0, 1, 2] (by decide) rfl
                  subst hQe
                  have hpost : (0 ≤ w_xPl_8.toInt ∧ w_xPl_8.toInt ≤ 200) ∧ (0 ≤ w_xBe_90.toInt ∧ w_xBe_90.toInt ≤ 200) ∧ (xBe.toInt ≤ w_xPl_8.toInt ∧ w_xPl_8.toInt ≤ w_xBe_90.toInt ∧ w_xBe_90.toInt ≤ xTz.toInt ∧ (w_xPl_8.toInt < xTz.toInt → w_xPl_8.toInt < w_xBe_90.toInt)) ∧ (tokOK gB w_xPl_8 w_xBe_90 xTz) ∧ (w_xPl_8.toInt = sk (tpe gB xTz) xBe.toInt ∧ w_xBe_90.toInt = tke (tpe gB xTz) xTz.toInt (sk (tpe gB xTz) xBe.toInt)) := ⟨hv0_8, hv0_90, by omega, hv2_90, (by have s9 : sk (tpe gB xTz) xBe.toInt = w_xPl_8.toInt := (by rw [← hv2_8]; exact sk_end (by omega) (by omega)); rw [s9]; exact ⟨rfl, (adv_end hv3_90 (by omega)).symm⟩)⟩
                  exact W.vret hx hb hr (fun t ht hW => ⟨⟨(w_xPl_8, w_xBe_90), rfl, hpost, by rw [ht]; exact hP9, hD9⟩, hS.F ht⟩) hS.2.2 dX2_advance_147
                · have dc_18 : ¬ r_10.toInt = 0 := jI_ne c_18 rfl (by decide)
                  replace po_13 := dg_y po_13 dc_18
                  replace tp_14 := it_y tp_14 dc_18
                  refine lv_aload_n hx hb dX2_advance_123 rfl (lv_at hl 2 rfl) ?_
                  refine lv_aload_n hx hb dX2_advance_124 rfl (lv_at hl 2 rfl) ?_
                  refine va_get (D := (dC, dI)) (ci := 2) (v := .int w_xBe_90) (C := RX2) (T := TX2) (N := 9) hx hb hts hIX2 hown hK hP 0 rfl rfl 4 (by decide) (hts (.fieldLink RX2 25 "TraitHouse$Reader" "behind" "I") (by decide +kernel)) (fun _ h9 => h9) rfl dX2_advance_125 ?_
                  obtain ⟨hPc, hDc, hFc, hCc⟩ := va_pre (ws' := [((ax 13), .inr (2, [.ref (ax 11), .ref (ax 14), .int xSz, .int w_xPl_8, .int w_xBe_90, .int xRt, .int xRf, .int xRd, .int xLk])), ((ax 11), .inr (5, [.ref (ax 12), .int xTz])), ((ax 12), .inl (cA 0, 200, .inl gB))]) hP hD hS hA [0, 1, 2] (by decide) rfl
                  refine va_calli (va_runV (As := [.int w_xBe_90]) (rest := []) ⟨hx, hb, hml, hown, hts⟩ (k_X2_isDigitAt l dC dI cA H.size ax xSz w_xPl_8 w_xBe_90 xRt xRf xRd xLk xTz gB w_xBe_90 i_xSz hv0_8 hv0_90 i_xRt i_xTz i_gB hv0_90) (cwV 1 hts gX2_advance_X2_isDigitAt rfl rfl rfl (by decide +kernel) ⟨Nat.le_of_ble_eq_true rfl, Nat.le_of_ble_eq_true rfl⟩) ⟨fun a U g mk q => by obtain ⟨q0, q1, qP, qK, qD, qN⟩ := q; exact ⟨q0, q1, qP, va_K.moved (u := U) (U := U.calling g mk a) (Vm.Alike.refl U.vm) qK, qD, qN.same rfl⟩, va_recv hK hPc (ci := 2) (q0 := 0) rfl rfl, fun U hU hW => ⟨rfl, by rw [hU], by rw [hU]; exact hPc, va_K.moved hW.alike hK, hDc.weaken (fun _ _ _ _ => trivial), hN.warm hW⟩⟩ rfl rfl hl.1 rfl (lv_room (Nat.le_of_ble_eq_true rfl)) dX2_advance_128 ⟨Nat.le_of_ble_eq_true rfl, Nat.le_of_ble_eq_true rfl⟩) hS (fun q _ h => hFc q h) hFc (fun r_19 u_20 t H1 locs ht hvm hw_21 hB hz1 hk1 hS => ?_)
                  try dsimp only at hw_21 hB
                  obtain ⟨po_22, tp_23⟩ := hw_21
                  obtain ⟨hP1, hD1⟩ := hB
                  rw [ht] at hP1
                  obtain ⟨hP, hD⟩ := va_join (wr := []) (w1 := [((ax 13), .inr (2, [.ref (ax 11), .ref (ax 14), .int xSz, .int w_xPl_8, .int w_xBe_90, .int xRt, .int xRf, .int xRd, .int xLk])), ((ax 11), .inr (5, [.ref (ax 12), .int xTz])), ((ax 12), .inl (cA 0, 200, .inl gB))]) hP hD [0, 1, 2] [] hCc rfl (by decide) (by decide) hk1 hFc hP1 hD1
                  clear hz1
                  generalize H1 = H at hP hS ⊢
                  refine lv_if_eq (tgt := 147) hx hb dX2_advance_131 (by decide) (fun c_24 => ?_) (fun c_24 => ?_)
                  · have dc_24 : r_19.toInt = 0 := jI_eq c_24 rfl (by decide)
                    replace po_22 := dg_n po_22 dc_24
                    obtain ⟨hP9, hD9⟩ := va_pd (ws' := [((ax 13), .inr (2, [.ref (ax 11), .ref (ax 14), .int xSz, .int w_xPl_8, .int w_xBe_90, .int xRt, .int xRf, .int xRd, .int xLk])), ((ax 11), .inr (5, [.ref (ax 12), .int xTz])), ((ax 12), .inl (cA 0, 200, .inl gB))]) hP hD [0, 1, 2] (by decide) rfl
                    subst hQe
                    have hpost : (0 ≤ w_xPl_8.toInt ∧ w_xPl_8.toInt ≤ 200) ∧ (0 ≤ w_xBe_90.toInt ∧ w_xBe_90.toInt ≤ 200) ∧ (xBe.toInt ≤ w_xPl_8.toInt ∧ w_xPl_8.toInt ≤ w_xBe_90.toInt ∧ w_xBe_90.toInt ≤ xTz.toInt ∧ (w_xPl_8.toInt < xTz.toInt → w_xPl_8.toInt < w_xBe_90.toInt)) ∧ (tokOK gB w_xPl_8 w_xBe_90 xTz) ∧ (w_xPl_8.toInt = sk (tpe gB xTz) xBe.toInt ∧ w_xBe_90.toInt = tke (tpe gB xTz) xTz.toInt (sk (tpe gB xTz) xBe.toInt)) := ⟨hv0_8, hv0_90, by omega, hv2_90, (by have s9 : sk (tpe gB xTz) xBe.toInt = w_xPl_8.toInt := (by rw [← hv2_8]; exact sk_end (by omega) (by omega)); rw [s9]; exact ⟨rfl, (adv_end hv3_90 (by have := tp_23; omega)).symm⟩)⟩
                    exact W.vret hx hb hr (fun t ht hW => ⟨⟨(w_xPl_8, w_xBe_90), rfl, hpost, by rw [ht]; exact hP9, hD9⟩, hS.F ht⟩) hS.2.2 dX2_advance_147
                  · have dc_24 : ¬ r_19.toInt = 0 := jI_ne c_24 rfl (by decide)
                    refine lv_aload_n hx hb dX2_advance_134 rfl (lv_at hl 2 rfl) ?_
                    refine lv_dup hx hb dX2_advance_135 rfl ?_
                    refine va_get (D := (dC, dI)) (ci := 2) (v := .int w_xBe_90) (C := RX2) (T := TX2) (N := 9) hx hb hts hIX2 hown hK hP 0 rfl rfl 4 (by decide) (hts (.fieldLink RX2 25 "TraitHouse$Reader" "behind" "I") (by decide +kernel)) (fun _ h9 => h9) rfl dX2_advance_136 ?_
                    refine lv_iconst (v := 1) hx hb dX2_advance_139 (by decide) ?_
                    refine lv_iadd hx hb dX2_advance_140 ?_
                    refine lv_topi (fun x_25 ex_25 => ?_)
                    have dx_25 : x_25.toInt = w_xBe_90.toInt + 1 := by rw [ex_25]; exact jI_add rfl (by decide) (by omega) (by omega)
                    refine va_put (D := (dC, dI)) (ci := 2) (v := .int x_25) (ty := .int) (C := RX2) (T := TX2) (N := 9) hx hb hts hIX2 tyX2 tyX2_ok nmX2 hown hK hP hD hS 0 rfl rfl 4 (by decide) (hts (.fieldLink RX2 25 "TraitHouse$Reader" "behind" "I") (by decide +kernel)) (fun _ h9 => h9) rfl (by decide +kernel) rfl rfl (Nat.le_of_ble_eq_true rfl) dX2_advance_141 (fun H locs hP hD hS => ?_)
                    replace hP : va_P (dC, dI) vwCl [((ax 13), .inr (2, [.ref (ax 11), .ref (ax 14), .int xSz, .int w_xPl_8, .int x_25, .int xRt, .int xRf, .int xRd, .int xLk])), ((ax 11), .inr (5, [.ref (ax 12), .int xTz])), ((ax 12), .inl (cA 0, 200, .inl gB))] H := hP
                    replace hD : va_D A [((ax 13), .inr (2, [.ref (ax 11), .ref (ax 14), .int xSz, .int w_xPl_8, .int x_25, .int xRt, .int xRf, .int xRd, .int xLk])), ((ax 11), .inr (5, [.ref (ax 12), .int xTz])), ((ax 12), .inl (cA 0, 200, .inl gB))] := hD
                    refine lv_goto (tgt := 90) hx hb dX2_advance_144 (by decide) ?_
                    exact ih_90 x_25 _ _ ls (by omega) (by omega) (by omega) (fun h1 h2 => tok_ext (x := 0) (hv2_90 h1 h2) ⟨(po_22.2.1 (by omega)).2.1, (po_22.2.1 (by omega)).2.2⟩ (by omega) (by omega)) (adv_back hv3_90 (Or.inr ⟨by omega, tp_23.mp (by omega)⟩) (by omega) (by omega)) (hP.sub [0, 1, 2] rfl) (hD.sub [0, 1, 2] (by decide) rfl) hS (lv_sub hl [0, 1, 2] rfl)
              · have dc_17 : ¬ r_5.toInt = 0 := jI_ne c_17 rfl (by decide)
                replace tp_9 := it_y tp_9 dc_17
                refine lv_aload_n hx hb dX2_advance_108 rfl (lv_at hl 2 rfl) ?_
                refine lv_aload_n hx hb dX2_advance_109 rfl (lv_at hl 2 rfl) ?_
                refine va_get (D := (dC, dI)) (ci := 2) (v := .int w_xBe_90) (C := RX2) (T := TX2) (N := 9) hx hb hts hIX2 hown hK hP 0 rfl rfl 4 (by decide) (hts (.fieldLink RX2 25 "TraitHouse$Reader" "behind" "I") (by decide +kernel)) (fun _ h9 => h9) rfl dX2_advance_110 ?_
                obtain ⟨hPc, hDc, hFc, hCc⟩ := va_pre (ws' := [((ax 13), .inr (2, [.ref (ax 11), .ref (ax 14), .int xSz, .int w_xPl_8, .int w_xBe_90, .int xRt, .int xRf, .int xRd, .int xLk])), ((ax 11), .inr (5, [.ref (ax 12), .int xTz])), ((ax 12), .inl (cA 0, 200, .inl gB))]) hP hD hS hA [0, 1, 2] (by decide) rfl
                refine va_calli (va_runV (As := [.int w_xBe_90]) (rest := []) ⟨hx, hb, hml, hown, hts⟩ (k_X2_isLetterAt l dC dI cA H.size ax xSz w_xPl_8 w_xBe_90 xRt xRf xRd xLk xTz gB w_xBe_90 i_xSz hv0_8 hv0_90 i_xRt i_xTz i_gB hv0_90) (cwV 1 hts gX2_advance_X2_isLetterAt rfl rfl rfl (by decide +kernel) ⟨Nat.le_of_ble_eq_true rfl, Nat.le_of_ble_eq_true rfl⟩) ⟨fun a U g mk q => by obtain ⟨q0, q1, qP, qK, qD, qN⟩ := q; exact ⟨q0, q1, qP, va_K.moved (u := U) (U := U.calling g mk a) (Vm.Alike.refl U.vm) qK, qD, qN.same rfl⟩, va_recv hK hPc (ci := 2) (q0 := 0) rfl rfl, fun U hU hW => ⟨rfl, by rw [hU], by rw [hU]; exact hPc, va_K.moved hW.alike hK, hDc.weaken (fun _ _ _ _ => trivial), hN.warm hW⟩⟩ rfl rfl hl.1 rfl (lv_room (Nat.le_of_ble_eq_true rfl)) dX2_advance_113 ⟨Nat.le_of_ble_eq_true rfl, Nat.le_of_ble_eq_true rfl⟩) hS (fun q _ h => hFc q h) hFc (fun r_26 u_27 t H1 locs ht hvm hw_28 hB hz1 hk1 hS => ?_)
                try dsimp only at hw_28 hB
                obtain ⟨po_29, tp_30⟩ := hw_28
                obtain ⟨hP1, hD1⟩ := hB
                rw [ht] at hP1
                obtain ⟨hP, hD⟩ := va_join (wr := []) (w1 := [((ax 13), .inr (2, [.ref (ax 11), .ref (ax 14), .int xSz, .int w_xPl_8, .int w_xBe_90, .int xRt, .int xRf, .int xRd, .int xLk])), ((ax 11), .inr (5, [.ref (ax 12), .int xTz])), ((ax 12), .inl (cA 0, 200, .inl gB))]) hP hD [0, 1, 2] [] hCc rfl (by decide) (by decide) hk1 hFc hP1 hD1
                clear hz1
                generalize H1 = H at hP hS ⊢
                refine lv_if_ne (tgt := 134) hx hb dX2_advance_116 (by decide) (fun c_31 => ?_) (fun c_31 => ?_)
                · have dc_31 : ¬ r_26.toInt = 0 := jI_ne c_31 rfl (by decide)
                  replace po_29 := dg_y po_29 dc_31
                  refine lv_aload_n hx hb dX2_advance_134 rfl (lv_at hl 2 rfl) ?_
                  refine lv_dup hx hb dX2_advance_135 rfl ?_
                  refine va_get (D := (dC, dI)) (ci := 2) (v := .int w_xBe_90) (C := RX2) (T := TX2) (N := 9) hx hb hts hIX2 hown hK hP 0 rfl rfl 4 (by decide) (hts (.fieldLink RX2 25 "TraitHouse$Reader" "behind" "I") (by decide +kernel)) (fun _ h9 => h9) rfl dX2_advance_136 ?_
                  refine lv_iconst (v := 1) hx hb dX2_advance_139 (by decide) ?_
                  refine lv_iadd hx hb dX2_advance_140 ?_
                  refine lv_topi (fun x_32 ex_32 => ?_)
                  have dx_32 : x_32.toInt = w_xBe_90.toInt + 1 := by rw [ex_32]; exact jI_add rfl (by decide) (by omega) (by omega)
                  refine va_put (D := (dC, dI)) (ci := 2) (v := .int x_32) (ty := .int) (C := RX2) (T := TX2) (N := 9) hx hb hts hIX2 tyX2 tyX2_ok nmX2 hown hK hP hD hS 0 rfl rfl 4 (by decide) (hts (.fieldLink RX2 25 "TraitHouse$Reader" "behind" "I") (by decide +kernel)) (fun _ h9 => h9) rfl (by decide +kernel) rfl rfl (Nat.le_of_ble_eq_true rfl) dX2_advance_141 (fun H locs hP hD hS => ?_)
                  replace hP : va_P (dC, dI) vwCl [((ax 13), .inr (2, [.ref (ax 11), .ref (ax 14), .int xSz, .int w_xPl_8, .int x_32, .int xRt, .int xRf, .int xRd, .int xLk])), ((ax 11), .inr (5, [.ref (ax 12), .int xTz])), ((ax 12), .inl (cA 0, 200, .inl gB))] H := hP
                  replace hD : va_D A [((ax 13), .inr (2, [.ref (ax 11), .ref (ax 14), .int xSz, .int w_xPl_8, .int x_32, .int xRt, .int xRf, .int xRd, .int xLk])), ((ax 11), .inr (5, [.ref (ax 12), .int xTz])), ((ax 12), .inl (cA 0, 200, .inl gB))] := hD
                  refine lv_goto (tgt := 90) hx hb dX2_advance_144 (by decide) ?_
                  exact ih_90 x_32 _ _ ls (by omega) (by omega) (by omega) (fun h1 h2 => by exfalso; have hd1 := h2.1; have hd2 := h2.2; have := po_8; omega) (adv_back hv3_90 (Or.inl ⟨by omega, tp_30.mp (by omega)⟩) (by omega) (by omega)) (hP.sub [0, 1, 2] rfl) (hD.sub [0, 1, 2] (by decide) rfl) hS (lv_sub hl [0, 1, 2] rfl)
                · have dc_31 : r_26.toInt = 0 := jI_eq c_31 rfl (by decide)
                  replace po_29 := dg_n po_29 dc_31
                  refine lv_iload_n hx hb dX2_advance_119 rfl (lv_at hl 0 rfl) ?_
                  refine lv_if_eq (tgt := 147) hx hb dX2_advance_120 (by decide) (fun c_33 => ?_) (fun c_33 => ?_)
                  · have dc_33 : r_10.toInt = 0 := jI_eq c_33 rfl (by decide)
                    replace po_13 := dg_n po_13 dc_33
                    replace tp_14 := it_n tp_14 dc_33
                    obtain ⟨hP9, hD9⟩ := va_pd (ws' := [((ax 13), .inr (2, [.ref (ax 11), .ref (ax 14), .int xSz, .int w_xPl_8, .int w_xBe_90, .int xRt, .int xRf, .int xRd, .int xLk])), ((ax 11), .inr (5, [.ref (ax 12), .int xTz])), ((ax 12), .inl (cA 0, 200, .inl gB))]) hP hD [0, 1, 2] (by decide) rfl
                    subst hQe
                    have hpost : (0 ≤ w_xPl_8.toInt ∧ w_xPl_8.toInt ≤ 200) ∧ (0 ≤ w_xBe_90.toInt ∧ w_xBe_90.toInt ≤ 200) ∧ (xBe.toInt ≤ w_xPl_8.toInt ∧ w_xPl_8.toInt ≤ w_xBe_90.toInt ∧ w_xBe_90.toInt ≤ xTz.toInt ∧ (w_xPl_8.toInt < xTz.toInt → w_xPl_8.toInt < w_xBe_90.toInt)) ∧ (tokOK gB w_xPl_8 w_xBe_90 xTz) ∧ (w_xPl_8.toInt = sk (tpe gB xTz) xBe.toInt ∧ w_xBe_90.toInt = tke (tpe gB xTz) xTz.toInt (sk (tpe gB xTz) xBe.toInt)) := ⟨hv0_8, hv0_90, by omega, hv2_90, (by have s9 : sk (tpe gB xTz) xBe.toInt = w_xPl_8.toInt := (by rw [← hv2_8]; exact sk_end (by omega) (by omega)); rw [s9]; exact ⟨rfl, (adv_end hv3_90 (by have := tp_30; omega)).symm⟩)⟩
                    exact W.vret hx hb hr (fun t ht hW => ⟨⟨(w_xPl_8, w_xBe_90), rfl, hpost, by rw [ht]; exact hP9, hD9⟩, hS.F ht⟩) hS.2.2 dX2_advance_147
                  · have dc_33 : ¬ r_10.toInt = 0 := jI_ne c_33 rfl (by decide)
                    replace po_13 := dg_y po_13 dc_33
                    replace tp_14 := it_y tp_14 dc_33
                    refine lv_aload_n hx hb dX2_advance_123 rfl (lv_at hl 2 rfl) ?_
                    refine lv_aload_n hx hb dX2_advance_124 rfl (lv_at hl 2 rfl) ?_
                    refine va_get (D := (dC, dI)) (ci := 2) (v := .int w_xBe_90) (C := RX2) (T := TX2) (N := 9) hx hb hts hIX2 hown hK hP 0 rfl rfl 4 (by decide) (hts (.fieldLink RX2 25 "TraitHouse$Reader" "behind" "I") (by decide +kernel)) (fun _ h9 => h9) rfl dX2_advance_125 ?_
                    obtain ⟨hPc, hDc, hFc, hCc⟩ := va_pre (ws' := [((ax 13), .inr (2, [.ref (ax 11), .ref (ax 14), .int xSz, .int w_xPl_8, .int w_xBe_90, .int xRt, .int xRf, .int xRd, .int xLk])), ((ax 11), .inr (5, [.ref (ax 12), .int xTz])), ((ax 12), .inl (cA 0, 200, .inl gB))]) hP hD hS hA [0, 1, 2] (by decide) rfl
                    refine va_calli (va_runV (As := [.int w_xBe_90]) (rest := []) ⟨hx, hb, hml, hown, hts⟩ (k_X2_isDigitAt l dC dI cA H.size ax xSz w_xPl_8 w_xBe_90 xRt xRf xRd xLk xTz gB w_xBe_90 i_xSz hv0_8 hv0_90 i_xRt i_xTz i_gB hv0_90) (cwV 1 hts gX2_advance_X2_isDigitAt rfl rfl rfl (by decide +kernel) ⟨Nat.le_of_ble_eq_true rfl, Nat.le_of_ble_eq_true rfl⟩) ⟨fun a U g mk q => by obtain ⟨q0, q1, qP, qK, qD, qN⟩ := q; exact ⟨q0, q1, qP, va_K.moved (u := U) (U := U.calling g mk a) (Vm.Alike.refl U.vm) qK, qD, qN.same rfl⟩, va_recv hK hPc (ci := 2) (q0 := 0) rfl rfl, fun U hU hW => ⟨rfl, by rw [hU], by rw [hU]; exact hPc, va_K.moved hW.alike hK, hDc.weaken (fun _ _ _ _ => trivial), hN.warm hW⟩⟩ rfl rfl hl.1 rfl (lv_room (Nat.le_of_ble_eq_true rfl)) dX2_advance_128 ⟨Nat.le_of_ble_eq_true rfl, Nat.le_of_ble_eq_true rfl⟩) hS (fun q _ h => hFc q h) hFc (fun r_34 u_35 t H1 locs ht hvm hw_36 hB hz1 hk1 hS => ?_)
                    try dsimp only at hw_36 hB
                    obtain ⟨po_37, tp_38⟩ := hw_36
                    obtain ⟨hP1, hD1⟩ := hB
                    rw [ht] at hP1
                    obtain ⟨hP, hD⟩ := va_join (wr := []) (w1 := [((ax 13), .inr (2, [.ref (ax 11), .ref (ax 14), .int xSz, .int w_xPl_8, .int w_xBe_90, .int xRt, .int xRf, .int xRd, .int xLk])), ((ax 11), .inr (5, [.ref (ax 12), .int xTz])), ((ax 12), .inl (cA 0, 200, .inl gB))]) hP hD [0, 1, 2] [] hCc rfl (by decide) (by decide) hk1 hFc hP1 hD1
                    clear hz1
                    generalize H1 = H at hP hS ⊢
                    refine lv_if_eq (tgt := 147) hx hb dX2_advance_131 (by decide) (fun c_39 => ?_) (fun c_39 => ?_)
                    · have dc_39 : r_34.toInt = 0 := jI_eq c_39 rfl (by decide)
                      replace po_37 := dg_n po_37 dc_39
                      obtain ⟨hP9, hD9⟩ := va_pd (ws' := [((ax 13), .inr (2, [.ref (ax 11), .ref (ax 14), .int xSz, .int w_xPl_8, .int w_xBe_90, .int xRt, .int xRf, .int xRd, .int xLk])), ((ax 11), .inr (5, [.ref (ax 12), .int xTz])), ((ax 12), .inl (cA 0, 200, .inl gB))]) hP hD [0, 1, 2] (by decide) rfl
                      subst hQe
                      have hpost : (0 ≤ w_xPl_8.toInt ∧ w_xPl_8.toInt ≤ 200) ∧ (0 ≤ w_xBe_90.toInt ∧ w_xBe_90.toInt ≤ 200) ∧ (xBe.toInt ≤ w_xPl_8.toInt ∧ w_xPl_8.toInt ≤ w_xBe_90.toInt ∧ w_xBe_90.toInt ≤ xTz.toInt ∧ (w_xPl_8.toInt < xTz.toInt → w_xPl_8.toInt < w_xBe_90.toInt)) ∧ (tokOK gB w_xPl_8 w_xBe_90 xTz) ∧ (w_xPl_8.toInt = sk (tpe gB xTz) xBe.toInt ∧ w_xBe_90.toInt = tke (tpe gB xTz) xTz.toInt (sk (tpe gB xTz) xBe.toInt)) := ⟨hv0_8, hv0_90, by omega, hv2_90, (by have s9 : sk (tpe gB xTz) xBe.toInt = w_xPl_8.toInt := (by rw [← hv2_8]; exact sk_end (by omega) (by omega)); rw [s9]; exact ⟨rfl, (adv_end hv3_90 (by have := tp_30; have := tp_38; omega)).symm⟩)⟩
                      exact W.vret hx hb hr (fun t ht hW => ⟨⟨(w_xPl_8, w_xBe_90), rfl, hpost, by rw [ht]; exact hP9, hD9⟩, hS.F ht⟩) hS.2.2 dX2_advance_147
                    · have dc_39 : ¬ r_34.toInt = 0 := jI_ne c_39 rfl (by decide)
                      refine lv_aload_n hx hb dX2_advance_134 rfl (lv_at hl 2 rfl) ?_
                      refine lv_dup hx hb dX2_advance_135 rfl ?_
                      refine va_get (D := (dC, dI)) (ci := 2) (v := .int w_xBe_90) (C := RX2) (T := TX2) (N := 9) hx hb hts hIX2 hown hK hP 0 rfl rfl 4 (by decide) (hts (.fieldLink RX2 25 "TraitHouse$Reader" "behind" "I") (by decide +kernel)) (fun _ h9 => h9) rfl dX2_advance_136 ?_
                      refine lv_iconst (v := 1) hx hb dX2_advance_139 (by decide) ?_
                      refine lv_iadd hx hb dX2_advance_140 ?_
                      refine lv_topi (fun x_40 ex_40 => ?_)
                      have dx_40 : x_40.toInt = w_xBe_90.toInt + 1 := by rw [ex_40]; exact jI_add rfl (by decide) (by omega) (by omega)
                      refine va_put (D := (dC, dI)) (ci := 2) (v := .int x_40) (ty := .int) (C := RX2) (T := TX2) (N := 9) hx hb hts hIX2 tyX2 tyX2_ok nmX2 hown hK hP hD hS 0 rfl rfl 4 (by decide) (hts (.fieldLink RX2 25 "TraitHouse$Reader" "behind" "I") (by decide +kernel)) (fun _ h9 => h9) rfl (by decide +kernel) rfl rfl (Nat.le_of_ble_eq_true rfl) dX2_advance_141 (fun H locs hP hD hS => ?_)
                      replace hP : va_P (dC, dI) vwCl [((ax 13), .inr (2, [.ref (ax 11), .ref (ax 14), .int xSz, .int w_xPl_8, .int x_40, .int xRt, .int xRf, .int xRd, .int xLk])), ((ax 11), .inr (5, [.ref (ax 12), .int xTz])), ((ax 12), .inl (cA 0, 200, .inl gB))] H := hP
                      replace hD : va_D A [((ax 13), .inr (2, [.ref (ax 11), .ref (ax 14), .int xSz, .int w_xPl_8, .int x_40, .int xRt, .int xRf, .int xRd, .int xLk])), ((ax 11), .inr (5, [.ref (ax 12), .int xTz])), ((ax 12), .inl (cA 0, 200, .inl gB))] := hD
                      refine lv_goto (tgt := 90) hx hb dX2_advance_144 (by decide) ?_
                      exact ih_90 x_40 _ _ ls (by omega) (by omega) (by omega) (fun h1 h2 => tok_ext (x := 0) (hv2_90 h1 h2) ⟨(po_37.2.1 (by omega)).2.1, (po_37.2.1 (by omega)).2.2⟩ (by omega) (by omega)) (adv_back hv3_90 (Or.inr ⟨by omega, tp_38.mp (by omega)⟩) (by omega) (by omega)) (hP.sub [0, 1, 2] rfl) (hD.sub [0, 1, 2] (by decide) rfl) hS (lv_sub hl [0, 1, 2] rfl)
        exact loop90_15 (Int.toNat (200 - (x_4 : Int32).toInt) + 1) x_4 _ _ ls (by omega) (by omega) (by omega) (fun h1 h2 k h3 h4 => by have e9 : k = w_xPl_8.toNatClampNeg := (by have : w_xPl_8.toNatClampNeg = w_xPl_8.toInt.toNat := rfl; omega); rw [e9]; exact h2) (adv_start (by omega) (by omega) tp_9 tp_14) hP hD hS (lv_sub hl [0, 1, 2] rfl)
      · have dc_2 : w_xPl_8.toInt < xTz.toInt := jI_nle c_2 rfl rfl
        refine lv_aload_n hx hb dX2_advance_22 rfl (lv_at hl 0 rfl) ?_
        refine va_get (D := (dC, dI)) (ci := 2) (v := .ref (ax 11)) (C := RX2) (T := TX2) (N := 9) hx hb hts hIX2 hown hK hP 0 rfl rfl 0 (by decide) (hts (.fieldLink RX2 17 "TraitHouse$Reader" "tape" "LTraitHouse$Tape;") (by decide +kernel)) (fun _ h9 => h9) rfl dX2_advance_23 ?_
        refine va_getN (D := (dC, dI)) (ci := 5) (v := .ref (ax 12)) (C := RX5) (T := TX5) (N := 2) hx hb hts hIX5 hown hK hP 1 rfl rfl 0 (by decide) (va_Nw.use rfl (nw_at hN 8 rfl)) (fun _ h9 => h9) rfl dX2_advance_26 ?_
        refine lv_aload_n hx hb dX2_advance_29 rfl (lv_at hl 0 rfl) ?_
        refine va_get (D := (dC, dI)) (ci := 2) (v := .int w_xPl_8) (C := RX2) (T := TX2) (N := 9) hx hb hts hIX2 hown hK hP 0 rfl rfl 3 (by decide) (hts (.fieldLink RX2 48 "TraitHouse$Reader" "place" "I") (by decide +kernel)) (fun _ h9 => h9) rfl dX2_advance_30 ?_
        have h_41 : vp_in w_xPl_8 200 := (vp_in_iff.mpr ⟨by omega, by omega⟩)
        refine va_iald hx hb hK hP 2 0 rfl rfl h_41 dX2_advance_33 ?_
        refine lv_topi (fun x_42 ex_42 => ?_)
        have bx_42 := i_gB _ (jix h_41)
        rw [← ex_42] at bx_42
        refine lv_bipush (v := 32) hx hb dX2_advance_34 (by decide) ?_
        refine lv_icmp_ne (tgt := 52) hx hb dX2_advance_36 (by decide) (fun c_43 => ?_) (fun c_43 => ?_)
        · have dc_43 : ¬ x_42.toInt = 32 := jI_ne c_43 rfl (by decide)
          refine lv_aload_n hx hb dX2_advance_52 rfl (lv_at hl 0 rfl) ?_
          refine lv_aload_n hx hb dX2_advance_53 rfl (lv_at hl 0 rfl) ?_
          refine va_get (D := (dC, dI)) (ci := 2) (v := .int w_xPl_8) (C := RX2) (T := TX2) (N := 9) hx hb hts hIX2 hown hK hP 0 rfl rfl 3 (by decide) (hts (.fieldLink RX2 48 "TraitHouse$Reader" "place" "I") (by decide +kernel)) (fun _ h9 => h9) rfl dX2_advance_54 ?_
          refine lv_iconst (v := 1) hx hb dX2_advance_57 (by decide) ?_
          refine lv_iadd hx hb dX2_advance_58 ?_
          refine lv_topi (fun x_44 ex_44 => ?_)
          have dx_44 : x_44.toInt = w_xPl_8.toInt + 1 := by rw [ex_44]; exact jI_add rfl (by decide) (by omega) (by omega)
          refine lv_aload_n hx hb dX2_advance_59 rfl (lv_at hl 0 rfl) ?_
          refine va_get (D := (dC, dI)) (ci := 2) (v := .ref (ax 11)) (C := RX2) (T := TX2) (N := 9) hx hb hts hIX2 hown hK hP 0 rfl rfl 0 (by decide) (hts (.fieldLink RX2 17 "TraitHouse$Reader" "tape" "LTraitHouse$Tape;") (by decide +kernel)) (fun _ h9 => h9) rfl dX2_advance_60 ?_
          refine va_getN (D := (dC, dI)) (ci := 5) (v := .int xTz) (C := RX5) (T := TX5) (N := 2) hx hb hts hIX5 hown hK hP 1 rfl rfl 1 (by decide) (va_Nw.use rfl (nw_at hN 9 rfl)) (fun _ h9 => h9) rfl dX2_advance_63 ?_
          refine va_mmin hx hb (by rw [hml]; exact hl.1.symm) hown (hts (.methodLink RX2 150 Lib.Math.min.name) (by decide +kernel)) (hts (.static Lib.Math.min.name) (by decide +kernel)) (hts (.initialized "java/lang/Math") (by decide +kernel)) (hts (.code Lib.Math.min.name Lib.Math.min.code 2 (some .int)) (by decide +kernel)) (Nat.le_of_ble_eq_true rfl) (Nat.le_of_ble_eq_true rfl) (Nat.le_of_ble_eq_true rfl) (Nat.le_of_ble_eq_true rfl) dX2_advance_66 ?_
          refine lv_topi (fun x_45 ex_45 => ?_)
          have dx_45 : x_45.toInt = min x_44.toInt xTz.toInt := jI_min ex_45 rfl rfl
          refine va_put (D := (dC, dI)) (ci := 2) (v := .int x_45) (ty := .int) (C := RX2) (T := TX2) (N := 9) hx hb hts hIX2 tyX2 tyX2_ok nmX2 hown hK hP hD hS 0 rfl rfl 4 (by decide) (hts (.fieldLink RX2 25 "TraitHouse$Reader" "behind" "I") (by decide +kernel)) (fun _ h9 => h9) rfl (by decide +kernel) rfl rfl (Nat.le_of_ble_eq_true rfl) dX2_advance_69 (fun H locs hP hD hS => ?_)
          replace hP : va_P (dC, dI) vwCl [((ax 13), .inr (2, [.ref (ax 11), .ref (ax 14), .int xSz, .int w_xPl_8, .int x_45, .int xRt, .int xRf, .int xRd, .int xLk])), ((ax 11), .inr (5, [.ref (ax 12), .int xTz])), ((ax 12), .inl (cA 0, 200, .inl gB))] H := hP
          replace hD : va_D A [((ax 13), .inr (2, [.ref (ax 11), .ref (ax 14), .int xSz, .int w_xPl_8, .int x_45, .int xRt, .int xRf, .int xRd, .int xLk])), ((ax 11), .inr (5, [.ref (ax 12), .int xTz])), ((ax 12), .inl (cA 0, 200, .inl gB))] := hD
          refine lv_aload_n hx hb dX2_advance_72 rfl (lv_at hl 0 rfl) ?_
          refine lv_aload_n hx hb dX2_advance_73 rfl (lv_at hl 0 rfl) ?_
          refine va_get (D := (dC, dI)) (ci := 2) (v := .int w_xPl_8) (C := RX2) (T := TX2) (N := 9) hx hb hts hIX2 hown hK hP 0 rfl rfl 3 (by decide) (hts (.fieldLink RX2 48 "TraitHouse$Reader" "place" "I") (by decide +kernel)) (fun _ h9 => h9) rfl dX2_advance_74 ?_
          obtain ⟨hPc, hDc, hFc, hCc⟩ := va_pre (ws' := [((ax 13), .inr (2, [.ref (ax 11), .ref (ax 14), .int xSz, .int w_xPl_8, .int x_45, .int xRt, .int xRf, .int xRd, .int xLk])), ((ax 11), .inr (5, [.ref (ax 12), .int xTz])), ((ax 12), .inl (cA 0, 200, .inl gB))]) hP hD hS hA [0, 1, 2] (by decide) rfl
          refine va_calli (va_runV (As := [.int w_xPl_8]) (rest := []) ⟨hx, hb, hml, hown, hts⟩ (k_X2_isLetterAt l dC dI cA H.size ax xSz w_xPl_8 x_45 xRt xRf xRd xLk xTz gB w_xPl_8 i_xSz hv0_8 (by omega) i_xRt i_xTz i_gB hv0_8) (cwV 1 hts gX2_advance_X2_isLetterAt rfl rfl rfl (by decide +kernel) ⟨Nat.le_of_ble_eq_true rfl, Nat.le_of_ble_eq_true rfl⟩) ⟨fun a U g mk q => by obtain ⟨q0, q1, qP, qK, qD, qN⟩ := q; exact ⟨q0, q1, qP, va_K.moved (u := U) (U := U.calling g mk a) (Vm.Alike.refl U.vm) qK, qD, qN.same rfl⟩, va_recv hK hPc (ci := 2) (q0 := 0) rfl rfl, fun U hU hW => ⟨rfl, by rw [hU], by rw [hU]; exact hPc, va_K.moved hW.alike hK, hDc.weaken (fun _ _ _ _ => trivial), hN.warm hW⟩⟩ rfl rfl hl.1 rfl (lv_room (Nat.le_of_ble_eq_true rfl)) dX2_advance_77 ⟨Nat.le_of_ble_eq_true rfl, Nat.le_of_ble_eq_true rfl⟩) hS (fun q _ h => hFc q h) hFc (fun r_46 u_47 t H1 locs ht hvm hw_48 hB hz1 hk1 hS => ?_)
          try dsimp only at hw_48 hB
          obtain ⟨po_49, tp_50⟩ := hw_48
          obtain ⟨hP1, hD1⟩ := hB
          rw [ht] at hP1
          obtain ⟨hP, hD⟩ := va_join (wr := []) (w1 := [((ax 13), .inr (2, [.ref (ax 11), .ref (ax 14), .int xSz, .int w_xPl_8, .int x_45, .int xRt, .int xRf, .int xRd, .int xLk])), ((ax 11), .inr (5, [.ref (ax 12), .int xTz])), ((ax 12), .inl (cA 0, 200, .inl gB))]) hP hD [0, 1, 2] [] hCc rfl (by decide) (by decide) hk1 hFc hP1 hD1
          clear hz1
          generalize H1 = H at hP hS ⊢
          refine lv_istore_n (lv' := [(1, .int r_46), (0, .ref (ax 13))]) hx hb dX2_advance_80 rfl hl (by decide) rfl (fun ls hl => ?_)
          refine lv_aload_n hx hb dX2_advance_81 rfl (lv_at hl 1 rfl) ?_
          refine lv_aload_n hx hb dX2_advance_82 rfl (lv_at hl 1 rfl) ?_
          refine va_get (D := (dC, dI)) (ci := 2) (v := .int w_xPl_8) (C := RX2) (T := TX2) (N := 9) hx hb hts hIX2 hown hK hP 0 rfl rfl 3 (by decide) (hts (.fieldLink RX2 48 "TraitHouse$Reader" "place" "I") (by decide +kernel)) (fun _ h9 => h9) rfl dX2_advance_83 ?_
          obtain ⟨hPc, hDc, hFc, hCc⟩ := va_pre (ws' := [((ax 13), .inr (2, [.ref (ax 11), .ref (ax 14), .int xSz, .int w_xPl_8, .int x_45, .int xRt, .int xRf, .int xRd, .int xLk])), ((ax 11), .inr (5, [.ref (ax 12), .int xTz])), ((ax 12), .inl (cA 0, 200, .inl gB))]) hP hD hS hA [0, 1, 2] (by decide) rfl
          refine va_calli (va_runV (As := [.int w_xPl_8]) (rest := []) ⟨hx, hb, hml, hown, hts⟩ (k_X2_isDigitAt l dC dI cA H.size ax xSz w_xPl_8 x_45 xRt xRf xRd xLk xTz gB w_xPl_8 i_xSz hv0_8 (by omega) i_xRt i_xTz i_gB hv0_8) (cwV 1 hts gX2_advance_X2_isDigitAt rfl rfl rfl (by decide +kernel) ⟨Nat.le_of_ble_eq_true rfl, Nat.le_of_ble_eq_true rfl⟩) ⟨fun a U g mk q => by obtain ⟨q0, q1, qP, qK, qD, qN⟩ := q; exact ⟨q0, q1, qP, va_K.moved (u := U) (U := U.calling g mk a) (Vm.Alike.refl U.vm) qK, qD, qN.same rfl⟩, va_recv hK hPc (ci := 2) (q0 := 0) rfl rfl, fun U hU hW => ⟨rfl, by rw [hU], by rw [hU]; exact hPc, va_K.moved hW.alike hK, hDc.weaken (fun _ _ _ _ => trivial), hN.warm hW⟩⟩ rfl rfl hl.1 rfl (lv_room (Nat.le_of_ble_eq_true rfl)) dX2_advance_86 ⟨Nat.le_of_ble_eq_true rfl, Nat.le_of_ble_eq_true rfl⟩) hS (fun q _ h => hFc q h) hFc (fun r_51 u_52 t H1 locs ht hvm hw_53 hB hz1 hk1 hS => ?_)
          try dsimp only at hw_53 hB
          obtain ⟨po_54, tp_55⟩ := hw_53
          obtain ⟨hP1, hD1⟩ := hB
          rw [ht] at hP1
          obtain ⟨hP, hD⟩ := va_join (wr := []) (w1 := [((ax 13), .inr (2, [.ref (ax 11), .ref (ax 14), .int xSz, .int w_xPl_8, .int x_45, .int xRt, .int xRf, .int xRd, .int xLk])), ((ax 11), .inr (5, [.ref (ax 12), .int xTz])), ((ax 12), .inl (cA 0, 200, .inl gB))]) hP hD [0, 1, 2] [] hCc rfl (by decide) (by decide) hk1 hFc hP1 hD1
          clear hz1
          generalize H1 = H at hP hS ⊢
          refine lv_istore_n (lv' := [(2, .int r_51), (1, .int r_46), (0, .ref (ax 13))]) hx hb dX2_advance_89 rfl hl (by decide) rfl (fun ls hl => ?_)
          have loop90_56 : ∀ (n : Nat) (w_xBe_90 : Int32) (H : Heap) (locs : List Loc) (ls : Array Slot), 200 - w_xBe_90.toInt < (n : Int) → (0 ≤ w_xBe_90.toInt ∧ w_xBe_90.toInt ≤ 200) → (w_xPl_8.toInt ≤ w_xBe_90.toInt ∧ w_xBe_90.toInt ≤ xTz.toInt ∧ (w_xPl_8.toInt < xTz.toInt → w_xPl_8.toInt < w_xBe_90.toInt)) → (w_xPl_8.toInt < xTz.toInt → dig (gB w_xPl_8.toNatClampNeg) → ∀ k : Nat, w_xPl_8.toInt ≤ k → (k : Int) < w_xBe_90.toInt → dig (gB k)) → (advI (tpe gB xTz) xTz.toInt w_xPl_8 w_xBe_90 r_46 r_51) → va_P (dC, dI) vwCl [((ax 13), .inr (2, [.ref (ax 11), .ref (ax 14), .int xSz, .int w_xPl_8, .int w_xBe_90, .int xRt, .int xRf, .int xRd, .int xLk])), ((ax 11), .inr (5, [.ref (ax 12), .int xTz])), ((ax 12), .inl (cA 0, 200, .inl gB))] H → va_D A [((ax 13), .inr (2, [.ref (ax 11), .ref (ax 14), .int xSz, .int w_xPl_8, .int w_xBe_90, .int xRt, .int xRf, .int xRd, .int xLk])), ((ax 11), .inr (5, [.ref (ax 12), .int xTz])), ((ax 12), .inl (cA 0, 200, .inl gB))] → va_S A s.heap H locs → lv_has ls 3 [(2, .int r_51), (1, .int r_46), (0, .ref (ax 13))] → W p l e ({ frames := 1, cells := 0, slots := 0, locals := 23 }) s m ([.ref (ax 13)] : List Value).toArray below meth c H locs 0 0 QQ (F0 m 90 ls []) := by
            intro n
            induction n with
            | zero => intro w_xBe_90 H locs ls hme hv0_90 hv1_90 hv2_90 hv3_90; exfalso; omega
            | succ n ih_90 =>
              intro w_xBe_90 H locs ls hme_90 hv0_90 hv1_90 hv2_90 hv3_90 hP hD hS hl
              refine lv_aload_n hx hb dX2_advance_90 rfl (lv_at hl 2 rfl) ?_
              refine va_get (D := (dC, dI)) (ci := 2) (v := .int w_xBe_90) (C := RX2) (T := TX2) (N := 9) hx hb hts hIX2 hown hK hP 0 rfl rfl 4 (by decide) (hts (.fieldLink RX2 25 "TraitHouse$Reader" "behind" "I") (by decide +kernel)) (fun _ h9 => h9) rfl dX2_advance_91 ?_
              refine lv_aload_n hx hb dX2_advance_94 rfl (lv_at hl 2 rfl) ?_
              refine va_get (D := (dC, dI)) (ci := 2) (v := .ref (ax 11)) (C := RX2) (T := TX2) (N := 9) hx hb hts hIX2 hown hK hP 0 rfl rfl 0 (by decide) (hts (.fieldLink RX2 17 "TraitHouse$Reader" "tape" "LTraitHouse$Tape;") (by decide +kernel)) (fun _ h9 => h9) rfl dX2_advance_95 ?_
              refine va_getN (D := (dC, dI)) (ci := 5) (v := .int xTz) (C := RX5) (T := TX5) (N := 2) hx hb hts hIX5 hown hK hP 1 rfl rfl 1 (by decide) (va_Nw.use rfl (nw_at hN 9 rfl)) (fun _ h9 => h9) rfl dX2_advance_98 ?_
              refine lv_icmp_ge (tgt := 147) hx hb dX2_advance_101 (by decide) (fun c_57 => ?_) (fun c_57 => ?_)
              · have dc_57 : xTz.toInt ≤ w_xBe_90.toInt := jI_le c_57 rfl rfl
                obtain ⟨hP9, hD9⟩ := va_pd (ws' := [((ax 13), .inr (2, [.ref (ax 11), .ref (ax 14), .int xSz, .int w_xPl_8, .int w_xBe_90, .int xRt, .int xRf, .int xRd, .int xLk])), ((ax 11), .inr (5, [.ref (ax 12), .int xTz])), ((ax 12), .inl (cA 0, 200, .inl gB))]) hP hD [0, 1, 2] (by decide) rfl
                subst hQe
                have hpost : (0 ≤ w_xPl_8.toInt ∧ w_xPl_8.toInt ≤ 200) ∧ (0 ≤ w_xBe_90.toInt ∧ w_xBe_90.toInt ≤ 200) ∧ (xBe.toInt ≤ w_xPl_8.toInt ∧ w_xPl_8.toInt ≤ w_xBe_90.toInt ∧ w_xBe_90.toInt ≤ xTz.toInt ∧ (w_xPl_8.toInt < xTz.toInt → w_xPl_8.toInt < w_xBe_90.toInt)) ∧ (tokOK gB w_xPl_8 w_xBe_90 xTz) ∧ (w_xPl_8.toInt = sk (tpe gB xTz) xBe.toInt ∧ w_xBe_90.toInt = tke (tpe gB xTz) xTz.toInt (sk (tpe gB xTz) xBe.toInt)) := ⟨hv0_8, hv0_90, by omega, hv2_90, (by have s9 : sk (tpe gB xTz) xBe.toInt = w_xPl_8.toInt := (by rw [← hv2_8]; exact sk_end (by omega) (by have zx_42 := congrArg Int32.toInt ex_42; omega)); rw [s9]; exact ⟨rfl, (adv_end hv3_90 (by omega)).symm⟩)⟩
                exact W.vret hx hb hr (fun t ht hW => ⟨⟨(w_xPl_8, w_xBe_90), rfl, hpost, by rw [ht]; exact hP9, hD9⟩, hS.F ht⟩) hS.2.2 dX2_advance_147
              · have dc_57 : w_xBe_90.toInt < xTz.toInt := jI_nle c_57 rfl rfl
                refine lv_iload_n hx hb dX2_advance_104 rfl (lv_at hl 1 rfl) ?_
                refine lv_if_eq (tgt := 119) hx hb dX2_advance_105 (by decide) (fun c_58 => ?_) (fun c_58 => ?_)
                · have dc_58 : r_46.toInt = 0 := jI_eq c_58 rfl (by decide)
                  replace po_49 := dg_n po_49 dc_58
                  replace tp_50 := it_n tp_50 dc_58
                  refine lv_iload_n hx hb dX2_advance_119 rfl (lv_at hl 0 rfl) ?_
                  refine lv_if_eq (tgt := 147) hx hb dX2_advance_120 (by decide) (fun c_59 => ?_) (fun c_59 => ?_)
                  · have dc_59 : r_51.toInt = 0 := jI_eq c_59 rfl (by decide)
                    replace po_54 := dg_n po_54 dc_59
                    replace tp_55 := it_n tp_55 dc_59
                    obtain ⟨hP9, hD9⟩ := va_pd (ws' := [((ax 13), .inr (2, [.ref (ax 11), .ref (ax 14), .int xSz, .int w_xPl_8, .int w_xBe_90, .int xRt, .int xRf, .int xRd, .int xLk])), ((ax 11), .inr (5, [.ref (ax 12), .int xTz])), ((ax 12), .inl (cA 0, 200, .inl gB))]) hP hD [0, 1, 2] (by decide) rfl
                    subst hQe
                    have hpost : (0 ≤ w_xPl_8.toInt ∧ w_xPl_8.toInt ≤ 200) ∧ (0 ≤ w_xBe_90.toInt ∧ w_xBe_90.toInt ≤ 200) ∧ (xBe.toInt ≤ w_xPl_8.toInt ∧ w_xPl_8.toInt ≤ w_xBe_90.toInt ∧ w_xBe_90.toInt ≤ xTz.toInt ∧ (w_xPl_8.toInt < xTz.toInt → w_xPl_8.toInt < w_xBe_90.toInt)) ∧ (tokOK gB w_xPl_8 w_xBe_90 xTz) ∧ (w_xPl_8.toInt = sk (tpe gB xTz) xBe.toInt ∧ w_xBe_90.toInt = tke (tpe gB xTz) xTz.toInt (sk (tpe gB xTz) xBe.toInt)) := ⟨hv0_8, hv0_90, by omega, hv2_90, (by have s9 : sk (tpe gB xTz) xBe.toInt = w_xPl_8.toInt := (by rw [← hv2_8]; exact sk_end (by omega) (by have zx_42 := congrArg Int32.toInt ex_42; omega)); rw [s9]; exact ⟨rfl, (adv_end hv3_90 (by omega)).symm⟩)⟩
                    exact W.vret hx hb hr (fun t ht hW => ⟨⟨(w_xPl_8, w_xBe_90), rfl, hpost, by rw [ht]; exact hP9, hD9⟩, hS.F ht⟩) hS.2.2 dX2_advance_147
                  · have dc_59 : ¬ r_51.toInt = 0 := jI_ne c_59 rfl (by decide)
                    replace po_54 := dg_y po_54 dc_59
                    replace tp_55 := it_y tp_55 dc_59
                    refine lv_aload_n hx hb dX2_advance_123 rfl (lv_at hl 2 rfl) ?_
                    refine lv_aload_n hx hb dX2_advance_124 rfl (lv_at hl 2 rfl) ?_
                    refine va_get (D := (dC, dI)) (ci := 2) (v := .int w_xBe_90) (C := RX2) (T := TX2) (N := 9) hx hb hts hIX2 hown hK hP 0 rfl rfl 4 (by decide) (hts (.fieldLink RX2 25 "TraitHouse$Reader" "behind" "I") (by decide +kernel)) (fun _ h9 => h9) rfl dX2_advance_125 ?_
                    obtain ⟨hPc, hDc, hFc, hCc⟩ := va_pre (ws' := [((ax 13), .inr (2, [.ref (ax 11), .ref (ax 14), .int xSz, .int w_xPl_8, .int w_xBe_90, .int xRt, .int xRf, .int xRd, .int xLk])), ((ax 11), .inr (5, [.ref (ax 12), .int xTz])), ((ax 12), .inl (cA 0, 200, .inl gB))]) hP hD hS hA [0, 1, 2] (by decide) rfl
                    refine va_calli (va_runV (As := [.int w_xBe_90]) (rest := []) ⟨hx, hb, hml, hown, hts⟩ (k_X2_isDigitAt l dC dI cA H.size ax xSz w_xPl_8 w_xBe_90 xRt xRf xRd xLk xTz gB w_xBe_90 i_xSz hv0_8 hv0_90 i_xRt i_xTz i_gB hv0_90) (cwV 1 hts gX2_advance_X2_isDigitAt rfl rfl rfl (by decide +kernel) ⟨Nat.le_of_ble_eq_true rfl, Nat.le_of_ble_eq_true rfl⟩) ⟨fun a U g mk q => by obtain ⟨q0, q1, qP, qK, qD, qN⟩ := q; exact ⟨q0, q1, qP, va_K.moved (u := U) (U := U.calling g mk a) (Vm.Alike.refl U.vm) qK, qD, qN.same rfl⟩, va_recv hK hPc (ci := 2) (q0 := 0) rfl rfl, fun U hU hW => ⟨rfl, by rw [hU], by rw [hU]; exact hPc, va_K.moved hW.alike hK, hDc.weaken (fun _ _ _ _ => trivial), hN.warm hW⟩⟩ rfl rfl hl.1 rfl (lv_room (Nat.le_of_ble_eq_true rfl)) dX2_advance_128 ⟨Nat.le_of_ble_eq_true rfl, Nat.le_of_ble_eq_true rfl⟩) hS (fun q _ h => hFc q h) hFc (fun r_60 u_61 t H1 locs ht hvm hw_62 hB hz1 hk1 hS => ?_)
                    try dsimp only at hw_62 hB
                    obtain ⟨po_63, tp_64⟩ := hw_62
                    obtain ⟨hP1, hD1⟩ := hB
                    rw [ht] at hP1
                    obtain ⟨hP, hD⟩ := va_join (wr := []) (w1 := [((ax 13), .inr (2, [.ref (ax 11), .ref (ax 14), .int xSz, .int w_xPl_8, .int w_xBe_90, .int xRt, .int xRf, .int xRd, .int xLk])), ((ax 11), .inr (5, [.ref (ax 12), .int xTz])), ((ax 12), .inl (cA 0, 200, .inl gB))]) hP hD [0, 1, 2] [] hCc rfl (by decide) (by decide) hk1 hFc hP1 hD1
                    clear hz1
                    generalize H1 = H at hP hS ⊢
                    refine lv_if_eq (tgt := 147) hx hb dX2_advance_131 (by decide) (fun c_65 => ?_) (fun c_65 => ?_)
                    · have dc_65 : r_60.toInt = 0 := jI_eq c_65 rfl (by decide)
                      replace po_63 := dg_n po_63 dc_65
                      obtain ⟨hP9, hD9⟩ := va_pd (ws' := [((ax 13), .inr (2, [.ref (ax 11), .ref (ax 14), .int xSz, .int w_xPl_8, .int w_xBe_90, .int xRt, .int xRf, .int xRd, .int xLk])), ((ax 11), .inr (5, [.ref (ax 12), .int xTz])), ((ax 12), .inl (cA 0, 200, .inl gB))]) hP hD [0, 1, 2] (by decide) rfl
                      subst hQe
                      have hpost : (0 ≤ w_xPl_8.toInt ∧ w_xPl_8.toInt ≤ 200) ∧ (0 ≤ w_xBe_90.toInt ∧ w_xBe_90.toInt ≤ 200) ∧ (xBe.toInt ≤ w_xPl_8.toInt ∧ w_xPl_8.toInt ≤ w_xBe_90.toInt ∧ w_xBe_90.toInt ≤ xTz.toInt ∧ (w_xPl_8.toInt < xTz.toInt → w_xPl_8.toInt < w_xBe_90.toInt)) ∧ (tokOK gB w_xPl_8 w_xBe_90 xTz) ∧ (w_xPl_8.toInt = sk (tpe gB xTz) xBe.toInt ∧ w_xBe_90.toInt = tke (tpe gB xTz) xTz.toInt (sk (tpe gB xTz) xBe.toInt)) := ⟨hv0_8, hv0_90, by omega, hv2_90, (by have s9 : sk (tpe gB xTz) xBe.toInt = w_xPl_8.toInt := (by rw [← hv2_8]; exact sk_end (by omega) (by have zx_42 := congrArg Int32.toInt ex_42; omega)); rw [s9]; exact ⟨rfl, (adv_end hv3_90 (by have := tp_64; omega)).symm⟩)⟩
                      exact W.vret hx hb hr (fun t ht hW => ⟨⟨(w_xPl_8, w_xBe_90), rfl, hpost, by rw [ht]; exact hP9, hD9⟩, hS.F ht⟩) hS.2.2 dX2_advance_147
                    · have dc_65 : ¬ r_60.toInt = 0 := jI_ne c_65 rfl (by decide)
                      refine lv_aload_n hx hb dX2_advance_134 rfl (lv_at hl 2 rfl) ?_
                      refine lv_dup hx hb dX2_advance_135 rfl ?_
                      refine va_get (D := (dC, dI)) (ci := 2) (v := .int w_xBe_90) (C := RX2) (T := TX2) (N := 9) hx hb hts hIX2 hown hK hP 0 rfl rfl 4 (by decide) (hts (.fieldLink RX2 25 "TraitHouse$Reader" "behind" "I") (by decide +kernel)) (fun _ h9 => h9) rfl dX2_advance_136 ?_
                      refine lv_iconst (v := 1) hx hb dX2_advance_139 (by decide) ?_
                      refine lv_iadd hx hb dX2_advance_140 ?_
                      refine lv_topi (fun x_66 ex_66 => ?_)
                      have dx_66 : x_66.toInt = w_xBe_90.toInt + 1 := by rw [ex_66]; exact jI_add rfl (by decide) (by omega) (by omega)
                      refine va_put (D := (dC, dI)) (ci := 2) (v := .int x_66) (ty := .int) (C := RX2) (T := TX2) (N := 9) hx hb hts hIX2 tyX2 tyX2_ok nmX2 hown hK hP hD hS 0 rfl rfl 4 (by decide) (hts (.fieldLink RX2 25 "TraitHouse$Reader" "behind" "I") (by decide +kernel)) (fun _ h9 => h9) rfl (by decide +kernel) rfl rfl (Nat.le_of_ble_eq_true rfl) dX2_advance_141 (fun H locs hP hD hS => ?_)
                      replace hP : va_P (dC, dI) vwCl [((ax 13), .inr (2, [.ref (ax 11), .ref (ax 14), .int xSz, .int w_xPl_8, .int x_66, .int xRt, .int xRf, .int xRd, .int xLk])), ((ax 11), .inr (5, [.ref (ax 12), .int xTz])), ((ax 12), .inl (cA 0, 200, .inl gB))] H := hP
                      replace hD : va_D A [((ax 13), .inr (2, [.ref (ax 11), .ref (ax 14), .int xSz, .int w_xPl_8, .int x_66, .int xRt, .int xRf, .int xRd, .int xLk])), ((ax 11), .inr (5, [.ref (ax 12), .int xTz])), ((ax 12), .inl (cA 0, 200, .inl gB))] := hD
                      refine lv_goto (tgt := 90) hx hb dX2_advance_144 (by decide) ?_
                      exact ih_90 x_66 _ _ ls (by omega) (by omega) (by omega) (fun h1 h2 => tok_ext (x := 0) (hv2_90 h1 h2) ⟨(po_63.2.1 (by omega)).2.1, (po_63.2.1 (by omega)).2.2⟩ (by omega) (by omega)) (adv_back hv3_90 (Or.inr ⟨by omega, tp_64.mp (by omega)⟩) (by omega) (by omega)) (hP.sub [0, 1, 2] rfl) (hD.sub [0, 1, 2] (by decide) rfl) hS (lv_sub hl [0, 1, 2] rfl)
                · have dc_58 : ¬ r_46.toInt = 0 := jI_ne c_58 rfl (by decide)
                  replace tp_50 := it_y tp_50 dc_58
                  refine lv_aload_n hx hb dX2_advance_108 rfl (lv_at hl 2 rfl) ?_
                  refine lv_aload_n hx hb dX2_advance_109 rfl (lv_at hl 2 rfl) ?_
                  refine va_get (D := (dC, dI)) (ci := 2) (v := .int w_xBe_90) (C := RX2) (T := TX2) (N := 9) hx hb hts hIX2 hown hK hP 0 rfl rfl 4 (by decide) (hts (.fieldLink RX2 25 "TraitHouse$Reader" "behind" "I") (by decide +kernel)) (fun _ h9 => h9) rfl dX2_advance_110 ?_
                  obtain ⟨hPc, hDc, hFc, hCc⟩ := va_pre (ws' := [((ax 13), .inr (2, [.ref (ax 11), .ref (ax 14), .int xSz, .int w_xPl_8, .int w_xBe_90, .int xRt, .int xRf, .int xRd, .int xLk])), ((ax 11), .inr (5, [.ref (ax 12), .int xTz])), ((ax 12), .inl (cA 0, 200, .inl gB))]) hP hD hS hA [0, 1, 2] (by decide) rfl
                  refine va_calli (va_runV (As := [.int w_xBe_90]) (rest := []) ⟨hx, hb, hml, hown, hts⟩ (k_X2_isLetterAt l dC dI cA H.size ax xSz w_xPl_8 w_xBe_90 xRt xRf xRd xLk xTz gB w_xBe_90 i_xSz hv0_8 hv0_90 i_xRt i_xTz i_gB hv0_90) (cwV 1 hts gX2_advance_X2_isLetterAt rfl rfl rfl (by decide +kernel) ⟨Nat.le_of_ble_eq_true rfl, Nat.le_of_ble_eq_true rfl⟩) ⟨fun a U g mk q => by obtain ⟨q0, q1, qP, qK, qD, qN⟩ := q; exact ⟨q0, q1, qP, va_K.moved (u := U) (U := U.calling g mk a) (Vm.Alike.refl U.vm) qK, qD, qN.same rfl⟩, va_recv hK hPc (ci := 2) (q0 := 0) rfl rfl, fun U hU hW => ⟨rfl, by rw [hU], by rw [hU]; exact hPc, va_K.moved hW.alike hK, hDc.weaken (fun _ _ _ _ => trivial), hN.warm hW⟩⟩ rfl rfl hl.1 rfl (lv_room (Nat.le_of_ble_eq_true rfl)) dX2_advance_113 ⟨Nat.le_of_ble_eq_true rfl, Nat.le_of_ble_eq_true rfl⟩) hS (fun q _ h => hFc q h) hFc (fun r_67 u_68 t H1 locs ht hvm hw_69 hB hz1 hk1 hS => ?_)
                  try dsimp only at hw_69 hB
                  obtain ⟨po_70, tp_71⟩ := hw_69
                  obtain ⟨hP1, hD1⟩ := hB
                  rw [ht] at hP1
                  obtain ⟨hP, hD⟩ := va_join (wr := []) (w1 := [((ax 13), .inr (2, [.ref (ax 11), .ref (ax 14), .int xSz, .int w_xPl_8, .int w_xBe_90, .int xRt, .int xRf, .int xRd, .int xLk])), ((ax 11), .inr (5, [.ref (ax 12), .int xTz])), ((ax 12), .inl (cA 0, 200, .inl gB))]) hP hD [0, 1, 2] [] hCc rfl (by decide) (by decide) hk1 hFc hP1 hD1
                  clear hz1
                  generalize H1 = H at hP hS ⊢
                  refine lv_if_ne (tgt := 134) hx hb dX2_advance_116 (by decide) (fun c_72 => ?_) (fun c_72 => ?_)
                  · have dc_72 : ¬ r_67.toInt = 0 := jI_ne c_72 rfl (by decide)
                    replace po_70 := dg_y po_70 dc_72
                    refine lv_aload_n hx hb dX2_advance_134 rfl (lv_at hl 2 rfl) ?_
                    refine lv_dup hx hb dX2_advance_135 rfl ?_
                    refine va_get (D := (dC, dI)) (ci := 2) (v := .int w_xBe_90) (C := RX2) (T := TX2) (N := 9) hx hb hts hIX2 hown hK hP 0 rfl rfl 4 (by decide) (hts (.fieldLink RX2 25 "TraitHouse$Reader" "behind" "I") (by decide +kernel)) (fun _ h9 => h9) rfl dX2_advance_136 ?_
                    refine lv_iconst (v := 1) hx hb dX2_advance_139 (by decide) ?_
                    refine lv_iadd hx hb dX2_advance_140 ?_
                    refine lv_topi (fun x_73 ex_73 => ?_)
                    have dx_73 : x_73.toInt = w_xBe_90.toInt + 1 := by rw [ex_73]; exact jI_add rfl (by decide) (by omega) (by omega)
                    refine va_put (D := (dC, dI)) (ci := 2) (v := .int x_73) (ty := .int) (C := RX2) (T := TX2) (N := 9) hx hb hts hIX2 tyX2 tyX2_ok nmX2 hown hK hP hD hS 0 rfl rfl 4 (by decide) (hts (.fieldLink RX2 25 "TraitHouse$Reader" "behind" "I") (by decide +kernel)) (fun _ h9 => h9) rfl (by decide +kernel) rfl rfl (Nat.le_of_ble_eq_true rfl) dX2_advance_141 (fun H locs hP hD hS => ?_)
                    replace hP : va_P (dC, dI) vwCl [((ax 13), .inr (2, [.ref (ax 11), .ref (ax 14), .int xSz, .int w_xPl_8, .int x_73, .int xRt, .int xRf, .int xRd, .int xLk])), ((ax 11), .inr (5, [.ref (ax 12), .int xTz])), ((ax 12), .inl (cA 0, 200, .inl gB))] H := hP
                    replace hD : va_D A [((ax 13), .inr (2, [.ref (ax 11), .ref (ax 14), .int xSz, .int w_xPl_8, .int x_73, .int xRt, .int xRf, .int xRd, .int xLk])), ((ax 11), .inr (5, [.ref (ax 12), .int xTz])), ((ax 12), .inl (cA 0, 200, .inl gB))] := hD
                    refine lv_goto (tgt := 90) hx hb dX2_advance_144 (by decide) ?_
                    exact ih_90 x_73 _ _ ls (by omega) (by omega) (by omega) (fun h1 h2 => by exfalso; have hd1 := h2.1; have hd2 := h2.2; have := po_49; omega) (adv_back hv3_90 (Or.inl ⟨by omega, tp_71.mp (by omega)⟩) (by omega) (by omega)) (hP.sub [0, 1, 2] rfl) (hD.sub [0, 1, 2] (by decide) rfl) hS (lv_sub hl [0, 1, 2] rfl)
                  · have dc_72 : r_67.toInt = 0 := jI_eq c_72 rfl (by decide)
                    replace po_70 := dg_n po_70 dc_72
                    refine lv_iload_n hx hb dX2_advance_119 rfl (lv_at hl 0 rfl) ?_
                    refine lv_if_eq (tgt := 147) hx hb dX2_advance_120 (by decide) (fun c_74 => ?_) (fun c_74 => ?_)
                    · have dc_74 : r_51.toInt = 0 := jI_eq c_74 rfl (by decide)
                      replace po_54 := dg_n po_54 dc_74
                      replace tp_55 := it_n tp_55 dc_74
                      obtain ⟨hP9, hD9⟩ := va_pd (ws' := [((ax 13), .inr (2, [.ref (ax 11), .ref (ax 14), .int xSz, .int w_xPl_8, .int w_xBe_90, .int xRt, .int xRf, .int xRd, .int xLk])), ((ax 11), .inr (5, [.ref (ax 12), .int xTz])), ((ax 12), .inl (cA 0, 200, .inl gB))]) hP hD [0, 1, 2] (by decide) rfl
                      subst hQe
                      have hpost : (0 ≤ w_xPl_8.toInt ∧ w_xPl_8.toInt ≤ 200) ∧ (0 ≤ w_xBe_90.toInt ∧ w_xBe_90.toInt ≤ 200) ∧ (xBe.toInt ≤ w_xPl_8.toInt ∧ w_xPl_8.toInt ≤ w_xBe_90.toInt ∧ w_xBe_90.toInt ≤ xTz.toInt ∧ (w_xPl_8.toInt < xTz.toInt → w_xPl_8.toInt < w_xBe_90.toInt)) ∧ (tokOK gB w_xPl_8 w_xBe_90 xTz) ∧ (w_xPl_8.toInt = sk (tpe gB xTz) xBe.toInt ∧ w_xBe_90.toInt = tke (tpe gB xTz) xTz.toInt (sk (tpe gB xTz) xBe.toInt)) := ⟨hv0_8, hv0_90, by omega, hv2_90, (by have s9 : sk (tpe gB xTz) xBe.toInt = w_xPl_8.toInt := (by rw [← hv2_8]; exact sk_end (by omega) (by have zx_42 := congrArg Int32.toInt ex_42; omega)); rw [s9]; exact ⟨rfl, (adv_end hv3_90 (by have := tp_71; omega)).symm⟩)⟩
                      exact W.vret hx hb hr (fun t ht hW => ⟨⟨(w_xPl_8, w_xBe_90), rfl, hpost, by rw [ht]; exact hP9, hD9⟩, hS.F ht⟩) hS.2.2 dX2_advance_147
                    · have dc_74 : ¬ r_51.toInt = 0 := jI_ne c_74 rfl (by decide)
                      replace po_54 := dg_y po_54 dc_74
                      replace tp_55 := it_y tp_55 dc_74
                      refine lv_aload_n hx hb dX2_advance_123 rfl (lv_at hl 2 rfl) ?_
                      refine lv_aload_n hx hb dX2_advance_124 rfl (lv_at hl 2 rfl) ?_
                      refine va_get (D := (dC, dI)) (ci := 2) (v := .int w_xBe_90) (C := RX2) (T := TX2) (N := 9) hx hb hts hIX2 hown hK hP 0 rfl rfl 4 (by decide) (hts (.fieldLink RX2 25 "TraitHouse$Reader" "behind" "I") (by decide +kernel)) (fun _ h9 => h9) rfl dX2_advance_125 ?_
                      obtain ⟨hPc, hDc, hFc, hCc⟩ := va_pre (ws' := [((ax 13), .inr (2, [.ref (ax 11), .ref (ax 14), .int xSz, .int w_xPl_8, .int w_xBe_90, .int xRt, .int xRf, .int xRd, .int xLk])), ((ax 11), .inr (5, [.ref (ax 12), .int xTz])), ((ax 12), .inl (cA 0, 200, .inl gB))]) hP hD hS hA [0, 1, 2] (by decide) rfl
                      refine va_calli (va_runV (As := [.int w_xBe_90]) (rest := []) ⟨hx, hb, hml, hown, hts⟩ (k_X2_isDigitAt l dC dI cA H.size ax xSz w_xPl_8 w_xBe_90 xRt xRf xRd xLk xTz gB w_xBe_90 i_xSz hv0_8 hv0_90 i_xRt i_xTz i_gB hv0_90) (cwV 1 hts gX2_advance_X2_isDigitAt rfl rfl rfl (by decide +kernel) ⟨Nat.le_of_ble_eq_true rfl, Nat.le_of_ble_eq_true rfl⟩) ⟨fun a U g mk q => by obtain ⟨q0, q1, qP, qK, qD, qN⟩ := q; exact ⟨q0, q1, qP, va_K.moved (u := U) (U := U.calling g mk a) (Vm.Alike.refl U.vm) qK, qD, qN.same rfl⟩, va_recv hK hPc (ci := 2) (q0 := 0) rfl rfl, fun U hU hW => ⟨rfl, by rw [hU], by rw [hU]; exact hPc, va_K.moved hW.alike hK, hDc.weaken (fun _ _ _ _ => trivial), hN.warm hW⟩⟩ rfl rfl hl.1 rfl (lv_room (Nat.le_of_ble_eq_true rfl)) dX2_advance_128 ⟨Nat.le_of_ble_eq_true rfl, Nat.le_of_ble_eq_true rfl⟩) hS (fun q _ h => hFc q h) hFc (fun r_75 u_76 t H1 locs ht hvm hw_77 hB hz1 hk1 hS => ?_)
                      try dsimp only at hw_77 hB
                      obtain ⟨po_78, tp_79⟩ := hw_77
                      obtain ⟨hP1, hD1⟩ := hB
                      rw [ht] at hP1
                      obtain ⟨hP, hD⟩ := va_join (wr := []) (w1 := [((ax 13), .inr (2, [.ref (ax 11), .ref (ax 14), .int xSz, .int w_xPl_8, .int w_xBe_90, .int xRt, .int xRf, .int xRd, .int xLk])), ((ax 11), .inr (5, [.ref (ax 12), .int xTz])), ((ax 12), .inl (cA 0, 200, .inl gB))]) hP hD [0, 1, 2] [] hCc rfl (by decide) (by decide) hk1 hFc hP1 hD1
                      clear hz1
                      generalize H1 = H at hP hS ⊢
                      refine lv_if_eq (tgt := 147) hx hb dX2_advance_131 (by decide) (fun c_80 => ?_) (fun c_80 => ?_)
                      · have dc_80 : r_75.toInt = 0 := jI_eq c_80 rfl (by decide)
                        replace po_78 := dg_n po_78 dc_80
                        obtain ⟨hP9, hD9⟩ := va_pd (ws' := [((ax 13), .inr (2, [.ref (ax 11), .ref (ax 14), .int xSz, .int w_xPl_8, .int w_xBe_90, .int xRt, .int xRf, .int xRd, .int xLk])), ((ax 11), .inr (5, [.ref (ax 12), .int xTz])), ((ax 12), .inl (cA 0, 200, .inl gB))]) hP hD [0, 1, 2] (by decide) rfl
                        subst hQe
                        have hpost : (0 ≤ w_xPl_8.toInt ∧ w_xPl_8.toInt ≤ 200) ∧ (0 ≤ w_xBe_90.toInt ∧ w_xBe_90.toInt ≤ 200) ∧ (xBe.toInt ≤ w_xPl_8.toInt ∧ w_xPl_8.toInt ≤ w_xBe_90.toInt ∧ w_xBe_90.toInt ≤ xTz.toInt ∧ (w_xPl_8.toInt < xTz.toInt → w_xPl_8.toInt < w_xBe_90.toInt)) ∧ (tokOK gB w_xPl_8 w_xBe_90 xTz) ∧ (w_xPl_8.toInt = sk (tpe gB xTz) xBe.toInt ∧ w_xBe_90.toInt = tke (tpe gB xTz) xTz.toInt (sk (tpe gB xTz) xBe.toInt)) := ⟨hv0_8, hv0_90, by omega, hv2_90, (by have s9 : sk (tpe gB xTz) xBe.toInt = w_xPl_8.toInt := (by rw [← hv2_8]; exact sk_end (by omega) (by have zx_42 := congrArg Int32.toInt ex_42; omega)); rw [s9]; exact ⟨rfl, (adv_end hv3_90 (by have := tp_71; have := tp_79; omega)).symm⟩)⟩
                        exact W.vret hx hb hr (fun t ht hW => ⟨⟨(w_xPl_8, w_xBe_90), rfl, hpost, by rw [ht]; exact hP9, hD9⟩, hS.F ht⟩) hS.2.2 dX2_advance_147
                      · have dc_80 : ¬ r_75.toInt = 0 := jI_ne c_80 rfl (by decide)
                        refine lv_aload_n hx hb dX2_advance_134 rfl (lv_at hl 2 rfl) ?_
                        refine lv_dup hx hb dX2_advance_135 rfl ?_
                        refine va_get (D := (dC, dI)) (ci := 2) (v := .int w_xBe_90) (C := RX2) (T := TX2) (N := 9) hx hb hts hIX2 hown hK hP 0 rfl rfl 4 (by decide) (hts (.fieldLink RX2 25 "TraitHouse$Reader" "behind" "I") (by decide +kernel)) (fun _ h9 => h9) rfl dX2_advance_136 ?_
                        refine lv_iconst (v := 1) hx hb dX2_advance_139 (by decide) ?_
                        refine lv_iadd hx hb dX2_advance_140 ?_
                        refine lv_topi (fun x_81 ex_81 => ?_)
                        have dx_81 : x_81.toInt = w_xBe_90.toInt + 1 := by rw [ex_81]; exact jI_add rfl (by decide) (by omega) (by omega)
                        refine va_put (D := (dC, dI)) (ci := 2) (v := .int x_81) (ty := .int) (C := RX2) (T := TX2) (N := 9) hx hb hts hIX2 tyX2 tyX2_ok nmX2 hown hK hP hD hS 0 rfl rfl 4 (by decide) (hts (.fieldLink RX2 25 "TraitHouse$Reader" "behind" "I") (by decide +kernel)) (fun _ h9 => h9) rfl (by decide +kernel) rfl rfl (Nat.le_of_ble_eq_true rfl) dX2_advance_141 (fun H locs hP hD hS => ?_)
                        replace hP : va_P (dC, dI) vwCl [((ax 13), .inr (2, [.ref (ax 11), .ref (ax 14), .int xSz, .int w_xPl_8, .int x_81, .int xRt, .int xRf, .int xRd, .int xLk])), ((ax 11), .inr (5, [.ref (ax 12), .int xTz])), ((ax 12), .inl (cA 0, 200, .inl gB))] H := hP
                        replace hD : va_D A [((ax 13), .inr (2, [.ref (ax 11), .ref (ax 14), .int xSz, .int w_xPl_8, .int x_81, .int xRt, .int xRf, .int xRd, .int xLk])), ((ax 11), .inr (5, [.ref (ax 12), .int xTz])), ((ax 12), .inl (cA 0, 200, .inl gB))] := hD
                        refine lv_goto (tgt := 90) hx hb dX2_advance_144 (by decide) ?_
                        exact ih_90 x_81 _ _ ls (by omega) (by omega) (by omega) (fun h1 h2 => tok_ext (x := 0) (hv2_90 h1 h2) ⟨(po_78.2.1 (by omega)).2.1, (po_78.2.1 (by omega)).2.2⟩ (by omega) (by omega)) (adv_back hv3_90 (Or.inr ⟨by omega, tp_79.mp (by omega)⟩) (by omega) (by omega)) (hP.sub [0, 1, 2] rfl) (hD.sub [0, 1, 2] (by decide) rfl) hS (lv_sub hl [0, 1, 2] rfl)
          exact loop90_56 (Int.toNat (200 - (x_45 : Int32).toInt) + 1) x_45 _ _ ls (by omega) (by omega) (by omega) (fun h1 h2 k h3 h4 => by have e9 : k = w_xPl_8.toNatClampNeg := (by have : w_xPl_8.toNatClampNeg = w_xPl_8.toInt.toNat := rfl; omega); rw [e9]; exact h2) (adv_start (by omega) (by omega) tp_50 tp_55) hP hD hS (lv_sub hl [0, 1, 2] rfl)
        · have dc_43 : x_42.toInt = 32 := jI_eq c_43 rfl (by decide)
          refine lv_aload_n hx hb dX2_advance_39 rfl (lv_at hl 0 rfl) ?_
          refine lv_dup hx hb dX2_advance_40 rfl ?_
          refine va_get (D := (dC, dI)) (ci := 2) (v := .int w_xPl_8) (C := RX2) (T := TX2) (N := 9) hx hb hts hIX2 hown hK hP 0 rfl rfl 3 (by decide) (hts (.fieldLink RX2 48 "TraitHouse$Reader" "place" "I") (by decide +kernel)) (fun _ h9 => h9) rfl dX2_advance_41 ?_
          refine lv_iconst (v := 1) hx hb dX2_advance_44 (by decide) ?_
          refine lv_iadd hx hb dX2_advance_45 ?_
          refine lv_topi (fun x_82 ex_82 => ?_)
          have dx_82 : x_82.toInt = w_xPl_8.toInt + 1 := by rw [ex_82]; exact jI_add rfl (by decide) (by omega) (by omega)
          refine va_put (D := (dC, dI)) (ci := 2) (v := .int x_82) (ty := .int) (C := RX2) (T := TX2) (N := 9) hx hb hts hIX2 tyX2 tyX2_ok nmX2 hown hK hP hD hS 0 rfl rfl 3 (by decide) (hts (.fieldLink RX2 48 "TraitHouse$Reader" "place" "I") (by decide +kernel)) (fun _ h9 => h9) rfl (by decide +kernel) rfl rfl (Nat.le_of_ble_eq_true rfl) dX2_advance_46 (fun H locs hP hD hS => ?_)
          replace hP : va_P (dC, dI) vwCl [((ax 13), .inr (2, [.ref (ax 11), .ref (ax 14), .int xSz, .int x_82, .int xBe, .int xRt, .int xRf, .int xRd, .int xLk])), ((ax 11), .inr (5, [.ref (ax 12), .int xTz])), ((ax 12), .inl (cA 0, 200, .inl gB))] H := hP
          replace hD : va_D A [((ax 13), .inr (2, [.ref (ax 11), .ref (ax 14), .int xSz, .int x_82, .int xBe, .int xRt, .int xRf, .int xRd, .int xLk])), ((ax 11), .inr (5, [.ref (ax 12), .int xTz])), ((ax 12), .inl (cA 0, 200, .inl gB))] := hD
          refine lv_goto (tgt := 8) hx hb dX2_advance_49 (by decide) ?_
          exact ih_8 x_82 _ _ ls (by omega) (by omega) (by omega) ((sk_go (by omega) (by omega) (by have z9 := congrArg Int32.toInt ex_42; omega) (by omega) (by omega)).trans hv2_8) (hP.sub [0, 1, 2] rfl) (hD.sub [0, 1, 2] (by decide) rfl) hS (lv_sub hl [0] rfl)
  exact loop8_1 (Int.toNat (200 - (xBe : Int32).toInt) + 1) xBe _ _ ls (by omega) i_xBe (by omega) (rfl) hP hD hS (lv_sub hl [0] rfl)

set_option maxHeartbeats 8000000 in
set_option maxRecDepth 100000 in
theorem k_X2_isAt (l : Launch) (dC : Nat → ClassId) (dI : Nat → Nat → Nat) (cA : Nat → ClassId) (sz : Nat) (ax : Nat → Nat) (xSz : Int32) (xPl : Int32) (xBe : Int32) (xRt : Int32) (xRf : Int32) (xRd : Int32) (xLk : Int32) (xTz : Int32) (gB : Nat → Int32) (adK : Nat → Nat) (adV : Nat → Nat) (i : Nat) (i_xSz : 0 ≤ xSz.toInt ∧ xSz.toInt ≤ 200) (i_xPl : 0 ≤ xPl.toInt ∧ xPl.toInt ≤ 200) (i_xBe : 0 ≤ xBe.toInt ∧ xBe.toInt ≤ 200) (i_xRt : 0 ≤ xRt.toInt ∧ xRt.toInt ≤ 20) (i_xTz : 0 ≤ xTz.toInt ∧ xTz.toInt ≤ 200) (i_gB : inB 0 255 200 gB) (hi : i < 17) (hbe : xPl.toInt ≤ xBe.toInt ∧ xBe.toInt ≤ xTz.toInt) : Met l yX2_isAt wsX2_isAt ({ frames := 4, cells := 0, slots := 0, locals := 85 }) (va_Pc [.ref (ax 13), .ref (adK i)] (fun U => U.heap.size = sz ∧ va_P (dC, dI) vwCl [((ax 13), .inr (2, [.ref (ax 11), .ref (ax 14), .int xSz, .int xPl, .int xBe, .int xRt, .int xRf, .int xRd, .int xLk])), ((ax 11), .inr (5, [.ref (ax 12), .int xTz])), ((ax 12), .inl (cA 0, 200, .inl gB))] U.heap ∧ va_K (dC, dI) vwCl (tyL cA) U ∧ va_D (fun _ => True) [((ax 13), .inr (2, [.ref (ax 11), .ref (ax 14), .int xSz, .int xPl, .int xBe, .int xRt, .int xRf, .int xRd, .int xLk])), ((ax 11), .inr (5, [.ref (ax 12), .int xTz])), ((ax 12), .inl (cA 0, 200, .inl gB))] ∧ st_ok adK adV (va_A [((ax 13), .inr (2, [.ref (ax 11), .ref (ax 14), .int xSz, .int xPl, .int xBe, .int xRt, .int xRf, .int xRd, .int xLk])), ((ax 11), .inr (5, [.ref (ax 12), .int xTz])), ((ax 12), .inl (cA 0, 200, .inl gB))] sz) U)) (va_Qi (fun (r : Int32) (_ : Unit) => (0 ≤ r.toInt ∧ r.toInt ≤ 1) ∧ (ITW r (tw (tpe gB xTz) (scs i) xPl.toInt xBe.toInt))) (fun (_ : Unit) (t : State) => va_P (dC, dI) vwCl [((ax 13), .inr (2, [.ref (ax 11), .ref (ax 14), .int xSz, .int xPl, .int xBe, .int xRt, .int xRf, .int xRd, .int xLk])), ((ax 11), .inr (5, [.ref (ax 12), .int xTz])), ((ax 12), .inl (cA 0, 200, .inl gB))] t.heap ∧ va_D (va_A [((ax 13), .inr (2, [.ref (ax 11), .ref (ax 14), .int xSz, .int xPl, .int xBe, .int xRt, .int xRf, .int xRd, .int xLk])), ((ax 11), .inr (5, [.ref (ax 12), .int xTz])), ((ax 12), .inl (cA 0, 200, .inl gB))] sz) [((ax 13), .inr (2, [.ref (ax 11), .ref (ax 14), .int xSz, .int xPl, .int xBe, .int xRt, .int xRf, .int xRd, .int xLk])), ((ax 11), .inr (5, [.ref (ax 12), .int xTz])), ((ax 12), .inl (cA 0, 200, .inl gB))]) (va_A [((ax 13), .inr (2, [.ref (ax 11), .ref (ax 14), .int xSz, .int xPl, .int xBe, .int xRt, .int xRf, .int xRd, .int xLk])), ((ax 11), .inr (5, [.ref (ax 12), .int xTz])), ((ax 12), .inl (cA 0, 200, .inl gB))] sz)) 0 0 (va_A [((ax 13), .inr (2, [.ref (ax 11), .ref (ax 14), .int xSz, .int xPl, .int xBe, .int xRt, .int xRf, .int xRd, .int xLk])), ((ax 11), .inr (5, [.ref (ax 12), .int xTz])), ((ax 12), .inl (cA 0, 200, .inl gB))] sz) := by
  refine Met.ofW (cc := cX2_isAt) (maxL := 4) (ret := (some .boolean)) (by decide) rfl ?_
  intro p e s m args below meth c s₁ B hml hv
  obtain ⟨rfl, hsz, hP, hK, hD0, hN⟩ := hv
  have hx := B.exec
  have hb := B.bytes
  have hr := B.returns
  have hts := atoms_spec (ws := wsX2_isAt) B.pre
  have hown : s.vm.findClass RX2 = some m.cls := findClass_of_methodNamed B.named
  have hlocks := B.notSynchronized
  subst hsz
  have hD := hD0.self (sz := s.heap.size)
  generalize hAe : va_A [((ax 13), .inr (2, [.ref (ax 11), .ref (ax 14), .int xSz, .int xPl, .int xBe, .int xRt, .int xRf, .int xRd, .int xLk])), ((ax 11), .inr (5, [.ref (ax 12), .int xTz])), ((ax 12), .inl (cA 0, 200, .inl gB))] s.heap.size = A at hD hN ⊢
  have hSt := hN
  have hN := hSt.1
  have hA : ∀ q : Nat, s.heap.size ≤ q → A q := fun q h => by rw [← hAe]; exact Or.inr h
  have hS : va_S A s.heap s.heap [] := va_S.rf
  have hIX2 : ∀ w ∈ u_ws RX2 TX2 9, w ∈ wsX2_isAt := by decide +kernel
  have hIX5 : ∀ w ∈ u_ws RX5 TX5 2, w ∈ wsX2_isAt := by decide +kernel
  have hl := lv_entry ([.ref (ax 13), .ref (adK i)]) (n := 4) (Nat.le_of_ble_eq_true rfl)
  rw [lg_entry_eq]
  generalize (lg_sl ([.ref (ax 13), .ref (adK i)]) ++ List.replicate (4 - (lg_sl ([.ref (ax 13), .ref (adK i)])).length) Slot.unset).toArray = ls at hl ⊢
  have hl : lv_has ls 4 [(0, .ref (ax 13)), (1, .ref (adK i))] := hl
  generalize hQe : MQ below _ _ _ _ _ _ = QQ
  refine lv_aload_n hx hb dX2_isAt_0 rfl (lv_at hl 1 rfl) ?_
  obtain ⟨hPc, hDc, hFc, hCc⟩ := va_pre (ws' := []) hP hD hS hA [] (by decide) rfl
  refine va_calli (va_runV (As := []) (rest := []) ⟨hx, hb, hml, hown, hts⟩ (k_J0_length_8abf5 l dC dI cA s.heap.size adK adV i hi) (cwV 0 hts gX2_isAt_J0_length_8abf5 rfl rfl rfl (by decide +kernel) ⟨Nat.le_of_ble_eq_true rfl, Nat.le_of_ble_eq_true rfl⟩) ⟨fun a U g mk q => by obtain ⟨q0, q1, qP, qK, qD, qN⟩ := q; exact ⟨q0, q1, qP, va_K.moved (u := U) (U := U.calling g mk a) (Vm.Alike.refl U.vm) qK, qD, qN.same rfl rfl⟩, st_recv hSt.2.2.1 hi hS, fun U hU hW => ⟨rfl, by rw [hU], by rw [hU]; exact hPc, va_K.moved hW.alike hK, hDc.weaken (fun _ _ _ _ => trivial), hSt.call hS hU hW hFc⟩⟩ rfl rfl hl.1 rfl (lv_room (Nat.le_of_ble_eq_true rfl)) dX2_isAt_1 ⟨Nat.le_of_ble_eq_true rfl, Nat.le_of_ble_eq_true rfl⟩) hS (fun q _ h => hFc q h) hFc (fun r_1 u_2 t H1 locs ht hvm hw_3 hB hz1 hk1 hS => ?_)
  try dsimp only at hw_3 hB
  have po_4 := hw_3
  clear hw_3
  obtain ⟨hP1, hD1⟩ := hB
  rw [ht] at hP1
  obtain ⟨hP, hD⟩ := va_join (wr := [((ax 13), .inr (2, [.ref (ax 11), .ref (ax 14), .int xSz, .int xPl, .int xBe, .int xRt, .int xRf, .int xRd, .int xLk])), ((ax 11), .inr (5, [.ref (ax 12), .int xTz])), ((ax 12), .inl (cA 0, 200, .inl gB))]) (w1 := []) hP hD [] [0, 1, 2] hCc rfl (by decide) (by decide) hk1 hFc hP1 hD1
  clear hz1
  generalize H1 = H at hP hS ⊢
  refine lv_istore_n (lv' := [(2, .int r_1), (0, .ref (ax 13)), (1, .ref (adK i))]) hx hb dX2_isAt_4 rfl hl (by decide) rfl (fun ls hl => ?_)
  refine lv_aload_n hx hb dX2_isAt_5 rfl (lv_at hl 1 rfl) ?_
  refine va_get (D := (dC, dI)) (ci := 2) (v := .int xBe) (C := RX2) (T := TX2) (N := 9) hx hb hts hIX2 hown hK hP 0 rfl rfl 4 (by decide) (hts (.fieldLink RX2 25 "TraitHouse$Reader" "behind" "I") (by decide +kernel)) (fun _ h9 => h9) rfl dX2_isAt_6 ?_
  refine lv_aload_n hx hb dX2_isAt_9 rfl (lv_at hl 1 rfl) ?_
  refine va_get (D := (dC, dI)) (ci := 2) (v := .int xPl) (C := RX2) (T := TX2) (N := 9) hx hb hts hIX2 hown hK hP 0 rfl rfl 3 (by decide) (hts (.fieldLink RX2 48 "TraitHouse$Reader" "place" "I") (by decide +kernel)) (fun _ h9 => h9) rfl dX2_isAt_10 ?_
  refine lv_isub hx hb dX2_isAt_13 ?_
  refine lv_topi (fun x_5 ex_5 => ?_)
  have dx_5 : x_5.toInt = xBe.toInt - xPl.toInt := by rw [ex_5]; exact jI_sub rfl rfl (by omega) (by omega)
  refine lv_iload_n hx hb dX2_isAt_14 rfl (lv_at hl 0 rfl) ?_
  refine lv_icmp_eq (tgt := 20) hx hb dX2_isAt_15 (by decide) (fun c_6 => ?_) (fun c_6 => ?_)
  · have dc_6 : x_5.toInt = r_1.toInt := jI_eq c_6 rfl rfl
    refine lv_iconst (v := 0) hx hb dX2_isAt_20 (by decide) ?_
    refine lv_istore_n (lv' := [(3, .int 0), (2, .int r_1), (0, .ref (ax 13)), (1, .ref (adK i))]) hx hb dX2_isAt_21 rfl hl (by decide) rfl (fun ls hl => ?_)
    have loop22_7 : ∀ (n : Nat) (i3 : Int32) (H : Heap) (locs : List Loc) (ls : Array Slot), 5 - i3.toInt < (n : Int) → (0 ≤ i3.toInt ∧ i3.toInt ≤ 5) → (∀ j : Nat, (j : Int) < i3.toInt → tpe gB xTz (xPl.toInt + j) = (scs i).getD j 0) → va_P (dC, dI) vwCl [((ax 13), .inr (2, [.ref (ax 11), .ref (ax 14), .int xSz, .int xPl, .int xBe, .int xRt, .int xRf, .int xRd, .int xLk])), ((ax 11), .inr (5, [.ref (ax 12), .int xTz])), ((ax 12), .inl (cA 0, 200, .inl gB))] H → va_D A [((ax 13), .inr (2, [.ref (ax 11), .ref (ax 14), .int xSz, .int xPl, .int xBe, .int xRt, .int xRf, .int xRd, .int xLk])), ((ax 11), .inr (5, [.ref (ax 12), .int xTz])), ((ax 12), .inl (cA 0, 200, .inl gB))] → va_S A s.heap H locs → lv_has ls 4 [(3, .int i3), (2, .int r_1), (0, .ref (ax 13)), (1, .ref (adK i))] → W p l e ({ frames := 4, cells := 0, slots := 0, locals := 85 }) s m ([.ref (ax 13), .ref (adK i)] : List Value).toArray below meth c H locs 0 0 QQ (F0 m 22 ls []) := by
      intro n
      induction n with
      | zero => intro i3 H locs ls hme hv0_22 hv1_22; exfalso; omega
      | succ n ih_22 =>
        intro i3 H locs ls hme_22 hv0_22 hv1_22 hP hD hS hl
        refine lv_iload_n hx hb dX2_isAt_22 rfl (lv_at hl 0 rfl) ?_
        refine lv_iload_n hx hb dX2_isAt_23 rfl (lv_at hl 1 rfl) ?_
        refine lv_icmp_ge (tgt := 57) hx hb dX2_isAt_24 (by decide) (fun c_8 => ?_) (fun c_8 => ?_)
        · have dc_8 : r_1.toInt ≤ i3.toInt := jI_le c_8 rfl rfl
          refine lv_iconst (v := 1) hx hb dX2_isAt_57 (by decide) ?_
          obtain ⟨hP9, hD9⟩ := va_pd (ws' := [((ax 13), .inr (2, [.ref (ax 11), .ref (ax 14), .int xSz, .int xPl, .int xBe, .int xRt, .int xRf, .int xRd, .int xLk])), ((ax 11), .inr (5, [.ref (ax 12), .int xTz])), ((ax 12), .inl (cA 0, 200, .inl gB))]) hP hD [0, 1, 2] (by decide) rfl
          subst hQe
          have hans : (1 : Int32).toInt = 1 := (by decide)
          have hpost : (0 ≤ (1 : Int32).toInt ∧ (1 : Int32).toInt ≤ 1) ∧ (ITW (1 : Int32) (tw (tpe gB xTz) (scs i) xPl.toInt xBe.toInt)) := ⟨by omega, (ITW_mk (iff_of_true (by omega) (at_yes hv1_22 (by omega) (by omega))))⟩
          exact W.zret (v := 1) hx hb hr (by decide) (fun t ht hW => ⟨⟨1, (), rfl, hpost, by rw [ht]; exact hP9, hD9⟩, hS.F ht⟩) hS.2.2 dX2_isAt_58
        · have dc_8 : i3.toInt < r_1.toInt := jI_nle c_8 rfl rfl
          refine lv_aload_n hx hb dX2_isAt_27 rfl (lv_at hl 2 rfl) ?_
          refine va_get (D := (dC, dI)) (ci := 2) (v := .ref (ax 11)) (C := RX2) (T := TX2) (N := 9) hx hb hts hIX2 hown hK hP 0 rfl rfl 0 (by decide) (hts (.fieldLink RX2 17 "TraitHouse$Reader" "tape" "LTraitHouse$Tape;") (by decide +kernel)) (fun _ h9 => h9) rfl dX2_isAt_28 ?_
          refine va_getN (D := (dC, dI)) (ci := 5) (v := .ref (ax 12)) (C := RX5) (T := TX5) (N := 2) hx hb hts hIX5 hown hK hP 1 rfl rfl 0 (by decide) (va_Nw.use rfl (nw_at hN 8 rfl)) (fun _ h9 => h9) rfl dX2_isAt_31 ?_
          refine lv_aload_n hx hb dX2_isAt_34 rfl (lv_at hl 2 rfl) ?_
          refine va_get (D := (dC, dI)) (ci := 2) (v := .int xPl) (C := RX2) (T := TX2) (N := 9) hx hb hts hIX2 hown hK hP 0 rfl rfl 3 (by decide) (hts (.fieldLink RX2 48 "TraitHouse$Reader" "place" "I") (by decide +kernel)) (fun _ h9 => h9) rfl dX2_isAt_35 ?_
          refine lv_iload_n hx hb dX2_isAt_38 rfl (lv_at hl 0 rfl) ?_
          refine lv_iadd hx hb dX2_isAt_39 ?_
          refine lv_topi (fun x_9 ex_9 => ?_)
          have dx_9 : x_9.toInt = xPl.toInt + i3.toInt := by rw [ex_9]; exact jI_add rfl rfl (by omega) (by omega)
          have h_10 : vp_in x_9 200 := (vp_in_iff.mpr ⟨by omega, by omega⟩)
          refine va_iald hx hb hK hP 2 0 rfl rfl h_10 dX2_isAt_40 ?_
          refine lv_topi (fun x_11 ex_11 => ?_)
          have bx_11 := i_gB _ (jix h_10)
          rw [← ex_11] at bx_11
          refine lv_aload_n hx hb dX2_isAt_41 rfl (lv_at hl 3 rfl) ?_
          refine lv_iload_n hx hb dX2_isAt_42 rfl (lv_at hl 0 rfl) ?_
          obtain ⟨hPc, hDc, hFc, hCc⟩ := va_pre (ws' := []) hP hD hS hA [] (by decide) rfl
          refine va_calli (va_runV (As := [.int i3]) (rest := [.int x_11]) ⟨hx, hb, hml, hown, hts⟩ (k_J0_charAt_5068e l dC dI cA H.size adK adV i i3 hi (by omega)) (cwV 1 hts gX2_isAt_J0_charAt_5068e rfl rfl rfl (by decide +kernel) ⟨Nat.le_of_ble_eq_true rfl, Nat.le_of_ble_eq_true rfl⟩) ⟨fun a U g mk q => by obtain ⟨q0, q1, qP, qK, qD, qN⟩ := q; exact ⟨q0, q1, qP, va_K.moved (u := U) (U := U.calling g mk a) (Vm.Alike.refl U.vm) qK, qD, qN.same rfl rfl⟩, st_recv hSt.2.2.1 hi hS, fun U hU hW => ⟨rfl, by rw [hU], by rw [hU]; exact hPc, va_K.moved hW.alike hK, hDc.weaken (fun _ _ _ _ => trivial), hSt.call hS hU hW hFc⟩⟩ rfl rfl hl.1 rfl (lv_room (Nat.le_of_ble_eq_true rfl)) dX2_isAt_43 ⟨Nat.le_of_ble_eq_true rfl, Nat.le_of_ble_eq_true rfl⟩) hS (fun q _ h => hFc q h) hFc (fun r_12 u_13 t H1 locs ht hvm hw_14 hB hz1 hk1 hS => ?_)
          try dsimp only at hw_14 hB
          have po_15 := hw_14
          clear hw_14
          obtain ⟨hP1, hD1⟩ := hB
          rw [ht] at hP1
          obtain ⟨hP, hD⟩ := va_join (wr := [((ax 13), .inr (2, [.ref (ax 11), .ref (ax 14), .int xSz, .int xPl, .int xBe, .int xRt, .int xRf, .int xRd, .int xLk])), ((ax 11), .inr (5, [.ref (ax 12), .int xTz])), ((ax 12), .inl (cA 0, 200, .inl gB))]) (w1 := []) hP hD [] [0, 1, 2] hCc rfl (by decide) (by decide) hk1 hFc hP1 hD1
          clear hz1
          generalize H1 = H at hP hS ⊢
          refine lv_icmp_eq (tgt := 51) hx hb dX2_isAt_46 (by decide) (fun c_16 => ?_) (fun c_16 => ?_)
          · have dc_16 : x_11.toInt = r_12.toInt := jI_eq c_16 rfl rfl
            obtain ⟨x_17, ex_17⟩ : ∃ y : Int32, y = i3 + 1 := ⟨_, rfl⟩
            have dx_17 : x_17.toInt = i3.toInt + 1 := by rw [ex_17]; exact jI_add rfl (by decide) (by omega) (by omega)
            refine lv_iinc (v := x_17) (lv' := [(3, .int x_17), (2, .int r_1), (0, .ref (ax 13)), (1, .ref (adK i))]) hx hb dX2_isAt_51 hl (k := 0) rfl (by rw [ex_17]; rfl) (by decide) rfl (fun ls hl => ?_)
            refine lv_goto (tgt := 22) hx hb dX2_isAt_54 (by decide) ?_
            exact ih_22 x_17 _ _ ls (by omega) (by omega) (at_step hv1_22 (by omega) (by omega) hi (by omega) (ix := x_9) (by omega) (by omega) ex_11 po_15 (by omega) (by omega)) (hP.sub [0, 1, 2] rfl) (hD.sub [0, 1, 2] (by decide) rfl) hS (lv_sub hl [0, 1, 2, 3] rfl)
          · have dc_16 : ¬ x_11.toInt = r_12.toInt := jI_ne c_16 rfl rfl
            refine lv_iconst (v := 0) hx hb dX2_isAt_49 (by decide) ?_
            obtain ⟨hP9, hD9⟩ := va_pd (ws' := [((ax 13), .inr (2, [.ref (ax 11), .ref (ax 14), .int xSz, .int xPl, .int xBe, .int xRt, .int xRf, .int xRd, .int xLk])), ((ax 11), .inr (5, [.ref (ax 12), .int xTz])), ((ax 12), .inl (cA 0, 200, .inl gB))]) hP hD [0, 1, 2] (by decide) rfl
            subst hQe
            have hans : (0 : Int32).toInt = 0 := (by decide)
            have hpost : (0 ≤ (0 : Int32).toInt ∧ (0 : Int32).toInt ≤ 1) ∧ (ITW (0 : Int32) (tw (tpe gB xTz) (scs i) xPl.toInt xBe.toInt)) := ⟨by omega, (ITW_mk (iff_of_false (by omega) (at_no (by omega) (by omega) hi (by omega) (ix := x_9) (by omega) ex_11 po_15 (by omega))))⟩
            exact W.zret (v := 0) hx hb hr (by decide) (fun t ht hW => ⟨⟨0, (), rfl, hpost, by rw [ht]; exact hP9, hD9⟩, hS.F ht⟩) hS.2.2 dX2_isAt_50
    have hk_18 : (0 : Int32).toInt = 0 := by decide
    exact loop22_7 (Int.toNat (5 - (0 : Int32).toInt) + 1) 0 _ _ ls (by omega) (by omega) (fun j hj => by exfalso; omega) hP hD hS (lv_sub hl [0, 1, 2, 3] rfl)
  · have dc_6 : ¬ x_5.toInt = r_1.toInt := jI_ne c_6 rfl rfl
    refine lv_iconst (v := 0) hx hb dX2_isAt_18 (by decide) ?_
    obtain ⟨hP9, hD9⟩ := va_pd (ws' := [((ax 13), .inr (2, [.ref (ax 11), .ref (ax 14), .int xSz, .int xPl, .int xBe, .int xRt, .int xRf, .int xRd, .int xLk])), ((ax 11), .inr (5, [.ref (ax 12), .int xTz])), ((ax 12), .inl (cA 0, 200, .inl gB))]) hP hD [0, 1, 2] (by decide) rfl
    subst hQe
    have hans : (0 : Int32).toInt = 0 := (by decide)
    have hpost : (0 ≤ (0 : Int32).toInt ∧ (0 : Int32).toInt ≤ 1) ∧ (ITW (0 : Int32) (tw (tpe gB xTz) (scs i) xPl.toInt xBe.toInt)) := ⟨by omega, (ITW_mk (iff_of_false (by omega) (at_len (by omega))))⟩
    exact W.zret (v := 0) hx hb hr (by decide) (fun t ht hW => ⟨⟨0, (), rfl, hpost, by rw [ht]; exact hP9, hD9⟩, hS.F ht⟩) hS.2.2 dX2_isAt_19

set_option maxHeartbeats 8000000 in
set_option maxRecDepth 100000 in
theorem k_X2_kindAt (l : Launch) (dC : Nat → ClassId) (dI : Nat → Nat → Nat) (cA : Nat → ClassId) (sz : Nat) (ax : Nat → Nat) (xSz : Int32) (xPl : Int32) (xBe : Int32) (xRt : Int32) (xRf : Int32) (xRd : Int32) (xLk : Int32) (xTz : Int32) (gB : Nat → Int32) (adK : Nat → Nat) (adV : Nat → Nat) (i_xSz : 0 ≤ xSz.toInt ∧ xSz.toInt ≤ 200) (i_xPl : 0 ≤ xPl.toInt ∧ xPl.toInt ≤ 200) (i_xBe : 0 ≤ xBe.toInt ∧ xBe.toInt ≤ 200) (i_xRt : 0 ≤ xRt.toInt ∧ xRt.toInt ≤ 20) (i_xTz : 0 ≤ xTz.toInt ∧ xTz.toInt ≤ 200) (i_gB : inB 0 255 200 gB) (hbe : xPl.toInt ≤ xBe.toInt ∧ xBe.toInt ≤ xTz.toInt) : Met l yX2_kindAt wsX2_kindAt ({ frames := 5, cells := 0, slots := 0, locals := 108 }) (va_Pc [.ref (ax 13)] (fun U => U.heap.size = sz ∧ va_P (dC, dI) vwCl [((ax 13), .inr (2, [.ref (ax 11), .ref (ax 14), .int xSz, .int xPl, .int xBe, .int xRt, .int xRf, .int xRd, .int xLk])), ((ax 11), .inr (5, [.ref (ax 12), .int xTz])), ((ax 12), .inl (cA 0, 200, .inl gB))] U.heap ∧ va_K (dC, dI) vwCl (tyL cA) U ∧ va_D (fun _ => True) [((ax 13), .inr (2, [.ref (ax 11), .ref (ax 14), .int xSz, .int xPl, .int xBe, .int xRt, .int xRf, .int xRd, .int xLk])), ((ax 11), .inr (5, [.ref (ax 12), .int xTz])), ((ax 12), .inl (cA 0, 200, .inl gB))] ∧ st_ok adK adV (va_A [((ax 13), .inr (2, [.ref (ax 11), .ref (ax 14), .int xSz, .int xPl, .int xBe, .int xRt, .int xRf, .int xRd, .int xLk])), ((ax 11), .inr (5, [.ref (ax 12), .int xTz])), ((ax 12), .inl (cA 0, 200, .inl gB))] sz) U)) (va_Qi (fun (r : Int32) (_ : Unit) => (r.toInt = (-1) ∨ (1 ≤ r.toInt ∧ r.toInt ≤ 7)) ∧ (r.toInt = pkind (tpe gB xTz) xPl.toInt xBe.toInt)) (fun (_ : Unit) (t : State) => va_P (dC, dI) vwCl [((ax 13), .inr (2, [.ref (ax 11), .ref (ax 14), .int xSz, .int xPl, .int xBe, .int xRt, .int xRf, .int xRd, .int xLk])), ((ax 11), .inr (5, [.ref (ax 12), .int xTz])), ((ax 12), .inl (cA 0, 200, .inl gB))] t.heap ∧ va_D (va_A [((ax 13), .inr (2, [.ref (ax 11), .ref (ax 14), .int xSz, .int xPl, .int xBe, .int xRt, .int xRf, .int xRd, .int xLk])), ((ax 11), .inr (5, [.ref (ax 12), .int xTz])), ((ax 12), .inl (cA 0, 200, .inl gB))] sz) [((ax 13), .inr (2, [.ref (ax 11), .ref (ax 14), .int xSz, .int xPl, .int xBe, .int xRt, .int xRf, .int xRd, .int xLk])), ((ax 11), .inr (5, [.ref (ax 12), .int xTz])), ((ax 12), .inl (cA 0, 200, .inl gB))]) (va_A [((ax 13), .inr (2, [.ref (ax 11), .ref (ax 14), .int xSz, .int xPl, .int xBe, .int xRt, .int xRf, .int xRd, .int xLk])), ((ax 11), .inr (5, [.ref (ax 12), .int xTz])), ((ax 12), .inl (cA 0, 200, .inl gB))] sz)) 0 0 (va_A [((ax 13), .inr (2, [.ref (ax 11), .ref (ax 14), .int xSz, .int xPl, .int xBe, .int xRt, .int xRf, .int xRd, .int xLk])), ((ax 11), .inr (5, [.ref (ax 12), .int xTz])), ((ax 12), .inl (cA 0, 200, .inl gB))] sz) := by
  refine Met.ofW (cc := cX2_kindAt) (maxL := 1) (ret := (some .int)) (by decide) rfl ?_
  intro p e s m args below meth c s₁ B hml hv
  obtain ⟨rfl, hsz, hP, hK, hD0, hN⟩ := hv
  have hx := B.exec
  have hb := B.bytes
  have hr := B.returns
  have hts := atoms_spec (ws := wsX2_kindAt) B.pre
  have hown : s.vm.findClass RX2 = some m.cls := findClass_of_methodNamed B.named
  have hlocks := B.notSynchronized
  subst hsz
  have hD := hD0.self (sz := s.heap.size)
  generalize hAe : va_A [((ax 13), .inr (2, [.ref (ax 11), .ref (ax 14), .int xSz, .int xPl, .int xBe, .int xRt, .int xRf, .int xRd, .int xLk])), ((ax 11), .inr (5, [.ref (ax 12), .int xTz])), ((ax 12), .inl (cA 0, 200, .inl gB))] s.heap.size = A at hD hN ⊢
  have hSt := hN
  have hN := hSt.1
  have hA : ∀ q : Nat, s.heap.size ≤ q → A q := fun q h => by rw [← hAe]; exact Or.inr h
  have hS : va_S A s.heap s.heap [] := va_S.rf
  have hl := lv_entry ([.ref (ax 13)]) (n := 1) (Nat.le_of_ble_eq_true rfl)
  rw [lg_entry_eq]
  generalize (lg_sl ([.ref (ax 13)]) ++ List.replicate (1 - (lg_sl ([.ref (ax 13)])).length) Slot.unset).toArray = ls at hl ⊢
  have hl : lv_has ls 1 [(0, .ref (ax 13))] := hl
  generalize hQe : MQ below _ _ _ _ _ _ = QQ
  refine lv_aload_n hx hb dX2_kindAt_0 rfl (lv_at hl 0 rfl) ?_
  refine va_ldcS hx hb hown (show vk_R RX2 120 "trait" (adK 10) s from hSt.2.1 10 (by decide)) dX2_kindAt_1 ?_
  obtain ⟨hPc, hDc, hFc, hCc⟩ := va_pre (ws' := [((ax 13), .inr (2, [.ref (ax 11), .ref (ax 14), .int xSz, .int xPl, .int xBe, .int xRt, .int xRf, .int xRd, .int xLk])), ((ax 11), .inr (5, [.ref (ax 12), .int xTz])), ((ax 12), .inl (cA 0, 200, .inl gB))]) hP hD hS hA [0, 1, 2] (by decide) rfl
  refine va_calli (va_runV (As := [.ref (adK 10)]) (rest := []) ⟨hx, hb, hml, hown, hts⟩ (k_X2_isAt l dC dI cA s.heap.size ax xSz xPl xBe xRt xRf xRd xLk xTz gB adK adV 10 i_xSz i_xPl i_xBe i_xRt i_xTz i_gB (by omega) hbe) (cwV 1 hts gX2_kindAt_X2_isAt rfl rfl rfl (by decide +kernel) ⟨Nat.le_of_ble_eq_true rfl, Nat.le_of_ble_eq_true rfl⟩) ⟨fun a U g mk q => by obtain ⟨q0, q1, qP, qK, qD, qN⟩ := q; exact ⟨q0, q1, qP, va_K.moved (u := U) (U := U.calling g mk a) (Vm.Alike.refl U.vm) qK, qD, qN.same rfl rfl⟩, va_recv hK hPc (ci := 2) (q0 := 0) rfl rfl, fun U hU hW => ⟨rfl, by rw [hU], by rw [hU]; exact hPc, va_K.moved hW.alike hK, hDc.weaken (fun _ _ _ _ => trivial), hSt.call hS hU hW hFc⟩⟩ rfl rfl hl.1 rfl (lv_room (Nat.le_of_ble_eq_true rfl)) dX2_kindAt_3 ⟨Nat.le_of_ble_eq_true rfl, Nat.le_of_ble_eq_true rfl⟩) hS (fun q _ h => hFc q h) hFc (fun r_1 u_2 t H1 locs ht hvm hw_3 hB hz1 hk1 hS => ?_)
  try dsimp only at hw_3 hB
  obtain ⟨po_4, tw_5⟩ := hw_3
  obtain ⟨hP1, hD1⟩ := hB
  rw [ht] at hP1
  obtain ⟨hP, hD⟩ := va_join (wr := []) (w1 := [((ax 13), .inr (2, [.ref (ax 11), .ref (ax 14), .int xSz, .int xPl, .int xBe, .int xRt, .int xRf, .int xRd, .int xLk])), ((ax 11), .inr (5, [.ref (ax 12), .int xTz])), ((ax 12), .inl (cA 0, 200, .inl gB))]) hP hD [0, 1, 2] [] hCc rfl (by decide) (by decide) hk1 hFc hP1 hD1
  clear hz1
  rw [scs_10] at tw_5
  generalize H1 = H at hP hS ⊢
  replace hP : va_P (dC, dI) vwCl [((ax 13), .inr (2, [.ref (ax 11), .ref (ax 14), .int xSz, .int xPl, .int xBe, .int xRt, .int xRf, .int xRd, .int xLk])), ((ax 11), .inr (5, [.ref (ax 12), .int xTz])), ((ax 12), .inl (cA 0, 200, .inl gB))] H := hP
  replace hD : va_D A [((ax 13), .inr (2, [.ref (ax 11), .ref (ax 14), .int xSz, .int xPl, .int xBe, .int xRt, .int xRf, .int xRd, .int xLk])), ((ax 11), .inr (5, [.ref (ax 12), .int xTz])), ((ax 12), .inl (cA 0, 200, .inl gB))] := hD
  refine lv_if_eq (tgt := 11) hx hb dX2_kindAt_6 (by decide) (fun c_6 => ?_) (fun c_6 => ?_)
  · have dc_6 : r_1.toInt = 0 := jI_eq c_6 rfl (by decide)
    refine lv_aload_n hx hb dX2_kindAt_11 rfl (lv_at hl 0 rfl) ?_
    refine va_ldcS hx hb hown (show vk_R RX2 122 "last" (adK 11) s from hSt.2.1 11 (by decide)) dX2_kindAt_12 ?_
    obtain ⟨hPc, hDc, hFc, hCc⟩ := va_pre (ws' := [((ax 13), .inr (2, [.ref (ax 11), .ref (ax 14), .int xSz, .int xPl, .int xBe, .int xRt, .int xRf, .int xRd, .int xLk])), ((ax 11), .inr (5, [.ref (ax 12), .int xTz])), ((ax 12), .inl (cA 0, 200, .inl gB))]) hP hD hS hA [0, 1, 2] (by decide) rfl
    refine va_calli (va_runV (As := [.ref (adK 11)]) (rest := []) ⟨hx, hb, hml, hown, hts⟩ (k_X2_isAt l dC dI cA H.size ax xSz xPl xBe xRt xRf xRd xLk xTz gB adK adV 11 i_xSz i_xPl i_xBe i_xRt i_xTz i_gB (by omega) hbe) (cwV 1 hts gX2_kindAt_X2_isAt rfl rfl rfl (by decide +kernel) ⟨Nat.le_of_ble_eq_true rfl, Nat.le_of_ble_eq_true rfl⟩) ⟨fun a U g mk q => by obtain ⟨q0, q1, qP, qK, qD, qN⟩ := q; exact ⟨q0, q1, qP, va_K.moved (u := U) (U := U.calling g mk a) (Vm.Alike.refl U.vm) qK, qD, qN.same rfl rfl⟩, va_recv hK hPc (ci := 2) (q0 := 0) rfl rfl, fun U hU hW => ⟨rfl, by rw [hU], by rw [hU]; exact hPc, va_K.moved hW.alike hK, hDc.weaken (fun _ _ _ _ => trivial), hSt.call hS hU hW hFc⟩⟩ rfl rfl hl.1 rfl (lv_room (Nat.le_of_ble_eq_true rfl)) dX2_kindAt_14 ⟨Nat.le_of_ble_eq_true rfl, Nat.le_of_ble_eq_true rfl⟩) hS (fun q _ h => hFc q h) hFc (fun r_7 u_8 t H1 locs ht hvm hw_9 hB hz1 hk1 hS => ?_)
    try dsimp only at hw_9 hB
    obtain ⟨po_10, tw_11⟩ := hw_9
    obtain ⟨hP1, hD1⟩ := hB
    rw [ht] at hP1
    obtain ⟨hP, hD⟩ := va_join (wr := []) (w1 := [((ax 13), .inr (2, [.ref (ax 11), .ref (ax 14), .int xSz, .int xPl, .int xBe, .int xRt, .int xRf, .int xRd, .int xLk])), ((ax 11), .inr (5, [.ref (ax 12), .int xTz])), ((ax 12), .inl (cA 0, 200, .inl gB))]) hP hD [0, 1, 2] [] hCc rfl (by decide) (by decide) hk1 hFc hP1 hD1
    clear hz1
    rw [scs_11] at tw_11
    generalize H1 = H at hP hS ⊢
    replace hP : va_P (dC, dI) vwCl [((ax 13), .inr (2, [.ref (ax 11), .ref (ax 14), .int xSz, .int xPl, .int xBe, .int xRt, .int xRf, .int xRd, .int xLk])), ((ax 11), .inr (5, [.ref (ax 12), .int xTz])), ((ax 12), .inl (cA 0, 200, .inl gB))] H := hP
    replace hD : va_D A [((ax 13), .inr (2, [.ref (ax 11), .ref (ax 14), .int xSz, .int xPl, .int xBe, .int xRt, .int xRf, .int xRd, .int xLk])), ((ax 11), .inr (5, [.ref (ax 12), .int xTz])), ((ax 12), .inl (cA 0, 200, .inl gB))] := hD
    refine lv_if_eq (tgt := 22) hx hb dX2_kindAt_17 (by decide) (fun c_12 => ?_) (fun c_12 => ?_)
    · have dc_12 : r_7.toInt = 0 := jI_eq c_12 rfl (by decide)
      refine lv_aload_n hx hb dX2_kindAt_22 rfl (lv_at hl 0 rfl) ?_
      refine va_ldcS hx hb hown (show vk_R RX2 124 "age" (adK 12) s from hSt.2.1 12 (by decide)) dX2_kindAt_23 ?_
      obtain ⟨hPc, hDc, hFc, hCc⟩ := va_pre (ws' := [((ax 13), .inr (2, [.ref (ax 11), .ref (ax 14), .int xSz, .int xPl, .int xBe, .int xRt, .int xRf, .int xRd, .int xLk])), ((ax 11), .inr (5, [.ref (ax 12), .int xTz])), ((ax 12), .inl (cA 0, 200, .inl gB))]) hP hD hS hA [0, 1, 2] (by decide) rfl
      refine va_calli (va_runV (As := [.ref (adK 12)]) (rest := []) ⟨hx, hb, hml, hown, hts⟩ (k_X2_isAt l dC dI cA H.size ax xSz xPl xBe xRt xRf xRd xLk xTz gB adK adV 12 i_xSz i_xPl i_xBe i_xRt i_xTz i_gB (by omega) hbe) (cwV 1 hts gX2_kindAt_X2_isAt rfl rfl rfl (by decide +kernel) ⟨Nat.le_of_ble_eq_true rfl, Nat.le_of_ble_eq_true rfl⟩) ⟨fun a U g mk q => by obtain ⟨q0, q1, qP, qK, qD, qN⟩ := q; exact ⟨q0, q1, qP, va_K.moved (u := U) (U := U.calling g mk a) (Vm.Alike.refl U.vm) qK, qD, qN.same rfl rfl⟩, va_recv hK hPc (ci := 2) (q0 := 0) rfl rfl, fun U hU hW => ⟨rfl, by rw [hU], by rw [hU]; exact hPc, va_K.moved hW.alike hK, hDc.weaken (fun _ _ _ _ => trivial), hSt.call hS hU hW hFc⟩⟩ rfl rfl hl.1 rfl (lv_room (Nat.le_of_ble_eq_true rfl)) dX2_kindAt_25 ⟨Nat.le_of_ble_eq_true rfl, Nat.le_of_ble_eq_true rfl⟩) hS (fun q _ h => hFc q h) hFc (fun r_13 u_14 t H1 locs ht hvm hw_15 hB hz1 hk1 hS => ?_)
      try dsimp only at hw_15 hB
      obtain ⟨po_16, tw_17⟩ := hw_15
      obtain ⟨hP1, hD1⟩ := hB
      rw [ht] at hP1
      obtain ⟨hP, hD⟩ := va_join (wr := []) (w1 := [((ax 13), .inr (2, [.ref (ax 11), .ref (ax 14), .int xSz, .int xPl, .int xBe, .int xRt, .int xRf, .int xRd, .int xLk])), ((ax 11), .inr (5, [.ref (ax 12), .int xTz])), ((ax 12), .inl (cA 0, 200, .inl gB))]) hP hD [0, 1, 2] [] hCc rfl (by decide) (by decide) hk1 hFc hP1 hD1
      clear hz1
      rw [scs_12] at tw_17
      generalize H1 = H at hP hS ⊢
      replace hP : va_P (dC, dI) vwCl [((ax 13), .inr (2, [.ref (ax 11), .ref (ax 14), .int xSz, .int xPl, .int xBe, .int xRt, .int xRf, .int xRd, .int xLk])), ((ax 11), .inr (5, [.ref (ax 12), .int xTz])), ((ax 12), .inl (cA 0, 200, .inl gB))] H := hP
      replace hD : va_D A [((ax 13), .inr (2, [.ref (ax 11), .ref (ax 14), .int xSz, .int xPl, .int xBe, .int xRt, .int xRf, .int xRd, .int xLk])), ((ax 11), .inr (5, [.ref (ax 12), .int xTz])), ((ax 12), .inl (cA 0, 200, .inl gB))] := hD
      refine lv_if_eq (tgt := 33) hx hb dX2_kindAt_28 (by decide) (fun c_18 => ?_) (fun c_18 => ?_)
      · have dc_18 : r_13.toInt = 0 := jI_eq c_18 rfl (by decide)
        refine lv_aload_n hx hb dX2_kindAt_33 rfl (lv_at hl 0 rfl) ?_
        refine va_ldcS hx hb hown (show vk_R RX2 126 "count" (adK 13) s from hSt.2.1 13 (by decide)) dX2_kindAt_34 ?_
        obtain ⟨hPc, hDc, hFc, hCc⟩ := va_pre (ws' := [((ax 13), .inr (2, [.ref (ax 11), .ref (ax 14), .int xSz, .int xPl, .int xBe, .int xRt, .int xRf, .int xRd, .int xLk])), ((ax 11), .inr (5, [.ref (ax 12), .int xTz])), ((ax 12), .inl (cA 0, 200, .inl gB))]) hP hD hS hA [0, 1, 2] (by decide) rfl
        refine va_calli (va_runV (As := [.ref (adK 13)]) (rest := []) ⟨hx, hb, hml, hown, hts⟩ (k_X2_isAt l dC dI cA H.size ax xSz xPl xBe xRt xRf xRd xLk xTz gB adK adV 13 i_xSz i_xPl i_xBe i_xRt i_xTz i_gB (by omega) hbe) (cwV 1 hts gX2_kindAt_X2_isAt rfl rfl rfl (by decide +kernel) ⟨Nat.le_of_ble_eq_true rfl, Nat.le_of_ble_eq_true rfl⟩) ⟨fun a U g mk q => by obtain ⟨q0, q1, qP, qK, qD, qN⟩ := q; exact ⟨q0, q1, qP, va_K.moved (u := U) (U := U.calling g mk a) (Vm.Alike.refl U.vm) qK, qD, qN.same rfl rfl⟩, va_recv hK hPc (ci := 2) (q0 := 0) rfl rfl, fun U hU hW => ⟨rfl, by rw [hU], by rw [hU]; exact hPc, va_K.moved hW.alike hK, hDc.weaken (fun _ _ _ _ => trivial), hSt.call hS hU hW hFc⟩⟩ rfl rfl hl.1 rfl (lv_room (Nat.le_of_ble_eq_true rfl)) dX2_kindAt_36 ⟨Nat.le_of_ble_eq_true rfl, Nat.le_of_ble_eq_true rfl⟩) hS (fun q _ h => hFc q h) hFc (fun r_19 u_20 t H1 locs ht hvm hw_21 hB hz1 hk1 hS => ?_)
        try dsimp only at hw_21 hB
        obtain ⟨po_22, tw_23⟩ := hw_21
        obtain ⟨hP1, hD1⟩ := hB
        rw [ht] at hP1
        obtain ⟨hP, hD⟩ := va_join (wr := []) (w1 := [((ax 13), .inr (2, [.ref (ax 11), .ref (ax 14), .int xSz, .int xPl, .int xBe, .int xRt, .int xRf, .int xRd, .int xLk])), ((ax 11), .inr (5, [.ref (ax 12), .int xTz])), ((ax 12), .inl (cA 0, 200, .inl gB))]) hP hD [0, 1, 2] [] hCc rfl (by decide) (by decide) hk1 hFc hP1 hD1
        clear hz1
        rw [scs_13] at tw_23
        generalize H1 = H at hP hS ⊢
        replace hP : va_P (dC, dI) vwCl [((ax 13), .inr (2, [.ref (ax 11), .ref (ax 14), .int xSz, .int xPl, .int xBe, .int xRt, .int xRf, .int xRd, .int xLk])), ((ax 11), .inr (5, [.ref (ax 12), .int xTz])), ((ax 12), .inl (cA 0, 200, .inl gB))] H := hP
        replace hD : va_D A [((ax 13), .inr (2, [.ref (ax 11), .ref (ax 14), .int xSz, .int xPl, .int xBe, .int xRt, .int xRf, .int xRd, .int xLk])), ((ax 11), .inr (5, [.ref (ax 12), .int xTz])), ((ax 12), .inl (cA 0, 200, .inl gB))] := hD
        refine lv_if_eq (tgt := 44) hx hb dX2_kindAt_39 (by decide) (fun c_24 => ?_) (fun c_24 => ?_)
        · have dc_24 : r_19.toInt = 0 := jI_eq c_24 rfl (by decide)
          refine lv_aload_n hx hb dX2_kindAt_44 rfl (lv_at hl 0 rfl) ?_
          refine va_ldcS hx hb hown (show vk_R RX2 128 "sum" (adK 14) s from hSt.2.1 14 (by decide)) dX2_kindAt_45 ?_
          obtain ⟨hPc, hDc, hFc, hCc⟩ := va_pre (ws' := [((ax 13), .inr (2, [.ref (ax 11), .ref (ax 14), .int xSz, .int xPl, .int xBe, .int xRt, .int xRf, .int xRd, .int xLk])), ((ax 11), .inr (5, [.ref (ax 12), .int xTz])), ((ax 12), .inl (cA 0, 200, .inl gB))]) hP hD hS hA [0, 1, 2] (by decide) rfl
          refine va_calli (va_runV (As := [.ref (adK 14)]) (rest := []) ⟨hx, hb, hml, hown, hts⟩ (k_X2_isAt l dC dI cA H.size ax xSz xPl xBe xRt xRf xRd xLk xTz gB adK adV 14 i_xSz i_xPl i_xBe i_xRt i_xTz i_gB (by omega) hbe) (cwV 1 hts gX2_kindAt_X2_isAt rfl rfl rfl (by decide +kernel) ⟨Nat.le_of_ble_eq_true rfl, Nat.le_of_ble_eq_true rfl⟩) ⟨fun a U g mk q => by obtain ⟨q0, q1, qP, qK, qD, qN⟩ := q; exact ⟨q0, q1, qP, va_K.moved (u := U) (U := U.calling g mk a) (Vm.Alike.refl U.vm) qK, qD, qN.same rfl rfl⟩, va_recv hK hPc (ci := 2) (q0 := 0) rfl rfl, fun U hU hW => ⟨rfl, by rw [hU], by rw [hU]; exact hPc, va_K.moved hW.alike hK, hDc.weaken (fun _ _ _ _ => trivial), hSt.call hS hU hW hFc⟩⟩ rfl rfl hl.1 rfl (lv_room (Nat.le_of_ble_eq_true rfl)) dX2_kindAt_47 ⟨Nat.le_of_ble_eq_true rfl, Nat.le_of_ble_eq_true rfl⟩) hS (fun q _ h => hFc q h) hFc (fun r_25 u_26 t H1 locs ht hvm hw_27 hB hz1 hk1 hS => ?_)
          try dsimp only at hw_27 hB
          obtain ⟨po_28, tw_29⟩ := hw_27
          obtain ⟨hP1, hD1⟩ := hB
          rw [ht] at hP1
          obtain ⟨hP, hD⟩ := va_join (wr := []) (w1 := [((ax 13), .inr (2, [.ref (ax 11), .ref (ax 14), .int xSz, .int xPl, .int xBe, .int xRt, .int xRf, .int xRd, .int xLk])), ((ax 11), .inr (5, [.ref (ax 12), .int xTz])), ((ax 12), .inl (cA 0, 200, .inl gB))]) hP hD [0, 1, 2] [] hCc rfl (by decide) (by decide) hk1 hFc hP1 hD1
          clear hz1
          rw [scs_14] at tw_29
          generalize H1 = H at hP hS ⊢
          replace hP : va_P (dC, dI) vwCl [((ax 13), .inr (2, [.ref (ax 11), .ref (ax 14), .int xSz, .int xPl, .int xBe, .int xRt, .int xRf, .int xRd, .int xLk])), ((ax 11), .inr (5, [.ref (ax 12), .int xTz])), ((ax 12), .inl (cA 0, 200, .inl gB))] H := hP
          replace hD : va_D A [((ax 13), .inr (2, [.ref (ax 11), .ref (ax 14), .int xSz, .int xPl, .int xBe, .int xRt, .int xRf, .int xRd, .int xLk])), ((ax 11), .inr (5, [.ref (ax 12), .int xTz])), ((ax 12), .inl (cA 0, 200, .inl gB))] := hD
          refine lv_if_eq (tgt := 55) hx hb dX2_kindAt_50 (by decide) (fun c_30 => ?_) (fun c_30 => ?_)
          · have dc_30 : r_25.toInt = 0 := jI_eq c_30 rfl (by decide)
            refine lv_aload_n hx hb dX2_kindAt_55 rfl (lv_at hl 0 rfl) ?_
            refine va_ldcS hx hb hown (show vk_R RX2 130 "least" (adK 15) s from hSt.2.1 15 (by decide)) dX2_kindAt_56 ?_
            obtain ⟨hPc, hDc, hFc, hCc⟩ := va_pre (ws' := [((ax 13), .inr (2, [.ref (ax 11), .ref (ax 14), .int xSz, .int xPl, .int xBe, .int xRt, .int xRf, .int xRd, .int xLk])), ((ax 11), .inr (5, [.ref (ax 12), .int xTz])), ((ax 12), .inl (cA 0, 200, .inl gB))]) hP hD hS hA [0, 1, 2] (by decide) rfl
            refine va_calli (va_runV (As := [.ref (adK 15)]) (rest := []) ⟨hx, hb, hml, hown, hts⟩ (k_X2_isAt l dC dI cA H.size ax xSz xPl xBe xRt xRf xRd xLk xTz gB adK adV 15 i_xSz i_xPl i_xBe i_xRt i_xTz i_gB (by omega) hbe) (cwV 1 hts gX2_kindAt_X2_isAt rfl rfl rfl (by decide +kernel) ⟨Nat.le_of_ble_eq_true rfl, Nat.le_of_ble_eq_true rfl⟩) ⟨fun a U g mk q => by obtain ⟨q0, q1, qP, qK, qD, qN⟩ := q; exact ⟨q0, q1, qP, va_K.moved (u := U) (U := U.calling g mk a) (Vm.Alike.refl U.vm) qK, qD, qN.same rfl rfl⟩, va_recv hK hPc (ci := 2) (q0 := 0) rfl rfl, fun U hU hW => ⟨rfl, by rw [hU], by rw [hU]; exact hPc, va_K.moved hW.alike hK, hDc.weaken (fun _ _ _ _ => trivial), hSt.call hS hU hW hFc⟩⟩ rfl rfl hl.1 rfl (lv_room (Nat.le_of_ble_eq_true rfl)) dX2_kindAt_58 ⟨Nat.le_of_ble_eq_true rfl, Nat.le_of_ble_eq_true rfl⟩) hS (fun q _ h => hFc q h) hFc (fun r_31 u_32 t H1 locs ht hvm hw_33 hB hz1 hk1 hS => ?_)
            try dsimp only at hw_33 hB
            obtain ⟨po_34, tw_35⟩ := hw_33
            obtain ⟨hP1, hD1⟩ := hB
            rw [ht] at hP1
            obtain ⟨hP, hD⟩ := va_join (wr := []) (w1 := [((ax 13), .inr (2, [.ref (ax 11), .ref (ax 14), .int xSz, .int xPl, .int xBe, .int xRt, .int xRf, .int xRd, .int xLk])), ((ax 11), .inr (5, [.ref (ax 12), .int xTz])), ((ax 12), .inl (cA 0, 200, .inl gB))]) hP hD [0, 1, 2] [] hCc rfl (by decide) (by decide) hk1 hFc hP1 hD1
            clear hz1
            rw [scs_15] at tw_35
            generalize H1 = H at hP hS ⊢
            replace hP : va_P (dC, dI) vwCl [((ax 13), .inr (2, [.ref (ax 11), .ref (ax 14), .int xSz, .int xPl, .int xBe, .int xRt, .int xRf, .int xRd, .int xLk])), ((ax 11), .inr (5, [.ref (ax 12), .int xTz])), ((ax 12), .inl (cA 0, 200, .inl gB))] H := hP
            replace hD : va_D A [((ax 13), .inr (2, [.ref (ax 11), .ref (ax 14), .int xSz, .int xPl, .int xBe, .int xRt, .int xRf, .int xRd, .int xLk])), ((ax 11), .inr (5, [.ref (ax 12), .int xTz])), ((ax 12), .inl (cA 0, 200, .inl gB))] := hD
            refine lv_if_eq (tgt := 67) hx hb dX2_kindAt_61 (by decide) (fun c_36 => ?_) (fun c_36 => ?_)
            · have dc_36 : r_31.toInt = 0 := jI_eq c_36 rfl (by decide)
              refine lv_aload_n hx hb dX2_kindAt_67 rfl (lv_at hl 0 rfl) ?_
              refine va_ldcS hx hb hown (show vk_R RX2 132 "most" (adK 16) s from hSt.2.1 16 (by decide)) dX2_kindAt_68 ?_
              obtain ⟨hPc, hDc, hFc, hCc⟩ := va_pre (ws' := [((ax 13), .inr (2, [.ref (ax 11), .ref (ax 14), .int xSz, .int xPl, .int xBe, .int xRt, .int xRf, .int xRd, .int xLk])), ((ax 11), .inr (5, [.ref (ax 12), .int xTz])), ((ax 12), .inl (cA 0, 200, .inl gB))]) hP hD hS hA [0, 1, 2] (by decide) rfl
              refine va_calli (va_runV (As := [.ref (adK 16)]) (rest := []) ⟨hx, hb, hml, hown, hts⟩ (k_X2_isAt l dC dI cA H.size ax xSz xPl xBe xRt xRf xRd xLk xTz gB adK adV 16 i_xSz i_xPl i_xBe i_xRt i_xTz i_gB (by omega) hbe) (cwV 1 hts gX2_kindAt_X2_isAt rfl rfl rfl (by decide +kernel) ⟨Nat.le_of_ble_eq_true rfl, Nat.le_of_ble_eq_true rfl⟩) ⟨fun a U g mk q => by obtain ⟨q0, q1, qP, qK, qD, qN⟩ := q; exact ⟨q0, q1, qP, va_K.moved (u := U) (U := U.calling g mk a) (Vm.Alike.refl U.vm) qK, qD, qN.same rfl rfl⟩, va_recv hK hPc (ci := 2) (q0 := 0) rfl rfl, fun U hU hW => ⟨rfl, by rw [hU], by rw [hU]; exact hPc, va_K.moved hW.alike hK, hDc.weaken (fun _ _ _ _ => trivial), hSt.call hS hU hW hFc⟩⟩ rfl rfl hl.1 rfl (lv_room (Nat.le_of_ble_eq_true rfl)) dX2_kindAt_70 ⟨Nat.le_of_ble_eq_true rfl, Nat.le_of_ble_eq_true rfl⟩) hS (fun q _ h => hFc q h) hFc (fun r_37 u_38 t H1 locs ht hvm hw_39 hB hz1 hk1 hS => ?_)
              try dsimp only at hw_39 hB
              obtain ⟨po_40, tw_41⟩ := hw_39
              obtain ⟨hP1, hD1⟩ := hB
              rw [ht] at hP1
              obtain ⟨hP, hD⟩ := va_join (wr := []) (w1 := [((ax 13), .inr (2, [.ref (ax 11), .ref (ax 14), .int xSz, .int xPl, .int xBe, .int xRt, .int xRf, .int xRd, .int xLk])), ((ax 11), .inr (5, [.ref (ax 12), .int xTz])), ((ax 12), .inl (cA 0, 200, .inl gB))]) hP hD [0, 1, 2] [] hCc rfl (by decide) (by decide) hk1 hFc hP1 hD1
              clear hz1
              rw [scs_16] at tw_41
              generalize H1 = H at hP hS ⊢
              replace hP : va_P (dC, dI) vwCl [((ax 13), .inr (2, [.ref (ax 11), .ref (ax 14), .int xSz, .int xPl, .int xBe, .int xRt, .int xRf, .int xRd, .int xLk])), ((ax 11), .inr (5, [.ref (ax 12), .int xTz])), ((ax 12), .inl (cA 0, 200, .inl gB))] H := hP
              replace hD : va_D A [((ax 13), .inr (2, [.ref (ax 11), .ref (ax 14), .int xSz, .int xPl, .int xBe, .int xRt, .int xRf, .int xRd, .int xLk])), ((ax 11), .inr (5, [.ref (ax 12), .int xTz])), ((ax 12), .inl (cA 0, 200, .inl gB))] := hD
              refine lv_if_eq (tgt := 81) hx hb dX2_kindAt_73 (by decide) (fun c_42 => ?_) (fun c_42 => ?_)
              · have dc_42 : r_37.toInt = 0 := jI_eq c_42 rfl (by decide)
                refine lv_iconst (v := (-1)) hx hb dX2_kindAt_81 (by decide) ?_
                obtain ⟨hP9, hD9⟩ := va_pd (ws' := [((ax 13), .inr (2, [.ref (ax 11), .ref (ax 14), .int xSz, .int xPl, .int xBe, .int xRt, .int xRf, .int xRd, .int xLk])), ((ax 11), .inr (5, [.ref (ax 12), .int xTz])), ((ax 12), .inl (cA 0, 200, .inl gB))]) hP hD [0, 1, 2] (by decide) rfl
                subst hQe
                have hans : ((-1) : Int32).toInt = (-1) := (by decide)
                have hpost : (((-1) : Int32).toInt = (-1) ∨ (1 ≤ ((-1) : Int32).toInt ∧ ((-1) : Int32).toInt ≤ 7)) ∧ (((-1) : Int32).toInt = pkind (tpe gB xTz) xPl.toInt xBe.toInt) := ⟨by omega, (by have : pkind (tpe gB xTz) xPl.toInt xBe.toInt = (-1) := (by unfold pkind; rw [if_neg (fun h => absurd (tw_5.mpr h) (fun q => q dc_6)), if_neg (fun h => absurd (tw_11.mpr h) (fun q => q dc_12)), if_neg (fun h => absurd (tw_17.mpr h) (fun q => q dc_18)), if_neg (fun h => absurd (tw_23.mpr h) (fun q => q dc_24)), if_neg (fun h => absurd (tw_29.mpr h) (fun q => q dc_30)), if_neg (fun h => absurd (tw_35.mpr h) (fun q => q dc_36)), if_neg (fun h => absurd (tw_41.mpr h) (fun q => q dc_42))]); omega)⟩
                exact W.iret (v := (-1)) hx hb hr (fun t ht hW => ⟨⟨(-1), (), rfl, hpost, by rw [ht]; exact hP9, hD9⟩, hS.F ht⟩) hS.2.2 dX2_kindAt_82
              · have dc_42 : ¬ r_37.toInt = 0 := jI_ne c_42 rfl (by decide)
                refine lv_bipush (v := 7) hx hb dX2_kindAt_76 (by decide) ?_
                refine lv_goto (tgt := 82) hx hb dX2_kindAt_78 (by decide) ?_
                obtain ⟨hP9, hD9⟩ := va_pd (ws' := [((ax 13), .inr (2, [.ref (ax 11), .ref (ax 14), .int xSz, .int xPl, .int xBe, .int xRt, .int xRf, .int xRd, .int xLk])), ((ax 11), .inr (5, [.ref (ax 12), .int xTz])), ((ax 12), .inl (cA 0, 200, .inl gB))]) hP hD [0, 1, 2] (by decide) rfl
                subst hQe
                have hans : (7 : Int32).toInt = 7 := (by decide)
                have hpost : ((7 : Int32).toInt = (-1) ∨ (1 ≤ (7 : Int32).toInt ∧ (7 : Int32).toInt ≤ 7)) ∧ ((7 : Int32).toInt = pkind (tpe gB xTz) xPl.toInt xBe.toInt) := ⟨by omega, (by have : pkind (tpe gB xTz) xPl.toInt xBe.toInt = 7 := (by unfold pkind; rw [if_neg (fun h => absurd (tw_5.mpr h) (fun q => q dc_6)), if_neg (fun h => absurd (tw_11.mpr h) (fun q => q dc_12)), if_neg (fun h => absurd (tw_17.mpr h) (fun q => q dc_18)), if_neg (fun h => absurd (tw_23.mpr h) (fun q => q dc_24)), if_neg (fun h => absurd (tw_29.mpr h) (fun q => q dc_30)), if_neg (fun h => absurd (tw_35.mpr h) (fun q => q dc_36)), if_pos (tw_41.mp dc_42)]); omega)⟩
                exact W.iret (v := 7) hx hb hr (fun t ht hW => ⟨⟨7, (), rfl, hpost, by rw [ht]; exact hP9, hD9⟩, hS.F ht⟩) hS.2.2 dX2_kindAt_82
            · have dc_36 : ¬ r_31.toInt = 0 := jI_ne c_36 rfl (by decide)
              refine lv_bipush (v := 6) hx hb dX2_kindAt_64 (by decide) ?_
              obtain ⟨hP9, hD9⟩ := va_pd (ws' := [((ax 13), .inr (2, [.ref (ax 11), .ref (ax 14), .int xSz, .int xPl, .int xBe, .int xRt, .int xRf, .int xRd, .int xLk])), ((ax 11), .inr (5, [.ref (ax 12), .int xTz])), ((ax 12), .inl (cA 0, 200, .inl gB))]) hP hD [0, 1, 2] (by decide) rfl
              subst hQe
              have hans : (6 : Int32).toInt = 6 := (by decide)
              have hpost : ((6 : Int32).toInt = (-1) ∨ (1 ≤ (6 : Int32).toInt ∧ (6 : Int32).toInt ≤ 7)) ∧ ((6 : Int32).toInt = pkind (tpe gB xTz) xPl.toInt xBe.toInt) := ⟨by omega, (by have : pkind (tpe gB xTz) xPl.toInt xBe.toInt = 6 := (by unfold pkind; rw [if_neg (fun h => absurd (tw_5.mpr h) (fun q => q dc_6)), if_neg (fun h => absurd (tw_11.mpr h) (fun q => q dc_12)), if_neg (fun h => absurd (tw_17.mpr h) (fun q => q dc_18)), if_neg (fun h => absurd (tw_23.mpr h) (fun q => q dc_24)), if_neg (fun h => absurd (tw_29.mpr h) (fun q => q dc_30)), if_pos (tw_35.mp dc_36)]); omega)⟩
              exact W.iret (v := 6) hx hb hr (fun t ht hW => ⟨⟨6, (), rfl, hpost, by rw [ht]; exact hP9, hD9⟩, hS.F ht⟩) hS.2.2 dX2_kindAt_66
          · have dc_30 : ¬ r_25.toInt = 0 := jI_ne c_30 rfl (by decide)
            refine lv_iconst (v := 5) hx hb dX2_kindAt_53 (by decide) ?_
            obtain ⟨hP9, hD9⟩ := va_pd (ws' := [((ax 13), .inr (2, [.ref (ax 11), .ref (ax 14), .int xSz, .int xPl, .int xBe, .int xRt, .int xRf, .int xRd, .int xLk])), ((ax 11), .inr (5, [.ref (ax 12), .int xTz])), ((ax 12), .inl (cA 0, 200, .inl gB))]) hP hD [0, 1, 2] (by decide) rfl
            subst hQe
            have hans : (5 : Int32).toInt = 5 := (by decide)
            have hpost : ((5 : Int32).toInt = (-1) ∨ (1 ≤ (5 : Int32).toInt ∧ (5 : Int32).toInt ≤ 7)) ∧ ((5 : Int32).toInt = pkind (tpe gB xTz) xPl.toInt xBe.toInt) := ⟨by omega, (by have : pkind (tpe gB xTz) xPl.toInt xBe.toInt = 5 := (by unfold pkind; rw [if_neg (fun h => absurd (tw_5.mpr h) (fun q => q dc_6)), if_neg (fun h => absurd (tw_11.mpr h) (fun q => q dc_12)), if_neg (fun h => absurd (tw_17.mpr h) (fun q => q dc_18)), if_neg (fun h => absurd (tw_23.mpr h) (fun q => q dc_24)), if_pos (tw_29.mp dc_30)]); omega)⟩
            exact W.iret (v := 5) hx hb hr (fun t ht hW => ⟨⟨5, (), rfl, hpost, by rw [ht]; exact hP9, hD9⟩, hS.F ht⟩) hS.2.2 dX2_kindAt_54
        · have dc_24 : ¬ r_19.toInt = 0 := jI_ne c_24 rfl (by decide)
          refine lv_iconst (v := 4) hx hb dX2_kindAt_42 (by decide) ?_
          obtain ⟨hP9, hD9⟩ := va_pd (ws' := [((ax 13), .inr (2, [.ref (ax 11), .ref (ax 14), .int xSz, .int xPl, .int xBe, .int xRt, .int xRf, .int xRd, .int xLk])), ((ax 11), .inr (5, [.ref (ax 12), .int xTz])), ((ax 12), .inl (cA 0, 200, .inl gB))]) hP hD [0, 1, 2] (by decide) rfl
          subst hQe
          have hans : (4 : Int32).toInt = 4 := (by decide)
          have hpost : ((4 : Int32).toInt = (-1) ∨ (1 ≤ (4 : Int32).toInt ∧ (4 : Int32).toInt ≤ 7)) ∧ ((4 : Int32).toInt = pkind (tpe gB xTz) xPl.toInt xBe.toInt) := ⟨by omega, (by have : pkind (tpe gB xTz) xPl.toInt xBe.toInt = 4 := (by unfold pkind; rw [if_neg (fun h => absurd (tw_5.mpr h) (fun q => q dc_6)), if_neg (fun h => absurd (tw_11.mpr h) (fun q => q dc_12)), if_neg (fun h => absurd (tw_17.mpr h) (fun q => q dc_18)), if_pos (tw_23.mp dc_24)]); omega)⟩
          exact W.iret (v := 4) hx hb hr (fun t ht hW => ⟨⟨4, (), rfl, hpost, by rw [ht]; exact hP9, hD9⟩, hS.F ht⟩) hS.2.2 dX2_kindAt_43
      · have dc_18 : ¬ r_13.toInt = 0 := jI_ne c_18 rfl (by decide)
        refine lv_iconst (v := 3) hx hb dX2_kindAt_31 (by decide) ?_
        obtain ⟨hP9, hD9⟩ := va_pd (ws' := [((ax 13), .inr (2, [.ref (ax 11), .ref (ax 14), .int xSz, .int xPl, .int xBe, .int xRt, .int xRf, .int xRd, .int xLk])), ((ax 11), .inr (5, [.ref (ax 12), .int xTz])), ((ax 12), .inl (cA 0, 200, .inl gB))]) hP hD [0, 1, 2] (by decide) rfl
        subst hQe
        have hans : (3 : Int32).toInt = 3 := (by decide)
        have hpost : ((3 : Int32).toInt = (-1) ∨ (1 ≤ (3 : Int32).toInt ∧ (3 : Int32).toInt ≤ 7)) ∧ ((3 : Int32).toInt = pkind (tpe gB xTz) xPl.toInt xBe.toInt) := ⟨by omega, (by have : pkind (tpe gB xTz) xPl.toInt xBe.toInt = 3 := (by unfold pkind; rw [if_neg (fun h => absurd (tw_5.mpr h) (fun q => q dc_6)), if_neg (fun h => absurd (tw_11.mpr h) (fun q => q dc_12)), if_pos (tw_17.mp dc_18)]); omega)⟩
        exact W.iret (v := 3) hx hb hr (fun t ht hW => ⟨⟨3, (), rfl, hpost, by rw [ht]; exact hP9, hD9⟩, hS.F ht⟩) hS.2.2 dX2_kindAt_32
    · have dc_12 : ¬ r_7.toInt = 0 := jI_ne c_12 rfl (by decide)
      refine lv_iconst (v := 2) hx hb dX2_kindAt_20 (by decide) ?_
      obtain ⟨hP9, hD9⟩ := va_pd (ws' := [((ax 13), .inr (2, [.ref (ax 11), .ref (ax 14), .int xSz, .int xPl, .int xBe, .int xRt, .int xRf, .int xRd, .int xLk])), ((ax 11), .inr (5, [.ref (ax 12), .int xTz])), ((ax 12), .inl (cA 0, 200, .inl gB))]) hP hD [0, 1, 2] (by decide) rfl
      subst hQe
      have hans : (2 : Int32).toInt = 2 := (by decide)
      have hpost : ((2 : Int32).toInt = (-1) ∨ (1 ≤ (2 : Int32).toInt ∧ (2 : Int32).toInt ≤ 7)) ∧ ((2 : Int32).toInt = pkind (tpe gB xTz) xPl.toInt xBe.toInt) := ⟨by omega, (by have : pkind (tpe gB xTz) xPl.toInt xBe.toInt = 2 := (by unfold pkind; rw [if_neg (fun h => absurd (tw_5.mpr h) (fun q => q dc_6)), if_pos (tw_11.mp dc_12)]); omega)⟩
      exact W.iret (v := 2) hx hb hr (fun t ht hW => ⟨⟨2, (), rfl, hpost, by rw [ht]; exact hP9, hD9⟩, hS.F ht⟩) hS.2.2 dX2_kindAt_21
  · have dc_6 : ¬ r_1.toInt = 0 := jI_ne c_6 rfl (by decide)
    refine lv_iconst (v := 1) hx hb dX2_kindAt_9 (by decide) ?_
    obtain ⟨hP9, hD9⟩ := va_pd (ws' := [((ax 13), .inr (2, [.ref (ax 11), .ref (ax 14), .int xSz, .int xPl, .int xBe, .int xRt, .int xRf, .int xRd, .int xLk])), ((ax 11), .inr (5, [.ref (ax 12), .int xTz])), ((ax 12), .inl (cA 0, 200, .inl gB))]) hP hD [0, 1, 2] (by decide) rfl
    subst hQe
    have hans : (1 : Int32).toInt = 1 := (by decide)
    have hpost : ((1 : Int32).toInt = (-1) ∨ (1 ≤ (1 : Int32).toInt ∧ (1 : Int32).toInt ≤ 7)) ∧ ((1 : Int32).toInt = pkind (tpe gB xTz) xPl.toInt xBe.toInt) := ⟨by omega, (by have : pkind (tpe gB xTz) xPl.toInt xBe.toInt = 1 := (by unfold pkind; rw [if_pos (tw_5.mp dc_6)]); omega)⟩
    exact W.iret (v := 1) hx hb hr (fun t ht hW => ⟨⟨1, (), rfl, hpost, by rw [ht]; exact hP9, hD9⟩, hS.F ht⟩) hS.2.2 dX2_kindAt_10

set_option maxHeartbeats 8000000 in
set_option maxRecDepth 100000 in
theorem k_X2_take (l : Launch) (dC : Nat → ClassId) (dI : Nat → Nat → Nat) (cA : Nat → ClassId) (sz : Nat) (ax : Nat → Nat) (xSz : Int32) (xPl : Int32) (xBe : Int32) (xRt : Int32) (xRf : Int32) (xRd : Int32) (xLk : Int32) (xTz : Int32) (gB : Nat → Int32) (adK : Nat → Nat) (adV : Nat → Nat) (i : Nat) (i_xSz : 0 ≤ xSz.toInt ∧ xSz.toInt ≤ 200) (i_xPl : 0 ≤ xPl.toInt ∧ xPl.toInt ≤ 200) (i_xBe : 0 ≤ xBe.toInt ∧ xBe.toInt ≤ 200) (i_xRt : 0 ≤ xRt.toInt ∧ xRt.toInt ≤ 20) (i_xTz : 0 ≤ xTz.toInt ∧ xTz.toInt ≤ 200) (i_gB : inB 0 255 200 gB) (hi : i < 17) (hbe : xPl.toInt ≤ xBe.toInt ∧ xBe.toInt ≤ xTz.toInt) (htk : tokOK gB xPl xBe xTz) : Met l yX2_take wsX2_take ({ frames := 5, cells := 0, slots := 0, locals := 108 }) (va_Pc [.ref (ax 13), .ref (adK i)] (fun U => U.heap.size = sz ∧ va_P (dC, dI) vwCl [((ax 13), .inr (2, [.ref (ax 11), .ref (ax 14), .int xSz, .int xPl, .int xBe, .int xRt, .int xRf, .int xRd, .int xLk])), ((ax 11), .inr (5, [.ref (ax 12), .int xTz])), ((ax 12), .inl (cA 0, 200, .inl gB))] U.heap ∧ va_K (dC, dI) vwCl (tyL cA) U ∧ va_D (fun _ => True) [((ax 13), .inr (2, [.ref (ax 11), .ref (ax 14), .int xSz, .int xPl, .int xBe, .int xRt, .int xRf, .int xRd, .int xLk])), ((ax 11), .inr (5, [.ref (ax 12), .int xTz])), ((ax 12), .inl (cA 0, 200, .inl gB))] ∧ st_ok adK adV (va_A [((ax 13), .inr (2, [.ref (ax 11), .ref (ax 14), .int xSz, .int xPl, .int xBe, .int xRt, .int xRf, .int xRd, .int xLk])), ((ax 11), .inr (5, [.ref (ax 12), .int xTz])), ((ax 12), .inl (cA 0, 200, .inl gB))] sz) U)) (va_Qi (fun (r : Int32) (u : Int32 × Int32 × Int32) => (0 ≤ u.1.toInt ∧ u.1.toInt ≤ 200) ∧ (0 ≤ u.2.1.toInt ∧ u.2.1.toInt ≤ 200) ∧ (u.1.toInt ≤ u.2.1.toInt ∧ u.2.1.toInt ≤ xTz.toInt ∧ (0 ≤ r.toInt ∧ r.toInt ≤ 1)) ∧ (tokOK gB u.1 u.2.1 xTz) ∧ (tkR (tpe gB xTz) xTz.toInt (scs i) xPl.toInt xBe.toInt (¬ r.toInt = 0) u.1.toInt u.2.1.toInt u.2.2.toInt) ∧ ((¬ r.toInt = 0 → u.2.2.toInt = xRf.toInt) ∧ (r.toInt = 0 → 0 ≤ u.2.2.toInt))) (fun (u : Int32 × Int32 × Int32) (t : State) => va_P (dC, dI) vwCl [((ax 13), .inr (2, [.ref (ax 11), .ref (ax 14), .int xSz, .int u.1, .int u.2.1, .int xRt, .int u.2.2, .int xRd, .int xLk])), ((ax 11), .inr (5, [.ref (ax 12), .int xTz])), ((ax 12), .inl (cA 0, 200, .inl gB))] t.heap ∧ va_D (va_A [((ax 13), .inr (2, [.ref (ax 11), .ref (ax 14), .int xSz, .int xPl, .int xBe, .int xRt, .int xRf, .int xRd, .int xLk])), ((ax 11), .inr (5, [.ref (ax 12), .int xTz])), ((ax 12), .inl (cA 0, 200, .inl gB))] sz) [((ax 13), .inr (2, [.ref (ax 11), .ref (ax 14), .int xSz, .int u.1, .int u.2.1, .int xRt, .int u.2.2, .int xRd, .int xLk])), ((ax 11), .inr (5, [.ref (ax 12), .int xTz])), ((ax 12), .inl (cA 0, 200, .inl gB))]) (va_A [((ax 13), .inr (2, [.ref (ax 11), .ref (ax 14), .int xSz, .int xPl, .int xBe, .int xRt, .int xRf, .int xRd, .int xLk])), ((ax 11), .inr (5, [.ref (ax 12), .int xTz])), ((ax 12), .inl (cA 0, 200, .inl gB))] sz)) 0 0 (va_A [((ax 13), .inr (2, [.ref (ax 11), .ref (ax 14), .int xSz, .int xPl, .int xBe, .int xRt, .int xRf, .int xRd, .int xLk])), ((ax 11), .inr (5, [.ref (ax 12), .int xTz])), ((ax 12), .inl (cA 0, 200, .inl gB))] sz) := by
  refine Met.ofW (cc := cX2_take) (maxL := 2) (ret := (some .boolean)) (by decide) rfl ?_
  intro p e s m args below meth c s₁ B hml hv
  obtain ⟨rfl, hsz, hP, hK, hD0, hN⟩ := hv
  have hx := B.exec
  have hb := B.bytes
  have hr := B.returns
  have hts := atoms_spec (ws := wsX2_take) B.pre
  have hown : s.vm.findClass RX2 = some m.cls := findClass_of_methodNamed B.named
  have hlocks := B.notSynchronized
  subst hsz
  have hD := hD0.self (sz := s.heap.size)
  generalize hAe : va_A [((ax 13), .inr (2, [.ref (ax 11), .ref (ax 14), .int xSz, .int xPl, .int xBe, .int xRt, .int xRf, .int xRd, .int xLk])), ((ax 11), .inr (5, [.ref (ax 12), .int xTz])), ((ax 12), .inl (cA 0, 200, .inl gB))] s.heap.size = A at hD hN ⊢
  have hSt := hN
  have hN := hSt.1
  have hA : ∀ q : Nat, s.heap.size ≤ q → A q := fun q h => by rw [← hAe]; exact Or.inr h
  have hS : va_S A s.heap s.heap [] := va_S.rf
  have hl := lv_entry ([.ref (ax 13), .ref (adK i)]) (n := 2) (Nat.le_of_ble_eq_true rfl)
  rw [lg_entry_eq]
  generalize (lg_sl ([.ref (ax 13), .ref (adK i)]) ++ List.replicate (2 - (lg_sl ([.ref (ax 13), .ref (adK i)])).length) Slot.unset).toArray = ls at hl ⊢
  have hl : lv_has ls 2 [(0, .ref (ax 13)), (1, .ref (adK i))] := hl
  generalize hQe : MQ below _ _ _ _ _ _ = QQ
  refine lv_aload_n hx hb dX2_take_0 rfl (lv_at hl 0 rfl) ?_
  refine lv_aload_n hx hb dX2_take_1 rfl (lv_at hl 1 rfl) ?_
  obtain ⟨hPc, hDc, hFc, hCc⟩ := va_pre (ws' := [((ax 13), .inr (2, [.ref (ax 11), .ref (ax 14), .int xSz, .int xPl, .int xBe, .int xRt, .int xRf, .int xRd, .int xLk])), ((ax 11), .inr (5, [.ref (ax 12), .int xTz])), ((ax 12), .inl (cA 0, 200, .inl gB))]) hP hD hS hA [0, 1, 2] (by decide) rfl
  refine va_calli (va_runV (As := [.ref (adK i)]) (rest := []) ⟨hx, hb, hml, hown, hts⟩ (k_X2_isAt l dC dI cA s.heap.size ax xSz xPl xBe xRt xRf xRd xLk xTz gB adK adV i i_xSz i_xPl i_xBe i_xRt i_xTz i_gB hi hbe) (cwV 1 hts gX2_take_X2_isAt rfl rfl rfl (by decide +kernel) ⟨Nat.le_of_ble_eq_true rfl, Nat.le_of_ble_eq_true rfl⟩) ⟨fun a U g mk q => by obtain ⟨q0, q1, qP, qK, qD, qN⟩ := q; exact ⟨q0, q1, qP, va_K.moved (u := U) (U := U.calling g mk a) (Vm.Alike.refl U.vm) qK, qD, qN.same rfl rfl⟩, va_recv hK hPc (ci := 2) (q0 := 0) rfl rfl, fun U hU hW => ⟨rfl, by rw [hU], by rw [hU]; exact hPc, va_K.moved hW.alike hK, hDc.weaken (fun _ _ _ _ => trivial), hSt.call hS hU hW hFc⟩⟩ rfl rfl hl.1 rfl (lv_room (Nat.le_of_ble_eq_true rfl)) dX2_take_2 ⟨Nat.le_of_ble_eq_true rfl, Nat.le_of_ble_eq_true rfl⟩) hS (fun q _ h => hFc q h) hFc (fun r_1 u_2 t H1 locs ht hvm hw_3 hB hz1 hk1 hS => ?_)
  try dsimp only at hw_3 hB
  obtain ⟨po_4, tw_5⟩ := hw_3
  obtain ⟨hP1, hD1⟩ := hB
  rw [ht] at hP1
  obtain ⟨hP, hD⟩ := va_join (wr := []) (w1 := [((ax 13), .inr (2, [.ref (ax 11), .ref (ax 14), .int xSz, .int xPl, .int xBe, .int xRt, .int xRf, .int xRd, .int xLk])), ((ax 11), .inr (5, [.ref (ax 12), .int xTz])), ((ax 12), .inl (cA 0, 200, .inl gB))]) hP hD [0, 1, 2] [] hCc rfl (by decide) (by decide) hk1 hFc hP1 hD1
  clear hz1
  generalize H1 = H at hP hS ⊢
  refine lv_if_ne (tgt := 13) hx hb dX2_take_5 (by decide) (fun c_6 => ?_) (fun c_6 => ?_)
  · have dc_6 : ¬ r_1.toInt = 0 := jI_ne c_6 rfl (by decide)
    refine lv_aload_n hx hb dX2_take_13 rfl (lv_at hl 0 rfl) ?_
    obtain ⟨hPc, hDc, hFc, hCc⟩ := va_pre (ws' := [((ax 13), .inr (2, [.ref (ax 11), .ref (ax 14), .int xSz, .int xPl, .int xBe, .int xRt, .int xRf, .int xRd, .int xLk])), ((ax 11), .inr (5, [.ref (ax 12), .int xTz])), ((ax 12), .inl (cA 0, 200, .inl gB))]) hP hD hS hA [0, 1, 2] (by decide) rfl
    refine va_callv (va_runV (As := []) (rest := []) ⟨hx, hb, hml, hown, hts⟩ (k_X2_advance l dC dI cA H.size ax xSz xPl xBe xRt xRf xRd xLk xTz gB i_xSz i_xPl i_xBe i_xRt i_xTz i_gB (by omega)) (cwV 0 hts gX2_take_X2_advance rfl rfl rfl (by decide +kernel) ⟨Nat.le_of_ble_eq_true rfl, Nat.le_of_ble_eq_true rfl⟩) ⟨fun a U g mk q => by obtain ⟨q0, q1, qP, qK, qD, qN⟩ := q; exact ⟨q0, q1, qP, va_K.moved (u := U) (U := U.calling g mk a) (Vm.Alike.refl U.vm) qK, qD, qN.same rfl⟩, va_recv hK hPc (ci := 2) (q0 := 0) rfl rfl, fun U hU hW => ⟨rfl, by rw [hU], by rw [hU]; exact hPc, va_K.moved hW.alike hK, hDc.weaken (fun _ _ _ _ => trivial), hN.warm hW⟩⟩ rfl rfl hl.1 rfl (lv_room (Nat.le_of_ble_eq_true rfl)) dX2_take_14 ⟨Nat.le_of_ble_eq_true rfl, Nat.le_of_ble_eq_true rfl⟩) hS (fun q _ h => hFc q h) hFc (fun u_7 t H1 locs ht hvm hw_8 hB hz1 hk1 hS => ?_)
    obtain ⟨w_9, w_10⟩ := u_7
    try dsimp only at hw_8 hB
    obtain ⟨iv_11, iv_12, po_13, tk_14, ad_15⟩ := hw_8
    obtain ⟨hP1, hD1⟩ := hB
    rw [ht] at hP1
    obtain ⟨hP, hD⟩ := va_join (wr := []) (w1 := [((ax 13), .inr (2, [.ref (ax 11), .ref (ax 14), .int xSz, .int w_9, .int w_10, .int xRt, .int xRf, .int xRd, .int xLk])), ((ax 11), .inr (5, [.ref (ax 12), .int xTz])), ((ax 12), .inl (cA 0, 200, .inl gB))]) hP hD [0, 1, 2] [] hCc rfl (by decide) (by decide) hk1 hFc hP1 hD1
    clear hz1
    generalize H1 = H at hP hS ⊢
    refine lv_iconst (v := 1) hx hb dX2_take_17 (by decide) ?_
    obtain ⟨hP9, hD9⟩ := va_pd (ws' := [((ax 13), .inr (2, [.ref (ax 11), .ref (ax 14), .int xSz, .int w_9, .int w_10, .int xRt, .int xRf, .int xRd, .int xLk])), ((ax 11), .inr (5, [.ref (ax 12), .int xTz])), ((ax 12), .inl (cA 0, 200, .inl gB))]) hP hD [0, 1, 2] (by decide) rfl
    subst hQe
    have hans : (1 : Int32).toInt = 1 := (by decide)
    have hpost : (0 ≤ w_9.toInt ∧ w_9.toInt ≤ 200) ∧ (0 ≤ w_10.toInt ∧ w_10.toInt ≤ 200) ∧ (w_9.toInt ≤ w_10.toInt ∧ w_10.toInt ≤ xTz.toInt ∧ (0 ≤ (1 : Int32).toInt ∧ (1 : Int32).toInt ≤ 1)) ∧ (tokOK gB w_9 w_10 xTz) ∧ (tkR (tpe gB xTz) xTz.toInt (scs i) xPl.toInt xBe.toInt (¬ (1 : Int32).toInt = 0) w_9.toInt w_10.toInt xRf.toInt) ∧ ((¬ (1 : Int32).toInt = 0 → xRf.toInt = xRf.toInt) ∧ ((1 : Int32).toInt = 0 → 0 ≤ xRf.toInt)) := ⟨iv_11, iv_12, by omega, tk_14, ⟨fun _ => ⟨(tw_5.mp dc_6), ad_15.1, ad_15.2⟩, fun h => by exfalso; omega⟩, by omega⟩
    exact W.zret (v := 1) hx hb hr (by decide) (fun t ht hW => ⟨⟨1, (w_9, w_10, xRf), rfl, hpost, by rw [ht]; exact hP9, hD9⟩, hS.F ht⟩) hS.2.2 dX2_take_18
  · have dc_6 : r_1.toInt = 0 := jI_eq c_6 rfl (by decide)
    refine lv_aload_n hx hb dX2_take_8 rfl (lv_at hl 0 rfl) ?_
    obtain ⟨hPc, hDc, hFc, hCc⟩ := va_pre (ws' := [((ax 13), .inr (2, [.ref (ax 11), .ref (ax 14), .int xSz, .int xPl, .int xBe, .int xRt, .int xRf, .int xRd, .int xLk]))]) hP hD hS hA [0] (by decide) rfl
    refine va_calli (va_runV (As := []) (rest := []) ⟨hx, hb, hml, hown, hts⟩ (k_X2_stop l dC dI cA H.size ax xSz xPl xBe xRt xRf xRd xLk i_xSz i_xPl i_xBe i_xRt) (cwV 0 hts gX2_take_X2_stop rfl rfl rfl (by decide +kernel) ⟨Nat.le_of_ble_eq_true rfl, Nat.le_of_ble_eq_true rfl⟩) ⟨fun a U g mk q => by obtain ⟨q0, q1, qP, qK, qD, qN⟩ := q; exact ⟨q0, q1, qP, va_K.moved (u := U) (U := U.calling g mk a) (Vm.Alike.refl U.vm) qK, qD, qN.same rfl⟩, va_recv hK hPc (ci := 2) (q0 := 0) rfl rfl, fun U hU hW => ⟨rfl, by rw [hU], by rw [hU]; exact hPc, va_K.moved hW.alike hK, hDc.weaken (fun _ _ _ _ => trivial), hN.warm hW⟩⟩ rfl rfl hl.1 rfl (lv_room (Nat.le_of_ble_eq_true rfl)) dX2_take_9 ⟨Nat.le_of_ble_eq_true rfl, Nat.le_of_ble_eq_true rfl⟩) hS (fun q _ h => hFc q h) hFc (fun r_16 u_17 t H1 locs ht hvm hw_18 hB hz1 hk1 hS => ?_)
    obtain ⟨w_19, rfl⟩ : ∃ z, z = u_17 := ⟨_, rfl⟩
    try dsimp only at hw_18 hB
    obtain ⟨hr9, sf_20⟩ := hw_18
    obtain ⟨hP1, hD1⟩ := hB
    rw [ht] at hP1
    obtain ⟨hP, hD⟩ := va_join (wr := [((ax 11), .inr (5, [.ref (ax 12), .int xTz])), ((ax 12), .inl (cA 0, 200, .inl gB))]) (w1 := [((ax 13), .inr (2, [.ref (ax 11), .ref (ax 14), .int xSz, .int xPl, .int xBe, .int xRt, .int w_19, .int xRd, .int xLk]))]) hP hD [0] [1, 2] hCc rfl (by decide) (by decide) hk1 hFc hP1 hD1
    clear hz1
    generalize H1 = H at hP hS ⊢
    obtain rfl : 0 = r_16 := hr9.symm
    obtain ⟨hP9, hD9⟩ := va_pd (ws' := [((ax 13), .inr (2, [.ref (ax 11), .ref (ax 14), .int xSz, .int xPl, .int xBe, .int xRt, .int w_19, .int xRd, .int xLk])), ((ax 11), .inr (5, [.ref (ax 12), .int xTz])), ((ax 12), .inl (cA 0, 200, .inl gB))]) hP hD [2, 0, 1] (by decide) rfl
    subst hQe
    have hans : (0 : Int32).toInt = 0 := (by decide)
    have hpost : (0 ≤ xPl.toInt ∧ xPl.toInt ≤ 200) ∧ (0 ≤ xBe.toInt ∧ xBe.toInt ≤ 200) ∧ (xPl.toInt ≤ xBe.toInt ∧ xBe.toInt ≤ xTz.toInt ∧ (0 ≤ (0 : Int32).toInt ∧ (0 : Int32).toInt ≤ 1)) ∧ (tokOK gB xPl xBe xTz) ∧ (tkR (tpe gB xTz) xTz.toInt (scs i) xPl.toInt xBe.toInt (¬ (0 : Int32).toInt = 0) xPl.toInt xBe.toInt w_19.toInt) ∧ ((¬ (0 : Int32).toInt = 0 → w_19.toInt = xRf.toInt) ∧ ((0 : Int32).toInt = 0 → 0 ≤ w_19.toInt)) := ⟨i_xPl, i_xBe, by omega, htk, ⟨fun h => by exfalso; omega, fun _ => ⟨(fun h => absurd (tw_5.mpr h) (fun q => q dc_6)), by omega⟩⟩, by omega⟩
    exact W.zret (v := 0) hx hb hr (by decide) (fun t ht hW => ⟨⟨0, (xPl, xBe, w_19), rfl, hpost, by rw [ht]; exact hP9, hD9⟩, hS.F ht⟩) hS.2.2 dX2_take_12

set_option maxHeartbeats 8000000 in
set_option maxRecDepth 100000 in
theorem k_X2_takeNumber (l : Launch) (dC : Nat → ClassId) (dI : Nat → Nat → Nat) (cA : Nat → ClassId) (sz : Nat) (ax : Nat → Nat) (xSz : Int32) (xPl : Int32) (xBe : Int32) (xRt : Int32) (xRf : Int32) (xRd : Int32) (xLk : Int32) (xTz : Int32) (gB : Nat → Int32) (mx : Int32) (i_xSz : 0 ≤ xSz.toInt ∧ xSz.toInt ≤ 200) (i_xPl : 0 ≤ xPl.toInt ∧ xPl.toInt ≤ 200) (i_xBe : 0 ≤ xBe.toInt ∧ xBe.toInt ≤ 200) (i_xRt : 0 ≤ xRt.toInt ∧ xRt.toInt ≤ 20) (i_xTz : 0 ≤ xTz.toInt ∧ xTz.toInt ≤ 200) (i_gB : inB 0 255 200 gB) (hbe : xPl.toInt ≤ xBe.toInt ∧ xBe.toInt ≤ xTz.toInt) (htk : tokOK gB xPl xBe xTz) (hmx : (-1) ≤ mx.toInt ∧ mx.toInt ≤ 1000000) : Met l yX2_takeNumber wsX2_takeNumber ({ frames := 2, cells := 0, slots := 0, locals := 45 }) (va_Pc [.ref (ax 13), .int mx] (fun U => U.heap.size = sz ∧ va_P (dC, dI) vwCl [((ax 13), .inr (2, [.ref (ax 11), .ref (ax 14), .int xSz, .int xPl, .int xBe, .int xRt, .int xRf, .int xRd, .int xLk])), ((ax 11), .inr (5, [.ref (ax 12), .int xTz])), ((ax 12), .inl (cA 0, 200, .inl gB))] U.heap ∧ va_K (dC, dI) vwCl (tyL cA) U ∧ va_D (fun _ => True) [((ax 13), .inr (2, [.ref (ax 11), .ref (ax 14), .int xSz, .int xPl, .int xBe, .int xRt, .int xRf, .int xRd, .int xLk])), ((ax 11), .inr (5, [.ref (ax 12), .int xTz])), ((ax 12), .inl (cA 0, 200, .inl gB))] ∧ nw_ok U)) (va_Qi (fun (r : Int32) (u : Int32 × Int32 × Int32) => (0 ≤ u.1.toInt ∧ u.1.toInt ≤ 200) ∧ (0 ≤ u.2.1.toInt ∧ u.2.1.toInt ≤ 200) ∧ (u.1.toInt ≤ u.2.1.toInt ∧ u.2.1.toInt ≤ xTz.toInt ∧ (r.toInt = (-1) ∨ (0 ≤ r.toInt ∧ r.toInt ≤ mx.toInt))) ∧ (tokOK gB u.1 u.2.1 xTz) ∧ (nmR (tpe gB xTz) xTz.toInt mx.toInt xPl.toInt xBe.toInt (¬ r.toInt = (-1)) r.toInt u.1.toInt u.2.1.toInt u.2.2.toInt) ∧ ((¬ r.toInt = (-1) → u.2.2.toInt = xRf.toInt) ∧ (r.toInt = (-1) → 0 ≤ u.2.2.toInt))) (fun (u : Int32 × Int32 × Int32) (t : State) => va_P (dC, dI) vwCl [((ax 13), .inr (2, [.ref (ax 11), .ref (ax 14), .int xSz, .int u.1, .int u.2.1, .int xRt, .int u.2.2, .int xRd, .int xLk])), ((ax 11), .inr (5, [.ref (ax 12), .int xTz])), ((ax 12), .inl (cA 0, 200, .inl gB))] t.heap ∧ va_D (va_A [((ax 13), .inr (2, [.ref (ax 11), .ref (ax 14), .int xSz, .int xPl, .int xBe, .int xRt, .int xRf, .int xRd, .int xLk])), ((ax 11), .inr (5, [.ref (ax 12), .int xTz])), ((ax 12), .inl (cA 0, 200, .inl gB))] sz) [((ax 13), .inr (2, [.ref (ax 11), .ref (ax 14), .int xSz, .int u.1, .int u.2.1, .int xRt, .int u.2.2, .int xRd, .int xLk])), ((ax 11), .inr (5, [.ref (ax 12), .int xTz])), ((ax 12), .inl (cA 0, 200, .inl gB))]) (va_A [((ax 13), .inr (2, [.ref (ax 11), .ref (ax 14), .int xSz, .int xPl, .int xBe, .int xRt, .int xRf, .int xRd, .int xLk])), ((ax 11), .inr (5, [.ref (ax 12), .int xTz])), ((ax 12), .inl (cA 0, 200, .inl gB))] sz)) 0 0 (va_A [((ax 13), .inr (2, [.ref (ax 11), .ref (ax 14), .int xSz, .int xPl, .int xBe, .int xRt, .int xRf, .int xRd, .int xLk])), ((ax 11), .inr (5, [.ref (ax 12), .int xTz])), ((ax 12), .inl (cA 0, 200, .inl gB))] sz) := by
  refine Met.ofW (cc := cX2_takeNumber) (maxL := 4) (ret := (some .int)) (by decide) rfl ?_
  intro p e s m args below meth c s₁ B hml hv
  obtain ⟨rfl, hsz, hP, hK, hD0, hN⟩ := hv
  have hx := B.exec
  have hb := B.bytes
  have hr := B.returns
  have hts := atoms_spec (ws := wsX2_takeNumber) B.pre
  have hown : s.vm.findClass RX2 = some m.cls := findClass_of_methodNamed B.named
  have hlocks := B.notSynchronized
  subst hsz
  have hD := hD0.self (sz := s.heap.size)
  generalize hAe : va_A [((ax 13), .inr (2, [.ref (ax 11), .ref (ax 14), .int xSz, .int xPl, .int xBe, .int xRt, .int xRf, .int xRd, .int xLk])), ((ax 11), .inr (5, [.ref (ax 12), .int xTz])), ((ax 12), .inl (cA 0, 200, .inl gB))] s.heap.size = A at hD ⊢
  have hA : ∀ q : Nat, s.heap.size ≤ q → A q := fun q h => by rw [← hAe]; exact Or.inr h
  have hS : va_S A s.heap s.heap [] := va_S.rf
  have hIX2 : ∀ w ∈ u_ws RX2 TX2 9, w ∈ wsX2_takeNumber := by decide +kernel
  have hIX5 : ∀ w ∈ u_ws RX5 TX5 2, w ∈ wsX2_takeNumber := by decide +kernel
  have hl := lv_entry ([.ref (ax 13), .int mx]) (n := 4) (Nat.le_of_ble_eq_true rfl)
  rw [lg_entry_eq]
  generalize (lg_sl ([.ref (ax 13), .int mx]) ++ List.replicate (4 - (lg_sl ([.ref (ax 13), .int mx])).length) Slot.unset).toArray = ls at hl ⊢
  have hl : lv_has ls 4 [(0, .ref (ax 13)), (1, .int mx)] := hl
  generalize hQe : MQ below _ _ _ _ _ _ = QQ
  refine lv_aload_n hx hb dX2_takeNumber_0 rfl (lv_at hl 0 rfl) ?_
  refine lv_aload_n hx hb dX2_takeNumber_1 rfl (lv_at hl 0 rfl) ?_
  refine va_get (D := (dC, dI)) (ci := 2) (v := .int xPl) (C := RX2) (T := TX2) (N := 9) hx hb hts hIX2 hown hK hP 0 rfl rfl 3 (by decide) (hts (.fieldLink RX2 48 "TraitHouse$Reader" "place" "I") (by decide +kernel)) (fun _ h9 => h9) rfl dX2_takeNumber_2 ?_
  obtain ⟨hPc, hDc, hFc, hCc⟩ := va_pre (ws' := [((ax 13), .inr (2, [.ref (ax 11), .ref (ax 14), .int xSz, .int xPl, .int xBe, .int xRt, .int xRf, .int xRd, .int xLk])), ((ax 11), .inr (5, [.ref (ax 12), .int xTz])), ((ax 12), .inl (cA 0, 200, .inl gB))]) hP hD hS hA [0, 1, 2] (by decide) rfl
  refine va_calli (va_runV (As := [.int xPl]) (rest := []) ⟨hx, hb, hml, hown, hts⟩ (k_X2_isDigitAt l dC dI cA s.heap.size ax xSz xPl xBe xRt xRf xRd xLk xTz gB xPl i_xSz i_xPl i_xBe i_xRt i_xTz i_gB i_xPl) (cwV 1 hts gX2_takeNumber_X2_isDigitAt rfl rfl rfl (by decide +kernel) ⟨Nat.le_of_ble_eq_true rfl, Nat.le_of_ble_eq_true rfl⟩) ⟨fun a U g mk q => by obtain ⟨q0, q1, qP, qK, qD, qN⟩ := q; exact ⟨q0, q1, qP, va_K.moved (u := U) (U := U.calling g mk a) (Vm.Alike.refl U.vm) qK, qD, qN.same rfl⟩, va_recv hK hPc (ci := 2) (q0 := 0) rfl rfl, fun U hU hW => ⟨rfl, by rw [hU], by rw [hU]; exact hPc, va_K.moved hW.alike hK, hDc.weaken (fun _ _ _ _ => trivial), hN.warm hW⟩⟩ rfl rfl hl.1 rfl (lv_room (Nat.le_of_ble_eq_true rfl)) dX2_takeNumber_5 ⟨Nat.le_of_ble_eq_true rfl, Nat.le_of_ble_eq_true rfl⟩) hS (fun q _ h => hFc q h) hFc (fun r_1 u_2 t H1 locs ht hvm hw_3 hB hz1 hk1 hS => ?_)
  try dsimp only at hw_3 hB
  obtain ⟨po_4, tp_5⟩ := hw_3
  obtain ⟨hP1, hD1⟩ := hB
  rw [ht] at hP1
  obtain ⟨hP, hD⟩ := va_join (wr := []) (w1 := [((ax 13), .inr (2, [.ref (ax 11), .ref (ax 14), .int xSz, .int xPl, .int xBe, .int xRt, .int xRf, .int xRd, .int xLk])), ((ax 11), .inr (5, [.ref (ax 12), .int xTz])), ((ax 12), .inl (cA 0, 200, .inl gB))]) hP hD [0, 1, 2] [] hCc rfl (by decide) (by decide) hk1 hFc hP1 hD1
  clear hz1
  generalize H1 = H at hP hS ⊢
  refine lv_if_eq (tgt := 15) hx hb dX2_takeNumber_8 (by decide) (fun c_6 => ?_) (fun c_6 => ?_)
  · have dc_6 : r_1.toInt = 0 := jI_eq c_6 rfl (by decide)
    refine lv_ldc hx hb hown (hts (.constant RX2 134 (1000001)) (by decide +kernel)) dX2_takeNumber_15 ?_
    refine lv_istore_n (lv' := [(2, .int 1000001), (0, .ref (ax 13)), (1, .int mx)]) hx hb dX2_takeNumber_17 rfl hl (by decide) rfl (fun ls hl => ?_)
    refine lv_aload_n hx hb dX2_takeNumber_18 rfl (lv_at hl 1 rfl) ?_
    refine va_get (D := (dC, dI)) (ci := 2) (v := .int xPl) (C := RX2) (T := TX2) (N := 9) hx hb hts hIX2 hown hK hP 0 rfl rfl 3 (by decide) (hts (.fieldLink RX2 48 "TraitHouse$Reader" "place" "I") (by decide +kernel)) (fun _ h9 => h9) rfl dX2_takeNumber_19 ?_
    refine lv_istore_n (lv' := [(3, .int xPl), (2, .int 1000001), (0, .ref (ax 13)), (1, .int mx)]) hx hb dX2_takeNumber_22 rfl hl (by decide) rfl (fun ls hl => ?_)
    have loop23_7 : ∀ (n : Nat) (i3 : Int32) (n2 : Int32) (H : Heap) (locs : List Loc) (ls : Array Slot), 200 - i3.toInt < (n : Int) → (0 ≤ i3.toInt ∧ i3.toInt ≤ 200) → (0 ≤ n2.toInt ∧ n2.toInt ≤ 10000009) → (xPl.toInt ≤ i3.toInt) → (n2.toInt < 1000001 → ¬ r_1.toInt = 0) → (i3.toInt ≤ xBe.toInt) → ((48 ≤ tpe gB xTz xPl.toInt ∧ tpe gB xTz xPl.toInt ≤ 57) → tnI (tpe gB xTz) xPl i3 n2) → va_P (dC, dI) vwCl [((ax 13), .inr (2, [.ref (ax 11), .ref (ax 14), .int xSz, .int xPl, .int xBe, .int xRt, .int xRf, .int xRd, .int xLk])), ((ax 11), .inr (5, [.ref (ax 12), .int xTz])), ((ax 12), .inl (cA 0, 200, .inl gB))] H → va_D A [((ax 13), .inr (2, [.ref (ax 11), .ref (ax 14), .int xSz, .int xPl, .int xBe, .int xRt, .int xRf, .int xRd, .int xLk])), ((ax 11), .inr (5, [.ref (ax 12), .int xTz])), ((ax 12), .inl (cA 0, 200, .inl gB))] → va_S A s.heap H locs → lv_has ls 4 [(3, .int i3), (2, .int n2), (0, .ref (ax 13)), (1, .int mx)] → W p l e ({ frames := 2, cells := 0, slots := 0, locals := 45 }) s m ([.ref (ax 13), .int mx] : List Value).toArray below meth c H locs 0 0 QQ (F0 m 23 ls []) := by
      intro n
      induction n with
      | zero => intro i3 n2 H locs ls hme hv0_23 hv1_23 hv2_23 hv3_23 hv4_23 hv5_23; exfalso; omega
      | succ n ih_23 =>
        intro i3 n2 H locs ls hme_23 hv0_23 hv1_23 hv2_23 hv3_23 hv4_23 hv5_23 hP hD hS hl
        refine lv_iload_n hx hb dX2_takeNumber_23 rfl (lv_at hl 0 rfl) ?_
        refine lv_aload_n hx hb dX2_takeNumber_24 rfl (lv_at hl 2 rfl) ?_
        refine va_get (D := (dC, dI)) (ci := 2) (v := .int xBe) (C := RX2) (T := TX2) (N := 9) hx hb hts hIX2 hown hK hP 0 rfl rfl 4 (by decide) (hts (.fieldLink RX2 25 "TraitHouse$Reader" "behind" "I") (by decide +kernel)) (fun _ h9 => h9) rfl dX2_takeNumber_25 ?_
        refine lv_icmp_ge (tgt := 61) hx hb dX2_takeNumber_28 (by decide) (fun c_8 => ?_) (fun c_8 => ?_)
        · have dc_8 : xBe.toInt ≤ i3.toInt := jI_le c_8 rfl rfl
          refine lv_iload_n hx hb dX2_takeNumber_61 rfl (lv_at hl 1 rfl) ?_
          refine lv_iload_n hx hb dX2_takeNumber_62 rfl (lv_at hl 3 rfl) ?_
          refine lv_icmp_le (tgt := 73) hx hb dX2_takeNumber_63 (by decide) (fun c_9 => ?_) (fun c_9 => ?_)
          · have dc_9 : n2.toInt ≤ mx.toInt := jI_le c_9 rfl rfl
            refine lv_aload_n hx hb dX2_takeNumber_73 rfl (lv_at hl 2 rfl) ?_
            obtain ⟨hPc, hDc, hFc, hCc⟩ := va_pre (ws' := [((ax 13), .inr (2, [.ref (ax 11), .ref (ax 14), .int xSz, .int xPl, .int xBe, .int xRt, .int xRf, .int xRd, .int xLk])), ((ax 11), .inr (5, [.ref (ax 12), .int xTz])), ((ax 12), .inl (cA 0, 200, .inl gB))]) hP hD hS hA [0, 1, 2] (by decide) rfl
            refine va_callv (va_runV (As := []) (rest := []) ⟨hx, hb, hml, hown, hts⟩ (k_X2_advance l dC dI cA H.size ax xSz xPl xBe xRt xRf xRd xLk xTz gB i_xSz i_xPl i_xBe i_xRt i_xTz i_gB (by omega)) (cwV 0 hts gX2_takeNumber_X2_advance rfl rfl rfl (by decide +kernel) ⟨Nat.le_of_ble_eq_true rfl, Nat.le_of_ble_eq_true rfl⟩) ⟨fun a U g mk q => by obtain ⟨q0, q1, qP, qK, qD, qN⟩ := q; exact ⟨q0, q1, qP, va_K.moved (u := U) (U := U.calling g mk a) (Vm.Alike.refl U.vm) qK, qD, qN.same rfl⟩, va_recv hK hPc (ci := 2) (q0 := 0) rfl rfl, fun U hU hW => ⟨rfl, by rw [hU], by rw [hU]; exact hPc, va_K.moved hW.alike hK, hDc.weaken (fun _ _ _ _ => trivial), hN.warm hW⟩⟩ rfl rfl hl.1 rfl (lv_room (Nat.le_of_ble_eq_true rfl)) dX2_takeNumber_74 ⟨Nat.le_of_ble_eq_true rfl, Nat.le_of_ble_eq_true rfl⟩) hS (fun q _ h => hFc q h) hFc (fun u_10 t H1 locs ht hvm hw_11 hB hz1 hk1 hS => ?_)
            obtain ⟨w_12, w_13⟩ := u_10
            try dsimp only at hw_11 hB
            obtain ⟨iv_14, iv_15, po_16, tk_17, ad_18⟩ := hw_11
            obtain ⟨hP1, hD1⟩ := hB
            rw [ht] at hP1
            obtain ⟨hP, hD⟩ := va_join (wr := []) (w1 := [((ax 13), .inr (2, [.ref (ax 11), .ref (ax 14), .int xSz, .int w_12, .int w_13, .int xRt, .int xRf, .int xRd, .int xLk])), ((ax 11), .inr (5, [.ref (ax 12), .int xTz])), ((ax 12), .inl (cA 0, 200, .inl gB))]) hP hD [0, 1, 2] [] hCc rfl (by decide) (by decide) hk1 hFc hP1 hD1
            clear hz1
            generalize H1 = H at hP hS ⊢
            refine lv_iload_n hx hb dX2_takeNumber_77 rfl (lv_at hl 1 rfl) ?_
            obtain ⟨hP9, hD9⟩ := va_pd (ws' := [((ax 13), .inr (2, [.ref (ax 11), .ref (ax 14), .int xSz, .int w_12, .int w_13, .int xRt, .int xRf, .int xRd, .int xLk])), ((ax 11), .inr (5, [.ref (ax 12), .int xTz])), ((ax 12), .inl (cA 0, 200, .inl gB))]) hP hD [0, 1, 2] (by decide) rfl
            subst hQe
            have hans : (n2 : Int32).toInt = n2.toInt := rfl
            have hpost : (0 ≤ w_12.toInt ∧ w_12.toInt ≤ 200) ∧ (0 ≤ w_13.toInt ∧ w_13.toInt ≤ 200) ∧ (w_12.toInt ≤ w_13.toInt ∧ w_13.toInt ≤ xTz.toInt ∧ ((n2 : Int32).toInt = (-1) ∨ (0 ≤ (n2 : Int32).toInt ∧ (n2 : Int32).toInt ≤ mx.toInt))) ∧ (tokOK gB w_12 w_13 xTz) ∧ (nmR (tpe gB xTz) xTz.toInt mx.toInt xPl.toInt xBe.toInt (¬ (n2 : Int32).toInt = (-1)) (n2 : Int32).toInt w_12.toInt w_13.toInt xRf.toInt) ∧ ((¬ (n2 : Int32).toInt = (-1) → xRf.toInt = xRf.toInt) ∧ ((n2 : Int32).toInt = (-1) → 0 ≤ xRf.toInt)) := ⟨iv_14, iv_15, by omega, tk_17, ⟨fun _ => ⟨(tn_ok (hv5_23 (tp_5.mp (by omega))) (tp_5.mp (by omega)) (by omega) (by omega) (by omega) (by omega)).1, (tn_ok (e := xBe) (mx := mx.toInt) (hv5_23 (tp_5.mp (by omega))) (tp_5.mp (by omega)) (by omega) (by omega) (by omega) (by omega)).2, ad_18.1, ad_18.2⟩, fun h => by exfalso; omega⟩, by omega⟩
            exact W.iret (v := n2) hx hb hr (fun t ht hW => ⟨⟨n2, (w_12, w_13, xRf), rfl, hpost, by rw [ht]; exact hP9, hD9⟩, hS.F ht⟩) hS.2.2 dX2_takeNumber_78
          · have dc_9 : mx.toInt < n2.toInt := jI_nle c_9 rfl rfl
            refine lv_aload_n hx hb dX2_takeNumber_66 rfl (lv_at hl 2 rfl) ?_
            obtain ⟨hPc, hDc, hFc, hCc⟩ := va_pre (ws' := [((ax 13), .inr (2, [.ref (ax 11), .ref (ax 14), .int xSz, .int xPl, .int xBe, .int xRt, .int xRf, .int xRd, .int xLk]))]) hP hD hS hA [0] (by decide) rfl
            refine va_calli (va_runV (As := []) (rest := []) ⟨hx, hb, hml, hown, hts⟩ (k_X2_stop l dC dI cA H.size ax xSz xPl xBe xRt xRf xRd xLk i_xSz i_xPl i_xBe i_xRt) (cwV 0 hts gX2_takeNumber_X2_stop rfl rfl rfl (by decide +kernel) ⟨Nat.le_of_ble_eq_true rfl, Nat.le_of_ble_eq_true rfl⟩) ⟨fun a U g mk q => by obtain ⟨q0, q1, qP, qK, qD, qN⟩ := q; exact ⟨q0, q1, qP, va_K.moved (u := U) (U := U.calling g mk a) (Vm.Alike.refl U.vm) qK, qD, qN.same rfl⟩, va_recv hK hPc (ci := 2) (q0 := 0) rfl rfl, fun U hU hW => ⟨rfl, by rw [hU], by rw [hU]; exact hPc, va_K.moved hW.alike hK, hDc.weaken (fun _ _ _ _ => trivial), hN.warm hW⟩⟩ rfl rfl hl.1 rfl (lv_room (Nat.le_of_ble_eq_true rfl)) dX2_takeNumber_67 ⟨Nat.le_of_ble_eq_true rfl, Nat.le_of_ble_eq_true rfl⟩) hS (fun q _ h => hFc q h) hFc (fun r_19 u_20 t H1 locs ht hvm hw_21 hB hz1 hk1 hS => ?_)
            obtain ⟨w_22, rfl⟩ : ∃ z, z = u_20 := ⟨_, rfl⟩
            try dsimp only at hw_21 hB
            obtain ⟨hr9, sf_23⟩ := hw_21
            obtain ⟨hP1, hD1⟩ := hB
            rw [ht] at hP1
            obtain ⟨hP, hD⟩ := va_join (wr := [((ax 11), .inr (5, [.ref (ax 12), .int xTz])), ((ax 12), .inl (cA 0, 200, .inl gB))]) (w1 := [((ax 13), .inr (2, [.ref (ax 11), .ref (ax 14), .int xSz, .int xPl, .int xBe, .int xRt, .int w_22, .int xRd, .int xLk]))]) hP hD [0] [1, 2] hCc rfl (by decide) (by decide) hk1 hFc hP1 hD1
            clear hz1
            generalize H1 = H at hP hS ⊢
            obtain rfl : 0 = r_19 := hr9.symm
            refine lv_pop hx hb dX2_takeNumber_70 rfl ?_
            refine lv_iconst (v := (-1)) hx hb dX2_takeNumber_71 (by decide) ?_
            obtain ⟨hP9, hD9⟩ := va_pd (ws' := [((ax 13), .inr (2, [.ref (ax 11), .ref (ax 14), .int xSz, .int xPl, .int xBe, .int xRt, .int w_22, .int xRd, .int xLk])), ((ax 11), .inr (5, [.ref (ax 12), .int xTz])), ((ax 12), .inl (cA 0, 200, .inl gB))]) hP hD [2, 0, 1] (by decide) rfl
            subst hQe
            have hans : ((-1) : Int32).toInt = (-1) := (by decide)
            have hpost : (0 ≤ xPl.toInt ∧ xPl.toInt ≤ 200) ∧ (0 ≤ xBe.toInt ∧ xBe.toInt ≤ 200) ∧ (xPl.toInt ≤ xBe.toInt ∧ xBe.toInt ≤ xTz.toInt ∧ (((-1) : Int32).toInt = (-1) ∨ (0 ≤ ((-1) : Int32).toInt ∧ ((-1) : Int32).toInt ≤ mx.toInt))) ∧ (tokOK gB xPl xBe xTz) ∧ (nmR (tpe gB xTz) xTz.toInt mx.toInt xPl.toInt xBe.toInt (¬ ((-1) : Int32).toInt = (-1)) ((-1) : Int32).toInt xPl.toInt xBe.toInt w_22.toInt) ∧ ((¬ ((-1) : Int32).toInt = (-1) → w_22.toInt = xRf.toInt) ∧ (((-1) : Int32).toInt = (-1) → 0 ≤ w_22.toInt)) := ⟨i_xPl, i_xBe, by omega, htk, ⟨fun h => by exfalso; omega, fun _ => ⟨tn_bad htk (by omega) (by omega) hv5_23 (by omega) (by omega) (by omega) (by omega) (by omega), by omega⟩⟩, by omega⟩
            exact W.iret (v := (-1)) hx hb hr (fun t ht hW => ⟨⟨(-1), (xPl, xBe, w_22), rfl, hpost, by rw [ht]; exact hP9, hD9⟩, hS.F ht⟩) hS.2.2 dX2_takeNumber_72
        · have dc_8 : i3.toInt < xBe.toInt := jI_nle c_8 rfl rfl
          refine lv_iload_n hx hb dX2_takeNumber_31 rfl (lv_at hl 1 rfl) ?_
          refine lv_ldc hx hb hown (hts (.constant RX2 134 (1000001)) (by decide +kernel)) dX2_takeNumber_32 ?_
          refine lv_icmp_ge (tgt := 61) hx hb dX2_takeNumber_34 (by decide) (fun c_24 => ?_) (fun c_24 => ?_)
          · have dc_24 : 1000001 ≤ n2.toInt := jI_le c_24 (by decide) rfl
            refine lv_iload_n hx hb dX2_takeNumber_61 rfl (lv_at hl 1 rfl) ?_
            refine lv_iload_n hx hb dX2_takeNumber_62 rfl (lv_at hl 3 rfl) ?_
            refine lv_icmp_le (tgt := 73) hx hb dX2_takeNumber_63 (by decide) (fun c_25 => ?_) (fun c_25 => ?_)
            · have dc_25 : n2.toInt ≤ mx.toInt := jI_le c_25 rfl rfl
              exfalso; omega
            · have dc_25 : mx.toInt < n2.toInt := jI_nle c_25 rfl rfl
              refine lv_aload_n hx hb dX2_takeNumber_66 rfl (lv_at hl 2 rfl) ?_
              obtain ⟨hPc, hDc, hFc, hCc⟩ := va_pre (ws' := [((ax 13), .inr (2, [.ref (ax 11), .ref (ax 14), .int xSz, .int xPl, .int xBe, .int xRt, .int xRf, .int xRd, .int xLk]))]) hP hD hS hA [0] (by decide) rfl
              refine va_calli (va_runV (As := []) (rest := []) ⟨hx, hb, hml, hown, hts⟩ (k_X2_stop l dC dI cA H.size ax xSz xPl xBe xRt xRf xRd xLk i_xSz i_xPl i_xBe i_xRt) (cwV 0 hts gX2_takeNumber_X2_stop rfl rfl rfl (by decide +kernel) ⟨Nat.le_of_ble_eq_true rfl, Nat.le_of_ble_eq_true rfl⟩) ⟨fun a U g mk q => by obtain ⟨q0, q1, qP, qK, qD, qN⟩ := q; exact ⟨q0, q1, qP, va_K.moved (u := U) (U := U.calling g mk a) (Vm.Alike.refl U.vm) qK, qD, qN.same rfl⟩, va_recv hK hPc (ci := 2) (q0 := 0) rfl rfl, fun U hU hW => ⟨rfl, by rw [hU], by rw [hU]; exact hPc, va_K.moved hW.alike hK, hDc.weaken (fun _ _ _ _ => trivial), hN.warm hW⟩⟩ rfl rfl hl.1 rfl (lv_room (Nat.le_of_ble_eq_true rfl)) dX2_takeNumber_67 ⟨Nat.le_of_ble_eq_true rfl, Nat.le_of_ble_eq_true rfl⟩) hS (fun q _ h => hFc q h) hFc (fun r_26 u_27 t H1 locs ht hvm hw_28 hB hz1 hk1 hS => ?_)
              obtain ⟨w_29, rfl⟩ : ∃ z, z = u_27 := ⟨_, rfl⟩
              try dsimp only at hw_28 hB
              obtain ⟨hr9, sf_30⟩ := hw_28
              obtain ⟨hP1, hD1⟩ := hB
              rw [ht] at hP1
              obtain ⟨hP, hD⟩ := va_join (wr := [((ax 11), .inr (5, [.ref (ax 12), .int xTz])), ((ax 12), .inl (cA 0, 200, .inl gB))]) (w1 := [((ax 13), .inr (2, [.ref (ax 11), .ref (ax 14), .int xSz, .int xPl, .int xBe, .int xRt, .int w_29, .int xRd, .int xLk]))]) hP hD [0] [1, 2] hCc rfl (by decide) (by decide) hk1 hFc hP1 hD1
              clear hz1
              generalize H1 = H at hP hS ⊢
              obtain rfl : 0 = r_26 := hr9.symm
              refine lv_pop hx hb dX2_takeNumber_70 rfl ?_
              refine lv_iconst (v := (-1)) hx hb dX2_takeNumber_71 (by decide) ?_
              obtain ⟨hP9, hD9⟩ := va_pd (ws' := [((ax 13), .inr (2, [.ref (ax 11), .ref (ax 14), .int xSz, .int xPl, .int xBe, .int xRt, .int w_29, .int xRd, .int xLk])), ((ax 11), .inr (5, [.ref (ax 12), .int xTz])), ((ax 12), .inl (cA 0, 200, .inl gB))]) hP hD [2, 0, 1] (by decide) rfl
              subst hQe
              have hans : ((-1) : Int32).toInt = (-1) := (by decide)
              have hpost : (0 ≤ xPl.toInt ∧ xPl.toInt ≤ 200) ∧ (0 ≤ xBe.toInt ∧ xBe.toInt ≤ 200) ∧ (xPl.toInt ≤ xBe.toInt ∧ xBe.toInt ≤ xTz.toInt ∧ (((-1) : Int32).toInt = (-1) ∨ (0 ≤ ((-1) : Int32).toInt ∧ ((-1) : Int32).toInt ≤ mx.toInt))) ∧ (tokOK gB xPl xBe xTz) ∧ (nmR (tpe gB xTz) xTz.toInt mx.toInt xPl.toInt xBe.toInt (¬ ((-1) : Int32).toInt = (-1)) ((-1) : Int32).toInt xPl.toInt xBe.toInt w_29.toInt) ∧ ((¬ ((-1) : Int32).toInt = (-1) → w_29.toInt = xRf.toInt) ∧ (((-1) : Int32).toInt = (-1) → 0 ≤ w_29.toInt)) := ⟨i_xPl, i_xBe, by omega, htk, ⟨fun h => by exfalso; omega, fun _ => ⟨tn_bad htk (by omega) (by omega) hv5_23 (by omega) (by omega) (by omega) (by omega) (by omega), by omega⟩⟩, by omega⟩
              exact W.iret (v := (-1)) hx hb hr (fun t ht hW => ⟨⟨(-1), (xPl, xBe, w_29), rfl, hpost, by rw [ht]; exact hP9, hD9⟩, hS.F ht⟩) hS.2.2 dX2_takeNumber_72
          · have dc_24 : n2.toInt < 1000001 := jI_nle c_24 (by decide) rfl
            refine lv_iload_n hx hb dX2_takeNumber_37 rfl (lv_at hl 1 rfl) ?_
            refine lv_bipush (v := 10) hx hb dX2_takeNumber_38 (by decide) ?_
            refine lv_imul hx hb dX2_takeNumber_40 ?_
            refine lv_topi (fun x_31 ex_31 => ?_)
            have dx_31 : x_31.toInt = n2.toInt * 10 := by rw [ex_31]; exact jI_mul rfl (by decide) (by omega) (by omega)
            refine lv_aload_n hx hb dX2_takeNumber_41 rfl (lv_at hl 2 rfl) ?_
            refine va_get (D := (dC, dI)) (ci := 2) (v := .ref (ax 11)) (C := RX2) (T := TX2) (N := 9) hx hb hts hIX2 hown hK hP 0 rfl rfl 0 (by decide) (hts (.fieldLink RX2 17 "TraitHouse$Reader" "tape" "LTraitHouse$Tape;") (by decide +kernel)) (fun _ h9 => h9) rfl dX2_takeNumber_42 ?_
            refine va_getN (D := (dC, dI)) (ci := 5) (v := .ref (ax 12)) (C := RX5) (T := TX5) (N := 2) hx hb hts hIX5 hown hK hP 1 rfl rfl 0 (by decide) (va_Nw.use rfl (nw_at hN 8 rfl)) (fun _ h9 => h9) rfl dX2_takeNumber_45 ?_
            refine lv_iload_n hx hb dX2_takeNumber_48 rfl (lv_at hl 0 rfl) ?_
            have hdg9 := htk (po_4.2.1 (by omega)).1 ⟨(po_4.2.1 (by omega)).2.1, (po_4.2.1 (by omega)).2.2⟩ i3.toNatClampNeg (by have : i3.toNatClampNeg = i3.toInt.toNat := rfl; omega) (by have : i3.toNatClampNeg = i3.toInt.toNat := rfl; omega)
            have h_32 : vp_in i3 200 := (vp_in_iff.mpr ⟨by omega, by omega⟩)
            refine va_iald hx hb hK hP 2 0 rfl rfl h_32 dX2_takeNumber_49 ?_
            refine lv_topi (fun x_33 ex_33 => ?_)
            have bx_33 := i_gB _ (jix h_32)
            rw [← ex_33] at bx_33
            rw [← ex_33] at hdg9
            have hdg8 := hdg9.1
            have hdg7 := hdg9.2
            refine lv_iadd hx hb dX2_takeNumber_50 ?_
            refine lv_topi (fun x_34 ex_34 => ?_)
            have dx_34 : x_34.toInt = x_31.toInt + x_33.toInt := by rw [ex_34]; exact jI_add rfl rfl (by omega) (by omega)
            refine lv_bipush (v := 48) hx hb dX2_takeNumber_51 (by decide) ?_
            refine lv_isub hx hb dX2_takeNumber_53 ?_
            refine lv_topi (fun x_35 ex_35 => ?_)
            have dx_35 : x_35.toInt = x_34.toInt - 48 := by rw [ex_35]; exact jI_sub rfl (by decide) (by omega) (by omega)
            refine lv_istore_n (lv' := [(2, .int x_35), (3, .int i3), (0, .ref (ax 13)), (1, .int mx)]) hx hb dX2_takeNumber_54 rfl hl (by decide) rfl (fun ls hl => ?_)
            obtain ⟨x_36, ex_36⟩ : ∃ y : Int32, y = i3 + 1 := ⟨_, rfl⟩
            have dx_36 : x_36.toInt = i3.toInt + 1 := by rw [ex_36]; exact jI_add rfl (by decide) (by omega) (by omega)
            refine lv_iinc (v := x_36) (lv' := [(3, .int x_36), (2, .int x_35), (0, .ref (ax 13)), (1, .int mx)]) hx hb dX2_takeNumber_55 hl (k := 1) rfl (by rw [ex_36]; rfl) (by decide) rfl (fun ls hl => ?_)
            refine lv_goto (tgt := 23) hx hb dX2_takeNumber_58 (by decide) ?_
            exact ih_23 x_36 x_35 _ _ ls (by omega) (by omega) (by omega) (by omega) (by omega) (by omega) (fun h => tn_s (hv5_23 h) (by omega) (by omega) (by omega) (by omega) (by omega) ex_33 hdg9 (by omega)) (hP.sub [0, 1, 2] rfl) (hD.sub [0, 1, 2] (by decide) rfl) hS (lv_sub hl [0, 1, 2, 3] rfl)
    have hk_37 : (1000001 : Int32).toInt = 1000001 := by decide
    exact loop23_7 (Int.toNat (200 - (xPl : Int32).toInt) + 1) xPl 1000001 _ _ ls (by omega) i_xPl (by omega) (by omega) (by omega) (by omega) (fun h => absurd (tp_5.mpr h) (fun q => q dc_6)) hP hD hS (lv_sub hl [0, 1, 2, 3] rfl)
  · have dc_6 : ¬ r_1.toInt = 0 := jI_ne c_6 rfl (by decide)
    refine lv_iconst (v := 0) hx hb dX2_takeNumber_11 (by decide) ?_
    refine lv_goto (tgt := 17) hx hb dX2_takeNumber_12 (by decide) ?_
    refine lv_istore_n (lv' := [(2, .int 0), (0, .ref (ax 13)), (1, .int mx)]) hx hb dX2_takeNumber_17 rfl hl (by decide) rfl (fun ls hl => ?_)
    refine lv_aload_n hx hb dX2_takeNumber_18 rfl (lv_at hl 1 rfl) ?_
    refine va_get (D := (dC, dI)) (ci := 2) (v := .int xPl) (C := RX2) (T := TX2) (N := 9) hx hb hts hIX2 hown hK hP 0 rfl rfl 3 (by decide) (hts (.fieldLink RX2 48 "TraitHouse$Reader" "place" "I") (by decide +kernel)) (fun _ h9 => h9) rfl dX2_takeNumber_19 ?_
    refine lv_istore_n (lv' := [(3, .int xPl), (2, .int 0), (0, .ref (ax 13)), (1, .int mx)]) hx hb dX2_takeNumber_22 rfl hl (by decide) rfl (fun ls hl => ?_)
    have loop23_38 : ∀ (n : Nat) (i3 : Int32) (n2 : Int32) (H : Heap) (locs : List Loc) (ls : Array Slot), 200 - i3.toInt < (n : Int) → (0 ≤ i3.toInt ∧ i3.toInt ≤ 200) → (0 ≤ n2.toInt ∧ n2.toInt ≤ 10000009) → (xPl.toInt ≤ i3.toInt) → (n2.toInt < 1000001 → ¬ r_1.toInt = 0) → (i3.toInt ≤ xBe.toInt) → ((48 ≤ tpe gB xTz xPl.toInt ∧ tpe gB xTz xPl.toInt ≤ 57) → tnI (tpe gB xTz) xPl i3 n2) → va_P (dC, dI) vwCl [((ax 13), .inr (2, [.ref (ax 11), .ref (ax 14), .int xSz, .int xPl, .int xBe, .int xRt, .int xRf, .int xRd, .int xLk])), ((ax 11), .inr (5, [.ref (ax 12), .int xTz])), ((ax 12), .inl (cA 0, 200, .inl gB))] H → va_D A [((ax 13), .inr (2, [.ref (ax 11), .ref (ax 14), .int xSz, .int xPl, .int xBe, .int xRt, .int xRf, .int xRd, .int xLk])), ((ax 11), .inr (5, [.ref (ax 12), .int xTz])), ((ax 12), .inl (cA 0, 200, .inl gB))] → va_S A s.heap H locs → lv_has ls 4 [(3, .int i3), (2, .int n2), (0, .ref (ax 13)), (1, .int mx)] → W p l e ({ frames := 2, cells := 0, slots := 0, locals := 45 }) s m ([.ref (ax 13), .int mx] : List Value).toArray below meth c H locs 0 0 QQ (F0 m 23 ls []) := by
      intro n
      induction n with
      | zero => intro i3 n2 H locs ls hme hv0_23 hv1_23 hv2_23 hv3_23 hv4_23 hv5_23; exfalso; omega
      | succ n ih_23 =>
        intro i3 n2 H locs ls hme_23 hv0_23 hv1_23 hv2_23 hv3_23 hv4_23 hv5_23 hP hD hS hl
        refine lv_iload_n hx hb dX2_takeNumber_23 rfl (lv_at hl 0 rfl) ?_
        refine lv_aload_n hx hb dX2_takeNumber_24 rfl (lv_at hl 2 rfl) ?_
        refine va_get (D := (dC, dI)) (ci := 2) (v := .int xBe) (C := RX2) (T := TX2) (N := 9) hx hb hts hIX2 hown hK hP 0 rfl rfl 4 (by decide) (hts (.fieldLink RX2 25 "TraitHouse$Reader" "behind" "I") (by decide +kernel)) (fun _ h9 => h9) rfl dX2_takeNumber_25 ?_
        refine lv_icmp_ge (tgt := 61) hx hb dX2_takeNumber_28 (by decide) (fun c_39 => ?_) (fun c_39 => ?_)
        · have dc_39 : xBe.toInt ≤ i3.toInt := jI_le c_39 rfl rfl
          refine lv_iload_n hx hb dX2_takeNumber_61 rfl (lv_at hl 1 rfl) ?_
          refine lv_iload_n hx hb dX2_takeNumber_62 rfl (lv_at hl 3 rfl) ?_
          refine lv_icmp_le (tgt := 73) hx hb dX2_takeNumber_63 (by decide) (fun c_40 => ?_) (fun c_40 => ?_)
          · have dc_40 : n2.toInt ≤ mx.toInt := jI_le c_40 rfl rfl
            refine lv_aload_n hx hb dX2_takeNumber_73 rfl (lv_at hl 2 rfl) ?_
            obtain ⟨hPc, hDc, hFc, hCc⟩ := va_pre (ws' := [((ax 13), .inr (2, [.ref (ax 11), .ref (ax 14), .int xSz, .int xPl, .int xBe, .int xRt, .int xRf, .int xRd, .int xLk])), ((ax 11), .inr (5, [.ref (ax 12), .int xTz])), ((ax 12), .inl (cA 0, 200, .inl gB))]) hP hD hS hA [0, 1, 2] (by decide) rfl
            refine va_callv (va_runV (As := []) (rest := []) ⟨hx, hb, hml, hown, hts⟩ (k_X2_advance l dC dI cA H.size ax xSz xPl xBe xRt xRf xRd xLk xTz gB i_xSz i_xPl i_xBe i_xRt i_xTz i_gB (by omega)) (cwV 0 hts gX2_takeNumber_X2_advance rfl rfl rfl (by decide +kernel) ⟨Nat.le_of_ble_eq_true rfl, Nat.le_of_ble_eq_true rfl⟩) ⟨fun a U g mk q => by obtain ⟨q0, q1, qP, qK, qD, qN⟩ := q; exact ⟨q0, q1, qP, va_K.moved (u := U) (U := U.calling g mk a) (Vm.Alike.refl U.vm) qK, qD, qN.same rfl⟩, va_recv hK hPc (ci := 2) (q0 := 0) rfl rfl, fun U hU hW => ⟨rfl, by rw [hU], by rw [hU]; exact hPc, va_K.moved hW.alike hK, hDc.weaken (fun _ _ _ _ => trivial), hN.warm hW⟩⟩ rfl rfl hl.1 rfl (lv_room (Nat.le_of_ble_eq_true rfl)) dX2_takeNumber_74 ⟨Nat.le_of_ble_eq_true rfl, Nat.le_of_ble_eq_true rfl⟩) hS (fun q _ h => hFc q h) hFc (fun u_41 t H1 locs ht hvm hw_42 hB hz1 hk1 hS => ?_)
            obtain ⟨w_43, w_44⟩ := u_41
            try dsimp only at hw_42 hB
            obtain ⟨iv_45, iv_46, po_47, tk_48, ad_49⟩ := hw_42
            obtain ⟨hP1, hD1⟩ := hB
            rw [ht] at hP1
            obtain ⟨hP, hD⟩ := va_join (wr := []) (w1 := [((ax 13), .inr (2, [.ref (ax 11), .ref (ax 14), .int xSz, .int w_43, .int w_44, .int xRt, .int xRf, .int xRd, .int xLk])), ((ax 11), .inr (5, [.ref (ax 12), .int xTz])), ((ax 12), .inl (cA 0, 200, .inl gB))]) hP hD [0, 1, 2] [] hCc rfl (by decide) (by decide) hk1 hFc hP1 hD1
            clear hz1
            generalize H1 = H at hP hS ⊢
            refine lv_iload_n hx hb dX2_takeNumber_77 rfl (lv_at hl 1 rfl) ?_
            obtain ⟨hP9, hD9⟩ := va_pd (ws' := [((ax 13), .inr (2, [.ref (ax 11), .ref (ax 14), .int xSz, .int w_43, .int w_44, .int xRt, .int xRf, .int xRd, .int xLk])), ((ax 11), .inr (5, [.ref (ax 12), .int xTz])), ((ax 12), .inl (cA 0, 200, .inl gB))]) hP hD [0, 1, 2] (by decide) rfl
            subst hQe
            have hans : (n2 : Int32).toInt = n2.toInt := rfl
            have hpost : (0 ≤ w_43.toInt ∧ w_43.toInt ≤ 200) ∧ (0 ≤ w_44.toInt ∧ w_44.toInt ≤ 200) ∧ (w_43.toInt ≤ w_44.toInt ∧ w_44.toInt ≤ xTz.toInt ∧ ((n2 : Int32).toInt = (-1) ∨ (0 ≤ (n2 : Int32).toInt ∧ (n2 : Int32).toInt ≤ mx.toInt))) ∧ (tokOK gB w_43 w_44 xTz) ∧ (nmR (tpe gB xTz) xTz.toInt mx.toInt xPl.toInt xBe.toInt (¬ (n2 : Int32).toInt = (-1)) (n2 : Int32).toInt w_43.toInt w_44.toInt xRf.toInt) ∧ ((¬ (n2 : Int32).toInt = (-1) → xRf.toInt = xRf.toInt) ∧ ((n2 : Int32).toInt = (-1) → 0 ≤ xRf.toInt)) := ⟨iv_45, iv_46, by omega, tk_48, ⟨fun _ => ⟨(tn_ok (hv5_23 (tp_5.mp dc_6)) (tp_5.mp dc_6) (by omega) (by omega) (by omega) (by omega)).1, (tn_ok (e := xBe) (mx := mx.toInt) (hv5_23 (tp_5.mp dc_6)) (tp_5.mp dc_6) (by omega) (by omega) (by omega) (by omega)).2, ad_49.1, ad_49.2⟩, fun h => by exfalso; omega⟩, by omega⟩
            exact W.iret (v := n2) hx hb hr (fun t ht hW => ⟨⟨n2, (w_43, w_44, xRf), rfl, hpost, by rw [ht]; exact hP9, hD9⟩, hS.F ht⟩) hS.2.2 dX2_takeNumber_78
          · have dc_40 : mx.toInt < n2.toInt := jI_nle c_40 rfl rfl
            refine lv_aload_n hx hb dX2_takeNumber_66 rfl (lv_at hl 2 rfl) ?_
            obtain ⟨hPc, hDc, hFc, hCc⟩ := va_pre (ws' := [((ax 13), .inr (2, [.ref (ax 11), .ref (ax 14), .int xSz, .int xPl, .int xBe, .int xRt, .int xRf, .int xRd, .int xLk]))]) hP hD hS hA [0] (by decide) rfl
            refine va_calli (va_runV (As := []) (rest := []) ⟨hx, hb, hml, hown, hts⟩ (k_X2_stop l dC dI cA H.size ax xSz xPl xBe xRt xRf xRd xLk i_xSz i_xPl i_xBe i_xRt) (cwV 0 hts gX2_takeNumber_X2_stop rfl rfl rfl (by decide +kernel) ⟨Nat.le_of_ble_eq_true rfl, Nat.le_of_ble_eq_true rfl⟩) ⟨fun a U g mk q => by obtain ⟨q0, q1, qP, qK, qD, qN⟩ := q; exact ⟨q0, q1, qP, va_K.moved (u := U) (U := U.calling g mk a) (Vm.Alike.refl U.vm) qK, qD, qN.same rfl⟩, va_recv hK hPc (ci := 2) (q0 := 0) rfl rfl, fun U hU hW => ⟨rfl, by rw [hU], by rw [hU]; exact hPc, va_K.moved hW.alike hK, hDc.weaken (fun _ _ _ _ => trivial), hN.warm hW⟩⟩ rfl rfl hl.1 rfl (lv_room (Nat.le_of_ble_eq_true rfl)) dX2_takeNumber_67 ⟨Nat.le_of_ble_eq_true rfl, Nat.le_of_ble_eq_true rfl⟩) hS (fun q _ h => hFc q h) hFc (fun r_50 u_51 t H1 locs ht hvm hw_52 hB hz1 hk1 hS => ?_)
            obtain ⟨w_53, rfl⟩ : ∃ z, z = u_51 := ⟨_, rfl⟩
            try dsimp only at hw_52 hB
            obtain ⟨hr9, sf_54⟩ := hw_52
            obtain ⟨hP1, hD1⟩ := hB
            rw [ht] at hP1
            obtain ⟨hP, hD⟩ := va_join (wr := [((ax 11), .inr (5, [.ref (ax 12), .int xTz])), ((ax 12), .inl (cA 0, 200, .inl gB))]) (w1 := [((ax 13), .inr (2, [.ref (ax 11), .ref (ax 14), .int xSz, .int xPl, .int xBe, .int xRt, .int w_53, .int xRd, .int xLk]))]) hP hD [0] [1, 2] hCc rfl (by decide) (by decide) hk1 hFc hP1 hD1
            clear hz1
            generalize H1 = H at hP hS ⊢
            obtain rfl : 0 = r_50 := hr9.symm
            refine lv_pop hx hb dX2_takeNumber_70 rfl ?_
            refine lv_iconst (v := (-1)) hx hb dX2_takeNumber_71 (by decide) ?_
            obtain ⟨hP9, hD9⟩ := va_pd (ws' := [((ax 13), .inr (2, [.ref (ax 11), .ref (ax 14), .int xSz, .int xPl, .int xBe, .int xRt, .int w_53, .int xRd, .int xLk])), ((ax 11), .inr (5, [.ref (ax 12), .int xTz])), ((ax 12), .inl (cA 0, 200, .inl gB))]) hP hD [2, 0, 1] (by decide) rfl
            subst hQe
            have hans : ((-1) : Int32).toInt = (-1) := (by decide)
            have hpost : (0 ≤ xPl.toInt ∧ xPl.toInt ≤ 200) ∧ (0 ≤ xBe.toInt ∧ xBe.toInt ≤ 200) ∧ (xPl.toInt ≤ xBe.toInt ∧ xBe.toInt ≤ xTz.toInt ∧ (((-1) : Int32).toInt = (-1) ∨ (0 ≤ ((-1) : Int32).toInt ∧ ((-1) : Int32).toInt ≤ mx.toInt))) ∧ (tokOK gB xPl xBe xTz) ∧ (nmR (tpe gB xTz) xTz.toInt mx.toInt xPl.toInt xBe.toInt (¬ ((-1) : Int32).toInt = (-1)) ((-1) : Int32).toInt xPl.toInt xBe.toInt w_53.toInt) ∧ ((¬ ((-1) : Int32).toInt = (-1) → w_53.toInt = xRf.toInt) ∧ (((-1) : Int32).toInt = (-1) → 0 ≤ w_53.toInt)) := ⟨i_xPl, i_xBe, by omega, htk, ⟨fun h => by exfalso; omega, fun _ => ⟨tn_bad htk (by omega) (by omega) hv5_23 (by omega) (by omega) (by omega) (by omega) (by omega), by omega⟩⟩, by omega⟩
            exact W.iret (v := (-1)) hx hb hr (fun t ht hW => ⟨⟨(-1), (xPl, xBe, w_53), rfl, hpost, by rw [ht]; exact hP9, hD9⟩, hS.F ht⟩) hS.2.2 dX2_takeNumber_72
        · have dc_39 : i3.toInt < xBe.toInt := jI_nle c_39 rfl rfl
          refine lv_iload_n hx hb dX2_takeNumber_31 rfl (lv_at hl 1 rfl) ?_
          refine lv_ldc hx hb hown (hts (.constant RX2 134 (1000001)) (by decide +kernel)) dX2_takeNumber_32 ?_
          refine lv_icmp_ge (tgt := 61) hx hb dX2_takeNumber_34 (by decide) (fun c_55 => ?_) (fun c_55 => ?_)
          · have dc_55 : 1000001 ≤ n2.toInt := jI_le c_55 (by decide) rfl
            refine lv_iload_n hx hb dX2_takeNumber_61 rfl (lv_at hl 1 rfl) ?_
            refine lv_iload_n hx hb dX2_takeNumber_62 rfl (lv_at hl 3 rfl) ?_
            refine lv_icmp_le (tgt := 73) hx hb dX2_takeNumber_63 (by decide) (fun c_56 => ?_) (fun c_56 => ?_)
            · have dc_56 : n2.toInt ≤ mx.toInt := jI_le c_56 rfl rfl
              exfalso; omega
            · have dc_56 : mx.toInt < n2.toInt := jI_nle c_56 rfl rfl
              refine lv_aload_n hx hb dX2_takeNumber_66 rfl (lv_at hl 2 rfl) ?_
              obtain ⟨hPc, hDc, hFc, hCc⟩ := va_pre (ws' := [((ax 13), .inr (2, [.ref (ax 11), .ref (ax 14), .int xSz, .int xPl, .int xBe, .int xRt, .int xRf, .int xRd, .int xLk]))]) hP hD hS hA [0] (by decide) rfl
              refine va_calli (va_runV (As := []) (rest := []) ⟨hx, hb, hml, hown, hts⟩ (k_X2_stop l dC dI cA H.size ax xSz xPl xBe xRt xRf xRd xLk i_xSz i_xPl i_xBe i_xRt) (cwV 0 hts gX2_takeNumber_X2_stop rfl rfl rfl (by decide +kernel) ⟨Nat.le_of_ble_eq_true rfl, Nat.le_of_ble_eq_true rfl⟩) ⟨fun a U g mk q => by obtain ⟨q0, q1, qP, qK, qD, qN⟩ := q; exact ⟨q0, q1, qP, va_K.moved (u := U) (U := U.calling g mk a) (Vm.Alike.refl U.vm) qK, qD, qN.same rfl⟩, va_recv hK hPc (ci := 2) (q0 := 0) rfl rfl, fun U hU hW => ⟨rfl, by rw [hU], by rw [hU]; exact hPc, va_K.moved hW.alike hK, hDc.weaken (fun _ _ _ _ => trivial), hN.warm hW⟩⟩ rfl rfl hl.1 rfl (lv_room (Nat.le_of_ble_eq_true rfl)) dX2_takeNumber_67 ⟨Nat.le_of_ble_eq_true rfl, Nat.le_of_ble_eq_true rfl⟩) hS (fun q _ h => hFc q h) hFc (fun r_57 u_58 t H1 locs ht hvm hw_59 hB hz1 hk1 hS => ?_)
              obtain ⟨w_60, rfl⟩ : ∃ z, z = u_58 := ⟨_, rfl⟩
              try dsimp only at hw_59 hB
              obtain ⟨hr9, sf_61⟩ := hw_59
              obtain ⟨hP1, hD1⟩ := hB
              rw [ht] at hP1
              obtain ⟨hP, hD⟩ := va_join (wr := [((ax 11), .inr (5, [.ref (ax 12), .int xTz])), ((ax 12), .inl (cA 0, 200, .inl gB))]) (w1 := [((ax 13), .inr (2, [.ref (ax 11), .ref (ax 14), .int xSz, .int xPl, .int xBe, .int xRt, .int w_60, .int xRd, .int xLk]))]) hP hD [0] [1, 2] hCc rfl (by decide) (by decide) hk1 hFc hP1 hD1
              clear hz1
              generalize H1 = H at hP hS ⊢
              obtain rfl : 0 = r_57 := hr9.symm
              refine lv_pop hx hb dX2_takeNumber_70 rfl ?_
              refine lv_iconst (v := (-1)) hx hb dX2_takeNumber_71 (by decide) ?_
              obtain ⟨hP9, hD9⟩ := va_pd (ws' := [((ax 13), .inr (2, [.ref (ax 11), .ref (ax 14), .int xSz, .int xPl, .int xBe, .int xRt, .int w_60, .int xRd, .int xLk])), ((ax 11), .inr (5, [.ref (ax 12), .int xTz])), ((ax 12), .inl (cA 0, 200, .inl gB))]) hP hD [2, 0, 1] (by decide) rfl
              subst hQe
              have hans : ((-1) : Int32).toInt = (-1) := (by decide)
              have hpost : (0 ≤ xPl.toInt ∧ xPl.toInt ≤ 200) ∧ (0 ≤ xBe.toInt ∧ xBe.toInt ≤ 200) ∧ (xPl.toInt ≤ xBe.toInt ∧ xBe.toInt ≤ xTz.toInt ∧ (((-1) : Int32).toInt = (-1) ∨ (0 ≤ ((-1) : Int32).toInt ∧ ((-1) : Int32).toInt ≤ mx.toInt))) ∧ (tokOK gB xPl xBe xTz) ∧ (nmR (tpe gB xTz) xTz.toInt mx.toInt xPl.toInt xBe.toInt (¬ ((-1) : Int32).toInt = (-1)) ((-1) : Int32).toInt xPl.toInt xBe.toInt w_60.toInt) ∧ ((¬ ((-1) : Int32).toInt = (-1) → w_60.toInt = xRf.toInt) ∧ (((-1) : Int32).toInt = (-1) → 0 ≤ w_60.toInt)) := ⟨i_xPl, i_xBe, by omega, htk, ⟨fun h => by exfalso; omega, fun _ => ⟨tn_bad htk (by omega) (by omega) hv5_23 (by omega) (by omega) (by omega) (by omega) (by omega), by omega⟩⟩, by omega⟩
              exact W.iret (v := (-1)) hx hb hr (fun t ht hW => ⟨⟨(-1), (xPl, xBe, w_60), rfl, hpost, by rw [ht]; exact hP9, hD9⟩, hS.F ht⟩) hS.2.2 dX2_takeNumber_72
          · have dc_55 : n2.toInt < 1000001 := jI_nle c_55 (by decide) rfl
            refine lv_iload_n hx hb dX2_takeNumber_37 rfl (lv_at hl 1 rfl) ?_
            refine lv_bipush (v := 10) hx hb dX2_takeNumber_38 (by decide) ?_
            refine lv_imul hx hb dX2_takeNumber_40 ?_
            refine lv_topi (fun x_62 ex_62 => ?_)
            have dx_62 : x_62.toInt = n2.toInt * 10 := by rw [ex_62]; exact jI_mul rfl (by decide) (by omega) (by omega)
            refine lv_aload_n hx hb dX2_takeNumber_41 rfl (lv_at hl 2 rfl) ?_
            refine va_get (D := (dC, dI)) (ci := 2) (v := .ref (ax 11)) (C := RX2) (T := TX2) (N := 9) hx hb hts hIX2 hown hK hP 0 rfl rfl 0 (by decide) (hts (.fieldLink RX2 17 "TraitHouse$Reader" "tape" "LTraitHouse$Tape;") (by decide +kernel)) (fun _ h9 => h9) rfl dX2_takeNumber_42 ?_
            refine va_getN (D := (dC, dI)) (ci := 5) (v := .ref (ax 12)) (C := RX5) (T := TX5) (N := 2) hx hb hts hIX5 hown hK hP 1 rfl rfl 0 (by decide) (va_Nw.use rfl (nw_at hN 8 rfl)) (fun _ h9 => h9) rfl dX2_takeNumber_45 ?_
            refine lv_iload_n hx hb dX2_takeNumber_48 rfl (lv_at hl 0 rfl) ?_
            have hdg9 := htk (po_4.2.1 (by omega)).1 ⟨(po_4.2.1 (by omega)).2.1, (po_4.2.1 (by omega)).2.2⟩ i3.toNatClampNeg (by have : i3.toNatClampNeg = i3.toInt.toNat := rfl; omega) (by have : i3.toNatClampNeg = i3.toInt.toNat := rfl; omega)
            have h_63 : vp_in i3 200 := (vp_in_iff.mpr ⟨by omega, by omega⟩)
            refine va_iald hx hb hK hP 2 0 rfl rfl h_63 dX2_takeNumber_49 ?_
            refine lv_topi (fun x_64 ex_64 => ?_)
            have bx_64 := i_gB _ (jix h_63)
            rw [← ex_64] at bx_64
            rw [← ex_64] at hdg9
            have hdg8 := hdg9.1
            have hdg7 := hdg9.2
            refine lv_iadd hx hb dX2_takeNumber_50 ?_
            refine lv_topi (fun x_65 ex_65 => ?_)
            have dx_65 : x_65.toInt = x_62.toInt + x_64.toInt := by rw [ex_65]; exact jI_add rfl rfl (by omega) (by omega)
            refine lv_bipush (v := 48) hx hb dX2_takeNumber_51 (by decide) ?_
            refine lv_isub hx hb dX2_takeNumber_53 ?_
            refine lv_topi (fun x_66 ex_66 => ?_)
            have dx_66 : x_66.toInt = x_65.toInt - 48 := by rw [ex_66]; exact jI_sub rfl (by decide) (by omega) (by omega)
            refine lv_istore_n (lv' := [(2, .int x_66), (3, .int i3), (0, .ref (ax 13)), (1, .int mx)]) hx hb dX2_takeNumber_54 rfl hl (by decide) rfl (fun ls hl => ?_)
            obtain ⟨x_67, ex_67⟩ : ∃ y : Int32, y = i3 + 1 := ⟨_, rfl⟩
            have dx_67 : x_67.toInt = i3.toInt + 1 := by rw [ex_67]; exact jI_add rfl (by decide) (by omega) (by omega)
            refine lv_iinc (v := x_67) (lv' := [(3, .int x_67), (2, .int x_66), (0, .ref (ax 13)), (1, .int mx)]) hx hb dX2_takeNumber_55 hl (k := 1) rfl (by rw [ex_67]; rfl) (by decide) rfl (fun ls hl => ?_)
            refine lv_goto (tgt := 23) hx hb dX2_takeNumber_58 (by decide) ?_
            exact ih_23 x_67 x_66 _ _ ls (by omega) (by omega) (by omega) (by omega) (by omega) (by omega) (fun h => tn_s (hv5_23 h) (by omega) (by omega) (by omega) (by omega) (by omega) ex_64 hdg9 (by omega)) (hP.sub [0, 1, 2] rfl) (hD.sub [0, 1, 2] (by decide) rfl) hS (lv_sub hl [0, 1, 2, 3] rfl)
    have hk_68 : (0 : Int32).toInt = 0 := by decide
    exact loop23_38 (Int.toNat (200 - (xPl : Int32).toInt) + 1) xPl 0 _ _ ls (by omega) i_xPl (by omega) (by omega) (by omega) (by omega) (fun _ => tn_0 rfl (by decide)) hP hD hS (lv_sub hl [0, 1, 2, 3] rfl)
