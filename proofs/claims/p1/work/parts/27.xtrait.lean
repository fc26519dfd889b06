theorem dX2_isLetterAt_0 : decode cX2_isLetterAt 0 = .ok (.iload_n 1, 1) := by decide +kernel
theorem dX2_isLetterAt_1 : decode cX2_isLetterAt 1 = .ok (.aload_n 0, 1) := by decide +kernel
theorem dX2_isLetterAt_2 : decode cX2_isLetterAt 2 = .ok (.getfield 17, 3) := by decide +kernel
theorem dX2_isLetterAt_5 : decode cX2_isLetterAt 5 = .ok (.getfield 51, 3) := by decide +kernel
theorem dX2_isLetterAt_8 : decode cX2_isLetterAt 8 = .ok (.if_icmp .ge 35, 3) := by decide +kernel
theorem dX2_isLetterAt_43 : decode cX2_isLetterAt 43 = .ok (.iconst 0, 1) := by decide +kernel
theorem dX2_isLetterAt_44 : decode cX2_isLetterAt 44 = .ok (.ireturn, 1) := by decide +kernel
theorem dX2_isDigitAt_0 : decode cX2_isDigitAt 0 = .ok (.iload_n 1, 1) := by decide +kernel
theorem dX2_isDigitAt_1 : decode cX2_isDigitAt 1 = .ok (.aload_n 0, 1) := by decide +kernel
theorem dX2_isDigitAt_2 : decode cX2_isDigitAt 2 = .ok (.getfield 17, 3) := by decide +kernel
theorem dX2_isDigitAt_5 : decode cX2_isDigitAt 5 = .ok (.getfield 51, 3) := by decide +kernel
theorem dX2_isDigitAt_8 : decode cX2_isDigitAt 8 = .ok (.if_icmp .ge 35, 3) := by decide +kernel
theorem dX2_isDigitAt_43 : decode cX2_isDigitAt 43 = .ok (.iconst 0, 1) := by decide +kernel
theorem dX2_isDigitAt_44 : decode cX2_isDigitAt 44 = .ok (.ireturn, 1) := by decide +kernel
theorem dX2_stop_0 : decode cX2_stop 0 = .ok (.aload_n 0, 1) := by decide +kernel
theorem dX2_stop_1 : decode cX2_stop 1 = .ok (.aload_n 0, 1) := by decide +kernel
theorem dX2_stop_2 : decode cX2_stop 2 = .ok (.getfield 48, 3) := by decide +kernel
theorem dX2_stop_5 : decode cX2_stop 5 = .ok (.putfield 31, 3) := by decide +kernel
theorem dX2_stop_8 : decode cX2_stop 8 = .ok (.iconst 0, 1) := by decide +kernel
theorem dX2_stop_9 : decode cX2_stop 9 = .ok (.ireturn, 1) := by decide +kernel
theorem dX2_advance_0 : decode cX2_advance 0 = .ok (.aload_n 0, 1) := by decide +kernel
theorem dX2_advance_1 : decode cX2_advance 1 = .ok (.aload_n 0, 1) := by decide +kernel
theorem dX2_advance_2 : decode cX2_advance 2 = .ok (.getfield 25, 3) := by decide +kernel
theorem dX2_advance_5 : decode cX2_advance 5 = .ok (.putfield 48, 3) := by decide +kernel
theorem dX2_advance_8 : decode cX2_advance 8 = .ok (.aload_n 0, 1) := by decide +kernel
theorem dX2_advance_9 : decode cX2_advance 9 = .ok (.getfield 48, 3) := by decide +kernel
theorem dX2_advance_12 : decode cX2_advance 12 = .ok (.aload_n 0, 1) := by decide +kernel
theorem dX2_advance_13 : decode cX2_advance 13 = .ok (.getfield 17, 3) := by decide +kernel
theorem dX2_advance_16 : decode cX2_advance 16 = .ok (.getfield 51, 3) := by decide +kernel
theorem dX2_advance_19 : decode cX2_advance 19 = .ok (.if_icmp .ge 33, 3) := by decide +kernel
theorem dX2_advance_52 : decode cX2_advance 52 = .ok (.aload_n 0, 1) := by decide +kernel
theorem dX2_advance_53 : decode cX2_advance 53 = .ok (.aload_n 0, 1) := by decide +kernel
theorem dX2_advance_54 : decode cX2_advance 54 = .ok (.getfield 48, 3) := by decide +kernel
theorem dX2_advance_57 : decode cX2_advance 57 = .ok (.iconst 1, 1) := by decide +kernel
theorem dX2_advance_58 : decode cX2_advance 58 = .ok (.iadd, 1) := by decide +kernel
theorem dX2_advance_59 : decode cX2_advance 59 = .ok (.aload_n 0, 1) := by decide +kernel
theorem dX2_advance_60 : decode cX2_advance 60 = .ok (.getfield 17, 3) := by decide +kernel
theorem dX2_advance_63 : decode cX2_advance 63 = .ok (.getfield 51, 3) := by decide +kernel
theorem dX2_advance_66 : decode cX2_advance 66 = .ok (.invokestatic 150, 3) := by decide +kernel
theorem dX2_advance_69 : decode cX2_advance 69 = .ok (.putfield 25, 3) := by decide +kernel
theorem dX2_advance_72 : decode cX2_advance 72 = .ok (.aload_n 0, 1) := by decide +kernel
theorem dX2_advance_73 : decode cX2_advance 73 = .ok (.aload_n 0, 1) := by decide +kernel
theorem dX2_advance_74 : decode cX2_advance 74 = .ok (.getfield 48, 3) := by decide +kernel
set_option maxRecDepth 20000 in
theorem ggX2_advance_X2_isLetterAt : GoodIn wsX2_advance wsX2_isLetterAt := goodIn_r _ [12, 3, 17, 18, 19, 20, 21, 22, 23, 24, 25, 26, 27] (by decide +kernel) (by decide +kernel)
set_option maxRecDepth 20000 in
theorem gX2_advance_X2_isLetterAt : GoodIn wsX2_advance (wsV RX2 156 RX2 yX2_isLetterAt wsX2_isLetterAt) := goodIn_app (goodIn_of _ (by decide +kernel)) ggX2_advance_X2_isLetterAt
theorem dX2_advance_77 : decode cX2_advance 77 = .ok (.invokevirtual 156, 3) := by decide +kernel
theorem dX2_advance_80 : decode cX2_advance 80 = .ok (.istore_n 1, 1) := by decide +kernel
theorem dX2_advance_81 : decode cX2_advance 81 = .ok (.aload_n 0, 1) := by decide +kernel
theorem dX2_advance_82 : decode cX2_advance 82 = .ok (.aload_n 0, 1) := by decide +kernel
theorem dX2_advance_83 : decode cX2_advance 83 = .ok (.getfield 48, 3) := by decide +kernel
set_option maxRecDepth 20000 in
theorem ggX2_advance_X2_isDigitAt : GoodIn wsX2_advance wsX2_isDigitAt := goodIn_r _ [16, 3, 17, 18, 19, 20, 21, 22, 23, 24, 25, 26, 27] (by decide +kernel) (by decide +kernel)
set_option maxRecDepth 20000 in
theorem gX2_advance_X2_isDigitAt : GoodIn wsX2_advance (wsV RX2 90 RX2 yX2_isDigitAt wsX2_isDigitAt) := goodIn_app (goodIn_of _ (by decide +kernel)) ggX2_advance_X2_isDigitAt
theorem dX2_advance_86 : decode cX2_advance 86 = .ok (.invokevirtual 90, 3) := by decide +kernel
theorem dX2_advance_89 : decode cX2_advance 89 = .ok (.istore_n 2, 1) := by decide +kernel
theorem dX2_advance_90 : decode cX2_advance 90 = .ok (.aload_n 0, 1) := by decide +kernel
theorem dX2_advance_91 : decode cX2_advance 91 = .ok (.getfield 25, 3) := by decide +kernel
theorem dX2_advance_94 : decode cX2_advance 94 = .ok (.aload_n 0, 1) := by decide +kernel
theorem dX2_advance_95 : decode cX2_advance 95 = .ok (.getfield 17, 3) := by decide +kernel
theorem dX2_advance_98 : decode cX2_advance 98 = .ok (.getfield 51, 3) := by decide +kernel
theorem dX2_advance_101 : decode cX2_advance 101 = .ok (.if_icmp .ge 46, 3) := by decide +kernel
theorem dX2_advance_147 : decode cX2_advance 147 = .ok (.return_, 1) := by decide +kernel
theorem dX2_isAt_0 : decode cX2_isAt 0 = .ok (.aload_n 1, 1) := by decide +kernel
set_option maxRecDepth 20000 in
theorem ggX2_isAt_J0_length_8abf5 : GoodIn wsX2_isAt wsJ0_length_8abf5 := goodIn_r _ [8, 9, 10, 11, 12, 7, 13, 14, 15] (by decide +kernel) (by decide +kernel)
set_option maxRecDepth 20000 in
theorem gX2_isAt_J0_length_8abf5 : GoodIn wsX2_isAt (wsV RX2 141 RJ0 yJ0_length_8abf5 wsJ0_length_8abf5) := goodIn_app (goodIn_of _ (by decide +kernel)) ggX2_isAt_J0_length_8abf5
theorem dX2_isAt_1 : decode cX2_isAt 1 = .ok (.invokevirtual 141, 3) := by decide +kernel
theorem dX2_isAt_4 : decode cX2_isAt 4 = .ok (.istore_n 2, 1) := by decide +kernel
theorem dX2_isAt_5 : decode cX2_isAt 5 = .ok (.aload_n 0, 1) := by decide +kernel
theorem dX2_isAt_6 : decode cX2_isAt 6 = .ok (.getfield 25, 3) := by decide +kernel
theorem dX2_isAt_9 : decode cX2_isAt 9 = .ok (.aload_n 0, 1) := by decide +kernel
theorem dX2_isAt_10 : decode cX2_isAt 10 = .ok (.getfield 48, 3) := by decide +kernel
theorem dX2_isAt_13 : decode cX2_isAt 13 = .ok (.isub, 1) := by decide +kernel
theorem dX2_isAt_14 : decode cX2_isAt 14 = .ok (.iload_n 2, 1) := by decide +kernel
theorem dX2_isAt_15 : decode cX2_isAt 15 = .ok (.if_icmp .eq 5, 3) := by decide +kernel
theorem dX2_isAt_18 : decode cX2_isAt 18 = .ok (.iconst 0, 1) := by decide +kernel
theorem dX2_isAt_19 : decode cX2_isAt 19 = .ok (.ireturn, 1) := by decide +kernel
theorem dX2_kindAt_0 : decode cX2_kindAt 0 = .ok (.aload_n 0, 1) := by decide +kernel
theorem dX2_kindAt_1 : decode cX2_kindAt 1 = .ok (.ldc 120, 2) := by decide +kernel
set_option maxRecDepth 20000 in
theorem ggX2_kindAt_X2_isAt : GoodIn wsX2_kindAt wsX2_isAt := goodIn_r _ [5, 6, 7, 8, 9, 10, 11, 12, 13, 14, 15, 16, 17, 18, 19, 20, 21, 22, 23, 24, 25, 26, 27, 28, 29, 30, 31, 32, 33, 34, 35, 36, 37, 38, 39, 40, 41, 42, 43, 44, 45, 46, 47, 48, 49, 50, 51, 52, 53, 54, 55, 56, 57, 58, 59, 60, 61, 62, 63, 64, 65, 66, 67, 68] (by decide +kernel) (by decide +kernel)
set_option maxRecDepth 20000 in
theorem gX2_kindAt_X2_isAt : GoodIn wsX2_kindAt (wsV RX2 63 RX2 yX2_isAt wsX2_isAt) := goodIn_app (goodIn_of _ (by decide +kernel)) ggX2_kindAt_X2_isAt
theorem dX2_kindAt_3 : decode cX2_kindAt 3 = .ok (.invokevirtual 63, 3) := by decide +kernel
theorem dX2_kindAt_6 : decode cX2_kindAt 6 = .ok (.ifCond .eq 5, 3) := by decide +kernel
theorem dX2_kindAt_11 : decode cX2_kindAt 11 = .ok (.aload_n 0, 1) := by decide +kernel
theorem dX2_kindAt_12 : decode cX2_kindAt 12 = .ok (.ldc 122, 2) := by decide +kernel
theorem dX2_kindAt_14 : decode cX2_kindAt 14 = .ok (.invokevirtual 63, 3) := by decide +kernel
theorem dX2_kindAt_17 : decode cX2_kindAt 17 = .ok (.ifCond .eq 5, 3) := by decide +kernel
theorem dX2_kindAt_22 : decode cX2_kindAt 22 = .ok (.aload_n 0, 1) := by decide +kernel
theorem dX2_kindAt_23 : decode cX2_kindAt 23 = .ok (.ldc 124, 2) := by decide +kernel
theorem dX2_kindAt_25 : decode cX2_kindAt 25 = .ok (.invokevirtual 63, 3) := by decide +kernel
theorem dX2_kindAt_28 : decode cX2_kindAt 28 = .ok (.ifCond .eq 5, 3) := by decide +kernel
theorem dX2_kindAt_33 : decode cX2_kindAt 33 = .ok (.aload_n 0, 1) := by decide +kernel
theorem dX2_kindAt_34 : decode cX2_kindAt 34 = .ok (.ldc 126, 2) := by decide +kernel
theorem dX2_kindAt_36 : decode cX2_kindAt 36 = .ok (.invokevirtual 63, 3) := by decide +kernel
theorem dX2_kindAt_39 : decode cX2_kindAt 39 = .ok (.ifCond .eq 5, 3) := by decide +kernel
theorem dX2_kindAt_44 : decode cX2_kindAt 44 = .ok (.aload_n 0, 1) := by decide +kernel
theorem dX2_kindAt_45 : decode cX2_kindAt 45 = .ok (.ldc 128, 2) := by decide +kernel
theorem dX2_kindAt_47 : decode cX2_kindAt 47 = .ok (.invokevirtual 63, 3) := by decide +kernel
theorem dX2_kindAt_50 : decode cX2_kindAt 50 = .ok (.ifCond .eq 5, 3) := by decide +kernel
theorem dX2_kindAt_55 : decode cX2_kindAt 55 = .ok (.aload_n 0, 1) := by decide +kernel
theorem dX2_kindAt_56 : decode cX2_kindAt 56 = .ok (.ldc 130, 2) := by decide +kernel
theorem dX2_kindAt_58 : decode cX2_kindAt 58 = .ok (.invokevirtual 63, 3) := by decide +kernel
theorem dX2_kindAt_61 : decode cX2_kindAt 61 = .ok (.ifCond .eq 6, 3) := by decide +kernel
theorem dX2_kindAt_67 : decode cX2_kindAt 67 = .ok (.aload_n 0, 1) := by decide +kernel
theorem dX2_kindAt_68 : decode cX2_kindAt 68 = .ok (.ldc 132, 2) := by decide +kernel
theorem dX2_kindAt_70 : decode cX2_kindAt 70 = .ok (.invokevirtual 63, 3) := by decide +kernel
theorem dX2_kindAt_73 : decode cX2_kindAt 73 = .ok (.ifCond .eq 8, 3) := by decide +kernel
theorem dX2_kindAt_81 : decode cX2_kindAt 81 = .ok (.iconst (-1), 1) := by decide +kernel
theorem dX2_kindAt_82 : decode cX2_kindAt 82 = .ok (.ireturn, 1) := by decide +kernel
theorem dX2_readAtom_0 : decode cX2_readAtom 0 = .ok (.aload_n 0, 1) := by decide +kernel
theorem dX2_readAtom_1 : decode cX2_readAtom 1 = .ok (.aload_n 0, 1) := by decide +kernel
theorem dX2_readAtom_2 : decode cX2_readAtom 2 = .ok (.getfield 48, 3) := by decide +kernel
set_option maxRecDepth 20000 in
theorem ggX2_readAtom_X2_isDigitAt : GoodIn wsX2_readAtom wsX2_isDigitAt := goodIn_r _ [8, 9, 141, 142, 143, 144, 145, 146, 147, 148, 149, 150, 151] (by decide +kernel) (by decide +kernel)
set_option maxRecDepth 20000 in
theorem gX2_readAtom_X2_isDigitAt : GoodIn wsX2_readAtom (wsV RX2 90 RX2 yX2_isDigitAt wsX2_isDigitAt) := goodIn_app (goodIn_of _ (by decide +kernel)) ggX2_readAtom_X2_isDigitAt
theorem dX2_readAtom_5 : decode cX2_readAtom 5 = .ok (.invokevirtual 90, 3) := by decide +kernel
theorem dX2_readAtom_8 : decode cX2_readAtom 8 = .ok (.ifCond .eq 11, 3) := by decide +kernel
theorem dX2_readAtom_19 : decode cX2_readAtom 19 = .ok (.aload_n 0, 1) := by decide +kernel
theorem dX2_readAtom_20 : decode cX2_readAtom 20 = .ok (.ldc 93, 2) := by decide +kernel
set_option maxRecDepth 20000 in
theorem ggX2_readAtom_X2_isAt : GoodIn wsX2_readAtom wsX2_isAt := goodIn_r _ [59, 20, 1, 9, 60, 61, 62, 63, 64, 65, 66, 67, 68, 69, 70, 71, 72, 73, 74, 75, 76, 77, 78, 79, 80, 81, 82, 83, 84, 85, 86, 87, 88, 89, 90, 91, 92, 93, 94, 95, 96, 97, 98, 99, 100, 101, 102, 103, 104, 105, 106, 107, 108, 141, 142, 143, 144, 145, 146, 147, 148, 149, 150, 151] (by decide +kernel) (by decide +kernel)
set_option maxRecDepth 20000 in
theorem gX2_readAtom_X2_isAt : GoodIn wsX2_readAtom (wsV RX2 63 RX2 yX2_isAt wsX2_isAt) := goodIn_app (goodIn_of _ (by decide +kernel)) ggX2_readAtom_X2_isAt
theorem dX2_readAtom_22 : decode cX2_readAtom 22 = .ok (.invokevirtual 63, 3) := by decide +kernel
theorem dX2_readAtom_25 : decode cX2_readAtom 25 = .ok (.ifCond .eq 9, 3) := by decide +kernel
theorem dX2_readAtom_34 : decode cX2_readAtom 34 = .ok (.aload_n 0, 1) := by decide +kernel
set_option maxRecDepth 20000 in
theorem ggX2_readAtom_X2_kindAt : GoodIn wsX2_readAtom wsX2_kindAt := goodIn_r _ [115, 56, 57, 58, 7, 59, 20, 1, 9, 60, 61, 62, 63, 64, 65, 66, 67, 68, 69, 70, 71, 72, 73, 74, 75, 76, 77, 78, 79, 80, 81, 82, 83, 84, 85, 86, 87, 88, 89, 90, 91, 92, 93, 94, 95, 96, 97, 98, 99, 100, 101, 102, 103, 104, 105, 106, 107, 108, 141, 142, 143, 144, 145, 146, 147, 148, 149, 150, 151] (by decide +kernel) (by decide +kernel)
set_option maxRecDepth 20000 in
theorem gX2_readAtom_X2_kindAt : GoodIn wsX2_readAtom (wsV RX2 98 RX2 yX2_kindAt wsX2_kindAt) := goodIn_app (goodIn_of _ (by decide +kernel)) ggX2_readAtom_X2_kindAt
theorem dX2_readAtom_35 : decode cX2_readAtom 35 = .ok (.invokevirtual 98, 3) := by decide +kernel
theorem dX2_readAtom_38 : decode cX2_readAtom 38 = .ok (.istore_n 2, 1) := by decide +kernel
theorem dX2_readAtom_39 : decode cX2_readAtom 39 = .ok (.iload_n 2, 1) := by decide +kernel
theorem dX2_readAtom_40 : decode cX2_readAtom 40 = .ok (.iconst (-1), 1) := by decide +kernel
theorem dX2_readAtom_41 : decode cX2_readAtom 41 = .ok (.if_icmp .ne 8, 3) := by decide +kernel
theorem dX2_readAtom_44 : decode cX2_readAtom 44 = .ok (.aload_n 0, 1) := by decide +kernel
set_option maxRecDepth 20000 in
theorem ggX2_readAtom_X2_stop : GoodIn wsX2_readAtom wsX2_stop := goodIn_r _ [24, 1, 25, 141, 142, 143, 144, 145, 146, 147, 148, 149] (by decide +kernel) (by decide +kernel)
set_option maxRecDepth 20000 in
theorem gX2_readAtom_X2_stop : GoodIn wsX2_readAtom (wsV RX2 54 RX2 yX2_stop wsX2_stop) := goodIn_app (goodIn_of _ (by decide +kernel)) ggX2_readAtom_X2_stop
theorem dX2_readAtom_45 : decode cX2_readAtom 45 = .ok (.invokevirtual 54, 3) := by decide +kernel
theorem dX2_readAtom_48 : decode cX2_readAtom 48 = .ok (.ireturn, 1) := by decide +kernel
theorem dX2_readPart_0 : decode cX2_readPart 0 = .ok (.aload_n 0, 1) := by decide +kernel
theorem dX2_readPart_1 : decode cX2_readPart 1 = .ok (.iload_n 1, 1) := by decide +kernel
set_option maxRecDepth 20000 in
theorem ggX2_readPart_X2_readAtom : GoodIn wsX2_readPart wsX2_readAtom := goodIn_r _ [111, 11, 1, 112, 74, 75, 76, 5, 77, 12, 78, 79, 80, 81, 82, 83, 84, 85, 86, 87, 10, 88, 89, 90, 91, 92, 62, 63, 64, 65, 66, 67, 68, 69, 70, 71, 72, 73, 93, 94, 95, 96, 97, 98, 99, 100, 101, 102, 103, 104, 105, 106, 107, 108, 109, 110, 6, 7, 8, 9, 13, 14, 15, 16, 17, 18, 19, 20, 21, 22, 23, 24, 25, 26, 27, 28, 29, 30, 31, 32, 33, 34, 35, 36, 37, 38, 39, 40, 41, 42, 43, 44, 45, 46, 47, 48, 49, 50, 51, 52, 53, 54, 55, 56, 57, 58, 59, 60, 61, 113, 114, 115, 116, 117, 118, 119, 120, 121, 122, 123, 124, 125, 126, 127, 128, 129, 130, 131, 132, 0, 2, 3, 4, 133, 134, 135, 136, 137, 138, 139, 140, 141, 142, 143, 144, 145, 146, 147, 148, 149, 150, 151, 152, 153, 154, 155] (by decide +kernel) (by decide +kernel)
set_option maxRecDepth 20000 in
theorem gX2_readPart_X2_readAtom : GoodIn wsX2_readPart (wsV RX2 80 RX2 yX2_readAtom wsX2_readAtom) := goodIn_app (goodIn_of _ (by decide +kernel)) ggX2_readPart_X2_readAtom
theorem dX2_readPart_2 : decode cX2_readPart 2 = .ok (.invokevirtual 80, 3) := by decide +kernel
theorem dX2_readPart_5 : decode cX2_readPart 5 = .ok (.ifCond .ne 5, 3) := by decide +kernel
theorem dX2_readPart_8 : decode cX2_readPart 8 = .ok (.iconst 0, 1) := by decide +kernel
theorem dX2_readPart_9 : decode cX2_readPart 9 = .ok (.ireturn, 1) := by decide +kernel
theorem dX2_readTerm_0 : decode cX2_readTerm 0 = .ok (.aload_n 0, 1) := by decide +kernel
theorem dX2_readTerm_1 : decode cX2_readTerm 1 = .ok (.iload_n 1, 1) := by decide +kernel
set_option maxRecDepth 20000 in
theorem ggX2_readTerm_X2_readPart : GoodIn wsX2_readTerm wsX2_readPart := goodIn_r _ [133, 96, 134, 135, 136, 4, 5, 6, 7, 8, 9, 10, 11, 12, 13, 14, 15, 16, 17, 18, 19, 20, 21, 22, 23, 24, 25, 26, 27, 28, 29, 30, 31, 32, 33, 34, 35, 36, 37, 38, 39, 40, 41, 42, 43, 44, 45, 46, 47, 48, 49, 50, 51, 52, 53, 54, 55, 56, 57, 58, 59, 60, 61, 62, 63, 64, 65, 66, 67, 68, 69, 70, 71, 72, 73, 74, 75, 76, 98, 99, 100, 101, 102, 103, 104, 105, 106, 107, 108, 109, 110, 111, 112, 77, 78, 79, 80, 81, 82, 83, 84, 85, 86, 87, 88, 89, 90, 91, 92, 93, 94, 95, 97, 113, 114, 115, 116, 117, 118, 119, 120, 121, 122, 123, 124, 125, 126, 127, 128, 129, 130, 131, 132, 137, 138, 139, 140, 0, 1, 2, 3, 141, 142, 143, 144, 145, 146, 147, 148, 149, 150, 151, 152, 153, 154, 155] (by decide +kernel) (by decide +kernel)
set_option maxRecDepth 20000 in
theorem gX2_readTerm_X2_readPart : GoodIn wsX2_readTerm (wsV RX2 73 RX2 yX2_readPart wsX2_readPart) := goodIn_app (goodIn_of _ (by decide +kernel)) ggX2_readTerm_X2_readPart
theorem dX2_readTerm_2 : decode cX2_readTerm 2 = .ok (.invokevirtual 73, 3) := by decide +kernel
theorem dX2_readTerm_5 : decode cX2_readTerm 5 = .ok (.istore_n 2, 1) := by decide +kernel
theorem dX2_readTerm_6 : decode cX2_readTerm 6 = .ok (.iconst 0, 1) := by decide +kernel
theorem dX2_readTerm_7 : decode cX2_readTerm 7 = .ok (.istore_n 3, 1) := by decide +kernel
theorem dX2_readTerm_8 : decode cX2_readTerm 8 = .ok (.iload_n 3, 1) := by decide +kernel
theorem dX2_readTerm_9 : decode cX2_readTerm 9 = .ok (.sipush 200, 3) := by decide +kernel
theorem dX2_readTerm_12 : decode cX2_readTerm 12 = .ok (.if_icmp .ge 68, 3) := by decide +kernel
theorem dX2_readTerm_15 : decode cX2_readTerm 15 = .ok (.iload_n 2, 1) := by decide +kernel
theorem dX2_readTerm_16 : decode cX2_readTerm 16 = .ok (.ifCond .eq 64, 3) := by decide +kernel
theorem dX2_readTerm_80 : decode cX2_readTerm 80 = .ok (.iload_n 2, 1) := by decide +kernel
theorem dX2_readTerm_81 : decode cX2_readTerm 81 = .ok (.ireturn, 1) := by decide +kernel
theorem dX2_readSum_0 : decode cX2_readSum 0 = .ok (.aload_n 0, 1) := by decide +kernel
theorem dX2_readSum_1 : decode cX2_readSum 1 = .ok (.iload_n 1, 1) := by decide +kernel
set_option maxRecDepth 20000 in
theorem ggX2_readSum_X2_readTerm : GoodIn wsX2_readSum wsX2_readTerm := goodIn_r _ [137, 138, 139, 140, 4, 5, 6, 7, 8, 9, 10, 11, 12, 13, 14, 15, 16, 17, 18, 19, 20, 21, 22, 23, 24, 25, 26, 27, 28, 29, 30, 31, 32, 33, 34, 35, 36, 37, 38, 39, 40, 41, 42, 43, 44, 45, 46, 47, 48, 49, 50, 51, 52, 53, 54, 55, 56, 57, 58, 59, 60, 61, 62, 63, 64, 65, 66, 67, 68, 69, 70, 71, 72, 73, 74, 75, 76, 77, 78, 79, 80, 81, 82, 83, 84, 85, 86, 87, 88, 89, 90, 91, 92, 93, 94, 95, 96, 97, 98, 99, 100, 101, 102, 103, 104, 105, 106, 107, 108, 109, 110, 111, 112, 113, 114, 115, 116, 117, 118, 119, 120, 121, 122, 123, 124, 125, 126, 127, 128, 129, 130, 131, 132, 133, 134, 135, 136, 0, 1, 2, 3, 141, 142, 143, 144, 145, 146, 147, 148, 149, 150, 151, 152, 153, 154, 155] (by decide +kernel) (by decide +kernel)
set_option maxRecDepth 20000 in
theorem gX2_readSum_X2_readTerm : GoodIn wsX2_readSum (wsV RX2 58 RX2 yX2_readTerm wsX2_readTerm) := goodIn_app (goodIn_of _ (by decide +kernel)) ggX2_readSum_X2_readTerm
theorem dX2_readSum_2 : decode cX2_readSum 2 = .ok (.invokevirtual 58, 3) := by decide +kernel
theorem dX2_readSum_5 : decode cX2_readSum 5 = .ok (.istore_n 2, 1) := by decide +kernel
theorem dX2_readSum_6 : decode cX2_readSum 6 = .ok (.iconst 0, 1) := by decide +kernel
theorem dX2_readSum_7 : decode cX2_readSum 7 = .ok (.istore_n 3, 1) := by decide +kernel
theorem dX2_readSum_8 : decode cX2_readSum 8 = .ok (.iload_n 3, 1) := by decide +kernel
theorem dX2_readSum_9 : decode cX2_readSum 9 = .ok (.sipush 200, 3) := by decide +kernel
theorem dX2_readSum_12 : decode cX2_readSum 12 = .ok (.if_icmp .ge 68, 3) := by decide +kernel
theorem dX2_readSum_15 : decode cX2_readSum 15 = .ok (.iload_n 2, 1) := by decide +kernel
theorem dX2_readSum_16 : decode cX2_readSum 16 = .ok (.ifCond .eq 64, 3) := by decide +kernel
theorem dX2_readSum_80 : decode cX2_readSum 80 = .ok (.iload_n 2, 1) := by decide +kernel
theorem dX2_readSum_81 : decode cX2_readSum 81 = .ok (.ireturn, 1) := by decide +kernel
theorem dX2_read_0 : decode cX2_read 0 = .ok (.aload_n 0, 1) := by decide +kernel
theorem dX2_read_1 : decode cX2_read 1 = .ok (.iconst 0, 1) := by decide +kernel
theorem dX2_read_2 : decode cX2_read 2 = .ok (.putfield 21, 3) := by decide +kernel
theorem dX2_read_5 : decode cX2_read 5 = .ok (.aload_n 0, 1) := by decide +kernel
theorem dX2_read_6 : decode cX2_read 6 = .ok (.iconst 0, 1) := by decide +kernel
theorem dX2_read_7 : decode cX2_read 7 = .ok (.putfield 25, 3) := by decide +kernel
theorem dX2_read_10 : decode cX2_read 10 = .ok (.aload_n 0, 1) := by decide +kernel
theorem dX2_read_11 : decode cX2_read 11 = .ok (.iload_n 1, 1) := by decide +kernel
theorem dX2_read_12 : decode cX2_read 12 = .ok (.putfield 28, 3) := by decide +kernel
theorem dX2_read_15 : decode cX2_read 15 = .ok (.aload_n 0, 1) := by decide +kernel
theorem dX2_read_16 : decode cX2_read 16 = .ok (.iconst (-1), 1) := by decide +kernel
theorem dX2_read_17 : decode cX2_read 17 = .ok (.putfield 31, 3) := by decide +kernel
theorem dX2_read_20 : decode cX2_read 20 = .ok (.aload_n 0, 1) := by decide +kernel
theorem dX2_read_21 : decode cX2_read 21 = .ok (.iconst 0, 1) := by decide +kernel
theorem dX2_read_22 : decode cX2_read 22 = .ok (.putfield 34, 3) := by decide +kernel
theorem dX2_read_25 : decode cX2_read 25 = .ok (.aload_n 0, 1) := by decide +kernel
theorem dX2_read_26 : decode cX2_read 26 = .ok (.iconst 0, 1) := by decide +kernel
theorem dX2_read_27 : decode cX2_read 27 = .ok (.putfield 37, 3) := by decide +kernel
theorem dX2_read_30 : decode cX2_read 30 = .ok (.aload_n 0, 1) := by decide +kernel
set_option maxRecDepth 20000 in
theorem ggX2_read_X2_advance : GoodIn wsX2_read wsX2_advance := goodIn_r _ [13, 2, 7, 8, 14, 15, 16, 17, 18, 19, 20, 12, 21, 22, 23, 24, 25, 142, 143, 144, 145, 146, 147, 148, 149, 150, 151, 152] (by decide +kernel) (by decide +kernel)
set_option maxRecDepth 20000 in
theorem gX2_read_X2_advance : GoodIn wsX2_read (wsV RX2 41 RX2 yX2_advance wsX2_advance) := goodIn_app (goodIn_of _ (by decide +kernel)) ggX2_read_X2_advance
theorem dX2_read_31 : decode cX2_read 31 = .ok (.invokevirtual 41, 3) := by decide +kernel
theorem dX2_read_34 : decode cX2_read 34 = .ok (.aload_n 0, 1) := by decide +kernel
theorem dX2_read_35 : decode cX2_read 35 = .ok (.iconst 0, 1) := by decide +kernel
set_option maxRecDepth 20000 in
theorem ggX2_read_X2_readSum : GoodIn wsX2_read wsX2_readSum := goodIn_r _ [29, 30, 31, 32, 12, 33, 34, 35, 36, 2, 7, 8, 37, 38, 39, 40, 41, 42, 43, 44, 45, 46, 47, 48, 49, 50, 51, 52, 53, 54, 55, 56, 57, 58, 59, 60, 61, 62, 63, 64, 65, 66, 67, 68, 69, 70, 71, 72, 73, 74, 75, 76, 77, 78, 79, 80, 81, 82, 83, 84, 85, 9, 10, 11, 13, 14, 15, 16, 17, 18, 19, 20, 21, 22, 23, 24, 25, 86, 87, 88, 89, 1, 90, 91, 92, 93, 94, 95, 96, 97, 98, 99, 100, 101, 102, 103, 104, 3, 105, 106, 107, 108, 5, 109, 110, 111, 112, 113, 114, 115, 116, 117, 4, 118, 119, 120, 121, 122, 123, 124, 125, 126, 127, 128, 6, 129, 130, 131, 132, 133, 26, 27, 28, 134, 135, 136, 137, 138, 139, 140, 141, 142, 143, 144, 145, 146, 147, 148, 149, 150, 151, 152, 153, 154, 155, 156] (by decide +kernel) (by decide +kernel)
set_option maxRecDepth 20000 in
theorem gX2_read_X2_readSum : GoodIn wsX2_read (wsV RX2 44 RX2 yX2_readSum wsX2_readSum) := goodIn_app (goodIn_of _ (by decide +kernel)) ggX2_read_X2_readSum
theorem dX2_read_36 : decode cX2_read 36 = .ok (.invokevirtual 44, 3) := by decide +kernel
theorem dX2_read_39 : decode cX2_read 39 = .ok (.ifCond .eq 22, 3) := by decide +kernel
theorem dX2_read_61 : decode cX2_read 61 = .ok (.aload_n 0, 1) := by decide +kernel
theorem dX2_read_62 : decode cX2_read 62 = .ok (.getfield 31, 3) := by decide +kernel
theorem dX2_read_65 : decode cX2_read 65 = .ok (.ireturn, 1) := by decide +kernel
theorem dX8_readTrait_0 : decode cX8_readTrait 0 = .ok (.aload_n 0, 1) := by decide +kernel
theorem dX8_readTrait_1 : decode cX8_readTrait 1 = .ok (.aload_n 0, 1) := by decide +kernel
theorem dX8_readTrait_2 : decode cX8_readTrait 2 = .ok (.getfield 39, 3) := by decide +kernel
theorem dX8_readTrait_5 : decode cX8_readTrait 5 = .ok (.aload_n 0, 1) := by decide +kernel
theorem dX8_readTrait_6 : decode cX8_readTrait 6 = .ok (.getfield 148, 3) := by decide +kernel
set_option maxRecDepth 20000 in
theorem ggX8_readTrait_X2_read : GoodIn wsX8_readTrait wsX2_read := goodIn_r _ [11, 12, 13, 14, 15, 16, 17, 18, 19, 20, 21, 22, 9, 23, 24, 25, 26, 27, 28, 29, 30, 31, 32, 33, 34, 35, 36, 37, 38, 39, 40, 41, 42, 43, 44, 45, 46, 47, 48, 49, 50, 51, 52, 53, 54, 55, 56, 57, 58, 59, 60, 61, 62, 63, 64, 65, 66, 67, 68, 69, 70, 71, 72, 73, 74, 75, 76, 77, 78, 79, 80, 81, 82, 83, 84, 85, 86, 87, 88, 89, 90, 91, 92, 93, 94, 95, 96, 97, 98, 99, 100, 101, 102, 103, 104, 105, 106, 107, 108, 109, 110, 111, 112, 113, 114, 115, 116, 117, 118, 119, 120, 121, 122, 123, 124, 125, 126, 127, 128, 129, 130, 131, 132, 133, 134, 135, 136, 137, 138, 139, 140, 141, 142, 143, 144, 145, 146, 147, 148, 149, 150, 151, 207, 208, 209, 210, 211, 212, 213, 214, 215, 224, 225, 226, 227, 228, 229] (by decide +kernel) (by decide +kernel)
set_option maxRecDepth 20000 in
theorem gX8_readTrait_X2_read_n155 : GoodIn wsX8_readTrait (wsX2_read) := ggX8_readTrait_X2_read
theorem dX8_readTrait_9 : decode cX8_readTrait 9 = .ok (.invokevirtual 155, 3) := by decide +kernel
theorem dX8_readTrait_12 : decode cX8_readTrait 12 = .ok (.putfield 75, 3) := by decide +kernel
theorem dX8_readTrait_15 : decode cX8_readTrait 15 = .ok (.aload_n 0, 1) := by decide +kernel
theorem dX8_readTrait_16 : decode cX8_readTrait 16 = .ok (.getfield 75, 3) := by decide +kernel
theorem dX8_readTrait_19 : decode cX8_readTrait 19 = .ok (.iconst (-1), 1) := by decide +kernel
theorem dX8_readTrait_20 : decode cX8_readTrait 20 = .ok (.if_icmp .eq 6, 3) := by decide +kernel
theorem dX8_readTrait_23 : decode cX8_readTrait 23 = .ok (.bipush (-6), 2) := by decide +kernel
theorem dX8_readTrait_25 : decode cX8_readTrait 25 = .ok (.ireturn, 1) := by decide +kernel
theorem dX8_trait_0 : decode cX8_trait 0 = .ok (.aload_n 0, 1) := by decide +kernel
theorem dX8_trait_1 : decode cX8_trait 1 = .ok (.getfield 148, 3) := by decide +kernel
theorem dX8_trait_4 : decode cX8_trait 4 = .ok (.bipush 20, 2) := by decide +kernel
theorem dX8_trait_6 : decode cX8_trait 6 = .ok (.if_icmp .lt 8, 3) := by decide +kernel
theorem dX8_trait_14 : decode cX8_trait 14 = .ok (.aload_n 0, 1) := by decide +kernel
set_option maxRecDepth 20000 in
theorem ggX8_trait_X8_readTrait : GoodIn wsX8_trait wsX8_readTrait := goodIn_r _ [7, 8, 1, 9, 10, 11, 12, 13, 14, 15, 16, 17, 18, 19, 20, 21, 22, 23, 24, 25, 26, 27, 28, 29, 30, 31, 32, 33, 34, 35, 36, 37, 38, 39, 40, 41, 42, 43, 44, 45, 46, 47, 48, 49, 50, 51, 52, 53, 54, 55, 56, 57, 58, 59, 60, 61, 62, 63, 64, 65, 66, 67, 68, 69, 70, 71, 72, 73, 74, 75, 76, 77, 78, 79, 80, 81, 82, 83, 84, 85, 86, 87, 88, 89, 90, 91, 92, 93, 94, 95, 96, 97, 98, 99, 100, 101, 102, 103, 104, 105, 106, 107, 108, 109, 110, 111, 112, 113, 114, 115, 116, 117, 118, 119, 120, 121, 122, 123, 124, 125, 126, 127, 128, 129, 130, 131, 132, 133, 134, 135, 136, 137, 138, 139, 140, 141, 142, 143, 144, 145, 146, 147, 148, 149, 150, 151, 152, 153, 154, 155, 156, 157, 158, 159, 160, 161, 162, 163, 6, 164, 165, 166, 167, 168, 169, 170, 171, 172, 173, 174, 175, 176, 177, 178, 179, 180, 181, 182, 183, 184, 185, 186, 187, 188, 189, 190, 191, 192, 193, 194, 201, 202, 203, 204, 205, 206, 207, 208, 209, 210, 211, 212, 213, 214, 215, 216, 217, 220, 221, 222, 223, 224, 225, 226, 227, 228, 229, 230, 231, 232, 233, 234, 235, 236, 218, 219, 237, 238, 239, 240] (by decide +kernel) (by decide +kernel)
set_option maxRecDepth 20000 in
theorem gX8_trait_X8_readTrait : GoodIn wsX8_trait (wsV RX8 151 RX8 yX8_readTrait wsX8_readTrait) := goodIn_app (goodIn_of _ (by decide +kernel)) ggX8_trait_X8_readTrait
theorem dX8_trait_15 : decode cX8_trait 15 = .ok (.invokevirtual 151, 3) := by decide +kernel
theorem dX8_trait_18 : decode cX8_trait 18 = .ok (.istore_n 1, 1) := by decide +kernel
theorem dX8_trait_19 : decode cX8_trait 19 = .ok (.aload_n 0, 1) := by decide +kernel
theorem dX8_trait_20 : decode cX8_trait 20 = .ok (.getfield 30, 3) := by decide +kernel
theorem dX8_trait_23 : decode cX8_trait 23 = .ok (.iconst 0, 1) := by decide +kernel
theorem dX8_trait_24 : decode cX8_trait 24 = .ok (.putfield 142, 3) := by decide +kernel
theorem dX8_trait_27 : decode cX8_trait 27 = .ok (.aload_n 0, 1) := by decide +kernel
theorem dX8_trait_28 : decode cX8_trait 28 = .ok (.iload_n 1, 1) := by decide +kernel
set_option maxRecDepth 20000 in
theorem ggX8_trait_X8_settle : GoodIn wsX8_trait wsX8_settle := goodIn_r _ [198, 199, 31, 32, 33, 200, 201, 202, 203, 204, 205, 206, 207, 208, 209, 210, 211, 212, 213, 214, 215, 216, 217] (by decide +kernel) (by decide +kernel)
set_option maxRecDepth 20000 in
theorem gX8_trait_X8_settle : GoodIn wsX8_trait (wsV RX8 86 RX8 yX8_settle wsX8_settle) := goodIn_app (goodIn_of _ (by decide +kernel)) ggX8_trait_X8_settle
theorem dX8_trait_29 : decode cX8_trait 29 = .ok (.invokevirtual 86, 3) := by decide +kernel
theorem dX8_trait_32 : decode cX8_trait 32 = .ok (.ireturn, 1) := by decide +kernel
set_option maxHeartbeats 4000000 in
set_option maxRecDepth 100000 in
theorem c_X2_isLetterAt (l : Launch) (dC : Nat → ClassId) (dI : Nat → Nat → Nat) (sz : Nat) (adK : Nat → Nat) (adV : Nat → Nat) (hRea : Nat) (hTape : Nat) (aSt : Nat) (aB : Nat)  : Met l yX2_isLetterAt wsX2_isLetterAt ({ frames := 0, cells := 0, slots := 0, locals := 0 }) (va_Pc [.ref hRea, .int 0] (fun U => U.heap.size = sz ∧ va_P (dC, dI) vwCl [(hRea, .inr (2, [.ref hTape, .ref aSt, .int 0, .int 0, .int 0, .int 0, .int (-1), .int 0, .int 0])), (hTape, .inr (5, [.ref aB, .int 0]))] U.heap ∧ va_K (dC, dI) vwCl [] U ∧ va_D (fun _ => True) [(hRea, .inr (2, [.ref hTape, .ref aSt, .int 0, .int 0, .int 0, .int 0, .int (-1), .int 0, .int 0])), (hTape, .inr (5, [.ref aB, .int 0]))] ∧ st_ok adK adV (va_A [(hRea, .inr (2, [.ref hTape, .ref aSt, .int 0, .int 0, .int 0, .int 0, .int (-1), .int 0, .int 0])), (hTape, .inr (5, [.ref aB, .int 0]))] sz) U)) (va_Qi (fun (r : Int32) (_ : Unit) => r = 0) (fun (_ : Unit) (t : State) => va_P (dC, dI) vwCl [(hRea, .inr (2, [.ref hTape, .ref aSt, .int 0, .int 0, .int 0, .int 0, .int (-1), .int 0, .int 0])), (hTape, .inr (5, [.ref aB, .int 0]))] t.heap ∧ va_K (dC, dI) vwCl [] t ∧ va_D (va_A [(hRea, .inr (2, [.ref hTape, .ref aSt, .int 0, .int 0, .int 0, .int 0, .int (-1), .int 0, .int 0])), (hTape, .inr (5, [.ref aB, .int 0]))] sz) [(hRea, .inr (2, [.ref hTape, .ref aSt, .int 0, .int 0, .int 0, .int 0, .int (-1), .int 0, .int 0])), (hTape, .inr (5, [.ref aB, .int 0]))]) (va_A [(hRea, .inr (2, [.ref hTape, .ref aSt, .int 0, .int 0, .int 0, .int 0, .int (-1), .int 0, .int 0])), (hTape, .inr (5, [.ref aB, .int 0]))] sz)) 0 0 (va_A [(hRea, .inr (2, [.ref hTape, .ref aSt, .int 0, .int 0, .int 0, .int 0, .int (-1), .int 0, .int 0])), (hTape, .inr (5, [.ref aB, .int 0]))] sz) := by
  refine Met.ofW (cc := cX2_isLetterAt) (maxL := 2) (ret := (some .boolean)) (by decide) rfl ?_
  intro p e s m args below meth c s₁ B hml hv
  obtain ⟨rfl, hsz, hP, hK, hD0, hN⟩ := hv
  have hx := B.exec
  have hb := B.bytes
  have hr := B.returns
  have hts := atoms_spec (ws := wsX2_isLetterAt) B.pre
  have hown : s.vm.findClass RX2 = some m.cls := findClass_of_methodNamed B.named
  have hlocks := B.notSynchronized
  subst hsz
  have hD := hD0.self (sz := s.heap.size)
  generalize hAe : va_A [(hRea, .inr (2, [.ref hTape, .ref aSt, .int 0, .int 0, .int 0, .int 0, .int (-1), .int 0, .int 0])), (hTape, .inr (5, [.ref aB, .int 0]))] s.heap.size = A at hD hN ⊢
  have hSt := hN
  have hN := hSt.1
  have hA : ∀ q : Nat, s.heap.size ≤ q → A q := fun q h => by rw [← hAe]; exact Or.inr h
  have hS : va_S A s.heap s.heap [] := va_S.rf
  have hP : va_P (dC, dI) vwCl [(hRea, .inr (2, [.ref hTape, .ref aSt, .int 0, .int 0, .int 0, .int 0, .int (-1), .int 0, .int 0])), (hTape, .inr (5, [.ref aB, .int 0]))] s.heap := hP
  have hIX2 : ∀ w ∈ u_ws RX2 TX2 9, w ∈ wsX2_isLetterAt := by decide +kernel
  have hIX5 : ∀ w ∈ u_ws RX5 TX5 2, w ∈ wsX2_isLetterAt := by decide +kernel
  have hl := lv_entry ([.ref hRea, .int 0]) (n := 2) (Nat.le_of_ble_eq_true rfl)
  rw [lg_entry_eq]
  generalize (lg_sl ([.ref hRea, .int 0]) ++ List.replicate (2 - (lg_sl ([.ref hRea, .int 0])).length) Slot.unset).toArray = ls at hl ⊢
  have hl : lv_has ls 2 [(0, .ref hRea), (1, .int 0)] := hl
  refine lv_iload_n hx hb dX2_isLetterAt_0 rfl (lv_at hl 1 rfl) ?_
  refine lv_aload_n hx hb dX2_isLetterAt_1 rfl (lv_at hl 0 rfl) ?_
  refine va_get (D := (dC, dI)) (ci := 2) (v := .ref hTape) (C := RX2) (T := TX2) (N := 9) hx hb hts hIX2 hown hK hP 0 rfl rfl 0 (by decide) (hts (.fieldLink RX2 17 "TraitHouse$Reader" "tape" "LTraitHouse$Tape;") (by decide +kernel)) (fun _ h9 => h9) rfl dX2_isLetterAt_2 ?_
  refine va_getN (D := (dC, dI)) (ci := 5) (v := .int 0) (C := RX5) (T := TX5) (N := 2) hx hb hts hIX5 hown hK hP 1 rfl rfl 1 (by decide) (va_Nw.use rfl (nw_at hN 9 rfl)) (fun _ h9 => h9) rfl dX2_isLetterAt_5 ?_
  refine lv_icmp_ge (tgt := 43) hx hb dX2_isLetterAt_8 (by decide) (fun c_1 => ?_) (fun c_1 => absurd (by decide) c_1)
  refine lv_iconst (v := 0) hx hb dX2_isLetterAt_43 (by decide) ?_
  have hP9 := hP.sub (ws' := [(hRea, .inr (2, [.ref hTape, .ref aSt, .int 0, .int 0, .int 0, .int 0, .int (-1), .int 0, .int 0])), (hTape, .inr (5, [.ref aB, .int 0]))]) [0, 1] rfl
  have hD9 := hD.sub (ws' := [(hRea, .inr (2, [.ref hTape, .ref aSt, .int 0, .int 0, .int 0, .int 0, .int (-1), .int 0, .int 0])), (hTape, .inr (5, [.ref aB, .int 0]))]) [0, 1] (by decide) rfl
  have hK9 := hK.sub (tys' := []) [] rfl
  exact W.zret (v := 0) hx hb hr (by decide) (fun t ht hW => ⟨⟨0, (), rfl, rfl, by rw [ht]; exact hP9, va_K.moved hW.alike hK9, hD9⟩, hS.F ht⟩) hS.2.2 dX2_isLetterAt_44

set_option maxHeartbeats 4000000 in
set_option maxRecDepth 100000 in
theorem c_X2_isDigitAt (l : Launch) (dC : Nat → ClassId) (dI : Nat → Nat → Nat) (sz : Nat) (adK : Nat → Nat) (adV : Nat → Nat) (hRea : Nat) (hTape : Nat) (aSt : Nat) (aB : Nat)  : Met l yX2_isDigitAt wsX2_isDigitAt ({ frames := 0, cells := 0, slots := 0, locals := 0 }) (va_Pc [.ref hRea, .int 0] (fun U => U.heap.size = sz ∧ va_P (dC, dI) vwCl [(hRea, .inr (2, [.ref hTape, .ref aSt, .int 0, .int 0, .int 0, .int 0, .int (-1), .int 0, .int 0])), (hTape, .inr (5, [.ref aB, .int 0]))] U.heap ∧ va_K (dC, dI) vwCl [] U ∧ va_D (fun _ => True) [(hRea, .inr (2, [.ref hTape, .ref aSt, .int 0, .int 0, .int 0, .int 0, .int (-1), .int 0, .int 0])), (hTape, .inr (5, [.ref aB, .int 0]))] ∧ st_ok adK adV (va_A [(hRea, .inr (2, [.ref hTape, .ref aSt, .int 0, .int 0, .int 0, .int 0, .int (-1), .int 0, .int 0])), (hTape, .inr (5, [.ref aB, .int 0]))] sz) U)) (va_Qi (fun (r : Int32) (_ : Unit) => r = 0) (fun (_ : Unit) (t : State) => va_P (dC, dI) vwCl [(hRea, .inr (2, [.ref hTape, .ref aSt, .int 0, .int 0, .int 0, .int 0, .int (-1), .int 0, .int 0])), (hTape, .inr (5, [.ref aB, .int 0]))] t.heap ∧ va_K (dC, dI) vwCl [] t ∧ va_D (va_A [(hRea, .inr (2, [.ref hTape, .ref aSt, .int 0, .int 0, .int 0, .int 0, .int (-1), .int 0, .int 0])), (hTape, .inr (5, [.ref aB, .int 0]))] sz) [(hRea, .inr (2, [.ref hTape, .ref aSt, .int 0, .int 0, .int 0, .int 0, .int (-1), .int 0, .int 0])), (hTape, .inr (5, [.ref aB, .int 0]))]) (va_A [(hRea, .inr (2, [.ref hTape, .ref aSt, .int 0, .int 0, .int 0, .int 0, .int (-1), .int 0, .int 0])), (hTape, .inr (5, [.ref aB, .int 0]))] sz)) 0 0 (va_A [(hRea, .inr (2, [.ref hTape, .ref aSt, .int 0, .int 0, .int 0, .int 0, .int (-1), .int 0, .int 0])), (hTape, .inr (5, [.ref aB, .int 0]))] sz) := by
  refine Met.ofW (cc := cX2_isDigitAt) (maxL := 2) (ret := (some .boolean)) (by decide) rfl ?_
  intro p e s m args below meth c s₁ B hml hv
  obtain ⟨rfl, hsz, hP, hK, hD0, hN⟩ := hv
  have hx := B.exec
  have hb := B.bytes
  have hr := B.returns
  have hts := atoms_spec (ws := wsX2_isDigitAt) B.pre
  have hown : s.vm.findClass RX2 = some m.cls := findClass_of_methodNamed B.named
  have hlocks := B.notSynchronized
  subst hsz
  have hD := hD0.self (sz := s.heap.size)
  generalize hAe : va_A [(hRea, .inr (2, [.ref hTape, .ref aSt, .int 0, .int 0, .int 0, .int 0, .int (-1), .int 0, .int 0])), (hTape, .inr (5, [.ref aB, .int 0]))] s.heap.size = A at hD hN ⊢
  have hSt := hN
  have hN := hSt.1
  have hA : ∀ q : Nat, s.heap.size ≤ q → A q := fun q h => by rw [← hAe]; exact Or.inr h
  have hS : va_S A s.heap s.heap [] := va_S.rf
  have hP : va_P (dC, dI) vwCl [(hRea, .inr (2, [.ref hTape, .ref aSt, .int 0, .int 0, .int 0, .int 0, .int (-1), .int 0, .int 0])), (hTape, .inr (5, [.ref aB, .int 0]))] s.heap := hP
  have hIX2 : ∀ w ∈ u_ws RX2 TX2 9, w ∈ wsX2_isDigitAt := by decide +kernel
  have hIX5 : ∀ w ∈ u_ws RX5 TX5 2, w ∈ wsX2_isDigitAt := by decide +kernel
  have hl := lv_entry ([.ref hRea, .int 0]) (n := 2) (Nat.le_of_ble_eq_true rfl)
  rw [lg_entry_eq]
  generalize (lg_sl ([.ref hRea, .int 0]) ++ List.replicate (2 - (lg_sl ([.ref hRea, .int 0])).length) Slot.unset).toArray = ls at hl ⊢
  have hl : lv_has ls 2 [(0, .ref hRea), (1, .int 0)] := hl
  refine lv_iload_n hx hb dX2_isDigitAt_0 rfl (lv_at hl 1 rfl) ?_
  refine lv_aload_n hx hb dX2_isDigitAt_1 rfl (lv_at hl 0 rfl) ?_
  refine va_get (D := (dC, dI)) (ci := 2) (v := .ref hTape) (C := RX2) (T := TX2) (N := 9) hx hb hts hIX2 hown hK hP 0 rfl rfl 0 (by decide) (hts (.fieldLink RX2 17 "TraitHouse$Reader" "tape" "LTraitHouse$Tape;") (by decide +kernel)) (fun _ h9 => h9) rfl dX2_isDigitAt_2 ?_
  refine va_getN (D := (dC, dI)) (ci := 5) (v := .int 0) (C := RX5) (T := TX5) (N := 2) hx hb hts hIX5 hown hK hP 1 rfl rfl 1 (by decide) (va_Nw.use rfl (nw_at hN 9 rfl)) (fun _ h9 => h9) rfl dX2_isDigitAt_5 ?_
  refine lv_icmp_ge (tgt := 43) hx hb dX2_isDigitAt_8 (by decide) (fun c_1 => ?_) (fun c_1 => absurd (by decide) c_1)
  refine lv_iconst (v := 0) hx hb dX2_isDigitAt_43 (by decide) ?_
  have hP9 := hP.sub (ws' := [(hRea, .inr (2, [.ref hTape, .ref aSt, .int 0, .int 0, .int 0, .int 0, .int (-1), .int 0, .int 0])), (hTape, .inr (5, [.ref aB, .int 0]))]) [0, 1] rfl
  have hD9 := hD.sub (ws' := [(hRea, .inr (2, [.ref hTape, .ref aSt, .int 0, .int 0, .int 0, .int 0, .int (-1), .int 0, .int 0])), (hTape, .inr (5, [.ref aB, .int 0]))]) [0, 1] (by decide) rfl
  have hK9 := hK.sub (tys' := []) [] rfl
  exact W.zret (v := 0) hx hb hr (by decide) (fun t ht hW => ⟨⟨0, (), rfl, rfl, by rw [ht]; exact hP9, va_K.moved hW.alike hK9, hD9⟩, hS.F ht⟩) hS.2.2 dX2_isDigitAt_44

set_option maxHeartbeats 4000000 in
set_option maxRecDepth 100000 in
theorem c_X2_stop (l : Launch) (dC : Nat → ClassId) (dI : Nat → Nat → Nat) (sz : Nat) (adK : Nat → Nat) (adV : Nat → Nat) (hRea : Nat) (hTape : Nat) (aSt : Nat) (aB : Nat)  : Met l yX2_stop wsX2_stop ({ frames := 0, cells := 0, slots := 0, locals := 0 }) (va_Pc [.ref hRea] (fun U => U.heap.size = sz ∧ va_P (dC, dI) vwCl [(hRea, .inr (2, [.ref hTape, .ref aSt, .int 0, .int 0, .int 0, .int 0, .int (-1), .int 0, .int 0])), (hTape, .inr (5, [.ref aB, .int 0]))] U.heap ∧ va_K (dC, dI) vwCl [] U ∧ va_D (fun _ => True) [(hRea, .inr (2, [.ref hTape, .ref aSt, .int 0, .int 0, .int 0, .int 0, .int (-1), .int 0, .int 0])), (hTape, .inr (5, [.ref aB, .int 0]))] ∧ st_ok adK adV (va_A [(hRea, .inr (2, [.ref hTape, .ref aSt, .int 0, .int 0, .int 0, .int 0, .int (-1), .int 0, .int 0])), (hTape, .inr (5, [.ref aB, .int 0]))] sz) U)) (va_Qi (fun (r : Int32) (_ : Unit) => r = 0) (fun (_ : Unit) (t : State) => va_P (dC, dI) vwCl [(hRea, .inr (2, [.ref hTape, .ref aSt, .int 0, .int 0, .int 0, .int 0, .int 0, .int 0, .int 0])), (hTape, .inr (5, [.ref aB, .int 0]))] t.heap ∧ va_K (dC, dI) vwCl [] t ∧ va_D (va_A [(hRea, .inr (2, [.ref hTape, .ref aSt, .int 0, .int 0, .int 0, .int 0, .int (-1), .int 0, .int 0])), (hTape, .inr (5, [.ref aB, .int 0]))] sz) [(hRea, .inr (2, [.ref hTape, .ref aSt, .int 0, .int 0, .int 0, .int 0, .int 0, .int 0, .int 0])), (hTape, .inr (5, [.ref aB, .int 0]))]) (va_A [(hRea, .inr (2, [.ref hTape, .ref aSt, .int 0, .int 0, .int 0, .int 0, .int (-1), .int 0, .int 0])), (hTape, .inr (5, [.ref aB, .int 0]))] sz)) 0 0 (va_A [(hRea, .inr (2, [.ref hTape, .ref aSt, .int 0, .int 0, .int 0, .int 0, .int (-1), .int 0, .int 0])), (hTape, .inr (5, [.ref aB, .int 0]))] sz) := by
  refine Met.ofW (cc := cX2_stop) (maxL := 1) (ret := (some .boolean)) (by decide) rfl ?_
  intro p e s m args below meth c s₁ B hml hv
  obtain ⟨rfl, hsz, hP, hK, hD0, hN⟩ := hv
  have hx := B.exec
  have hb := B.bytes
  have hr := B.returns
  have hts := atoms_spec (ws := wsX2_stop) B.pre
  have hown : s.vm.findClass RX2 = some m.cls := findClass_of_methodNamed B.named
  have hlocks := B.notSynchronized
  subst hsz
  have hD := hD0.self (sz := s.heap.size)
  generalize hAe : va_A [(hRea, .inr (2, [.ref hTape, .ref aSt, .int 0, .int 0, .int 0, .int 0, .int (-1), .int 0, .int 0])), (hTape, .inr (5, [.ref aB, .int 0]))] s.heap.size = A at hD hN ⊢
  have hSt := hN
  have hN := hSt.1
  have hA : ∀ q : Nat, s.heap.size ≤ q → A q := fun q h => by rw [← hAe]; exact Or.inr h
  have hS : va_S A s.heap s.heap [] := va_S.rf
  have hP : va_P (dC, dI) vwCl [(hRea, .inr (2, [.ref hTape, .ref aSt, .int 0, .int 0, .int 0, .int 0, .int (-1), .int 0, .int 0])), (hTape, .inr (5, [.ref aB, .int 0]))] s.heap := hP
  have hIX2 : ∀ w ∈ u_ws RX2 TX2 9, w ∈ wsX2_stop := by decide +kernel
  have hl := lv_entry ([.ref hRea]) (n := 1) (Nat.le_of_ble_eq_true rfl)
  rw [lg_entry_eq]
  generalize (lg_sl ([.ref hRea]) ++ List.replicate (1 - (lg_sl ([.ref hRea])).length) Slot.unset).toArray = ls at hl ⊢
  have hl : lv_has ls 1 [(0, .ref hRea)] := hl
  refine lv_aload_n hx hb dX2_stop_0 rfl (lv_at hl 0 rfl) ?_
  refine lv_aload_n hx hb dX2_stop_1 rfl (lv_at hl 0 rfl) ?_
  refine va_get (D := (dC, dI)) (ci := 2) (v := .int 0) (C := RX2) (T := TX2) (N := 9) hx hb hts hIX2 hown hK hP 0 rfl rfl 3 (by decide) (hts (.fieldLink RX2 48 "TraitHouse$Reader" "place" "I") (by decide +kernel)) (fun _ h9 => h9) rfl dX2_stop_2 ?_
  refine va_put (D := (dC, dI)) (ci := 2) (v := .int 0) (ty := .int) (C := RX2) (T := TX2) (N := 9) hx hb hts hIX2 tyX2 tyX2_ok nmX2 hown hK hP hD hS 0 rfl rfl 6 (by decide) (hts (.fieldLink RX2 31 "TraitHouse$Reader" "fault" "I") (by decide +kernel)) (fun _ h9 => h9) rfl (by decide +kernel) rfl rfl (Nat.le_of_ble_eq_true rfl) dX2_stop_5 (fun H locs hP hD hS => ?_)
  have hP : va_P (dC, dI) vwCl [(hRea, .inr (2, [.ref hTape, .ref aSt, .int 0, .int 0, .int 0, .int 0, .int 0, .int 0, .int 0])), (hTape, .inr (5, [.ref aB, .int 0]))] H := hP
  have hD : va_D A [(hRea, .inr (2, [.ref hTape, .ref aSt, .int 0, .int 0, .int 0, .int 0, .int 0, .int 0, .int 0])), (hTape, .inr (5, [.ref aB, .int 0]))] := hD
  refine lv_iconst (v := 0) hx hb dX2_stop_8 (by decide) ?_
  have hP9 := hP.sub (ws' := [(hRea, .inr (2, [.ref hTape, .ref aSt, .int 0, .int 0, .int 0, .int 0, .int 0, .int 0, .int 0])), (hTape, .inr (5, [.ref aB, .int 0]))]) [0, 1] rfl
  have hD9 := hD.sub (ws' := [(hRea, .inr (2, [.ref hTape, .ref aSt, .int 0, .int 0, .int 0, .int 0, .int 0, .int 0, .int 0])), (hTape, .inr (5, [.ref aB, .int 0]))]) [0, 1] (by decide) rfl
  have hK9 := hK.sub (tys' := []) [] rfl
  exact W.zret (v := 0) hx hb hr (by decide) (fun t ht hW => ⟨⟨0, (), rfl, rfl, by rw [ht]; exact hP9, va_K.moved hW.alike hK9, hD9⟩, hS.F ht⟩) hS.2.2 dX2_stop_9

set_option maxHeartbeats 4000000 in
set_option maxRecDepth 100000 in
theorem c_X2_advance (l : Launch) (dC : Nat → ClassId) (dI : Nat → Nat → Nat) (sz : Nat) (adK : Nat → Nat) (adV : Nat → Nat) (hRea : Nat) (hTape : Nat) (aSt : Nat) (aB : Nat) (vPl : Int32)  : Met l yX2_advance wsX2_advance ({ frames := 1, cells := 0, slots := 0, locals := 21 }) (va_Pc [.ref hRea] (fun U => U.heap.size = sz ∧ va_P (dC, dI) vwCl [(hRea, .inr (2, [.ref hTape, .ref aSt, .int 0, .int vPl, .int 0, .int 0, .int (-1), .int 0, .int 0])), (hTape, .inr (5, [.ref aB, .int 0]))] U.heap ∧ va_K (dC, dI) vwCl [] U ∧ va_D (fun _ => True) [(hRea, .inr (2, [.ref hTape, .ref aSt, .int 0, .int vPl, .int 0, .int 0, .int (-1), .int 0, .int 0])), (hTape, .inr (5, [.ref aB, .int 0]))] ∧ st_ok adK adV (va_A [(hRea, .inr (2, [.ref hTape, .ref aSt, .int 0, .int vPl, .int 0, .int 0, .int (-1), .int 0, .int 0])), (hTape, .inr (5, [.ref aB, .int 0]))] sz) U)) (va_Qv (fun (_ : Unit) => True) (fun (_ : Unit) (t : State) => va_P (dC, dI) vwCl [(hRea, .inr (2, [.ref hTape, .ref aSt, .int 0, .int 0, .int 0, .int 0, .int (-1), .int 0, .int 0])), (hTape, .inr (5, [.ref aB, .int 0]))] t.heap ∧ va_K (dC, dI) vwCl [] t ∧ va_D (va_A [(hRea, .inr (2, [.ref hTape, .ref aSt, .int 0, .int vPl, .int 0, .int 0, .int (-1), .int 0, .int 0])), (hTape, .inr (5, [.ref aB, .int 0]))] sz) [(hRea, .inr (2, [.ref hTape, .ref aSt, .int 0, .int 0, .int 0, .int 0, .int (-1), .int 0, .int 0])), (hTape, .inr (5, [.ref aB, .int 0]))]) (va_A [(hRea, .inr (2, [.ref hTape, .ref aSt, .int 0, .int vPl, .int 0, .int 0, .int (-1), .int 0, .int 0])), (hTape, .inr (5, [.ref aB, .int 0]))] sz)) 0 0 (va_A [(hRea, .inr (2, [.ref hTape, .ref aSt, .int 0, .int vPl, .int 0, .int 0, .int (-1), .int 0, .int 0])), (hTape, .inr (5, [.ref aB, .int 0]))] sz) := by
  refine Met.ofW (cc := cX2_advance) (maxL := 3) (ret := none) (by decide) rfl ?_
  intro p e s m args below meth c s₁ B hml hv
  obtain ⟨rfl, hsz, hP, hK, hD0, hN⟩ := hv
  have hx := B.exec
  have hb := B.bytes
  have hr := B.returns
  have hts := atoms_spec (ws := wsX2_advance) B.pre
  have hown : s.vm.findClass RX2 = some m.cls := findClass_of_methodNamed B.named
  have hlocks := B.notSynchronized
  subst hsz
  have hD := hD0.self (sz := s.heap.size)
  generalize hAe : va_A [(hRea, .inr (2, [.ref hTape, .ref aSt, .int 0, .int vPl, .int 0, .int 0, .int (-1), .int 0, .int 0])), (hTape, .inr (5, [.ref aB, .int 0]))] s.heap.size = A at hD hN ⊢
  have hSt := hN
  have hN := hSt.1
  have hA : ∀ q : Nat, s.heap.size ≤ q → A q := fun q h => by rw [← hAe]; exact Or.inr h
  have hS : va_S A s.heap s.heap [] := va_S.rf
  have hP : va_P (dC, dI) vwCl [(hRea, .inr (2, [.ref hTape, .ref aSt, .int 0, .int vPl, .int 0, .int 0, .int (-1), .int 0, .int 0])), (hTape, .inr (5, [.ref aB, .int 0]))] s.heap := hP
  have hIX2 : ∀ w ∈ u_ws RX2 TX2 9, w ∈ wsX2_advance := by decide +kernel
  have hIX5 : ∀ w ∈ u_ws RX5 TX5 2, w ∈ wsX2_advance := by decide +kernel
  have hl := lv_entry ([.ref hRea]) (n := 3) (Nat.le_of_ble_eq_true rfl)
  rw [lg_entry_eq]
  generalize (lg_sl ([.ref hRea]) ++ List.replicate (3 - (lg_sl ([.ref hRea])).length) Slot.unset).toArray = ls at hl ⊢
  have hl : lv_has ls 3 [(0, .ref hRea)] := hl
  refine lv_aload_n hx hb dX2_advance_0 rfl (lv_at hl 0 rfl) ?_
  refine lv_aload_n hx hb dX2_advance_1 rfl (lv_at hl 0 rfl) ?_
  refine va_get (D := (dC, dI)) (ci := 2) (v := .int 0) (C := RX2) (T := TX2) (N := 9) hx hb hts hIX2 hown hK hP 0 rfl rfl 4 (by decide) (hts (.fieldLink RX2 25 "TraitHouse$Reader" "behind" "I") (by decide +kernel)) (fun _ h9 => h9) rfl dX2_advance_2 ?_
  refine va_put (D := (dC, dI)) (ci := 2) (v := .int 0) (ty := .int) (C := RX2) (T := TX2) (N := 9) hx hb hts hIX2 tyX2 tyX2_ok nmX2 hown hK hP hD hS 0 rfl rfl 3 (by decide) (hts (.fieldLink RX2 48 "TraitHouse$Reader" "place" "I") (by decide +kernel)) (fun _ h9 => h9) rfl (by decide +kernel) rfl rfl (Nat.le_of_ble_eq_true rfl) dX2_advance_5 (fun H locs hP hD hS => ?_)
  have hP : va_P (dC, dI) vwCl [(hRea, .inr (2, [.ref hTape, .ref aSt, .int 0, .int 0, .int 0, .int 0, .int (-1), .int 0, .int 0])), (hTape, .inr (5, [.ref aB, .int 0]))] H := hP
  have hD : va_D A [(hRea, .inr (2, [.ref hTape, .ref aSt, .int 0, .int 0, .int 0, .int 0, .int (-1), .int 0, .int 0])), (hTape, .inr (5, [.ref aB, .int 0]))] := hD
  refine lv_aload_n hx hb dX2_advance_8 rfl (lv_at hl 0 rfl) ?_
  refine va_get (D := (dC, dI)) (ci := 2) (v := .int 0) (C := RX2) (T := TX2) (N := 9) hx hb hts hIX2 hown hK hP 0 rfl rfl 3 (by decide) (hts (.fieldLink RX2 48 "TraitHouse$Reader" "place" "I") (by decide +kernel)) (fun _ h9 => h9) rfl dX2_advance_9 ?_
  refine lv_aload_n hx hb dX2_advance_12 rfl (lv_at hl 0 rfl) ?_
  refine va_get (D := (dC, dI)) (ci := 2) (v := .ref hTape) (C := RX2) (T := TX2) (N := 9) hx hb hts hIX2 hown hK hP 0 rfl rfl 0 (by decide) (hts (.fieldLink RX2 17 "TraitHouse$Reader" "tape" "LTraitHouse$Tape;") (by decide +kernel)) (fun _ h9 => h9) rfl dX2_advance_13 ?_
  refine va_getN (D := (dC, dI)) (ci := 5) (v := .int 0) (C := RX5) (T := TX5) (N := 2) hx hb hts hIX5 hown hK hP 1 rfl rfl 1 (by decide) (va_Nw.use rfl (nw_at hN 9 rfl)) (fun _ h9 => h9) rfl dX2_advance_16 ?_
  refine lv_icmp_ge (tgt := 52) hx hb dX2_advance_19 (by decide) (fun c_1 => ?_) (fun c_1 => absurd (by decide) c_1)
  refine lv_aload_n hx hb dX2_advance_52 rfl (lv_at hl 0 rfl) ?_
  refine lv_aload_n hx hb dX2_advance_53 rfl (lv_at hl 0 rfl) ?_
  refine va_get (D := (dC, dI)) (ci := 2) (v := .int 0) (C := RX2) (T := TX2) (N := 9) hx hb hts hIX2 hown hK hP 0 rfl rfl 3 (by decide) (hts (.fieldLink RX2 48 "TraitHouse$Reader" "place" "I") (by decide +kernel)) (fun _ h9 => h9) rfl dX2_advance_54 ?_
  refine lv_iconst (v := 1) hx hb dX2_advance_57 (by decide) ?_
  refine lv_iadd hx hb dX2_advance_58 ?_
  refine lv_topi (fun x_2 ex_2 => ?_)
  obtain rfl : x_2 = 1 := ex_2.trans (by decide)
  refine lv_aload_n hx hb dX2_advance_59 rfl (lv_at hl 0 rfl) ?_
  refine va_get (D := (dC, dI)) (ci := 2) (v := .ref hTape) (C := RX2) (T := TX2) (N := 9) hx hb hts hIX2 hown hK hP 0 rfl rfl 0 (by decide) (hts (.fieldLink RX2 17 "TraitHouse$Reader" "tape" "LTraitHouse$Tape;") (by decide +kernel)) (fun _ h9 => h9) rfl dX2_advance_60 ?_
  refine va_getN (D := (dC, dI)) (ci := 5) (v := .int 0) (C := RX5) (T := TX5) (N := 2) hx hb hts hIX5 hown hK hP 1 rfl rfl 1 (by decide) (va_Nw.use rfl (nw_at hN 9 rfl)) (fun _ h9 => h9) rfl dX2_advance_63 ?_
  refine va_mmin hx hb (by rw [hml]; exact hl.1.symm) hown (hts (.methodLink RX2 150 Lib.Math.min.name) (by decide +kernel)) (hts (.static Lib.Math.min.name) (by decide +kernel)) (hts (.initialized "java/lang/Math") (by decide +kernel)) (hts (.code Lib.Math.min.name Lib.Math.min.code 2 (some .int)) (by decide +kernel)) (Nat.le_of_ble_eq_true rfl) (Nat.le_of_ble_eq_true rfl) (Nat.le_of_ble_eq_true rfl) (Nat.le_of_ble_eq_true rfl) dX2_advance_66 ?_
  refine lv_topi (fun x_3 ex_3 => ?_)
  obtain rfl : x_3 = 0 := ex_3.trans (by decide)
  refine va_put (D := (dC, dI)) (ci := 2) (v := .int 0) (ty := .int) (C := RX2) (T := TX2) (N := 9) hx hb hts hIX2 tyX2 tyX2_ok nmX2 hown hK hP hD hS 0 rfl rfl 4 (by decide) (hts (.fieldLink RX2 25 "TraitHouse$Reader" "behind" "I") (by decide +kernel)) (fun _ h9 => h9) rfl (by decide +kernel) rfl rfl (Nat.le_of_ble_eq_true rfl) dX2_advance_69 (fun H locs hP hD hS => ?_)
  have hP : va_P (dC, dI) vwCl [(hRea, .inr (2, [.ref hTape, .ref aSt, .int 0, .int 0, .int 0, .int 0, .int (-1), .int 0, .int 0])), (hTape, .inr (5, [.ref aB, .int 0]))] H := hP
  have hD : va_D A [(hRea, .inr (2, [.ref hTape, .ref aSt, .int 0, .int 0, .int 0, .int 0, .int (-1), .int 0, .int 0])), (hTape, .inr (5, [.ref aB, .int 0]))] := hD
  refine lv_aload_n hx hb dX2_advance_72 rfl (lv_at hl 0 rfl) ?_
  refine lv_aload_n hx hb dX2_advance_73 rfl (lv_at hl 0 rfl) ?_
  refine va_get (D := (dC, dI)) (ci := 2) (v := .int 0) (C := RX2) (T := TX2) (N := 9) hx hb hts hIX2 hown hK hP 0 rfl rfl 3 (by decide) (hts (.fieldLink RX2 48 "TraitHouse$Reader" "place" "I") (by decide +kernel)) (fun _ h9 => h9) rfl dX2_advance_74 ?_
  have hk_4 : (0 : Int32).toInt = 0 := by decide
  have hPc := hP.sub (ws' := [(hRea, .inr (2, [.ref hTape, .ref aSt, .int 0, .int 0, .int 0, .int 0, .int (-1), .int 0, .int 0])), (hTape, .inr (5, [.ref aB, .int 0]))]) [0, 1] rfl
  have hDc := hD.sub (ws' := [(hRea, .inr (2, [.ref hTape, .ref aSt, .int 0, .int 0, .int 0, .int 0, .int (-1), .int 0, .int 0])), (hTape, .inr (5, [.ref aB, .int 0]))]) [0, 1] (by decide) rfl
  have hKc := hK.sub (tys' := []) [] rfl
  have hFc := va_free (wc := [(hRea, .inr (2, [.ref hTape, .ref aSt, .int 0, .int 0, .int 0, .int 0, .int (-1), .int 0, .int 0])), (hTape, .inr (5, [.ref aB, .int 0]))]) hD hS hA [0, 1] rfl
  refine va_calli (va_runV (As := [.int 0]) (rest := []) ⟨hx, hb, hml, hown, hts⟩ (c_X2_isLetterAt l dC dI H.size adK adV hRea hTape aSt aB ) (cwV 1 hts gX2_advance_X2_isLetterAt rfl rfl rfl (by decide +kernel) ⟨Nat.le_of_ble_eq_true rfl, Nat.le_of_ble_eq_true rfl⟩) ⟨fun a U g mk q => by obtain ⟨q0, q1, qP, qK, qD, qN⟩ := q; exact ⟨q0, q1, qP, va_K.moved (u := U) (U := U.calling g mk a) (Vm.Alike.refl U.vm) qK, qD, qN.same rfl rfl⟩, va_recv hKc hPc (ci := 2) (q0 := 0) rfl rfl, fun U hU hW => ⟨rfl, by rw [hU], by rw [hU]; exact hPc, va_K.moved hW.alike hKc, hDc.weaken (fun _ _ _ _ => trivial), hSt.call hS hU hW hFc⟩⟩ rfl rfl hl.1 rfl (lv_room (Nat.le_of_ble_eq_true rfl)) dX2_advance_77 ⟨Nat.le_of_ble_eq_true rfl, Nat.le_of_ble_eq_true rfl⟩) hS (fun q _ h => hFc q h) hFc (fun r_5 u_6 t H1 locs ht hvm hw_7 hB hz1 hk1 hS => ?_)
  try dsimp only at hw_7
  obtain ⟨hP1, hK1, hD1⟩ := hB
  rw [ht] at hP1
  have hK1 := va_K.moved hvm.symm hK1
  obtain ⟨hP, hD⟩ := va_join (wr := []) (w1 := [(hRea, .inr (2, [.ref hTape, .ref aSt, .int 0, .int 0, .int 0, .int 0, .int (-1), .int 0, .int 0])), (hTape, .inr (5, [.ref aB, .int 0]))]) hP hD [0, 1] [] rfl rfl (by decide) (by decide) hk1 hFc hP1 hD1
  have hK := (hK.sub (tys' := []) [] rfl).app hK1
  generalize H1 = H at hP hS ⊢
  have hP : va_P (dC, dI) vwCl [(hRea, .inr (2, [.ref hTape, .ref aSt, .int 0, .int 0, .int 0, .int 0, .int (-1), .int 0, .int 0])), (hTape, .inr (5, [.ref aB, .int 0]))] H := hP
  have hD : va_D A [(hRea, .inr (2, [.ref hTape, .ref aSt, .int 0, .int 0, .int 0, .int 0, .int (-1), .int 0, .int 0])), (hTape, .inr (5, [.ref aB, .int 0]))] := hD
  have hK : va_K (dC, dI) vwCl [] s := hK
  obtain rfl : 0 = r_5 := hw_7.symm
  refine lv_istore_n (lv' := [(1, .int 0), (0, .ref hRea)]) hx hb dX2_advance_80 rfl hl (by decide) rfl (fun ls hl => ?_)
  refine lv_aload_n hx hb dX2_advance_81 rfl (lv_at hl 1 rfl) ?_
  refine lv_aload_n hx hb dX2_advance_82 rfl (lv_at hl 1 rfl) ?_
  refine va_get (D := (dC, dI)) (ci := 2) (v := .int 0) (C := RX2) (T := TX2) (N := 9) hx hb hts hIX2 hown hK hP 0 rfl rfl 3 (by decide) (hts (.fieldLink RX2 48 "TraitHouse$Reader" "place" "I") (by decide +kernel)) (fun _ h9 => h9) rfl dX2_advance_83 ?_
  have hk_8 : (0 : Int32).toInt = 0 := by decide
  have hPc := hP.sub (ws' := [(hRea, .inr (2, [.ref hTape, .ref aSt, .int 0, .int 0, .int 0, .int 0, .int (-1), .int 0, .int 0])), (hTape, .inr (5, [.ref aB, .int 0]))]) [0, 1] rfl
  have hDc := hD.sub (ws' := [(hRea, .inr (2, [.ref hTape, .ref aSt, .int 0, .int 0, .int 0, .int 0, .int (-1), .int 0, .int 0])), (hTape, .inr (5, [.ref aB, .int 0]))]) [0, 1] (by decide) rfl
  have hKc := hK.sub (tys' := []) [] rfl
  have hFc := va_free (wc := [(hRea, .inr (2, [.ref hTape, .ref aSt, .int 0, .int 0, .int 0, .int 0, .int (-1), .int 0, .int 0])), (hTape, .inr (5, [.ref aB, .int 0]))]) hD hS hA [0, 1] rfl
  refine va_calli (va_runV (As := [.int 0]) (rest := []) ⟨hx, hb, hml, hown, hts⟩ (c_X2_isDigitAt l dC dI H.size adK adV hRea hTape aSt aB ) (cwV 1 hts gX2_advance_X2_isDigitAt rfl rfl rfl (by decide +kernel) ⟨Nat.le_of_ble_eq_true rfl, Nat.le_of_ble_eq_true rfl⟩) ⟨fun a U g mk q => by obtain ⟨q0, q1, qP, qK, qD, qN⟩ := q; exact ⟨q0, q1, qP, va_K.moved (u := U) (U := U.calling g mk a) (Vm.Alike.refl U.vm) qK, qD, qN.same rfl rfl⟩, va_recv hKc hPc (ci := 2) (q0 := 0) rfl rfl, fun U hU hW => ⟨rfl, by rw [hU], by rw [hU]; exact hPc, va_K.moved hW.alike hKc, hDc.weaken (fun _ _ _ _ => trivial), hSt.call hS hU hW hFc⟩⟩ rfl rfl hl.1 rfl (lv_room (Nat.le_of_ble_eq_true rfl)) dX2_advance_86 ⟨Nat.le_of_ble_eq_true rfl, Nat.le_of_ble_eq_true rfl⟩) hS (fun q _ h => hFc q h) hFc (fun r_9 u_10 t H1 locs ht hvm hw_11 hB hz1 hk1 hS => ?_)
  try dsimp only at hw_11
  obtain ⟨hP1, hK1, hD1⟩ := hB
  rw [ht] at hP1
  have hK1 := va_K.moved hvm.symm hK1
  obtain ⟨hP, hD⟩ := va_join (wr := []) (w1 := [(hRea, .inr (2, [.ref hTape, .ref aSt, .int 0, .int 0, .int 0, .int 0, .int (-1), .int 0, .int 0])), (hTape, .inr (5, [.ref aB, .int 0]))]) hP hD [0, 1] [] rfl rfl (by decide) (by decide) hk1 hFc hP1 hD1
  have hK := (hK.sub (tys' := []) [] rfl).app hK1
  generalize H1 = H at hP hS ⊢
  have hP : va_P (dC, dI) vwCl [(hRea, .inr (2, [.ref hTape, .ref aSt, .int 0, .int 0, .int 0, .int 0, .int (-1), .int 0, .int 0])), (hTape, .inr (5, [.ref aB, .int 0]))] H := hP
  have hD : va_D A [(hRea, .inr (2, [.ref hTape, .ref aSt, .int 0, .int 0, .int 0, .int 0, .int (-1), .int 0, .int 0])), (hTape, .inr (5, [.ref aB, .int 0]))] := hD
  have hK : va_K (dC, dI) vwCl [] s := hK
  obtain rfl : 0 = r_9 := hw_11.symm
  refine lv_istore_n (lv' := [(2, .int 0), (1, .int 0), (0, .ref hRea)]) hx hb dX2_advance_89 rfl hl (by decide) rfl (fun ls hl => ?_)
  refine lv_aload_n hx hb dX2_advance_90 rfl (lv_at hl 2 rfl) ?_
  refine va_get (D := (dC, dI)) (ci := 2) (v := .int 0) (C := RX2) (T := TX2) (N := 9) hx hb hts hIX2 hown hK hP 0 rfl rfl 4 (by decide) (hts (.fieldLink RX2 25 "TraitHouse$Reader" "behind" "I") (by decide +kernel)) (fun _ h9 => h9) rfl dX2_advance_91 ?_
  refine lv_aload_n hx hb dX2_advance_94 rfl (lv_at hl 2 rfl) ?_
  refine va_get (D := (dC, dI)) (ci := 2) (v := .ref hTape) (C := RX2) (T := TX2) (N := 9) hx hb hts hIX2 hown hK hP 0 rfl rfl 0 (by decide) (hts (.fieldLink RX2 17 "TraitHouse$Reader" "tape" "LTraitHouse$Tape;") (by decide +kernel)) (fun _ h9 => h9) rfl dX2_advance_95 ?_
  refine va_getN (D := (dC, dI)) (ci := 5) (v := .int 0) (C := RX5) (T := TX5) (N := 2) hx hb hts hIX5 hown hK hP 1 rfl rfl 1 (by decide) (va_Nw.use rfl (nw_at hN 9 rfl)) (fun _ h9 => h9) rfl dX2_advance_98 ?_
  refine lv_icmp_ge (tgt := 147) hx hb dX2_advance_101 (by decide) (fun c_12 => ?_) (fun c_12 => absurd (by decide) c_12)
  have hP9 := hP.sub (ws' := [(hRea, .inr (2, [.ref hTape, .ref aSt, .int 0, .int 0, .int 0, .int 0, .int (-1), .int 0, .int 0])), (hTape, .inr (5, [.ref aB, .int 0]))]) [0, 1] rfl
  have hD9 := hD.sub (ws' := [(hRea, .inr (2, [.ref hTape, .ref aSt, .int 0, .int 0, .int 0, .int 0, .int (-1), .int 0, .int 0])), (hTape, .inr (5, [.ref aB, .int 0]))]) [0, 1] (by decide) rfl
  have hK9 := hK.sub (tys' := []) [] rfl
  exact W.vret hx hb hr (fun t ht hW => ⟨⟨(), rfl, trivial, by rw [ht]; exact hP9, va_K.moved hW.alike hK9, hD9⟩, hS.F ht⟩) hS.2.2 dX2_advance_147

set_option maxHeartbeats 4000000 in
set_option maxRecDepth 100000 in
theorem c_X2_isAt (l : Launch) (dC : Nat → ClassId) (dI : Nat → Nat → Nat) (sz : Nat) (adK : Nat → Nat) (adV : Nat → Nat) (hRea : Nat) (hTape : Nat) (aSt : Nat) (aB : Nat) (i : Nat) (hi : i < 17) : Met l yX2_isAt wsX2_isAt ({ frames := 2, cells := 0, slots := 0, locals := 40 }) (va_Pc [.ref hRea, .ref (adK i)] (fun U => U.heap.size = sz ∧ va_P (dC, dI) vwCl [(hRea, .inr (2, [.ref hTape, .ref aSt, .int 0, .int 0, .int 0, .int 0, .int (-1), .int 0, .int 0])), (hTape, .inr (5, [.ref aB, .int 0]))] U.heap ∧ va_K (dC, dI) vwCl [] U ∧ va_D (fun _ => True) [(hRea, .inr (2, [.ref hTape, .ref aSt, .int 0, .int 0, .int 0, .int 0, .int (-1), .int 0, .int 0])), (hTape, .inr (5, [.ref aB, .int 0]))] ∧ st_ok adK adV (va_A [(hRea, .inr (2, [.ref hTape, .ref aSt, .int 0, .int 0, .int 0, .int 0, .int (-1), .int 0, .int 0])), (hTape, .inr (5, [.ref aB, .int 0]))] sz) U)) (va_Qi (fun (r : Int32) (_ : Unit) => r = 0) (fun (_ : Unit) (t : State) => va_P (dC, dI) vwCl [(hRea, .inr (2, [.ref hTape, .ref aSt, .int 0, .int 0, .int 0, .int 0, .int (-1), .int 0, .int 0])), (hTape, .inr (5, [.ref aB, .int 0]))] t.heap ∧ va_K (dC, dI) vwCl [] t ∧ va_D (va_A [(hRea, .inr (2, [.ref hTape, .ref aSt, .int 0, .int 0, .int 0, .int 0, .int (-1), .int 0, .int 0])), (hTape, .inr (5, [.ref aB, .int 0]))] sz) [(hRea, .inr (2, [.ref hTape, .ref aSt, .int 0, .int 0, .int 0, .int 0, .int (-1), .int 0, .int 0])), (hTape, .inr (5, [.ref aB, .int 0]))]) (va_A [(hRea, .inr (2, [.ref hTape, .ref aSt, .int 0, .int 0, .int 0, .int 0, .int (-1), .int 0, .int 0])), (hTape, .inr (5, [.ref aB, .int 0]))] sz)) 0 0 (va_A [(hRea, .inr (2, [.ref hTape, .ref aSt, .int 0, .int 0, .int 0, .int 0, .int (-1), .int 0, .int 0])), (hTape, .inr (5, [.ref aB, .int 0]))] sz) := by
  refine Met.ofW (cc := cX2_isAt) (maxL := 4) (ret := (some .boolean)) (by decide) rfl ?_
  intro p e s m args below meth c s₁ B hml hv
  obtain ⟨rfl, hsz, hP, hK, hD0, hN⟩ := hv
  have hx := B.exec
  have hb := B.bytes
  have hr := B.returns
  have hts := atoms_spec (ws := wsX2_isAt) B.pre
  have hown : s.vm.findClass RX2 = some m.cls := findClass_of_methodNamed B.named
  have hlocks := B.notSynchronized
  subst hsz
  have hD := hD0.self (sz := s.heap.size)
  generalize hAe : va_A [(hRea, .inr (2, [.ref hTape, .ref aSt, .int 0, .int 0, .int 0, .int 0, .int (-1), .int 0, .int 0])), (hTape, .inr (5, [.ref aB, .int 0]))] s.heap.size = A at hD hN ⊢
  have hSt := hN
  have hN := hSt.1
  have hA : ∀ q : Nat, s.heap.size ≤ q → A q := fun q h => by rw [← hAe]; exact Or.inr h
  have hS : va_S A s.heap s.heap [] := va_S.rf
  have hP : va_P (dC, dI) vwCl [(hRea, .inr (2, [.ref hTape, .ref aSt, .int 0, .int 0, .int 0, .int 0, .int (-1), .int 0, .int 0])), (hTape, .inr (5, [.ref aB, .int 0]))] s.heap := hP
  have hIX2 : ∀ w ∈ u_ws RX2 TX2 9, w ∈ wsX2_isAt := by decide +kernel
  have hl := lv_entry ([.ref hRea, .ref (adK i)]) (n := 4) (Nat.le_of_ble_eq_true rfl)
  rw [lg_entry_eq]
  generalize (lg_sl ([.ref hRea, .ref (adK i)]) ++ List.replicate (4 - (lg_sl ([.ref hRea, .ref (adK i)])).length) Slot.unset).toArray = ls at hl ⊢
  have hl : lv_has ls 4 [(0, .ref hRea), (1, .ref (adK i))] := hl
  refine lv_aload_n hx hb dX2_isAt_0 rfl (lv_at hl 1 rfl) ?_
  have hPc := hP.sub (ws' := []) [] rfl
  have hDc := hD.sub (ws' := []) [] (by decide) rfl
  have hKc := hK.sub (tys' := []) [] rfl
  have hFc := va_free (wc := []) hD hS hA [] rfl
  refine va_calli (va_runV (As := []) (rest := []) ⟨hx, hb, hml, hown, hts⟩ (c_J0_length_8abf5 l dC dI s.heap.size adK adV i hi) (cwV 0 hts gX2_isAt_J0_length_8abf5 rfl rfl rfl (by decide +kernel) ⟨Nat.le_of_ble_eq_true rfl, Nat.le_of_ble_eq_true rfl⟩) ⟨fun a U g mk q => by obtain ⟨q0, q1, qP, qK, qD, qN⟩ := q; exact ⟨q0, q1, qP, va_K.moved (u := U) (U := U.calling g mk a) (Vm.Alike.refl U.vm) qK, qD, qN.same rfl rfl⟩, st_recv hSt.2.2.1 hi hS, fun U hU hW => ⟨rfl, by rw [hU], by rw [hU]; exact hPc, va_K.moved hW.alike hKc, hDc.weaken (fun _ _ _ _ => trivial), hSt.call hS hU hW hFc⟩⟩ rfl rfl hl.1 rfl (lv_room (Nat.le_of_ble_eq_true rfl)) dX2_isAt_1 ⟨Nat.le_of_ble_eq_true rfl, Nat.le_of_ble_eq_true rfl⟩) hS (fun q _ h => hFc q h) hFc (fun r_1 u_2 t H1 locs ht hvm hw_3 hB hz1 hk1 hS => ?_)
  try dsimp only at hw_3
  have hP1 : va_P (dC, dI) vwCl [] H1 := fun k q h => by simp at h
  have hD1 : va_D (va_A [] s.heap.size) [] := ⟨fun i j p q h => by simp at h, fun k q h => by simp at h⟩
  have hK1 : va_K (dC, dI) vwCl [] s := hK.sub [] rfl
  obtain ⟨hP, hD⟩ := va_join (wr := [(hRea, .inr (2, [.ref hTape, .ref aSt, .int 0, .int 0, .int 0, .int 0, .int (-1), .int 0, .int 0])), (hTape, .inr (5, [.ref aB, .int 0]))]) (w1 := []) hP hD [] [0, 1] rfl rfl (by decide) (by decide) hk1 hFc hP1 hD1
  have hK := (hK.sub (tys' := []) [] rfl).app hK1
  generalize H1 = H at hP hS ⊢
  have hP : va_P (dC, dI) vwCl [(hRea, .inr (2, [.ref hTape, .ref aSt, .int 0, .int 0, .int 0, .int 0, .int (-1), .int 0, .int 0])), (hTape, .inr (5, [.ref aB, .int 0]))] H := hP
  have hD : va_D A [(hRea, .inr (2, [.ref hTape, .ref aSt, .int 0, .int 0, .int 0, .int 0, .int (-1), .int 0, .int 0])), (hTape, .inr (5, [.ref aB, .int 0]))] := hD
  have hK : va_K (dC, dI) vwCl [] s := hK
  refine lv_istore_n (lv' := [(2, .int r_1), (0, .ref hRea), (1, .ref (adK i))]) hx hb dX2_isAt_4 rfl hl (by decide) rfl (fun ls hl => ?_)
  refine lv_aload_n hx hb dX2_isAt_5 rfl (lv_at hl 1 rfl) ?_
  refine va_get (D := (dC, dI)) (ci := 2) (v := .int 0) (C := RX2) (T := TX2) (N := 9) hx hb hts hIX2 hown hK hP 0 rfl rfl 4 (by decide) (hts (.fieldLink RX2 25 "TraitHouse$Reader" "behind" "I") (by decide +kernel)) (fun _ h9 => h9) rfl dX2_isAt_6 ?_
  refine lv_aload_n hx hb dX2_isAt_9 rfl (lv_at hl 1 rfl) ?_
  refine va_get (D := (dC, dI)) (ci := 2) (v := .int 0) (C := RX2) (T := TX2) (N := 9) hx hb hts hIX2 hown hK hP 0 rfl rfl 3 (by decide) (hts (.fieldLink RX2 48 "TraitHouse$Reader" "place" "I") (by decide +kernel)) (fun _ h9 => h9) rfl dX2_isAt_10 ?_
  refine lv_isub hx hb dX2_isAt_13 ?_
  refine lv_topi (fun x_4 ex_4 => ?_)
  obtain rfl : x_4 = 0 := ex_4.trans (by decide)
  refine lv_iload_n hx hb dX2_isAt_14 rfl (lv_at hl 0 rfl) ?_
  refine lv_icmp_eq (tgt := 20) hx hb dX2_isAt_15 (by decide) (fun c_5 => ?_) (fun c_5 => ?_)
  · have dc_5 : 0 = r_1.toInt := jI_eq c_5 (by decide) rfl
    exfalso; omega
  · have dc_5 : ¬ 0 = r_1.toInt := jI_ne c_5 (by decide) rfl
    refine lv_iconst (v := 0) hx hb dX2_isAt_18 (by decide) ?_
    have hP9 := hP.sub (ws' := [(hRea, .inr (2, [.ref hTape, .ref aSt, .int 0, .int 0, .int 0, .int 0, .int (-1), .int 0, .int 0])), (hTape, .inr (5, [.ref aB, .int 0]))]) [0, 1] rfl
    have hD9 := hD.sub (ws' := [(hRea, .inr (2, [.ref hTape, .ref aSt, .int 0, .int 0, .int 0, .int 0, .int (-1), .int 0, .int 0])), (hTape, .inr (5, [.ref aB, .int 0]))]) [0, 1] (by decide) rfl
    have hK9 := hK.sub (tys' := []) [] rfl
    exact W.zret (v := 0) hx hb hr (by decide) (fun t ht hW => ⟨⟨0, (), rfl, rfl, by rw [ht]; exact hP9, va_K.moved hW.alike hK9, hD9⟩, hS.F ht⟩) hS.2.2 dX2_isAt_19

set_option maxHeartbeats 4000000 in
set_option maxRecDepth 100000 in
theorem c_X2_kindAt (l : Launch) (dC : Nat → ClassId) (dI : Nat → Nat → Nat) (sz : Nat) (adK : Nat → Nat) (adV : Nat → Nat) (hRea : Nat) (hTape : Nat) (aSt : Nat) (aB : Nat)  : Met l yX2_kindAt wsX2_kindAt ({ frames := 3, cells := 0, slots := 0, locals := 63 }) (va_Pc [.ref hRea] (fun U => U.heap.size = sz ∧ va_P (dC, dI) vwCl [(hRea, .inr (2, [.ref hTape, .ref aSt, .int 0, .int 0, .int 0, .int 0, .int (-1), .int 0, .int 0])), (hTape, .inr (5, [.ref aB, .int 0]))] U.heap ∧ va_K (dC, dI) vwCl [] U ∧ va_D (fun _ => True) [(hRea, .inr (2, [.ref hTape, .ref aSt, .int 0, .int 0, .int 0, .int 0, .int (-1), .int 0, .int 0])), (hTape, .inr (5, [.ref aB, .int 0]))] ∧ st_ok adK adV (va_A [(hRea, .inr (2, [.ref hTape, .ref aSt, .int 0, .int 0, .int 0, .int 0, .int (-1), .int 0, .int 0])), (hTape, .inr (5, [.ref aB, .int 0]))] sz) U)) (va_Qi (fun (r : Int32) (_ : Unit) => r = (-1)) (fun (_ : Unit) (t : State) => va_P (dC, dI) vwCl [(hRea, .inr (2, [.ref hTape, .ref aSt, .int 0, .int 0, .int 0, .int 0, .int (-1), .int 0, .int 0])), (hTape, .inr (5, [.ref aB, .int 0]))] t.heap ∧ va_K (dC, dI) vwCl [] t ∧ va_D (va_A [(hRea, .inr (2, [.ref hTape, .ref aSt, .int 0, .int 0, .int 0, .int 0, .int (-1), .int 0, .int 0])), (hTape, .inr (5, [.ref aB, .int 0]))] sz) [(hRea, .inr (2, [.ref hTape, .ref aSt, .int 0, .int 0, .int 0, .int 0, .int (-1), .int 0, .int 0])), (hTape, .inr (5, [.ref aB, .int 0]))]) (va_A [(hRea, .inr (2, [.ref hTape, .ref aSt, .int 0, .int 0, .int 0, .int 0, .int (-1), .int 0, .int 0])), (hTape, .inr (5, [.ref aB, .int 0]))] sz)) 0 0 (va_A [(hRea, .inr (2, [.ref hTape, .ref aSt, .int 0, .int 0, .int 0, .int 0, .int (-1), .int 0, .int 0])), (hTape, .inr (5, [.ref aB, .int 0]))] sz) := by
  refine Met.ofW (cc := cX2_kindAt) (maxL := 1) (ret := (some .int)) (by decide) rfl ?_
  intro p e s m args below meth c s₁ B hml hv
  obtain ⟨rfl, hsz, hP, hK, hD0, hN⟩ := hv
  have hx := B.exec
  have hb := B.bytes
  have hr := B.returns
  have hts := atoms_spec (ws := wsX2_kindAt) B.pre
  have hown : s.vm.findClass RX2 = some m.cls := findClass_of_methodNamed B.named
  have hlocks := B.notSynchronized
  subst hsz
  have hD := hD0.self (sz := s.heap.size)
  generalize hAe : va_A [(hRea, .inr (2, [.ref hTape, .ref aSt, .int 0, .int 0, .int 0, .int 0, .int (-1), .int 0, .int 0])), (hTape, .inr (5, [.ref aB, .int 0]))] s.heap.size = A at hD hN ⊢
  have hSt := hN
  have hN := hSt.1
  have hA : ∀ q : Nat, s.heap.size ≤ q → A q := fun q h => by rw [← hAe]; exact Or.inr h
  have hS : va_S A s.heap s.heap [] := va_S.rf
  have hP : va_P (dC, dI) vwCl [(hRea, .inr (2, [.ref hTape, .ref aSt, .int 0, .int 0, .int 0, .int 0, .int (-1), .int 0, .int 0])), (hTape, .inr (5, [.ref aB, .int 0]))] s.heap := hP
  have hl := lv_entry ([.ref hRea]) (n := 1) (Nat.le_of_ble_eq_true rfl)
  rw [lg_entry_eq]
  generalize (lg_sl ([.ref hRea]) ++ List.replicate (1 - (lg_sl ([.ref hRea])).length) Slot.unset).toArray = ls at hl ⊢
  have hl : lv_has ls 1 [(0, .ref hRea)] := hl
  refine lv_aload_n hx hb dX2_kindAt_0 rfl (lv_at hl 0 rfl) ?_
  refine va_ldcS hx hb hown (show vk_R RX2 120 "trait" (adK 10) s from hSt.2.1 10 (by decide)) dX2_kindAt_1 ?_
  have hk_1 : (0 : Int32).toInt = 0 := by decide
  have hk_2 : ((-1) : Int32).toInt = (-1) := by decide
  have hPc := hP.sub (ws' := [(hRea, .inr (2, [.ref hTape, .ref aSt, .int 0, .int 0, .int 0, .int 0, .int (-1), .int 0, .int 0])), (hTape, .inr (5, [.ref aB, .int 0]))]) [0, 1] rfl
  have hDc := hD.sub (ws' := [(hRea, .inr (2, [.ref hTape, .ref aSt, .int 0, .int 0, .int 0, .int 0, .int (-1), .int 0, .int 0])), (hTape, .inr (5, [.ref aB, .int 0]))]) [0, 1] (by decide) rfl
  have hKc := hK.sub (tys' := []) [] rfl
  have hFc := va_free (wc := [(hRea, .inr (2, [.ref hTape, .ref aSt, .int 0, .int 0, .int 0, .int 0, .int (-1), .int 0, .int 0])), (hTape, .inr (5, [.ref aB, .int 0]))]) hD hS hA [0, 1] rfl
  refine va_calli (va_runV (As := [.ref (adK 10)]) (rest := []) ⟨hx, hb, hml, hown, hts⟩ (c_X2_isAt l dC dI s.heap.size adK adV hRea hTape aSt aB 10 (by decide)) (cwV 1 hts gX2_kindAt_X2_isAt rfl rfl rfl (by decide +kernel) ⟨Nat.le_of_ble_eq_true rfl, Nat.le_of_ble_eq_true rfl⟩) ⟨fun a U g mk q => by obtain ⟨q0, q1, qP, qK, qD, qN⟩ := q; exact ⟨q0, q1, qP, va_K.moved (u := U) (U := U.calling g mk a) (Vm.Alike.refl U.vm) qK, qD, qN.same rfl rfl⟩, va_recv hKc hPc (ci := 2) (q0 := 0) rfl rfl, fun U hU hW => ⟨rfl, by rw [hU], by rw [hU]; exact hPc, va_K.moved hW.alike hKc, hDc.weaken (fun _ _ _ _ => trivial), hSt.call hS hU hW hFc⟩⟩ rfl rfl hl.1 rfl (lv_room (Nat.le_of_ble_eq_true rfl)) dX2_kindAt_3 ⟨Nat.le_of_ble_eq_true rfl, Nat.le_of_ble_eq_true rfl⟩) hS (fun q _ h => hFc q h) hFc (fun r_3 u_4 t H1 locs ht hvm hw_5 hB hz1 hk1 hS => ?_)
  try dsimp only at hw_5
  obtain ⟨hP1, hK1, hD1⟩ := hB
  rw [ht] at hP1
  have hK1 := va_K.moved hvm.symm hK1
  obtain ⟨hP, hD⟩ := va_join (wr := []) (w1 := [(hRea, .inr (2, [.ref hTape, .ref aSt, .int 0, .int 0, .int 0, .int 0, .int (-1), .int 0, .int 0])), (hTape, .inr (5, [.ref aB, .int 0]))]) hP hD [0, 1] [] rfl rfl (by decide) (by decide) hk1 hFc hP1 hD1
  have hK := (hK.sub (tys' := []) [] rfl).app hK1
  generalize H1 = H at hP hS ⊢
  have hP : va_P (dC, dI) vwCl [(hRea, .inr (2, [.ref hTape, .ref aSt, .int 0, .int 0, .int 0, .int 0, .int (-1), .int 0, .int 0])), (hTape, .inr (5, [.ref aB, .int 0]))] H := hP
  have hD : va_D A [(hRea, .inr (2, [.ref hTape, .ref aSt, .int 0, .int 0, .int 0, .int 0, .int (-1), .int 0, .int 0])), (hTape, .inr (5, [.ref aB, .int 0]))] := hD
  have hK : va_K (dC, dI) vwCl [] s := hK
  obtain rfl : 0 = r_3 := hw_5.symm
  refine lv_if_eq (tgt := 11) hx hb dX2_kindAt_6 (by decide) (fun c_6 => ?_) (fun c_6 => absurd (by decide) c_6)
  refine lv_aload_n hx hb dX2_kindAt_11 rfl (lv_at hl 0 rfl) ?_
  refine va_ldcS hx hb hown (show vk_R RX2 122 "last" (adK 11) s from hSt.2.1 11 (by decide)) dX2_kindAt_12 ?_
  have hk_7 : (0 : Int32).toInt = 0 := by decide
  have hk_8 : ((-1) : Int32).toInt = (-1) := by decide
  have hPc := hP.sub (ws' := [(hRea, .inr (2, [.ref hTape, .ref aSt, .int 0, .int 0, .int 0, .int 0, .int (-1), .int 0, .int 0])), (hTape, .inr (5, [.ref aB, .int 0]))]) [0, 1] rfl
  have hDc := hD.sub (ws' := [(hRea, .inr (2, [.ref hTape, .ref aSt, .int 0, .int 0, .int 0, .int 0, .int (-1), .int 0, .int 0])), (hTape, .inr (5, [.ref aB, .int 0]))]) [0, 1] (by decide) rfl
  have hKc := hK.sub (tys' := []) [] rfl
  have hFc := va_free (wc := [(hRea, .inr (2, [.ref hTape, .ref aSt, .int 0, .int 0, .int 0, .int 0, .int (-1), .int 0, .int 0])), (hTape, .inr (5, [.ref aB, .int 0]))]) hD hS hA [0, 1] rfl
  refine va_calli (va_runV (As := [.ref (adK 11)]) (rest := []) ⟨hx, hb, hml, hown, hts⟩ (c_X2_isAt l dC dI H.size adK adV hRea hTape aSt aB 11 (by decide)) (cwV 1 hts gX2_kindAt_X2_isAt rfl rfl rfl (by decide +kernel) ⟨Nat.le_of_ble_eq_true rfl, Nat.le_of_ble_eq_true rfl⟩) ⟨fun a U g mk q => by obtain ⟨q0, q1, qP, qK, qD, qN⟩ := q; exact ⟨q0, q1, qP, va_K.moved (u := U) (U := U.calling g mk a) (Vm.Alike.refl U.vm) qK, qD, qN.same rfl rfl⟩, va_recv hKc hPc (ci := 2) (q0 := 0) rfl rfl, fun U hU hW => ⟨rfl, by rw [hU], by rw [hU]; exact hPc, va_K.moved hW.alike hKc, hDc.weaken (fun _ _ _ _ => trivial), hSt.call hS hU hW hFc⟩⟩ rfl rfl hl.1 rfl (lv_room (Nat.le_of_ble_eq_true rfl)) dX2_kindAt_14 ⟨Nat.le_of_ble_eq_true rfl, Nat.le_of_ble_eq_true rfl⟩) hS (fun q _ h => hFc q h) hFc (fun r_9 u_10 t H1 locs ht hvm hw_11 hB hz1 hk1 hS => ?_)
  try dsimp only at hw_11
  obtain ⟨hP1, hK1, hD1⟩ := hB
  rw [ht] at hP1
  have hK1 := va_K.moved hvm.symm hK1
  obtain ⟨hP, hD⟩ := va_join (wr := []) (w1 := [(hRea, .inr (2, [.ref hTape, .ref aSt, .int 0, .int 0, .int 0, .int 0, .int (-1), .int 0, .int 0])), (hTape, .inr (5, [.ref aB, .int 0]))]) hP hD [0, 1] [] rfl rfl (by decide) (by decide) hk1 hFc hP1 hD1
  have hK := (hK.sub (tys' := []) [] rfl).app hK1
  generalize H1 = H at hP hS ⊢
  have hP : va_P (dC, dI) vwCl [(hRea, .inr (2, [.ref hTape, .ref aSt, .int 0, .int 0, .int 0, .int 0, .int (-1), .int 0, .int 0])), (hTape, .inr (5, [.ref aB, .int 0]))] H := hP
  have hD : va_D A [(hRea, .inr (2, [.ref hTape, .ref aSt, .int 0, .int 0, .int 0, .int 0, .int (-1), .int 0, .int 0])), (hTape, .inr (5, [.ref aB, .int 0]))] := hD
  have hK : va_K (dC, dI) vwCl [] s := hK
  obtain rfl : 0 = r_9 := hw_11.symm
  refine lv_if_eq (tgt := 22) hx hb dX2_kindAt_17 (by decide) (fun c_12 => ?_) (fun c_12 => absurd (by decide) c_12)
  refine lv_aload_n hx hb dX2_kindAt_22 rfl (lv_at hl 0 rfl) ?_
  refine va_ldcS hx hb hown (show vk_R RX2 124 "age" (adK 12) s from hSt.2.1 12 (by decide)) dX2_kindAt_23 ?_
  have hk_13 : (0 : Int32).toInt = 0 := by decide
  have hk_14 : ((-1) : Int32).toInt = (-1) := by decide
  have hPc := hP.sub (ws' := [(hRea, .inr (2, [.ref hTape, .ref aSt, .int 0, .int 0, .int 0, .int 0, .int (-1), .int 0, .int 0])), (hTape, .inr (5, [.ref aB, .int 0]))]) [0, 1] rfl
  have hDc := hD.sub (ws' := [(hRea, .inr (2, [.ref hTape, .ref aSt, .int 0, .int 0, .int 0, .int 0, .int (-1), .int 0, .int 0])), (hTape, .inr (5, [.ref aB, .int 0]))]) [0, 1] (by decide) rfl
  have hKc := hK.sub (tys' := []) [] rfl
  have hFc := va_free (wc := [(hRea, .inr (2, [.ref hTape, .ref aSt, .int 0, .int 0, .int 0, .int 0, .int (-1), .int 0, .int 0])), (hTape, .inr (5, [.ref aB, .int 0]))]) hD hS hA [0, 1] rfl
  refine va_calli (va_runV (As := [.ref (adK 12)]) (rest := []) ⟨hx, hb, hml, hown, hts⟩ (c_X2_isAt l dC dI H.size adK adV hRea hTape aSt aB 12 (by decide)) (cwV 1 hts gX2_kindAt_X2_isAt rfl rfl rfl (by decide +kernel) ⟨Nat.le_of_ble_eq_true rfl, Nat.le_of_ble_eq_true rfl⟩) ⟨fun a U g mk q => by obtain ⟨q0, q1, qP, qK, qD, qN⟩ := q; exact ⟨q0, q1, qP, va_K.moved (u := U) (U := U.calling g mk a) (Vm.Alike.refl U.vm) qK, qD, qN.same rfl rfl⟩, va_recv hKc hPc (ci := 2) (q0 := 0) rfl rfl, fun U hU hW => ⟨rfl, by rw [hU], by rw [hU]; exact hPc, va_K.moved hW.alike hKc, hDc.weaken (fun _ _ _ _ => trivial), hSt.call hS hU hW hFc⟩⟩ rfl rfl hl.1 rfl (lv_room (Nat.le_of_ble_eq_true rfl)) dX2_kindAt_25 ⟨Nat.le_of_ble_eq_true rfl, Nat.le_of_ble_eq_true rfl⟩) hS (fun q _ h => hFc q h) hFc (fun r_15 u_16 t H1 locs ht hvm hw_17 hB hz1 hk1 hS => ?_)
  try dsimp only at hw_17
  obtain ⟨hP1, hK1, hD1⟩ := hB
  rw [ht] at hP1
  have hK1 := va_K.moved hvm.symm hK1
  obtain ⟨hP, hD⟩ := va_join (wr := []) (w1 := [(hRea, .inr (2, [.ref hTape, .ref aSt, .int 0, .int 0, .int 0, .int 0, .int (-1), .int 0, .int 0])), (hTape, .inr (5, [.ref aB, .int 0]))]) hP hD [0, 1] [] rfl rfl (by decide) (by decide) hk1 hFc hP1 hD1
  have hK := (hK.sub (tys' := []) [] rfl).app hK1
  generalize H1 = H at hP hS ⊢
  have hP : va_P (dC, dI) vwCl [(hRea, .inr (2, [.ref hTape, .ref aSt, .int 0, .int 0, .int 0, .int 0, .int (-1), .int 0, .int 0])), (hTape, .inr (5, [.ref aB, .int 0]))] H := hP
  have hD : va_D A [(hRea, .inr (2, [.ref hTape, .ref aSt, .int 0, .int 0, .int 0, .int 0, .int (-1), .int 0, .int 0])), (hTape, .inr (5, [.ref aB, .int 0]))] := hD
  have hK : va_K (dC, dI) vwCl [] s := hK
  obtain rfl : 0 = r_15 := hw_17.symm
  refine lv_if_eq (tgt := 33) hx hb dX2_kindAt_28 (by decide) (fun c_18 => ?_) (fun c_18 => absurd (by decide) c_18)
  refine lv_aload_n hx hb dX2_kindAt_33 rfl (lv_at hl 0 rfl) ?_
  refine va_ldcS hx hb hown (show vk_R RX2 126 "count" (adK 13) s from hSt.2.1 13 (by decide)) dX2_kindAt_34 ?_
  have hk_19 : (0 : Int32).toInt = 0 := by decide
  have hk_20 : ((-1) : Int32).toInt = (-1) := by decide
  have hPc := hP.sub (ws' := [(hRea, .inr (2, [.ref hTape, .ref aSt, .int 0, .int 0, .int 0, .int 0, .int (-1), .int 0, .int 0])), (hTape, .inr (5, [.ref aB, .int 0]))]) [0, 1] rfl
  have hDc := hD.sub (ws' := [(hRea, .inr (2, [.ref hTape, .ref aSt, .int 0, .int 0, .int 0, .int 0, .int (-1), .int 0, .int 0])), (hTape, .inr (5, [.ref aB, .int 0]))]) [0, 1] (by decide) rfl
  have hKc := hK.sub (tys' := []) [] rfl
  have hFc := va_free (wc := [(hRea, .inr (2, [.ref hTape, .ref aSt, .int 0, .int 0, .int 0, .int 0, .int (-1), .int 0, .int 0])), (hTape, .inr (5, [.ref aB, .int 0]))]) hD hS hA [0, 1] rfl
  refine va_calli (va_runV (As := [.ref (adK 13)]) (rest := []) ⟨hx, hb, hml, hown, hts⟩ (c_X2_isAt l dC dI H.size adK adV hRea hTape aSt aB 13 (by decide)) (cwV 1 hts gX2_kindAt_X2_isAt rfl rfl rfl (by decide +kernel) ⟨Nat.le_of_ble_eq_true rfl, Nat.le_of_ble_eq_true rfl⟩) ⟨fun a U g mk q => by obtain ⟨q0, q1, qP, qK, qD, qN⟩ := q; exact ⟨q0, q1, qP, va_K.moved (u := U) (U := U.calling g mk a) (Vm.Alike.refl U.vm) qK, qD, qN.same rfl rfl⟩, va_recv hKc hPc (ci := 2) (q0 := 0) rfl rfl, fun U hU hW => ⟨rfl, by rw [hU], by rw [hU]; exact hPc, va_K.moved hW.alike hKc, hDc.weaken (fun _ _ _ _ => trivial), hSt.call hS hU hW hFc⟩⟩ rfl rfl hl.1 rfl (lv_room (Nat.le_of_ble_eq_true rfl)) dX2_kindAt_36 ⟨Nat.le_of_ble_eq_true rfl, Nat.le_of_ble_eq_true rfl⟩) hS (fun q _ h => hFc q h) hFc (fun r_21 u_22 t H1 locs ht hvm hw_23 hB hz1 hk1 hS => ?_)
  try dsimp only at hw_23
  obtain ⟨hP1, hK1, hD1⟩ := hB
  rw [ht] at hP1
  have hK1 := va_K.moved hvm.symm hK1
  obtain ⟨hP, hD⟩ := va_join (wr := []) (w1 := [(hRea, .inr (2, [.ref hTape, .ref aSt, .int 0, .int 0, .int 0, .int 0, .int (-1), .int 0, .int 0])), (hTape, .inr (5, [.ref aB, .int 0]))]) hP hD [0, 1] [] rfl rfl (by decide) (by decide) hk1 hFc hP1 hD1
  have hK := (hK.sub (tys' := []) [] rfl).app hK1
  generalize H1 = H at hP hS ⊢
  have hP : va_P (dC, dI) vwCl [(hRea, .inr (2, [.ref hTape, .ref aSt, .int 0, .int 0, .int 0, .int 0, .int (-1), .int 0, .int 0])), (hTape, .inr (5, [.ref aB, .int 0]))] H := hP
  have hD : va_D A [(hRea, .inr (2, [.ref hTape, .ref aSt, .int 0, .int 0, .int 0, .int 0, .int (-1), .int 0, .int 0])), (hTape, .inr (5, [.ref aB, .int 0]))] := hD
  have hK : va_K (dC, dI) vwCl [] s := hK
  obtain rfl : 0 = r_21 := hw_23.symm
  refine lv_if_eq (tgt := 44) hx hb dX2_kindAt_39 (by decide) (fun c_24 => ?_) (fun c_24 => absurd (by decide) c_24)
  refine lv_aload_n hx hb dX2_kindAt_44 rfl (lv_at hl 0 rfl) ?_
  refine va_ldcS hx hb hown (show vk_R RX2 128 "sum" (adK 14) s from hSt.2.1 14 (by decide)) dX2_kindAt_45 ?_
  have hk_25 : (0 : Int32).toInt = 0 := by decide
  have hk_26 : ((-1) : Int32).toInt = (-1) := by decide
  have hPc := hP.sub (ws' := [(hRea, .inr (2, [.ref hTape, .ref aSt, .int 0, .int 0, .int 0, .int 0, .int (-1), .int 0, .int 0])), (hTape, .inr (5, [.ref aB, .int 0]))]) [0, 1] rfl
  have hDc := hD.sub (ws' := [(hRea, .inr (2, [.ref hTape, .ref aSt, .int 0, .int 0, .int 0, .int 0, .int (-1), .int 0, .int 0])), (hTape, .inr (5, [.ref aB, .int 0]))]) [0, 1] (by decide) rfl
  have hKc := hK.sub (tys' := []) [] rfl
  have hFc := va_free (wc := [(hRea, .inr (2, [.ref hTape, .ref aSt, .int 0, .int 0, .int 0, .int 0, .int (-1), .int 0, .int 0])), (hTape, .inr (5, [.ref aB, .int 0]))]) hD hS hA [0, 1] rfl
  refine va_calli (va_runV (As := [.ref (adK 14)]) (rest := []) ⟨hx, hb, hml, hown, hts⟩ (c_X2_isAt l dC dI H.size adK adV hRea hTape aSt aB 14 (by decide)) (cwV 1 hts gX2_kindAt_X2_isAt rfl rfl rfl (by decide +kernel) ⟨Nat.le_of_ble_eq_true rfl, Nat.le_of_ble_eq_true rfl⟩) ⟨fun a U g mk q => by obtain ⟨q0, q1, qP, qK, qD, qN⟩ := q; exact ⟨q0, q1, qP, va_K.moved (u := U) (U := U.calling g mk a) (Vm.Alike.refl U.vm) qK, qD, qN.same rfl rfl⟩, va_recv hKc hPc (ci := 2) (q0 := 0) rfl rfl, fun U hU hW => ⟨rfl, by rw [hU], by rw [hU]; exact hPc, va_K.moved hW.alike hKc, hDc.weaken (fun _ _ _ _ => trivial), hSt.call hS hU hW hFc⟩⟩ rfl rfl hl.1 rfl (lv_room (Nat.le_of_ble_eq_true rfl)) dX2_kindAt_47 ⟨Nat.le_of_ble_eq_true rfl, Nat.le_of_ble_eq_true rfl⟩) hS (fun q _ h => hFc q h) hFc (fun r_27 u_28 t H1 locs ht hvm hw_29 hB hz1 hk1 hS => ?_)
  try dsimp only at hw_29
  obtain ⟨hP1, hK1, hD1⟩ := hB
  rw [ht] at hP1
  have hK1 := va_K.moved hvm.symm hK1
  obtain ⟨hP, hD⟩ := va_join (wr := []) (w1 := [(hRea, .inr (2, [.ref hTape, .ref aSt, .int 0, .int 0, .int 0, .int 0, .int (-1), .int 0, .int 0])), (hTape, .inr (5, [.ref aB, .int 0]))]) hP hD [0, 1] [] rfl rfl (by decide) (by decide) hk1 hFc hP1 hD1
  have hK := (hK.sub (tys' := []) [] rfl).app hK1
  generalize H1 = H at hP hS ⊢
  have hP : va_P (dC, dI) vwCl [(hRea, .inr (2, [.ref hTape, .ref aSt, .int 0, .int 0, .int 0, .int 0, .int (-1), .int 0, .int 0])), (hTape, .inr (5, [.ref aB, .int 0]))] H := hP
  have hD : va_D A [(hRea, .inr (2, [.ref hTape, .ref aSt, .int 0, .int 0, .int 0, .int 0, .int (-1), .int 0, .int 0])), (hTape, .inr (5, [.ref aB, .int 0]))] := hD
  have hK : va_K (dC, dI) vwCl [] s := hK
  obtain rfl : 0 = r_27 := hw_29.symm
  refine lv_if_eq (tgt := 55) hx hb dX2_kindAt_50 (by decide) (fun c_30 => ?_) (fun c_30 => absurd (by decide) c_30)
  refine lv_aload_n hx hb dX2_kindAt_55 rfl (lv_at hl 0 rfl) ?_
  refine va_ldcS hx hb hown (show vk_R RX2 130 "least" (adK 15) s from hSt.2.1 15 (by decide)) dX2_kindAt_56 ?_
  have hk_31 : (0 : Int32).toInt = 0 := by decide
  have hk_32 : ((-1) : Int32).toInt = (-1) := by decide
  have hPc := hP.sub (ws' := [(hRea, .inr (2, [.ref hTape, .ref aSt, .int 0, .int 0, .int 0, .int 0, .int (-1), .int 0, .int 0])), (hTape, .inr (5, [.ref aB, .int 0]))]) [0, 1] rfl
  have hDc := hD.sub (ws' := [(hRea, .inr (2, [.ref hTape, .ref aSt, .int 0, .int 0, .int 0, .int 0, .int (-1), .int 0, .int 0])), (hTape, .inr (5, [.ref aB, .int 0]))]) [0, 1] (by decide) rfl
  have hKc := hK.sub (tys' := []) [] rfl
  have hFc := va_free (wc := [(hRea, .inr (2, [.ref hTape, .ref aSt, .int 0, .int 0, .int 0, .int 0, .int (-1), .int 0, .int 0])), (hTape, .inr (5, [.ref aB, .int 0]))]) hD hS hA [0, 1] rfl
  refine va_calli (va_runV (As := [.ref (adK 15)]) (rest := []) ⟨hx, hb, hml, hown, hts⟩ (c_X2_isAt l dC dI H.size adK adV hRea hTape aSt aB 15 (by decide)) (cwV 1 hts gX2_kindAt_X2_isAt rfl rfl rfl (by decide +kernel) ⟨Nat.le_of_ble_eq_true rfl, Nat.le_of_ble_eq_true rfl⟩) ⟨fun a U g mk q => by obtain ⟨q0, q1, qP, qK, qD, qN⟩ := q; exact ⟨q0, q1, qP, va_K.moved (u := U) (U := U.calling g mk a) (Vm.Alike.refl U.vm) qK, qD, qN.same rfl rfl⟩, va_recv hKc hPc (ci := 2) (q0 := 0) rfl rfl, fun U hU hW => ⟨rfl, by rw [hU], by rw [hU]; exact hPc, va_K.moved hW.alike hKc, hDc.weaken (fun _ _ _ _ => trivial), hSt.call hS hU hW hFc⟩⟩ rfl rfl hl.1 rfl (lv_room (Nat.le_of_ble_eq_true rfl)) dX2_kindAt_58 ⟨Nat.le_of_ble_eq_true rfl, Nat.le_of_ble_eq_true rfl⟩) hS (fun q _ h => hFc q h) hFc (fun r_33 u_34 t H1 locs ht hvm hw_35 hB hz1 hk1 hS => ?_)
  try dsimp only at hw_35
  obtain ⟨hP1, hK1, hD1⟩ := hB
  rw [ht] at hP1
  have hK1 := va_K.moved hvm.symm hK1
  obtain ⟨hP, hD⟩ := va_join (wr := []) (w1 := [(hRea, .inr (2, [.ref hTape, .ref aSt, .int 0, .int 0, .int 0, .int 0, .int (-1), .int 0, .int 0])), (hTape, .inr (5, [.ref aB, .int 0]))]) hP hD [0, 1] [] rfl rfl (by decide) (by decide) hk1 hFc hP1 hD1
  have hK := (hK.sub (tys' := []) [] rfl).app hK1
  generalize H1 = H at hP hS ⊢
  have hP : va_P (dC, dI) vwCl [(hRea, .inr (2, [.ref hTape, .ref aSt, .int 0, .int 0, .int 0, .int 0, .int (-1), .int 0, .int 0])), (hTape, .inr (5, [.ref aB, .int 0]))] H := hP
  have hD : va_D A [(hRea, .inr (2, [.ref hTape, .ref aSt, .int 0, .int 0, .int 0, .int 0, .int (-1), .int 0, .int 0])), (hTape, .inr (5, [.ref aB, .int 0]))] := hD
  have hK : va_K (dC, dI) vwCl [] s := hK
  obtain rfl : 0 = r_33 := hw_35.symm
  refine lv_if_eq (tgt := 67) hx hb dX2_kindAt_61 (by decide) (fun c_36 => ?_) (fun c_36 => absurd (by decide) c_36)
  refine lv_aload_n hx hb dX2_kindAt_67 rfl (lv_at hl 0 rfl) ?_
  refine va_ldcS hx hb hown (show vk_R RX2 132 "most" (adK 16) s from hSt.2.1 16 (by decide)) dX2_kindAt_68 ?_
  have hk_37 : (0 : Int32).toInt = 0 := by decide
  have hk_38 : ((-1) : Int32).toInt = (-1) := by decide
  have hPc := hP.sub (ws' := [(hRea, .inr (2, [.ref hTape, .ref aSt, .int 0, .int 0, .int 0, .int 0, .int (-1), .int 0, .int 0])), (hTape, .inr (5, [.ref aB, .int 0]))]) [0, 1] rfl
  have hDc := hD.sub (ws' := [(hRea, .inr (2, [.ref hTape, .ref aSt, .int 0, .int 0, .int 0, .int 0, .int (-1), .int 0, .int 0])), (hTape, .inr (5, [.ref aB, .int 0]))]) [0, 1] (by decide) rfl
  have hKc := hK.sub (tys' := []) [] rfl
  have hFc := va_free (wc := [(hRea, .inr (2, [.ref hTape, .ref aSt, .int 0, .int 0, .int 0, .int 0, .int (-1), .int 0, .int 0])), (hTape, .inr (5, [.ref aB, .int 0]))]) hD hS hA [0, 1] rfl
  refine va_calli (va_runV (As := [.ref (adK 16)]) (rest := []) ⟨hx, hb, hml, hown, hts⟩ (c_X2_isAt l dC dI H.size adK adV hRea hTape aSt aB 16 (by decide)) (cwV 1 hts gX2_kindAt_X2_isAt rfl rfl rfl (by decide +kernel) ⟨Nat.le_of_ble_eq_true rfl, Nat.le_of_ble_eq_true rfl⟩) ⟨fun a U g mk q => by obtain ⟨q0, q1, qP, qK, qD, qN⟩ := q; exact ⟨q0, q1, qP, va_K.moved (u := U) (U := U.calling g mk a) (Vm.Alike.refl U.vm) qK, qD, qN.same rfl rfl⟩, va_recv hKc hPc (ci := 2) (q0 := 0) rfl rfl, fun U hU hW => ⟨rfl, by rw [hU], by rw [hU]; exact hPc, va_K.moved hW.alike hKc, hDc.weaken (fun _ _ _ _ => trivial), hSt.call hS hU hW hFc⟩⟩ rfl rfl hl.1 rfl (lv_room (Nat.le_of_ble_eq_true rfl)) dX2_kindAt_70 ⟨Nat.le_of_ble_eq_true rfl, Nat.le_of_ble_eq_true rfl⟩) hS (fun q _ h => hFc q h) hFc (fun r_39 u_40 t H1 locs ht hvm hw_41 hB hz1 hk1 hS => ?_)
  try dsimp only at hw_41
  obtain ⟨hP1, hK1, hD1⟩ := hB
  rw [ht] at hP1
  have hK1 := va_K.moved hvm.symm hK1
  obtain ⟨hP, hD⟩ := va_join (wr := []) (w1 := [(hRea, .inr (2, [.ref hTape, .ref aSt, .int 0, .int 0, .int 0, .int 0, .int (-1), .int 0, .int 0])), (hTape, .inr (5, [.ref aB, .int 0]))]) hP hD [0, 1] [] rfl rfl (by decide) (by decide) hk1 hFc hP1 hD1
  have hK := (hK.sub (tys' := []) [] rfl).app hK1
  generalize H1 = H at hP hS ⊢
  have hP : va_P (dC, dI) vwCl [(hRea, .inr (2, [.ref hTape, .ref aSt, .int 0, .int 0, .int 0, .int 0, .int (-1), .int 0, .int 0])), (hTape, .inr (5, [.ref aB, .int 0]))] H := hP
  have hD : va_D A [(hRea, .inr (2, [.ref hTape, .ref aSt, .int 0, .int 0, .int 0, .int 0, .int (-1), .int 0, .int 0])), (hTape, .inr (5, [.ref aB, .int 0]))] := hD
  have hK : va_K (dC, dI) vwCl [] s := hK
  obtain rfl : 0 = r_39 := hw_41.symm
  refine lv_if_eq (tgt := 81) hx hb dX2_kindAt_73 (by decide) (fun c_42 => ?_) (fun c_42 => absurd (by decide) c_42)
  refine lv_iconst (v := (-1)) hx hb dX2_kindAt_81 (by decide) ?_
  have hP9 := hP.sub (ws' := [(hRea, .inr (2, [.ref hTape, .ref aSt, .int 0, .int 0, .int 0, .int 0, .int (-1), .int 0, .int 0])), (hTape, .inr (5, [.ref aB, .int 0]))]) [0, 1] rfl
  have hD9 := hD.sub (ws' := [(hRea, .inr (2, [.ref hTape, .ref aSt, .int 0, .int 0, .int 0, .int 0, .int (-1), .int 0, .int 0])), (hTape, .inr (5, [.ref aB, .int 0]))]) [0, 1] (by decide) rfl
  have hK9 := hK.sub (tys' := []) [] rfl
  exact W.iret (v := (-1)) hx hb hr (fun t ht hW => ⟨⟨(-1), (), rfl, rfl, by rw [ht]; exact hP9, va_K.moved hW.alike hK9, hD9⟩, hS.F ht⟩) hS.2.2 dX2_kindAt_82

set_option maxHeartbeats 4000000 in
set_option maxRecDepth 100000 in
theorem c_X2_readAtom (l : Launch) (dC : Nat → ClassId) (dI : Nat → Nat → Nat) (sz : Nat) (adK : Nat → Nat) (adV : Nat → Nat) (hRea : Nat) (hTape : Nat) (aSt : Nat) (aB : Nat) (dp : Int32)  : Met l yX2_readAtom wsX2_readAtom ({ frames := 4, cells := 0, slots := 0, locals := 83 }) (va_Pc [.ref hRea, .int dp] (fun U => U.heap.size = sz ∧ va_P (dC, dI) vwCl [(hRea, .inr (2, [.ref hTape, .ref aSt, .int 0, .int 0, .int 0, .int 0, .int (-1), .int 0, .int 0])), (hTape, .inr (5, [.ref aB, .int 0]))] U.heap ∧ va_K (dC, dI) vwCl [] U ∧ va_D (fun _ => True) [(hRea, .inr (2, [.ref hTape, .ref aSt, .int 0, .int 0, .int 0, .int 0, .int (-1), .int 0, .int 0])), (hTape, .inr (5, [.ref aB, .int 0]))] ∧ st_ok adK adV (va_A [(hRea, .inr (2, [.ref hTape, .ref aSt, .int 0, .int 0, .int 0, .int 0, .int (-1), .int 0, .int 0])), (hTape, .inr (5, [.ref aB, .int 0]))] sz) U)) (va_Qi (fun (r : Int32) (_ : Unit) => r = 0) (fun (_ : Unit) (t : State) => va_P (dC, dI) vwCl [(hRea, .inr (2, [.ref hTape, .ref aSt, .int 0, .int 0, .int 0, .int 0, .int 0, .int 0, .int 0])), (hTape, .inr (5, [.ref aB, .int 0]))] t.heap ∧ va_K (dC, dI) vwCl [] t ∧ va_D (va_A [(hRea, .inr (2, [.ref hTape, .ref aSt, .int 0, .int 0, .int 0, .int 0, .int (-1), .int 0, .int 0])), (hTape, .inr (5, [.ref aB, .int 0]))] sz) [(hRea, .inr (2, [.ref hTape, .ref aSt, .int 0, .int 0, .int 0, .int 0, .int 0, .int 0, .int 0])), (hTape, .inr (5, [.ref aB, .int 0]))]) (va_A [(hRea, .inr (2, [.ref hTape, .ref aSt, .int 0, .int 0, .int 0, .int 0, .int (-1), .int 0, .int 0])), (hTape, .inr (5, [.ref aB, .int 0]))] sz)) 0 0 (va_A [(hRea, .inr (2, [.ref hTape, .ref aSt, .int 0, .int 0, .int 0, .int 0, .int (-1), .int 0, .int 0])), (hTape, .inr (5, [.ref aB, .int 0]))] sz) := by
  refine Met.ofW (cc := cX2_readAtom) (maxL := 3) (ret := (some .boolean)) (by decide) rfl ?_
  intro p e s m args below meth c s₁ B hml hv
  obtain ⟨rfl, hsz, hP, hK, hD0, hN⟩ := hv
  have hx := B.exec
  have hb := B.bytes
  have hr := B.returns
  have hts := atoms_spec (ws := wsX2_readAtom) B.pre
  have hown : s.vm.findClass RX2 = some m.cls := findClass_of_methodNamed B.named
  have hlocks := B.notSynchronized
  subst hsz
  have hD := hD0.self (sz := s.heap.size)
  generalize hAe : va_A [(hRea, .inr (2, [.ref hTape, .ref aSt, .int 0, .int 0, .int 0, .int 0, .int (-1), .int 0, .int 0])), (hTape, .inr (5, [.ref aB, .int 0]))] s.heap.size = A at hD hN ⊢
  have hSt := hN
  have hN := hSt.1
  have hA : ∀ q : Nat, s.heap.size ≤ q → A q := fun q h => by rw [← hAe]; exact Or.inr h
  have hS : va_S A s.heap s.heap [] := va_S.rf
  have hP : va_P (dC, dI) vwCl [(hRea, .inr (2, [.ref hTape, .ref aSt, .int 0, .int 0, .int 0, .int 0, .int (-1), .int 0, .int 0])), (hTape, .inr (5, [.ref aB, .int 0]))] s.heap := hP
  have hIX2 : ∀ w ∈ u_ws RX2 TX2 9, w ∈ wsX2_readAtom := by decide +kernel
  have hl := lv_entry ([.ref hRea, .int dp]) (n := 3) (Nat.le_of_ble_eq_true rfl)
  rw [lg_entry_eq]
  generalize (lg_sl ([.ref hRea, .int dp]) ++ List.replicate (3 - (lg_sl ([.ref hRea, .int dp])).length) Slot.unset).toArray = ls at hl ⊢
  have hl : lv_has ls 3 [(0, .ref hRea), (1, .int dp)] := hl
  refine lv_aload_n hx hb dX2_readAtom_0 rfl (lv_at hl 0 rfl) ?_
  refine lv_aload_n hx hb dX2_readAtom_1 rfl (lv_at hl 0 rfl) ?_
  refine va_get (D := (dC, dI)) (ci := 2) (v := .int 0) (C := RX2) (T := TX2) (N := 9) hx hb hts hIX2 hown hK hP 0 rfl rfl 3 (by decide) (hts (.fieldLink RX2 48 "TraitHouse$Reader" "place" "I") (by decide +kernel)) (fun _ h9 => h9) rfl dX2_readAtom_2 ?_
  have hk_1 : (0 : Int32).toInt = 0 := by decide
  have hPc := hP.sub (ws' := [(hRea, .inr (2, [.ref hTape, .ref aSt, .int 0, .int 0, .int 0, .int 0, .int (-1), .int 0, .int 0])), (hTape, .inr (5, [.ref aB, .int 0]))]) [0, 1] rfl
  have hDc := hD.sub (ws' := [(hRea, .inr (2, [.ref hTape, .ref aSt, .int 0, .int 0, .int 0, .int 0, .int (-1), .int 0, .int 0])), (hTape, .inr (5, [.ref aB, .int 0]))]) [0, 1] (by decide) rfl
  have hKc := hK.sub (tys' := []) [] rfl
  have hFc := va_free (wc := [(hRea, .inr (2, [.ref hTape, .ref aSt, .int 0, .int 0, .int 0, .int 0, .int (-1), .int 0, .int 0])), (hTape, .inr (5, [.ref aB, .int 0]))]) hD hS hA [0, 1] rfl
  refine va_calli (va_runV (As := [.int 0]) (rest := []) ⟨hx, hb, hml, hown, hts⟩ (c_X2_isDigitAt l dC dI s.heap.size adK adV hRea hTape aSt aB ) (cwV 1 hts gX2_readAtom_X2_isDigitAt rfl rfl rfl (by decide +kernel) ⟨Nat.le_of_ble_eq_true rfl, Nat.le_of_ble_eq_true rfl⟩) ⟨fun a U g mk q => by obtain ⟨q0, q1, qP, qK, qD, qN⟩ := q; exact ⟨q0, q1, qP, va_K.moved (u := U) (U := U.calling g mk a) (Vm.Alike.refl U.vm) qK, qD, qN.same rfl rfl⟩, va_recv hKc hPc (ci := 2) (q0 := 0) rfl rfl, fun U hU hW => ⟨rfl, by rw [hU], by rw [hU]; exact hPc, va_K.moved hW.alike hKc, hDc.weaken (fun _ _ _ _ => trivial), hSt.call hS hU hW hFc⟩⟩ rfl rfl hl.1 rfl (lv_room (Nat.le_of_ble_eq_true rfl)) dX2_readAtom_5 ⟨Nat.le_of_ble_eq_true rfl, Nat.le_of_ble_eq_true rfl⟩) hS (fun q _ h => hFc q h) hFc (fun r_2 u_3 t H1 locs ht hvm hw_4 hB hz1 hk1 hS => ?_)
  try dsimp only at hw_4
  obtain ⟨hP1, hK1, hD1⟩ := hB
  rw [ht] at hP1
  have hK1 := va_K.moved hvm.symm hK1
  obtain ⟨hP, hD⟩ := va_join (wr := []) (w1 := [(hRea, .inr (2, [.ref hTape, .ref aSt, .int 0, .int 0, .int 0, .int 0, .int (-1), .int 0, .int 0])), (hTape, .inr (5, [.ref aB, .int 0]))]) hP hD [0, 1] [] rfl rfl (by decide) (by decide) hk1 hFc hP1 hD1
  have hK := (hK.sub (tys' := []) [] rfl).app hK1
  generalize H1 = H at hP hS ⊢
  have hP : va_P (dC, dI) vwCl [(hRea, .inr (2, [.ref hTape, .ref aSt, .int 0, .int 0, .int 0, .int 0, .int (-1), .int 0, .int 0])), (hTape, .inr (5, [.ref aB, .int 0]))] H := hP
  have hD : va_D A [(hRea, .inr (2, [.ref hTape, .ref aSt, .int 0, .int 0, .int 0, .int 0, .int (-1), .int 0, .int 0])), (hTape, .inr (5, [.ref aB, .int 0]))] := hD
  have hK : va_K (dC, dI) vwCl [] s := hK
  obtain rfl : 0 = r_2 := hw_4.symm
  refine lv_if_eq (tgt := 19) hx hb dX2_readAtom_8 (by decide) (fun c_5 => ?_) (fun c_5 => absurd (by decide) c_5)
  refine lv_aload_n hx hb dX2_readAtom_19 rfl (lv_at hl 0 rfl) ?_
  refine va_ldcS hx hb hown (show vk_R RX2 93 "(" (adK 5) s from hSt.2.1 5 (by decide)) dX2_readAtom_20 ?_
  have hk_6 : (0 : Int32).toInt = 0 := by decide
  have hk_7 : ((-1) : Int32).toInt = (-1) := by decide
  have hPc := hP.sub (ws' := [(hRea, .inr (2, [.ref hTape, .ref aSt, .int 0, .int 0, .int 0, .int 0, .int (-1), .int 0, .int 0])), (hTape, .inr (5, [.ref aB, .int 0]))]) [0, 1] rfl
  have hDc := hD.sub (ws' := [(hRea, .inr (2, [.ref hTape, .ref aSt, .int 0, .int 0, .int 0, .int 0, .int (-1), .int 0, .int 0])), (hTape, .inr (5, [.ref aB, .int 0]))]) [0, 1] (by decide) rfl
  have hKc := hK.sub (tys' := []) [] rfl
  have hFc := va_free (wc := [(hRea, .inr (2, [.ref hTape, .ref aSt, .int 0, .int 0, .int 0, .int 0, .int (-1), .int 0, .int 0])), (hTape, .inr (5, [.ref aB, .int 0]))]) hD hS hA [0, 1] rfl
  refine va_calli (va_runV (As := [.ref (adK 5)]) (rest := []) ⟨hx, hb, hml, hown, hts⟩ (c_X2_isAt l dC dI H.size adK adV hRea hTape aSt aB 5 (by decide)) (cwV 1 hts gX2_readAtom_X2_isAt rfl rfl rfl (by decide +kernel) ⟨Nat.le_of_ble_eq_true rfl, Nat.le_of_ble_eq_true rfl⟩) ⟨fun a U g mk q => by obtain ⟨q0, q1, qP, qK, qD, qN⟩ := q; exact ⟨q0, q1, qP, va_K.moved (u := U) (U := U.calling g mk a) (Vm.Alike.refl U.vm) qK, qD, qN.same rfl rfl⟩, va_recv hKc hPc (ci := 2) (q0 := 0) rfl rfl, fun U hU hW => ⟨rfl, by rw [hU], by rw [hU]; exact hPc, va_K.moved hW.alike hKc, hDc.weaken (fun _ _ _ _ => trivial), hSt.call hS hU hW hFc⟩⟩ rfl rfl hl.1 rfl (lv_room (Nat.le_of_ble_eq_true rfl)) dX2_readAtom_22 ⟨Nat.le_of_ble_eq_true rfl, Nat.le_of_ble_eq_true rfl⟩) hS (fun q _ h => hFc q h) hFc (fun r_8 u_9 t H1 locs ht hvm hw_10 hB hz1 hk1 hS => ?_)
  try dsimp only at hw_10
  obtain ⟨hP1, hK1, hD1⟩ := hB
  rw [ht] at hP1
  have hK1 := va_K.moved hvm.symm hK1
  obtain ⟨hP, hD⟩ := va_join (wr := []) (w1 := [(hRea, .inr (2, [.ref hTape, .ref aSt, .int 0, .int 0, .int 0, .int 0, .int (-1), .int 0, .int 0])), (hTape, .inr (5, [.ref aB, .int 0]))]) hP hD [0, 1] [] rfl rfl (by decide) (by decide) hk1 hFc hP1 hD1
  have hK := (hK.sub (tys' := []) [] rfl).app hK1
  generalize H1 = H at hP hS ⊢
  have hP : va_P (dC, dI) vwCl [(hRea, .inr (2, [.ref hTape, .ref aSt, .int 0, .int 0, .int 0, .int 0, .int (-1), .int 0, .int 0])), (hTape, .inr (5, [.ref aB, .int 0]))] H := hP
  have hD : va_D A [(hRea, .inr (2, [.ref hTape, .ref aSt, .int 0, .int 0, .int 0, .int 0, .int (-1), .int 0, .int 0])), (hTape, .inr (5, [.ref aB, .int 0]))] := hD
  have hK : va_K (dC, dI) vwCl [] s := hK
  obtain rfl : 0 = r_8 := hw_10.symm
  refine lv_if_eq (tgt := 34) hx hb dX2_readAtom_25 (by decide) (fun c_11 => ?_) (fun c_11 => absurd (by decide) c_11)
  refine lv_aload_n hx hb dX2_readAtom_34 rfl (lv_at hl 0 rfl) ?_
  have hPc := hP.sub (ws' := [(hRea, .inr (2, [.ref hTape, .ref aSt, .int 0, .int 0, .int 0, .int 0, .int (-1), .int 0, .int 0])), (hTape, .inr (5, [.ref aB, .int 0]))]) [0, 1] rfl
  have hDc := hD.sub (ws' := [(hRea, .inr (2, [.ref hTape, .ref aSt, .int 0, .int 0, .int 0, .int 0, .int (-1), .int 0, .int 0])), (hTape, .inr (5, [.ref aB, .int 0]))]) [0, 1] (by decide) rfl
  have hKc := hK.sub (tys' := []) [] rfl
  have hFc := va_free (wc := [(hRea, .inr (2, [.ref hTape, .ref aSt, .int 0, .int 0, .int 0, .int 0, .int (-1), .int 0, .int 0])), (hTape, .inr (5, [.ref aB, .int 0]))]) hD hS hA [0, 1] rfl
  refine va_calli (va_runV (As := []) (rest := []) ⟨hx, hb, hml, hown, hts⟩ (c_X2_kindAt l dC dI H.size adK adV hRea hTape aSt aB ) (cwV 0 hts gX2_readAtom_X2_kindAt rfl rfl rfl (by decide +kernel) ⟨Nat.le_of_ble_eq_true rfl, Nat.le_of_ble_eq_true rfl⟩) ⟨fun a U g mk q => by obtain ⟨q0, q1, qP, qK, qD, qN⟩ := q; exact ⟨q0, q1, qP, va_K.moved (u := U) (U := U.calling g mk a) (Vm.Alike.refl U.vm) qK, qD, qN.same rfl rfl⟩, va_recv hKc hPc (ci := 2) (q0 := 0) rfl rfl, fun U hU hW => ⟨rfl, by rw [hU], by rw [hU]; exact hPc, va_K.moved hW.alike hKc, hDc.weaken (fun _ _ _ _ => trivial), hSt.call hS hU hW hFc⟩⟩ rfl rfl hl.1 rfl (lv_room (Nat.le_of_ble_eq_true rfl)) dX2_readAtom_35 ⟨Nat.le_of_ble_eq_true rfl, Nat.le_of_ble_eq_true rfl⟩) hS (fun q _ h => hFc q h) hFc (fun r_12 u_13 t H1 locs ht hvm hw_14 hB hz1 hk1 hS => ?_)
  try dsimp only at hw_14
  obtain ⟨hP1, hK1, hD1⟩ := hB
  rw [ht] at hP1
  have hK1 := va_K.moved hvm.symm hK1
  obtain ⟨hP, hD⟩ := va_join (wr := []) (w1 := [(hRea, .inr (2, [.ref hTape, .ref aSt, .int 0, .int 0, .int 0, .int 0, .int (-1), .int 0, .int 0])), (hTape, .inr (5, [.ref aB, .int 0]))]) hP hD [0, 1] [] rfl rfl (by decide) (by decide) hk1 hFc hP1 hD1
  have hK := (hK.sub (tys' := []) [] rfl).app hK1
  generalize H1 = H at hP hS ⊢
  have hP : va_P (dC, dI) vwCl [(hRea, .inr (2, [.ref hTape, .ref aSt, .int 0, .int 0, .int 0, .int 0, .int (-1), .int 0, .int 0])), (hTape, .inr (5, [.ref aB, .int 0]))] H := hP
  have hD : va_D A [(hRea, .inr (2, [.ref hTape, .ref aSt, .int 0, .int 0, .int 0, .int 0, .int (-1), .int 0, .int 0])), (hTape, .inr (5, [.ref aB, .int 0]))] := hD
  have hK : va_K (dC, dI) vwCl [] s := hK
  obtain rfl : (-1) = r_12 := hw_14.symm
  refine lv_istore_n (lv' := [(2, .int (-1)), (0, .ref hRea), (1, .int dp)]) hx hb dX2_readAtom_38 rfl hl (by decide) rfl (fun ls hl => ?_)
  refine lv_iload_n hx hb dX2_readAtom_39 rfl (lv_at hl 0 rfl) ?_
  refine lv_iconst (v := (-1)) hx hb dX2_readAtom_40 (by decide) ?_
  refine lv_icmp_ne (tgt := 49) hx hb dX2_readAtom_41 (by decide) (fun c_15 => absurd c_15 (by decide)) (fun c_15 => ?_)
  refine lv_aload_n hx hb dX2_readAtom_44 rfl (lv_at hl 1 rfl) ?_
  have hPc := hP.sub (ws' := [(hRea, .inr (2, [.ref hTape, .ref aSt, .int 0, .int 0, .int 0, .int 0, .int (-1), .int 0, .int 0])), (hTape, .inr (5, [.ref aB, .int 0]))]) [0, 1] rfl
  have hDc := hD.sub (ws' := [(hRea, .inr (2, [.ref hTape, .ref aSt, .int 0, .int 0, .int 0, .int 0, .int (-1), .int 0, .int 0])), (hTape, .inr (5, [.ref aB, .int 0]))]) [0, 1] (by decide) rfl
  have hKc := hK.sub (tys' := []) [] rfl
  have hFc := va_free (wc := [(hRea, .inr (2, [.ref hTape, .ref aSt, .int 0, .int 0, .int 0, .int 0, .int (-1), .int 0, .int 0])), (hTape, .inr (5, [.ref aB, .int 0]))]) hD hS hA [0, 1] rfl
  refine va_calli (va_runV (As := []) (rest := []) ⟨hx, hb, hml, hown, hts⟩ (c_X2_stop l dC dI H.size adK adV hRea hTape aSt aB ) (cwV 0 hts gX2_readAtom_X2_stop rfl rfl rfl (by decide +kernel) ⟨Nat.le_of_ble_eq_true rfl, Nat.le_of_ble_eq_true rfl⟩) ⟨fun a U g mk q => by obtain ⟨q0, q1, qP, qK, qD, qN⟩ := q; exact ⟨q0, q1, qP, va_K.moved (u := U) (U := U.calling g mk a) (Vm.Alike.refl U.vm) qK, qD, qN.same rfl rfl⟩, va_recv hKc hPc (ci := 2) (q0 := 0) rfl rfl, fun U hU hW => ⟨rfl, by rw [hU], by rw [hU]; exact hPc, va_K.moved hW.alike hKc, hDc.weaken (fun _ _ _ _ => trivial), hSt.call hS hU hW hFc⟩⟩ rfl rfl hl.1 rfl (lv_room (Nat.le_of_ble_eq_true rfl)) dX2_readAtom_45 ⟨Nat.le_of_ble_eq_true rfl, Nat.le_of_ble_eq_true rfl⟩) hS (fun q _ h => hFc q h) hFc (fun r_16 u_17 t H1 locs ht hvm hw_18 hB hz1 hk1 hS => ?_)
  try dsimp only at hw_18
  obtain ⟨hP1, hK1, hD1⟩ := hB
  rw [ht] at hP1
  have hK1 := va_K.moved hvm.symm hK1
  obtain ⟨hP, hD⟩ := va_join (wr := []) (w1 := [(hRea, .inr (2, [.ref hTape, .ref aSt, .int 0, .int 0, .int 0, .int 0, .int 0, .int 0, .int 0])), (hTape, .inr (5, [.ref aB, .int 0]))]) hP hD [0, 1] [] rfl rfl (by decide) (by decide) hk1 hFc hP1 hD1
  have hK := (hK.sub (tys' := []) [] rfl).app hK1
  generalize H1 = H at hP hS ⊢
  have hP : va_P (dC, dI) vwCl [(hRea, .inr (2, [.ref hTape, .ref aSt, .int 0, .int 0, .int 0, .int 0, .int 0, .int 0, .int 0])), (hTape, .inr (5, [.ref aB, .int 0]))] H := hP
  have hD : va_D A [(hRea, .inr (2, [.ref hTape, .ref aSt, .int 0, .int 0, .int 0, .int 0, .int 0, .int 0, .int 0])), (hTape, .inr (5, [.ref aB, .int 0]))] := hD
  have hK : va_K (dC, dI) vwCl [] s := hK
  obtain rfl : 0 = r_16 := hw_18.symm
  have hP9 := hP.sub (ws' := [(hRea, .inr (2, [.ref hTape, .ref aSt, .int 0, .int 0, .int 0, .int 0, .int 0, .int 0, .int 0])), (hTape, .inr (5, [.ref aB, .int 0]))]) [0, 1] rfl
  have hD9 := hD.sub (ws' := [(hRea, .inr (2, [.ref hTape, .ref aSt, .int 0, .int 0, .int 0, .int 0, .int 0, .int 0, .int 0])), (hTape, .inr (5, [.ref aB, .int 0]))]) [0, 1] (by decide) rfl
  have hK9 := hK.sub (tys' := []) [] rfl
  exact W.zret (v := 0) hx hb hr (by decide) (fun t ht hW => ⟨⟨0, (), rfl, rfl, by rw [ht]; exact hP9, va_K.moved hW.alike hK9, hD9⟩, hS.F ht⟩) hS.2.2 dX2_readAtom_48

set_option maxHeartbeats 4000000 in
set_option maxRecDepth 100000 in
theorem c_X2_readPart (l : Launch) (dC : Nat → ClassId) (dI : Nat → Nat → Nat) (sz : Nat) (adK : Nat → Nat) (adV : Nat → Nat) (hRea : Nat) (hTape : Nat) (aSt : Nat) (aB : Nat) (dp : Int32)  : Met l yX2_readPart wsX2_readPart ({ frames := 5, cells := 0, slots := 0, locals := 105 }) (va_Pc [.ref hRea, .int dp] (fun U => U.heap.size = sz ∧ va_P (dC, dI) vwCl [(hRea, .inr (2, [.ref hTape, .ref aSt, .int 0, .int 0, .int 0, .int 0, .int (-1), .int 0, .int 0])), (hTape, .inr (5, [.ref aB, .int 0]))] U.heap ∧ va_K (dC, dI) vwCl [] U ∧ va_D (fun _ => True) [(hRea, .inr (2, [.ref hTape, .ref aSt, .int 0, .int 0, .int 0, .int 0, .int (-1), .int 0, .int 0])), (hTape, .inr (5, [.ref aB, .int 0]))] ∧ st_ok adK adV (va_A [(hRea, .inr (2, [.ref hTape, .ref aSt, .int 0, .int 0, .int 0, .int 0, .int (-1), .int 0, .int 0])), (hTape, .inr (5, [.ref aB, .int 0]))] sz) U)) (va_Qi (fun (r : Int32) (_ : Unit) => r = 0) (fun (_ : Unit) (t : State) => va_P (dC, dI) vwCl [(hRea, .inr (2, [.ref hTape, .ref aSt, .int 0, .int 0, .int 0, .int 0, .int 0, .int 0, .int 0])), (hTape, .inr (5, [.ref aB, .int 0]))] t.heap ∧ va_K (dC, dI) vwCl [] t ∧ va_D (va_A [(hRea, .inr (2, [.ref hTape, .ref aSt, .int 0, .int 0, .int 0, .int 0, .int (-1), .int 0, .int 0])), (hTape, .inr (5, [.ref aB, .int 0]))] sz) [(hRea, .inr (2, [.ref hTape, .ref aSt, .int 0, .int 0, .int 0, .int 0, .int 0, .int 0, .int 0])), (hTape, .inr (5, [.ref aB, .int 0]))]) (va_A [(hRea, .inr (2, [.ref hTape, .ref aSt, .int 0, .int 0, .int 0, .int 0, .int (-1), .int 0, .int 0])), (hTape, .inr (5, [.ref aB, .int 0]))] sz)) 0 0 (va_A [(hRea, .inr (2, [.ref hTape, .ref aSt, .int 0, .int 0, .int 0, .int 0, .int (-1), .int 0, .int 0])), (hTape, .inr (5, [.ref aB, .int 0]))] sz) := by
  refine Met.ofW (cc := cX2_readPart) (maxL := 2) (ret := (some .boolean)) (by decide) rfl ?_
  intro p e s m args below meth c s₁ B hml hv
  obtain ⟨rfl, hsz, hP, hK, hD0, hN⟩ := hv
  have hx := B.exec
  have hb := B.bytes
  have hr := B.returns
  have hts := atoms_spec (ws := wsX2_readPart) B.pre
  have hown : s.vm.findClass RX2 = some m.cls := findClass_of_methodNamed B.named
  have hlocks := B.notSynchronized
  subst hsz
  have hD := hD0.self (sz := s.heap.size)
  generalize hAe : va_A [(hRea, .inr (2, [.ref hTape, .ref aSt, .int 0, .int 0, .int 0, .int 0, .int (-1), .int 0, .int 0])), (hTape, .inr (5, [.ref aB, .int 0]))] s.heap.size = A at hD hN ⊢
  have hSt := hN
  have hN := hSt.1
  have hA : ∀ q : Nat, s.heap.size ≤ q → A q := fun q h => by rw [← hAe]; exact Or.inr h
  have hS : va_S A s.heap s.heap [] := va_S.rf
  have hP : va_P (dC, dI) vwCl [(hRea, .inr (2, [.ref hTape, .ref aSt, .int 0, .int 0, .int 0, .int 0, .int (-1), .int 0, .int 0])), (hTape, .inr (5, [.ref aB, .int 0]))] s.heap := hP
  have hl := lv_entry ([.ref hRea, .int dp]) (n := 2) (Nat.le_of_ble_eq_true rfl)
  rw [lg_entry_eq]
  generalize (lg_sl ([.ref hRea, .int dp]) ++ List.replicate (2 - (lg_sl ([.ref hRea, .int dp])).length) Slot.unset).toArray = ls at hl ⊢
  have hl : lv_has ls 2 [(0, .ref hRea), (1, .int dp)] := hl
  refine lv_aload_n hx hb dX2_readPart_0 rfl (lv_at hl 0 rfl) ?_
  refine lv_iload_n hx hb dX2_readPart_1 rfl (lv_at hl 1 rfl) ?_
  have hPc := hP.sub (ws' := [(hRea, .inr (2, [.ref hTape, .ref aSt, .int 0, .int 0, .int 0, .int 0, .int (-1), .int 0, .int 0])), (hTape, .inr (5, [.ref aB, .int 0]))]) [0, 1] rfl
  have hDc := hD.sub (ws' := [(hRea, .inr (2, [.ref hTape, .ref aSt, .int 0, .int 0, .int 0, .int 0, .int (-1), .int 0, .int 0])), (hTape, .inr (5, [.ref aB, .int 0]))]) [0, 1] (by decide) rfl
  have hKc := hK.sub (tys' := []) [] rfl
  have hFc := va_free (wc := [(hRea, .inr (2, [.ref hTape, .ref aSt, .int 0, .int 0, .int 0, .int 0, .int (-1), .int 0, .int 0])), (hTape, .inr (5, [.ref aB, .int 0]))]) hD hS hA [0, 1] rfl
  refine va_calli (va_runV (As := [.int dp]) (rest := []) ⟨hx, hb, hml, hown, hts⟩ (c_X2_readAtom l dC dI s.heap.size adK adV hRea hTape aSt aB dp ) (cwV 1 hts gX2_readPart_X2_readAtom rfl rfl rfl (by decide +kernel) ⟨Nat.le_of_ble_eq_true rfl, Nat.le_of_ble_eq_true rfl⟩) ⟨fun a U g mk q => by obtain ⟨q0, q1, qP, qK, qD, qN⟩ := q; exact ⟨q0, q1, qP, va_K.moved (u := U) (U := U.calling g mk a) (Vm.Alike.refl U.vm) qK, qD, qN.same rfl rfl⟩, va_recv hKc hPc (ci := 2) (q0 := 0) rfl rfl, fun U hU hW => ⟨rfl, by rw [hU], by rw [hU]; exact hPc, va_K.moved hW.alike hKc, hDc.weaken (fun _ _ _ _ => trivial), hSt.call hS hU hW hFc⟩⟩ rfl rfl hl.1 rfl (lv_room (Nat.le_of_ble_eq_true rfl)) dX2_readPart_2 ⟨Nat.le_of_ble_eq_true rfl, Nat.le_of_ble_eq_true rfl⟩) hS (fun q _ h => hFc q h) hFc (fun r_1 u_2 t H1 locs ht hvm hw_3 hB hz1 hk1 hS => ?_)
  try dsimp only at hw_3
  obtain ⟨hP1, hK1, hD1⟩ := hB
  rw [ht] at hP1
  have hK1 := va_K.moved hvm.symm hK1
  obtain ⟨hP, hD⟩ := va_join (wr := []) (w1 := [(hRea, .inr (2, [.ref hTape, .ref aSt, .int 0, .int 0, .int 0, .int 0, .int 0, .int 0, .int 0])), (hTape, .inr (5, [.ref aB, .int 0]))]) hP hD [0, 1] [] rfl rfl (by decide) (by decide) hk1 hFc hP1 hD1
  have hK := (hK.sub (tys' := []) [] rfl).app hK1
  generalize H1 = H at hP hS ⊢
  have hP : va_P (dC, dI) vwCl [(hRea, .inr (2, [.ref hTape, .ref aSt, .int 0, .int 0, .int 0, .int 0, .int 0, .int 0, .int 0])), (hTape, .inr (5, [.ref aB, .int 0]))] H := hP
  have hD : va_D A [(hRea, .inr (2, [.ref hTape, .ref aSt, .int 0, .int 0, .int 0, .int 0, .int 0, .int 0, .int 0])), (hTape, .inr (5, [.ref aB, .int 0]))] := hD
  have hK : va_K (dC, dI) vwCl [] s := hK
  obtain rfl : 0 = r_1 := hw_3.symm
  refine lv_if_ne (tgt := 10) hx hb dX2_readPart_5 (by decide) (fun c_4 => absurd c_4 (by decide)) (fun c_4 => ?_)
  refine lv_iconst (v := 0) hx hb dX2_readPart_8 (by decide) ?_
  have hP9 := hP.sub (ws' := [(hRea, .inr (2, [.ref hTape, .ref aSt, .int 0, .int 0, .int 0, .int 0, .int 0, .int 0, .int 0])), (hTape, .inr (5, [.ref aB, .int 0]))]) [0, 1] rfl
  have hD9 := hD.sub (ws' := [(hRea, .inr (2, [.ref hTape, .ref aSt, .int 0, .int 0, .int 0, .int 0, .int 0, .int 0, .int 0])), (hTape, .inr (5, [.ref aB, .int 0]))]) [0, 1] (by decide) rfl
  have hK9 := hK.sub (tys' := []) [] rfl
  exact W.zret (v := 0) hx hb hr (by decide) (fun t ht hW => ⟨⟨0, (), rfl, rfl, by rw [ht]; exact hP9, va_K.moved hW.alike hK9, hD9⟩, hS.F ht⟩) hS.2.2 dX2_readPart_9

set_option maxHeartbeats 4000000 in
set_option maxRecDepth 100000 in
theorem c_X2_readTerm (l : Launch) (dC : Nat → ClassId) (dI : Nat → Nat → Nat) (sz : Nat) (adK : Nat → Nat) (adV : Nat → Nat) (hRea : Nat) (hTape : Nat) (aSt : Nat) (aB : Nat) (dp : Int32)  : Met l yX2_readTerm wsX2_readTerm ({ frames := 6, cells := 0, slots := 0, locals := 126 }) (va_Pc [.ref hRea, .int dp] (fun U => U.heap.size = sz ∧ va_P (dC, dI) vwCl [(hRea, .inr (2, [.ref hTape, .ref aSt, .int 0, .int 0, .int 0, .int 0, .int (-1), .int 0, .int 0])), (hTape, .inr (5, [.ref aB, .int 0]))] U.heap ∧ va_K (dC, dI) vwCl [] U ∧ va_D (fun _ => True) [(hRea, .inr (2, [.ref hTape, .ref aSt, .int 0, .int 0, .int 0, .int 0, .int (-1), .int 0, .int 0])), (hTape, .inr (5, [.ref aB, .int 0]))] ∧ st_ok adK adV (va_A [(hRea, .inr (2, [.ref hTape, .ref aSt, .int 0, .int 0, .int 0, .int 0, .int (-1), .int 0, .int 0])), (hTape, .inr (5, [.ref aB, .int 0]))] sz) U)) (va_Qi (fun (r : Int32) (_ : Unit) => r = 0) (fun (_ : Unit) (t : State) => va_P (dC, dI) vwCl [(hRea, .inr (2, [.ref hTape, .ref aSt, .int 0, .int 0, .int 0, .int 0, .int 0, .int 0, .int 0])), (hTape, .inr (5, [.ref aB, .int 0]))] t.heap ∧ va_K (dC, dI) vwCl [] t ∧ va_D (va_A [(hRea, .inr (2, [.ref hTape, .ref aSt, .int 0, .int 0, .int 0, .int 0, .int (-1), .int 0, .int 0])), (hTape, .inr (5, [.ref aB, .int 0]))] sz) [(hRea, .inr (2, [.ref hTape, .ref aSt, .int 0, .int 0, .int 0, .int 0, .int 0, .int 0, .int 0])), (hTape, .inr (5, [.ref aB, .int 0]))]) (va_A [(hRea, .inr (2, [.ref hTape, .ref aSt, .int 0, .int 0, .int 0, .int 0, .int (-1), .int 0, .int 0])), (hTape, .inr (5, [.ref aB, .int 0]))] sz)) 0 0 (va_A [(hRea, .inr (2, [.ref hTape, .ref aSt, .int 0, .int 0, .int 0, .int 0, .int (-1), .int 0, .int 0])), (hTape, .inr (5, [.ref aB, .int 0]))] sz) := by
  refine Met.ofW (cc := cX2_readTerm) (maxL := 5) (ret := (some .boolean)) (by decide) rfl ?_
  intro p e s m args below meth c s₁ B hml hv
  obtain ⟨rfl, hsz, hP, hK, hD0, hN⟩ := hv
  have hx := B.exec
  have hb := B.bytes
  have hr := B.returns
  have hts := atoms_spec (ws := wsX2_readTerm) B.pre
  have hown : s.vm.findClass RX2 = some m.cls := findClass_of_methodNamed B.named
  have hlocks := B.notSynchronized
  subst hsz
  have hD := hD0.self (sz := s.heap.size)
  generalize hAe : va_A [(hRea, .inr (2, [.ref hTape, .ref aSt, .int 0, .int 0, .int 0, .int 0, .int (-1), .int 0, .int 0])), (hTape, .inr (5, [.ref aB, .int 0]))] s.heap.size = A at hD hN ⊢
  have hSt := hN
  have hN := hSt.1
  have hA : ∀ q : Nat, s.heap.size ≤ q → A q := fun q h => by rw [← hAe]; exact Or.inr h
  have hS : va_S A s.heap s.heap [] := va_S.rf
  have hP : va_P (dC, dI) vwCl [(hRea, .inr (2, [.ref hTape, .ref aSt, .int 0, .int 0, .int 0, .int 0, .int (-1), .int 0, .int 0])), (hTape, .inr (5, [.ref aB, .int 0]))] s.heap := hP
  have hl := lv_entry ([.ref hRea, .int dp]) (n := 5) (Nat.le_of_ble_eq_true rfl)
  rw [lg_entry_eq]
  generalize (lg_sl ([.ref hRea, .int dp]) ++ List.replicate (5 - (lg_sl ([.ref hRea, .int dp])).length) Slot.unset).toArray = ls at hl ⊢
  have hl : lv_has ls 5 [(0, .ref hRea), (1, .int dp)] := hl
  refine lv_aload_n hx hb dX2_readTerm_0 rfl (lv_at hl 0 rfl) ?_
  refine lv_iload_n hx hb dX2_readTerm_1 rfl (lv_at hl 1 rfl) ?_
  have hPc := hP.sub (ws' := [(hRea, .inr (2, [.ref hTape, .ref aSt, .int 0, .int 0, .int 0, .int 0, .int (-1), .int 0, .int 0])), (hTape, .inr (5, [.ref aB, .int 0]))]) [0, 1] rfl
  have hDc := hD.sub (ws' := [(hRea, .inr (2, [.ref hTape, .ref aSt, .int 0, .int 0, .int 0, .int 0, .int (-1), .int 0, .int 0])), (hTape, .inr (5, [.ref aB, .int 0]))]) [0, 1] (by decide) rfl
  have hKc := hK.sub (tys' := []) [] rfl
  have hFc := va_free (wc := [(hRea, .inr (2, [.ref hTape, .ref aSt, .int 0, .int 0, .int 0, .int 0, .int (-1), .int 0, .int 0])), (hTape, .inr (5, [.ref aB, .int 0]))]) hD hS hA [0, 1] rfl
  refine va_calli (va_runV (As := [.int dp]) (rest := []) ⟨hx, hb, hml, hown, hts⟩ (c_X2_readPart l dC dI s.heap.size adK adV hRea hTape aSt aB dp ) (cwV 1 hts gX2_readTerm_X2_readPart rfl rfl rfl (by decide +kernel) ⟨Nat.le_of_ble_eq_true rfl, Nat.le_of_ble_eq_true rfl⟩) ⟨fun a U g mk q => by obtain ⟨q0, q1, qP, qK, qD, qN⟩ := q; exact ⟨q0, q1, qP, va_K.moved (u := U) (U := U.calling g mk a) (Vm.Alike.refl U.vm) qK, qD, qN.same rfl rfl⟩, va_recv hKc hPc (ci := 2) (q0 := 0) rfl rfl, fun U hU hW => ⟨rfl, by rw [hU], by rw [hU]; exact hPc, va_K.moved hW.alike hKc, hDc.weaken (fun _ _ _ _ => trivial), hSt.call hS hU hW hFc⟩⟩ rfl rfl hl.1 rfl (lv_room (Nat.le_of_ble_eq_true rfl)) dX2_readTerm_2 ⟨Nat.le_of_ble_eq_true rfl, Nat.le_of_ble_eq_true rfl⟩) hS (fun q _ h => hFc q h) hFc (fun r_1 u_2 t H1 locs ht hvm hw_3 hB hz1 hk1 hS => ?_)
  try dsimp only at hw_3
  obtain ⟨hP1, hK1, hD1⟩ := hB
  rw [ht] at hP1
  have hK1 := va_K.moved hvm.symm hK1
  obtain ⟨hP, hD⟩ := va_join (wr := []) (w1 := [(hRea, .inr (2, [.ref hTape, .ref aSt, .int 0, .int 0, .int 0, .int 0, .int 0, .int 0, .int 0])), (hTape, .inr (5, [.ref aB, .int 0]))]) hP hD [0, 1] [] rfl rfl (by decide) (by decide) hk1 hFc hP1 hD1
  have hK := (hK.sub (tys' := []) [] rfl).app hK1
  generalize H1 = H at hP hS ⊢
  have hP : va_P (dC, dI) vwCl [(hRea, .inr (2, [.ref hTape, .ref aSt, .int 0, .int 0, .int 0, .int 0, .int 0, .int 0, .int 0])), (hTape, .inr (5, [.ref aB, .int 0]))] H := hP
  have hD : va_D A [(hRea, .inr (2, [.ref hTape, .ref aSt, .int 0, .int 0, .int 0, .int 0, .int 0, .int 0, .int 0])), (hTape, .inr (5, [.ref aB, .int 0]))] := hD
  have hK : va_K (dC, dI) vwCl [] s := hK
  obtain rfl : 0 = r_1 := hw_3.symm
  refine lv_istore_n (lv' := [(2, .int 0), (0, .ref hRea), (1, .int dp)]) hx hb dX2_readTerm_5 rfl hl (by decide) rfl (fun ls hl => ?_)
  refine lv_iconst (v := 0) hx hb dX2_readTerm_6 (by decide) ?_
  refine lv_istore_n (lv' := [(3, .int 0), (2, .int 0), (0, .ref hRea), (1, .int dp)]) hx hb dX2_readTerm_7 rfl hl (by decide) rfl (fun ls hl => ?_)
  refine lv_iload_n hx hb dX2_readTerm_8 rfl (lv_at hl 0 rfl) ?_
  refine lv_sipush (v := 200) hx hb dX2_readTerm_9 (by decide) ?_
  refine lv_icmp_ge (tgt := 80) hx hb dX2_readTerm_12 (by decide) (fun c_4 => absurd c_4 (by decide)) (fun c_4 => ?_)
  refine lv_iload_n hx hb dX2_readTerm_15 rfl (lv_at hl 1 rfl) ?_
  refine lv_if_eq (tgt := 80) hx hb dX2_readTerm_16 (by decide) (fun c_5 => ?_) (fun c_5 => absurd (by decide) c_5)
  refine lv_iload_n hx hb dX2_readTerm_80 rfl (lv_at hl 1 rfl) ?_
  have hP9 := hP.sub (ws' := [(hRea, .inr (2, [.ref hTape, .ref aSt, .int 0, .int 0, .int 0, .int 0, .int 0, .int 0, .int 0])), (hTape, .inr (5, [.ref aB, .int 0]))]) [0, 1] rfl
  have hD9 := hD.sub (ws' := [(hRea, .inr (2, [.ref hTape, .ref aSt, .int 0, .int 0, .int 0, .int 0, .int 0, .int 0, .int 0])), (hTape, .inr (5, [.ref aB, .int 0]))]) [0, 1] (by decide) rfl
  have hK9 := hK.sub (tys' := []) [] rfl
  exact W.zret (v := 0) hx hb hr (by decide) (fun t ht hW => ⟨⟨0, (), rfl, rfl, by rw [ht]; exact hP9, va_K.moved hW.alike hK9, hD9⟩, hS.F ht⟩) hS.2.2 dX2_readTerm_81

set_option maxHeartbeats 4000000 in
set_option maxRecDepth 100000 in
theorem c_X2_readSum (l : Launch) (dC : Nat → ClassId) (dI : Nat → Nat → Nat) (sz : Nat) (adK : Nat → Nat) (adV : Nat → Nat) (hRea : Nat) (hTape : Nat) (aSt : Nat) (aB : Nat) (dp : Int32)  : Met l yX2_readSum wsX2_readSum ({ frames := 7, cells := 0, slots := 0, locals := 150 }) (va_Pc [.ref hRea, .int dp] (fun U => U.heap.size = sz ∧ va_P (dC, dI) vwCl [(hRea, .inr (2, [.ref hTape, .ref aSt, .int 0, .int 0, .int 0, .int 0, .int (-1), .int 0, .int 0])), (hTape, .inr (5, [.ref aB, .int 0]))] U.heap ∧ va_K (dC, dI) vwCl [] U ∧ va_D (fun _ => True) [(hRea, .inr (2, [.ref hTape, .ref aSt, .int 0, .int 0, .int 0, .int 0, .int (-1), .int 0, .int 0])), (hTape, .inr (5, [.ref aB, .int 0]))] ∧ st_ok adK adV (va_A [(hRea, .inr (2, [.ref hTape, .ref aSt, .int 0, .int 0, .int 0, .int 0, .int (-1), .int 0, .int 0])), (hTape, .inr (5, [.ref aB, .int 0]))] sz) U)) (va_Qi (fun (r : Int32) (_ : Unit) => r = 0) (fun (_ : Unit) (t : State) => va_P (dC, dI) vwCl [(hRea, .inr (2, [.ref hTape, .ref aSt, .int 0, .int 0, .int 0, .int 0, .int 0, .int 0, .int 0])), (hTape, .inr (5, [.ref aB, .int 0]))] t.heap ∧ va_K (dC, dI) vwCl [] t ∧ va_D (va_A [(hRea, .inr (2, [.ref hTape, .ref aSt, .int 0, .int 0, .int 0, .int 0, .int (-1), .int 0, .int 0])), (hTape, .inr (5, [.ref aB, .int 0]))] sz) [(hRea, .inr (2, [.ref hTape, .ref aSt, .int 0, .int 0, .int 0, .int 0, .int 0, .int 0, .int 0])), (hTape, .inr (5, [.ref aB, .int 0]))]) (va_A [(hRea, .inr (2, [.ref hTape, .ref aSt, .int 0, .int 0, .int 0, .int 0, .int (-1), .int 0, .int 0])), (hTape, .inr (5, [.ref aB, .int 0]))] sz)) 0 0 (va_A [(hRea, .inr (2, [.ref hTape, .ref aSt, .int 0, .int 0, .int 0, .int 0, .int (-1), .int 0, .int 0])), (hTape, .inr (5, [.ref aB, .int 0]))] sz) := by
  refine Met.ofW (cc := cX2_readSum) (maxL := 5) (ret := (some .boolean)) (by decide) rfl ?_
  intro p e s m args below meth c s₁ B hml hv
  obtain ⟨rfl, hsz, hP, hK, hD0, hN⟩ := hv
  have hx := B.exec
  have hb := B.bytes
  have hr := B.returns
  have hts := atoms_spec (ws := wsX2_readSum) B.pre
  have hown : s.vm.findClass RX2 = some m.cls := findClass_of_methodNamed B.named
  have hlocks := B.notSynchronized
  subst hsz
  have hD := hD0.self (sz := s.heap.size)
  generalize hAe : va_A [(hRea, .inr (2, [.ref hTape, .ref aSt, .int 0, .int 0, .int 0, .int 0, .int (-1), .int 0, .int 0])), (hTape, .inr (5, [.ref aB, .int 0]))] s.heap.size = A at hD hN ⊢
  have hSt := hN
  have hN := hSt.1
  have hA : ∀ q : Nat, s.heap.size ≤ q → A q := fun q h => by rw [← hAe]; exact Or.inr h
  have hS : va_S A s.heap s.heap [] := va_S.rf
  have hP : va_P (dC, dI) vwCl [(hRea, .inr (2, [.ref hTape, .ref aSt, .int 0, .int 0, .int 0, .int 0, .int (-1), .int 0, .int 0])), (hTape, .inr (5, [.ref aB, .int 0]))] s.heap := hP
  have hl := lv_entry ([.ref hRea, .int dp]) (n := 5) (Nat.le_of_ble_eq_true rfl)
  rw [lg_entry_eq]
  generalize (lg_sl ([.ref hRea, .int dp]) ++ List.replicate (5 - (lg_sl ([.ref hRea, .int dp])).length) Slot.unset).toArray = ls at hl ⊢
  have hl : lv_has ls 5 [(0, .ref hRea), (1, .int dp)] := hl
  refine lv_aload_n hx hb dX2_readSum_0 rfl (lv_at hl 0 rfl) ?_
  refine lv_iload_n hx hb dX2_readSum_1 rfl (lv_at hl 1 rfl) ?_
  have hPc := hP.sub (ws' := [(hRea, .inr (2, [.ref hTape, .ref aSt, .int 0, .int 0, .int 0, .int 0, .int (-1), .int 0, .int 0])), (hTape, .inr (5, [.ref aB, .int 0]))]) [0, 1] rfl
  have hDc := hD.sub (ws' := [(hRea, .inr (2, [.ref hTape, .ref aSt, .int 0, .int 0, .int 0, .int 0, .int (-1), .int 0, .int 0])), (hTape, .inr (5, [.ref aB, .int 0]))]) [0, 1] (by decide) rfl
  have hKc := hK.sub (tys' := []) [] rfl
  have hFc := va_free (wc := [(hRea, .inr (2, [.ref hTape, .ref aSt, .int 0, .int 0, .int 0, .int 0, .int (-1), .int 0, .int 0])), (hTape, .inr (5, [.ref aB, .int 0]))]) hD hS hA [0, 1] rfl
  refine va_calli (va_runV (As := [.int dp]) (rest := []) ⟨hx, hb, hml, hown, hts⟩ (c_X2_readTerm l dC dI s.heap.size adK adV hRea hTape aSt aB dp ) (cwV 1 hts gX2_readSum_X2_readTerm rfl rfl rfl (by decide +kernel) ⟨Nat.le_of_ble_eq_true rfl, Nat.le_of_ble_eq_true rfl⟩) ⟨fun a U g mk q => by obtain ⟨q0, q1, qP, qK, qD, qN⟩ := q; exact ⟨q0, q1, qP, va_K.moved (u := U) (U := U.calling g mk a) (Vm.Alike.refl U.vm) qK, qD, qN.same rfl rfl⟩, va_recv hKc hPc (ci := 2) (q0 := 0) rfl rfl, fun U hU hW => ⟨rfl, by rw [hU], by rw [hU]; exact hPc, va_K.moved hW.alike hKc, hDc.weaken (fun _ _ _ _ => trivial), hSt.call hS hU hW hFc⟩⟩ rfl rfl hl.1 rfl (lv_room (Nat.le_of_ble_eq_true rfl)) dX2_readSum_2 ⟨Nat.le_of_ble_eq_true rfl, Nat.le_of_ble_eq_true rfl⟩) hS (fun q _ h => hFc q h) hFc (fun r_1 u_2 t H1 locs ht hvm hw_3 hB hz1 hk1 hS => ?_)
  try dsimp only at hw_3
  obtain ⟨hP1, hK1, hD1⟩ := hB
  rw [ht] at hP1
  have hK1 := va_K.moved hvm.symm hK1
  obtain ⟨hP, hD⟩ := va_join (wr := []) (w1 := [(hRea, .inr (2, [.ref hTape, .ref aSt, .int 0, .int 0, .int 0, .int 0, .int 0, .int 0, .int 0])), (hTape, .inr (5, [.ref aB, .int 0]))]) hP hD [0, 1] [] rfl rfl (by decide) (by decide) hk1 hFc hP1 hD1
  have hK := (hK.sub (tys' := []) [] rfl).app hK1
  generalize H1 = H at hP hS ⊢
  have hP : va_P (dC, dI) vwCl [(hRea, .inr (2, [.ref hTape, .ref aSt, .int 0, .int 0, .int 0, .int 0, .int 0, .int 0, .int 0])), (hTape, .inr (5, [.ref aB, .int 0]))] H := hP
  have hD : va_D A [(hRea, .inr (2, [.ref hTape, .ref aSt, .int 0, .int 0, .int 0, .int 0, .int 0, .int 0, .int 0])), (hTape, .inr (5, [.ref aB, .int 0]))] := hD
  have hK : va_K (dC, dI) vwCl [] s := hK
  obtain rfl : 0 = r_1 := hw_3.symm
  refine lv_istore_n (lv' := [(2, .int 0), (0, .ref hRea), (1, .int dp)]) hx hb dX2_readSum_5 rfl hl (by decide) rfl (fun ls hl => ?_)
  refine lv_iconst (v := 0) hx hb dX2_readSum_6 (by decide) ?_
  refine lv_istore_n (lv' := [(3, .int 0), (2, .int 0), (0, .ref hRea), (1, .int dp)]) hx hb dX2_readSum_7 rfl hl (by decide) rfl (fun ls hl => ?_)
  refine lv_iload_n hx hb dX2_readSum_8 rfl (lv_at hl 0 rfl) ?_
  refine lv_sipush (v := 200) hx hb dX2_readSum_9 (by decide) ?_
  refine lv_icmp_ge (tgt := 80) hx hb dX2_readSum_12 (by decide) (fun c_4 => absurd c_4 (by decide)) (fun c_4 => ?_)
  refine lv_iload_n hx hb dX2_readSum_15 rfl (lv_at hl 1 rfl) ?_
  refine lv_if_eq (tgt := 80) hx hb dX2_readSum_16 (by decide) (fun c_5 => ?_) (fun c_5 => absurd (by decide) c_5)
  refine lv_iload_n hx hb dX2_readSum_80 rfl (lv_at hl 1 rfl) ?_
  have hP9 := hP.sub (ws' := [(hRea, .inr (2, [.ref hTape, .ref aSt, .int 0, .int 0, .int 0, .int 0, .int 0, .int 0, .int 0])), (hTape, .inr (5, [.ref aB, .int 0]))]) [0, 1] rfl
  have hD9 := hD.sub (ws' := [(hRea, .inr (2, [.ref hTape, .ref aSt, .int 0, .int 0, .int 0, .int 0, .int 0, .int 0, .int 0])), (hTape, .inr (5, [.ref aB, .int 0]))]) [0, 1] (by decide) rfl
  have hK9 := hK.sub (tys' := []) [] rfl
  exact W.zret (v := 0) hx hb hr (by decide) (fun t ht hW => ⟨⟨0, (), rfl, rfl, by rw [ht]; exact hP9, va_K.moved hW.alike hK9, hD9⟩, hS.F ht⟩) hS.2.2 dX2_readSum_81

set_option maxHeartbeats 4000000 in
set_option maxRecDepth 100000 in
theorem c_X2_read (l : Launch) (dC : Nat → ClassId) (dI : Nat → Nat → Nat) (sz : Nat) (adK : Nat → Nat) (adV : Nat → Nat) (hRea : Nat) (hTape : Nat) (aSt : Nat) (aB : Nat)  : Met l yX2_read wsX2_read ({ frames := 8, cells := 0, slots := 0, locals := 174 }) (va_Pc [.ref hRea, .int 0] (fun U => U.heap.size = sz ∧ va_P (dC, dI) vwCl [(hRea, .inr (2, [.ref hTape, .ref aSt, .int 0, .int 0, .int 0, .int 0, .int (-1), .int 0, .int 0])), (hTape, .inr (5, [.ref aB, .int 0]))] U.heap ∧ va_K (dC, dI) vwCl [] U ∧ va_D (fun _ => True) [(hRea, .inr (2, [.ref hTape, .ref aSt, .int 0, .int 0, .int 0, .int 0, .int (-1), .int 0, .int 0])), (hTape, .inr (5, [.ref aB, .int 0]))] ∧ st_ok adK adV (va_A [(hRea, .inr (2, [.ref hTape, .ref aSt, .int 0, .int 0, .int 0, .int 0, .int (-1), .int 0, .int 0])), (hTape, .inr (5, [.ref aB, .int 0]))] sz) U)) (va_Qi (fun (r : Int32) (_ : Unit) => r = 0) (fun (_ : Unit) (t : State) => va_P (dC, dI) vwCl [(hRea, .inr (2, [.ref hTape, .ref aSt, .int 0, .int 0, .int 0, .int 0, .int 0, .int 0, .int 0])), (hTape, .inr (5, [.ref aB, .int 0]))] t.heap ∧ va_K (dC, dI) vwCl [] t ∧ va_D (va_A [(hRea, .inr (2, [.ref hTape, .ref aSt, .int 0, .int 0, .int 0, .int 0, .int (-1), .int 0, .int 0])), (hTape, .inr (5, [.ref aB, .int 0]))] sz) [(hRea, .inr (2, [.ref hTape, .ref aSt, .int 0, .int 0, .int 0, .int 0, .int 0, .int 0, .int 0])), (hTape, .inr (5, [.ref aB, .int 0]))]) (va_A [(hRea, .inr (2, [.ref hTape, .ref aSt, .int 0, .int 0, .int 0, .int 0, .int (-1), .int 0, .int 0])), (hTape, .inr (5, [.ref aB, .int 0]))] sz)) 0 0 (va_A [(hRea, .inr (2, [.ref hTape, .ref aSt, .int 0, .int 0, .int 0, .int 0, .int (-1), .int 0, .int 0])), (hTape, .inr (5, [.ref aB, .int 0]))] sz) := by
  refine Met.ofW (cc := cX2_read) (maxL := 2) (ret := (some .int)) (by decide) rfl ?_
  intro p e s m args below meth c s₁ B hml hv
  obtain ⟨rfl, hsz, hP, hK, hD0, hN⟩ := hv
  have hx := B.exec
  have hb := B.bytes
  have hr := B.returns
  have hts := atoms_spec (ws := wsX2_read) B.pre
  have hown : s.vm.findClass RX2 = some m.cls := findClass_of_methodNamed B.named
  have hlocks := B.notSynchronized
  subst hsz
  have hD := hD0.self (sz := s.heap.size)
  generalize hAe : va_A [(hRea, .inr (2, [.ref hTape, .ref aSt, .int 0, .int 0, .int 0, .int 0, .int (-1), .int 0, .int 0])), (hTape, .inr (5, [.ref aB, .int 0]))] s.heap.size = A at hD hN ⊢
  have hSt := hN
  have hN := hSt.1
  have hA : ∀ q : Nat, s.heap.size ≤ q → A q := fun q h => by rw [← hAe]; exact Or.inr h
  have hS : va_S A s.heap s.heap [] := va_S.rf
  have hP : va_P (dC, dI) vwCl [(hRea, .inr (2, [.ref hTape, .ref aSt, .int 0, .int 0, .int 0, .int 0, .int (-1), .int 0, .int 0])), (hTape, .inr (5, [.ref aB, .int 0]))] s.heap := hP
  have hIX2 : ∀ w ∈ u_ws RX2 TX2 9, w ∈ wsX2_read := by decide +kernel
  have hl := lv_entry ([.ref hRea, .int 0]) (n := 2) (Nat.le_of_ble_eq_true rfl)
  rw [lg_entry_eq]
  generalize (lg_sl ([.ref hRea, .int 0]) ++ List.replicate (2 - (lg_sl ([.ref hRea, .int 0])).length) Slot.unset).toArray = ls at hl ⊢
  have hl : lv_has ls 2 [(0, .ref hRea), (1, .int 0)] := hl
  refine lv_aload_n hx hb dX2_read_0 rfl (lv_at hl 0 rfl) ?_
  refine lv_iconst (v := 0) hx hb dX2_read_1 (by decide) ?_
  refine va_put (D := (dC, dI)) (ci := 2) (v := .int 0) (ty := .int) (C := RX2) (T := TX2) (N := 9) hx hb hts hIX2 tyX2 tyX2_ok nmX2 hown hK hP hD hS 0 rfl rfl 2 (by decide) (hts (.fieldLink RX2 21 "TraitHouse$Reader" "size" "I") (by decide +kernel)) (fun _ h9 => h9) rfl (by decide +kernel) rfl rfl (Nat.le_of_ble_eq_true rfl) dX2_read_2 (fun H locs hP hD hS => ?_)
  have hP : va_P (dC, dI) vwCl [(hRea, .inr (2, [.ref hTape, .ref aSt, .int 0, .int 0, .int 0, .int 0, .int (-1), .int 0, .int 0])), (hTape, .inr (5, [.ref aB, .int 0]))] H := hP
  have hD : va_D A [(hRea, .inr (2, [.ref hTape, .ref aSt, .int 0, .int 0, .int 0, .int 0, .int (-1), .int 0, .int 0])), (hTape, .inr (5, [.ref aB, .int 0]))] := hD
  refine lv_aload_n hx hb dX2_read_5 rfl (lv_at hl 0 rfl) ?_
  refine lv_iconst (v := 0) hx hb dX2_read_6 (by decide) ?_
  refine va_put (D := (dC, dI)) (ci := 2) (v := .int 0) (ty := .int) (C := RX2) (T := TX2) (N := 9) hx hb hts hIX2 tyX2 tyX2_ok nmX2 hown hK hP hD hS 0 rfl rfl 4 (by decide) (hts (.fieldLink RX2 25 "TraitHouse$Reader" "behind" "I") (by decide +kernel)) (fun _ h9 => h9) rfl (by decide +kernel) rfl rfl (Nat.le_of_ble_eq_true rfl) dX2_read_7 (fun H locs hP hD hS => ?_)
  have hP : va_P (dC, dI) vwCl [(hRea, .inr (2, [.ref hTape, .ref aSt, .int 0, .int 0, .int 0, .int 0, .int (-1), .int 0, .int 0])), (hTape, .inr (5, [.ref aB, .int 0]))] H := hP
  have hD : va_D A [(hRea, .inr (2, [.ref hTape, .ref aSt, .int 0, .int 0, .int 0, .int 0, .int (-1), .int 0, .int 0])), (hTape, .inr (5, [.ref aB, .int 0]))] := hD
  refine lv_aload_n hx hb dX2_read_10 rfl (lv_at hl 0 rfl) ?_
  refine lv_iload_n hx hb dX2_read_11 rfl (lv_at hl 1 rfl) ?_
  refine va_put (D := (dC, dI)) (ci := 2) (v := .int 0) (ty := .int) (C := RX2) (T := TX2) (N := 9) hx hb hts hIX2 tyX2 tyX2_ok nmX2 hown hK hP hD hS 0 rfl rfl 5 (by decide) (hts (.fieldLink RX2 28 "TraitHouse$Reader" "traitsThere" "I") (by decide +kernel)) (fun _ h9 => h9) rfl (by decide +kernel) rfl rfl (Nat.le_of_ble_eq_true rfl) dX2_read_12 (fun H locs hP hD hS => ?_)
  have hP : va_P (dC, dI) vwCl [(hRea, .inr (2, [.ref hTape, .ref aSt, .int 0, .int 0, .int 0, .int 0, .int (-1), .int 0, .int 0])), (hTape, .inr (5, [.ref aB, .int 0]))] H := hP
  have hD : va_D A [(hRea, .inr (2, [.ref hTape, .ref aSt, .int 0, .int 0, .int 0, .int 0, .int (-1), .int 0, .int 0])), (hTape, .inr (5, [.ref aB, .int 0]))] := hD
  refine lv_aload_n hx hb dX2_read_15 rfl (lv_at hl 0 rfl) ?_
  refine lv_iconst (v := (-1)) hx hb dX2_read_16 (by decide) ?_
  refine va_put (D := (dC, dI)) (ci := 2) (v := .int (-1)) (ty := .int) (C := RX2) (T := TX2) (N := 9) hx hb hts hIX2 tyX2 tyX2_ok nmX2 hown hK hP hD hS 0 rfl rfl 6 (by decide) (hts (.fieldLink RX2 31 "TraitHouse$Reader" "fault" "I") (by decide +kernel)) (fun _ h9 => h9) rfl (by decide +kernel) rfl rfl (Nat.le_of_ble_eq_true rfl) dX2_read_17 (fun H locs hP hD hS => ?_)
  have hP : va_P (dC, dI) vwCl [(hRea, .inr (2, [.ref hTape, .ref aSt, .int 0, .int 0, .int 0, .int 0, .int (-1), .int 0, .int 0])), (hTape, .inr (5, [.ref aB, .int 0]))] H := hP
  have hD : va_D A [(hRea, .inr (2, [.ref hTape, .ref aSt, .int 0, .int 0, .int 0, .int 0, .int (-1), .int 0, .int 0])), (hTape, .inr (5, [.ref aB, .int 0]))] := hD
  refine lv_aload_n hx hb dX2_read_20 rfl (lv_at hl 0 rfl) ?_
  refine lv_iconst (v := 0) hx hb dX2_read_21 (by decide) ?_
  refine va_put (D := (dC, dI)) (ci := 2) (v := .int 0) (ty := .int) (C := RX2) (T := TX2) (N := 9) hx hb hts hIX2 tyX2 tyX2_ok nmX2 hown hK hP hD hS 0 rfl rfl 7 (by decide) (hts (.fieldLink RX2 34 "TraitHouse$Reader" "reads" "I") (by decide +kernel)) (fun _ h9 => h9) rfl (by decide +kernel) rfl rfl (Nat.le_of_ble_eq_true rfl) dX2_read_22 (fun H locs hP hD hS => ?_)
  have hP : va_P (dC, dI) vwCl [(hRea, .inr (2, [.ref hTape, .ref aSt, .int 0, .int 0, .int 0, .int 0, .int (-1), .int 0, .int 0])), (hTape, .inr (5, [.ref aB, .int 0]))] H := hP
  have hD : va_D A [(hRea, .inr (2, [.ref hTape, .ref aSt, .int 0, .int 0, .int 0, .int 0, .int (-1), .int 0, .int 0])), (hTape, .inr (5, [.ref aB, .int 0]))] := hD
  refine lv_aload_n hx hb dX2_read_25 rfl (lv_at hl 0 rfl) ?_
  refine lv_iconst (v := 0) hx hb dX2_read_26 (by decide) ?_
  refine va_put (D := (dC, dI)) (ci := 2) (v := .int 0) (ty := .boolean) (C := RX2) (T := TX2) (N := 9) hx hb hts hIX2 tyX2 tyX2_ok nmX2 hown hK hP hD hS 0 rfl rfl 8 (by decide) (hts (.fieldLink RX2 37 "TraitHouse$Reader" "leaks" "Z") (by decide +kernel)) (fun _ h9 => h9) rfl (by decide +kernel) rfl rfl (Nat.le_of_ble_eq_true rfl) dX2_read_27 (fun H locs hP hD hS => ?_)
  have hP : va_P (dC, dI) vwCl [(hRea, .inr (2, [.ref hTape, .ref aSt, .int 0, .int 0, .int 0, .int 0, .int (-1), .int 0, .int 0])), (hTape, .inr (5, [.ref aB, .int 0]))] H := hP
  have hD : va_D A [(hRea, .inr (2, [.ref hTape, .ref aSt, .int 0, .int 0, .int 0, .int 0, .int (-1), .int 0, .int 0])), (hTape, .inr (5, [.ref aB, .int 0]))] := hD
  refine lv_aload_n hx hb dX2_read_30 rfl (lv_at hl 0 rfl) ?_
  have hPc := hP.sub (ws' := [(hRea, .inr (2, [.ref hTape, .ref aSt, .int 0, .int 0, .int 0, .int 0, .int (-1), .int 0, .int 0])), (hTape, .inr (5, [.ref aB, .int 0]))]) [0, 1] rfl
  have hDc := hD.sub (ws' := [(hRea, .inr (2, [.ref hTape, .ref aSt, .int 0, .int 0, .int 0, .int 0, .int (-1), .int 0, .int 0])), (hTape, .inr (5, [.ref aB, .int 0]))]) [0, 1] (by decide) rfl
  have hKc := hK.sub (tys' := []) [] rfl
  have hFc := va_free (wc := [(hRea, .inr (2, [.ref hTape, .ref aSt, .int 0, .int 0, .int 0, .int 0, .int (-1), .int 0, .int 0])), (hTape, .inr (5, [.ref aB, .int 0]))]) hD hS hA [0, 1] rfl
  refine va_callv (va_runV (As := []) (rest := []) ⟨hx, hb, hml, hown, hts⟩ (c_X2_advance l dC dI H.size adK adV hRea hTape aSt aB 0 ) (cwV 0 hts gX2_read_X2_advance rfl rfl rfl (by decide +kernel) ⟨Nat.le_of_ble_eq_true rfl, Nat.le_of_ble_eq_true rfl⟩) ⟨fun a U g mk q => by obtain ⟨q0, q1, qP, qK, qD, qN⟩ := q; exact ⟨q0, q1, qP, va_K.moved (u := U) (U := U.calling g mk a) (Vm.Alike.refl U.vm) qK, qD, qN.same rfl rfl⟩, va_recv hKc hPc (ci := 2) (q0 := 0) rfl rfl, fun U hU hW => ⟨rfl, by rw [hU], by rw [hU]; exact hPc, va_K.moved hW.alike hKc, hDc.weaken (fun _ _ _ _ => trivial), hSt.call hS hU hW hFc⟩⟩ rfl rfl hl.1 rfl (lv_room (Nat.le_of_ble_eq_true rfl)) dX2_read_31 ⟨Nat.le_of_ble_eq_true rfl, Nat.le_of_ble_eq_true rfl⟩) hS (fun q _ h => hFc q h) hFc (fun u_1 t H1 locs ht hvm hw_2 hB hz1 hk1 hS => ?_)
  try dsimp only at hw_2
  obtain ⟨hP1, hK1, hD1⟩ := hB
  rw [ht] at hP1
  have hK1 := va_K.moved hvm.symm hK1
  obtain ⟨hP, hD⟩ := va_join (wr := []) (w1 := [(hRea, .inr (2, [.ref hTape, .ref aSt, .int 0, .int 0, .int 0, .int 0, .int (-1), .int 0, .int 0])), (hTape, .inr (5, [.ref aB, .int 0]))]) hP hD [0, 1] [] rfl rfl (by decide) (by decide) hk1 hFc hP1 hD1
  have hK := (hK.sub (tys' := []) [] rfl).app hK1
  generalize H1 = H at hP hS ⊢
  have hP : va_P (dC, dI) vwCl [(hRea, .inr (2, [.ref hTape, .ref aSt, .int 0, .int 0, .int 0, .int 0, .int (-1), .int 0, .int 0])), (hTape, .inr (5, [.ref aB, .int 0]))] H := hP
  have hD : va_D A [(hRea, .inr (2, [.ref hTape, .ref aSt, .int 0, .int 0, .int 0, .int 0, .int (-1), .int 0, .int 0])), (hTape, .inr (5, [.ref aB, .int 0]))] := hD
  have hK : va_K (dC, dI) vwCl [] s := hK
  refine lv_aload_n hx hb dX2_read_34 rfl (lv_at hl 0 rfl) ?_
  refine lv_iconst (v := 0) hx hb dX2_read_35 (by decide) ?_
  have hk_3 : (0 : Int32).toInt = 0 := by decide
  have hPc := hP.sub (ws' := [(hRea, .inr (2, [.ref hTape, .ref aSt, .int 0, .int 0, .int 0, .int 0, .int (-1), .int 0, .int 0])), (hTape, .inr (5, [.ref aB, .int 0]))]) [0, 1] rfl
  have hDc := hD.sub (ws' := [(hRea, .inr (2, [.ref hTape, .ref aSt, .int 0, .int 0, .int 0, .int 0, .int (-1), .int 0, .int 0])), (hTape, .inr (5, [.ref aB, .int 0]))]) [0, 1] (by decide) rfl
  have hKc := hK.sub (tys' := []) [] rfl
  have hFc := va_free (wc := [(hRea, .inr (2, [.ref hTape, .ref aSt, .int 0, .int 0, .int 0, .int 0, .int (-1), .int 0, .int 0])), (hTape, .inr (5, [.ref aB, .int 0]))]) hD hS hA [0, 1] rfl
  refine va_calli (va_runV (As := [.int 0]) (rest := []) ⟨hx, hb, hml, hown, hts⟩ (c_X2_readSum l dC dI H.size adK adV hRea hTape aSt aB 0 ) (cwV 1 hts gX2_read_X2_readSum rfl rfl rfl (by decide +kernel) ⟨Nat.le_of_ble_eq_true rfl, Nat.le_of_ble_eq_true rfl⟩) ⟨fun a U g mk q => by obtain ⟨q0, q1, qP, qK, qD, qN⟩ := q; exact ⟨q0, q1, qP, va_K.moved (u := U) (U := U.calling g mk a) (Vm.Alike.refl U.vm) qK, qD, qN.same rfl rfl⟩, va_recv hKc hPc (ci := 2) (q0 := 0) rfl rfl, fun U hU hW => ⟨rfl, by rw [hU], by rw [hU]; exact hPc, va_K.moved hW.alike hKc, hDc.weaken (fun _ _ _ _ => trivial), hSt.call hS hU hW hFc⟩⟩ rfl rfl hl.1 rfl (lv_room (Nat.le_of_ble_eq_true rfl)) dX2_read_36 ⟨Nat.le_of_ble_eq_true rfl, Nat.le_of_ble_eq_true rfl⟩) hS (fun q _ h => hFc q h) hFc (fun r_4 u_5 t H1 locs ht hvm hw_6 hB hz1 hk1 hS => ?_)
  try dsimp only at hw_6
  obtain ⟨hP1, hK1, hD1⟩ := hB
  rw [ht] at hP1
  have hK1 := va_K.moved hvm.symm hK1
  obtain ⟨hP, hD⟩ := va_join (wr := []) (w1 := [(hRea, .inr (2, [.ref hTape, .ref aSt, .int 0, .int 0, .int 0, .int 0, .int 0, .int 0, .int 0])), (hTape, .inr (5, [.ref aB, .int 0]))]) hP hD [0, 1] [] rfl rfl (by decide) (by decide) hk1 hFc hP1 hD1
  have hK := (hK.sub (tys' := []) [] rfl).app hK1
  generalize H1 = H at hP hS ⊢
  have hP : va_P (dC, dI) vwCl [(hRea, .inr (2, [.ref hTape, .ref aSt, .int 0, .int 0, .int 0, .int 0, .int 0, .int 0, .int 0])), (hTape, .inr (5, [.ref aB, .int 0]))] H := hP
  have hD : va_D A [(hRea, .inr (2, [.ref hTape, .ref aSt, .int 0, .int 0, .int 0, .int 0, .int 0, .int 0, .int 0])), (hTape, .inr (5, [.ref aB, .int 0]))] := hD
  have hK : va_K (dC, dI) vwCl [] s := hK
  obtain rfl : 0 = r_4 := hw_6.symm
  refine lv_if_eq (tgt := 61) hx hb dX2_read_39 (by decide) (fun c_7 => ?_) (fun c_7 => absurd (by decide) c_7)
  refine lv_aload_n hx hb dX2_read_61 rfl (lv_at hl 0 rfl) ?_
  refine va_get (D := (dC, dI)) (ci := 2) (v := .int 0) (C := RX2) (T := TX2) (N := 9) hx hb hts hIX2 hown hK hP 0 rfl rfl 6 (by decide) (hts (.fieldLink RX2 31 "TraitHouse$Reader" "fault" "I") (by decide +kernel)) (fun _ h9 => h9) rfl dX2_read_62 ?_
  have hP9 := hP.sub (ws' := [(hRea, .inr (2, [.ref hTape, .ref aSt, .int 0, .int 0, .int 0, .int 0, .int 0, .int 0, .int 0])), (hTape, .inr (5, [.ref aB, .int 0]))]) [0, 1] rfl
  have hD9 := hD.sub (ws' := [(hRea, .inr (2, [.ref hTape, .ref aSt, .int 0, .int 0, .int 0, .int 0, .int 0, .int 0, .int 0])), (hTape, .inr (5, [.ref aB, .int 0]))]) [0, 1] (by decide) rfl
  have hK9 := hK.sub (tys' := []) [] rfl
  exact W.iret (v := 0) hx hb hr (fun t ht hW => ⟨⟨0, (), rfl, rfl, by rw [ht]; exact hP9, va_K.moved hW.alike hK9, hD9⟩, hS.F ht⟩) hS.2.2 dX2_read_65

set_option maxHeartbeats 4000000 in
set_option maxRecDepth 100000 in
theorem c_X8_readTrait (l : Launch) (dC : Nat → ClassId) (dI : Nat → Nat → Nat) (sz : Nat) (adK : Nat → Nat) (adV : Nat → Nat) (h0 : Nat) (hRows : Nat) (hMer : Nat) (hEra : Nat) (hTape : Nat) (hRea : Nat) (hTra : Nat) (hWor : Nat) (hPla : Nat) (hMod : Nat) (hHe1 : Nat) (hHe2 : Nat) (aSt : Nat) (aB : Nat)  : Met l yX8_readTrait wsX8_readTrait ({ frames := 9, cells := 0, slots := 0, locals := 195 }) (va_Pc [.ref h0] (fun U => U.heap.size = sz ∧ va_P (dC, dI) vwCl [(h0, .inr (8, [.ref hRows, .ref hMer, .ref hEra, .ref hTape, .ref hRea, .ref hTra, .ref hWor, .ref hPla, .ref hMod, .ref hHe1, .ref hHe2, .int 0, .int 0, .int 0, .int 0, .int (-1), .int 0])), (hRea, .inr (2, [.ref hTape, .ref aSt, .int 0, .int 0, .int 0, .int 0, .int (-1), .int 0, .int 0])), (hTape, .inr (5, [.ref aB, .int 0]))] U.heap ∧ va_K (dC, dI) vwCl [] U ∧ va_D (fun _ => True) [(h0, .inr (8, [.ref hRows, .ref hMer, .ref hEra, .ref hTape, .ref hRea, .ref hTra, .ref hWor, .ref hPla, .ref hMod, .ref hHe1, .ref hHe2, .int 0, .int 0, .int 0, .int 0, .int (-1), .int 0])), (hRea, .inr (2, [.ref hTape, .ref aSt, .int 0, .int 0, .int 0, .int 0, .int (-1), .int 0, .int 0])), (hTape, .inr (5, [.ref aB, .int 0]))] ∧ st_ok adK adV (va_A [(h0, .inr (8, [.ref hRows, .ref hMer, .ref hEra, .ref hTape, .ref hRea, .ref hTra, .ref hWor, .ref hPla, .ref hMod, .ref hHe1, .ref hHe2, .int 0, .int 0, .int 0, .int 0, .int (-1), .int 0])), (hRea, .inr (2, [.ref hTape, .ref aSt, .int 0, .int 0, .int 0, .int 0, .int (-1), .int 0, .int 0])), (hTape, .inr (5, [.ref aB, .int 0]))] sz) U)) (va_Qi (fun (r : Int32) (_ : Unit) => r = (-6)) (fun (_ : Unit) (t : State) => va_P (dC, dI) vwCl [(h0, .inr (8, [.ref hRows, .ref hMer, .ref hEra, .ref hTape, .ref hRea, .ref hTra, .ref hWor, .ref hPla, .ref hMod, .ref hHe1, .ref hHe2, .int 0, .int 0, .int 0, .int 0, .int 0, .int 0])), (hTape, .inr (5, [.ref aB, .int 0]))] t.heap ∧ va_K (dC, dI) vwCl [] t ∧ va_D (va_A [(h0, .inr (8, [.ref hRows, .ref hMer, .ref hEra, .ref hTape, .ref hRea, .ref hTra, .ref hWor, .ref hPla, .ref hMod, .ref hHe1, .ref hHe2, .int 0, .int 0, .int 0, .int 0, .int (-1), .int 0])), (hRea, .inr (2, [.ref hTape, .ref aSt, .int 0, .int 0, .int 0, .int 0, .int (-1), .int 0, .int 0])), (hTape, .inr (5, [.ref aB, .int 0]))] sz) [(h0, .inr (8, [.ref hRows, .ref hMer, .ref hEra, .ref hTape, .ref hRea, .ref hTra, .ref hWor, .ref hPla, .ref hMod, .ref hHe1, .ref hHe2, .int 0, .int 0, .int 0, .int 0, .int 0, .int 0])), (hTape, .inr (5, [.ref aB, .int 0]))]) (va_A [(h0, .inr (8, [.ref hRows, .ref hMer, .ref hEra, .ref hTape, .ref hRea, .ref hTra, .ref hWor, .ref hPla, .ref hMod, .ref hHe1, .ref hHe2, .int 0, .int 0, .int 0, .int 0, .int (-1), .int 0])), (hRea, .inr (2, [.ref hTape, .ref aSt, .int 0, .int 0, .int 0, .int 0, .int (-1), .int 0, .int 0])), (hTape, .inr (5, [.ref aB, .int 0]))] sz)) 0 0 (va_A [(h0, .inr (8, [.ref hRows, .ref hMer, .ref hEra, .ref hTape, .ref hRea, .ref hTra, .ref hWor, .ref hPla, .ref hMod, .ref hHe1, .ref hHe2, .int 0, .int 0, .int 0, .int 0, .int (-1), .int 0])), (hRea, .inr (2, [.ref hTape, .ref aSt, .int 0, .int 0, .int 0, .int 0, .int (-1), .int 0, .int 0])), (hTape, .inr (5, [.ref aB, .int 0]))] sz) := by
  refine Met.ofW (cc := cX8_readTrait) (maxL := 2) (ret := (some .int)) (by decide) rfl ?_
  intro p e s m args below meth c s₁ B hml hv
  obtain ⟨rfl, hsz, hP, hK, hD0, hN⟩ := hv
  have hx := B.exec
  have hb := B.bytes
  have hr := B.returns
  have hts := atoms_spec (ws := wsX8_readTrait) B.pre
  have hown : s.vm.findClass RX8 = some m.cls := findClass_of_methodNamed B.named
  have hlocks := B.notSynchronized
  subst hsz
  have hD := hD0.self (sz := s.heap.size)
  generalize hAe : va_A [(h0, .inr (8, [.ref hRows, .ref hMer, .ref hEra, .ref hTape, .ref hRea, .ref hTra, .ref hWor, .ref hPla, .ref hMod, .ref hHe1, .ref hHe2, .int 0, .int 0, .int 0, .int 0, .int (-1), .int 0])), (hRea, .inr (2, [.ref hTape, .ref aSt, .int 0, .int 0, .int 0, .int 0, .int (-1), .int 0, .int 0])), (hTape, .inr (5, [.ref aB, .int 0]))] s.heap.size = A at hD hN ⊢
  have hSt := hN
  have hN := hSt.1
  have hA : ∀ q : Nat, s.heap.size ≤ q → A q := fun q h => by rw [← hAe]; exact Or.inr h
  have hS : va_S A s.heap s.heap [] := va_S.rf
  have hP : va_P (dC, dI) vwCl [(h0, .inr (8, [.ref hRows, .ref hMer, .ref hEra, .ref hTape, .ref hRea, .ref hTra, .ref hWor, .ref hPla, .ref hMod, .ref hHe1, .ref hHe2, .int 0, .int 0, .int 0, .int 0, .int (-1), .int 0])), (hRea, .inr (2, [.ref hTape, .ref aSt, .int 0, .int 0, .int 0, .int 0, .int (-1), .int 0, .int 0])), (hTape, .inr (5, [.ref aB, .int 0]))] s.heap := hP
  have hIX8 : ∀ w ∈ u_ws RX8 TX8 17, w ∈ wsX8_readTrait := by decide +kernel
  have hl := lv_entry ([.ref h0]) (n := 2) (Nat.le_of_ble_eq_true rfl)
  rw [lg_entry_eq]
  generalize (lg_sl ([.ref h0]) ++ List.replicate (2 - (lg_sl ([.ref h0])).length) Slot.unset).toArray = ls at hl ⊢
  have hl : lv_has ls 2 [(0, .ref h0)] := hl
  refine lv_aload_n hx hb dX8_readTrait_0 rfl (lv_at hl 0 rfl) ?_
  refine lv_aload_n hx hb dX8_readTrait_1 rfl (lv_at hl 0 rfl) ?_
  refine va_get (D := (dC, dI)) (ci := 8) (v := .ref hRea) (C := RX8) (T := TX8) (N := 17) hx hb hts hIX8 hown hK hP 0 rfl rfl 4 (by decide) (hts (.fieldLink RX8 39 "TraitHouse" "reader" "LTraitHouse$Reader;") (by decide +kernel)) (fun _ h9 => h9) rfl dX8_readTrait_2 ?_
  refine lv_aload_n hx hb dX8_readTrait_5 rfl (lv_at hl 0 rfl) ?_
  refine va_get (D := (dC, dI)) (ci := 8) (v := .int 0) (C := RX8) (T := TX8) (N := 17) hx hb hts hIX8 hown hK hP 0 rfl rfl 13 (by decide) (hts (.fieldLink RX8 148 "TraitHouse" "traitsThere" "I") (by decide +kernel)) (fun _ h9 => h9) rfl dX8_readTrait_6 ?_
  have hk_1 : (0 : Int32).toInt = 0 := by decide
  have hPc := hP.sub (ws' := [(hRea, .inr (2, [.ref hTape, .ref aSt, .int 0, .int 0, .int 0, .int 0, .int (-1), .int 0, .int 0])), (hTape, .inr (5, [.ref aB, .int 0]))]) [1, 2] rfl
  have hDc := hD.sub (ws' := [(hRea, .inr (2, [.ref hTape, .ref aSt, .int 0, .int 0, .int 0, .int 0, .int (-1), .int 0, .int 0])), (hTape, .inr (5, [.ref aB, .int 0]))]) [1, 2] (by decide) rfl
  have hKc := hK.sub (tys' := []) [] rfl
  have hFc := va_free (wc := [(hRea, .inr (2, [.ref hTape, .ref aSt, .int 0, .int 0, .int 0, .int 0, .int (-1), .int 0, .int 0])), (hTape, .inr (5, [.ref aB, .int 0]))]) hD hS hA [1, 2] rfl
  refine va_calli (va_runVN (As := [.int 0]) (rest := [.ref h0]) ⟨hx, hb, hml, hown, hts⟩ (c_X2_read l dC dI s.heap.size adK adV hRea hTape aSt aB ) ⟨(va_cnB 1 hts gX8_readTrait_X2_read_n155 rfl rfl rfl (nw_at hN 45 rfl) (hts (.initialized RX2) (by decide +kernel)) (by decide +kernel) ⟨Nat.le_of_ble_eq_true rfl, Nat.le_of_ble_eq_true rfl⟩), (hts (.instanceMethod yX2_read) (by decide +kernel)), (hts (.selects RX2 yX2_read yX2_read) (by decide +kernel))⟩ ⟨fun a U g mk q => by obtain ⟨q0, q1, qP, qK, qD, qN⟩ := q; exact ⟨q0, q1, qP, va_K.moved (u := U) (U := U.calling g mk a) (Vm.Alike.refl U.vm) qK, qD, qN.same rfl rfl⟩, va_recv hKc hPc (ci := 2) (q0 := 0) rfl rfl, fun U hU hW => ⟨rfl, by rw [hU], by rw [hU]; exact hPc, va_K.moved hW.alike hKc, hDc.weaken (fun _ _ _ _ => trivial), hSt.call hS hU hW hFc⟩⟩ rfl rfl hl.1 rfl (lv_room (Nat.le_of_ble_eq_true rfl)) dX8_readTrait_9 ⟨Nat.le_of_ble_eq_true rfl, Nat.le_of_ble_eq_true rfl⟩) hS (fun q _ h => hFc q h) hFc (fun r_2 u_3 t H1 locs ht hvm hw_4 hB hz1 hk1 hS => ?_)
  try dsimp only at hw_4
  obtain ⟨hP1, hK1, hD1⟩ := hB
  rw [ht] at hP1
  have hK1 := va_K.moved hvm.symm hK1
  obtain ⟨hP, hD⟩ := va_join (wr := [(h0, .inr (8, [.ref hRows, .ref hMer, .ref hEra, .ref hTape, .ref hRea, .ref hTra, .ref hWor, .ref hPla, .ref hMod, .ref hHe1, .ref hHe2, .int 0, .int 0, .int 0, .int 0, .int (-1), .int 0]))]) (w1 := [(hRea, .inr (2, [.ref hTape, .ref aSt, .int 0, .int 0, .int 0, .int 0, .int 0, .int 0, .int 0])), (hTape, .inr (5, [.ref aB, .int 0]))]) hP hD [1, 2] [0] rfl rfl (by decide) (by decide) hk1 hFc hP1 hD1
  have hK := (hK.sub (tys' := []) [] rfl).app hK1
  generalize H1 = H at hP hS ⊢
  have hP : va_P (dC, dI) vwCl [(h0, .inr (8, [.ref hRows, .ref hMer, .ref hEra, .ref hTape, .ref hRea, .ref hTra, .ref hWor, .ref hPla, .ref hMod, .ref hHe1, .ref hHe2, .int 0, .int 0, .int 0, .int 0, .int (-1), .int 0])), (hRea, .inr (2, [.ref hTape, .ref aSt, .int 0, .int 0, .int 0, .int 0, .int 0, .int 0, .int 0])), (hTape, .inr (5, [.ref aB, .int 0]))] H := hP
  have hD : va_D A [(h0, .inr (8, [.ref hRows, .ref hMer, .ref hEra, .ref hTape, .ref hRea, .ref hTra, .ref hWor, .ref hPla, .ref hMod, .ref hHe1, .ref hHe2, .int 0, .int 0, .int 0, .int 0, .int (-1), .int 0])), (hRea, .inr (2, [.ref hTape, .ref aSt, .int 0, .int 0, .int 0, .int 0, .int 0, .int 0, .int 0])), (hTape, .inr (5, [.ref aB, .int 0]))] := hD
  have hK : va_K (dC, dI) vwCl [] s := hK
  obtain rfl : 0 = r_2 := hw_4.symm
  refine va_put (D := (dC, dI)) (ci := 8) (v := .int 0) (ty := .int) (C := RX8) (T := TX8) (N := 17) hx hb hts hIX8 tyX8 tyX8_ok nmX8 hown hK hP hD hS 0 rfl rfl 15 (by decide) (hts (.fieldLink RX8 75 "TraitHouse" "latestFault" "I") (by decide +kernel)) (fun _ h9 => h9) rfl (by decide +kernel) rfl rfl (Nat.le_of_ble_eq_true rfl) dX8_readTrait_12 (fun H locs hP hD hS => ?_)
  have hP : va_P (dC, dI) vwCl [(h0, .inr (8, [.ref hRows, .ref hMer, .ref hEra, .ref hTape, .ref hRea, .ref hTra, .ref hWor, .ref hPla, .ref hMod, .ref hHe1, .ref hHe2, .int 0, .int 0, .int 0, .int 0, .int 0, .int 0])), (hRea, .inr (2, [.ref hTape, .ref aSt, .int 0, .int 0, .int 0, .int 0, .int 0, .int 0, .int 0])), (hTape, .inr (5, [.ref aB, .int 0]))] H := hP
  have hD : va_D A [(h0, .inr (8, [.ref hRows, .ref hMer, .ref hEra, .ref hTape, .ref hRea, .ref hTra, .ref hWor, .ref hPla, .ref hMod, .ref hHe1, .ref hHe2, .int 0, .int 0, .int 0, .int 0, .int 0, .int 0])), (hRea, .inr (2, [.ref hTape, .ref aSt, .int 0, .int 0, .int 0, .int 0, .int 0, .int 0, .int 0])), (hTape, .inr (5, [.ref aB, .int 0]))] := hD
  refine lv_aload_n hx hb dX8_readTrait_15 rfl (lv_at hl 0 rfl) ?_
  refine va_get (D := (dC, dI)) (ci := 8) (v := .int 0) (C := RX8) (T := TX8) (N := 17) hx hb hts hIX8 hown hK hP 0 rfl rfl 15 (by decide) (hts (.fieldLink RX8 75 "TraitHouse" "latestFault" "I") (by decide +kernel)) (fun _ h9 => h9) rfl dX8_readTrait_16 ?_
  refine lv_iconst (v := (-1)) hx hb dX8_readTrait_19 (by decide) ?_
  refine lv_icmp_eq (tgt := 26) hx hb dX8_readTrait_20 (by decide) (fun c_5 => absurd c_5 (by decide)) (fun c_5 => ?_)
  refine lv_bipush (v := (-6)) hx hb dX8_readTrait_23 (by decide) ?_
  have hP9 := hP.sub (ws' := [(h0, .inr (8, [.ref hRows, .ref hMer, .ref hEra, .ref hTape, .ref hRea, .ref hTra, .ref hWor, .ref hPla, .ref hMod, .ref hHe1, .ref hHe2, .int 0, .int 0, .int 0, .int 0, .int 0, .int 0])), (hTape, .inr (5, [.ref aB, .int 0]))]) [0, 2] rfl
  have hD9 := hD.sub (ws' := [(h0, .inr (8, [.ref hRows, .ref hMer, .ref hEra, .ref hTape, .ref hRea, .ref hTra, .ref hWor, .ref hPla, .ref hMod, .ref hHe1, .ref hHe2, .int 0, .int 0, .int 0, .int 0, .int 0, .int 0])), (hTape, .inr (5, [.ref aB, .int 0]))]) [0, 2] (by decide) rfl
  have hK9 := hK.sub (tys' := []) [] rfl
  exact W.iret (v := (-6)) hx hb hr (fun t ht hW => ⟨⟨(-6), (), rfl, rfl, by rw [ht]; exact hP9, va_K.moved hW.alike hK9, hD9⟩, hS.F ht⟩) hS.2.2 dX8_readTrait_25

set_option maxHeartbeats 4000000 in
set_option maxRecDepth 100000 in
theorem c_X8_trait (l : Launch) (dC : Nat → ClassId) (dI : Nat → Nat → Nat) (sz : Nat) (adK : Nat → Nat) (adV : Nat → Nat) (h0 : Nat) (hRows : Nat) (hMer : Nat) (hEra : Nat) (hTape : Nat) (hRea : Nat) (hTra : Nat) (hWor : Nat) (hPla : Nat) (hMod : Nat) (hHe1 : Nat) (hHe2 : Nat) (aSt : Nat) (aB : Nat)  : Met l yX8_trait wsX8_trait ({ frames := 10, cells := 0, slots := 0, locals := 216 }) (va_Pc [.ref h0] (fun U => U.heap.size = sz ∧ va_P (dC, dI) vwCl [(h0, .inr (8, [.ref hRows, .ref hMer, .ref hEra, .ref hTape, .ref hRea, .ref hTra, .ref hWor, .ref hPla, .ref hMod, .ref hHe1, .ref hHe2, .int 0, .int 0, .int 0, .int 0, .int (-1), .int 0])), (hRea, .inr (2, [.ref hTape, .ref aSt, .int 0, .int 0, .int 0, .int 0, .int (-1), .int 0, .int 0])), (hTape, .inr (5, [.ref aB, .int 0]))] U.heap ∧ va_K (dC, dI) vwCl [] U ∧ va_D (fun _ => True) [(h0, .inr (8, [.ref hRows, .ref hMer, .ref hEra, .ref hTape, .ref hRea, .ref hTra, .ref hWor, .ref hPla, .ref hMod, .ref hHe1, .ref hHe2, .int 0, .int 0, .int 0, .int 0, .int (-1), .int 0])), (hRea, .inr (2, [.ref hTape, .ref aSt, .int 0, .int 0, .int 0, .int 0, .int (-1), .int 0, .int 0])), (hTape, .inr (5, [.ref aB, .int 0]))] ∧ st_ok adK adV (va_A [(h0, .inr (8, [.ref hRows, .ref hMer, .ref hEra, .ref hTape, .ref hRea, .ref hTra, .ref hWor, .ref hPla, .ref hMod, .ref hHe1, .ref hHe2, .int 0, .int 0, .int 0, .int 0, .int (-1), .int 0])), (hRea, .inr (2, [.ref hTape, .ref aSt, .int 0, .int 0, .int 0, .int 0, .int (-1), .int 0, .int 0])), (hTape, .inr (5, [.ref aB, .int 0]))] sz) U)) (va_Qi (fun (r : Int32) (_ : Unit) => r = (-6)) (fun (_ : Unit) (t : State) => True) (va_A [(h0, .inr (8, [.ref hRows, .ref hMer, .ref hEra, .ref hTape, .ref hRea, .ref hTra, .ref hWor, .ref hPla, .ref hMod, .ref hHe1, .ref hHe2, .int 0, .int 0, .int 0, .int 0, .int (-1), .int 0])), (hRea, .inr (2, [.ref hTape, .ref aSt, .int 0, .int 0, .int 0, .int 0, .int (-1), .int 0, .int 0])), (hTape, .inr (5, [.ref aB, .int 0]))] sz)) 0 0 (va_A [(h0, .inr (8, [.ref hRows, .ref hMer, .ref hEra, .ref hTape, .ref hRea, .ref hTra, .ref hWor, .ref hPla, .ref hMod, .ref hHe1, .ref hHe2, .int 0, .int 0, .int 0, .int 0, .int (-1), .int 0])), (hRea, .inr (2, [.ref hTape, .ref aSt, .int 0, .int 0, .int 0, .int 0, .int (-1), .int 0, .int 0])), (hTape, .inr (5, [.ref aB, .int 0]))] sz) := by
  refine Met.ofW (cc := cX8_trait) (maxL := 2) (ret := (some .int)) (by decide) rfl ?_
  intro p e s m args below meth c s₁ B hml hv
  obtain ⟨rfl, hsz, hP, hK, hD0, hN⟩ := hv
  have hx := B.exec
  have hb := B.bytes
  have hr := B.returns
  have hts := atoms_spec (ws := wsX8_trait) B.pre
  have hown : s.vm.findClass RX8 = some m.cls := findClass_of_methodNamed B.named
  have hlocks := B.notSynchronized
  subst hsz
  have hD := hD0.self (sz := s.heap.size)
  generalize hAe : va_A [(h0, .inr (8, [.ref hRows, .ref hMer, .ref hEra, .ref hTape, .ref hRea, .ref hTra, .ref hWor, .ref hPla, .ref hMod, .ref hHe1, .ref hHe2, .int 0, .int 0, .int 0, .int 0, .int (-1), .int 0])), (hRea, .inr (2, [.ref hTape, .ref aSt, .int 0, .int 0, .int 0, .int 0, .int (-1), .int 0, .int 0])), (hTape, .inr (5, [.ref aB, .int 0]))] s.heap.size = A at hD hN ⊢
  have hSt := hN
  have hN := hSt.1
  have hA : ∀ q : Nat, s.heap.size ≤ q → A q := fun q h => by rw [← hAe]; exact Or.inr h
  have hS : va_S A s.heap s.heap [] := va_S.rf
  have hP : va_P (dC, dI) vwCl [(h0, .inr (8, [.ref hRows, .ref hMer, .ref hEra, .ref hTape, .ref hRea, .ref hTra, .ref hWor, .ref hPla, .ref hMod, .ref hHe1, .ref hHe2, .int 0, .int 0, .int 0, .int 0, .int (-1), .int 0])), (hRea, .inr (2, [.ref hTape, .ref aSt, .int 0, .int 0, .int 0, .int 0, .int (-1), .int 0, .int 0])), (hTape, .inr (5, [.ref aB, .int 0]))] s.heap := hP
  have hIX5 : ∀ w ∈ u_ws RX5 TX5 2, w ∈ wsX8_trait := by decide +kernel
  have hIX8 : ∀ w ∈ u_ws RX8 TX8 17, w ∈ wsX8_trait := by decide +kernel
  have hl := lv_entry ([.ref h0]) (n := 2) (Nat.le_of_ble_eq_true rfl)
  rw [lg_entry_eq]
  generalize (lg_sl ([.ref h0]) ++ List.replicate (2 - (lg_sl ([.ref h0])).length) Slot.unset).toArray = ls at hl ⊢
  have hl : lv_has ls 2 [(0, .ref h0)] := hl
  refine lv_aload_n hx hb dX8_trait_0 rfl (lv_at hl 0 rfl) ?_
  refine va_get (D := (dC, dI)) (ci := 8) (v := .int 0) (C := RX8) (T := TX8) (N := 17) hx hb hts hIX8 hown hK hP 0 rfl rfl 13 (by decide) (hts (.fieldLink RX8 148 "TraitHouse" "traitsThere" "I") (by decide +kernel)) (fun _ h9 => h9) rfl dX8_trait_1 ?_
  refine lv_bipush (v := 20) hx hb dX8_trait_4 (by decide) ?_
  refine lv_icmp_lt (tgt := 14) hx hb dX8_trait_6 (by decide) (fun c_1 => ?_) (fun c_1 => absurd (by decide) c_1)
  refine lv_aload_n hx hb dX8_trait_14 rfl (lv_at hl 0 rfl) ?_
  have hPc := hP.sub (ws' := [(h0, .inr (8, [.ref hRows, .ref hMer, .ref hEra, .ref hTape, .ref hRea, .ref hTra, .ref hWor, .ref hPla, .ref hMod, .ref hHe1, .ref hHe2, .int 0, .int 0, .int 0, .int 0, .int (-1), .int 0])), (hRea, .inr (2, [.ref hTape, .ref aSt, .int 0, .int 0, .int 0, .int 0, .int (-1), .int 0, .int 0])), (hTape, .inr (5, [.ref aB, .int 0]))]) [0, 1, 2] rfl
  have hDc := hD.sub (ws' := [(h0, .inr (8, [.ref hRows, .ref hMer, .ref hEra, .ref hTape, .ref hRea, .ref hTra, .ref hWor, .ref hPla, .ref hMod, .ref hHe1, .ref hHe2, .int 0, .int 0, .int 0, .int 0, .int (-1), .int 0])), (hRea, .inr (2, [.ref hTape, .ref aSt, .int 0, .int 0, .int 0, .int 0, .int (-1), .int 0, .int 0])), (hTape, .inr (5, [.ref aB, .int 0]))]) [0, 1, 2] (by decide) rfl
  have hKc := hK.sub (tys' := []) [] rfl
  have hFc := va_free (wc := [(h0, .inr (8, [.ref hRows, .ref hMer, .ref hEra, .ref hTape, .ref hRea, .ref hTra, .ref hWor, .ref hPla, .ref hMod, .ref hHe1, .ref hHe2, .int 0, .int 0, .int 0, .int 0, .int (-1), .int 0])), (hRea, .inr (2, [.ref hTape, .ref aSt, .int 0, .int 0, .int 0, .int 0, .int (-1), .int 0, .int 0])), (hTape, .inr (5, [.ref aB, .int 0]))]) hD hS hA [0, 1, 2] rfl
  refine va_calli (va_runV (As := []) (rest := []) ⟨hx, hb, hml, hown, hts⟩ (c_X8_readTrait l dC dI s.heap.size adK adV h0 hRows hMer hEra hTape hRea hTra hWor hPla hMod hHe1 hHe2 aSt aB ) (cwV 0 hts gX8_trait_X8_readTrait rfl rfl rfl (by decide +kernel) ⟨Nat.le_of_ble_eq_true rfl, Nat.le_of_ble_eq_true rfl⟩) ⟨fun a U g mk q => by obtain ⟨q0, q1, qP, qK, qD, qN⟩ := q; exact ⟨q0, q1, qP, va_K.moved (u := U) (U := U.calling g mk a) (Vm.Alike.refl U.vm) qK, qD, qN.same rfl rfl⟩, va_recv hKc hPc (ci := 8) (q0 := 0) rfl rfl, fun U hU hW => ⟨rfl, by rw [hU], by rw [hU]; exact hPc, va_K.moved hW.alike hKc, hDc.weaken (fun _ _ _ _ => trivial), hSt.call hS hU hW hFc⟩⟩ rfl rfl hl.1 rfl (lv_room (Nat.le_of_ble_eq_true rfl)) dX8_trait_15 ⟨Nat.le_of_ble_eq_true rfl, Nat.le_of_ble_eq_true rfl⟩) hS (fun q _ h => hFc q h) hFc (fun r_2 u_3 t H1 locs ht hvm hw_4 hB hz1 hk1 hS => ?_)
  try dsimp only at hw_4
  obtain ⟨hP1, hK1, hD1⟩ := hB
  rw [ht] at hP1
  have hK1 := va_K.moved hvm.symm hK1
  obtain ⟨hP, hD⟩ := va_join (wr := []) (w1 := [(h0, .inr (8, [.ref hRows, .ref hMer, .ref hEra, .ref hTape, .ref hRea, .ref hTra, .ref hWor, .ref hPla, .ref hMod, .ref hHe1, .ref hHe2, .int 0, .int 0, .int 0, .int 0, .int 0, .int 0])), (hTape, .inr (5, [.ref aB, .int 0]))]) hP hD [0, 1, 2] [] rfl rfl (by decide) (by decide) hk1 hFc hP1 hD1
  have hK := (hK.sub (tys' := []) [] rfl).app hK1
  generalize H1 = H at hP hS ⊢
  have hP : va_P (dC, dI) vwCl [(h0, .inr (8, [.ref hRows, .ref hMer, .ref hEra, .ref hTape, .ref hRea, .ref hTra, .ref hWor, .ref hPla, .ref hMod, .ref hHe1, .ref hHe2, .int 0, .int 0, .int 0, .int 0, .int 0, .int 0])), (hTape, .inr (5, [.ref aB, .int 0]))] H := hP
  have hD : va_D A [(h0, .inr (8, [.ref hRows, .ref hMer, .ref hEra, .ref hTape, .ref hRea, .ref hTra, .ref hWor, .ref hPla, .ref hMod, .ref hHe1, .ref hHe2, .int 0, .int 0, .int 0, .int 0, .int 0, .int 0])), (hTape, .inr (5, [.ref aB, .int 0]))] := hD
  have hK : va_K (dC, dI) vwCl [] s := hK
  obtain rfl : (-6) = r_2 := hw_4.symm
  refine lv_istore_n (lv' := [(1, .int (-6)), (0, .ref h0)]) hx hb dX8_trait_18 rfl hl (by decide) rfl (fun ls hl => ?_)
  refine lv_aload_n hx hb dX8_trait_19 rfl (lv_at hl 1 rfl) ?_
  refine va_get (D := (dC, dI)) (ci := 8) (v := .ref hTape) (C := RX8) (T := TX8) (N := 17) hx hb hts hIX8 hown hK hP 0 rfl rfl 3 (by decide) (hts (.fieldLink RX8 30 "TraitHouse" "tape" "LTraitHouse$Tape;") (by decide +kernel)) (fun _ h9 => h9) rfl dX8_trait_20 ?_
  refine lv_iconst (v := 0) hx hb dX8_trait_23 (by decide) ?_
  refine va_putN (D := (dC, dI)) (ci := 5) (v := .int 0) (ty := .int) (C := RX5) (T := TX5) (N := 2) hx hb hts hIX5 tyX5 tyX5_ok nmX5 hown hK hP hD hS 1 rfl rfl 1 (by decide) (va_Nw.use rfl (nw_at hN 10 rfl)) (fun _ h9 => h9) rfl (by decide +kernel) rfl rfl (Nat.le_of_ble_eq_true rfl) dX8_trait_24 (fun H locs hP hD hS => ?_)
  have hP : va_P (dC, dI) vwCl [(h0, .inr (8, [.ref hRows, .ref hMer, .ref hEra, .ref hTape, .ref hRea, .ref hTra, .ref hWor, .ref hPla, .ref hMod, .ref hHe1, .ref hHe2, .int 0, .int 0, .int 0, .int 0, .int 0, .int 0])), (hTape, .inr (5, [.ref aB, .int 0]))] H := hP
  have hD : va_D A [(h0, .inr (8, [.ref hRows, .ref hMer, .ref hEra, .ref hTape, .ref hRea, .ref hTra, .ref hWor, .ref hPla, .ref hMod, .ref hHe1, .ref hHe2, .int 0, .int 0, .int 0, .int 0, .int 0, .int 0])), (hTape, .inr (5, [.ref aB, .int 0]))] := hD
  refine lv_aload_n hx hb dX8_trait_27 rfl (lv_at hl 1 rfl) ?_
  refine lv_iload_n hx hb dX8_trait_28 rfl (lv_at hl 0 rfl) ?_
  have hk_5 : ((-6) : Int32).toInt = (-6) := by decide
  have hk_6 : (0 : Int32).toInt = 0 := by decide
  have hPc := hP.sub (ws' := [(h0, .inr (8, [.ref hRows, .ref hMer, .ref hEra, .ref hTape, .ref hRea, .ref hTra, .ref hWor, .ref hPla, .ref hMod, .ref hHe1, .ref hHe2, .int 0, .int 0, .int 0, .int 0, .int 0, .int 0]))]) [0] rfl
  have hDc := hD.sub (ws' := [(h0, .inr (8, [.ref hRows, .ref hMer, .ref hEra, .ref hTape, .ref hRea, .ref hTra, .ref hWor, .ref hPla, .ref hMod, .ref hHe1, .ref hHe2, .int 0, .int 0, .int 0, .int 0, .int 0, .int 0]))]) [0] (by decide) rfl
  have hKc := hK.sub (tys' := []) [] rfl
  have hFc := va_free (wc := [(h0, .inr (8, [.ref hRows, .ref hMer, .ref hEra, .ref hTape, .ref hRea, .ref hTra, .ref hWor, .ref hPla, .ref hMod, .ref hHe1, .ref hHe2, .int 0, .int 0, .int 0, .int 0, .int 0, .int 0]))]) hD hS hA [0] rfl
  refine va_calli (va_runV (As := [.int (-6)]) (rest := []) ⟨hx, hb, hml, hown, hts⟩ (c_X8_settle l dC dI H.size h0 hRows hMer hEra hTape hRea hTra hWor hPla hMod hHe1 hHe2 0 0 0 0 0 0 (-6) ) (cwV 1 hts gX8_trait_X8_settle rfl rfl rfl (by decide +kernel) ⟨Nat.le_of_ble_eq_true rfl, Nat.le_of_ble_eq_true rfl⟩) ⟨fun a U g mk q => by obtain ⟨q0, q1, qP, qK, qD, qN⟩ := q; exact ⟨q0, q1, qP, va_K.moved (u := U) (U := U.calling g mk a) (Vm.Alike.refl U.vm) qK, qD, qN.same rfl⟩, va_recv hKc hPc (ci := 8) (q0 := 0) rfl rfl, fun U hU hW => ⟨rfl, by rw [hU], by rw [hU]; exact hPc, va_K.moved hW.alike hKc, hDc.weaken (fun _ _ _ _ => trivial), hN.warm hW⟩⟩ rfl rfl hl.1 rfl (lv_room (Nat.le_of_ble_eq_true rfl)) dX8_trait_29 ⟨Nat.le_of_ble_eq_true rfl, Nat.le_of_ble_eq_true rfl⟩) hS (fun q _ h => hFc q h) hFc (fun r_7 u_8 t H1 locs ht hvm hw_9 hB hz1 hk1 hS => ?_)
  obtain ⟨w_10, rfl⟩ : ∃ z, z = u_8 := ⟨_, rfl⟩
  try dsimp only at hw_9
  obtain ⟨hP1, hK1, hD1⟩ := hB
  rw [ht] at hP1
  have hK1 := va_K.moved hvm.symm hK1
  obtain ⟨hP, hD⟩ := va_join (wr := [(hTape, .inr (5, [.ref aB, .int 0]))]) (w1 := [(h0, .inr (8, [.ref hRows, .ref hMer, .ref hEra, .ref hTape, .ref hRea, .ref hTra, .ref hWor, .ref hPla, .ref hMod, .ref hHe1, .ref hHe2, .int 0, .int 0, .int 0, .int 0, .int 0, .int w_10]))]) hP hD [0] [1] rfl rfl (by decide) (by decide) hk1 hFc hP1 hD1
  have hK := (hK.sub (tys' := []) [] rfl).app hK1
  generalize H1 = H at hP hS ⊢
  have hP : va_P (dC, dI) vwCl [(hTape, .inr (5, [.ref aB, .int 0])), (h0, .inr (8, [.ref hRows, .ref hMer, .ref hEra, .ref hTape, .ref hRea, .ref hTra, .ref hWor, .ref hPla, .ref hMod, .ref hHe1, .ref hHe2, .int 0, .int 0, .int 0, .int 0, .int 0, .int w_10]))] H := hP
  have hD : va_D A [(hTape, .inr (5, [.ref aB, .int 0])), (h0, .inr (8, [.ref hRows, .ref hMer, .ref hEra, .ref hTape, .ref hRea, .ref hTra, .ref hWor, .ref hPla, .ref hMod, .ref hHe1, .ref hHe2, .int 0, .int 0, .int 0, .int 0, .int 0, .int w_10]))] := hD
  have hK : va_K (dC, dI) vwCl [] s := hK
  obtain rfl : (-6) = r_7 := hw_9.symm
  exact W.iret (v := (-6)) hx hb hr (fun t ht hW => ⟨⟨(-6), (), rfl, rfl, trivial⟩, hS.F ht⟩) hS.2.2 dX8_trait_32
