theorem dX2_readBracket_0 : decode cX2_readBracket 0 = .ok (.iload_n 1, 1) := by decide +kernel
theorem dX2_readBracket_1 : decode cX2_readBracket 1 = .ok (.bipush 8, 2) := by decide +kernel
theorem dX2_readBracket_3 : decode cX2_readBracket 3 = .ok (.if_icmp .lt 8, 3) := by decide +kernel
theorem dX2_readBracket_11 : decode cX2_readBracket 11 = .ok (.aload_n 0, 1) := by decide +kernel
set_option maxRecDepth 20000 in
theorem ggX2_readBracket_X2_advance : GoodIn wsX2_readBracket wsX2_advance := goodIn_r _ [11, 12, 6, 13, 14, 15, 16, 17, 18, 19, 20, 4, 21, 22, 23, 24, 25, 141, 142, 143, 144, 145, 146, 147, 148, 149, 150, 151] (by decide +kernel) (by decide +kernel)
set_option maxRecDepth 20000 in
theorem gX2_readBracket_X2_advance : GoodIn wsX2_readBracket (wsV RX2 41 RX2 yX2_advance wsX2_advance) := goodIn_app (goodIn_of _ (by decide +kernel)) ggX2_readBracket_X2_advance
theorem dX2_readBracket_12 : decode cX2_readBracket 12 = .ok (.invokevirtual 41, 3) := by decide +kernel
theorem dX2_readBracket_15 : decode cX2_readBracket 15 = .ok (.aload_n 0, 1) := by decide +kernel
theorem dX2_readBracket_16 : decode cX2_readBracket 16 = .ok (.iload_n 1, 1) := by decide +kernel
theorem dX2_readBracket_17 : decode cX2_readBracket 17 = .ok (.iconst 1, 1) := by decide +kernel
theorem dX2_readBracket_18 : decode cX2_readBracket 18 = .ok (.iadd, 1) := by decide +kernel
set_option maxRecDepth 20000 in
theorem ggX2_readBracket_X2_readSum : GoodIn wsX2_readBracket wsX2_readSum := goodIn_r _ [133, 134, 135, 136, 4, 33, 34, 35, 36, 12, 6, 13, 37, 38, 39, 40, 41, 42, 43, 44, 45, 46, 47, 48, 49, 50, 51, 52, 53, 54, 55, 56, 57, 58, 59, 60, 61, 62, 63, 64, 65, 66, 67, 68, 69, 70, 71, 72, 73, 74, 75, 76, 77, 78, 79, 80, 81, 82, 83, 84, 85, 8, 9, 10, 11, 14, 15, 16, 17, 18, 19, 20, 21, 22, 23, 24, 25, 99, 100, 101, 102, 103, 104, 105, 106, 107, 108, 109, 110, 111, 112, 113, 114, 115, 116, 86, 87, 88, 89, 90, 91, 92, 93, 94, 95, 96, 97, 98, 1, 2, 3, 5, 7, 117, 118, 119, 120, 121, 122, 123, 124, 125, 126, 127, 128, 29, 30, 31, 32, 0, 26, 27, 28, 129, 130, 131, 132, 137, 138, 139, 140, 141, 142, 143, 144, 145, 146, 147, 148, 149, 150, 151, 152, 153, 154, 155] (by decide +kernel) (by decide +kernel)
set_option maxRecDepth 20000 in
theorem gX2_readBracket_X2_readSum : GoodIn wsX2_readBracket (wsV RX2 44 RX2 yX2_readSum wsX2_readSum) := goodIn_app (goodIn_of _ (by decide +kernel)) ggX2_readBracket_X2_readSum
theorem dX2_readBracket_19 : decode cX2_readBracket 19 = .ok (.invokevirtual 44, 3) := by decide +kernel
theorem dX2_readBracket_22 : decode cX2_readBracket 22 = .ok (.ifCond .eq 16, 3) := by decide +kernel
theorem dX2_readBracket_38 : decode cX2_readBracket 38 = .ok (.iconst 0, 1) := by decide +kernel
theorem dX2_readBracket_39 : decode cX2_readBracket 39 = .ok (.ireturn, 1) := by decide +kernel
theorem dX2_readBracket_25 : decode cX2_readBracket 25 = .ok (.aload_n 0, 1) := by decide +kernel
theorem dX2_readBracket_26 : decode cX2_readBracket 26 = .ok (.ldc 105, 2) := by decide +kernel
set_option maxRecDepth 20000 in
theorem ggX2_readBracket_X2_take : GoodIn wsX2_readBracket wsX2_take := goodIn_r _ [32, 33, 34, 35, 4, 36, 12, 6, 13, 37, 38, 39, 40, 41, 42, 43, 44, 45, 46, 47, 48, 49, 50, 51, 52, 53, 54, 55, 56, 57, 58, 59, 60, 61, 62, 63, 64, 65, 66, 67, 68, 69, 70, 71, 72, 73, 74, 75, 76, 77, 78, 79, 80, 81, 82, 83, 84, 85, 1, 2, 3, 5, 7, 8, 9, 10, 11, 14, 15, 16, 17, 18, 19, 20, 21, 22, 23, 24, 25, 141, 142, 143, 144, 145, 146, 147, 148, 149, 150, 151] (by decide +kernel) (by decide +kernel)
set_option maxRecDepth 20000 in
theorem gX2_readBracket_X2_take : GoodIn wsX2_readBracket (wsV RX2 107 RX2 yX2_take wsX2_take) := goodIn_app (goodIn_of _ (by decide +kernel)) ggX2_readBracket_X2_take
theorem dX2_readBracket_28 : decode cX2_readBracket 28 = .ok (.invokevirtual 107, 3) := by decide +kernel
theorem dX2_readBracket_31 : decode cX2_readBracket 31 = .ok (.ifCond .eq 7, 3) := by decide +kernel
theorem dX2_readBracket_34 : decode cX2_readBracket 34 = .ok (.iconst 1, 1) := by decide +kernel
theorem dX2_readBracket_35 : decode cX2_readBracket 35 = .ok (.goto 4, 3) := by decide +kernel
theorem dX2_readBracket_6 : decode cX2_readBracket 6 = .ok (.aload_n 0, 1) := by decide +kernel
set_option maxRecDepth 20000 in
theorem ggX2_readBracket_X2_stop : GoodIn wsX2_readBracket wsX2_stop := goodIn_r _ [5, 6, 7, 141, 142, 143, 144, 145, 146, 147, 148, 149] (by decide +kernel) (by decide +kernel)
set_option maxRecDepth 20000 in
theorem gX2_readBracket_X2_stop : GoodIn wsX2_readBracket (wsV RX2 54 RX2 yX2_stop wsX2_stop) := goodIn_app (goodIn_of _ (by decide +kernel)) ggX2_readBracket_X2_stop
theorem dX2_readBracket_7 : decode cX2_readBracket 7 = .ok (.invokevirtual 54, 3) := by decide +kernel
theorem dX2_readBracket_10 : decode cX2_readBracket 10 = .ok (.ireturn, 1) := by decide +kernel
theorem dX2_readAtom_0 : decode cX2_readAtom 0 = .ok (.aload_n 0, 1) := by decide +kernel
theorem dX2_readAtom_1 : decode cX2_readAtom 1 = .ok (.aload_n 0, 1) := by decide +kernel
theorem dX2_readAtom_2 : decode cX2_readAtom 2 = .ok (.getfield 48, 3) := by decide +kernel
set_option maxRecDepth 20000 in
theorem ggX2_readAtom_X2_isDigitAt : GoodIn wsX2_readAtom wsX2_isDigitAt := goodIn_r _ [8, 9, 141, 142, 143, 144, 145, 146, 147, 148, 149, 150, 151] (by decide +kernel) (by decide +kernel)
set_option maxRecDepth 20000 in
theorem gX2_readAtom_X2_isDigitAt : GoodIn wsX2_readAtom (wsV RX2 90 RX2 yX2_isDigitAt wsX2_isDigitAt) := goodIn_app (goodIn_of _ (by decide +kernel)) ggX2_readAtom_X2_isDigitAt
theorem dX2_readAtom_5 : decode cX2_readAtom 5 = .ok (.invokevirtual 90, 3) := by decide +kernel
theorem dX2_readAtom_8 : decode cX2_readAtom 8 = .ok (.ifCond .eq 11, 3) := by decide +kernel
theorem dX2_readAtom_19 : decode cX2_readAtom 19 = .ok (.aload_n 0, 1) := by decide +kernel
theorem dX2_readAtom_20 : decode cX2_readAtom 20 = .ok (.ldc 93, 2) := by decide +kernel
set_option maxRecDepth 20000 in
theorem ggX2_readAtom_X2_isAt : GoodIn wsX2_readAtom wsX2_isAt := goodIn_r _ [59, 20, 1, 9, 60, 61, 62, 63, 64, 65, 66, 67, 68, 69, 70, 71, 72, 73, 74, 75, 76, 77, 78, 79, 80, 81, 82, 83, 84, 85, 86, 87, 88, 89, 90, 91, 92, 93, 94, 95, 96, 97, 98, 99, 100, 101, 102, 103, 104, 105, 106, 107, 108, 141, 142, 143, 144, 145, 146, 147, 148, 149, 150, 151] (by decide +kernel) (by decide +kernel)
set_option maxRecDepth 20000 in
theorem gX2_readAtom_X2_isAt : GoodIn wsX2_readAtom (wsV RX2 63 RX2 yX2_isAt wsX2_isAt) := goodIn_app (goodIn_of _ (by decide +kernel)) ggX2_readAtom_X2_isAt
theorem dX2_readAtom_22 : decode cX2_readAtom 22 = .ok (.invokevirtual 63, 3) := by decide +kernel
theorem dX2_readAtom_25 : decode cX2_readAtom 25 = .ok (.ifCond .eq 9, 3) := by decide +kernel
theorem dX2_readAtom_34 : decode cX2_readAtom 34 = .ok (.aload_n 0, 1) := by decide +kernel
set_option maxRecDepth 20000 in
theorem ggX2_readAtom_X2_kindAt : GoodIn wsX2_readAtom wsX2_kindAt := goodIn_r _ [115, 56, 57, 58, 7, 59, 20, 1, 9, 60, 61, 62, 63, 64, 65, 66, 67, 68, 69, 70, 71, 72, 73, 74, 75, 76, 77, 78, 79, 80, 81, 82, 83, 84, 85, 86, 87, 88, 89, 90, 91, 92, 93, 94, 95, 96, 97, 98, 99, 100, 101, 102, 103, 104, 105, 106, 107, 108, 141, 142, 143, 144, 145, 146, 147, 148, 149, 150, 151] (by decide +kernel) (by decide +kernel)
set_option maxRecDepth 20000 in
theorem gX2_readAtom_X2_kindAt : GoodIn wsX2_readAtom (wsV RX2 98 RX2 yX2_kindAt wsX2_kindAt) := goodIn_app (goodIn_of _ (by decide +kernel)) ggX2_readAtom_X2_kindAt
theorem dX2_readAtom_35 : decode cX2_readAtom 35 = .ok (.invokevirtual 98, 3) := by decide +kernel
theorem dX2_readAtom_38 : decode cX2_readAtom 38 = .ok (.istore_n 2, 1) := by decide +kernel
theorem dX2_readAtom_39 : decode cX2_readAtom 39 = .ok (.iload_n 2, 1) := by decide +kernel
theorem dX2_readAtom_40 : decode cX2_readAtom 40 = .ok (.iconst (-1), 1) := by decide +kernel
theorem dX2_readAtom_41 : decode cX2_readAtom 41 = .ok (.if_icmp .ne 8, 3) := by decide +kernel
theorem dX2_readAtom_49 : decode cX2_readAtom 49 = .ok (.aload_n 0, 1) := by decide +kernel
set_option maxRecDepth 20000 in
theorem ggX2_readAtom_X2_advance : GoodIn wsX2_readAtom wsX2_advance := goodIn_r _ [29, 20, 1, 9, 30, 31, 32, 33, 34, 35, 36, 7, 37, 4, 5, 6, 8, 141, 142, 143, 144, 145, 146, 147, 148, 149, 150, 151] (by decide +kernel) (by decide +kernel)
set_option maxRecDepth 20000 in
theorem gX2_readAtom_X2_advance : GoodIn wsX2_readAtom (wsV RX2 41 RX2 yX2_advance wsX2_advance) := goodIn_app (goodIn_of _ (by decide +kernel)) ggX2_readAtom_X2_advance
theorem dX2_readAtom_50 : decode cX2_readAtom 50 = .ok (.invokevirtual 41, 3) := by decide +kernel
theorem dX2_readAtom_53 : decode cX2_readAtom 53 = .ok (.iload_n 2, 1) := by decide +kernel
theorem dX2_readAtom_54 : decode cX2_readAtom 54 = .ok (.tableswitch 45 1 3 #[26, 38, 38], 26) := by decide +kernel
theorem dX2_readAtom_99 : decode cX2_readAtom 99 = .ok (.aload_n 0, 1) := by decide +kernel
theorem dX2_readAtom_100 : decode cX2_readAtom 100 = .ok (.iload_n 2, 1) := by decide +kernel
set_option maxRecDepth 20000 in
theorem ggX2_readAtom_X2_readWindow : GoodIn wsX2_readAtom wsX2_readWindow := goodIn_r _ [119, 2, 120, 15, 16, 17, 7, 18, 1, 19, 20, 9, 4, 5, 6, 8, 21, 22, 23, 24, 25, 26, 27, 28, 29, 30, 31, 32, 33, 34, 35, 36, 37, 121, 122, 123, 124, 56, 57, 58, 59, 60, 61, 62, 63, 64, 65, 66, 67, 68, 69, 70, 71, 72, 73, 74, 75, 76, 77, 78, 79, 80, 81, 82, 83, 84, 85, 86, 87, 88, 89, 90, 91, 92, 93, 94, 95, 96, 97, 98, 99, 100, 101, 102, 103, 104, 105, 106, 107, 108, 38, 39, 40, 41, 42, 43, 44, 45, 46, 47, 48, 49, 50, 51, 52, 53, 54, 55, 141, 142, 143, 144, 145, 146, 147, 148, 149, 150, 151, 152, 153, 154, 155] (by decide +kernel) (by decide +kernel)
set_option maxRecDepth 20000 in
theorem gX2_readAtom_X2_readWindow : GoodIn wsX2_readAtom (wsV RX2 102 RX2 yX2_readWindow wsX2_readWindow) := goodIn_app (goodIn_of _ (by decide +kernel)) ggX2_readAtom_X2_readWindow
theorem dX2_readAtom_101 : decode cX2_readAtom 101 = .ok (.invokevirtual 102, 3) := by decide +kernel
theorem dX2_readAtom_104 : decode cX2_readAtom 104 = .ok (.ireturn, 1) := by decide +kernel
theorem dX2_readAtom_80 : decode cX2_readAtom 80 = .ok (.aload_n 0, 1) := by decide +kernel
theorem dX2_readAtom_81 : decode cX2_readAtom 81 = .ok (.iconst 1, 1) := by decide +kernel
theorem dX2_readAtom_82 : decode cX2_readAtom 82 = .ok (.aload_n 0, 1) := by decide +kernel
theorem dX2_readAtom_83 : decode cX2_readAtom 83 = .ok (.getfield 28, 3) := by decide +kernel
theorem dX2_readAtom_86 : decode cX2_readAtom 86 = .ok (.iconst 1, 1) := by decide +kernel
theorem dX2_readAtom_87 : decode cX2_readAtom 87 = .ok (.isub, 1) := by decide +kernel
set_option maxRecDepth 20000 in
theorem ggX2_readAtom_X2_readNumbered : GoodIn wsX2_readAtom wsX2_readNumbered := goodIn_r _ [13, 14, 15, 16, 17, 7, 18, 1, 19, 20, 9, 4, 5, 6, 8, 21, 22, 23, 24, 25, 26, 27, 28, 29, 30, 31, 32, 33, 34, 35, 36, 37, 38, 39, 40, 41, 42, 43, 44, 45, 46, 47, 48, 49, 50, 51, 52, 53, 54, 55, 141, 142, 143, 144, 145, 146, 147, 148, 149, 150, 151, 152, 153, 154, 155] (by decide +kernel) (by decide +kernel)
set_option maxRecDepth 20000 in
theorem gX2_readAtom_X2_readNumbered : GoodIn wsX2_readAtom (wsV RX2 86 RX2 yX2_readNumbered wsX2_readNumbered) := goodIn_app (goodIn_of _ (by decide +kernel)) ggX2_readAtom_X2_readNumbered
theorem dX2_readAtom_88 : decode cX2_readAtom 88 = .ok (.invokevirtual 86, 3) := by decide +kernel
theorem dX2_readAtom_91 : decode cX2_readAtom 91 = .ok (.ireturn, 1) := by decide +kernel
theorem dX2_readAtom_92 : decode cX2_readAtom 92 = .ok (.aload_n 0, 1) := by decide +kernel
theorem dX2_readAtom_93 : decode cX2_readAtom 93 = .ok (.iload_n 2, 1) := by decide +kernel
theorem dX2_readAtom_94 : decode cX2_readAtom 94 = .ok (.iconst 5, 1) := by decide +kernel
theorem dX2_readAtom_95 : decode cX2_readAtom 95 = .ok (.invokevirtual 86, 3) := by decide +kernel
theorem dX2_readAtom_98 : decode cX2_readAtom 98 = .ok (.ireturn, 1) := by decide +kernel
theorem dX2_readAtom_44 : decode cX2_readAtom 44 = .ok (.aload_n 0, 1) := by decide +kernel
set_option maxRecDepth 20000 in
theorem ggX2_readAtom_X2_stop : GoodIn wsX2_readAtom wsX2_stop := goodIn_r _ [24, 1, 25, 141, 142, 143, 144, 145, 146, 147, 148, 149] (by decide +kernel) (by decide +kernel)
set_option maxRecDepth 20000 in
theorem gX2_readAtom_X2_stop : GoodIn wsX2_readAtom (wsV RX2 54 RX2 yX2_stop wsX2_stop) := goodIn_app (goodIn_of _ (by decide +kernel)) ggX2_readAtom_X2_stop
theorem dX2_readAtom_45 : decode cX2_readAtom 45 = .ok (.invokevirtual 54, 3) := by decide +kernel
theorem dX2_readAtom_48 : decode cX2_readAtom 48 = .ok (.ireturn, 1) := by decide +kernel
theorem dX2_readAtom_28 : decode cX2_readAtom 28 = .ok (.aload_n 0, 1) := by decide +kernel
theorem dX2_readAtom_29 : decode cX2_readAtom 29 = .ok (.iload_n 1, 1) := by decide +kernel
set_option maxRecDepth 20000 in
theorem ggX2_readAtom_X2_readBracket : GoodIn wsX2_readAtom wsX2_readBracket := goodIn_r _ [125, 21, 22, 23, 7, 24, 1, 25, 26, 27, 28, 29, 20, 9, 30, 31, 32, 33, 34, 35, 36, 37, 4, 5, 6, 8, 126, 127, 128, 121, 122, 123, 124, 56, 57, 58, 59, 60, 61, 62, 63, 64, 65, 66, 67, 68, 69, 70, 71, 72, 73, 74, 75, 76, 77, 78, 79, 80, 81, 82, 83, 84, 85, 86, 87, 88, 89, 90, 91, 92, 93, 94, 95, 96, 97, 98, 99, 100, 101, 102, 103, 104, 105, 106, 107, 108, 0, 2, 3, 10, 11, 12, 13, 14, 15, 16, 17, 18, 19, 38, 39, 40, 41, 42, 43, 44, 45, 46, 47, 48, 49, 50, 51, 52, 53, 54, 55, 109, 110, 111, 112, 113, 114, 115, 116, 117, 118, 119, 120, 129, 130, 131, 132, 133, 134, 135, 136, 137, 138, 139, 140, 141, 142, 143, 144, 145, 146, 147, 148, 149, 150, 151, 152, 153, 154, 155] (by decide +kernel) (by decide +kernel)
set_option maxRecDepth 20000 in
theorem gX2_readAtom_X2_readBracket : GoodIn wsX2_readAtom (wsV RX2 95 RX2 yX2_readBracket wsX2_readBracket) := goodIn_app (goodIn_of _ (by decide +kernel)) ggX2_readAtom_X2_readBracket
theorem dX2_readAtom_30 : decode cX2_readAtom 30 = .ok (.invokevirtual 95, 3) := by decide +kernel
theorem dX2_readAtom_33 : decode cX2_readAtom 33 = .ok (.ireturn, 1) := by decide +kernel
theorem dX2_readAtom_11 : decode cX2_readAtom 11 = .ok (.aload_n 0, 1) := by decide +kernel
theorem dX2_readAtom_12 : decode cX2_readAtom 12 = .ok (.iconst 0, 1) := by decide +kernel
theorem dX2_readAtom_13 : decode cX2_readAtom 13 = .ok (.ldc 85, 2) := by decide +kernel
theorem dX2_readAtom_15 : decode cX2_readAtom 15 = .ok (.invokevirtual 86, 3) := by decide +kernel
theorem dX2_readAtom_18 : decode cX2_readAtom 18 = .ok (.ireturn, 1) := by decide +kernel
theorem dX2_readPart_0 : decode cX2_readPart 0 = .ok (.aload_n 0, 1) := by decide +kernel
theorem dX2_readPart_1 : decode cX2_readPart 1 = .ok (.iload_n 1, 1) := by decide +kernel
set_option maxRecDepth 20000 in
theorem ggX2_readPart_X2_readAtom : GoodIn wsX2_readPart wsX2_readAtom := goodIn_r _ [111, 11, 1, 112, 74, 75, 76, 5, 77, 12, 78, 79, 80, 81, 82, 83, 84, 85, 86, 87, 10, 88, 89, 90, 91, 92, 62, 63, 64, 65, 66, 67, 68, 69, 70, 71, 72, 73, 93, 94, 95, 96, 97, 98, 99, 100, 101, 102, 103, 104, 105, 106, 107, 108, 109, 110, 6, 7, 8, 9, 13, 14, 15, 16, 17, 18, 19, 20, 21, 22, 23, 24, 25, 26, 27, 28, 29, 30, 31, 32, 33, 34, 35, 36, 37, 38, 39, 40, 41, 42, 43, 44, 45, 46, 47, 48, 49, 50, 51, 52, 53, 54, 55, 56, 57, 58, 59, 60, 61, 113, 114, 115, 116, 117, 118, 119, 120, 121, 122, 123, 124, 125, 126, 127, 128, 129, 130, 131, 132, 0, 2, 3, 4, 133, 134, 135, 136, 137, 138, 139, 140, 141, 142, 143, 144, 145, 146, 147, 148, 149, 150, 151, 152, 153, 154, 155] (by decide +kernel) (by decide +kernel)
set_option maxRecDepth 20000 in
theorem gX2_readPart_X2_readAtom : GoodIn wsX2_readPart (wsV RX2 80 RX2 yX2_readAtom wsX2_readAtom) := goodIn_app (goodIn_of _ (by decide +kernel)) ggX2_readPart_X2_readAtom
theorem dX2_readPart_2 : decode cX2_readPart 2 = .ok (.invokevirtual 80, 3) := by decide +kernel
theorem dX2_readPart_5 : decode cX2_readPart 5 = .ok (.ifCond .ne 5, 3) := by decide +kernel
theorem dX2_readPart_10 : decode cX2_readPart 10 = .ok (.aload_n 0, 1) := by decide +kernel
theorem dX2_readPart_11 : decode cX2_readPart 11 = .ok (.ldc 83, 2) := by decide +kernel
set_option maxRecDepth 20000 in
theorem ggX2_readPart_X2_isAt : GoodIn wsX2_readPart wsX2_isAt := goodIn_r _ [9, 10, 11, 12, 13, 14, 15, 16, 17, 18, 19, 20, 21, 22, 23, 24, 25, 26, 27, 28, 29, 30, 31, 32, 33, 34, 35, 36, 37, 38, 39, 40, 41, 42, 43, 44, 45, 46, 47, 48, 49, 50, 51, 52, 53, 54, 55, 56, 57, 58, 59, 60, 61, 141, 142, 143, 144, 145, 146, 147, 148, 149, 150, 151] (by decide +kernel) (by decide +kernel)
set_option maxRecDepth 20000 in
theorem gX2_readPart_X2_isAt : GoodIn wsX2_readPart (wsV RX2 63 RX2 yX2_isAt wsX2_isAt) := goodIn_app (goodIn_of _ (by decide +kernel)) ggX2_readPart_X2_isAt
theorem dX2_readPart_13 : decode cX2_readPart 13 = .ok (.invokevirtual 63, 3) := by decide +kernel
theorem dX2_readPart_16 : decode cX2_readPart 16 = .ok (.ifCond .ne 5, 3) := by decide +kernel
theorem dX2_readPart_21 : decode cX2_readPart 21 = .ok (.aload_n 0, 1) := by decide +kernel
set_option maxRecDepth 20000 in
theorem ggX2_readPart_X2_advance : GoodIn wsX2_readPart wsX2_advance := goodIn_r _ [65, 10, 11, 12, 66, 67, 68, 69, 70, 71, 72, 5, 73, 74, 75, 76, 77, 141, 142, 143, 144, 145, 146, 147, 148, 149, 150, 151] (by decide +kernel) (by decide +kernel)
set_option maxRecDepth 20000 in
theorem gX2_readPart_X2_advance : GoodIn wsX2_readPart (wsV RX2 41 RX2 yX2_advance wsX2_advance) := goodIn_app (goodIn_of _ (by decide +kernel)) ggX2_readPart_X2_advance
theorem dX2_readPart_22 : decode cX2_readPart 22 = .ok (.invokevirtual 41, 3) := by decide +kernel
theorem dX2_readPart_25 : decode cX2_readPart 25 = .ok (.aload_n 0, 1) := by decide +kernel
theorem dX2_readPart_26 : decode cX2_readPart 26 = .ok (.bipush 8, 2) := by decide +kernel
theorem dX2_readPart_28 : decode cX2_readPart 28 = .ok (.ldc 85, 2) := by decide +kernel
set_option maxRecDepth 20000 in
theorem ggX2_readPart_X2_readNumbered : GoodIn wsX2_readPart wsX2_readNumbered := goodIn_r _ [81, 82, 83, 84, 85, 5, 86, 11, 87, 10, 12, 74, 75, 76, 77, 88, 89, 90, 91, 92, 62, 63, 64, 65, 66, 67, 68, 69, 70, 71, 72, 73, 93, 94, 95, 96, 97, 98, 99, 100, 101, 102, 103, 104, 105, 106, 107, 108, 109, 110, 141, 142, 143, 144, 145, 146, 147, 148, 149, 150, 151, 152, 153, 154, 155] (by decide +kernel) (by decide +kernel)
set_option maxRecDepth 20000 in
theorem gX2_readPart_X2_readNumbered : GoodIn wsX2_readPart (wsV RX2 86 RX2 yX2_readNumbered wsX2_readNumbered) := goodIn_app (goodIn_of _ (by decide +kernel)) ggX2_readPart_X2_readNumbered
theorem dX2_readPart_30 : decode cX2_readPart 30 = .ok (.invokevirtual 86, 3) := by decide +kernel
theorem dX2_readPart_33 : decode cX2_readPart 33 = .ok (.ireturn, 1) := by decide +kernel
theorem dX2_readPart_19 : decode cX2_readPart 19 = .ok (.iconst 1, 1) := by decide +kernel
theorem dX2_readPart_20 : decode cX2_readPart 20 = .ok (.ireturn, 1) := by decide +kernel
theorem dX2_readPart_8 : decode cX2_readPart 8 = .ok (.iconst 0, 1) := by decide +kernel
theorem dX2_readPart_9 : decode cX2_readPart 9 = .ok (.ireturn, 1) := by decide +kernel
def XSumC (l : Launch) (dC : Nat → ClassId) (dI : Nat → Nat → Nat) (cA : Nat → ClassId) (rl FR LO : Nat) : Prop := ∀ (sz : Nat) (ax : Nat → Nat) (xSz : Int32) (xPl : Int32) (xBe : Int32) (xRt : Int32) (xRf : Int32) (xRd : Int32) (xLk : Int32) (xTz : Int32) (gB : Nat → Int32) (gSt : Nat → Option Nat) (adK : Nat → Nat) (adV : Nat → Nat) (dp : Int32) (i_xSz : 0 ≤ xSz.toInt ∧ xSz.toInt ≤ 200) (i_xPl : 0 ≤ xPl.toInt ∧ xPl.toInt ≤ 200) (i_xBe : 0 ≤ xBe.toInt ∧ xBe.toInt ≤ 200) (i_xRt : 0 ≤ xRt.toInt ∧ xRt.toInt ≤ 20) (i_xTz : 0 ≤ xTz.toInt ∧ xTz.toInt ≤ 200) (i_gB : inB 0 255 200 gB) (hbe : xPl.toInt ≤ xBe.toInt ∧ xBe.toInt ≤ xTz.toInt) (htk : tokOK gB xPl xBe xTz) (hgx : xRf.toInt = (-1)) (hdp : 0 ≤ dp.toInt ∧ dp.toInt ≤ 8) (hop : 8 - dp.toInt ≤ (rl : Int)), Met l yX2_readSum wsX2_readSum ({ frames := FR, cells := (200 - xSz.toInt).toNat, slots := (4 * (200 - xSz.toInt).toNat), locals := LO }) (va_Pc [.ref (ax 13), .int dp] (fun U => U.heap.size = sz ∧ va_P (dC, dI) vwCl [((ax 13), .inr (2, [.ref (ax 11), .ref (ax 14), .int xSz, .int xPl, .int xBe, .int xRt, .int xRf, .int xRd, .int xLk])), ((ax 11), .inr (5, [.ref (ax 12), .int xTz])), ((ax 12), .inl (cA 0, 200, .inl gB)), ((ax 14), .inl (cA 4, 200, .inr (.inr (.inr (.inr gSt)))))] U.heap ∧ va_K (dC, dI) vwCl (tyL cA) U ∧ va_D (fun _ => True) [((ax 13), .inr (2, [.ref (ax 11), .ref (ax 14), .int xSz, .int xPl, .int xBe, .int xRt, .int xRf, .int xRd, .int xLk])), ((ax 11), .inr (5, [.ref (ax 12), .int xTz])), ((ax 12), .inl (cA 0, 200, .inl gB)), ((ax 14), .inl (cA 4, 200, .inr (.inr (.inr (.inr gSt)))))] ∧ st_ok adK adV (va_A [((ax 13), .inr (2, [.ref (ax 11), .ref (ax 14), .int xSz, .int xPl, .int xBe, .int xRt, .int xRf, .int xRd, .int xLk])), ((ax 11), .inr (5, [.ref (ax 12), .int xTz])), ((ax 12), .inl (cA 0, 200, .inl gB)), ((ax 14), .inl (cA 4, 200, .inr (.inr (.inr (.inr gSt)))))] sz) U)) (va_Qi (fun (r : Int32) (u : Int32 × Int32 × Int32 × Int32 × Int32 × Int32 × (Nat → Option Nat) × (List Nat) × (Nat → va_E)) => (0 ≤ u.1.toInt ∧ u.1.toInt ≤ 200) ∧ (0 ≤ u.2.1.toInt ∧ u.2.1.toInt ≤ 200) ∧ (0 ≤ u.2.2.1.toInt ∧ u.2.2.1.toInt ≤ 200) ∧ (u.2.1.toInt ≤ u.2.2.1.toInt ∧ u.2.2.1.toInt ≤ xTz.toInt ∧ (0 ≤ r.toInt ∧ r.toInt ≤ 1)) ∧ (tokOK gB u.2.1 u.2.2.1 xTz) ∧ (stq xSz.toInt u.1.toInt gSt u.2.2.2.2.2.2.1 u.2.2.2.2.2.2.2.1 u.2.2.2.2.2.2.2.2) ∧ (rs u.2.2.2.1 u.2.1 u.2.2.1 u.2.2.2.2.2.1 u.2.2.2.2.1 = psum (tpe gB xTz) xTz.toInt xRt.toInt (pB (tpe gB xTz) xTz.toInt xRt.toInt (8 - dp.toInt).toNat) xPl.toInt xBe.toInt xLk.toInt xRd) ∧ ((¬ r.toInt = 0 → u.2.2.2.1.toInt = (-1)) ∧ (r.toInt = 0 → 0 ≤ u.2.2.2.1.toInt))) (fun (u : Int32 × Int32 × Int32 × Int32 × Int32 × Int32 × (Nat → Option Nat) × (List Nat) × (Nat → va_E)) (t : State) => va_P (dC, dI) vwCl (([((ax 13), .inr (2, [.ref (ax 11), .ref (ax 14), .int u.1, .int u.2.1, .int u.2.2.1, .int xRt, .int u.2.2.2.1, .int u.2.2.2.2.1, .int u.2.2.2.2.2.1])), ((ax 11), .inr (5, [.ref (ax 12), .int xTz])), ((ax 12), .inl (cA 0, 200, .inl gB)), ((ax 14), .inl (cA 4, 200, .inr (.inr (.inr (.inr u.2.2.2.2.2.2.1)))))] : va_W) ++ va_pl u.2.2.2.2.2.2.2.1 u.2.2.2.2.2.2.2.2) t.heap ∧ va_D (va_A [((ax 13), .inr (2, [.ref (ax 11), .ref (ax 14), .int xSz, .int xPl, .int xBe, .int xRt, .int xRf, .int xRd, .int xLk])), ((ax 11), .inr (5, [.ref (ax 12), .int xTz])), ((ax 12), .inl (cA 0, 200, .inl gB)), ((ax 14), .inl (cA 4, 200, .inr (.inr (.inr (.inr gSt)))))] sz) (([((ax 13), .inr (2, [.ref (ax 11), .ref (ax 14), .int u.1, .int u.2.1, .int u.2.2.1, .int xRt, .int u.2.2.2.1, .int u.2.2.2.2.1, .int u.2.2.2.2.2.1])), ((ax 11), .inr (5, [.ref (ax 12), .int xTz])), ((ax 12), .inl (cA 0, 200, .inl gB)), ((ax 14), .inl (cA 4, 200, .inr (.inr (.inr (.inr u.2.2.2.2.2.2.1)))))] : va_W) ++ va_pl u.2.2.2.2.2.2.2.1 u.2.2.2.2.2.2.2.2) ∧ (t.heap.size ≤ sz + (u.1.toInt - xSz.toInt).toNat ∧ ssum sz t.heap ≤ 4 * (u.1.toInt - xSz.toInt).toNat)) (va_A [((ax 13), .inr (2, [.ref (ax 11), .ref (ax 14), .int xSz, .int xPl, .int xBe, .int xRt, .int xRf, .int xRd, .int xLk])), ((ax 11), .inr (5, [.ref (ax 12), .int xTz])), ((ax 12), .inl (cA 0, 200, .inl gB)), ((ax 14), .inl (cA 4, 200, .inr (.inr (.inr (.inr gSt)))))] sz)) ((200 - xSz.toInt).toNat) (4 * (200 - xSz.toInt).toNat) (va_A [((ax 13), .inr (2, [.ref (ax 11), .ref (ax 14), .int xSz, .int xPl, .int xBe, .int xRt, .int xRf, .int xRd, .int xLk])), ((ax 11), .inr (5, [.ref (ax 12), .int xTz])), ((ax 12), .inl (cA 0, 200, .inl gB)), ((ax 14), .inl (cA 4, 200, .inr (.inr (.inr (.inr gSt)))))] sz)

set_option maxHeartbeats 8000000 in
set_option maxRecDepth 100000 in
theorem k_X2_readBracket (l : Launch) (dC : Nat → ClassId) (dI : Nat → Nat → Nat) (cA : Nat → ClassId) (sz : Nat) (ax : Nat → Nat) (xSz : Int32) (xPl : Int32) (xBe : Int32) (xRt : Int32) (xRf : Int32) (xRd : Int32) (xLk : Int32) (xTz : Int32) (gB : Nat → Int32) (gSt : Nat → Option Nat) (dp : Int32) (adK : Nat → Nat) (adV : Nat → Nat) (rl : Nat) (FR : Nat) (LO : Nat) (i_xSz : 0 ≤ xSz.toInt ∧ xSz.toInt ≤ 200) (i_xPl : 0 ≤ xPl.toInt ∧ xPl.toInt ≤ 200) (i_xBe : 0 ≤ xBe.toInt ∧ xBe.toInt ≤ 200) (i_xRt : 0 ≤ xRt.toInt ∧ xRt.toInt ≤ 20) (i_xTz : 0 ≤ xTz.toInt ∧ xTz.toInt ≤ 200) (i_gB : inB 0 255 200 gB) (hbe : xPl.toInt ≤ xBe.toInt ∧ xBe.toInt ≤ xTz.toInt) (htk : tokOK gB xPl xBe xTz) (hgx : xRf.toInt = (-1)) (hdp : 0 ≤ dp.toInt ∧ dp.toInt ≤ 8) (hop : 8 - dp.toInt ≤ (rl : Int)) (ih : 0 < rl → XSumC l dC dI cA (rl - 1) FR LO) : Met l yX2_readBracket wsX2_readBracket ({ frames := FR + 6, cells := (200 - xSz.toInt).toNat, slots := (4 * (200 - xSz.toInt).toNat), locals := LO + 129 }) (va_Pc [.ref (ax 13), .int dp] (fun U => U.heap.size = sz ∧ va_P (dC, dI) vwCl [((ax 13), .inr (2, [.ref (ax 11), .ref (ax 14), .int xSz, .int xPl, .int xBe, .int xRt, .int xRf, .int xRd, .int xLk])), ((ax 11), .inr (5, [.ref (ax 12), .int xTz])), ((ax 12), .inl (cA 0, 200, .inl gB)), ((ax 14), .inl (cA 4, 200, .inr (.inr (.inr (.inr gSt)))))] U.heap ∧ va_K (dC, dI) vwCl (tyL cA) U ∧ va_D (fun _ => True) [((ax 13), .inr (2, [.ref (ax 11), .ref (ax 14), .int xSz, .int xPl, .int xBe, .int xRt, .int xRf, .int xRd, .int xLk])), ((ax 11), .inr (5, [.ref (ax 12), .int xTz])), ((ax 12), .inl (cA 0, 200, .inl gB)), ((ax 14), .inl (cA 4, 200, .inr (.inr (.inr (.inr gSt)))))] ∧ st_ok adK adV (va_A [((ax 13), .inr (2, [.ref (ax 11), .ref (ax 14), .int xSz, .int xPl, .int xBe, .int xRt, .int xRf, .int xRd, .int xLk])), ((ax 11), .inr (5, [.ref (ax 12), .int xTz])), ((ax 12), .inl (cA 0, 200, .inl gB)), ((ax 14), .inl (cA 4, 200, .inr (.inr (.inr (.inr gSt)))))] sz) U)) (va_Qi (fun (r : Int32) (u : Int32 × Int32 × Int32 × Int32 × Int32 × Int32 × (Nat → Option Nat) × (List Nat) × (Nat → va_E)) => (0 ≤ u.1.toInt ∧ u.1.toInt ≤ 200) ∧ (0 ≤ u.2.1.toInt ∧ u.2.1.toInt ≤ 200) ∧ (0 ≤ u.2.2.1.toInt ∧ u.2.2.1.toInt ≤ 200) ∧ (u.2.1.toInt ≤ u.2.2.1.toInt ∧ u.2.2.1.toInt ≤ xTz.toInt ∧ (0 ≤ r.toInt ∧ r.toInt ≤ 1)) ∧ (tokOK gB u.2.1 u.2.2.1 xTz) ∧ (stq xSz.toInt u.1.toInt gSt u.2.2.2.2.2.2.1 u.2.2.2.2.2.2.2.1 u.2.2.2.2.2.2.2.2) ∧ (rs u.2.2.2.1 u.2.1 u.2.2.1 u.2.2.2.2.2.1 u.2.2.2.2.1 = pB (tpe gB xTz) xTz.toInt xRt.toInt (8 - dp.toInt).toNat xPl.toInt xBe.toInt xLk.toInt xRd) ∧ ((¬ r.toInt = 0 → u.2.2.2.1.toInt = (-1)) ∧ (r.toInt = 0 → 0 ≤ u.2.2.2.1.toInt))) (fun (u : Int32 × Int32 × Int32 × Int32 × Int32 × Int32 × (Nat → Option Nat) × (List Nat) × (Nat → va_E)) (t : State) => va_P (dC, dI) vwCl (([((ax 13), .inr (2, [.ref (ax 11), .ref (ax 14), .int u.1, .int u.2.1, .int u.2.2.1, .int xRt, .int u.2.2.2.1, .int u.2.2.2.2.1, .int u.2.2.2.2.2.1])), ((ax 11), .inr (5, [.ref (ax 12), .int xTz])), ((ax 12), .inl (cA 0, 200, .inl gB)), ((ax 14), .inl (cA 4, 200, .inr (.inr (.inr (.inr u.2.2.2.2.2.2.1)))))] : va_W) ++ va_pl u.2.2.2.2.2.2.2.1 u.2.2.2.2.2.2.2.2) t.heap ∧ va_D (va_A [((ax 13), .inr (2, [.ref (ax 11), .ref (ax 14), .int xSz, .int xPl, .int xBe, .int xRt, .int xRf, .int xRd, .int xLk])), ((ax 11), .inr (5, [.ref (ax 12), .int xTz])), ((ax 12), .inl (cA 0, 200, .inl gB)), ((ax 14), .inl (cA 4, 200, .inr (.inr (.inr (.inr gSt)))))] sz) (([((ax 13), .inr (2, [.ref (ax 11), .ref (ax 14), .int u.1, .int u.2.1, .int u.2.2.1, .int xRt, .int u.2.2.2.1, .int u.2.2.2.2.1, .int u.2.2.2.2.2.1])), ((ax 11), .inr (5, [.ref (ax 12), .int xTz])), ((ax 12), .inl (cA 0, 200, .inl gB)), ((ax 14), .inl (cA 4, 200, .inr (.inr (.inr (.inr u.2.2.2.2.2.2.1)))))] : va_W) ++ va_pl u.2.2.2.2.2.2.2.1 u.2.2.2.2.2.2.2.2) ∧ (t.heap.size ≤ sz + (u.1.toInt - xSz.toInt).toNat ∧ ssum sz t.heap ≤ 4 * (u.1.toInt - xSz.toInt).toNat)) (va_A [((ax 13), .inr (2, [.ref (ax 11), .ref (ax 14), .int xSz, .int xPl, .int xBe, .int xRt, .int xRf, .int xRd, .int xLk])), ((ax 11), .inr (5, [.ref (ax 12), .int xTz])), ((ax 12), .inl (cA 0, 200, .inl gB)), ((ax 14), .inl (cA 4, 200, .inr (.inr (.inr (.inr gSt)))))] sz)) ((200 - xSz.toInt).toNat) (4 * (200 - xSz.toInt).toNat) (va_A [((ax 13), .inr (2, [.ref (ax 11), .ref (ax 14), .int xSz, .int xPl, .int xBe, .int xRt, .int xRf, .int xRd, .int xLk])), ((ax 11), .inr (5, [.ref (ax 12), .int xTz])), ((ax 12), .inl (cA 0, 200, .inl gB)), ((ax 14), .inl (cA 4, 200, .inr (.inr (.inr (.inr gSt)))))] sz) := by
  refine Met.ofW (cc := cX2_readBracket) (maxL := 2) (ret := (some .boolean)) (by decide) rfl ?_
  intro p e s m args below meth c s₁ B hml hv
  obtain ⟨rfl, hsz, hP, hK, hD0, hN⟩ := hv
  have hx := B.exec
  have hb := B.bytes
  have hr := B.returns
  have hts := atoms_spec (ws := wsX2_readBracket) B.pre
  have hown : s.vm.findClass RX2 = some m.cls := findClass_of_methodNamed B.named
  have hlocks := B.notSynchronized
  subst hsz
  have hD := hD0.self (sz := s.heap.size)
  generalize hAe : va_A [((ax 13), .inr (2, [.ref (ax 11), .ref (ax 14), .int xSz, .int xPl, .int xBe, .int xRt, .int xRf, .int xRd, .int xLk])), ((ax 11), .inr (5, [.ref (ax 12), .int xTz])), ((ax 12), .inl (cA 0, 200, .inl gB)), ((ax 14), .inl (cA 4, 200, .inr (.inr (.inr (.inr gSt)))))] s.heap.size = A at hD hN ⊢
  have hSt := hN
  have hN := hSt.1
  have hA : ∀ q : Nat, s.heap.size ≤ q → A q := fun q h => by rw [← hAe]; exact Or.inr h
  have hS : va_S A s.heap s.heap [] := va_S.rf
  have hlt0 : (ax 13) < s.heap.size := (hP 0 _ rfl).lt
  have hlt1 : (ax 11) < s.heap.size := (hP 1 _ rfl).lt
  have hlt2 : (ax 12) < s.heap.size := (hP 2 _ rfl).lt
  have hlt3 : (ax 14) < s.heap.size := (hP 3 _ rfl).lt
  obtain ⟨pfz, hpfz⟩ : ∃ f : Nat → va_E, f = fun _ => .inr (0, []) := ⟨_, rfl⟩
  replace hP : va_P (dC, dI) vwCl (([((ax 13), .inr (2, [.ref (ax 11), .ref (ax 14), .int xSz, .int xPl, .int xBe, .int xRt, .int xRf, .int xRd, .int xLk])), ((ax 11), .inr (5, [.ref (ax 12), .int xTz])), ((ax 12), .inl (cA 0, 200, .inl gB)), ((ax 14), .inl (cA 4, 200, .inr (.inr (.inr (.inr gSt)))))] : va_W) ++ va_pl ([]) pfz) s.heap := hP
  replace hD : va_D A (([((ax 13), .inr (2, [.ref (ax 11), .ref (ax 14), .int xSz, .int xPl, .int xBe, .int xRt, .int xRf, .int xRd, .int xLk])), ((ax 11), .inr (5, [.ref (ax 12), .int xTz])), ((ax 12), .inl (cA 0, 200, .inl gB)), ((ax 14), .inl (cA 4, 200, .inr (.inr (.inr (.inr gSt)))))] : va_W) ++ va_pl ([]) pfz) := hD
  have hl := lv_entry ([.ref (ax 13), .int dp]) (n := 2) (Nat.le_of_ble_eq_true rfl)
  rw [lg_entry_eq]
  generalize (lg_sl ([.ref (ax 13), .int dp]) ++ List.replicate (2 - (lg_sl ([.ref (ax 13), .int dp])).length) Slot.unset).toArray = ls at hl ⊢
  have hl : lv_has ls 2 [(0, .ref (ax 13)), (1, .int dp)] := hl
  generalize hQe : MQ below _ _ _ _ _ _ = QQ
  refine lv_iload_n hx hb dX2_readBracket_0 rfl (lv_at hl 1 rfl) ?_
  refine lv_bipush (v := 8) hx hb dX2_readBracket_1 (by decide) ?_
  refine lv_icmp_lt (tgt := 11) hx hb dX2_readBracket_3 (by decide) (fun c_1 => ?_) (fun c_1 => ?_)
  · have dc_1 : dp.toInt < 8 := jI_lt c_1 rfl (by decide)
    refine lv_aload_n hx hb dX2_readBracket_11 rfl (lv_at hl 0 rfl) ?_
    obtain ⟨hPc, hDc, hFc, hCc⟩ := va_pre (ws' := [((ax 13), .inr (2, [.ref (ax 11), .ref (ax 14), .int xSz, .int xPl, .int xBe, .int xRt, .int xRf, .int xRd, .int xLk])), ((ax 11), .inr (5, [.ref (ax 12), .int xTz])), ((ax 12), .inl (cA 0, 200, .inl gB))]) hP hD hS hA [0, 1, 2] (by decide) rfl
    refine va_callv (va_runV (As := []) (rest := []) ⟨hx, hb, hml, hown, hts⟩ (k_X2_advance l dC dI cA s.heap.size ax xSz xPl xBe xRt xRf xRd xLk xTz gB i_xSz i_xPl i_xBe i_xRt i_xTz i_gB (by omega)) (cwV 0 hts gX2_readBracket_X2_advance rfl rfl rfl (by decide +kernel) ⟨(show 1 + 1 ≤ FR + 6 from fl_b (F := FR) (a := 1 + 1) (c := 6) (by decide)), (show 8 + (3 + 11) + 23 ≤ LO + 129 from fl_b (F := LO) (a := 8 + (3 + 11) + 23) (c := 129) (by decide))⟩) ⟨fun a U g mk q => by obtain ⟨q0, q1, qP, qK, qD, qN⟩ := q; exact ⟨q0, q1, qP, va_K.moved (u := U) (U := U.calling g mk a) (Vm.Alike.refl U.vm) qK, qD, qN.same rfl⟩, va_recv hK hPc (ci := 2) (q0 := 0) rfl rfl, fun U hU hW => ⟨rfl, by rw [hU], by rw [hU]; exact hPc, va_K.moved hW.alike hK, hDc.weaken (fun _ _ _ _ => trivial), hN.warm hW⟩⟩ rfl rfl hl.1 rfl (lv_room (Nat.le_of_ble_eq_true rfl)) dX2_readBracket_12 ⟨(show 0 + 0 ≤ (200 - xSz.toInt).toNat by omega), (show 0 + 0 ≤ (4 * (200 - xSz.toInt).toNat) by omega)⟩) hS (fun q _ h => hFc q h) hFc (fun u_2 t H1 locs ht hvm hw_3 hB hz1 hk1 hS => ?_)
    obtain ⟨w_4, w_5⟩ := u_2
    try dsimp only at hw_3 hB
    obtain ⟨iv_6, iv_7, po_8, tk_9, ad_10⟩ := hw_3
    obtain ⟨hP1, hD1⟩ := hB
    rw [ht] at hP1
    obtain ⟨hP, hD⟩ := va_joinQ (wr := [((ax 14), .inl (cA 4, 200, .inr (.inr (.inr (.inr gSt)))))]) (w1 := [((ax 13), .inr (2, [.ref (ax 11), .ref (ax 14), .int xSz, .int w_4, .int w_5, .int xRt, .int xRf, .int xRd, .int xLk])), ((ax 11), .inr (5, [.ref (ax 12), .int xTz])), ((ax 12), .inl (cA 0, 200, .inl gB))]) hP hD [0, 1, 2] [3] rfl rfl (by decide) (by decide) hk1 hFc hP1 hD1
    clear hz1
    generalize H1 = H at hP hS ⊢
    replace hP : va_P (dC, dI) vwCl (([((ax 14), .inl (cA 4, 200, .inr (.inr (.inr (.inr gSt))))), ((ax 13), .inr (2, [.ref (ax 11), .ref (ax 14), .int xSz, .int w_4, .int w_5, .int xRt, .int xRf, .int xRd, .int xLk])), ((ax 11), .inr (5, [.ref (ax 12), .int xTz])), ((ax 12), .inl (cA 0, 200, .inl gB))] : va_W) ++ va_pl ([]) pfz) H := hP
    replace hD : va_D A (([((ax 14), .inl (cA 4, 200, .inr (.inr (.inr (.inr gSt))))), ((ax 13), .inr (2, [.ref (ax 11), .ref (ax 14), .int xSz, .int w_4, .int w_5, .int xRt, .int xRf, .int xRd, .int xLk])), ((ax 11), .inr (5, [.ref (ax 12), .int xTz])), ((ax 12), .inl (cA 0, 200, .inl gB))] : va_W) ++ va_pl ([]) pfz) := hD
    refine lv_aload_n hx hb dX2_readBracket_15 rfl (lv_at hl 0 rfl) ?_
    refine lv_iload_n hx hb dX2_readBracket_16 rfl (lv_at hl 1 rfl) ?_
    refine lv_iconst (v := 1) hx hb dX2_readBracket_17 (by decide) ?_
    refine lv_iadd hx hb dX2_readBracket_18 ?_
    refine lv_topi (fun x_11 ex_11 => ?_)
    have dx_11 : x_11.toInt = dp.toInt + 1 := by rw [ex_11]; exact jI_add rfl (by decide) (by omega) (by omega)
    obtain ⟨hPc, hDc, hFc, hCc⟩ := va_pre (ws' := [((ax 13), .inr (2, [.ref (ax 11), .ref (ax 14), .int xSz, .int w_4, .int w_5, .int xRt, .int xRf, .int xRd, .int xLk])), ((ax 11), .inr (5, [.ref (ax 12), .int xTz])), ((ax 12), .inl (cA 0, 200, .inl gB)), ((ax 14), .inl (cA 4, 200, .inr (.inr (.inr (.inr gSt)))))]) hP hD hS hA [1, 2, 3, 0] (by decide) rfl
    refine W.know (fun hkn1 hkn2 => ?_)
    have hS0 := hS.1
    refine va_calli (va_runV (As := [.int x_11]) (rest := []) ⟨hx, hb, hml, hown, hts⟩ (ih (by omega) H.size ax xSz w_4 w_5 xRt xRf xRd xLk xTz gB gSt adK adV x_11 i_xSz iv_6 iv_7 i_xRt i_xTz i_gB (by omega) tk_9 hgx (by omega) (by omega)) (cwV 1 hts gX2_readBracket_X2_readSum rfl rfl rfl (by decide +kernel) ⟨(show (FR + 0) + 1 ≤ FR + 6 from fl_a (F := FR) (a := 0) (b := 1) (c := 6) (by decide)), (show 8 + (5 + 11) + (LO + 0) ≤ LO + 129 from fl_c (F := LO) (a := 8 + (5 + 11)) (b := 0) (c := 129) (by decide))⟩) ⟨fun a U g mk q => by obtain ⟨q0, q1, qP, qK, qD, qN⟩ := q; exact ⟨q0, q1, qP, va_K.moved (u := U) (U := U.calling g mk a) (Vm.Alike.refl U.vm) qK, qD, qN.same rfl rfl⟩, va_recv hK hPc (ci := 2) (q0 := 0) rfl rfl, fun U hU hW => ⟨rfl, by rw [hU], by rw [hU]; exact hPc, va_K.moved hW.alike hK, hDc.weaken (fun _ _ _ _ => trivial), hSt.call hS hU hW hFc⟩⟩ rfl rfl hl.1 rfl (lv_room (Nat.le_of_ble_eq_true rfl)) dX2_readBracket_19 ⟨(show 0 + ((200 - xSz.toInt).toNat) ≤ (200 - xSz.toInt).toNat by omega), (show 0 + (4 * (200 - xSz.toInt).toNat) ≤ (4 * (200 - xSz.toInt).toNat) by omega)⟩) hS (fun q _ h => hFc q h) hFc (fun r_12 u_13 t H1 locs ht hvm hw_14 hB hz1 hk1 hS => ?_)
    obtain ⟨w_15, w_16, w_17, w_18, w_19, w_20, w_21, w_22, w_23⟩ := u_13
    try dsimp only at hw_14 hB
    obtain ⟨iv_24, iv_25, iv_26, po_27, tk_28, st_29, rs_30, rf_31⟩ := hw_14
    obtain ⟨hP1, hD1, hX1⟩ := hB
    rw [ht] at hP1 hX1
    obtain ⟨hP, hD⟩ := va_joinQ (wr := []) (w1 := ([((ax 13), .inr (2, [.ref (ax 11), .ref (ax 14), .int w_15, .int w_16, .int w_17, .int xRt, .int w_18, .int w_19, .int w_20])), ((ax 11), .inr (5, [.ref (ax 12), .int xTz])), ((ax 12), .inl (cA 0, 200, .inl gB)), ((ax 14), .inl (cA 4, 200, .inr (.inr (.inr (.inr w_21)))))] : va_W) ++ va_pl w_22 w_23) hP hD [1, 2, 3, 0] [] rfl rfl (by decide) (by decide) hk1 hFc hP1 hD1
    obtain ⟨fm_32, hma_fm_32, hmb_fm_32, hP, hD⟩ := pl_merge hP hD
    have sq_fm_32 := stq_tr stq_0 st_29 hma_fm_32 hmb_fm_32
    have hle_fm_32 := sq_fm_32.1
    have hlf_fm_32 := st_29.1
    refine W.tight (cells' := (w_15.toInt - xSz.toInt).toNat) (slots' := 4 * (w_15.toInt - xSz.toInt).toNat) (by omega) (by have hch := ssum_chain hS0 hz1 (fun q h1 h2 => hk1 q h2 (na_of (fun k e hk => by rcases mem4 hk with h | h | h | h <;> omega) h1 h2)); omega) ?_
    clear hz1
    generalize H1 = H at hP hS ⊢
    replace hP : va_P (dC, dI) vwCl (([((ax 13), .inr (2, [.ref (ax 11), .ref (ax 14), .int w_15, .int w_16, .int w_17, .int xRt, .int w_18, .int w_19, .int w_20])), ((ax 11), .inr (5, [.ref (ax 12), .int xTz])), ((ax 12), .inl (cA 0, 200, .inl gB)), ((ax 14), .inl (cA 4, 200, .inr (.inr (.inr (.inr w_21)))))] : va_W) ++ va_pl ([] ++ w_22) fm_32) H := hP
    replace hD : va_D A (([((ax 13), .inr (2, [.ref (ax 11), .ref (ax 14), .int w_15, .int w_16, .int w_17, .int xRt, .int w_18, .int w_19, .int w_20])), ((ax 11), .inr (5, [.ref (ax 12), .int xTz])), ((ax 12), .inl (cA 0, 200, .inl gB)), ((ax 14), .inl (cA 4, 200, .inr (.inr (.inr (.inr w_21)))))] : va_W) ++ va_pl ([] ++ w_22) fm_32) := hD
    refine lv_if_eq (tgt := 38) hx hb dX2_readBracket_22 (by decide) (fun c_33 => ?_) (fun c_33 => ?_)
    · have dc_33 : r_12.toInt = 0 := jI_eq c_33 rfl (by decide)
      refine lv_iconst (v := 0) hx hb dX2_readBracket_38 (by decide) ?_
      have hP9 := hP.part (cx := [((ax 13), .inr (2, [.ref (ax 11), .ref (ax 14), .int w_15, .int w_16, .int w_17, .int xRt, .int w_18, .int w_19, .int w_20])), ((ax 11), .inr (5, [.ref (ax 12), .int xTz])), ((ax 12), .inl (cA 0, 200, .inl gB)), ((ax 14), .inl (cA 4, 200, .inr (.inr (.inr (.inr w_21)))))]) [0, 1, 2, 3] rfl
      have hD9 := hD.part (cx := [((ax 13), .inr (2, [.ref (ax 11), .ref (ax 14), .int w_15, .int w_16, .int w_17, .int xRt, .int w_18, .int w_19, .int w_20])), ((ax 11), .inr (5, [.ref (ax 12), .int xTz])), ((ax 12), .inl (cA 0, 200, .inl gB)), ((ax 14), .inl (cA 4, 200, .inr (.inr (.inr (.inr w_21)))))]) [0, 1, 2, 3] (by decide) rfl
      refine W.know (fun hkn1 hkn2 => ?_)
      have hBx : H.size ≤ s.heap.size + (w_15.toInt - xSz.toInt).toNat ∧ ssum s.heap.size H ≤ 4 * (w_15.toInt - xSz.toInt).toNat := ⟨by omega, by omega⟩
      subst hQe
      refine W.widen (k := (200 - xSz.toInt).toNat) (n := (4 * (200 - xSz.toInt).toNat)) (by omega) (by omega) ?_
      have hans : (0 : Int32).toInt = 0 := (by decide)
      have hpost : (0 ≤ w_15.toInt ∧ w_15.toInt ≤ 200) ∧ (0 ≤ w_16.toInt ∧ w_16.toInt ≤ 200) ∧ (0 ≤ w_17.toInt ∧ w_17.toInt ≤ 200) ∧ (w_16.toInt ≤ w_17.toInt ∧ w_17.toInt ≤ xTz.toInt ∧ (0 ≤ (0 : Int32).toInt ∧ (0 : Int32).toInt ≤ 1)) ∧ (tokOK gB w_16 w_17 xTz) ∧ (stq xSz.toInt w_15.toInt gSt w_21 ([] ++ w_22) fm_32) ∧ (rs w_18 w_16 w_17 w_20 w_19 = pB (tpe gB xTz) xTz.toInt xRt.toInt (8 - dp.toInt).toNat xPl.toInt xBe.toInt xLk.toInt xRd) ∧ ((¬ (0 : Int32).toInt = 0 → w_18.toInt = (-1)) ∧ ((0 : Int32).toInt = 0 → 0 ≤ w_18.toInt)) := ⟨iv_24, iv_25, iv_26, by omega, tk_28, sq_fm_32, (by rw [show (8 - dp.toInt).toNat = (8 - x_11.toInt).toNat + 1 by omega, pB_s, ← ad_10.2, ← ad_10.1, bnd_no rs_30 (by omega)]; exact rs_inl (by omega) (by omega)), by omega⟩
      exact W.zret (v := 0) hx hb hr (by decide) (fun t ht hW => ⟨⟨0, (w_15, w_16, w_17, w_18, w_19, w_20, w_21, ([] ++ w_22), fm_32), rfl, hpost, by rw [ht]; exact hP9, hD9, by rw [ht]; exact hBx⟩, hS.F ht⟩) hS.2.2 dX2_readBracket_39
    · have dc_33 : ¬ r_12.toInt = 0 := jI_ne c_33 rfl (by decide)
      refine lv_aload_n hx hb dX2_readBracket_25 rfl (lv_at hl 0 rfl) ?_
      refine va_ldcS hx hb hown (show vk_R RX2 105 ")" (adK 6) s from hSt.2.1 6 (by decide)) dX2_readBracket_26 ?_
      obtain ⟨hPc, hDc, hFc, hCc⟩ := va_pre (ws' := [((ax 13), .inr (2, [.ref (ax 11), .ref (ax 14), .int w_15, .int w_16, .int w_17, .int xRt, .int w_18, .int w_19, .int w_20])), ((ax 11), .inr (5, [.ref (ax 12), .int xTz])), ((ax 12), .inl (cA 0, 200, .inl gB))]) hP hD hS hA [0, 1, 2] (by decide) rfl
      refine va_calli (va_runV (As := [.ref (adK 6)]) (rest := []) ⟨hx, hb, hml, hown, hts⟩ (k_X2_take l dC dI cA H.size ax w_15 w_16 w_17 xRt w_18 w_19 w_20 xTz gB adK adV 6 iv_24 iv_25 iv_26 i_xRt i_xTz i_gB (by omega) (by omega) tk_28) (cwV 1 hts gX2_readBracket_X2_take rfl rfl rfl (by decide +kernel) ⟨(show 5 + 1 ≤ FR + 6 from fl_b (F := FR) (a := 5 + 1) (c := 6) (by decide)), (show 8 + (2 + 11) + 108 ≤ LO + 129 from fl_b (F := LO) (a := 8 + (2 + 11) + 108) (c := 129) (by decide))⟩) ⟨fun a U g mk q => by obtain ⟨q0, q1, qP, qK, qD, qN⟩ := q; exact ⟨q0, q1, qP, va_K.moved (u := U) (U := U.calling g mk a) (Vm.Alike.refl U.vm) qK, qD, qN.same rfl rfl⟩, va_recv hK hPc (ci := 2) (q0 := 0) rfl rfl, fun U hU hW => ⟨rfl, by rw [hU], by rw [hU]; exact hPc, va_K.moved hW.alike hK, hDc.weaken (fun _ _ _ _ => trivial), hSt.call hS hU hW hFc⟩⟩ rfl rfl hl.1 rfl (lv_room (Nat.le_of_ble_eq_true rfl)) dX2_readBracket_28 ⟨(show (w_15.toInt - xSz.toInt).toNat + 0 ≤ (200 - xSz.toInt).toNat by omega), (show (4 * (w_15.toInt - xSz.toInt).toNat) + 0 ≤ (4 * (200 - xSz.toInt).toNat) by omega)⟩) hS (fun q _ h => hFc q h) hFc (fun r_34 u_35 t H1 locs ht hvm hw_36 hB hz1 hk1 hS => ?_)
      obtain ⟨w_37, w_38, w_39⟩ := u_35
      try dsimp only at hw_36 hB
      obtain ⟨iv_40, iv_41, po_42, tk_43, pt_44, rf_45⟩ := hw_36
      obtain ⟨hP1, hD1⟩ := hB
      rw [ht] at hP1
      obtain ⟨hP, hD⟩ := va_joinQ (wr := [((ax 14), .inl (cA 4, 200, .inr (.inr (.inr (.inr w_21)))))]) (w1 := [((ax 13), .inr (2, [.ref (ax 11), .ref (ax 14), .int w_15, .int w_37, .int w_38, .int xRt, .int w_39, .int w_19, .int w_20])), ((ax 11), .inr (5, [.ref (ax 12), .int xTz])), ((ax 12), .inl (cA 0, 200, .inl gB))]) hP hD [0, 1, 2] [3] rfl rfl (by decide) (by decide) hk1 hFc hP1 hD1
      clear hz1
      rw [scs_6] at pt_44
      generalize H1 = H at hP hS ⊢
      replace hP : va_P (dC, dI) vwCl (([((ax 14), .inl (cA 4, 200, .inr (.inr (.inr (.inr w_21))))), ((ax 13), .inr (2, [.ref (ax 11), .ref (ax 14), .int w_15, .int w_37, .int w_38, .int xRt, .int w_39, .int w_19, .int w_20])), ((ax 11), .inr (5, [.ref (ax 12), .int xTz])), ((ax 12), .inl (cA 0, 200, .inl gB))] : va_W) ++ va_pl ([] ++ w_22) fm_32) H := hP
      replace hD : va_D A (([((ax 14), .inl (cA 4, 200, .inr (.inr (.inr (.inr w_21))))), ((ax 13), .inr (2, [.ref (ax 11), .ref (ax 14), .int w_15, .int w_37, .int w_38, .int xRt, .int w_39, .int w_19, .int w_20])), ((ax 11), .inr (5, [.ref (ax 12), .int xTz])), ((ax 12), .inl (cA 0, 200, .inl gB))] : va_W) ++ va_pl ([] ++ w_22) fm_32) := hD
      refine lv_if_eq (tgt := 38) hx hb dX2_readBracket_31 (by decide) (fun c_46 => ?_) (fun c_46 => ?_)
      · have dc_46 : r_34.toInt = 0 := jI_eq c_46 rfl (by decide)
        refine lv_iconst (v := 0) hx hb dX2_readBracket_38 (by decide) ?_
        have hP9 := hP.part (cx := [((ax 13), .inr (2, [.ref (ax 11), .ref (ax 14), .int w_15, .int w_37, .int w_38, .int xRt, .int w_39, .int w_19, .int w_20])), ((ax 11), .inr (5, [.ref (ax 12), .int xTz])), ((ax 12), .inl (cA 0, 200, .inl gB)), ((ax 14), .inl (cA 4, 200, .inr (.inr (.inr (.inr w_21)))))]) [1, 2, 3, 0] rfl
        have hD9 := hD.part (cx := [((ax 13), .inr (2, [.ref (ax 11), .ref (ax 14), .int w_15, .int w_37, .int w_38, .int xRt, .int w_39, .int w_19, .int w_20])), ((ax 11), .inr (5, [.ref (ax 12), .int xTz])), ((ax 12), .inl (cA 0, 200, .inl gB)), ((ax 14), .inl (cA 4, 200, .inr (.inr (.inr (.inr w_21)))))]) [1, 2, 3, 0] (by decide) rfl
        refine W.know (fun hkn1 hkn2 => ?_)
        have hBx : H.size ≤ s.heap.size + (w_15.toInt - xSz.toInt).toNat ∧ ssum s.heap.size H ≤ 4 * (w_15.toInt - xSz.toInt).toNat := ⟨by omega, by omega⟩
        subst hQe
        refine W.widen (k := (200 - xSz.toInt).toNat) (n := (4 * (200 - xSz.toInt).toNat)) (by omega) (by omega) ?_
        have hans : (0 : Int32).toInt = 0 := (by decide)
        have hpost : (0 ≤ w_15.toInt ∧ w_15.toInt ≤ 200) ∧ (0 ≤ w_37.toInt ∧ w_37.toInt ≤ 200) ∧ (0 ≤ w_38.toInt ∧ w_38.toInt ≤ 200) ∧ (w_37.toInt ≤ w_38.toInt ∧ w_38.toInt ≤ xTz.toInt ∧ (0 ≤ (0 : Int32).toInt ∧ (0 : Int32).toInt ≤ 1)) ∧ (tokOK gB w_37 w_38 xTz) ∧ (stq xSz.toInt w_15.toInt gSt w_21 ([] ++ w_22) fm_32) ∧ (rs w_39 w_37 w_38 w_20 w_19 = pB (tpe gB xTz) xTz.toInt xRt.toInt (8 - dp.toInt).toNat xPl.toInt xBe.toInt xLk.toInt xRd) ∧ ((¬ (0 : Int32).toInt = 0 → w_39.toInt = (-1)) ∧ ((0 : Int32).toInt = 0 → 0 ≤ w_39.toInt)) := ⟨iv_24, iv_40, iv_41, by omega, tk_43, sq_fm_32, (by rw [show (8 - dp.toInt).toNat = (8 - x_11.toInt).toNat + 1 by omega, pB_s, ← ad_10.2, ← ad_10.1, bnd_ok rs_30 (by omega), tk_no pt_44 (by omega)]; exact rs_inl (by omega) (by omega)), by omega⟩
        exact W.zret (v := 0) hx hb hr (by decide) (fun t ht hW => ⟨⟨0, (w_15, w_37, w_38, w_39, w_19, w_20, w_21, ([] ++ w_22), fm_32), rfl, hpost, by rw [ht]; exact hP9, hD9, by rw [ht]; exact hBx⟩, hS.F ht⟩) hS.2.2 dX2_readBracket_39
      · have dc_46 : ¬ r_34.toInt = 0 := jI_ne c_46 rfl (by decide)
        refine lv_iconst (v := 1) hx hb dX2_readBracket_34 (by decide) ?_
        refine lv_goto (tgt := 39) hx hb dX2_readBracket_35 (by decide) ?_
        have hP9 := hP.part (cx := [((ax 13), .inr (2, [.ref (ax 11), .ref (ax 14), .int w_15, .int w_37, .int w_38, .int xRt, .int w_39, .int w_19, .int w_20])), ((ax 11), .inr (5, [.ref (ax 12), .int xTz])), ((ax 12), .inl (cA 0, 200, .inl gB)), ((ax 14), .inl (cA 4, 200, .inr (.inr (.inr (.inr w_21)))))]) [1, 2, 3, 0] rfl
        have hD9 := hD.part (cx := [((ax 13), .inr (2, [.ref (ax 11), .ref (ax 14), .int w_15, .int w_37, .int w_38, .int xRt, .int w_39, .int w_19, .int w_20])), ((ax 11), .inr (5, [.ref (ax 12), .int xTz])), ((ax 12), .inl (cA 0, 200, .inl gB)), ((ax 14), .inl (cA 4, 200, .inr (.inr (.inr (.inr w_21)))))]) [1, 2, 3, 0] (by decide) rfl
        refine W.know (fun hkn1 hkn2 => ?_)
        have hBx : H.size ≤ s.heap.size + (w_15.toInt - xSz.toInt).toNat ∧ ssum s.heap.size H ≤ 4 * (w_15.toInt - xSz.toInt).toNat := ⟨by omega, by omega⟩
        subst hQe
        refine W.widen (k := (200 - xSz.toInt).toNat) (n := (4 * (200 - xSz.toInt).toNat)) (by omega) (by omega) ?_
        have hans : (1 : Int32).toInt = 1 := (by decide)
        have hpost : (0 ≤ w_15.toInt ∧ w_15.toInt ≤ 200) ∧ (0 ≤ w_37.toInt ∧ w_37.toInt ≤ 200) ∧ (0 ≤ w_38.toInt ∧ w_38.toInt ≤ 200) ∧ (w_37.toInt ≤ w_38.toInt ∧ w_38.toInt ≤ xTz.toInt ∧ (0 ≤ (1 : Int32).toInt ∧ (1 : Int32).toInt ≤ 1)) ∧ (tokOK gB w_37 w_38 xTz) ∧ (stq xSz.toInt w_15.toInt gSt w_21 ([] ++ w_22) fm_32) ∧ (rs w_39 w_37 w_38 w_20 w_19 = pB (tpe gB xTz) xTz.toInt xRt.toInt (8 - dp.toInt).toNat xPl.toInt xBe.toInt xLk.toInt xRd) ∧ ((¬ (1 : Int32).toInt = 0 → w_39.toInt = (-1)) ∧ ((1 : Int32).toInt = 0 → 0 ≤ w_39.toInt)) := ⟨iv_24, iv_40, iv_41, by omega, tk_43, sq_fm_32, (by rw [show (8 - dp.toInt).toNat = (8 - x_11.toInt).toNat + 1 by omega, pB_s, ← ad_10.2, ← ad_10.1, bnd_ok rs_30 (by omega), tk_ok pt_44 (by omega)]; exact rs_inr (by omega) rfl rfl rfl rfl), by omega⟩
        exact W.zret (v := 1) hx hb hr (by decide) (fun t ht hW => ⟨⟨1, (w_15, w_37, w_38, w_39, w_19, w_20, w_21, ([] ++ w_22), fm_32), rfl, hpost, by rw [ht]; exact hP9, hD9, by rw [ht]; exact hBx⟩, hS.F ht⟩) hS.2.2 dX2_readBracket_39
  · have dc_1 : 8 ≤ dp.toInt := jI_nlt c_1 rfl (by decide)
    refine lv_aload_n hx hb dX2_readBracket_6 rfl (lv_at hl 0 rfl) ?_
    obtain ⟨hPc, hDc, hFc, hCc⟩ := va_pre (ws' := [((ax 13), .inr (2, [.ref (ax 11), .ref (ax 14), .int xSz, .int xPl, .int xBe, .int xRt, .int xRf, .int xRd, .int xLk]))]) hP hD hS hA [0] (by decide) rfl
    refine va_calli (va_runV (As := []) (rest := []) ⟨hx, hb, hml, hown, hts⟩ (k_X2_stop l dC dI cA s.heap.size ax xSz xPl xBe xRt xRf xRd xLk i_xSz i_xPl i_xBe i_xRt) (cwV 0 hts gX2_readBracket_X2_stop rfl rfl rfl (by decide +kernel) ⟨(show 0 + 1 ≤ FR + 6 from fl_b (F := FR) (a := 0 + 1) (c := 6) (by decide)), (show 8 + (1 + 11) + 0 ≤ LO + 129 from fl_b (F := LO) (a := 8 + (1 + 11) + 0) (c := 129) (by decide))⟩) ⟨fun a U g mk q => by obtain ⟨q0, q1, qP, qK, qD, qN⟩ := q; exact ⟨q0, q1, qP, va_K.moved (u := U) (U := U.calling g mk a) (Vm.Alike.refl U.vm) qK, qD, qN.same rfl⟩, va_recv hK hPc (ci := 2) (q0 := 0) rfl rfl, fun U hU hW => ⟨rfl, by rw [hU], by rw [hU]; exact hPc, va_K.moved hW.alike hK, hDc.weaken (fun _ _ _ _ => trivial), hN.warm hW⟩⟩ rfl rfl hl.1 rfl (lv_room (Nat.le_of_ble_eq_true rfl)) dX2_readBracket_7 ⟨(show 0 + 0 ≤ (200 - xSz.toInt).toNat by omega), (show 0 + 0 ≤ (4 * (200 - xSz.toInt).toNat) by omega)⟩) hS (fun q _ h => hFc q h) hFc (fun r_47 u_48 t H1 locs ht hvm hw_49 hB hz1 hk1 hS => ?_)
    obtain ⟨w_50, rfl⟩ : ∃ z, z = u_48 := ⟨_, rfl⟩
    try dsimp only at hw_49 hB
    obtain ⟨hr9, sf_51⟩ := hw_49
    obtain ⟨hP1, hD1⟩ := hB
    rw [ht] at hP1
    obtain ⟨hP, hD⟩ := va_joinQ (wr := [((ax 11), .inr (5, [.ref (ax 12), .int xTz])), ((ax 12), .inl (cA 0, 200, .inl gB)), ((ax 14), .inl (cA 4, 200, .inr (.inr (.inr (.inr gSt)))))]) (w1 := [((ax 13), .inr (2, [.ref (ax 11), .ref (ax 14), .int xSz, .int xPl, .int xBe, .int xRt, .int w_50, .int xRd, .int xLk]))]) hP hD [0] [1, 2, 3] rfl rfl (by decide) (by decide) hk1 hFc hP1 hD1
    clear hz1
    generalize H1 = H at hP hS ⊢
    replace hP : va_P (dC, dI) vwCl (([((ax 11), .inr (5, [.ref (ax 12), .int xTz])), ((ax 12), .inl (cA 0, 200, .inl gB)), ((ax 14), .inl (cA 4, 200, .inr (.inr (.inr (.inr gSt))))), ((ax 13), .inr (2, [.ref (ax 11), .ref (ax 14), .int xSz, .int xPl, .int xBe, .int xRt, .int w_50, .int xRd, .int xLk]))] : va_W) ++ va_pl ([]) pfz) H := hP
    replace hD : va_D A (([((ax 11), .inr (5, [.ref (ax 12), .int xTz])), ((ax 12), .inl (cA 0, 200, .inl gB)), ((ax 14), .inl (cA 4, 200, .inr (.inr (.inr (.inr gSt))))), ((ax 13), .inr (2, [.ref (ax 11), .ref (ax 14), .int xSz, .int xPl, .int xBe, .int xRt, .int w_50, .int xRd, .int xLk]))] : va_W) ++ va_pl ([]) pfz) := hD
    obtain rfl : 0 = r_47 := hr9.symm
    have hP9 := hP.part (cx := [((ax 13), .inr (2, [.ref (ax 11), .ref (ax 14), .int xSz, .int xPl, .int xBe, .int xRt, .int w_50, .int xRd, .int xLk])), ((ax 11), .inr (5, [.ref (ax 12), .int xTz])), ((ax 12), .inl (cA 0, 200, .inl gB)), ((ax 14), .inl (cA 4, 200, .inr (.inr (.inr (.inr gSt)))))]) [3, 0, 1, 2] rfl
    have hD9 := hD.part (cx := [((ax 13), .inr (2, [.ref (ax 11), .ref (ax 14), .int xSz, .int xPl, .int xBe, .int xRt, .int w_50, .int xRd, .int xLk])), ((ax 11), .inr (5, [.ref (ax 12), .int xTz])), ((ax 12), .inl (cA 0, 200, .inl gB)), ((ax 14), .inl (cA 4, 200, .inr (.inr (.inr (.inr gSt)))))]) [3, 0, 1, 2] (by decide) rfl
    refine W.know (fun hkn1 hkn2 => ?_)
    have hBx : H.size ≤ s.heap.size + (xSz.toInt - xSz.toInt).toNat ∧ ssum s.heap.size H ≤ 4 * (xSz.toInt - xSz.toInt).toNat := ⟨by omega, by omega⟩
    subst hQe
    refine W.widen (k := (200 - xSz.toInt).toNat) (n := (4 * (200 - xSz.toInt).toNat)) (by omega) (by omega) ?_
    have hans : (0 : Int32).toInt = 0 := (by decide)
    have hpost : (0 ≤ xSz.toInt ∧ xSz.toInt ≤ 200) ∧ (0 ≤ xPl.toInt ∧ xPl.toInt ≤ 200) ∧ (0 ≤ xBe.toInt ∧ xBe.toInt ≤ 200) ∧ (xPl.toInt ≤ xBe.toInt ∧ xBe.toInt ≤ xTz.toInt ∧ (0 ≤ (0 : Int32).toInt ∧ (0 : Int32).toInt ≤ 1)) ∧ (tokOK gB xPl xBe xTz) ∧ (stq xSz.toInt xSz.toInt gSt gSt ([]) pfz) ∧ (rs w_50 xPl xBe xLk xRd = pB (tpe gB xTz) xTz.toInt xRt.toInt (8 - dp.toInt).toNat xPl.toInt xBe.toInt xLk.toInt xRd) ∧ ((¬ (0 : Int32).toInt = 0 → w_50.toInt = (-1)) ∧ ((0 : Int32).toInt = 0 → 0 ≤ w_50.toInt)) := ⟨i_xSz, i_xPl, i_xBe, by omega, htk, stq_0, (by rw [show (8 - dp.toInt).toNat = 0 by omega, pB_0]; exact rs_inl (by omega) (by omega)), by omega⟩
    exact W.zret (v := 0) hx hb hr (by decide) (fun t ht hW => ⟨⟨0, (xSz, xPl, xBe, w_50, xRd, xLk, gSt, [], pfz), rfl, hpost, by rw [ht]; exact hP9, hD9, by rw [ht]; exact hBx⟩, hS.F ht⟩) hS.2.2 dX2_readBracket_10

set_option maxHeartbeats 8000000 in
set_option maxRecDepth 100000 in
theorem k_X2_readAtom (l : Launch) (dC : Nat → ClassId) (dI : Nat → Nat → Nat) (cA : Nat → ClassId) (sz : Nat) (ax : Nat → Nat) (xSz : Int32) (xPl : Int32) (xBe : Int32) (xRt : Int32) (xRf : Int32) (xRd : Int32) (xLk : Int32) (xTz : Int32) (gB : Nat → Int32) (gSt : Nat → Option Nat) (dp : Int32) (adK : Nat → Nat) (adV : Nat → Nat) (rl : Nat) (FR : Nat) (LO : Nat) (i_xSz : 0 ≤ xSz.toInt ∧ xSz.toInt ≤ 200) (i_xPl : 0 ≤ xPl.toInt ∧ xPl.toInt ≤ 200) (i_xBe : 0 ≤ xBe.toInt ∧ xBe.toInt ≤ 200) (i_xRt : 0 ≤ xRt.toInt ∧ xRt.toInt ≤ 20) (i_xTz : 0 ≤ xTz.toInt ∧ xTz.toInt ≤ 200) (i_gB : inB 0 255 200 gB) (hbe : xPl.toInt ≤ xBe.toInt ∧ xBe.toInt ≤ xTz.toInt) (htk : tokOK gB xPl xBe xTz) (hgx : xRf.toInt = (-1)) (hdp : 0 ≤ dp.toInt ∧ dp.toInt ≤ 8) (hop : 8 - dp.toInt ≤ (rl : Int)) (ih : 0 < rl → XSumC l dC dI cA (rl - 1) FR LO) : Met l yX2_readAtom wsX2_readAtom ({ frames := FR + 7, cells := (200 - xSz.toInt).toNat, slots := (4 * (200 - xSz.toInt).toNat), locals := LO + 153 }) (va_Pc [.ref (ax 13), .int dp] (fun U => U.heap.size = sz ∧ va_P (dC, dI) vwCl [((ax 13), .inr (2, [.ref (ax 11), .ref (ax 14), .int xSz, .int xPl, .int xBe, .int xRt, .int xRf, .int xRd, .int xLk])), ((ax 11), .inr (5, [.ref (ax 12), .int xTz])), ((ax 12), .inl (cA 0, 200, .inl gB)), ((ax 14), .inl (cA 4, 200, .inr (.inr (.inr (.inr gSt)))))] U.heap ∧ va_K (dC, dI) vwCl (tyL cA) U ∧ va_D (fun _ => True) [((ax 13), .inr (2, [.ref (ax 11), .ref (ax 14), .int xSz, .int xPl, .int xBe, .int xRt, .int xRf, .int xRd, .int xLk])), ((ax 11), .inr (5, [.ref (ax 12), .int xTz])), ((ax 12), .inl (cA 0, 200, .inl gB)), ((ax 14), .inl (cA 4, 200, .inr (.inr (.inr (.inr gSt)))))] ∧ st_ok adK adV (va_A [((ax 13), .inr (2, [.ref (ax 11), .ref (ax 14), .int xSz, .int xPl, .int xBe, .int xRt, .int xRf, .int xRd, .int xLk])), ((ax 11), .inr (5, [.ref (ax 12), .int xTz])), ((ax 12), .inl (cA 0, 200, .inl gB)), ((ax 14), .inl (cA 4, 200, .inr (.inr (.inr (.inr gSt)))))] sz) U)) (va_Qi (fun (r : Int32) (u : Int32 × Int32 × Int32 × Int32 × Int32 × Int32 × (Nat → Option Nat) × (List Nat) × (Nat → va_E)) => (0 ≤ u.1.toInt ∧ u.1.toInt ≤ 200) ∧ (0 ≤ u.2.1.toInt ∧ u.2.1.toInt ≤ 200) ∧ (0 ≤ u.2.2.1.toInt ∧ u.2.2.1.toInt ≤ 200) ∧ (u.2.1.toInt ≤ u.2.2.1.toInt ∧ u.2.2.1.toInt ≤ xTz.toInt ∧ (0 ≤ r.toInt ∧ r.toInt ≤ 1)) ∧ (tokOK gB u.2.1 u.2.2.1 xTz) ∧ (stq xSz.toInt u.1.toInt gSt u.2.2.2.2.2.2.1 u.2.2.2.2.2.2.2.1 u.2.2.2.2.2.2.2.2) ∧ (rs u.2.2.2.1 u.2.1 u.2.2.1 u.2.2.2.2.2.1 u.2.2.2.2.1 = patom (tpe gB xTz) xTz.toInt xRt.toInt (pB (tpe gB xTz) xTz.toInt xRt.toInt (8 - dp.toInt).toNat) xPl.toInt xBe.toInt xLk.toInt xRd) ∧ ((¬ r.toInt = 0 → u.2.2.2.1.toInt = (-1)) ∧ (r.toInt = 0 → 0 ≤ u.2.2.2.1.toInt))) (fun (u : Int32 × Int32 × Int32 × Int32 × Int32 × Int32 × (Nat → Option Nat) × (List Nat) × (Nat → va_E)) (t : State) => va_P (dC, dI) vwCl (([((ax 13), .inr (2, [.ref (ax 11), .ref (ax 14), .int u.1, .int u.2.1, .int u.2.2.1, .int xRt, .int u.2.2.2.1, .int u.2.2.2.2.1, .int u.2.2.2.2.2.1])), ((ax 11), .inr (5, [.ref (ax 12), .int xTz])), ((ax 12), .inl (cA 0, 200, .inl gB)), ((ax 14), .inl (cA 4, 200, .inr (.inr (.inr (.inr u.2.2.2.2.2.2.1)))))] : va_W) ++ va_pl u.2.2.2.2.2.2.2.1 u.2.2.2.2.2.2.2.2) t.heap ∧ va_D (va_A [((ax 13), .inr (2, [.ref (ax 11), .ref (ax 14), .int xSz, .int xPl, .int xBe, .int xRt, .int xRf, .int xRd, .int xLk])), ((ax 11), .inr (5, [.ref (ax 12), .int xTz])), ((ax 12), .inl (cA 0, 200, .inl gB)), ((ax 14), .inl (cA 4, 200, .inr (.inr (.inr (.inr gSt)))))] sz) (([((ax 13), .inr (2, [.ref (ax 11), .ref (ax 14), .int u.1, .int u.2.1, .int u.2.2.1, .int xRt, .int u.2.2.2.1, .int u.2.2.2.2.1, .int u.2.2.2.2.2.1])), ((ax 11), .inr (5, [.ref (ax 12), .int xTz])), ((ax 12), .inl (cA 0, 200, .inl gB)), ((ax 14), .inl (cA 4, 200, .inr (.inr (.inr (.inr u.2.2.2.2.2.2.1)))))] : va_W) ++ va_pl u.2.2.2.2.2.2.2.1 u.2.2.2.2.2.2.2.2) ∧ (t.heap.size ≤ sz + (u.1.toInt - xSz.toInt).toNat ∧ ssum sz t.heap ≤ 4 * (u.1.toInt - xSz.toInt).toNat)) (va_A [((ax 13), .inr (2, [.ref (ax 11), .ref (ax 14), .int xSz, .int xPl, .int xBe, .int xRt, .int xRf, .int xRd, .int xLk])), ((ax 11), .inr (5, [.ref (ax 12), .int xTz])), ((ax 12), .inl (cA 0, 200, .inl gB)), ((ax 14), .inl (cA 4, 200, .inr (.inr (.inr (.inr gSt)))))] sz)) ((200 - xSz.toInt).toNat) (4 * (200 - xSz.toInt).toNat) (va_A [((ax 13), .inr (2, [.ref (ax 11), .ref (ax 14), .int xSz, .int xPl, .int xBe, .int xRt, .int xRf, .int xRd, .int xLk])), ((ax 11), .inr (5, [.ref (ax 12), .int xTz])), ((ax 12), .inl (cA 0, 200, .inl gB)), ((ax 14), .inl (cA 4, 200, .inr (.inr (.inr (.inr gSt)))))] sz) := by
  refine Met.ofW (cc := cX2_readAtom) (maxL := 3) (ret := (some .boolean)) (by decide) rfl ?_
  intro p e s m args below meth c s₁ B hml hv
  obtain ⟨rfl, hsz, hP, hK, hD0, hN⟩ := hv
  have hx := B.exec
  have hb := B.bytes
  have hr := B.returns
  have hts := atoms_spec (ws := wsX2_readAtom) B.pre
  have hown : s.vm.findClass RX2 = some m.cls := findClass_of_methodNamed B.named
  have hlocks := B.notSynchronized
  subst hsz
  have hD := hD0.self (sz := s.heap.size)
  generalize hAe : va_A [((ax 13), .inr (2, [.ref (ax 11), .ref (ax 14), .int xSz, .int xPl, .int xBe, .int xRt, .int xRf, .int xRd, .int xLk])), ((ax 11), .inr (5, [.ref (ax 12), .int xTz])), ((ax 12), .inl (cA 0, 200, .inl gB)), ((ax 14), .inl (cA 4, 200, .inr (.inr (.inr (.inr gSt)))))] s.heap.size = A at hD hN ⊢
  have hSt := hN
  have hN := hSt.1
  have hA : ∀ q : Nat, s.heap.size ≤ q → A q := fun q h => by rw [← hAe]; exact Or.inr h
  have hS : va_S A s.heap s.heap [] := va_S.rf
  have hlt0 : (ax 13) < s.heap.size := (hP 0 _ rfl).lt
  have hlt1 : (ax 11) < s.heap.size := (hP 1 _ rfl).lt
  have hlt2 : (ax 12) < s.heap.size := (hP 2 _ rfl).lt
  have hlt3 : (ax 14) < s.heap.size := (hP 3 _ rfl).lt
  obtain ⟨pfz, hpfz⟩ : ∃ f : Nat → va_E, f = fun _ => .inr (0, []) := ⟨_, rfl⟩
  replace hP : va_P (dC, dI) vwCl (([((ax 13), .inr (2, [.ref (ax 11), .ref (ax 14), .int xSz, .int xPl, .int xBe, .int xRt, .int xRf, .int xRd, .int xLk])), ((ax 11), .inr (5, [.ref (ax 12), .int xTz])), ((ax 12), .inl (cA 0, 200, .inl gB)), ((ax 14), .inl (cA 4, 200, .inr (.inr (.inr (.inr gSt)))))] : va_W) ++ va_pl ([]) pfz) s.heap := hP
  replace hD : va_D A (([((ax 13), .inr (2, [.ref (ax 11), .ref (ax 14), .int xSz, .int xPl, .int xBe, .int xRt, .int xRf, .int xRd, .int xLk])), ((ax 11), .inr (5, [.ref (ax 12), .int xTz])), ((ax 12), .inl (cA 0, 200, .inl gB)), ((ax 14), .inl (cA 4, 200, .inr (.inr (.inr (.inr gSt)))))] : va_W) ++ va_pl ([]) pfz) := hD
  have hIX2 : ∀ w ∈ u_ws RX2 TX2 9, w ∈ wsX2_readAtom := by decide +kernel
  have hl := lv_entry ([.ref (ax 13), .int dp]) (n := 3) (Nat.le_of_ble_eq_true rfl)
  rw [lg_entry_eq]
  generalize (lg_sl ([.ref (ax 13), .int dp]) ++ List.replicate (3 - (lg_sl ([.ref (ax 13), .int dp])).length) Slot.unset).toArray = ls at hl ⊢
  have hl : lv_has ls 3 [(0, .ref (ax 13)), (1, .int dp)] := hl
  generalize hQe : MQ below _ _ _ _ _ _ = QQ
  refine lv_aload_n hx hb dX2_readAtom_0 rfl (lv_at hl 0 rfl) ?_
  refine lv_aload_n hx hb dX2_readAtom_1 rfl (lv_at hl 0 rfl) ?_
  refine va_get (D := (dC, dI)) (ci := 2) (v := .int xPl) (C := RX2) (T := TX2) (N := 9) hx hb hts hIX2 hown hK hP 0 rfl rfl 3 (by decide) (hts (.fieldLink RX2 48 "TraitHouse$Reader" "place" "I") (by decide +kernel)) (fun _ h9 => h9) rfl dX2_readAtom_2 ?_
  obtain ⟨hPc, hDc, hFc, hCc⟩ := va_pre (ws' := [((ax 13), .inr (2, [.ref (ax 11), .ref (ax 14), .int xSz, .int xPl, .int xBe, .int xRt, .int xRf, .int xRd, .int xLk])), ((ax 11), .inr (5, [.ref (ax 12), .int xTz])), ((ax 12), .inl (cA 0, 200, .inl gB))]) hP hD hS hA [0, 1, 2] (by decide) rfl
  refine va_calli (va_runV (As := [.int xPl]) (rest := []) ⟨hx, hb, hml, hown, hts⟩ (k_X2_isDigitAt l dC dI cA s.heap.size ax xSz xPl xBe xRt xRf xRd xLk xTz gB xPl i_xSz i_xPl i_xBe i_xRt i_xTz i_gB i_xPl) (cwV 1 hts gX2_readAtom_X2_isDigitAt rfl rfl rfl (by decide +kernel) ⟨(show 0 + 1 ≤ FR + 7 from fl_b (F := FR) (a := 0 + 1) (c := 7) (by decide)), (show 8 + (2 + 11) + 0 ≤ LO + 153 from fl_b (F := LO) (a := 8 + (2 + 11) + 0) (c := 153) (by decide))⟩) ⟨fun a U g mk q => by obtain ⟨q0, q1, qP, qK, qD, qN⟩ := q; exact ⟨q0, q1, qP, va_K.moved (u := U) (U := U.calling g mk a) (Vm.Alike.refl U.vm) qK, qD, qN.same rfl⟩, va_recv hK hPc (ci := 2) (q0 := 0) rfl rfl, fun U hU hW => ⟨rfl, by rw [hU], by rw [hU]; exact hPc, va_K.moved hW.alike hK, hDc.weaken (fun _ _ _ _ => trivial), hN.warm hW⟩⟩ rfl rfl hl.1 rfl (lv_room (Nat.le_of_ble_eq_true rfl)) dX2_readAtom_5 ⟨(show 0 + 0 ≤ (200 - xSz.toInt).toNat by omega), (show 0 + 0 ≤ (4 * (200 - xSz.toInt).toNat) by omega)⟩) hS (fun q _ h => hFc q h) hFc (fun r_1 u_2 t H1 locs ht hvm hw_3 hB hz1 hk1 hS => ?_)
  try dsimp only at hw_3 hB
  obtain ⟨po_4, tp_5⟩ := hw_3
  obtain ⟨hP1, hD1⟩ := hB
  rw [ht] at hP1
  obtain ⟨hP, hD⟩ := va_joinQ (wr := [((ax 14), .inl (cA 4, 200, .inr (.inr (.inr (.inr gSt)))))]) (w1 := [((ax 13), .inr (2, [.ref (ax 11), .ref (ax 14), .int xSz, .int xPl, .int xBe, .int xRt, .int xRf, .int xRd, .int xLk])), ((ax 11), .inr (5, [.ref (ax 12), .int xTz])), ((ax 12), .inl (cA 0, 200, .inl gB))]) hP hD [0, 1, 2] [3] rfl rfl (by decide) (by decide) hk1 hFc hP1 hD1
  clear hz1
  generalize H1 = H at hP hS ⊢
  replace hP : va_P (dC, dI) vwCl (([((ax 14), .inl (cA 4, 200, .inr (.inr (.inr (.inr gSt))))), ((ax 13), .inr (2, [.ref (ax 11), .ref (ax 14), .int xSz, .int xPl, .int xBe, .int xRt, .int xRf, .int xRd, .int xLk])), ((ax 11), .inr (5, [.ref (ax 12), .int xTz])), ((ax 12), .inl (cA 0, 200, .inl gB))] : va_W) ++ va_pl ([]) pfz) H := hP
  replace hD : va_D A (([((ax 14), .inl (cA 4, 200, .inr (.inr (.inr (.inr gSt))))), ((ax 13), .inr (2, [.ref (ax 11), .ref (ax 14), .int xSz, .int xPl, .int xBe, .int xRt, .int xRf, .int xRd, .int xLk])), ((ax 11), .inr (5, [.ref (ax 12), .int xTz])), ((ax 12), .inl (cA 0, 200, .inl gB))] : va_W) ++ va_pl ([]) pfz) := hD
  refine lv_if_eq (tgt := 19) hx hb dX2_readAtom_8 (by decide) (fun c_6 => ?_) (fun c_6 => ?_)
  · have dc_6 : r_1.toInt = 0 := jI_eq c_6 rfl (by decide)
    replace po_4 := dg_n po_4 dc_6
    refine lv_aload_n hx hb dX2_readAtom_19 rfl (lv_at hl 0 rfl) ?_
    refine va_ldcS hx hb hown (show vk_R RX2 93 "(" (adK 5) s from hSt.2.1 5 (by decide)) dX2_readAtom_20 ?_
    obtain ⟨hPc, hDc, hFc, hCc⟩ := va_pre (ws' := [((ax 13), .inr (2, [.ref (ax 11), .ref (ax 14), .int xSz, .int xPl, .int xBe, .int xRt, .int xRf, .int xRd, .int xLk])), ((ax 11), .inr (5, [.ref (ax 12), .int xTz])), ((ax 12), .inl (cA 0, 200, .inl gB))]) hP hD hS hA [1, 2, 3] (by decide) rfl
    refine va_calli (va_runV (As := [.ref (adK 5)]) (rest := []) ⟨hx, hb, hml, hown, hts⟩ (k_X2_isAt l dC dI cA H.size ax xSz xPl xBe xRt xRf xRd xLk xTz gB adK adV 5 i_xSz i_xPl i_xBe i_xRt i_xTz i_gB (by omega) hbe) (cwV 1 hts gX2_readAtom_X2_isAt rfl rfl rfl (by decide +kernel) ⟨(show 4 + 1 ≤ FR + 7 from fl_b (F := FR) (a := 4 + 1) (c := 7) (by decide)), (show 8 + (4 + 11) + 85 ≤ LO + 153 from fl_b (F := LO) (a := 8 + (4 + 11) + 85) (c := 153) (by decide))⟩) ⟨fun a U g mk q => by obtain ⟨q0, q1, qP, qK, qD, qN⟩ := q; exact ⟨q0, q1, qP, va_K.moved (u := U) (U := U.calling g mk a) (Vm.Alike.refl U.vm) qK, qD, qN.same rfl rfl⟩, va_recv hK hPc (ci := 2) (q0 := 0) rfl rfl, fun U hU hW => ⟨rfl, by rw [hU], by rw [hU]; exact hPc, va_K.moved hW.alike hK, hDc.weaken (fun _ _ _ _ => trivial), hSt.call hS hU hW hFc⟩⟩ rfl rfl hl.1 rfl (lv_room (Nat.le_of_ble_eq_true rfl)) dX2_readAtom_22 ⟨(show 0 + 0 ≤ (200 - xSz.toInt).toNat by omega), (show 0 + 0 ≤ (4 * (200 - xSz.toInt).toNat) by omega)⟩) hS (fun q _ h => hFc q h) hFc (fun r_7 u_8 t H1 locs ht hvm hw_9 hB hz1 hk1 hS => ?_)
    try dsimp only at hw_9 hB
    obtain ⟨po_10, tw_11⟩ := hw_9
    obtain ⟨hP1, hD1⟩ := hB
    rw [ht] at hP1
    obtain ⟨hP, hD⟩ := va_joinQ (wr := [((ax 14), .inl (cA 4, 200, .inr (.inr (.inr (.inr gSt)))))]) (w1 := [((ax 13), .inr (2, [.ref (ax 11), .ref (ax 14), .int xSz, .int xPl, .int xBe, .int xRt, .int xRf, .int xRd, .int xLk])), ((ax 11), .inr (5, [.ref (ax 12), .int xTz])), ((ax 12), .inl (cA 0, 200, .inl gB))]) hP hD [1, 2, 3] [0] rfl rfl (by decide) (by decide) hk1 hFc hP1 hD1
    clear hz1
    rw [scs_5] at tw_11
    generalize H1 = H at hP hS ⊢
    replace hP : va_P (dC, dI) vwCl (([((ax 14), .inl (cA 4, 200, .inr (.inr (.inr (.inr gSt))))), ((ax 13), .inr (2, [.ref (ax 11), .ref (ax 14), .int xSz, .int xPl, .int xBe, .int xRt, .int xRf, .int xRd, .int xLk])), ((ax 11), .inr (5, [.ref (ax 12), .int xTz])), ((ax 12), .inl (cA 0, 200, .inl gB))] : va_W) ++ va_pl ([]) pfz) H := hP
    replace hD : va_D A (([((ax 14), .inl (cA 4, 200, .inr (.inr (.inr (.inr gSt))))), ((ax 13), .inr (2, [.ref (ax 11), .ref (ax 14), .int xSz, .int xPl, .int xBe, .int xRt, .int xRf, .int xRd, .int xLk])), ((ax 11), .inr (5, [.ref (ax 12), .int xTz])), ((ax 12), .inl (cA 0, 200, .inl gB))] : va_W) ++ va_pl ([]) pfz) := hD
    refine lv_if_eq (tgt := 34) hx hb dX2_readAtom_25 (by decide) (fun c_12 => ?_) (fun c_12 => ?_)
    · have dc_12 : r_7.toInt = 0 := jI_eq c_12 rfl (by decide)
      refine lv_aload_n hx hb dX2_readAtom_34 rfl (lv_at hl 0 rfl) ?_
      obtain ⟨hPc, hDc, hFc, hCc⟩ := va_pre (ws' := [((ax 13), .inr (2, [.ref (ax 11), .ref (ax 14), .int xSz, .int xPl, .int xBe, .int xRt, .int xRf, .int xRd, .int xLk])), ((ax 11), .inr (5, [.ref (ax 12), .int xTz])), ((ax 12), .inl (cA 0, 200, .inl gB))]) hP hD hS hA [1, 2, 3] (by decide) rfl
      refine va_calli (va_runV (As := []) (rest := []) ⟨hx, hb, hml, hown, hts⟩ (k_X2_kindAt l dC dI cA H.size ax xSz xPl xBe xRt xRf xRd xLk xTz gB adK adV i_xSz i_xPl i_xBe i_xRt i_xTz i_gB hbe) (cwV 0 hts gX2_readAtom_X2_kindAt rfl rfl rfl (by decide +kernel) ⟨(show 5 + 1 ≤ FR + 7 from fl_b (F := FR) (a := 5 + 1) (c := 7) (by decide)), (show 8 + (1 + 11) + 108 ≤ LO + 153 from fl_b (F := LO) (a := 8 + (1 + 11) + 108) (c := 153) (by decide))⟩) ⟨fun a U g mk q => by obtain ⟨q0, q1, qP, qK, qD, qN⟩ := q; exact ⟨q0, q1, qP, va_K.moved (u := U) (U := U.calling g mk a) (Vm.Alike.refl U.vm) qK, qD, qN.same rfl rfl⟩, va_recv hK hPc (ci := 2) (q0 := 0) rfl rfl, fun U hU hW => ⟨rfl, by rw [hU], by rw [hU]; exact hPc, va_K.moved hW.alike hK, hDc.weaken (fun _ _ _ _ => trivial), hSt.call hS hU hW hFc⟩⟩ rfl rfl hl.1 rfl (lv_room (Nat.le_of_ble_eq_true rfl)) dX2_readAtom_35 ⟨(show 0 + 0 ≤ (200 - xSz.toInt).toNat by omega), (show 0 + 0 ≤ (4 * (200 - xSz.toInt).toNat) by omega)⟩) hS (fun q _ h => hFc q h) hFc (fun r_13 u_14 t H1 locs ht hvm hw_15 hB hz1 hk1 hS => ?_)
      try dsimp only at hw_15 hB
      obtain ⟨po_16, pk_17⟩ := hw_15
      obtain ⟨hP1, hD1⟩ := hB
      rw [ht] at hP1
      obtain ⟨hP, hD⟩ := va_joinQ (wr := [((ax 14), .inl (cA 4, 200, .inr (.inr (.inr (.inr gSt)))))]) (w1 := [((ax 13), .inr (2, [.ref (ax 11), .ref (ax 14), .int xSz, .int xPl, .int xBe, .int xRt, .int xRf, .int xRd, .int xLk])), ((ax 11), .inr (5, [.ref (ax 12), .int xTz])), ((ax 12), .inl (cA 0, 200, .inl gB))]) hP hD [1, 2, 3] [0] rfl rfl (by decide) (by decide) hk1 hFc hP1 hD1
      clear hz1
      generalize H1 = H at hP hS ⊢
      replace hP : va_P (dC, dI) vwCl (([((ax 14), .inl (cA 4, 200, .inr (.inr (.inr (.inr gSt))))), ((ax 13), .inr (2, [.ref (ax 11), .ref (ax 14), .int xSz, .int xPl, .int xBe, .int xRt, .int xRf, .int xRd, .int xLk])), ((ax 11), .inr (5, [.ref (ax 12), .int xTz])), ((ax 12), .inl (cA 0, 200, .inl gB))] : va_W) ++ va_pl ([]) pfz) H := hP
      replace hD : va_D A (([((ax 14), .inl (cA 4, 200, .inr (.inr (.inr (.inr gSt))))), ((ax 13), .inr (2, [.ref (ax 11), .ref (ax 14), .int xSz, .int xPl, .int xBe, .int xRt, .int xRf, .int xRd, .int xLk])), ((ax 11), .inr (5, [.ref (ax 12), .int xTz])), ((ax 12), .inl (cA 0, 200, .inl gB))] : va_W) ++ va_pl ([]) pfz) := hD
      refine lv_istore_n (lv' := [(2, .int r_13), (0, .ref (ax 13)), (1, .int dp)]) hx hb dX2_readAtom_38 rfl hl (by decide) rfl (fun ls hl => ?_)
      refine lv_iload_n hx hb dX2_readAtom_39 rfl (lv_at hl 0 rfl) ?_
      refine lv_iconst (v := (-1)) hx hb dX2_readAtom_40 (by decide) ?_
      refine lv_icmp_ne (tgt := 49) hx hb dX2_readAtom_41 (by decide) (fun c_18 => ?_) (fun c_18 => ?_)
      · have dc_18 : ¬ r_13.toInt = (-1) := jI_ne c_18 rfl (by decide)
        refine lv_aload_n hx hb dX2_readAtom_49 rfl (lv_at hl 1 rfl) ?_
        obtain ⟨hPc, hDc, hFc, hCc⟩ := va_pre (ws' := [((ax 13), .inr (2, [.ref (ax 11), .ref (ax 14), .int xSz, .int xPl, .int xBe, .int xRt, .int xRf, .int xRd, .int xLk])), ((ax 11), .inr (5, [.ref (ax 12), .int xTz])), ((ax 12), .inl (cA 0, 200, .inl gB))]) hP hD hS hA [1, 2, 3] (by decide) rfl
        refine va_callv (va_runV (As := []) (rest := []) ⟨hx, hb, hml, hown, hts⟩ (k_X2_advance l dC dI cA H.size ax xSz xPl xBe xRt xRf xRd xLk xTz gB i_xSz i_xPl i_xBe i_xRt i_xTz i_gB (by omega)) (cwV 0 hts gX2_readAtom_X2_advance rfl rfl rfl (by decide +kernel) ⟨(show 1 + 1 ≤ FR + 7 from fl_b (F := FR) (a := 1 + 1) (c := 7) (by decide)), (show 8 + (3 + 11) + 23 ≤ LO + 153 from fl_b (F := LO) (a := 8 + (3 + 11) + 23) (c := 153) (by decide))⟩) ⟨fun a U g mk q => by obtain ⟨q0, q1, qP, qK, qD, qN⟩ := q; exact ⟨q0, q1, qP, va_K.moved (u := U) (U := U.calling g mk a) (Vm.Alike.refl U.vm) qK, qD, qN.same rfl⟩, va_recv hK hPc (ci := 2) (q0 := 0) rfl rfl, fun U hU hW => ⟨rfl, by rw [hU], by rw [hU]; exact hPc, va_K.moved hW.alike hK, hDc.weaken (fun _ _ _ _ => trivial), hN.warm hW⟩⟩ rfl rfl hl.1 rfl (lv_room (Nat.le_of_ble_eq_true rfl)) dX2_readAtom_50 ⟨(show 0 + 0 ≤ (200 - xSz.toInt).toNat by omega), (show 0 + 0 ≤ (4 * (200 - xSz.toInt).toNat) by omega)⟩) hS (fun q _ h => hFc q h) hFc (fun u_19 t H1 locs ht hvm hw_20 hB hz1 hk1 hS => ?_)
        obtain ⟨w_21, w_22⟩ := u_19
        try dsimp only at hw_20 hB
        obtain ⟨iv_23, iv_24, po_25, tk_26, ad_27⟩ := hw_20
        obtain ⟨hP1, hD1⟩ := hB
        rw [ht] at hP1
        obtain ⟨hP, hD⟩ := va_joinQ (wr := [((ax 14), .inl (cA 4, 200, .inr (.inr (.inr (.inr gSt)))))]) (w1 := [((ax 13), .inr (2, [.ref (ax 11), .ref (ax 14), .int xSz, .int w_21, .int w_22, .int xRt, .int xRf, .int xRd, .int xLk])), ((ax 11), .inr (5, [.ref (ax 12), .int xTz])), ((ax 12), .inl (cA 0, 200, .inl gB))]) hP hD [1, 2, 3] [0] rfl rfl (by decide) (by decide) hk1 hFc hP1 hD1
        clear hz1
        generalize H1 = H at hP hS ⊢
        replace hP : va_P (dC, dI) vwCl (([((ax 14), .inl (cA 4, 200, .inr (.inr (.inr (.inr gSt))))), ((ax 13), .inr (2, [.ref (ax 11), .ref (ax 14), .int xSz, .int w_21, .int w_22, .int xRt, .int xRf, .int xRd, .int xLk])), ((ax 11), .inr (5, [.ref (ax 12), .int xTz])), ((ax 12), .inl (cA 0, 200, .inl gB))] : va_W) ++ va_pl ([]) pfz) H := hP
        replace hD : va_D A (([((ax 14), .inl (cA 4, 200, .inr (.inr (.inr (.inr gSt))))), ((ax 13), .inr (2, [.ref (ax 11), .ref (ax 14), .int xSz, .int w_21, .int w_22, .int xRt, .int xRf, .int xRd, .int xLk])), ((ax 11), .inr (5, [.ref (ax 12), .int xTz])), ((ax 12), .inl (cA 0, 200, .inl gB))] : va_W) ++ va_pl ([]) pfz) := hD
        refine lv_iload_n hx hb dX2_readAtom_53 rfl (lv_at hl 0 rfl) ?_
        rcases (jI_range r_13 1 3 : (r_13.toInt < 1 ∨ 3 < r_13.toInt) ∨ (1 ≤ r_13.toInt ∧ r_13.toInt ≤ 3)) with hsw | hsw
        · refine lv_tableOut (tgt := 99) hx hb dX2_readAtom_54 hsw (by decide) ?_
          refine lv_aload_n hx hb dX2_readAtom_99 rfl (lv_at hl 1 rfl) ?_
          refine lv_iload_n hx hb dX2_readAtom_100 rfl (lv_at hl 0 rfl) ?_
          obtain ⟨hPc, hDc, hFc, hCc⟩ := va_pre (ws' := [((ax 13), .inr (2, [.ref (ax 11), .ref (ax 14), .int xSz, .int w_21, .int w_22, .int xRt, .int xRf, .int xRd, .int xLk])), ((ax 11), .inr (5, [.ref (ax 12), .int xTz])), ((ax 12), .inl (cA 0, 200, .inl gB)), ((ax 14), .inl (cA 4, 200, .inr (.inr (.inr (.inr gSt)))))]) hP hD hS hA [1, 2, 3, 0] (by decide) rfl
          refine W.know (fun hkn1 hkn2 => ?_)
          have hS0 := hS.1
          refine va_calli (va_runV (As := [.int r_13]) (rest := []) ⟨hx, hb, hml, hown, hts⟩ (k_X2_readWindow l dC dI cA H.size ax xSz w_21 w_22 xRt xRf xRd xLk xTz gB gSt r_13 adK adV i_xSz iv_23 iv_24 i_xRt i_xTz i_gB (by omega) tk_26 hgx (by omega)) (cwV 1 hts gX2_readAtom_X2_readWindow rfl rfl rfl (by decide +kernel) ⟨(show 6 + 1 ≤ FR + 7 from fl_b (F := FR) (a := 6 + 1) (c := 7) (by decide)), (show 8 + (5 + 11) + 129 ≤ LO + 153 from fl_b (F := LO) (a := 8 + (5 + 11) + 129) (c := 153) (by decide))⟩) ⟨fun a U g mk q => by obtain ⟨q0, q1, qP, qK, qD, qN⟩ := q; exact ⟨q0, q1, qP, va_K.moved (u := U) (U := U.calling g mk a) (Vm.Alike.refl U.vm) qK, qD, qN.same rfl rfl⟩, va_recv hK hPc (ci := 2) (q0 := 0) rfl rfl, fun U hU hW => ⟨rfl, by rw [hU], by rw [hU]; exact hPc, va_K.moved hW.alike hK, hDc.weaken (fun _ _ _ _ => trivial), hSt.call hS hU hW hFc⟩⟩ rfl rfl hl.1 rfl (lv_room (Nat.le_of_ble_eq_true rfl)) dX2_readAtom_101 ⟨(show 0 + ((200 - xSz.toInt).toNat) ≤ (200 - xSz.toInt).toNat by omega), (show 0 + (4 * (200 - xSz.toInt).toNat) ≤ (4 * (200 - xSz.toInt).toNat) by omega)⟩) hS (fun q _ h => hFc q h) hFc (fun r_28 u_29 t H1 locs ht hvm hw_30 hB hz1 hk1 hS => ?_)
          obtain ⟨w_31, w_32, w_33, w_34, w_35, w_36, w_37, w_38, w_39⟩ := u_29
          try dsimp only at hw_30 hB
          obtain ⟨iv_40, iv_41, iv_42, po_43, tk_44, st_45, rs_46, rf_47⟩ := hw_30
          obtain ⟨hP1, hD1, hX1⟩ := hB
          rw [ht] at hP1 hX1
          obtain ⟨hP, hD⟩ := va_joinQ (wr := []) (w1 := ([((ax 13), .inr (2, [.ref (ax 11), .ref (ax 14), .int w_31, .int w_32, .int w_33, .int xRt, .int w_34, .int w_35, .int w_36])), ((ax 11), .inr (5, [.ref (ax 12), .int xTz])), ((ax 12), .inl (cA 0, 200, .inl gB)), ((ax 14), .inl (cA 4, 200, .inr (.inr (.inr (.inr w_37)))))] : va_W) ++ va_pl w_38 w_39) hP hD [1, 2, 3, 0] [] rfl rfl (by decide) (by decide) hk1 hFc hP1 hD1
          obtain ⟨fm_48, hma_fm_48, hmb_fm_48, hP, hD⟩ := pl_merge hP hD
          have sq_fm_48 := stq_tr stq_0 st_45 hma_fm_48 hmb_fm_48
          have hle_fm_48 := sq_fm_48.1
          have hlf_fm_48 := st_45.1
          refine W.tight (cells' := (w_31.toInt - xSz.toInt).toNat) (slots' := 4 * (w_31.toInt - xSz.toInt).toNat) (by omega) (by have hch := ssum_chain hS0 hz1 (fun q h1 h2 => hk1 q h2 (na_of (fun k e hk => by rcases mem4 hk with h | h | h | h <;> omega) h1 h2)); omega) ?_
          clear hz1
          generalize H1 = H at hP hS ⊢
          replace hP : va_P (dC, dI) vwCl (([((ax 13), .inr (2, [.ref (ax 11), .ref (ax 14), .int w_31, .int w_32, .int w_33, .int xRt, .int w_34, .int w_35, .int w_36])), ((ax 11), .inr (5, [.ref (ax 12), .int xTz])), ((ax 12), .inl (cA 0, 200, .inl gB)), ((ax 14), .inl (cA 4, 200, .inr (.inr (.inr (.inr w_37)))))] : va_W) ++ va_pl ([] ++ w_38) fm_48) H := hP
          replace hD : va_D A (([((ax 13), .inr (2, [.ref (ax 11), .ref (ax 14), .int w_31, .int w_32, .int w_33, .int xRt, .int w_34, .int w_35, .int w_36])), ((ax 11), .inr (5, [.ref (ax 12), .int xTz])), ((ax 12), .inl (cA 0, 200, .inl gB)), ((ax 14), .inl (cA 4, 200, .inr (.inr (.inr (.inr w_37)))))] : va_W) ++ va_pl ([] ++ w_38) fm_48) := hD
          have hP9 := hP.part (cx := [((ax 13), .inr (2, [.ref (ax 11), .ref (ax 14), .int w_31, .int w_32, .int w_33, .int xRt, .int w_34, .int w_35, .int w_36])), ((ax 11), .inr (5, [.ref (ax 12), .int xTz])), ((ax 12), .inl (cA 0, 200, .inl gB)), ((ax 14), .inl (cA 4, 200, .inr (.inr (.inr (.inr w_37)))))]) [0, 1, 2, 3] rfl
          have hD9 := hD.part (cx := [((ax 13), .inr (2, [.ref (ax 11), .ref (ax 14), .int w_31, .int w_32, .int w_33, .int xRt, .int w_34, .int w_35, .int w_36])), ((ax 11), .inr (5, [.ref (ax 12), .int xTz])), ((ax 12), .inl (cA 0, 200, .inl gB)), ((ax 14), .inl (cA 4, 200, .inr (.inr (.inr (.inr w_37)))))]) [0, 1, 2, 3] (by decide) rfl
          refine W.know (fun hkn1 hkn2 => ?_)
          have hBx : H.size ≤ s.heap.size + (w_31.toInt - xSz.toInt).toNat ∧ ssum s.heap.size H ≤ 4 * (w_31.toInt - xSz.toInt).toNat := ⟨by omega, by omega⟩
          subst hQe
          refine W.widen (k := (200 - xSz.toInt).toNat) (n := (4 * (200 - xSz.toInt).toNat)) (by omega) (by omega) ?_
          have hans : (r_28 : Int32).toInt = r_28.toInt := rfl
          have hpost : (0 ≤ w_31.toInt ∧ w_31.toInt ≤ 200) ∧ (0 ≤ w_32.toInt ∧ w_32.toInt ≤ 200) ∧ (0 ≤ w_33.toInt ∧ w_33.toInt ≤ 200) ∧ (w_32.toInt ≤ w_33.toInt ∧ w_33.toInt ≤ xTz.toInt ∧ (0 ≤ (r_28 : Int32).toInt ∧ (r_28 : Int32).toInt ≤ 1)) ∧ (tokOK gB w_32 w_33 xTz) ∧ (stq xSz.toInt w_31.toInt gSt w_37 ([] ++ w_38) fm_48) ∧ (rs w_34 w_32 w_33 w_36 w_35 = patom (tpe gB xTz) xTz.toInt xRt.toInt (pB (tpe gB xTz) xTz.toInt xRt.toInt (8 - dp.toInt).toNat) xPl.toInt xBe.toInt xLk.toInt xRd) ∧ ((¬ (r_28 : Int32).toInt = 0 → w_34.toInt = (-1)) ∧ ((r_28 : Int32).toInt = 0 → 0 ≤ w_34.toInt)) := ⟨iv_40, iv_41, iv_42, by omega, tk_44, sq_fm_48, (by rw [patom, if_neg (fun h => absurd (tp_5.mpr h) (fun q => q dc_6)), if_neg (fun h => absurd (tw_11.mpr h) (fun q => q dc_12)), if_neg (show ¬ pkind (tpe gB xTz) xPl.toInt xBe.toInt = (-1) by omega), if_neg (show ¬ pkind (tpe gB xTz) xPl.toInt xBe.toInt = 1 by omega), if_neg (show ¬ (pkind (tpe gB xTz) xPl.toInt xBe.toInt = 2 ∨ pkind (tpe gB xTz) xPl.toInt xBe.toInt = 3) by omega), ← ad_27.2, ← ad_27.1]; exact rs_46), by omega⟩
          exact W.zret (v := r_28) hx hb hr (jnarZ (by omega)) (fun t ht hW => ⟨⟨r_28, (w_31, w_32, w_33, w_34, w_35, w_36, w_37, ([] ++ w_38), fm_48), rfl, hpost, by rw [ht]; exact hP9, hD9, by rw [ht]; exact hBx⟩, hS.F ht⟩) hS.2.2 dX2_readAtom_104
        · rcases (show r_13.toInt = 1 ∨ r_13.toInt = 2 ∨ r_13.toInt = 3 by omega) with hsw | hsw | hsw
          · refine lv_tableIn (off := 26) (tgt := 80) hx hb dX2_readAtom_54 (by omega) (by omega) (by rw [hsw]; rfl) (by decide) ?_
            refine lv_aload_n hx hb dX2_readAtom_80 rfl (lv_at hl 1 rfl) ?_
            refine lv_iconst (v := 1) hx hb dX2_readAtom_81 (by decide) ?_
            refine lv_aload_n hx hb dX2_readAtom_82 rfl (lv_at hl 1 rfl) ?_
            refine va_get (D := (dC, dI)) (ci := 2) (v := .int xRt) (C := RX2) (T := TX2) (N := 9) hx hb hts hIX2 hown hK hP 1 rfl rfl 5 (by decide) (hts (.fieldLink RX2 28 "TraitHouse$Reader" "traitsThere" "I") (by decide +kernel)) (fun _ h9 => h9) rfl dX2_readAtom_83 ?_
            refine lv_iconst (v := 1) hx hb dX2_readAtom_86 (by decide) ?_
            refine lv_isub hx hb dX2_readAtom_87 ?_
            refine lv_topi (fun x_49 ex_49 => ?_)
            have dx_49 : x_49.toInt = xRt.toInt - 1 := by rw [ex_49]; exact jI_sub rfl (by decide) (by omega) (by omega)
            have hk_50 : (1 : Int32).toInt = 1 := by decide
            obtain ⟨hPc, hDc, hFc, hCc⟩ := va_pre (ws' := [((ax 13), .inr (2, [.ref (ax 11), .ref (ax 14), .int xSz, .int w_21, .int w_22, .int xRt, .int xRf, .int xRd, .int xLk])), ((ax 11), .inr (5, [.ref (ax 12), .int xTz])), ((ax 12), .inl (cA 0, 200, .inl gB)), ((ax 14), .inl (cA 4, 200, .inr (.inr (.inr (.inr gSt)))))]) hP hD hS hA [1, 2, 3, 0] (by decide) rfl
            refine W.know (fun hkn1 hkn2 => ?_)
            have hS0 := hS.1
            refine va_calli (va_runV (As := [.int 1, .int x_49]) (rest := []) ⟨hx, hb, hml, hown, hts⟩ (k_X2_readNumbered l dC dI cA H.size ax xSz w_21 w_22 xRt xRf xRd xLk xTz gB gSt 1 x_49 adK adV i_xSz iv_23 iv_24 i_xRt i_xTz i_gB (by omega) tk_26 hgx (by omega) (by omega)) (cwV 2 hts gX2_readAtom_X2_readNumbered rfl rfl rfl (by decide +kernel) ⟨(show 3 + 1 ≤ FR + 7 from fl_b (F := FR) (a := 3 + 1) (c := 7) (by decide)), (show 8 + (4 + 11) + 68 ≤ LO + 153 from fl_b (F := LO) (a := 8 + (4 + 11) + 68) (c := 153) (by decide))⟩) ⟨fun a U g mk q => by obtain ⟨q0, q1, qP, qK, qD, qN⟩ := q; exact ⟨q0, q1, qP, va_K.moved (u := U) (U := U.calling g mk a) (Vm.Alike.refl U.vm) qK, qD, qN.same rfl rfl⟩, va_recv hK hPc (ci := 2) (q0 := 0) rfl rfl, fun U hU hW => ⟨rfl, by rw [hU], by rw [hU]; exact hPc, va_K.moved hW.alike hK, hDc.weaken (fun _ _ _ _ => trivial), hSt.call hS hU hW hFc⟩⟩ rfl rfl hl.1 rfl (lv_room (Nat.le_of_ble_eq_true rfl)) dX2_readAtom_88 ⟨(show 0 + ((200 - xSz.toInt).toNat) ≤ (200 - xSz.toInt).toNat by omega), (show 0 + (4 * (200 - xSz.toInt).toNat) ≤ (4 * (200 - xSz.toInt).toNat) by omega)⟩) hS (fun q _ h => hFc q h) hFc (fun r_51 u_52 t H1 locs ht hvm hw_53 hB hz1 hk1 hS => ?_)
            obtain ⟨w_54, w_55, w_56, w_57, w_58, w_59, w_60, w_61, w_62⟩ := u_52
            try dsimp only at hw_53 hB
            obtain ⟨iv_63, iv_64, iv_65, po_66, tk_67, st_68, rs_69, rf_70⟩ := hw_53
            try simp only [hk_50] at po_66 tk_67 st_68 rs_69 rf_70
            obtain ⟨hP1, hD1, hX1⟩ := hB
            rw [ht] at hP1 hX1
            obtain ⟨hP, hD⟩ := va_joinQ (wr := []) (w1 := ([((ax 13), .inr (2, [.ref (ax 11), .ref (ax 14), .int w_54, .int w_55, .int w_56, .int xRt, .int w_57, .int w_58, .int w_59])), ((ax 11), .inr (5, [.ref (ax 12), .int xTz])), ((ax 12), .inl (cA 0, 200, .inl gB)), ((ax 14), .inl (cA 4, 200, .inr (.inr (.inr (.inr w_60)))))] : va_W) ++ va_pl w_61 w_62) hP hD [1, 2, 3, 0] [] rfl rfl (by decide) (by decide) hk1 hFc hP1 hD1
            obtain ⟨fm_71, hma_fm_71, hmb_fm_71, hP, hD⟩ := pl_merge hP hD
            have sq_fm_71 := stq_tr stq_0 st_68 hma_fm_71 hmb_fm_71
            have hle_fm_71 := sq_fm_71.1
            have hlf_fm_71 := st_68.1
            refine W.tight (cells' := (w_54.toInt - xSz.toInt).toNat) (slots' := 4 * (w_54.toInt - xSz.toInt).toNat) (by omega) (by have hch := ssum_chain hS0 hz1 (fun q h1 h2 => hk1 q h2 (na_of (fun k e hk => by rcases mem4 hk with h | h | h | h <;> omega) h1 h2)); omega) ?_
            clear hz1
            generalize H1 = H at hP hS ⊢
            replace hP : va_P (dC, dI) vwCl (([((ax 13), .inr (2, [.ref (ax 11), .ref (ax 14), .int w_54, .int w_55, .int w_56, .int xRt, .int w_57, .int w_58, .int w_59])), ((ax 11), .inr (5, [.ref (ax 12), .int xTz])), ((ax 12), .inl (cA 0, 200, .inl gB)), ((ax 14), .inl (cA 4, 200, .inr (.inr (.inr (.inr w_60)))))] : va_W) ++ va_pl ([] ++ w_61) fm_71) H := hP
            replace hD : va_D A (([((ax 13), .inr (2, [.ref (ax 11), .ref (ax 14), .int w_54, .int w_55, .int w_56, .int xRt, .int w_57, .int w_58, .int w_59])), ((ax 11), .inr (5, [.ref (ax 12), .int xTz])), ((ax 12), .inl (cA 0, 200, .inl gB)), ((ax 14), .inl (cA 4, 200, .inr (.inr (.inr (.inr w_60)))))] : va_W) ++ va_pl ([] ++ w_61) fm_71) := hD
            have hP9 := hP.part (cx := [((ax 13), .inr (2, [.ref (ax 11), .ref (ax 14), .int w_54, .int w_55, .int w_56, .int xRt, .int w_57, .int w_58, .int w_59])), ((ax 11), .inr (5, [.ref (ax 12), .int xTz])), ((ax 12), .inl (cA 0, 200, .inl gB)), ((ax 14), .inl (cA 4, 200, .inr (.inr (.inr (.inr w_60)))))]) [0, 1, 2, 3] rfl
            have hD9 := hD.part (cx := [((ax 13), .inr (2, [.ref (ax 11), .ref (ax 14), .int w_54, .int w_55, .int w_56, .int xRt, .int w_57, .int w_58, .int w_59])), ((ax 11), .inr (5, [.ref (ax 12), .int xTz])), ((ax 12), .inl (cA 0, 200, .inl gB)), ((ax 14), .inl (cA 4, 200, .inr (.inr (.inr (.inr w_60)))))]) [0, 1, 2, 3] (by decide) rfl
            refine W.know (fun hkn1 hkn2 => ?_)
            have hBx : H.size ≤ s.heap.size + (w_54.toInt - xSz.toInt).toNat ∧ ssum s.heap.size H ≤ 4 * (w_54.toInt - xSz.toInt).toNat := ⟨by omega, by omega⟩
            subst hQe
            refine W.widen (k := (200 - xSz.toInt).toNat) (n := (4 * (200 - xSz.toInt).toNat)) (by omega) (by omega) ?_
            have hans : (r_51 : Int32).toInt = r_51.toInt := rfl
            have hpost : (0 ≤ w_54.toInt ∧ w_54.toInt ≤ 200) ∧ (0 ≤ w_55.toInt ∧ w_55.toInt ≤ 200) ∧ (0 ≤ w_56.toInt ∧ w_56.toInt ≤ 200) ∧ (w_55.toInt ≤ w_56.toInt ∧ w_56.toInt ≤ xTz.toInt ∧ (0 ≤ (r_51 : Int32).toInt ∧ (r_51 : Int32).toInt ≤ 1)) ∧ (tokOK gB w_55 w_56 xTz) ∧ (stq xSz.toInt w_54.toInt gSt w_60 ([] ++ w_61) fm_71) ∧ (rs w_57 w_55 w_56 w_59 w_58 = patom (tpe gB xTz) xTz.toInt xRt.toInt (pB (tpe gB xTz) xTz.toInt xRt.toInt (8 - dp.toInt).toNat) xPl.toInt xBe.toInt xLk.toInt xRd) ∧ ((¬ (r_51 : Int32).toInt = 0 → w_57.toInt = (-1)) ∧ ((r_51 : Int32).toInt = 0 → 0 ≤ w_57.toInt)) := ⟨iv_63, iv_64, iv_65, by omega, tk_67, sq_fm_71, (by rw [patom, if_neg (fun h => absurd (tp_5.mpr h) (fun q => q dc_6)), if_neg (fun h => absurd (tw_11.mpr h) (fun q => q dc_12)), if_neg (show ¬ pkind (tpe gB xTz) xPl.toInt xBe.toInt = (-1) by omega), if_pos (show pkind (tpe gB xTz) xPl.toInt xBe.toInt = 1 by omega), ← ad_27.2, ← ad_27.1, show xRt.toInt - 1 = x_49.toInt by omega]; exact (xrn_1 (by decide) rs_69)), by omega⟩
            exact W.zret (v := r_51) hx hb hr (jnarZ (by omega)) (fun t ht hW => ⟨⟨r_51, (w_54, w_55, w_56, w_57, w_58, w_59, w_60, ([] ++ w_61), fm_71), rfl, hpost, by rw [ht]; exact hP9, hD9, by rw [ht]; exact hBx⟩, hS.F ht⟩) hS.2.2 dX2_readAtom_91
          · refine lv_tableIn (off := 38) (tgt := 92) hx hb dX2_readAtom_54 (by omega) (by omega) (by rw [hsw]; rfl) (by decide) ?_
            refine lv_aload_n hx hb dX2_readAtom_92 rfl (lv_at hl 1 rfl) ?_
            refine lv_iload_n hx hb dX2_readAtom_93 rfl (lv_at hl 0 rfl) ?_
            refine lv_iconst (v := 5) hx hb dX2_readAtom_94 (by decide) ?_
            have hk_72 : (5 : Int32).toInt = 5 := by decide
            obtain ⟨hPc, hDc, hFc, hCc⟩ := va_pre (ws' := [((ax 13), .inr (2, [.ref (ax 11), .ref (ax 14), .int xSz, .int w_21, .int w_22, .int xRt, .int xRf, .int xRd, .int xLk])), ((ax 11), .inr (5, [.ref (ax 12), .int xTz])), ((ax 12), .inl (cA 0, 200, .inl gB)), ((ax 14), .inl (cA 4, 200, .inr (.inr (.inr (.inr gSt)))))]) hP hD hS hA [1, 2, 3, 0] (by decide) rfl
            refine W.know (fun hkn1 hkn2 => ?_)
            have hS0 := hS.1
            refine va_calli (va_runV (As := [.int r_13, .int 5]) (rest := []) ⟨hx, hb, hml, hown, hts⟩ (k_X2_readNumbered l dC dI cA H.size ax xSz w_21 w_22 xRt xRf xRd xLk xTz gB gSt r_13 5 adK adV i_xSz iv_23 iv_24 i_xRt i_xTz i_gB (by omega) tk_26 hgx (by omega) (by omega)) (cwV 2 hts gX2_readAtom_X2_readNumbered rfl rfl rfl (by decide +kernel) ⟨(show 3 + 1 ≤ FR + 7 from fl_b (F := FR) (a := 3 + 1) (c := 7) (by decide)), (show 8 + (4 + 11) + 68 ≤ LO + 153 from fl_b (F := LO) (a := 8 + (4 + 11) + 68) (c := 153) (by decide))⟩) ⟨fun a U g mk q => by obtain ⟨q0, q1, qP, qK, qD, qN⟩ := q; exact ⟨q0, q1, qP, va_K.moved (u := U) (U := U.calling g mk a) (Vm.Alike.refl U.vm) qK, qD, qN.same rfl rfl⟩, va_recv hK hPc (ci := 2) (q0 := 0) rfl rfl, fun U hU hW => ⟨rfl, by rw [hU], by rw [hU]; exact hPc, va_K.moved hW.alike hK, hDc.weaken (fun _ _ _ _ => trivial), hSt.call hS hU hW hFc⟩⟩ rfl rfl hl.1 rfl (lv_room (Nat.le_of_ble_eq_true rfl)) dX2_readAtom_95 ⟨(show 0 + ((200 - xSz.toInt).toNat) ≤ (200 - xSz.toInt).toNat by omega), (show 0 + (4 * (200 - xSz.toInt).toNat) ≤ (4 * (200 - xSz.toInt).toNat) by omega)⟩) hS (fun q _ h => hFc q h) hFc (fun r_73 u_74 t H1 locs ht hvm hw_75 hB hz1 hk1 hS => ?_)
            obtain ⟨w_76, w_77, w_78, w_79, w_80, w_81, w_82, w_83, w_84⟩ := u_74
            try dsimp only at hw_75 hB
            obtain ⟨iv_85, iv_86, iv_87, po_88, tk_89, st_90, rs_91, rf_92⟩ := hw_75
            try simp only [hk_72] at po_88 tk_89 st_90 rs_91 rf_92
            obtain ⟨hP1, hD1, hX1⟩ := hB
            rw [ht] at hP1 hX1
            obtain ⟨hP, hD⟩ := va_joinQ (wr := []) (w1 := ([((ax 13), .inr (2, [.ref (ax 11), .ref (ax 14), .int w_76, .int w_77, .int w_78, .int xRt, .int w_79, .int w_80, .int w_81])), ((ax 11), .inr (5, [.ref (ax 12), .int xTz])), ((ax 12), .inl (cA 0, 200, .inl gB)), ((ax 14), .inl (cA 4, 200, .inr (.inr (.inr (.inr w_82)))))] : va_W) ++ va_pl w_83 w_84) hP hD [1, 2, 3, 0] [] rfl rfl (by decide) (by decide) hk1 hFc hP1 hD1
            obtain ⟨fm_93, hma_fm_93, hmb_fm_93, hP, hD⟩ := pl_merge hP hD
            have sq_fm_93 := stq_tr stq_0 st_90 hma_fm_93 hmb_fm_93
            have hle_fm_93 := sq_fm_93.1
            have hlf_fm_93 := st_90.1
            refine W.tight (cells' := (w_76.toInt - xSz.toInt).toNat) (slots' := 4 * (w_76.toInt - xSz.toInt).toNat) (by omega) (by have hch := ssum_chain hS0 hz1 (fun q h1 h2 => hk1 q h2 (na_of (fun k e hk => by rcases mem4 hk with h | h | h | h <;> omega) h1 h2)); omega) ?_
            clear hz1
            generalize H1 = H at hP hS ⊢
            replace hP : va_P (dC, dI) vwCl (([((ax 13), .inr (2, [.ref (ax 11), .ref (ax 14), .int w_76, .int w_77, .int w_78, .int xRt, .int w_79, .int w_80, .int w_81])), ((ax 11), .inr (5, [.ref (ax 12), .int xTz])), ((ax 12), .inl (cA 0, 200, .inl gB)), ((ax 14), .inl (cA 4, 200, .inr (.inr (.inr (.inr w_82)))))] : va_W) ++ va_pl ([] ++ w_83) fm_93) H := hP
            replace hD : va_D A (([((ax 13), .inr (2, [.ref (ax 11), .ref (ax 14), .int w_76, .int w_77, .int w_78, .int xRt, .int w_79, .int w_80, .int w_81])), ((ax 11), .inr (5, [.ref (ax 12), .int xTz])), ((ax 12), .inl (cA 0, 200, .inl gB)), ((ax 14), .inl (cA 4, 200, .inr (.inr (.inr (.inr w_82)))))] : va_W) ++ va_pl ([] ++ w_83) fm_93) := hD
            have hP9 := hP.part (cx := [((ax 13), .inr (2, [.ref (ax 11), .ref (ax 14), .int w_76, .int w_77, .int w_78, .int xRt, .int w_79, .int w_80, .int w_81])), ((ax 11), .inr (5, [.ref (ax 12), .int xTz])), ((ax 12), .inl (cA 0, 200, .inl gB)), ((ax 14), .inl (cA 4, 200, .inr (.inr (.inr (.inr w_82)))))]) [0, 1, 2, 3] rfl
            have hD9 := hD.part (cx := [((ax 13), .inr (2, [.ref (ax 11), .ref (ax 14), .int w_76, .int w_77, .int w_78, .int xRt, .int w_79, .int w_80, .int w_81])), ((ax 11), .inr (5, [.ref (ax 12), .int xTz])), ((ax 12), .inl (cA 0, 200, .inl gB)), ((ax 14), .inl (cA 4, 200, .inr (.inr (.inr (.inr w_82)))))]) [0, 1, 2, 3] (by decide) rfl
            refine W.know (fun hkn1 hkn2 => ?_)
            have hBx : H.size ≤ s.heap.size + (w_76.toInt - xSz.toInt).toNat ∧ ssum s.heap.size H ≤ 4 * (w_76.toInt - xSz.toInt).toNat := ⟨by omega, by omega⟩
            subst hQe
            refine W.widen (k := (200 - xSz.toInt).toNat) (n := (4 * (200 - xSz.toInt).toNat)) (by omega) (by omega) ?_
            have hans : (r_73 : Int32).toInt = r_73.toInt := rfl
            have hpost : (0 ≤ w_76.toInt ∧ w_76.toInt ≤ 200) ∧ (0 ≤ w_77.toInt ∧ w_77.toInt ≤ 200) ∧ (0 ≤ w_78.toInt ∧ w_78.toInt ≤ 200) ∧ (w_77.toInt ≤ w_78.toInt ∧ w_78.toInt ≤ xTz.toInt ∧ (0 ≤ (r_73 : Int32).toInt ∧ (r_73 : Int32).toInt ≤ 1)) ∧ (tokOK gB w_77 w_78 xTz) ∧ (stq xSz.toInt w_76.toInt gSt w_82 ([] ++ w_83) fm_93) ∧ (rs w_79 w_77 w_78 w_81 w_80 = patom (tpe gB xTz) xTz.toInt xRt.toInt (pB (tpe gB xTz) xTz.toInt xRt.toInt (8 - dp.toInt).toNat) xPl.toInt xBe.toInt xLk.toInt xRd) ∧ ((¬ (r_73 : Int32).toInt = 0 → w_79.toInt = (-1)) ∧ ((r_73 : Int32).toInt = 0 → 0 ≤ w_79.toInt)) := ⟨iv_85, iv_86, iv_87, by omega, tk_89, sq_fm_93, (by rw [patom, if_neg (fun h => absurd (tp_5.mpr h) (fun q => q dc_6)), if_neg (fun h => absurd (tw_11.mpr h) (fun q => q dc_12)), if_neg (show ¬ pkind (tpe gB xTz) xPl.toInt xBe.toInt = (-1) by omega), if_neg (show ¬ pkind (tpe gB xTz) xPl.toInt xBe.toInt = 1 by omega), if_pos (show pkind (tpe gB xTz) xPl.toInt xBe.toInt = 2 ∨ pkind (tpe gB xTz) xPl.toInt xBe.toInt = 3 by omega), ← ad_27.2, ← ad_27.1]; exact (xrn_0 (by omega) rs_91)), by omega⟩
            exact W.zret (v := r_73) hx hb hr (jnarZ (by omega)) (fun t ht hW => ⟨⟨r_73, (w_76, w_77, w_78, w_79, w_80, w_81, w_82, ([] ++ w_83), fm_93), rfl, hpost, by rw [ht]; exact hP9, hD9, by rw [ht]; exact hBx⟩, hS.F ht⟩) hS.2.2 dX2_readAtom_98
          · refine lv_tableIn (off := 38) (tgt := 92) hx hb dX2_readAtom_54 (by omega) (by omega) (by rw [hsw]; rfl) (by decide) ?_
            refine lv_aload_n hx hb dX2_readAtom_92 rfl (lv_at hl 1 rfl) ?_
            refine lv_iload_n hx hb dX2_readAtom_93 rfl (lv_at hl 0 rfl) ?_
            refine lv_iconst (v := 5) hx hb dX2_readAtom_94 (by decide) ?_
            have hk_94 : (5 : Int32).toInt = 5 := by decide
            obtain ⟨hPc, hDc, hFc, hCc⟩ := va_pre (ws' := [((ax 13), .inr (2, [.ref (ax 11), .ref (ax 14), .int xSz, .int w_21, .int w_22, .int xRt, .int xRf, .int xRd, .int xLk])), ((ax 11), .inr (5, [.ref (ax 12), .int xTz])), ((ax 12), .inl (cA 0, 200, .inl gB)), ((ax 14), .inl (cA 4, 200, .inr (.inr (.inr (.inr gSt)))))]) hP hD hS hA [1, 2, 3, 0] (by decide) rfl
            refine W.know (fun hkn1 hkn2 => ?_)
            have hS0 := hS.1
            refine va_calli (va_runV (As := [.int r_13, .int 5]) (rest := []) ⟨hx, hb, hml, hown, hts⟩ (k_X2_readNumbered l dC dI cA H.size ax xSz w_21 w_22 xRt xRf xRd xLk xTz gB gSt r_13 5 adK adV i_xSz iv_23 iv_24 i_xRt i_xTz i_gB (by omega) tk_26 hgx (by omega) (by omega)) (cwV 2 hts gX2_readAtom_X2_readNumbered rfl rfl rfl (by decide +kernel) ⟨(show 3 + 1 ≤ FR + 7 from fl_b (F := FR) (a := 3 + 1) (c := 7) (by decide)), (show 8 + (4 + 11) + 68 ≤ LO + 153 from fl_b (F := LO) (a := 8 + (4 + 11) + 68) (c := 153) (by decide))⟩) ⟨fun a U g mk q => by obtain ⟨q0, q1, qP, qK, qD, qN⟩ := q; exact ⟨q0, q1, qP, va_K.moved (u := U) (U := U.calling g mk a) (Vm.Alike.refl U.vm) qK, qD, qN.same rfl rfl⟩, va_recv hK hPc (ci := 2) (q0 := 0) rfl rfl, fun U hU hW => ⟨rfl, by rw [hU], by rw [hU]; exact hPc, va_K.moved hW.alike hK, hDc.weaken (fun _ _ _ _ => trivial), hSt.call hS hU hW hFc⟩⟩ rfl rfl hl.1 rfl (lv_room (Nat.le_of_ble_eq_true rfl)) dX2_readAtom_95 ⟨(show 0 + ((200 - xSz.toInt).toNat) ≤ (200 - xSz.toInt).toNat by omega), (show 0 + (4 * (200 - xSz.toInt).toNat) ≤ (4 * (200 - xSz.toInt).toNat) by omega)⟩) hS (fun q _ h => hFc q h) hFc (fun r_95 u_96 t H1 locs ht hvm hw_97 hB hz1 hk1 hS => ?_)
            obtain ⟨w_98, w_99, w_100, w_101, w_102, w_103, w_104, w_105, w_106⟩ := u_96
            try dsimp only at hw_97 hB
            obtain ⟨iv_107, iv_108, iv_109, po_110, tk_111, st_112, rs_113, rf_114⟩ := hw_97
            try simp only [hk_94] at po_110 tk_111 st_112 rs_113 rf_114
            obtain ⟨hP1, hD1, hX1⟩ := hB
            rw [ht] at hP1 hX1
            obtain ⟨hP, hD⟩ := va_joinQ (wr := []) (w1 := ([((ax 13), .inr (2, [.ref (ax 11), .ref (ax 14), .int w_98, .int w_99, .int w_100, .int xRt, .int w_101, .int w_102, .int w_103])), ((ax 11), .inr (5, [.ref (ax 12), .int xTz])), ((ax 12), .inl (cA 0, 200, .inl gB)), ((ax 14), .inl (cA 4, 200, .inr (.inr (.inr (.inr w_104)))))] : va_W) ++ va_pl w_105 w_106) hP hD [1, 2, 3, 0] [] rfl rfl (by decide) (by decide) hk1 hFc hP1 hD1
            obtain ⟨fm_115, hma_fm_115, hmb_fm_115, hP, hD⟩ := pl_merge hP hD
            have sq_fm_115 := stq_tr stq_0 st_112 hma_fm_115 hmb_fm_115
            have hle_fm_115 := sq_fm_115.1
            have hlf_fm_115 := st_112.1
            refine W.tight (cells' := (w_98.toInt - xSz.toInt).toNat) (slots' := 4 * (w_98.toInt - xSz.toInt).toNat) (by omega) (by have hch := ssum_chain hS0 hz1 (fun q h1 h2 => hk1 q h2 (na_of (fun k e hk => by rcases mem4 hk with h | h | h | h <;> omega) h1 h2)); omega) ?_
            clear hz1
            generalize H1 = H at hP hS ⊢
            replace hP : va_P (dC, dI) vwCl (([((ax 13), .inr (2, [.ref (ax 11), .ref (ax 14), .int w_98, .int w_99, .int w_100, .int xRt, .int w_101, .int w_102, .int w_103])), ((ax 11), .inr (5, [.ref (ax 12), .int xTz])), ((ax 12), .inl (cA 0, 200, .inl gB)), ((ax 14), .inl (cA 4, 200, .inr (.inr (.inr (.inr w_104)))))] : va_W) ++ va_pl ([] ++ w_105) fm_115) H := hP
            replace hD : va_D A (([((ax 13), .inr (2, [.ref (ax 11), .ref (ax 14), .int w_98, .int w_99, .int w_100, .int xRt, .int w_101, .int w_102, .int w_103])), ((ax 11), .inr (5, [.ref (ax 12), .int xTz])), ((ax 12), .inl (cA 0, 200, .inl gB)), ((ax 14), .inl (cA 4, 200, .inr (.inr (.inr (.inr w_104)))))] : va_W) ++ va_pl ([] ++ w_105) fm_115) := hD
            have hP9 := hP.part (cx := [((ax 13), .inr (2, [.ref (ax 11), .ref (ax 14), .int w_98, .int w_99, .int w_100, .int xRt, .int w_101, .int w_102, .int w_103])), ((ax 11), .inr (5, [.ref (ax 12), .int xTz])), ((ax 12), .inl (cA 0, 200, .inl gB)), ((ax 14), .inl (cA 4, 200, .inr (.inr (.inr (.inr w_104)))))]) [0, 1, 2, 3] rfl
            have hD9 := hD.part (cx := [((ax 13), .inr (2, [.ref (ax 11), .ref (ax 14), .int w_98, .int w_99, .int w_100, .int xRt, .int w_101, .int w_102, .int w_103])), ((ax 11), .inr (5, [.ref (ax 12), .int xTz])), ((ax 12), .inl (cA 0, 200, .inl gB)), ((ax 14), .inl (cA 4, 200, .inr (.inr (.inr (.inr w_104)))))]) [0, 1, 2, 3] (by decide) rfl
            refine W.know (fun hkn1 hkn2 => ?_)
            have hBx : H.size ≤ s.heap.size + (w_98.toInt - xSz.toInt).toNat ∧ ssum s.heap.size H ≤ 4 * (w_98.toInt - xSz.toInt).toNat := ⟨by omega, by omega⟩
            subst hQe
            refine W.widen (k := (200 - xSz.toInt).toNat) (n := (4 * (200 - xSz.toInt).toNat)) (by omega) (by omega) ?_
            have hans : (r_95 : Int32).toInt = r_95.toInt := rfl
            have hpost : (0 ≤ w_98.toInt ∧ w_98.toInt ≤ 200) ∧ (0 ≤ w_99.toInt ∧ w_99.toInt ≤ 200) ∧ (0 ≤ w_100.toInt ∧ w_100.toInt ≤ 200) ∧ (w_99.toInt ≤ w_100.toInt ∧ w_100.toInt ≤ xTz.toInt ∧ (0 ≤ (r_95 : Int32).toInt ∧ (r_95 : Int32).toInt ≤ 1)) ∧ (tokOK gB w_99 w_100 xTz) ∧ (stq xSz.toInt w_98.toInt gSt w_104 ([] ++ w_105) fm_115) ∧ (rs w_101 w_99 w_100 w_103 w_102 = patom (tpe gB xTz) xTz.toInt xRt.toInt (pB (tpe gB xTz) xTz.toInt xRt.toInt (8 - dp.toInt).toNat) xPl.toInt xBe.toInt xLk.toInt xRd) ∧ ((¬ (r_95 : Int32).toInt = 0 → w_101.toInt = (-1)) ∧ ((r_95 : Int32).toInt = 0 → 0 ≤ w_101.toInt)) := ⟨iv_107, iv_108, iv_109, by omega, tk_111, sq_fm_115, (by rw [patom, if_neg (fun h => absurd (tp_5.mpr h) (fun q => q dc_6)), if_neg (fun h => absurd (tw_11.mpr h) (fun q => q dc_12)), if_neg (show ¬ pkind (tpe gB xTz) xPl.toInt xBe.toInt = (-1) by omega), if_neg (show ¬ pkind (tpe gB xTz) xPl.toInt xBe.toInt = 1 by omega), if_pos (show pkind (tpe gB xTz) xPl.toInt xBe.toInt = 2 ∨ pkind (tpe gB xTz) xPl.toInt xBe.toInt = 3 by omega), ← ad_27.2, ← ad_27.1]; exact (xrn_0 (by omega) rs_113)), by omega⟩
            exact W.zret (v := r_95) hx hb hr (jnarZ (by omega)) (fun t ht hW => ⟨⟨r_95, (w_98, w_99, w_100, w_101, w_102, w_103, w_104, ([] ++ w_105), fm_115), rfl, hpost, by rw [ht]; exact hP9, hD9, by rw [ht]; exact hBx⟩, hS.F ht⟩) hS.2.2 dX2_readAtom_98
      · have dc_18 : r_13.toInt = (-1) := jI_eq c_18 rfl (by decide)
        refine lv_aload_n hx hb dX2_readAtom_44 rfl (lv_at hl 1 rfl) ?_
        obtain ⟨hPc, hDc, hFc, hCc⟩ := va_pre (ws' := [((ax 13), .inr (2, [.ref (ax 11), .ref (ax 14), .int xSz, .int xPl, .int xBe, .int xRt, .int xRf, .int xRd, .int xLk]))]) hP hD hS hA [1] (by decide) rfl
        refine va_calli (va_runV (As := []) (rest := []) ⟨hx, hb, hml, hown, hts⟩ (k_X2_stop l dC dI cA H.size ax xSz xPl xBe xRt xRf xRd xLk i_xSz i_xPl i_xBe i_xRt) (cwV 0 hts gX2_readAtom_X2_stop rfl rfl rfl (by decide +kernel) ⟨(show 0 + 1 ≤ FR + 7 from fl_b (F := FR) (a := 0 + 1) (c := 7) (by decide)), (show 8 + (1 + 11) + 0 ≤ LO + 153 from fl_b (F := LO) (a := 8 + (1 + 11) + 0) (c := 153) (by decide))⟩) ⟨fun a U g mk q => by obtain ⟨q0, q1, qP, qK, qD, qN⟩ := q; exact ⟨q0, q1, qP, va_K.moved (u := U) (U := U.calling g mk a) (Vm.Alike.refl U.vm) qK, qD, qN.same rfl⟩, va_recv hK hPc (ci := 2) (q0 := 0) rfl rfl, fun U hU hW => ⟨rfl, by rw [hU], by rw [hU]; exact hPc, va_K.moved hW.alike hK, hDc.weaken (fun _ _ _ _ => trivial), hN.warm hW⟩⟩ rfl rfl hl.1 rfl (lv_room (Nat.le_of_ble_eq_true rfl)) dX2_readAtom_45 ⟨(show 0 + 0 ≤ (200 - xSz.toInt).toNat by omega), (show 0 + 0 ≤ (4 * (200 - xSz.toInt).toNat) by omega)⟩) hS (fun q _ h => hFc q h) hFc (fun r_116 u_117 t H1 locs ht hvm hw_118 hB hz1 hk1 hS => ?_)
        obtain ⟨w_119, rfl⟩ : ∃ z, z = u_117 := ⟨_, rfl⟩
        try dsimp only at hw_118 hB
        obtain ⟨hr9, sf_120⟩ := hw_118
        obtain ⟨hP1, hD1⟩ := hB
        rw [ht] at hP1
        obtain ⟨hP, hD⟩ := va_joinQ (wr := [((ax 14), .inl (cA 4, 200, .inr (.inr (.inr (.inr gSt))))), ((ax 11), .inr (5, [.ref (ax 12), .int xTz])), ((ax 12), .inl (cA 0, 200, .inl gB))]) (w1 := [((ax 13), .inr (2, [.ref (ax 11), .ref (ax 14), .int xSz, .int xPl, .int xBe, .int xRt, .int w_119, .int xRd, .int xLk]))]) hP hD [1] [0, 2, 3] rfl rfl (by decide) (by decide) hk1 hFc hP1 hD1
        clear hz1
        generalize H1 = H at hP hS ⊢
        replace hP : va_P (dC, dI) vwCl (([((ax 14), .inl (cA 4, 200, .inr (.inr (.inr (.inr gSt))))), ((ax 11), .inr (5, [.ref (ax 12), .int xTz])), ((ax 12), .inl (cA 0, 200, .inl gB)), ((ax 13), .inr (2, [.ref (ax 11), .ref (ax 14), .int xSz, .int xPl, .int xBe, .int xRt, .int w_119, .int xRd, .int xLk]))] : va_W) ++ va_pl ([]) pfz) H := hP
        replace hD : va_D A (([((ax 14), .inl (cA 4, 200, .inr (.inr (.inr (.inr gSt))))), ((ax 11), .inr (5, [.ref (ax 12), .int xTz])), ((ax 12), .inl (cA 0, 200, .inl gB)), ((ax 13), .inr (2, [.ref (ax 11), .ref (ax 14), .int xSz, .int xPl, .int xBe, .int xRt, .int w_119, .int xRd, .int xLk]))] : va_W) ++ va_pl ([]) pfz) := hD
        obtain rfl : 0 = r_116 := hr9.symm
        have hP9 := hP.part (cx := [((ax 13), .inr (2, [.ref (ax 11), .ref (ax 14), .int xSz, .int xPl, .int xBe, .int xRt, .int w_119, .int xRd, .int xLk])), ((ax 11), .inr (5, [.ref (ax 12), .int xTz])), ((ax 12), .inl (cA 0, 200, .inl gB)), ((ax 14), .inl (cA 4, 200, .inr (.inr (.inr (.inr gSt)))))]) [3, 1, 2, 0] rfl
        have hD9 := hD.part (cx := [((ax 13), .inr (2, [.ref (ax 11), .ref (ax 14), .int xSz, .int xPl, .int xBe, .int xRt, .int w_119, .int xRd, .int xLk])), ((ax 11), .inr (5, [.ref (ax 12), .int xTz])), ((ax 12), .inl (cA 0, 200, .inl gB)), ((ax 14), .inl (cA 4, 200, .inr (.inr (.inr (.inr gSt)))))]) [3, 1, 2, 0] (by decide) rfl
        refine W.know (fun hkn1 hkn2 => ?_)
        have hBx : H.size ≤ s.heap.size + (xSz.toInt - xSz.toInt).toNat ∧ ssum s.heap.size H ≤ 4 * (xSz.toInt - xSz.toInt).toNat := ⟨by omega, by omega⟩
        subst hQe
        refine W.widen (k := (200 - xSz.toInt).toNat) (n := (4 * (200 - xSz.toInt).toNat)) (by omega) (by omega) ?_
        have hans : (0 : Int32).toInt = 0 := (by decide)
        have hpost : (0 ≤ xSz.toInt ∧ xSz.toInt ≤ 200) ∧ (0 ≤ xPl.toInt ∧ xPl.toInt ≤ 200) ∧ (0 ≤ xBe.toInt ∧ xBe.toInt ≤ 200) ∧ (xPl.toInt ≤ xBe.toInt ∧ xBe.toInt ≤ xTz.toInt ∧ (0 ≤ (0 : Int32).toInt ∧ (0 : Int32).toInt ≤ 1)) ∧ (tokOK gB xPl xBe xTz) ∧ (stq xSz.toInt xSz.toInt gSt gSt ([]) pfz) ∧ (rs w_119 xPl xBe xLk xRd = patom (tpe gB xTz) xTz.toInt xRt.toInt (pB (tpe gB xTz) xTz.toInt xRt.toInt (8 - dp.toInt).toNat) xPl.toInt xBe.toInt xLk.toInt xRd) ∧ ((¬ (0 : Int32).toInt = 0 → w_119.toInt = (-1)) ∧ ((0 : Int32).toInt = 0 → 0 ≤ w_119.toInt)) := ⟨i_xSz, i_xPl, i_xBe, by omega, htk, stq_0, (by rw [patom, if_neg (fun h => absurd (tp_5.mpr h) (fun q => q dc_6)), if_neg (fun h => absurd (tw_11.mpr h) (fun q => q dc_12)), if_pos (show pkind (tpe gB xTz) xPl.toInt xBe.toInt = (-1) by omega)]; exact rs_inl (by omega) (by omega)), by omega⟩
        exact W.zret (v := 0) hx hb hr (by decide) (fun t ht hW => ⟨⟨0, (xSz, xPl, xBe, w_119, xRd, xLk, gSt, [], pfz), rfl, hpost, by rw [ht]; exact hP9, hD9, by rw [ht]; exact hBx⟩, hS.F ht⟩) hS.2.2 dX2_readAtom_48
    · have dc_12 : ¬ r_7.toInt = 0 := jI_ne c_12 rfl (by decide)
      refine lv_aload_n hx hb dX2_readAtom_28 rfl (lv_at hl 0 rfl) ?_
      refine lv_iload_n hx hb dX2_readAtom_29 rfl (lv_at hl 1 rfl) ?_
      obtain ⟨hPc, hDc, hFc, hCc⟩ := va_pre (ws' := [((ax 13), .inr (2, [.ref (ax 11), .ref (ax 14), .int xSz, .int xPl, .int xBe, .int xRt, .int xRf, .int xRd, .int xLk])), ((ax 11), .inr (5, [.ref (ax 12), .int xTz])), ((ax 12), .inl (cA 0, 200, .inl gB)), ((ax 14), .inl (cA 4, 200, .inr (.inr (.inr (.inr gSt)))))]) hP hD hS hA [1, 2, 3, 0] (by decide) rfl
      refine W.know (fun hkn1 hkn2 => ?_)
      have hS0 := hS.1
      refine va_calli (va_runV (As := [.int dp]) (rest := []) ⟨hx, hb, hml, hown, hts⟩ (k_X2_readBracket l dC dI cA H.size ax xSz xPl xBe xRt xRf xRd xLk xTz gB gSt dp adK adV rl FR LO i_xSz i_xPl i_xBe i_xRt i_xTz i_gB hbe htk hgx hdp hop ih) (cwV 1 hts gX2_readAtom_X2_readBracket rfl rfl rfl (by decide +kernel) ⟨(show (FR + 6) + 1 ≤ FR + 7 from fl_a (F := FR) (a := 6) (b := 1) (c := 7) (by decide)), (show 8 + (2 + 11) + (LO + 129) ≤ LO + 153 from fl_c (F := LO) (a := 8 + (2 + 11)) (b := 129) (c := 153) (by decide))⟩) ⟨fun a U g mk q => by obtain ⟨q0, q1, qP, qK, qD, qN⟩ := q; exact ⟨q0, q1, qP, va_K.moved (u := U) (U := U.calling g mk a) (Vm.Alike.refl U.vm) qK, qD, qN.same rfl rfl⟩, va_recv hK hPc (ci := 2) (q0 := 0) rfl rfl, fun U hU hW => ⟨rfl, by rw [hU], by rw [hU]; exact hPc, va_K.moved hW.alike hK, hDc.weaken (fun _ _ _ _ => trivial), hSt.call hS hU hW hFc⟩⟩ rfl rfl hl.1 rfl (lv_room (Nat.le_of_ble_eq_true rfl)) dX2_readAtom_30 ⟨(show 0 + ((200 - xSz.toInt).toNat) ≤ (200 - xSz.toInt).toNat by omega), (show 0 + (4 * (200 - xSz.toInt).toNat) ≤ (4 * (200 - xSz.toInt).toNat) by omega)⟩) hS (fun q _ h => hFc q h) hFc (fun r_121 u_122 t H1 locs ht hvm hw_123 hB hz1 hk1 hS => ?_)
      obtain ⟨w_124, w_125, w_126, w_127, w_128, w_129, w_130, w_131, w_132⟩ := u_122
      try dsimp only at hw_123 hB
      obtain ⟨iv_133, iv_134, iv_135, po_136, tk_137, st_138, rs_139, rf_140⟩ := hw_123
      obtain ⟨hP1, hD1, hX1⟩ := hB
      rw [ht] at hP1 hX1
      obtain ⟨hP, hD⟩ := va_joinQ (wr := []) (w1 := ([((ax 13), .inr (2, [.ref (ax 11), .ref (ax 14), .int w_124, .int w_125, .int w_126, .int xRt, .int w_127, .int w_128, .int w_129])), ((ax 11), .inr (5, [.ref (ax 12), .int xTz])), ((ax 12), .inl (cA 0, 200, .inl gB)), ((ax 14), .inl (cA 4, 200, .inr (.inr (.inr (.inr w_130)))))] : va_W) ++ va_pl w_131 w_132) hP hD [1, 2, 3, 0] [] rfl rfl (by decide) (by decide) hk1 hFc hP1 hD1
      obtain ⟨fm_141, hma_fm_141, hmb_fm_141, hP, hD⟩ := pl_merge hP hD
      have sq_fm_141 := stq_tr stq_0 st_138 hma_fm_141 hmb_fm_141
      have hle_fm_141 := sq_fm_141.1
      have hlf_fm_141 := st_138.1
      refine W.tight (cells' := (w_124.toInt - xSz.toInt).toNat) (slots' := 4 * (w_124.toInt - xSz.toInt).toNat) (by omega) (by have hch := ssum_chain hS0 hz1 (fun q h1 h2 => hk1 q h2 (na_of (fun k e hk => by rcases mem4 hk with h | h | h | h <;> omega) h1 h2)); omega) ?_
      clear hz1
      generalize H1 = H at hP hS ⊢
      replace hP : va_P (dC, dI) vwCl (([((ax 13), .inr (2, [.ref (ax 11), .ref (ax 14), .int w_124, .int w_125, .int w_126, .int xRt, .int w_127, .int w_128, .int w_129])), ((ax 11), .inr (5, [.ref (ax 12), .int xTz])), ((ax 12), .inl (cA 0, 200, .inl gB)), ((ax 14), .inl (cA 4, 200, .inr (.inr (.inr (.inr w_130)))))] : va_W) ++ va_pl ([] ++ w_131) fm_141) H := hP
      replace hD : va_D A (([((ax 13), .inr (2, [.ref (ax 11), .ref (ax 14), .int w_124, .int w_125, .int w_126, .int xRt, .int w_127, .int w_128, .int w_129])), ((ax 11), .inr (5, [.ref (ax 12), .int xTz])), ((ax 12), .inl (cA 0, 200, .inl gB)), ((ax 14), .inl (cA 4, 200, .inr (.inr (.inr (.inr w_130)))))] : va_W) ++ va_pl ([] ++ w_131) fm_141) := hD
      have hP9 := hP.part (cx := [((ax 13), .inr (2, [.ref (ax 11), .ref (ax 14), .int w_124, .int w_125, .int w_126, .int xRt, .int w_127, .int w_128, .int w_129])), ((ax 11), .inr (5, [.ref (ax 12), .int xTz])), ((ax 12), .inl (cA 0, 200, .inl gB)), ((ax 14), .inl (cA 4, 200, .inr (.inr (.inr (.inr w_130)))))]) [0, 1, 2, 3] rfl
      have hD9 := hD.part (cx := [((ax 13), .inr (2, [.ref (ax 11), .ref (ax 14), .int w_124, .int w_125, .int w_126, .int xRt, .int w_127, .int w_128, .int w_129])), ((ax 11), .inr (5, [.ref (ax 12), .int xTz])), ((ax 12), .inl (cA 0, 200, .inl gB)), ((ax 14), .inl (cA 4, 200, .inr (.inr (.inr (.inr w_130)))))]) [0, 1, 2, 3] (by decide) rfl
      refine W.know (fun hkn1 hkn2 => ?_)
      have hBx : H.size ≤ s.heap.size + (w_124.toInt - xSz.toInt).toNat ∧ ssum s.heap.size H ≤ 4 * (w_124.toInt - xSz.toInt).toNat := ⟨by omega, by omega⟩
      subst hQe
      refine W.widen (k := (200 - xSz.toInt).toNat) (n := (4 * (200 - xSz.toInt).toNat)) (by omega) (by omega) ?_
      have hans : (r_121 : Int32).toInt = r_121.toInt := rfl
      have hpost : (0 ≤ w_124.toInt ∧ w_124.toInt ≤ 200) ∧ (0 ≤ w_125.toInt ∧ w_125.toInt ≤ 200) ∧ (0 ≤ w_126.toInt ∧ w_126.toInt ≤ 200) ∧ (w_125.toInt ≤ w_126.toInt ∧ w_126.toInt ≤ xTz.toInt ∧ (0 ≤ (r_121 : Int32).toInt ∧ (r_121 : Int32).toInt ≤ 1)) ∧ (tokOK gB w_125 w_126 xTz) ∧ (stq xSz.toInt w_124.toInt gSt w_130 ([] ++ w_131) fm_141) ∧ (rs w_127 w_125 w_126 w_129 w_128 = patom (tpe gB xTz) xTz.toInt xRt.toInt (pB (tpe gB xTz) xTz.toInt xRt.toInt (8 - dp.toInt).toNat) xPl.toInt xBe.toInt xLk.toInt xRd) ∧ ((¬ (r_121 : Int32).toInt = 0 → w_127.toInt = (-1)) ∧ ((r_121 : Int32).toInt = 0 → 0 ≤ w_127.toInt)) := ⟨iv_133, iv_134, iv_135, by omega, tk_137, sq_fm_141, (by rw [patom, if_neg (fun h => absurd (tp_5.mpr h) (fun q => q dc_6)), if_pos (tw_11.mp dc_12)]; exact rs_139), by omega⟩
      exact W.zret (v := r_121) hx hb hr (jnarZ (by omega)) (fun t ht hW => ⟨⟨r_121, (w_124, w_125, w_126, w_127, w_128, w_129, w_130, ([] ++ w_131), fm_141), rfl, hpost, by rw [ht]; exact hP9, hD9, by rw [ht]; exact hBx⟩, hS.F ht⟩) hS.2.2 dX2_readAtom_33
  · have dc_6 : ¬ r_1.toInt = 0 := jI_ne c_6 rfl (by decide)
    replace po_4 := dg_y po_4 dc_6
    refine lv_aload_n hx hb dX2_readAtom_11 rfl (lv_at hl 0 rfl) ?_
    refine lv_iconst (v := 0) hx hb dX2_readAtom_12 (by decide) ?_
    refine lv_ldc hx hb hown (hts (.constant RX2 85 (1000000)) (by decide +kernel)) dX2_readAtom_13 ?_
    have hk_142 : (0 : Int32).toInt = 0 := by decide
    have hk_143 : (1000000 : Int32).toInt = 1000000 := by decide
    obtain ⟨hPc, hDc, hFc, hCc⟩ := va_pre (ws' := [((ax 13), .inr (2, [.ref (ax 11), .ref (ax 14), .int xSz, .int xPl, .int xBe, .int xRt, .int xRf, .int xRd, .int xLk])), ((ax 11), .inr (5, [.ref (ax 12), .int xTz])), ((ax 12), .inl (cA 0, 200, .inl gB)), ((ax 14), .inl (cA 4, 200, .inr (.inr (.inr (.inr gSt)))))]) hP hD hS hA [1, 2, 3, 0] (by decide) rfl
    refine W.know (fun hkn1 hkn2 => ?_)
    have hS0 := hS.1
    refine va_calli (va_runV (As := [.int 0, .int 1000000]) (rest := []) ⟨hx, hb, hml, hown, hts⟩ (k_X2_readNumbered l dC dI cA H.size ax xSz xPl xBe xRt xRf xRd xLk xTz gB gSt 0 1000000 adK adV i_xSz i_xPl i_xBe i_xRt i_xTz i_gB hbe htk hgx (by omega) (by omega)) (cwV 2 hts gX2_readAtom_X2_readNumbered rfl rfl rfl (by decide +kernel) ⟨(show 3 + 1 ≤ FR + 7 from fl_b (F := FR) (a := 3 + 1) (c := 7) (by decide)), (show 8 + (4 + 11) + 68 ≤ LO + 153 from fl_b (F := LO) (a := 8 + (4 + 11) + 68) (c := 153) (by decide))⟩) ⟨fun a U g mk q => by obtain ⟨q0, q1, qP, qK, qD, qN⟩ := q; exact ⟨q0, q1, qP, va_K.moved (u := U) (U := U.calling g mk a) (Vm.Alike.refl U.vm) qK, qD, qN.same rfl rfl⟩, va_recv hK hPc (ci := 2) (q0 := 0) rfl rfl, fun U hU hW => ⟨rfl, by rw [hU], by rw [hU]; exact hPc, va_K.moved hW.alike hK, hDc.weaken (fun _ _ _ _ => trivial), hSt.call hS hU hW hFc⟩⟩ rfl rfl hl.1 rfl (lv_room (Nat.le_of_ble_eq_true rfl)) dX2_readAtom_15 ⟨(show 0 + ((200 - xSz.toInt).toNat) ≤ (200 - xSz.toInt).toNat by omega), (show 0 + (4 * (200 - xSz.toInt).toNat) ≤ (4 * (200 - xSz.toInt).toNat) by omega)⟩) hS (fun q _ h => hFc q h) hFc (fun r_144 u_145 t H1 locs ht hvm hw_146 hB hz1 hk1 hS => ?_)
    obtain ⟨w_147, w_148, w_149, w_150, w_151, w_152, w_153, w_154, w_155⟩ := u_145
    try dsimp only at hw_146 hB
    obtain ⟨iv_156, iv_157, iv_158, po_159, tk_160, st_161, rs_162, rf_163⟩ := hw_146
    try simp only [hk_142, hk_143] at po_159 tk_160 st_161 rs_162 rf_163
    obtain ⟨hP1, hD1, hX1⟩ := hB
    rw [ht] at hP1 hX1
    obtain ⟨hP, hD⟩ := va_joinQ (wr := []) (w1 := ([((ax 13), .inr (2, [.ref (ax 11), .ref (ax 14), .int w_147, .int w_148, .int w_149, .int xRt, .int w_150, .int w_151, .int w_152])), ((ax 11), .inr (5, [.ref (ax 12), .int xTz])), ((ax 12), .inl (cA 0, 200, .inl gB)), ((ax 14), .inl (cA 4, 200, .inr (.inr (.inr (.inr w_153)))))] : va_W) ++ va_pl w_154 w_155) hP hD [1, 2, 3, 0] [] rfl rfl (by decide) (by decide) hk1 hFc hP1 hD1
    obtain ⟨fm_164, hma_fm_164, hmb_fm_164, hP, hD⟩ := pl_merge hP hD
    have sq_fm_164 := stq_tr stq_0 st_161 hma_fm_164 hmb_fm_164
    have hle_fm_164 := sq_fm_164.1
    have hlf_fm_164 := st_161.1
    refine W.tight (cells' := (w_147.toInt - xSz.toInt).toNat) (slots' := 4 * (w_147.toInt - xSz.toInt).toNat) (by omega) (by have hch := ssum_chain hS0 hz1 (fun q h1 h2 => hk1 q h2 (na_of (fun k e hk => by rcases mem4 hk with h | h | h | h <;> omega) h1 h2)); omega) ?_
    clear hz1
    generalize H1 = H at hP hS ⊢
    replace hP : va_P (dC, dI) vwCl (([((ax 13), .inr (2, [.ref (ax 11), .ref (ax 14), .int w_147, .int w_148, .int w_149, .int xRt, .int w_150, .int w_151, .int w_152])), ((ax 11), .inr (5, [.ref (ax 12), .int xTz])), ((ax 12), .inl (cA 0, 200, .inl gB)), ((ax 14), .inl (cA 4, 200, .inr (.inr (.inr (.inr w_153)))))] : va_W) ++ va_pl ([] ++ w_154) fm_164) H := hP
    replace hD : va_D A (([((ax 13), .inr (2, [.ref (ax 11), .ref (ax 14), .int w_147, .int w_148, .int w_149, .int xRt, .int w_150, .int w_151, .int w_152])), ((ax 11), .inr (5, [.ref (ax 12), .int xTz])), ((ax 12), .inl (cA 0, 200, .inl gB)), ((ax 14), .inl (cA 4, 200, .inr (.inr (.inr (.inr w_153)))))] : va_W) ++ va_pl ([] ++ w_154) fm_164) := hD
    have hP9 := hP.part (cx := [((ax 13), .inr (2, [.ref (ax 11), .ref (ax 14), .int w_147, .int w_148, .int w_149, .int xRt, .int w_150, .int w_151, .int w_152])), ((ax 11), .inr (5, [.ref (ax 12), .int xTz])), ((ax 12), .inl (cA 0, 200, .inl gB)), ((ax 14), .inl (cA 4, 200, .inr (.inr (.inr (.inr w_153)))))]) [0, 1, 2, 3] rfl
    have hD9 := hD.part (cx := [((ax 13), .inr (2, [.ref (ax 11), .ref (ax 14), .int w_147, .int w_148, .int w_149, .int xRt, .int w_150, .int w_151, .int w_152])), ((ax 11), .inr (5, [.ref (ax 12), .int xTz])), ((ax 12), .inl (cA 0, 200, .inl gB)), ((ax 14), .inl (cA 4, 200, .inr (.inr (.inr (.inr w_153)))))]) [0, 1, 2, 3] (by decide) rfl
    refine W.know (fun hkn1 hkn2 => ?_)
    have hBx : H.size ≤ s.heap.size + (w_147.toInt - xSz.toInt).toNat ∧ ssum s.heap.size H ≤ 4 * (w_147.toInt - xSz.toInt).toNat := ⟨by omega, by omega⟩
    subst hQe
    refine W.widen (k := (200 - xSz.toInt).toNat) (n := (4 * (200 - xSz.toInt).toNat)) (by omega) (by omega) ?_
    have hans : (r_144 : Int32).toInt = r_144.toInt := rfl
    have hpost : (0 ≤ w_147.toInt ∧ w_147.toInt ≤ 200) ∧ (0 ≤ w_148.toInt ∧ w_148.toInt ≤ 200) ∧ (0 ≤ w_149.toInt ∧ w_149.toInt ≤ 200) ∧ (w_148.toInt ≤ w_149.toInt ∧ w_149.toInt ≤ xTz.toInt ∧ (0 ≤ (r_144 : Int32).toInt ∧ (r_144 : Int32).toInt ≤ 1)) ∧ (tokOK gB w_148 w_149 xTz) ∧ (stq xSz.toInt w_147.toInt gSt w_153 ([] ++ w_154) fm_164) ∧ (rs w_150 w_148 w_149 w_152 w_151 = patom (tpe gB xTz) xTz.toInt xRt.toInt (pB (tpe gB xTz) xTz.toInt xRt.toInt (8 - dp.toInt).toNat) xPl.toInt xBe.toInt xLk.toInt xRd) ∧ ((¬ (r_144 : Int32).toInt = 0 → w_150.toInt = (-1)) ∧ ((r_144 : Int32).toInt = 0 → 0 ≤ w_150.toInt)) := ⟨iv_156, iv_157, iv_158, by omega, tk_160, sq_fm_164, (by rw [patom, if_pos (tp_5.mp dc_6)]; exact (xrn_0 (by decide) rs_162)), by omega⟩
    exact W.zret (v := r_144) hx hb hr (jnarZ (by omega)) (fun t ht hW => ⟨⟨r_144, (w_147, w_148, w_149, w_150, w_151, w_152, w_153, ([] ++ w_154), fm_164), rfl, hpost, by rw [ht]; exact hP9, hD9, by rw [ht]; exact hBx⟩, hS.F ht⟩) hS.2.2 dX2_readAtom_18

set_option maxHeartbeats 8000000 in
set_option maxRecDepth 100000 in
theorem k_X2_readPart (l : Launch) (dC : Nat → ClassId) (dI : Nat → Nat → Nat) (cA : Nat → ClassId) (sz : Nat) (ax : Nat → Nat) (xSz : Int32) (xPl : Int32) (xBe : Int32) (xRt : Int32) (xRf : Int32) (xRd : Int32) (xLk : Int32) (xTz : Int32) (gB : Nat → Int32) (gSt : Nat → Option Nat) (dp : Int32) (adK : Nat → Nat) (adV : Nat → Nat) (rl : Nat) (FR : Nat) (LO : Nat) (i_xSz : 0 ≤ xSz.toInt ∧ xSz.toInt ≤ 200) (i_xPl : 0 ≤ xPl.toInt ∧ xPl.toInt ≤ 200) (i_xBe : 0 ≤ xBe.toInt ∧ xBe.toInt ≤ 200) (i_xRt : 0 ≤ xRt.toInt ∧ xRt.toInt ≤ 20) (i_xTz : 0 ≤ xTz.toInt ∧ xTz.toInt ≤ 200) (i_gB : inB 0 255 200 gB) (hbe : xPl.toInt ≤ xBe.toInt ∧ xBe.toInt ≤ xTz.toInt) (htk : tokOK gB xPl xBe xTz) (hgx : xRf.toInt = (-1)) (hdp : 0 ≤ dp.toInt ∧ dp.toInt ≤ 8) (hop : 8 - dp.toInt ≤ (rl : Int)) (ih : 0 < rl → XSumC l dC dI cA (rl - 1) FR LO) : Met l yX2_readPart wsX2_readPart ({ frames := FR + 8, cells := (200 - xSz.toInt).toNat, slots := (4 * (200 - xSz.toInt).toNat), locals := LO + 175 }) (va_Pc [.ref (ax 13), .int dp] (fun U => U.heap.size = sz ∧ va_P (dC, dI) vwCl [((ax 13), .inr (2, [.ref (ax 11), .ref (ax 14), .int xSz, .int xPl, .int xBe, .int xRt, .int xRf, .int xRd, .int xLk])), ((ax 11), .inr (5, [.ref (ax 12), .int xTz])), ((ax 12), .inl (cA 0, 200, .inl gB)), ((ax 14), .inl (cA 4, 200, .inr (.inr (.inr (.inr gSt)))))] U.heap ∧ va_K (dC, dI) vwCl (tyL cA) U ∧ va_D (fun _ => True) [((ax 13), .inr (2, [.ref (ax 11), .ref (ax 14), .int xSz, .int xPl, .int xBe, .int xRt, .int xRf, .int xRd, .int xLk])), ((ax 11), .inr (5, [.ref (ax 12), .int xTz])), ((ax 12), .inl (cA 0, 200, .inl gB)), ((ax 14), .inl (cA 4, 200, .inr (.inr (.inr (.inr gSt)))))] ∧ st_ok adK adV (va_A [((ax 13), .inr (2, [.ref (ax 11), .ref (ax 14), .int xSz, .int xPl, .int xBe, .int xRt, .int xRf, .int xRd, .int xLk])), ((ax 11), .inr (5, [.ref (ax 12), .int xTz])), ((ax 12), .inl (cA 0, 200, .inl gB)), ((ax 14), .inl (cA 4, 200, .inr (.inr (.inr (.inr gSt)))))] sz) U)) (va_Qi (fun (r : Int32) (u : Int32 × Int32 × Int32 × Int32 × Int32 × Int32 × (Nat → Option Nat) × (List Nat) × (Nat → va_E)) => (0 ≤ u.1.toInt ∧ u.1.toInt ≤ 200) ∧ (0 ≤ u.2.1.toInt ∧ u.2.1.toInt ≤ 200) ∧ (0 ≤ u.2.2.1.toInt ∧ u.2.2.1.toInt ≤ 200) ∧ (u.2.1.toInt ≤ u.2.2.1.toInt ∧ u.2.2.1.toInt ≤ xTz.toInt ∧ (0 ≤ r.toInt ∧ r.toInt ≤ 1)) ∧ (tokOK gB u.2.1 u.2.2.1 xTz) ∧ (stq xSz.toInt u.1.toInt gSt u.2.2.2.2.2.2.1 u.2.2.2.2.2.2.2.1 u.2.2.2.2.2.2.2.2) ∧ (rs u.2.2.2.1 u.2.1 u.2.2.1 u.2.2.2.2.2.1 u.2.2.2.2.1 = ppart (tpe gB xTz) xTz.toInt xRt.toInt (pB (tpe gB xTz) xTz.toInt xRt.toInt (8 - dp.toInt).toNat) xPl.toInt xBe.toInt xLk.toInt xRd) ∧ ((¬ r.toInt = 0 → u.2.2.2.1.toInt = (-1)) ∧ (r.toInt = 0 → 0 ≤ u.2.2.2.1.toInt))) (fun (u : Int32 × Int32 × Int32 × Int32 × Int32 × Int32 × (Nat → Option Nat) × (List Nat) × (Nat → va_E)) (t : State) => va_P (dC, dI) vwCl (([((ax 13), .inr (2, [.ref (ax 11), .ref (ax 14), .int u.1, .int u.2.1, .int u.2.2.1, .int xRt, .int u.2.2.2.1, .int u.2.2.2.2.1, .int u.2.2.2.2.2.1])), ((ax 11), .inr (5, [.ref (ax 12), .int xTz])), ((ax 12), .inl (cA 0, 200, .inl gB)), ((ax 14), .inl (cA 4, 200, .inr (.inr (.inr (.inr u.2.2.2.2.2.2.1)))))] : va_W) ++ va_pl u.2.2.2.2.2.2.2.1 u.2.2.2.2.2.2.2.2) t.heap ∧ va_D (va_A [((ax 13), .inr (2, [.ref (ax 11), .ref (ax 14), .int xSz, .int xPl, .int xBe, .int xRt, .int xRf, .int xRd, .int xLk])), ((ax 11), .inr (5, [.ref (ax 12), .int xTz])), ((ax 12), .inl (cA 0, 200, .inl gB)), ((ax 14), .inl (cA 4, 200, .inr (.inr (.inr (.inr gSt)))))] sz) (([((ax 13), .inr (2, [.ref (ax 11), .ref (ax 14), .int u.1, .int u.2.1, .int u.2.2.1, .int xRt, .int u.2.2.2.1, .int u.2.2.2.2.1, .int u.2.2.2.2.2.1])), ((ax 11), .inr (5, [.ref (ax 12), .int xTz])), ((ax 12), .inl (cA 0, 200, .inl gB)), ((ax 14), .inl (cA 4, 200, .inr (.inr (.inr (.inr u.2.2.2.2.2.2.1)))))] : va_W) ++ va_pl u.2.2.2.2.2.2.2.1 u.2.2.2.2.2.2.2.2) ∧ (t.heap.size ≤ sz + (u.1.toInt - xSz.toInt).toNat ∧ ssum sz t.heap ≤ 4 * (u.1.toInt - xSz.toInt).toNat)) (va_A [((ax 13), .inr (2, [.ref (ax 11), .ref (ax 14), .int xSz, .int xPl, .int xBe, .int xRt, .int xRf, .int xRd, .int xLk])), ((ax 11), .inr (5, [.ref (ax 12), .int xTz])), ((ax 12), .inl (cA 0, 200, .inl gB)), ((ax 14), .inl (cA 4, 200, .inr (.inr (.inr (.inr gSt)))))] sz)) ((200 - xSz.toInt).toNat) (4 * (200 - xSz.toInt).toNat) (va_A [((ax 13), .inr (2, [.ref (ax 11), .ref (ax 14), .int xSz, .int xPl, .int xBe, .int xRt, .int xRf, .int xRd, .int xLk])), ((ax 11), .inr (5, [.ref (ax 12), .int xTz])), ((ax 12), .inl (cA 0, 200, .inl gB)), ((ax 14), .inl (cA 4, 200, .inr (.inr (.inr (.inr gSt)))))] sz) := by
  refine Met.ofW (cc := cX2_readPart) (maxL := 2) (ret := (some .boolean)) (by decide) rfl ?_
  intro p e s m args below meth c s₁ B hml hv
  obtain ⟨rfl, hsz, hP, hK, hD0, hN⟩ := hv
  have hx := B.exec
  have hb := B.bytes
  have hr := B.returns
  have hts := atoms_spec (ws := wsX2_readPart) B.pre
  have hown : s.vm.findClass RX2 = some m.cls := findClass_of_methodNamed B.named
  have hlocks := B.notSynchronized
  subst hsz
  have hD := hD0.self (sz := s.heap.size)
  generalize hAe : va_A [((ax 13), .inr (2, [.ref (ax 11), .ref (ax 14), .int xSz, .int xPl, .int xBe, .int xRt, .int xRf, .int xRd, .int xLk])), ((ax 11), .inr (5, [.ref (ax 12), .int xTz])), ((ax 12), .inl (cA 0, 200, .inl gB)), ((ax 14), .inl (cA 4, 200, .inr (.inr (.inr (.inr gSt)))))] s.heap.size = A at hD hN ⊢
  have hSt := hN
  have hN := hSt.1
  have hA : ∀ q : Nat, s.heap.size ≤ q → A q := fun q h => by rw [← hAe]; exact Or.inr h
  have hS : va_S A s.heap s.heap [] := va_S.rf
  have hlt0 : (ax 13) < s.heap.size := (hP 0 _ rfl).lt
  have hlt1 : (ax 11) < s.heap.size := (hP 1 _ rfl).lt
  have hlt2 : (ax 12) < s.heap.size := (hP 2 _ rfl).lt
  have hlt3 : (ax 14) < s.heap.size := (hP 3 _ rfl).lt
  obtain ⟨pfz, hpfz⟩ : ∃ f : Nat → va_E, f = fun _ => .inr (0, []) := ⟨_, rfl⟩
  replace hP : va_P (dC, dI) vwCl (([((ax 13), .inr (2, [.ref (ax 11), .ref (ax 14), .int xSz, .int xPl, .int xBe, .int xRt, .int xRf, .int xRd, .int xLk])), ((ax 11), .inr (5, [.ref (ax 12), .int xTz])), ((ax 12), .inl (cA 0, 200, .inl gB)), ((ax 14), .inl (cA 4, 200, .inr (.inr (.inr (.inr gSt)))))] : va_W) ++ va_pl ([]) pfz) s.heap := hP
  replace hD : va_D A (([((ax 13), .inr (2, [.ref (ax 11), .ref (ax 14), .int xSz, .int xPl, .int xBe, .int xRt, .int xRf, .int xRd, .int xLk])), ((ax 11), .inr (5, [.ref (ax 12), .int xTz])), ((ax 12), .inl (cA 0, 200, .inl gB)), ((ax 14), .inl (cA 4, 200, .inr (.inr (.inr (.inr gSt)))))] : va_W) ++ va_pl ([]) pfz) := hD
  have hl := lv_entry ([.ref (ax 13), .int dp]) (n := 2) (Nat.le_of_ble_eq_true rfl)
  rw [lg_entry_eq]
  generalize (lg_sl ([.ref (ax 13), .int dp]) ++ List.replicate (2 - (lg_sl ([.ref (ax 13), .int dp])).length) Slot.unset).toArray = ls at hl ⊢
  have hl : lv_has ls 2 [(0, .ref (ax 13)), (1, .int dp)] := hl
  generalize hQe : MQ below _ _ _ _ _ _ = QQ
  refine lv_aload_n hx hb dX2_readPart_0 rfl (lv_at hl 0 rfl) ?_
  refine lv_iload_n hx hb dX2_readPart_1 rfl (lv_at hl 1 rfl) ?_
  obtain ⟨hPc, hDc, hFc, hCc⟩ := va_pre (ws' := [((ax 13), .inr (2, [.ref (ax 11), .ref (ax 14), .int xSz, .int xPl, .int xBe, .int xRt, .int xRf, .int xRd, .int xLk])), ((ax 11), .inr (5, [.ref (ax 12), .int xTz])), ((ax 12), .inl (cA 0, 200, .inl gB)), ((ax 14), .inl (cA 4, 200, .inr (.inr (.inr (.inr gSt)))))]) hP hD hS hA [0, 1, 2, 3] (by decide) rfl
  refine W.know (fun hkn1 hkn2 => ?_)
  have hS0 := hS.1
  refine va_calli (va_runV (As := [.int dp]) (rest := []) ⟨hx, hb, hml, hown, hts⟩ (k_X2_readAtom l dC dI cA s.heap.size ax xSz xPl xBe xRt xRf xRd xLk xTz gB gSt dp adK adV rl FR LO i_xSz i_xPl i_xBe i_xRt i_xTz i_gB hbe htk hgx hdp hop ih) (cwV 1 hts gX2_readPart_X2_readAtom rfl rfl rfl (by decide +kernel) ⟨(show (FR + 7) + 1 ≤ FR + 8 from fl_a (F := FR) (a := 7) (b := 1) (c := 8) (by decide)), (show 8 + (3 + 11) + (LO + 153) ≤ LO + 175 from fl_c (F := LO) (a := 8 + (3 + 11)) (b := 153) (c := 175) (by decide))⟩) ⟨fun a U g mk q => by obtain ⟨q0, q1, qP, qK, qD, qN⟩ := q; exact ⟨q0, q1, qP, va_K.moved (u := U) (U := U.calling g mk a) (Vm.Alike.refl U.vm) qK, qD, qN.same rfl rfl⟩, va_recv hK hPc (ci := 2) (q0 := 0) rfl rfl, fun U hU hW => ⟨rfl, by rw [hU], by rw [hU]; exact hPc, va_K.moved hW.alike hK, hDc.weaken (fun _ _ _ _ => trivial), hSt.call hS hU hW hFc⟩⟩ rfl rfl hl.1 rfl (lv_room (Nat.le_of_ble_eq_true rfl)) dX2_readPart_2 ⟨(show 0 + ((200 - xSz.toInt).toNat) ≤ (200 - xSz.toInt).toNat by omega), (show 0 + (4 * (200 - xSz.toInt).toNat) ≤ (4 * (200 - xSz.toInt).toNat) by omega)⟩) hS (fun q _ h => hFc q h) hFc (fun r_1 u_2 t H1 locs ht hvm hw_3 hB hz1 hk1 hS => ?_)
  obtain ⟨w_4, w_5, w_6, w_7, w_8, w_9, w_10, w_11, w_12⟩ := u_2
  try dsimp only at hw_3 hB
  obtain ⟨iv_13, iv_14, iv_15, po_16, tk_17, st_18, rs_19, rf_20⟩ := hw_3
  obtain ⟨hP1, hD1, hX1⟩ := hB
  rw [ht] at hP1 hX1
  obtain ⟨hP, hD⟩ := va_joinQ (wr := []) (w1 := ([((ax 13), .inr (2, [.ref (ax 11), .ref (ax 14), .int w_4, .int w_5, .int w_6, .int xRt, .int w_7, .int w_8, .int w_9])), ((ax 11), .inr (5, [.ref (ax 12), .int xTz])), ((ax 12), .inl (cA 0, 200, .inl gB)), ((ax 14), .inl (cA 4, 200, .inr (.inr (.inr (.inr w_10)))))] : va_W) ++ va_pl w_11 w_12) hP hD [0, 1, 2, 3] [] rfl rfl (by decide) (by decide) hk1 hFc hP1 hD1
  obtain ⟨fm_21, hma_fm_21, hmb_fm_21, hP, hD⟩ := pl_merge hP hD
  have sq_fm_21 := stq_tr stq_0 st_18 hma_fm_21 hmb_fm_21
  have hle_fm_21 := sq_fm_21.1
  have hlf_fm_21 := st_18.1
  refine W.tight (cells' := (w_4.toInt - xSz.toInt).toNat) (slots' := 4 * (w_4.toInt - xSz.toInt).toNat) (by omega) (by have hch := ssum_chain hS0 hz1 (fun q h1 h2 => hk1 q h2 (na_of (fun k e hk => by rcases mem4 hk with h | h | h | h <;> omega) h1 h2)); omega) ?_
  clear hz1
  generalize H1 = H at hP hS ⊢
  replace hP : va_P (dC, dI) vwCl (([((ax 13), .inr (2, [.ref (ax 11), .ref (ax 14), .int w_4, .int w_5, .int w_6, .int xRt, .int w_7, .int w_8, .int w_9])), ((ax 11), .inr (5, [.ref (ax 12), .int xTz])), ((ax 12), .inl (cA 0, 200, .inl gB)), ((ax 14), .inl (cA 4, 200, .inr (.inr (.inr (.inr w_10)))))] : va_W) ++ va_pl ([] ++ w_11) fm_21) H := hP
  replace hD : va_D A (([((ax 13), .inr (2, [.ref (ax 11), .ref (ax 14), .int w_4, .int w_5, .int w_6, .int xRt, .int w_7, .int w_8, .int w_9])), ((ax 11), .inr (5, [.ref (ax 12), .int xTz])), ((ax 12), .inl (cA 0, 200, .inl gB)), ((ax 14), .inl (cA 4, 200, .inr (.inr (.inr (.inr w_10)))))] : va_W) ++ va_pl ([] ++ w_11) fm_21) := hD
  refine lv_if_ne (tgt := 10) hx hb dX2_readPart_5 (by decide) (fun c_22 => ?_) (fun c_22 => ?_)
  · have dc_22 : ¬ r_1.toInt = 0 := jI_ne c_22 rfl (by decide)
    replace rf_20 := rf_y rf_20 dc_22
    refine lv_aload_n hx hb dX2_readPart_10 rfl (lv_at hl 0 rfl) ?_
    refine va_ldcS hx hb hown (show vk_R RX2 83 "else" (adK 4) s from hSt.2.1 4 (by decide)) dX2_readPart_11 ?_
    obtain ⟨hPc, hDc, hFc, hCc⟩ := va_pre (ws' := [((ax 13), .inr (2, [.ref (ax 11), .ref (ax 14), .int w_4, .int w_5, .int w_6, .int xRt, .int w_7, .int w_8, .int w_9])), ((ax 11), .inr (5, [.ref (ax 12), .int xTz])), ((ax 12), .inl (cA 0, 200, .inl gB))]) hP hD hS hA [0, 1, 2] (by decide) rfl
    refine va_calli (va_runV (As := [.ref (adK 4)]) (rest := []) ⟨hx, hb, hml, hown, hts⟩ (k_X2_isAt l dC dI cA H.size ax w_4 w_5 w_6 xRt w_7 w_8 w_9 xTz gB adK adV 4 iv_13 iv_14 iv_15 i_xRt i_xTz i_gB (by omega) (by omega)) (cwV 1 hts gX2_readPart_X2_isAt rfl rfl rfl (by decide +kernel) ⟨(show 4 + 1 ≤ FR + 8 from fl_b (F := FR) (a := 4 + 1) (c := 8) (by decide)), (show 8 + (4 + 11) + 85 ≤ LO + 175 from fl_b (F := LO) (a := 8 + (4 + 11) + 85) (c := 175) (by decide))⟩) ⟨fun a U g mk q => by obtain ⟨q0, q1, qP, qK, qD, qN⟩ := q; exact ⟨q0, q1, qP, va_K.moved (u := U) (U := U.calling g mk a) (Vm.Alike.refl U.vm) qK, qD, qN.same rfl rfl⟩, va_recv hK hPc (ci := 2) (q0 := 0) rfl rfl, fun U hU hW => ⟨rfl, by rw [hU], by rw [hU]; exact hPc, va_K.moved hW.alike hK, hDc.weaken (fun _ _ _ _ => trivial), hSt.call hS hU hW hFc⟩⟩ rfl rfl hl.1 rfl (lv_room (Nat.le_of_ble_eq_true rfl)) dX2_readPart_13 ⟨(show (w_4.toInt - xSz.toInt).toNat + 0 ≤ (200 - xSz.toInt).toNat by omega), (show (4 * (w_4.toInt - xSz.toInt).toNat) + 0 ≤ (4 * (200 - xSz.toInt).toNat) by omega)⟩) hS (fun q _ h => hFc q h) hFc (fun r_23 u_24 t H1 locs ht hvm hw_25 hB hz1 hk1 hS => ?_)
    try dsimp only at hw_25 hB
    obtain ⟨po_26, tw_27⟩ := hw_25
    obtain ⟨hP1, hD1⟩ := hB
    rw [ht] at hP1
    obtain ⟨hP, hD⟩ := va_joinQ (wr := [((ax 14), .inl (cA 4, 200, .inr (.inr (.inr (.inr w_10)))))]) (w1 := [((ax 13), .inr (2, [.ref (ax 11), .ref (ax 14), .int w_4, .int w_5, .int w_6, .int xRt, .int w_7, .int w_8, .int w_9])), ((ax 11), .inr (5, [.ref (ax 12), .int xTz])), ((ax 12), .inl (cA 0, 200, .inl gB))]) hP hD [0, 1, 2] [3] rfl rfl (by decide) (by decide) hk1 hFc hP1 hD1
    clear hz1
    rw [scs_4] at tw_27
    generalize H1 = H at hP hS ⊢
    replace hP : va_P (dC, dI) vwCl (([((ax 14), .inl (cA 4, 200, .inr (.inr (.inr (.inr w_10))))), ((ax 13), .inr (2, [.ref (ax 11), .ref (ax 14), .int w_4, .int w_5, .int w_6, .int xRt, .int w_7, .int w_8, .int w_9])), ((ax 11), .inr (5, [.ref (ax 12), .int xTz])), ((ax 12), .inl (cA 0, 200, .inl gB))] : va_W) ++ va_pl ([] ++ w_11) fm_21) H := hP
    replace hD : va_D A (([((ax 14), .inl (cA 4, 200, .inr (.inr (.inr (.inr w_10))))), ((ax 13), .inr (2, [.ref (ax 11), .ref (ax 14), .int w_4, .int w_5, .int w_6, .int xRt, .int w_7, .int w_8, .int w_9])), ((ax 11), .inr (5, [.ref (ax 12), .int xTz])), ((ax 12), .inl (cA 0, 200, .inl gB))] : va_W) ++ va_pl ([] ++ w_11) fm_21) := hD
    refine lv_if_ne (tgt := 21) hx hb dX2_readPart_16 (by decide) (fun c_28 => ?_) (fun c_28 => ?_)
    · have dc_28 : ¬ r_23.toInt = 0 := jI_ne c_28 rfl (by decide)
      refine lv_aload_n hx hb dX2_readPart_21 rfl (lv_at hl 0 rfl) ?_
      obtain ⟨hPc, hDc, hFc, hCc⟩ := va_pre (ws' := [((ax 13), .inr (2, [.ref (ax 11), .ref (ax 14), .int w_4, .int w_5, .int w_6, .int xRt, .int w_7, .int w_8, .int w_9])), ((ax 11), .inr (5, [.ref (ax 12), .int xTz])), ((ax 12), .inl (cA 0, 200, .inl gB))]) hP hD hS hA [1, 2, 3] (by decide) rfl
      refine va_callv (va_runV (As := []) (rest := []) ⟨hx, hb, hml, hown, hts⟩ (k_X2_advance l dC dI cA H.size ax w_4 w_5 w_6 xRt w_7 w_8 w_9 xTz gB iv_13 iv_14 iv_15 i_xRt i_xTz i_gB (by omega)) (cwV 0 hts gX2_readPart_X2_advance rfl rfl rfl (by decide +kernel) ⟨(show 1 + 1 ≤ FR + 8 from fl_b (F := FR) (a := 1 + 1) (c := 8) (by decide)), (show 8 + (3 + 11) + 23 ≤ LO + 175 from fl_b (F := LO) (a := 8 + (3 + 11) + 23) (c := 175) (by decide))⟩) ⟨fun a U g mk q => by obtain ⟨q0, q1, qP, qK, qD, qN⟩ := q; exact ⟨q0, q1, qP, va_K.moved (u := U) (U := U.calling g mk a) (Vm.Alike.refl U.vm) qK, qD, qN.same rfl⟩, va_recv hK hPc (ci := 2) (q0 := 0) rfl rfl, fun U hU hW => ⟨rfl, by rw [hU], by rw [hU]; exact hPc, va_K.moved hW.alike hK, hDc.weaken (fun _ _ _ _ => trivial), hN.warm hW⟩⟩ rfl rfl hl.1 rfl (lv_room (Nat.le_of_ble_eq_true rfl)) dX2_readPart_22 ⟨(show (w_4.toInt - xSz.toInt).toNat + 0 ≤ (200 - xSz.toInt).toNat by omega), (show (4 * (w_4.toInt - xSz.toInt).toNat) + 0 ≤ (4 * (200 - xSz.toInt).toNat) by omega)⟩) hS (fun q _ h => hFc q h) hFc (fun u_29 t H1 locs ht hvm hw_30 hB hz1 hk1 hS => ?_)
      obtain ⟨w_31, w_32⟩ := u_29
      try dsimp only at hw_30 hB
      obtain ⟨iv_33, iv_34, po_35, tk_36, ad_37⟩ := hw_30
      obtain ⟨hP1, hD1⟩ := hB
      rw [ht] at hP1
      obtain ⟨hP, hD⟩ := va_joinQ (wr := [((ax 14), .inl (cA 4, 200, .inr (.inr (.inr (.inr w_10)))))]) (w1 := [((ax 13), .inr (2, [.ref (ax 11), .ref (ax 14), .int w_4, .int w_31, .int w_32, .int xRt, .int w_7, .int w_8, .int w_9])), ((ax 11), .inr (5, [.ref (ax 12), .int xTz])), ((ax 12), .inl (cA 0, 200, .inl gB))]) hP hD [1, 2, 3] [0] rfl rfl (by decide) (by decide) hk1 hFc hP1 hD1
      clear hz1
      generalize H1 = H at hP hS ⊢
      replace hP : va_P (dC, dI) vwCl (([((ax 14), .inl (cA 4, 200, .inr (.inr (.inr (.inr w_10))))), ((ax 13), .inr (2, [.ref (ax 11), .ref (ax 14), .int w_4, .int w_31, .int w_32, .int xRt, .int w_7, .int w_8, .int w_9])), ((ax 11), .inr (5, [.ref (ax 12), .int xTz])), ((ax 12), .inl (cA 0, 200, .inl gB))] : va_W) ++ va_pl ([] ++ w_11) fm_21) H := hP
      replace hD : va_D A (([((ax 14), .inl (cA 4, 200, .inr (.inr (.inr (.inr w_10))))), ((ax 13), .inr (2, [.ref (ax 11), .ref (ax 14), .int w_4, .int w_31, .int w_32, .int xRt, .int w_7, .int w_8, .int w_9])), ((ax 11), .inr (5, [.ref (ax 12), .int xTz])), ((ax 12), .inl (cA 0, 200, .inl gB))] : va_W) ++ va_pl ([] ++ w_11) fm_21) := hD
      refine lv_aload_n hx hb dX2_readPart_25 rfl (lv_at hl 0 rfl) ?_
      refine lv_bipush (v := 8) hx hb dX2_readPart_26 (by decide) ?_
      refine lv_ldc hx hb hown (hts (.constant RX2 85 (1000000)) (by decide +kernel)) dX2_readPart_28 ?_
      have hk_38 : (8 : Int32).toInt = 8 := by decide
      have hk_39 : (1000000 : Int32).toInt = 1000000 := by decide
      obtain ⟨hPc, hDc, hFc, hCc⟩ := va_pre (ws' := [((ax 13), .inr (2, [.ref (ax 11), .ref (ax 14), .int w_4, .int w_31, .int w_32, .int xRt, .int w_7, .int w_8, .int w_9])), ((ax 11), .inr (5, [.ref (ax 12), .int xTz])), ((ax 12), .inl (cA 0, 200, .inl gB)), ((ax 14), .inl (cA 4, 200, .inr (.inr (.inr (.inr w_10)))))]) hP hD hS hA [1, 2, 3, 0] (by decide) rfl
      refine W.know (fun hkn1 hkn2 => ?_)
      have hS0 := hS.1
      refine va_calli (va_runV (As := [.int 8, .int 1000000]) (rest := []) ⟨hx, hb, hml, hown, hts⟩ (k_X2_readNumbered l dC dI cA H.size ax w_4 w_31 w_32 xRt w_7 w_8 w_9 xTz gB w_10 8 1000000 adK adV iv_13 iv_33 iv_34 i_xRt i_xTz i_gB (by omega) tk_36 (by omega) (by omega) (by omega)) (cwV 2 hts gX2_readPart_X2_readNumbered rfl rfl rfl (by decide +kernel) ⟨(show 3 + 1 ≤ FR + 8 from fl_b (F := FR) (a := 3 + 1) (c := 8) (by decide)), (show 8 + (4 + 11) + 68 ≤ LO + 175 from fl_b (F := LO) (a := 8 + (4 + 11) + 68) (c := 175) (by decide))⟩) ⟨fun a U g mk q => by obtain ⟨q0, q1, qP, qK, qD, qN⟩ := q; exact ⟨q0, q1, qP, va_K.moved (u := U) (U := U.calling g mk a) (Vm.Alike.refl U.vm) qK, qD, qN.same rfl rfl⟩, va_recv hK hPc (ci := 2) (q0 := 0) rfl rfl, fun U hU hW => ⟨rfl, by rw [hU], by rw [hU]; exact hPc, va_K.moved hW.alike hK, hDc.weaken (fun _ _ _ _ => trivial), hSt.call hS hU hW hFc⟩⟩ rfl rfl hl.1 rfl (lv_room (Nat.le_of_ble_eq_true rfl)) dX2_readPart_30 ⟨(show (w_4.toInt - xSz.toInt).toNat + ((200 - w_4.toInt).toNat) ≤ (200 - xSz.toInt).toNat by omega), (show (4 * (w_4.toInt - xSz.toInt).toNat) + (4 * (200 - w_4.toInt).toNat) ≤ (4 * (200 - xSz.toInt).toNat) by omega)⟩) hS (fun q _ h => hFc q h) hFc (fun r_40 u_41 t H1 locs ht hvm hw_42 hB hz1 hk1 hS => ?_)
      obtain ⟨w_43, w_44, w_45, w_46, w_47, w_48, w_49, w_50, w_51⟩ := u_41
      try dsimp only at hw_42 hB
      obtain ⟨iv_52, iv_53, iv_54, po_55, tk_56, st_57, rs_58, rf_59⟩ := hw_42
      try simp only [hk_38, hk_39] at po_55 tk_56 st_57 rs_58 rf_59
      obtain ⟨hP1, hD1, hX1⟩ := hB
      rw [ht] at hP1 hX1
      obtain ⟨hP, hD⟩ := va_joinQ (wr := []) (w1 := ([((ax 13), .inr (2, [.ref (ax 11), .ref (ax 14), .int w_43, .int w_44, .int w_45, .int xRt, .int w_46, .int w_47, .int w_48])), ((ax 11), .inr (5, [.ref (ax 12), .int xTz])), ((ax 12), .inl (cA 0, 200, .inl gB)), ((ax 14), .inl (cA 4, 200, .inr (.inr (.inr (.inr w_49)))))] : va_W) ++ va_pl w_50 w_51) hP hD [1, 2, 3, 0] [] rfl rfl (by decide) (by decide) hk1 hFc hP1 hD1
      obtain ⟨fm_60, hma_fm_60, hmb_fm_60, hP, hD⟩ := pl_merge hP hD
      have sq_fm_60 := stq_tr sq_fm_21 st_57 hma_fm_60 hmb_fm_60
      have hle_fm_60 := sq_fm_60.1
      have hlf_fm_60 := st_57.1
      refine W.tight (cells' := (w_43.toInt - xSz.toInt).toNat) (slots' := 4 * (w_43.toInt - xSz.toInt).toNat) (by omega) (by have hch := ssum_chain hS0 hz1 (fun q h1 h2 => hk1 q h2 (na_of (fun k e hk => by rcases mem4 hk with h | h | h | h <;> omega) h1 h2)); omega) ?_
      clear hz1
      generalize H1 = H at hP hS ⊢
      replace hP : va_P (dC, dI) vwCl (([((ax 13), .inr (2, [.ref (ax 11), .ref (ax 14), .int w_43, .int w_44, .int w_45, .int xRt, .int w_46, .int w_47, .int w_48])), ((ax 11), .inr (5, [.ref (ax 12), .int xTz])), ((ax 12), .inl (cA 0, 200, .inl gB)), ((ax 14), .inl (cA 4, 200, .inr (.inr (.inr (.inr w_49)))))] : va_W) ++ va_pl (([] ++ w_11) ++ w_50) fm_60) H := hP
      replace hD : va_D A (([((ax 13), .inr (2, [.ref (ax 11), .ref (ax 14), .int w_43, .int w_44, .int w_45, .int xRt, .int w_46, .int w_47, .int w_48])), ((ax 11), .inr (5, [.ref (ax 12), .int xTz])), ((ax 12), .inl (cA 0, 200, .inl gB)), ((ax 14), .inl (cA 4, 200, .inr (.inr (.inr (.inr w_49)))))] : va_W) ++ va_pl (([] ++ w_11) ++ w_50) fm_60) := hD
      have hP9 := hP.part (cx := [((ax 13), .inr (2, [.ref (ax 11), .ref (ax 14), .int w_43, .int w_44, .int w_45, .int xRt, .int w_46, .int w_47, .int w_48])), ((ax 11), .inr (5, [.ref (ax 12), .int xTz])), ((ax 12), .inl (cA 0, 200, .inl gB)), ((ax 14), .inl (cA 4, 200, .inr (.inr (.inr (.inr w_49)))))]) [0, 1, 2, 3] rfl
      have hD9 := hD.part (cx := [((ax 13), .inr (2, [.ref (ax 11), .ref (ax 14), .int w_43, .int w_44, .int w_45, .int xRt, .int w_46, .int w_47, .int w_48])), ((ax 11), .inr (5, [.ref (ax 12), .int xTz])), ((ax 12), .inl (cA 0, 200, .inl gB)), ((ax 14), .inl (cA 4, 200, .inr (.inr (.inr (.inr w_49)))))]) [0, 1, 2, 3] (by decide) rfl
      refine W.know (fun hkn1 hkn2 => ?_)
      have hBx : H.size ≤ s.heap.size + (w_43.toInt - xSz.toInt).toNat ∧ ssum s.heap.size H ≤ 4 * (w_43.toInt - xSz.toInt).toNat := ⟨by omega, by omega⟩
      subst hQe
      refine W.widen (k := (200 - xSz.toInt).toNat) (n := (4 * (200 - xSz.toInt).toNat)) (by omega) (by omega) ?_
      have hans : (r_40 : Int32).toInt = r_40.toInt := rfl
      have hpost : (0 ≤ w_43.toInt ∧ w_43.toInt ≤ 200) ∧ (0 ≤ w_44.toInt ∧ w_44.toInt ≤ 200) ∧ (0 ≤ w_45.toInt ∧ w_45.toInt ≤ 200) ∧ (w_44.toInt ≤ w_45.toInt ∧ w_45.toInt ≤ xTz.toInt ∧ (0 ≤ (r_40 : Int32).toInt ∧ (r_40 : Int32).toInt ≤ 1)) ∧ (tokOK gB w_44 w_45 xTz) ∧ (stq xSz.toInt w_43.toInt gSt w_49 (([] ++ w_11) ++ w_50) fm_60) ∧ (rs w_46 w_44 w_45 w_48 w_47 = ppart (tpe gB xTz) xTz.toInt xRt.toInt (pB (tpe gB xTz) xTz.toInt xRt.toInt (8 - dp.toInt).toNat) xPl.toInt xBe.toInt xLk.toInt xRd) ∧ ((¬ (r_40 : Int32).toInt = 0 → w_46.toInt = (-1)) ∧ ((r_40 : Int32).toInt = 0 → 0 ≤ w_46.toInt)) := ⟨iv_52, iv_53, iv_54, by omega, tk_56, sq_fm_60, (by rw [ppart, bnd_ok rs_19 (by omega), if_pos (tw_27.mp dc_28), ← ad_37.2, ← ad_37.1]; exact (xrn_0 (by decide) rs_58)), by omega⟩
      exact W.zret (v := r_40) hx hb hr (jnarZ (by omega)) (fun t ht hW => ⟨⟨r_40, (w_43, w_44, w_45, w_46, w_47, w_48, w_49, (([] ++ w_11) ++ w_50), fm_60), rfl, hpost, by rw [ht]; exact hP9, hD9, by rw [ht]; exact hBx⟩, hS.F ht⟩) hS.2.2 dX2_readPart_33
    · have dc_28 : r_23.toInt = 0 := jI_eq c_28 rfl (by decide)
      refine lv_iconst (v := 1) hx hb dX2_readPart_19 (by decide) ?_
      have hP9 := hP.part (cx := [((ax 13), .inr (2, [.ref (ax 11), .ref (ax 14), .int w_4, .int w_5, .int w_6, .int xRt, .int w_7, .int w_8, .int w_9])), ((ax 11), .inr (5, [.ref (ax 12), .int xTz])), ((ax 12), .inl (cA 0, 200, .inl gB)), ((ax 14), .inl (cA 4, 200, .inr (.inr (.inr (.inr w_10)))))]) [1, 2, 3, 0] rfl
      have hD9 := hD.part (cx := [((ax 13), .inr (2, [.ref (ax 11), .ref (ax 14), .int w_4, .int w_5, .int w_6, .int xRt, .int w_7, .int w_8, .int w_9])), ((ax 11), .inr (5, [.ref (ax 12), .int xTz])), ((ax 12), .inl (cA 0, 200, .inl gB)), ((ax 14), .inl (cA 4, 200, .inr (.inr (.inr (.inr w_10)))))]) [1, 2, 3, 0] (by decide) rfl
      refine W.know (fun hkn1 hkn2 => ?_)
      have hBx : H.size ≤ s.heap.size + (w_4.toInt - xSz.toInt).toNat ∧ ssum s.heap.size H ≤ 4 * (w_4.toInt - xSz.toInt).toNat := ⟨by omega, by omega⟩
      subst hQe
      refine W.widen (k := (200 - xSz.toInt).toNat) (n := (4 * (200 - xSz.toInt).toNat)) (by omega) (by omega) ?_
      have hans : (1 : Int32).toInt = 1 := (by decide)
      have hpost : (0 ≤ w_4.toInt ∧ w_4.toInt ≤ 200) ∧ (0 ≤ w_5.toInt ∧ w_5.toInt ≤ 200) ∧ (0 ≤ w_6.toInt ∧ w_6.toInt ≤ 200) ∧ (w_5.toInt ≤ w_6.toInt ∧ w_6.toInt ≤ xTz.toInt ∧ (0 ≤ (1 : Int32).toInt ∧ (1 : Int32).toInt ≤ 1)) ∧ (tokOK gB w_5 w_6 xTz) ∧ (stq xSz.toInt w_4.toInt gSt w_10 ([] ++ w_11) fm_21) ∧ (rs w_7 w_5 w_6 w_9 w_8 = ppart (tpe gB xTz) xTz.toInt xRt.toInt (pB (tpe gB xTz) xTz.toInt xRt.toInt (8 - dp.toInt).toNat) xPl.toInt xBe.toInt xLk.toInt xRd) ∧ ((¬ (1 : Int32).toInt = 0 → w_7.toInt = (-1)) ∧ ((1 : Int32).toInt = 0 → 0 ≤ w_7.toInt)) := ⟨iv_13, iv_14, iv_15, by omega, tk_17, sq_fm_21, (by rw [ppart, bnd_ok rs_19 (by omega), if_neg (fun h => absurd (tw_27.mpr h) (fun q => q dc_28))]; exact rs_inr (by omega) rfl rfl rfl rfl), by omega⟩
      exact W.zret (v := 1) hx hb hr (by decide) (fun t ht hW => ⟨⟨1, (w_4, w_5, w_6, w_7, w_8, w_9, w_10, ([] ++ w_11), fm_21), rfl, hpost, by rw [ht]; exact hP9, hD9, by rw [ht]; exact hBx⟩, hS.F ht⟩) hS.2.2 dX2_readPart_20
  · have dc_22 : r_1.toInt = 0 := jI_eq c_22 rfl (by decide)
    replace rf_20 := rf_n rf_20 dc_22
    refine lv_iconst (v := 0) hx hb dX2_readPart_8 (by decide) ?_
    have hP9 := hP.part (cx := [((ax 13), .inr (2, [.ref (ax 11), .ref (ax 14), .int w_4, .int w_5, .int w_6, .int xRt, .int w_7, .int w_8, .int w_9])), ((ax 11), .inr (5, [.ref (ax 12), .int xTz])), ((ax 12), .inl (cA 0, 200, .inl gB)), ((ax 14), .inl (cA 4, 200, .inr (.inr (.inr (.inr w_10)))))]) [0, 1, 2, 3] rfl
    have hD9 := hD.part (cx := [((ax 13), .inr (2, [.ref (ax 11), .ref (ax 14), .int w_4, .int w_5, .int w_6, .int xRt, .int w_7, .int w_8, .int w_9])), ((ax 11), .inr (5, [.ref (ax 12), .int xTz])), ((ax 12), .inl (cA 0, 200, .inl gB)), ((ax 14), .inl (cA 4, 200, .inr (.inr (.inr (.inr w_10)))))]) [0, 1, 2, 3] (by decide) rfl
    refine W.know (fun hkn1 hkn2 => ?_)
    have hBx : H.size ≤ s.heap.size + (w_4.toInt - xSz.toInt).toNat ∧ ssum s.heap.size H ≤ 4 * (w_4.toInt - xSz.toInt).toNat := ⟨by omega, by omega⟩
    subst hQe
    refine W.widen (k := (200 - xSz.toInt).toNat) (n := (4 * (200 - xSz.toInt).toNat)) (by omega) (by omega) ?_
    have hans : (0 : Int32).toInt = 0 := (by decide)
    have hpost : (0 ≤ w_4.toInt ∧ w_4.toInt ≤ 200) ∧ (0 ≤ w_5.toInt ∧ w_5.toInt ≤ 200) ∧ (0 ≤ w_6.toInt ∧ w_6.toInt ≤ 200) ∧ (w_5.toInt ≤ w_6.toInt ∧ w_6.toInt ≤ xTz.toInt ∧ (0 ≤ (0 : Int32).toInt ∧ (0 : Int32).toInt ≤ 1)) ∧ (tokOK gB w_5 w_6 xTz) ∧ (stq xSz.toInt w_4.toInt gSt w_10 ([] ++ w_11) fm_21) ∧ (rs w_7 w_5 w_6 w_9 w_8 = ppart (tpe gB xTz) xTz.toInt xRt.toInt (pB (tpe gB xTz) xTz.toInt xRt.toInt (8 - dp.toInt).toNat) xPl.toInt xBe.toInt xLk.toInt xRd) ∧ ((¬ (0 : Int32).toInt = 0 → w_7.toInt = (-1)) ∧ ((0 : Int32).toInt = 0 → 0 ≤ w_7.toInt)) := ⟨iv_13, iv_14, iv_15, by omega, tk_17, sq_fm_21, (by rw [ppart, bnd_no rs_19 (by omega)]; exact rs_inl (by omega) (by omega)), by omega⟩
    exact W.zret (v := 0) hx hb hr (by decide) (fun t ht hW => ⟨⟨0, (w_4, w_5, w_6, w_7, w_8, w_9, w_10, ([] ++ w_11), fm_21), rfl, hpost, by rw [ht]; exact hP9, hD9, by rw [ht]; exact hBx⟩, hS.F ht⟩) hS.2.2 dX2_readPart_9
