theorem dX2_readBracket_0 : decode cX2_readBracket 0 = .ok (.iload_n 1, 1) := by decide +kernel
theorem dX2_readBracket_1 : decode cX2_readBracket 1 = .ok (.bipush 8, 2) := by decide +kernel
theorem dX2_readBracket_3 : decode cX2_readBracket 3 = .ok (.if_icmp .lt 8, 3) := by decide +kernel
theorem dX2_readBracket_11 : decode cX2_readBracket 11 = .ok (.aload_n 0, 1) := by decide +kernel
set_option maxRecDepth 20000 in
theorem ggX2_readBracket_X2_advance : GoodIn wsX2_readBracket wsX2_advance := goodIn_r _ [11, 12, 6, 13, 14, 15, 16, 17, 18, 19, 20, 4, 21, 22, 23, 24, 25, 141, 142, 143, 144, 145, 146, 147, 148, 149, 150, 151] (by decide +kernel) (by decide +kernel)
set_option maxRecDepth 20000 in
theorem gX2_readBracket_X2_advance : GoodIn wsX2_readBracket (wsV RX2 41 RX2 yX2_advance wsX2_advance) := goodIn_app (goodIn_of _ (by decide +kernel)) ggX2_readBracket_X2_advance
theorem dX2_readBracket_12 : decode cX2_readBracket 12 = .ok (.invokevirtual 41, 3) := by decide +kernel
theorem dX2_readBracket_15 : decode cX2_readBracket 15 = .ok (.aload_n 0, 1) := by decide +kernel
theorem dX2_readBracket_16 : decode cX2_readBracket 16 = .ok (.iload_n 1, 1) := by decide +kernel
theorem dX2_readBracket_17 : decode cX2_readBracket 17 = .ok (.iconst 1, 1) := by decide +kernel
theorem dX2_readBracket_18 : decode cX2_readBracket 18 = .ok (.iadd, 1) := by decide +kernel
set_option maxRecDepth 20000 in
theorem ggX2_readBracket_X2_readSum : GoodIn wsX2_readBracket wsX2_readSum := goodIn_r _ [133, 134, 135, 136, 4, 33, 34, 35, 36, 12, 6, 13, 37, 38, 39, 40, 41, 42, 43, 44, 45, 46, 47, 48, 49, 50, 51, 52, 53, 54, 55, 56, 57, 58, 59, 60, 61, 62, 63, 64, 65, 66, 67, 68, 69, 70, 71, 72, 73, 74, 75, 76, 77, 78, 79, 80, 81, 82, 83, 84, 85, 8, 9, 10, 11, 14, 15, 16, 17, 18, 19, 20, 21, 22, 23, 24, 25, 99, 100, 101, 102, 103, 104, 105, 106, 107, 108, 109, 110, 111, 112, 113, 114, 115, 116, 86, 87, 88, 89, 90, 91, 92, 93, 94, 95, 96, 97, 98, 1, 2, 3, 5, 7, 117, 118, 119, 120, 121, 122, 123, 124, 125, 126, 127, 128, 29, 30, 31, 32, 0, 26, 27, 28, 129, 130, 131, 132, 137, 138, 139, 140, 141, 142, 143, 144, 145, 146, 147, 148, 149, 150, 151, 152, 153, 154, 155] (by decide +kernel) (by decide +kernel)
set_option maxRecDepth 20000 in
theorem gX2_readBracket_X2_readSum : GoodIn wsX2_readBracket (wsV RX2 44 RX2 yX2_readSum wsX2_readSum) := goodIn_app (goodIn_of _ (by decide +kernel)) ggX2_readBracket_X2_readSum
theorem dX2_readBracket_19 : decode cX2_readBracket 19 = .ok (.invokevirtual 44, 3) := by decide +kernel
theorem dX2_readBracket_22 : decode cX2_readBracket 22 = .ok (.ifCond .eq 16, 3) := by decide +kernel
theorem dX2_readBracket_38 : decode cX2_readBracket 38 = .ok (.iconst 0, 1) := by decide +kernel
theorem dX2_readBracket_39 : decode cX2_readBracket 39 = .ok (.ireturn, 1) := by decide +kernel
theorem dX2_readBracket_25 : decode cX2_readBracket 25 = .ok (.aload_n 0, 1) := by decide +kernel
theorem dX2_readBracket_26 : decode cX2_readBracket 26 = .ok (.ldc 105, 2) := by decide +kernel
set_option maxRecDepth 20000 in
theorem ggX2_readBracket_X2_take : GoodIn wsX2_readBracket wsX2_take := goodIn_r _ [32, 33, 34, 35, 4, 36, 12, 6, 13, 37, 38, 39, 40, 41, 42, 43, 44, 45, 46, 47, 48, 49, 50, 51, 52, 53, 54, 55, 56, 57, 58, 59, 60, 61, 62, 63, 64, 65, 66, 67, 68, 69, 70, 71, 72, 73, 74, 75, 76, 77, 78, 79, 80, 81, 82, 83, 84, 85, 1, 2, 3, 5, 7, 8, 9, 10, 11, 14, 15, 16, 17, 18, 19, 20, 21, 22, 23, 24, 25, 141, 142, 143, 144, 145, 146, 147, 148, 149, 150, 151] (by decide +kernel) (by decide +kernel)
set_option maxRecDepth 20000 in
theorem gX2_readBracket_X2_take : GoodIn wsX2_readBracket (wsV RX2 107 RX2 yX2_take wsX2_take) := goodIn_app (goodIn_of _ (by decide +kernel)) ggX2_readBracket_X2_take
theorem dX2_readBracket_28 : decode cX2_readBracket 28 = .ok (.invokevirtual 107, 3) := by decide +kernel
theorem dX2_readBracket_31 : decode cX2_readBracket 31 = .ok (.ifCond .eq 7, 3) := by decide +kernel
theorem dX2_readBracket_34 : decode cX2_readBracket 34 = .ok (.iconst 1, 1) := by decide +kernel
theorem dX2_readBracket_35 : decode cX2_readBracket 35 = .ok (.goto 4, 3) := by decide +kernel
theorem dX2_readBracket_6 : decode cX2_readBracket 6 = .ok (.aload_n 0, 1) := by decide +kernel
set_option maxRecDepth 20000 in
theorem ggX2_readBracket_X2_stop : GoodIn wsX2_readBracket wsX2_stop := goodIn_r _ [5, 6, 7, 141, 142, 143, 144, 145, 146, 147, 148, 149] (by decide +kernel) (by decide +kernel)
set_option maxRecDepth 20000 in
theorem gX2_readBracket_X2_stop : GoodIn wsX2_readBracket (wsV RX2 54 RX2 yX2_stop wsX2_stop) := goodIn_app (goodIn_of _ (by decide +kernel)) ggX2_readBracket_X2_stop
theorem dX2_readBracket_7 : decode cX2_readBracket 7 = .ok (.invokevirtual 54, 3) := by decide +kernel
theorem dX2_readBracket_10 : decode cX2_readBracket 10 = .ok (.ireturn, 1) := by decide +kernel
theorem dX2_readAtom_0 : decode cX2_readAtom 0 = .ok (.aload_n 0, 1) := by decide +kernel
theorem dX2_readAtom_1 : decode cX2_readAtom 1 = .ok (.aload_n 0, 1) := by decide +kernel
theorem dX2_readAtom_2 : decode cX2_readAtom 2 = .ok (.getfield 48, 3) := by decide +kernel
set_option maxRecDepth 20000 in
theorem ggX2_readAtom_X2_isDigitAt : GoodIn wsX2_readAtom wsX2_isDigitAt := goodIn_r _ [8, 9, 141, 142, 143, 144, 145, 146, 147, 148, 149, 150, 151] (by decide +kernel) (by decide +kernel)
set_option maxRecDepth 20000 in
theorem gX2_readAtom_X2_isDigitAt : GoodIn wsX2_readAtom (wsV RX2 90 RX2 yX2_isDigitAt wsX2_isDigitAt) := goodIn_app (goodIn_of _ (by decide +kernel)) ggX2_readAtom_X2_isDigitAt
theorem dX2_readAtom_5 : decode cX2_readAtom 5 = .ok (.invokevirtual 90, 3) := by decide +kernel
theorem dX2_readAtom_8 : decode cX2_readAtom 8 = .ok (.ifCond .eq 11, 3) := by decide +kernel
theorem dX2_readAtom_19 : decode cX2_readAtom 19 = .ok (.aload_n 0, 1) := by decide +kernel
theorem dX2_readAtom_20 : decode cX2_readAtom 20 = .ok (.ldc 93, 2) := by decide +kernel
set_option maxRecDepth 20000 in
theorem ggX2_readAtom_X2_isAt : GoodIn wsX2_readAtom wsX2_isAt := goodIn_r _ [59, 20, 1, 9, 60, 61, 62, 63, 64, 65, 66, 67, 68, 69, 70, 71, 72, 73, 74, 75, 76, 77, 78, 79, 80, 81, 82, 83, 84, 85, 86, 87, 88, 89, 90, 91, 92, 93, 94, 95, 96, 97, 98, 99, 100, 101, 102, 103, 104, 105, 106, 107, 108, 141, 142, 143, 144, 145, 146, 147, 148, 149, 150, 151] (by decide +kernel) (by decide +kernel)
set_option maxRecDepth 20000 in
theorem gX2_readAtom_X2_isAt : GoodIn wsX2_readAtom (wsV RX2 63 RX2 yX2_isAt wsX2_isAt) := goodIn_app (goodIn_of _ (by decide +kernel)) ggX2_readAtom_X2_isAt
theorem dX2_readAtom_22 : decode cX2_readAtom 22 = .ok (.invokevirtual 63, 3) := by decide +kernel
theorem dX2_readAtom_25 : decode cX2_readAtom 25 = .ok (.ifCond .eq 9, 3) := by decide +kernel
theorem dX2_readAtom_34 : decode cX2_readAtom 34 = .ok (.aload_n 0, 1) := by decide +kernel
set_option maxRecDepth 20000 in
theorem ggX2_readAtom_X2_kindAt : GoodIn wsX2_readAtom wsX2_kindAt := goodIn_r _ [115, 56, 57, 58, 7, 59, 20, 1, 9, 60, 61, 62, 63, 64, 65, 66, 67, 68, 69, 70, 71, 72, 73, 74, 75, 76, 77, 78, 79, 80, 81, 82, 83, 84, 85, 86, 87, 88, 89, 90, 91, 92, 93, 94, 95, 96, 97, 98, 99, 100, 101, 102, 103, 104, 105, 106, 107, 108, 141, 142, 143, 144, 145, 146, 147, 148, 149, 150, 151] (by decide +kernel) (by decide +kernel)
set_option maxRecDepth 20000 in
theorem gX2_readAtom_X2_kindAt : GoodIn wsX2_readAtom (wsV RX2 98 RX2 yX2_kindAt wsX2_kindAt) := goodIn_app (goodIn_of _ (by decide +kernel)) ggX2_readAtom_X2_kindAt
theorem dX2_readAtom_35 : decode cX2_readAtom 35 = .ok (.invokevirtual 98, 3) := by decide +kernel
theorem dX2_readAtom_38 : decode cX2_readAtom 38 = .ok (.istore_n 2, 1) := by decide +kernel
theorem dX2_readAtom_39 : decode cX2_readAtom 39 = .ok (.iload_n 2, 1) := by decide +kernel
theorem dX2_readAtom_40 : decode cX2_readAtom 40 = .ok (.iconst (-1), 1) := by decide +kernel
theorem dX2_readAtom_41 : decode cX2_readAtom 41 = .ok (.if_icmp .ne 8, 3) := by decide +kernel
theorem dX2_readAtom_49 : decode cX2_readAtom 49 = .ok (.aload_n 0, 1) := by decide +kernel
set_option maxRecDepth 20000 in
theorem ggX2_readAtom_X2_advance : GoodIn wsX2_readAtom wsX2_advance := goodIn_r _ [29, 20, 1, 9, 30, 31, 32, 33, 34, 35, 36, 7, 37, 4, 5, 6, 8, 141, 142, 143, 144, 145, 146, 147, 148, 149, 150, 151] (by decide +kernel) (by decide +kernel)
set_option maxRecDepth 20000 in
theorem gX2_readAtom_X2_advance : GoodIn wsX2_readAtom (wsV RX2 41 RX2 yX2_advance wsX2_advance) := goodIn_app (goodIn_of _ (by decide +kernel)) ggX2_readAtom_X2_advance
theorem dX2_readAtom_50 : decode cX2_readAtom 50 = .ok (.invokevirtual 41, 3) := by decide +kernel
theorem dX2_readAtom_53 : decode cX2_readAtom 53 = .ok (.iload_n 2, 1) := by decide +kernel
theorem dX2_readAtom_54 : decode cX2_readAtom 54 = .ok (.tableswitch 45 1 3 #[26, 38, 38], 26) := by decide +kernel
theorem dX2_readAtom_99 : decode cX2_readAtom 99 = .ok (.aload_n 0, 1) := by decide +kernel
theorem dX2_readAtom_100 : decode cX2_readAtom 100 = .ok (.iload_n 2, 1) := by decide +kernel
set_option maxRecDepth 20000 in
theorem ggX2_readAtom_X2_readWindow : GoodIn wsX2_readAtom wsX2_readWindow := goodIn_r _ [119, 2, 120, 15, 16, 17, 7, 18, 1, 19, 20, 9, 4, 5, 6, 8, 21, 22, 23, 24, 25, 26, 27, 28, 29, 30, 31, 32, 33, 34, 35, 36, 37, 121, 122, 123, 124, 56, 57, 58, 59, 60, 61, 62, 63, 64, 65, 66, 67, 68, 69, 70, 71, 72, 73, 74, 75, 76, 77, 78, 79, 80, 81, 82, 83, 84, 85, 86, 87, 88, 89, 90, 91, 92, 93, 94, 95, 96, 97, 98, 99, 100, 101, 102, 103, 104, 105, 106, 107, 108, 38, 39, 40, 41, 42, 43, 44, 45, 46, 47, 48, 49, 50, 51, 52, 53, 54, 55, 141, 142, 143, 144, 145, 146, 147, 148, 149, 150, 151, 152, 153, 154, 155] (by decide +kernel) (by decide +kernel)
set_option maxRecDepth 20000 in
theorem gX2_readAtom_X2_readWindow : GoodIn wsX2_readAtom (wsV RX2 102 RX2 yX2_readWindow wsX2_readWindow) := goodIn_app (goodIn_of _ (by decide +kernel)) ggX2_readAtom_X2_readWindow
theorem dX2_readAtom_101 : decode cX2_readAtom 101 = .ok (.invokevirtual 102, 3) := by decide +kernel
theorem dX2_readAtom_104 : decode cX2_readAtom 104 = .ok (.ireturn, 1) := by decide +kernel
theorem dX2_readAtom_80 : decode cX2_readAtom 80 = .ok (.aload_n 0, 1) := by decide +kernel
theorem dX2_readAtom_81 : decode cX2_readAtom 81 = .ok (.iconst 1, 1) := by decide +kernel
theorem dX2_readAtom_82 : decode cX2_readAtom 82 = .ok (.aload_n 0, 1) := by decide +kernel
theorem dX2_readAtom_83 : decode cX2_readAtom 83 = .ok (.getfield 28, 3) := by decide +kernel
theorem dX2_readAtom_86 : decode cX2_readAtom 86 = .ok (.iconst 1, 1) := by decide +kernel
theorem dX2_readAtom_87 : decode cX2_readAtom 87 = .ok (.isub, 1) := by decide +kernel
set_option maxRecDepth 20000 in
theorem ggX2_readAtom_X2_readNumbered : GoodIn wsX2_readAtom wsX2_readNumbered := goodIn_r _ [13, 14, 15, 16, 17, 7, 18, 1, 19, 20, 9, 4, 5, 6, 8, 21, 22, 23, 24, 25, 26, 27, 28, 29, 30, 31, 32, 33, 34, 35, 36, 37, 38, 39, 40, 41, 42, 43, 44, 45, 46, 47, 48, 49, 50, 51, 52, 53, 54, 55, 141, 142, 143, 144, 145, 146, 147, 148, 149, 150, 151, 152, 153, 154, 155] (by decide +kernel) (by decide +kernel)
set_option maxRecDepth 20000 in
theorem gX2_readAtom_X2_readNumbered : GoodIn wsX2_readAtom (wsV RX2 86 RX2 yX2_readNumbered wsX2_readNumbered) := goodIn_app (goodIn_of _ (by decide +kernel)) ggX2_readAtom_X2_readNumbered
theorem dX2_readAtom_88 : decode cX2_readAtom 88 = .ok (.invokevirtual 86, 3) := by decide +kernel
theorem dX2_readAtom_91 : decode cX2_readAtom 91 = .ok (.ireturn, 1) := by decide +kernel
theorem dX2_readAtom_92 : decode cX2_readAtom 92 = .ok (.aload_n 0, 1) := by decide +kernel
theorem dX2_readAtom_93 : decode cX2_readAtom 93 = .ok (.iload_n 2, 1) := by decide +kernel
theorem dX2_readAtom_94 : decode cX2_readAtom 94 = .ok (.iconst 5, 1) := by decide +kernel
theorem dX2_readAtom_95 : decode cX2_readAtom 95 = .ok (.invokevirtual 86, 3) := by decide +kernel
theorem dX2_readAtom_98 : decode cX2_readAtom 98 = .ok (.ireturn, 1) := by decide +kernel
theorem dX2_readAtom_44 : decode cX2_readAtom 44 = .ok (.aload_n 0, 1) := by decide +kernel
set_option maxRecDepth 20000 in
theorem ggX2_readAtom_X2_stop : GoodIn wsX2_readAtom wsX2_stop := goodIn_r _ [24, 1, 25, 141, 142, 143, 144, 145, 146, 147, 148, 149] (by decide +kernel) (by decide +kernel)
set_option maxRecDepth 20000 in
theorem gX2_readAtom_X2_stop : GoodIn wsX2_readAtom (wsV RX2 54 RX2 yX2_stop wsX2_stop) := goodIn_app (goodIn_of _ (by decide +kernel)) ggX2_readAtom_X2_stop
theorem dX2_readAtom_45 : decode cX2_readAtom 45 = .ok (.invokevirtual 54, 3) := by decide +kernel
theorem dX2_readAtom_48 : decode cX2_readAtom 48 = .ok (.ireturn, 1) := by decide +kernel
theorem dX2_readAtom_28 : decode cX2_readAtom 28 = .ok (.aload_n 0, 1) := by decide +kernel
theorem dX2_readAtom_29 : decode cX2_readAtom 29 = .ok (.iload_n 1, 1) := by decide +kernel
set_option maxRecDepth 20000 in
theorem ggX2_readAtom_X2_readBracket : GoodIn wsX2_readAtom wsX2_readBracket := goodIn_r _ [125, 21, 22, 23, 7, 24, 1, 25, 26, 27, 28, 29, 20, 9, 30, 31, 32, 33, 34, 35, 36, 37, 4, 5, 6, 8, 126, 127, 128, 121, 122, 123, 124, 56, 57, 58, 59, 60, 61, 62, 63, 64, 65, 66, 67, 68, 69, 70, 71, 72, 73, 74, 75, 76, 77, 78, 79, 80, 81, 82, 83, 84, 85, 86, 87, 88, 89, 90, 91, 92, 93, 94, 95, 96, 97, 98, 99, 100, 101, 102, 103, 104, 105, 106, 107, 108, 0, 2, 3, 10, 11, 12, 13, 14, 15, 16, 17, 18, 19, 38, 39, 40, 41, 42, 43, 44, 45, 46, 47, 48, 49, 50, 51, 52, 53, 54, 55, 109, 110, 111, 112, 113, 114, 115, 116, 117, 118, 119, 120, 129, 130, 131, 132, 133, 134, 135, 136, 137, 138, 139, 140, 141, 142, 143, 144, 145, 146, 147, 148, 149, 150, 151, 152, 153, 154, 155] (by decide +kernel) (by decide +kernel)
set_option maxRecDepth 20000 in
theorem gX2_readAtom_X2_readBracket : GoodIn wsX2_readAtom (wsV RX2 95 RX2 yX2_readBracket wsX2_readBracket) := goodIn_app (goodIn_of _ (by decide +kernel)) ggX2_readAtom_X2_readBracket
theorem dX2_readAtom_30 : decode cX2_readAtom 30 = .ok (.invokevirtual 95, 3) := by decide +kernel
theorem dX2_readAtom_33 : decode cX2_readAtom 33 = .ok (.ireturn, 1) := by decide +kernel
theorem dX2_readAtom_11 : decode cX2_readAtom 11 = .ok (.aload_n 0, 1) := by decide +kernel
theorem dX2_readAtom_12 : decode cX2_readAtom 12 = .ok (.iconst 0, 1) := by decide +kernel
theorem dX2_readAtom_13 : decode cX2_readAtom 13 = .ok (.ldc 85, 2) := by decide +kernel
theorem dX2_readAtom_15 : decode cX2_readAtom 15 = .ok (.invokevirtual 86, 3) := by decide +kernel
theorem dX2_readAtom_18 : decode cX2_readAtom 18 = .ok (.ireturn, 1) := by decide +kernel
theorem dX2_readPart_0 : decode cX2_readPart 0 = .ok (.aload_n 0, 1) := by decide +kernel
theorem dX2_readPart_1 : decode cX2_readPart 1 = .ok (.iload_n 1, 1) := by decide +kernel
set_option maxRecDepth 20000 in
theorem ggX2_readPart_X2_readAtom : GoodIn wsX2_readPart wsX2_readAtom := goodIn_r _ [111, 11, 1, 112, 74, 75, 76, 5, 77, 12, 78, 79, 80, 81, 82, 83, 84, 85, 86, 87, 10, 88, 89, 90, 91, 92, 62, 63, 64, 65, 66, 67, 68, 69, 70, 71, 72, 73, 93, 94, 95, 96, 97, 98, 99, 100, 101, 102, 103, 104, 105, 106, 107, 108, 109, 110, 6, 7, 8, 9, 13, 14, 15, 16, 17, 18, 19, 20, 21, 22, 23, 24, 25, 26, 27, 28, 29, 30, 31, 32, 33, 34, 35, 36, 37, 38, 39, 40, 41, 42, 43, 44, 45, 46, 47, 48, 49, 50, 51, 52, 53, 54, 55, 56, 57, 58, 59, 60, 61, 113, 114, 115, 116, 117, 118, 119, 120, 121, 122, 123, 124, 125, 126, 127, 128, 129, 130, 131, 132, 0, 2, 3, 4, 133, 134, 135, 136, 137, 138, 139, 140, 141, 142, 143, 144, 145, 146, 147, 148, 149, 150, 151, 152, 153, 154, 155] (by decide +kernel) (by decide +kernel)
set_option maxRecDepth 20000 in
theorem gX2_readPart_X2_readAtom : GoodIn wsX2_readPart (wsV RX2 80 RX2 yX2_readAtom wsX2_readAtom) := goodIn_app (goodIn_of _ (by decide +kernel)) ggX2_readPart_X2_readAtom
theorem dX2_readPart_2 : decode cX2_readPart 2 = .ok (.invokevirtual 80, 3) := by decide +kernel
theorem dX2_readPart_5 : decode cX2_readPart 5 = .ok (.ifCond .ne 5, 3) := by decide +kernel
theorem dX2_readPart_10 : decode cX2_readPart 10 = .ok (.aload_n 0, 1) := by decide +kernel
theorem dX2_readPart_11 : decode cX2_readPart 11 = .ok (.ldc 83, 2) := by decide +kernel
set_option maxRecDepth 20000 in
theorem ggX2_readPart_X2_isAt : GoodIn wsX2_readPart wsX2_isAt := goodIn_r _ [9, 10, 11, 12, 13, 14, 15, 16, 17, 18, 19, 20, 21, 22, 23, 24, 25, 26, 27, 28, 29, 30, 31, 32, 33, 34, 35, 36, 37, 38, 39, 40, 41, 42, 43, 44, 45, 46, 47, 48, 49, 50, 51, 52, 53, 54, 55, 56, 57, 58, 59, 60, 61, 141, 142, 143, 144, 145, 146, 147, 148, 149, 150, 151] (by decide +kernel) (by decide +kernel)
set_option maxRecDepth 20000 in
theorem gX2_readPart_X2_isAt : GoodIn wsX2_readPart (wsV RX2 63 RX2 yX2_isAt wsX2_isAt) := goodIn_app (goodIn_of _ (by decide +kernel)) ggX2_readPart_X2_isAt
theorem dX2_readPart_13 : decode cX2_readPart 13 = .ok (.invokevirtual 63, 3) := by decide +kernel
theorem dX2_readPart_16 : decode cX2_readPart 16 = .ok (.ifCond .ne 5, 3) := by decide +kernel
theorem dX2_readPart_21 : decode cX2_readPart 21 = .ok (.aload_n 0, 1) := by decide +kernel
set_option maxRecDepth 20000 in
theorem ggX2_readPart_X2_advance : GoodIn wsX2_readPart wsX2_advance := goodIn_r _ [65, 10, 11, 12, 66, 67, 68, 69, 70, 71, 72, 5, 73, 74, 75, 76, 77, 141, 142, 143, 144, 145, 146, 147, 148, 149, 150, 151] (by decide +kernel) (by decide +kernel)
set_option maxRecDepth 20000 in
theorem gX2_readPart_X2_advance : GoodIn wsX2_readPart (wsV RX2 41 RX2 yX2_advance wsX2_advance) := goodIn_app (goodIn_of _ (by decide +kernel)) ggX2_readPart_X2_advance
theorem dX2_readPart_22 : decode cX2_readPart 22 = .ok (.invokevirtual 41, 3) := by decide +kernel
theorem dX2_readPart_25 : decode cX2_readPart 25 = .ok (.aload_n 0, 1) := by decide +kernel
theorem dX2_readPart_26 : decode cX2_readPart 26 = .ok (.bipush 8, 2) := by decide +kernel
theorem dX2_readPart_28 : decode cX2_readPart 28 = .ok (.ldc 85, 2) := by decide +kernel
set_option maxRecDepth 20000 in
theorem ggX2_readPart_X2_readNumbered : GoodIn wsX2_readPart wsX2_readNumbered := goodIn_r _ [81, 82, 83, 84, 85, 5, 86, 11, 87, 10, 12, 74, 75, 76, 77, 88, 89, 90, 91, 92, 62, 63, 64, 65, 66, 67, 68, 69, 70, 71, 72, 73, 93, 94, 95, 96, 97, 98, 99, 100, 101, 102, 103, 104, 105, 106, 107, 108, 109, 110, 141, 142, 143, 144, 145, 146, 147, 148, 149, 150, 151, 152, 153, 154, 155] (by decide +kernel) (by decide +kernel)
set_option maxRecDepth 20000 in
theorem gX2_readPart_X2_readNumbered : GoodIn wsX2_readPart (wsV RX2 86 RX2 yX2_readNumbered wsX2_readNumbered) := goodIn_app (goodIn_of _ (by decide +kernel)) ggX2_readPart_X2_readNumbered
theorem dX2_readPart_30 : decode cX2_readPart 30 = .ok (.invokevirtual 86, 3) := by decide +kernel
theorem dX2_readPart_33 : decode cX2_readPart 33 = .ok (.ireturn, 1) := by decide +kernel
theorem dX2_readPart_19 : decode cX2_readPart 19 = .ok (.iconst 1, 1) := by decide +kernel
theorem dX2_readPart_20 : decode cX2_readPart 20 = .ok (.ireturn, 1) := by decide +kernel
theorem dX2_readPart_8 : decode cX2_readPart 8 = .ok (.iconst 0, 1) := by decide +kernel
theorem dX2_readPart_9 : decode cX2_readPart 9 = .ok (.ireturn, 1) := by decide +kernel
def XSumC (l : Launch) (dC : Nat → ClassId) (dI : Nat → Nat → Nat) (cA : Nat → ClassId) (rl FR LO : Nat) : Prop := ∀ (sz : Nat) (ax : Nat → Nat) (xSz : Int32) (xPl : Int32) (xBe : Int32) (xRt : Int32) (xRf : Int32) (xRd : Int32) (xLk : Int32) (xTz : Int32) (gB : Nat → Int32) (gSt : Nat → Option Nat) (adK : Nat → Nat) (adV : Nat → Nat) (dp : Int32) (i_xSz : 0 ≤ xSz.toInt ∧ xSz.toInt ≤ 200) (i_xPl : 0 ≤ xPl.toInt ∧ xPl.toInt ≤ 200) (i_xBe : 0 ≤ xBe.toInt ∧ xBe.toInt ≤ 200) (i_xRt : 0 ≤ xRt.toInt ∧ xRt.toInt ≤ 20) (i_xTz : 0 ≤ xTz.toInt ∧ xTz.toInt ≤ 200) (i_gB : inB 0 255 200 gB) (hbe : xPl.toInt ≤ xBe.toInt ∧ xBe.toInt ≤ xTz.toInt) (htk : tokOK gB xPl xBe xTz) (hdp : 0 ≤ dp.toInt ∧ dp.toInt ≤ 8) (hop : 8 - dp.toInt ≤ (rl : Int)), Met l yX2_readSum wsX2_readSum ({ frames := FR, cells := (200 - xSz.toInt).toNat, slots := (4 * (200 - xSz.toInt).toNat), locals := LO }) (va_Pc [.ref (ax 13), .int dp] (fun U => U.heap.size = sz ∧ va_P (dC, dI) vwCl [((ax 13), .inr (2, [.ref (ax 11), .ref (ax 14), .int xSz, .int xPl, .int xBe, .int xRt, .int xRf, .int xRd, .int xLk])), ((ax 11), .inr (5, [.ref (ax 12), .int xTz])), ((ax 12), .inl (cA 0, 200, .inl gB)), ((ax 14), .inl (cA 4, 200, .inr (.inr (.inr (.inr gSt)))))] U.heap ∧ va_K (dC, dI) vwCl (tyL cA) U ∧ va_D (fun _ => True) [((ax 13), .inr (2, [.ref (ax 11), .ref (ax 14), .int xSz, .int xPl, .int xBe, .int xRt, .int xRf, .int xRd, .int xLk])), ((ax 11), .inr (5, [.ref (ax 12), .int xTz])), ((ax 12), .inl (cA 0, 200, .inl gB)), ((ax 14), .inl (cA 4, 200, .inr (.inr (.inr (.inr gSt)))))] ∧ st_ok adK adV (va_A [((ax 13), .inr (2, [.ref (ax 11), .ref (ax 14), .int xSz, .int xPl, .int xBe, .int xRt, .int xRf, .int xRd, .int xLk])), ((ax 11), .inr (5, [.ref (ax 12), .int xTz])), ((ax 12), .inl (cA 0, 200, .inl gB)), ((ax 14), .inl (cA 4, 200, .inr (.inr (.inr (.inr gSt)))))] sz) U)) (va_Qi (fun (r : Int32) (u : Int32 × Int32 × Int32 × Int32 × Int32 × Int32 × (Nat → Option Nat) × (List Nat) × (Nat → va_E)) => (0 ≤ u.1.toInt ∧ u.1.toInt ≤ 200) ∧ (0 ≤ u.2.1.toInt ∧ u.2.1.toInt ≤ 200) ∧ (0 ≤ u.2.2.1.toInt ∧ u.2.2.1.toInt ≤ 200) ∧ (u.2.1.toInt ≤ u.2.2.1.toInt ∧ u.2.2.1.toInt ≤ xTz.toInt ∧ (r.toInt = 0 ∨ r.toInt = 1)) ∧ (tokOK gB u.2.1 u.2.2.1 xTz) ∧ (stq xSz.toInt u.1.toInt gSt u.2.2.2.2.2.2.1 u.2.2.2.2.2.2.2.1 u.2.2.2.2.2.2.2.2)) (fun (u : Int32 × Int32 × Int32 × Int32 × Int32 × Int32 × (Nat → Option Nat) × (List Nat) × (Nat → va_E)) (t : State) => va_P (dC, dI) vwCl ([((ax 13), .inr (2, [.ref (ax 11), .ref (ax 14), .int u.1, .int u.2.1, .int u.2.2.1, .int xRt, .int u.2.2.2.1, .int u.2.2.2.2.1, .int u.2.2.2.2.2.1])), ((ax 11), .inr (5, [.ref (ax 12), .int xTz])), ((ax 12), .inl (cA 0, 200, .inl gB)), ((ax 14), .inl (cA 4, 200, .inr (.inr (.inr (.inr u.2.2.2.2.2.2.1)))))] ++ va_pl u.2.2.2.2.2.2.2.1 u.2.2.2.2.2.2.2.2) t.heap ∧ va_D (va_A [((ax 13), .inr (2, [.ref (ax 11), .ref (ax 14), .int xSz, .int xPl, .int xBe, .int xRt, .int xRf, .int xRd, .int xLk])), ((ax 11), .inr (5, [.ref (ax 12), .int xTz])), ((ax 12), .inl (cA 0, 200, .inl gB)), ((ax 14), .inl (cA 4, 200, .inr (.inr (.inr (.inr gSt)))))] sz) ([((ax 13), .inr (2, [.ref (ax 11), .ref (ax 14), .int u.1, .int u.2.1, .int u.2.2.1, .int xRt, .int u.2.2.2.1, .int u.2.2.2.2.1, .int u.2.2.2.2.2.1])), ((ax 11), .inr (5, [.ref (ax 12), .int xTz])), ((ax 12), .inl (cA 0, 200, .inl gB)), ((ax 14), .inl (cA 4, 200, .inr (.inr (.inr (.inr u.2.2.2.2.2.2.1)))))] ++ va_pl u.2.2.2.2.2.2.2.1 u.2.2.2.2.2.2.2.2) ∧ (t.heap.size ≤ sz + (u.1.toInt - xSz.toInt).toNat ∧ ssum sz t.heap ≤ 4 * (u.1.toInt - xSz.toInt).toNat)) (va_A [((ax 13), .inr (2, [.ref (ax 11), .ref (ax 14), .int xSz, .int xPl, .int xBe, .int xRt, .int xRf, .int xRd, .int xLk])), ((ax 11), .inr (5, [.ref (ax 12), .int xTz])), ((ax 12), .inl (cA 0, 200, .inl gB)), ((ax 14), .inl (cA 4, 200, .inr (.inr (.inr (.inr gSt)))))] sz)) ((200 - xSz.toInt).toNat) (4 * (200 - xSz.toInt).toNat) (va_A [((ax 13), .inr (2, [.ref (ax 11), .ref (ax 14), .int xSz, .int xPl, .int xBe, .int xRt, .int xRf, .int xRd, .int xLk])), ((ax 11), .inr (5, [.ref (ax 12), .int xTz])), ((ax 12), .inl (cA 0, 200, .inl gB)), ((ax 14), .inl (cA 4, 200, .inr (.inr (.inr (.inr gSt)))))] sz)

set_option maxHeartbeats 8000000 in
set_option maxRecDepth 100000 in
theorem k_X2_readBracket (l : Launch) (dC : Nat → ClassId) (dI : Nat → Nat → Nat) (cA : Nat → ClassId) (sz : Nat) (ax : Nat → Nat) (xSz : Int32) (xPl : Int32) (xBe : Int32) (xRt : Int32) (xRf : Int32) (xRd : Int32) (xLk : Int32) (xTz : Int32) (gB : Nat → Int32) (gSt : Nat → Option Nat) (dp : Int32) (adK : Nat → Nat) (adV : Nat → Nat) (rl : Nat) (FR : Nat) (LO : Nat) (i_xSz : 0 ≤ xSz.toInt ∧ xSz.toInt ≤ 200) (i_xPl : 0 ≤ xPl.toInt ∧ xPl.toInt ≤ 200) (i_xBe : 0 ≤ xBe.toInt ∧ xBe.toInt ≤ 200) (i_xRt : 0 ≤ xRt.toInt ∧ xRt.toInt ≤ 20) (i_xTz : 0 ≤ xTz.toInt ∧ xTz.toInt ≤ 200) (i_gB : inB 0 255 200 gB) (hbe : xPl.toInt ≤ xBe.toInt ∧ xBe.toInt ≤ xTz.toInt) (htk : tokOK gB xPl xBe xTz) (hdp : 0 ≤ dp.toInt ∧ dp.toInt ≤ 8) (hop : 8 - dp.toInt ≤ (rl : Int)) (ih : 0 < rl → XSumC l dC dI cA (rl - 1) FR LO) : Met l yX2_readBracket wsX2_readBracket ({ frames := FR + 6, cells := (200 - xSz.toInt).toNat, slots := (4 * (200 - xSz.toInt).toNat), locals := LO + 129 }) (va_Pc [.ref (ax 13), .int dp] (fun U => U.heap.size = sz ∧ va_P (dC, dI) vwCl [((ax 13), .inr (2, [.ref (ax 11), .ref (ax 14), .int xSz, .int xPl, .int xBe, .int xRt, .int xRf, .int xRd, .int xLk])), ((ax 11), .inr (5, [.ref (ax 12), .int xTz])), ((ax 12), .inl (cA 0, 200, .inl gB)), ((ax 14), .inl (cA 4, 200, .inr (.inr (.inr (.inr gSt)))))] U.heap ∧ va_K (dC, dI) vwCl (tyL cA) U ∧ va_D (fun _ => True) [((ax 13), .inr (2, [.ref (ax 11), .ref (ax 14), .int xSz, .int xPl, .int xBe, .int xRt, .int xRf, .int xRd, .int xLk])), ((ax 11), .inr (5, [.ref (ax 12), .int xTz])), ((ax 12), .inl (cA 0, 200, .inl gB)), ((ax 14), .inl (cA 4, 200, .inr (.inr (.inr (.inr gSt)))))] ∧ st_ok adK adV (va_A [((ax 13), .inr (2, [.ref (ax 11), .ref (ax 14), .int xSz, .int xPl, .int xBe, .int xRt, .int xRf, .int xRd, .int xLk])), ((ax 11), .inr (5, [.ref (ax 12), .int xTz])), ((ax 12), .inl (cA 0, 200, .inl gB)), ((ax 14), .inl (cA 4, 200, .inr (.inr (.inr (.inr gSt)))))] sz) U)) (va_Qi (fun (r : Int32) (u : Int32 × Int32 × Int32 × Int32 × Int32 × Int32 × (Nat → Option Nat) × (List Nat) × (Nat → va_E)) => (0 ≤ u.1.toInt ∧ u.1.toInt ≤ 200) ∧ (0 ≤ u.2.1.toInt ∧ u.2.1.toInt ≤ 200) ∧ (0 ≤ u.2.2.1.toInt ∧ u.2.2.1.toInt ≤ 200) ∧ (u.2.1.toInt ≤ u.2.2.1.toInt ∧ u.2.2.1.toInt ≤ xTz.toInt ∧ (r.toInt = 0 ∨ r.toInt = 1)) ∧ (tokOK gB u.2.1 u.2.2.1 xTz) ∧ (stq xSz.toInt u.1.toInt gSt u.2.2.2.2.2.2.1 u.2.2.2.2.2.2.2.1 u.2.2.2.2.2.2.2.2)) (fun (u : Int32 × Int32 × Int32 × Int32 × Int32 × Int32 × (Nat → Option Nat) × (List Nat) × (Nat → va_E)) (t : State) => va_P (dC, dI) vwCl ([((ax 13), .inr (2, [.ref (ax 11), .ref (ax 14), .int u.1, .int u.2.1, .int u.2.2.1, .int xRt, .int u.2.2.2.1, .int u.2.2.2.2.1, .int u.2.2.2.2.2.1])), ((ax 11), .inr (5, [.ref (ax 12), .int xTz])), ((ax 12), .inl (cA 0, 200, .inl gB)), ((ax 14), .inl (cA 4, 200, .inr (.inr (.inr (.inr u.2.2.2.2.2.2.1)))))] ++ va_pl u.2.2.2.2.2.2.2.1 u.2.2.2.2.2.2.2.2) t.heap ∧ va_D (va_A [((ax 13), .inr (2, [.ref (ax 11), .ref (ax 14), .int xSz, .int xPl, .int xBe, .int xRt, .int xRf, .int xRd, .int xLk])), ((ax 11), .inr (5, [.ref (ax 12), .int xTz])), ((ax 12), .inl (cA 0, 200, .inl gB)), ((ax 14), .inl (cA 4, 200, .inr (.inr (.inr (.inr gSt)))))] sz) ([((ax 13), .inr (2, [.ref (ax 11), .ref (ax 14), .int u.1, .int u.2.1, .int u.2.2.1, .int xRt, .int u.2.2.2.1, .int u.2.2.2.2.1, .int u.2.2.2.2.2.1])), ((ax 11), .inr (5, [.ref (ax 12), .int xTz])), ((ax 12), .inl (cA 0, 200, .inl gB)), ((ax 14), .inl (cA 4, 200, .inr (.inr (.inr (.inr u.2.2.2.2.2.2.1)))))] ++ va_pl u.2.2.2.2.2.2.2.1 u.2.2.2.2.2.2.2.2) ∧ (t.heap.size ≤ sz + (u.1.toInt - xSz.toInt).toNat ∧ ssum sz t.heap ≤ 4 * (u.1.toInt - xSz.toInt).toNat)) (va_A [((ax 13), .inr (2, [.ref (ax 11), .ref (ax 14), .int xSz, .int xPl, .int xBe, .int xRt, .int xRf, .int xRd, .int xLk])), ((ax 11), .inr (5, [.ref (ax 12), .int xTz])), ((ax 12), .inl (cA 0, 200, .inl gB)), ((ax 14), .inl (cA 4, 200, .inr (.inr (.inr (.inr gSt)))))] sz)) ((200 - xSz.toInt).toNat) (4 * (200 - xSz.toInt).toNat) (va_A [((ax 13), .inr (2, [.ref (ax 11), .ref (ax 14), .int xSz, .int xPl, .int xBe, .int xRt, .int xRf, .int xRd, .int xLk])), ((ax 11), .inr (5, [.ref (ax 12), .int xTz])), ((ax 12), .inl (cA 0, 200, .inl gB)), ((ax 14), .inl (cA 4, 200, .inr (.inr (.inr (.inr gSt)))))] sz) := by
  refine Met.ofW (cc := cX2_readBracket) (maxL := 2) (ret := (some .boolean)) (by decide) rfl ?_
  intro p e s m args below meth c s₁ B hml hv
  obtain ⟨rfl, hsz, hP, hK, hD0, hN⟩ := hv
  have hx := B.exec
  have hb := B.bytes
  have hr := B.returns
  have hts := atoms_spec (ws := wsX2_readBracket) B.pre
  have hown : s.vm.findClass RX2 = some m.cls := findClass_of_methodNamed B.named
  have hlocks := B.notSynchronized
  subst hsz
  have hD := hD0.self (sz := s.heap.size)
  generalize hAe : va_A [((ax 13), .inr (2, [.ref (ax 11), .ref (ax 14), .int xSz, .int xPl, .int xBe, .int xRt, .int xRf, .int xRd, .int xLk])), ((ax 11), .inr (5, [.ref (ax 12), .int xTz])), ((ax 12), .inl (cA 0, 200, .inl gB)), ((ax 14), .inl (cA 4, 200, .inr (.inr (.inr (.inr gSt)))))] s.heap.size = A at hD hN ⊢
  have hSt := hN
  have hN := hSt.1
  have hA : ∀ q : Nat, s.heap.size ≤ q → A q := fun q h => by rw [← hAe]; exact Or.inr h
  have hS : va_S A s.heap s.heap [] := va_S.rf
  have hlt0 : (ax 13) < s.heap.size := (hP 0 _ rfl).lt
  have hlt1 : (ax 11) < s.heap.size := (hP 1 _ rfl).lt
  have hlt2 : (ax 12) < s.heap.size := (hP 2 _ rfl).lt
  have hlt3 : (ax 14) < s.heap.size := (hP 3 _ rfl).lt
  obtain ⟨pfz, hpfz⟩ : ∃ f : Nat → va_E, f = fun _ => .inr (0, []) := ⟨_, rfl⟩
  replace hP : va_P (dC, dI) vwCl ([((ax 13), .inr (2, [.ref (ax 11), .ref (ax 14), .int xSz, .int xPl, .int xBe, .int xRt, .int xRf, .int xRd, .int xLk])), ((ax 11), .inr (5, [.ref (ax 12), .int xTz])), ((ax 12), .inl (cA 0, 200, .inl gB)), ((ax 14), .inl (cA 4, 200, .inr (.inr (.inr (.inr gSt)))))] ++ va_pl ([]) pfz) s.heap := hP
  replace hD : va_D A ([((ax 13), .inr (2, [.ref (ax 11), .ref (ax 14), .int xSz, .int xPl, .int xBe, .int xRt, .int xRf, .int xRd, .int xLk])), ((ax 11), .inr (5, [.ref (ax 12), .int xTz])), ((ax 12), .inl (cA 0, 200, .inl gB)), ((ax 14), .inl (cA 4, 200, .inr (.inr (.inr (.inr gSt)))))] ++ va_pl ([]) pfz) := hD
  have hl := lv_entry ([.ref (ax 13), .int dp]) (n := 2) (Nat.le_of_ble_eq_true rfl)
  rw [lg_entry_eq]
  generalize (lg_sl ([.ref (ax 13), .int dp]) ++ List.replicate (2 - (lg_sl ([.ref (ax 13), .int dp])).length) Slot.unset).toArray = ls at hl ⊢
  have hl : lv_has ls 2 [(0, .ref (ax 13)), (1, .int dp)] := hl
  generalize hQe : MQ below _ _ _ _ _ _ = QQ
  refine lv_iload_n hx hb dX2_readBracket_0 rfl (lv_at hl 1 rfl) ?_
  refine lv_bipush (v := 8) hx hb dX2_readBracket_1 (by decide) ?_
  refine lv_icmp_lt (tgt := 11) hx hb dX2_readBracket_3 (by decide) (fun c_1 => ?_) (fun c_1 => ?_)
  · have dc_1 : dp.toInt < 8 := jI_lt c_1 rfl (by decide)
    refine lv_aload_n hx hb dX2_readBracket_11 rfl (lv_at hl 0 rfl) ?_
    have hPc := hP.sub (ws' := [((ax 13), .inr (2, [.ref (ax 11), .ref (ax 14), .int xSz, .int xPl, .int xBe, .int xRt, .int xRf, .int xRd, .int xLk])), ((ax 11), .inr (5, [.ref (ax 12), .int xTz])), ((ax 12), .inl (cA 0, 200, .inl gB))]) [0, 1, 2] rfl
    have hDc := hD.sub (ws' := [((ax 13), .inr (2, [.ref (ax 11), .ref (ax 14), .int xSz, .int xPl, .int xBe, .int xRt, .int xRf, .int xRd, .int xLk])), ((ax 11), .inr (5, [.ref (ax 12), .int xTz])), ((ax 12), .inl (cA 0, 200, .inl gB))]) [0, 1, 2] (by decide) rfl
    have hFc := va_free (wc := [((ax 13), .inr (2, [.ref (ax 11), .ref (ax 14), .int xSz, .int xPl, .int xBe, .int xRt, .int xRf, .int xRd, .int xLk])), ((ax 11), .inr (5, [.ref (ax 12), .int xTz])), ((ax 12), .inl (cA 0, 200, .inl gB))]) hD hS hA [0, 1, 2] rfl
    refine va_callv (va_runV (As := []) (rest := []) ⟨hx, hb, hml, hown, hts⟩ (k_X2_advance l dC dI cA s.heap.size ax xSz xPl xBe xRt xRf xRd xLk xTz gB (by omega) (by omega) (by omega) (by omega) (by omega) i_gB (by omega)) (cwV 0 hts gX2_readBracket_X2_advance rfl rfl rfl (by decide +kernel) ⟨(show 1 + 1 ≤ FR + 6 by omega), (show 8 + (3 + 11) + 23 ≤ LO + 129 by omega)⟩) ⟨fun a U g mk q => by obtain ⟨q0, q1, qP, qK, qD, qN⟩ := q; exact ⟨q0, q1, qP, va_K.moved (u := U) (U := U.calling g mk a) (Vm.Alike.refl U.vm) qK, qD, qN.same rfl⟩, va_recv hK hPc (ci := 2) (q0 := 0) rfl rfl, fun U hU hW => ⟨rfl, by rw [hU], by rw [hU]; exact hPc, va_K.moved hW.alike hK, hDc.weaken (fun _ _ _ _ => trivial), hN.warm hW⟩⟩ rfl rfl hl.1 rfl (lv_room (Nat.le_of_ble_eq_true rfl)) dX2_readBracket_12 ⟨(show 0 + 0 ≤ (200 - xSz.toInt).toNat by omega), (show 0 + 0 ≤ (4 * (200 - xSz.toInt).toNat) by omega)⟩) hS (fun q _ h => hFc q h) hFc (fun u_2 t H1 locs ht hvm hw_3 hB hz1 hk1 hS => ?_)
    obtain ⟨w_4, w_5⟩ := u_2
    try dsimp only at hw_3 hB
    obtain ⟨iv_6, iv_7, po_8, tk_9⟩ := hw_3
    obtain ⟨hP1, hD1⟩ := hB
    rw [ht] at hP1
    obtain ⟨hP, hD⟩ := va_joinQ (wr := [((ax 14), .inl (cA 4, 200, .inr (.inr (.inr (.inr gSt)))))]) (w1 := [((ax 13), .inr (2, [.ref (ax 11), .ref (ax 14), .int xSz, .int w_4, .int w_5, .int xRt, .int xRf, .int xRd, .int xLk])), ((ax 11), .inr (5, [.ref (ax 12), .int xTz])), ((ax 12), .inl (cA 0, 200, .inl gB))]) hP hD [0, 1, 2] [3] rfl rfl (by decide) (by decide) hk1 hFc hP1 hD1
    clear hz1
    generalize H1 = H at hP hS ⊢
    replace hP : va_P (dC, dI) vwCl ([((ax 14), .inl (cA 4, 200, .inr (.inr (.inr (.inr gSt))))), ((ax 13), .inr (2, [.ref (ax 11), .ref (ax 14), .int xSz, .int w_4, .int w_5, .int xRt, .int xRf, .int xRd, .int xLk])), ((ax 11), .inr (5, [.ref (ax 12), .int xTz])), ((ax 12), .inl (cA 0, 200, .inl gB))] ++ va_pl ([]) pfz) H := hP
    replace hD : va_D A ([((ax 14), .inl (cA 4, 200, .inr (.inr (.inr (.inr gSt))))), ((ax 13), .inr (2, [.ref (ax 11), .ref (ax 14), .int xSz, .int w_4, .int w_5, .int xRt, .int xRf, .int xRd, .int xLk])), ((ax 11), .inr (5, [.ref (ax 12), .int xTz])), ((ax 12), .inl (cA 0, 200, .inl gB))] ++ va_pl ([]) pfz) := hD
    refine lv_aload_n hx hb dX2_readBracket_15 rfl (lv_at hl 0 rfl) ?_
    refine lv_iload_n hx hb dX2_readBracket_16 rfl (lv_at hl 1 rfl) ?_
    refine lv_iconst (v := 1) hx hb dX2_readBracket_17 (by decide) ?_
    refine lv_iadd hx hb dX2_readBracket_18 ?_
    refine lv_topi (fun x_10 ex_10 => ?_)
    have dx_10 : x_10.toInt = dp.toInt + 1 := by rw [ex_10]; exact jI_add rfl (by decide) (by omega) (by omega)
    have hPc := hP.sub (ws' := [((ax 13), .inr (2, [.ref (ax 11), .ref (ax 14), .int xSz, .int w_4, .int w_5, .int xRt, .int xRf, .int xRd, .int xLk])), ((ax 11), .inr (5, [.ref (ax 12), .int xTz])), ((ax 12), .inl (cA 0, 200, .inl gB)), ((ax 14), .inl (cA 4, 200, .inr (.inr (.inr (.inr gSt)))))]) [1, 2, 3, 0] rfl
    have hDc := hD.sub (ws' := [((ax 13), .inr (2, [.ref (ax 11), .ref (ax 14), .int xSz, .int w_4, .int w_5, .int xRt, .int xRf, .int xRd, .int xLk])), ((ax 11), .inr (5, [.ref (ax 12), .int xTz])), ((ax 12), .inl (cA 0, 200, .inl gB)), ((ax 14), .inl (cA 4, 200, .inr (.inr (.inr (.inr gSt)))))]) [1, 2, 3, 0] (by decide) rfl
    have hFc := va_free (wc := [((ax 13), .inr (2, [.ref (ax 11), .ref (ax 14), .int xSz, .int w_4, .int w_5, .int xRt, .int xRf, .int xRd, .int xLk])), ((ax 11), .inr (5, [.ref (ax 12), .int xTz])), ((ax 12), .inl (cA 0, 200, .inl gB)), ((ax 14), .inl (cA 4, 200, .inr (.inr (.inr (.inr gSt)))))]) hD hS hA [1, 2, 3, 0] rfl
    refine W.know (fun hkn1 hkn2 => ?_)
    have hS0 := hS.1
    refine va_calli (va_runV (As := [.int x_10]) (rest := []) ⟨hx, hb, hml, hown, hts⟩ (ih (by omega) H.size ax xSz w_4 w_5 xRt xRf xRd xLk xTz gB gSt adK adV x_10 (by omega) (by omega) (by omega) (by omega) (by omega) i_gB (by omega) tk_9 (by omega) (by omega)) (cwV 1 hts gX2_readBracket_X2_readSum rfl rfl rfl (by decide +kernel) ⟨(show (FR + 0) + 1 ≤ FR + 6 by omega), (show 8 + (5 + 11) + (LO + 0) ≤ LO + 129 by omega)⟩) ⟨fun a U g mk q => by obtain ⟨q0, q1, qP, qK, qD, qN⟩ := q; exact ⟨q0, q1, qP, va_K.moved (u := U) (U := U.calling g mk a) (Vm.Alike.refl U.vm) qK, qD, qN.same rfl rfl⟩, va_recv hK hPc (ci := 2) (q0 := 0) rfl rfl, fun U hU hW => ⟨rfl, by rw [hU], by rw [hU]; exact hPc, va_K.moved hW.alike hK, hDc.weaken (fun _ _ _ _ => trivial), hSt.call hS hU hW hFc⟩⟩ rfl rfl hl.1 rfl (lv_room (Nat.le_of_ble_eq_true rfl)) dX2_readBracket_19 ⟨(show 0 + ((200 - xSz.toInt).toNat) ≤ (200 - xSz.toInt).toNat by omega), (show 0 + (4 * (200 - xSz.toInt).toNat) ≤ (4 * (200 - xSz.toInt).toNat) by omega)⟩) hS (fun q _ h => hFc q h) hFc (fun r_11 u_12 t H1 locs ht hvm hw_13 hB hz1 hk1 hS => ?_)
    obtain ⟨w_14, w_15, w_16, w_17, w_18, w_19, w_20, w_21, w_22⟩ := u_12
    try dsimp only at hw_13 hB
    obtain ⟨iv_23, iv_24, iv_25, po_26, tk_27, st_28⟩ := hw_13
    obtain ⟨hP1, hD1, hX1⟩ := hB
    rw [ht] at hP1 hX1
    obtain ⟨hP, hD⟩ := va_joinQ (wr := []) (w1 := [((ax 13), .inr (2, [.ref (ax 11), .ref (ax 14), .int w_14, .int w_15, .int w_16, .int xRt, .int w_17, .int w_18, .int w_19])), ((ax 11), .inr (5, [.ref (ax 12), .int xTz])), ((ax 12), .inl (cA 0, 200, .inl gB)), ((ax 14), .inl (cA 4, 200, .inr (.inr (.inr (.inr w_20)))))] ++ va_pl w_21 w_22) hP hD [1, 2, 3, 0] [] rfl rfl (by decide) (by decide) hk1 hFc hP1 hD1
    obtain ⟨fm_29, hma_fm_29, hmb_fm_29, hP, hD⟩ := pl_merge hP hD
    have sq_fm_29 := stq_tr stq_0 st_28 hma_fm_29 hmb_fm_29
    have hle_fm_29 := sq_fm_29.1
    have hlf_fm_29 := st_28.1
    refine W.tight (cells' := (w_14.toInt - xSz.toInt).toNat) (slots' := 4 * (w_14.toInt - xSz.toInt).toNat) (by omega) (by have hch := ssum_chain hS0 hz1 (fun q h1 h2 => hk1 q h2 (na_of (fun k e hk => by rcases mem4 hk with h | h | h | h <;> omega) h1 h2)); omega) ?_
    clear hz1
    generalize H1 = H at hP hS ⊢
    replace hP : va_P (dC, dI) vwCl ([((ax 13), .inr (2, [.ref (ax 11), .ref (ax 14), .int w_14, .int w_15, .int w_16, .int xRt, .int w_17, .int w_18, .int w_19])), ((ax 11), .inr (5, [.ref (ax 12), .int xTz])), ((ax 12), .inl (cA 0, 200, .inl gB)), ((ax 14), .inl (cA 4, 200, .inr (.inr (.inr (.inr w_20)))))] ++ va_pl ([] ++ w_21) fm_29) H := hP
    replace hD : va_D A ([((ax 13), .inr (2, [.ref (ax 11), .ref (ax 14), .int w_14, .int w_15, .int w_16, .int xRt, .int w_17, .int w_18, .int w_19])), ((ax 11), .inr (5, [.ref (ax 12), .int xTz])), ((ax 12), .inl (cA 0, 200, .inl gB)), ((ax 14), .inl (cA 4, 200, .inr (.inr (.inr (.inr w_20)))))] ++ va_pl ([] ++ w_21) fm_29) := hD
    refine lv_if_eq (tgt := 38) hx hb dX2_readBracket_22 (by decide) (fun c_30 => ?_) (fun c_30 => ?_)
    · have dc_30 : r_11.toInt = 0 := jI_eq c_30 rfl (by decide)
      refine lv_iconst (v := 0) hx hb dX2_readBracket_38 (by decide) ?_
      have hP9 := hP.part (cx := [((ax 13), .inr (2, [.ref (ax 11), .ref (ax 14), .int w_14, .int w_15, .int w_16, .int xRt, .int w_17, .int w_18, .int w_19])), ((ax 11), .inr (5, [.ref (ax 12), .int xTz])), ((ax 12), .inl (cA 0, 200, .inl gB)), ((ax 14), .inl (cA 4, 200, .inr (.inr (.inr (.inr w_20)))))]) [0, 1, 2, 3] rfl
      have hD9 := hD.part (cx := [((ax 13), .inr (2, [.ref (ax 11), .ref (ax 14), .int w_14, .int w_15, .int w_16, .int xRt, .int w_17, .int w_18, .int w_19])), ((ax 11), .inr (5, [.ref (ax 12), .int xTz])), ((ax 12), .inl (cA 0, 200, .inl gB)), ((ax 14), .inl (cA 4, 200, .inr (.inr (.inr (.inr w_20)))))]) [0, 1, 2, 3] (by decide) rfl
      refine W.know (fun hkn1 hkn2 => ?_)
      have hBx : H.size ≤ s.heap.size + (w_14.toInt - xSz.toInt).toNat ∧ ssum s.heap.size H ≤ 4 * (w_14.toInt - xSz.toInt).toNat := ⟨by omega, by omega⟩
      subst hQe
      refine W.widen (k := (200 - xSz.toInt).toNat) (n := (4 * (200 - xSz.toInt).toNat)) (by omega) (by omega) ?_
      have hans : (0 : Int32).toInt = 0 := (by decide)
      have hpost : (0 ≤ w_14.toInt ∧ w_14.toInt ≤ 200) ∧ (0 ≤ w_15.toInt ∧ w_15.toInt ≤ 200) ∧ (0 ≤ w_16.toInt ∧ w_16.toInt ≤ 200) ∧ (w_15.toInt ≤ w_16.toInt ∧ w_16.toInt ≤ xTz.toInt ∧ ((0 : Int32).toInt = 0 ∨ (0 : Int32).toInt = 1)) ∧ (tokOK gB w_15 w_16 xTz) ∧ (stq xSz.toInt w_14.toInt gSt w_20 ([] ++ w_21) fm_29) := ⟨by omega, by omega, by omega, by omega, tk_27, sq_fm_29⟩
      exact W.zret (v := 0) hx hb hr (by decide) (fun t ht hW => ⟨⟨0, (w_14, w_15, w_16, w_17, w_18, w_19, w_20, ([] ++ w_21), fm_29), rfl, hpost, by rw [ht]; exact hP9, hD9, by rw [ht]; exact hBx⟩, hS.F ht⟩) hS.2.2 dX2_readBracket_39
    · have dc_30 : ¬ r_11.toInt = 0 := jI_ne c_30 rfl (by decide)
      refine lv_aload_n hx hb dX2_readBracket_25 rfl (lv_at hl 0 rfl) ?_
      refine va_ldcS hx hb hown (show vk_R RX2 105 ")" (adK 6) s from hSt.2.1 6 (by decide)) dX2_readBracket_26 ?_
      have hPc := hP.sub (ws' := [((ax 13), .inr (2, [.ref (ax 11), .ref (ax 14), .int w_14, .int w_15, .int w_16, .int xRt, .int w_17, .int w_18, .int w_19])), ((ax 11), .inr (5, [.ref (ax 12), .int xTz])), ((ax 12), .inl (cA 0, 200, .inl gB))]) [0, 1, 2] rfl
      have hDc := hD.sub (ws' := [((ax 13), .inr (2, [.ref (ax 11), .ref (ax 14), .int w_14, .int w_15, .int w_16, .int xRt, .int w_17, .int w_18, .int w_19])), ((ax 11), .inr (5, [.ref (ax 12), .int xTz])), ((ax 12), .inl (cA 0, 200, .inl gB))]) [0, 1, 2] (by decide) rfl
      have hFc := va_free (wc := [((ax 13), .inr (2, [.ref (ax 11), .ref (ax 14), .int w_14, .int w_15, .int w_16, .int xRt, .int w_17, .int w_18, .int w_19])), ((ax 11), .inr (5, [.ref (ax 12), .int xTz])), ((ax 12), .inl (cA 0, 200, .inl gB))]) hD hS hA [0, 1, 2] rfl
      refine va_calli (va_runV (As := [.ref (adK 6)]) (rest := []) ⟨hx, hb, hml, hown, hts⟩ (k_X2_take l dC dI cA H.size ax w_14 w_15 w_16 xRt w_17 w_18 w_19 xTz gB adK adV 6 (by omega) (by omega) (by omega) (by omega) (by omega) i_gB (by omega) (by omega) tk_27) (cwV 1 hts gX2_readBracket_X2_take rfl rfl rfl (by decide +kernel) ⟨(show 5 + 1 ≤ FR + 6 by omega), (show 8 + (2 + 11) + 108 ≤ LO + 129 by omega)⟩) ⟨fun a U g mk q => by obtain ⟨q0, q1, qP, qK, qD, qN⟩ := q; exact ⟨q0, q1, qP, va_K.moved (u := U) (U := U.calling g mk a) (Vm.Alike.refl U.vm) qK, qD, qN.same rfl rfl⟩, va_recv hK hPc (ci := 2) (q0 := 0) rfl rfl, fun U hU hW => ⟨rfl, by rw [hU], by rw [hU]; exact hPc, va_K.moved hW.alike hK, hDc.weaken (fun _ _ _ _ => trivial), hSt.call hS hU hW hFc⟩⟩ rfl rfl hl.1 rfl (lv_room (Nat.le_of_ble_eq_true rfl)) dX2_readBracket_28 ⟨(show (w_14.toInt - xSz.toInt).toNat + 0 ≤ (200 - xSz.toInt).toNat by omega), (show (4 * (w_14.toInt - xSz.toInt).toNat) + 0 ≤ (4 * (200 - xSz.toInt).toNat) by omega)⟩) hS (fun q _ h => hFc q h) hFc (fun r_31 u_32 t H1 locs ht hvm hw_33 hB hz1 hk1 hS => ?_)
      obtain ⟨w_34, w_35, w_36⟩ := u_32
      try dsimp only at hw_33 hB
      obtain ⟨iv_37, iv_38, po_39, tk_40⟩ := hw_33
      obtain ⟨hP1, hD1⟩ := hB
      rw [ht] at hP1
      obtain ⟨hP, hD⟩ := va_joinQ (wr := [((ax 14), .inl (cA 4, 200, .inr (.inr (.inr (.inr w_20)))))]) (w1 := [((ax 13), .inr (2, [.ref (ax 11), .ref (ax 14), .int w_14, .int w_34, .int w_35, .int xRt, .int w_36, .int w_18, .int w_19])), ((ax 11), .inr (5, [.ref (ax 12), .int xTz])), ((ax 12), .inl (cA 0, 200, .inl gB))]) hP hD [0, 1, 2] [3] rfl rfl (by decide) (by decide) hk1 hFc hP1 hD1
      clear hz1
      generalize H1 = H at hP hS ⊢
      replace hP : va_P (dC, dI) vwCl ([((ax 14), .inl (cA 4, 200, .inr (.inr (.inr (.inr w_20))))), ((ax 13), .inr (2, [.ref (ax 11), .ref (ax 14), .int w_14, .int w_34, .int w_35, .int xRt, .int w_36, .int w_18, .int w_19])), ((ax 11), .inr (5, [.ref (ax 12), .int xTz])), ((ax 12), .inl (cA 0, 200, .inl gB))] ++ va_pl ([] ++ w_21) fm_29) H := hP
      replace hD : va_D A ([((ax 14), .inl (cA 4, 200, .inr (.inr (.inr (.inr w_20))))), ((ax 13), .inr (2, [.ref (ax 11), .ref (ax 14), .int w_14, .int w_34, .int w_35, .int xRt, .int w_36, .int w_18, .int w_19])), ((ax 11), .inr (5, [.ref (ax 12), .int xTz])), ((ax 12), .inl (cA 0, 200, .inl gB))] ++ va_pl ([] ++ w_21) fm_29) := hD
      refine lv_if_eq (tgt := 38) hx hb dX2_readBracket_31 (by decide) (fun c_41 => ?_) (fun c_41 => ?_)
      · have dc_41 : r_31.toInt = 0 := jI_eq c_41 rfl (by decide)
        refine lv_iconst (v := 0) hx hb dX2_readBracket_38 (by decide) ?_
        have hP9 := hP.part (cx := [((ax 13), .inr (2, [.ref (ax 11), .ref (ax 14), .int w_14, .int w_34, .int w_35, .int xRt, .int w_36, .int w_18, .int w_19])), ((ax 11), .inr (5, [.ref (ax 12), .int xTz])), ((ax 12), .inl (cA 0, 200, .inl gB)), ((ax 14), .inl (cA 4, 200, .inr (.inr (.inr (.inr w_20)))))]) [1, 2, 3, 0] rfl
        have hD9 := hD.part (cx := [((ax 13), .inr (2, [.ref (ax 11), .ref (ax 14), .int w_14, .int w_34, .int w_35, .int xRt, .int w_36, .int w_18, .int w_19])), ((ax 11), .inr (5, [.ref (ax 12), .int xTz])), ((ax 12), .inl (cA 0, 200, .inl gB)), ((ax 14), .inl (cA 4, 200, .inr (.inr (.inr (.inr w_20)))))]) [1, 2, 3, 0] (by decide) rfl
        refine W.know (fun hkn1 hkn2 => ?_)
        have hBx : H.size ≤ s.heap.size + (w_14.toInt - xSz.toInt).toNat ∧ ssum s.heap.size H ≤ 4 * (w_14.toInt - xSz.toInt).toNat := ⟨by omega, by omega⟩
        subst hQe
        refine W.widen (k := (200 - xSz.toInt).toNat) (n := (4 * (200 - xSz.toInt).toNat)) (by omega) (by omega) ?_
        have hans : (0 : Int32).toInt = 0 := (by decide)
        have hpost : (0 ≤ w_14.toInt ∧ w_14.toInt ≤ 200) ∧ (0 ≤ w_34.toInt ∧ w_34.toInt ≤ 200) ∧ (0 ≤ w_35.toInt ∧ w_35.toInt ≤ 200) ∧ (w_34.toInt ≤ w_35.toInt ∧ w_35.toInt ≤ xTz.toInt ∧ ((0 : Int32).toInt = 0 ∨ (0 : Int32).toInt = 1)) ∧ (tokOK gB w_34 w_35 xTz) ∧ (stq xSz.toInt w_14.toInt gSt w_20 ([] ++ w_21) fm_29) := ⟨by omega, by omega, by omega, by omega, tk_40, sq_fm_29⟩
        exact W.zret (v := 0) hx hb hr (by decide) (fun t ht hW => ⟨⟨0, (w_14, w_34, w_35, w_36, w_18, w_19, w_20, ([] ++ w_21), fm_29), rfl, hpost, by rw [ht]; exact hP9, hD9, by rw [ht]; exact hBx⟩, hS.F ht⟩) hS.2.2 dX2_readBracket_39
      · have dc_41 : ¬ r_31.toInt = 0 := jI_ne c_41 rfl (by decide)
        refine lv_iconst (v := 1) hx hb dX2_readBracket_34 (by decide) ?_
        refine lv_goto (tgt := 39) hx hb dX2_readBracket_35 (by decide) ?_
        have hP9 := hP.part (cx := [((ax 13), .inr (2, [.ref (ax 11), .ref (ax 14), .int w_14, .int w_34, .int w_35, .int xRt, .int w_36, .int w_18, .int w_19])), ((ax 11), .inr (5, [.ref (ax 12), .int xTz])), ((ax 12), .inl (cA 0, 200, .inl gB)), ((ax 14), .inl (cA 4, 200, .inr (.inr (.inr (.inr w_20)))))]) [1, 2, 3, 0] rfl
        have hD9 := hD.part (cx := [((ax 13), .inr (2, [.ref (ax 11), .ref (ax 14), .int w_14, .int w_34, .int w_35, .int xRt, .int w_36, .int w_18, .int w_19])), ((ax 11), .inr (5, [.ref (ax 12), .int xTz])), ((ax 12), .inl (cA 0, 200, .inl gB)), ((ax 14), .inl (cA 4, 200, .inr (.inr (.inr (.inr w_20)))))]) [1, 2, 3, 0] (by decide) rfl
        refine W.know (fun hkn1 hkn2 => ?_)
        have hBx : H.size ≤ s.heap.size + (w_14.toInt - xSz.toInt).toNat ∧ ssum s.heap.size H ≤ 4 * (w_14.toInt - xSz.toInt).toNat := ⟨by omega, by omega⟩
        subst hQe
        refine W.widen (k := (200 - xSz.toInt).toNat) (n := (4 * (200 - xSz.toInt).toNat)) (by omega) (by omega) ?_
        have hans : (1 : Int32).toInt = 1 := (by decide)
        have hpost : (0 ≤ w_14.toInt ∧ w_14.toInt ≤ 200) ∧ (0 ≤ w_34.toInt ∧ w_34.toInt ≤ 200) ∧ (0 ≤ w_35.toInt ∧ w_35.toInt ≤ 200) ∧ (w_34.toInt ≤ w_35.toInt ∧ w_35.toInt ≤ xTz.toInt ∧ ((1 : Int32).toInt = 0 ∨ (1 : Int32).toInt = 1)) ∧ (tokOK gB w_34 w_35 xTz) ∧ (stq xSz.toInt w_14.toInt gSt w_20 ([] ++ w_21) fm_29) := ⟨by omega, by omega, by omega, by omega, tk_40, sq_fm_29⟩
        exact W.zret (v := 1) hx hb hr (by decide) (fun t ht hW => ⟨⟨1, (w_14, w_34, w_35, w_36, w_18, w_19, w_20, ([] ++ w_21), fm_29), rfl, hpost, by rw [ht]; exact hP9, hD9, by rw [ht]; exact hBx⟩, hS.F ht⟩) hS.2.2 dX2_readBracket_39
  · have dc_1 : 8 ≤ dp.toInt := jI_nlt c_1 rfl (by decide)
    refine lv_aload_n hx hb dX2_readBracket_6 rfl (lv_at hl 0 rfl) ?_
    have hPc := hP.sub (ws' := [((ax 13), .inr (2, [.ref (ax 11), .ref (ax 14), .int xSz, .int xPl, .int xBe, .int xRt, .int xRf, .int xRd, .int xLk]))]) [0] rfl
    have hDc := hD.sub (ws' := [((ax 13), .inr (2, [.ref (ax 11), .ref (ax 14), .int xSz, .int xPl, .int xBe, .int xRt, .int xRf, .int xRd, .int xLk]))]) [0] (by decide) rfl
    have hFc := va_free (wc := [((ax 13), .inr (2, [.ref (ax 11), .ref (ax 14), .int xSz, .int xPl, .int xBe, .int xRt, .int xRf, .int xRd, .int xLk]))]) hD hS hA [0] rfl
    refine va_calli (va_runV (As := []) (rest := []) ⟨hx, hb, hml, hown, hts⟩ (k_X2_stop l dC dI cA s.heap.size ax xSz xPl xBe xRt xRf xRd xLk (by omega) (by omega) (by omega) (by omega)) (cwV 0 hts gX2_readBracket_X2_stop rfl rfl rfl (by decide +kernel) ⟨(show 0 + 1 ≤ FR + 6 by omega), (show 8 + (1 + 11) + 0 ≤ LO + 129 by omega)⟩) ⟨fun a U g mk q => by obtain ⟨q0, q1, qP, qK, qD, qN⟩ := q; exact ⟨q0, q1, qP, va_K.moved (u := U) (U := U.calling g mk a) (Vm.Alike.refl U.vm) qK, qD, qN.same rfl⟩, va_recv hK hPc (ci := 2) (q0 := 0) rfl rfl, fun U hU hW => ⟨rfl, by rw [hU], by rw [hU]; exact hPc, va_K.moved hW.alike hK, hDc.weaken (fun _ _ _ _ => trivial), hN.warm hW⟩⟩ rfl rfl hl.1 rfl (lv_room (Nat.le_of_ble_eq_true rfl)) dX2_readBracket_7 ⟨(show 0 + 0 ≤ (200 - xSz.toInt).toNat by omega), (show 0 + 0 ≤ (4 * (200 - xSz.toInt).toNat) by omega)⟩) hS (fun q _ h => hFc q h) hFc (fun r_42 u_43 t H1 locs ht hvm hw_44 hB hz1 hk1 hS => ?_)
    obtain ⟨w_45, rfl⟩ : ∃ z, z = u_43 := ⟨_, rfl⟩
    try dsimp only at hw_44 hB
    have hr9 := hw_44
    obtain ⟨hP1, hD1⟩ := hB
    rw [ht] at hP1
    obtain ⟨hP, hD⟩ := va_joinQ (wr := [((ax 11), .inr (5, [.ref (ax 12), .int xTz])), ((ax 12), .inl (cA 0, 200, .inl gB)), ((ax 14), .inl (cA 4, 200, .inr (.inr (.inr (.inr gSt)))))]) (w1 := [((ax 13), .inr (2, [.ref (ax 11), .ref (ax 14), .int xSz, .int xPl, .int xBe, .int xRt, .int w_45, .int xRd, .int xLk]))]) hP hD [0] [1, 2, 3] rfl rfl (by decide) (by decide) hk1 hFc hP1 hD1
    clear hz1
    generalize H1 = H at hP hS ⊢
    replace hP : va_P (dC, dI) vwCl ([((ax 11), .inr (5, [.ref (ax 12), .int xTz])), ((ax 12), .inl (cA 0, 200, .inl gB)), ((ax 14), .inl (cA 4, 200, .inr (.inr (.inr (.inr gSt))))), ((ax 13), .inr (2, [.ref (ax 11), .ref (ax 14), .int xSz, .int xPl, .int xBe, .int xRt, .int w_45, .int xRd, .int xLk]))] ++ va_pl ([]) pfz) H := hP
    replace hD : va_D A ([((ax 11), .inr (5, [.ref (ax 12), .int xTz])), ((ax 12), .inl (cA 0, 200, .inl gB)), ((ax 14), .inl (cA 4, 200, .inr (.inr (.inr (.inr gSt))))), ((ax 13), .inr (2, [.ref (ax 11), .ref (ax 14), .int xSz, .int xPl, .int xBe, .int xRt, .int w_45, .int xRd, .int xLk]))] ++ va_pl ([]) pfz) := hD
    obtain rfl : 0 = r_42 := hr9.symm
    have hP9 := hP.part (cx := [((ax 13), .inr (2, [.ref (ax 11), .ref (ax 14), .int xSz, .int xPl, .int xBe, .int xRt, .int w_45, .int xRd, .int xLk])), ((ax 11), .inr (5, [.ref (ax 12), .int xTz])), ((ax 12), .inl (cA 0, 200, .inl gB)), ((ax 14), .inl (cA 4, 200, .inr (.inr (.inr (.inr gSt)))))]) [3, 0, 1, 2] rfl
    have hD9 := hD.part (cx := [((ax 13), .inr (2, [.ref (ax 11), .ref (ax 14), .int xSz, .int xPl, .int xBe, .int xRt, .int w_45, .int xRd, .int xLk])), ((ax 11), .inr (5, [.ref (ax 12), .int xTz])), ((ax 12), .inl (cA 0, 200, .inl gB)), ((ax 14), .inl (cA 4, 200, .inr (.inr (.inr (.inr gSt)))))]) [3, 0, 1, 2] (by decide) rfl
    refine W.know (fun hkn1 hkn2 => ?_)
    have hBx : H.size ≤ s.heap.size + (xSz.toInt - xSz.toInt).toNat ∧ ssum s.heap.size H ≤ 4 * (xSz.toInt - xSz.toInt).toNat := ⟨by omega, by omega⟩
    subst hQe
    refine W.widen (k := (200 - xSz.toInt).toNat) (n := (4 * (200 - xSz.toInt).toNat)) (by omega) (by omega) ?_
    have hans : (0 : Int32).toInt = 0 := (by decide)
    have hpost : (0 ≤ xSz.toInt ∧ xSz.toInt ≤ 200) ∧ (0 ≤ xPl.toInt ∧ xPl.toInt ≤ 200) ∧ (0 ≤ xBe.toInt ∧ xBe.toInt ≤ 200) ∧ (xPl.toInt ≤ xBe.toInt ∧ xBe.toInt ≤ xTz.toInt ∧ ((0 : Int32).toInt = 0 ∨ (0 : Int32).toInt = 1)) ∧ (tokOK gB xPl xBe xTz) ∧ (stq xSz.toInt xSz.toInt gSt gSt ([]) pfz) := ⟨by omega, by omega, by omega, by omega, htk, stq_0⟩
    exact W.zret (v := 0) hx hb hr (by decide) (fun t ht hW => ⟨⟨0, (xSz, xPl, xBe, w_45, xRd, xLk, gSt, [], pfz), rfl, hpost, by rw [ht]; exact hP9, hD9, by rw [ht]; exact hBx⟩, hS.F ht⟩) hS.2.2 dX2_readBracket_10

set_option maxHeartbeats 8000000 in
set_option maxRecDepth 100000 in
theorem k_X2_readAtom (l : Launch) (dC : Nat → ClassId) (dI : Nat → Nat → Nat) (cA : Nat → ClassId) (sz : Nat) (ax : Nat → Nat) (xSz : Int32) (xPl : Int32) (xBe : Int32) (xRt : Int32) (xRf : Int32) (xRd : Int32) (xLk : Int32) (xTz : Int32) (gB : Nat → Int32) (gSt : Nat → Option Nat) (dp : Int32) (adK : Nat → Nat) (adV : Nat → Nat) (rl : Nat) (FR : Nat) (LO : Nat) (i_xSz : 0 ≤ xSz.toInt ∧ xSz.toInt ≤ 200) (i_xPl : 0 ≤ xPl.toInt ∧ xPl.toInt ≤ 200) (i_xBe : 0 ≤ xBe.toInt ∧ xBe.toInt ≤ 200) (i_xRt : 0 ≤ xRt.toInt ∧ xRt.toInt ≤ 20) (i_xTz : 0 ≤ xTz.toInt ∧ xTz.toInt ≤ 200) (i_gB : inB 0 255 200 gB) (hbe : xPl.toInt ≤ xBe.toInt ∧ xBe.toInt ≤ xTz.toInt) (htk : tokOK gB xPl xBe xTz) (hdp : 0 ≤ dp.toInt ∧ dp.toInt ≤ 8) (hop : 8 - dp.toInt ≤ (rl : Int)) (ih : 0 < rl → XSumC l dC dI cA (rl - 1) FR LO) : Met l yX2_readAtom wsX2_readAtom ({ frames := FR + 7, cells := (200 - xSz.toInt).toNat, slots := (4 * (200 - xSz.toInt).toNat), locals := LO + 153 }) (va_Pc [.ref (ax 13), .int dp] (fun U => U.heap.size = sz ∧ va_P (dC, dI) vwCl [((ax 13), .inr (2, [.ref (ax 11), .ref (ax 14), .int xSz, .int xPl, .int xBe, .int xRt, .int xRf, .int xRd, .int xLk])), ((ax 11), .inr (5, [.ref (ax 12), .int xTz])), ((ax 12), .inl (cA 0, 200, .inl gB)), ((ax 14), .inl (cA 4, 200, .inr (.inr (.inr (.inr gSt)))))] U.heap ∧ va_K (dC, dI) vwCl (tyL cA) U ∧ va_D (fun _ => True) [((ax 13), .inr (2, [.ref (ax 11), .ref (ax 14), .int xSz, .int xPl, .int xBe, .int xRt, .int xRf, .int xRd, .int xLk])), ((ax 11), .inr (5, [.ref (ax 12), .int xTz])), ((ax 12), .inl (cA 0, 200, .inl gB)), ((ax 14), .inl (cA 4, 200, .inr (.inr (.inr (.inr gSt)))))] ∧ st_ok adK adV (va_A [((ax 13), .inr (2, [.ref (ax 11), .ref (ax 14), .int xSz, .int xPl, .int xBe, .int xRt, .int xRf, .int xRd, .int xLk])), ((ax 11), .inr (5, [.ref (ax 12), .int xTz])), ((ax 12), .inl (cA 0, 200, .inl gB)), ((ax 14), .inl (cA 4, 200, .inr (.inr (.inr (.inr gSt)))))] sz) U)) (va_Qi (fun (r : Int32) (u : Int32 × Int32 × Int32 × Int32 × Int32 × Int32 × (Nat → Option Nat) × (List Nat) × (Nat → va_E)) => (0 ≤ u.1.toInt ∧ u.1.toInt ≤ 200) ∧ (0 ≤ u.2.1.toInt ∧ u.2.1.toInt ≤ 200) ∧ (0 ≤ u.2.2.1.toInt ∧ u.2.2.1.toInt ≤ 200) ∧ (u.2.1.toInt ≤ u.2.2.1.toInt ∧ u.2.2.1.toInt ≤ xTz.toInt ∧ (r.toInt = 0 ∨ r.toInt = 1)) ∧ (tokOK gB u.2.1 u.2.2.1 xTz) ∧ (stq xSz.toInt u.1.toInt gSt u.2.2.2.2.2.2.1 u.2.2.2.2.2.2.2.1 u.2.2.2.2.2.2.2.2)) (fun (u : Int32 × Int32 × Int32 × Int32 × Int32 × Int32 × (Nat → Option Nat) × (List Nat) × (Nat → va_E)) (t : State) => va_P (dC, dI) vwCl ([((ax 13), .inr (2, [.ref (ax 11), .ref (ax 14), .int u.1, .int u.2.1, .int u.2.2.1, .int xRt, .int u.2.2.2.1, .int u.2.2.2.2.1, .int u.2.2.2.2.2.1])), ((ax 11), .inr (5, [.ref (ax 12), .int xTz])), ((ax 12), .inl (cA 0, 200, .inl gB)), ((ax 14), .inl (cA 4, 200, .inr (.inr (.inr (.inr u.2.2.2.2.2.2.1)))))] ++ va_pl u.2.2.2.2.2.2.2.1 u.2.2.2.2.2.2.2.2) t.heap ∧ va_D (va_A [((ax 13), .inr (2, [.ref (ax 11), .ref (ax 14), .int xSz, .int xPl, .int xBe, .int xRt, .int xRf, .int xRd, .int xLk])), ((ax 11), .inr (5, [.ref (ax 12), .int xTz])), ((ax 12), .inl (cA 0, 200, .inl gB)), ((ax 14), .inl (cA 4, 200, .inr (.inr (.inr (.inr gSt)))))] sz) ([((ax 13), .inr (2, [.ref (ax 11), .ref (ax 14), .int u.1, .int u.2.1, .int u.2.2.1, .int xRt, .int u.2.2.2.1, .int u.2.2.2.2.1, .int u.2.2.2.2.2.1])), ((ax 11), .inr (5, [.ref (ax 12), .int xTz])), ((ax 12), .inl (cA 0, 200, .inl gB)), ((ax 14), .inl (cA 4, 200, .inr (.inr (.inr (.inr u.2.2.2.2.2.2.1)))))] ++ va_pl u.2.2.2.2.2.2.2.1 u.2.2.2.2.2.2.2.2) ∧ (t.heap.size ≤ sz + (u.1.toInt - xSz.toInt).toNat ∧ ssum sz t.heap ≤ 4 * (u.1.toInt - xSz.toInt).toNat)) (va_A [((ax 13), .inr (2, [.ref (ax 11), .ref (ax 14), .int xSz, .int xPl, .int xBe, .int xRt, .int xRf, .int xRd, .int xLk])), ((ax 11), .inr (5, [.ref (ax 12), .int xTz])), ((ax 12), .inl (cA 0, 200, .inl gB)), ((ax 14), .inl (cA 4, 200, .inr (.inr (.inr (.inr gSt)))))] sz)) ((200 - xSz.toInt).toNat) (4 * (200 - xSz.toInt).toNat) (va_A [((ax 13), .inr (2, [.ref (ax 11), .ref (ax 14), .int xSz, .int xPl, .int xBe, .int xRt, .int xRf, .int xRd, .int xLk])), ((ax 11), .inr (5, [.ref (ax 12), .int xTz])), ((ax 12), .inl (cA 0, 200, .inl gB)), ((ax 14), .inl (cA 4, 200, .inr (.inr (.inr (.inr gSt)))))] sz) := by
  refine Met.ofW (cc := cX2_readAtom) (maxL := 3) (ret := (some .boolean)) (by decide) rfl ?_
  intro p e s m args below meth c s₁ B hml hv
  obtain ⟨rfl, hsz, hP, hK, hD0, hN⟩ := hv
  have hx := B.exec
  have hb := B.bytes
  have hr := B.returns
  have hts := atoms_spec (ws := wsX2_readAtom) B.pre
  have hown : s.vm.findClass RX2 = some m.cls := findClass_of_methodNamed B.named
  have hlocks := B.notSynchronized
  subst hsz
  have hD := hD0.self (sz := s.heap.size)
  generalize hAe : va_A [((ax 13), .inr (2, [.ref (ax 11), .ref (ax 14), .int xSz, .int xPl, .int xBe, .int xRt, .int xRf, .int xRd, .int xLk])), ((ax 11), .inr (5, [.ref (ax 12), .int xTz])), ((ax 12), .inl (cA 0, 200, .inl gB)), ((ax 14), .inl (cA 4, 200, .inr (.inr (.inr (.inr gSt)))))] s.heap.size = A at hD hN ⊢
  have hSt := hN
  have hN := hSt.1
  have hA : ∀ q : Nat, s.heap.size ≤ q → A q := fun q h => by rw [← hAe]; exact Or.inr h
  have hS : va_S A s.heap s.heap [] := va_S.rf
  have hlt0 : (ax 13) < s.heap.size := (hP 0 _ rfl).lt
  have hlt1 : (ax 11) < s.heap.size := (hP 1 _ rfl).lt
  have hlt2 : (ax 12) < s.heap.size := (hP 2 _ rfl).lt
  have hlt3 : (ax 14) < s.heap.size := (hP 3 _ rfl).lt
  obtain ⟨pfz, hpfz⟩ : ∃ f : Nat → va_E, f = fun _ => .inr (0, []) := ⟨_, rfl⟩
  replace hP : va_P (dC, dI) vwCl ([((ax 13), .inr (2, [.ref (ax 11), .ref (ax 14), .int xSz, .int xPl, .int xBe, .int xRt, .int xRf, .int xRd, .int xLk])), ((ax 11), .inr (5, [.ref (ax 12), .int xTz])), ((ax 12), .inl (cA 0, 200, .inl gB)), ((ax 14), .inl (cA 4, 200, .inr (.inr (.inr (.inr gSt)))))] ++ va_pl ([]) pfz) s.heap := hP
  replace hD : va_D A ([((ax 13), .inr (2, [.ref (ax 11), .ref (ax 14), .int xSz, .int xPl, .int xBe, .int xRt, .int xRf, .int xRd, .int xLk])), ((ax 11), .inr (5, [.ref (ax 12), .int xTz])), ((ax 12), .inl (cA 0, 200, .inl gB)), ((ax 14), .inl (cA 4, 200, .inr (.inr (.inr (.inr gSt)))))] ++ va_pl ([]) pfz) := hD
  have hIX2 : ∀ w ∈ u_ws RX2 TX2 9, w ∈ wsX2_readAtom := by decide +kernel
  have hl := lv_entry ([.ref (ax 13), .int dp]) (n := 3) (Nat.le_of_ble_eq_true rfl)
  rw [lg_entry_eq]
  generalize (lg_sl ([.ref (ax 13), .int dp]) ++ List.replicate (3 - (lg_sl ([.ref (ax 13), .int dp])).length) Slot.unset).toArray = ls at hl ⊢
  have hl : lv_has ls 3 [(0, .ref (ax 13)), (1, .int dp)] := hl
  generalize hQe : MQ below _ _ _ _ _ _ = QQ
  refine lv_aload_n hx hb dX2_readAtom_0 rfl (lv_at hl 0 rfl) ?_
  refine lv_aload_n hx hb dX2_readAtom_1 rfl (lv_at hl 0 rfl) ?_
  refine va_get (D := (dC, dI)) (ci := 2) (v := .int xPl) (C := RX2) (T := TX2) (N := 9) hx hb hts hIX2 hown hK hP 0 rfl rfl 3 (by decide) (hts (.fieldLink RX2 48 "TraitHouse$Reader" "place" "I") (by decide +kernel)) (fun _ h9 => h9) rfl dX2_readAtom_2 ?_
  have hPc := hP.sub (ws' := [((ax 13), .inr (2, [.ref (ax 11), .ref (ax 14), .int xSz, .int xPl, .int xBe, .int xRt, .int xRf, .int xRd, .int xLk])), ((ax 11), .inr (5, [.ref (ax 12), .int xTz])), ((ax 12), .inl (cA 0, 200, .inl gB))]) [0, 1, 2] rfl
  have hDc := hD.sub (ws' := [((ax 13), .inr (2, [.ref (ax 11), .ref (ax 14), .int xSz, .int xPl, .int xBe, .int xRt, .int xRf, .int xRd, .int xLk])), ((ax 11), .inr (5, [.ref (ax 12), .int xTz])), ((ax 12), .inl (cA 0, 200, .inl gB))]) [0, 1, 2] (by decide) rfl
  have hFc := va_free (wc := [((ax 13), .inr (2, [.ref (ax 11), .ref (ax 14), .int xSz, .int xPl, .int xBe, .int xRt, .int xRf, .int xRd, .int xLk])), ((ax 11), .inr (5, [.ref (ax 12), .int xTz])), ((ax 12), .inl (cA 0, 200, .inl gB))]) hD hS hA [0, 1, 2] rfl
  refine va_calli (va_runV (As := [.int xPl]) (rest := []) ⟨hx, hb, hml, hown, hts⟩ (k_X2_isDigitAt l dC dI cA s.heap.size ax xSz xPl xBe xRt xRf xRd xLk xTz gB xPl (by omega) (by omega) (by omega) (by omega) (by omega) i_gB (by omega)) (cwV 1 hts gX2_readAtom_X2_isDigitAt rfl rfl rfl (by decide +kernel) ⟨(show 0 + 1 ≤ FR + 7 by omega), (show 8 + (2 + 11) + 0 ≤ LO + 153 by omega)⟩) ⟨fun a U g mk q => by obtain ⟨q0, q1, qP, qK, qD, qN⟩ := q; exact ⟨q0, q1, qP, va_K.moved (u := U) (U := U.calling g mk a) (Vm.Alike.refl U.vm) qK, qD, qN.same rfl⟩, va_recv hK hPc (ci := 2) (q0 := 0) rfl rfl, fun U hU hW => ⟨rfl, by rw [hU], by rw [hU]; exact hPc, va_K.moved hW.alike hK, hDc.weaken (fun _ _ _ _ => trivial), hN.warm hW⟩⟩ rfl rfl hl.1 rfl (lv_room (Nat.le_of_ble_eq_true rfl)) dX2_readAtom_5 ⟨(show 0 + 0 ≤ (200 - xSz.toInt).toNat by omega), (show 0 + 0 ≤ (4 * (200 - xSz.toInt).toNat) by omega)⟩) hS (fun q _ h => hFc q h) hFc (fun r_1 u_2 t H1 locs ht hvm hw_3 hB hz1 hk1 hS => ?_)
  try dsimp only at hw_3 hB
  have po_4 := hw_3
  obtain ⟨hP1, hD1⟩ := hB
  rw [ht] at hP1
  obtain ⟨hP, hD⟩ := va_joinQ (wr := [((ax 14), .inl (cA 4, 200, .inr (.inr (.inr (.inr gSt)))))]) (w1 := [((ax 13), .inr (2, [.ref (ax 11), .ref (ax 14), .int xSz, .int xPl, .int xBe, .int xRt, .int xRf, .int xRd, .int xLk])), ((ax 11), .inr (5, [.ref (ax 12), .int xTz])), ((ax 12), .inl (cA 0, 200, .inl gB))]) hP hD [0, 1, 2] [3] rfl rfl (by decide) (by decide) hk1 hFc hP1 hD1
  clear hz1
  generalize H1 = H at hP hS ⊢
  replace hP : va_P (dC, dI) vwCl ([((ax 14), .inl (cA 4, 200, .inr (.inr (.inr (.inr gSt))))), ((ax 13), .inr (2, [.ref (ax 11), .ref (ax 14), .int xSz, .int xPl, .int xBe, .int xRt, .int xRf, .int xRd, .int xLk])), ((ax 11), .inr (5, [.ref (ax 12), .int xTz])), ((ax 12), .inl (cA 0, 200, .inl gB))] ++ va_pl ([]) pfz) H := hP
  replace hD : va_D A ([((ax 14), .inl (cA 4, 200, .inr (.inr (.inr (.inr gSt))))), ((ax 13), .inr (2, [.ref (ax 11), .ref (ax 14), .int xSz, .int xPl, .int xBe, .int xRt, .int xRf, .int xRd, .int xLk])), ((ax 11), .inr (5, [.ref (ax 12), .int xTz])), ((ax 12), .inl (cA 0, 200, .inl gB))] ++ va_pl ([]) pfz) := hD
  refine lv_if_eq (tgt := 19) hx hb dX2_readAtom_8 (by decide) (fun c_5 => ?_) (fun c_5 => ?_)
  · have dc_5 : r_1.toInt = 0 := jI_eq c_5 rfl (by decide)
    refine lv_aload_n hx hb dX2_readAtom_19 rfl (lv_at hl 0 rfl) ?_
    refine va_ldcS hx hb hown (show vk_R RX2 93 "(" (adK 5) s from hSt.2.1 5 (by decide)) dX2_readAtom_20 ?_
    have hPc := hP.sub (ws' := [((ax 13), .inr (2, [.ref (ax 11), .ref (ax 14), .int xSz, .int xPl, .int xBe, .int xRt, .int xRf, .int xRd, .int xLk])), ((ax 11), .inr (5, [.ref (ax 12), .int xTz])), ((ax 12), .inl (cA 0, 200, .inl gB))]) [1, 2, 3] rfl
    have hDc := hD.sub (ws' := [((ax 13), .inr (2, [.ref (ax 11), .ref (ax 14), .int xSz, .int xPl, .int xBe, .int xRt, .int xRf, .int xRd, .int xLk])), ((ax 11), .inr (5, [.ref (ax 12), .int xTz])), ((ax 12), .inl (cA 0, 200, .inl gB))]) [1, 2, 3] (by decide) rfl
    have hFc := va_free (wc := [((ax 13), .inr (2, [.ref (ax 11), .ref (ax 14), .int xSz, .int xPl, .int xBe, .int xRt, .int xRf, .int xRd, .int xLk])), ((ax 11), .inr (5, [.ref (ax 12), .int xTz])), ((ax 12), .inl (cA 0, 200, .inl gB))]) hD hS hA [1, 2, 3] rfl
    refine va_calli (va_runV (As := [.ref (adK 5)]) (rest := []) ⟨hx, hb, hml, hown, hts⟩ (k_X2_isAt l dC dI cA H.size ax xSz xPl xBe xRt xRf xRd xLk xTz gB adK adV 5 (by omega) (by omega) (by omega) (by omega) (by omega) i_gB (by omega) hbe) (cwV 1 hts gX2_readAtom_X2_isAt rfl rfl rfl (by decide +kernel) ⟨(show 4 + 1 ≤ FR + 7 by omega), (show 8 + (4 + 11) + 85 ≤ LO + 153 by omega)⟩) ⟨fun a U g mk q => by obtain ⟨q0, q1, qP, qK, qD, qN⟩ := q; exact ⟨q0, q1, qP, va_K.moved (u := U) (U := U.calling g mk a) (Vm.Alike.refl U.vm) qK, qD, qN.same rfl rfl⟩, va_recv hK hPc (ci := 2) (q0 := 0) rfl rfl, fun U hU hW => ⟨rfl, by rw [hU], by rw [hU]; exact hPc, va_K.moved hW.alike hK, hDc.weaken (fun _ _ _ _ => trivial), hSt.call hS hU hW hFc⟩⟩ rfl rfl hl.1 rfl (lv_room (Nat.le_of_ble_eq_true rfl)) dX2_readAtom_22 ⟨(show 0 + 0 ≤ (200 - xSz.toInt).toNat by omega), (show 0 + 0 ≤ (4 * (200 - xSz.toInt).toNat) by omega)⟩) hS (fun q _ h => hFc q h) hFc (fun r_6 u_7 t H1 locs ht hvm hw_8 hB hz1 hk1 hS => ?_)
    try dsimp only at hw_8 hB
    have po_9 := hw_8
    obtain ⟨hP1, hD1⟩ := hB
    rw [ht] at hP1
    obtain ⟨hP, hD⟩ := va_joinQ (wr := [((ax 14), .inl (cA 4, 200, .inr (.inr (.inr (.inr gSt)))))]) (w1 := [((ax 13), .inr (2, [.ref (ax 11), .ref (ax 14), .int xSz, .int xPl, .int xBe, .int xRt, .int xRf, .int xRd, .int xLk])), ((ax 11), .inr (5, [.ref (ax 12), .int xTz])), ((ax 12), .inl (cA 0, 200, .inl gB))]) hP hD [1, 2, 3] [0] rfl rfl (by decide) (by decide) hk1 hFc hP1 hD1
    clear hz1
    generalize H1 = H at hP hS ⊢
    replace hP : va_P (dC, dI) vwCl ([((ax 14), .inl (cA 4, 200, .inr (.inr (.inr (.inr gSt))))), ((ax 13), .inr (2, [.ref (ax 11), .ref (ax 14), .int xSz, .int xPl, .int xBe, .int xRt, .int xRf, .int xRd, .int xLk])), ((ax 11), .inr (5, [.ref (ax 12), .int xTz])), ((ax 12), .inl (cA 0, 200, .inl gB))] ++ va_pl ([]) pfz) H := hP
    replace hD : va_D A ([((ax 14), .inl (cA 4, 200, .inr (.inr (.inr (.inr gSt))))), ((ax 13), .inr (2, [.ref (ax 11), .ref (ax 14), .int xSz, .int xPl, .int xBe, .int xRt, .int xRf, .int xRd, .int xLk])), ((ax 11), .inr (5, [.ref (ax 12), .int xTz])), ((ax 12), .inl (cA 0, 200, .inl gB))] ++ va_pl ([]) pfz) := hD
    refine lv_if_eq (tgt := 34) hx hb dX2_readAtom_25 (by decide) (fun c_10 => ?_) (fun c_10 => ?_)
    · have dc_10 : r_6.toInt = 0 := jI_eq c_10 rfl (by decide)
      refine lv_aload_n hx hb dX2_readAtom_34 rfl (lv_at hl 0 rfl) ?_
      have hPc := hP.sub (ws' := [((ax 13), .inr (2, [.ref (ax 11), .ref (ax 14), .int xSz, .int xPl, .int xBe, .int xRt, .int xRf, .int xRd, .int xLk])), ((ax 11), .inr (5, [.ref (ax 12), .int xTz])), ((ax 12), .inl (cA 0, 200, .inl gB))]) [1, 2, 3] rfl
      have hDc := hD.sub (ws' := [((ax 13), .inr (2, [.ref (ax 11), .ref (ax 14), .int xSz, .int xPl, .int xBe, .int xRt, .int xRf, .int xRd, .int xLk])), ((ax 11), .inr (5, [.ref (ax 12), .int xTz])), ((ax 12), .inl (cA 0, 200, .inl gB))]) [1, 2, 3] (by decide) rfl
      have hFc := va_free (wc := [((ax 13), .inr (2, [.ref (ax 11), .ref (ax 14), .int xSz, .int xPl, .int xBe, .int xRt, .int xRf, .int xRd, .int xLk])), ((ax 11), .inr (5, [.ref (ax 12), .int xTz])), ((ax 12), .inl (cA 0, 200, .inl gB))]) hD hS hA [1, 2, 3] rfl
      refine va_calli (va_runV (As := []) (rest := []) ⟨hx, hb, hml, hown, hts⟩ (k_X2_kindAt l dC dI cA H.size ax xSz xPl xBe xRt xRf xRd xLk xTz gB adK adV (by omega) (by omega) (by omega) (by omega) (by omega) i_gB hbe) (cwV 0 hts gX2_readAtom_X2_kindAt rfl rfl rfl (by decide +kernel) ⟨(show 5 + 1 ≤ FR + 7 by omega), (show 8 + (1 + 11) + 108 ≤ LO + 153 by omega)⟩) ⟨fun a U g mk q => by obtain ⟨q0, q1, qP, qK, qD, qN⟩ := q; exact ⟨q0, q1, qP, va_K.moved (u := U) (U := U.calling g mk a) (Vm.Alike.refl U.vm) qK, qD, qN.same rfl rfl⟩, va_recv hK hPc (ci := 2) (q0 := 0) rfl rfl, fun U hU hW => ⟨rfl, by rw [hU], by rw [hU]; exact hPc, va_K.moved hW.alike hK, hDc.weaken (fun _ _ _ _ => trivial), hSt.call hS hU hW hFc⟩⟩ rfl rfl hl.1 rfl (lv_room (Nat.le_of_ble_eq_true rfl)) dX2_readAtom_35 ⟨(show 0 + 0 ≤ (200 - xSz.toInt).toNat by omega), (show 0 + 0 ≤ (4 * (200 - xSz.toInt).toNat) by omega)⟩) hS (fun q _ h => hFc q h) hFc (fun r_11 u_12 t H1 locs ht hvm hw_13 hB hz1 hk1 hS => ?_)
      try dsimp only at hw_13 hB
      have po_14 := hw_13
      obtain ⟨hP1, hD1⟩ := hB
      rw [ht] at hP1
      obtain ⟨hP, hD⟩ := va_joinQ (wr := [((ax 14), .inl (cA 4, 200, .inr (.inr (.inr (.inr gSt)))))]) (w1 := [((ax 13), .inr (2, [.ref (ax 11), .ref (ax 14), .int xSz, .int xPl, .int xBe, .int xRt, .int xRf, .int xRd, .int xLk])), ((ax 11), .inr (5, [.ref (ax 12), .int xTz])), ((ax 12), .inl (cA 0, 200, .inl gB))]) hP hD [1, 2, 3] [0] rfl rfl (by decide) (by decide) hk1 hFc hP1 hD1
      clear hz1
      generalize H1 = H at hP hS ⊢
      replace hP : va_P (dC, dI) vwCl ([((ax 14), .inl (cA 4, 200, .inr (.inr (.inr (.inr gSt))))), ((ax 13), .inr (2, [.ref (ax 11), .ref (ax 14), .int xSz, .int xPl, .int xBe, .int xRt, .int xRf, .int xRd, .int xLk])), ((ax 11), .inr (5, [.ref (ax 12), .int xTz])), ((ax 12), .inl (cA 0, 200, .inl gB))] ++ va_pl ([]) pfz) H := hP
      replace hD : va_D A ([((ax 14), .inl (cA 4, 200, .inr (.inr (.inr (.inr gSt))))), ((ax 13), .inr (2, [.ref (ax 11), .ref (ax 14), .int xSz, .int xPl, .int xBe, .int xRt, .int xRf, .int xRd, .int xLk])), ((ax 11), .inr (5, [.ref (ax 12), .int xTz])), ((ax 12), .inl (cA 0, 200, .inl gB))] ++ va_pl ([]) pfz) := hD
      refine lv_istore_n (lv' := [(2, .int r_11), (0, .ref (ax 13)), (1, .int dp)]) hx hb dX2_readAtom_38 rfl hl (by decide) rfl (fun ls hl => ?_)
      refine lv_iload_n hx hb dX2_readAtom_39 rfl (lv_at hl 0 rfl) ?_
      refine lv_iconst (v := (-1)) hx hb dX2_readAtom_40 (by decide) ?_
      refine lv_icmp_ne (tgt := 49) hx hb dX2_readAtom_41 (by decide) (fun c_15 => ?_) (fun c_15 => ?_)
      · have dc_15 : ¬ r_11.toInt = (-1) := jI_ne c_15 rfl (by decide)
        refine lv_aload_n hx hb dX2_readAtom_49 rfl (lv_at hl 1 rfl) ?_
        have hPc := hP.sub (ws' := [((ax 13), .inr (2, [.ref (ax 11), .ref (ax 14), .int xSz, .int xPl, .int xBe, .int xRt, .int xRf, .int xRd, .int xLk])), ((ax 11), .inr (5, [.ref (ax 12), .int xTz])), ((ax 12), .inl (cA 0, 200, .inl gB))]) [1, 2, 3] rfl
        have hDc := hD.sub (ws' := [((ax 13), .inr (2, [.ref (ax 11), .ref (ax 14), .int xSz, .int xPl, .int xBe, .int xRt, .int xRf, .int xRd, .int xLk])), ((ax 11), .inr (5, [.ref (ax 12), .int xTz])), ((ax 12), .inl (cA 0, 200, .inl gB))]) [1, 2, 3] (by decide) rfl
        have hFc := va_free (wc := [((ax 13), .inr (2, [.ref (ax 11), .ref (ax 14), .int xSz, .int xPl, .int xBe, .int xRt, .int xRf, .int xRd, .int xLk])), ((ax 11), .inr (5, [.ref (ax 12), .int xTz])), ((ax 12), .inl (cA 0, 200, .inl gB))]) hD hS hA [1, 2, 3] rfl
        refine va_callv (va_runV (As := []) (rest := []) ⟨hx, hb, hml, hown, hts⟩ (k_X2_advance l dC dI cA H.size ax xSz xPl xBe xRt xRf xRd xLk xTz gB (by omega) (by omega) (by omega) (by omega) (by omega) i_gB (by omega)) (cwV 0 hts gX2_readAtom_X2_advance rfl rfl rfl (by decide +kernel) ⟨(show 1 + 1 ≤ FR + 7 by omega), (show 8 + (3 + 11) + 23 ≤ LO + 153 by omega)⟩) ⟨fun a U g mk q => by obtain ⟨q0, q1, qP, qK, qD, qN⟩ := q; exact ⟨q0, q1, qP, va_K.moved (u := U) (U := U.calling g mk a) (Vm.Alike.refl U.vm) qK, qD, qN.same rfl⟩, va_recv hK hPc (ci := 2) (q0 := 0) rfl rfl, fun U hU hW => ⟨rfl, by rw [hU], by rw [hU]; exact hPc, va_K.moved hW.alike hK, hDc.weaken (fun _ _ _ _ => trivial), hN.warm hW⟩⟩ rfl rfl hl.1 rfl (lv_room (Nat.le_of_ble_eq_true rfl)) dX2_readAtom_50 ⟨(show 0 + 0 ≤ (200 - xSz.toInt).toNat by omega), (show 0 + 0 ≤ (4 * (200 - xSz.toInt).toNat) by omega)⟩) hS (fun q _ h => hFc q h) hFc (fun u_16 t H1 locs ht hvm hw_17 hB hz1 hk1 hS => ?_)
        obtain ⟨w_18, w_19⟩ := u_16
        try dsimp only at hw_17 hB
        obtain ⟨iv_20, iv_21, po_22, tk_23⟩ := hw_17
        obtain ⟨hP1, hD1⟩ := hB
        rw [ht] at hP1
        obtain ⟨hP, hD⟩ := va_joinQ (wr := [((ax 14), .inl (cA 4, 200, .inr (.inr (.inr (.inr gSt)))))]) (w1 := [((ax 13), .inr (2, [.ref (ax 11), .ref (ax 14), .int xSz, .int w_18, .int w_19, .int xRt, .int xRf, .int xRd, .int xLk])), ((ax 11), .inr (5, [.ref (ax 12), .int xTz])), ((ax 12), .inl (cA 0, 200, .inl gB))]) hP hD [1, 2, 3] [0] rfl rfl (by decide) (by decide) hk1 hFc hP1 hD1
        clear hz1
        generalize H1 = H at hP hS ⊢
        replace hP : va_P (dC, dI) vwCl ([((ax 14), .inl (cA 4, 200, .inr (.inr (.inr (.inr gSt))))), ((ax 13), .inr (2, [.ref (ax 11), .ref (ax 14), .int xSz, .int w_18, .int w_19, .int xRt, .int xRf, .int xRd, .int xLk])), ((ax 11), .inr (5, [.ref (ax 12), .int xTz])), ((ax 12), .inl (cA 0, 200, .inl gB))] ++ va_pl ([]) pfz) H := hP
        replace hD : va_D A ([((ax 14), .inl (cA 4, 200, .inr (.inr (.inr (.inr gSt))))), ((ax 13), .inr (2, [.ref (ax 11), .ref (ax 14), .int xSz, .int w_18, .int w_19, .int xRt, .int xRf, .int xRd, .int xLk])), ((ax 11), .inr (5, [.ref (ax 12), .int xTz])), ((ax 12), .inl (cA 0, 200, .inl gB))] ++ va_pl ([]) pfz) := hD
        refine lv_iload_n hx hb dX2_readAtom_53 rfl (lv_at hl 0 rfl) ?_
        rcases (jI_range r_11 1 3 : (r_11.toInt < 1 ∨ 3 < r_11.toInt) ∨ (1 ≤ r_11.toInt ∧ r_11.toInt ≤ 3)) with hsw | hsw
        · refine lv_tableOut (tgt := 99) hx hb dX2_readAtom_54 hsw (by decide) ?_
          refine lv_aload_n hx hb dX2_readAtom_99 rfl (lv_at hl 1 rfl) ?_
          refine lv_iload_n hx hb dX2_readAtom_100 rfl (lv_at hl 0 rfl) ?_
          have hPc := hP.sub (ws' := [((ax 13), .inr (2, [.ref (ax 11), .ref (ax 14), .int xSz, .int w_18, .int w_19, .int xRt, .int xRf, .int xRd, .int xLk])), ((ax 11), .inr (5, [.ref (ax 12), .int xTz])), ((ax 12), .inl (cA 0, 200, .inl gB)), ((ax 14), .inl (cA 4, 200, .inr (.inr (.inr (.inr gSt)))))]) [1, 2, 3, 0] rfl
          have hDc := hD.sub (ws' := [((ax 13), .inr (2, [.ref (ax 11), .ref (ax 14), .int xSz, .int w_18, .int w_19, .int xRt, .int xRf, .int xRd, .int xLk])), ((ax 11), .inr (5, [.ref (ax 12), .int xTz])), ((ax 12), .inl (cA 0, 200, .inl gB)), ((ax 14), .inl (cA 4, 200, .inr (.inr (.inr (.inr gSt)))))]) [1, 2, 3, 0] (by decide) rfl
          have hFc := va_free (wc := [((ax 13), .inr (2, [.ref (ax 11), .ref (ax 14), .int xSz, .int w_18, .int w_19, .int xRt, .int xRf, .int xRd, .int xLk])), ((ax 11), .inr (5, [.ref (ax 12), .int xTz])), ((ax 12), .inl (cA 0, 200, .inl gB)), ((ax 14), .inl (cA 4, 200, .inr (.inr (.inr (.inr gSt)))))]) hD hS hA [1, 2, 3, 0] rfl
          refine W.know (fun hkn1 hkn2 => ?_)
          have hS0 := hS.1
          refine va_calli (va_runV (As := [.int r_11]) (rest := []) ⟨hx, hb, hml, hown, hts⟩ (k_X2_readWindow l dC dI cA H.size ax xSz w_18 w_19 xRt xRf xRd xLk xTz gB gSt r_11 adK adV (by omega) (by omega) (by omega) (by omega) (by omega) i_gB (by omega) tk_23 (by omega)) (cwV 1 hts gX2_readAtom_X2_readWindow rfl rfl rfl (by decide +kernel) ⟨(show 6 + 1 ≤ FR + 7 by omega), (show 8 + (5 + 11) + 129 ≤ LO + 153 by omega)⟩) ⟨fun a U g mk q => by obtain ⟨q0, q1, qP, qK, qD, qN⟩ := q; exact ⟨q0, q1, qP, va_K.moved (u := U) (U := U.calling g mk a) (Vm.Alike.refl U.vm) qK, qD, qN.same rfl rfl⟩, va_recv hK hPc (ci := 2) (q0 := 0) rfl rfl, fun U hU hW => ⟨rfl, by rw [hU], by rw [hU]; exact hPc, va_K.moved hW.alike hK, hDc.weaken (fun _ _ _ _ => trivial), hSt.call hS hU hW hFc⟩⟩ rfl rfl hl.1 rfl (lv_room (Nat.le_of_ble_eq_true rfl)) dX2_readAtom_101 ⟨(show 0 + ((200 - xSz.toInt).toNat) ≤ (200 - xSz.toInt).toNat by omega), (show 0 + (4 * (200 - xSz.toInt).toNat) ≤ (4 * (200 - xSz.toInt).toNat) by omega)⟩) hS (fun q _ h => hFc q h) hFc (fun r_24 u_25 t H1 locs ht hvm hw_26 hB hz1 hk1 hS => ?_)
          obtain ⟨w_27, w_28, w_29, w_30, w_31, w_32, w_33, w_34, w_35⟩ := u_25
          try dsimp only at hw_26 hB
          obtain ⟨iv_36, iv_37, iv_38, po_39, tk_40, st_41⟩ := hw_26
          obtain ⟨hP1, hD1, hX1⟩ := hB
          rw [ht] at hP1 hX1
          obtain ⟨hP, hD⟩ := va_joinQ (wr := []) (w1 := [((ax 13), .inr (2, [.ref (ax 11), .ref (ax 14), .int w_27, .int w_28, .int w_29, .int xRt, .int w_30, .int w_31, .int w_32])), ((ax 11), .inr (5, [.ref (ax 12), .int xTz])), ((ax 12), .inl (cA 0, 200, .inl gB)), ((ax 14), .inl (cA 4, 200, .inr (.inr (.inr (.inr w_33)))))] ++ va_pl w_34 w_35) hP hD [1, 2, 3, 0] [] rfl rfl (by decide) (by decide) hk1 hFc hP1 hD1
          obtain ⟨fm_42, hma_fm_42, hmb_fm_42, hP, hD⟩ := pl_merge hP hD
          have sq_fm_42 := stq_tr stq_0 st_41 hma_fm_42 hmb_fm_42
          have hle_fm_42 := sq_fm_42.1
          have hlf_fm_42 := st_41.1
          refine W.tight (cells' := (w_27.toInt - xSz.toInt).toNat) (slots' := 4 * (w_27.toInt - xSz.toInt).toNat) (by omega) (by have hch := ssum_chain hS0 hz1 (fun q h1 h2 => hk1 q h2 (na_of (fun k e hk => by rcases mem4 hk with h | h | h | h <;> omega) h1 h2)); omega) ?_
          clear hz1
          generalize H1 = H at hP hS ⊢
          replace hP : va_P (dC, dI) vwCl ([((ax 13), .inr (2, [.ref (ax 11), .ref (ax 14), .int w_27, .int w_28, .int w_29, .int xRt, .int w_30, .int w_31, .int w_32])), ((ax 11), .inr (5, [.ref (ax 12), .int xTz])), ((ax 12), .inl (cA 0, 200, .inl gB)), ((ax 14), .inl (cA 4, 200, .inr (.inr (.inr (.inr w_33)))))] ++ va_pl ([] ++ w_34) fm_42) H := hP
          replace hD : va_D A ([((ax 13), .inr (2, [.ref (ax 11), .ref (ax 14), .int w_27, .int w_28, .int w_29, .int xRt, .int w_30, .int w_31, .int w_32])), ((ax 11), .inr (5, [.ref (ax 12), .int xTz])), ((ax 12), .inl (cA 0, 200, .inl gB)), ((ax 14), .inl (cA 4, 200, .inr (.inr (.inr (.inr w_33)))))] ++ va_pl ([] ++ w_34) fm_42) := hD
          have hP9 := hP.part (cx := [((ax 13), .inr (2, [.ref (ax 11), .ref (ax 14), .int w_27, .int w_28, .int w_29, .int xRt, .int w_30, .int w_31, .int w_32])), ((ax 11), .inr (5, [.ref (ax 12), .int xTz])), ((ax 12), .inl (cA 0, 200, .inl gB)), ((ax 14), .inl (cA 4, 200, .inr (.inr (.inr (.inr w_33)))))]) [0, 1, 2, 3] rfl
          have hD9 := hD.part (cx := [((ax 13), .inr (2, [.ref (ax 11), .ref (ax 14), .int w_27, .int w_28, .int w_29, .int xRt, .int w_30, .int w_31, .int w_32])), ((ax 11), .inr (5, [.ref (ax 12), .int xTz])), ((ax 12), .inl (cA 0, 200, .inl gB)), ((ax 14), .inl (cA 4, 200, .inr (.inr (.inr (.inr w_33)))))]) [0, 1, 2, 3] (by decide) rfl
          refine W.know (fun hkn1 hkn2 => ?_)
          have hBx : H.size ≤ s.heap.size + (w_27.toInt - xSz.toInt).toNat ∧ ssum s.heap.size H ≤ 4 * (w_27.toInt - xSz.toInt).toNat := ⟨by omega, by omega⟩
          subst hQe
          refine W.widen (k := (200 - xSz.toInt).toNat) (n := (4 * (200 - xSz.toInt).toNat)) (by omega) (by omega) ?_
          have hans : (r_24 : Int32).toInt = r_24.toInt := rfl
          have hpost : (0 ≤ w_27.toInt ∧ w_27.toInt ≤ 200) ∧ (0 ≤ w_28.toInt ∧ w_28.toInt ≤ 200) ∧ (0 ≤ w_29.toInt ∧ w_29.toInt ≤ 200) ∧ (w_28.toInt ≤ w_29.toInt ∧ w_29.toInt ≤ xTz.toInt ∧ ((r_24 : Int32).toInt = 0 ∨ (r_24 : Int32).toInt = 1)) ∧ (tokOK gB w_28 w_29 xTz) ∧ (stq xSz.toInt w_27.toInt gSt w_33 ([] ++ w_34) fm_42) := ⟨by omega, by omega, by omega, by omega, tk_40, sq_fm_42⟩
          exact W.zret (v := r_24) hx hb hr (jnarZ (by omega)) (fun t ht hW => ⟨⟨r_24, (w_27, w_28, w_29, w_30, w_31, w_32, w_33, ([] ++ w_34), fm_42), rfl, hpost, by rw [ht]; exact hP9, hD9, by rw [ht]; exact hBx⟩, hS.F ht⟩) hS.2.2 dX2_readAtom_104
        · rcases (show r_11.toInt = 1 ∨ r_11.toInt = 2 ∨ r_11.toInt = 3 by omega) with hsw | hsw | hsw
          · refine lv_tableIn (off := 26) (tgt := 80) hx hb dX2_readAtom_54 (by omega) (by omega) (by rw [hsw]; rfl) (by decide) ?_
            refine lv_aload_n hx hb dX2_readAtom_80 rfl (lv_at hl 1 rfl) ?_
            refine lv_iconst (v := 1) hx hb dX2_readAtom_81 (by decide) ?_
            refine lv_aload_n hx hb dX2_readAtom_82 rfl (lv_at hl 1 rfl) ?_
            refine va_get (D := (dC, dI)) (ci := 2) (v := .int xRt) (C := RX2) (T := TX2) (N := 9) hx hb hts hIX2 hown hK hP 1 rfl rfl 5 (by decide) (hts (.fieldLink RX2 28 "TraitHouse$Reader" "traitsThere" "I") (by decide +kernel)) (fun _ h9 => h9) rfl dX2_readAtom_83 ?_
            refine lv_iconst (v := 1) hx hb dX2_readAtom_86 (by decide) ?_
            refine lv_isub hx hb dX2_readAtom_87 ?_
            refine lv_topi (fun x_43 ex_43 => ?_)
            have dx_43 : x_43.toInt = xRt.toInt - 1 := by rw [ex_43]; exact jI_sub rfl (by decide) (by omega) (by omega)
            have hk_44 : (1 : Int32).toInt = 1 := by decide
            have hPc := hP.sub (ws' := [((ax 13), .inr (2, [.ref (ax 11), .ref (ax 14), .int xSz, .int w_18, .int w_19, .int xRt, .int xRf, .int xRd, .int xLk])), ((ax 11), .inr (5, [.ref (ax 12), .int xTz])), ((ax 12), .inl (cA 0, 200, .inl gB)), ((ax 14), .inl (cA 4, 200, .inr (.inr (.inr (.inr gSt)))))]) [1, 2, 3, 0] rfl
            have hDc := hD.sub (ws' := [((ax 13), .inr (2, [.ref (ax 11), .ref (ax 14), .int xSz, .int w_18, .int w_19, .int xRt, .int xRf, .int xRd, .int xLk])), ((ax 11), .inr (5, [.ref (ax 12), .int xTz])), ((ax 12), .inl (cA 0, 200, .inl gB)), ((ax 14), .inl (cA 4, 200, .inr (.inr (.inr (.inr gSt)))))]) [1, 2, 3, 0] (by decide) rfl
            have hFc := va_free (wc := [((ax 13), .inr (2, [.ref (ax 11), .ref (ax 14), .int xSz, .int w_18, .int w_19, .int xRt, .int xRf, .int xRd, .int xLk])), ((ax 11), .inr (5, [.ref (ax 12), .int xTz])), ((ax 12), .inl (cA 0, 200, .inl gB)), ((ax 14), .inl (cA 4, 200, .inr (.inr (.inr (.inr gSt)))))]) hD hS hA [1, 2, 3, 0] rfl
            refine W.know (fun hkn1 hkn2 => ?_)
            have hS0 := hS.1
            refine va_calli (va_runV (As := [.int 1, .int x_43]) (rest := []) ⟨hx, hb, hml, hown, hts⟩ (k_X2_readNumbered l dC dI cA H.size ax xSz w_18 w_19 xRt xRf xRd xLk xTz gB gSt 1 x_43 adK adV (by omega) (by omega) (by omega) (by omega) (by omega) i_gB (by omega) tk_23 (by omega) (by omega)) (cwV 2 hts gX2_readAtom_X2_readNumbered rfl rfl rfl (by decide +kernel) ⟨(show 3 + 1 ≤ FR + 7 by omega), (show 8 + (4 + 11) + 68 ≤ LO + 153 by omega)⟩) ⟨fun a U g mk q => by obtain ⟨q0, q1, qP, qK, qD, qN⟩ := q; exact ⟨q0, q1, qP, va_K.moved (u := U) (U := U.calling g mk a) (Vm.Alike.refl U.vm) qK, qD, qN.same rfl rfl⟩, va_recv hK hPc (ci := 2) (q0 := 0) rfl rfl, fun U hU hW => ⟨rfl, by rw [hU], by rw [hU]; exact hPc, va_K.moved hW.alike hK, hDc.weaken (fun _ _ _ _ => trivial), hSt.call hS hU hW hFc⟩⟩ rfl rfl hl.1 rfl (lv_room (Nat.le_of_ble_eq_true rfl)) dX2_readAtom_88 ⟨(show 0 + ((200 - xSz.toInt).toNat) ≤ (200 - xSz.toInt).toNat by omega), (show 0 + (4 * (200 - xSz.toInt).toNat) ≤ (4 * (200 - xSz.toInt).toNat) by omega)⟩) hS (fun q _ h => hFc q h) hFc (fun r_45 u_46 t H1 locs ht hvm hw_47 hB hz1 hk1 hS => ?_)
            obtain ⟨w_48, w_49, w_50, w_51, w_52, w_53, w_54, w_55, w_56⟩ := u_46
            try dsimp only at hw_47 hB
            obtain ⟨iv_57, iv_58, iv_59, po_60, tk_61, st_62⟩ := hw_47
            try simp only [hk_44] at po_60 tk_61 st_62
            obtain ⟨hP1, hD1, hX1⟩ := hB
            rw [ht] at hP1 hX1
            obtain ⟨hP, hD⟩ := va_joinQ (wr := []) (w1 := [((ax 13), .inr (2, [.ref (ax 11), .ref (ax 14), .int w_48, .int w_49, .int w_50, .int xRt, .int w_51, .int w_52, .int w_53])), ((ax 11), .inr (5, [.ref (ax 12), .int xTz])), ((ax 12), .inl (cA 0, 200, .inl gB)), ((ax 14), .inl (cA 4, 200, .inr (.inr (.inr (.inr w_54)))))] ++ va_pl w_55 w_56) hP hD [1, 2, 3, 0] [] rfl rfl (by decide) (by decide) hk1 hFc hP1 hD1
            obtain ⟨fm_63, hma_fm_63, hmb_fm_63, hP, hD⟩ := pl_merge hP hD
            have sq_fm_63 := stq_tr stq_0 st_62 hma_fm_63 hmb_fm_63
            have hle_fm_63 := sq_fm_63.1
            have hlf_fm_63 := st_62.1
            refine W.tight (cells' := (w_48.toInt - xSz.toInt).toNat) (slots' := 4 * (w_48.toInt - xSz.toInt).toNat) (by omega) (by have hch := ssum_chain hS0 hz1 (fun q h1 h2 => hk1 q h2 (na_of (fun k e hk => by rcases mem4 hk with h | h | h | h <;> omega) h1 h2)); omega) ?_
            clear hz1
            generalize H1 = H at hP hS ⊢
            replace hP : va_P (dC, dI) vwCl ([((ax 13), .inr (2, [.ref (ax 11), .ref (ax 14), .int w_48, .int w_49, .int w_50, .int xRt, .int w_51, .int w_52, .int w_53])), ((ax 11), .inr (5, [.ref (ax 12), .int xTz])), ((ax 12), .inl (cA 0, 200, .inl gB)), ((ax 14), .inl (cA 4, 200, .inr (.inr (.inr (.inr w_54)))))] ++ va_pl ([] ++ w_55) fm_63) H := hP
            replace hD : va_D A ([((ax 13), .inr (2, [.ref (ax 11), .ref (ax 14), .int w_48, .int w_49, .int w_50, .int xRt, .int w_51, .int w_52, .int w_53])), ((ax 11), .inr (5, [.ref (ax 12), .int xTz])), ((ax 12), .inl (cA 0, 200, .inl gB)), ((ax 14), .inl (cA 4, 200, .inr (.inr (.inr (.inr w_54)))))] ++ va_pl ([] ++ w_55) fm_63) := hD
            have hP9 := hP.part (cx := [((ax 13), .inr (2, [.ref (ax 11), .ref (ax 14), .int w_48, .int w_49, .int w_50, .int xRt, .int w_51, .int w_52, .int w_53])), ((ax 11), .inr (5, [.ref (ax 12), .int xTz])), ((ax 12), .inl (cA 0, 200, .inl gB)), ((ax 14), .inl (cA 4, 200, .inr (.inr (.inr (.inr w_54)))))]) [0, 1, 2, 3] rfl
            have hD9 := hD.part (cx := [((ax 13), .inr (2, [.ref (ax 11), .ref (ax 14), .int w_48, .int w_49, .int w_50, .int xRt, .int w_51, .int w_52, .int w_53])), ((ax 11), .inr (5, [.ref (ax 12), .int xTz])), ((ax 12), .inl (cA 0, 200, .inl gB)), ((ax 14), .inl (cA 4, 200, .inr (.inr (.inr (.inr w_54)))))]) [0, 1, 2, 3] (by decide) rfl
            refine W.know (fun hkn1 hkn2 => ?_)
            have hBx : H.size ≤ s.heap.size + (w_48.toInt - xSz.toInt).toNat ∧ ssum s.heap.size H ≤ 4 * (w_48.toInt - xSz.toInt).toNat := ⟨by omega, by omega⟩
            subst hQe
            refine W.widen (k := (200 - xSz.toInt).toNat) (n := (4 * (200 - xSz.toInt).toNat)) (by omega) (by omega) ?_
            have hans : (r_45 : Int32).toInt = r_45.toInt := rfl
            have hpost : (0 ≤ w_48.toInt ∧ w_48.toInt ≤ 200) ∧ (0 ≤ w_49.toInt ∧ w_49.toInt ≤ 200) ∧ (0 ≤ w_50.toInt ∧ w_50.toInt ≤ 200) ∧ (w_49.toInt ≤ w_50.toInt ∧ w_50.toInt ≤ xTz.toInt ∧ ((r_45 : Int32).toInt = 0 ∨ (r_45 : Int32).toInt = 1)) ∧ (tokOK gB w_49 w_50 xTz) ∧ (stq xSz.toInt w_48.toInt gSt w_54 ([] ++ w_55) fm_63) := ⟨by omega, by omega, by omega, by omega, tk_61, sq_fm_63⟩
            exact W.zret (v := r_45) hx hb hr (jnarZ (by omega)) (fun t ht hW => ⟨⟨r_45, (w_48, w_49, w_50, w_51, w_52, w_53, w_54, ([] ++ w_55), fm_63), rfl, hpost, by rw [ht]; exact hP9, hD9, by rw [ht]; exact hBx⟩, hS.F ht⟩) hS.2.2 dX2_readAtom_91
          · refine lv_tableIn (off := 38) (tgt := 92) hx hb dX2_readAtom_54 (by omega) (by omega) (by rw [hsw]; rfl) (by decide) ?_
            refine lv_aload_n hx hb dX2_readAtom_92 rfl (lv_at hl 1 rfl) ?_
            refine lv_iload_n hx hb dX2_readAtom_93 rfl (lv_at hl 0 rfl) ?_
            refine lv_iconst (v := 5) hx hb dX2_readAtom_94 (by decide) ?_
            have hk_64 : (5 : Int32).toInt = 5 := by decide
            have hPc := hP.sub (ws' := [((ax 13), .inr (2, [.ref (ax 11), .ref (ax 14), .int xSz, .int w_18, .int w_19, .int xRt, .int xRf, .int xRd, .int xLk])), ((ax 11), .inr (5, [.ref (ax 12), .int xTz])), ((ax 12), .inl (cA 0, 200, .inl gB)), ((ax 14), .inl (cA 4, 200, .inr (.inr (.inr (.inr gSt)))))]) [1, 2, 3, 0] rfl
            have hDc := hD.sub (ws' := [((ax 13), .inr (2, [.ref (ax 11), .ref (ax 14), .int xSz, .int w_18, .int w_19, .int xRt, .int xRf, .int xRd, .int xLk])), ((ax 11), .inr (5, [.ref (ax 12), .int xTz])), ((ax 12), .inl (cA 0, 200, .inl gB)), ((ax 14), .inl (cA 4, 200, .inr (.inr (.inr (.inr gSt)))))]) [1, 2, 3, 0] (by decide) rfl
            have hFc := va_free (wc := [((ax 13), .inr (2, [.ref (ax 11), .ref (ax 14), .int xSz, .int w_18, .int w_19, .int xRt, .int xRf, .int xRd, .int xLk])), ((ax 11), .inr (5, [.ref (ax 12), .int xTz])), ((ax 12), .inl (cA 0, 200, .inl gB)), ((ax 14), .inl (cA 4, 200, .inr (.inr (.inr (.inr gSt)))))]) hD hS hA [1, 2, 3, 0] rfl
            refine W.know (fun hkn1 hkn2 => ?_)
            have hS0 := hS.1
            refine va_calli (va_runV (As := [.int r_11, .int 5]) (rest := []) ⟨hx, hb, hml, hown, hts⟩ (k_X2_readNumbered l dC dI cA H.size ax xSz w_18 w_19 xRt xRf xRd xLk xTz gB gSt r_11 5 adK adV (by omega) (by omega) (by omega) (by omega) (by omega) i_gB (by omega) tk_23 (by omega) (by omega)) (cwV 2 hts gX2_readAtom_X2_readNumbered rfl rfl rfl (by decide +kernel) ⟨(show 3 + 1 ≤ FR + 7 by omega), (show 8 + (4 + 11) + 68 ≤ LO + 153 by omega)⟩) ⟨fun a U g mk q => by obtain ⟨q0, q1, qP, qK, qD, qN⟩ := q; exact ⟨q0, q1, qP, va_K.moved (u := U) (U := U.calling g mk a) (Vm.Alike.refl U.vm) qK, qD, qN.same rfl rfl⟩, va_recv hK hPc (ci := 2) (q0 := 0) rfl rfl, fun U hU hW => ⟨rfl, by rw [hU], by rw [hU]; exact hPc, va_K.moved hW.alike hK, hDc.weaken (fun _ _ _ _ => trivial), hSt.call hS hU hW hFc⟩⟩ rfl rfl hl.1 rfl (lv_room (Nat.le_of_ble_eq_true rfl)) dX2_readAtom_95 ⟨(show 0 + ((200 - xSz.toInt).toNat) ≤ (200 - xSz.toInt).toNat by omega), (show 0 + (4 * (200 - xSz.toInt).toNat) ≤ (4 * (200 - xSz.toInt).toNat) by omega)⟩) hS (fun q _ h => hFc q h) hFc (fun r_65 u_66 t H1 locs ht hvm hw_67 hB hz1 hk1 hS => ?_)
            obtain ⟨w_68, w_69, w_70, w_71, w_72, w_73, w_74, w_75, w_76⟩ := u_66
            try dsimp only at hw_67 hB
            obtain ⟨iv_77, iv_78, iv_79, po_80, tk_81, st_82⟩ := hw_67
            try simp only [hk_64] at po_80 tk_81 st_82
            obtain ⟨hP1, hD1, hX1⟩ := hB
            rw [ht] at hP1 hX1
            obtain ⟨hP, hD⟩ := va_joinQ (wr := []) (w1 := [((ax 13), .inr (2, [.ref (ax 11), .ref (ax 14), .int w_68, .int w_69, .int w_70, .int xRt, .int w_71, .int w_72, .int w_73])), ((ax 11), .inr (5, [.ref (ax 12), .int xTz])), ((ax 12), .inl (cA 0, 200, .inl gB)), ((ax 14), .inl (cA 4, 200, .inr (.inr (.inr (.inr w_74)))))] ++ va_pl w_75 w_76) hP hD [1, 2, 3, 0] [] rfl rfl (by decide) (by decide) hk1 hFc hP1 hD1
            obtain ⟨fm_83, hma_fm_83, hmb_fm_83, hP, hD⟩ := pl_merge hP hD
            have sq_fm_83 := stq_tr stq_0 st_82 hma_fm_83 hmb_fm_83
            have hle_fm_83 := sq_fm_83.1
            have hlf_fm_83 := st_82.1
            refine W.tight (cells' := (w_68.toInt - xSz.toInt).toNat) (slots' := 4 * (w_68.toInt - xSz.toInt).toNat) (by omega) (by have hch := ssum_chain hS0 hz1 (fun q h1 h2 => hk1 q h2 (na_of (fun k e hk => by rcases mem4 hk with h | h | h | h <;> omega) h1 h2)); omega) ?_
            clear hz1
            generalize H1 = H at hP hS ⊢
            replace hP : va_P (dC, dI) vwCl ([((ax 13), .inr (2, [.ref (ax 11), .ref (ax 14), .int w_68, .int w_69, .int w_70, .int xRt, .int w_71, .int w_72, .int w_73])), ((ax 11), .inr (5, [.ref (ax 12), .int xTz])), ((ax 12), .inl (cA 0, 200, .inl gB)), ((ax 14), .inl (cA 4, 200, .inr (.inr (.inr (.inr w_74)))))] ++ va_pl ([] ++ w_75) fm_83) H := hP
            replace hD : va_D A ([((ax 13), .inr (2, [.ref (ax 11), .ref (ax 14), .int w_68, .int w_69, .int w_70, .int xRt, .int w_71, .int w_72, .int w_73])), ((ax 11), .inr (5, [.ref (ax 12), .int xTz])), ((ax 12), .inl (cA 0, 200, .inl gB)), ((ax 14), .inl (cA 4, 200, .inr (.inr (.inr (.inr w_74)))))] ++ va_pl ([] ++ w_75) fm_83) := hD
            have hP9 := hP.part (cx := [((ax 13), .inr (2, [.ref (ax 11), .ref (ax 14), .int w_68, .int w_69, .int w_70, .int xRt, .int w_71, .int w_72, .int w_73])), ((ax 11), .inr (5, [.ref (ax 12), .int xTz])), ((ax 12), .inl (cA 0, 200, .inl gB)), ((ax 14), .inl (cA 4, 200, .inr (.inr (.inr (.inr w_74)))))]) [0, 1, 2, 3] rfl
            have hD9 := hD.part (cx := [((ax 13), .inr (2, [.ref (ax 11), .ref (ax 14), .int w_68, .int w_69, .int w_70, .int xRt, .int w_71, .int w_72, .int w_73])), ((ax 11), .inr (5, [.ref (ax 12), .int xTz])), ((ax 12), .inl (cA 0, 200, .inl gB)), ((ax 14), .inl (cA 4, 200, .inr (.inr (.inr (.inr w_74)))))]) [0, 1, 2, 3] (by decide) rfl
            refine W.know (fun hkn1 hkn2 => ?_)
            have hBx : H.size ≤ s.heap.size + (w_68.toInt - xSz.toInt).toNat ∧ ssum s.heap.size H ≤ 4 * (w_68.toInt - xSz.toInt).toNat := ⟨by omega, by omega⟩
            subst hQe
            refine W.widen (k := (200 - xSz.toInt).toNat) (n := (4 * (200 - xSz.toInt).toNat)) (by omega) (by omega) ?_
            have hans : (r_65 : Int32).toInt = r_65.toInt := rfl
            have hpost : (0 ≤ w_68.toInt ∧ w_68.toInt ≤ 200) ∧ (0 ≤ w_69.toInt ∧ w_69.toInt ≤ 200) ∧ (0 ≤ w_70.toInt ∧ w_70.toInt ≤ 200) ∧ (w_69.toInt ≤ w_70.toInt ∧ w_70.toInt ≤ xTz.toInt ∧ ((r_65 : Int32).toInt = 0 ∨ (r_65 : Int32).toInt = 1)) ∧ (tokOK gB w_69 w_70 xTz) ∧ (stq xSz.toInt w_68.toInt gSt w_74 ([] ++ w_75) fm_83) := ⟨by omega, by omega, by omega, by omega, tk_81, sq_fm_83⟩
            exact W.zret (v := r_65) hx hb hr (jnarZ (by omega)) (fun t ht hW => ⟨⟨r_65, (w_68, w_69, w_70, w_71, w_72, w_73, w_74, ([] ++ w_75), fm_83), rfl, hpost, by rw [ht]; exact hP9, hD9, by rw [ht]; exact hBx⟩, hS.F ht⟩) hS.2.2 dX2_readAtom_98
          · refine lv_tableIn (off := 38) (tgt := 92) hx hb dX2_readAtom_54 (by omega) (by omega) (by rw [hsw]; rfl) (by decide) ?_
            refine lv_aload_n hx hb dX2_readAtom_92 rfl (lv_at hl 1 rfl) ?_
            refine lv_iload_n hx hb dX2_readAtom_93 rfl (lv_at hl 0 rfl) ?_
            refine lv_iconst (v := 5) hx hb dX2_readAtom_94 (by decide) ?_
            have hk_84 : (5 : Int32).toInt = 5 := by decide
            have hPc := hP.sub (ws' := [((ax 13), .inr (2, [.ref (ax 11), .ref (ax 14), .int xSz, .int w_18, .int w_19, .int xRt, .int xRf, .int xRd, .int xLk])), ((ax 11), .inr (5, [.ref (ax 12), .int xTz])), ((ax 12), .inl (cA 0, 200, .inl gB)), ((ax 14), .inl (cA 4, 200, .inr (.inr (.inr (.inr gSt)))))]) [1, 2, 3, 0] rfl
            have hDc := hD.sub (ws' := [((ax 13), .inr (2, [.ref (ax 11), .ref (ax 14), .int xSz, .int w_18, .int w_19, .int xRt, .int xRf, .int xRd, .int xLk])), ((ax 11), .inr (5, [.ref (ax 12), .int xTz])), ((ax 12), .inl (cA 0, 200, .inl gB)), ((ax 14), .inl (cA 4, 200, .inr (.inr (.inr (.inr gSt)))))]) [1, 2, 3, 0] (by decide) rfl
            have hFc := va_free (wc := [((ax 13), .inr (2, [.ref (ax 11), .ref (ax 14), .int xSz, .int w_18, .int w_19, .int xRt, .int xRf, .int xRd, .int xLk])), ((ax 11), .inr (5, [.ref (ax 12), .int xTz])), ((ax 12), .inl (cA 0, 200, .inl gB)), ((ax 14), .inl (cA 4, 200, .inr (.inr (.inr (.inr gSt)))))]) hD hS hA [1, 2, 3, 0] rfl
            refine W.know (fun hkn1 hkn2 => ?_)
            have hS0 := hS.1
            refine va_calli (va_runV (As := [.int r_11, .int 5]) (rest := []) ⟨hx, hb, hml, hown, hts⟩ (k_X2_readNumbered l dC dI cA H.size ax xSz w_18 w_19 xRt xRf xRd xLk xTz gB gSt r_11 5 adK adV (by omega) (by omega) (by omega) (by omega) (by omega) i_gB (by omega) tk_23 (by omega) (by omega)) (cwV 2 hts gX2_readAtom_X2_readNumbered rfl rfl rfl (by decide +kernel) ⟨(show 3 + 1 ≤ FR + 7 by omega), (show 8 + (4 + 11) + 68 ≤ LO + 153 by omega)⟩) ⟨fun a U g mk q => by obtain ⟨q0, q1, qP, qK, qD, qN⟩ := q; exact ⟨q0, q1, qP, va_K.moved (u := U) (U := U.calling g mk a) (Vm.Alike.refl U.vm) qK, qD, qN.same rfl rfl⟩, va_recv hK hPc (ci := 2) (q0 := 0) rfl rfl, fun U hU hW => ⟨rfl, by rw [hU], by rw [hU]; exact hPc, va_K.moved hW.alike hK, hDc.weaken (fun _ _ _ _ => trivial), hSt.call hS hU hW hFc⟩⟩ rfl rfl hl.1 rfl (lv_room (Nat.le_of_ble_eq_true rfl)) dX2_readAtom_95 ⟨(show 0 + ((200 - xSz.toInt).toNat) ≤ (200 - xSz.toInt).toNat by omega), (show 0 + (4 * (200 - xSz.toInt).toNat) ≤ (4 * (200 - xSz.toInt).toNat) by omega)⟩) hS (fun q _ h => hFc q h) hFc (fun r_85 u_86 t H1 locs ht hvm hw_87 hB hz1 hk1 hS => ?_)
            obtain ⟨w_88, w_89, w_90, w_91, w_92, w_93, w_94, w_95, w_96⟩ := u_86
            try dsimp only at hw_87 hB
            obtain ⟨iv_97, iv_98, iv_99, po_100, tk_101, st_102⟩ := hw_87
            try simp only [hk_84] at po_100 tk_101 st_102
            obtain ⟨hP1, hD1, hX1⟩ := hB
            rw [ht] at hP1 hX1
            obtain ⟨hP, hD⟩ := va_joinQ (wr := []) (w1 := [((ax 13), .inr (2, [.ref (ax 11), .ref (ax 14), .int w_88, .int w_89, .int w_90, .int xRt, .int w_91, .int w_92, .int w_93])), ((ax 11), .inr (5, [.ref (ax 12), .int xTz])), ((ax 12), .inl (cA 0, 200, .inl gB)), ((ax 14), .inl (cA 4, 200, .inr (.inr (.inr (.inr w_94)))))] ++ va_pl w_95 w_96) hP hD [1, 2, 3, 0] [] rfl rfl (by decide) (by decide) hk1 hFc hP1 hD1
            obtain ⟨fm_103, hma_fm_103, hmb_fm_103, hP, hD⟩ := pl_merge hP hD
            have sq_fm_103 := stq_tr stq_0 st_102 hma_fm_103 hmb_fm_103
            have hle_fm_103 := sq_fm_103.1
            have hlf_fm_103 := st_102.1
            refine W.tight (cells' := (w_88.toInt - xSz.toInt).toNat) (slots' := 4 * (w_88.toInt - xSz.toInt).toNat) (by omega) (by have hch := ssum_chain hS0 hz1 (fun q h1 h2 => hk1 q h2 (na_of (fun k e hk => by rcases mem4 hk with h | h | h | h <;> omega) h1 h2)); omega) ?_
            clear hz1
            generalize H1 = H at hP hS ⊢
            replace hP : va_P (dC, dI) vwCl ([((ax 13), .inr (2, [.ref (ax 11), .ref (ax 14), .int w_88, .int w_89, .int w_90, .int xRt, .int w_91, .int w_92, .int w_93])), ((ax 11), .inr (5, [.ref (ax 12), .int xTz])), ((ax 12), .inl (cA 0, 200, .inl gB)), ((ax 14), .inl (cA 4, 200, .inr (.inr (.inr (.inr w_94)))))] ++ va_pl ([] ++ w_95) fm_103) H := hP
            replace hD : va_D A ([((ax 13), .inr (2, [.ref (ax 11), .ref (ax 14), .int w_88, .int w_89, .int w_90, .int xRt, .int w_91, .int w_92, .int w_93])), ((ax 11), .inr (5, [.ref (ax 12), .int xTz])), ((ax 12), .inl (cA 0, 200, .inl gB)), ((ax 14), .inl (cA 4, 200, .inr (.inr (.inr (.inr w_94)))))] ++ va_pl ([] ++ w_95) fm_103) := hD
            have hP9 := hP.part (cx := [((ax 13), .inr (2, [.ref (ax 11), .ref (ax 14), .int w_88, .int w_89, .int w_90, .int xRt, .int w_91, .int w_92, .int w_93])), ((ax 11), .inr (5, [.ref (ax 12), .int xTz])), ((ax 12), .inl (cA 0, 200, .inl gB)), ((ax 14), .inl (cA 4, 200, .inr (.inr (.inr (.inr w_94)))))]) [0, 1, 2, 3] rfl
            have hD9 := hD.part (cx := [((ax 13), .inr (2, [.ref (ax 11), .ref (ax 14), .int w_88, .int w_89, .int w_90, .int xRt, .int w_91, .int w_92, .int w_93])), ((ax 11), .inr (5, [.ref (ax 12), .int xTz])), ((ax 12), .inl (cA 0, 200, .inl gB)), ((ax 14), .inl (cA 4, 200, .inr (.inr (.inr (.inr w_94)))))]) [0, 1, 2, 3] (by decide) rfl
            refine W.know (fun hkn1 hkn2 => ?_)
            have hBx : H.size ≤ s.heap.size + (w_88.toInt - xSz.toInt).toNat ∧ ssum s.heap.size H ≤ 4 * (w_88.toInt - xSz.toInt).toNat := ⟨by omega, by omega⟩
            subst hQe
            refine W.widen (k := (200 - xSz.toInt).toNat) (n := (4 * (200 - xSz.toInt).toNat)) (by omega) (by omega) ?_
            have hans : (r_85 : Int32).toInt = r_85.toInt := rfl
            have hpost : (0 ≤ w_88.toInt ∧ w_88.toInt ≤ 200) ∧ (0 ≤ w_89.toInt ∧ w_89.toInt ≤ 200) ∧ (0 ≤ w_90.toInt ∧ w_90.toInt ≤ 200) ∧ (w_89.toInt ≤ w_90.toInt ∧ w_90.toInt ≤ xTz.toInt ∧ ((r_85 : Int32).toInt = 0 ∨ (r_85 : Int32).toInt = 1)) ∧ (tokOK gB w_89 w_90 xTz) ∧ (stq xSz.toInt w_88.toInt gSt w_94 ([] ++ w_95) fm_103) := ⟨by omega, by omega, by omega, by omega, tk_101, sq_fm_103⟩
            exact W.zret (v := r_85) hx hb hr (jnarZ (by omega)) (fun t ht hW => ⟨⟨r_85, (w_88, w_89, w_90, w_91, w_92, w_93, w_94, ([] ++ w_95), fm_103), rfl, hpost, by rw [ht]; exact hP9, hD9, by rw [ht]; exact hBx⟩, hS.F ht⟩) hS.2.2 dX2_readAtom_98
      · have dc_15 : r_11.toInt = (-1) := jI_eq c_15 rfl (by decide)
        refine lv_aload_n hx hb dX2_readAtom_44 rfl (lv_at hl 1 rfl) ?_
        have hPc := hP.sub (ws' := [((ax 13), .inr (2, [.ref (ax 11), .ref (ax 14), .int xSz, .int xPl, .int xBe, .int xRt, .int xRf, .int xRd, .int xLk]))]) [1] rfl
        have hDc := hD.sub (ws' := [((ax 13), .inr (2, [.ref (ax 11), .ref (ax 14), .int xSz, .int xPl, .int xBe, .int xRt, .int xRf, .int xRd, .int xLk]))]) [1] (by decide) rfl
        have hFc := va_free (wc := [((ax 13), .inr (2, [.ref (ax 11), .ref (ax 14), .int xSz, .int xPl, .int xBe, .int xRt, .int xRf, .int xRd, .int xLk]))]) hD hS hA [1] rfl
        refine va_calli (va_runV (As := []) (rest := []) ⟨hx, hb, hml, hown, hts⟩ (k_X2_stop l dC dI cA H.size ax xSz xPl xBe xRt xRf xRd xLk (by omega) (by omega) (by omega) (by omega)) (cwV 0 hts gX2_readAtom_X2_stop rfl rfl rfl (by decide +kernel) ⟨(show 0 + 1 ≤ FR + 7 by omega), (show 8 + (1 + 11) + 0 ≤ LO + 153 by omega)⟩) ⟨fun a U g mk q => by obtain ⟨q0, q1, qP, qK, qD, qN⟩ := q; exact ⟨q0, q1, qP, va_K.moved (u := U) (U := U.calling g mk a) (Vm.Alike.refl U.vm) qK, qD, qN.same rfl⟩, va_recv hK hPc (ci := 2) (q0 := 0) rfl rfl, fun U hU hW => ⟨rfl, by rw [hU], by rw [hU]; exact hPc, va_K.moved hW.alike hK, hDc.weaken (fun _ _ _ _ => trivial), hN.warm hW⟩⟩ rfl rfl hl.1 rfl (lv_room (Nat.le_of_ble_eq_true rfl)) dX2_readAtom_45 ⟨(show 0 + 0 ≤ (200 - xSz.toInt).toNat by omega), (show 0 + 0 ≤ (4 * (200 - xSz.toInt).toNat) by omega)⟩) hS (fun q _ h => hFc q h) hFc (fun r_104 u_105 t H1 locs ht hvm hw_106 hB hz1 hk1 hS => ?_)
        obtain ⟨w_107, rfl⟩ : ∃ z, z = u_105 := ⟨_, rfl⟩
        try dsimp only at hw_106 hB
        have hr9 := hw_106
        obtain ⟨hP1, hD1⟩ := hB
        rw [ht] at hP1
        obtain ⟨hP, hD⟩ := va_joinQ (wr := [((ax 14), .inl (cA 4, 200, .inr (.inr (.inr (.inr gSt))))), ((ax 11), .inr (5, [.ref (ax 12), .int xTz])), ((ax 12), .inl (cA 0, 200, .inl gB))]) (w1 := [((ax 13), .inr (2, [.ref (ax 11), .ref (ax 14), .int xSz, .int xPl, .int xBe, .int xRt, .int w_107, .int xRd, .int xLk]))]) hP hD [1] [0, 2, 3] rfl rfl (by decide) (by decide) hk1 hFc hP1 hD1
        clear hz1
        generalize H1 = H at hP hS ⊢
        replace hP : va_P (dC, dI) vwCl ([((ax 14), .inl (cA 4, 200, .inr (.inr (.inr (.inr gSt))))), ((ax 11), .inr (5, [.ref (ax 12), .int xTz])), ((ax 12), .inl (cA 0, 200, .inl gB)), ((ax 13), .inr (2, [.ref (ax 11), .ref (ax 14), .int xSz, .int xPl, .int xBe, .int xRt, .int w_107, .int xRd, .int xLk]))] ++ va_pl ([]) pfz) H := hP
        replace hD : va_D A ([((ax 14), .inl (cA 4, 200, .inr (.inr (.inr (.inr gSt))))), ((ax 11), .inr (5, [.ref (ax 12), .int xTz])), ((ax 12), .inl (cA 0, 200, .inl gB)), ((ax 13), .inr (2, [.ref (ax 11), .ref (ax 14), .int xSz, .int xPl, .int xBe, .int xRt, .int w_107, .int xRd, .int xLk]))] ++ va_pl ([]) pfz) := hD
        obtain rfl : 0 = r_104 := hr9.symm
        have hP9 := hP.part (cx := [((ax 13), .inr (2, [.ref (ax 11), .ref (ax 14), .int xSz, .int xPl, .int xBe, .int xRt, .int w_107, .int xRd, .int xLk])), ((ax 11), .inr (5, [.ref (ax 12), .int xTz])), ((ax 12), .inl (cA 0, 200, .inl gB)), ((ax 14), .inl (cA 4, 200, .inr (.inr (.inr (.inr gSt)))))]) [3, 1, 2, 0] rfl
        have hD9 := hD.part (cx := [((ax 13), .inr (2, [.ref (ax 11), .ref (ax 14), .int xSz, .int xPl, .int xBe, .int xRt, .int w_107, .int xRd, .int xLk])), ((ax 11), .inr (5, [.ref (ax 12), .int xTz])), ((ax 12), .inl (cA 0, 200, .inl gB)), ((ax 14), .inl (cA 4, 200, .inr (.inr (.inr (.inr gSt)))))]) [3, 1, 2, 0] (by decide) rfl
        refine W.know (fun hkn1 hkn2 => ?_)
        have hBx : H.size ≤ s.heap.size + (xSz.toInt - xSz.toInt).toNat ∧ ssum s.heap.size H ≤ 4 * (xSz.toInt - xSz.toInt).toNat := ⟨by omega, by omega⟩
        subst hQe
        refine W.widen (k := (200 - xSz.toInt).toNat) (n := (4 * (200 - xSz.toInt).toNat)) (by omega) (by omega) ?_
        have hans : (0 : Int32).toInt = 0 := (by decide)
        have hpost : (0 ≤ xSz.toInt ∧ xSz.toInt ≤ 200) ∧ (0 ≤ xPl.toInt ∧ xPl.toInt ≤ 200) ∧ (0 ≤ xBe.toInt ∧ xBe.toInt ≤ 200) ∧ (xPl.toInt ≤ xBe.toInt ∧ xBe.toInt ≤ xTz.toInt ∧ ((0 : Int32).toInt = 0 ∨ (0 : Int32).toInt = 1)) ∧ (tokOK gB xPl xBe xTz) ∧ (stq xSz.toInt xSz.toInt gSt gSt ([]) pfz) := ⟨by omega, by omega, by omega, by omega, htk, stq_0⟩
        exact W.zret (v := 0) hx hb hr (by decide) (fun t ht hW => ⟨⟨0, (xSz, xPl, xBe, w_107, xRd, xLk, gSt, [], pfz), rfl, hpost, by rw [ht]; exact hP9, hD9, by rw [ht]; exact hBx⟩, hS.F ht⟩) hS.2.2 dX2_readAtom_48
    · have dc_10 : ¬ r_6.toInt = 0 := jI_ne c_10 rfl (by decide)
      refine lv_aload_n hx hb dX2_readAtom_28 rfl (lv_at hl 0 rfl) ?_
      refine lv_iload_n hx hb dX2_readAtom_29 rfl (lv_at hl 1 rfl) ?_
      have hPc := hP.sub (ws' := [((ax 13), .inr (2, [.ref (ax 11), .ref (ax 14), .int xSz, .int xPl, .int xBe, .int xRt, .int xRf, .int xRd, .int xLk])), ((ax 11), .inr (5, [.ref (ax 12), .int xTz])), ((ax 12), .inl (cA 0, 200, .inl gB)), ((ax 14), .inl (cA 4, 200, .inr (.inr (.inr (.inr gSt)))))]) [1, 2, 3, 0] rfl
      have hDc := hD.sub (ws' := [((ax 13), .inr (2, [.ref (ax 11), .ref (ax 14), .int xSz, .int xPl, .int xBe, .int xRt, .int xRf, .int xRd, .int xLk])), ((ax 11), .inr (5, [.ref (ax 12), .int xTz])), ((ax 12), .inl (cA 0, 200, .inl gB)), ((ax 14), .inl (cA 4, 200, .inr (.inr (.inr (.inr gSt)))))]) [1, 2, 3, 0] (by decide) rfl
      have hFc := va_free (wc := [((ax 13), .inr (2, [.ref (ax 11), .ref (ax 14), .int xSz, .int xPl, .int xBe, .int xRt, .int xRf, .int xRd, .int xLk])), ((ax 11), .inr (5, [.ref (ax 12), .int xTz])), ((ax 12), .inl (cA 0, 200, .inl gB)), ((ax 14), .inl (cA 4, 200, .inr (.inr (.inr (.inr gSt)))))]) hD hS hA [1, 2, 3, 0] rfl
      refine W.know (fun hkn1 hkn2 => ?_)
      have hS0 := hS.1
      refine va_calli (va_runV (As := [.int dp]) (rest := []) ⟨hx, hb, hml, hown, hts⟩ (k_X2_readBracket l dC dI cA H.size ax xSz xPl xBe xRt xRf xRd xLk xTz gB gSt dp adK adV rl FR LO (by omega) (by omega) (by omega) (by omega) (by omega) i_gB hbe htk hdp hop ih) (cwV 1 hts gX2_readAtom_X2_readBracket rfl rfl rfl (by decide +kernel) ⟨(show (FR + 6) + 1 ≤ FR + 7 by omega), (show 8 + (2 + 11) + (LO + 129) ≤ LO + 153 by omega)⟩) ⟨fun a U g mk q => by obtain ⟨q0, q1, qP, qK, qD, qN⟩ := q; exact ⟨q0, q1, qP, va_K.moved (u := U) (U := U.calling g mk a) (Vm.Alike.refl U.vm) qK, qD, qN.same rfl rfl⟩, va_recv hK hPc (ci := 2) (q0 := 0) rfl rfl, fun U hU hW => ⟨rfl, by rw [hU], by rw [hU]; exact hPc, va_K.moved hW.alike hK, hDc.weaken (fun _ _ _ _ => trivial), hSt.call hS hU hW hFc⟩⟩ rfl rfl hl.1 rfl (lv_room (Nat.le_of_ble_eq_true rfl)) dX2_readAtom_30 ⟨(show 0 + ((200 - xSz.toInt).toNat) ≤ (200 - xSz.toInt).toNat by omega), (show 0 + (4 * (200 - xSz.toInt).toNat) ≤ (4 * (200 - xSz.toInt).toNat) by omega)⟩) hS (fun q _ h => hFc q h) hFc (fun r_108 u_109 t H1 locs ht hvm hw_110 hB hz1 hk1 hS => ?_)
      obtain ⟨w_111, w_112, w_113, w_114, w_115, w_116, w_117, w_118, w_119⟩ := u_109
      try dsimp only at hw_110 hB
      obtain ⟨iv_120, iv_121, iv_122, po_123, tk_124, st_125⟩ := hw_110
      obtain ⟨hP1, hD1, hX1⟩ := hB
      rw [ht] at hP1 hX1
      obtain ⟨hP, hD⟩ := va_joinQ (wr := []) (w1 := [((ax 13), .inr (2, [.ref (ax 11), .ref (ax 14), .int w_111, .int w_112, .int w_113, .int xRt, .int w_114, .int w_115, .int w_116])), ((ax 11), .inr (5, [.ref (ax 12), .int xTz])), ((ax 12), .inl (cA 0, 200, .inl gB)), ((ax 14), .inl (cA 4, 200, .inr (.inr (.inr (.inr w_117)))))] ++ va_pl w_118 w_119) hP hD [1, 2, 3, 0] [] rfl rfl (by decide) (by decide) hk1 hFc hP1 hD1
      obtain ⟨fm_126, hma_fm_126, hmb_fm_126, hP, hD⟩ := pl_merge hP hD
      have sq_fm_126 := stq_tr stq_0 st_125 hma_fm_126 hmb_fm_126
      have hle_fm_126 := sq_fm_126.1
      have hlf_fm_126 := st_125.1
      refine W.tight (cells' := (w_111.toInt - xSz.toInt).toNat) (slots' := 4 * (w_111.toInt - xSz.toInt).toNat) (by omega) (by have hch := ssum_chain hS0 hz1 (fun q h1 h2 => hk1 q h2 (na_of (fun k e hk => by rcases mem4 hk with h | h | h | h <;> omega) h1 h2)); omega) ?_
      clear hz1
      generalize H1 = H at hP hS ⊢
      replace hP : va_P (dC, dI) vwCl ([((ax 13), .inr (2, [.ref (ax 11), .ref (ax 14), .int w_111, .int w_112, .int w_113, .int xRt, .int w_114, .int w_115, .int w_116])), ((ax 11), .inr (5, [.ref (ax 12), .int xTz])), ((ax 12), .inl (cA 0, 200, .inl gB)), ((ax 14), .inl (cA 4, 200, .inr (.inr (.inr (.inr w_117)))))] ++ va_pl ([] ++ w_118) fm_126) H := hP
      replace hD : va_D A ([((ax 13), .inr (2, [.ref (ax 11), .ref (ax 14), .int w_111, .int w_112, .int w_113, .int xRt, .int w_114, .int w_115, .int w_116])), ((ax 11), .inr (5, [.ref (ax 12), .int xTz])), ((ax 12), .inl (cA 0, 200, .inl gB)), ((ax 14), .inl (cA 4, 200, .inr (.inr (.inr (.inr w_117)))))] ++ va_pl ([] ++ w_118) fm_126) := hD
      have hP9 := hP.part (cx := [((ax 13), .inr (2, [.ref (ax 11), .ref (ax 14), .int w_111, .int w_112, .int w_113, .int xRt, .int w_114, .int w_115, .int w_116])), ((ax 11), .inr (5, [.ref (ax 12), .int xTz])), ((ax 12), .inl (cA 0, 200, .inl gB)), ((ax 14), .inl (cA 4, 200, .inr (.inr (.inr (.inr w_117)))))]) [0, 1, 2, 3] rfl
      have hD9 := hD.part (cx := [((ax 13), .inr (2, [.ref (ax 11), .ref (ax 14), .int w_111, .int w_112, .int w_113, .int xRt, .int w_114, .int w_115, .int w_116])), ((ax 11), .inr (5, [.ref (ax 12), .int xTz])), ((ax 12), .inl (cA 0, 200, .inl gB)), ((ax 14), .inl (cA 4, 200, .inr (.inr (.inr (.inr w_117)))))]) [0, 1, 2, 3] (by decide) rfl
      refine W.know (fun hkn1 hkn2 => ?_)
      have hBx : H.size ≤ s.heap.size + (w_111.toInt - xSz.toInt).toNat ∧ ssum s.heap.size H ≤ 4 * (w_111.toInt - xSz.toInt).toNat := ⟨by omega, by omega⟩
      subst hQe
      refine W.widen (k := (200 - xSz.toInt).toNat) (n := (4 * (200 - xSz.toInt).toNat)) (by omega) (by omega) ?_
      have hans : (r_108 : Int32).toInt = r_108.toInt := rfl
      have hpost : (0 ≤ w_111.toInt ∧ w_111.toInt ≤ 200) ∧ (0 ≤ w_112.toInt ∧ w_112.toInt ≤ 200) ∧ (0 ≤ w_113.toInt ∧ w_113.toInt ≤ 200) ∧ (w_112.toInt ≤ w_113.toInt ∧ w_113.toInt ≤ xTz.toInt ∧ ((r_108 : Int32).toInt = 0 ∨ (r_108 : Int32).toInt = 1)) ∧ (tokOK gB w_112 w_113 xTz) ∧ (stq xSz.toInt w_111.toInt gSt w_117 ([] ++ w_118) fm_126) := ⟨by omega, by omega, by omega, by omega, tk_124, sq_fm_126⟩
      exact W.zret (v := r_108) hx hb hr (jnarZ (by omega)) (fun t ht hW => ⟨⟨r_108, (w_111, w_112, w_113, w_114, w_115, w_116, w_117, ([] ++ w_118), fm_126), rfl, hpost, by rw [ht]; exact hP9, hD9, by rw [ht]; exact hBx⟩, hS.F ht⟩) hS.2.2 dX2_readAtom_33
  · have dc_5 : ¬ r_1.toInt = 0 := jI_ne c_5 rfl (by decide)
    refine lv_aload_n hx hb dX2_readAtom_11 rfl (lv_at hl 0 rfl) ?_
    refine lv_iconst (v := 0) hx hb dX2_readAtom_12 (by decide) ?_
    refine lv_ldc hx hb hown (hts (.constant RX2 85 (1000000)) (by decide +kernel)) dX2_readAtom_13 ?_
    have hk_127 : (0 : Int32).toInt = 0 := by decide
    have hk_128 : (1000000 : Int32).toInt = 1000000 := by decide
    have hPc := hP.sub (ws' := [((ax 13), .inr (2, [.ref (ax 11), .ref (ax 14), .int xSz, .int xPl, .int xBe, .int xRt, .int xRf, .int xRd, .int xLk])), ((ax 11), .inr (5, [.ref (ax 12), .int xTz])), ((ax 12), .inl (cA 0, 200, .inl gB)), ((ax 14), .inl (cA 4, 200, .inr (.inr (.inr (.inr gSt)))))]) [1, 2, 3, 0] rfl
    have hDc := hD.sub (ws' := [((ax 13), .inr (2, [.ref (ax 11), .ref (ax 14), .int xSz, .int xPl, .int xBe, .int xRt, .int xRf, .int xRd, .int xLk])), ((ax 11), .inr (5, [.ref (ax 12), .int xTz])), ((ax 12), .inl (cA 0, 200, .inl gB)), ((ax 14), .inl (cA 4, 200, .inr (.inr (.inr (.inr gSt)))))]) [1, 2, 3, 0] (by decide) rfl
    have hFc := va_free (wc := [((ax 13), .inr (2, [.ref (ax 11), .ref (ax 14), .int xSz, .int xPl, .int xBe, .int xRt, .int xRf, .int xRd, .int xLk])), ((ax 11), .inr (5, [.ref (ax 12), .int xTz])), ((ax 12), .inl (cA 0, 200, .inl gB)), ((ax 14), .inl (cA 4, 200, .inr (.inr (.inr (.inr gSt)))))]) hD hS hA [1, 2, 3, 0] rfl
    refine W.know (fun hkn1 hkn2 => ?_)
    have hS0 := hS.1
    refine va_calli (va_runV (As := [.int 0, .int 1000000]) (rest := []) ⟨hx, hb, hml, hown, hts⟩ (k_X2_readNumbered l dC dI cA H.size ax xSz xPl xBe xRt xRf xRd xLk xTz gB gSt 0 1000000 adK adV (by omega) (by omega) (by omega) (by omega) (by omega) i_gB hbe htk (by omega) (by omega)) (cwV 2 hts gX2_readAtom_X2_readNumbered rfl rfl rfl (by decide +kernel) ⟨(show 3 + 1 ≤ FR + 7 by omega), (show 8 + (4 + 11) + 68 ≤ LO + 153 by omega)⟩) ⟨fun a U g mk q => by obtain ⟨q0, q1, qP, qK, qD, qN⟩ := q; exact ⟨q0, q1, qP, va_K.moved (u := U) (U := U.calling g mk a) (Vm.Alike.refl U.vm) qK, qD, qN.same rfl rfl⟩, va_recv hK hPc (ci := 2) (q0 := 0) rfl rfl, fun U hU hW => ⟨rfl, by rw [hU], by rw [hU]; exact hPc, va_K.moved hW.alike hK, hDc.weaken (fun _ _ _ _ => trivial), hSt.call hS hU hW hFc⟩⟩ rfl rfl hl.1 rfl (lv_room (Nat.le_of_ble_eq_true rfl)) dX2_readAtom_15 ⟨(show 0 + ((200 - xSz.toInt).toNat) ≤ (200 - xSz.toInt).toNat by omega), (show 0 + (4 * (200 - xSz.toInt).toNat) ≤ (4 * (200 - xSz.toInt).toNat) by omega)⟩) hS (fun q _ h => hFc q h) hFc (fun r_129 u_130 t H1 locs ht hvm hw_131 hB hz1 hk1 hS => ?_)
    obtain ⟨w_132, w_133, w_134, w_135, w_136, w_137, w_138, w_139, w_140⟩ := u_130
    try dsimp only at hw_131 hB
    obtain ⟨iv_141, iv_142, iv_143, po_144, tk_145, st_146⟩ := hw_131
    try simp only [hk_127, hk_128] at po_144 tk_145 st_146
    obtain ⟨hP1, hD1, hX1⟩ := hB
    rw [ht] at hP1 hX1
    obtain ⟨hP, hD⟩ := va_joinQ (wr := []) (w1 := [((ax 13), .inr (2, [.ref (ax 11), .ref (ax 14), .int w_132, .int w_133, .int w_134, .int xRt, .int w_135, .int w_136, .int w_137])), ((ax 11), .inr (5, [.ref (ax 12), .int xTz])), ((ax 12), .inl (cA 0, 200, .inl gB)), ((ax 14), .inl (cA 4, 200, .inr (.inr (.inr (.inr w_138)))))] ++ va_pl w_139 w_140) hP hD [1, 2, 3, 0] [] rfl rfl (by decide) (by decide) hk1 hFc hP1 hD1
    obtain ⟨fm_147, hma_fm_147, hmb_fm_147, hP, hD⟩ := pl_merge hP hD
    have sq_fm_147 := stq_tr stq_0 st_146 hma_fm_147 hmb_fm_147
    have hle_fm_147 := sq_fm_147.1
    have hlf_fm_147 := st_146.1
    refine W.tight (cells' := (w_132.toInt - xSz.toInt).toNat) (slots' := 4 * (w_132.toInt - xSz.toInt).toNat) (by omega) (by have hch := ssum_chain hS0 hz1 (fun q h1 h2 => hk1 q h2 (na_of (fun k e hk => by rcases mem4 hk with h | h | h | h <;> omega) h1 h2)); omega) ?_
    clear hz1
    generalize H1 = H at hP hS ⊢
    replace hP : va_P (dC, dI) vwCl ([((ax 13), .inr (2, [.ref (ax 11), .ref (ax 14), .int w_132, .int w_133, .int w_134, .int xRt, .int w_135, .int w_136, .int w_137])), ((ax 11), .inr (5, [.ref (ax 12), .int xTz])), ((ax 12), .inl (cA 0, 200, .inl gB)), ((ax 14), .inl (cA 4, 200, .inr (.inr (.inr (.inr w_138)))))] ++ va_pl ([] ++ w_139) fm_147) H := hP
    replace hD : va_D A ([((ax 13), .inr (2, [.ref (ax 11), .ref (ax 14), .int w_132, .int w_133, .int w_134, .int xRt, .int w_135, .int w_136, .int w_137])), ((ax 11), .inr (5, [.ref (ax 12), .int xTz])), ((ax 12), .inl (cA 0, 200, .inl gB)), ((ax 14), .inl (cA 4, 200, .inr (.inr (.inr (.inr w_138)))))] ++ va_pl ([] ++ w_139) fm_147) := hD
    have hP9 := hP.part (cx := [((ax 13), .inr (2, [.ref (ax 11), .ref (ax 14), .int w_132, .int w_133, .int w_134, .int xRt, .int w_135, .int w_136, .int w_137])), ((ax 11), .inr (5, [.ref (ax 12), .int xTz])), ((ax 12), .inl (cA 0, 200, .inl gB)), ((ax 14), .inl (cA 4, 200, .inr (.inr (.inr (.inr w_138)))))]) [0, 1, 2, 3] rfl
    have hD9 := hD.part (cx := [((ax 13), .inr (2, [.ref (ax 11), .ref (ax 14), .int w_132, .int w_133, .int w_134, .int xRt, .int w_135, .int w_136, .int w_137])), ((ax 11), .inr (5, [.ref (ax 12), .int xTz])), ((ax 12), .inl (cA 0, 200, .inl gB)), ((ax 14), .inl (cA 4, 200, .inr (.inr (.inr (.inr w_138)))))]) [0, 1, 2, 3] (by decide) rfl
    refine W.know (fun hkn1 hkn2 => ?_)
    have hBx : H.size ≤ s.heap.size + (w_132.toInt - xSz.toInt).toNat ∧ ssum s.heap.size H ≤ 4 * (w_132.toInt - xSz.toInt).toNat := ⟨by omega, by omega⟩
    subst hQe
    refine W.widen (k := (200 - xSz.toInt).toNat) (n := (4 * (200 - xSz.toInt).toNat)) (by omega) (by omega) ?_
    have hans : (r_129 : Int32).toInt = r_129.toInt := rfl
    have hpost : (0 ≤ w_132.toInt ∧ w_132.toInt ≤ 200) ∧ (0 ≤ w_133.toInt ∧ w_133.toInt ≤ 200) ∧ (0 ≤ w_134.toInt ∧ w_134.toInt ≤ 200) ∧ (w_133.toInt ≤ w_134.toInt ∧ w_134.toInt ≤ xTz.toInt ∧ ((r_129 : Int32).toInt = 0 ∨ (r_129 : Int32).toInt = 1)) ∧ (tokOK gB w_133 w_134 xTz) ∧ (stq xSz.toInt w_132.toInt gSt w_138 ([] ++ w_139) fm_147) := ⟨by omega, by omega, by omega, by omega, tk_145, sq_fm_147⟩
    exact W.zret (v := r_129) hx hb hr (jnarZ (by omega)) (fun t ht hW => ⟨⟨r_129, (w_132, w_133, w_134, w_135, w_136, w_137, w_138, ([] ++ w_139), fm_147), rfl, hpost, by rw [ht]; exact hP9, hD9, by rw [ht]; exact hBx⟩, hS.F ht⟩) hS.2.2 dX2_readAtom_18

set_option maxHeartbeats 8000000 in
set_option maxRecDepth 100000 in
theorem k_X2_readPart (l : Launch) (dC : Nat → ClassId) (dI : Nat → Nat → Nat) (cA : Nat → ClassId) (sz : Nat) (ax : Nat → Nat) (xSz : Int32) (xPl : Int32) (xBe : Int32) (xRt : Int32) (xRf : Int32) (xRd : Int32) (xLk : Int32) (xTz : Int32) (gB : Nat → Int32) (gSt : Nat → Option Nat) (dp : Int32) (adK : Nat → Nat) (adV : Nat → Nat) (rl : Nat) (FR : Nat) (LO : Nat) (i_xSz : 0 ≤ xSz.toInt ∧ xSz.toInt ≤ 200) (i_xPl : 0 ≤ xPl.toInt ∧ xPl.toInt ≤ 200) (i_xBe : 0 ≤ xBe.toInt ∧ xBe.toInt ≤ 200) (i_xRt : 0 ≤ xRt.toInt ∧ xRt.toInt ≤ 20) (i_xTz : 0 ≤ xTz.toInt ∧ xTz.toInt ≤ 200) (i_gB : inB 0 255 200 gB) (hbe : xPl.toInt ≤ xBe.toInt ∧ xBe.toInt ≤ xTz.toInt) (htk : tokOK gB xPl xBe xTz) (hdp : 0 ≤ dp.toInt ∧ dp.toInt ≤ 8) (hop : 8 - dp.toInt ≤ (rl : Int)) (ih : 0 < rl → XSumC l dC dI cA (rl - 1) FR LO) : Met l yX2_readPart wsX2_readPart ({ frames := FR + 8, cells := (200 - xSz.toInt).toNat, slots := (4 * (200 - xSz.toInt).toNat), locals := LO + 175 }) (va_Pc [.ref (ax 13), .int dp] (fun U => U.heap.size = sz ∧ va_P (dC, dI) vwCl [((ax 13), .inr (2, [.ref (ax 11), .ref (ax 14), .int xSz, .int xPl, .int xBe, .int xRt, .int xRf, .int xRd, .int xLk])), ((ax 11), .inr (5, [.ref (ax 12), .int xTz])), ((ax 12), .inl (cA 0, 200, .inl gB)), ((ax 14), .inl (cA 4, 200, .inr (.inr (.inr (.inr gSt)))))] U.heap ∧ va_K (dC, dI) vwCl (tyL cA) U ∧ va_D (fun _ => True) [((ax 13), .inr (2, [.ref (ax 11), .ref (ax 14), .int xSz, .int xPl, .int xBe, .int xRt, .int xRf, .int xRd, .int xLk])), ((ax 11), .inr (5, [.ref (ax 12), .int xTz])), ((ax 12), .inl (cA 0, 200, .inl gB)), ((ax 14), .inl (cA 4, 200, .inr (.inr (.inr (.inr gSt)))))] ∧ st_ok adK adV (va_A [((ax 13), .inr (2, [.ref (ax 11), .ref (ax 14), .int xSz, .int xPl, .int xBe, .int xRt, .int xRf, .int xRd, .int xLk])), ((ax 11), .inr (5, [.ref (ax 12), .int xTz])), ((ax 12), .inl (cA 0, 200, .inl gB)), ((ax 14), .inl (cA 4, 200, .inr (.inr (.inr (.inr gSt)))))] sz) U)) (va_Qi (fun (r : Int32) (u : Int32 × Int32 × Int32 × Int32 × Int32 × Int32 × (Nat → Option Nat) × (List Nat) × (Nat → va_E)) => (0 ≤ u.1.toInt ∧ u.1.toInt ≤ 200) ∧ (0 ≤ u.2.1.toInt ∧ u.2.1.toInt ≤ 200) ∧ (0 ≤ u.2.2.1.toInt ∧ u.2.2.1.toInt ≤ 200) ∧ (u.2.1.toInt ≤ u.2.2.1.toInt ∧ u.2.2.1.toInt ≤ xTz.toInt ∧ (r.toInt = 0 ∨ r.toInt = 1)) ∧ (tokOK gB u.2.1 u.2.2.1 xTz) ∧ (stq xSz.toInt u.1.toInt gSt u.2.2.2.2.2.2.1 u.2.2.2.2.2.2.2.1 u.2.2.2.2.2.2.2.2)) (fun (u : Int32 × Int32 × Int32 × Int32 × Int32 × Int32 × (Nat → Option Nat) × (List Nat) × (Nat → va_E)) (t : State) => va_P (dC, dI) vwCl ([((ax 13), .inr (2, [.ref (ax 11), .ref (ax 14), .int u.1, .int u.2.1, .int u.2.2.1, .int xRt, .int u.2.2.2.1, .int u.2.2.2.2.1, .int u.2.2.2.2.2.1])), ((ax 11), .inr (5, [.ref (ax 12), .int xTz])), ((ax 12), .inl (cA 0, 200, .inl gB)), ((ax 14), .inl (cA 4, 200, .inr (.inr (.inr (.inr u.2.2.2.2.2.2.1)))))] ++ va_pl u.2.2.2.2.2.2.2.1 u.2.2.2.2.2.2.2.2) t.heap ∧ va_D (va_A [((ax 13), .inr (2, [.ref (ax 11), .ref (ax 14), .int xSz, .int xPl, .int xBe, .int xRt, .int xRf, .int xRd, .int xLk])), ((ax 11), .inr (5, [.ref (ax 12), .int xTz])), ((ax 12), .inl (cA 0, 200, .inl gB)), ((ax 14), .inl (cA 4, 200, .inr (.inr (.inr (.inr gSt)))))] sz) ([((ax 13), .inr (2, [.ref (ax 11), .ref (ax 14), .int u.1, .int u.2.1, .int u.2.2.1, .int xRt, .int u.2.2.2.1, .int u.2.2.2.2.1, .int u.2.2.2.2.2.1])), ((ax 11), .inr (5, [.ref (ax 12), .int xTz])), ((ax 12), .inl (cA 0, 200, .inl gB)), ((ax 14), .inl (cA 4, 200, .inr (.inr (.inr (.inr u.2.2.2.2.2.2.1)))))] ++ va_pl u.2.2.2.2.2.2.2.1 u.2.2.2.2.2.2.2.2) ∧ (t.heap.size ≤ sz + (u.1.toInt - xSz.toInt).toNat ∧ ssum sz t.heap ≤ 4 * (u.1.toInt - xSz.toInt).toNat)) (va_A [((ax 13), .inr (2, [.ref (ax 11), .ref (ax 14), .int xSz, .int xPl, .int xBe, .int xRt, .int xRf, .int xRd, .int xLk])), ((ax 11), .inr (5, [.ref (ax 12), .int xTz])), ((ax 12), .inl (cA 0, 200, .inl gB)), ((ax 14), .inl (cA 4, 200, .inr (.inr (.inr (.inr gSt)))))] sz)) ((200 - xSz.toInt).toNat) (4 * (200 - xSz.toInt).toNat) (va_A [((ax 13), .inr (2, [.ref (ax 11), .ref (ax 14), .int xSz, .int xPl, .int xBe, .int xRt, .int xRf, .int xRd, .int xLk])), ((ax 11), .inr (5, [.ref (ax 12), .int xTz])), ((ax 12), .inl (cA 0, 200, .inl gB)), ((ax 14), .inl (cA 4, 200, .inr (.inr (.inr (.inr gSt)))))] sz) := by
  refine Met.ofW (cc := cX2_readPart) (maxL := 2) (ret := (some .boolean)) (by decide) rfl ?_
  intro p e s m args below meth c s₁ B hml hv
  obtain ⟨rfl, hsz, hP, hK, hD0, hN⟩ := hv
  have hx := B.exec
  have hb := B.bytes
  have hr := B.returns
  have hts := atoms_spec (ws := wsX2_readPart) B.pre
  have hown : s.vm.findClass RX2 = some m.cls := findClass_of_methodNamed B.named
  have hlocks := B.notSynchronized
  subst hsz
  have hD := hD0.self (sz := s.heap.size)
  generalize hAe : va_A [((ax 13), .inr (2, [.ref (ax 11), .ref (ax 14), .int xSz, .int xPl, .int xBe, .int xRt, .int xRf, .int xRd, .int xLk])), ((ax 11), .inr (5, [.ref (ax 12), .int xTz])), ((ax 12), .inl (cA 0, 200, .inl gB)), ((ax 14), .inl (cA 4, 200, .inr (.inr (.inr (.inr gSt)))))] s.heap.size = A at hD hN ⊢
  have hSt := hN
  have hN := hSt.1
  have hA : ∀ q : Nat, s.heap.size ≤ q → A q := fun q h => by rw [← hAe]; exact Or.inr h
  have hS : va_S A s.heap s.heap [] := va_S.rf
  have hlt0 : (ax 13) < s.heap.size := (hP 0 _ rfl).lt
  have hlt1 : (ax 11) < s.heap.size := (hP 1 _ rfl).lt
  have hlt2 : (ax 12) < s.heap.size := (hP 2 _ rfl).lt
  have hlt3 : (ax 14) < s.heap.size := (hP 3 _ rfl).lt
  obtain ⟨pfz, hpfz⟩ : ∃ f : Nat → va_E, f = fun _ => .inr (0, []) := ⟨_, rfl⟩
  replace hP : va_P (dC, dI) vwCl ([((ax 13), .inr (2, [.ref (ax 11), .ref (ax 14), .int xSz, .int xPl, .int xBe, .int xRt, .int xRf, .int xRd, .int xLk])), ((ax 11), .inr (5, [.ref (ax 12), .int xTz])), ((ax 12), .inl (cA 0, 200, .inl gB)), ((ax 14), .inl (cA 4, 200, .inr (.inr (.inr (.inr gSt)))))] ++ va_pl ([]) pfz) s.heap := hP
  replace hD : va_D A ([((ax 13), .inr (2, [.ref (ax 11), .ref (ax 14), .int xSz, .int xPl, .int xBe, .int xRt, .int xRf, .int xRd, .int xLk])), ((ax 11), .inr (5, [.ref (ax 12), .int xTz])), ((ax 12), .inl (cA 0, 200, .inl gB)), ((ax 14), .inl (cA 4, 200, .inr (.inr (.inr (.inr gSt)))))] ++ va_pl ([]) pfz) := hD
  have hl := lv_entry ([.ref (ax 13), .int dp]) (n := 2) (Nat.le_of_ble_eq_true rfl)
  rw [lg_entry_eq]
  generalize (lg_sl ([.ref (ax 13), .int dp]) ++ List.replicate (2 - (lg_sl ([.ref (ax 13), .int dp])).length) Slot.unset).toArray = ls at hl ⊢
  have hl : lv_has ls 2 [(0, .ref (ax 13)), (1, .int dp)] := hl
  generalize hQe : MQ below _ _ _ _ _ _ = QQ
  refine lv_aload_n hx hb dX2_readPart_0 rfl (lv_at hl 0 rfl) ?_
  refine lv_iload_n hx hb dX2_readPart_1 rfl (lv_at hl 1 rfl) ?_
  have hPc := hP.sub (ws' := [((ax 13), .inr (2, [.ref (ax 11), .ref (ax 14), .int xSz, .int xPl, .int xBe, .int xRt, .int xRf, .int xRd, .int xLk])), ((ax 11), .inr (5, [.ref (ax 12), .int xTz])), ((ax 12), .inl (cA 0, 200, .inl gB)), ((ax 14), .inl (cA 4, 200, .inr (.inr (.inr (.inr gSt)))))]) [0, 1, 2, 3] rfl
  have hDc := hD.sub (ws' := [((ax 13), .inr (2, [.ref (ax 11), .ref (ax 14), .int xSz, .int xPl, .int xBe, .int xRt, .int xRf, .int xRd, .int xLk])), ((ax 11), .inr (5, [.ref (ax 12), .int xTz])), ((ax 12), .inl (cA 0, 200, .inl gB)), ((ax 14), .inl (cA 4, 200, .inr (.inr (.inr (.inr gSt)))))]) [0, 1, 2, 3] (by decide) rfl
  have hFc := va_free (wc := [((ax 13), .inr (2, [.ref (ax 11), .ref (ax 14), .int xSz, .int xPl, .int xBe, .int xRt, .int xRf, .int xRd, .int xLk])), ((ax 11), .inr (5, [.ref (ax 12), .int xTz])), ((ax 12), .inl (cA 0, 200, .inl gB)), ((ax 14), .inl (cA 4, 200, .inr (.inr (.inr (.inr gSt)))))]) hD hS hA [0, 1, 2, 3] rfl
  refine W.know (fun hkn1 hkn2 => ?_)
  have hS0 := hS.1
  refine va_calli (va_runV (As := [.int dp]) (rest := []) ⟨hx, hb, hml, hown, hts⟩ (k_X2_readAtom l dC dI cA s.heap.size ax xSz xPl xBe xRt xRf xRd xLk xTz gB gSt dp adK adV rl FR LO (by omega) (by omega) (by omega) (by omega) (by omega) i_gB hbe htk hdp hop ih) (cwV 1 hts gX2_readPart_X2_readAtom rfl rfl rfl (by decide +kernel) ⟨(show (FR + 7) + 1 ≤ FR + 8 by omega), (show 8 + (3 + 11) + (LO + 153) ≤ LO + 175 by omega)⟩) ⟨fun a U g mk q => by obtain ⟨q0, q1, qP, qK, qD, qN⟩ := q; exact ⟨q0, q1, qP, va_K.moved (u := U) (U := U.calling g mk a) (Vm.Alike.refl U.vm) qK, qD, qN.same rfl rfl⟩, va_recv hK hPc (ci := 2) (q0 := 0) rfl rfl, fun U hU hW => ⟨rfl, by rw [hU], by rw [hU]; exact hPc, va_K.moved hW.alike hK, hDc.weaken (fun _ _ _ _ => trivial), hSt.call hS hU hW hFc⟩⟩ rfl rfl hl.1 rfl (lv_room (Nat.le_of_ble_eq_true rfl)) dX2_readPart_2 ⟨(show 0 + ((200 - xSz.toInt).toNat) ≤ (200 - xSz.toInt).toNat by omega), (show 0 + (4 * (200 - xSz.toInt).toNat) ≤ (4 * (200 - xSz.toInt).toNat) by omega)⟩) hS (fun q _ h => hFc q h) hFc (fun r_1 u_2 t H1 locs ht hvm hw_3 hB hz1 hk1 hS => ?_)
  obtain ⟨w_4, w_5, w_6, w_7, w_8, w_9, w_10, w_11, w_12⟩ := u_2
  try dsimp only at hw_3 hB
  obtain ⟨iv_13, iv_14, iv_15, po_16, tk_17, st_18⟩ := hw_3
  obtain ⟨hP1, hD1, hX1⟩ := hB
  rw [ht] at hP1 hX1
  obtain ⟨hP, hD⟩ := va_joinQ (wr := []) (w1 := [((ax 13), .inr (2, [.ref (ax 11), .ref (ax 14), .int w_4, .int w_5, .int w_6, .int xRt, .int w_7, .int w_8, .int w_9])), ((ax 11), .inr (5, [.ref (ax 12), .int xTz])), ((ax 12), .inl (cA 0, 200, .inl gB)), ((ax 14), .inl (cA 4, 200, .inr (.inr (.inr (.inr w_10)))))] ++ va_pl w_11 w_12) hP hD [0, 1, 2, 3] [] rfl rfl (by decide) (by decide) hk1 hFc hP1 hD1
  obtain ⟨fm_19, hma_fm_19, hmb_fm_19, hP, hD⟩ := pl_merge hP hD
  have sq_fm_19 := stq_tr stq_0 st_18 hma_fm_19 hmb_fm_19
  have hle_fm_19 := sq_fm_19.1
  have hlf_fm_19 := st_18.1
  refine W.tight (cells' := (w_4.toInt - xSz.toInt).toNat) (slots' := 4 * (w_4.toInt - xSz.toInt).toNat) (by omega) (by have hch := ssum_chain hS0 hz1 (fun q h1 h2 => hk1 q h2 (na_of (fun k e hk => by rcases mem4 hk with h | h | h | h <;> omega) h1 h2)); omega) ?_
  clear hz1
  generalize H1 = H at hP hS ⊢
  replace hP : va_P (dC, dI) vwCl ([((ax 13), .inr (2, [.ref (ax 11), .ref (ax 14), .int w_4, .int w_5, .int w_6, .int xRt, .int w_7, .int w_8, .int w_9])), ((ax 11), .inr (5, [.ref (ax 12), .int xTz])), ((ax 12), .inl (cA 0, 200, .inl gB)), ((ax 14), .inl (cA 4, 200, .inr (.inr (.inr (.inr w_10)))))] ++ va_pl ([] ++ w_11) fm_19) H := hP
  replace hD : va_D A ([((ax 13), .inr (2, [.ref (ax 11), .ref (ax 14), .int w_4, .int w_5, .int w_6, .int xRt, .int w_7, .int w_8, .int w_9])), ((ax 11), .inr (5, [.ref (ax 12), .int xTz])), ((ax 12), .inl (cA 0, 200, .inl gB)), ((ax 14), .inl (cA 4, 200, .inr (.inr (.inr (.inr w_10)))))] ++ va_pl ([] ++ w_11) fm_19) := hD
  refine lv_if_ne (tgt := 10) hx hb dX2_readPart_5 (by decide) (fun c_20 => ?_) (fun c_20 => ?_)
  · have dc_20 : ¬ r_1.toInt = 0 := jI_ne c_20 rfl (by decide)
    refine lv_aload_n hx hb dX2_readPart_10 rfl (lv_at hl 0 rfl) ?_
    refine va_ldcS hx hb hown (show vk_R RX2 83 "else" (adK 4) s from hSt.2.1 4 (by decide)) dX2_readPart_11 ?_
    have hPc := hP.sub (ws' := [((ax 13), .inr (2, [.ref (ax 11), .ref (ax 14), .int w_4, .int w_5, .int w_6, .int xRt, .int w_7, .int w_8, .int w_9])), ((ax 11), .inr (5, [.ref (ax 12), .int xTz])), ((ax 12), .inl (cA 0, 200, .inl gB))]) [0, 1, 2] rfl
    have hDc := hD.sub (ws' := [((ax 13), .inr (2, [.ref (ax 11), .ref (ax 14), .int w_4, .int w_5, .int w_6, .int xRt, .int w_7, .int w_8, .int w_9])), ((ax 11), .inr (5, [.ref (ax 12), .int xTz])), ((ax 12), .inl (cA 0, 200, .inl gB))]) [0, 1, 2] (by decide) rfl
    have hFc := va_free (wc := [((ax 13), .inr (2, [.ref (ax 11), .ref (ax 14), .int w_4, .int w_5, .int w_6, .int xRt, .int w_7, .int w_8, .int w_9])), ((ax 11), .inr (5, [.ref (ax 12), .int xTz])), ((ax 12), .inl (cA 0, 200, .inl gB))]) hD hS hA [0, 1, 2] rfl
    refine va_calli (va_runV (As := [.ref (adK 4)]) (rest := []) ⟨hx, hb, hml, hown, hts⟩ (k_X2_isAt l dC dI cA H.size ax w_4 w_5 w_6 xRt w_7 w_8 w_9 xTz gB adK adV 4 (by omega) (by omega) (by omega) (by omega) (by omega) i_gB (by omega) (by omega)) (cwV 1 hts gX2_readPart_X2_isAt rfl rfl rfl (by decide +kernel) ⟨(show 4 + 1 ≤ FR + 8 by omega), (show 8 + (4 + 11) + 85 ≤ LO + 175 by omega)⟩) ⟨fun a U g mk q => by obtain ⟨q0, q1, qP, qK, qD, qN⟩ := q; exact ⟨q0, q1, qP, va_K.moved (u := U) (U := U.calling g mk a) (Vm.Alike.refl U.vm) qK, qD, qN.same rfl rfl⟩, va_recv hK hPc (ci := 2) (q0 := 0) rfl rfl, fun U hU hW => ⟨rfl, by rw [hU], by rw [hU]; exact hPc, va_K.moved hW.alike hK, hDc.weaken (fun _ _ _ _ => trivial), hSt.call hS hU hW hFc⟩⟩ rfl rfl hl.1 rfl (lv_room (Nat.le_of_ble_eq_true rfl)) dX2_readPart_13 ⟨(show (w_4.toInt - xSz.toInt).toNat + 0 ≤ (200 - xSz.toInt).toNat by omega), (show (4 * (w_4.toInt - xSz.toInt).toNat) + 0 ≤ (4 * (200 - xSz.toInt).toNat) by omega)⟩) hS (fun q _ h => hFc q h) hFc (fun r_21 u_22 t H1 locs ht hvm hw_23 hB hz1 hk1 hS => ?_)
    try dsimp only at hw_23 hB
    have po_24 := hw_23
    obtain ⟨hP1, hD1⟩ := hB
    rw [ht] at hP1
    obtain ⟨hP, hD⟩ := va_joinQ (wr := [((ax 14), .inl (cA 4, 200, .inr (.inr (.inr (.inr w_10)))))]) (w1 := [((ax 13), .inr (2, [.ref (ax 11), .ref (ax 14), .int w_4, .int w_5, .int w_6, .int xRt, .int w_7, .int w_8, .int w_9])), ((ax 11), .inr (5, [.ref (ax 12), .int xTz])), ((ax 12), .inl (cA 0, 200, .inl gB))]) hP hD [0, 1, 2] [3] rfl rfl (by decide) (by decide) hk1 hFc hP1 hD1
    clear hz1
    generalize H1 = H at hP hS ⊢
    replace hP : va_P (dC, dI) vwCl ([((ax 14), .inl (cA 4, 200, .inr (.inr (.inr (.inr w_10))))), ((ax 13), .inr (2, [.ref (ax 11), .ref (ax 14), .int w_4, .int w_5, .int w_6, .int xRt, .int w_7, .int w_8, .int w_9])), ((ax 11), .inr (5, [.ref (ax 12), .int xTz])), ((ax 12), .inl (cA 0, 200, .inl gB))] ++ va_pl ([] ++ w_11) fm_19) H := hP
    replace hD : va_D A ([((ax 14), .inl (cA 4, 200, .inr (.inr (.inr (.inr w_10))))), ((ax 13), .inr (2, [.ref (ax 11), .ref (ax 14), .int w_4, .int w_5, .int w_6, .int xRt, .int w_7, .int w_8, .int w_9])), ((ax 11), .inr (5, [.ref (ax 12), .int xTz])), ((ax 12), .inl (cA 0, 200, .inl gB))] ++ va_pl ([] ++ w_11) fm_19) := hD
    refine lv_if_ne (tgt := 21) hx hb dX2_readPart_16 (by decide) (fun c_25 => ?_) (fun c_25 => ?_)
    · have dc_25 : ¬ r_21.toInt = 0 := jI_ne c_25 rfl (by decide)
      refine lv_aload_n hx hb dX2_readPart_21 rfl (lv_at hl 0 rfl) ?_
      have hPc := hP.sub (ws' := [((ax 13), .inr (2, [.ref (ax 11), .ref (ax 14), .int w_4, .int w_5, .int w_6, .int xRt, .int w_7, .int w_8, .int w_9])), ((ax 11), .inr (5, [.ref (ax 12), .int xTz])), ((ax 12), .inl (cA 0, 200, .inl gB))]) [1, 2, 3] rfl
      have hDc := hD.sub (ws' := [((ax 13), .inr (2, [.ref (ax 11), .ref (ax 14), .int w_4, .int w_5, .int w_6, .int xRt, .int w_7, .int w_8, .int w_9])), ((ax 11), .inr (5, [.ref (ax 12), .int xTz])), ((ax 12), .inl (cA 0, 200, .inl gB))]) [1, 2, 3] (by decide) rfl
      have hFc := va_free (wc := [((ax 13), .inr (2, [.ref (ax 11), .ref (ax 14), .int w_4, .int w_5, .int w_6, .int xRt, .int w_7, .int w_8, .int w_9])), ((ax 11), .inr (5, [.ref (ax 12), .int xTz])), ((ax 12), .inl (cA 0, 200, .inl gB))]) hD hS hA [1, 2, 3] rfl
      refine va_callv (va_runV (As := []) (rest := []) ⟨hx, hb, hml, hown, hts⟩ (k_X2_advance l dC dI cA H.size ax w_4 w_5 w_6 xRt w_7 w_8 w_9 xTz gB (by omega) (by omega) (by omega) (by omega) (by omega) i_gB (by omega)) (cwV 0 hts gX2_readPart_X2_advance rfl rfl rfl (by decide +kernel) ⟨(show 1 + 1 ≤ FR + 8 by omega), (show 8 + (3 + 11) + 23 ≤ LO + 175 by omega)⟩) ⟨fun a U g mk q => by obtain ⟨q0, q1, qP, qK, qD, qN⟩ := q; exact ⟨q0, q1, qP, va_K.moved (u := U) (U := U.calling g mk a) (Vm.Alike.refl U.vm) qK, qD, qN.same rfl⟩, va_recv hK hPc (ci := 2) (q0 := 0) rfl rfl, fun U hU hW => ⟨rfl, by rw [hU], by rw [hU]; exact hPc, va_K.moved hW.alike hK, hDc.weaken (fun _ _ _ _ => trivial), hN.warm hW⟩⟩ rfl rfl hl.1 rfl (lv_room (Nat.le_of_ble_eq_true rfl)) dX2_readPart_22 ⟨(show (w_4.toInt - xSz.toInt).toNat + 0 ≤ (200 - xSz.toInt).toNat by omega), (show (4 * (w_4.toInt - xSz.toInt).toNat) + 0 ≤ (4 * (200 - xSz.toInt).toNat) by omega)⟩) hS (fun q _ h => hFc q h) hFc (fun u_26 t H1 locs ht hvm hw_27 hB hz1 hk1 hS => ?_)
      obtain ⟨w_28, w_29⟩ := u_26
      try dsimp only at hw_27 hB
      obtain ⟨iv_30, iv_31, po_32, tk_33⟩ := hw_27
      obtain ⟨hP1, hD1⟩ := hB
      rw [ht] at hP1
      obtain ⟨hP, hD⟩ := va_joinQ (wr := [((ax 14), .inl (cA 4, 200, .inr (.inr (.inr (.inr w_10)))))]) (w1 := [((ax 13), .inr (2, [.ref (ax 11), .ref (ax 14), .int w_4, .int w_28, .int w_29, .int xRt, .int w_7, .int w_8, .int w_9])), ((ax 11), .inr (5, [.ref (ax 12), .int xTz])), ((ax 12), .inl (cA 0, 200, .inl gB))]) hP hD [1, 2, 3] [0] rfl rfl (by decide) (by decide) hk1 hFc hP1 hD1
      clear hz1
      generalize H1 = H at hP hS ⊢
      replace hP : va_P (dC, dI) vwCl ([((ax 14), .inl (cA 4, 200, .inr (.inr (.inr (.inr w_10))))), ((ax 13), .inr (2, [.ref (ax 11), .ref (ax 14), .int w_4, .int w_28, .int w_29, .int xRt, .int w_7, .int w_8, .int w_9])), ((ax 11), .inr (5, [.ref (ax 12), .int xTz])), ((ax 12), .inl (cA 0, 200, .inl gB))] ++ va_pl ([] ++ w_11) fm_19) H := hP
      replace hD : va_D A ([((ax 14), .inl (cA 4, 200, .inr (.inr (.inr (.inr w_10))))), ((ax 13), .inr (2, [.ref (ax 11), .ref (ax 14), .int w_4, .int w_28, .int w_29, .int xRt, .int w_7, .int w_8, .int w_9])), ((ax 11), .inr (5, [.ref (ax 12), .int xTz])), ((ax 12), .inl (cA 0, 200, .inl gB))] ++ va_pl ([] ++ w_11) fm_19) := hD
      refine lv_aload_n hx hb dX2_readPart_25 rfl (lv_at hl 0 rfl) ?_
      refine lv_bipush (v := 8) hx hb dX2_readPart_26 (by decide) ?_
      refine lv_ldc hx hb hown (hts (.constant RX2 85 (1000000)) (by decide +kernel)) dX2_readPart_28 ?_
      have hk_34 : (8 : Int32).toInt = 8 := by decide
      have hk_35 : (1000000 : Int32).toInt = 1000000 := by decide
      have hPc := hP.sub (ws' := [((ax 13), .inr (2, [.ref (ax 11), .ref (ax 14), .int w_4, .int w_28, .int w_29, .int xRt, .int w_7, .int w_8, .int w_9])), ((ax 11), .inr (5, [.ref (ax 12), .int xTz])), ((ax 12), .inl (cA 0, 200, .inl gB)), ((ax 14), .inl (cA 4, 200, .inr (.inr (.inr (.inr w_10)))))]) [1, 2, 3, 0] rfl
      have hDc := hD.sub (ws' := [((ax 13), .inr (2, [.ref (ax 11), .ref (ax 14), .int w_4, .int w_28, .int w_29, .int xRt, .int w_7, .int w_8, .int w_9])), ((ax 11), .inr (5, [.ref (ax 12), .int xTz])), ((ax 12), .inl (cA 0, 200, .inl gB)), ((ax 14), .inl (cA 4, 200, .inr (.inr (.inr (.inr w_10)))))]) [1, 2, 3, 0] (by decide) rfl
      have hFc := va_free (wc := [((ax 13), .inr (2, [.ref (ax 11), .ref (ax 14), .int w_4, .int w_28, .int w_29, .int xRt, .int w_7, .int w_8, .int w_9])), ((ax 11), .inr (5, [.ref (ax 12), .int xTz])), ((ax 12), .inl (cA 0, 200, .inl gB)), ((ax 14), .inl (cA 4, 200, .inr (.inr (.inr (.inr w_10)))))]) hD hS hA [1, 2, 3, 0] rfl
      refine W.know (fun hkn1 hkn2 => ?_)
      have hS0 := hS.1
      refine va_calli (va_runV (As := [.int 8, .int 1000000]) (rest := []) ⟨hx, hb, hml, hown, hts⟩ (k_X2_readNumbered l dC dI cA H.size ax w_4 w_28 w_29 xRt w_7 w_8 w_9 xTz gB w_10 8 1000000 adK adV (by omega) (by omega) (by omega) (by omega) (by omega) i_gB (by omega) tk_33 (by omega) (by omega)) (cwV 2 hts gX2_readPart_X2_readNumbered rfl rfl rfl (by decide +kernel) ⟨(show 3 + 1 ≤ FR + 8 by omega), (show 8 + (4 + 11) + 68 ≤ LO + 175 by omega)⟩) ⟨fun a U g mk q => by obtain ⟨q0, q1, qP, qK, qD, qN⟩ := q; exact ⟨q0, q1, qP, va_K.moved (u := U) (U := U.calling g mk a) (Vm.Alike.refl U.vm) qK, qD, qN.same rfl rfl⟩, va_recv hK hPc (ci := 2) (q0 := 0) rfl rfl, fun U hU hW => ⟨rfl, by rw [hU], by rw [hU]; exact hPc, va_K.moved hW.alike hK, hDc.weaken (fun _ _ _ _ => trivial), hSt.call hS hU hW hFc⟩⟩ rfl rfl hl.1 rfl (lv_room (Nat.le_of_ble_eq_true rfl)) dX2_readPart_30 ⟨(show (w_4.toInt - xSz.toInt).toNat + ((200 - w_4.toInt).toNat) ≤ (200 - xSz.toInt).toNat by omega), (show (4 * (w_4.toInt - xSz.toInt).toNat) + (4 * (200 - w_4.toInt).toNat) ≤ (4 * (200 - xSz.toInt).toNat) by omega)⟩) hS (fun q _ h => hFc q h) hFc (fun r_36 u_37 t H1 locs ht hvm hw_38 hB hz1 hk1 hS => ?_)
      obtain ⟨w_39, w_40, w_41, w_42, w_43, w_44, w_45, w_46, w_47⟩ := u_37
      try dsimp only at hw_38 hB
      obtain ⟨iv_48, iv_49, iv_50, po_51, tk_52, st_53⟩ := hw_38
      try simp only [hk_34, hk_35] at po_51 tk_52 st_53
      obtain ⟨hP1, hD1, hX1⟩ := hB
      rw [ht] at hP1 hX1
      obtain ⟨hP, hD⟩ := va_joinQ (wr := []) (w1 := [((ax 13), .inr (2, [.ref (ax 11), .ref (ax 14), .int w_39, .int w_40, .int w_41, .int xRt, .int w_42, .int w_43, .int w_44])), ((ax 11), .inr (5, [.ref (ax 12), .int xTz])), ((ax 12), .inl (cA 0, 200, .inl gB)), ((ax 14), .inl (cA 4, 200, .inr (.inr (.inr (.inr w_45)))))] ++ va_pl w_46 w_47) hP hD [1, 2, 3, 0] [] rfl rfl (by decide) (by decide) hk1 hFc hP1 hD1
      obtain ⟨fm_54, hma_fm_54, hmb_fm_54, hP, hD⟩ := pl_merge hP hD
      have sq_fm_54 := stq_tr sq_fm_19 st_53 hma_fm_54 hmb_fm_54
      have hle_fm_54 := sq_fm_54.1
      have hlf_fm_54 := st_53.1
      refine W.tight (cells' := (w_39.toInt - xSz.toInt).toNat) (slots' := 4 * (w_39.toInt - xSz.toInt).toNat) (by omega) (by have hch := ssum_chain hS0 hz1 (fun q h1 h2 => hk1 q h2 (na_of (fun k e hk => by rcases mem4 hk with h | h | h | h <;> omega) h1 h2)); omega) ?_
      clear hz1
      generalize H1 = H at hP hS ⊢
      replace hP : va_P (dC, dI) vwCl ([((ax 13), .inr (2, [.ref (ax 11), .ref (ax 14), .int w_39, .int w_40, .int w_41, .int xRt, .int w_42, .int w_43, .int w_44])), ((ax 11), .inr (5, [.ref (ax 12), .int xTz])), ((ax 12), .inl (cA 0, 200, .inl gB)), ((ax 14), .inl (cA 4, 200, .inr (.inr (.inr (.inr w_45)))))] ++ va_pl (([] ++ w_11) ++ w_46) fm_54) H := hP
      replace hD : va_D A ([((ax 13), .inr (2, [.ref (ax 11), .ref (ax 14), .int w_39, .int w_40, .int w_41, .int xRt, .int w_42, .int w_43, .int w_44])), ((ax 11), .inr (5, [.ref (ax 12), .int xTz])), ((ax 12), .inl (cA 0, 200, .inl gB)), ((ax 14), .inl (cA 4, 200, .inr (.inr (.inr (.inr w_45)))))] ++ va_pl (([] ++ w_11) ++ w_46) fm_54) := hD
      have hP9 := hP.part (cx := [((ax 13), .inr (2, [.ref (ax 11), .ref (ax 14), .int w_39, .int w_40, .int w_41, .int xRt, .int w_42, .int w_43, .int w_44])), ((ax 11), .inr (5, [.ref (ax 12), .int xTz])), ((ax 12), .inl (cA 0, 200, .inl gB)), ((ax 14), .inl (cA 4, 200, .inr (.inr (.inr (.inr w_45)))))]) [0, 1, 2, 3] rfl
      have hD9 := hD.part (cx := [((ax 13), .inr (2, [.ref (ax 11), .ref (ax 14), .int w_39, .int w_40, .int w_41, .int xRt, .int w_42, .int w_43, .int w_44])), ((ax 11), .inr (5, [.ref (ax 12), .int xTz])), ((ax 12), .inl (cA 0, 200, .inl gB)), ((ax 14), .inl (cA 4, 200, .inr (.inr (.inr (.inr w_45)))))]) [0, 1, 2, 3] (by decide) rfl
      refine W.know (fun hkn1 hkn2 => ?_)
      have hBx : H.size ≤ s.heap.size + (w_39.toInt - xSz.toInt).toNat ∧ ssum s.heap.size H ≤ 4 * (w_39.toInt - xSz.toInt).toNat := ⟨by omega, by omega⟩
      subst hQe
      refine W.widen (k := (200 - xSz.toInt).toNat) (n := (4 * (200 - xSz.toInt).toNat)) (by omega) (by omega) ?_
      have hans : (r_36 : Int32).toInt = r_36.toInt := rfl
      have hpost : (0 ≤ w_39.toInt ∧ w_39.toInt ≤ 200) ∧ (0 ≤ w_40.toInt ∧ w_40.toInt ≤ 200) ∧ (0 ≤ w_41.toInt ∧ w_41.toInt ≤ 200) ∧ (w_40.toInt ≤ w_41.toInt ∧ w_41.toInt ≤ xTz.toInt ∧ ((r_36 : Int32).toInt = 0 ∨ (r_36 : Int32).toInt = 1)) ∧ (tokOK gB w_40 w_41 xTz) ∧ (stq xSz.toInt w_39.toInt gSt w_45 (([] ++ w_11) ++ w_46) fm_54) := ⟨by omega, by omega, by omega, by omega, tk_52, sq_fm_54⟩
      exact W.zret (v := r_36) hx hb hr (jnarZ (by omega)) (fun t ht hW => ⟨⟨r_36, (w_39, w_40, w_41, w_42, w_43, w_44, w_45, (([] ++ w_11) ++ w_46), fm_54), rfl, hpost, by rw [ht]; exact hP9, hD9, by rw [ht]; exact hBx⟩, hS.F ht⟩) hS.2.2 dX2_readPart_33
    · have dc_25 : r_21.toInt = 0 := jI_eq c_25 rfl (by decide)
      refine lv_iconst (v := 1) hx hb dX2_readPart_19 (by decide) ?_
      have hP9 := hP.part (cx := [((ax 13), .inr (2, [.ref (ax 11), .ref (ax 14), .int w_4, .int w_5, .int w_6, .int xRt, .int w_7, .int w_8, .int w_9])), ((ax 11), .inr (5, [.ref (ax 12), .int xTz])), ((ax 12), .inl (cA 0, 200, .inl gB)), ((ax 14), .inl (cA 4, 200, .inr (.inr (.inr (.inr w_10)))))]) [1, 2, 3, 0] rfl
      have hD9 := hD.part (cx := [((ax 13), .inr (2, [.ref (ax 11), .ref (ax 14), .int w_4, .int w_5, .int w_6, .int xRt, .int w_7, .int w_8, .int w_9])), ((ax 11), .inr (5, [.ref (ax 12), .int xTz])), ((ax 12), .inl (cA 0, 200, .inl gB)), ((ax 14), .inl (cA 4, 200, .inr (.inr (.inr (.inr w_10)))))]) [1, 2, 3, 0] (by decide) rfl
      refine W.know (fun hkn1 hkn2 => ?_)
      have hBx : H.size ≤ s.heap.size + (w_4.toInt - xSz.toInt).toNat ∧ ssum s.heap.size H ≤ 4 * (w_4.toInt - xSz.toInt).toNat := ⟨by omega, by omega⟩
      subst hQe
      refine W.widen (k := (200 - xSz.toInt).toNat) (n := (4 * (200 - xSz.toInt).toNat)) (by omega) (by omega) ?_
      have hans : (1 : Int32).toInt = 1 := (by decide)
      have hpost : (0 ≤ w_4.toInt ∧ w_4.toInt ≤ 200) ∧ (0 ≤ w_5.toInt ∧ w_5.toInt ≤ 200) ∧ (0 ≤ w_6.toInt ∧ w_6.toInt ≤ 200) ∧ (w_5.toInt ≤ w_6.toInt ∧ w_6.toInt ≤ xTz.toInt ∧ ((1 : Int32).toInt = 0 ∨ (1 : Int32).toInt = 1)) ∧ (tokOK gB w_5 w_6 xTz) ∧ (stq xSz.toInt w_4.toInt gSt w_10 ([] ++ w_11) fm_19) := ⟨by omega, by omega, by omega, by omega, tk_17, sq_fm_19⟩
      exact W.zret (v := 1) hx hb hr (by decide) (fun t ht hW => ⟨⟨1, (w_4, w_5, w_6, w_7, w_8, w_9, w_10, ([] ++ w_11), fm_19), rfl, hpost, by rw [ht]; exact hP9, hD9, by rw [ht]; exact hBx⟩, hS.F ht⟩) hS.2.2 dX2_readPart_20
  · have dc_20 : r_1.toInt = 0 := jI_eq c_20 rfl (by decide)
    refine lv_iconst (v := 0) hx hb dX2_readPart_8 (by decide) ?_
    have hP9 := hP.part (cx := [((ax 13), .inr (2, [.ref (ax 11), .ref (ax 14), .int w_4, .int w_5, .int w_6, .int xRt, .int w_7, .int w_8, .int w_9])), ((ax 11), .inr (5, [.ref (ax 12), .int xTz])), ((ax 12), .inl (cA 0, 200, .inl gB)), ((ax 14), .inl (cA 4, 200, .inr (.inr (.inr (.inr w_10)))))]) [0, 1, 2, 3] rfl
    have hD9 := hD.part (cx := [((ax 13), .inr (2, [.ref (ax 11), .ref (ax 14), .int w_4, .int w_5, .int w_6, .int xRt, .int w_7, .int w_8, .int w_9])), ((ax 11), .inr (5, [.ref (ax 12), .int xTz])), ((ax 12), .inl (cA 0, 200, .inl gB)), ((ax 14), .inl (cA 4, 200, .inr (.inr (.inr (.inr w_10)))))]) [0, 1, 2, 3] (by decide) rfl
    refine W.know (fun hkn1 hkn2 => ?_)
    have hBx : H.size ≤ s.heap.size + (w_4.toInt - xSz.toInt).toNat ∧ ssum s.heap.size H ≤ 4 * (w_4.toInt - xSz.toInt).toNat := ⟨by omega, by omega⟩
    subst hQe
    refine W.widen (k := (200 - xSz.toInt).toNat) (n := (4 * (200 - xSz.toInt).toNat)) (by omega) (by omega) ?_
    have hans : (0 : Int32).toInt = 0 := (by decide)
    have hpost : (0 ≤ w_4.toInt ∧ w_4.toInt ≤ 200) ∧ (0 ≤ w_5.toInt ∧ w_5.toInt ≤ 200) ∧ (0 ≤ w_6.toInt ∧ w_6.toInt ≤ 200) ∧ (w_5.toInt ≤ w_6.toInt ∧ w_6.toInt ≤ xTz.toInt ∧ ((0 : Int32).toInt = 0 ∨ (0 : Int32).toInt = 1)) ∧ (tokOK gB w_5 w_6 xTz) ∧ (stq xSz.toInt w_4.toInt gSt w_10 ([] ++ w_11) fm_19) := ⟨by omega, by omega, by omega, by omega, tk_17, sq_fm_19⟩
    exact W.zret (v := 0) hx hb hr (by decide) (fun t ht hW => ⟨⟨0, (w_4, w_5, w_6, w_7, w_8, w_9, w_10, ([] ++ w_11), fm_19), rfl, hpost, by rw [ht]; exact hP9, hD9, by rw [ht]; exact hBx⟩, hS.F ht⟩) hS.2.2 dX2_readPart_9
