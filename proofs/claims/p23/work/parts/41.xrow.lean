theorem dX3_isFull_0 : decode cX3_isFull 0 = .ok (.aload_n 0, 1) := by decide +kernel
theorem dX3_isFull_1 : decode cX3_isFull 1 = .ok (.getfield 27, 3) := by decide +kernel
theorem dX3_isFull_4 : decode cX3_isFull 4 = .ok (.sipush 400, 3) := by decide +kernel
theorem dX3_isFull_7 : decode cX3_isFull 7 = .ok (.if_icmp .lt 7, 3) := by decide +kernel
theorem dX3_isFull_14 : decode cX3_isFull 14 = .ok (.iconst 0, 1) := by decide +kernel
theorem dX3_isFull_15 : decode cX3_isFull 15 = .ok (.ireturn, 1) := by decide +kernel
theorem dX3_isFull_10 : decode cX3_isFull 10 = .ok (.iconst 1, 1) := by decide +kernel
theorem dX3_isFull_11 : decode cX3_isFull 11 = .ok (.goto 4, 3) := by decide +kernel
theorem dX3_add_0 : decode cX3_add 0 = .ok (.aload_n 0, 1) := by decide +kernel
set_option maxRecDepth 20000 in
theorem ggX3_add_X3_isFull : GoodIn wsX3_add wsX3_isFull := goodIn_r _ [12, 2, 13, 14, 15, 16, 17, 18, 19] (by decide +kernel) (by decide +kernel)
set_option maxRecDepth 20000 in
theorem gX3_add_X3_isFull : GoodIn wsX3_add (wsV RX3 31 RX3 yX3_isFull wsX3_isFull) := goodIn_app (goodIn_of _ (by decide +kernel)) ggX3_add_X3_isFull
theorem dX3_add_1 : decode cX3_add 1 = .ok (.invokevirtual 31, 3) := by decide +kernel
theorem dX3_add_4 : decode cX3_add 4 = .ok (.ifCond .eq 6, 3) := by decide +kernel
theorem dX3_add_10 : decode cX3_add 10 = .ok (.aload_n 0, 1) := by decide +kernel
theorem dX3_add_11 : decode cX3_add 11 = .ok (.getfield 9, 3) := by decide +kernel
theorem dX3_add_14 : decode cX3_add 14 = .ok (.aload_n 0, 1) := by decide +kernel
theorem dX3_add_15 : decode cX3_add 15 = .ok (.getfield 27, 3) := by decide +kernel
theorem dX3_add_18 : decode cX3_add 18 = .ok (.iload_n 1, 1) := by decide +kernel
theorem dX3_add_19 : decode cX3_add 19 = .ok (.iastore, 1) := by decide +kernel
theorem dX3_add_20 : decode cX3_add 20 = .ok (.aload_n 0, 1) := by decide +kernel
theorem dX3_add_21 : decode cX3_add 21 = .ok (.getfield 15, 3) := by decide +kernel
theorem dX3_add_24 : decode cX3_add 24 = .ok (.aload_n 0, 1) := by decide +kernel
theorem dX3_add_25 : decode cX3_add 25 = .ok (.getfield 27, 3) := by decide +kernel
theorem dX3_add_28 : decode cX3_add 28 = .ok (.iload_n 2, 1) := by decide +kernel
theorem dX3_add_29 : decode cX3_add 29 = .ok (.iastore, 1) := by decide +kernel
theorem dX3_add_30 : decode cX3_add 30 = .ok (.aload_n 0, 1) := by decide +kernel
theorem dX3_add_31 : decode cX3_add 31 = .ok (.getfield 18, 3) := by decide +kernel
theorem dX3_add_34 : decode cX3_add 34 = .ok (.aload_n 0, 1) := by decide +kernel
theorem dX3_add_35 : decode cX3_add 35 = .ok (.getfield 27, 3) := by decide +kernel
theorem dX3_add_38 : decode cX3_add 38 = .ok (.iload_n 3, 1) := by decide +kernel
theorem dX3_add_39 : decode cX3_add 39 = .ok (.iastore, 1) := by decide +kernel
theorem dX3_add_40 : decode cX3_add 40 = .ok (.aload_n 0, 1) := by decide +kernel
theorem dX3_add_41 : decode cX3_add 41 = .ok (.getfield 21, 3) := by decide +kernel
theorem dX3_add_44 : decode cX3_add 44 = .ok (.aload_n 0, 1) := by decide +kernel
theorem dX3_add_45 : decode cX3_add 45 = .ok (.getfield 27, 3) := by decide +kernel
theorem dX3_add_48 : decode cX3_add 48 = .ok (.iload 4, 2) := by decide +kernel
theorem dX3_add_50 : decode cX3_add 50 = .ok (.iastore, 1) := by decide +kernel
theorem dX3_add_51 : decode cX3_add 51 = .ok (.aload_n 0, 1) := by decide +kernel
theorem dX3_add_52 : decode cX3_add 52 = .ok (.getfield 24, 3) := by decide +kernel
theorem dX3_add_55 : decode cX3_add 55 = .ok (.aload_n 0, 1) := by decide +kernel
theorem dX3_add_56 : decode cX3_add 56 = .ok (.getfield 27, 3) := by decide +kernel
theorem dX3_add_59 : decode cX3_add 59 = .ok (.iload 5, 2) := by decide +kernel
theorem dX3_add_61 : decode cX3_add 61 = .ok (.iastore, 1) := by decide +kernel
theorem dX3_add_62 : decode cX3_add 62 = .ok (.aload_n 0, 1) := by decide +kernel
theorem dX3_add_63 : decode cX3_add 63 = .ok (.dup, 1) := by decide +kernel
theorem dX3_add_64 : decode cX3_add 64 = .ok (.getfield 27, 3) := by decide +kernel
theorem dX3_add_67 : decode cX3_add 67 = .ok (.iconst 1, 1) := by decide +kernel
theorem dX3_add_68 : decode cX3_add 68 = .ok (.iadd, 1) := by decide +kernel
theorem dX3_add_69 : decode cX3_add 69 = .ok (.putfield 27, 3) := by decide +kernel
theorem dX3_add_72 : decode cX3_add 72 = .ok (.aload_n 0, 1) := by decide +kernel
theorem dX3_add_73 : decode cX3_add 73 = .ok (.dup, 1) := by decide +kernel
theorem dX3_add_74 : decode cX3_add 74 = .ok (.getfield 35, 3) := by decide +kernel
theorem dX3_add_77 : decode cX3_add 77 = .ok (.iconst 1, 1) := by decide +kernel
theorem dX3_add_78 : decode cX3_add 78 = .ok (.iadd, 1) := by decide +kernel
theorem dX3_add_79 : decode cX3_add 79 = .ok (.putfield 35, 3) := by decide +kernel
theorem dX3_add_82 : decode cX3_add 82 = .ok (.aload_n 0, 1) := by decide +kernel
theorem dX3_add_83 : decode cX3_add 83 = .ok (.getfield 35, 3) := by decide +kernel
theorem dX3_add_86 : decode cX3_add 86 = .ok (.iconst 1, 1) := by decide +kernel
theorem dX3_add_87 : decode cX3_add 87 = .ok (.isub, 1) := by decide +kernel
theorem dX3_add_88 : decode cX3_add 88 = .ok (.ireturn, 1) := by decide +kernel
theorem dX3_add_7 : decode cX3_add 7 = .ok (.bipush (-5), 2) := by decide +kernel
theorem dX3_add_9 : decode cX3_add 9 = .ok (.ireturn, 1) := by decide +kernel
theorem dX3_move_0 : decode cX3_move 0 = .ok (.aload_n 0, 1) := by decide +kernel
theorem dX3_move_1 : decode cX3_move 1 = .ok (.getfield 9, 3) := by decide +kernel
theorem dX3_move_4 : decode cX3_move 4 = .ok (.iload_n 2, 1) := by decide +kernel
theorem dX3_move_5 : decode cX3_move 5 = .ok (.aload_n 0, 1) := by decide +kernel
theorem dX3_move_6 : decode cX3_move 6 = .ok (.getfield 9, 3) := by decide +kernel
theorem dX3_move_9 : decode cX3_move 9 = .ok (.iload_n 1, 1) := by decide +kernel
theorem dX3_move_10 : decode cX3_move 10 = .ok (.iaload, 1) := by decide +kernel
theorem dX3_move_11 : decode cX3_move 11 = .ok (.iastore, 1) := by decide +kernel
theorem dX3_move_12 : decode cX3_move 12 = .ok (.aload_n 0, 1) := by decide +kernel
theorem dX3_move_13 : decode cX3_move 13 = .ok (.getfield 15, 3) := by decide +kernel
theorem dX3_move_16 : decode cX3_move 16 = .ok (.iload_n 2, 1) := by decide +kernel
theorem dX3_move_17 : decode cX3_move 17 = .ok (.aload_n 0, 1) := by decide +kernel
theorem dX3_move_18 : decode cX3_move 18 = .ok (.getfield 15, 3) := by decide +kernel
theorem dX3_move_21 : decode cX3_move 21 = .ok (.iload_n 1, 1) := by decide +kernel
theorem dX3_move_22 : decode cX3_move 22 = .ok (.iaload, 1) := by decide +kernel
theorem dX3_move_23 : decode cX3_move 23 = .ok (.iastore, 1) := by decide +kernel
theorem dX3_move_24 : decode cX3_move 24 = .ok (.aload_n 0, 1) := by decide +kernel
theorem dX3_move_25 : decode cX3_move 25 = .ok (.getfield 18, 3) := by decide +kernel
theorem dX3_move_28 : decode cX3_move 28 = .ok (.iload_n 2, 1) := by decide +kernel
theorem dX3_move_29 : decode cX3_move 29 = .ok (.aload_n 0, 1) := by decide +kernel
theorem dX3_move_30 : decode cX3_move 30 = .ok (.getfield 18, 3) := by decide +kernel
theorem dX3_move_33 : decode cX3_move 33 = .ok (.iload_n 1, 1) := by decide +kernel
theorem dX3_move_34 : decode cX3_move 34 = .ok (.iaload, 1) := by decide +kernel
theorem dX3_move_35 : decode cX3_move 35 = .ok (.iastore, 1) := by decide +kernel
theorem dX3_move_36 : decode cX3_move 36 = .ok (.aload_n 0, 1) := by decide +kernel
theorem dX3_move_37 : decode cX3_move 37 = .ok (.getfield 21, 3) := by decide +kernel
theorem dX3_move_40 : decode cX3_move 40 = .ok (.iload_n 2, 1) := by decide +kernel
theorem dX3_move_41 : decode cX3_move 41 = .ok (.aload_n 0, 1) := by decide +kernel
theorem dX3_move_42 : decode cX3_move 42 = .ok (.getfield 21, 3) := by decide +kernel
theorem dX3_move_45 : decode cX3_move 45 = .ok (.iload_n 1, 1) := by decide +kernel
theorem dX3_move_46 : decode cX3_move 46 = .ok (.iaload, 1) := by decide +kernel
theorem dX3_move_47 : decode cX3_move 47 = .ok (.iastore, 1) := by decide +kernel
theorem dX3_move_48 : decode cX3_move 48 = .ok (.aload_n 0, 1) := by decide +kernel
theorem dX3_move_49 : decode cX3_move 49 = .ok (.getfield 24, 3) := by decide +kernel
theorem dX3_move_52 : decode cX3_move 52 = .ok (.iload_n 2, 1) := by decide +kernel
theorem dX3_move_53 : decode cX3_move 53 = .ok (.aload_n 0, 1) := by decide +kernel
theorem dX3_move_54 : decode cX3_move 54 = .ok (.getfield 24, 3) := by decide +kernel
theorem dX3_move_57 : decode cX3_move 57 = .ok (.iload_n 1, 1) := by decide +kernel
theorem dX3_move_58 : decode cX3_move 58 = .ok (.iaload, 1) := by decide +kernel
theorem dX3_move_59 : decode cX3_move 59 = .ok (.iastore, 1) := by decide +kernel
theorem dX3_move_60 : decode cX3_move 60 = .ok (.return_, 1) := by decide +kernel
theorem dX3_drop_0 : decode cX3_drop 0 = .ok (.iconst 0, 1) := by decide +kernel
theorem dX3_drop_1 : decode cX3_drop 1 = .ok (.istore_n 2, 1) := by decide +kernel
theorem dX3_drop_2 : decode cX3_drop 2 = .ok (.iconst 0, 1) := by decide +kernel
theorem dX3_drop_3 : decode cX3_drop 3 = .ok (.istore_n 3, 1) := by decide +kernel
theorem dX3_drop_4 : decode cX3_drop 4 = .ok (.iload_n 3, 1) := by decide +kernel
theorem dX3_drop_5 : decode cX3_drop 5 = .ok (.aload_n 0, 1) := by decide +kernel
theorem dX3_drop_6 : decode cX3_drop 6 = .ok (.getfield 27, 3) := by decide +kernel
theorem dX3_drop_9 : decode cX3_drop 9 = .ok (.if_icmp .ge 28, 3) := by decide +kernel
theorem dX3_drop_37 : decode cX3_drop 37 = .ok (.aload_n 0, 1) := by decide +kernel
theorem dX3_drop_38 : decode cX3_drop 38 = .ok (.getfield 27, 3) := by decide +kernel
theorem dX3_drop_41 : decode cX3_drop 41 = .ok (.iload_n 2, 1) := by decide +kernel
theorem dX3_drop_42 : decode cX3_drop 42 = .ok (.isub, 1) := by decide +kernel
theorem dX3_drop_43 : decode cX3_drop 43 = .ok (.istore_n 3, 1) := by decide +kernel
theorem dX3_drop_44 : decode cX3_drop 44 = .ok (.aload_n 0, 1) := by decide +kernel
theorem dX3_drop_45 : decode cX3_drop 45 = .ok (.iload_n 2, 1) := by decide +kernel
theorem dX3_drop_46 : decode cX3_drop 46 = .ok (.putfield 27, 3) := by decide +kernel
theorem dX3_drop_49 : decode cX3_drop 49 = .ok (.iload_n 3, 1) := by decide +kernel
theorem dX3_drop_50 : decode cX3_drop 50 = .ok (.ireturn, 1) := by decide +kernel
theorem dX3_drop_12 : decode cX3_drop 12 = .ok (.aload_n 0, 1) := by decide +kernel
theorem dX3_drop_13 : decode cX3_drop 13 = .ok (.getfield 9, 3) := by decide +kernel
theorem dX3_drop_16 : decode cX3_drop 16 = .ok (.iload_n 3, 1) := by decide +kernel
theorem dX3_drop_17 : decode cX3_drop 17 = .ok (.iaload, 1) := by decide +kernel
theorem dX3_drop_18 : decode cX3_drop 18 = .ok (.iload_n 1, 1) := by decide +kernel
theorem dX3_drop_19 : decode cX3_drop 19 = .ok (.if_icmp .eq 12, 3) := by decide +kernel
theorem dX3_drop_31 : decode cX3_drop 31 = .ok (.iinc 3 1, 3) := by decide +kernel
theorem dX3_drop_34 : decode cX3_drop 34 = .ok (.goto (-30), 3) := by decide +kernel
theorem dX3_drop_22 : decode cX3_drop 22 = .ok (.aload_n 0, 1) := by decide +kernel
theorem dX3_drop_23 : decode cX3_drop 23 = .ok (.iload_n 3, 1) := by decide +kernel
theorem dX3_drop_24 : decode cX3_drop 24 = .ok (.iload_n 2, 1) := by decide +kernel
set_option maxRecDepth 20000 in
theorem ggX3_drop_X3_move : GoodIn wsX3_drop wsX3_move := goodIn_r _ [7, 2, 8, 9, 10, 11, 12, 13, 14, 15, 16, 17, 18] (by decide +kernel) (by decide +kernel)
set_option maxRecDepth 20000 in
theorem gX3_drop_X3_move : GoodIn wsX3_drop (wsV RX3 38 RX3 yX3_move wsX3_move) := goodIn_app (goodIn_of _ (by decide +kernel)) ggX3_drop_X3_move
theorem dX3_drop_25 : decode cX3_drop 25 = .ok (.invokevirtual 38, 3) := by decide +kernel
theorem dX3_drop_28 : decode cX3_drop 28 = .ok (.iinc 2 1, 3) := by decide +kernel
theorem dX8_addRow_0 : decode cX8_addRow 0 = .ok (.iload_n 2, 1) := by decide +kernel
set_option maxRecDepth 20000 in
theorem ggX8_addRow_X8_isStream : GoodIn wsX8_addRow wsX8_isStream := goodIn_r _ [6] (by decide +kernel) (by decide +kernel)
set_option maxRecDepth 20000 in
theorem gX8_addRow_X8_isStream : GoodIn wsX8_addRow (va_wsS RX8 94 yX8_isStream wsX8_isStream) := goodIn_app (goodIn_of _ (by decide +kernel)) ggX8_addRow_X8_isStream
theorem dX8_addRow_1 : decode cX8_addRow 1 = .ok (.invokestatic 94, 3) := by decide +kernel
theorem dX8_addRow_4 : decode cX8_addRow 4 = .ok (.ifCond .eq 32, 3) := by decide +kernel
theorem dX8_addRow_36 : decode cX8_addRow 36 = .ok (.iconst (-1), 1) := by decide +kernel
theorem dX8_addRow_37 : decode cX8_addRow 37 = .ok (.ireturn, 1) := by decide +kernel
theorem dX8_addRow_7 : decode cX8_addRow 7 = .ok (.iload_n 3, 1) := by decide +kernel
set_option maxRecDepth 20000 in
theorem ggX8_addRow_X8_isMoment : GoodIn wsX8_addRow wsX8_isMoment := goodIn_r _ [9, 10] (by decide +kernel) (by decide +kernel)
set_option maxRecDepth 20000 in
theorem gX8_addRow_X8_isMoment : GoodIn wsX8_addRow (va_wsS RX8 79 yX8_isMoment wsX8_isMoment) := goodIn_app (goodIn_of _ (by decide +kernel)) ggX8_addRow_X8_isMoment
theorem dX8_addRow_8 : decode cX8_addRow 8 = .ok (.invokestatic 79, 3) := by decide +kernel
theorem dX8_addRow_11 : decode cX8_addRow 11 = .ok (.ifCond .eq 25, 3) := by decide +kernel
theorem dX8_addRow_14 : decode cX8_addRow 14 = .ok (.iload 4, 2) := by decide +kernel
theorem dX8_addRow_16 : decode cX8_addRow 16 = .ok (.invokestatic 79, 3) := by decide +kernel
theorem dX8_addRow_19 : decode cX8_addRow 19 = .ok (.ifCond .eq 17, 3) := by decide +kernel
theorem dX8_addRow_22 : decode cX8_addRow 22 = .ok (.iload 4, 2) := by decide +kernel
theorem dX8_addRow_24 : decode cX8_addRow 24 = .ok (.iload_n 3, 1) := by decide +kernel
theorem dX8_addRow_25 : decode cX8_addRow 25 = .ok (.if_icmp .lt 11, 3) := by decide +kernel
theorem dX8_addRow_28 : decode cX8_addRow 28 = .ok (.iload 5, 2) := by decide +kernel
set_option maxRecDepth 20000 in
theorem ggX8_addRow_X8_isRowValue : GoodIn wsX8_addRow wsX8_isRowValue := goodIn_r _ [13, 14, 15] (by decide +kernel) (by decide +kernel)
set_option maxRecDepth 20000 in
theorem gX8_addRow_X8_isRowValue : GoodIn wsX8_addRow (va_wsS RX8 97 yX8_isRowValue wsX8_isRowValue) := goodIn_app (goodIn_of _ (by decide +kernel)) ggX8_addRow_X8_isRowValue
theorem dX8_addRow_30 : decode cX8_addRow 30 = .ok (.invokestatic 97, 3) := by decide +kernel
theorem dX8_addRow_33 : decode cX8_addRow 33 = .ok (.ifCond .ne 5, 3) := by decide +kernel
theorem dX8_addRow_38 : decode cX8_addRow 38 = .ok (.iload_n 1, 1) := by decide +kernel
set_option maxRecDepth 20000 in
theorem ggX8_addRow_X8_isPerson : GoodIn wsX8_addRow wsX8_isPerson := goodIn_r _ [18] (by decide +kernel) (by decide +kernel)
set_option maxRecDepth 20000 in
theorem gX8_addRow_X8_isPerson : GoodIn wsX8_addRow (va_wsS RX8 100 yX8_isPerson wsX8_isPerson) := goodIn_app (goodIn_of _ (by decide +kernel)) ggX8_addRow_X8_isPerson
theorem dX8_addRow_39 : decode cX8_addRow 39 = .ok (.invokestatic 100, 3) := by decide +kernel
theorem dX8_addRow_42 : decode cX8_addRow 42 = .ok (.ifCond .ne 6, 3) := by decide +kernel
theorem dX8_addRow_48 : decode cX8_addRow 48 = .ok (.aload_n 0, 1) := by decide +kernel
theorem dX8_addRow_49 : decode cX8_addRow 49 = .ok (.getfield 10, 3) := by decide +kernel
set_option maxRecDepth 20000 in
theorem ggX8_addRow_X3_isFull : GoodIn wsX8_addRow wsX3_isFull := goodIn_r _ [22, 23, 51, 52, 53, 54, 55, 56, 57] (by decide +kernel) (by decide +kernel)
set_option maxRecDepth 20000 in
theorem gX8_addRow_X3_isFull_n103 : GoodIn wsX8_addRow (wsX3_isFull) := ggX8_addRow_X3_isFull
theorem dX8_addRow_52 : decode cX8_addRow 52 = .ok (.invokevirtual 103, 3) := by decide +kernel
theorem dX8_addRow_55 : decode cX8_addRow 55 = .ok (.ifCond .eq 6, 3) := by decide +kernel
theorem dX8_addRow_61 : decode cX8_addRow 61 = .ok (.aload_n 0, 1) := by decide +kernel
theorem dX8_addRow_62 : decode cX8_addRow 62 = .ok (.getfield 23, 3) := by decide +kernel
theorem dX8_addRow_65 : decode cX8_addRow 65 = .ok (.iload_n 1, 1) := by decide +kernel
theorem dX8_addRow_66 : decode cX8_addRow 66 = .ok (.baload, 1) := by decide +kernel
theorem dX8_addRow_67 : decode cX8_addRow 67 = .ok (.ifCond .eq 6, 3) := by decide +kernel
theorem dX8_addRow_73 : decode cX8_addRow 73 = .ok (.aload_n 0, 1) := by decide +kernel
theorem dX8_addRow_74 : decode cX8_addRow 74 = .ok (.getfield 10, 3) := by decide +kernel
theorem dX8_addRow_77 : decode cX8_addRow 77 = .ok (.iload_n 1, 1) := by decide +kernel
theorem dX8_addRow_78 : decode cX8_addRow 78 = .ok (.iload_n 2, 1) := by decide +kernel
theorem dX8_addRow_79 : decode cX8_addRow 79 = .ok (.iload_n 3, 1) := by decide +kernel
theorem dX8_addRow_80 : decode cX8_addRow 80 = .ok (.iload 4, 2) := by decide +kernel
theorem dX8_addRow_82 : decode cX8_addRow 82 = .ok (.iload 5, 2) := by decide +kernel
set_option maxRecDepth 20000 in
theorem ggX8_addRow_X3_add : GoodIn wsX8_addRow wsX3_add := goodIn_r _ [26, 27, 23, 28, 29, 30, 31, 32, 33, 19, 21, 20, 22, 51, 52, 53, 54, 55, 56, 57] (by decide +kernel) (by decide +kernel)
set_option maxRecDepth 20000 in
theorem gX8_addRow_X3_add_n107 : GoodIn wsX8_addRow (wsX3_add) := ggX8_addRow_X3_add
theorem dX8_addRow_84 : decode cX8_addRow 84 = .ok (.invokevirtual 107, 3) := by decide +kernel
theorem dX8_addRow_87 : decode cX8_addRow 87 = .ok (.ireturn, 1) := by decide +kernel
theorem dX8_addRow_70 : decode cX8_addRow 70 = .ok (.bipush (-6), 2) := by decide +kernel
theorem dX8_addRow_72 : decode cX8_addRow 72 = .ok (.ireturn, 1) := by decide +kernel
theorem dX8_addRow_58 : decode cX8_addRow 58 = .ok (.bipush (-5), 2) := by decide +kernel
theorem dX8_addRow_60 : decode cX8_addRow 60 = .ok (.ireturn, 1) := by decide +kernel
theorem dX8_addRow_45 : decode cX8_addRow 45 = .ok (.bipush (-2), 2) := by decide +kernel
theorem dX8_addRow_47 : decode cX8_addRow 47 = .ok (.ireturn, 1) := by decide +kernel
theorem dX8_row_0 : decode cX8_row 0 = .ok (.aload_n 0, 1) := by decide +kernel
theorem dX8_row_1 : decode cX8_row 1 = .ok (.aload_n 0, 1) := by decide +kernel
theorem dX8_row_2 : decode cX8_row 2 = .ok (.iload_n 1, 1) := by decide +kernel
theorem dX8_row_3 : decode cX8_row 3 = .ok (.iload_n 2, 1) := by decide +kernel
theorem dX8_row_4 : decode cX8_row 4 = .ok (.iload_n 3, 1) := by decide +kernel
theorem dX8_row_5 : decode cX8_row 5 = .ok (.iload 4, 2) := by decide +kernel
theorem dX8_row_7 : decode cX8_row 7 = .ok (.iload 5, 2) := by decide +kernel
set_option maxRecDepth 20000 in
theorem ggX8_row_X8_addRow : GoodIn wsX8_row wsX8_addRow := goodIn_r _ [5, 6, 7, 8, 9, 4, 10, 11, 12, 13, 14, 15, 16, 17, 18, 19, 20, 21, 22, 23, 24, 25, 26, 27, 28, 29, 30, 31, 32, 33, 34, 35, 36, 37, 47, 48, 49, 50, 51, 52, 53, 54, 55, 56, 57, 58, 59, 60, 61, 62, 63, 64, 65, 66, 67, 68, 69, 70] (by decide +kernel) (by decide +kernel)
set_option maxRecDepth 20000 in
theorem gX8_row_X8_addRow : GoodIn wsX8_row (wsV RX8 90 RX8 yX8_addRow wsX8_addRow) := goodIn_app (goodIn_of _ (by decide +kernel)) ggX8_row_X8_addRow
theorem dX8_row_9 : decode cX8_row 9 = .ok (.invokevirtual 90, 3) := by decide +kernel
set_option maxRecDepth 20000 in
theorem ggX8_row_X8_settle : GoodIn wsX8_row wsX8_settle := goodIn_r _ [41, 42, 43, 44, 45, 46, 47, 48, 49, 50, 51, 52, 53, 54, 55, 56, 57, 58, 59, 60, 61, 62, 63] (by decide +kernel) (by decide +kernel)
set_option maxRecDepth 20000 in
theorem gX8_row_X8_settle : GoodIn wsX8_row (wsV RX8 86 RX8 yX8_settle wsX8_settle) := goodIn_app (goodIn_of _ (by decide +kernel)) ggX8_row_X8_settle
theorem dX8_row_12 : decode cX8_row 12 = .ok (.invokevirtual 86, 3) := by decide +kernel
theorem dX8_row_15 : decode cX8_row 15 = .ok (.ireturn, 1) := by decide +kernel
set_option maxHeartbeats 8000000 in
set_option maxRecDepth 100000 in
theorem k_X3_isFull (l : Launch) (dC : Nat → ClassId) (dI : Nat → Nat → Nat) (cA : Nat → ClassId) (sz : Nat) (ax : Nat → Nat) (xRz : Int32) (xRn : Int32) (i_xRz : 0 ≤ xRz.toInt ∧ xRz.toInt ≤ 400)  : Met l yX3_isFull wsX3_isFull ({ frames := 0, cells := 0, slots := 0, locals := 0 }) (va_Pc [.ref (ax 1)] (fun U => U.heap.size = sz ∧ va_P (dC, dI) vwCl [((ax 1), .inr (3, [.ref (ax 2), .ref (ax 3), .ref (ax 4), .ref (ax 5), .ref (ax 6), .int xRz, .int xRn]))] U.heap ∧ va_K (dC, dI) vwCl (tyL cA) U ∧ va_D (fun _ => True) [((ax 1), .inr (3, [.ref (ax 2), .ref (ax 3), .ref (ax 4), .ref (ax 5), .ref (ax 6), .int xRz, .int xRn]))] ∧ nw_ok U)) (va_Qi (fun (r : Int32) (_ : Unit) => ((xRz.toInt = 400 → r.toInt = 1) ∧ (xRz.toInt < 400 → r.toInt = 0))) (fun (_ : Unit) (t : State) => va_P (dC, dI) vwCl [((ax 1), .inr (3, [.ref (ax 2), .ref (ax 3), .ref (ax 4), .ref (ax 5), .ref (ax 6), .int xRz, .int xRn]))] t.heap ∧ va_D (va_A [((ax 1), .inr (3, [.ref (ax 2), .ref (ax 3), .ref (ax 4), .ref (ax 5), .ref (ax 6), .int xRz, .int xRn]))] sz) [((ax 1), .inr (3, [.ref (ax 2), .ref (ax 3), .ref (ax 4), .ref (ax 5), .ref (ax 6), .int xRz, .int xRn]))]) (va_A [((ax 1), .inr (3, [.ref (ax 2), .ref (ax 3), .ref (ax 4), .ref (ax 5), .ref (ax 6), .int xRz, .int xRn]))] sz)) 0 0 (va_A [((ax 1), .inr (3, [.ref (ax 2), .ref (ax 3), .ref (ax 4), .ref (ax 5), .ref (ax 6), .int xRz, .int xRn]))] sz) := by
  refine Met.ofW (cc := cX3_isFull) (maxL := 1) (ret := (some .boolean)) (by decide) rfl ?_
  intro p e s m args below meth c s₁ B hml hv
  obtain ⟨rfl, hsz, hP, hK, hD0, hN⟩ := hv
  have hx := B.exec
  have hb := B.bytes
  have hr := B.returns
  have hts := atoms_spec (ws := wsX3_isFull) B.pre
  have hown : s.vm.findClass RX3 = some m.cls := findClass_of_methodNamed B.named
  have hlocks := B.notSynchronized
  subst hsz
  have hD := hD0.self (sz := s.heap.size)
  generalize hAe : va_A [((ax 1), .inr (3, [.ref (ax 2), .ref (ax 3), .ref (ax 4), .ref (ax 5), .ref (ax 6), .int xRz, .int xRn]))] s.heap.size = A at hD ⊢
  have hA : ∀ q : Nat, s.heap.size ≤ q → A q := fun q h => by rw [← hAe]; exact Or.inr h
  have hS : va_S A s.heap s.heap [] := va_S.rf
  have hIX3 : ∀ w ∈ u_ws RX3 TX3 7, w ∈ wsX3_isFull := by decide +kernel
  have hl := lv_entry ([.ref (ax 1)]) (n := 1) (Nat.le_of_ble_eq_true rfl)
  rw [lg_entry_eq]
  generalize (lg_sl ([.ref (ax 1)]) ++ List.replicate (1 - (lg_sl ([.ref (ax 1)])).length) Slot.unset).toArray = ls at hl ⊢
  have hl : lv_has ls 1 [(0, .ref (ax 1))] := hl
  generalize hQe : MQ below _ _ _ _ _ _ = QQ
  refine lv_aload_n hx hb dX3_isFull_0 rfl (lv_at hl 0 rfl) ?_
  refine va_get (D := (dC, dI)) (ci := 3) (v := .int xRz) (C := RX3) (T := TX3) (N := 7) hx hb hts hIX3 hown hK hP 0 rfl rfl 5 (by decide) (hts (.fieldLink RX3 27 "TraitHouse$Rows" "size" "I") (by decide +kernel)) (fun _ h9 => h9) rfl dX3_isFull_1 ?_
  refine lv_sipush (v := 400) hx hb dX3_isFull_4 (by decide) ?_
  refine lv_icmp_lt (tgt := 14) hx hb dX3_isFull_7 (by decide) (fun c_1 => ?_) (fun c_1 => ?_)
  · have dc_1 : xRz.toInt < 400 := jI_lt c_1 rfl (by decide)
    refine lv_iconst (v := 0) hx hb dX3_isFull_14 (by decide) ?_
    obtain ⟨hP9, hD9⟩ := va_pd (ws' := [((ax 1), .inr (3, [.ref (ax 2), .ref (ax 3), .ref (ax 4), .ref (ax 5), .ref (ax 6), .int xRz, .int xRn]))]) hP hD [0] (by decide) rfl
    subst hQe
    have hans : (0 : Int32).toInt = 0 := (by decide)
    have hpost : ((xRz.toInt = 400 → (0 : Int32).toInt = 1) ∧ (xRz.toInt < 400 → (0 : Int32).toInt = 0)) := by omega
    exact W.zret (v := 0) hx hb hr (by decide) (fun t ht hW => ⟨⟨0, (), rfl, hpost, by rw [ht]; exact hP9, hD9⟩, hS.F ht⟩) hS.2.2 dX3_isFull_15
  · have dc_1 : 400 ≤ xRz.toInt := jI_nlt c_1 rfl (by decide)
    refine lv_iconst (v := 1) hx hb dX3_isFull_10 (by decide) ?_
    refine lv_goto (tgt := 15) hx hb dX3_isFull_11 (by decide) ?_
    obtain ⟨hP9, hD9⟩ := va_pd (ws' := [((ax 1), .inr (3, [.ref (ax 2), .ref (ax 3), .ref (ax 4), .ref (ax 5), .ref (ax 6), .int xRz, .int xRn]))]) hP hD [0] (by decide) rfl
    subst hQe
    have hans : (1 : Int32).toInt = 1 := (by decide)
    have hpost : ((xRz.toInt = 400 → (1 : Int32).toInt = 1) ∧ (xRz.toInt < 400 → (1 : Int32).toInt = 0)) := by omega
    exact W.zret (v := 1) hx hb hr (by decide) (fun t ht hW => ⟨⟨1, (), rfl, hpost, by rw [ht]; exact hP9, hD9⟩, hS.F ht⟩) hS.2.2 dX3_isFull_15

set_option maxHeartbeats 8000000 in
set_option maxRecDepth 100000 in
theorem k_X3_add (l : Launch) (dC : Nat → ClassId) (dI : Nat → Nat → Nat) (cA : Nat → ClassId) (sz : Nat) (ax : Nat → Nat) (xRz : Int32) (xRn : Int32) (gP : Nat → Int32) (gS : Nat → Int32) (gM : Nat → Int32) (gK : Nat → Int32) (gV : Nat → Int32) (pp : Int32) (st : Int32) (mo : Int32) (kn : Int32) (va : Int32) (i_xRz : 0 ≤ xRz.toInt ∧ xRz.toInt ≤ 400) (i_gP : inB 0 19 400 gP) (hpp : 0 ≤ pp.toInt ∧ pp.toInt ≤ 19) : Met l yX3_add wsX3_add ({ frames := 1, cells := 0, slots := 0, locals := 20 }) (va_Pc [.ref (ax 1), .int pp, .int st, .int mo, .int kn, .int va] (fun U => U.heap.size = sz ∧ va_P (dC, dI) vwCl [((ax 1), .inr (3, [.ref (ax 2), .ref (ax 3), .ref (ax 4), .ref (ax 5), .ref (ax 6), .int xRz, .int xRn])), ((ax 2), .inl (cA 0, 400, .inl gP)), ((ax 3), .inl (cA 0, 400, .inl gS)), ((ax 4), .inl (cA 0, 400, .inl gM)), ((ax 5), .inl (cA 0, 400, .inl gK)), ((ax 6), .inl (cA 0, 400, .inl gV))] U.heap ∧ va_K (dC, dI) vwCl (tyL cA) U ∧ va_D (fun _ => True) [((ax 1), .inr (3, [.ref (ax 2), .ref (ax 3), .ref (ax 4), .ref (ax 5), .ref (ax 6), .int xRz, .int xRn])), ((ax 2), .inl (cA 0, 400, .inl gP)), ((ax 3), .inl (cA 0, 400, .inl gS)), ((ax 4), .inl (cA 0, 400, .inl gM)), ((ax 5), .inl (cA 0, 400, .inl gK)), ((ax 6), .inl (cA 0, 400, .inl gV))] ∧ nw_ok U)) (va_Qi (fun (r : Int32) (u : Int32 × Int32 × (Nat → Int32) × (Nat → Int32) × (Nat → Int32) × (Nat → Int32) × (Nat → Int32)) => (0 ≤ u.1.toInt ∧ u.1.toInt ≤ 400) ∧ (inB 0 19 400 u.2.2.1)) (fun (u : Int32 × Int32 × (Nat → Int32) × (Nat → Int32) × (Nat → Int32) × (Nat → Int32) × (Nat → Int32)) (t : State) => va_P (dC, dI) vwCl [((ax 1), .inr (3, [.ref (ax 2), .ref (ax 3), .ref (ax 4), .ref (ax 5), .ref (ax 6), .int u.1, .int u.2.1])), ((ax 2), .inl (cA 0, 400, .inl u.2.2.1)), ((ax 3), .inl (cA 0, 400, .inl u.2.2.2.1)), ((ax 4), .inl (cA 0, 400, .inl u.2.2.2.2.1)), ((ax 5), .inl (cA 0, 400, .inl u.2.2.2.2.2.1)), ((ax 6), .inl (cA 0, 400, .inl u.2.2.2.2.2.2))] t.heap ∧ va_D (va_A [((ax 1), .inr (3, [.ref (ax 2), .ref (ax 3), .ref (ax 4), .ref (ax 5), .ref (ax 6), .int xRz, .int xRn])), ((ax 2), .inl (cA 0, 400, .inl gP)), ((ax 3), .inl (cA 0, 400, .inl gS)), ((ax 4), .inl (cA 0, 400, .inl gM)), ((ax 5), .inl (cA 0, 400, .inl gK)), ((ax 6), .inl (cA 0, 400, .inl gV))] sz) [((ax 1), .inr (3, [.ref (ax 2), .ref (ax 3), .ref (ax 4), .ref (ax 5), .ref (ax 6), .int u.1, .int u.2.1])), ((ax 2), .inl (cA 0, 400, .inl u.2.2.1)), ((ax 3), .inl (cA 0, 400, .inl u.2.2.2.1)), ((ax 4), .inl (cA 0, 400, .inl u.2.2.2.2.1)), ((ax 5), .inl (cA 0, 400, .inl u.2.2.2.2.2.1)), ((ax 6), .inl (cA 0, 400, .inl u.2.2.2.2.2.2))]) (va_A [((ax 1), .inr (3, [.ref (ax 2), .ref (ax 3), .ref (ax 4), .ref (ax 5), .ref (ax 6), .int xRz, .int xRn])), ((ax 2), .inl (cA 0, 400, .inl gP)), ((ax 3), .inl (cA 0, 400, .inl gS)), ((ax 4), .inl (cA 0, 400, .inl gM)), ((ax 5), .inl (cA 0, 400, .inl gK)), ((ax 6), .inl (cA 0, 400, .inl gV))] sz)) 0 0 (va_A [((ax 1), .inr (3, [.ref (ax 2), .ref (ax 3), .ref (ax 4), .ref (ax 5), .ref (ax 6), .int xRz, .int xRn])), ((ax 2), .inl (cA 0, 400, .inl gP)), ((ax 3), .inl (cA 0, 400, .inl gS)), ((ax 4), .inl (cA 0, 400, .inl gM)), ((ax 5), .inl (cA 0, 400, .inl gK)), ((ax 6), .inl (cA 0, 400, .inl gV))] sz) := by
  refine Met.ofW (cc := cX3_add) (maxL := 6) (ret := (some .int)) (by decide) rfl ?_
  intro p e s m args below meth c s₁ B hml hv
  obtain ⟨rfl, hsz, hP, hK, hD0, hN⟩ := hv
  have hx := B.exec
  have hb := B.bytes
  have hr := B.returns
  have hts := atoms_spec (ws := wsX3_add) B.pre
  have hown : s.vm.findClass RX3 = some m.cls := findClass_of_methodNamed B.named
  have hlocks := B.notSynchronized
  subst hsz
  have hD := hD0.self (sz := s.heap.size)
  generalize hAe : va_A [((ax 1), .inr (3, [.ref (ax 2), .ref (ax 3), .ref (ax 4), .ref (ax 5), .ref (ax 6), .int xRz, .int xRn])), ((ax 2), .inl (cA 0, 400, .inl gP)), ((ax 3), .inl (cA 0, 400, .inl gS)), ((ax 4), .inl (cA 0, 400, .inl gM)), ((ax 5), .inl (cA 0, 400, .inl gK)), ((ax 6), .inl (cA 0, 400, .inl gV))] s.heap.size = A at hD ⊢
  have hA : ∀ q : Nat, s.heap.size ≤ q → A q := fun q h => by rw [← hAe]; exact Or.inr h
  have hS : va_S A s.heap s.heap [] := va_S.rf
  have hIX3 : ∀ w ∈ u_ws RX3 TX3 7, w ∈ wsX3_add := by decide +kernel
  have hl := lv_entry ([.ref (ax 1), .int pp, .int st, .int mo, .int kn, .int va]) (n := 6) (Nat.le_of_ble_eq_true rfl)
  rw [lg_entry_eq]
  generalize (lg_sl ([.ref (ax 1), .int pp, .int st, .int mo, .int kn, .int va]) ++ List.replicate (6 - (lg_sl ([.ref (ax 1), .int pp, .int st, .int mo, .int kn, .int va])).length) Slot.unset).toArray = ls at hl ⊢
  have hl : lv_has ls 6 [(0, .ref (ax 1)), (1, .int pp), (2, .int st), (3, .int mo), (4, .int kn), (5, .int va)] := hl
  generalize hQe : MQ below _ _ _ _ _ _ = QQ
  refine lv_aload_n hx hb dX3_add_0 rfl (lv_at hl 0 rfl) ?_
  obtain ⟨hPc, hDc, hFc, hCc⟩ := va_pre (ws' := [((ax 1), .inr (3, [.ref (ax 2), .ref (ax 3), .ref (ax 4), .ref (ax 5), .ref (ax 6), .int xRz, .int xRn]))]) hP hD hS hA [0] (by decide) rfl
  refine va_calli (va_runV (As := []) (rest := []) ⟨hx, hb, hml, hown, hts⟩ (k_X3_isFull l dC dI cA s.heap.size ax xRz xRn i_xRz) (cwV 0 hts gX3_add_X3_isFull rfl rfl rfl (by decide +kernel) ⟨Nat.le_of_ble_eq_true rfl, Nat.le_of_ble_eq_true rfl⟩) ⟨fun a U g mk q => by obtain ⟨q0, q1, qP, qK, qD, qN⟩ := q; exact ⟨q0, q1, qP, va_K.moved (u := U) (U := U.calling g mk a) (Vm.Alike.refl U.vm) qK, qD, qN.same rfl⟩, va_recv hK hPc (ci := 3) (q0 := 0) rfl rfl, fun U hU hW => ⟨rfl, by rw [hU], by rw [hU]; exact hPc, va_K.moved hW.alike hK, hDc.weaken (fun _ _ _ _ => trivial), hN.warm hW⟩⟩ rfl rfl hl.1 rfl (lv_room (Nat.le_of_ble_eq_true rfl)) dX3_add_1 ⟨Nat.le_of_ble_eq_true rfl, Nat.le_of_ble_eq_true rfl⟩) hS (fun q _ h => hFc q h) hFc (fun r_1 u_2 t H1 locs ht hvm hw_3 hB hz1 hk1 hS => ?_)
  try dsimp only at hw_3 hB
  have po_4 := hw_3
  clear hw_3
  obtain ⟨hP1, hD1⟩ := hB
  rw [ht] at hP1
  obtain ⟨hP, hD⟩ := va_join (wr := [((ax 2), .inl (cA 0, 400, .inl gP)), ((ax 3), .inl (cA 0, 400, .inl gS)), ((ax 4), .inl (cA 0, 400, .inl gM)), ((ax 5), .inl (cA 0, 400, .inl gK)), ((ax 6), .inl (cA 0, 400, .inl gV))]) (w1 := [((ax 1), .inr (3, [.ref (ax 2), .ref (ax 3), .ref (ax 4), .ref (ax 5), .ref (ax 6), .int xRz, .int xRn]))]) hP hD [0] [1, 2, 3, 4, 5] hCc rfl (by decide) (by decide) hk1 hFc hP1 hD1
  clear hz1
  generalize H1 = H at hP hS ⊢
  refine lv_if_eq (tgt := 10) hx hb dX3_add_4 (by decide) (fun c_5 => ?_) (fun c_5 => ?_)
  · have dc_5 : r_1.toInt = 0 := jI_eq c_5 rfl (by decide)
    refine lv_aload_n hx hb dX3_add_10 rfl (lv_at hl 0 rfl) ?_
    refine va_get (D := (dC, dI)) (ci := 3) (v := .ref (ax 2)) (C := RX3) (T := TX3) (N := 7) hx hb hts hIX3 hown hK hP 5 rfl rfl 0 (by decide) (hts (.fieldLink RX3 9 "TraitHouse$Rows" "people" "[I") (by decide +kernel)) (fun _ h9 => h9) rfl dX3_add_11 ?_
    refine lv_aload_n hx hb dX3_add_14 rfl (lv_at hl 0 rfl) ?_
    refine va_get (D := (dC, dI)) (ci := 3) (v := .int xRz) (C := RX3) (T := TX3) (N := 7) hx hb hts hIX3 hown hK hP 5 rfl rfl 5 (by decide) (hts (.fieldLink RX3 27 "TraitHouse$Rows" "size" "I") (by decide +kernel)) (fun _ h9 => h9) rfl dX3_add_15 ?_
    refine lv_iload_n hx hb dX3_add_18 rfl (lv_at hl 1 rfl) ?_
    have h_6 : vp_in xRz 400 := (vp_in_iff.mpr ⟨by omega, by omega⟩)
    refine va_iast hx hb hK hP hD hS 0 0 rfl rfl h_6 dX3_add_19 (fun H locs hP hD hS => ?_)
    replace hP : va_P (dC, dI) vwCl [((ax 2), .inl (cA 0, 400, .inl (upd gP xRz.toNatClampNeg pp))), ((ax 3), .inl (cA 0, 400, .inl gS)), ((ax 4), .inl (cA 0, 400, .inl gM)), ((ax 5), .inl (cA 0, 400, .inl gK)), ((ax 6), .inl (cA 0, 400, .inl gV)), ((ax 1), .inr (3, [.ref (ax 2), .ref (ax 3), .ref (ax 4), .ref (ax 5), .ref (ax 6), .int xRz, .int xRn]))] H := hP
    replace hD : va_D A [((ax 2), .inl (cA 0, 400, .inl (upd gP xRz.toNatClampNeg pp))), ((ax 3), .inl (cA 0, 400, .inl gS)), ((ax 4), .inl (cA 0, 400, .inl gM)), ((ax 5), .inl (cA 0, 400, .inl gK)), ((ax 6), .inl (cA 0, 400, .inl gV)), ((ax 1), .inr (3, [.ref (ax 2), .ref (ax 3), .ref (ax 4), .ref (ax 5), .ref (ax 6), .int xRz, .int xRn]))] := hD
    obtain ⟨g_7, eg_7⟩ : ∃ g : Nat → Int32, g = upd gP xRz.toNatClampNeg pp := ⟨_, rfl⟩
    rw [← eg_7] at hP hD
    have ig_7 : inB 0 19 400 g_7 := by rw [eg_7]; exact inB_upd i_gP (by omega) (by omega)
    refine lv_aload_n hx hb dX3_add_20 rfl (lv_at hl 0 rfl) ?_
    refine va_get (D := (dC, dI)) (ci := 3) (v := .ref (ax 3)) (C := RX3) (T := TX3) (N := 7) hx hb hts hIX3 hown hK hP 5 rfl rfl 1 (by decide) (hts (.fieldLink RX3 15 "TraitHouse$Rows" "streams" "[I") (by decide +kernel)) (fun _ h9 => h9) rfl dX3_add_21 ?_
    refine lv_aload_n hx hb dX3_add_24 rfl (lv_at hl 0 rfl) ?_
    refine va_get (D := (dC, dI)) (ci := 3) (v := .int xRz) (C := RX3) (T := TX3) (N := 7) hx hb hts hIX3 hown hK hP 5 rfl rfl 5 (by decide) (hts (.fieldLink RX3 27 "TraitHouse$Rows" "size" "I") (by decide +kernel)) (fun _ h9 => h9) rfl dX3_add_25 ?_
    refine lv_iload_n hx hb dX3_add_28 rfl (lv_at hl 2 rfl) ?_
    have h_8 : vp_in xRz 400 := (vp_in_iff.mpr ⟨by omega, by omega⟩)
    refine va_iast hx hb hK hP hD hS 1 0 rfl rfl h_8 dX3_add_29 (fun H locs hP hD hS => ?_)
    replace hP : va_P (dC, dI) vwCl [((ax 2), .inl (cA 0, 400, .inl g_7)), ((ax 3), .inl (cA 0, 400, .inl (upd gS xRz.toNatClampNeg st))), ((ax 4), .inl (cA 0, 400, .inl gM)), ((ax 5), .inl (cA 0, 400, .inl gK)), ((ax 6), .inl (cA 0, 400, .inl gV)), ((ax 1), .inr (3, [.ref (ax 2), .ref (ax 3), .ref (ax 4), .ref (ax 5), .ref (ax 6), .int xRz, .int xRn]))] H := hP
    replace hD : va_D A [((ax 2), .inl (cA 0, 400, .inl g_7)), ((ax 3), .inl (cA 0, 400, .inl (upd gS xRz.toNatClampNeg st))), ((ax 4), .inl (cA 0, 400, .inl gM)), ((ax 5), .inl (cA 0, 400, .inl gK)), ((ax 6), .inl (cA 0, 400, .inl gV)), ((ax 1), .inr (3, [.ref (ax 2), .ref (ax 3), .ref (ax 4), .ref (ax 5), .ref (ax 6), .int xRz, .int xRn]))] := hD
    obtain ⟨g_9, eg_9⟩ : ∃ g : Nat → Int32, g = upd gS xRz.toNatClampNeg st := ⟨_, rfl⟩
    rw [← eg_9] at hP hD
    refine lv_aload_n hx hb dX3_add_30 rfl (lv_at hl 0 rfl) ?_
    refine va_get (D := (dC, dI)) (ci := 3) (v := .ref (ax 4)) (C := RX3) (T := TX3) (N := 7) hx hb hts hIX3 hown hK hP 5 rfl rfl 2 (by decide) (hts (.fieldLink RX3 18 "TraitHouse$Rows" "moments" "[I") (by decide +kernel)) (fun _ h9 => h9) rfl dX3_add_31 ?_
    refine lv_aload_n hx hb dX3_add_34 rfl (lv_at hl 0 rfl) ?_
    refine va_get (D := (dC, dI)) (ci := 3) (v := .int xRz) (C := RX3) (T := TX3) (N := 7) hx hb hts hIX3 hown hK hP 5 rfl rfl 5 (by decide) (hts (.fieldLink RX3 27 "TraitHouse$Rows" "size" "I") (by decide +kernel)) (fun _ h9 => h9) rfl dX3_add_35 ?_
    refine lv_iload_n hx hb dX3_add_38 rfl (lv_at hl 3 rfl) ?_
    have h_10 : vp_in xRz 400 := (vp_in_iff.mpr ⟨by omega, by omega⟩)
    refine va_iast hx hb hK hP hD hS 2 0 rfl rfl h_10 dX3_add_39 (fun H locs hP hD hS => ?_)
    replace hP : va_P (dC, dI) vwCl [((ax 2), .inl (cA 0, 400, .inl g_7)), ((ax 3), .inl (cA 0, 400, .inl g_9)), ((ax 4), .inl (cA 0, 400, .inl (upd gM xRz.toNatClampNeg mo))), ((ax 5), .inl (cA 0, 400, .inl gK)), ((ax 6), .inl (cA 0, 400, .inl gV)), ((ax 1), .inr (3, [.ref (ax 2), .ref (ax 3), .ref (ax 4), .ref (ax 5), .ref (ax 6), .int xRz, .int xRn]))] H := hP
    replace hD : va_D A [((ax 2), .inl (cA 0, 400, .inl g_7)), ((ax 3), .inl (cA 0, 400, .inl g_9)), ((ax 4), .inl (cA 0, 400, .inl (upd gM xRz.toNatClampNeg mo))), ((ax 5), .inl (cA 0, 400, .inl gK)), ((ax 6), .inl (cA 0, 400, .inl gV)), ((ax 1), .inr (3, [.ref (ax 2), .ref (ax 3), .ref (ax 4), .ref (ax 5), .ref (ax 6), .int xRz, .int xRn]))] := hD
    obtain ⟨g_11, eg_11⟩ : ∃ g : Nat → Int32, g = upd gM xRz.toNatClampNeg mo := ⟨_, rfl⟩
    rw [← eg_11] at hP hD
    refine lv_aload_n hx hb dX3_add_40 rfl (lv_at hl 0 rfl) ?_
    refine va_get (D := (dC, dI)) (ci := 3) (v := .ref (ax 5)) (C := RX3) (T := TX3) (N := 7) hx hb hts hIX3 hown hK hP 5 rfl rfl 3 (by decide) (hts (.fieldLink RX3 21 "TraitHouse$Rows" "knowns" "[I") (by decide +kernel)) (fun _ h9 => h9) rfl dX3_add_41 ?_
    refine lv_aload_n hx hb dX3_add_44 rfl (lv_at hl 0 rfl) ?_
    refine va_get (D := (dC, dI)) (ci := 3) (v := .int xRz) (C := RX3) (T := TX3) (N := 7) hx hb hts hIX3 hown hK hP 5 rfl rfl 5 (by decide) (hts (.fieldLink RX3 27 "TraitHouse$Rows" "size" "I") (by decide +kernel)) (fun _ h9 => h9) rfl dX3_add_45 ?_
    refine lv_iload hx hb dX3_add_48 (lv_at hl 4 rfl) ?_
    have h_12 : vp_in xRz 400 := (vp_in_iff.mpr ⟨by omega, by omega⟩)
    refine va_iast hx hb hK hP hD hS 3 0 rfl rfl h_12 dX3_add_50 (fun H locs hP hD hS => ?_)
    replace hP : va_P (dC, dI) vwCl [((ax 2), .inl (cA 0, 400, .inl g_7)), ((ax 3), .inl (cA 0, 400, .inl g_9)), ((ax 4), .inl (cA 0, 400, .inl g_11)), ((ax 5), .inl (cA 0, 400, .inl (upd gK xRz.toNatClampNeg kn))), ((ax 6), .inl (cA 0, 400, .inl gV)), ((ax 1), .inr (3, [.ref (ax 2), .ref (ax 3), .ref (ax 4), .ref (ax 5), .ref (ax 6), .int xRz, .int xRn]))] H := hP
    replace hD : va_D A [((ax 2), .inl (cA 0, 400, .inl g_7)), ((ax 3), .inl (cA 0, 400, .inl g_9)), ((ax 4), .inl (cA 0, 400, .inl g_11)), ((ax 5), .inl (cA 0, 400, .inl (upd gK xRz.toNatClampNeg kn))), ((ax 6), .inl (cA 0, 400, .inl gV)), ((ax 1), .inr (3, [.ref (ax 2), .ref (ax 3), .ref (ax 4), .ref (ax 5), .ref (ax 6), .int xRz, .int xRn]))] := hD
    obtain ⟨g_13, eg_13⟩ : ∃ g : Nat → Int32, g = upd gK xRz.toNatClampNeg kn := ⟨_, rfl⟩
    rw [← eg_13] at hP hD
    refine lv_aload_n hx hb dX3_add_51 rfl (lv_at hl 0 rfl) ?_
    refine va_get (D := (dC, dI)) (ci := 3) (v := .ref (ax 6)) (C := RX3) (T := TX3) (N := 7) hx hb hts hIX3 hown hK hP 5 rfl rfl 4 (by decide) (hts (.fieldLink RX3 24 "TraitHouse$Rows" "values" "[I") (by decide +kernel)) (fun _ h9 => h9) rfl dX3_add_52 ?_
    refine lv_aload_n hx hb dX3_add_55 rfl (lv_at hl 0 rfl) ?_
    refine va_get (D := (dC, dI)) (ci := 3) (v := .int xRz) (C := RX3) (T := TX3) (N := 7) hx hb hts hIX3 hown hK hP 5 rfl rfl 5 (by decide) (hts (.fieldLink RX3 27 "TraitHouse$Rows" "size" "I") (by decide +kernel)) (fun _ h9 => h9) rfl dX3_add_56 ?_
    refine lv_iload hx hb dX3_add_59 (lv_at hl 5 rfl) ?_
    have h_14 : vp_in xRz 400 := (vp_in_iff.mpr ⟨by omega, by omega⟩)
    refine va_iast hx hb hK hP hD hS 4 0 rfl rfl h_14 dX3_add_61 (fun H locs hP hD hS => ?_)
    replace hP : va_P (dC, dI) vwCl [((ax 2), .inl (cA 0, 400, .inl g_7)), ((ax 3), .inl (cA 0, 400, .inl g_9)), ((ax 4), .inl (cA 0, 400, .inl g_11)), ((ax 5), .inl (cA 0, 400, .inl g_13)), ((ax 6), .inl (cA 0, 400, .inl (upd gV xRz.toNatClampNeg va))), ((ax 1), .inr (3, [.ref (ax 2), .ref (ax 3), .ref (ax 4), .ref (ax 5), .ref (ax 6), .int xRz, .int xRn]))] H := hP
    replace hD : va_D A [((ax 2), .inl (cA 0, 400, .inl g_7)), ((ax 3), .inl (cA 0, 400, .inl g_9)), ((ax 4), .inl (cA 0, 400, .inl g_11)), ((ax 5), .inl (cA 0, 400, .inl g_13)), ((ax 6), .inl (cA 0, 400, .inl (upd gV xRz.toNatClampNeg va))), ((ax 1), .inr (3, [.ref (ax 2), .ref (ax 3), .ref (ax 4), .ref (ax 5), .ref (ax 6), .int xRz, .int xRn]))] := hD
    obtain ⟨g_15, eg_15⟩ : ∃ g : Nat → Int32, g = upd gV xRz.toNatClampNeg va := ⟨_, rfl⟩
    rw [← eg_15] at hP hD
    refine lv_aload_n hx hb dX3_add_62 rfl (lv_at hl 0 rfl) ?_
    refine lv_dup hx hb dX3_add_63 rfl ?_
    refine va_get (D := (dC, dI)) (ci := 3) (v := .int xRz) (C := RX3) (T := TX3) (N := 7) hx hb hts hIX3 hown hK hP 5 rfl rfl 5 (by decide) (hts (.fieldLink RX3 27 "TraitHouse$Rows" "size" "I") (by decide +kernel)) (fun _ h9 => h9) rfl dX3_add_64 ?_
    refine lv_iconst (v := 1) hx hb dX3_add_67 (by decide) ?_
    refine lv_iadd hx hb dX3_add_68 ?_
    refine lv_topi (fun x_16 ex_16 => ?_)
    have dx_16 : x_16.toInt = xRz.toInt + 1 := by rw [ex_16]; exact jI_add rfl (by decide) (by omega) (by omega)
    refine va_put (D := (dC, dI)) (ci := 3) (v := .int x_16) (ty := .int) (C := RX3) (T := TX3) (N := 7) hx hb hts hIX3 tyX3 tyX3_ok nmX3 hown hK hP hD hS 5 rfl rfl 5 (by decide) (hts (.fieldLink RX3 27 "TraitHouse$Rows" "size" "I") (by decide +kernel)) (fun _ h9 => h9) rfl (by decide +kernel) rfl rfl (Nat.le_of_ble_eq_true rfl) dX3_add_69 (fun H locs hP hD hS => ?_)
    replace hP : va_P (dC, dI) vwCl [((ax 2), .inl (cA 0, 400, .inl g_7)), ((ax 3), .inl (cA 0, 400, .inl g_9)), ((ax 4), .inl (cA 0, 400, .inl g_11)), ((ax 5), .inl (cA 0, 400, .inl g_13)), ((ax 6), .inl (cA 0, 400, .inl g_15)), ((ax 1), .inr (3, [.ref (ax 2), .ref (ax 3), .ref (ax 4), .ref (ax 5), .ref (ax 6), .int x_16, .int xRn]))] H := hP
    replace hD : va_D A [((ax 2), .inl (cA 0, 400, .inl g_7)), ((ax 3), .inl (cA 0, 400, .inl g_9)), ((ax 4), .inl (cA 0, 400, .inl g_11)), ((ax 5), .inl (cA 0, 400, .inl g_13)), ((ax 6), .inl (cA 0, 400, .inl g_15)), ((ax 1), .inr (3, [.ref (ax 2), .ref (ax 3), .ref (ax 4), .ref (ax 5), .ref (ax 6), .int x_16, .int xRn]))] := hD
    refine lv_aload_n hx hb dX3_add_72 rfl (lv_at hl 0 rfl) ?_
    refine lv_dup hx hb dX3_add_73 rfl ?_
    refine va_get (D := (dC, dI)) (ci := 3) (v := .int xRn) (C := RX3) (T := TX3) (N := 7) hx hb hts hIX3 hown hK hP 5 rfl rfl 6 (by decide) (hts (.fieldLink RX3 35 "TraitHouse$Rows" "nextNumber" "I") (by decide +kernel)) (fun _ h9 => h9) rfl dX3_add_74 ?_
    refine lv_iconst (v := 1) hx hb dX3_add_77 (by decide) ?_
    refine lv_iadd hx hb dX3_add_78 ?_
    refine lv_topi (fun x_17 ex_17 => ?_)
    refine va_put (D := (dC, dI)) (ci := 3) (v := .int x_17) (ty := .int) (C := RX3) (T := TX3) (N := 7) hx hb hts hIX3 tyX3 tyX3_ok nmX3 hown hK hP hD hS 5 rfl rfl 6 (by decide) (hts (.fieldLink RX3 35 "TraitHouse$Rows" "nextNumber" "I") (by decide +kernel)) (fun _ h9 => h9) rfl (by decide +kernel) rfl rfl (Nat.le_of_ble_eq_true rfl) dX3_add_79 (fun H locs hP hD hS => ?_)
    replace hP : va_P (dC, dI) vwCl [((ax 2), .inl (cA 0, 400, .inl g_7)), ((ax 3), .inl (cA 0, 400, .inl g_9)), ((ax 4), .inl (cA 0, 400, .inl g_11)), ((ax 5), .inl (cA 0, 400, .inl g_13)), ((ax 6), .inl (cA 0, 400, .inl g_15)), ((ax 1), .inr (3, [.ref (ax 2), .ref (ax 3), .ref (ax 4), .ref (ax 5), .ref (ax 6), .int x_16, .int x_17]))] H := hP
    replace hD : va_D A [((ax 2), .inl (cA 0, 400, .inl g_7)), ((ax 3), .inl (cA 0, 400, .inl g_9)), ((ax 4), .inl (cA 0, 400, .inl g_11)), ((ax 5), .inl (cA 0, 400, .inl g_13)), ((ax 6), .inl (cA 0, 400, .inl g_15)), ((ax 1), .inr (3, [.ref (ax 2), .ref (ax 3), .ref (ax 4), .ref (ax 5), .ref (ax 6), .int x_16, .int x_17]))] := hD
    refine lv_aload_n hx hb dX3_add_82 rfl (lv_at hl 0 rfl) ?_
    refine va_get (D := (dC, dI)) (ci := 3) (v := .int x_17) (C := RX3) (T := TX3) (N := 7) hx hb hts hIX3 hown hK hP 5 rfl rfl 6 (by decide) (hts (.fieldLink RX3 35 "TraitHouse$Rows" "nextNumber" "I") (by decide +kernel)) (fun _ h9 => h9) rfl dX3_add_83 ?_
    refine lv_iconst (v := 1) hx hb dX3_add_86 (by decide) ?_
    refine lv_isub hx hb dX3_add_87 ?_
    refine lv_topi (fun x_18 ex_18 => ?_)
    obtain ⟨hP9, hD9⟩ := va_pd (ws' := [((ax 1), .inr (3, [.ref (ax 2), .ref (ax 3), .ref (ax 4), .ref (ax 5), .ref (ax 6), .int x_16, .int x_17])), ((ax 2), .inl (cA 0, 400, .inl g_7)), ((ax 3), .inl (cA 0, 400, .inl g_9)), ((ax 4), .inl (cA 0, 400, .inl g_11)), ((ax 5), .inl (cA 0, 400, .inl g_13)), ((ax 6), .inl (cA 0, 400, .inl g_15))]) hP hD [5, 0, 1, 2, 3, 4] (by decide) rfl
    subst hQe
    have hans : (x_18 : Int32).toInt = x_18.toInt := rfl
    have hpost : (0 ≤ x_16.toInt ∧ x_16.toInt ≤ 400) ∧ (inB 0 19 400 g_7) := ⟨by omega, ig_7⟩
    exact W.iret (v := x_18) hx hb hr (fun t ht hW => ⟨⟨x_18, (x_16, x_17, g_7, g_9, g_11, g_13, g_15), rfl, hpost, by rw [ht]; exact hP9, hD9⟩, hS.F ht⟩) hS.2.2 dX3_add_88
  · have dc_5 : ¬ r_1.toInt = 0 := jI_ne c_5 rfl (by decide)
    refine lv_bipush (v := (-5)) hx hb dX3_add_7 (by decide) ?_
    obtain ⟨hP9, hD9⟩ := va_pd (ws' := [((ax 1), .inr (3, [.ref (ax 2), .ref (ax 3), .ref (ax 4), .ref (ax 5), .ref (ax 6), .int xRz, .int xRn])), ((ax 2), .inl (cA 0, 400, .inl gP)), ((ax 3), .inl (cA 0, 400, .inl gS)), ((ax 4), .inl (cA 0, 400, .inl gM)), ((ax 5), .inl (cA 0, 400, .inl gK)), ((ax 6), .inl (cA 0, 400, .inl gV))]) hP hD [5, 0, 1, 2, 3, 4] (by decide) rfl
    subst hQe
    have hans : ((-5) : Int32).toInt = (-5) := (by decide)
    have hpost : (0 ≤ xRz.toInt ∧ xRz.toInt ≤ 400) ∧ (inB 0 19 400 gP) := ⟨i_xRz, i_gP⟩
    exact W.iret (v := (-5)) hx hb hr (fun t ht hW => ⟨⟨(-5), (xRz, xRn, gP, gS, gM, gK, gV), rfl, hpost, by rw [ht]; exact hP9, hD9⟩, hS.F ht⟩) hS.2.2 dX3_add_9

set_option maxHeartbeats 8000000 in
set_option maxRecDepth 100000 in
theorem k_X3_move (l : Launch) (dC : Nat → ClassId) (dI : Nat → Nat → Nat) (cA : Nat → ClassId) (sz : Nat) (ax : Nat → Nat) (xRz : Int32) (xRn : Int32) (gP : Nat → Int32) (gS : Nat → Int32) (gM : Nat → Int32) (gK : Nat → Int32) (gV : Nat → Int32) (a : Int32) (b : Int32) (i_xRz : 0 ≤ xRz.toInt ∧ xRz.toInt ≤ 400) (i_gP : inB 0 19 400 gP) (ha : 0 ≤ a.toInt ∧ a.toInt ≤ 399) (hb_ : 0 ≤ b.toInt ∧ b.toInt ≤ 399) : Met l yX3_move wsX3_move ({ frames := 0, cells := 0, slots := 0, locals := 0 }) (va_Pc [.ref (ax 1), .int a, .int b] (fun U => U.heap.size = sz ∧ va_P (dC, dI) vwCl [((ax 1), .inr (3, [.ref (ax 2), .ref (ax 3), .ref (ax 4), .ref (ax 5), .ref (ax 6), .int xRz, .int xRn])), ((ax 2), .inl (cA 0, 400, .inl gP)), ((ax 3), .inl (cA 0, 400, .inl gS)), ((ax 4), .inl (cA 0, 400, .inl gM)), ((ax 5), .inl (cA 0, 400, .inl gK)), ((ax 6), .inl (cA 0, 400, .inl gV))] U.heap ∧ va_K (dC, dI) vwCl (tyL cA) U ∧ va_D (fun _ => True) [((ax 1), .inr (3, [.ref (ax 2), .ref (ax 3), .ref (ax 4), .ref (ax 5), .ref (ax 6), .int xRz, .int xRn])), ((ax 2), .inl (cA 0, 400, .inl gP)), ((ax 3), .inl (cA 0, 400, .inl gS)), ((ax 4), .inl (cA 0, 400, .inl gM)), ((ax 5), .inl (cA 0, 400, .inl gK)), ((ax 6), .inl (cA 0, 400, .inl gV))] ∧ nw_ok U)) (va_Qv (fun (u : (Nat → Int32) × (Nat → Int32) × (Nat → Int32) × (Nat → Int32) × (Nat → Int32)) => (inB 0 19 400 u.1)) (fun (u : (Nat → Int32) × (Nat → Int32) × (Nat → Int32) × (Nat → Int32) × (Nat → Int32)) (t : State) => va_P (dC, dI) vwCl [((ax 1), .inr (3, [.ref (ax 2), .ref (ax 3), .ref (ax 4), .ref (ax 5), .ref (ax 6), .int xRz, .int xRn])), ((ax 2), .inl (cA 0, 400, .inl u.1)), ((ax 3), .inl (cA 0, 400, .inl u.2.1)), ((ax 4), .inl (cA 0, 400, .inl u.2.2.1)), ((ax 5), .inl (cA 0, 400, .inl u.2.2.2.1)), ((ax 6), .inl (cA 0, 400, .inl u.2.2.2.2))] t.heap ∧ va_D (va_A [((ax 1), .inr (3, [.ref (ax 2), .ref (ax 3), .ref (ax 4), .ref (ax 5), .ref (ax 6), .int xRz, .int xRn])), ((ax 2), .inl (cA 0, 400, .inl gP)), ((ax 3), .inl (cA 0, 400, .inl gS)), ((ax 4), .inl (cA 0, 400, .inl gM)), ((ax 5), .inl (cA 0, 400, .inl gK)), ((ax 6), .inl (cA 0, 400, .inl gV))] sz) [((ax 1), .inr (3, [.ref (ax 2), .ref (ax 3), .ref (ax 4), .ref (ax 5), .ref (ax 6), .int xRz, .int xRn])), ((ax 2), .inl (cA 0, 400, .inl u.1)), ((ax 3), .inl (cA 0, 400, .inl u.2.1)), ((ax 4), .inl (cA 0, 400, .inl u.2.2.1)), ((ax 5), .inl (cA 0, 400, .inl u.2.2.2.1)), ((ax 6), .inl (cA 0, 400, .inl u.2.2.2.2))]) (va_A [((ax 1), .inr (3, [.ref (ax 2), .ref (ax 3), .ref (ax 4), .ref (ax 5), .ref (ax 6), .int xRz, .int xRn])), ((ax 2), .inl (cA 0, 400, .inl gP)), ((ax 3), .inl (cA 0, 400, .inl gS)), ((ax 4), .inl (cA 0, 400, .inl gM)), ((ax 5), .inl (cA 0, 400, .inl gK)), ((ax 6), .inl (cA 0, 400, .inl gV))] sz)) 0 0 (va_A [((ax 1), .inr (3, [.ref (ax 2), .ref (ax 3), .ref (ax 4), .ref (ax 5), .ref (ax 6), .int xRz, .int xRn])), ((ax 2), .inl (cA 0, 400, .inl gP)), ((ax 3), .inl (cA 0, 400, .inl gS)), ((ax 4), .inl (cA 0, 400, .inl gM)), ((ax 5), .inl (cA 0, 400, .inl gK)), ((ax 6), .inl (cA 0, 400, .inl gV))] sz) := by
  refine Met.ofW (cc := cX3_move) (maxL := 3) (ret := none) (by decide) rfl ?_
  intro p e s m args below meth c s₁ B hml hv
  obtain ⟨rfl, hsz, hP, hK, hD0, hN⟩ := hv
  have hx := B.exec
  have hb := B.bytes
  have hr := B.returns
  have hts := atoms_spec (ws := wsX3_move) B.pre
  have hown : s.vm.findClass RX3 = some m.cls := findClass_of_methodNamed B.named
  have hlocks := B.notSynchronized
  subst hsz
  have hD := hD0.self (sz := s.heap.size)
  generalize hAe : va_A [((ax 1), .inr (3, [.ref (ax 2), .ref (ax 3), .ref (ax 4), .ref (ax 5), .ref (ax 6), .int xRz, .int xRn])), ((ax 2), .inl (cA 0, 400, .inl gP)), ((ax 3), .inl (cA 0, 400, .inl gS)), ((ax 4), .inl (cA 0, 400, .inl gM)), ((ax 5), .inl (cA 0, 400, .inl gK)), ((ax 6), .inl (cA 0, 400, .inl gV))] s.heap.size = A at hD ⊢
  have hA : ∀ q : Nat, s.heap.size ≤ q → A q := fun q h => by rw [← hAe]; exact Or.inr h
  have hS : va_S A s.heap s.heap [] := va_S.rf
  have hIX3 : ∀ w ∈ u_ws RX3 TX3 7, w ∈ wsX3_move := by decide +kernel
  have hl := lv_entry ([.ref (ax 1), .int a, .int b]) (n := 3) (Nat.le_of_ble_eq_true rfl)
  rw [lg_entry_eq]
  generalize (lg_sl ([.ref (ax 1), .int a, .int b]) ++ List.replicate (3 - (lg_sl ([.ref (ax 1), .int a, .int b])).length) Slot.unset).toArray = ls at hl ⊢
  have hl : lv_has ls 3 [(0, .ref (ax 1)), (1, .int a), (2, .int b)] := hl
  generalize hQe : MQ below _ _ _ _ _ _ = QQ
  refine lv_aload_n hx hb dX3_move_0 rfl (lv_at hl 0 rfl) ?_
  refine va_get (D := (dC, dI)) (ci := 3) (v := .ref (ax 2)) (C := RX3) (T := TX3) (N := 7) hx hb hts hIX3 hown hK hP 0 rfl rfl 0 (by decide) (hts (.fieldLink RX3 9 "TraitHouse$Rows" "people" "[I") (by decide +kernel)) (fun _ h9 => h9) rfl dX3_move_1 ?_
  refine lv_iload_n hx hb dX3_move_4 rfl (lv_at hl 2 rfl) ?_
  refine lv_aload_n hx hb dX3_move_5 rfl (lv_at hl 0 rfl) ?_
  refine va_get (D := (dC, dI)) (ci := 3) (v := .ref (ax 2)) (C := RX3) (T := TX3) (N := 7) hx hb hts hIX3 hown hK hP 0 rfl rfl 0 (by decide) (hts (.fieldLink RX3 9 "TraitHouse$Rows" "people" "[I") (by decide +kernel)) (fun _ h9 => h9) rfl dX3_move_6 ?_
  refine lv_iload_n hx hb dX3_move_9 rfl (lv_at hl 1 rfl) ?_
  have h_1 : vp_in a 400 := (vp_in_iff.mpr ⟨by omega, by omega⟩)
  refine va_iald hx hb hK hP 1 0 rfl rfl h_1 dX3_move_10 ?_
  refine lv_topi (fun x_2 ex_2 => ?_)
  have bx_2 := i_gP _ (jix h_1)
  rw [← ex_2] at bx_2
  have h_3 : vp_in b 400 := (vp_in_iff.mpr ⟨by omega, by omega⟩)
  refine va_iast hx hb hK hP hD hS 1 0 rfl rfl h_3 dX3_move_11 (fun H locs hP hD hS => ?_)
  replace hP : va_P (dC, dI) vwCl [((ax 1), .inr (3, [.ref (ax 2), .ref (ax 3), .ref (ax 4), .ref (ax 5), .ref (ax 6), .int xRz, .int xRn])), ((ax 2), .inl (cA 0, 400, .inl (upd gP b.toNatClampNeg x_2))), ((ax 3), .inl (cA 0, 400, .inl gS)), ((ax 4), .inl (cA 0, 400, .inl gM)), ((ax 5), .inl (cA 0, 400, .inl gK)), ((ax 6), .inl (cA 0, 400, .inl gV))] H := hP
  replace hD : va_D A [((ax 1), .inr (3, [.ref (ax 2), .ref (ax 3), .ref (ax 4), .ref (ax 5), .ref (ax 6), .int xRz, .int xRn])), ((ax 2), .inl (cA 0, 400, .inl (upd gP b.toNatClampNeg x_2))), ((ax 3), .inl (cA 0, 400, .inl gS)), ((ax 4), .inl (cA 0, 400, .inl gM)), ((ax 5), .inl (cA 0, 400, .inl gK)), ((ax 6), .inl (cA 0, 400, .inl gV))] := hD
  obtain ⟨g_4, eg_4⟩ : ∃ g : Nat → Int32, g = upd gP b.toNatClampNeg x_2 := ⟨_, rfl⟩
  rw [← eg_4] at hP hD
  have ig_4 : inB 0 19 400 g_4 := by rw [eg_4]; exact inB_upd i_gP (by omega) (by omega)
  refine lv_aload_n hx hb dX3_move_12 rfl (lv_at hl 0 rfl) ?_
  refine va_get (D := (dC, dI)) (ci := 3) (v := .ref (ax 3)) (C := RX3) (T := TX3) (N := 7) hx hb hts hIX3 hown hK hP 0 rfl rfl 1 (by decide) (hts (.fieldLink RX3 15 "TraitHouse$Rows" "streams" "[I") (by decide +kernel)) (fun _ h9 => h9) rfl dX3_move_13 ?_
  refine lv_iload_n hx hb dX3_move_16 rfl (lv_at hl 2 rfl) ?_
  refine lv_aload_n hx hb dX3_move_17 rfl (lv_at hl 0 rfl) ?_
  refine va_get (D := (dC, dI)) (ci := 3) (v := .ref (ax 3)) (C := RX3) (T := TX3) (N := 7) hx hb hts hIX3 hown hK hP 0 rfl rfl 1 (by decide) (hts (.fieldLink RX3 15 "TraitHouse$Rows" "streams" "[I") (by decide +kernel)) (fun _ h9 => h9) rfl dX3_move_18 ?_
  refine lv_iload_n hx hb dX3_move_21 rfl (lv_at hl 1 rfl) ?_
  have h_5 : vp_in a 400 := (vp_in_iff.mpr ⟨by omega, by omega⟩)
  refine va_iald hx hb hK hP 2 0 rfl rfl h_5 dX3_move_22 ?_
  refine lv_topi (fun x_6 ex_6 => ?_)
  have h_7 : vp_in b 400 := (vp_in_iff.mpr ⟨by omega, by omega⟩)
  refine va_iast hx hb hK hP hD hS 2 0 rfl rfl h_7 dX3_move_23 (fun H locs hP hD hS => ?_)
  replace hP : va_P (dC, dI) vwCl [((ax 1), .inr (3, [.ref (ax 2), .ref (ax 3), .ref (ax 4), .ref (ax 5), .ref (ax 6), .int xRz, .int xRn])), ((ax 2), .inl (cA 0, 400, .inl g_4)), ((ax 3), .inl (cA 0, 400, .inl (upd gS b.toNatClampNeg x_6))), ((ax 4), .inl (cA 0, 400, .inl gM)), ((ax 5), .inl (cA 0, 400, .inl gK)), ((ax 6), .inl (cA 0, 400, .inl gV))] H := hP
  replace hD : va_D A [((ax 1), .inr (3, [.ref (ax 2), .ref (ax 3), .ref (ax 4), .ref (ax 5), .ref (ax 6), .int xRz, .int xRn])), ((ax 2), .inl (cA 0, 400, .inl g_4)), ((ax 3), .inl (cA 0, 400, .inl (upd gS b.toNatClampNeg x_6))), ((ax 4), .inl (cA 0, 400, .inl gM)), ((ax 5), .inl (cA 0, 400, .inl gK)), ((ax 6), .inl (cA 0, 400, .inl gV))] := hD
  obtain ⟨g_8, eg_8⟩ : ∃ g : Nat → Int32, g = upd gS b.toNatClampNeg x_6 := ⟨_, rfl⟩
  rw [← eg_8] at hP hD
  refine lv_aload_n hx hb dX3_move_24 rfl (lv_at hl 0 rfl) ?_
  refine va_get (D := (dC, dI)) (ci := 3) (v := .ref (ax 4)) (C := RX3) (T := TX3) (N := 7) hx hb hts hIX3 hown hK hP 0 rfl rfl 2 (by decide) (hts (.fieldLink RX3 18 "TraitHouse$Rows" "moments" "[I") (by decide +kernel)) (fun _ h9 => h9) rfl dX3_move_25 ?_
  refine lv_iload_n hx hb dX3_move_28 rfl (lv_at hl 2 rfl) ?_
  refine lv_aload_n hx hb dX3_move_29 rfl (lv_at hl 0 rfl) ?_
  refine va_get (D := (dC, dI)) (ci := 3) (v := .ref (ax 4)) (C := RX3) (T := TX3) (N := 7) hx hb hts hIX3 hown hK hP 0 rfl rfl 2 (by decide) (hts (.fieldLink RX3 18 "TraitHouse$Rows" "moments" "[I") (by decide +kernel)) (fun _ h9 => h9) rfl dX3_move_30 ?_
  refine lv_iload_n hx hb dX3_move_33 rfl (lv_at hl 1 rfl) ?_
  have h_9 : vp_in a 400 := (vp_in_iff.mpr ⟨by omega, by omega⟩)
  refine va_iald hx hb hK hP 3 0 rfl rfl h_9 dX3_move_34 ?_
  refine lv_topi (fun x_10 ex_10 => ?_)
  have h_11 : vp_in b 400 := (vp_in_iff.mpr ⟨by omega, by omega⟩)
  refine va_iast hx hb hK hP hD hS 3 0 rfl rfl h_11 dX3_move_35 (fun H locs hP hD hS => ?_)
  replace hP : va_P (dC, dI) vwCl [((ax 1), .inr (3, [.ref (ax 2), .ref (ax 3), .ref (ax 4), .ref (ax 5), .ref (ax 6), .int xRz, .int xRn])), ((ax 2), .inl (cA 0, 400, .inl g_4)), ((ax 3), .inl (cA 0, 400, .inl g_8)), ((ax 4), .inl (cA 0, 400, .inl (upd gM b.toNatClampNeg x_10))), ((ax 5), .inl (cA 0, 400, .inl gK)), ((ax 6), .inl (cA 0, 400, .inl gV))] H := hP
  replace hD : va_D A [((ax 1), .inr (3, [.ref (ax 2), .ref (ax 3), .ref (ax 4), .ref (ax 5), .ref (ax 6), .int xRz, .int xRn])), ((ax 2), .inl (cA 0, 400, .inl g_4)), ((ax 3), .inl (cA 0, 400, .inl g_8)), ((ax 4), .inl (cA 0, 400, .inl (upd gM b.toNatClampNeg x_10))), ((ax 5), .inl (cA 0, 400, .inl gK)), ((ax 6), .inl (cA 0, 400, .inl gV))] := hD
  obtain ⟨g_12, eg_12⟩ : ∃ g : Nat → Int32, g = upd gM b.toNatClampNeg x_10 := ⟨_, rfl⟩
  rw [← eg_12] at hP hD
  refine lv_aload_n hx hb dX3_move_36 rfl (lv_at hl 0 rfl) ?_
  refine va_get (D := (dC, dI)) (ci := 3) (v := .ref (ax 5)) (C := RX3) (T := TX3) (N := 7) hx hb hts hIX3 hown hK hP 0 rfl rfl 3 (by decide) (hts (.fieldLink RX3 21 "TraitHouse$Rows" "knowns" "[I") (by decide +kernel)) (fun _ h9 => h9) rfl dX3_move_37 ?_
  refine lv_iload_n hx hb dX3_move_40 rfl (lv_at hl 2 rfl) ?_
  refine lv_aload_n hx hb dX3_move_41 rfl (lv_at hl 0 rfl) ?_
  refine va_get (D := (dC, dI)) (ci := 3) (v := .ref (ax 5)) (C := RX3) (T := TX3) (N := 7) hx hb hts hIX3 hown hK hP 0 rfl rfl 3 (by decide) (hts (.fieldLink RX3 21 "TraitHouse$Rows" "knowns" "[I") (by decide +kernel)) (fun _ h9 => h9) rfl dX3_move_42 ?_
  refine lv_iload_n hx hb dX3_move_45 rfl (lv_at hl 1 rfl) ?_
  have h_13 : vp_in a 400 := (vp_in_iff.mpr ⟨by omega, by omega⟩)
  refine va_iald hx hb hK hP 4 0 rfl rfl h_13 dX3_move_46 ?_
  refine lv_topi (fun x_14 ex_14 => ?_)
  have h_15 : vp_in b 400 := (vp_in_iff.mpr ⟨by omega, by omega⟩)
  refine va_iast hx hb hK hP hD hS 4 0 rfl rfl h_15 dX3_move_47 (fun H locs hP hD hS => ?_)
  replace hP : va_P (dC, dI) vwCl [((ax 1), .inr (3, [.ref (ax 2), .ref (ax 3), .ref (ax 4), .ref (ax 5), .ref (ax 6), .int xRz, .int xRn])), ((ax 2), .inl (cA 0, 400, .inl g_4)), ((ax 3), .inl (cA 0, 400, .inl g_8)), ((ax 4), .inl (cA 0, 400, .inl g_12)), ((ax 5), .inl (cA 0, 400, .inl (upd gK b.toNatClampNeg x_14))), ((ax 6), .inl (cA 0, 400, .inl gV))] H := hP
  replace hD : va_D A [((ax 1), .inr (3, [.ref (ax 2), .ref (ax 3), .ref (ax 4), .ref (ax 5), .ref (ax 6), .int xRz, .int xRn])), ((ax 2), .inl (cA 0, 400, .inl g_4)), ((ax 3), .inl (cA 0, 400, .inl g_8)), ((ax 4), .inl (cA 0, 400, .inl g_12)), ((ax 5), .inl (cA 0, 400, .inl (upd gK b.toNatClampNeg x_14))), ((ax 6), .inl (cA 0, 400, .inl gV))] := hD
  obtain ⟨g_16, eg_16⟩ : ∃ g : Nat → Int32, g = upd gK b.toNatClampNeg x_14 := ⟨_, rfl⟩
  rw [← eg_16] at hP hD
  refine lv_aload_n hx hb dX3_move_48 rfl (lv_at hl 0 rfl) ?_
  refine va_get (D := (dC, dI)) (ci := 3) (v := .ref (ax 6)) (C := RX3) (T := TX3) (N := 7) hx hb hts hIX3 hown hK hP 0 rfl rfl 4 (by decide) (hts (.fieldLink RX3 24 "TraitHouse$Rows" "values" "[I") (by decide +kernel)) (fun _ h9 => h9) rfl dX3_move_49 ?_
  refine lv_iload_n hx hb dX3_move_52 rfl (lv_at hl 2 rfl) ?_
  refine lv_aload_n hx hb dX3_move_53 rfl (lv_at hl 0 rfl) ?_
  refine va_get (D := (dC, dI)) (ci := 3) (v := .ref (ax 6)) (C := RX3) (T := TX3) (N := 7) hx hb hts hIX3 hown hK hP 0 rfl rfl 4 (by decide) (hts (.fieldLink RX3 24 "TraitHouse$Rows" "values" "[I") (by decide +kernel)) (fun _ h9 => h9) rfl dX3_move_54 ?_
  refine lv_iload_n hx hb dX3_move_57 rfl (lv_at hl 1 rfl) ?_
  have h_17 : vp_in a 400 := (vp_in_iff.mpr ⟨by omega, by omega⟩)
  refine va_iald hx hb hK hP 5 0 rfl rfl h_17 dX3_move_58 ?_
  refine lv_topi (fun x_18 ex_18 => ?_)
  have h_19 : vp_in b 400 := (vp_in_iff.mpr ⟨by omega, by omega⟩)
  refine va_iast hx hb hK hP hD hS 5 0 rfl rfl h_19 dX3_move_59 (fun H locs hP hD hS => ?_)
  replace hP : va_P (dC, dI) vwCl [((ax 1), .inr (3, [.ref (ax 2), .ref (ax 3), .ref (ax 4), .ref (ax 5), .ref (ax 6), .int xRz, .int xRn])), ((ax 2), .inl (cA 0, 400, .inl g_4)), ((ax 3), .inl (cA 0, 400, .inl g_8)), ((ax 4), .inl (cA 0, 400, .inl g_12)), ((ax 5), .inl (cA 0, 400, .inl g_16)), ((ax 6), .inl (cA 0, 400, .inl (upd gV b.toNatClampNeg x_18)))] H := hP
  replace hD : va_D A [((ax 1), .inr (3, [.ref (ax 2), .ref (ax 3), .ref (ax 4), .ref (ax 5), .ref (ax 6), .int xRz, .int xRn])), ((ax 2), .inl (cA 0, 400, .inl g_4)), ((ax 3), .inl (cA 0, 400, .inl g_8)), ((ax 4), .inl (cA 0, 400, .inl g_12)), ((ax 5), .inl (cA 0, 400, .inl g_16)), ((ax 6), .inl (cA 0, 400, .inl (upd gV b.toNatClampNeg x_18)))] := hD
  obtain ⟨g_20, eg_20⟩ : ∃ g : Nat → Int32, g = upd gV b.toNatClampNeg x_18 := ⟨_, rfl⟩
  rw [← eg_20] at hP hD
  obtain ⟨hP9, hD9⟩ := va_pd (ws' := [((ax 1), .inr (3, [.ref (ax 2), .ref (ax 3), .ref (ax 4), .ref (ax 5), .ref (ax 6), .int xRz, .int xRn])), ((ax 2), .inl (cA 0, 400, .inl g_4)), ((ax 3), .inl (cA 0, 400, .inl g_8)), ((ax 4), .inl (cA 0, 400, .inl g_12)), ((ax 5), .inl (cA 0, 400, .inl g_16)), ((ax 6), .inl (cA 0, 400, .inl g_20))]) hP hD [0, 1, 2, 3, 4, 5] (by decide) rfl
  subst hQe
  have hpost : (inB 0 19 400 g_4) := ig_4
  exact W.vret hx hb hr (fun t ht hW => ⟨⟨(g_4, g_8, g_12, g_16, g_20), rfl, hpost, by rw [ht]; exact hP9, hD9⟩, hS.F ht⟩) hS.2.2 dX3_move_60

set_option maxHeartbeats 8000000 in
set_option maxRecDepth 100000 in
theorem k_X3_drop (l : Launch) (dC : Nat → ClassId) (dI : Nat → Nat → Nat) (cA : Nat → ClassId) (sz : Nat) (ax : Nat → Nat) (xRz : Int32) (xRn : Int32) (gP : Nat → Int32) (gS : Nat → Int32) (gM : Nat → Int32) (gK : Nat → Int32) (gV : Nat → Int32) (a : Int32) (i_xRz : 0 ≤ xRz.toInt ∧ xRz.toInt ≤ 400) (i_gP : inB 0 19 400 gP)  : Met l yX3_drop wsX3_drop ({ frames := 1, cells := 0, slots := 0, locals := 22 }) (va_Pc [.ref (ax 1), .int a] (fun U => U.heap.size = sz ∧ va_P (dC, dI) vwCl [((ax 1), .inr (3, [.ref (ax 2), .ref (ax 3), .ref (ax 4), .ref (ax 5), .ref (ax 6), .int xRz, .int xRn])), ((ax 2), .inl (cA 0, 400, .inl gP)), ((ax 3), .inl (cA 0, 400, .inl gS)), ((ax 4), .inl (cA 0, 400, .inl gM)), ((ax 5), .inl (cA 0, 400, .inl gK)), ((ax 6), .inl (cA 0, 400, .inl gV))] U.heap ∧ va_K (dC, dI) vwCl (tyL cA) U ∧ va_D (fun _ => True) [((ax 1), .inr (3, [.ref (ax 2), .ref (ax 3), .ref (ax 4), .ref (ax 5), .ref (ax 6), .int xRz, .int xRn])), ((ax 2), .inl (cA 0, 400, .inl gP)), ((ax 3), .inl (cA 0, 400, .inl gS)), ((ax 4), .inl (cA 0, 400, .inl gM)), ((ax 5), .inl (cA 0, 400, .inl gK)), ((ax 6), .inl (cA 0, 400, .inl gV))] ∧ nw_ok U)) (va_Qi (fun (r : Int32) (u : Int32 × (Nat → Int32) × (Nat → Int32) × (Nat → Int32) × (Nat → Int32) × (Nat → Int32)) => (0 ≤ u.1.toInt ∧ u.1.toInt ≤ 400) ∧ (inB 0 19 400 u.2.1)) (fun (u : Int32 × (Nat → Int32) × (Nat → Int32) × (Nat → Int32) × (Nat → Int32) × (Nat → Int32)) (t : State) => va_P (dC, dI) vwCl [((ax 1), .inr (3, [.ref (ax 2), .ref (ax 3), .ref (ax 4), .ref (ax 5), .ref (ax 6), .int u.1, .int xRn])), ((ax 2), .inl (cA 0, 400, .inl u.2.1)), ((ax 3), .inl (cA 0, 400, .inl u.2.2.1)), ((ax 4), .inl (cA 0, 400, .inl u.2.2.2.1)), ((ax 5), .inl (cA 0, 400, .inl u.2.2.2.2.1)), ((ax 6), .inl (cA 0, 400, .inl u.2.2.2.2.2))] t.heap ∧ va_D (va_A [((ax 1), .inr (3, [.ref (ax 2), .ref (ax 3), .ref (ax 4), .ref (ax 5), .ref (ax 6), .int xRz, .int xRn])), ((ax 2), .inl (cA 0, 400, .inl gP)), ((ax 3), .inl (cA 0, 400, .inl gS)), ((ax 4), .inl (cA 0, 400, .inl gM)), ((ax 5), .inl (cA 0, 400, .inl gK)), ((ax 6), .inl (cA 0, 400, .inl gV))] sz) [((ax 1), .inr (3, [.ref (ax 2), .ref (ax 3), .ref (ax 4), .ref (ax 5), .ref (ax 6), .int u.1, .int xRn])), ((ax 2), .inl (cA 0, 400, .inl u.2.1)), ((ax 3), .inl (cA 0, 400, .inl u.2.2.1)), ((ax 4), .inl (cA 0, 400, .inl u.2.2.2.1)), ((ax 5), .inl (cA 0, 400, .inl u.2.2.2.2.1)), ((ax 6), .inl (cA 0, 400, .inl u.2.2.2.2.2))]) (va_A [((ax 1), .inr (3, [.ref (ax 2), .ref (ax 3), .ref (ax 4), .ref (ax 5), .ref (ax 6), .int xRz, .int xRn])), ((ax 2), .inl (cA 0, 400, .inl gP)), ((ax 3), .inl (cA 0, 400, .inl gS)), ((ax 4), .inl (cA 0, 400, .inl gM)), ((ax 5), .inl (cA 0, 400, .inl gK)), ((ax 6), .inl (cA 0, 400, .inl gV))] sz)) 0 0 (va_A [((ax 1), .inr (3, [.ref (ax 2), .ref (ax 3), .ref (ax 4), .ref (ax 5), .ref (ax 6), .int xRz, .int xRn])), ((ax 2), .inl (cA 0, 400, .inl gP)), ((ax 3), .inl (cA 0, 400, .inl gS)), ((ax 4), .inl (cA 0, 400, .inl gM)), ((ax 5), .inl (cA 0, 400, .inl gK)), ((ax 6), .inl (cA 0, 400, .inl gV))] sz) := by
  refine Met.ofW (cc := cX3_drop) (maxL := 4) (ret := (some .int)) (by decide) rfl ?_
  intro p e s m args below meth c s₁ B hml hv
  obtain ⟨rfl, hsz, hP, hK, hD0, hN⟩ := hv
  have hx := B.exec
  have hb := B.bytes
  have hr := B.returns
  have hts := atoms_spec (ws := wsX3_drop) B.pre
  have hown : s.vm.findClass RX3 = some m.cls := findClass_of_methodNamed B.named
  have hlocks := B.notSynchronized
  subst hsz
  have hD := hD0.self (sz := s.heap.size)
  generalize hAe : va_A [((ax 1), .inr (3, [.ref (ax 2), .ref (ax 3), .ref (ax 4), .ref (ax 5), .ref (ax 6), .int xRz, .int xRn])), ((ax 2), .inl (cA 0, 400, .inl gP)), ((ax 3), .inl (cA 0, 400, .inl gS)), ((ax 4), .inl (cA 0, 400, .inl gM)), ((ax 5), .inl (cA 0, 400, .inl gK)), ((ax 6), .inl (cA 0, 400, .inl gV))] s.heap.size = A at hD ⊢
  have hA : ∀ q : Nat, s.heap.size ≤ q → A q := fun q h => by rw [← hAe]; exact Or.inr h
  have hS : va_S A s.heap s.heap [] := va_S.rf
  have hIX3 : ∀ w ∈ u_ws RX3 TX3 7, w ∈ wsX3_drop := by decide +kernel
  have hl := lv_entry ([.ref (ax 1), .int a]) (n := 4) (Nat.le_of_ble_eq_true rfl)
  rw [lg_entry_eq]
  generalize (lg_sl ([.ref (ax 1), .int a]) ++ List.replicate (4 - (lg_sl ([.ref (ax 1), .int a])).length) Slot.unset).toArray = ls at hl ⊢
  have hl : lv_has ls 4 [(0, .ref (ax 1)), (1, .int a)] := hl
  generalize hQe : MQ below _ _ _ _ _ _ = QQ
  refine lv_iconst (v := 0) hx hb dX3_drop_0 (by decide) ?_
  refine lv_istore_n (lv' := [(2, .int 0), (0, .ref (ax 1)), (1, .int a)]) hx hb dX3_drop_1 rfl hl (by decide) rfl (fun ls hl => ?_)
  refine lv_iconst (v := 0) hx hb dX3_drop_2 (by decide) ?_
  refine lv_istore_n (lv' := [(3, .int 0), (2, .int 0), (0, .ref (ax 1)), (1, .int a)]) hx hb dX3_drop_3 rfl hl (by decide) rfl (fun ls hl => ?_)
  have loop4_1 : ∀ (n : Nat) (i3 : Int32) (n2 : Int32) (w_gP_4 : Nat → Int32) (w_gS_4 : Nat → Int32) (w_gM_4 : Nat → Int32) (w_gK_4 : Nat → Int32) (w_gV_4 : Nat → Int32) (H : Heap) (locs : List Loc) (ls : Array Slot), 400 - i3.toInt < (n : Int) → (0 ≤ i3.toInt ∧ i3.toInt ≤ 400) → (0 ≤ n2.toInt ∧ n2.toInt ≤ 400) → (inB 0 19 400 w_gP_4) → (n2.toInt ≤ i3.toInt) → va_P (dC, dI) vwCl [((ax 1), .inr (3, [.ref (ax 2), .ref (ax 3), .ref (ax 4), .ref (ax 5), .ref (ax 6), .int xRz, .int xRn])), ((ax 2), .inl (cA 0, 400, .inl w_gP_4)), ((ax 3), .inl (cA 0, 400, .inl w_gS_4)), ((ax 4), .inl (cA 0, 400, .inl w_gM_4)), ((ax 5), .inl (cA 0, 400, .inl w_gK_4)), ((ax 6), .inl (cA 0, 400, .inl w_gV_4))] H → va_D A [((ax 1), .inr (3, [.ref (ax 2), .ref (ax 3), .ref (ax 4), .ref (ax 5), .ref (ax 6), .int xRz, .int xRn])), ((ax 2), .inl (cA 0, 400, .inl w_gP_4)), ((ax 3), .inl (cA 0, 400, .inl w_gS_4)), ((ax 4), .inl (cA 0, 400, .inl w_gM_4)), ((ax 5), .inl (cA 0, 400, .inl w_gK_4)), ((ax 6), .inl (cA 0, 400, .inl w_gV_4))] → va_S A s.heap H locs → lv_has ls 4 [(3, .int i3), (2, .int n2), (0, .ref (ax 1)), (1, .int a)] → W p l e ({ frames := 1, cells := 0, slots := 0, locals := 22 }) s m ([.ref (ax 1), .int a] : List Value).toArray below meth c H locs 0 0 QQ (F0 m 4 ls []) := by
    intro n
    induction n with
    | zero => intro i3 n2 w_gP_4 w_gS_4 w_gM_4 w_gK_4 w_gV_4 H locs ls hme hv0_4 hv1_4 hv2_4 hv3_4; exfalso; omega
    | succ n ih_4 =>
      intro i3 n2 w_gP_4 w_gS_4 w_gM_4 w_gK_4 w_gV_4 H locs ls hme_4 hv0_4 hv1_4 hv2_4 hv3_4 hP hD hS hl
      refine lv_iload_n hx hb dX3_drop_4 rfl (lv_at hl 0 rfl) ?_
      refine lv_aload_n hx hb dX3_drop_5 rfl (lv_at hl 2 rfl) ?_
      refine va_get (D := (dC, dI)) (ci := 3) (v := .int xRz) (C := RX3) (T := TX3) (N := 7) hx hb hts hIX3 hown hK hP 0 rfl rfl 5 (by decide) (hts (.fieldLink RX3 27 "TraitHouse$Rows" "size" "I") (by decide +kernel)) (fun _ h9 => h9) rfl dX3_drop_6 ?_
      refine lv_icmp_ge (tgt := 37) hx hb dX3_drop_9 (by decide) (fun c_2 => ?_) (fun c_2 => ?_)
      · have dc_2 : xRz.toInt ≤ i3.toInt := jI_le c_2 rfl rfl
        refine lv_aload_n hx hb dX3_drop_37 rfl (lv_at hl 2 rfl) ?_
        refine va_get (D := (dC, dI)) (ci := 3) (v := .int xRz) (C := RX3) (T := TX3) (N := 7) hx hb hts hIX3 hown hK hP 0 rfl rfl 5 (by decide) (hts (.fieldLink RX3 27 "TraitHouse$Rows" "size" "I") (by decide +kernel)) (fun _ h9 => h9) rfl dX3_drop_38 ?_
        refine lv_iload_n hx hb dX3_drop_41 rfl (lv_at hl 1 rfl) ?_
        refine lv_isub hx hb dX3_drop_42 ?_
        refine lv_topi (fun x_3 ex_3 => ?_)
        have dx_3 : x_3.toInt = xRz.toInt - n2.toInt := by rw [ex_3]; exact jI_sub rfl rfl (by omega) (by omega)
        refine lv_istore_n (lv' := [(3, .int x_3), (2, .int n2), (0, .ref (ax 1)), (1, .int a)]) hx hb dX3_drop_43 rfl hl (by decide) rfl (fun ls hl => ?_)
        refine lv_aload_n hx hb dX3_drop_44 rfl (lv_at hl 2 rfl) ?_
        refine lv_iload_n hx hb dX3_drop_45 rfl (lv_at hl 1 rfl) ?_
        refine va_put (D := (dC, dI)) (ci := 3) (v := .int n2) (ty := .int) (C := RX3) (T := TX3) (N := 7) hx hb hts hIX3 tyX3 tyX3_ok nmX3 hown hK hP hD hS 0 rfl rfl 5 (by decide) (hts (.fieldLink RX3 27 "TraitHouse$Rows" "size" "I") (by decide +kernel)) (fun _ h9 => h9) rfl (by decide +kernel) rfl rfl (Nat.le_of_ble_eq_true rfl) dX3_drop_46 (fun H locs hP hD hS => ?_)
        replace hP : va_P (dC, dI) vwCl [((ax 1), .inr (3, [.ref (ax 2), .ref (ax 3), .ref (ax 4), .ref (ax 5), .ref (ax 6), .int n2, .int xRn])), ((ax 2), .inl (cA 0, 400, .inl w_gP_4)), ((ax 3), .inl (cA 0, 400, .inl w_gS_4)), ((ax 4), .inl (cA 0, 400, .inl w_gM_4)), ((ax 5), .inl (cA 0, 400, .inl w_gK_4)), ((ax 6), .inl (cA 0, 400, .inl w_gV_4))] H := hP
        replace hD : va_D A [((ax 1), .inr (3, [.ref (ax 2), .ref (ax 3), .ref (ax 4), .ref (ax 5), .ref (ax 6), .int n2, .int xRn])), ((ax 2), .inl (cA 0, 400, .inl w_gP_4)), ((ax 3), .inl (cA 0, 400, .inl w_gS_4)), ((ax 4), .inl (cA 0, 400, .inl w_gM_4)), ((ax 5), .inl (cA 0, 400, .inl w_gK_4)), ((ax 6), .inl (cA 0, 400, .inl w_gV_4))] := hD
        refine lv_iload_n hx hb dX3_drop_49 rfl (lv_at hl 0 rfl) ?_
        obtain ⟨hP9, hD9⟩ := va_pd (ws' := [((ax 1), .inr (3, [.ref (ax 2), .ref (ax 3), .ref (ax 4), .ref (ax 5), .ref (ax 6), .int n2, .int xRn])), ((ax 2), .inl (cA 0, 400, .inl w_gP_4)), ((ax 3), .inl (cA 0, 400, .inl w_gS_4)), ((ax 4), .inl (cA 0, 400, .inl w_gM_4)), ((ax 5), .inl (cA 0, 400, .inl w_gK_4)), ((ax 6), .inl (cA 0, 400, .inl w_gV_4))]) hP hD [0, 1, 2, 3, 4, 5] (by decide) rfl
        subst hQe
        have hans : (x_3 : Int32).toInt = x_3.toInt := rfl
        have hpost : (0 ≤ n2.toInt ∧ n2.toInt ≤ 400) ∧ (inB 0 19 400 w_gP_4) := ⟨hv1_4, hv2_4⟩
        exact W.iret (v := x_3) hx hb hr (fun t ht hW => ⟨⟨x_3, (n2, w_gP_4, w_gS_4, w_gM_4, w_gK_4, w_gV_4), rfl, hpost, by rw [ht]; exact hP9, hD9⟩, hS.F ht⟩) hS.2.2 dX3_drop_50
      · have dc_2 : i3.toInt < xRz.toInt := jI_nle c_2 rfl rfl
        refine lv_aload_n hx hb dX3_drop_12 rfl (lv_at hl 2 rfl) ?_
        refine va_get (D := (dC, dI)) (ci := 3) (v := .ref (ax 2)) (C := RX3) (T := TX3) (N := 7) hx hb hts hIX3 hown hK hP 0 rfl rfl 0 (by decide) (hts (.fieldLink RX3 9 "TraitHouse$Rows" "people" "[I") (by decide +kernel)) (fun _ h9 => h9) rfl dX3_drop_13 ?_
        refine lv_iload_n hx hb dX3_drop_16 rfl (lv_at hl 0 rfl) ?_
        have h_4 : vp_in i3 400 := (vp_in_iff.mpr ⟨by omega, by omega⟩)
        refine va_iald hx hb hK hP 1 0 rfl rfl h_4 dX3_drop_17 ?_
        refine lv_topi (fun x_5 ex_5 => ?_)
        have bx_5 := hv2_4 _ (jix h_4)
        rw [← ex_5] at bx_5
        refine lv_iload_n hx hb dX3_drop_18 rfl (lv_at hl 3 rfl) ?_
        refine lv_icmp_eq (tgt := 31) hx hb dX3_drop_19 (by decide) (fun c_6 => ?_) (fun c_6 => ?_)
        · have dc_6 : x_5.toInt = a.toInt := jI_eq c_6 rfl rfl
          obtain ⟨x_7, ex_7⟩ : ∃ y : Int32, y = i3 + 1 := ⟨_, rfl⟩
          have dx_7 : x_7.toInt = i3.toInt + 1 := by rw [ex_7]; exact jI_add rfl (by decide) (by omega) (by omega)
          refine lv_iinc (v := x_7) (lv' := [(3, .int x_7), (2, .int n2), (0, .ref (ax 1)), (1, .int a)]) hx hb dX3_drop_31 hl (k := 0) rfl (by rw [ex_7]; rfl) (by decide) rfl (fun ls hl => ?_)
          refine lv_goto (tgt := 4) hx hb dX3_drop_34 (by decide) ?_
          exact ih_4 x_7 n2 w_gP_4 w_gS_4 w_gM_4 w_gK_4 w_gV_4 _ _ ls (by omega) (by omega) hv1_4 hv2_4 (by omega) (hP.sub [0, 1, 2, 3, 4, 5] rfl) (hD.sub [0, 1, 2, 3, 4, 5] (by decide) rfl) hS (lv_sub hl [0, 1, 2, 3] rfl)
        · have dc_6 : ¬ x_5.toInt = a.toInt := jI_ne c_6 rfl rfl
          refine lv_aload_n hx hb dX3_drop_22 rfl (lv_at hl 2 rfl) ?_
          refine lv_iload_n hx hb dX3_drop_23 rfl (lv_at hl 0 rfl) ?_
          refine lv_iload_n hx hb dX3_drop_24 rfl (lv_at hl 1 rfl) ?_
          obtain ⟨hPc, hDc, hFc, hCc⟩ := va_pre (ws' := [((ax 1), .inr (3, [.ref (ax 2), .ref (ax 3), .ref (ax 4), .ref (ax 5), .ref (ax 6), .int xRz, .int xRn])), ((ax 2), .inl (cA 0, 400, .inl w_gP_4)), ((ax 3), .inl (cA 0, 400, .inl w_gS_4)), ((ax 4), .inl (cA 0, 400, .inl w_gM_4)), ((ax 5), .inl (cA 0, 400, .inl w_gK_4)), ((ax 6), .inl (cA 0, 400, .inl w_gV_4))]) hP hD hS hA [0, 1, 2, 3, 4, 5] (by decide) rfl
          refine va_callv (va_runV (As := [.int i3, .int n2]) (rest := []) ⟨hx, hb, hml, hown, hts⟩ (k_X3_move l dC dI cA H.size ax xRz xRn w_gP_4 w_gS_4 w_gM_4 w_gK_4 w_gV_4 i3 n2 i_xRz hv2_4 (by omega) (by omega)) (cwV 2 hts gX3_drop_X3_move rfl rfl rfl (by decide +kernel) ⟨Nat.le_of_ble_eq_true rfl, Nat.le_of_ble_eq_true rfl⟩) ⟨fun a U g mk q => by obtain ⟨q0, q1, qP, qK, qD, qN⟩ := q; exact ⟨q0, q1, qP, va_K.moved (u := U) (U := U.calling g mk a) (Vm.Alike.refl U.vm) qK, qD, qN.same rfl⟩, va_recv hK hPc (ci := 3) (q0 := 0) rfl rfl, fun U hU hW => ⟨rfl, by rw [hU], by rw [hU]; exact hPc, va_K.moved hW.alike hK, hDc.weaken (fun _ _ _ _ => trivial), hN.warm hW⟩⟩ rfl rfl hl.1 rfl (lv_room (Nat.le_of_ble_eq_true rfl)) dX3_drop_25 ⟨Nat.le_of_ble_eq_true rfl, Nat.le_of_ble_eq_true rfl⟩) hS (fun q _ h => hFc q h) hFc (fun u_8 t H1 locs ht hvm hw_9 hB hz1 hk1 hS => ?_)
          obtain ⟨w_10, w_11, w_12, w_13, w_14⟩ := u_8
          try dsimp only at hw_9 hB
          have iv_15 := hw_9
          clear hw_9
          obtain ⟨hP1, hD1⟩ := hB
          rw [ht] at hP1
          obtain ⟨hP, hD⟩ := va_join (wr := []) (w1 := [((ax 1), .inr (3, [.ref (ax 2), .ref (ax 3), .ref (ax 4), .ref (ax 5), .ref (ax 6), .int xRz, .int xRn])), ((ax 2), .inl (cA 0, 400, .inl w_10)), ((ax 3), .inl (cA 0, 400, .inl w_11)), ((ax 4), .inl (cA 0, 400, .inl w_12)), ((ax 5), .inl (cA 0, 400, .inl w_13)), ((ax 6), .inl (cA 0, 400, .inl w_14))]) hP hD [0, 1, 2, 3, 4, 5] [] hCc rfl (by decide) (by decide) hk1 hFc hP1 hD1
          clear hz1
          generalize H1 = H at hP hS ⊢
          obtain ⟨x_16, ex_16⟩ : ∃ y : Int32, y = n2 + 1 := ⟨_, rfl⟩
          have dx_16 : x_16.toInt = n2.toInt + 1 := by rw [ex_16]; exact jI_add rfl (by decide) (by omega) (by omega)
          refine lv_iinc (v := x_16) (lv' := [(2, .int x_16), (3, .int i3), (0, .ref (ax 1)), (1, .int a)]) hx hb dX3_drop_28 hl (k := 1) rfl (by rw [ex_16]; rfl) (by decide) rfl (fun ls hl => ?_)
          obtain ⟨x_17, ex_17⟩ : ∃ y : Int32, y = i3 + 1 := ⟨_, rfl⟩
          have dx_17 : x_17.toInt = i3.toInt + 1 := by rw [ex_17]; exact jI_add rfl (by decide) (by omega) (by omega)
          refine lv_iinc (v := x_17) (lv' := [(3, .int x_17), (2, .int x_16), (0, .ref (ax 1)), (1, .int a)]) hx hb dX3_drop_31 hl (k := 1) rfl (by rw [ex_17]; rfl) (by decide) rfl (fun ls hl => ?_)
          refine lv_goto (tgt := 4) hx hb dX3_drop_34 (by decide) ?_
          exact ih_4 x_17 x_16 w_10 w_11 w_12 w_13 w_14 _ _ ls (by omega) (by omega) (by omega) iv_15 (by omega) (hP.sub [0, 1, 2, 3, 4, 5] rfl) (hD.sub [0, 1, 2, 3, 4, 5] (by decide) rfl) hS (lv_sub hl [0, 1, 2, 3] rfl)
  have hk_18 : (0 : Int32).toInt = 0 := by decide
  have hk_19 : (0 : Int32).toInt = 0 := by decide
  exact loop4_1 (Int.toNat (400 - (0 : Int32).toInt) + 1) 0 0 gP gS gM gK gV _ _ ls (by omega) (by omega) (by omega) i_gP (by omega) hP hD hS (lv_sub hl [0, 1, 2, 3] rfl)

set_option maxHeartbeats 8000000 in
set_option maxRecDepth 100000 in
theorem k_X8_addRow (l : Launch) (dC : Nat → ClassId) (dI : Nat → Nat → Nat) (cA : Nat → ClassId) (sz : Nat) (ax : Nat → Nat) (xNow : Int32) (xEr : Int32) (xTr : Int32) (xMo : Int32) (xFa : Int32) (xRe : Int32) (xRz : Int32) (xRn : Int32) (gE : Nat → Int32) (gP : Nat → Int32) (gS : Nat → Int32) (gM : Nat → Int32) (gK : Nat → Int32) (gV : Nat → Int32) (pp : Int32) (st : Int32) (mo : Int32) (kn : Int32) (va : Int32) (i_xNow : 0 ≤ xNow.toInt ∧ xNow.toInt ≤ 100000) (i_xTr : 0 ≤ xTr.toInt ∧ xTr.toInt ≤ 20) (i_xMo : 0 ≤ xMo.toInt ∧ xMo.toInt ≤ 10) (i_xRz : 0 ≤ xRz.toInt ∧ xRz.toInt ≤ 400) (i_gP : inB 0 19 400 gP)  : Met l yX8_addRow wsX8_addRow ({ frames := 2, cells := 0, slots := 0, locals := 45 }) (va_Pc [.ref (ax 0), .int pp, .int st, .int mo, .int kn, .int va] (fun U => U.heap.size = sz ∧ va_P (dC, dI) vwCl [((ax 0), .inr (8, [.ref (ax 1), .ref (ax 7), .ref (ax 10), .ref (ax 11), .ref (ax 13), .ref (ax 15), .ref (ax 16), .ref (ax 21), .ref (ax 26), .ref (ax 27), .ref (ax 28), .int xNow, .int xEr, .int xTr, .int xMo, .int xFa, .int xRe])), ((ax 1), .inr (3, [.ref (ax 2), .ref (ax 3), .ref (ax 4), .ref (ax 5), .ref (ax 6), .int xRz, .int xRn])), ((ax 10), .inl (cA 2, 20, .inl gE)), ((ax 2), .inl (cA 0, 400, .inl gP)), ((ax 3), .inl (cA 0, 400, .inl gS)), ((ax 4), .inl (cA 0, 400, .inl gM)), ((ax 5), .inl (cA 0, 400, .inl gK)), ((ax 6), .inl (cA 0, 400, .inl gV))] U.heap ∧ va_K (dC, dI) vwCl (tyL cA) U ∧ va_D (fun _ => True) [((ax 0), .inr (8, [.ref (ax 1), .ref (ax 7), .ref (ax 10), .ref (ax 11), .ref (ax 13), .ref (ax 15), .ref (ax 16), .ref (ax 21), .ref (ax 26), .ref (ax 27), .ref (ax 28), .int xNow, .int xEr, .int xTr, .int xMo, .int xFa, .int xRe])), ((ax 1), .inr (3, [.ref (ax 2), .ref (ax 3), .ref (ax 4), .ref (ax 5), .ref (ax 6), .int xRz, .int xRn])), ((ax 10), .inl (cA 2, 20, .inl gE)), ((ax 2), .inl (cA 0, 400, .inl gP)), ((ax 3), .inl (cA 0, 400, .inl gS)), ((ax 4), .inl (cA 0, 400, .inl gM)), ((ax 5), .inl (cA 0, 400, .inl gK)), ((ax 6), .inl (cA 0, 400, .inl gV))] ∧ nw_ok U)) (va_Qi (fun (r : Int32) (u : Int32 × Int32 × (Nat → Int32) × (Nat → Int32) × (Nat → Int32) × (Nat → Int32) × (Nat → Int32)) => (0 ≤ u.1.toInt ∧ u.1.toInt ≤ 400) ∧ (inB 0 19 400 u.2.2.1)) (fun (u : Int32 × Int32 × (Nat → Int32) × (Nat → Int32) × (Nat → Int32) × (Nat → Int32) × (Nat → Int32)) (t : State) => va_P (dC, dI) vwCl [((ax 0), .inr (8, [.ref (ax 1), .ref (ax 7), .ref (ax 10), .ref (ax 11), .ref (ax 13), .ref (ax 15), .ref (ax 16), .ref (ax 21), .ref (ax 26), .ref (ax 27), .ref (ax 28), .int xNow, .int xEr, .int xTr, .int xMo, .int xFa, .int xRe])), ((ax 1), .inr (3, [.ref (ax 2), .ref (ax 3), .ref (ax 4), .ref (ax 5), .ref (ax 6), .int u.1, .int u.2.1])), ((ax 10), .inl (cA 2, 20, .inl gE)), ((ax 2), .inl (cA 0, 400, .inl u.2.2.1)), ((ax 3), .inl (cA 0, 400, .inl u.2.2.2.1)), ((ax 4), .inl (cA 0, 400, .inl u.2.2.2.2.1)), ((ax 5), .inl (cA 0, 400, .inl u.2.2.2.2.2.1)), ((ax 6), .inl (cA 0, 400, .inl u.2.2.2.2.2.2))] t.heap ∧ va_D (va_A [((ax 0), .inr (8, [.ref (ax 1), .ref (ax 7), .ref (ax 10), .ref (ax 11), .ref (ax 13), .ref (ax 15), .ref (ax 16), .ref (ax 21), .ref (ax 26), .ref (ax 27), .ref (ax 28), .int xNow, .int xEr, .int xTr, .int xMo, .int xFa, .int xRe])), ((ax 1), .inr (3, [.ref (ax 2), .ref (ax 3), .ref (ax 4), .ref (ax 5), .ref (ax 6), .int xRz, .int xRn])), ((ax 10), .inl (cA 2, 20, .inl gE)), ((ax 2), .inl (cA 0, 400, .inl gP)), ((ax 3), .inl (cA 0, 400, .inl gS)), ((ax 4), .inl (cA 0, 400, .inl gM)), ((ax 5), .inl (cA 0, 400, .inl gK)), ((ax 6), .inl (cA 0, 400, .inl gV))] sz) [((ax 0), .inr (8, [.ref (ax 1), .ref (ax 7), .ref (ax 10), .ref (ax 11), .ref (ax 13), .ref (ax 15), .ref (ax 16), .ref (ax 21), .ref (ax 26), .ref (ax 27), .ref (ax 28), .int xNow, .int xEr, .int xTr, .int xMo, .int xFa, .int xRe])), ((ax 1), .inr (3, [.ref (ax 2), .ref (ax 3), .ref (ax 4), .ref (ax 5), .ref (ax 6), .int u.1, .int u.2.1])), ((ax 10), .inl (cA 2, 20, .inl gE)), ((ax 2), .inl (cA 0, 400, .inl u.2.2.1)), ((ax 3), .inl (cA 0, 400, .inl u.2.2.2.1)), ((ax 4), .inl (cA 0, 400, .inl u.2.2.2.2.1)), ((ax 5), .inl (cA 0, 400, .inl u.2.2.2.2.2.1)), ((ax 6), .inl (cA 0, 400, .inl u.2.2.2.2.2.2))]) (va_A [((ax 0), .inr (8, [.ref (ax 1), .ref (ax 7), .ref (ax 10), .ref (ax 11), .ref (ax 13), .ref (ax 15), .ref (ax 16), .ref (ax 21), .ref (ax 26), .ref (ax 27), .ref (ax 28), .int xNow, .int xEr, .int xTr, .int xMo, .int xFa, .int xRe])), ((ax 1), .inr (3, [.ref (ax 2), .ref (ax 3), .ref (ax 4), .ref (ax 5), .ref (ax 6), .int xRz, .int xRn])), ((ax 10), .inl (cA 2, 20, .inl gE)), ((ax 2), .inl (cA 0, 400, .inl gP)), ((ax 3), .inl (cA 0, 400, .inl gS)), ((ax 4), .inl (cA 0, 400, .inl gM)), ((ax 5), .inl (cA 0, 400, .inl gK)), ((ax 6), .inl (cA 0, 400, .inl gV))] sz)) 0 0 (va_A [((ax 0), .inr (8, [.ref (ax 1), .ref (ax 7), .ref (ax 10), .ref (ax 11), .ref (ax 13), .ref (ax 15), .ref (ax 16), .ref (ax 21), .ref (ax 26), .ref (ax 27), .ref (ax 28), .int xNow, .int xEr, .int xTr, .int xMo, .int xFa, .int xRe])), ((ax 1), .inr (3, [.ref (ax 2), .ref (ax 3), .ref (ax 4), .ref (ax 5), .ref (ax 6), .int xRz, .int xRn])), ((ax 10), .inl (cA 2, 20, .inl gE)), ((ax 2), .inl (cA 0, 400, .inl gP)), ((ax 3), .inl (cA 0, 400, .inl gS)), ((ax 4), .inl (cA 0, 400, .inl gM)), ((ax 5), .inl (cA 0, 400, .inl gK)), ((ax 6), .inl (cA 0, 400, .inl gV))] sz) := by
  refine Met.ofW (cc := cX8_addRow) (maxL := 6) (ret := (some .int)) (by decide) rfl ?_
  intro p e s m args below meth c s₁ B hml hv
  obtain ⟨rfl, hsz, hP, hK, hD0, hN⟩ := hv
  have hx := B.exec
  have hb := B.bytes
  have hr := B.returns
  have hts := atoms_spec (ws := wsX8_addRow) B.pre
  have hown : s.vm.findClass RX8 = some m.cls := findClass_of_methodNamed B.named
  have hlocks := B.notSynchronized
  subst hsz
  have hD := hD0.self (sz := s.heap.size)
  generalize hAe : va_A [((ax 0), .inr (8, [.ref (ax 1), .ref (ax 7), .ref (ax 10), .ref (ax 11), .ref (ax 13), .ref (ax 15), .ref (ax 16), .ref (ax 21), .ref (ax 26), .ref (ax 27), .ref (ax 28), .int xNow, .int xEr, .int xTr, .int xMo, .int xFa, .int xRe])), ((ax 1), .inr (3, [.ref (ax 2), .ref (ax 3), .ref (ax 4), .ref (ax 5), .ref (ax 6), .int xRz, .int xRn])), ((ax 10), .inl (cA 2, 20, .inl gE)), ((ax 2), .inl (cA 0, 400, .inl gP)), ((ax 3), .inl (cA 0, 400, .inl gS)), ((ax 4), .inl (cA 0, 400, .inl gM)), ((ax 5), .inl (cA 0, 400, .inl gK)), ((ax 6), .inl (cA 0, 400, .inl gV))] s.heap.size = A at hD ⊢
  have hA : ∀ q : Nat, s.heap.size ≤ q → A q := fun q h => by rw [← hAe]; exact Or.inr h
  have hS : va_S A s.heap s.heap [] := va_S.rf
  have hIX8 : ∀ w ∈ u_ws RX8 TX8 17, w ∈ wsX8_addRow := by decide +kernel
  have hl := lv_entry ([.ref (ax 0), .int pp, .int st, .int mo, .int kn, .int va]) (n := 6) (Nat.le_of_ble_eq_true rfl)
  rw [lg_entry_eq]
  generalize (lg_sl ([.ref (ax 0), .int pp, .int st, .int mo, .int kn, .int va]) ++ List.replicate (6 - (lg_sl ([.ref (ax 0), .int pp, .int st, .int mo, .int kn, .int va])).length) Slot.unset).toArray = ls at hl ⊢
  have hl : lv_has ls 6 [(0, .ref (ax 0)), (1, .int pp), (2, .int st), (3, .int mo), (4, .int kn), (5, .int va)] := hl
  generalize hQe : MQ below _ _ _ _ _ _ = QQ
  refine lv_iload_n hx hb dX8_addRow_0 rfl (lv_at hl 2 rfl) ?_
  obtain ⟨hPc, hDc, hFc, hCc⟩ := va_pre (ws' := []) hP hD hS hA [] (by decide) rfl
  refine va_calli (va_runS (As := [.int st]) (rest := []) ⟨hx, hb, hml, hown, hts⟩ (k_X8_isStream l dC dI cA s.heap.size st ) (va_cwS 1 hts gX8_addRow_X8_isStream rfl rfl rfl (by decide +kernel) ⟨Nat.le_of_ble_eq_true rfl, Nat.le_of_ble_eq_true rfl⟩) ⟨fun a U g mk q => by obtain ⟨q0, q1, qP, qK, qD, qN⟩ := q; exact ⟨q0, q1, qP, va_K.moved (u := U) (U := U.calling g mk a) (Vm.Alike.refl U.vm) qK, qD, qN.same rfl⟩, fun U hU hW => ⟨rfl, by rw [hU], by rw [hU]; exact hPc, va_K.moved hW.alike hK, hDc.weaken (fun _ _ _ _ => trivial), hN.warm hW⟩⟩ rfl rfl hl.1 rfl (lv_room (Nat.le_of_ble_eq_true rfl)) dX8_addRow_1 ⟨Nat.le_of_ble_eq_true rfl, Nat.le_of_ble_eq_true rfl⟩) hS (fun q _ h => hFc q h) hFc (fun r_1 u_2 t H1 locs ht hvm hw_3 hB hz1 hk1 hS => ?_)
  try dsimp only at hw_3 hB
  have po_4 := hw_3
  clear hw_3
  obtain ⟨hP1, hD1⟩ := hB
  rw [ht] at hP1
  obtain ⟨hP, hD⟩ := va_join (wr := [((ax 0), .inr (8, [.ref (ax 1), .ref (ax 7), .ref (ax 10), .ref (ax 11), .ref (ax 13), .ref (ax 15), .ref (ax 16), .ref (ax 21), .ref (ax 26), .ref (ax 27), .ref (ax 28), .int xNow, .int xEr, .int xTr, .int xMo, .int xFa, .int xRe])), ((ax 1), .inr (3, [.ref (ax 2), .ref (ax 3), .ref (ax 4), .ref (ax 5), .ref (ax 6), .int xRz, .int xRn])), ((ax 10), .inl (cA 2, 20, .inl gE)), ((ax 2), .inl (cA 0, 400, .inl gP)), ((ax 3), .inl (cA 0, 400, .inl gS)), ((ax 4), .inl (cA 0, 400, .inl gM)), ((ax 5), .inl (cA 0, 400, .inl gK)), ((ax 6), .inl (cA 0, 400, .inl gV))]) (w1 := []) hP hD [] [0, 1, 2, 3, 4, 5, 6, 7] hCc rfl (by decide) (by decide) hk1 hFc hP1 hD1
  clear hz1
  generalize H1 = H at hP hS ⊢
  refine lv_if_eq (tgt := 36) hx hb dX8_addRow_4 (by decide) (fun c_5 => ?_) (fun c_5 => ?_)
  · have dc_5 : r_1.toInt = 0 := jI_eq c_5 rfl (by decide)
    refine lv_iconst (v := (-1)) hx hb dX8_addRow_36 (by decide) ?_
    obtain ⟨hP9, hD9⟩ := va_pd (ws' := [((ax 0), .inr (8, [.ref (ax 1), .ref (ax 7), .ref (ax 10), .ref (ax 11), .ref (ax 13), .ref (ax 15), .ref (ax 16), .ref (ax 21), .ref (ax 26), .ref (ax 27), .ref (ax 28), .int xNow, .int xEr, .int xTr, .int xMo, .int xFa, .int xRe])), ((ax 1), .inr (3, [.ref (ax 2), .ref (ax 3), .ref (ax 4), .ref (ax 5), .ref (ax 6), .int xRz, .int xRn])), ((ax 10), .inl (cA 2, 20, .inl gE)), ((ax 2), .inl (cA 0, 400, .inl gP)), ((ax 3), .inl (cA 0, 400, .inl gS)), ((ax 4), .inl (cA 0, 400, .inl gM)), ((ax 5), .inl (cA 0, 400, .inl gK)), ((ax 6), .inl (cA 0, 400, .inl gV))]) hP hD [0, 1, 2, 3, 4, 5, 6, 7] (by decide) rfl
    subst hQe
    have hans : ((-1) : Int32).toInt = (-1) := (by decide)
    have hpost : (0 ≤ xRz.toInt ∧ xRz.toInt ≤ 400) ∧ (inB 0 19 400 gP) := ⟨i_xRz, i_gP⟩
    exact W.iret (v := (-1)) hx hb hr (fun t ht hW => ⟨⟨(-1), (xRz, xRn, gP, gS, gM, gK, gV), rfl, hpost, by rw [ht]; exact hP9, hD9⟩, hS.F ht⟩) hS.2.2 dX8_addRow_37
  · have dc_5 : ¬ r_1.toInt = 0 := jI_ne c_5 rfl (by decide)
    refine lv_iload_n hx hb dX8_addRow_7 rfl (lv_at hl 3 rfl) ?_
    obtain ⟨hPc, hDc, hFc, hCc⟩ := va_pre (ws' := []) hP hD hS hA [] (by decide) rfl
    refine va_calli (va_runS (As := [.int mo]) (rest := []) ⟨hx, hb, hml, hown, hts⟩ (k_X8_isMoment l dC dI cA H.size mo ) (va_cwS 1 hts gX8_addRow_X8_isMoment rfl rfl rfl (by decide +kernel) ⟨Nat.le_of_ble_eq_true rfl, Nat.le_of_ble_eq_true rfl⟩) ⟨fun a U g mk q => by obtain ⟨q0, q1, qP, qK, qD, qN⟩ := q; exact ⟨q0, q1, qP, va_K.moved (u := U) (U := U.calling g mk a) (Vm.Alike.refl U.vm) qK, qD, qN.same rfl⟩, fun U hU hW => ⟨rfl, by rw [hU], by rw [hU]; exact hPc, va_K.moved hW.alike hK, hDc.weaken (fun _ _ _ _ => trivial), hN.warm hW⟩⟩ rfl rfl hl.1 rfl (lv_room (Nat.le_of_ble_eq_true rfl)) dX8_addRow_8 ⟨Nat.le_of_ble_eq_true rfl, Nat.le_of_ble_eq_true rfl⟩) hS (fun q _ h => hFc q h) hFc (fun r_6 u_7 t H1 locs ht hvm hw_8 hB hz1 hk1 hS => ?_)
    try dsimp only at hw_8 hB
    have po_9 := hw_8
    clear hw_8
    obtain ⟨hP1, hD1⟩ := hB
    rw [ht] at hP1
    obtain ⟨hP, hD⟩ := va_join (wr := [((ax 0), .inr (8, [.ref (ax 1), .ref (ax 7), .ref (ax 10), .ref (ax 11), .ref (ax 13), .ref (ax 15), .ref (ax 16), .ref (ax 21), .ref (ax 26), .ref (ax 27), .ref (ax 28), .int xNow, .int xEr, .int xTr, .int xMo, .int xFa, .int xRe])), ((ax 1), .inr (3, [.ref (ax 2), .ref (ax 3), .ref (ax 4), .ref (ax 5), .ref (ax 6), .int xRz, .int xRn])), ((ax 10), .inl (cA 2, 20, .inl gE)), ((ax 2), .inl (cA 0, 400, .inl gP)), ((ax 3), .inl (cA 0, 400, .inl gS)), ((ax 4), .inl (cA 0, 400, .inl gM)), ((ax 5), .inl (cA 0, 400, .inl gK)), ((ax 6), .inl (cA 0, 400, .inl gV))]) (w1 := []) hP hD [] [0, 1, 2, 3, 4, 5, 6, 7] hCc rfl (by decide) (by decide) hk1 hFc hP1 hD1
    clear hz1
    generalize H1 = H at hP hS ⊢
    refine lv_if_eq (tgt := 36) hx hb dX8_addRow_11 (by decide) (fun c_10 => ?_) (fun c_10 => ?_)
    · have dc_10 : r_6.toInt = 0 := jI_eq c_10 rfl (by decide)
      refine lv_iconst (v := (-1)) hx hb dX8_addRow_36 (by decide) ?_
      obtain ⟨hP9, hD9⟩ := va_pd (ws' := [((ax 0), .inr (8, [.ref (ax 1), .ref (ax 7), .ref (ax 10), .ref (ax 11), .ref (ax 13), .ref (ax 15), .ref (ax 16), .ref (ax 21), .ref (ax 26), .ref (ax 27), .ref (ax 28), .int xNow, .int xEr, .int xTr, .int xMo, .int xFa, .int xRe])), ((ax 1), .inr (3, [.ref (ax 2), .ref (ax 3), .ref (ax 4), .ref (ax 5), .ref (ax 6), .int xRz, .int xRn])), ((ax 10), .inl (cA 2, 20, .inl gE)), ((ax 2), .inl (cA 0, 400, .inl gP)), ((ax 3), .inl (cA 0, 400, .inl gS)), ((ax 4), .inl (cA 0, 400, .inl gM)), ((ax 5), .inl (cA 0, 400, .inl gK)), ((ax 6), .inl (cA 0, 400, .inl gV))]) hP hD [0, 1, 2, 3, 4, 5, 6, 7] (by decide) rfl
      subst hQe
      have hans : ((-1) : Int32).toInt = (-1) := (by decide)
      have hpost : (0 ≤ xRz.toInt ∧ xRz.toInt ≤ 400) ∧ (inB 0 19 400 gP) := ⟨i_xRz, i_gP⟩
      exact W.iret (v := (-1)) hx hb hr (fun t ht hW => ⟨⟨(-1), (xRz, xRn, gP, gS, gM, gK, gV), rfl, hpost, by rw [ht]; exact hP9, hD9⟩, hS.F ht⟩) hS.2.2 dX8_addRow_37
    · have dc_10 : ¬ r_6.toInt = 0 := jI_ne c_10 rfl (by decide)
      refine lv_iload hx hb dX8_addRow_14 (lv_at hl 4 rfl) ?_
      obtain ⟨hPc, hDc, hFc, hCc⟩ := va_pre (ws' := []) hP hD hS hA [] (by decide) rfl
      refine va_calli (va_runS (As := [.int kn]) (rest := []) ⟨hx, hb, hml, hown, hts⟩ (k_X8_isMoment l dC dI cA H.size kn ) (va_cwS 1 hts gX8_addRow_X8_isMoment rfl rfl rfl (by decide +kernel) ⟨Nat.le_of_ble_eq_true rfl, Nat.le_of_ble_eq_true rfl⟩) ⟨fun a U g mk q => by obtain ⟨q0, q1, qP, qK, qD, qN⟩ := q; exact ⟨q0, q1, qP, va_K.moved (u := U) (U := U.calling g mk a) (Vm.Alike.refl U.vm) qK, qD, qN.same rfl⟩, fun U hU hW => ⟨rfl, by rw [hU], by rw [hU]; exact hPc, va_K.moved hW.alike hK, hDc.weaken (fun _ _ _ _ => trivial), hN.warm hW⟩⟩ rfl rfl hl.1 rfl (lv_room (Nat.le_of_ble_eq_true rfl)) dX8_addRow_16 ⟨Nat.le_of_ble_eq_true rfl, Nat.le_of_ble_eq_true rfl⟩) hS (fun q _ h => hFc q h) hFc (fun r_11 u_12 t H1 locs ht hvm hw_13 hB hz1 hk1 hS => ?_)
      try dsimp only at hw_13 hB
      have po_14 := hw_13
      clear hw_13
      obtain ⟨hP1, hD1⟩ := hB
      rw [ht] at hP1
      obtain ⟨hP, hD⟩ := va_join (wr := [((ax 0), .inr (8, [.ref (ax 1), .ref (ax 7), .ref (ax 10), .ref (ax 11), .ref (ax 13), .ref (ax 15), .ref (ax 16), .ref (ax 21), .ref (ax 26), .ref (ax 27), .ref (ax 28), .int xNow, .int xEr, .int xTr, .int xMo, .int xFa, .int xRe])), ((ax 1), .inr (3, [.ref (ax 2), .ref (ax 3), .ref (ax 4), .ref (ax 5), .ref (ax 6), .int xRz, .int xRn])), ((ax 10), .inl (cA 2, 20, .inl gE)), ((ax 2), .inl (cA 0, 400, .inl gP)), ((ax 3), .inl (cA 0, 400, .inl gS)), ((ax 4), .inl (cA 0, 400, .inl gM)), ((ax 5), .inl (cA 0, 400, .inl gK)), ((ax 6), .inl (cA 0, 400, .inl gV))]) (w1 := []) hP hD [] [0, 1, 2, 3, 4, 5, 6, 7] hCc rfl (by decide) (by decide) hk1 hFc hP1 hD1
      clear hz1
      generalize H1 = H at hP hS ⊢
      refine lv_if_eq (tgt := 36) hx hb dX8_addRow_19 (by decide) (fun c_15 => ?_) (fun c_15 => ?_)
      · have dc_15 : r_11.toInt = 0 := jI_eq c_15 rfl (by decide)
        refine lv_iconst (v := (-1)) hx hb dX8_addRow_36 (by decide) ?_
        obtain ⟨hP9, hD9⟩ := va_pd (ws' := [((ax 0), .inr (8, [.ref (ax 1), .ref (ax 7), .ref (ax 10), .ref (ax 11), .ref (ax 13), .ref (ax 15), .ref (ax 16), .ref (ax 21), .ref (ax 26), .ref (ax 27), .ref (ax 28), .int xNow, .int xEr, .int xTr, .int xMo, .int xFa, .int xRe])), ((ax 1), .inr (3, [.ref (ax 2), .ref (ax 3), .ref (ax 4), .ref (ax 5), .ref (ax 6), .int xRz, .int xRn])), ((ax 10), .inl (cA 2, 20, .inl gE)), ((ax 2), .inl (cA 0, 400, .inl gP)), ((ax 3), .inl (cA 0, 400, .inl gS)), ((ax 4), .inl (cA 0, 400, .inl gM)), ((ax 5), .inl (cA 0, 400, .inl gK)), ((ax 6), .inl (cA 0, 400, .inl gV))]) hP hD [0, 1, 2, 3, 4, 5, 6, 7] (by decide) rfl
        subst hQe
        have hans : ((-1) : Int32).toInt = (-1) := (by decide)
        have hpost : (0 ≤ xRz.toInt ∧ xRz.toInt ≤ 400) ∧ (inB 0 19 400 gP) := ⟨i_xRz, i_gP⟩
        exact W.iret (v := (-1)) hx hb hr (fun t ht hW => ⟨⟨(-1), (xRz, xRn, gP, gS, gM, gK, gV), rfl, hpost, by rw [ht]; exact hP9, hD9⟩, hS.F ht⟩) hS.2.2 dX8_addRow_37
      · have dc_15 : ¬ r_11.toInt = 0 := jI_ne c_15 rfl (by decide)
        refine lv_iload hx hb dX8_addRow_22 (lv_at hl 4 rfl) ?_
        refine lv_iload_n hx hb dX8_addRow_24 rfl (lv_at hl 3 rfl) ?_
        refine lv_icmp_lt (tgt := 36) hx hb dX8_addRow_25 (by decide) (fun c_16 => ?_) (fun c_16 => ?_)
        · have dc_16 : kn.toInt < mo.toInt := jI_lt c_16 rfl rfl
          refine lv_iconst (v := (-1)) hx hb dX8_addRow_36 (by decide) ?_
          obtain ⟨hP9, hD9⟩ := va_pd (ws' := [((ax 0), .inr (8, [.ref (ax 1), .ref (ax 7), .ref (ax 10), .ref (ax 11), .ref (ax 13), .ref (ax 15), .ref (ax 16), .ref (ax 21), .ref (ax 26), .ref (ax 27), .ref (ax 28), .int xNow, .int xEr, .int xTr, .int xMo, .int xFa, .int xRe])), ((ax 1), .inr (3, [.ref (ax 2), .ref (ax 3), .ref (ax 4), .ref (ax 5), .ref (ax 6), .int xRz, .int xRn])), ((ax 10), .inl (cA 2, 20, .inl gE)), ((ax 2), .inl (cA 0, 400, .inl gP)), ((ax 3), .inl (cA 0, 400, .inl gS)), ((ax 4), .inl (cA 0, 400, .inl gM)), ((ax 5), .inl (cA 0, 400, .inl gK)), ((ax 6), .inl (cA 0, 400, .inl gV))]) hP hD [0, 1, 2, 3, 4, 5, 6, 7] (by decide) rfl
          subst hQe
          have hans : ((-1) : Int32).toInt = (-1) := (by decide)
          have hpost : (0 ≤ xRz.toInt ∧ xRz.toInt ≤ 400) ∧ (inB 0 19 400 gP) := ⟨i_xRz, i_gP⟩
          exact W.iret (v := (-1)) hx hb hr (fun t ht hW => ⟨⟨(-1), (xRz, xRn, gP, gS, gM, gK, gV), rfl, hpost, by rw [ht]; exact hP9, hD9⟩, hS.F ht⟩) hS.2.2 dX8_addRow_37
        · have dc_16 : mo.toInt ≤ kn.toInt := jI_nlt c_16 rfl rfl
          refine lv_iload hx hb dX8_addRow_28 (lv_at hl 5 rfl) ?_
          obtain ⟨hPc, hDc, hFc, hCc⟩ := va_pre (ws' := []) hP hD hS hA [] (by decide) rfl
          refine va_calli (va_runS (As := [.int va]) (rest := []) ⟨hx, hb, hml, hown, hts⟩ (k_X8_isRowValue l dC dI cA H.size va ) (va_cwS 1 hts gX8_addRow_X8_isRowValue rfl rfl rfl (by decide +kernel) ⟨Nat.le_of_ble_eq_true rfl, Nat.le_of_ble_eq_true rfl⟩) ⟨fun a U g mk q => by obtain ⟨q0, q1, qP, qK, qD, qN⟩ := q; exact ⟨q0, q1, qP, va_K.moved (u := U) (U := U.calling g mk a) (Vm.Alike.refl U.vm) qK, qD, qN.same rfl⟩, fun U hU hW => ⟨rfl, by rw [hU], by rw [hU]; exact hPc, va_K.moved hW.alike hK, hDc.weaken (fun _ _ _ _ => trivial), hN.warm hW⟩⟩ rfl rfl hl.1 rfl (lv_room (Nat.le_of_ble_eq_true rfl)) dX8_addRow_30 ⟨Nat.le_of_ble_eq_true rfl, Nat.le_of_ble_eq_true rfl⟩) hS (fun q _ h => hFc q h) hFc (fun r_17 u_18 t H1 locs ht hvm hw_19 hB hz1 hk1 hS => ?_)
          try dsimp only at hw_19 hB
          have po_20 := hw_19
          clear hw_19
          obtain ⟨hP1, hD1⟩ := hB
          rw [ht] at hP1
          obtain ⟨hP, hD⟩ := va_join (wr := [((ax 0), .inr (8, [.ref (ax 1), .ref (ax 7), .ref (ax 10), .ref (ax 11), .ref (ax 13), .ref (ax 15), .ref (ax 16), .ref (ax 21), .ref (ax 26), .ref (ax 27), .ref (ax 28), .int xNow, .int xEr, .int xTr, .int xMo, .int xFa, .int xRe])), ((ax 1), .inr (3, [.ref (ax 2), .ref (ax 3), .ref (ax 4), .ref (ax 5), .ref (ax 6), .int xRz, .int xRn])), ((ax 10), .inl (cA 2, 20, .inl gE)), ((ax 2), .inl (cA 0, 400, .inl gP)), ((ax 3), .inl (cA 0, 400, .inl gS)), ((ax 4), .inl (cA 0, 400, .inl gM)), ((ax 5), .inl (cA 0, 400, .inl gK)), ((ax 6), .inl (cA 0, 400, .inl gV))]) (w1 := []) hP hD [] [0, 1, 2, 3, 4, 5, 6, 7] hCc rfl (by decide) (by decide) hk1 hFc hP1 hD1
          clear hz1
          generalize H1 = H at hP hS ⊢
          refine lv_if_ne (tgt := 38) hx hb dX8_addRow_33 (by decide) (fun c_21 => ?_) (fun c_21 => ?_)
          · have dc_21 : ¬ r_17.toInt = 0 := jI_ne c_21 rfl (by decide)
            refine lv_iload_n hx hb dX8_addRow_38 rfl (lv_at hl 1 rfl) ?_
            obtain ⟨hPc, hDc, hFc, hCc⟩ := va_pre (ws' := []) hP hD hS hA [] (by decide) rfl
            refine va_calli (va_runS (As := [.int pp]) (rest := []) ⟨hx, hb, hml, hown, hts⟩ (k_X8_isPerson l dC dI cA H.size pp ) (va_cwS 1 hts gX8_addRow_X8_isPerson rfl rfl rfl (by decide +kernel) ⟨Nat.le_of_ble_eq_true rfl, Nat.le_of_ble_eq_true rfl⟩) ⟨fun a U g mk q => by obtain ⟨q0, q1, qP, qK, qD, qN⟩ := q; exact ⟨q0, q1, qP, va_K.moved (u := U) (U := U.calling g mk a) (Vm.Alike.refl U.vm) qK, qD, qN.same rfl⟩, fun U hU hW => ⟨rfl, by rw [hU], by rw [hU]; exact hPc, va_K.moved hW.alike hK, hDc.weaken (fun _ _ _ _ => trivial), hN.warm hW⟩⟩ rfl rfl hl.1 rfl (lv_room (Nat.le_of_ble_eq_true rfl)) dX8_addRow_39 ⟨Nat.le_of_ble_eq_true rfl, Nat.le_of_ble_eq_true rfl⟩) hS (fun q _ h => hFc q h) hFc (fun r_22 u_23 t H1 locs ht hvm hw_24 hB hz1 hk1 hS => ?_)
            try dsimp only at hw_24 hB
            have po_25 := hw_24
            clear hw_24
            obtain ⟨hP1, hD1⟩ := hB
            rw [ht] at hP1
            obtain ⟨hP, hD⟩ := va_join (wr := [((ax 0), .inr (8, [.ref (ax 1), .ref (ax 7), .ref (ax 10), .ref (ax 11), .ref (ax 13), .ref (ax 15), .ref (ax 16), .ref (ax 21), .ref (ax 26), .ref (ax 27), .ref (ax 28), .int xNow, .int xEr, .int xTr, .int xMo, .int xFa, .int xRe])), ((ax 1), .inr (3, [.ref (ax 2), .ref (ax 3), .ref (ax 4), .ref (ax 5), .ref (ax 6), .int xRz, .int xRn])), ((ax 10), .inl (cA 2, 20, .inl gE)), ((ax 2), .inl (cA 0, 400, .inl gP)), ((ax 3), .inl (cA 0, 400, .inl gS)), ((ax 4), .inl (cA 0, 400, .inl gM)), ((ax 5), .inl (cA 0, 400, .inl gK)), ((ax 6), .inl (cA 0, 400, .inl gV))]) (w1 := []) hP hD [] [0, 1, 2, 3, 4, 5, 6, 7] hCc rfl (by decide) (by decide) hk1 hFc hP1 hD1
            clear hz1
            generalize H1 = H at hP hS ⊢
            refine lv_if_ne (tgt := 48) hx hb dX8_addRow_42 (by decide) (fun c_26 => ?_) (fun c_26 => ?_)
            · have dc_26 : ¬ r_22.toInt = 0 := jI_ne c_26 rfl (by decide)
              refine lv_aload_n hx hb dX8_addRow_48 rfl (lv_at hl 0 rfl) ?_
              refine va_get (D := (dC, dI)) (ci := 8) (v := .ref (ax 1)) (C := RX8) (T := TX8) (N := 17) hx hb hts hIX8 hown hK hP 0 rfl rfl 0 (by decide) (hts (.fieldLink RX8 10 "TraitHouse" "rows" "LTraitHouse$Rows;") (by decide +kernel)) (fun _ h9 => h9) rfl dX8_addRow_49 ?_
              obtain ⟨hPc, hDc, hFc, hCc⟩ := va_pre (ws' := [((ax 1), .inr (3, [.ref (ax 2), .ref (ax 3), .ref (ax 4), .ref (ax 5), .ref (ax 6), .int xRz, .int xRn]))]) hP hD hS hA [1] (by decide) rfl
              refine va_calli (va_runVN (As := []) (rest := []) ⟨hx, hb, hml, hown, hts⟩ (k_X3_isFull l dC dI cA H.size ax xRz xRn i_xRz) ⟨(va_cnB 0 hts gX8_addRow_X3_isFull_n103 rfl rfl rfl (nw_at hN 36 rfl) (hts (.initialized RX3) (by decide +kernel)) (by decide +kernel) ⟨Nat.le_of_ble_eq_true rfl, Nat.le_of_ble_eq_true rfl⟩), (hts (.instanceMethod yX3_isFull) (by decide +kernel)), (hts (.selects RX3 yX3_isFull yX3_isFull) (by decide +kernel))⟩ ⟨fun a U g mk q => by obtain ⟨q0, q1, qP, qK, qD, qN⟩ := q; exact ⟨q0, q1, qP, va_K.moved (u := U) (U := U.calling g mk a) (Vm.Alike.refl U.vm) qK, qD, qN.same rfl⟩, va_recv hK hPc (ci := 3) (q0 := 0) rfl rfl, fun U hU hW => ⟨rfl, by rw [hU], by rw [hU]; exact hPc, va_K.moved hW.alike hK, hDc.weaken (fun _ _ _ _ => trivial), hN.warm hW⟩⟩ rfl rfl hl.1 rfl (lv_room (Nat.le_of_ble_eq_true rfl)) dX8_addRow_52 ⟨Nat.le_of_ble_eq_true rfl, Nat.le_of_ble_eq_true rfl⟩) hS (fun q _ h => hFc q h) hFc (fun r_27 u_28 t H1 locs ht hvm hw_29 hB hz1 hk1 hS => ?_)
              try dsimp only at hw_29 hB
              have po_30 := hw_29
              clear hw_29
              obtain ⟨hP1, hD1⟩ := hB
              rw [ht] at hP1
              obtain ⟨hP, hD⟩ := va_join (wr := [((ax 0), .inr (8, [.ref (ax 1), .ref (ax 7), .ref (ax 10), .ref (ax 11), .ref (ax 13), .ref (ax 15), .ref (ax 16), .ref (ax 21), .ref (ax 26), .ref (ax 27), .ref (ax 28), .int xNow, .int xEr, .int xTr, .int xMo, .int xFa, .int xRe])), ((ax 10), .inl (cA 2, 20, .inl gE)), ((ax 2), .inl (cA 0, 400, .inl gP)), ((ax 3), .inl (cA 0, 400, .inl gS)), ((ax 4), .inl (cA 0, 400, .inl gM)), ((ax 5), .inl (cA 0, 400, .inl gK)), ((ax 6), .inl (cA 0, 400, .inl gV))]) (w1 := [((ax 1), .inr (3, [.ref (ax 2), .ref (ax 3), .ref (ax 4), .ref (ax 5), .ref (ax 6), .int xRz, .int xRn]))]) hP hD [1] [0, 2, 3, 4, 5, 6, 7] hCc rfl (by decide) (by decide) hk1 hFc hP1 hD1
              clear hz1
              generalize H1 = H at hP hS ⊢
              refine lv_if_eq (tgt := 61) hx hb dX8_addRow_55 (by decide) (fun c_31 => ?_) (fun c_31 => ?_)
              · have dc_31 : r_27.toInt = 0 := jI_eq c_31 rfl (by decide)
                refine lv_aload_n hx hb dX8_addRow_61 rfl (lv_at hl 0 rfl) ?_
                refine va_get (D := (dC, dI)) (ci := 8) (v := .ref (ax 10)) (C := RX8) (T := TX8) (N := 17) hx hb hts hIX8 hown hK hP 0 rfl rfl 2 (by decide) (hts (.fieldLink RX8 23 "TraitHouse" "erased" "[Z") (by decide +kernel)) (fun _ h9 => h9) rfl dX8_addRow_62 ?_
                refine lv_iload_n hx hb dX8_addRow_65 rfl (lv_at hl 1 rfl) ?_
                have h_32 : vp_in pp 20 := (vp_in_iff.mpr ⟨by omega, by omega⟩)
                refine va_zald hx hb hK hP 1 2 rfl rfl h_32 dX8_addRow_66 ?_
                refine lv_topi (fun x_33 ex_33 => ?_)
                refine lv_if_eq (tgt := 73) hx hb dX8_addRow_67 (by decide) (fun c_34 => ?_) (fun c_34 => ?_)
                · have dc_34 : x_33.toInt = 0 := jI_eq c_34 rfl (by decide)
                  refine lv_aload_n hx hb dX8_addRow_73 rfl (lv_at hl 0 rfl) ?_
                  refine va_get (D := (dC, dI)) (ci := 8) (v := .ref (ax 1)) (C := RX8) (T := TX8) (N := 17) hx hb hts hIX8 hown hK hP 0 rfl rfl 0 (by decide) (hts (.fieldLink RX8 10 "TraitHouse" "rows" "LTraitHouse$Rows;") (by decide +kernel)) (fun _ h9 => h9) rfl dX8_addRow_74 ?_
                  refine lv_iload_n hx hb dX8_addRow_77 rfl (lv_at hl 1 rfl) ?_
                  refine lv_iload_n hx hb dX8_addRow_78 rfl (lv_at hl 2 rfl) ?_
                  refine lv_iload_n hx hb dX8_addRow_79 rfl (lv_at hl 3 rfl) ?_
                  refine lv_iload hx hb dX8_addRow_80 (lv_at hl 4 rfl) ?_
                  refine lv_iload hx hb dX8_addRow_82 (lv_at hl 5 rfl) ?_
                  obtain ⟨hPc, hDc, hFc, hCc⟩ := va_pre (ws' := [((ax 1), .inr (3, [.ref (ax 2), .ref (ax 3), .ref (ax 4), .ref (ax 5), .ref (ax 6), .int xRz, .int xRn])), ((ax 2), .inl (cA 0, 400, .inl gP)), ((ax 3), .inl (cA 0, 400, .inl gS)), ((ax 4), .inl (cA 0, 400, .inl gM)), ((ax 5), .inl (cA 0, 400, .inl gK)), ((ax 6), .inl (cA 0, 400, .inl gV))]) hP hD hS hA [7, 2, 3, 4, 5, 6] (by decide) rfl
                  refine va_calli (va_runVN (As := [.int pp, .int st, .int mo, .int kn, .int va]) (rest := []) ⟨hx, hb, hml, hown, hts⟩ (k_X3_add l dC dI cA H.size ax xRz xRn gP gS gM gK gV pp st mo kn va i_xRz i_gP (by omega)) ⟨(va_cnB 5 hts gX8_addRow_X3_add_n107 rfl rfl rfl (nw_at hN 37 rfl) (hts (.initialized RX3) (by decide +kernel)) (by decide +kernel) ⟨Nat.le_of_ble_eq_true rfl, Nat.le_of_ble_eq_true rfl⟩), (hts (.instanceMethod yX3_add) (by decide +kernel)), (hts (.selects RX3 yX3_add yX3_add) (by decide +kernel))⟩ ⟨fun a U g mk q => by obtain ⟨q0, q1, qP, qK, qD, qN⟩ := q; exact ⟨q0, q1, qP, va_K.moved (u := U) (U := U.calling g mk a) (Vm.Alike.refl U.vm) qK, qD, qN.same rfl⟩, va_recv hK hPc (ci := 3) (q0 := 0) rfl rfl, fun U hU hW => ⟨rfl, by rw [hU], by rw [hU]; exact hPc, va_K.moved hW.alike hK, hDc.weaken (fun _ _ _ _ => trivial), hN.warm hW⟩⟩ rfl rfl hl.1 rfl (lv_room (Nat.le_of_ble_eq_true rfl)) dX8_addRow_84 ⟨Nat.le_of_ble_eq_true rfl, Nat.le_of_ble_eq_true rfl⟩) hS (fun q _ h => hFc q h) hFc (fun r_35 u_36 t H1 locs ht hvm hw_37 hB hz1 hk1 hS => ?_)
                  obtain ⟨w_38, w_39, w_40, w_41, w_42, w_43, w_44⟩ := u_36
                  try dsimp only at hw_37 hB
                  obtain ⟨iv_45, iv_46⟩ := hw_37
                  obtain ⟨hP1, hD1⟩ := hB
                  rw [ht] at hP1
                  obtain ⟨hP, hD⟩ := va_join (wr := [((ax 0), .inr (8, [.ref (ax 1), .ref (ax 7), .ref (ax 10), .ref (ax 11), .ref (ax 13), .ref (ax 15), .ref (ax 16), .ref (ax 21), .ref (ax 26), .ref (ax 27), .ref (ax 28), .int xNow, .int xEr, .int xTr, .int xMo, .int xFa, .int xRe])), ((ax 10), .inl (cA 2, 20, .inl gE))]) (w1 := [((ax 1), .inr (3, [.ref (ax 2), .ref (ax 3), .ref (ax 4), .ref (ax 5), .ref (ax 6), .int w_38, .int w_39])), ((ax 2), .inl (cA 0, 400, .inl w_40)), ((ax 3), .inl (cA 0, 400, .inl w_41)), ((ax 4), .inl (cA 0, 400, .inl w_42)), ((ax 5), .inl (cA 0, 400, .inl w_43)), ((ax 6), .inl (cA 0, 400, .inl w_44))]) hP hD [7, 2, 3, 4, 5, 6] [0, 1] hCc rfl (by decide) (by decide) hk1 hFc hP1 hD1
                  clear hz1
                  generalize H1 = H at hP hS ⊢
                  obtain ⟨hP9, hD9⟩ := va_pd (ws' := [((ax 0), .inr (8, [.ref (ax 1), .ref (ax 7), .ref (ax 10), .ref (ax 11), .ref (ax 13), .ref (ax 15), .ref (ax 16), .ref (ax 21), .ref (ax 26), .ref (ax 27), .ref (ax 28), .int xNow, .int xEr, .int xTr, .int xMo, .int xFa, .int xRe])), ((ax 1), .inr (3, [.ref (ax 2), .ref (ax 3), .ref (ax 4), .ref (ax 5), .ref (ax 6), .int w_38, .int w_39])), ((ax 10), .inl (cA 2, 20, .inl gE)), ((ax 2), .inl (cA 0, 400, .inl w_40)), ((ax 3), .inl (cA 0, 400, .inl w_41)), ((ax 4), .inl (cA 0, 400, .inl w_42)), ((ax 5), .inl (cA 0, 400, .inl w_43)), ((ax 6), .inl (cA 0, 400, .inl w_44))]) hP hD [0, 2, 1, 3, 4, 5, 6, 7] (by decide) rfl
                  subst hQe
                  have hans : (r_35 : Int32).toInt = r_35.toInt := rfl
                  have hpost : (0 ≤ w_38.toInt ∧ w_38.toInt ≤ 400) ∧ (inB 0 19 400 w_40) := ⟨iv_45, iv_46⟩
                  exact W.iret (v := r_35) hx hb hr (fun t ht hW => ⟨⟨r_35, (w_38, w_39, w_40, w_41, w_42, w_43, w_44), rfl, hpost, by rw [ht]; exact hP9, hD9⟩, hS.F ht⟩) hS.2.2 dX8_addRow_87
                · have dc_34 : ¬ x_33.toInt = 0 := jI_ne c_34 rfl (by decide)
                  refine lv_bipush (v := (-6)) hx hb dX8_addRow_70 (by decide) ?_
                  obtain ⟨hP9, hD9⟩ := va_pd (ws' := [((ax 0), .inr (8, [.ref (ax 1), .ref (ax 7), .ref (ax 10), .ref (ax 11), .ref (ax 13), .ref (ax 15), .ref (ax 16), .ref (ax 21), .ref (ax 26), .ref (ax 27), .ref (ax 28), .int xNow, .int xEr, .int xTr, .int xMo, .int xFa, .int xRe])), ((ax 1), .inr (3, [.ref (ax 2), .ref (ax 3), .ref (ax 4), .ref (ax 5), .ref (ax 6), .int xRz, .int xRn])), ((ax 10), .inl (cA 2, 20, .inl gE)), ((ax 2), .inl (cA 0, 400, .inl gP)), ((ax 3), .inl (cA 0, 400, .inl gS)), ((ax 4), .inl (cA 0, 400, .inl gM)), ((ax 5), .inl (cA 0, 400, .inl gK)), ((ax 6), .inl (cA 0, 400, .inl gV))]) hP hD [0, 7, 1, 2, 3, 4, 5, 6] (by decide) rfl
                  subst hQe
                  have hans : ((-6) : Int32).toInt = (-6) := (by decide)
                  have hpost : (0 ≤ xRz.toInt ∧ xRz.toInt ≤ 400) ∧ (inB 0 19 400 gP) := ⟨i_xRz, i_gP⟩
                  exact W.iret (v := (-6)) hx hb hr (fun t ht hW => ⟨⟨(-6), (xRz, xRn, gP, gS, gM, gK, gV), rfl, hpost, by rw [ht]; exact hP9, hD9⟩, hS.F ht⟩) hS.2.2 dX8_addRow_72
              · have dc_31 : ¬ r_27.toInt = 0 := jI_ne c_31 rfl (by decide)
                refine lv_bipush (v := (-5)) hx hb dX8_addRow_58 (by decide) ?_
                obtain ⟨hP9, hD9⟩ := va_pd (ws' := [((ax 0), .inr (8, [.ref (ax 1), .ref (ax 7), .ref (ax 10), .ref (ax 11), .ref (ax 13), .ref (ax 15), .ref (ax 16), .ref (ax 21), .ref (ax 26), .ref (ax 27), .ref (ax 28), .int xNow, .int xEr, .int xTr, .int xMo, .int xFa, .int xRe])), ((ax 1), .inr (3, [.ref (ax 2), .ref (ax 3), .ref (ax 4), .ref (ax 5), .ref (ax 6), .int xRz, .int xRn])), ((ax 10), .inl (cA 2, 20, .inl gE)), ((ax 2), .inl (cA 0, 400, .inl gP)), ((ax 3), .inl (cA 0, 400, .inl gS)), ((ax 4), .inl (cA 0, 400, .inl gM)), ((ax 5), .inl (cA 0, 400, .inl gK)), ((ax 6), .inl (cA 0, 400, .inl gV))]) hP hD [0, 7, 1, 2, 3, 4, 5, 6] (by decide) rfl
                subst hQe
                have hans : ((-5) : Int32).toInt = (-5) := (by decide)
                have hpost : (0 ≤ xRz.toInt ∧ xRz.toInt ≤ 400) ∧ (inB 0 19 400 gP) := ⟨i_xRz, i_gP⟩
                exact W.iret (v := (-5)) hx hb hr (fun t ht hW => ⟨⟨(-5), (xRz, xRn, gP, gS, gM, gK, gV), rfl, hpost, by rw [ht]; exact hP9, hD9⟩, hS.F ht⟩) hS.2.2 dX8_addRow_60
            · have dc_26 : r_22.toInt = 0 := jI_eq c_26 rfl (by decide)
              refine lv_bipush (v := (-2)) hx hb dX8_addRow_45 (by decide) ?_
              obtain ⟨hP9, hD9⟩ := va_pd (ws' := [((ax 0), .inr (8, [.ref (ax 1), .ref (ax 7), .ref (ax 10), .ref (ax 11), .ref (ax 13), .ref (ax 15), .ref (ax 16), .ref (ax 21), .ref (ax 26), .ref (ax 27), .ref (ax 28), .int xNow, .int xEr, .int xTr, .int xMo, .int xFa, .int xRe])), ((ax 1), .inr (3, [.ref (ax 2), .ref (ax 3), .ref (ax 4), .ref (ax 5), .ref (ax 6), .int xRz, .int xRn])), ((ax 10), .inl (cA 2, 20, .inl gE)), ((ax 2), .inl (cA 0, 400, .inl gP)), ((ax 3), .inl (cA 0, 400, .inl gS)), ((ax 4), .inl (cA 0, 400, .inl gM)), ((ax 5), .inl (cA 0, 400, .inl gK)), ((ax 6), .inl (cA 0, 400, .inl gV))]) hP hD [0, 1, 2, 3, 4, 5, 6, 7] (by decide) rfl
              subst hQe
              have hans : ((-2) : Int32).toInt = (-2) := (by decide)
              have hpost : (0 ≤ xRz.toInt ∧ xRz.toInt ≤ 400) ∧ (inB 0 19 400 gP) := ⟨i_xRz, i_gP⟩
              exact W.iret (v := (-2)) hx hb hr (fun t ht hW => ⟨⟨(-2), (xRz, xRn, gP, gS, gM, gK, gV), rfl, hpost, by rw [ht]; exact hP9, hD9⟩, hS.F ht⟩) hS.2.2 dX8_addRow_47
          · have dc_21 : r_17.toInt = 0 := jI_eq c_21 rfl (by decide)
            refine lv_iconst (v := (-1)) hx hb dX8_addRow_36 (by decide) ?_
            obtain ⟨hP9, hD9⟩ := va_pd (ws' := [((ax 0), .inr (8, [.ref (ax 1), .ref (ax 7), .ref (ax 10), .ref (ax 11), .ref (ax 13), .ref (ax 15), .ref (ax 16), .ref (ax 21), .ref (ax 26), .ref (ax 27), .ref (ax 28), .int xNow, .int xEr, .int xTr, .int xMo, .int xFa, .int xRe])), ((ax 1), .inr (3, [.ref (ax 2), .ref (ax 3), .ref (ax 4), .ref (ax 5), .ref (ax 6), .int xRz, .int xRn])), ((ax 10), .inl (cA 2, 20, .inl gE)), ((ax 2), .inl (cA 0, 400, .inl gP)), ((ax 3), .inl (cA 0, 400, .inl gS)), ((ax 4), .inl (cA 0, 400, .inl gM)), ((ax 5), .inl (cA 0, 400, .inl gK)), ((ax 6), .inl (cA 0, 400, .inl gV))]) hP hD [0, 1, 2, 3, 4, 5, 6, 7] (by decide) rfl
            subst hQe
            have hans : ((-1) : Int32).toInt = (-1) := (by decide)
            have hpost : (0 ≤ xRz.toInt ∧ xRz.toInt ≤ 400) ∧ (inB 0 19 400 gP) := ⟨i_xRz, i_gP⟩
            exact W.iret (v := (-1)) hx hb hr (fun t ht hW => ⟨⟨(-1), (xRz, xRn, gP, gS, gM, gK, gV), rfl, hpost, by rw [ht]; exact hP9, hD9⟩, hS.F ht⟩) hS.2.2 dX8_addRow_37

set_option maxHeartbeats 8000000 in
set_option maxRecDepth 100000 in
theorem k_X8_row (l : Launch) (dC : Nat → ClassId) (dI : Nat → Nat → Nat) (cA : Nat → ClassId) (sz : Nat) (ax : Nat → Nat) (xNow : Int32) (xEr : Int32) (xTr : Int32) (xMo : Int32) (xFa : Int32) (xRe : Int32) (xRz : Int32) (xRn : Int32) (gE : Nat → Int32) (gP : Nat → Int32) (gS : Nat → Int32) (gM : Nat → Int32) (gK : Nat → Int32) (gV : Nat → Int32) (pp : Int32) (st : Int32) (mo : Int32) (kn : Int32) (va : Int32) (i_xNow : 0 ≤ xNow.toInt ∧ xNow.toInt ≤ 100000) (i_xTr : 0 ≤ xTr.toInt ∧ xTr.toInt ≤ 20) (i_xMo : 0 ≤ xMo.toInt ∧ xMo.toInt ≤ 10) (i_xRz : 0 ≤ xRz.toInt ∧ xRz.toInt ≤ 400) (i_gP : inB 0 19 400 gP)  : Met l yX8_row wsX8_row ({ frames := 3, cells := 0, slots := 0, locals := 70 }) (va_Pc [.ref (ax 0), .int pp, .int st, .int mo, .int kn, .int va] (fun U => U.heap.size = sz ∧ va_P (dC, dI) vwCl [((ax 0), .inr (8, [.ref (ax 1), .ref (ax 7), .ref (ax 10), .ref (ax 11), .ref (ax 13), .ref (ax 15), .ref (ax 16), .ref (ax 21), .ref (ax 26), .ref (ax 27), .ref (ax 28), .int xNow, .int xEr, .int xTr, .int xMo, .int xFa, .int xRe])), ((ax 1), .inr (3, [.ref (ax 2), .ref (ax 3), .ref (ax 4), .ref (ax 5), .ref (ax 6), .int xRz, .int xRn])), ((ax 10), .inl (cA 2, 20, .inl gE)), ((ax 2), .inl (cA 0, 400, .inl gP)), ((ax 3), .inl (cA 0, 400, .inl gS)), ((ax 4), .inl (cA 0, 400, .inl gM)), ((ax 5), .inl (cA 0, 400, .inl gK)), ((ax 6), .inl (cA 0, 400, .inl gV))] U.heap ∧ va_K (dC, dI) vwCl (tyL cA) U ∧ va_D (fun _ => True) [((ax 0), .inr (8, [.ref (ax 1), .ref (ax 7), .ref (ax 10), .ref (ax 11), .ref (ax 13), .ref (ax 15), .ref (ax 16), .ref (ax 21), .ref (ax 26), .ref (ax 27), .ref (ax 28), .int xNow, .int xEr, .int xTr, .int xMo, .int xFa, .int xRe])), ((ax 1), .inr (3, [.ref (ax 2), .ref (ax 3), .ref (ax 4), .ref (ax 5), .ref (ax 6), .int xRz, .int xRn])), ((ax 10), .inl (cA 2, 20, .inl gE)), ((ax 2), .inl (cA 0, 400, .inl gP)), ((ax 3), .inl (cA 0, 400, .inl gS)), ((ax 4), .inl (cA 0, 400, .inl gM)), ((ax 5), .inl (cA 0, 400, .inl gK)), ((ax 6), .inl (cA 0, 400, .inl gV))] ∧ nw_ok U)) (va_Qi (fun (r : Int32) (u : Int32 × Int32 × Int32 × (Nat → Int32) × (Nat → Int32) × (Nat → Int32) × (Nat → Int32) × (Nat → Int32)) => (0 ≤ u.2.1.toInt ∧ u.2.1.toInt ≤ 400) ∧ (inB 0 19 400 u.2.2.2.1)) (fun (u : Int32 × Int32 × Int32 × (Nat → Int32) × (Nat → Int32) × (Nat → Int32) × (Nat → Int32) × (Nat → Int32)) (t : State) => va_P (dC, dI) vwCl [((ax 0), .inr (8, [.ref (ax 1), .ref (ax 7), .ref (ax 10), .ref (ax 11), .ref (ax 13), .ref (ax 15), .ref (ax 16), .ref (ax 21), .ref (ax 26), .ref (ax 27), .ref (ax 28), .int xNow, .int xEr, .int xTr, .int xMo, .int xFa, .int u.1])), ((ax 1), .inr (3, [.ref (ax 2), .ref (ax 3), .ref (ax 4), .ref (ax 5), .ref (ax 6), .int u.2.1, .int u.2.2.1])), ((ax 10), .inl (cA 2, 20, .inl gE)), ((ax 2), .inl (cA 0, 400, .inl u.2.2.2.1)), ((ax 3), .inl (cA 0, 400, .inl u.2.2.2.2.1)), ((ax 4), .inl (cA 0, 400, .inl u.2.2.2.2.2.1)), ((ax 5), .inl (cA 0, 400, .inl u.2.2.2.2.2.2.1)), ((ax 6), .inl (cA 0, 400, .inl u.2.2.2.2.2.2.2))] t.heap ∧ va_D (va_A [((ax 0), .inr (8, [.ref (ax 1), .ref (ax 7), .ref (ax 10), .ref (ax 11), .ref (ax 13), .ref (ax 15), .ref (ax 16), .ref (ax 21), .ref (ax 26), .ref (ax 27), .ref (ax 28), .int xNow, .int xEr, .int xTr, .int xMo, .int xFa, .int xRe])), ((ax 1), .inr (3, [.ref (ax 2), .ref (ax 3), .ref (ax 4), .ref (ax 5), .ref (ax 6), .int xRz, .int xRn])), ((ax 10), .inl (cA 2, 20, .inl gE)), ((ax 2), .inl (cA 0, 400, .inl gP)), ((ax 3), .inl (cA 0, 400, .inl gS)), ((ax 4), .inl (cA 0, 400, .inl gM)), ((ax 5), .inl (cA 0, 400, .inl gK)), ((ax 6), .inl (cA 0, 400, .inl gV))] sz) [((ax 0), .inr (8, [.ref (ax 1), .ref (ax 7), .ref (ax 10), .ref (ax 11), .ref (ax 13), .ref (ax 15), .ref (ax 16), .ref (ax 21), .ref (ax 26), .ref (ax 27), .ref (ax 28), .int xNow, .int xEr, .int xTr, .int xMo, .int xFa, .int u.1])), ((ax 1), .inr (3, [.ref (ax 2), .ref (ax 3), .ref (ax 4), .ref (ax 5), .ref (ax 6), .int u.2.1, .int u.2.2.1])), ((ax 10), .inl (cA 2, 20, .inl gE)), ((ax 2), .inl (cA 0, 400, .inl u.2.2.2.1)), ((ax 3), .inl (cA 0, 400, .inl u.2.2.2.2.1)), ((ax 4), .inl (cA 0, 400, .inl u.2.2.2.2.2.1)), ((ax 5), .inl (cA 0, 400, .inl u.2.2.2.2.2.2.1)), ((ax 6), .inl (cA 0, 400, .inl u.2.2.2.2.2.2.2))]) (va_A [((ax 0), .inr (8, [.ref (ax 1), .ref (ax 7), .ref (ax 10), .ref (ax 11), .ref (ax 13), .ref (ax 15), .ref (ax 16), .ref (ax 21), .ref (ax 26), .ref (ax 27), .ref (ax 28), .int xNow, .int xEr, .int xTr, .int xMo, .int xFa, .int xRe])), ((ax 1), .inr (3, [.ref (ax 2), .ref (ax 3), .ref (ax 4), .ref (ax 5), .ref (ax 6), .int xRz, .int xRn])), ((ax 10), .inl (cA 2, 20, .inl gE)), ((ax 2), .inl (cA 0, 400, .inl gP)), ((ax 3), .inl (cA 0, 400, .inl gS)), ((ax 4), .inl (cA 0, 400, .inl gM)), ((ax 5), .inl (cA 0, 400, .inl gK)), ((ax 6), .inl (cA 0, 400, .inl gV))] sz)) 0 0 (va_A [((ax 0), .inr (8, [.ref (ax 1), .ref (ax 7), .ref (ax 10), .ref (ax 11), .ref (ax 13), .ref (ax 15), .ref (ax 16), .ref (ax 21), .ref (ax 26), .ref (ax 27), .ref (ax 28), .int xNow, .int xEr, .int xTr, .int xMo, .int xFa, .int xRe])), ((ax 1), .inr (3, [.ref (ax 2), .ref (ax 3), .ref (ax 4), .ref (ax 5), .ref (ax 6), .int xRz, .int xRn])), ((ax 10), .inl (cA 2, 20, .inl gE)), ((ax 2), .inl (cA 0, 400, .inl gP)), ((ax 3), .inl (cA 0, 400, .inl gS)), ((ax 4), .inl (cA 0, 400, .inl gM)), ((ax 5), .inl (cA 0, 400, .inl gK)), ((ax 6), .inl (cA 0, 400, .inl gV))] sz) := by
  refine Met.ofW (cc := cX8_row) (maxL := 6) (ret := (some .int)) (by decide) rfl ?_
  intro p e s m args below meth c s₁ B hml hv
  obtain ⟨rfl, hsz, hP, hK, hD0, hN⟩ := hv
  have hx := B.exec
  have hb := B.bytes
  have hr := B.returns
  have hts := atoms_spec (ws := wsX8_row) B.pre
  have hown : s.vm.findClass RX8 = some m.cls := findClass_of_methodNamed B.named
  have hlocks := B.notSynchronized
  subst hsz
  have hD := hD0.self (sz := s.heap.size)
  generalize hAe : va_A [((ax 0), .inr (8, [.ref (ax 1), .ref (ax 7), .ref (ax 10), .ref (ax 11), .ref (ax 13), .ref (ax 15), .ref (ax 16), .ref (ax 21), .ref (ax 26), .ref (ax 27), .ref (ax 28), .int xNow, .int xEr, .int xTr, .int xMo, .int xFa, .int xRe])), ((ax 1), .inr (3, [.ref (ax 2), .ref (ax 3), .ref (ax 4), .ref (ax 5), .ref (ax 6), .int xRz, .int xRn])), ((ax 10), .inl (cA 2, 20, .inl gE)), ((ax 2), .inl (cA 0, 400, .inl gP)), ((ax 3), .inl (cA 0, 400, .inl gS)), ((ax 4), .inl (cA 0, 400, .inl gM)), ((ax 5), .inl (cA 0, 400, .inl gK)), ((ax 6), .inl (cA 0, 400, .inl gV))] s.heap.size = A at hD ⊢
  have hA : ∀ q : Nat, s.heap.size ≤ q → A q := fun q h => by rw [← hAe]; exact Or.inr h
  have hS : va_S A s.heap s.heap [] := va_S.rf
  have hl := lv_entry ([.ref (ax 0), .int pp, .int st, .int mo, .int kn, .int va]) (n := 6) (Nat.le_of_ble_eq_true rfl)
  rw [lg_entry_eq]
  generalize (lg_sl ([.ref (ax 0), .int pp, .int st, .int mo, .int kn, .int va]) ++ List.replicate (6 - (lg_sl ([.ref (ax 0), .int pp, .int st, .int mo, .int kn, .int va])).length) Slot.unset).toArray = ls at hl ⊢
  have hl : lv_has ls 6 [(0, .ref (ax 0)), (1, .int pp), (2, .int st), (3, .int mo), (4, .int kn), (5, .int va)] := hl
  generalize hQe : MQ below _ _ _ _ _ _ = QQ
  refine lv_aload_n hx hb dX8_row_0 rfl (lv_at hl 0 rfl) ?_
  refine lv_aload_n hx hb dX8_row_1 rfl (lv_at hl 0 rfl) ?_
  refine lv_iload_n hx hb dX8_row_2 rfl (lv_at hl 1 rfl) ?_
  refine lv_iload_n hx hb dX8_row_3 rfl (lv_at hl 2 rfl) ?_
  refine lv_iload_n hx hb dX8_row_4 rfl (lv_at hl 3 rfl) ?_
  refine lv_iload hx hb dX8_row_5 (lv_at hl 4 rfl) ?_
  refine lv_iload hx hb dX8_row_7 (lv_at hl 5 rfl) ?_
  obtain ⟨hPc, hDc, hFc, hCc⟩ := va_pre (ws' := [((ax 0), .inr (8, [.ref (ax 1), .ref (ax 7), .ref (ax 10), .ref (ax 11), .ref (ax 13), .ref (ax 15), .ref (ax 16), .ref (ax 21), .ref (ax 26), .ref (ax 27), .ref (ax 28), .int xNow, .int xEr, .int xTr, .int xMo, .int xFa, .int xRe])), ((ax 1), .inr (3, [.ref (ax 2), .ref (ax 3), .ref (ax 4), .ref (ax 5), .ref (ax 6), .int xRz, .int xRn])), ((ax 10), .inl (cA 2, 20, .inl gE)), ((ax 2), .inl (cA 0, 400, .inl gP)), ((ax 3), .inl (cA 0, 400, .inl gS)), ((ax 4), .inl (cA 0, 400, .inl gM)), ((ax 5), .inl (cA 0, 400, .inl gK)), ((ax 6), .inl (cA 0, 400, .inl gV))]) hP hD hS hA [0, 1, 2, 3, 4, 5, 6, 7] (by decide) rfl
  refine va_calli (va_runV (As := [.int pp, .int st, .int mo, .int kn, .int va]) (rest := [.ref (ax 0)]) ⟨hx, hb, hml, hown, hts⟩ (k_X8_addRow l dC dI cA s.heap.size ax xNow xEr xTr xMo xFa xRe xRz xRn gE gP gS gM gK gV pp st mo kn va i_xNow i_xTr i_xMo i_xRz i_gP) (cwV 5 hts gX8_row_X8_addRow rfl rfl rfl (by decide +kernel) ⟨Nat.le_of_ble_eq_true rfl, Nat.le_of_ble_eq_true rfl⟩) ⟨fun a U g mk q => by obtain ⟨q0, q1, qP, qK, qD, qN⟩ := q; exact ⟨q0, q1, qP, va_K.moved (u := U) (U := U.calling g mk a) (Vm.Alike.refl U.vm) qK, qD, qN.same rfl⟩, va_recv hK hPc (ci := 8) (q0 := 0) rfl rfl, fun U hU hW => ⟨rfl, by rw [hU], by rw [hU]; exact hPc, va_K.moved hW.alike hK, hDc.weaken (fun _ _ _ _ => trivial), hN.warm hW⟩⟩ rfl rfl hl.1 rfl (lv_room (Nat.le_of_ble_eq_true rfl)) dX8_row_9 ⟨Nat.le_of_ble_eq_true rfl, Nat.le_of_ble_eq_true rfl⟩) hS (fun q _ h => hFc q h) hFc (fun r_1 u_2 t H1 locs ht hvm hw_3 hB hz1 hk1 hS => ?_)
  obtain ⟨w_4, w_5, w_6, w_7, w_8, w_9, w_10⟩ := u_2
  try dsimp only at hw_3 hB
  obtain ⟨iv_11, iv_12⟩ := hw_3
  obtain ⟨hP1, hD1⟩ := hB
  rw [ht] at hP1
  obtain ⟨hP, hD⟩ := va_join (wr := []) (w1 := [((ax 0), .inr (8, [.ref (ax 1), .ref (ax 7), .ref (ax 10), .ref (ax 11), .ref (ax 13), .ref (ax 15), .ref (ax 16), .ref (ax 21), .ref (ax 26), .ref (ax 27), .ref (ax 28), .int xNow, .int xEr, .int xTr, .int xMo, .int xFa, .int xRe])), ((ax 1), .inr (3, [.ref (ax 2), .ref (ax 3), .ref (ax 4), .ref (ax 5), .ref (ax 6), .int w_4, .int w_5])), ((ax 10), .inl (cA 2, 20, .inl gE)), ((ax 2), .inl (cA 0, 400, .inl w_6)), ((ax 3), .inl (cA 0, 400, .inl w_7)), ((ax 4), .inl (cA 0, 400, .inl w_8)), ((ax 5), .inl (cA 0, 400, .inl w_9)), ((ax 6), .inl (cA 0, 400, .inl w_10))]) hP hD [0, 1, 2, 3, 4, 5, 6, 7] [] hCc rfl (by decide) (by decide) hk1 hFc hP1 hD1
  clear hz1
  generalize H1 = H at hP hS ⊢
  obtain ⟨hPc, hDc, hFc, hCc⟩ := va_pre (ws' := [((ax 0), .inr (8, [.ref (ax 1), .ref (ax 7), .ref (ax 10), .ref (ax 11), .ref (ax 13), .ref (ax 15), .ref (ax 16), .ref (ax 21), .ref (ax 26), .ref (ax 27), .ref (ax 28), .int xNow, .int xEr, .int xTr, .int xMo, .int xFa, .int xRe]))]) hP hD hS hA [0] (by decide) rfl
  refine va_calli (va_runV (As := [.int r_1]) (rest := []) ⟨hx, hb, hml, hown, hts⟩ (k_X8_settle l dC dI cA H.size ax xNow xEr xTr xMo xFa xRe r_1 i_xNow i_xTr i_xMo) (cwV 1 hts gX8_row_X8_settle rfl rfl rfl (by decide +kernel) ⟨Nat.le_of_ble_eq_true rfl, Nat.le_of_ble_eq_true rfl⟩) ⟨fun a U g mk q => by obtain ⟨q0, q1, qP, qK, qD, qN⟩ := q; exact ⟨q0, q1, qP, va_K.moved (u := U) (U := U.calling g mk a) (Vm.Alike.refl U.vm) qK, qD, qN.same rfl⟩, va_recv hK hPc (ci := 8) (q0 := 0) rfl rfl, fun U hU hW => ⟨rfl, by rw [hU], by rw [hU]; exact hPc, va_K.moved hW.alike hK, hDc.weaken (fun _ _ _ _ => trivial), hN.warm hW⟩⟩ rfl rfl hl.1 rfl (lv_room (Nat.le_of_ble_eq_true rfl)) dX8_row_12 ⟨Nat.le_of_ble_eq_true rfl, Nat.le_of_ble_eq_true rfl⟩) hS (fun q _ h => hFc q h) hFc (fun r_13 u_14 t H1 locs ht hvm hw_15 hB hz1 hk1 hS => ?_)
  obtain ⟨w_16, rfl⟩ : ∃ z, z = u_14 := ⟨_, rfl⟩
  try dsimp only at hw_15 hB
  have hr9 := hw_15
  clear hw_15
  obtain ⟨hP1, hD1⟩ := hB
  rw [ht] at hP1
  obtain ⟨hP, hD⟩ := va_join (wr := [((ax 1), .inr (3, [.ref (ax 2), .ref (ax 3), .ref (ax 4), .ref (ax 5), .ref (ax 6), .int w_4, .int w_5])), ((ax 10), .inl (cA 2, 20, .inl gE)), ((ax 2), .inl (cA 0, 400, .inl w_6)), ((ax 3), .inl (cA 0, 400, .inl w_7)), ((ax 4), .inl (cA 0, 400, .inl w_8)), ((ax 5), .inl (cA 0, 400, .inl w_9)), ((ax 6), .inl (cA 0, 400, .inl w_10))]) (w1 := [((ax 0), .inr (8, [.ref (ax 1), .ref (ax 7), .ref (ax 10), .ref (ax 11), .ref (ax 13), .ref (ax 15), .ref (ax 16), .ref (ax 21), .ref (ax 26), .ref (ax 27), .ref (ax 28), .int xNow, .int xEr, .int xTr, .int xMo, .int xFa, .int w_16]))]) hP hD [0] [1, 2, 3, 4, 5, 6, 7] hCc rfl (by decide) (by decide) hk1 hFc hP1 hD1
  clear hz1
  generalize H1 = H at hP hS ⊢
  obtain rfl : r_1 = r_13 := hr9.symm
  obtain ⟨hP9, hD9⟩ := va_pd (ws' := [((ax 0), .inr (8, [.ref (ax 1), .ref (ax 7), .ref (ax 10), .ref (ax 11), .ref (ax 13), .ref (ax 15), .ref (ax 16), .ref (ax 21), .ref (ax 26), .ref (ax 27), .ref (ax 28), .int xNow, .int xEr, .int xTr, .int xMo, .int xFa, .int w_16])), ((ax 1), .inr (3, [.ref (ax 2), .ref (ax 3), .ref (ax 4), .ref (ax 5), .ref (ax 6), .int w_4, .int w_5])), ((ax 10), .inl (cA 2, 20, .inl gE)), ((ax 2), .inl (cA 0, 400, .inl w_6)), ((ax 3), .inl (cA 0, 400, .inl w_7)), ((ax 4), .inl (cA 0, 400, .inl w_8)), ((ax 5), .inl (cA 0, 400, .inl w_9)), ((ax 6), .inl (cA 0, 400, .inl w_10))]) hP hD [7, 0, 1, 2, 3, 4, 5, 6] (by decide) rfl
  subst hQe
  have hans : (r_1 : Int32).toInt = r_1.toInt := rfl
  have hpost : (0 ≤ w_4.toInt ∧ w_4.toInt ≤ 400) ∧ (inB 0 19 400 w_6) := ⟨iv_11, iv_12⟩
  exact W.iret (v := r_1) hx hb hr (fun t ht hW => ⟨⟨r_1, (w_16, w_4, w_5, w_6, w_7, w_8, w_9, w_10), rfl, hpost, by rw [ht]; exact hP9, hD9⟩, hS.F ht⟩) hS.2.2 dX8_row_15
