theorem dX8_kept_0 : decode cX8_kept 0 = .ok (.aload_n 0, 1) := by decide +kernel
theorem dX8_kept_1 : decode cX8_kept 1 = .ok (.iload_n 1, 1) := by decide +kernel
set_option maxRecDepth 20000 in
theorem ggX8_kept_X8_traitAt : GoodIn wsX8_kept wsX8_traitAt := goodIn_r _ [6, 7, 8, 20, 21, 22, 23, 24, 25, 26, 27, 28, 29, 30, 31, 32, 33, 34, 35, 36] (by decide +kernel) (by decide +kernel)
set_option maxRecDepth 20000 in
theorem gX8_kept_X8_traitAt : GoodIn wsX8_kept (wsV RX8 130 RX8 yX8_traitAt wsX8_traitAt) := goodIn_app (goodIn_of _ (by decide +kernel)) ggX8_kept_X8_traitAt
theorem dX8_kept_2 : decode cX8_kept 2 = .ok (.invokevirtual 130, 3) := by decide +kernel
theorem dX8_kept_5 : decode cX8_kept 5 = .ok (.astore_n 3, 1) := by decide +kernel
theorem dX8_kept_6 : decode cX8_kept 6 = .ok (.aload_n 3, 1) := by decide +kernel
theorem dX8_kept_7 : decode cX8_kept 7 = .ok (.ifnull 10, 3) := by decide +kernel
theorem dX8_kept_10 : decode cX8_kept 10 = .ok (.iload_n 2, 1) := by decide +kernel
set_option maxRecDepth 20000 in
theorem ggX8_kept_X8_isPerson : GoodIn wsX8_kept wsX8_isPerson := goodIn_r _ [11] (by decide +kernel) (by decide +kernel)
set_option maxRecDepth 20000 in
theorem gX8_kept_X8_isPerson : GoodIn wsX8_kept (va_wsS RX8 100 yX8_isPerson wsX8_isPerson) := goodIn_app (goodIn_of _ (by decide +kernel)) ggX8_kept_X8_isPerson
theorem dX8_kept_11 : decode cX8_kept 11 = .ok (.invokestatic 100, 3) := by decide +kernel
theorem dX8_kept_14 : decode cX8_kept 14 = .ok (.ifCond .ne 7, 3) := by decide +kernel
theorem dX8_kept_21 : decode cX8_kept 21 = .ok (.aload_n 3, 1) := by decide +kernel
theorem dX8_kept_22 : decode cX8_kept 22 = .ok (.getfield 210, 3) := by decide +kernel
theorem dX8_kept_25 : decode cX8_kept 25 = .ok (.iload_n 2, 1) := by decide +kernel
theorem dX8_kept_26 : decode cX8_kept 26 = .ok (.laload, 1) := by decide +kernel
theorem dX8_kept_27 : decode cX8_kept 27 = .ok (.lreturn, 1) := by decide +kernel
theorem dX8_kept_17 : decode cX8_kept 17 = .ok (.ldc2_w 175, 3) := by decide +kernel
theorem dX8_kept_20 : decode cX8_kept 20 = .ok (.lreturn, 1) := by decide +kernel
theorem dX8_age_0 : decode cX8_age 0 = .ok (.aload_n 0, 1) := by decide +kernel
theorem dX8_age_1 : decode cX8_age 1 = .ok (.iload_n 1, 1) := by decide +kernel
set_option maxRecDepth 20000 in
theorem ggX8_age_X8_traitAt : GoodIn wsX8_age wsX8_traitAt := goodIn_r _ [6, 7, 8, 29, 30, 31, 32, 33, 34, 35, 36, 37, 38, 39, 40, 41, 42, 43, 44, 45] (by decide +kernel) (by decide +kernel)
set_option maxRecDepth 20000 in
theorem gX8_age_X8_traitAt : GoodIn wsX8_age (wsV RX8 130 RX8 yX8_traitAt wsX8_traitAt) := goodIn_app (goodIn_of _ (by decide +kernel)) ggX8_age_X8_traitAt
theorem dX8_age_2 : decode cX8_age 2 = .ok (.invokevirtual 130, 3) := by decide +kernel
theorem dX8_age_5 : decode cX8_age 5 = .ok (.astore 4, 2) := by decide +kernel
theorem dX8_age_7 : decode cX8_age 7 = .ok (.aload 4, 2) := by decide +kernel
theorem dX8_age_9 : decode cX8_age 9 = .ok (.ifnull 19, 3) := by decide +kernel
theorem dX8_age_12 : decode cX8_age 12 = .ok (.iload_n 2, 1) := by decide +kernel
set_option maxRecDepth 20000 in
theorem ggX8_age_X8_isPerson : GoodIn wsX8_age wsX8_isPerson := goodIn_r _ [11] (by decide +kernel) (by decide +kernel)
set_option maxRecDepth 20000 in
theorem gX8_age_X8_isPerson : GoodIn wsX8_age (va_wsS RX8 100 yX8_isPerson wsX8_isPerson) := goodIn_app (goodIn_of _ (by decide +kernel)) ggX8_age_X8_isPerson
theorem dX8_age_13 : decode cX8_age 13 = .ok (.invokestatic 100, 3) := by decide +kernel
theorem dX8_age_16 : decode cX8_age 16 = .ok (.ifCond .eq 12, 3) := by decide +kernel
theorem dX8_age_28 : decode cX8_age 28 = .ok (.iconst (-1), 1) := by decide +kernel
theorem dX8_age_29 : decode cX8_age 29 = .ok (.ireturn, 1) := by decide +kernel
theorem dX8_age_19 : decode cX8_age 19 = .ok (.aload 4, 2) := by decide +kernel
theorem dX8_age_21 : decode cX8_age 21 = .ok (.iload_n 2, 1) := by decide +kernel
set_option maxRecDepth 20000 in
theorem ggX8_age_X6_isKept : GoodIn wsX8_age wsX6_isKept := goodIn_r _ [15, 16, 21, 22, 23, 24, 25, 26, 27, 28] (by decide +kernel) (by decide +kernel)
set_option maxRecDepth 20000 in
theorem gX8_age_X6_isKept_n214 : GoodIn wsX8_age (wsX6_isKept) := ggX8_age_X6_isKept
theorem dX8_age_22 : decode cX8_age 22 = .ok (.invokevirtual 214, 3) := by decide +kernel
theorem dX8_age_25 : decode cX8_age 25 = .ok (.ifCond .ne 5, 3) := by decide +kernel
theorem dX8_age_30 : decode cX8_age 30 = .ok (.iload_n 3, 1) := by decide +kernel
theorem dX8_age_31 : decode cX8_age 31 = .ok (.lookupswitch 52 #[(0, 25), (1, 33)], 25) := by decide +kernel
theorem dX8_age_83 : decode cX8_age 83 = .ok (.iconst (-1), 1) := by decide +kernel
theorem dX8_age_84 : decode cX8_age 84 = .ok (.ireturn, 1) := by decide +kernel
theorem dX8_age_56 : decode cX8_age 56 = .ok (.aload 4, 2) := by decide +kernel
theorem dX8_age_58 : decode cX8_age 58 = .ok (.getfield 217, 3) := by decide +kernel
theorem dX8_age_61 : decode cX8_age 61 = .ok (.iload_n 2, 1) := by decide +kernel
theorem dX8_age_62 : decode cX8_age 62 = .ok (.iaload, 1) := by decide +kernel
theorem dX8_age_63 : decode cX8_age 63 = .ok (.ireturn, 1) := by decide +kernel
theorem dX8_age_64 : decode cX8_age 64 = .ok (.aload 4, 2) := by decide +kernel
theorem dX8_age_66 : decode cX8_age 66 = .ok (.iload_n 2, 1) := by decide +kernel
theorem dX8_age_67 : decode cX8_age 67 = .ok (.aload_n 0, 1) := by decide +kernel
theorem dX8_age_68 : decode cX8_age 68 = .ok (.getfield 83, 3) := by decide +kernel
set_option maxRecDepth 20000 in
theorem ggX8_age_X6_isStale : GoodIn wsX8_age wsX6_isStale := goodIn_r _ [19, 16, 20, 21, 22, 23, 24, 25, 26, 27, 28] (by decide +kernel) (by decide +kernel)
set_option maxRecDepth 20000 in
theorem gX8_age_X6_isStale_n220 : GoodIn wsX8_age (wsX6_isStale) := ggX8_age_X6_isStale
theorem dX8_age_71 : decode cX8_age 71 = .ok (.invokevirtual 220, 3) := by decide +kernel
theorem dX8_age_74 : decode cX8_age 74 = .ok (.ifCond .eq 7, 3) := by decide +kernel
theorem dX8_age_81 : decode cX8_age 81 = .ok (.iconst 0, 1) := by decide +kernel
theorem dX8_age_82 : decode cX8_age 82 = .ok (.ireturn, 1) := by decide +kernel
theorem dX8_age_77 : decode cX8_age 77 = .ok (.iconst 1, 1) := by decide +kernel
theorem dX8_age_78 : decode cX8_age 78 = .ok (.goto 4, 3) := by decide +kernel
theorem dX8_held_0 : decode cX8_held 0 = .ok (.aload_n 0, 1) := by decide +kernel
theorem dX8_held_1 : decode cX8_held 1 = .ok (.iload_n 1, 1) := by decide +kernel
set_option maxRecDepth 20000 in
theorem ggX8_held_X8_traitAt : GoodIn wsX8_held wsX8_traitAt := goodIn_r _ [5, 6, 7, 16, 17, 18, 19, 20, 21, 22, 23, 24, 25, 26, 27, 28, 29, 30, 31, 32] (by decide +kernel) (by decide +kernel)
set_option maxRecDepth 20000 in
theorem gX8_held_X8_traitAt : GoodIn wsX8_held (wsV RX8 130 RX8 yX8_traitAt wsX8_traitAt) := goodIn_app (goodIn_of _ (by decide +kernel)) ggX8_held_X8_traitAt
theorem dX8_held_2 : decode cX8_held 2 = .ok (.invokevirtual 130, 3) := by decide +kernel
theorem dX8_held_5 : decode cX8_held 5 = .ok (.astore_n 2, 1) := by decide +kernel
theorem dX8_held_6 : decode cX8_held 6 = .ok (.aload_n 2, 1) := by decide +kernel
theorem dX8_held_7 : decode cX8_held 7 = .ok (.ifnonnull 7, 3) := by decide +kernel
theorem dX8_held_14 : decode cX8_held 14 = .ok (.aload_n 2, 1) := by decide +kernel
theorem dX8_held_15 : decode cX8_held 15 = .ok (.getfield 191, 3) := by decide +kernel
theorem dX8_held_18 : decode cX8_held 18 = .ok (.ireturn, 1) := by decide +kernel
theorem dX8_held_10 : decode cX8_held 10 = .ok (.iconst (-1), 1) := by decide +kernel
theorem dX8_held_11 : decode cX8_held 11 = .ok (.goto 7, 3) := by decide +kernel
theorem dX8_placeOf_0 : decode cX8_placeOf 0 = .ok (.aload_n 0, 1) := by decide +kernel
theorem dX8_placeOf_1 : decode cX8_placeOf 1 = .ok (.iload_n 1, 1) := by decide +kernel
set_option maxRecDepth 20000 in
theorem ggX8_placeOf_X8_traitAt : GoodIn wsX8_placeOf wsX8_traitAt := goodIn_r _ [6, 7, 8, 26, 27, 28, 29, 30, 31, 32, 33, 34, 35, 36, 37, 38, 39, 40, 41, 42] (by decide +kernel) (by decide +kernel)
set_option maxRecDepth 20000 in
theorem gX8_placeOf_X8_traitAt : GoodIn wsX8_placeOf (wsV RX8 130 RX8 yX8_traitAt wsX8_traitAt) := goodIn_app (goodIn_of _ (by decide +kernel)) ggX8_placeOf_X8_traitAt
theorem dX8_placeOf_2 : decode cX8_placeOf 2 = .ok (.invokevirtual 130, 3) := by decide +kernel
theorem dX8_placeOf_5 : decode cX8_placeOf 5 = .ok (.ifnull 17, 3) := by decide +kernel
theorem dX8_placeOf_8 : decode cX8_placeOf 8 = .ok (.iload_n 2, 1) := by decide +kernel
set_option maxRecDepth 20000 in
theorem ggX8_placeOf_X8_isPerson : GoodIn wsX8_placeOf wsX8_isPerson := goodIn_r _ [11] (by decide +kernel) (by decide +kernel)
set_option maxRecDepth 20000 in
theorem gX8_placeOf_X8_isPerson : GoodIn wsX8_placeOf (va_wsS RX8 100 yX8_isPerson wsX8_isPerson) := goodIn_app (goodIn_of _ (by decide +kernel)) ggX8_placeOf_X8_isPerson
theorem dX8_placeOf_9 : decode cX8_placeOf 9 = .ok (.invokestatic 100, 3) := by decide +kernel
theorem dX8_placeOf_12 : decode cX8_placeOf 12 = .ok (.ifCond .eq 10, 3) := by decide +kernel
theorem dX8_placeOf_22 : decode cX8_placeOf 22 = .ok (.iconst (-1), 1) := by decide +kernel
theorem dX8_placeOf_23 : decode cX8_placeOf 23 = .ok (.ireturn, 1) := by decide +kernel
theorem dX8_placeOf_15 : decode cX8_placeOf 15 = .ok (.iload_n 3, 1) := by decide +kernel
set_option maxRecDepth 20000 in
theorem ggX8_placeOf_X8_isMoment : GoodIn wsX8_placeOf wsX8_isMoment := goodIn_r _ [14, 15] (by decide +kernel) (by decide +kernel)
set_option maxRecDepth 20000 in
theorem gX8_placeOf_X8_isMoment : GoodIn wsX8_placeOf (va_wsS RX8 79 yX8_isMoment wsX8_isMoment) := goodIn_app (goodIn_of _ (by decide +kernel)) ggX8_placeOf_X8_isMoment
theorem dX8_placeOf_16 : decode cX8_placeOf 16 = .ok (.invokestatic 79, 3) := by decide +kernel
theorem dX8_placeOf_19 : decode cX8_placeOf 19 = .ok (.ifCond .ne 5, 3) := by decide +kernel
theorem dX8_placeOf_24 : decode cX8_placeOf 24 = .ok (.aload_n 0, 1) := by decide +kernel
theorem dX8_placeOf_25 : decode cX8_placeOf 25 = .ok (.getfield 61, 3) := by decide +kernel
theorem dX8_placeOf_28 : decode cX8_placeOf 28 = .ok (.iload_n 1, 1) := by decide +kernel
theorem dX8_placeOf_29 : decode cX8_placeOf 29 = .ok (.iload_n 2, 1) := by decide +kernel
theorem dX8_placeOf_30 : decode cX8_placeOf 30 = .ok (.iload_n 3, 1) := by decide +kernel
set_option maxRecDepth 20000 in
theorem ggX8_placeOf_X1_find : GoodIn wsX8_placeOf wsX1_find := goodIn_r _ [19, 20, 21, 22, 23, 24, 17, 25, 43, 44, 45, 46, 47] (by decide +kernel) (by decide +kernel)
set_option maxRecDepth 20000 in
theorem gX8_placeOf_X1_find_n247 : GoodIn wsX8_placeOf (wsX1_find) := ggX8_placeOf_X1_find
theorem dX8_placeOf_31 : decode cX8_placeOf 31 = .ok (.invokevirtual 247, 3) := by decide +kernel
theorem dX8_placeOf_34 : decode cX8_placeOf 34 = .ok (.ireturn, 1) := by decide +kernel
theorem dX8_history_0 : decode cX8_history 0 = .ok (.aload_n 0, 1) := by decide +kernel
theorem dX8_history_1 : decode cX8_history 1 = .ok (.iload_n 1, 1) := by decide +kernel
theorem dX8_history_2 : decode cX8_history 2 = .ok (.iload_n 2, 1) := by decide +kernel
theorem dX8_history_3 : decode cX8_history 3 = .ok (.iload_n 3, 1) := by decide +kernel
set_option maxRecDepth 20000 in
theorem ggX8_history_X8_placeOf : GoodIn wsX8_history wsX8_placeOf := goodIn_r _ [7, 2, 8, 9, 10, 6, 11, 12, 13, 14, 15, 16, 17, 18, 19, 20, 21, 22, 23, 24, 25, 26, 27, 28, 29, 30, 31, 32, 33, 34, 35, 36, 37, 38, 39, 40, 41, 42, 43, 44, 45, 46, 47, 48, 49, 50, 51, 52] (by decide +kernel) (by decide +kernel)
set_option maxRecDepth 20000 in
theorem gX8_history_X8_placeOf : GoodIn wsX8_history (wsV RX8 235 RX8 yX8_placeOf wsX8_placeOf) := goodIn_app (goodIn_of _ (by decide +kernel)) ggX8_history_X8_placeOf
theorem dX8_history_4 : decode cX8_history 4 = .ok (.invokevirtual 235, 3) := by decide +kernel
theorem dX8_history_7 : decode cX8_history 7 = .ok (.istore 4, 2) := by decide +kernel
theorem dX8_history_9 : decode cX8_history 9 = .ok (.iload 4, 2) := by decide +kernel
theorem dX8_history_11 : decode cX8_history 11 = .ok (.iconst (-1), 1) := by decide +kernel
theorem dX8_history_12 : decode cX8_history 12 = .ok (.if_icmp .ne 9, 3) := by decide +kernel
theorem dX8_history_21 : decode cX8_history 21 = .ok (.aload_n 0, 1) := by decide +kernel
theorem dX8_history_22 : decode cX8_history 22 = .ok (.getfield 61, 3) := by decide +kernel
theorem dX8_history_25 : decode cX8_history 25 = .ok (.getfield 238, 3) := by decide +kernel
theorem dX8_history_28 : decode cX8_history 28 = .ok (.iload 4, 2) := by decide +kernel
theorem dX8_history_30 : decode cX8_history 30 = .ok (.laload, 1) := by decide +kernel
theorem dX8_history_31 : decode cX8_history 31 = .ok (.lreturn, 1) := by decide +kernel
theorem dX8_history_15 : decode cX8_history 15 = .ok (.ldc2_w 175, 3) := by decide +kernel
theorem dX8_history_18 : decode cX8_history 18 = .ok (.goto 13, 3) := by decide +kernel
theorem dX8_told_0 : decode cX8_told 0 = .ok (.aload_n 0, 1) := by decide +kernel
theorem dX8_told_1 : decode cX8_told 1 = .ok (.iload_n 1, 1) := by decide +kernel
theorem dX8_told_2 : decode cX8_told 2 = .ok (.iload_n 2, 1) := by decide +kernel
theorem dX8_told_3 : decode cX8_told 3 = .ok (.iload_n 3, 1) := by decide +kernel
set_option maxRecDepth 20000 in
theorem ggX8_told_X8_placeOf : GoodIn wsX8_told wsX8_placeOf := goodIn_r _ [6, 1, 7, 8, 9, 5, 10, 11, 12, 13, 14, 15, 16, 17, 18, 19, 20, 21, 22, 23, 24, 25, 26, 27, 28, 29, 30, 31, 32, 33, 34, 35, 36, 37, 38, 39, 40, 41, 42, 43, 44, 45, 46, 47, 48, 49, 50, 51] (by decide +kernel) (by decide +kernel)
set_option maxRecDepth 20000 in
theorem gX8_told_X8_placeOf : GoodIn wsX8_told (wsV RX8 235 RX8 yX8_placeOf wsX8_placeOf) := goodIn_app (goodIn_of _ (by decide +kernel)) ggX8_told_X8_placeOf
theorem dX8_told_4 : decode cX8_told 4 = .ok (.invokevirtual 235, 3) := by decide +kernel
theorem dX8_told_7 : decode cX8_told 7 = .ok (.istore 5, 2) := by decide +kernel
theorem dX8_told_9 : decode cX8_told 9 = .ok (.iload 5, 2) := by decide +kernel
theorem dX8_told_11 : decode cX8_told 11 = .ok (.iconst (-1), 1) := by decide +kernel
theorem dX8_told_12 : decode cX8_told 12 = .ok (.if_icmp .ne 5, 3) := by decide +kernel
theorem dX8_told_17 : decode cX8_told 17 = .ok (.iload 4, 2) := by decide +kernel
theorem dX8_told_19 : decode cX8_told 19 = .ok (.lookupswitch 55 #[(0, 25), (1, 36)], 25) := by decide +kernel
theorem dX8_told_74 : decode cX8_told 74 = .ok (.iconst (-1), 1) := by decide +kernel
theorem dX8_told_75 : decode cX8_told 75 = .ok (.ireturn, 1) := by decide +kernel
theorem dX8_told_44 : decode cX8_told 44 = .ok (.aload_n 0, 1) := by decide +kernel
theorem dX8_told_45 : decode cX8_told 45 = .ok (.getfield 61, 3) := by decide +kernel
theorem dX8_told_48 : decode cX8_told 48 = .ok (.getfield 241, 3) := by decide +kernel
theorem dX8_told_51 : decode cX8_told 51 = .ok (.iload 5, 2) := by decide +kernel
theorem dX8_told_53 : decode cX8_told 53 = .ok (.iaload, 1) := by decide +kernel
theorem dX8_told_54 : decode cX8_told 54 = .ok (.ireturn, 1) := by decide +kernel
theorem dX8_told_55 : decode cX8_told 55 = .ok (.aload_n 0, 1) := by decide +kernel
theorem dX8_told_56 : decode cX8_told 56 = .ok (.getfield 61, 3) := by decide +kernel
theorem dX8_told_59 : decode cX8_told 59 = .ok (.getfield 244, 3) := by decide +kernel
theorem dX8_told_62 : decode cX8_told 62 = .ok (.iload 5, 2) := by decide +kernel
theorem dX8_told_64 : decode cX8_told 64 = .ok (.baload, 1) := by decide +kernel
theorem dX8_told_65 : decode cX8_told 65 = .ok (.ifCond .eq 7, 3) := by decide +kernel
theorem dX8_told_72 : decode cX8_told 72 = .ok (.iconst 0, 1) := by decide +kernel
theorem dX8_told_73 : decode cX8_told 73 = .ok (.ireturn, 1) := by decide +kernel
theorem dX8_told_68 : decode cX8_told 68 = .ok (.iconst 1, 1) := by decide +kernel
theorem dX8_told_69 : decode cX8_told 69 = .ok (.goto 4, 3) := by decide +kernel
theorem dX8_told_15 : decode cX8_told 15 = .ok (.iconst (-1), 1) := by decide +kernel
theorem dX8_told_16 : decode cX8_told 16 = .ok (.ireturn, 1) := by decide +kernel
theorem dX8_hung_0 : decode cX8_hung 0 = .ok (.aload_n 0, 1) := by decide +kernel
theorem dX8_hung_1 : decode cX8_hung 1 = .ok (.iload_n 1, 1) := by decide +kernel
set_option maxRecDepth 20000 in
theorem ggX8_hung_X8_traitAt : GoodIn wsX8_hung wsX8_traitAt := goodIn_r _ [7, 8, 9, 13, 14, 15, 16, 17, 18, 19, 20, 21, 22, 23, 24, 25, 26, 27, 28, 29] (by decide +kernel) (by decide +kernel)
set_option maxRecDepth 20000 in
theorem gX8_hung_X8_traitAt : GoodIn wsX8_hung (wsV RX8 130 RX8 yX8_traitAt wsX8_traitAt) := goodIn_app (goodIn_of _ (by decide +kernel)) ggX8_hung_X8_traitAt
theorem dX8_hung_2 : decode cX8_hung 2 = .ok (.invokevirtual 130, 3) := by decide +kernel
theorem dX8_hung_5 : decode cX8_hung 5 = .ok (.ifnonnull 5, 3) := by decide +kernel
theorem dX8_hung_10 : decode cX8_hung 10 = .ok (.iconst 0, 1) := by decide +kernel
theorem dX8_hung_11 : decode cX8_hung 11 = .ok (.istore_n 2, 1) := by decide +kernel
theorem dX8_hung_12 : decode cX8_hung 12 = .ok (.iconst 0, 1) := by decide +kernel
theorem dX8_hung_13 : decode cX8_hung 13 = .ok (.istore_n 3, 1) := by decide +kernel
theorem dX8_hung_14 : decode cX8_hung 14 = .ok (.iload_n 3, 1) := by decide +kernel
theorem dX8_hung_15 : decode cX8_hung 15 = .ok (.aload_n 0, 1) := by decide +kernel
theorem dX8_hung_16 : decode cX8_hung 16 = .ok (.getfield 250, 3) := by decide +kernel
theorem dX8_hung_19 : decode cX8_hung 19 = .ok (.if_icmp .ge 25, 3) := by decide +kernel
theorem dX8_hung_44 : decode cX8_hung 44 = .ok (.iload_n 2, 1) := by decide +kernel
theorem dX8_hung_45 : decode cX8_hung 45 = .ok (.ireturn, 1) := by decide +kernel
theorem dX8_hung_22 : decode cX8_hung 22 = .ok (.aload_n 0, 1) := by decide +kernel
theorem dX8_hung_23 : decode cX8_hung 23 = .ok (.getfield 65, 3) := by decide +kernel
theorem dX8_hung_26 : decode cX8_hung 26 = .ok (.iload_n 3, 1) := by decide +kernel
theorem dX8_hung_27 : decode cX8_hung 27 = .ok (.iaload, 1) := by decide +kernel
theorem dX8_hung_28 : decode cX8_hung 28 = .ok (.iload_n 1, 1) := by decide +kernel
set_option maxRecDepth 20000 in
theorem ggX8_hung_X8_hasBit : GoodIn wsX8_hung wsX8_hasBit := goodIn_r _ [12] (by decide +kernel) (by decide +kernel)
set_option maxRecDepth 20000 in
theorem gX8_hung_X8_hasBit : GoodIn wsX8_hung (va_wsS RX8 256 yX8_hasBit wsX8_hasBit) := goodIn_app (goodIn_of _ (by decide +kernel)) ggX8_hung_X8_hasBit
theorem dX8_hung_29 : decode cX8_hung 29 = .ok (.invokestatic 256, 3) := by decide +kernel
theorem dX8_hung_32 : decode cX8_hung 32 = .ok (.ifCond .eq 6, 3) := by decide +kernel
theorem dX8_hung_38 : decode cX8_hung 38 = .ok (.iinc 3 1, 3) := by decide +kernel
theorem dX8_hung_41 : decode cX8_hung 41 = .ok (.goto (-27), 3) := by decide +kernel
theorem dX8_hung_35 : decode cX8_hung 35 = .ok (.iinc 2 1, 3) := by decide +kernel
theorem dX8_hung_8 : decode cX8_hung 8 = .ok (.iconst (-1), 1) := by decide +kernel
theorem dX8_hung_9 : decode cX8_hung 9 = .ok (.ireturn, 1) := by decide +kernel
theorem dX8_misses_0 : decode cX8_misses 0 = .ok (.aload_n 0, 1) := by decide +kernel
theorem dX8_misses_1 : decode cX8_misses 1 = .ok (.iload_n 1, 1) := by decide +kernel
set_option maxRecDepth 20000 in
theorem ggX8_misses_X8_isModel : GoodIn wsX8_misses wsX8_isModel := goodIn_r _ [8, 9, 37, 38, 39, 40, 41, 42, 43, 44, 45, 46, 47, 48, 49, 50, 51, 52, 53] (by decide +kernel) (by decide +kernel)
set_option maxRecDepth 20000 in
theorem gX8_misses_X8_isModel : GoodIn wsX8_misses (wsV RX8 253 RX8 yX8_isModel wsX8_isModel) := goodIn_app (goodIn_of _ (by decide +kernel)) ggX8_misses_X8_isModel
theorem dX8_misses_2 : decode cX8_misses 2 = .ok (.invokevirtual 253, 3) := by decide +kernel
theorem dX8_misses_5 : decode cX8_misses 5 = .ok (.ifCond .eq 10, 3) := by decide +kernel
theorem dX8_misses_15 : decode cX8_misses 15 = .ok (.iconst (-1), 1) := by decide +kernel
theorem dX8_misses_16 : decode cX8_misses 16 = .ok (.ireturn, 1) := by decide +kernel
theorem dX8_misses_8 : decode cX8_misses 8 = .ok (.iload_n 2, 1) := by decide +kernel
set_option maxRecDepth 20000 in
theorem ggX8_misses_X8_isPerson : GoodIn wsX8_misses wsX8_isPerson := goodIn_r _ [12] (by decide +kernel) (by decide +kernel)
set_option maxRecDepth 20000 in
theorem gX8_misses_X8_isPerson : GoodIn wsX8_misses (va_wsS RX8 100 yX8_isPerson wsX8_isPerson) := goodIn_app (goodIn_of _ (by decide +kernel)) ggX8_misses_X8_isPerson
theorem dX8_misses_9 : decode cX8_misses 9 = .ok (.invokestatic 100, 3) := by decide +kernel
theorem dX8_misses_12 : decode cX8_misses 12 = .ok (.ifCond .ne 5, 3) := by decide +kernel
theorem dX8_misses_17 : decode cX8_misses 17 = .ok (.iconst 0, 1) := by decide +kernel
theorem dX8_misses_18 : decode cX8_misses 18 = .ok (.istore_n 3, 1) := by decide +kernel
theorem dX8_misses_19 : decode cX8_misses 19 = .ok (.iconst 0, 1) := by decide +kernel
theorem dX8_misses_20 : decode cX8_misses 20 = .ok (.istore 4, 2) := by decide +kernel
theorem dX8_misses_22 : decode cX8_misses 22 = .ok (.iload 4, 2) := by decide +kernel
theorem dX8_misses_24 : decode cX8_misses 24 = .ok (.aload_n 0, 1) := by decide +kernel
theorem dX8_misses_25 : decode cX8_misses 25 = .ok (.getfield 148, 3) := by decide +kernel
theorem dX8_misses_28 : decode cX8_misses 28 = .ok (.if_icmp .ge 52, 3) := by decide +kernel
theorem dX8_misses_80 : decode cX8_misses 80 = .ok (.iload_n 3, 1) := by decide +kernel
theorem dX8_misses_81 : decode cX8_misses 81 = .ok (.ireturn, 1) := by decide +kernel
theorem dX8_misses_31 : decode cX8_misses 31 = .ok (.aload_n 0, 1) := by decide +kernel
theorem dX8_misses_32 : decode cX8_misses 32 = .ok (.iload 4, 2) := by decide +kernel
set_option maxRecDepth 20000 in
theorem ggX8_misses_X8_traitAt : GoodIn wsX8_misses wsX8_traitAt := goodIn_r _ [16, 1, 17, 37, 38, 39, 40, 41, 42, 43, 44, 45, 46, 47, 48, 49, 50, 51, 52, 53] (by decide +kernel) (by decide +kernel)
set_option maxRecDepth 20000 in
theorem gX8_misses_X8_traitAt : GoodIn wsX8_misses (wsV RX8 130 RX8 yX8_traitAt wsX8_traitAt) := goodIn_app (goodIn_of _ (by decide +kernel)) ggX8_misses_X8_traitAt
theorem dX8_misses_34 : decode cX8_misses 34 = .ok (.invokevirtual 130, 3) := by decide +kernel
theorem dX8_misses_37 : decode cX8_misses 37 = .ok (.astore 5, 2) := by decide +kernel
theorem dX8_misses_39 : decode cX8_misses 39 = .ok (.aload 5, 2) := by decide +kernel
theorem dX8_misses_41 : decode cX8_misses 41 = .ok (.ifnull 33, 3) := by decide +kernel
theorem dX8_misses_44 : decode cX8_misses 44 = .ok (.aload_n 0, 1) := by decide +kernel
theorem dX8_misses_45 : decode cX8_misses 45 = .ok (.getfield 65, 3) := by decide +kernel
theorem dX8_misses_48 : decode cX8_misses 48 = .ok (.iload_n 1, 1) := by decide +kernel
theorem dX8_misses_49 : decode cX8_misses 49 = .ok (.iaload, 1) := by decide +kernel
theorem dX8_misses_50 : decode cX8_misses 50 = .ok (.iload 4, 2) := by decide +kernel
set_option maxRecDepth 20000 in
theorem ggX8_misses_X8_hasBit : GoodIn wsX8_misses wsX8_hasBit := goodIn_r _ [20] (by decide +kernel) (by decide +kernel)
set_option maxRecDepth 20000 in
theorem gX8_misses_X8_hasBit : GoodIn wsX8_misses (va_wsS RX8 256 yX8_hasBit wsX8_hasBit) := goodIn_app (goodIn_of _ (by decide +kernel)) ggX8_misses_X8_hasBit
theorem dX8_misses_52 : decode cX8_misses 52 = .ok (.invokestatic 256, 3) := by decide +kernel
theorem dX8_misses_55 : decode cX8_misses 55 = .ok (.ifCond .eq 19, 3) := by decide +kernel
theorem dX8_misses_74 : decode cX8_misses 74 = .ok (.iinc 4 1, 3) := by decide +kernel
theorem dX8_misses_77 : decode cX8_misses 77 = .ok (.goto (-55), 3) := by decide +kernel
theorem dX8_misses_58 : decode cX8_misses 58 = .ok (.aload 5, 2) := by decide +kernel
theorem dX8_misses_60 : decode cX8_misses 60 = .ok (.iload_n 2, 1) := by decide +kernel
theorem dX8_misses_61 : decode cX8_misses 61 = .ok (.aload_n 0, 1) := by decide +kernel
theorem dX8_misses_62 : decode cX8_misses 62 = .ok (.getfield 83, 3) := by decide +kernel
set_option maxRecDepth 20000 in
theorem ggX8_misses_X6_isMissing : GoodIn wsX8_misses wsX6_isMissing := goodIn_r _ [24, 25, 26, 27, 28, 29, 22, 30, 31, 32, 33, 34, 35, 36, 54, 55, 56, 57, 58, 59, 60, 61] (by decide +kernel) (by decide +kernel)
set_option maxRecDepth 20000 in
theorem gX8_misses_X6_isMissing_n259 : GoodIn wsX8_misses (wsX6_isMissing) := ggX8_misses_X6_isMissing
theorem dX8_misses_65 : decode cX8_misses 65 = .ok (.invokevirtual 259, 3) := by decide +kernel
theorem dX8_misses_68 : decode cX8_misses 68 = .ok (.ifCond .eq 6, 3) := by decide +kernel
theorem dX8_misses_71 : decode cX8_misses 71 = .ok (.iinc 3 1, 3) := by decide +kernel
theorem dX8_model_0 : decode cX8_model 0 = .ok (.iload_n 1, 1) := by decide +kernel
theorem dX8_model_1 : decode cX8_model 1 = .ok (.aload_n 0, 1) := by decide +kernel
theorem dX8_model_2 : decode cX8_model 2 = .ok (.getfield 148, 3) := by decide +kernel
theorem dX8_model_5 : decode cX8_model 5 = .ok (.iushr, 1) := by decide +kernel
theorem dX8_model_6 : decode cX8_model 6 = .ok (.ifCond .eq 9, 3) := by decide +kernel
theorem dX8_model_15 : decode cX8_model 15 = .ok (.aload_n 0, 1) := by decide +kernel
theorem dX8_model_16 : decode cX8_model 16 = .ok (.getfield 250, 3) := by decide +kernel
theorem dX8_model_19 : decode cX8_model 19 = .ok (.bipush 10, 2) := by decide +kernel
theorem dX8_model_21 : decode cX8_model 21 = .ok (.if_icmp .lt 10, 3) := by decide +kernel
theorem dX8_model_31 : decode cX8_model 31 = .ok (.aload_n 0, 1) := by decide +kernel
theorem dX8_model_32 : decode cX8_model 32 = .ok (.getfield 65, 3) := by decide +kernel
theorem dX8_model_35 : decode cX8_model 35 = .ok (.aload_n 0, 1) := by decide +kernel
theorem dX8_model_36 : decode cX8_model 36 = .ok (.getfield 250, 3) := by decide +kernel
theorem dX8_model_39 : decode cX8_model 39 = .ok (.aload_n 0, 1) := by decide +kernel
theorem dX8_model_40 : decode cX8_model 40 = .ok (.iload_n 1, 1) := by decide +kernel
set_option maxRecDepth 20000 in
theorem ggX8_model_X8_needsOf : GoodIn wsX8_model wsX8_needsOf := goodIn_r _ [17, 1, 18, 19, 20, 7, 21, 22, 23, 24, 25, 26, 27, 28, 29, 30, 31, 32, 33, 34, 35, 36, 37, 38, 39, 40, 41, 42, 43, 44, 45, 46, 47, 48, 49, 50] (by decide +kernel) (by decide +kernel)
set_option maxRecDepth 20000 in
theorem gX8_model_X8_needsOf : GoodIn wsX8_model (wsV RX8 169 RX8 yX8_needsOf wsX8_needsOf) := goodIn_app (goodIn_of _ (by decide +kernel)) ggX8_model_X8_needsOf
theorem dX8_model_41 : decode cX8_model 41 = .ok (.invokevirtual 169, 3) := by decide +kernel
theorem dX8_model_44 : decode cX8_model 44 = .ok (.iastore, 1) := by decide +kernel
theorem dX8_model_45 : decode cX8_model 45 = .ok (.aload_n 0, 1) := by decide +kernel
theorem dX8_model_46 : decode cX8_model 46 = .ok (.dup, 1) := by decide +kernel
theorem dX8_model_47 : decode cX8_model 47 = .ok (.getfield 250, 3) := by decide +kernel
theorem dX8_model_50 : decode cX8_model 50 = .ok (.iconst 1, 1) := by decide +kernel
theorem dX8_model_51 : decode cX8_model 51 = .ok (.iadd, 1) := by decide +kernel
theorem dX8_model_52 : decode cX8_model 52 = .ok (.putfield 250, 3) := by decide +kernel
theorem dX8_model_55 : decode cX8_model 55 = .ok (.aload_n 0, 1) := by decide +kernel
theorem dX8_model_56 : decode cX8_model 56 = .ok (.aload_n 0, 1) := by decide +kernel
theorem dX8_model_57 : decode cX8_model 57 = .ok (.getfield 250, 3) := by decide +kernel
theorem dX8_model_60 : decode cX8_model 60 = .ok (.iconst 1, 1) := by decide +kernel
theorem dX8_model_61 : decode cX8_model 61 = .ok (.isub, 1) := by decide +kernel
set_option maxRecDepth 20000 in
theorem ggX8_model_X8_settle : GoodIn wsX8_model wsX8_settle := goodIn_r _ [8, 9, 10, 11, 12, 13, 26, 27, 28, 29, 30, 31, 32, 33, 34, 35, 36, 37, 38, 39, 40, 41, 42] (by decide +kernel) (by decide +kernel)
set_option maxRecDepth 20000 in
theorem gX8_model_X8_settle : GoodIn wsX8_model (wsV RX8 86 RX8 yX8_settle wsX8_settle) := goodIn_app (goodIn_of _ (by decide +kernel)) ggX8_model_X8_settle
theorem dX8_model_62 : decode cX8_model 62 = .ok (.invokevirtual 86, 3) := by decide +kernel
theorem dX8_model_65 : decode cX8_model 65 = .ok (.ireturn, 1) := by decide +kernel
theorem dX8_model_24 : decode cX8_model 24 = .ok (.aload_n 0, 1) := by decide +kernel
theorem dX8_model_25 : decode cX8_model 25 = .ok (.bipush (-5), 2) := by decide +kernel
theorem dX8_model_27 : decode cX8_model 27 = .ok (.invokevirtual 86, 3) := by decide +kernel
theorem dX8_model_30 : decode cX8_model 30 = .ok (.ireturn, 1) := by decide +kernel
theorem dX8_model_9 : decode cX8_model 9 = .ok (.aload_n 0, 1) := by decide +kernel
theorem dX8_model_10 : decode cX8_model 10 = .ok (.iconst (-1), 1) := by decide +kernel
theorem dX8_model_11 : decode cX8_model 11 = .ok (.invokevirtual 86, 3) := by decide +kernel
theorem dX8_model_14 : decode cX8_model 14 = .ok (.ireturn, 1) := by decide +kernel
set_option maxHeartbeats 8000000 in
set_option maxRecDepth 100000 in
theorem k_X8_kept (l : Launch) (dC : Nat → ClassId) (dI : Nat → Nat → Nat) (cA : Nat → ClassId) (sz : Nat) (ax : Nat → Nat) (xNow : Int32) (xEr : Int32) (xTr : Int32) (xMo : Int32) (xFa : Int32) (xRe : Int32) (gTr : Nat → Option Nat) (L : List Nat) (pf : Nat → va_E) (tt : Int32) (pp : Int32) (nd : Nat → Int32) (sl : Nat → Int32) (i_xNow : 0 ≤ xNow.toInt ∧ xNow.toInt ≤ 100000) (i_xTr : 0 ≤ xTr.toInt ∧ xTr.toInt ≤ 20) (i_xMo : 0 ≤ xMo.toInt ∧ xMo.toInt ≤ 10) (hTP : TP cA xTr gTr L pf nd sl) : Met l yX8_kept wsX8_kept ({ frames := 1, cells := 0, slots := 0, locals := 21 }) (va_Pc [.ref (ax 0), .int tt, .int pp] (fun U => U.heap.size = sz ∧ va_P (dC, dI) vwCl (([((ax 0), .inr (8, [.ref (ax 1), .ref (ax 7), .ref (ax 10), .ref (ax 11), .ref (ax 13), .ref (ax 15), .ref (ax 16), .ref (ax 21), .ref (ax 26), .ref (ax 27), .ref (ax 28), .int xNow, .int xEr, .int xTr, .int xMo, .int xFa, .int xRe])), ((ax 15), .inl (cA 5, 20, .inr (.inr (.inr (.inr gTr)))))] : va_W) ++ va_pl L pf) U.heap ∧ va_K (dC, dI) vwCl (tyL cA) U ∧ va_D (fun _ => True) (([((ax 0), .inr (8, [.ref (ax 1), .ref (ax 7), .ref (ax 10), .ref (ax 11), .ref (ax 13), .ref (ax 15), .ref (ax 16), .ref (ax 21), .ref (ax 26), .ref (ax 27), .ref (ax 28), .int xNow, .int xEr, .int xTr, .int xMo, .int xFa, .int xRe])), ((ax 15), .inl (cA 5, 20, .inr (.inr (.inr (.inr gTr)))))] : va_W) ++ va_pl L pf) ∧ nw_ok U)) (va_Ql (fun (r : Int64) (_ : Unit) => True) (fun (_ : Unit) (t : State) => va_P (dC, dI) vwCl (([((ax 0), .inr (8, [.ref (ax 1), .ref (ax 7), .ref (ax 10), .ref (ax 11), .ref (ax 13), .ref (ax 15), .ref (ax 16), .ref (ax 21), .ref (ax 26), .ref (ax 27), .ref (ax 28), .int xNow, .int xEr, .int xTr, .int xMo, .int xFa, .int xRe])), ((ax 15), .inl (cA 5, 20, .inr (.inr (.inr (.inr gTr)))))] : va_W) ++ va_pl L pf) t.heap ∧ va_D (va_A (([((ax 0), .inr (8, [.ref (ax 1), .ref (ax 7), .ref (ax 10), .ref (ax 11), .ref (ax 13), .ref (ax 15), .ref (ax 16), .ref (ax 21), .ref (ax 26), .ref (ax 27), .ref (ax 28), .int xNow, .int xEr, .int xTr, .int xMo, .int xFa, .int xRe])), ((ax 15), .inl (cA 5, 20, .inr (.inr (.inr (.inr gTr)))))] : va_W) ++ va_pl L pf) sz) (([((ax 0), .inr (8, [.ref (ax 1), .ref (ax 7), .ref (ax 10), .ref (ax 11), .ref (ax 13), .ref (ax 15), .ref (ax 16), .ref (ax 21), .ref (ax 26), .ref (ax 27), .ref (ax 28), .int xNow, .int xEr, .int xTr, .int xMo, .int xFa, .int xRe])), ((ax 15), .inl (cA 5, 20, .inr (.inr (.inr (.inr gTr)))))] : va_W) ++ va_pl L pf)) (va_A (([((ax 0), .inr (8, [.ref (ax 1), .ref (ax 7), .ref (ax 10), .ref (ax 11), .ref (ax 13), .ref (ax 15), .ref (ax 16), .ref (ax 21), .ref (ax 26), .ref (ax 27), .ref (ax 28), .int xNow, .int xEr, .int xTr, .int xMo, .int xFa, .int xRe])), ((ax 15), .inl (cA 5, 20, .inr (.inr (.inr (.inr gTr)))))] : va_W) ++ va_pl L pf) sz)) 0 0 (va_A (([((ax 0), .inr (8, [.ref (ax 1), .ref (ax 7), .ref (ax 10), .ref (ax 11), .ref (ax 13), .ref (ax 15), .ref (ax 16), .ref (ax 21), .ref (ax 26), .ref (ax 27), .ref (ax 28), .int xNow, .int xEr, .int xTr, .int xMo, .int xFa, .int xRe])), ((ax 15), .inl (cA 5, 20, .inr (.inr (.inr (.inr gTr)))))] : va_W) ++ va_pl L pf) sz) := by
  refine Met.ofW (cc := cX8_kept) (maxL := 4) (ret := (some .long)) (by decide) rfl ?_
  intro p e s m args below meth c s₁ B hml hv
  obtain ⟨rfl, hsz, hP, hK, hD0, hN⟩ := hv
  have hx := B.exec
  have hb := B.bytes
  have hr := B.returns
  have hts := atoms_spec (ws := wsX8_kept) B.pre
  have hown : s.vm.findClass RX8 = some m.cls := findClass_of_methodNamed B.named
  have hlocks := B.notSynchronized
  subst hsz
  have hD := hD0.self (sz := s.heap.size)
  generalize hAe : va_A (([((ax 0), .inr (8, [.ref (ax 1), .ref (ax 7), .ref (ax 10), .ref (ax 11), .ref (ax 13), .ref (ax 15), .ref (ax 16), .ref (ax 21), .ref (ax 26), .ref (ax 27), .ref (ax 28), .int xNow, .int xEr, .int xTr, .int xMo, .int xFa, .int xRe])), ((ax 15), .inl (cA 5, 20, .inr (.inr (.inr (.inr gTr)))))] : va_W) ++ va_pl L pf) s.heap.size = A at hD ⊢
  have hA : ∀ q : Nat, s.heap.size ≤ q → A q := fun q h => by rw [← hAe]; exact Or.inr h
  have hS : va_S A s.heap s.heap [] := va_S.rf
  have hIX6 : ∀ w ∈ u_ws RX6 TX6 8, w ∈ wsX8_kept := by decide +kernel
  have hl := lv_entry ([.ref (ax 0), .int tt, .int pp]) (n := 4) (Nat.le_of_ble_eq_true rfl)
  rw [lg_entry_eq]
  generalize (lg_sl ([.ref (ax 0), .int tt, .int pp]) ++ List.replicate (4 - (lg_sl ([.ref (ax 0), .int tt, .int pp])).length) Slot.unset).toArray = ls at hl ⊢
  have hl : lv_has ls 4 [(0, .ref (ax 0)), (1, .int tt), (2, .int pp)] := hl
  generalize hQe : MQ below _ _ _ _ _ _ = QQ
  refine lv_aload_n hx hb dX8_kept_0 rfl (lv_at hl 0 rfl) ?_
  refine lv_iload_n hx hb dX8_kept_1 rfl (lv_at hl 1 rfl) ?_
  obtain ⟨hPc, hDc, hFc, hCc⟩ := va_pre (ws' := [((ax 0), .inr (8, [.ref (ax 1), .ref (ax 7), .ref (ax 10), .ref (ax 11), .ref (ax 13), .ref (ax 15), .ref (ax 16), .ref (ax 21), .ref (ax 26), .ref (ax 27), .ref (ax 28), .int xNow, .int xEr, .int xTr, .int xMo, .int xFa, .int xRe])), ((ax 15), .inl (cA 5, 20, .inr (.inr (.inr (.inr gTr)))))]) hP hD hS hA [0, 1] (by decide) rfl
  refine va_callq (va_runV (As := [.int tt]) (rest := []) ⟨hx, hb, hml, hown, hts⟩ (k_X8_traitAt l dC dI cA s.heap.size ax xNow xEr xTr xMo xFa xRe gTr tt i_xNow i_xTr i_xMo) (cwV 1 hts gX8_kept_X8_traitAt rfl rfl rfl (by decide +kernel) ⟨Nat.le_of_ble_eq_true rfl, Nat.le_of_ble_eq_true rfl⟩) ⟨fun a U g mk q => by obtain ⟨q0, q1, qP, qK, qD, qN⟩ := q; exact ⟨q0, q1, qP, va_K.moved (u := U) (U := U.calling g mk a) (Vm.Alike.refl U.vm) qK, qD, qN.same rfl⟩, va_recv hK hPc (ci := 8) (q0 := 0) rfl rfl, fun U hU hW => ⟨rfl, by rw [hU], by rw [hU]; exact hPc, va_K.moved hW.alike hK, hDc.weaken (fun _ _ _ _ => trivial), hN.warm hW⟩⟩ rfl rfl hl.1 rfl (lv_room (Nat.le_of_ble_eq_true rfl)) dX8_kept_2 ⟨Nat.le_of_ble_eq_true rfl, Nat.le_of_ble_eq_true rfl⟩) hS (fun q _ h => hFc q h) hFc (fun r_1 u_2 t H1 locs ht hvm hw_3 hB hz1 hk1 hS => ?_)
  try dsimp only at hw_3 hB
  have po_4 := hw_3
  clear hw_3
  obtain ⟨hP1, hD1⟩ := hB
  rw [ht] at hP1
  obtain ⟨hP, hD⟩ := va_joinQ (wr := []) (w1 := [((ax 0), .inr (8, [.ref (ax 1), .ref (ax 7), .ref (ax 10), .ref (ax 11), .ref (ax 13), .ref (ax 15), .ref (ax 16), .ref (ax 21), .ref (ax 26), .ref (ax 27), .ref (ax 28), .int xNow, .int xEr, .int xTr, .int xMo, .int xFa, .int xRe])), ((ax 15), .inl (cA 5, 20, .inr (.inr (.inr (.inr gTr)))))]) hP hD [0, 1] [] rfl rfl (by decide) (by decide) hk1 hFc hP1 hD1
  clear hz1
  generalize H1 = H at hP hS ⊢
  replace hP : va_P (dC, dI) vwCl (([((ax 0), .inr (8, [.ref (ax 1), .ref (ax 7), .ref (ax 10), .ref (ax 11), .ref (ax 13), .ref (ax 15), .ref (ax 16), .ref (ax 21), .ref (ax 26), .ref (ax 27), .ref (ax 28), .int xNow, .int xEr, .int xTr, .int xMo, .int xFa, .int xRe])), ((ax 15), .inl (cA 5, 20, .inr (.inr (.inr (.inr gTr)))))] : va_W) ++ va_pl L pf) H := hP
  replace hD : va_D A (([((ax 0), .inr (8, [.ref (ax 1), .ref (ax 7), .ref (ax 10), .ref (ax 11), .ref (ax 13), .ref (ax 15), .ref (ax 16), .ref (ax 21), .ref (ax 26), .ref (ax 27), .ref (ax 28), .int xNow, .int xEr, .int xTr, .int xMo, .int xFa, .int xRe])), ((ax 15), .inl (cA 5, 20, .inr (.inr (.inr (.inr gTr)))))] : va_W) ++ va_pl L pf) := hD
  by_cases hT_5 : 0 ≤ tt.toInt ∧ tt.toInt < xTr.toInt
  · have hrq := po_4.1 hT_5
    obtain ⟨ndv_5, hnd_5⟩ : ∃ z : Int32, z = nd tt.toNatClampNeg := ⟨_, rfl⟩
    obtain ⟨slv_5, hsl_5⟩ : ∃ z : Int32, z = sl tt.toNatClampNeg := ⟨_, rfl⟩
    obtain ⟨t_5, hte_5, hok_5⟩ := TP_at (i := tt) hTP (by omega) (by omega)
    rw [← hnd_5, ← hsl_5] at hok_5
    have hok9 := hok_5
    obtain ⟨htm_5, s_5, v_5, m_5, lf_5, lt_5, he_5, htf_5, hso_5, hvm_5, ⟨kv_5, hvf_5⟩, hmm_5, km_5, hmf_5⟩ := hok9
    rw [hte_5] at hrq
    obtain rfl : r_1 = some t_5 := hrq
    refine W.eq (g2 := F0 m 5 ls [.ref t_5]) rfl ?_
    refine lv_astore_n (lv' := [(3, .ref t_5), (0, .ref (ax 0)), (1, .int tt), (2, .int pp)]) hx hb dX8_kept_5 rfl hl (by decide) rfl (fun ls hl => ?_)
    refine lv_aload_n hx hb dX8_kept_6 rfl (lv_at hl 0 rfl) ?_
    refine lv_ifnull hx hb dX8_kept_7 ?_
    refine lv_iload_n hx hb dX8_kept_10 rfl (lv_at hl 3 rfl) ?_
    obtain ⟨hPc, hDc, hFc, hCc⟩ := va_pre (ws' := []) hP hD hS hA [] (by decide) rfl
    refine va_calli (va_runS (As := [.int pp]) (rest := []) ⟨hx, hb, hml, hown, hts⟩ (k_X8_isPerson l dC dI cA H.size pp ) (va_cwS 1 hts gX8_kept_X8_isPerson rfl rfl rfl (by decide +kernel) ⟨Nat.le_of_ble_eq_true rfl, Nat.le_of_ble_eq_true rfl⟩) ⟨fun a U g mk q => by obtain ⟨q0, q1, qP, qK, qD, qN⟩ := q; exact ⟨q0, q1, qP, va_K.moved (u := U) (U := U.calling g mk a) (Vm.Alike.refl U.vm) qK, qD, qN.same rfl⟩, fun U hU hW => ⟨rfl, by rw [hU], by rw [hU]; exact hPc, va_K.moved hW.alike hK, hDc.weaken (fun _ _ _ _ => trivial), hN.warm hW⟩⟩ rfl rfl hl.1 rfl (lv_room (Nat.le_of_ble_eq_true rfl)) dX8_kept_11 ⟨Nat.le_of_ble_eq_true rfl, Nat.le_of_ble_eq_true rfl⟩) hS (fun q _ h => hFc q h) hFc (fun r_6 u_7 t H1 locs ht hvm hw_8 hB hz1 hk1 hS => ?_)
    try dsimp only at hw_8 hB
    have po_9 := hw_8
    clear hw_8
    obtain ⟨hP1, hD1⟩ := hB
    rw [ht] at hP1
    obtain ⟨hP, hD⟩ := va_joinQ (wr := [((ax 0), .inr (8, [.ref (ax 1), .ref (ax 7), .ref (ax 10), .ref (ax 11), .ref (ax 13), .ref (ax 15), .ref (ax 16), .ref (ax 21), .ref (ax 26), .ref (ax 27), .ref (ax 28), .int xNow, .int xEr, .int xTr, .int xMo, .int xFa, .int xRe])), ((ax 15), .inl (cA 5, 20, .inr (.inr (.inr (.inr gTr)))))]) (w1 := []) hP hD [] [0, 1] rfl rfl (by decide) (by decide) hk1 hFc hP1 hD1
    clear hz1
    generalize H1 = H at hP hS ⊢
    replace hP : va_P (dC, dI) vwCl (([((ax 0), .inr (8, [.ref (ax 1), .ref (ax 7), .ref (ax 10), .ref (ax 11), .ref (ax 13), .ref (ax 15), .ref (ax 16), .ref (ax 21), .ref (ax 26), .ref (ax 27), .ref (ax 28), .int xNow, .int xEr, .int xTr, .int xMo, .int xFa, .int xRe])), ((ax 15), .inl (cA 5, 20, .inr (.inr (.inr (.inr gTr)))))] : va_W) ++ va_pl L pf) H := hP
    replace hD : va_D A (([((ax 0), .inr (8, [.ref (ax 1), .ref (ax 7), .ref (ax 10), .ref (ax 11), .ref (ax 13), .ref (ax 15), .ref (ax 16), .ref (ax 21), .ref (ax 26), .ref (ax 27), .ref (ax 28), .int xNow, .int xEr, .int xTr, .int xMo, .int xFa, .int xRe])), ((ax 15), .inl (cA 5, 20, .inr (.inr (.inr (.inr gTr)))))] : va_W) ++ va_pl L pf) := hD
    refine lv_if_ne (tgt := 21) hx hb dX8_kept_14 (by decide) (fun c_10 => ?_) (fun c_10 => ?_)
    · have dc_10 : ¬ r_6.toInt = 0 := jI_ne c_10 rfl (by decide)
      refine lv_aload_n hx hb dX8_kept_21 rfl (lv_at hl 0 rfl) ?_
      obtain ⟨pk_11, hpk_11⟩ := va_pl_get (X := [((ax 0), .inr (8, [.ref (ax 1), .ref (ax 7), .ref (ax 10), .ref (ax 11), .ref (ax 13), .ref (ax 15), .ref (ax 16), .ref (ax 21), .ref (ax 26), .ref (ax 27), .ref (ax 28), .int xNow, .int xEr, .int xTr, .int xMo, .int xFa, .int xRe])), ((ax 15), .inl (cA 5, 20, .inr (.inr (.inr (.inr gTr)))))]) (f := pf) htm_5
      have gpk_11 := hpk_11
      rw [htf_5] at hpk_11
      refine va_getN (D := (dC, dI)) (ci := 6) (v := .ref v_5) (C := RX6) (T := TX6) (N := 8) hx hb hts hIX6 hown hK hP pk_11 hpk_11 rfl 2 (by decide) (va_Nw.use rfl (nw_at hN 24 rfl)) (fun _ h9 => h9) rfl dX8_kept_22 ?_
      refine lv_iload_n hx hb dX8_kept_25 rfl (lv_at hl 3 rfl) ?_
      obtain ⟨pk_12, hpk_12⟩ := va_pl_get (X := [((ax 0), .inr (8, [.ref (ax 1), .ref (ax 7), .ref (ax 10), .ref (ax 11), .ref (ax 13), .ref (ax 15), .ref (ax 16), .ref (ax 21), .ref (ax 26), .ref (ax 27), .ref (ax 28), .int xNow, .int xEr, .int xTr, .int xMo, .int xFa, .int xRe])), ((ax 15), .inl (cA 5, 20, .inr (.inr (.inr (.inr gTr)))))]) (f := pf) hvm_5
      have gpk_12 := hpk_12
      rw [hvf_5] at hpk_12
      have h_13 : vp_in pp 20 := (vp_in_iff.mpr ⟨by omega, by omega⟩)
      refine va_lald hx hb hK hP pk_12 1 hpk_12 rfl h_13 dX8_kept_26 ?_
      refine lv_topl (fun y_14 ey_14 => ?_)
      have hP9 := hP.part (cx := [((ax 0), .inr (8, [.ref (ax 1), .ref (ax 7), .ref (ax 10), .ref (ax 11), .ref (ax 13), .ref (ax 15), .ref (ax 16), .ref (ax 21), .ref (ax 26), .ref (ax 27), .ref (ax 28), .int xNow, .int xEr, .int xTr, .int xMo, .int xFa, .int xRe])), ((ax 15), .inl (cA 5, 20, .inr (.inr (.inr (.inr gTr)))))]) [0, 1] rfl
      have hD9 := hD.part (cx := [((ax 0), .inr (8, [.ref (ax 1), .ref (ax 7), .ref (ax 10), .ref (ax 11), .ref (ax 13), .ref (ax 15), .ref (ax 16), .ref (ax 21), .ref (ax 26), .ref (ax 27), .ref (ax 28), .int xNow, .int xEr, .int xTr, .int xMo, .int xFa, .int xRe])), ((ax 15), .inl (cA 5, 20, .inr (.inr (.inr (.inr gTr)))))]) [0, 1] (by decide) rfl
      subst hQe
      have hans : (y_14 : Int64).toInt = y_14.toInt := rfl
      exact W.lret (v := y_14) hx hb hr (fun t ht hW => ⟨⟨y_14, (), rfl, trivial, by rw [ht]; exact hP9, hD9⟩, hS.F ht⟩) hS.2.2 dX8_kept_27
    · have dc_10 : r_6.toInt = 0 := jI_eq c_10 rfl (by decide)
      refine lv_ldc2 hx hb hown (hts (.constantLong RX8 175 (-9000000000000000000)) (by decide +kernel)) dX8_kept_17 ?_
      have hP9 := hP.part (cx := [((ax 0), .inr (8, [.ref (ax 1), .ref (ax 7), .ref (ax 10), .ref (ax 11), .ref (ax 13), .ref (ax 15), .ref (ax 16), .ref (ax 21), .ref (ax 26), .ref (ax 27), .ref (ax 28), .int xNow, .int xEr, .int xTr, .int xMo, .int xFa, .int xRe])), ((ax 15), .inl (cA 5, 20, .inr (.inr (.inr (.inr gTr)))))]) [0, 1] rfl
      have hD9 := hD.part (cx := [((ax 0), .inr (8, [.ref (ax 1), .ref (ax 7), .ref (ax 10), .ref (ax 11), .ref (ax 13), .ref (ax 15), .ref (ax 16), .ref (ax 21), .ref (ax 26), .ref (ax 27), .ref (ax 28), .int xNow, .int xEr, .int xTr, .int xMo, .int xFa, .int xRe])), ((ax 15), .inl (cA 5, 20, .inr (.inr (.inr (.inr gTr)))))]) [0, 1] (by decide) rfl
      subst hQe
      have hans : ((-9000000000000000000) : Int64).toInt = (-9000000000000000000) := (by decide)
      exact W.lret (v := (-9000000000000000000)) hx hb hr (fun t ht hW => ⟨⟨(-9000000000000000000), (), rfl, trivial, by rw [ht]; exact hP9, hD9⟩, hS.F ht⟩) hS.2.2 dX8_kept_20
  · have hrq := po_4.2 hT_5
    obtain rfl : r_1 = none := hrq
    refine W.eq (g2 := F0 m 5 ls [.null]) rfl ?_
    refine lv_astore_nN (lv' := [(3, .null), (0, .ref (ax 0)), (1, .int tt), (2, .int pp)]) hx hb dX8_kept_5 rfl hl (by decide) rfl (fun ls hl => ?_)
    refine lv_aload_nN hx hb dX8_kept_6 rfl (lv_at hl 0 rfl) ?_
    refine lv_ifnullN (tgt := 17) hx hb dX8_kept_7 (by decide) ?_
    refine lv_ldc2 hx hb hown (hts (.constantLong RX8 175 (-9000000000000000000)) (by decide +kernel)) dX8_kept_17 ?_
    have hP9 := hP.part (cx := [((ax 0), .inr (8, [.ref (ax 1), .ref (ax 7), .ref (ax 10), .ref (ax 11), .ref (ax 13), .ref (ax 15), .ref (ax 16), .ref (ax 21), .ref (ax 26), .ref (ax 27), .ref (ax 28), .int xNow, .int xEr, .int xTr, .int xMo, .int xFa, .int xRe])), ((ax 15), .inl (cA 5, 20, .inr (.inr (.inr (.inr gTr)))))]) [0, 1] rfl
    have hD9 := hD.part (cx := [((ax 0), .inr (8, [.ref (ax 1), .ref (ax 7), .ref (ax 10), .ref (ax 11), .ref (ax 13), .ref (ax 15), .ref (ax 16), .ref (ax 21), .ref (ax 26), .ref (ax 27), .ref (ax 28), .int xNow, .int xEr, .int xTr, .int xMo, .int xFa, .int xRe])), ((ax 15), .inl (cA 5, 20, .inr (.inr (.inr (.inr gTr)))))]) [0, 1] (by decide) rfl
    subst hQe
    have hans : ((-9000000000000000000) : Int64).toInt = (-9000000000000000000) := (by decide)
    exact W.lret (v := (-9000000000000000000)) hx hb hr (fun t ht hW => ⟨⟨(-9000000000000000000), (), rfl, trivial, by rw [ht]; exact hP9, hD9⟩, hS.F ht⟩) hS.2.2 dX8_kept_20

set_option maxHeartbeats 8000000 in
set_option maxRecDepth 100000 in
theorem k_X8_age (l : Launch) (dC : Nat → ClassId) (dI : Nat → Nat → Nat) (cA : Nat → ClassId) (sz : Nat) (ax : Nat → Nat) (xNow : Int32) (xEr : Int32) (xTr : Int32) (xMo : Int32) (xFa : Int32) (xRe : Int32) (gTr : Nat → Option Nat) (L : List Nat) (pf : Nat → va_E) (tt : Int32) (pp : Int32) (w : Int32) (nd : Nat → Int32) (sl : Nat → Int32) (i_xNow : 0 ≤ xNow.toInt ∧ xNow.toInt ≤ 100000) (i_xTr : 0 ≤ xTr.toInt ∧ xTr.toInt ≤ 20) (i_xMo : 0 ≤ xMo.toInt ∧ xMo.toInt ≤ 10) (hTP : TP cA xTr gTr L pf nd sl) : Met l yX8_age wsX8_age ({ frames := 1, cells := 0, slots := 0, locals := 22 }) (va_Pc [.ref (ax 0), .int tt, .int pp, .int w] (fun U => U.heap.size = sz ∧ va_P (dC, dI) vwCl (([((ax 0), .inr (8, [.ref (ax 1), .ref (ax 7), .ref (ax 10), .ref (ax 11), .ref (ax 13), .ref (ax 15), .ref (ax 16), .ref (ax 21), .ref (ax 26), .ref (ax 27), .ref (ax 28), .int xNow, .int xEr, .int xTr, .int xMo, .int xFa, .int xRe])), ((ax 15), .inl (cA 5, 20, .inr (.inr (.inr (.inr gTr)))))] : va_W) ++ va_pl L pf) U.heap ∧ va_K (dC, dI) vwCl (tyL cA) U ∧ va_D (fun _ => True) (([((ax 0), .inr (8, [.ref (ax 1), .ref (ax 7), .ref (ax 10), .ref (ax 11), .ref (ax 13), .ref (ax 15), .ref (ax 16), .ref (ax 21), .ref (ax 26), .ref (ax 27), .ref (ax 28), .int xNow, .int xEr, .int xTr, .int xMo, .int xFa, .int xRe])), ((ax 15), .inl (cA 5, 20, .inr (.inr (.inr (.inr gTr)))))] : va_W) ++ va_pl L pf) ∧ nw_ok U)) (va_Qi (fun (r : Int32) (_ : Unit) => True) (fun (_ : Unit) (t : State) => va_P (dC, dI) vwCl (([((ax 0), .inr (8, [.ref (ax 1), .ref (ax 7), .ref (ax 10), .ref (ax 11), .ref (ax 13), .ref (ax 15), .ref (ax 16), .ref (ax 21), .ref (ax 26), .ref (ax 27), .ref (ax 28), .int xNow, .int xEr, .int xTr, .int xMo, .int xFa, .int xRe])), ((ax 15), .inl (cA 5, 20, .inr (.inr (.inr (.inr gTr)))))] : va_W) ++ va_pl L pf) t.heap ∧ va_D (va_A (([((ax 0), .inr (8, [.ref (ax 1), .ref (ax 7), .ref (ax 10), .ref (ax 11), .ref (ax 13), .ref (ax 15), .ref (ax 16), .ref (ax 21), .ref (ax 26), .ref (ax 27), .ref (ax 28), .int xNow, .int xEr, .int xTr, .int xMo, .int xFa, .int xRe])), ((ax 15), .inl (cA 5, 20, .inr (.inr (.inr (.inr gTr)))))] : va_W) ++ va_pl L pf) sz) (([((ax 0), .inr (8, [.ref (ax 1), .ref (ax 7), .ref (ax 10), .ref (ax 11), .ref (ax 13), .ref (ax 15), .ref (ax 16), .ref (ax 21), .ref (ax 26), .ref (ax 27), .ref (ax 28), .int xNow, .int xEr, .int xTr, .int xMo, .int xFa, .int xRe])), ((ax 15), .inl (cA 5, 20, .inr (.inr (.inr (.inr gTr)))))] : va_W) ++ va_pl L pf)) (va_A (([((ax 0), .inr (8, [.ref (ax 1), .ref (ax 7), .ref (ax 10), .ref (ax 11), .ref (ax 13), .ref (ax 15), .ref (ax 16), .ref (ax 21), .ref (ax 26), .ref (ax 27), .ref (ax 28), .int xNow, .int xEr, .int xTr, .int xMo, .int xFa, .int xRe])), ((ax 15), .inl (cA 5, 20, .inr (.inr (.inr (.inr gTr)))))] : va_W) ++ va_pl L pf) sz)) 0 0 (va_A (([((ax 0), .inr (8, [.ref (ax 1), .ref (ax 7), .ref (ax 10), .ref (ax 11), .ref (ax 13), .ref (ax 15), .ref (ax 16), .ref (ax 21), .ref (ax 26), .ref (ax 27), .ref (ax 28), .int xNow, .int xEr, .int xTr, .int xMo, .int xFa, .int xRe])), ((ax 15), .inl (cA 5, 20, .inr (.inr (.inr (.inr gTr)))))] : va_W) ++ va_pl L pf) sz) := by
  refine Met.ofW (cc := cX8_age) (maxL := 5) (ret := (some .int)) (by decide) rfl ?_
  intro p e s m args below meth c s₁ B hml hv
  obtain ⟨rfl, hsz, hP, hK, hD0, hN⟩ := hv
  have hx := B.exec
  have hb := B.bytes
  have hr := B.returns
  have hts := atoms_spec (ws := wsX8_age) B.pre
  have hown : s.vm.findClass RX8 = some m.cls := findClass_of_methodNamed B.named
  have hlocks := B.notSynchronized
  subst hsz
  have hD := hD0.self (sz := s.heap.size)
  generalize hAe : va_A (([((ax 0), .inr (8, [.ref (ax 1), .ref (ax 7), .ref (ax 10), .ref (ax 11), .ref (ax 13), .ref (ax 15), .ref (ax 16), .ref (ax 21), .ref (ax 26), .ref (ax 27), .ref (ax 28), .int xNow, .int xEr, .int xTr, .int xMo, .int xFa, .int xRe])), ((ax 15), .inl (cA 5, 20, .inr (.inr (.inr (.inr gTr)))))] : va_W) ++ va_pl L pf) s.heap.size = A at hD ⊢
  have hA : ∀ q : Nat, s.heap.size ≤ q → A q := fun q h => by rw [← hAe]; exact Or.inr h
  have hS : va_S A s.heap s.heap [] := va_S.rf
  have hIX6 : ∀ w ∈ u_ws RX6 TX6 8, w ∈ wsX8_age := by decide +kernel
  have hIX8 : ∀ w ∈ u_ws RX8 TX8 17, w ∈ wsX8_age := by decide +kernel
  have hl := lv_entry ([.ref (ax 0), .int tt, .int pp, .int w]) (n := 5) (Nat.le_of_ble_eq_true rfl)
  rw [lg_entry_eq]
  generalize (lg_sl ([.ref (ax 0), .int tt, .int pp, .int w]) ++ List.replicate (5 - (lg_sl ([.ref (ax 0), .int tt, .int pp, .int w])).length) Slot.unset).toArray = ls at hl ⊢
  have hl : lv_has ls 5 [(0, .ref (ax 0)), (1, .int tt), (2, .int pp), (3, .int w)] := hl
  generalize hQe : MQ below _ _ _ _ _ _ = QQ
  refine lv_aload_n hx hb dX8_age_0 rfl (lv_at hl 0 rfl) ?_
  refine lv_iload_n hx hb dX8_age_1 rfl (lv_at hl 1 rfl) ?_
  obtain ⟨hPc, hDc, hFc, hCc⟩ := va_pre (ws' := [((ax 0), .inr (8, [.ref (ax 1), .ref (ax 7), .ref (ax 10), .ref (ax 11), .ref (ax 13), .ref (ax 15), .ref (ax 16), .ref (ax 21), .ref (ax 26), .ref (ax 27), .ref (ax 28), .int xNow, .int xEr, .int xTr, .int xMo, .int xFa, .int xRe])), ((ax 15), .inl (cA 5, 20, .inr (.inr (.inr (.inr gTr)))))]) hP hD hS hA [0, 1] (by decide) rfl
  refine va_callq (va_runV (As := [.int tt]) (rest := []) ⟨hx, hb, hml, hown, hts⟩ (k_X8_traitAt l dC dI cA s.heap.size ax xNow xEr xTr xMo xFa xRe gTr tt i_xNow i_xTr i_xMo) (cwV 1 hts gX8_age_X8_traitAt rfl rfl rfl (by decide +kernel) ⟨Nat.le_of_ble_eq_true rfl, Nat.le_of_ble_eq_true rfl⟩) ⟨fun a U g mk q => by obtain ⟨q0, q1, qP, qK, qD, qN⟩ := q; exact ⟨q0, q1, qP, va_K.moved (u := U) (U := U.calling g mk a) (Vm.Alike.refl U.vm) qK, qD, qN.same rfl⟩, va_recv hK hPc (ci := 8) (q0 := 0) rfl rfl, fun U hU hW => ⟨rfl, by rw [hU], by rw [hU]; exact hPc, va_K.moved hW.alike hK, hDc.weaken (fun _ _ _ _ => trivial), hN.warm hW⟩⟩ rfl rfl hl.1 rfl (lv_room (Nat.le_of_ble_eq_true rfl)) dX8_age_2 ⟨Nat.le_of_ble_eq_true rfl, Nat.le_of_ble_eq_true rfl⟩) hS (fun q _ h => hFc q h) hFc (fun r_1 u_2 t H1 locs ht hvm hw_3 hB hz1 hk1 hS => ?_)
  try dsimp only at hw_3 hB
  have po_4 := hw_3
  clear hw_3
  obtain ⟨hP1, hD1⟩ := hB
  rw [ht] at hP1
  obtain ⟨hP, hD⟩ := va_joinQ (wr := []) (w1 := [((ax 0), .inr (8, [.ref (ax 1), .ref (ax 7), .ref (ax 10), .ref (ax 11), .ref (ax 13), .ref (ax 15), .ref (ax 16), .ref (ax 21), .ref (ax 26), .ref (ax 27), .ref (ax 28), .int xNow, .int xEr, .int xTr, .int xMo, .int xFa, .int xRe])), ((ax 15), .inl (cA 5, 20, .inr (.inr (.inr (.inr gTr)))))]) hP hD [0, 1] [] rfl rfl (by decide) (by decide) hk1 hFc hP1 hD1
  clear hz1
  generalize H1 = H at hP hS ⊢
  replace hP : va_P (dC, dI) vwCl (([((ax 0), .inr (8, [.ref (ax 1), .ref (ax 7), .ref (ax 10), .ref (ax 11), .ref (ax 13), .ref (ax 15), .ref (ax 16), .ref (ax 21), .ref (ax 26), .ref (ax 27), .ref (ax 28), .int xNow, .int xEr, .int xTr, .int xMo, .int xFa, .int xRe])), ((ax 15), .inl (cA 5, 20, .inr (.inr (.inr (.inr gTr)))))] : va_W) ++ va_pl L pf) H := hP
  replace hD : va_D A (([((ax 0), .inr (8, [.ref (ax 1), .ref (ax 7), .ref (ax 10), .ref (ax 11), .ref (ax 13), .ref (ax 15), .ref (ax 16), .ref (ax 21), .ref (ax 26), .ref (ax 27), .ref (ax 28), .int xNow, .int xEr, .int xTr, .int xMo, .int xFa, .int xRe])), ((ax 15), .inl (cA 5, 20, .inr (.inr (.inr (.inr gTr)))))] : va_W) ++ va_pl L pf) := hD
  by_cases hT_5 : 0 ≤ tt.toInt ∧ tt.toInt < xTr.toInt
  · have hrq := po_4.1 hT_5
    obtain ⟨ndv_5, hnd_5⟩ : ∃ z : Int32, z = nd tt.toNatClampNeg := ⟨_, rfl⟩
    obtain ⟨slv_5, hsl_5⟩ : ∃ z : Int32, z = sl tt.toNatClampNeg := ⟨_, rfl⟩
    obtain ⟨t_5, hte_5, hok_5⟩ := TP_at (i := tt) hTP (by omega) (by omega)
    rw [← hnd_5, ← hsl_5] at hok_5
    have hok9 := hok_5
    obtain ⟨htm_5, s_5, v_5, m_5, lf_5, lt_5, he_5, htf_5, hso_5, hvm_5, ⟨kv_5, hvf_5⟩, hmm_5, km_5, hmf_5⟩ := hok9
    rw [hte_5] at hrq
    obtain rfl : r_1 = some t_5 := hrq
    refine W.eq (g2 := F0 m 5 ls [.ref t_5]) rfl ?_
    refine lv_astore (lv' := [(4, .ref t_5), (0, .ref (ax 0)), (1, .int tt), (2, .int pp), (3, .int w)]) hx hb dX8_age_5 hl (by decide) rfl (fun ls hl => ?_)
    refine lv_aload hx hb dX8_age_7 (lv_at hl 0 rfl) ?_
    refine lv_ifnull hx hb dX8_age_9 ?_
    refine lv_iload_n hx hb dX8_age_12 rfl (lv_at hl 3 rfl) ?_
    obtain ⟨hPc, hDc, hFc, hCc⟩ := va_pre (ws' := []) hP hD hS hA [] (by decide) rfl
    refine va_calli (va_runS (As := [.int pp]) (rest := []) ⟨hx, hb, hml, hown, hts⟩ (k_X8_isPerson l dC dI cA H.size pp ) (va_cwS 1 hts gX8_age_X8_isPerson rfl rfl rfl (by decide +kernel) ⟨Nat.le_of_ble_eq_true rfl, Nat.le_of_ble_eq_true rfl⟩) ⟨fun a U g mk q => by obtain ⟨q0, q1, qP, qK, qD, qN⟩ := q; exact ⟨q0, q1, qP, va_K.moved (u := U) (U := U.calling g mk a) (Vm.Alike.refl U.vm) qK, qD, qN.same rfl⟩, fun U hU hW => ⟨rfl, by rw [hU], by rw [hU]; exact hPc, va_K.moved hW.alike hK, hDc.weaken (fun _ _ _ _ => trivial), hN.warm hW⟩⟩ rfl rfl hl.1 rfl (lv_room (Nat.le_of_ble_eq_true rfl)) dX8_age_13 ⟨Nat.le_of_ble_eq_true rfl, Nat.le_of_ble_eq_true rfl⟩) hS (fun q _ h => hFc q h) hFc (fun r_6 u_7 t H1 locs ht hvm hw_8 hB hz1 hk1 hS => ?_)
    try dsimp only at hw_8 hB
    have po_9 := hw_8
    clear hw_8
    obtain ⟨hP1, hD1⟩ := hB
    rw [ht] at hP1
    obtain ⟨hP, hD⟩ := va_joinQ (wr := [((ax 0), .inr (8, [.ref (ax 1), .ref (ax 7), .ref (ax 10), .ref (ax 11), .ref (ax 13), .ref (ax 15), .ref (ax 16), .ref (ax 21), .ref (ax 26), .ref (ax 27), .ref (ax 28), .int xNow, .int xEr, .int xTr, .int xMo, .int xFa, .int xRe])), ((ax 15), .inl (cA 5, 20, .inr (.inr (.inr (.inr gTr)))))]) (w1 := []) hP hD [] [0, 1] rfl rfl (by decide) (by decide) hk1 hFc hP1 hD1
    clear hz1
    generalize H1 = H at hP hS ⊢
    replace hP : va_P (dC, dI) vwCl (([((ax 0), .inr (8, [.ref (ax 1), .ref (ax 7), .ref (ax 10), .ref (ax 11), .ref (ax 13), .ref (ax 15), .ref (ax 16), .ref (ax 21), .ref (ax 26), .ref (ax 27), .ref (ax 28), .int xNow, .int xEr, .int xTr, .int xMo, .int xFa, .int xRe])), ((ax 15), .inl (cA 5, 20, .inr (.inr (.inr (.inr gTr)))))] : va_W) ++ va_pl L pf) H := hP
    replace hD : va_D A (([((ax 0), .inr (8, [.ref (ax 1), .ref (ax 7), .ref (ax 10), .ref (ax 11), .ref (ax 13), .ref (ax 15), .ref (ax 16), .ref (ax 21), .ref (ax 26), .ref (ax 27), .ref (ax 28), .int xNow, .int xEr, .int xTr, .int xMo, .int xFa, .int xRe])), ((ax 15), .inl (cA 5, 20, .inr (.inr (.inr (.inr gTr)))))] : va_W) ++ va_pl L pf) := hD
    refine lv_if_eq (tgt := 28) hx hb dX8_age_16 (by decide) (fun c_10 => ?_) (fun c_10 => ?_)
    · have dc_10 : r_6.toInt = 0 := jI_eq c_10 rfl (by decide)
      refine lv_iconst (v := (-1)) hx hb dX8_age_28 (by decide) ?_
      have hP9 := hP.part (cx := [((ax 0), .inr (8, [.ref (ax 1), .ref (ax 7), .ref (ax 10), .ref (ax 11), .ref (ax 13), .ref (ax 15), .ref (ax 16), .ref (ax 21), .ref (ax 26), .ref (ax 27), .ref (ax 28), .int xNow, .int xEr, .int xTr, .int xMo, .int xFa, .int xRe])), ((ax 15), .inl (cA 5, 20, .inr (.inr (.inr (.inr gTr)))))]) [0, 1] rfl
      have hD9 := hD.part (cx := [((ax 0), .inr (8, [.ref (ax 1), .ref (ax 7), .ref (ax 10), .ref (ax 11), .ref (ax 13), .ref (ax 15), .ref (ax 16), .ref (ax 21), .ref (ax 26), .ref (ax 27), .ref (ax 28), .int xNow, .int xEr, .int xTr, .int xMo, .int xFa, .int xRe])), ((ax 15), .inl (cA 5, 20, .inr (.inr (.inr (.inr gTr)))))]) [0, 1] (by decide) rfl
      subst hQe
      have hans : ((-1) : Int32).toInt = (-1) := (by decide)
      exact W.iret (v := (-1)) hx hb hr (fun t ht hW => ⟨⟨(-1), (), rfl, trivial, by rw [ht]; exact hP9, hD9⟩, hS.F ht⟩) hS.2.2 dX8_age_29
    · have dc_10 : ¬ r_6.toInt = 0 := jI_ne c_10 rfl (by decide)
      refine lv_aload hx hb dX8_age_19 (lv_at hl 0 rfl) ?_
      refine lv_iload_n hx hb dX8_age_21 rfl (lv_at hl 3 rfl) ?_
      have hPc := hP.part (cx := []) [] rfl
      have hDc := hD.part (cx := []) [] (by decide) rfl
      have hFc := va_freeP (cx := []) hD hS hA [] rfl
      obtain ⟨pk_11, hpk_11⟩ := va_pl_get (X := []) (f := pf) htm_5
      rw [htf_5] at hpk_11
      refine va_calli (va_runVN (As := [.int pp]) (rest := []) ⟨hx, hb, hml, hown, hts⟩ (k_X6_isKept l dC dI cA H.size ax L pf t_5 s_5 v_5 m_5 ndv_5 lf_5 lt_5 slv_5 he_5 kv_5 km_5 pp htm_5 htf_5 hvm_5 hvf_5 hmm_5 hmf_5 (by omega)) ⟨(va_cnB 1 hts gX8_age_X6_isKept_n214 rfl rfl rfl (nw_at hN 55 rfl) (hts (.initialized RX6) (by decide +kernel)) (by decide +kernel) ⟨Nat.le_of_ble_eq_true rfl, Nat.le_of_ble_eq_true rfl⟩), (hts (.instanceMethod yX6_isKept) (by decide +kernel)), (hts (.selects RX6 yX6_isKept yX6_isKept) (by decide +kernel))⟩ ⟨fun a U g mk q => by obtain ⟨q0, q1, qP, qK, qD, qN⟩ := q; exact ⟨q0, q1, qP, va_K.moved (u := U) (U := U.calling g mk a) (Vm.Alike.refl U.vm) qK, qD, qN.same rfl⟩, va_recv hK hPc (ci := 6) (q0 := pk_11) rfl hpk_11, fun U hU hW => ⟨rfl, by rw [hU], by rw [hU]; exact hPc, va_K.moved hW.alike hK, hDc.weaken (fun _ _ _ _ => trivial), hN.warm hW⟩⟩ rfl rfl hl.1 rfl (lv_room (Nat.le_of_ble_eq_true rfl)) dX8_age_22 ⟨Nat.le_of_ble_eq_true rfl, Nat.le_of_ble_eq_true rfl⟩) hS (fun q _ h => hFc q h) hFc (fun r_12 u_13 t H1 locs ht hvm hw_14 hB hz1 hk1 hS => ?_)
      try dsimp only at hw_14 hB
      have po_15 := hw_14
      clear hw_14
      obtain ⟨hP1, hD1⟩ := hB
      rw [ht] at hP1
      obtain ⟨hP, hD⟩ := va_joinP (wr := [((ax 0), .inr (8, [.ref (ax 1), .ref (ax 7), .ref (ax 10), .ref (ax 11), .ref (ax 13), .ref (ax 15), .ref (ax 16), .ref (ax 21), .ref (ax 26), .ref (ax 27), .ref (ax 28), .int xNow, .int xEr, .int xTr, .int xMo, .int xFa, .int xRe])), ((ax 15), .inl (cA 5, 20, .inr (.inr (.inr (.inr gTr)))))]) (rx := []) (pl1 := va_pl L pf) hP hD [] [0, 1] rfl rfl (by decide) (by decide) hk1 hFc hP1 hD1
      clear hz1
      generalize H1 = H at hP hS ⊢
      replace hP : va_P (dC, dI) vwCl (([((ax 0), .inr (8, [.ref (ax 1), .ref (ax 7), .ref (ax 10), .ref (ax 11), .ref (ax 13), .ref (ax 15), .ref (ax 16), .ref (ax 21), .ref (ax 26), .ref (ax 27), .ref (ax 28), .int xNow, .int xEr, .int xTr, .int xMo, .int xFa, .int xRe])), ((ax 15), .inl (cA 5, 20, .inr (.inr (.inr (.inr gTr)))))] : va_W) ++ va_pl L pf) H := hP
      replace hD : va_D A (([((ax 0), .inr (8, [.ref (ax 1), .ref (ax 7), .ref (ax 10), .ref (ax 11), .ref (ax 13), .ref (ax 15), .ref (ax 16), .ref (ax 21), .ref (ax 26), .ref (ax 27), .ref (ax 28), .int xNow, .int xEr, .int xTr, .int xMo, .int xFa, .int xRe])), ((ax 15), .inl (cA 5, 20, .inr (.inr (.inr (.inr gTr)))))] : va_W) ++ va_pl L pf) := hD
      refine lv_if_ne (tgt := 30) hx hb dX8_age_25 (by decide) (fun c_16 => ?_) (fun c_16 => ?_)
      · have dc_16 : ¬ r_12.toInt = 0 := jI_ne c_16 rfl (by decide)
        refine lv_iload_n hx hb dX8_age_30 rfl (lv_at hl 4 rfl) ?_
        rcases (show (¬ w.toInt = 0 ∧ ¬ w.toInt = 1) ∨ w.toInt = 0 ∨ w.toInt = 1 by omega) with hsw | hsw | hsw
        · refine lv_lookup (off := 52) (tgt := 83) hx hb dX8_age_31 (by decide) (jlook2 hsw) (by decide) ?_
          refine lv_iconst (v := (-1)) hx hb dX8_age_83 (by decide) ?_
          have hP9 := hP.part (cx := [((ax 0), .inr (8, [.ref (ax 1), .ref (ax 7), .ref (ax 10), .ref (ax 11), .ref (ax 13), .ref (ax 15), .ref (ax 16), .ref (ax 21), .ref (ax 26), .ref (ax 27), .ref (ax 28), .int xNow, .int xEr, .int xTr, .int xMo, .int xFa, .int xRe])), ((ax 15), .inl (cA 5, 20, .inr (.inr (.inr (.inr gTr)))))]) [0, 1] rfl
          have hD9 := hD.part (cx := [((ax 0), .inr (8, [.ref (ax 1), .ref (ax 7), .ref (ax 10), .ref (ax 11), .ref (ax 13), .ref (ax 15), .ref (ax 16), .ref (ax 21), .ref (ax 26), .ref (ax 27), .ref (ax 28), .int xNow, .int xEr, .int xTr, .int xMo, .int xFa, .int xRe])), ((ax 15), .inl (cA 5, 20, .inr (.inr (.inr (.inr gTr)))))]) [0, 1] (by decide) rfl
          subst hQe
          have hans : ((-1) : Int32).toInt = (-1) := (by decide)
          exact W.iret (v := (-1)) hx hb hr (fun t ht hW => ⟨⟨(-1), (), rfl, trivial, by rw [ht]; exact hP9, hD9⟩, hS.F ht⟩) hS.2.2 dX8_age_84
        · refine lv_lookup (off := 25) (tgt := 56) hx hb dX8_age_31 (by decide) (by rw [hsw]; rfl) (by decide) ?_
          refine lv_aload hx hb dX8_age_56 (lv_at hl 0 rfl) ?_
          obtain ⟨pk_17, hpk_17⟩ := va_pl_get (X := [((ax 0), .inr (8, [.ref (ax 1), .ref (ax 7), .ref (ax 10), .ref (ax 11), .ref (ax 13), .ref (ax 15), .ref (ax 16), .ref (ax 21), .ref (ax 26), .ref (ax 27), .ref (ax 28), .int xNow, .int xEr, .int xTr, .int xMo, .int xFa, .int xRe])), ((ax 15), .inl (cA 5, 20, .inr (.inr (.inr (.inr gTr)))))]) (f := pf) htm_5
          have gpk_17 := hpk_17
          rw [htf_5] at hpk_17
          refine va_getN (D := (dC, dI)) (ci := 6) (v := .ref m_5) (C := RX6) (T := TX6) (N := 8) hx hb hts hIX6 hown hK hP pk_17 hpk_17 rfl 3 (by decide) (va_Nw.use rfl (nw_at hN 25 rfl)) (fun _ h9 => h9) rfl dX8_age_58 ?_
          refine lv_iload_n hx hb dX8_age_61 rfl (lv_at hl 3 rfl) ?_
          obtain ⟨pk_18, hpk_18⟩ := va_pl_get (X := [((ax 0), .inr (8, [.ref (ax 1), .ref (ax 7), .ref (ax 10), .ref (ax 11), .ref (ax 13), .ref (ax 15), .ref (ax 16), .ref (ax 21), .ref (ax 26), .ref (ax 27), .ref (ax 28), .int xNow, .int xEr, .int xTr, .int xMo, .int xFa, .int xRe])), ((ax 15), .inl (cA 5, 20, .inr (.inr (.inr (.inr gTr)))))]) (f := pf) hmm_5
          have gpk_18 := hpk_18
          rw [hmf_5] at hpk_18
          have h_19 : vp_in pp 20 := (vp_in_iff.mpr ⟨by omega, by omega⟩)
          refine va_iald hx hb hK hP pk_18 0 hpk_18 rfl h_19 dX8_age_62 ?_
          refine lv_topi (fun x_20 ex_20 => ?_)
          have hP9 := hP.part (cx := [((ax 0), .inr (8, [.ref (ax 1), .ref (ax 7), .ref (ax 10), .ref (ax 11), .ref (ax 13), .ref (ax 15), .ref (ax 16), .ref (ax 21), .ref (ax 26), .ref (ax 27), .ref (ax 28), .int xNow, .int xEr, .int xTr, .int xMo, .int xFa, .int xRe])), ((ax 15), .inl (cA 5, 20, .inr (.inr (.inr (.inr gTr)))))]) [0, 1] rfl
          have hD9 := hD.part (cx := [((ax 0), .inr (8, [.ref (ax 1), .ref (ax 7), .ref (ax 10), .ref (ax 11), .ref (ax 13), .ref (ax 15), .ref (ax 16), .ref (ax 21), .ref (ax 26), .ref (ax 27), .ref (ax 28), .int xNow, .int xEr, .int xTr, .int xMo, .int xFa, .int xRe])), ((ax 15), .inl (cA 5, 20, .inr (.inr (.inr (.inr gTr)))))]) [0, 1] (by decide) rfl
          subst hQe
          have hans : (x_20 : Int32).toInt = x_20.toInt := rfl
          exact W.iret (v := x_20) hx hb hr (fun t ht hW => ⟨⟨x_20, (), rfl, trivial, by rw [ht]; exact hP9, hD9⟩, hS.F ht⟩) hS.2.2 dX8_age_63
        · refine lv_lookup (off := 33) (tgt := 64) hx hb dX8_age_31 (by decide) (by rw [hsw]; rfl) (by decide) ?_
          refine lv_aload hx hb dX8_age_64 (lv_at hl 0 rfl) ?_
          refine lv_iload_n hx hb dX8_age_66 rfl (lv_at hl 3 rfl) ?_
          refine lv_aload_n hx hb dX8_age_67 rfl (lv_at hl 1 rfl) ?_
          refine va_get (D := (dC, dI)) (ci := 8) (v := .int xNow) (C := RX8) (T := TX8) (N := 17) hx hb hts hIX8 hown hK hP 0 rfl rfl 11 (by decide) (hts (.fieldLink RX8 83 "TraitHouse" "now" "I") (by decide +kernel)) (fun _ h9 => h9) rfl dX8_age_68 ?_
          have hPc := hP.part (cx := []) [] rfl
          have hDc := hD.part (cx := []) [] (by decide) rfl
          have hFc := va_freeP (cx := []) hD hS hA [] rfl
          obtain ⟨pk_21, hpk_21⟩ := va_pl_get (X := []) (f := pf) htm_5
          rw [htf_5] at hpk_21
          refine va_calli (va_runVN (As := [.int pp, .int xNow]) (rest := []) ⟨hx, hb, hml, hown, hts⟩ (k_X6_isStale l dC dI cA H.size ax L pf t_5 s_5 v_5 m_5 ndv_5 lf_5 lt_5 slv_5 he_5 kv_5 km_5 pp xNow htm_5 htf_5 hvm_5 hvf_5 hmm_5 hmf_5 (by omega)) ⟨(va_cnB 2 hts gX8_age_X6_isStale_n220 rfl rfl rfl (nw_at hN 56 rfl) (hts (.initialized RX6) (by decide +kernel)) (by decide +kernel) ⟨Nat.le_of_ble_eq_true rfl, Nat.le_of_ble_eq_true rfl⟩), (hts (.instanceMethod yX6_isStale) (by decide +kernel)), (hts (.selects RX6 yX6_isStale yX6_isStale) (by decide +kernel))⟩ ⟨fun a U g mk q => by obtain ⟨q0, q1, qP, qK, qD, qN⟩ := q; exact ⟨q0, q1, qP, va_K.moved (u := U) (U := U.calling g mk a) (Vm.Alike.refl U.vm) qK, qD, qN.same rfl⟩, va_recv hK hPc (ci := 6) (q0 := pk_21) rfl hpk_21, fun U hU hW => ⟨rfl, by rw [hU], by rw [hU]; exact hPc, va_K.moved hW.alike hK, hDc.weaken (fun _ _ _ _ => trivial), hN.warm hW⟩⟩ rfl rfl hl.1 rfl (lv_room (Nat.le_of_ble_eq_true rfl)) dX8_age_71 ⟨Nat.le_of_ble_eq_true rfl, Nat.le_of_ble_eq_true rfl⟩) hS (fun q _ h => hFc q h) hFc (fun r_22 u_23 t H1 locs ht hvm hw_24 hB hz1 hk1 hS => ?_)
          try dsimp only at hw_24 hB
          have po_25 := hw_24
          clear hw_24
          obtain ⟨hP1, hD1⟩ := hB
          rw [ht] at hP1
          obtain ⟨hP, hD⟩ := va_joinP (wr := [((ax 0), .inr (8, [.ref (ax 1), .ref (ax 7), .ref (ax 10), .ref (ax 11), .ref (ax 13), .ref (ax 15), .ref (ax 16), .ref (ax 21), .ref (ax 26), .ref (ax 27), .ref (ax 28), .int xNow, .int xEr, .int xTr, .int xMo, .int xFa, .int xRe])), ((ax 15), .inl (cA 5, 20, .inr (.inr (.inr (.inr gTr)))))]) (rx := []) (pl1 := va_pl L pf) hP hD [] [0, 1] rfl rfl (by decide) (by decide) hk1 hFc hP1 hD1
          clear hz1
          generalize H1 = H at hP hS ⊢
          replace hP : va_P (dC, dI) vwCl (([((ax 0), .inr (8, [.ref (ax 1), .ref (ax 7), .ref (ax 10), .ref (ax 11), .ref (ax 13), .ref (ax 15), .ref (ax 16), .ref (ax 21), .ref (ax 26), .ref (ax 27), .ref (ax 28), .int xNow, .int xEr, .int xTr, .int xMo, .int xFa, .int xRe])), ((ax 15), .inl (cA 5, 20, .inr (.inr (.inr (.inr gTr)))))] : va_W) ++ va_pl L pf) H := hP
          replace hD : va_D A (([((ax 0), .inr (8, [.ref (ax 1), .ref (ax 7), .ref (ax 10), .ref (ax 11), .ref (ax 13), .ref (ax 15), .ref (ax 16), .ref (ax 21), .ref (ax 26), .ref (ax 27), .ref (ax 28), .int xNow, .int xEr, .int xTr, .int xMo, .int xFa, .int xRe])), ((ax 15), .inl (cA 5, 20, .inr (.inr (.inr (.inr gTr)))))] : va_W) ++ va_pl L pf) := hD
          refine lv_if_eq (tgt := 81) hx hb dX8_age_74 (by decide) (fun c_26 => ?_) (fun c_26 => ?_)
          · have dc_26 : r_22.toInt = 0 := jI_eq c_26 rfl (by decide)
            refine lv_iconst (v := 0) hx hb dX8_age_81 (by decide) ?_
            have hP9 := hP.part (cx := [((ax 0), .inr (8, [.ref (ax 1), .ref (ax 7), .ref (ax 10), .ref (ax 11), .ref (ax 13), .ref (ax 15), .ref (ax 16), .ref (ax 21), .ref (ax 26), .ref (ax 27), .ref (ax 28), .int xNow, .int xEr, .int xTr, .int xMo, .int xFa, .int xRe])), ((ax 15), .inl (cA 5, 20, .inr (.inr (.inr (.inr gTr)))))]) [0, 1] rfl
            have hD9 := hD.part (cx := [((ax 0), .inr (8, [.ref (ax 1), .ref (ax 7), .ref (ax 10), .ref (ax 11), .ref (ax 13), .ref (ax 15), .ref (ax 16), .ref (ax 21), .ref (ax 26), .ref (ax 27), .ref (ax 28), .int xNow, .int xEr, .int xTr, .int xMo, .int xFa, .int xRe])), ((ax 15), .inl (cA 5, 20, .inr (.inr (.inr (.inr gTr)))))]) [0, 1] (by decide) rfl
            subst hQe
            have hans : (0 : Int32).toInt = 0 := (by decide)
            exact W.iret (v := 0) hx hb hr (fun t ht hW => ⟨⟨0, (), rfl, trivial, by rw [ht]; exact hP9, hD9⟩, hS.F ht⟩) hS.2.2 dX8_age_82
          · have dc_26 : ¬ r_22.toInt = 0 := jI_ne c_26 rfl (by decide)
            refine lv_iconst (v := 1) hx hb dX8_age_77 (by decide) ?_
            refine lv_goto (tgt := 82) hx hb dX8_age_78 (by decide) ?_
            have hP9 := hP.part (cx := [((ax 0), .inr (8, [.ref (ax 1), .ref (ax 7), .ref (ax 10), .ref (ax 11), .ref (ax 13), .ref (ax 15), .ref (ax 16), .ref (ax 21), .ref (ax 26), .ref (ax 27), .ref (ax 28), .int xNow, .int xEr, .int xTr, .int xMo, .int xFa, .int xRe])), ((ax 15), .inl (cA 5, 20, .inr (.inr (.inr (.inr gTr)))))]) [0, 1] rfl
            have hD9 := hD.part (cx := [((ax 0), .inr (8, [.ref (ax 1), .ref (ax 7), .ref (ax 10), .ref (ax 11), .ref (ax 13), .ref (ax 15), .ref (ax 16), .ref (ax 21), .ref (ax 26), .ref (ax 27), .ref (ax 28), .int xNow, .int xEr, .int xTr, .int xMo, .int xFa, .int xRe])), ((ax 15), .inl (cA 5, 20, .inr (.inr (.inr (.inr gTr)))))]) [0, 1] (by decide) rfl
            subst hQe
            have hans : (1 : Int32).toInt = 1 := (by decide)
            exact W.iret (v := 1) hx hb hr (fun t ht hW => ⟨⟨1, (), rfl, trivial, by rw [ht]; exact hP9, hD9⟩, hS.F ht⟩) hS.2.2 dX8_age_82
      · have dc_16 : r_12.toInt = 0 := jI_eq c_16 rfl (by decide)
        refine lv_iconst (v := (-1)) hx hb dX8_age_28 (by decide) ?_
        have hP9 := hP.part (cx := [((ax 0), .inr (8, [.ref (ax 1), .ref (ax 7), .ref (ax 10), .ref (ax 11), .ref (ax 13), .ref (ax 15), .ref (ax 16), .ref (ax 21), .ref (ax 26), .ref (ax 27), .ref (ax 28), .int xNow, .int xEr, .int xTr, .int xMo, .int xFa, .int xRe])), ((ax 15), .inl (cA 5, 20, .inr (.inr (.inr (.inr gTr)))))]) [0, 1] rfl
        have hD9 := hD.part (cx := [((ax 0), .inr (8, [.ref (ax 1), .ref (ax 7), .ref (ax 10), .ref (ax 11), .ref (ax 13), .ref (ax 15), .ref (ax 16), .ref (ax 21), .ref (ax 26), .ref (ax 27), .ref (ax 28), .int xNow, .int xEr, .int xTr, .int xMo, .int xFa, .int xRe])), ((ax 15), .inl (cA 5, 20, .inr (.inr (.inr (.inr gTr)))))]) [0, 1] (by decide) rfl
        subst hQe
        have hans : ((-1) : Int32).toInt = (-1) := (by decide)
        exact W.iret (v := (-1)) hx hb hr (fun t ht hW => ⟨⟨(-1), (), rfl, trivial, by rw [ht]; exact hP9, hD9⟩, hS.F ht⟩) hS.2.2 dX8_age_29
  · have hrq := po_4.2 hT_5
    obtain rfl : r_1 = none := hrq
    refine W.eq (g2 := F0 m 5 ls [.null]) rfl ?_
    refine lv_astoreN (lv' := [(4, .null), (0, .ref (ax 0)), (1, .int tt), (2, .int pp), (3, .int w)]) hx hb dX8_age_5 hl (by decide) rfl (fun ls hl => ?_)
    refine lv_aloadN hx hb dX8_age_7 (lv_at hl 0 rfl) ?_
    refine lv_ifnullN (tgt := 28) hx hb dX8_age_9 (by decide) ?_
    refine lv_iconst (v := (-1)) hx hb dX8_age_28 (by decide) ?_
    have hP9 := hP.part (cx := [((ax 0), .inr (8, [.ref (ax 1), .ref (ax 7), .ref (ax 10), .ref (ax 11), .ref (ax 13), .ref (ax 15), .ref (ax 16), .ref (ax 21), .ref (ax 26), .ref (ax 27), .ref (ax 28), .int xNow, .int xEr, .int xTr, .int xMo, .int xFa, .int xRe])), ((ax 15), .inl (cA 5, 20, .inr (.inr (.inr (.inr gTr)))))]) [0, 1] rfl
    have hD9 := hD.part (cx := [((ax 0), .inr (8, [.ref (ax 1), .ref (ax 7), .ref (ax 10), .ref (ax 11), .ref (ax 13), .ref (ax 15), .ref (ax 16), .ref (ax 21), .ref (ax 26), .ref (ax 27), .ref (ax 28), .int xNow, .int xEr, .int xTr, .int xMo, .int xFa, .int xRe])), ((ax 15), .inl (cA 5, 20, .inr (.inr (.inr (.inr gTr)))))]) [0, 1] (by decide) rfl
    subst hQe
    have hans : ((-1) : Int32).toInt = (-1) := (by decide)
    exact W.iret (v := (-1)) hx hb hr (fun t ht hW => ⟨⟨(-1), (), rfl, trivial, by rw [ht]; exact hP9, hD9⟩, hS.F ht⟩) hS.2.2 dX8_age_29

set_option maxHeartbeats 8000000 in
set_option maxRecDepth 100000 in
theorem k_X8_held (l : Launch) (dC : Nat → ClassId) (dI : Nat → Nat → Nat) (cA : Nat → ClassId) (sz : Nat) (ax : Nat → Nat) (xNow : Int32) (xEr : Int32) (xTr : Int32) (xMo : Int32) (xFa : Int32) (xRe : Int32) (gTr : Nat → Option Nat) (L : List Nat) (pf : Nat → va_E) (tt : Int32) (nd : Nat → Int32) (sl : Nat → Int32) (i_xNow : 0 ≤ xNow.toInt ∧ xNow.toInt ≤ 100000) (i_xTr : 0 ≤ xTr.toInt ∧ xTr.toInt ≤ 20) (i_xMo : 0 ≤ xMo.toInt ∧ xMo.toInt ≤ 10) (hTP : TP cA xTr gTr L pf nd sl) : Met l yX8_held wsX8_held ({ frames := 1, cells := 0, slots := 0, locals := 21 }) (va_Pc [.ref (ax 0), .int tt] (fun U => U.heap.size = sz ∧ va_P (dC, dI) vwCl (([((ax 0), .inr (8, [.ref (ax 1), .ref (ax 7), .ref (ax 10), .ref (ax 11), .ref (ax 13), .ref (ax 15), .ref (ax 16), .ref (ax 21), .ref (ax 26), .ref (ax 27), .ref (ax 28), .int xNow, .int xEr, .int xTr, .int xMo, .int xFa, .int xRe])), ((ax 15), .inl (cA 5, 20, .inr (.inr (.inr (.inr gTr)))))] : va_W) ++ va_pl L pf) U.heap ∧ va_K (dC, dI) vwCl (tyL cA) U ∧ va_D (fun _ => True) (([((ax 0), .inr (8, [.ref (ax 1), .ref (ax 7), .ref (ax 10), .ref (ax 11), .ref (ax 13), .ref (ax 15), .ref (ax 16), .ref (ax 21), .ref (ax 26), .ref (ax 27), .ref (ax 28), .int xNow, .int xEr, .int xTr, .int xMo, .int xFa, .int xRe])), ((ax 15), .inl (cA 5, 20, .inr (.inr (.inr (.inr gTr)))))] : va_W) ++ va_pl L pf) ∧ nw_ok U)) (va_Qi (fun (r : Int32) (_ : Unit) => True) (fun (_ : Unit) (t : State) => va_P (dC, dI) vwCl (([((ax 0), .inr (8, [.ref (ax 1), .ref (ax 7), .ref (ax 10), .ref (ax 11), .ref (ax 13), .ref (ax 15), .ref (ax 16), .ref (ax 21), .ref (ax 26), .ref (ax 27), .ref (ax 28), .int xNow, .int xEr, .int xTr, .int xMo, .int xFa, .int xRe])), ((ax 15), .inl (cA 5, 20, .inr (.inr (.inr (.inr gTr)))))] : va_W) ++ va_pl L pf) t.heap ∧ va_D (va_A (([((ax 0), .inr (8, [.ref (ax 1), .ref (ax 7), .ref (ax 10), .ref (ax 11), .ref (ax 13), .ref (ax 15), .ref (ax 16), .ref (ax 21), .ref (ax 26), .ref (ax 27), .ref (ax 28), .int xNow, .int xEr, .int xTr, .int xMo, .int xFa, .int xRe])), ((ax 15), .inl (cA 5, 20, .inr (.inr (.inr (.inr gTr)))))] : va_W) ++ va_pl L pf) sz) (([((ax 0), .inr (8, [.ref (ax 1), .ref (ax 7), .ref (ax 10), .ref (ax 11), .ref (ax 13), .ref (ax 15), .ref (ax 16), .ref (ax 21), .ref (ax 26), .ref (ax 27), .ref (ax 28), .int xNow, .int xEr, .int xTr, .int xMo, .int xFa, .int xRe])), ((ax 15), .inl (cA 5, 20, .inr (.inr (.inr (.inr gTr)))))] : va_W) ++ va_pl L pf)) (va_A (([((ax 0), .inr (8, [.ref (ax 1), .ref (ax 7), .ref (ax 10), .ref (ax 11), .ref (ax 13), .ref (ax 15), .ref (ax 16), .ref (ax 21), .ref (ax 26), .ref (ax 27), .ref (ax 28), .int xNow, .int xEr, .int xTr, .int xMo, .int xFa, .int xRe])), ((ax 15), .inl (cA 5, 20, .inr (.inr (.inr (.inr gTr)))))] : va_W) ++ va_pl L pf) sz)) 0 0 (va_A (([((ax 0), .inr (8, [.ref (ax 1), .ref (ax 7), .ref (ax 10), .ref (ax 11), .ref (ax 13), .ref (ax 15), .ref (ax 16), .ref (ax 21), .ref (ax 26), .ref (ax 27), .ref (ax 28), .int xNow, .int xEr, .int xTr, .int xMo, .int xFa, .int xRe])), ((ax 15), .inl (cA 5, 20, .inr (.inr (.inr (.inr gTr)))))] : va_W) ++ va_pl L pf) sz) := by
  refine Met.ofW (cc := cX8_held) (maxL := 3) (ret := (some .int)) (by decide) rfl ?_
  intro p e s m args below meth c s₁ B hml hv
  obtain ⟨rfl, hsz, hP, hK, hD0, hN⟩ := hv
  have hx := B.exec
  have hb := B.bytes
  have hr := B.returns
  have hts := atoms_spec (ws := wsX8_held) B.pre
  have hown : s.vm.findClass RX8 = some m.cls := findClass_of_methodNamed B.named
  have hlocks := B.notSynchronized
  subst hsz
  have hD := hD0.self (sz := s.heap.size)
  generalize hAe : va_A (([((ax 0), .inr (8, [.ref (ax 1), .ref (ax 7), .ref (ax 10), .ref (ax 11), .ref (ax 13), .ref (ax 15), .ref (ax 16), .ref (ax 21), .ref (ax 26), .ref (ax 27), .ref (ax 28), .int xNow, .int xEr, .int xTr, .int xMo, .int xFa, .int xRe])), ((ax 15), .inl (cA 5, 20, .inr (.inr (.inr (.inr gTr)))))] : va_W) ++ va_pl L pf) s.heap.size = A at hD ⊢
  have hA : ∀ q : Nat, s.heap.size ≤ q → A q := fun q h => by rw [← hAe]; exact Or.inr h
  have hS : va_S A s.heap s.heap [] := va_S.rf
  have hIX6 : ∀ w ∈ u_ws RX6 TX6 8, w ∈ wsX8_held := by decide +kernel
  have hl := lv_entry ([.ref (ax 0), .int tt]) (n := 3) (Nat.le_of_ble_eq_true rfl)
  rw [lg_entry_eq]
  generalize (lg_sl ([.ref (ax 0), .int tt]) ++ List.replicate (3 - (lg_sl ([.ref (ax 0), .int tt])).length) Slot.unset).toArray = ls at hl ⊢
  have hl : lv_has ls 3 [(0, .ref (ax 0)), (1, .int tt)] := hl
  generalize hQe : MQ below _ _ _ _ _ _ = QQ
  refine lv_aload_n hx hb dX8_held_0 rfl (lv_at hl 0 rfl) ?_
  refine lv_iload_n hx hb dX8_held_1 rfl (lv_at hl 1 rfl) ?_
  obtain ⟨hPc, hDc, hFc, hCc⟩ := va_pre (ws' := [((ax 0), .inr (8, [.ref (ax 1), .ref (ax 7), .ref (ax 10), .ref (ax 11), .ref (ax 13), .ref (ax 15), .ref (ax 16), .ref (ax 21), .ref (ax 26), .ref (ax 27), .ref (ax 28), .int xNow, .int xEr, .int xTr, .int xMo, .int xFa, .int xRe])), ((ax 15), .inl (cA 5, 20, .inr (.inr (.inr (.inr gTr)))))]) hP hD hS hA [0, 1] (by decide) rfl
  refine va_callq (va_runV (As := [.int tt]) (rest := []) ⟨hx, hb, hml, hown, hts⟩ (k_X8_traitAt l dC dI cA s.heap.size ax xNow xEr xTr xMo xFa xRe gTr tt i_xNow i_xTr i_xMo) (cwV 1 hts gX8_held_X8_traitAt rfl rfl rfl (by decide +kernel) ⟨Nat.le_of_ble_eq_true rfl, Nat.le_of_ble_eq_true rfl⟩) ⟨fun a U g mk q => by obtain ⟨q0, q1, qP, qK, qD, qN⟩ := q; exact ⟨q0, q1, qP, va_K.moved (u := U) (U := U.calling g mk a) (Vm.Alike.refl U.vm) qK, qD, qN.same rfl⟩, va_recv hK hPc (ci := 8) (q0 := 0) rfl rfl, fun U hU hW => ⟨rfl, by rw [hU], by rw [hU]; exact hPc, va_K.moved hW.alike hK, hDc.weaken (fun _ _ _ _ => trivial), hN.warm hW⟩⟩ rfl rfl hl.1 rfl (lv_room (Nat.le_of_ble_eq_true rfl)) dX8_held_2 ⟨Nat.le_of_ble_eq_true rfl, Nat.le_of_ble_eq_true rfl⟩) hS (fun q _ h => hFc q h) hFc (fun r_1 u_2 t H1 locs ht hvm hw_3 hB hz1 hk1 hS => ?_)
  try dsimp only at hw_3 hB
  have po_4 := hw_3
  clear hw_3
  obtain ⟨hP1, hD1⟩ := hB
  rw [ht] at hP1
  obtain ⟨hP, hD⟩ := va_joinQ (wr := []) (w1 := [((ax 0), .inr (8, [.ref (ax 1), .ref (ax 7), .ref (ax 10), .ref (ax 11), .ref (ax 13), .ref (ax 15), .ref (ax 16), .ref (ax 21), .ref (ax 26), .ref (ax 27), .ref (ax 28), .int xNow, .int xEr, .int xTr, .int xMo, .int xFa, .int xRe])), ((ax 15), .inl (cA 5, 20, .inr (.inr (.inr (.inr gTr)))))]) hP hD [0, 1] [] rfl rfl (by decide) (by decide) hk1 hFc hP1 hD1
  clear hz1
  generalize H1 = H at hP hS ⊢
  replace hP : va_P (dC, dI) vwCl (([((ax 0), .inr (8, [.ref (ax 1), .ref (ax 7), .ref (ax 10), .ref (ax 11), .ref (ax 13), .ref (ax 15), .ref (ax 16), .ref (ax 21), .ref (ax 26), .ref (ax 27), .ref (ax 28), .int xNow, .int xEr, .int xTr, .int xMo, .int xFa, .int xRe])), ((ax 15), .inl (cA 5, 20, .inr (.inr (.inr (.inr gTr)))))] : va_W) ++ va_pl L pf) H := hP
  replace hD : va_D A (([((ax 0), .inr (8, [.ref (ax 1), .ref (ax 7), .ref (ax 10), .ref (ax 11), .ref (ax 13), .ref (ax 15), .ref (ax 16), .ref (ax 21), .ref (ax 26), .ref (ax 27), .ref (ax 28), .int xNow, .int xEr, .int xTr, .int xMo, .int xFa, .int xRe])), ((ax 15), .inl (cA 5, 20, .inr (.inr (.inr (.inr gTr)))))] : va_W) ++ va_pl L pf) := hD
  by_cases hT_5 : 0 ≤ tt.toInt ∧ tt.toInt < xTr.toInt
  · have hrq := po_4.1 hT_5
    obtain ⟨ndv_5, hnd_5⟩ : ∃ z : Int32, z = nd tt.toNatClampNeg := ⟨_, rfl⟩
    obtain ⟨slv_5, hsl_5⟩ : ∃ z : Int32, z = sl tt.toNatClampNeg := ⟨_, rfl⟩
    obtain ⟨t_5, hte_5, hok_5⟩ := TP_at (i := tt) hTP (by omega) (by omega)
    rw [← hnd_5, ← hsl_5] at hok_5
    have hok9 := hok_5
    obtain ⟨htm_5, s_5, v_5, m_5, lf_5, lt_5, he_5, htf_5, hso_5, hvm_5, ⟨kv_5, hvf_5⟩, hmm_5, km_5, hmf_5⟩ := hok9
    rw [hte_5] at hrq
    obtain rfl : r_1 = some t_5 := hrq
    refine W.eq (g2 := F0 m 5 ls [.ref t_5]) rfl ?_
    refine lv_astore_n (lv' := [(2, .ref t_5), (0, .ref (ax 0)), (1, .int tt)]) hx hb dX8_held_5 rfl hl (by decide) rfl (fun ls hl => ?_)
    refine lv_aload_n hx hb dX8_held_6 rfl (lv_at hl 0 rfl) ?_
    refine lv_ifnonnull (tgt := 14) hx hb dX8_held_7 (by decide) ?_
    refine lv_aload_n hx hb dX8_held_14 rfl (lv_at hl 0 rfl) ?_
    obtain ⟨pk_6, hpk_6⟩ := va_pl_get (X := [((ax 0), .inr (8, [.ref (ax 1), .ref (ax 7), .ref (ax 10), .ref (ax 11), .ref (ax 13), .ref (ax 15), .ref (ax 16), .ref (ax 21), .ref (ax 26), .ref (ax 27), .ref (ax 28), .int xNow, .int xEr, .int xTr, .int xMo, .int xFa, .int xRe])), ((ax 15), .inl (cA 5, 20, .inr (.inr (.inr (.inr gTr)))))]) (f := pf) htm_5
    have gpk_6 := hpk_6
    rw [htf_5] at hpk_6
    refine va_getN (D := (dC, dI)) (ci := 6) (v := .int he_5) (C := RX6) (T := TX6) (N := 8) hx hb hts hIX6 hown hK hP pk_6 hpk_6 rfl 7 (by decide) (va_Nw.use rfl (nw_at hN 29 rfl)) (fun _ h9 => h9) rfl dX8_held_15 ?_
    have hP9 := hP.part (cx := [((ax 0), .inr (8, [.ref (ax 1), .ref (ax 7), .ref (ax 10), .ref (ax 11), .ref (ax 13), .ref (ax 15), .ref (ax 16), .ref (ax 21), .ref (ax 26), .ref (ax 27), .ref (ax 28), .int xNow, .int xEr, .int xTr, .int xMo, .int xFa, .int xRe])), ((ax 15), .inl (cA 5, 20, .inr (.inr (.inr (.inr gTr)))))]) [0, 1] rfl
    have hD9 := hD.part (cx := [((ax 0), .inr (8, [.ref (ax 1), .ref (ax 7), .ref (ax 10), .ref (ax 11), .ref (ax 13), .ref (ax 15), .ref (ax 16), .ref (ax 21), .ref (ax 26), .ref (ax 27), .ref (ax 28), .int xNow, .int xEr, .int xTr, .int xMo, .int xFa, .int xRe])), ((ax 15), .inl (cA 5, 20, .inr (.inr (.inr (.inr gTr)))))]) [0, 1] (by decide) rfl
    subst hQe
    have hans : (he_5 : Int32).toInt = he_5.toInt := rfl
    exact W.iret (v := he_5) hx hb hr (fun t ht hW => ⟨⟨he_5, (), rfl, trivial, by rw [ht]; exact hP9, hD9⟩, hS.F ht⟩) hS.2.2 dX8_held_18
  · have hrq := po_4.2 hT_5
    obtain rfl : r_1 = none := hrq
    refine W.eq (g2 := F0 m 5 ls [.null]) rfl ?_
    refine lv_astore_nN (lv' := [(2, .null), (0, .ref (ax 0)), (1, .int tt)]) hx hb dX8_held_5 rfl hl (by decide) rfl (fun ls hl => ?_)
    refine lv_aload_nN hx hb dX8_held_6 rfl (lv_at hl 0 rfl) ?_
    refine lv_ifnonnullN hx hb dX8_held_7 ?_
    refine lv_iconst (v := (-1)) hx hb dX8_held_10 (by decide) ?_
    refine lv_goto (tgt := 18) hx hb dX8_held_11 (by decide) ?_
    have hP9 := hP.part (cx := [((ax 0), .inr (8, [.ref (ax 1), .ref (ax 7), .ref (ax 10), .ref (ax 11), .ref (ax 13), .ref (ax 15), .ref (ax 16), .ref (ax 21), .ref (ax 26), .ref (ax 27), .ref (ax 28), .int xNow, .int xEr, .int xTr, .int xMo, .int xFa, .int xRe])), ((ax 15), .inl (cA 5, 20, .inr (.inr (.inr (.inr gTr)))))]) [0, 1] rfl
    have hD9 := hD.part (cx := [((ax 0), .inr (8, [.ref (ax 1), .ref (ax 7), .ref (ax 10), .ref (ax 11), .ref (ax 13), .ref (ax 15), .ref (ax 16), .ref (ax 21), .ref (ax 26), .ref (ax 27), .ref (ax 28), .int xNow, .int xEr, .int xTr, .int xMo, .int xFa, .int xRe])), ((ax 15), .inl (cA 5, 20, .inr (.inr (.inr (.inr gTr)))))]) [0, 1] (by decide) rfl
    subst hQe
    have hans : ((-1) : Int32).toInt = (-1) := (by decide)
    exact W.iret (v := (-1)) hx hb hr (fun t ht hW => ⟨⟨(-1), (), rfl, trivial, by rw [ht]; exact hP9, hD9⟩, hS.F ht⟩) hS.2.2 dX8_held_18

set_option maxHeartbeats 8000000 in
set_option maxRecDepth 100000 in
theorem k_X8_placeOf (l : Launch) (dC : Nat → ClassId) (dI : Nat → Nat → Nat) (cA : Nat → ClassId) (sz : Nat) (ax : Nat → Nat) (xNow : Int32) (xEr : Int32) (xTr : Int32) (xMo : Int32) (xFa : Int32) (xRe : Int32) (gTr : Nat → Option Nat) (xPz : Int32) (gPO : Nat → Int32) (gPM : Nat → Int32) (L : List Nat) (pf : Nat → va_E) (tt : Int32) (pp : Int32) (mo : Int32) (nd : Nat → Int32) (sl : Nat → Int32) (i_xNow : 0 ≤ xNow.toInt ∧ xNow.toInt ≤ 100000) (i_xTr : 0 ≤ xTr.toInt ∧ xTr.toInt ≤ 20) (i_xMo : 0 ≤ xMo.toInt ∧ xMo.toInt ≤ 10) (i_xPz : 0 ≤ xPz.toInt ∧ xPz.toInt ≤ 2000) (hTP : TP cA xTr gTr L pf nd sl) : Met l yX8_placeOf wsX8_placeOf ({ frames := 2, cells := 0, slots := 0, locals := 47 }) (va_Pc [.ref (ax 0), .int tt, .int pp, .int mo] (fun U => U.heap.size = sz ∧ va_P (dC, dI) vwCl (([((ax 0), .inr (8, [.ref (ax 1), .ref (ax 7), .ref (ax 10), .ref (ax 11), .ref (ax 13), .ref (ax 15), .ref (ax 16), .ref (ax 21), .ref (ax 26), .ref (ax 27), .ref (ax 28), .int xNow, .int xEr, .int xTr, .int xMo, .int xFa, .int xRe])), ((ax 15), .inl (cA 5, 20, .inr (.inr (.inr (.inr gTr))))), ((ax 21), .inr (1, [.ref (ax 22), .ref (ax 23), .ref (ax 24), .ref (ax 25), .int xPz])), ((ax 22), .inl (cA 0, 2000, .inl gPO)), ((ax 23), .inl (cA 0, 2000, .inl gPM))] : va_W) ++ va_pl L pf) U.heap ∧ va_K (dC, dI) vwCl (tyL cA) U ∧ va_D (fun _ => True) (([((ax 0), .inr (8, [.ref (ax 1), .ref (ax 7), .ref (ax 10), .ref (ax 11), .ref (ax 13), .ref (ax 15), .ref (ax 16), .ref (ax 21), .ref (ax 26), .ref (ax 27), .ref (ax 28), .int xNow, .int xEr, .int xTr, .int xMo, .int xFa, .int xRe])), ((ax 15), .inl (cA 5, 20, .inr (.inr (.inr (.inr gTr))))), ((ax 21), .inr (1, [.ref (ax 22), .ref (ax 23), .ref (ax 24), .ref (ax 25), .int xPz])), ((ax 22), .inl (cA 0, 2000, .inl gPO)), ((ax 23), .inl (cA 0, 2000, .inl gPM))] : va_W) ++ va_pl L pf) ∧ nw_ok U)) (va_Qi (fun (r : Int32) (_ : Unit) => ((-1) ≤ r.toInt ∧ r.toInt ≤ 1999)) (fun (_ : Unit) (t : State) => va_P (dC, dI) vwCl (([((ax 0), .inr (8, [.ref (ax 1), .ref (ax 7), .ref (ax 10), .ref (ax 11), .ref (ax 13), .ref (ax 15), .ref (ax 16), .ref (ax 21), .ref (ax 26), .ref (ax 27), .ref (ax 28), .int xNow, .int xEr, .int xTr, .int xMo, .int xFa, .int xRe])), ((ax 15), .inl (cA 5, 20, .inr (.inr (.inr (.inr gTr))))), ((ax 21), .inr (1, [.ref (ax 22), .ref (ax 23), .ref (ax 24), .ref (ax 25), .int xPz])), ((ax 22), .inl (cA 0, 2000, .inl gPO)), ((ax 23), .inl (cA 0, 2000, .inl gPM))] : va_W) ++ va_pl L pf) t.heap ∧ va_D (va_A (([((ax 0), .inr (8, [.ref (ax 1), .ref (ax 7), .ref (ax 10), .ref (ax 11), .ref (ax 13), .ref (ax 15), .ref (ax 16), .ref (ax 21), .ref (ax 26), .ref (ax 27), .ref (ax 28), .int xNow, .int xEr, .int xTr, .int xMo, .int xFa, .int xRe])), ((ax 15), .inl (cA 5, 20, .inr (.inr (.inr (.inr gTr))))), ((ax 21), .inr (1, [.ref (ax 22), .ref (ax 23), .ref (ax 24), .ref (ax 25), .int xPz])), ((ax 22), .inl (cA 0, 2000, .inl gPO)), ((ax 23), .inl (cA 0, 2000, .inl gPM))] : va_W) ++ va_pl L pf) sz) (([((ax 0), .inr (8, [.ref (ax 1), .ref (ax 7), .ref (ax 10), .ref (ax 11), .ref (ax 13), .ref (ax 15), .ref (ax 16), .ref (ax 21), .ref (ax 26), .ref (ax 27), .ref (ax 28), .int xNow, .int xEr, .int xTr, .int xMo, .int xFa, .int xRe])), ((ax 15), .inl (cA 5, 20, .inr (.inr (.inr (.inr gTr))))), ((ax 21), .inr (1, [.ref (ax 22), .ref (ax 23), .ref (ax 24), .ref (ax 25), .int xPz])), ((ax 22), .inl (cA 0, 2000, .inl gPO)), ((ax 23), .inl (cA 0, 2000, .inl gPM))] : va_W) ++ va_pl L pf)) (va_A (([((ax 0), .inr (8, [.ref (ax 1), .ref (ax 7), .ref (ax 10), .ref (ax 11), .ref (ax 13), .ref (ax 15), .ref (ax 16), .ref (ax 21), .ref (ax 26), .ref (ax 27), .ref (ax 28), .int xNow, .int xEr, .int xTr, .int xMo, .int xFa, .int xRe])), ((ax 15), .inl (cA 5, 20, .inr (.inr (.inr (.inr gTr))))), ((ax 21), .inr (1, [.ref (ax 22), .ref (ax 23), .ref (ax 24), .ref (ax 25), .int xPz])), ((ax 22), .inl (cA 0, 2000, .inl gPO)), ((ax 23), .inl (cA 0, 2000, .inl gPM))] : va_W) ++ va_pl L pf) sz)) 0 0 (va_A (([((ax 0), .inr (8, [.ref (ax 1), .ref (ax 7), .ref (ax 10), .ref (ax 11), .ref (ax 13), .ref (ax 15), .ref (ax 16), .ref (ax 21), .ref (ax 26), .ref (ax 27), .ref (ax 28), .int xNow, .int xEr, .int xTr, .int xMo, .int xFa, .int xRe])), ((ax 15), .inl (cA 5, 20, .inr (.inr (.inr (.inr gTr))))), ((ax 21), .inr (1, [.ref (ax 22), .ref (ax 23), .ref (ax 24), .ref (ax 25), .int xPz])), ((ax 22), .inl (cA 0, 2000, .inl gPO)), ((ax 23), .inl (cA 0, 2000, .inl gPM))] : va_W) ++ va_pl L pf) sz) := by
  refine Met.ofW (cc := cX8_placeOf) (maxL := 4) (ret := (some .int)) (by decide) rfl ?_
  intro p e s m args below meth c s₁ B hml hv
  obtain ⟨rfl, hsz, hP, hK, hD0, hN⟩ := hv
  have hx := B.exec
  have hb := B.bytes
  have hr := B.returns
  have hts := atoms_spec (ws := wsX8_placeOf) B.pre
  have hown : s.vm.findClass RX8 = some m.cls := findClass_of_methodNamed B.named
  have hlocks := B.notSynchronized
  subst hsz
  have hD := hD0.self (sz := s.heap.size)
  generalize hAe : va_A (([((ax 0), .inr (8, [.ref (ax 1), .ref (ax 7), .ref (ax 10), .ref (ax 11), .ref (ax 13), .ref (ax 15), .ref (ax 16), .ref (ax 21), .ref (ax 26), .ref (ax 27), .ref (ax 28), .int xNow, .int xEr, .int xTr, .int xMo, .int xFa, .int xRe])), ((ax 15), .inl (cA 5, 20, .inr (.inr (.inr (.inr gTr))))), ((ax 21), .inr (1, [.ref (ax 22), .ref (ax 23), .ref (ax 24), .ref (ax 25), .int xPz])), ((ax 22), .inl (cA 0, 2000, .inl gPO)), ((ax 23), .inl (cA 0, 2000, .inl gPM))] : va_W) ++ va_pl L pf) s.heap.size = A at hD ⊢
  have hA : ∀ q : Nat, s.heap.size ≤ q → A q := fun q h => by rw [← hAe]; exact Or.inr h
  have hS : va_S A s.heap s.heap [] := va_S.rf
  have hIX8 : ∀ w ∈ u_ws RX8 TX8 17, w ∈ wsX8_placeOf := by decide +kernel
  have hl := lv_entry ([.ref (ax 0), .int tt, .int pp, .int mo]) (n := 4) (Nat.le_of_ble_eq_true rfl)
  rw [lg_entry_eq]
  generalize (lg_sl ([.ref (ax 0), .int tt, .int pp, .int mo]) ++ List.replicate (4 - (lg_sl ([.ref (ax 0), .int tt, .int pp, .int mo])).length) Slot.unset).toArray = ls at hl ⊢
  have hl : lv_has ls 4 [(0, .ref (ax 0)), (1, .int tt), (2, .int pp), (3, .int mo)] := hl
  generalize hQe : MQ below _ _ _ _ _ _ = QQ
  refine lv_aload_n hx hb dX8_placeOf_0 rfl (lv_at hl 0 rfl) ?_
  refine lv_iload_n hx hb dX8_placeOf_1 rfl (lv_at hl 1 rfl) ?_
  obtain ⟨hPc, hDc, hFc, hCc⟩ := va_pre (ws' := [((ax 0), .inr (8, [.ref (ax 1), .ref (ax 7), .ref (ax 10), .ref (ax 11), .ref (ax 13), .ref (ax 15), .ref (ax 16), .ref (ax 21), .ref (ax 26), .ref (ax 27), .ref (ax 28), .int xNow, .int xEr, .int xTr, .int xMo, .int xFa, .int xRe])), ((ax 15), .inl (cA 5, 20, .inr (.inr (.inr (.inr gTr)))))]) hP hD hS hA [0, 1] (by decide) rfl
  refine va_callq (va_runV (As := [.int tt]) (rest := []) ⟨hx, hb, hml, hown, hts⟩ (k_X8_traitAt l dC dI cA s.heap.size ax xNow xEr xTr xMo xFa xRe gTr tt i_xNow i_xTr i_xMo) (cwV 1 hts gX8_placeOf_X8_traitAt rfl rfl rfl (by decide +kernel) ⟨Nat.le_of_ble_eq_true rfl, Nat.le_of_ble_eq_true rfl⟩) ⟨fun a U g mk q => by obtain ⟨q0, q1, qP, qK, qD, qN⟩ := q; exact ⟨q0, q1, qP, va_K.moved (u := U) (U := U.calling g mk a) (Vm.Alike.refl U.vm) qK, qD, qN.same rfl⟩, va_recv hK hPc (ci := 8) (q0 := 0) rfl rfl, fun U hU hW => ⟨rfl, by rw [hU], by rw [hU]; exact hPc, va_K.moved hW.alike hK, hDc.weaken (fun _ _ _ _ => trivial), hN.warm hW⟩⟩ rfl rfl hl.1 rfl (lv_room (Nat.le_of_ble_eq_true rfl)) dX8_placeOf_2 ⟨Nat.le_of_ble_eq_true rfl, Nat.le_of_ble_eq_true rfl⟩) hS (fun q _ h => hFc q h) hFc (fun r_1 u_2 t H1 locs ht hvm hw_3 hB hz1 hk1 hS => ?_)
  try dsimp only at hw_3 hB
  have po_4 := hw_3
  clear hw_3
  obtain ⟨hP1, hD1⟩ := hB
  rw [ht] at hP1
  obtain ⟨hP, hD⟩ := va_joinQ (wr := [((ax 21), .inr (1, [.ref (ax 22), .ref (ax 23), .ref (ax 24), .ref (ax 25), .int xPz])), ((ax 22), .inl (cA 0, 2000, .inl gPO)), ((ax 23), .inl (cA 0, 2000, .inl gPM))]) (w1 := [((ax 0), .inr (8, [.ref (ax 1), .ref (ax 7), .ref (ax 10), .ref (ax 11), .ref (ax 13), .ref (ax 15), .ref (ax 16), .ref (ax 21), .ref (ax 26), .ref (ax 27), .ref (ax 28), .int xNow, .int xEr, .int xTr, .int xMo, .int xFa, .int xRe])), ((ax 15), .inl (cA 5, 20, .inr (.inr (.inr (.inr gTr)))))]) hP hD [0, 1] [2, 3, 4] rfl rfl (by decide) (by decide) hk1 hFc hP1 hD1
  clear hz1
  generalize H1 = H at hP hS ⊢
  replace hP : va_P (dC, dI) vwCl (([((ax 21), .inr (1, [.ref (ax 22), .ref (ax 23), .ref (ax 24), .ref (ax 25), .int xPz])), ((ax 22), .inl (cA 0, 2000, .inl gPO)), ((ax 23), .inl (cA 0, 2000, .inl gPM)), ((ax 0), .inr (8, [.ref (ax 1), .ref (ax 7), .ref (ax 10), .ref (ax 11), .ref (ax 13), .ref (ax 15), .ref (ax 16), .ref (ax 21), .ref (ax 26), .ref (ax 27), .ref (ax 28), .int xNow, .int xEr, .int xTr, .int xMo, .int xFa, .int xRe])), ((ax 15), .inl (cA 5, 20, .inr (.inr (.inr (.inr gTr)))))] : va_W) ++ va_pl L pf) H := hP
  replace hD : va_D A (([((ax 21), .inr (1, [.ref (ax 22), .ref (ax 23), .ref (ax 24), .ref (ax 25), .int xPz])), ((ax 22), .inl (cA 0, 2000, .inl gPO)), ((ax 23), .inl (cA 0, 2000, .inl gPM)), ((ax 0), .inr (8, [.ref (ax 1), .ref (ax 7), .ref (ax 10), .ref (ax 11), .ref (ax 13), .ref (ax 15), .ref (ax 16), .ref (ax 21), .ref (ax 26), .ref (ax 27), .ref (ax 28), .int xNow, .int xEr, .int xTr, .int xMo, .int xFa, .int xRe])), ((ax 15), .inl (cA 5, 20, .inr (.inr (.inr (.inr gTr)))))] : va_W) ++ va_pl L pf) := hD
  by_cases hT_5 : 0 ≤ tt.toInt ∧ tt.toInt < xTr.toInt
  · have hrq := po_4.1 hT_5
    obtain ⟨ndv_5, hnd_5⟩ : ∃ z : Int32, z = nd tt.toNatClampNeg := ⟨_, rfl⟩
    obtain ⟨slv_5, hsl_5⟩ : ∃ z : Int32, z = sl tt.toNatClampNeg := ⟨_, rfl⟩
    obtain ⟨t_5, hte_5, hok_5⟩ := TP_at (i := tt) hTP (by omega) (by omega)
    rw [← hnd_5, ← hsl_5] at hok_5
    have hok9 := hok_5
    obtain ⟨htm_5, s_5, v_5, m_5, lf_5, lt_5, he_5, htf_5, hso_5, hvm_5, ⟨kv_5, hvf_5⟩, hmm_5, km_5, hmf_5⟩ := hok9
    rw [hte_5] at hrq
    obtain rfl : r_1 = some t_5 := hrq
    refine W.eq (g2 := F0 m 5 ls [.ref t_5]) rfl ?_
    refine lv_ifnull hx hb dX8_placeOf_5 ?_
    refine lv_iload_n hx hb dX8_placeOf_8 rfl (lv_at hl 2 rfl) ?_
    obtain ⟨hPc, hDc, hFc, hCc⟩ := va_pre (ws' := []) hP hD hS hA [] (by decide) rfl
    refine va_calli (va_runS (As := [.int pp]) (rest := []) ⟨hx, hb, hml, hown, hts⟩ (k_X8_isPerson l dC dI cA H.size pp ) (va_cwS 1 hts gX8_placeOf_X8_isPerson rfl rfl rfl (by decide +kernel) ⟨Nat.le_of_ble_eq_true rfl, Nat.le_of_ble_eq_true rfl⟩) ⟨fun a U g mk q => by obtain ⟨q0, q1, qP, qK, qD, qN⟩ := q; exact ⟨q0, q1, qP, va_K.moved (u := U) (U := U.calling g mk a) (Vm.Alike.refl U.vm) qK, qD, qN.same rfl⟩, fun U hU hW => ⟨rfl, by rw [hU], by rw [hU]; exact hPc, va_K.moved hW.alike hK, hDc.weaken (fun _ _ _ _ => trivial), hN.warm hW⟩⟩ rfl rfl hl.1 rfl (lv_room (Nat.le_of_ble_eq_true rfl)) dX8_placeOf_9 ⟨Nat.le_of_ble_eq_true rfl, Nat.le_of_ble_eq_true rfl⟩) hS (fun q _ h => hFc q h) hFc (fun r_6 u_7 t H1 locs ht hvm hw_8 hB hz1 hk1 hS => ?_)
    try dsimp only at hw_8 hB
    have po_9 := hw_8
    clear hw_8
    obtain ⟨hP1, hD1⟩ := hB
    rw [ht] at hP1
    obtain ⟨hP, hD⟩ := va_joinQ (wr := [((ax 21), .inr (1, [.ref (ax 22), .ref (ax 23), .ref (ax 24), .ref (ax 25), .int xPz])), ((ax 22), .inl (cA 0, 2000, .inl gPO)), ((ax 23), .inl (cA 0, 2000, .inl gPM)), ((ax 0), .inr (8, [.ref (ax 1), .ref (ax 7), .ref (ax 10), .ref (ax 11), .ref (ax 13), .ref (ax 15), .ref (ax 16), .ref (ax 21), .ref (ax 26), .ref (ax 27), .ref (ax 28), .int xNow, .int xEr, .int xTr, .int xMo, .int xFa, .int xRe])), ((ax 15), .inl (cA 5, 20, .inr (.inr (.inr (.inr gTr)))))]) (w1 := []) hP hD [] [0, 1, 2, 3, 4] rfl rfl (by decide) (by decide) hk1 hFc hP1 hD1
    clear hz1
    generalize H1 = H at hP hS ⊢
    replace hP : va_P (dC, dI) vwCl (([((ax 21), .inr (1, [.ref (ax 22), .ref (ax 23), .ref (ax 24), .ref (ax 25), .int xPz])), ((ax 22), .inl (cA 0, 2000, .inl gPO)), ((ax 23), .inl (cA 0, 2000, .inl gPM)), ((ax 0), .inr (8, [.ref (ax 1), .ref (ax 7), .ref (ax 10), .ref (ax 11), .ref (ax 13), .ref (ax 15), .ref (ax 16), .ref (ax 21), .ref (ax 26), .ref (ax 27), .ref (ax 28), .int xNow, .int xEr, .int xTr, .int xMo, .int xFa, .int xRe])), ((ax 15), .inl (cA 5, 20, .inr (.inr (.inr (.inr gTr)))))] : va_W) ++ va_pl L pf) H := hP
    replace hD : va_D A (([((ax 21), .inr (1, [.ref (ax 22), .ref (ax 23), .ref (ax 24), .ref (ax 25), .int xPz])), ((ax 22), .inl (cA 0, 2000, .inl gPO)), ((ax 23), .inl (cA 0, 2000, .inl gPM)), ((ax 0), .inr (8, [.ref (ax 1), .ref (ax 7), .ref (ax 10), .ref (ax 11), .ref (ax 13), .ref (ax 15), .ref (ax 16), .ref (ax 21), .ref (ax 26), .ref (ax 27), .ref (ax 28), .int xNow, .int xEr, .int xTr, .int xMo, .int xFa, .int xRe])), ((ax 15), .inl (cA 5, 20, .inr (.inr (.inr (.inr gTr)))))] : va_W) ++ va_pl L pf) := hD
    refine lv_if_eq (tgt := 22) hx hb dX8_placeOf_12 (by decide) (fun c_10 => ?_) (fun c_10 => ?_)
    · have dc_10 : r_6.toInt = 0 := jI_eq c_10 rfl (by decide)
      refine lv_iconst (v := (-1)) hx hb dX8_placeOf_22 (by decide) ?_
      have hP9 := hP.part (cx := [((ax 0), .inr (8, [.ref (ax 1), .ref (ax 7), .ref (ax 10), .ref (ax 11), .ref (ax 13), .ref (ax 15), .ref (ax 16), .ref (ax 21), .ref (ax 26), .ref (ax 27), .ref (ax 28), .int xNow, .int xEr, .int xTr, .int xMo, .int xFa, .int xRe])), ((ax 15), .inl (cA 5, 20, .inr (.inr (.inr (.inr gTr))))), ((ax 21), .inr (1, [.ref (ax 22), .ref (ax 23), .ref (ax 24), .ref (ax 25), .int xPz])), ((ax 22), .inl (cA 0, 2000, .inl gPO)), ((ax 23), .inl (cA 0, 2000, .inl gPM))]) [3, 4, 0, 1, 2] rfl
      have hD9 := hD.part (cx := [((ax 0), .inr (8, [.ref (ax 1), .ref (ax 7), .ref (ax 10), .ref (ax 11), .ref (ax 13), .ref (ax 15), .ref (ax 16), .ref (ax 21), .ref (ax 26), .ref (ax 27), .ref (ax 28), .int xNow, .int xEr, .int xTr, .int xMo, .int xFa, .int xRe])), ((ax 15), .inl (cA 5, 20, .inr (.inr (.inr (.inr gTr))))), ((ax 21), .inr (1, [.ref (ax 22), .ref (ax 23), .ref (ax 24), .ref (ax 25), .int xPz])), ((ax 22), .inl (cA 0, 2000, .inl gPO)), ((ax 23), .inl (cA 0, 2000, .inl gPM))]) [3, 4, 0, 1, 2] (by decide) rfl
      subst hQe
      have hans : ((-1) : Int32).toInt = (-1) := (by decide)
      have hpost : ((-1) ≤ ((-1) : Int32).toInt ∧ ((-1) : Int32).toInt ≤ 1999) := by omega
      exact W.iret (v := (-1)) hx hb hr (fun t ht hW => ⟨⟨(-1), (), rfl, hpost, by rw [ht]; exact hP9, hD9⟩, hS.F ht⟩) hS.2.2 dX8_placeOf_23
    · have dc_10 : ¬ r_6.toInt = 0 := jI_ne c_10 rfl (by decide)
      refine lv_iload_n hx hb dX8_placeOf_15 rfl (lv_at hl 3 rfl) ?_
      obtain ⟨hPc, hDc, hFc, hCc⟩ := va_pre (ws' := []) hP hD hS hA [] (by decide) rfl
      refine va_calli (va_runS (As := [.int mo]) (rest := []) ⟨hx, hb, hml, hown, hts⟩ (k_X8_isMoment l dC dI cA H.size mo ) (va_cwS 1 hts gX8_placeOf_X8_isMoment rfl rfl rfl (by decide +kernel) ⟨Nat.le_of_ble_eq_true rfl, Nat.le_of_ble_eq_true rfl⟩) ⟨fun a U g mk q => by obtain ⟨q0, q1, qP, qK, qD, qN⟩ := q; exact ⟨q0, q1, qP, va_K.moved (u := U) (U := U.calling g mk a) (Vm.Alike.refl U.vm) qK, qD, qN.same rfl⟩, fun U hU hW => ⟨rfl, by rw [hU], by rw [hU]; exact hPc, va_K.moved hW.alike hK, hDc.weaken (fun _ _ _ _ => trivial), hN.warm hW⟩⟩ rfl rfl hl.1 rfl (lv_room (Nat.le_of_ble_eq_true rfl)) dX8_placeOf_16 ⟨Nat.le_of_ble_eq_true rfl, Nat.le_of_ble_eq_true rfl⟩) hS (fun q _ h => hFc q h) hFc (fun r_11 u_12 t H1 locs ht hvm hw_13 hB hz1 hk1 hS => ?_)
      try dsimp only at hw_13 hB
      have po_14 := hw_13
      clear hw_13
      obtain ⟨hP1, hD1⟩ := hB
      rw [ht] at hP1
      obtain ⟨hP, hD⟩ := va_joinQ (wr := [((ax 21), .inr (1, [.ref (ax 22), .ref (ax 23), .ref (ax 24), .ref (ax 25), .int xPz])), ((ax 22), .inl (cA 0, 2000, .inl gPO)), ((ax 23), .inl (cA 0, 2000, .inl gPM)), ((ax 0), .inr (8, [.ref (ax 1), .ref (ax 7), .ref (ax 10), .ref (ax 11), .ref (ax 13), .ref (ax 15), .ref (ax 16), .ref (ax 21), .ref (ax 26), .ref (ax 27), .ref (ax 28), .int xNow, .int xEr, .int xTr, .int xMo, .int xFa, .int xRe])), ((ax 15), .inl (cA 5, 20, .inr (.inr (.inr (.inr gTr)))))]) (w1 := []) hP hD [] [0, 1, 2, 3, 4] rfl rfl (by decide) (by decide) hk1 hFc hP1 hD1
      clear hz1
      generalize H1 = H at hP hS ⊢
      replace hP : va_P (dC, dI) vwCl (([((ax 21), .inr (1, [.ref (ax 22), .ref (ax 23), .ref (ax 24), .ref (ax 25), .int xPz])), ((ax 22), .inl (cA 0, 2000, .inl gPO)), ((ax 23), .inl (cA 0, 2000, .inl gPM)), ((ax 0), .inr (8, [.ref (ax 1), .ref (ax 7), .ref (ax 10), .ref (ax 11), .ref (ax 13), .ref (ax 15), .ref (ax 16), .ref (ax 21), .ref (ax 26), .ref (ax 27), .ref (ax 28), .int xNow, .int xEr, .int xTr, .int xMo, .int xFa, .int xRe])), ((ax 15), .inl (cA 5, 20, .inr (.inr (.inr (.inr gTr)))))] : va_W) ++ va_pl L pf) H := hP
      replace hD : va_D A (([((ax 21), .inr (1, [.ref (ax 22), .ref (ax 23), .ref (ax 24), .ref (ax 25), .int xPz])), ((ax 22), .inl (cA 0, 2000, .inl gPO)), ((ax 23), .inl (cA 0, 2000, .inl gPM)), ((ax 0), .inr (8, [.ref (ax 1), .ref (ax 7), .ref (ax 10), .ref (ax 11), .ref (ax 13), .ref (ax 15), .ref (ax 16), .ref (ax 21), .ref (ax 26), .ref (ax 27), .ref (ax 28), .int xNow, .int xEr, .int xTr, .int xMo, .int xFa, .int xRe])), ((ax 15), .inl (cA 5, 20, .inr (.inr (.inr (.inr gTr)))))] : va_W) ++ va_pl L pf) := hD
      refine lv_if_ne (tgt := 24) hx hb dX8_placeOf_19 (by decide) (fun c_15 => ?_) (fun c_15 => ?_)
      · have dc_15 : ¬ r_11.toInt = 0 := jI_ne c_15 rfl (by decide)
        refine lv_aload_n hx hb dX8_placeOf_24 rfl (lv_at hl 0 rfl) ?_
        refine va_get (D := (dC, dI)) (ci := 8) (v := .ref (ax 21)) (C := RX8) (T := TX8) (N := 17) hx hb hts hIX8 hown hK hP 3 rfl rfl 7 (by decide) (hts (.fieldLink RX8 61 "TraitHouse" "places" "LTraitHouse$Places;") (by decide +kernel)) (fun _ h9 => h9) rfl dX8_placeOf_25 ?_
        refine lv_iload_n hx hb dX8_placeOf_28 rfl (lv_at hl 1 rfl) ?_
        refine lv_iload_n hx hb dX8_placeOf_29 rfl (lv_at hl 2 rfl) ?_
        refine lv_iload_n hx hb dX8_placeOf_30 rfl (lv_at hl 3 rfl) ?_
        obtain ⟨hPc, hDc, hFc, hCc⟩ := va_pre (ws' := [((ax 21), .inr (1, [.ref (ax 22), .ref (ax 23), .ref (ax 24), .ref (ax 25), .int xPz])), ((ax 22), .inl (cA 0, 2000, .inl gPO)), ((ax 23), .inl (cA 0, 2000, .inl gPM))]) hP hD hS hA [0, 1, 2] (by decide) rfl
        refine va_calli (va_runVN (As := [.int tt, .int pp, .int mo]) (rest := []) ⟨hx, hb, hml, hown, hts⟩ (k_X1_find l dC dI cA H.size ax xPz gPO gPM tt pp mo i_xPz) ⟨(va_cnB 3 hts gX8_placeOf_X1_find_n247 rfl rfl rfl (nw_at hN 58 rfl) (hts (.initialized RX1) (by decide +kernel)) (by decide +kernel) ⟨Nat.le_of_ble_eq_true rfl, Nat.le_of_ble_eq_true rfl⟩), (hts (.instanceMethod yX1_find) (by decide +kernel)), (hts (.selects RX1 yX1_find yX1_find) (by decide +kernel))⟩ ⟨fun a U g mk q => by obtain ⟨q0, q1, qP, qK, qD, qN⟩ := q; exact ⟨q0, q1, qP, va_K.moved (u := U) (U := U.calling g mk a) (Vm.Alike.refl U.vm) qK, qD, qN.same rfl⟩, va_recv hK hPc (ci := 1) (q0 := 0) rfl rfl, fun U hU hW => ⟨rfl, by rw [hU], by rw [hU]; exact hPc, va_K.moved hW.alike hK, hDc.weaken (fun _ _ _ _ => trivial), hN.warm hW⟩⟩ rfl rfl hl.1 rfl (lv_room (Nat.le_of_ble_eq_true rfl)) dX8_placeOf_31 ⟨Nat.le_of_ble_eq_true rfl, Nat.le_of_ble_eq_true rfl⟩) hS (fun q _ h => hFc q h) hFc (fun r_16 u_17 t H1 locs ht hvm hw_18 hB hz1 hk1 hS => ?_)
        try dsimp only at hw_18 hB
        have po_19 := hw_18
        clear hw_18
        obtain ⟨hP1, hD1⟩ := hB
        rw [ht] at hP1
        obtain ⟨hP, hD⟩ := va_joinQ (wr := [((ax 0), .inr (8, [.ref (ax 1), .ref (ax 7), .ref (ax 10), .ref (ax 11), .ref (ax 13), .ref (ax 15), .ref (ax 16), .ref (ax 21), .ref (ax 26), .ref (ax 27), .ref (ax 28), .int xNow, .int xEr, .int xTr, .int xMo, .int xFa, .int xRe])), ((ax 15), .inl (cA 5, 20, .inr (.inr (.inr (.inr gTr)))))]) (w1 := [((ax 21), .inr (1, [.ref (ax 22), .ref (ax 23), .ref (ax 24), .ref (ax 25), .int xPz])), ((ax 22), .inl (cA 0, 2000, .inl gPO)), ((ax 23), .inl (cA 0, 2000, .inl gPM))]) hP hD [0, 1, 2] [3, 4] rfl rfl (by decide) (by decide) hk1 hFc hP1 hD1
        clear hz1
        generalize H1 = H at hP hS ⊢
        replace hP : va_P (dC, dI) vwCl (([((ax 0), .inr (8, [.ref (ax 1), .ref (ax 7), .ref (ax 10), .ref (ax 11), .ref (ax 13), .ref (ax 15), .ref (ax 16), .ref (ax 21), .ref (ax 26), .ref (ax 27), .ref (ax 28), .int xNow, .int xEr, .int xTr, .int xMo, .int xFa, .int xRe])), ((ax 15), .inl (cA 5, 20, .inr (.inr (.inr (.inr gTr))))), ((ax 21), .inr (1, [.ref (ax 22), .ref (ax 23), .ref (ax 24), .ref (ax 25), .int xPz])), ((ax 22), .inl (cA 0, 2000, .inl gPO)), ((ax 23), .inl (cA 0, 2000, .inl gPM))] : va_W) ++ va_pl L pf) H := hP
        replace hD : va_D A (([((ax 0), .inr (8, [.ref (ax 1), .ref (ax 7), .ref (ax 10), .ref (ax 11), .ref (ax 13), .ref (ax 15), .ref (ax 16), .ref (ax 21), .ref (ax 26), .ref (ax 27), .ref (ax 28), .int xNow, .int xEr, .int xTr, .int xMo, .int xFa, .int xRe])), ((ax 15), .inl (cA 5, 20, .inr (.inr (.inr (.inr gTr))))), ((ax 21), .inr (1, [.ref (ax 22), .ref (ax 23), .ref (ax 24), .ref (ax 25), .int xPz])), ((ax 22), .inl (cA 0, 2000, .inl gPO)), ((ax 23), .inl (cA 0, 2000, .inl gPM))] : va_W) ++ va_pl L pf) := hD
        have hP9 := hP.part (cx := [((ax 0), .inr (8, [.ref (ax 1), .ref (ax 7), .ref (ax 10), .ref (ax 11), .ref (ax 13), .ref (ax 15), .ref (ax 16), .ref (ax 21), .ref (ax 26), .ref (ax 27), .ref (ax 28), .int xNow, .int xEr, .int xTr, .int xMo, .int xFa, .int xRe])), ((ax 15), .inl (cA 5, 20, .inr (.inr (.inr (.inr gTr))))), ((ax 21), .inr (1, [.ref (ax 22), .ref (ax 23), .ref (ax 24), .ref (ax 25), .int xPz])), ((ax 22), .inl (cA 0, 2000, .inl gPO)), ((ax 23), .inl (cA 0, 2000, .inl gPM))]) [0, 1, 2, 3, 4] rfl
        have hD9 := hD.part (cx := [((ax 0), .inr (8, [.ref (ax 1), .ref (ax 7), .ref (ax 10), .ref (ax 11), .ref (ax 13), .ref (ax 15), .ref (ax 16), .ref (ax 21), .ref (ax 26), .ref (ax 27), .ref (ax 28), .int xNow, .int xEr, .int xTr, .int xMo, .int xFa, .int xRe])), ((ax 15), .inl (cA 5, 20, .inr (.inr (.inr (.inr gTr))))), ((ax 21), .inr (1, [.ref (ax 22), .ref (ax 23), .ref (ax 24), .ref (ax 25), .int xPz])), ((ax 22), .inl (cA 0, 2000, .inl gPO)), ((ax 23), .inl (cA 0, 2000, .inl gPM))]) [0, 1, 2, 3, 4] (by decide) rfl
        subst hQe
        have hans : (r_16 : Int32).toInt = r_16.toInt := rfl
        have hpost : ((-1) ≤ (r_16 : Int32).toInt ∧ (r_16 : Int32).toInt ≤ 1999) := by omega
        exact W.iret (v := r_16) hx hb hr (fun t ht hW => ⟨⟨r_16, (), rfl, hpost, by rw [ht]; exact hP9, hD9⟩, hS.F ht⟩) hS.2.2 dX8_placeOf_34
      · have dc_15 : r_11.toInt = 0 := jI_eq c_15 rfl (by decide)
        refine lv_iconst (v := (-1)) hx hb dX8_placeOf_22 (by decide) ?_
        have hP9 := hP.part (cx := [((ax 0), .inr (8, [.ref (ax 1), .ref (ax 7), .ref (ax 10), .ref (ax 11), .ref (ax 13), .ref (ax 15), .ref (ax 16), .ref (ax 21), .ref (ax 26), .ref (ax 27), .ref (ax 28), .int xNow, .int xEr, .int xTr, .int xMo, .int xFa, .int xRe])), ((ax 15), .inl (cA 5, 20, .inr (.inr (.inr (.inr gTr))))), ((ax 21), .inr (1, [.ref (ax 22), .ref (ax 23), .ref (ax 24), .ref (ax 25), .int xPz])), ((ax 22), .inl (cA 0, 2000, .inl gPO)), ((ax 23), .inl (cA 0, 2000, .inl gPM))]) [3, 4, 0, 1, 2] rfl
        have hD9 := hD.part (cx := [((ax 0), .inr (8, [.ref (ax 1), .ref (ax 7), .ref (ax 10), .ref (ax 11), .ref (ax 13), .ref (ax 15), .ref (ax 16), .ref (ax 21), .ref (ax 26), .ref (ax 27), .ref (ax 28), .int xNow, .int xEr, .int xTr, .int xMo, .int xFa, .int xRe])), ((ax 15), .inl (cA 5, 20, .inr (.inr (.inr (.inr gTr))))), ((ax 21), .inr (1, [.ref (ax 22), .ref (ax 23), .ref (ax 24), .ref (ax 25), .int xPz])), ((ax 22), .inl (cA 0, 2000, .inl gPO)), ((ax 23), .inl (cA 0, 2000, .inl gPM))]) [3, 4, 0, 1, 2] (by decide) rfl
        subst hQe
        have hans : ((-1) : Int32).toInt = (-1) := (by decide)
        have hpost : ((-1) ≤ ((-1) : Int32).toInt ∧ ((-1) : Int32).toInt ≤ 1999) := by omega
        exact W.iret (v := (-1)) hx hb hr (fun t ht hW => ⟨⟨(-1), (), rfl, hpost, by rw [ht]; exact hP9, hD9⟩, hS.F ht⟩) hS.2.2 dX8_placeOf_23
  · have hrq := po_4.2 hT_5
    obtain rfl : r_1 = none := hrq
    refine W.eq (g2 := F0 m 5 ls [.null]) rfl ?_
    refine lv_ifnullN (tgt := 22) hx hb dX8_placeOf_5 (by decide) ?_
    refine lv_iconst (v := (-1)) hx hb dX8_placeOf_22 (by decide) ?_
    have hP9 := hP.part (cx := [((ax 0), .inr (8, [.ref (ax 1), .ref (ax 7), .ref (ax 10), .ref (ax 11), .ref (ax 13), .ref (ax 15), .ref (ax 16), .ref (ax 21), .ref (ax 26), .ref (ax 27), .ref (ax 28), .int xNow, .int xEr, .int xTr, .int xMo, .int xFa, .int xRe])), ((ax 15), .inl (cA 5, 20, .inr (.inr (.inr (.inr gTr))))), ((ax 21), .inr (1, [.ref (ax 22), .ref (ax 23), .ref (ax 24), .ref (ax 25), .int xPz])), ((ax 22), .inl (cA 0, 2000, .inl gPO)), ((ax 23), .inl (cA 0, 2000, .inl gPM))]) [3, 4, 0, 1, 2] rfl
    have hD9 := hD.part (cx := [((ax 0), .inr (8, [.ref (ax 1), .ref (ax 7), .ref (ax 10), .ref (ax 11), .ref (ax 13), .ref (ax 15), .ref (ax 16), .ref (ax 21), .ref (ax 26), .ref (ax 27), .ref (ax 28), .int xNow, .int xEr, .int xTr, .int xMo, .int xFa, .int xRe])), ((ax 15), .inl (cA 5, 20, .inr (.inr (.inr (.inr gTr))))), ((ax 21), .inr (1, [.ref (ax 22), .ref (ax 23), .ref (ax 24), .ref (ax 25), .int xPz])), ((ax 22), .inl (cA 0, 2000, .inl gPO)), ((ax 23), .inl (cA 0, 2000, .inl gPM))]) [3, 4, 0, 1, 2] (by decide) rfl
    subst hQe
    have hans : ((-1) : Int32).toInt = (-1) := (by decide)
    have hpost : ((-1) ≤ ((-1) : Int32).toInt ∧ ((-1) : Int32).toInt ≤ 1999) := by omega
    exact W.iret (v := (-1)) hx hb hr (fun t ht hW => ⟨⟨(-1), (), rfl, hpost, by rw [ht]; exact hP9, hD9⟩, hS.F ht⟩) hS.2.2 dX8_placeOf_23

set_option maxHeartbeats 8000000 in
set_option maxRecDepth 100000 in
theorem k_X8_history (l : Launch) (dC : Nat → ClassId) (dI : Nat → Nat → Nat) (cA : Nat → ClassId) (sz : Nat) (ax : Nat → Nat) (xNow : Int32) (xEr : Int32) (xTr : Int32) (xMo : Int32) (xFa : Int32) (xRe : Int32) (gTr : Nat → Option Nat) (xPz : Int32) (gPO : Nat → Int32) (gPM : Nat → Int32) (gPV : Nat → Int64) (L : List Nat) (pf : Nat → va_E) (tt : Int32) (pp : Int32) (mo : Int32) (nd : Nat → Int32) (sl : Nat → Int32) (i_xNow : 0 ≤ xNow.toInt ∧ xNow.toInt ≤ 100000) (i_xTr : 0 ≤ xTr.toInt ∧ xTr.toInt ≤ 20) (i_xMo : 0 ≤ xMo.toInt ∧ xMo.toInt ≤ 10) (i_xPz : 0 ≤ xPz.toInt ∧ xPz.toInt ≤ 2000) (hTP : TP cA xTr gTr L pf nd sl) : Met l yX8_history wsX8_history ({ frames := 3, cells := 0, slots := 0, locals := 70 }) (va_Pc [.ref (ax 0), .int tt, .int pp, .int mo] (fun U => U.heap.size = sz ∧ va_P (dC, dI) vwCl (([((ax 0), .inr (8, [.ref (ax 1), .ref (ax 7), .ref (ax 10), .ref (ax 11), .ref (ax 13), .ref (ax 15), .ref (ax 16), .ref (ax 21), .ref (ax 26), .ref (ax 27), .ref (ax 28), .int xNow, .int xEr, .int xTr, .int xMo, .int xFa, .int xRe])), ((ax 15), .inl (cA 5, 20, .inr (.inr (.inr (.inr gTr))))), ((ax 21), .inr (1, [.ref (ax 22), .ref (ax 23), .ref (ax 24), .ref (ax 25), .int xPz])), ((ax 22), .inl (cA 0, 2000, .inl gPO)), ((ax 23), .inl (cA 0, 2000, .inl gPM)), ((ax 25), .inl (cA 1, 2000, .inr (.inl gPV)))] : va_W) ++ va_pl L pf) U.heap ∧ va_K (dC, dI) vwCl (tyL cA) U ∧ va_D (fun _ => True) (([((ax 0), .inr (8, [.ref (ax 1), .ref (ax 7), .ref (ax 10), .ref (ax 11), .ref (ax 13), .ref (ax 15), .ref (ax 16), .ref (ax 21), .ref (ax 26), .ref (ax 27), .ref (ax 28), .int xNow, .int xEr, .int xTr, .int xMo, .int xFa, .int xRe])), ((ax 15), .inl (cA 5, 20, .inr (.inr (.inr (.inr gTr))))), ((ax 21), .inr (1, [.ref (ax 22), .ref (ax 23), .ref (ax 24), .ref (ax 25), .int xPz])), ((ax 22), .inl (cA 0, 2000, .inl gPO)), ((ax 23), .inl (cA 0, 2000, .inl gPM)), ((ax 25), .inl (cA 1, 2000, .inr (.inl gPV)))] : va_W) ++ va_pl L pf) ∧ nw_ok U)) (va_Ql (fun (r : Int64) (_ : Unit) => True) (fun (_ : Unit) (t : State) => va_P (dC, dI) vwCl (([((ax 0), .inr (8, [.ref (ax 1), .ref (ax 7), .ref (ax 10), .ref (ax 11), .ref (ax 13), .ref (ax 15), .ref (ax 16), .ref (ax 21), .ref (ax 26), .ref (ax 27), .ref (ax 28), .int xNow, .int xEr, .int xTr, .int xMo, .int xFa, .int xRe])), ((ax 15), .inl (cA 5, 20, .inr (.inr (.inr (.inr gTr))))), ((ax 21), .inr (1, [.ref (ax 22), .ref (ax 23), .ref (ax 24), .ref (ax 25), .int xPz])), ((ax 22), .inl (cA 0, 2000, .inl gPO)), ((ax 23), .inl (cA 0, 2000, .inl gPM)), ((ax 25), .inl (cA 1, 2000, .inr (.inl gPV)))] : va_W) ++ va_pl L pf) t.heap ∧ va_D (va_A (([((ax 0), .inr (8, [.ref (ax 1), .ref (ax 7), .ref (ax 10), .ref (ax 11), .ref (ax 13), .ref (ax 15), .ref (ax 16), .ref (ax 21), .ref (ax 26), .ref (ax 27), .ref (ax 28), .int xNow, .int xEr, .int xTr, .int xMo, .int xFa, .int xRe])), ((ax 15), .inl (cA 5, 20, .inr (.inr (.inr (.inr gTr))))), ((ax 21), .inr (1, [.ref (ax 22), .ref (ax 23), .ref (ax 24), .ref (ax 25), .int xPz])), ((ax 22), .inl (cA 0, 2000, .inl gPO)), ((ax 23), .inl (cA 0, 2000, .inl gPM)), ((ax 25), .inl (cA 1, 2000, .inr (.inl gPV)))] : va_W) ++ va_pl L pf) sz) (([((ax 0), .inr (8, [.ref (ax 1), .ref (ax 7), .ref (ax 10), .ref (ax 11), .ref (ax 13), .ref (ax 15), .ref (ax 16), .ref (ax 21), .ref (ax 26), .ref (ax 27), .ref (ax 28), .int xNow, .int xEr, .int xTr, .int xMo, .int xFa, .int xRe])), ((ax 15), .inl (cA 5, 20, .inr (.inr (.inr (.inr gTr))))), ((ax 21), .inr (1, [.ref (ax 22), .ref (ax 23), .ref (ax 24), .ref (ax 25), .int xPz])), ((ax 22), .inl (cA 0, 2000, .inl gPO)), ((ax 23), .inl (cA 0, 2000, .inl gPM)), ((ax 25), .inl (cA 1, 2000, .inr (.inl gPV)))] : va_W) ++ va_pl L pf)) (va_A (([((ax 0), .inr (8, [.ref (ax 1), .ref (ax 7), .ref (ax 10), .ref (ax 11), .ref (ax 13), .ref (ax 15), .ref (ax 16), .ref (ax 21), .ref (ax 26), .ref (ax 27), .ref (ax 28), .int xNow, .int xEr, .int xTr, .int xMo, .int xFa, .int xRe])), ((ax 15), .inl (cA 5, 20, .inr (.inr (.inr (.inr gTr))))), ((ax 21), .inr (1, [.ref (ax 22), .ref (ax 23), .ref (ax 24), .ref (ax 25), .int xPz])), ((ax 22), .inl (cA 0, 2000, .inl gPO)), ((ax 23), .inl (cA 0, 2000, .inl gPM)), ((ax 25), .inl (cA 1, 2000, .inr (.inl gPV)))] : va_W) ++ va_pl L pf) sz)) 0 0 (va_A (([((ax 0), .inr (8, [.ref (ax 1), .ref (ax 7), .ref (ax 10), .ref (ax 11), .ref (ax 13), .ref (ax 15), .ref (ax 16), .ref (ax 21), .ref (ax 26), .ref (ax 27), .ref (ax 28), .int xNow, .int xEr, .int xTr, .int xMo, .int xFa, .int xRe])), ((ax 15), .inl (cA 5, 20, .inr (.inr (.inr (.inr gTr))))), ((ax 21), .inr (1, [.ref (ax 22), .ref (ax 23), .ref (ax 24), .ref (ax 25), .int xPz])), ((ax 22), .inl (cA 0, 2000, .inl gPO)), ((ax 23), .inl (cA 0, 2000, .inl gPM)), ((ax 25), .inl (cA 1, 2000, .inr (.inl gPV)))] : va_W) ++ va_pl L pf) sz) := by
  refine Met.ofW (cc := cX8_history) (maxL := 5) (ret := (some .long)) (by decide) rfl ?_
  intro p e s m args below meth c s₁ B hml hv
  obtain ⟨rfl, hsz, hP, hK, hD0, hN⟩ := hv
  have hx := B.exec
  have hb := B.bytes
  have hr := B.returns
  have hts := atoms_spec (ws := wsX8_history) B.pre
  have hown : s.vm.findClass RX8 = some m.cls := findClass_of_methodNamed B.named
  have hlocks := B.notSynchronized
  subst hsz
  have hD := hD0.self (sz := s.heap.size)
  generalize hAe : va_A (([((ax 0), .inr (8, [.ref (ax 1), .ref (ax 7), .ref (ax 10), .ref (ax 11), .ref (ax 13), .ref (ax 15), .ref (ax 16), .ref (ax 21), .ref (ax 26), .ref (ax 27), .ref (ax 28), .int xNow, .int xEr, .int xTr, .int xMo, .int xFa, .int xRe])), ((ax 15), .inl (cA 5, 20, .inr (.inr (.inr (.inr gTr))))), ((ax 21), .inr (1, [.ref (ax 22), .ref (ax 23), .ref (ax 24), .ref (ax 25), .int xPz])), ((ax 22), .inl (cA 0, 2000, .inl gPO)), ((ax 23), .inl (cA 0, 2000, .inl gPM)), ((ax 25), .inl (cA 1, 2000, .inr (.inl gPV)))] : va_W) ++ va_pl L pf) s.heap.size = A at hD ⊢
  have hA : ∀ q : Nat, s.heap.size ≤ q → A q := fun q h => by rw [← hAe]; exact Or.inr h
  have hS : va_S A s.heap s.heap [] := va_S.rf
  have hIX1 : ∀ w ∈ u_ws RX1 TX1 5, w ∈ wsX8_history := by decide +kernel
  have hIX8 : ∀ w ∈ u_ws RX8 TX8 17, w ∈ wsX8_history := by decide +kernel
  have hl := lv_entry ([.ref (ax 0), .int tt, .int pp, .int mo]) (n := 5) (Nat.le_of_ble_eq_true rfl)
  rw [lg_entry_eq]
  generalize (lg_sl ([.ref (ax 0), .int tt, .int pp, .int mo]) ++ List.replicate (5 - (lg_sl ([.ref (ax 0), .int tt, .int pp, .int mo])).length) Slot.unset).toArray = ls at hl ⊢
  have hl : lv_has ls 5 [(0, .ref (ax 0)), (1, .int tt), (2, .int pp), (3, .int mo)] := hl
  generalize hQe : MQ below _ _ _ _ _ _ = QQ
  refine lv_aload_n hx hb dX8_history_0 rfl (lv_at hl 0 rfl) ?_
  refine lv_iload_n hx hb dX8_history_1 rfl (lv_at hl 1 rfl) ?_
  refine lv_iload_n hx hb dX8_history_2 rfl (lv_at hl 2 rfl) ?_
  refine lv_iload_n hx hb dX8_history_3 rfl (lv_at hl 3 rfl) ?_
  have hPc := hP.part (cx := [((ax 0), .inr (8, [.ref (ax 1), .ref (ax 7), .ref (ax 10), .ref (ax 11), .ref (ax 13), .ref (ax 15), .ref (ax 16), .ref (ax 21), .ref (ax 26), .ref (ax 27), .ref (ax 28), .int xNow, .int xEr, .int xTr, .int xMo, .int xFa, .int xRe])), ((ax 15), .inl (cA 5, 20, .inr (.inr (.inr (.inr gTr))))), ((ax 21), .inr (1, [.ref (ax 22), .ref (ax 23), .ref (ax 24), .ref (ax 25), .int xPz])), ((ax 22), .inl (cA 0, 2000, .inl gPO)), ((ax 23), .inl (cA 0, 2000, .inl gPM))]) [0, 1, 2, 3, 4] rfl
  have hDc := hD.part (cx := [((ax 0), .inr (8, [.ref (ax 1), .ref (ax 7), .ref (ax 10), .ref (ax 11), .ref (ax 13), .ref (ax 15), .ref (ax 16), .ref (ax 21), .ref (ax 26), .ref (ax 27), .ref (ax 28), .int xNow, .int xEr, .int xTr, .int xMo, .int xFa, .int xRe])), ((ax 15), .inl (cA 5, 20, .inr (.inr (.inr (.inr gTr))))), ((ax 21), .inr (1, [.ref (ax 22), .ref (ax 23), .ref (ax 24), .ref (ax 25), .int xPz])), ((ax 22), .inl (cA 0, 2000, .inl gPO)), ((ax 23), .inl (cA 0, 2000, .inl gPM))]) [0, 1, 2, 3, 4] (by decide) rfl
  have hFc := va_freeP (cx := [((ax 0), .inr (8, [.ref (ax 1), .ref (ax 7), .ref (ax 10), .ref (ax 11), .ref (ax 13), .ref (ax 15), .ref (ax 16), .ref (ax 21), .ref (ax 26), .ref (ax 27), .ref (ax 28), .int xNow, .int xEr, .int xTr, .int xMo, .int xFa, .int xRe])), ((ax 15), .inl (cA 5, 20, .inr (.inr (.inr (.inr gTr))))), ((ax 21), .inr (1, [.ref (ax 22), .ref (ax 23), .ref (ax 24), .ref (ax 25), .int xPz])), ((ax 22), .inl (cA 0, 2000, .inl gPO)), ((ax 23), .inl (cA 0, 2000, .inl gPM))]) hD hS hA [0, 1, 2, 3, 4] rfl
  refine va_calli (va_runV (As := [.int tt, .int pp, .int mo]) (rest := []) ⟨hx, hb, hml, hown, hts⟩ (k_X8_placeOf l dC dI cA s.heap.size ax xNow xEr xTr xMo xFa xRe gTr xPz gPO gPM L pf tt pp mo nd sl i_xNow i_xTr i_xMo i_xPz hTP) (cwV 3 hts gX8_history_X8_placeOf rfl rfl rfl (by decide +kernel) ⟨Nat.le_of_ble_eq_true rfl, Nat.le_of_ble_eq_true rfl⟩) ⟨fun a U g mk q => by obtain ⟨q0, q1, qP, qK, qD, qN⟩ := q; exact ⟨q0, q1, qP, va_K.moved (u := U) (U := U.calling g mk a) (Vm.Alike.refl U.vm) qK, qD, qN.same rfl⟩, va_recv hK hPc (ci := 8) (q0 := 0) rfl rfl, fun U hU hW => ⟨rfl, by rw [hU], by rw [hU]; exact hPc, va_K.moved hW.alike hK, hDc.weaken (fun _ _ _ _ => trivial), hN.warm hW⟩⟩ rfl rfl hl.1 rfl (lv_room (Nat.le_of_ble_eq_true rfl)) dX8_history_4 ⟨Nat.le_of_ble_eq_true rfl, Nat.le_of_ble_eq_true rfl⟩) hS (fun q _ h => hFc q h) hFc (fun r_1 u_2 t H1 locs ht hvm hw_3 hB hz1 hk1 hS => ?_)
  try dsimp only at hw_3 hB
  have po_4 := hw_3
  clear hw_3
  obtain ⟨hP1, hD1⟩ := hB
  rw [ht] at hP1
  obtain ⟨hP, hD⟩ := va_joinP (wr := [((ax 25), .inl (cA 1, 2000, .inr (.inl gPV)))]) (rx := [((ax 0), .inr (8, [.ref (ax 1), .ref (ax 7), .ref (ax 10), .ref (ax 11), .ref (ax 13), .ref (ax 15), .ref (ax 16), .ref (ax 21), .ref (ax 26), .ref (ax 27), .ref (ax 28), .int xNow, .int xEr, .int xTr, .int xMo, .int xFa, .int xRe])), ((ax 15), .inl (cA 5, 20, .inr (.inr (.inr (.inr gTr))))), ((ax 21), .inr (1, [.ref (ax 22), .ref (ax 23), .ref (ax 24), .ref (ax 25), .int xPz])), ((ax 22), .inl (cA 0, 2000, .inl gPO)), ((ax 23), .inl (cA 0, 2000, .inl gPM))]) (pl1 := va_pl L pf) hP hD [0, 1, 2, 3, 4] [5] rfl rfl (by decide) (by decide) hk1 hFc hP1 hD1
  clear hz1
  generalize H1 = H at hP hS ⊢
  replace hP : va_P (dC, dI) vwCl (([((ax 25), .inl (cA 1, 2000, .inr (.inl gPV))), ((ax 0), .inr (8, [.ref (ax 1), .ref (ax 7), .ref (ax 10), .ref (ax 11), .ref (ax 13), .ref (ax 15), .ref (ax 16), .ref (ax 21), .ref (ax 26), .ref (ax 27), .ref (ax 28), .int xNow, .int xEr, .int xTr, .int xMo, .int xFa, .int xRe])), ((ax 15), .inl (cA 5, 20, .inr (.inr (.inr (.inr gTr))))), ((ax 21), .inr (1, [.ref (ax 22), .ref (ax 23), .ref (ax 24), .ref (ax 25), .int xPz])), ((ax 22), .inl (cA 0, 2000, .inl gPO)), ((ax 23), .inl (cA 0, 2000, .inl gPM))] : va_W) ++ va_pl L pf) H := hP
  replace hD : va_D A (([((ax 25), .inl (cA 1, 2000, .inr (.inl gPV))), ((ax 0), .inr (8, [.ref (ax 1), .ref (ax 7), .ref (ax 10), .ref (ax 11), .ref (ax 13), .ref (ax 15), .ref (ax 16), .ref (ax 21), .ref (ax 26), .ref (ax 27), .ref (ax 28), .int xNow, .int xEr, .int xTr, .int xMo, .int xFa, .int xRe])), ((ax 15), .inl (cA 5, 20, .inr (.inr (.inr (.inr gTr))))), ((ax 21), .inr (1, [.ref (ax 22), .ref (ax 23), .ref (ax 24), .ref (ax 25), .int xPz])), ((ax 22), .inl (cA 0, 2000, .inl gPO)), ((ax 23), .inl (cA 0, 2000, .inl gPM))] : va_W) ++ va_pl L pf) := hD
  refine lv_istore (lv' := [(4, .int r_1), (0, .ref (ax 0)), (1, .int tt), (2, .int pp), (3, .int mo)]) hx hb dX8_history_7 hl (by decide) rfl (fun ls hl => ?_)
  refine lv_iload hx hb dX8_history_9 (lv_at hl 0 rfl) ?_
  refine lv_iconst (v := (-1)) hx hb dX8_history_11 (by decide) ?_
  refine lv_icmp_ne (tgt := 21) hx hb dX8_history_12 (by decide) (fun c_5 => ?_) (fun c_5 => ?_)
  · have dc_5 : ¬ r_1.toInt = (-1) := jI_ne c_5 rfl (by decide)
    refine lv_aload_n hx hb dX8_history_21 rfl (lv_at hl 1 rfl) ?_
    refine va_get (D := (dC, dI)) (ci := 8) (v := .ref (ax 21)) (C := RX8) (T := TX8) (N := 17) hx hb hts hIX8 hown hK hP 1 rfl rfl 7 (by decide) (hts (.fieldLink RX8 61 "TraitHouse" "places" "LTraitHouse$Places;") (by decide +kernel)) (fun _ h9 => h9) rfl dX8_history_22 ?_
    refine va_getN (D := (dC, dI)) (ci := 1) (v := .ref (ax 25)) (C := RX1) (T := TX1) (N := 5) hx hb hts hIX1 hown hK hP 3 rfl rfl 3 (by decide) (va_Nw.use rfl (nw_at hN 15 rfl)) (fun _ h9 => h9) rfl dX8_history_25 ?_
    refine lv_iload hx hb dX8_history_28 (lv_at hl 0 rfl) ?_
    have h_6 : vp_in r_1 2000 := (vp_in_iff.mpr ⟨by omega, by omega⟩)
    refine va_lald hx hb hK hP 0 1 rfl rfl h_6 dX8_history_30 ?_
    refine lv_topl (fun y_7 ey_7 => ?_)
    have hP9 := hP.part (cx := [((ax 0), .inr (8, [.ref (ax 1), .ref (ax 7), .ref (ax 10), .ref (ax 11), .ref (ax 13), .ref (ax 15), .ref (ax 16), .ref (ax 21), .ref (ax 26), .ref (ax 27), .ref (ax 28), .int xNow, .int xEr, .int xTr, .int xMo, .int xFa, .int xRe])), ((ax 15), .inl (cA 5, 20, .inr (.inr (.inr (.inr gTr))))), ((ax 21), .inr (1, [.ref (ax 22), .ref (ax 23), .ref (ax 24), .ref (ax 25), .int xPz])), ((ax 22), .inl (cA 0, 2000, .inl gPO)), ((ax 23), .inl (cA 0, 2000, .inl gPM)), ((ax 25), .inl (cA 1, 2000, .inr (.inl gPV)))]) [1, 2, 3, 4, 5, 0] rfl
    have hD9 := hD.part (cx := [((ax 0), .inr (8, [.ref (ax 1), .ref (ax 7), .ref (ax 10), .ref (ax 11), .ref (ax 13), .ref (ax 15), .ref (ax 16), .ref (ax 21), .ref (ax 26), .ref (ax 27), .ref (ax 28), .int xNow, .int xEr, .int xTr, .int xMo, .int xFa, .int xRe])), ((ax 15), .inl (cA 5, 20, .inr (.inr (.inr (.inr gTr))))), ((ax 21), .inr (1, [.ref (ax 22), .ref (ax 23), .ref (ax 24), .ref (ax 25), .int xPz])), ((ax 22), .inl (cA 0, 2000, .inl gPO)), ((ax 23), .inl (cA 0, 2000, .inl gPM)), ((ax 25), .inl (cA 1, 2000, .inr (.inl gPV)))]) [1, 2, 3, 4, 5, 0] (by decide) rfl
    subst hQe
    have hans : (y_7 : Int64).toInt = y_7.toInt := rfl
    exact W.lret (v := y_7) hx hb hr (fun t ht hW => ⟨⟨y_7, (), rfl, trivial, by rw [ht]; exact hP9, hD9⟩, hS.F ht⟩) hS.2.2 dX8_history_31
  · have dc_5 : r_1.toInt = (-1) := jI_eq c_5 rfl (by decide)
    refine lv_ldc2 hx hb hown (hts (.constantLong RX8 175 (-9000000000000000000)) (by decide +kernel)) dX8_history_15 ?_
    refine lv_goto (tgt := 31) hx hb dX8_history_18 (by decide) ?_
    have hP9 := hP.part (cx := [((ax 0), .inr (8, [.ref (ax 1), .ref (ax 7), .ref (ax 10), .ref (ax 11), .ref (ax 13), .ref (ax 15), .ref (ax 16), .ref (ax 21), .ref (ax 26), .ref (ax 27), .ref (ax 28), .int xNow, .int xEr, .int xTr, .int xMo, .int xFa, .int xRe])), ((ax 15), .inl (cA 5, 20, .inr (.inr (.inr (.inr gTr))))), ((ax 21), .inr (1, [.ref (ax 22), .ref (ax 23), .ref (ax 24), .ref (ax 25), .int xPz])), ((ax 22), .inl (cA 0, 2000, .inl gPO)), ((ax 23), .inl (cA 0, 2000, .inl gPM)), ((ax 25), .inl (cA 1, 2000, .inr (.inl gPV)))]) [1, 2, 3, 4, 5, 0] rfl
    have hD9 := hD.part (cx := [((ax 0), .inr (8, [.ref (ax 1), .ref (ax 7), .ref (ax 10), .ref (ax 11), .ref (ax 13), .ref (ax 15), .ref (ax 16), .ref (ax 21), .ref (ax 26), .ref (ax 27), .ref (ax 28), .int xNow, .int xEr, .int xTr, .int xMo, .int xFa, .int xRe])), ((ax 15), .inl (cA 5, 20, .inr (.inr (.inr (.inr gTr))))), ((ax 21), .inr (1, [.ref (ax 22), .ref (ax 23), .ref (ax 24), .ref (ax 25), .int xPz])), ((ax 22), .inl (cA 0, 2000, .inl gPO)), ((ax 23), .inl (cA 0, 2000, .inl gPM)), ((ax 25), .inl (cA 1, 2000, .inr (.inl gPV)))]) [1, 2, 3, 4, 5, 0] (by decide) rfl
    subst hQe
    have hans : ((-9000000000000000000) : Int64).toInt = (-9000000000000000000) := (by decide)
    exact W.lret (v := (-9000000000000000000)) hx hb hr (fun t ht hW => ⟨⟨(-9000000000000000000), (), rfl, trivial, by rw [ht]; exact hP9, hD9⟩, hS.F ht⟩) hS.2.2 dX8_history_31

set_option maxHeartbeats 8000000 in
set_option maxRecDepth 100000 in
theorem k_X8_told (l : Launch) (dC : Nat → ClassId) (dI : Nat → Nat → Nat) (cA : Nat → ClassId) (sz : Nat) (ax : Nat → Nat) (xNow : Int32) (xEr : Int32) (xTr : Int32) (xMo : Int32) (xFa : Int32) (xRe : Int32) (gTr : Nat → Option Nat) (xPz : Int32) (gPO : Nat → Int32) (gPM : Nat → Int32) (gPF : Nat → Int32) (L : List Nat) (pf : Nat → va_E) (tt : Int32) (pp : Int32) (mo : Int32) (w : Int32) (nd : Nat → Int32) (sl : Nat → Int32) (i_xNow : 0 ≤ xNow.toInt ∧ xNow.toInt ≤ 100000) (i_xTr : 0 ≤ xTr.toInt ∧ xTr.toInt ≤ 20) (i_xMo : 0 ≤ xMo.toInt ∧ xMo.toInt ≤ 10) (i_xPz : 0 ≤ xPz.toInt ∧ xPz.toInt ≤ 2000) (hTP : TP cA xTr gTr L pf nd sl) : Met l yX8_told wsX8_told ({ frames := 3, cells := 0, slots := 0, locals := 70 }) (va_Pc [.ref (ax 0), .int tt, .int pp, .int mo, .int w] (fun U => U.heap.size = sz ∧ va_P (dC, dI) vwCl (([((ax 0), .inr (8, [.ref (ax 1), .ref (ax 7), .ref (ax 10), .ref (ax 11), .ref (ax 13), .ref (ax 15), .ref (ax 16), .ref (ax 21), .ref (ax 26), .ref (ax 27), .ref (ax 28), .int xNow, .int xEr, .int xTr, .int xMo, .int xFa, .int xRe])), ((ax 15), .inl (cA 5, 20, .inr (.inr (.inr (.inr gTr))))), ((ax 21), .inr (1, [.ref (ax 22), .ref (ax 23), .ref (ax 24), .ref (ax 25), .int xPz])), ((ax 22), .inl (cA 0, 2000, .inl gPO)), ((ax 23), .inl (cA 0, 2000, .inl gPM)), ((ax 24), .inl (cA 2, 2000, .inl gPF))] : va_W) ++ va_pl L pf) U.heap ∧ va_K (dC, dI) vwCl (tyL cA) U ∧ va_D (fun _ => True) (([((ax 0), .inr (8, [.ref (ax 1), .ref (ax 7), .ref (ax 10), .ref (ax 11), .ref (ax 13), .ref (ax 15), .ref (ax 16), .ref (ax 21), .ref (ax 26), .ref (ax 27), .ref (ax 28), .int xNow, .int xEr, .int xTr, .int xMo, .int xFa, .int xRe])), ((ax 15), .inl (cA 5, 20, .inr (.inr (.inr (.inr gTr))))), ((ax 21), .inr (1, [.ref (ax 22), .ref (ax 23), .ref (ax 24), .ref (ax 25), .int xPz])), ((ax 22), .inl (cA 0, 2000, .inl gPO)), ((ax 23), .inl (cA 0, 2000, .inl gPM)), ((ax 24), .inl (cA 2, 2000, .inl gPF))] : va_W) ++ va_pl L pf) ∧ nw_ok U)) (va_Qi (fun (r : Int32) (_ : Unit) => True) (fun (_ : Unit) (t : State) => va_P (dC, dI) vwCl (([((ax 0), .inr (8, [.ref (ax 1), .ref (ax 7), .ref (ax 10), .ref (ax 11), .ref (ax 13), .ref (ax 15), .ref (ax 16), .ref (ax 21), .ref (ax 26), .ref (ax 27), .ref (ax 28), .int xNow, .int xEr, .int xTr, .int xMo, .int xFa, .int xRe])), ((ax 15), .inl (cA 5, 20, .inr (.inr (.inr (.inr gTr))))), ((ax 21), .inr (1, [.ref (ax 22), .ref (ax 23), .ref (ax 24), .ref (ax 25), .int xPz])), ((ax 22), .inl (cA 0, 2000, .inl gPO)), ((ax 23), .inl (cA 0, 2000, .inl gPM)), ((ax 24), .inl (cA 2, 2000, .inl gPF))] : va_W) ++ va_pl L pf) t.heap ∧ va_D (va_A (([((ax 0), .inr (8, [.ref (ax 1), .ref (ax 7), .ref (ax 10), .ref (ax 11), .ref (ax 13), .ref (ax 15), .ref (ax 16), .ref (ax 21), .ref (ax 26), .ref (ax 27), .ref (ax 28), .int xNow, .int xEr, .int xTr, .int xMo, .int xFa, .int xRe])), ((ax 15), .inl (cA 5, 20, .inr (.inr (.inr (.inr gTr))))), ((ax 21), .inr (1, [.ref (ax 22), .ref (ax 23), .ref (ax 24), .ref (ax 25), .int xPz])), ((ax 22), .inl (cA 0, 2000, .inl gPO)), ((ax 23), .inl (cA 0, 2000, .inl gPM)), ((ax 24), .inl (cA 2, 2000, .inl gPF))] : va_W) ++ va_pl L pf) sz) (([((ax 0), .inr (8, [.ref (ax 1), .ref (ax 7), .ref (ax 10), .ref (ax 11), .ref (ax 13), .ref (ax 15), .ref (ax 16), .ref (ax 21), .ref (ax 26), .ref (ax 27), .ref (ax 28), .int xNow, .int xEr, .int xTr, .int xMo, .int xFa, .int xRe])), ((ax 15), .inl (cA 5, 20, .inr (.inr (.inr (.inr gTr))))), ((ax 21), .inr (1, [.ref (ax 22), .ref (ax 23), .ref (ax 24), .ref (ax 25), .int xPz])), ((ax 22), .inl (cA 0, 2000, .inl gPO)), ((ax 23), .inl (cA 0, 2000, .inl gPM)), ((ax 24), .inl (cA 2, 2000, .inl gPF))] : va_W) ++ va_pl L pf)) (va_A (([((ax 0), .inr (8, [.ref (ax 1), .ref (ax 7), .ref (ax 10), .ref (ax 11), .ref (ax 13), .ref (ax 15), .ref (ax 16), .ref (ax 21), .ref (ax 26), .ref (ax 27), .ref (ax 28), .int xNow, .int xEr, .int xTr, .int xMo, .int xFa, .int xRe])), ((ax 15), .inl (cA 5, 20, .inr (.inr (.inr (.inr gTr))))), ((ax 21), .inr (1, [.ref (ax 22), .ref (ax 23), .ref (ax 24), .ref (ax 25), .int xPz])), ((ax 22), .inl (cA 0, 2000, .inl gPO)), ((ax 23), .inl (cA 0, 2000, .inl gPM)), ((ax 24), .inl (cA 2, 2000, .inl gPF))] : va_W) ++ va_pl L pf) sz)) 0 0 (va_A (([((ax 0), .inr (8, [.ref (ax 1), .ref (ax 7), .ref (ax 10), .ref (ax 11), .ref (ax 13), .ref (ax 15), .ref (ax 16), .ref (ax 21), .ref (ax 26), .ref (ax 27), .ref (ax 28), .int xNow, .int xEr, .int xTr, .int xMo, .int xFa, .int xRe])), ((ax 15), .inl (cA 5, 20, .inr (.inr (.inr (.inr gTr))))), ((ax 21), .inr (1, [.ref (ax 22), .ref (ax 23), .ref (ax 24), .ref (ax 25), .int xPz])), ((ax 22), .inl (cA 0, 2000, .inl gPO)), ((ax 23), .inl (cA 0, 2000, .inl gPM)), ((ax 24), .inl (cA 2, 2000, .inl gPF))] : va_W) ++ va_pl L pf) sz) := by
  refine Met.ofW (cc := cX8_told) (maxL := 6) (ret := (some .int)) (by decide) rfl ?_
  intro p e s m args below meth c s₁ B hml hv
  obtain ⟨rfl, hsz, hP, hK, hD0, hN⟩ := hv
  have hx := B.exec
  have hb := B.bytes
  have hr := B.returns
  have hts := atoms_spec (ws := wsX8_told) B.pre
  have hown : s.vm.findClass RX8 = some m.cls := findClass_of_methodNamed B.named
  have hlocks := B.notSynchronized
  subst hsz
  have hD := hD0.self (sz := s.heap.size)
  generalize hAe : va_A (([((ax 0), .inr (8, [.ref (ax 1), .ref (ax 7), .ref (ax 10), .ref (ax 11), .ref (ax 13), .ref (ax 15), .ref (ax 16), .ref (ax 21), .ref (ax 26), .ref (ax 27), .ref (ax 28), .int xNow, .int xEr, .int xTr, .int xMo, .int xFa, .int xRe])), ((ax 15), .inl (cA 5, 20, .inr (.inr (.inr (.inr gTr))))), ((ax 21), .inr (1, [.ref (ax 22), .ref (ax 23), .ref (ax 24), .ref (ax 25), .int xPz])), ((ax 22), .inl (cA 0, 2000, .inl gPO)), ((ax 23), .inl (cA 0, 2000, .inl gPM)), ((ax 24), .inl (cA 2, 2000, .inl gPF))] : va_W) ++ va_pl L pf) s.heap.size = A at hD ⊢
  have hA : ∀ q : Nat, s.heap.size ≤ q → A q := fun q h => by rw [← hAe]; exact Or.inr h
  have hS : va_S A s.heap s.heap [] := va_S.rf
  have hIX1 : ∀ w ∈ u_ws RX1 TX1 5, w ∈ wsX8_told := by decide +kernel
  have hIX8 : ∀ w ∈ u_ws RX8 TX8 17, w ∈ wsX8_told := by decide +kernel
  have hl := lv_entry ([.ref (ax 0), .int tt, .int pp, .int mo, .int w]) (n := 6) (Nat.le_of_ble_eq_true rfl)
  rw [lg_entry_eq]
  generalize (lg_sl ([.ref (ax 0), .int tt, .int pp, .int mo, .int w]) ++ List.replicate (6 - (lg_sl ([.ref (ax 0), .int tt, .int pp, .int mo, .int w])).length) Slot.unset).toArray = ls at hl ⊢
  have hl : lv_has ls 6 [(0, .ref (ax 0)), (1, .int tt), (2, .int pp), (3, .int mo), (4, .int w)] := hl
  generalize hQe : MQ below _ _ _ _ _ _ = QQ
  refine lv_aload_n hx hb dX8_told_0 rfl (lv_at hl 0 rfl) ?_
  refine lv_iload_n hx hb dX8_told_1 rfl (lv_at hl 1 rfl) ?_
  refine lv_iload_n hx hb dX8_told_2 rfl (lv_at hl 2 rfl) ?_
  refine lv_iload_n hx hb dX8_told_3 rfl (lv_at hl 3 rfl) ?_
  have hPc := hP.part (cx := [((ax 0), .inr (8, [.ref (ax 1), .ref (ax 7), .ref (ax 10), .ref (ax 11), .ref (ax 13), .ref (ax 15), .ref (ax 16), .ref (ax 21), .ref (ax 26), .ref (ax 27), .ref (ax 28), .int xNow, .int xEr, .int xTr, .int xMo, .int xFa, .int xRe])), ((ax 15), .inl (cA 5, 20, .inr (.inr (.inr (.inr gTr))))), ((ax 21), .inr (1, [.ref (ax 22), .ref (ax 23), .ref (ax 24), .ref (ax 25), .int xPz])), ((ax 22), .inl (cA 0, 2000, .inl gPO)), ((ax 23), .inl (cA 0, 2000, .inl gPM))]) [0, 1, 2, 3, 4] rfl
  have hDc := hD.part (cx := [((ax 0), .inr (8, [.ref (ax 1), .ref (ax 7), .ref (ax 10), .ref (ax 11), .ref (ax 13), .ref (ax 15), .ref (ax 16), .ref (ax 21), .ref (ax 26), .ref (ax 27), .ref (ax 28), .int xNow, .int xEr, .int xTr, .int xMo, .int xFa, .int xRe])), ((ax 15), .inl (cA 5, 20, .inr (.inr (.inr (.inr gTr))))), ((ax 21), .inr (1, [.ref (ax 22), .ref (ax 23), .ref (ax 24), .ref (ax 25), .int xPz])), ((ax 22), .inl (cA 0, 2000, .inl gPO)), ((ax 23), .inl (cA 0, 2000, .inl gPM))]) [0, 1, 2, 3, 4] (by decide) rfl
  have hFc := va_freeP (cx := [((ax 0), .inr (8, [.ref (ax 1), .ref (ax 7), .ref (ax 10), .ref (ax 11), .ref (ax 13), .ref (ax 15), .ref (ax 16), .ref (ax 21), .ref (ax 26), .ref (ax 27), .ref (ax 28), .int xNow, .int xEr, .int xTr, .int xMo, .int xFa, .int xRe])), ((ax 15), .inl (cA 5, 20, .inr (.inr (.inr (.inr gTr))))), ((ax 21), .inr (1, [.ref (ax 22), .ref (ax 23), .ref (ax 24), .ref (ax 25), .int xPz])), ((ax 22), .inl (cA 0, 2000, .inl gPO)), ((ax 23), .inl (cA 0, 2000, .inl gPM))]) hD hS hA [0, 1, 2, 3, 4] rfl
  refine va_calli (va_runV (As := [.int tt, .int pp, .int mo]) (rest := []) ⟨hx, hb, hml, hown, hts⟩ (k_X8_placeOf l dC dI cA s.heap.size ax xNow xEr xTr xMo xFa xRe gTr xPz gPO gPM L pf tt pp mo nd sl i_xNow i_xTr i_xMo i_xPz hTP) (cwV 3 hts gX8_told_X8_placeOf rfl rfl rfl (by decide +kernel) ⟨Nat.le_of_ble_eq_true rfl, Nat.le_of_ble_eq_true rfl⟩) ⟨fun a U g mk q => by obtain ⟨q0, q1, qP, qK, qD, qN⟩ := q; exact ⟨q0, q1, qP, va_K.moved (u := U) (U := U.calling g mk a) (Vm.Alike.refl U.vm) qK, qD, qN.same rfl⟩, va_recv hK hPc (ci := 8) (q0 := 0) rfl rfl, fun U hU hW => ⟨rfl, by rw [hU], by rw [hU]; exact hPc, va_K.moved hW.alike hK, hDc.weaken (fun _ _ _ _ => trivial), hN.warm hW⟩⟩ rfl rfl hl.1 rfl (lv_room (Nat.le_of_ble_eq_true rfl)) dX8_told_4 ⟨Nat.le_of_ble_eq_true rfl, Nat.le_of_ble_eq_true rfl⟩) hS (fun q _ h => hFc q h) hFc (fun r_1 u_2 t H1 locs ht hvm hw_3 hB hz1 hk1 hS => ?_)
  try dsimp only at hw_3 hB
  have po_4 := hw_3
  clear hw_3
  obtain ⟨hP1, hD1⟩ := hB
  rw [ht] at hP1
  obtain ⟨hP, hD⟩ := va_joinP (wr := [((ax 24), .inl (cA 2, 2000, .inl gPF))]) (rx := [((ax 0), .inr (8, [.ref (ax 1), .ref (ax 7), .ref (ax 10), .ref (ax 11), .ref (ax 13), .ref (ax 15), .ref (ax 16), .ref (ax 21), .ref (ax 26), .ref (ax 27), .ref (ax 28), .int xNow, .int xEr, .int xTr, .int xMo, .int xFa, .int xRe])), ((ax 15), .inl (cA 5, 20, .inr (.inr (.inr (.inr gTr))))), ((ax 21), .inr (1, [.ref (ax 22), .ref (ax 23), .ref (ax 24), .ref (ax 25), .int xPz])), ((ax 22), .inl (cA 0, 2000, .inl gPO)), ((ax 23), .inl (cA 0, 2000, .inl gPM))]) (pl1 := va_pl L pf) hP hD [0, 1, 2, 3, 4] [5] rfl rfl (by decide) (by decide) hk1 hFc hP1 hD1
  clear hz1
  generalize H1 = H at hP hS ⊢
  replace hP : va_P (dC, dI) vwCl (([((ax 24), .inl (cA 2, 2000, .inl gPF)), ((ax 0), .inr (8, [.ref (ax 1), .ref (ax 7), .ref (ax 10), .ref (ax 11), .ref (ax 13), .ref (ax 15), .ref (ax 16), .ref (ax 21), .ref (ax 26), .ref (ax 27), .ref (ax 28), .int xNow, .int xEr, .int xTr, .int xMo, .int xFa, .int xRe])), ((ax 15), .inl (cA 5, 20, .inr (.inr (.inr (.inr gTr))))), ((ax 21), .inr (1, [.ref (ax 22), .ref (ax 23), .ref (ax 24), .ref (ax 25), .int xPz])), ((ax 22), .inl (cA 0, 2000, .inl gPO)), ((ax 23), .inl (cA 0, 2000, .inl gPM))] : va_W) ++ va_pl L pf) H := hP
  replace hD : va_D A (([((ax 24), .inl (cA 2, 2000, .inl gPF)), ((ax 0), .inr (8, [.ref (ax 1), .ref (ax 7), .ref (ax 10), .ref (ax 11), .ref (ax 13), .ref (ax 15), .ref (ax 16), .ref (ax 21), .ref (ax 26), .ref (ax 27), .ref (ax 28), .int xNow, .int xEr, .int xTr, .int xMo, .int xFa, .int xRe])), ((ax 15), .inl (cA 5, 20, .inr (.inr (.inr (.inr gTr))))), ((ax 21), .inr (1, [.ref (ax 22), .ref (ax 23), .ref (ax 24), .ref (ax 25), .int xPz])), ((ax 22), .inl (cA 0, 2000, .inl gPO)), ((ax 23), .inl (cA 0, 2000, .inl gPM))] : va_W) ++ va_pl L pf) := hD
  refine lv_istore (lv' := [(5, .int r_1), (0, .ref (ax 0)), (1, .int tt), (2, .int pp), (3, .int mo), (4, .int w)]) hx hb dX8_told_7 hl (by decide) rfl (fun ls hl => ?_)
  refine lv_iload hx hb dX8_told_9 (lv_at hl 0 rfl) ?_
  refine lv_iconst (v := (-1)) hx hb dX8_told_11 (by decide) ?_
  refine lv_icmp_ne (tgt := 17) hx hb dX8_told_12 (by decide) (fun c_5 => ?_) (fun c_5 => ?_)
  · have dc_5 : ¬ r_1.toInt = (-1) := jI_ne c_5 rfl (by decide)
    refine lv_iload hx hb dX8_told_17 (lv_at hl 5 rfl) ?_
    rcases (show (¬ w.toInt = 0 ∧ ¬ w.toInt = 1) ∨ w.toInt = 0 ∨ w.toInt = 1 by omega) with hsw | hsw | hsw
    · refine lv_lookup (off := 55) (tgt := 74) hx hb dX8_told_19 (by decide) (jlook2 hsw) (by decide) ?_
      refine lv_iconst (v := (-1)) hx hb dX8_told_74 (by decide) ?_
      have hP9 := hP.part (cx := [((ax 0), .inr (8, [.ref (ax 1), .ref (ax 7), .ref (ax 10), .ref (ax 11), .ref (ax 13), .ref (ax 15), .ref (ax 16), .ref (ax 21), .ref (ax 26), .ref (ax 27), .ref (ax 28), .int xNow, .int xEr, .int xTr, .int xMo, .int xFa, .int xRe])), ((ax 15), .inl (cA 5, 20, .inr (.inr (.inr (.inr gTr))))), ((ax 21), .inr (1, [.ref (ax 22), .ref (ax 23), .ref (ax 24), .ref (ax 25), .int xPz])), ((ax 22), .inl (cA 0, 2000, .inl gPO)), ((ax 23), .inl (cA 0, 2000, .inl gPM)), ((ax 24), .inl (cA 2, 2000, .inl gPF))]) [1, 2, 3, 4, 5, 0] rfl
      have hD9 := hD.part (cx := [((ax 0), .inr (8, [.ref (ax 1), .ref (ax 7), .ref (ax 10), .ref (ax 11), .ref (ax 13), .ref (ax 15), .ref (ax 16), .ref (ax 21), .ref (ax 26), .ref (ax 27), .ref (ax 28), .int xNow, .int xEr, .int xTr, .int xMo, .int xFa, .int xRe])), ((ax 15), .inl (cA 5, 20, .inr (.inr (.inr (.inr gTr))))), ((ax 21), .inr (1, [.ref (ax 22), .ref (ax 23), .ref (ax 24), .ref (ax 25), .int xPz])), ((ax 22), .inl (cA 0, 2000, .inl gPO)), ((ax 23), .inl (cA 0, 2000, .inl gPM)), ((ax 24), .inl (cA 2, 2000, .inl gPF))]) [1, 2, 3, 4, 5, 0] (by decide) rfl
      subst hQe
      have hans : ((-1) : Int32).toInt = (-1) := (by decide)
      exact W.iret (v := (-1)) hx hb hr (fun t ht hW => ⟨⟨(-1), (), rfl, trivial, by rw [ht]; exact hP9, hD9⟩, hS.F ht⟩) hS.2.2 dX8_told_75
    · refine lv_lookup (off := 25) (tgt := 44) hx hb dX8_told_19 (by decide) (by rw [hsw]; rfl) (by decide) ?_
      refine lv_aload_n hx hb dX8_told_44 rfl (lv_at hl 1 rfl) ?_
      refine va_get (D := (dC, dI)) (ci := 8) (v := .ref (ax 21)) (C := RX8) (T := TX8) (N := 17) hx hb hts hIX8 hown hK hP 1 rfl rfl 7 (by decide) (hts (.fieldLink RX8 61 "TraitHouse" "places" "LTraitHouse$Places;") (by decide +kernel)) (fun _ h9 => h9) rfl dX8_told_45 ?_
      refine va_getN (D := (dC, dI)) (ci := 1) (v := .ref (ax 23)) (C := RX1) (T := TX1) (N := 5) hx hb hts hIX1 hown hK hP 3 rfl rfl 1 (by decide) (va_Nw.use rfl (nw_at hN 13 rfl)) (fun _ h9 => h9) rfl dX8_told_48 ?_
      refine lv_iload hx hb dX8_told_51 (lv_at hl 0 rfl) ?_
      have h_6 : vp_in r_1 2000 := (vp_in_iff.mpr ⟨by omega, by omega⟩)
      refine va_iald hx hb hK hP 5 0 rfl rfl h_6 dX8_told_53 ?_
      refine lv_topi (fun x_7 ex_7 => ?_)
      have hP9 := hP.part (cx := [((ax 0), .inr (8, [.ref (ax 1), .ref (ax 7), .ref (ax 10), .ref (ax 11), .ref (ax 13), .ref (ax 15), .ref (ax 16), .ref (ax 21), .ref (ax 26), .ref (ax 27), .ref (ax 28), .int xNow, .int xEr, .int xTr, .int xMo, .int xFa, .int xRe])), ((ax 15), .inl (cA 5, 20, .inr (.inr (.inr (.inr gTr))))), ((ax 21), .inr (1, [.ref (ax 22), .ref (ax 23), .ref (ax 24), .ref (ax 25), .int xPz])), ((ax 22), .inl (cA 0, 2000, .inl gPO)), ((ax 23), .inl (cA 0, 2000, .inl gPM)), ((ax 24), .inl (cA 2, 2000, .inl gPF))]) [1, 2, 3, 4, 5, 0] rfl
      have hD9 := hD.part (cx := [((ax 0), .inr (8, [.ref (ax 1), .ref (ax 7), .ref (ax 10), .ref (ax 11), .ref (ax 13), .ref (ax 15), .ref (ax 16), .ref (ax 21), .ref (ax 26), .ref (ax 27), .ref (ax 28), .int xNow, .int xEr, .int xTr, .int xMo, .int xFa, .int xRe])), ((ax 15), .inl (cA 5, 20, .inr (.inr (.inr (.inr gTr))))), ((ax 21), .inr (1, [.ref (ax 22), .ref (ax 23), .ref (ax 24), .ref (ax 25), .int xPz])), ((ax 22), .inl (cA 0, 2000, .inl gPO)), ((ax 23), .inl (cA 0, 2000, .inl gPM)), ((ax 24), .inl (cA 2, 2000, .inl gPF))]) [1, 2, 3, 4, 5, 0] (by decide) rfl
      subst hQe
      have hans : (x_7 : Int32).toInt = x_7.toInt := rfl
      exact W.iret (v := x_7) hx hb hr (fun t ht hW => ⟨⟨x_7, (), rfl, trivial, by rw [ht]; exact hP9, hD9⟩, hS.F ht⟩) hS.2.2 dX8_told_54
    · refine lv_lookup (off := 36) (tgt := 55) hx hb dX8_told_19 (by decide) (by rw [hsw]; rfl) (by decide) ?_
      refine lv_aload_n hx hb dX8_told_55 rfl (lv_at hl 1 rfl) ?_
      refine va_get (D := (dC, dI)) (ci := 8) (v := .ref (ax 21)) (C := RX8) (T := TX8) (N := 17) hx hb hts hIX8 hown hK hP 1 rfl rfl 7 (by decide) (hts (.fieldLink RX8 61 "TraitHouse" "places" "LTraitHouse$Places;") (by decide +kernel)) (fun _ h9 => h9) rfl dX8_told_56 ?_
      refine va_getN (D := (dC, dI)) (ci := 1) (v := .ref (ax 24)) (C := RX1) (T := TX1) (N := 5) hx hb hts hIX1 hown hK hP 3 rfl rfl 2 (by decide) (va_Nw.use rfl (nw_at hN 14 rfl)) (fun _ h9 => h9) rfl dX8_told_59 ?_
      refine lv_iload hx hb dX8_told_62 (lv_at hl 0 rfl) ?_
      have h_8 : vp_in r_1 2000 := (vp_in_iff.mpr ⟨by omega, by omega⟩)
      refine va_zald hx hb hK hP 0 2 rfl rfl h_8 dX8_told_64 ?_
      refine lv_topi (fun x_9 ex_9 => ?_)
      refine lv_if_eq (tgt := 72) hx hb dX8_told_65 (by decide) (fun c_10 => ?_) (fun c_10 => ?_)
      · have dc_10 : x_9.toInt = 0 := jI_eq c_10 rfl (by decide)
        refine lv_iconst (v := 0) hx hb dX8_told_72 (by decide) ?_
        have hP9 := hP.part (cx := [((ax 0), .inr (8, [.ref (ax 1), .ref (ax 7), .ref (ax 10), .ref (ax 11), .ref (ax 13), .ref (ax 15), .ref (ax 16), .ref (ax 21), .ref (ax 26), .ref (ax 27), .ref (ax 28), .int xNow, .int xEr, .int xTr, .int xMo, .int xFa, .int xRe])), ((ax 15), .inl (cA 5, 20, .inr (.inr (.inr (.inr gTr))))), ((ax 21), .inr (1, [.ref (ax 22), .ref (ax 23), .ref (ax 24), .ref (ax 25), .int xPz])), ((ax 22), .inl (cA 0, 2000, .inl gPO)), ((ax 23), .inl (cA 0, 2000, .inl gPM)), ((ax 24), .inl (cA 2, 2000, .inl gPF))]) [1, 2, 3, 4, 5, 0] rfl
        have hD9 := hD.part (cx := [((ax 0), .inr (8, [.ref (ax 1), .ref (ax 7), .ref (ax 10), .ref (ax 11), .ref (ax 13), .ref (ax 15), .ref (ax 16), .ref (ax 21), .ref (ax 26), .ref (ax 27), .ref (ax 28), .int xNow, .int xEr, .int xTr, .int xMo, .int xFa, .int xRe])), ((ax 15), .inl (cA 5, 20, .inr (.inr (.inr (.inr gTr))))), ((ax 21), .inr (1, [.ref (ax 22), .ref (ax 23), .ref (ax 24), .ref (ax 25), .int xPz])), ((ax 22), .inl (cA 0, 2000, .inl gPO)), ((ax 23), .inl (cA 0, 2000, .inl gPM)), ((ax 24), .inl (cA 2, 2000, .inl gPF))]) [1, 2, 3, 4, 5, 0] (by decide) rfl
        subst hQe
        have hans : (0 : Int32).toInt = 0 := (by decide)
        exact W.iret (v := 0) hx hb hr (fun t ht hW => ⟨⟨0, (), rfl, trivial, by rw [ht]; exact hP9, hD9⟩, hS.F ht⟩) hS.2.2 dX8_told_73
      · have dc_10 : ¬ x_9.toInt = 0 := jI_ne c_10 rfl (by decide)
        refine lv_iconst (v := 1) hx hb dX8_told_68 (by decide) ?_
        refine lv_goto (tgt := 73) hx hb dX8_told_69 (by decide) ?_
        have hP9 := hP.part (cx := [((ax 0), .inr (8, [.ref (ax 1), .ref (ax 7), .ref (ax 10), .ref (ax 11), .ref (ax 13), .ref (ax 15), .ref (ax 16), .ref (ax 21), .ref (ax 26), .ref (ax 27), .ref (ax 28), .int xNow, .int xEr, .int xTr, .int xMo, .int xFa, .int xRe])), ((ax 15), .inl (cA 5, 20, .inr (.inr (.inr (.inr gTr))))), ((ax 21), .inr (1, [.ref (ax 22), .ref (ax 23), .ref (ax 24), .ref (ax 25), .int xPz])), ((ax 22), .inl (cA 0, 2000, .inl gPO)), ((ax 23), .inl (cA 0, 2000, .inl gPM)), ((ax 24), .inl (cA 2, 2000, .inl gPF))]) [1, 2, 3, 4, 5, 0] rfl
        have hD9 := hD.part (cx := [((ax 0), .inr (8, [.ref (ax 1), .ref (ax 7), .ref (ax 10), .ref (ax 11), .ref (ax 13), .ref (ax 15), .ref (ax 16), .ref (ax 21), .ref (ax 26), .ref (ax 27), .ref (ax 28), .int xNow, .int xEr, .int xTr, .int xMo, .int xFa, .int xRe])), ((ax 15), .inl (cA 5, 20, .inr (.inr (.inr (.inr gTr))))), ((ax 21), .inr (1, [.ref (ax 22), .ref (ax 23), .ref (ax 24), .ref (ax 25), .int xPz])), ((ax 22), .inl (cA 0, 2000, .inl gPO)), ((ax 23), .inl (cA 0, 2000, .inl gPM)), ((ax 24), .inl (cA 2, 2000, .inl gPF))]) [1, 2, 3, 4, 5, 0] (by decide) rfl
        subst hQe
        have hans : (1 : Int32).toInt = 1 := (by decide)
        exact W.iret (v := 1) hx hb hr (fun t ht hW => ⟨⟨1, (), rfl, trivial, by rw [ht]; exact hP9, hD9⟩, hS.F ht⟩) hS.2.2 dX8_told_73
  · have dc_5 : r_1.toInt = (-1) := jI_eq c_5 rfl (by decide)
    refine lv_iconst (v := (-1)) hx hb dX8_told_15 (by decide) ?_
    have hP9 := hP.part (cx := [((ax 0), .inr (8, [.ref (ax 1), .ref (ax 7), .ref (ax 10), .ref (ax 11), .ref (ax 13), .ref (ax 15), .ref (ax 16), .ref (ax 21), .ref (ax 26), .ref (ax 27), .ref (ax 28), .int xNow, .int xEr, .int xTr, .int xMo, .int xFa, .int xRe])), ((ax 15), .inl (cA 5, 20, .inr (.inr (.inr (.inr gTr))))), ((ax 21), .inr (1, [.ref (ax 22), .ref (ax 23), .ref (ax 24), .ref (ax 25), .int xPz])), ((ax 22), .inl (cA 0, 2000, .inl gPO)), ((ax 23), .inl (cA 0, 2000, .inl gPM)), ((ax 24), .inl (cA 2, 2000, .inl gPF))]) [1, 2, 3, 4, 5, 0] rfl
    have hD9 := hD.part (cx := [((ax 0), .inr (8, [.ref (ax 1), .ref (ax 7), .ref (ax 10), .ref (ax 11), .ref (ax 13), .ref (ax 15), .ref (ax 16), .ref (ax 21), .ref (ax 26), .ref (ax 27), .ref (ax 28), .int xNow, .int xEr, .int xTr, .int xMo, .int xFa, .int xRe])), ((ax 15), .inl (cA 5, 20, .inr (.inr (.inr (.inr gTr))))), ((ax 21), .inr (1, [.ref (ax 22), .ref (ax 23), .ref (ax 24), .ref (ax 25), .int xPz])), ((ax 22), .inl (cA 0, 2000, .inl gPO)), ((ax 23), .inl (cA 0, 2000, .inl gPM)), ((ax 24), .inl (cA 2, 2000, .inl gPF))]) [1, 2, 3, 4, 5, 0] (by decide) rfl
    subst hQe
    have hans : ((-1) : Int32).toInt = (-1) := (by decide)
    exact W.iret (v := (-1)) hx hb hr (fun t ht hW => ⟨⟨(-1), (), rfl, trivial, by rw [ht]; exact hP9, hD9⟩, hS.F ht⟩) hS.2.2 dX8_told_16

set_option maxHeartbeats 8000000 in
set_option maxRecDepth 100000 in
theorem k_X8_hung (l : Launch) (dC : Nat → ClassId) (dI : Nat → Nat → Nat) (cA : Nat → ClassId) (sz : Nat) (ax : Nat → Nat) (xNow : Int32) (xEr : Int32) (xTr : Int32) (xMo : Int32) (xFa : Int32) (xRe : Int32) (gTr : Nat → Option Nat) (gMo : Nat → Int32) (L : List Nat) (pf : Nat → va_E) (tt : Int32) (nd : Nat → Int32) (sl : Nat → Int32) (i_xNow : 0 ≤ xNow.toInt ∧ xNow.toInt ≤ 100000) (i_xTr : 0 ≤ xTr.toInt ∧ xTr.toInt ≤ 20) (i_xMo : 0 ≤ xMo.toInt ∧ xMo.toInt ≤ 10) (hTP : TP cA xTr gTr L pf nd sl) : Met l yX8_hung wsX8_hung ({ frames := 1, cells := 0, slots := 0, locals := 21 }) (va_Pc [.ref (ax 0), .int tt] (fun U => U.heap.size = sz ∧ va_P (dC, dI) vwCl (([((ax 0), .inr (8, [.ref (ax 1), .ref (ax 7), .ref (ax 10), .ref (ax 11), .ref (ax 13), .ref (ax 15), .ref (ax 16), .ref (ax 21), .ref (ax 26), .ref (ax 27), .ref (ax 28), .int xNow, .int xEr, .int xTr, .int xMo, .int xFa, .int xRe])), ((ax 15), .inl (cA 5, 20, .inr (.inr (.inr (.inr gTr))))), ((ax 26), .inl (cA 0, 10, .inl gMo))] : va_W) ++ va_pl L pf) U.heap ∧ va_K (dC, dI) vwCl (tyL cA) U ∧ va_D (fun _ => True) (([((ax 0), .inr (8, [.ref (ax 1), .ref (ax 7), .ref (ax 10), .ref (ax 11), .ref (ax 13), .ref (ax 15), .ref (ax 16), .ref (ax 21), .ref (ax 26), .ref (ax 27), .ref (ax 28), .int xNow, .int xEr, .int xTr, .int xMo, .int xFa, .int xRe])), ((ax 15), .inl (cA 5, 20, .inr (.inr (.inr (.inr gTr))))), ((ax 26), .inl (cA 0, 10, .inl gMo))] : va_W) ++ va_pl L pf) ∧ nw_ok U)) (va_Qi (fun (r : Int32) (_ : Unit) => ((0 ≤ tt.toInt ∧ tt.toInt < xTr.toInt → r.toInt = (hgc gMo tt.toInt.toNat xMo.toInt.toNat : Int)) ∧ (¬ (0 ≤ tt.toInt ∧ tt.toInt < xTr.toInt) → r.toInt = (-1)))) (fun (_ : Unit) (t : State) => va_P (dC, dI) vwCl (([((ax 0), .inr (8, [.ref (ax 1), .ref (ax 7), .ref (ax 10), .ref (ax 11), .ref (ax 13), .ref (ax 15), .ref (ax 16), .ref (ax 21), .ref (ax 26), .ref (ax 27), .ref (ax 28), .int xNow, .int xEr, .int xTr, .int xMo, .int xFa, .int xRe])), ((ax 15), .inl (cA 5, 20, .inr (.inr (.inr (.inr gTr))))), ((ax 26), .inl (cA 0, 10, .inl gMo))] : va_W) ++ va_pl L pf) t.heap ∧ va_D (va_A (([((ax 0), .inr (8, [.ref (ax 1), .ref (ax 7), .ref (ax 10), .ref (ax 11), .ref (ax 13), .ref (ax 15), .ref (ax 16), .ref (ax 21), .ref (ax 26), .ref (ax 27), .ref (ax 28), .int xNow, .int xEr, .int xTr, .int xMo, .int xFa, .int xRe])), ((ax 15), .inl (cA 5, 20, .inr (.inr (.inr (.inr gTr))))), ((ax 26), .inl (cA 0, 10, .inl gMo))] : va_W) ++ va_pl L pf) sz) (([((ax 0), .inr (8, [.ref (ax 1), .ref (ax 7), .ref (ax 10), .ref (ax 11), .ref (ax 13), .ref (ax 15), .ref (ax 16), .ref (ax 21), .ref (ax 26), .ref (ax 27), .ref (ax 28), .int xNow, .int xEr, .int xTr, .int xMo, .int xFa, .int xRe])), ((ax 15), .inl (cA 5, 20, .inr (.inr (.inr (.inr gTr))))), ((ax 26), .inl (cA 0, 10, .inl gMo))] : va_W) ++ va_pl L pf)) (va_A (([((ax 0), .inr (8, [.ref (ax 1), .ref (ax 7), .ref (ax 10), .ref (ax 11), .ref (ax 13), .ref (ax 15), .ref (ax 16), .ref (ax 21), .ref (ax 26), .ref (ax 27), .ref (ax 28), .int xNow, .int xEr, .int xTr, .int xMo, .int xFa, .int xRe])), ((ax 15), .inl (cA 5, 20, .inr (.inr (.inr (.inr gTr))))), ((ax 26), .inl (cA 0, 10, .inl gMo))] : va_W) ++ va_pl L pf) sz)) 0 0 (va_A (([((ax 0), .inr (8, [.ref (ax 1), .ref (ax 7), .ref (ax 10), .ref (ax 11), .ref (ax 13), .ref (ax 15), .ref (ax 16), .ref (ax 21), .ref (ax 26), .ref (ax 27), .ref (ax 28), .int xNow, .int xEr, .int xTr, .int xMo, .int xFa, .int xRe])), ((ax 15), .inl (cA 5, 20, .inr (.inr (.inr (.inr gTr))))), ((ax 26), .inl (cA 0, 10, .inl gMo))] : va_W) ++ va_pl L pf) sz) := by
  refine Met.ofW (cc := cX8_hung) (maxL := 4) (ret := (some .int)) (by decide) rfl ?_
  intro p e s m args below meth c s₁ B hml hv
  obtain ⟨rfl, hsz, hP, hK, hD0, hN⟩ := hv
  have hx := B.exec
  have hb := B.bytes
  have hr := B.returns
  have hts := atoms_spec (ws := wsX8_hung) B.pre
  have hown : s.vm.findClass RX8 = some m.cls := findClass_of_methodNamed B.named
  have hlocks := B.notSynchronized
  subst hsz
  have hD := hD0.self (sz := s.heap.size)
  generalize hAe : va_A (([((ax 0), .inr (8, [.ref (ax 1), .ref (ax 7), .ref (ax 10), .ref (ax 11), .ref (ax 13), .ref (ax 15), .ref (ax 16), .ref (ax 21), .ref (ax 26), .ref (ax 27), .ref (ax 28), .int xNow, .int xEr, .int xTr, .int xMo, .int xFa, .int xRe])), ((ax 15), .inl (cA 5, 20, .inr (.inr (.inr (.inr gTr))))), ((ax 26), .inl (cA 0, 10, .inl gMo))] : va_W) ++ va_pl L pf) s.heap.size = A at hD ⊢
  have hA : ∀ q : Nat, s.heap.size ≤ q → A q := fun q h => by rw [← hAe]; exact Or.inr h
  have hS : va_S A s.heap s.heap [] := va_S.rf
  have hIX8 : ∀ w ∈ u_ws RX8 TX8 17, w ∈ wsX8_hung := by decide +kernel
  have hl := lv_entry ([.ref (ax 0), .int tt]) (n := 4) (Nat.le_of_ble_eq_true rfl)
  rw [lg_entry_eq]
  generalize (lg_sl ([.ref (ax 0), .int tt]) ++ List.replicate (4 - (lg_sl ([.ref (ax 0), .int tt])).length) Slot.unset).toArray = ls at hl ⊢
  have hl : lv_has ls 4 [(0, .ref (ax 0)), (1, .int tt)] := hl
  generalize hQe : MQ below _ _ _ _ _ _ = QQ
  refine lv_aload_n hx hb dX8_hung_0 rfl (lv_at hl 0 rfl) ?_
  refine lv_iload_n hx hb dX8_hung_1 rfl (lv_at hl 1 rfl) ?_
  obtain ⟨hPc, hDc, hFc, hCc⟩ := va_pre (ws' := [((ax 0), .inr (8, [.ref (ax 1), .ref (ax 7), .ref (ax 10), .ref (ax 11), .ref (ax 13), .ref (ax 15), .ref (ax 16), .ref (ax 21), .ref (ax 26), .ref (ax 27), .ref (ax 28), .int xNow, .int xEr, .int xTr, .int xMo, .int xFa, .int xRe])), ((ax 15), .inl (cA 5, 20, .inr (.inr (.inr (.inr gTr)))))]) hP hD hS hA [0, 1] (by decide) rfl
  refine va_callq (va_runV (As := [.int tt]) (rest := []) ⟨hx, hb, hml, hown, hts⟩ (k_X8_traitAt l dC dI cA s.heap.size ax xNow xEr xTr xMo xFa xRe gTr tt i_xNow i_xTr i_xMo) (cwV 1 hts gX8_hung_X8_traitAt rfl rfl rfl (by decide +kernel) ⟨Nat.le_of_ble_eq_true rfl, Nat.le_of_ble_eq_true rfl⟩) ⟨fun a U g mk q => by obtain ⟨q0, q1, qP, qK, qD, qN⟩ := q; exact ⟨q0, q1, qP, va_K.moved (u := U) (U := U.calling g mk a) (Vm.Alike.refl U.vm) qK, qD, qN.same rfl⟩, va_recv hK hPc (ci := 8) (q0 := 0) rfl rfl, fun U hU hW => ⟨rfl, by rw [hU], by rw [hU]; exact hPc, va_K.moved hW.alike hK, hDc.weaken (fun _ _ _ _ => trivial), hN.warm hW⟩⟩ rfl rfl hl.1 rfl (lv_room (Nat.le_of_ble_eq_true rfl)) dX8_hung_2 ⟨Nat.le_of_ble_eq_true rfl, Nat.le_of_ble_eq_true rfl⟩) hS (fun q _ h => hFc q h) hFc (fun r_1 u_2 t H1 locs ht hvm hw_3 hB hz1 hk1 hS => ?_)
  try dsimp only at hw_3 hB
  have po_4 := hw_3
  clear hw_3
  obtain ⟨hP1, hD1⟩ := hB
  rw [ht] at hP1
  obtain ⟨hP, hD⟩ := va_joinQ (wr := [((ax 26), .inl (cA 0, 10, .inl gMo))]) (w1 := [((ax 0), .inr (8, [.ref (ax 1), .ref (ax 7), .ref (ax 10), .ref (ax 11), .ref (ax 13), .ref (ax 15), .ref (ax 16), .ref (ax 21), .ref (ax 26), .ref (ax 27), .ref (ax 28), .int xNow, .int xEr, .int xTr, .int xMo, .int xFa, .int xRe])), ((ax 15), .inl (cA 5, 20, .inr (.inr (.inr (.inr gTr)))))]) hP hD [0, 1] [2] rfl rfl (by decide) (by decide) hk1 hFc hP1 hD1
  clear hz1
  generalize H1 = H at hP hS ⊢
  replace hP : va_P (dC, dI) vwCl (([((ax 26), .inl (cA 0, 10, .inl gMo)), ((ax 0), .inr (8, [.ref (ax 1), .ref (ax 7), .ref (ax 10), .ref (ax 11), .ref (ax 13), .ref (ax 15), .ref (ax 16), .ref (ax 21), .ref (ax 26), .ref (ax 27), .ref (ax 28), .int xNow, .int xEr, .int xTr, .int xMo, .int xFa, .int xRe])), ((ax 15), .inl (cA 5, 20, .inr (.inr (.inr (.inr gTr)))))] : va_W) ++ va_pl L pf) H := hP
  replace hD : va_D A (([((ax 26), .inl (cA 0, 10, .inl gMo)), ((ax 0), .inr (8, [.ref (ax 1), .ref (ax 7), .ref (ax 10), .ref (ax 11), .ref (ax 13), .ref (ax 15), .ref (ax 16), .ref (ax 21), .ref (ax 26), .ref (ax 27), .ref (ax 28), .int xNow, .int xEr, .int xTr, .int xMo, .int xFa, .int xRe])), ((ax 15), .inl (cA 5, 20, .inr (.inr (.inr (.inr gTr)))))] : va_W) ++ va_pl L pf) := hD
  by_cases hT_5 : 0 ≤ tt.toInt ∧ tt.toInt < xTr.toInt
  · have hrq := po_4.1 hT_5
    obtain ⟨ndv_5, hnd_5⟩ : ∃ z : Int32, z = nd tt.toNatClampNeg := ⟨_, rfl⟩
    obtain ⟨slv_5, hsl_5⟩ : ∃ z : Int32, z = sl tt.toNatClampNeg := ⟨_, rfl⟩
    obtain ⟨t_5, hte_5, hok_5⟩ := TP_at (i := tt) hTP (by omega) (by omega)
    rw [← hnd_5, ← hsl_5] at hok_5
    have hok9 := hok_5
    obtain ⟨htm_5, s_5, v_5, m_5, lf_5, lt_5, he_5, htf_5, hso_5, hvm_5, ⟨kv_5, hvf_5⟩, hmm_5, km_5, hmf_5⟩ := hok9
    rw [hte_5] at hrq
    obtain rfl : r_1 = some t_5 := hrq
    refine W.eq (g2 := F0 m 5 ls [.ref t_5]) rfl ?_
    refine lv_ifnonnull (tgt := 10) hx hb dX8_hung_5 (by decide) ?_
    refine lv_iconst (v := 0) hx hb dX8_hung_10 (by decide) ?_
    refine lv_istore_n (lv' := [(2, .int 0), (0, .ref (ax 0)), (1, .int tt)]) hx hb dX8_hung_11 rfl hl (by decide) rfl (fun ls hl => ?_)
    refine lv_iconst (v := 0) hx hb dX8_hung_12 (by decide) ?_
    refine lv_istore_n (lv' := [(3, .int 0), (2, .int 0), (0, .ref (ax 0)), (1, .int tt)]) hx hb dX8_hung_13 rfl hl (by decide) rfl (fun ls hl => ?_)
    have loop14_6 : ∀ (n : Nat) (i3 : Int32) (n2 : Int32) (H : Heap) (locs : List Loc) (ls : Array Slot), 10 - i3.toInt < (n : Int) → (0 ≤ i3.toInt ∧ i3.toInt ≤ 10) → (0 ≤ n2.toInt ∧ n2.toInt ≤ 10) → (n2.toInt ≤ i3.toInt ∧ i3.toInt ≤ xMo.toInt) → (n2.toInt = (hgc gMo tt.toInt.toNat i3.toInt.toNat : Int)) → va_P (dC, dI) vwCl (([((ax 26), .inl (cA 0, 10, .inl gMo)), ((ax 0), .inr (8, [.ref (ax 1), .ref (ax 7), .ref (ax 10), .ref (ax 11), .ref (ax 13), .ref (ax 15), .ref (ax 16), .ref (ax 21), .ref (ax 26), .ref (ax 27), .ref (ax 28), .int xNow, .int xEr, .int xTr, .int xMo, .int xFa, .int xRe])), ((ax 15), .inl (cA 5, 20, .inr (.inr (.inr (.inr gTr)))))] : va_W) ++ va_pl L pf) H → va_D A (([((ax 26), .inl (cA 0, 10, .inl gMo)), ((ax 0), .inr (8, [.ref (ax 1), .ref (ax 7), .ref (ax 10), .ref (ax 11), .ref (ax 13), .ref (ax 15), .ref (ax 16), .ref (ax 21), .ref (ax 26), .ref (ax 27), .ref (ax 28), .int xNow, .int xEr, .int xTr, .int xMo, .int xFa, .int xRe])), ((ax 15), .inl (cA 5, 20, .inr (.inr (.inr (.inr gTr)))))] : va_W) ++ va_pl L pf) → va_S A s.heap H locs → lv_has ls 4 [(3, .int i3), (2, .int n2), (0, .ref (ax 0)), (1, .int tt)] → W p l e ({ frames := 1, cells := 0, slots := 0, locals := 21 }) s m ([.ref (ax 0), .int tt] : List Value).toArray below meth c H locs 0 0 QQ (F0 m 14 ls []) := by
      intro n
      induction n with
      | zero => intro i3 n2 H locs ls hme hv0_14 hv1_14 hv2_14 hv3_14; exfalso; omega
      | succ n ih_14 =>
        intro i3 n2 H locs ls hme_14 hv0_14 hv1_14 hv2_14 hv3_14 hP hD hS hl
        refine lv_iload_n hx hb dX8_hung_14 rfl (lv_at hl 0 rfl) ?_
        refine lv_aload_n hx hb dX8_hung_15 rfl (lv_at hl 2 rfl) ?_
        refine va_get (D := (dC, dI)) (ci := 8) (v := .int xMo) (C := RX8) (T := TX8) (N := 17) hx hb hts hIX8 hown hK hP 1 rfl rfl 14 (by decide) (hts (.fieldLink RX8 250 "TraitHouse" "modelsThere" "I") (by decide +kernel)) (fun _ h9 => h9) rfl dX8_hung_16 ?_
        refine lv_icmp_ge (tgt := 44) hx hb dX8_hung_19 (by decide) (fun c_7 => ?_) (fun c_7 => ?_)
        · have dc_7 : xMo.toInt ≤ i3.toInt := jI_le c_7 rfl rfl
          refine lv_iload_n hx hb dX8_hung_44 rfl (lv_at hl 1 rfl) ?_
          have hP9 := hP.part (cx := [((ax 0), .inr (8, [.ref (ax 1), .ref (ax 7), .ref (ax 10), .ref (ax 11), .ref (ax 13), .ref (ax 15), .ref (ax 16), .ref (ax 21), .ref (ax 26), .ref (ax 27), .ref (ax 28), .int xNow, .int xEr, .int xTr, .int xMo, .int xFa, .int xRe])), ((ax 15), .inl (cA 5, 20, .inr (.inr (.inr (.inr gTr))))), ((ax 26), .inl (cA 0, 10, .inl gMo))]) [1, 2, 0] rfl
          have hD9 := hD.part (cx := [((ax 0), .inr (8, [.ref (ax 1), .ref (ax 7), .ref (ax 10), .ref (ax 11), .ref (ax 13), .ref (ax 15), .ref (ax 16), .ref (ax 21), .ref (ax 26), .ref (ax 27), .ref (ax 28), .int xNow, .int xEr, .int xTr, .int xMo, .int xFa, .int xRe])), ((ax 15), .inl (cA 5, 20, .inr (.inr (.inr (.inr gTr))))), ((ax 26), .inl (cA 0, 10, .inl gMo))]) [1, 2, 0] (by decide) rfl
          subst hQe
          have hans : (n2 : Int32).toInt = n2.toInt := rfl
          have hpost : ((0 ≤ tt.toInt ∧ tt.toInt < xTr.toInt → (n2 : Int32).toInt = (hgc gMo tt.toInt.toNat xMo.toInt.toNat : Int)) ∧ (¬ (0 ≤ tt.toInt ∧ tt.toInt < xTr.toInt) → (n2 : Int32).toInt = (-1))) := ⟨fun _ => (by have h9 := hv3_14; rw [show i3.toInt.toNat = xMo.toInt.toNat by omega] at h9; exact h9), fun h => by exfalso; omega⟩
          exact W.iret (v := n2) hx hb hr (fun t ht hW => ⟨⟨n2, (), rfl, hpost, by rw [ht]; exact hP9, hD9⟩, hS.F ht⟩) hS.2.2 dX8_hung_45
        · have dc_7 : i3.toInt < xMo.toInt := jI_nle c_7 rfl rfl
          refine lv_aload_n hx hb dX8_hung_22 rfl (lv_at hl 2 rfl) ?_
          refine va_get (D := (dC, dI)) (ci := 8) (v := .ref (ax 26)) (C := RX8) (T := TX8) (N := 17) hx hb hts hIX8 hown hK hP 1 rfl rfl 8 (by decide) (hts (.fieldLink RX8 65 "TraitHouse" "models" "[I") (by decide +kernel)) (fun _ h9 => h9) rfl dX8_hung_23 ?_
          refine lv_iload_n hx hb dX8_hung_26 rfl (lv_at hl 0 rfl) ?_
          have h_8 : vp_in i3 10 := (vp_in_iff.mpr ⟨by omega, by omega⟩)
          refine va_iald hx hb hK hP 0 0 rfl rfl h_8 dX8_hung_27 ?_
          refine lv_topi (fun x_9 ex_9 => ?_)
          refine lv_iload_n hx hb dX8_hung_28 rfl (lv_at hl 3 rfl) ?_
          obtain ⟨hPc, hDc, hFc, hCc⟩ := va_pre (ws' := []) hP hD hS hA [] (by decide) rfl
          refine va_calli (va_runS (As := [.int x_9, .int tt]) (rest := []) ⟨hx, hb, hml, hown, hts⟩ (k_X8_hasBit l dC dI cA H.size x_9 tt (by omega)) (va_cwS 2 hts gX8_hung_X8_hasBit rfl rfl rfl (by decide +kernel) ⟨Nat.le_of_ble_eq_true rfl, Nat.le_of_ble_eq_true rfl⟩) ⟨fun a U g mk q => by obtain ⟨q0, q1, qP, qK, qD, qN⟩ := q; exact ⟨q0, q1, qP, va_K.moved (u := U) (U := U.calling g mk a) (Vm.Alike.refl U.vm) qK, qD, qN.same rfl⟩, fun U hU hW => ⟨rfl, by rw [hU], by rw [hU]; exact hPc, va_K.moved hW.alike hK, hDc.weaken (fun _ _ _ _ => trivial), hN.warm hW⟩⟩ rfl rfl hl.1 rfl (lv_room (Nat.le_of_ble_eq_true rfl)) dX8_hung_29 ⟨Nat.le_of_ble_eq_true rfl, Nat.le_of_ble_eq_true rfl⟩) hS (fun q _ h => hFc q h) hFc (fun r_10 u_11 t H1 locs ht hvm hw_12 hB hz1 hk1 hS => ?_)
          try dsimp only at hw_12 hB
          obtain ⟨po_13, tb_14⟩ := hw_12
          obtain ⟨hP1, hD1⟩ := hB
          rw [ht] at hP1
          obtain ⟨hP, hD⟩ := va_joinQ (wr := [((ax 26), .inl (cA 0, 10, .inl gMo)), ((ax 0), .inr (8, [.ref (ax 1), .ref (ax 7), .ref (ax 10), .ref (ax 11), .ref (ax 13), .ref (ax 15), .ref (ax 16), .ref (ax 21), .ref (ax 26), .ref (ax 27), .ref (ax 28), .int xNow, .int xEr, .int xTr, .int xMo, .int xFa, .int xRe])), ((ax 15), .inl (cA 5, 20, .inr (.inr (.inr (.inr gTr)))))]) (w1 := []) hP hD [] [0, 1, 2] rfl rfl (by decide) (by decide) hk1 hFc hP1 hD1
          clear hz1
          generalize H1 = H at hP hS ⊢
          replace hP : va_P (dC, dI) vwCl (([((ax 26), .inl (cA 0, 10, .inl gMo)), ((ax 0), .inr (8, [.ref (ax 1), .ref (ax 7), .ref (ax 10), .ref (ax 11), .ref (ax 13), .ref (ax 15), .ref (ax 16), .ref (ax 21), .ref (ax 26), .ref (ax 27), .ref (ax 28), .int xNow, .int xEr, .int xTr, .int xMo, .int xFa, .int xRe])), ((ax 15), .inl (cA 5, 20, .inr (.inr (.inr (.inr gTr)))))] : va_W) ++ va_pl L pf) H := hP
          replace hD : va_D A (([((ax 26), .inl (cA 0, 10, .inl gMo)), ((ax 0), .inr (8, [.ref (ax 1), .ref (ax 7), .ref (ax 10), .ref (ax 11), .ref (ax 13), .ref (ax 15), .ref (ax 16), .ref (ax 21), .ref (ax 26), .ref (ax 27), .ref (ax 28), .int xNow, .int xEr, .int xTr, .int xMo, .int xFa, .int xRe])), ((ax 15), .inl (cA 5, 20, .inr (.inr (.inr (.inr gTr)))))] : va_W) ++ va_pl L pf) := hD
          refine lv_if_eq (tgt := 38) hx hb dX8_hung_32 (by decide) (fun c_15 => ?_) (fun c_15 => ?_)
          · have dc_15 : r_10.toInt = 0 := jI_eq c_15 rfl (by decide)
            obtain ⟨x_16, ex_16⟩ : ∃ y : Int32, y = i3 + 1 := ⟨_, rfl⟩
            have dx_16 : x_16.toInt = i3.toInt + 1 := by rw [ex_16]; exact jI_add rfl (by decide) (by omega) (by omega)
            refine lv_iinc (v := x_16) (lv' := [(3, .int x_16), (2, .int n2), (0, .ref (ax 0)), (1, .int tt)]) hx hb dX8_hung_38 hl (k := 0) rfl (by rw [ex_16]; rfl) (by decide) rfl (fun ls hl => ?_)
            refine lv_goto (tgt := 14) hx hb dX8_hung_41 (by decide) ?_
            exact ih_14 x_16 n2 _ _ ls (by omega) (by omega) hv1_14 (by omega) (hgc_0 hv3_14 (by omega) ex_9 (fun h => absurd (tb_14.mpr h) (by omega)) (by omega) (by omega)) (hP.part (cx := [((ax 26), .inl (cA 0, 10, .inl gMo)), ((ax 0), .inr (8, [.ref (ax 1), .ref (ax 7), .ref (ax 10), .ref (ax 11), .ref (ax 13), .ref (ax 15), .ref (ax 16), .ref (ax 21), .ref (ax 26), .ref (ax 27), .ref (ax 28), .int xNow, .int xEr, .int xTr, .int xMo, .int xFa, .int xRe])), ((ax 15), .inl (cA 5, 20, .inr (.inr (.inr (.inr gTr)))))]) [0, 1, 2] rfl) (hD.part (cx := [((ax 26), .inl (cA 0, 10, .inl gMo)), ((ax 0), .inr (8, [.ref (ax 1), .ref (ax 7), .ref (ax 10), .ref (ax 11), .ref (ax 13), .ref (ax 15), .ref (ax 16), .ref (ax 21), .ref (ax 26), .ref (ax 27), .ref (ax 28), .int xNow, .int xEr, .int xTr, .int xMo, .int xFa, .int xRe])), ((ax 15), .inl (cA 5, 20, .inr (.inr (.inr (.inr gTr)))))]) [0, 1, 2] (by decide) rfl) hS (lv_sub hl [0, 1, 2, 3] rfl)
          · have dc_15 : ¬ r_10.toInt = 0 := jI_ne c_15 rfl (by decide)
            obtain ⟨x_17, ex_17⟩ : ∃ y : Int32, y = n2 + 1 := ⟨_, rfl⟩
            have dx_17 : x_17.toInt = n2.toInt + 1 := by rw [ex_17]; exact jI_add rfl (by decide) (by omega) (by omega)
            refine lv_iinc (v := x_17) (lv' := [(2, .int x_17), (3, .int i3), (0, .ref (ax 0)), (1, .int tt)]) hx hb dX8_hung_35 hl (k := 1) rfl (by rw [ex_17]; rfl) (by decide) rfl (fun ls hl => ?_)
            obtain ⟨x_18, ex_18⟩ : ∃ y : Int32, y = i3 + 1 := ⟨_, rfl⟩
            have dx_18 : x_18.toInt = i3.toInt + 1 := by rw [ex_18]; exact jI_add rfl (by decide) (by omega) (by omega)
            refine lv_iinc (v := x_18) (lv' := [(3, .int x_18), (2, .int x_17), (0, .ref (ax 0)), (1, .int tt)]) hx hb dX8_hung_38 hl (k := 1) rfl (by rw [ex_18]; rfl) (by decide) rfl (fun ls hl => ?_)
            refine lv_goto (tgt := 14) hx hb dX8_hung_41 (by decide) ?_
            exact ih_14 x_18 x_17 _ _ ls (by omega) (by omega) (by omega) (by omega) (hgc_1 hv3_14 (by omega) ex_9 (tb_14.mp (by omega)) (by omega) (by omega)) (hP.part (cx := [((ax 26), .inl (cA 0, 10, .inl gMo)), ((ax 0), .inr (8, [.ref (ax 1), .ref (ax 7), .ref (ax 10), .ref (ax 11), .ref (ax 13), .ref (ax 15), .ref (ax 16), .ref (ax 21), .ref (ax 26), .ref (ax 27), .ref (ax 28), .int xNow, .int xEr, .int xTr, .int xMo, .int xFa, .int xRe])), ((ax 15), .inl (cA 5, 20, .inr (.inr (.inr (.inr gTr)))))]) [0, 1, 2] rfl) (hD.part (cx := [((ax 26), .inl (cA 0, 10, .inl gMo)), ((ax 0), .inr (8, [.ref (ax 1), .ref (ax 7), .ref (ax 10), .ref (ax 11), .ref (ax 13), .ref (ax 15), .ref (ax 16), .ref (ax 21), .ref (ax 26), .ref (ax 27), .ref (ax 28), .int xNow, .int xEr, .int xTr, .int xMo, .int xFa, .int xRe])), ((ax 15), .inl (cA 5, 20, .inr (.inr (.inr (.inr gTr)))))]) [0, 1, 2] (by decide) rfl) hS (lv_sub hl [0, 1, 2, 3] rfl)
    have hk_19 : (0 : Int32).toInt = 0 := by decide
    have hk_20 : (0 : Int32).toInt = 0 := by decide
    exact loop14_6 (Int.toNat (10 - (0 : Int32).toInt) + 1) 0 0 _ _ ls (by omega) (by omega) (by omega) (by omega) (rfl) hP hD hS (lv_sub hl [0, 1, 2, 3] rfl)
  · have hrq := po_4.2 hT_5
    obtain rfl : r_1 = none := hrq
    refine W.eq (g2 := F0 m 5 ls [.null]) rfl ?_
    refine lv_ifnonnullN hx hb dX8_hung_5 ?_
    refine lv_iconst (v := (-1)) hx hb dX8_hung_8 (by decide) ?_
    have hP9 := hP.part (cx := [((ax 0), .inr (8, [.ref (ax 1), .ref (ax 7), .ref (ax 10), .ref (ax 11), .ref (ax 13), .ref (ax 15), .ref (ax 16), .ref (ax 21), .ref (ax 26), .ref (ax 27), .ref (ax 28), .int xNow, .int xEr, .int xTr, .int xMo, .int xFa, .int xRe])), ((ax 15), .inl (cA 5, 20, .inr (.inr (.inr (.inr gTr))))), ((ax 26), .inl (cA 0, 10, .inl gMo))]) [1, 2, 0] rfl
    have hD9 := hD.part (cx := [((ax 0), .inr (8, [.ref (ax 1), .ref (ax 7), .ref (ax 10), .ref (ax 11), .ref (ax 13), .ref (ax 15), .ref (ax 16), .ref (ax 21), .ref (ax 26), .ref (ax 27), .ref (ax 28), .int xNow, .int xEr, .int xTr, .int xMo, .int xFa, .int xRe])), ((ax 15), .inl (cA 5, 20, .inr (.inr (.inr (.inr gTr))))), ((ax 26), .inl (cA 0, 10, .inl gMo))]) [1, 2, 0] (by decide) rfl
    subst hQe
    have hans : ((-1) : Int32).toInt = (-1) := (by decide)
    have hpost : ((0 ≤ tt.toInt ∧ tt.toInt < xTr.toInt → ((-1) : Int32).toInt = (hgc gMo tt.toInt.toNat xMo.toInt.toNat : Int)) ∧ (¬ (0 ≤ tt.toInt ∧ tt.toInt < xTr.toInt) → ((-1) : Int32).toInt = (-1))) := ⟨fun h => by exfalso; omega, fun _ => by omega⟩
    exact W.iret (v := (-1)) hx hb hr (fun t ht hW => ⟨⟨(-1), (), rfl, hpost, by rw [ht]; exact hP9, hD9⟩, hS.F ht⟩) hS.2.2 dX8_hung_9

set_option maxHeartbeats 8000000 in
set_option maxRecDepth 100000 in
theorem k_X8_misses (l : Launch) (dC : Nat → ClassId) (dI : Nat → Nat → Nat) (cA : Nat → ClassId) (sz : Nat) (ax : Nat → Nat) (xNow : Int32) (xEr : Int32) (xTr : Int32) (xMo : Int32) (xFa : Int32) (xRe : Int32) (gTr : Nat → Option Nat) (gMo : Nat → Int32) (L : List Nat) (pf : Nat → va_E) (a : Int32) (pp : Int32) (nd : Nat → Int32) (sl : Nat → Int32) (i_xNow : 0 ≤ xNow.toInt ∧ xNow.toInt ≤ 100000) (i_xTr : 0 ≤ xTr.toInt ∧ xTr.toInt ≤ 20) (i_xMo : 0 ≤ xMo.toInt ∧ xMo.toInt ≤ 10) (hTP : TP cA xTr gTr L pf nd sl) : Met l yX8_misses wsX8_misses ({ frames := 2, cells := 0, slots := 0, locals := 44 }) (va_Pc [.ref (ax 0), .int a, .int pp] (fun U => U.heap.size = sz ∧ va_P (dC, dI) vwCl (([((ax 0), .inr (8, [.ref (ax 1), .ref (ax 7), .ref (ax 10), .ref (ax 11), .ref (ax 13), .ref (ax 15), .ref (ax 16), .ref (ax 21), .ref (ax 26), .ref (ax 27), .ref (ax 28), .int xNow, .int xEr, .int xTr, .int xMo, .int xFa, .int xRe])), ((ax 15), .inl (cA 5, 20, .inr (.inr (.inr (.inr gTr))))), ((ax 26), .inl (cA 0, 10, .inl gMo))] : va_W) ++ va_pl L pf) U.heap ∧ va_K (dC, dI) vwCl (tyL cA) U ∧ va_D (fun _ => True) (([((ax 0), .inr (8, [.ref (ax 1), .ref (ax 7), .ref (ax 10), .ref (ax 11), .ref (ax 13), .ref (ax 15), .ref (ax 16), .ref (ax 21), .ref (ax 26), .ref (ax 27), .ref (ax 28), .int xNow, .int xEr, .int xTr, .int xMo, .int xFa, .int xRe])), ((ax 15), .inl (cA 5, 20, .inr (.inr (.inr (.inr gTr))))), ((ax 26), .inl (cA 0, 10, .inl gMo))] : va_W) ++ va_pl L pf) ∧ nw_ok U)) (va_Qi (fun (r : Int32) (_ : Unit) => True) (fun (_ : Unit) (t : State) => va_P (dC, dI) vwCl (([((ax 0), .inr (8, [.ref (ax 1), .ref (ax 7), .ref (ax 10), .ref (ax 11), .ref (ax 13), .ref (ax 15), .ref (ax 16), .ref (ax 21), .ref (ax 26), .ref (ax 27), .ref (ax 28), .int xNow, .int xEr, .int xTr, .int xMo, .int xFa, .int xRe])), ((ax 15), .inl (cA 5, 20, .inr (.inr (.inr (.inr gTr))))), ((ax 26), .inl (cA 0, 10, .inl gMo))] : va_W) ++ va_pl L pf) t.heap ∧ va_D (va_A (([((ax 0), .inr (8, [.ref (ax 1), .ref (ax 7), .ref (ax 10), .ref (ax 11), .ref (ax 13), .ref (ax 15), .ref (ax 16), .ref (ax 21), .ref (ax 26), .ref (ax 27), .ref (ax 28), .int xNow, .int xEr, .int xTr, .int xMo, .int xFa, .int xRe])), ((ax 15), .inl (cA 5, 20, .inr (.inr (.inr (.inr gTr))))), ((ax 26), .inl (cA 0, 10, .inl gMo))] : va_W) ++ va_pl L pf) sz) (([((ax 0), .inr (8, [.ref (ax 1), .ref (ax 7), .ref (ax 10), .ref (ax 11), .ref (ax 13), .ref (ax 15), .ref (ax 16), .ref (ax 21), .ref (ax 26), .ref (ax 27), .ref (ax 28), .int xNow, .int xEr, .int xTr, .int xMo, .int xFa, .int xRe])), ((ax 15), .inl (cA 5, 20, .inr (.inr (.inr (.inr gTr))))), ((ax 26), .inl (cA 0, 10, .inl gMo))] : va_W) ++ va_pl L pf)) (va_A (([((ax 0), .inr (8, [.ref (ax 1), .ref (ax 7), .ref (ax 10), .ref (ax 11), .ref (ax 13), .ref (ax 15), .ref (ax 16), .ref (ax 21), .ref (ax 26), .ref (ax 27), .ref (ax 28), .int xNow, .int xEr, .int xTr, .int xMo, .int xFa, .int xRe])), ((ax 15), .inl (cA 5, 20, .inr (.inr (.inr (.inr gTr))))), ((ax 26), .inl (cA 0, 10, .inl gMo))] : va_W) ++ va_pl L pf) sz)) 0 0 (va_A (([((ax 0), .inr (8, [.ref (ax 1), .ref (ax 7), .ref (ax 10), .ref (ax 11), .ref (ax 13), .ref (ax 15), .ref (ax 16), .ref (ax 21), .ref (ax 26), .ref (ax 27), .ref (ax 28), .int xNow, .int xEr, .int xTr, .int xMo, .int xFa, .int xRe])), ((ax 15), .inl (cA 5, 20, .inr (.inr (.inr (.inr gTr))))), ((ax 26), .inl (cA 0, 10, .inl gMo))] : va_W) ++ va_pl L pf) sz) := by
  refine Met.ofW (cc := cX8_misses) (maxL := 6) (ret := (some .int)) (by decide) rfl ?_
  intro p e s m args below meth c s₁ B hml hv
  obtain ⟨rfl, hsz, hP, hK, hD0, hN⟩ := hv
  have hx := B.exec
  have hb := B.bytes
  have hr := B.returns
  have hts := atoms_spec (ws := wsX8_misses) B.pre
  have hown : s.vm.findClass RX8 = some m.cls := findClass_of_methodNamed B.named
  have hlocks := B.notSynchronized
  subst hsz
  have hD := hD0.self (sz := s.heap.size)
  generalize hAe : va_A (([((ax 0), .inr (8, [.ref (ax 1), .ref (ax 7), .ref (ax 10), .ref (ax 11), .ref (ax 13), .ref (ax 15), .ref (ax 16), .ref (ax 21), .ref (ax 26), .ref (ax 27), .ref (ax 28), .int xNow, .int xEr, .int xTr, .int xMo, .int xFa, .int xRe])), ((ax 15), .inl (cA 5, 20, .inr (.inr (.inr (.inr gTr))))), ((ax 26), .inl (cA 0, 10, .inl gMo))] : va_W) ++ va_pl L pf) s.heap.size = A at hD ⊢
  have hA : ∀ q : Nat, s.heap.size ≤ q → A q := fun q h => by rw [← hAe]; exact Or.inr h
  have hS : va_S A s.heap s.heap [] := va_S.rf
  have hIX8 : ∀ w ∈ u_ws RX8 TX8 17, w ∈ wsX8_misses := by decide +kernel
  have hl := lv_entry ([.ref (ax 0), .int a, .int pp]) (n := 6) (Nat.le_of_ble_eq_true rfl)
  rw [lg_entry_eq]
  generalize (lg_sl ([.ref (ax 0), .int a, .int pp]) ++ List.replicate (6 - (lg_sl ([.ref (ax 0), .int a, .int pp])).length) Slot.unset).toArray = ls at hl ⊢
  have hl : lv_has ls 6 [(0, .ref (ax 0)), (1, .int a), (2, .int pp)] := hl
  generalize hQe : MQ below _ _ _ _ _ _ = QQ
  refine lv_aload_n hx hb dX8_misses_0 rfl (lv_at hl 0 rfl) ?_
  refine lv_iload_n hx hb dX8_misses_1 rfl (lv_at hl 1 rfl) ?_
  obtain ⟨hPc, hDc, hFc, hCc⟩ := va_pre (ws' := [((ax 0), .inr (8, [.ref (ax 1), .ref (ax 7), .ref (ax 10), .ref (ax 11), .ref (ax 13), .ref (ax 15), .ref (ax 16), .ref (ax 21), .ref (ax 26), .ref (ax 27), .ref (ax 28), .int xNow, .int xEr, .int xTr, .int xMo, .int xFa, .int xRe]))]) hP hD hS hA [0] (by decide) rfl
  refine va_calli (va_runV (As := [.int a]) (rest := []) ⟨hx, hb, hml, hown, hts⟩ (k_X8_isModel l dC dI cA s.heap.size ax xNow xEr xTr xMo xFa xRe a i_xNow i_xTr i_xMo) (cwV 1 hts gX8_misses_X8_isModel rfl rfl rfl (by decide +kernel) ⟨Nat.le_of_ble_eq_true rfl, Nat.le_of_ble_eq_true rfl⟩) ⟨fun a U g mk q => by obtain ⟨q0, q1, qP, qK, qD, qN⟩ := q; exact ⟨q0, q1, qP, va_K.moved (u := U) (U := U.calling g mk a) (Vm.Alike.refl U.vm) qK, qD, qN.same rfl⟩, va_recv hK hPc (ci := 8) (q0 := 0) rfl rfl, fun U hU hW => ⟨rfl, by rw [hU], by rw [hU]; exact hPc, va_K.moved hW.alike hK, hDc.weaken (fun _ _ _ _ => trivial), hN.warm hW⟩⟩ rfl rfl hl.1 rfl (lv_room (Nat.le_of_ble_eq_true rfl)) dX8_misses_2 ⟨Nat.le_of_ble_eq_true rfl, Nat.le_of_ble_eq_true rfl⟩) hS (fun q _ h => hFc q h) hFc (fun r_1 u_2 t H1 locs ht hvm hw_3 hB hz1 hk1 hS => ?_)
  try dsimp only at hw_3 hB
  have po_4 := hw_3
  clear hw_3
  obtain ⟨hP1, hD1⟩ := hB
  rw [ht] at hP1
  obtain ⟨hP, hD⟩ := va_joinQ (wr := [((ax 15), .inl (cA 5, 20, .inr (.inr (.inr (.inr gTr))))), ((ax 26), .inl (cA 0, 10, .inl gMo))]) (w1 := [((ax 0), .inr (8, [.ref (ax 1), .ref (ax 7), .ref (ax 10), .ref (ax 11), .ref (ax 13), .ref (ax 15), .ref (ax 16), .ref (ax 21), .ref (ax 26), .ref (ax 27), .ref (ax 28), .int xNow, .int xEr, .int xTr, .int xMo, .int xFa, .int xRe]))]) hP hD [0] [1, 2] rfl rfl (by decide) (by decide) hk1 hFc hP1 hD1
  clear hz1
  generalize H1 = H at hP hS ⊢
  replace hP : va_P (dC, dI) vwCl (([((ax 15), .inl (cA 5, 20, .inr (.inr (.inr (.inr gTr))))), ((ax 26), .inl (cA 0, 10, .inl gMo)), ((ax 0), .inr (8, [.ref (ax 1), .ref (ax 7), .ref (ax 10), .ref (ax 11), .ref (ax 13), .ref (ax 15), .ref (ax 16), .ref (ax 21), .ref (ax 26), .ref (ax 27), .ref (ax 28), .int xNow, .int xEr, .int xTr, .int xMo, .int xFa, .int xRe]))] : va_W) ++ va_pl L pf) H := hP
  replace hD : va_D A (([((ax 15), .inl (cA 5, 20, .inr (.inr (.inr (.inr gTr))))), ((ax 26), .inl (cA 0, 10, .inl gMo)), ((ax 0), .inr (8, [.ref (ax 1), .ref (ax 7), .ref (ax 10), .ref (ax 11), .ref (ax 13), .ref (ax 15), .ref (ax 16), .ref (ax 21), .ref (ax 26), .ref (ax 27), .ref (ax 28), .int xNow, .int xEr, .int xTr, .int xMo, .int xFa, .int xRe]))] : va_W) ++ va_pl L pf) := hD
  refine lv_if_eq (tgt := 15) hx hb dX8_misses_5 (by decide) (fun c_5 => ?_) (fun c_5 => ?_)
  · have dc_5 : r_1.toInt = 0 := jI_eq c_5 rfl (by decide)
    refine lv_iconst (v := (-1)) hx hb dX8_misses_15 (by decide) ?_
    have hP9 := hP.part (cx := [((ax 0), .inr (8, [.ref (ax 1), .ref (ax 7), .ref (ax 10), .ref (ax 11), .ref (ax 13), .ref (ax 15), .ref (ax 16), .ref (ax 21), .ref (ax 26), .ref (ax 27), .ref (ax 28), .int xNow, .int xEr, .int xTr, .int xMo, .int xFa, .int xRe])), ((ax 15), .inl (cA 5, 20, .inr (.inr (.inr (.inr gTr))))), ((ax 26), .inl (cA 0, 10, .inl gMo))]) [2, 0, 1] rfl
    have hD9 := hD.part (cx := [((ax 0), .inr (8, [.ref (ax 1), .ref (ax 7), .ref (ax 10), .ref (ax 11), .ref (ax 13), .ref (ax 15), .ref (ax 16), .ref (ax 21), .ref (ax 26), .ref (ax 27), .ref (ax 28), .int xNow, .int xEr, .int xTr, .int xMo, .int xFa, .int xRe])), ((ax 15), .inl (cA 5, 20, .inr (.inr (.inr (.inr gTr))))), ((ax 26), .inl (cA 0, 10, .inl gMo))]) [2, 0, 1] (by decide) rfl
    subst hQe
    have hans : ((-1) : Int32).toInt = (-1) := (by decide)
    exact W.iret (v := (-1)) hx hb hr (fun t ht hW => ⟨⟨(-1), (), rfl, trivial, by rw [ht]; exact hP9, hD9⟩, hS.F ht⟩) hS.2.2 dX8_misses_16
  · have dc_5 : ¬ r_1.toInt = 0 := jI_ne c_5 rfl (by decide)
    refine lv_iload_n hx hb dX8_misses_8 rfl (lv_at hl 2 rfl) ?_
    obtain ⟨hPc, hDc, hFc, hCc⟩ := va_pre (ws' := []) hP hD hS hA [] (by decide) rfl
    refine va_calli (va_runS (As := [.int pp]) (rest := []) ⟨hx, hb, hml, hown, hts⟩ (k_X8_isPerson l dC dI cA H.size pp ) (va_cwS 1 hts gX8_misses_X8_isPerson rfl rfl rfl (by decide +kernel) ⟨Nat.le_of_ble_eq_true rfl, Nat.le_of_ble_eq_true rfl⟩) ⟨fun a U g mk q => by obtain ⟨q0, q1, qP, qK, qD, qN⟩ := q; exact ⟨q0, q1, qP, va_K.moved (u := U) (U := U.calling g mk a) (Vm.Alike.refl U.vm) qK, qD, qN.same rfl⟩, fun U hU hW => ⟨rfl, by rw [hU], by rw [hU]; exact hPc, va_K.moved hW.alike hK, hDc.weaken (fun _ _ _ _ => trivial), hN.warm hW⟩⟩ rfl rfl hl.1 rfl (lv_room (Nat.le_of_ble_eq_true rfl)) dX8_misses_9 ⟨Nat.le_of_ble_eq_true rfl, Nat.le_of_ble_eq_true rfl⟩) hS (fun q _ h => hFc q h) hFc (fun r_6 u_7 t H1 locs ht hvm hw_8 hB hz1 hk1 hS => ?_)
    try dsimp only at hw_8 hB
    have po_9 := hw_8
    clear hw_8
    obtain ⟨hP1, hD1⟩ := hB
    rw [ht] at hP1
    obtain ⟨hP, hD⟩ := va_joinQ (wr := [((ax 15), .inl (cA 5, 20, .inr (.inr (.inr (.inr gTr))))), ((ax 26), .inl (cA 0, 10, .inl gMo)), ((ax 0), .inr (8, [.ref (ax 1), .ref (ax 7), .ref (ax 10), .ref (ax 11), .ref (ax 13), .ref (ax 15), .ref (ax 16), .ref (ax 21), .ref (ax 26), .ref (ax 27), .ref (ax 28), .int xNow, .int xEr, .int xTr, .int xMo, .int xFa, .int xRe]))]) (w1 := []) hP hD [] [0, 1, 2] rfl rfl (by decide) (by decide) hk1 hFc hP1 hD1
    clear hz1
    generalize H1 = H at hP hS ⊢
    replace hP : va_P (dC, dI) vwCl (([((ax 15), .inl (cA 5, 20, .inr (.inr (.inr (.inr gTr))))), ((ax 26), .inl (cA 0, 10, .inl gMo)), ((ax 0), .inr (8, [.ref (ax 1), .ref (ax 7), .ref (ax 10), .ref (ax 11), .ref (ax 13), .ref (ax 15), .ref (ax 16), .ref (ax 21), .ref (ax 26), .ref (ax 27), .ref (ax 28), .int xNow, .int xEr, .int xTr, .int xMo, .int xFa, .int xRe]))] : va_W) ++ va_pl L pf) H := hP
    replace hD : va_D A (([((ax 15), .inl (cA 5, 20, .inr (.inr (.inr (.inr gTr))))), ((ax 26), .inl (cA 0, 10, .inl gMo)), ((ax 0), .inr (8, [.ref (ax 1), .ref (ax 7), .ref (ax 10), .ref (ax 11), .ref (ax 13), .ref (ax 15), .ref (ax 16), .ref (ax 21), .ref (ax 26), .ref (ax 27), .ref (ax 28), .int xNow, .int xEr, .int xTr, .int xMo, .int xFa, .int xRe]))] : va_W) ++ va_pl L pf) := hD
    refine lv_if_ne (tgt := 17) hx hb dX8_misses_12 (by decide) (fun c_10 => ?_) (fun c_10 => ?_)
    · have dc_10 : ¬ r_6.toInt = 0 := jI_ne c_10 rfl (by decide)
      refine lv_iconst (v := 0) hx hb dX8_misses_17 (by decide) ?_
      refine lv_istore_n (lv' := [(3, .int 0), (0, .ref (ax 0)), (1, .int a), (2, .int pp)]) hx hb dX8_misses_18 rfl hl (by decide) rfl (fun ls hl => ?_)
      refine lv_iconst (v := 0) hx hb dX8_misses_19 (by decide) ?_
      refine lv_istore (lv' := [(4, .int 0), (3, .int 0), (0, .ref (ax 0)), (1, .int a), (2, .int pp)]) hx hb dX8_misses_20 hl (by decide) rfl (fun ls hl => ?_)
      have loop22_11 : ∀ (n : Nat) (i4 : Int32) (n3 : Int32) (H : Heap) (locs : List Loc) (ls : Array Slot), 20 - i4.toInt < (n : Int) → (0 ≤ i4.toInt ∧ i4.toInt ≤ 20) → va_P (dC, dI) vwCl (([((ax 15), .inl (cA 5, 20, .inr (.inr (.inr (.inr gTr))))), ((ax 26), .inl (cA 0, 10, .inl gMo)), ((ax 0), .inr (8, [.ref (ax 1), .ref (ax 7), .ref (ax 10), .ref (ax 11), .ref (ax 13), .ref (ax 15), .ref (ax 16), .ref (ax 21), .ref (ax 26), .ref (ax 27), .ref (ax 28), .int xNow, .int xEr, .int xTr, .int xMo, .int xFa, .int xRe]))] : va_W) ++ va_pl L pf) H → va_D A (([((ax 15), .inl (cA 5, 20, .inr (.inr (.inr (.inr gTr))))), ((ax 26), .inl (cA 0, 10, .inl gMo)), ((ax 0), .inr (8, [.ref (ax 1), .ref (ax 7), .ref (ax 10), .ref (ax 11), .ref (ax 13), .ref (ax 15), .ref (ax 16), .ref (ax 21), .ref (ax 26), .ref (ax 27), .ref (ax 28), .int xNow, .int xEr, .int xTr, .int xMo, .int xFa, .int xRe]))] : va_W) ++ va_pl L pf) → va_S A s.heap H locs → lv_has ls 6 [(4, .int i4), (3, .int n3), (0, .ref (ax 0)), (1, .int a), (2, .int pp)] → W p l e ({ frames := 2, cells := 0, slots := 0, locals := 44 }) s m ([.ref (ax 0), .int a, .int pp] : List Value).toArray below meth c H locs 0 0 QQ (F0 m 22 ls []) := by
        intro n
        induction n with
        | zero => intro i4 n3 H locs ls hme hv0_22; exfalso; omega
        | succ n ih_22 =>
          intro i4 n3 H locs ls hme_22 hv0_22 hP hD hS hl
          refine lv_iload hx hb dX8_misses_22 (lv_at hl 0 rfl) ?_
          refine lv_aload_n hx hb dX8_misses_24 rfl (lv_at hl 2 rfl) ?_
          refine va_get (D := (dC, dI)) (ci := 8) (v := .int xTr) (C := RX8) (T := TX8) (N := 17) hx hb hts hIX8 hown hK hP 2 rfl rfl 13 (by decide) (hts (.fieldLink RX8 148 "TraitHouse" "traitsThere" "I") (by decide +kernel)) (fun _ h9 => h9) rfl dX8_misses_25 ?_
          refine lv_icmp_ge (tgt := 80) hx hb dX8_misses_28 (by decide) (fun c_12 => ?_) (fun c_12 => ?_)
          · have dc_12 : xTr.toInt ≤ i4.toInt := jI_le c_12 rfl rfl
            refine lv_iload_n hx hb dX8_misses_80 rfl (lv_at hl 1 rfl) ?_
            have hP9 := hP.part (cx := [((ax 0), .inr (8, [.ref (ax 1), .ref (ax 7), .ref (ax 10), .ref (ax 11), .ref (ax 13), .ref (ax 15), .ref (ax 16), .ref (ax 21), .ref (ax 26), .ref (ax 27), .ref (ax 28), .int xNow, .int xEr, .int xTr, .int xMo, .int xFa, .int xRe])), ((ax 15), .inl (cA 5, 20, .inr (.inr (.inr (.inr gTr))))), ((ax 26), .inl (cA 0, 10, .inl gMo))]) [2, 0, 1] rfl
            have hD9 := hD.part (cx := [((ax 0), .inr (8, [.ref (ax 1), .ref (ax 7), .ref (ax 10), .ref (ax 11), .ref (ax 13), .ref (ax 15), .ref (ax 16), .ref (ax 21), .ref (ax 26), .ref (ax 27), .ref (ax 28), .int xNow, .int xEr, .int xTr, .int xMo, .int xFa, .int xRe])), ((ax 15), .inl (cA 5, 20, .inr (.inr (.inr (.inr gTr))))), ((ax 26), .inl (cA 0, 10, .inl gMo))]) [2, 0, 1] (by decide) rfl
            subst hQe
            have hans : (n3 : Int32).toInt = n3.toInt := rfl
            exact W.iret (v := n3) hx hb hr (fun t ht hW => ⟨⟨n3, (), rfl, trivial, by rw [ht]; exact hP9, hD9⟩, hS.F ht⟩) hS.2.2 dX8_misses_81
          · have dc_12 : i4.toInt < xTr.toInt := jI_nle c_12 rfl rfl
            refine lv_aload_n hx hb dX8_misses_31 rfl (lv_at hl 2 rfl) ?_
            refine lv_iload hx hb dX8_misses_32 (lv_at hl 0 rfl) ?_
            obtain ⟨hPc, hDc, hFc, hCc⟩ := va_pre (ws' := [((ax 0), .inr (8, [.ref (ax 1), .ref (ax 7), .ref (ax 10), .ref (ax 11), .ref (ax 13), .ref (ax 15), .ref (ax 16), .ref (ax 21), .ref (ax 26), .ref (ax 27), .ref (ax 28), .int xNow, .int xEr, .int xTr, .int xMo, .int xFa, .int xRe])), ((ax 15), .inl (cA 5, 20, .inr (.inr (.inr (.inr gTr)))))]) hP hD hS hA [2, 0] (by decide) rfl
            refine va_callq (va_runV (As := [.int i4]) (rest := []) ⟨hx, hb, hml, hown, hts⟩ (k_X8_traitAt l dC dI cA H.size ax xNow xEr xTr xMo xFa xRe gTr i4 i_xNow i_xTr i_xMo) (cwV 1 hts gX8_misses_X8_traitAt rfl rfl rfl (by decide +kernel) ⟨Nat.le_of_ble_eq_true rfl, Nat.le_of_ble_eq_true rfl⟩) ⟨fun a U g mk q => by obtain ⟨q0, q1, qP, qK, qD, qN⟩ := q; exact ⟨q0, q1, qP, va_K.moved (u := U) (U := U.calling g mk a) (Vm.Alike.refl U.vm) qK, qD, qN.same rfl⟩, va_recv hK hPc (ci := 8) (q0 := 0) rfl rfl, fun U hU hW => ⟨rfl, by rw [hU], by rw [hU]; exact hPc, va_K.moved hW.alike hK, hDc.weaken (fun _ _ _ _ => trivial), hN.warm hW⟩⟩ rfl rfl hl.1 rfl (lv_room (Nat.le_of_ble_eq_true rfl)) dX8_misses_34 ⟨Nat.le_of_ble_eq_true rfl, Nat.le_of_ble_eq_true rfl⟩) hS (fun q _ h => hFc q h) hFc (fun r_13 u_14 t H1 locs ht hvm hw_15 hB hz1 hk1 hS => ?_)
            try dsimp only at hw_15 hB
            have po_16 := hw_15
            clear hw_15
            obtain ⟨hP1, hD1⟩ := hB
            rw [ht] at hP1
            obtain ⟨hP, hD⟩ := va_joinQ (wr := [((ax 26), .inl (cA 0, 10, .inl gMo))]) (w1 := [((ax 0), .inr (8, [.ref (ax 1), .ref (ax 7), .ref (ax 10), .ref (ax 11), .ref (ax 13), .ref (ax 15), .ref (ax 16), .ref (ax 21), .ref (ax 26), .ref (ax 27), .ref (ax 28), .int xNow, .int xEr, .int xTr, .int xMo, .int xFa, .int xRe])), ((ax 15), .inl (cA 5, 20, .inr (.inr (.inr (.inr gTr)))))]) hP hD [2, 0] [1] rfl rfl (by decide) (by decide) hk1 hFc hP1 hD1
            clear hz1
            generalize H1 = H at hP hS ⊢
            replace hP : va_P (dC, dI) vwCl (([((ax 26), .inl (cA 0, 10, .inl gMo)), ((ax 0), .inr (8, [.ref (ax 1), .ref (ax 7), .ref (ax 10), .ref (ax 11), .ref (ax 13), .ref (ax 15), .ref (ax 16), .ref (ax 21), .ref (ax 26), .ref (ax 27), .ref (ax 28), .int xNow, .int xEr, .int xTr, .int xMo, .int xFa, .int xRe])), ((ax 15), .inl (cA 5, 20, .inr (.inr (.inr (.inr gTr)))))] : va_W) ++ va_pl L pf) H := hP
            replace hD : va_D A (([((ax 26), .inl (cA 0, 10, .inl gMo)), ((ax 0), .inr (8, [.ref (ax 1), .ref (ax 7), .ref (ax 10), .ref (ax 11), .ref (ax 13), .ref (ax 15), .ref (ax 16), .ref (ax 21), .ref (ax 26), .ref (ax 27), .ref (ax 28), .int xNow, .int xEr, .int xTr, .int xMo, .int xFa, .int xRe])), ((ax 15), .inl (cA 5, 20, .inr (.inr (.inr (.inr gTr)))))] : va_W) ++ va_pl L pf) := hD
            by_cases hT_17 : 0 ≤ i4.toInt ∧ i4.toInt < xTr.toInt
            · have hrq := po_16.1 hT_17
              obtain ⟨ndv_17, hnd_17⟩ : ∃ z : Int32, z = nd i4.toNatClampNeg := ⟨_, rfl⟩
              obtain ⟨slv_17, hsl_17⟩ : ∃ z : Int32, z = sl i4.toNatClampNeg := ⟨_, rfl⟩
              obtain ⟨t_17, hte_17, hok_17⟩ := TP_at (i := i4) hTP (by omega) (by omega)
              rw [← hnd_17, ← hsl_17] at hok_17
              have hok9 := hok_17
              obtain ⟨htm_17, s_17, v_17, m_17, lf_17, lt_17, he_17, htf_17, hso_17, hvm_17, ⟨kv_17, hvf_17⟩, hmm_17, km_17, hmf_17⟩ := hok9
              rw [hte_17] at hrq
              obtain rfl : r_13 = some t_17 := hrq
              refine W.eq (g2 := F0 m 37 ls [.ref t_17]) rfl ?_
              refine lv_astore (lv' := [(5, .ref t_17), (4, .int i4), (3, .int n3), (0, .ref (ax 0)), (1, .int a), (2, .int pp)]) hx hb dX8_misses_37 hl (by decide) rfl (fun ls hl => ?_)
              refine lv_aload hx hb dX8_misses_39 (lv_at hl 0 rfl) ?_
              refine lv_ifnull hx hb dX8_misses_41 ?_
              refine lv_aload_n hx hb dX8_misses_44 rfl (lv_at hl 3 rfl) ?_
              refine va_get (D := (dC, dI)) (ci := 8) (v := .ref (ax 26)) (C := RX8) (T := TX8) (N := 17) hx hb hts hIX8 hown hK hP 1 rfl rfl 8 (by decide) (hts (.fieldLink RX8 65 "TraitHouse" "models" "[I") (by decide +kernel)) (fun _ h9 => h9) rfl dX8_misses_45 ?_
              refine lv_iload_n hx hb dX8_misses_48 rfl (lv_at hl 4 rfl) ?_
              have h_18 : vp_in a 10 := (vp_in_iff.mpr ⟨by omega, by omega⟩)
              refine va_iald hx hb hK hP 0 0 rfl rfl h_18 dX8_misses_49 ?_
              refine lv_topi (fun x_19 ex_19 => ?_)
              refine lv_iload hx hb dX8_misses_50 (lv_at hl 1 rfl) ?_
              obtain ⟨hPc, hDc, hFc, hCc⟩ := va_pre (ws' := []) hP hD hS hA [] (by decide) rfl
              refine va_calli (va_runS (As := [.int x_19, .int i4]) (rest := []) ⟨hx, hb, hml, hown, hts⟩ (k_X8_hasBit l dC dI cA H.size x_19 i4 (by omega)) (va_cwS 2 hts gX8_misses_X8_hasBit rfl rfl rfl (by decide +kernel) ⟨Nat.le_of_ble_eq_true rfl, Nat.le_of_ble_eq_true rfl⟩) ⟨fun a U g mk q => by obtain ⟨q0, q1, qP, qK, qD, qN⟩ := q; exact ⟨q0, q1, qP, va_K.moved (u := U) (U := U.calling g mk a) (Vm.Alike.refl U.vm) qK, qD, qN.same rfl⟩, fun U hU hW => ⟨rfl, by rw [hU], by rw [hU]; exact hPc, va_K.moved hW.alike hK, hDc.weaken (fun _ _ _ _ => trivial), hN.warm hW⟩⟩ rfl rfl hl.1 rfl (lv_room (Nat.le_of_ble_eq_true rfl)) dX8_misses_52 ⟨Nat.le_of_ble_eq_true rfl, Nat.le_of_ble_eq_true rfl⟩) hS (fun q _ h => hFc q h) hFc (fun r_20 u_21 t H1 locs ht hvm hw_22 hB hz1 hk1 hS => ?_)
              try dsimp only at hw_22 hB
              obtain ⟨po_23, tb_24⟩ := hw_22
              obtain ⟨hP1, hD1⟩ := hB
              rw [ht] at hP1
              obtain ⟨hP, hD⟩ := va_joinQ (wr := [((ax 26), .inl (cA 0, 10, .inl gMo)), ((ax 0), .inr (8, [.ref (ax 1), .ref (ax 7), .ref (ax 10), .ref (ax 11), .ref (ax 13), .ref (ax 15), .ref (ax 16), .ref (ax 21), .ref (ax 26), .ref (ax 27), .ref (ax 28), .int xNow, .int xEr, .int xTr, .int xMo, .int xFa, .int xRe])), ((ax 15), .inl (cA 5, 20, .inr (.inr (.inr (.inr gTr)))))]) (w1 := []) hP hD [] [0, 1, 2] rfl rfl (by decide) (by decide) hk1 hFc hP1 hD1
              clear hz1
              generalize H1 = H at hP hS ⊢
              replace hP : va_P (dC, dI) vwCl (([((ax 26), .inl (cA 0, 10, .inl gMo)), ((ax 0), .inr (8, [.ref (ax 1), .ref (ax 7), .ref (ax 10), .ref (ax 11), .ref (ax 13), .ref (ax 15), .ref (ax 16), .ref (ax 21), .ref (ax 26), .ref (ax 27), .ref (ax 28), .int xNow, .int xEr, .int xTr, .int xMo, .int xFa, .int xRe])), ((ax 15), .inl (cA 5, 20, .inr (.inr (.inr (.inr gTr)))))] : va_W) ++ va_pl L pf) H := hP
              replace hD : va_D A (([((ax 26), .inl (cA 0, 10, .inl gMo)), ((ax 0), .inr (8, [.ref (ax 1), .ref (ax 7), .ref (ax 10), .ref (ax 11), .ref (ax 13), .ref (ax 15), .ref (ax 16), .ref (ax 21), .ref (ax 26), .ref (ax 27), .ref (ax 28), .int xNow, .int xEr, .int xTr, .int xMo, .int xFa, .int xRe])), ((ax 15), .inl (cA 5, 20, .inr (.inr (.inr (.inr gTr)))))] : va_W) ++ va_pl L pf) := hD
              refine lv_if_eq (tgt := 74) hx hb dX8_misses_55 (by decide) (fun c_25 => ?_) (fun c_25 => ?_)
              · have dc_25 : r_20.toInt = 0 := jI_eq c_25 rfl (by decide)
                obtain ⟨x_26, ex_26⟩ : ∃ y : Int32, y = i4 + 1 := ⟨_, rfl⟩
                have dx_26 : x_26.toInt = i4.toInt + 1 := by rw [ex_26]; exact jI_add rfl (by decide) (by omega) (by omega)
                refine lv_iinc (v := x_26) (lv' := [(4, .int x_26), (5, .ref t_17), (3, .int n3), (0, .ref (ax 0)), (1, .int a), (2, .int pp)]) hx hb dX8_misses_74 hl (k := 1) rfl (by rw [ex_26]; rfl) (by decide) rfl (fun ls hl => ?_)
                refine lv_goto (tgt := 22) hx hb dX8_misses_77 (by decide) ?_
                exact ih_22 x_26 n3 _ _ ls (by omega) (by omega) (hP.part (cx := [((ax 15), .inl (cA 5, 20, .inr (.inr (.inr (.inr gTr))))), ((ax 26), .inl (cA 0, 10, .inl gMo)), ((ax 0), .inr (8, [.ref (ax 1), .ref (ax 7), .ref (ax 10), .ref (ax 11), .ref (ax 13), .ref (ax 15), .ref (ax 16), .ref (ax 21), .ref (ax 26), .ref (ax 27), .ref (ax 28), .int xNow, .int xEr, .int xTr, .int xMo, .int xFa, .int xRe]))]) [2, 0, 1] rfl) (hD.part (cx := [((ax 15), .inl (cA 5, 20, .inr (.inr (.inr (.inr gTr))))), ((ax 26), .inl (cA 0, 10, .inl gMo)), ((ax 0), .inr (8, [.ref (ax 1), .ref (ax 7), .ref (ax 10), .ref (ax 11), .ref (ax 13), .ref (ax 15), .ref (ax 16), .ref (ax 21), .ref (ax 26), .ref (ax 27), .ref (ax 28), .int xNow, .int xEr, .int xTr, .int xMo, .int xFa, .int xRe]))]) [2, 0, 1] (by decide) rfl) hS (lv_sub hl [0, 2, 3, 4, 5] rfl)
              · have dc_25 : ¬ r_20.toInt = 0 := jI_ne c_25 rfl (by decide)
                refine lv_aload hx hb dX8_misses_58 (lv_at hl 0 rfl) ?_
                refine lv_iload_n hx hb dX8_misses_60 rfl (lv_at hl 5 rfl) ?_
                refine lv_aload_n hx hb dX8_misses_61 rfl (lv_at hl 3 rfl) ?_
                refine va_get (D := (dC, dI)) (ci := 8) (v := .int xNow) (C := RX8) (T := TX8) (N := 17) hx hb hts hIX8 hown hK hP 1 rfl rfl 11 (by decide) (hts (.fieldLink RX8 83 "TraitHouse" "now" "I") (by decide +kernel)) (fun _ h9 => h9) rfl dX8_misses_62 ?_
                have hPc := hP.part (cx := []) [] rfl
                have hDc := hD.part (cx := []) [] (by decide) rfl
                have hFc := va_freeP (cx := []) hD hS hA [] rfl
                obtain ⟨pk_27, hpk_27⟩ := va_pl_get (X := []) (f := pf) htm_17
                rw [htf_17] at hpk_27
                refine va_calli (va_runVN (As := [.int pp, .int xNow]) (rest := []) ⟨hx, hb, hml, hown, hts⟩ (k_X6_isMissing l dC dI cA H.size ax L pf t_17 s_17 v_17 m_17 ndv_17 lf_17 lt_17 slv_17 he_17 kv_17 km_17 pp xNow htm_17 htf_17 hvm_17 hvf_17 hmm_17 hmf_17 (by omega)) ⟨(va_cnB 2 hts gX8_misses_X6_isMissing_n259 rfl rfl rfl (nw_at hN 59 rfl) (hts (.initialized RX6) (by decide +kernel)) (by decide +kernel) ⟨Nat.le_of_ble_eq_true rfl, Nat.le_of_ble_eq_true rfl⟩), (hts (.instanceMethod yX6_isMissing) (by decide +kernel)), (hts (.selects RX6 yX6_isMissing yX6_isMissing) (by decide +kernel))⟩ ⟨fun a U g mk q => by obtain ⟨q0, q1, qP, qK, qD, qN⟩ := q; exact ⟨q0, q1, qP, va_K.moved (u := U) (U := U.calling g mk a) (Vm.Alike.refl U.vm) qK, qD, qN.same rfl⟩, va_recv hK hPc (ci := 6) (q0 := pk_27) rfl hpk_27, fun U hU hW => ⟨rfl, by rw [hU], by rw [hU]; exact hPc, va_K.moved hW.alike hK, hDc.weaken (fun _ _ _ _ => trivial), hN.warm hW⟩⟩ rfl rfl hl.1 rfl (lv_room (Nat.le_of_ble_eq_true rfl)) dX8_misses_65 ⟨Nat.le_of_ble_eq_true rfl, Nat.le_of_ble_eq_true rfl⟩) hS (fun q _ h => hFc q h) hFc (fun r_28 u_29 t H1 locs ht hvm hw_30 hB hz1 hk1 hS => ?_)
                try dsimp only at hw_30 hB
                have po_31 := hw_30
                clear hw_30
                obtain ⟨hP1, hD1⟩ := hB
                rw [ht] at hP1
                obtain ⟨hP, hD⟩ := va_joinP (wr := [((ax 26), .inl (cA 0, 10, .inl gMo)), ((ax 0), .inr (8, [.ref (ax 1), .ref (ax 7), .ref (ax 10), .ref (ax 11), .ref (ax 13), .ref (ax 15), .ref (ax 16), .ref (ax 21), .ref (ax 26), .ref (ax 27), .ref (ax 28), .int xNow, .int xEr, .int xTr, .int xMo, .int xFa, .int xRe])), ((ax 15), .inl (cA 5, 20, .inr (.inr (.inr (.inr gTr)))))]) (rx := []) (pl1 := va_pl L pf) hP hD [] [0, 1, 2] rfl rfl (by decide) (by decide) hk1 hFc hP1 hD1
                clear hz1
                generalize H1 = H at hP hS ⊢
                replace hP : va_P (dC, dI) vwCl (([((ax 26), .inl (cA 0, 10, .inl gMo)), ((ax 0), .inr (8, [.ref (ax 1), .ref (ax 7), .ref (ax 10), .ref (ax 11), .ref (ax 13), .ref (ax 15), .ref (ax 16), .ref (ax 21), .ref (ax 26), .ref (ax 27), .ref (ax 28), .int xNow, .int xEr, .int xTr, .int xMo, .int xFa, .int xRe])), ((ax 15), .inl (cA 5, 20, .inr (.inr (.inr (.inr gTr)))))] : va_W) ++ va_pl L pf) H := hP
                replace hD : va_D A (([((ax 26), .inl (cA 0, 10, .inl gMo)), ((ax 0), .inr (8, [.ref (ax 1), .ref (ax 7), .ref (ax 10), .ref (ax 11), .ref (ax 13), .ref (ax 15), .ref (ax 16), .ref (ax 21), .ref (ax 26), .ref (ax 27), .ref (ax 28), .int xNow, .int xEr, .int xTr, .int xMo, .int xFa, .int xRe])), ((ax 15), .inl (cA 5, 20, .inr (.inr (.inr (.inr gTr)))))] : va_W) ++ va_pl L pf) := hD
                refine lv_if_eq (tgt := 74) hx hb dX8_misses_68 (by decide) (fun c_32 => ?_) (fun c_32 => ?_)
                · have dc_32 : r_28.toInt = 0 := jI_eq c_32 rfl (by decide)
                  obtain ⟨x_33, ex_33⟩ : ∃ y : Int32, y = i4 + 1 := ⟨_, rfl⟩
                  have dx_33 : x_33.toInt = i4.toInt + 1 := by rw [ex_33]; exact jI_add rfl (by decide) (by omega) (by omega)
                  refine lv_iinc (v := x_33) (lv' := [(4, .int x_33), (5, .ref t_17), (3, .int n3), (0, .ref (ax 0)), (1, .int a), (2, .int pp)]) hx hb dX8_misses_74 hl (k := 1) rfl (by rw [ex_33]; rfl) (by decide) rfl (fun ls hl => ?_)
                  refine lv_goto (tgt := 22) hx hb dX8_misses_77 (by decide) ?_
                  exact ih_22 x_33 n3 _ _ ls (by omega) (by omega) (hP.part (cx := [((ax 15), .inl (cA 5, 20, .inr (.inr (.inr (.inr gTr))))), ((ax 26), .inl (cA 0, 10, .inl gMo)), ((ax 0), .inr (8, [.ref (ax 1), .ref (ax 7), .ref (ax 10), .ref (ax 11), .ref (ax 13), .ref (ax 15), .ref (ax 16), .ref (ax 21), .ref (ax 26), .ref (ax 27), .ref (ax 28), .int xNow, .int xEr, .int xTr, .int xMo, .int xFa, .int xRe]))]) [2, 0, 1] rfl) (hD.part (cx := [((ax 15), .inl (cA 5, 20, .inr (.inr (.inr (.inr gTr))))), ((ax 26), .inl (cA 0, 10, .inl gMo)), ((ax 0), .inr (8, [.ref (ax 1), .ref (ax 7), .ref (ax 10), .ref (ax 11), .ref (ax 13), .ref (ax 15), .ref (ax 16), .ref (ax 21), .ref (ax 26), .ref (ax 27), .ref (ax 28), .int xNow, .int xEr, .int xTr, .int xMo, .int xFa, .int xRe]))]) [2, 0, 1] (by decide) rfl) hS (lv_sub hl [0, 2, 3, 4, 5] rfl)
                · have dc_32 : ¬ r_28.toInt = 0 := jI_ne c_32 rfl (by decide)
                  obtain ⟨x_34, ex_34⟩ : ∃ y : Int32, y = n3 + 1 := ⟨_, rfl⟩
                  refine lv_iinc (v := x_34) (lv' := [(3, .int x_34), (5, .ref t_17), (4, .int i4), (0, .ref (ax 0)), (1, .int a), (2, .int pp)]) hx hb dX8_misses_71 hl (k := 2) rfl (by rw [ex_34]; rfl) (by decide) rfl (fun ls hl => ?_)
                  obtain ⟨x_35, ex_35⟩ : ∃ y : Int32, y = i4 + 1 := ⟨_, rfl⟩
                  have dx_35 : x_35.toInt = i4.toInt + 1 := by rw [ex_35]; exact jI_add rfl (by decide) (by omega) (by omega)
                  refine lv_iinc (v := x_35) (lv' := [(4, .int x_35), (3, .int x_34), (5, .ref t_17), (0, .ref (ax 0)), (1, .int a), (2, .int pp)]) hx hb dX8_misses_74 hl (k := 2) rfl (by rw [ex_35]; rfl) (by decide) rfl (fun ls hl => ?_)
                  refine lv_goto (tgt := 22) hx hb dX8_misses_77 (by decide) ?_
                  exact ih_22 x_35 x_34 _ _ ls (by omega) (by omega) (hP.part (cx := [((ax 15), .inl (cA 5, 20, .inr (.inr (.inr (.inr gTr))))), ((ax 26), .inl (cA 0, 10, .inl gMo)), ((ax 0), .inr (8, [.ref (ax 1), .ref (ax 7), .ref (ax 10), .ref (ax 11), .ref (ax 13), .ref (ax 15), .ref (ax 16), .ref (ax 21), .ref (ax 26), .ref (ax 27), .ref (ax 28), .int xNow, .int xEr, .int xTr, .int xMo, .int xFa, .int xRe]))]) [2, 0, 1] rfl) (hD.part (cx := [((ax 15), .inl (cA 5, 20, .inr (.inr (.inr (.inr gTr))))), ((ax 26), .inl (cA 0, 10, .inl gMo)), ((ax 0), .inr (8, [.ref (ax 1), .ref (ax 7), .ref (ax 10), .ref (ax 11), .ref (ax 13), .ref (ax 15), .ref (ax 16), .ref (ax 21), .ref (ax 26), .ref (ax 27), .ref (ax 28), .int xNow, .int xEr, .int xTr, .int xMo, .int xFa, .int xRe]))]) [2, 0, 1] (by decide) rfl) hS (lv_sub hl [0, 1, 3, 4, 5] rfl)
            · have hrq := po_16.2 hT_17
              obtain rfl : r_13 = none := hrq
              refine W.eq (g2 := F0 m 37 ls [.null]) rfl ?_
              refine lv_astoreN (lv' := [(5, .null), (4, .int i4), (3, .int n3), (0, .ref (ax 0)), (1, .int a), (2, .int pp)]) hx hb dX8_misses_37 hl (by decide) rfl (fun ls hl => ?_)
              refine lv_aloadN hx hb dX8_misses_39 (lv_at hl 0 rfl) ?_
              refine lv_ifnullN (tgt := 74) hx hb dX8_misses_41 (by decide) ?_
              obtain ⟨x_36, ex_36⟩ : ∃ y : Int32, y = i4 + 1 := ⟨_, rfl⟩
              have dx_36 : x_36.toInt = i4.toInt + 1 := by rw [ex_36]; exact jI_add rfl (by decide) (by omega) (by omega)
              refine lv_iinc (v := x_36) (lv' := [(4, .int x_36), (5, .null), (3, .int n3), (0, .ref (ax 0)), (1, .int a), (2, .int pp)]) hx hb dX8_misses_74 hl (k := 1) rfl (by rw [ex_36]; rfl) (by decide) rfl (fun ls hl => ?_)
              refine lv_goto (tgt := 22) hx hb dX8_misses_77 (by decide) ?_
              exact ih_22 x_36 n3 _ _ ls (by omega) (by omega) (hP.part (cx := [((ax 15), .inl (cA 5, 20, .inr (.inr (.inr (.inr gTr))))), ((ax 26), .inl (cA 0, 10, .inl gMo)), ((ax 0), .inr (8, [.ref (ax 1), .ref (ax 7), .ref (ax 10), .ref (ax 11), .ref (ax 13), .ref (ax 15), .ref (ax 16), .ref (ax 21), .ref (ax 26), .ref (ax 27), .ref (ax 28), .int xNow, .int xEr, .int xTr, .int xMo, .int xFa, .int xRe]))]) [2, 0, 1] rfl) (hD.part (cx := [((ax 15), .inl (cA 5, 20, .inr (.inr (.inr (.inr gTr))))), ((ax 26), .inl (cA 0, 10, .inl gMo)), ((ax 0), .inr (8, [.ref (ax 1), .ref (ax 7), .ref (ax 10), .ref (ax 11), .ref (ax 13), .ref (ax 15), .ref (ax 16), .ref (ax 21), .ref (ax 26), .ref (ax 27), .ref (ax 28), .int xNow, .int xEr, .int xTr, .int xMo, .int xFa, .int xRe]))]) [2, 0, 1] (by decide) rfl) hS (lv_sub hl [0, 2, 3, 4, 5] rfl)
      have hk_37 : (0 : Int32).toInt = 0 := by decide
      have hk_38 : (0 : Int32).toInt = 0 := by decide
      exact loop22_11 (Int.toNat (20 - (0 : Int32).toInt) + 1) 0 0 _ _ ls (by omega) (by omega) hP hD hS (lv_sub hl [0, 1, 2, 3, 4] rfl)
    · have dc_10 : r_6.toInt = 0 := jI_eq c_10 rfl (by decide)
      refine lv_iconst (v := (-1)) hx hb dX8_misses_15 (by decide) ?_
      have hP9 := hP.part (cx := [((ax 0), .inr (8, [.ref (ax 1), .ref (ax 7), .ref (ax 10), .ref (ax 11), .ref (ax 13), .ref (ax 15), .ref (ax 16), .ref (ax 21), .ref (ax 26), .ref (ax 27), .ref (ax 28), .int xNow, .int xEr, .int xTr, .int xMo, .int xFa, .int xRe])), ((ax 15), .inl (cA 5, 20, .inr (.inr (.inr (.inr gTr))))), ((ax 26), .inl (cA 0, 10, .inl gMo))]) [2, 0, 1] rfl
      have hD9 := hD.part (cx := [((ax 0), .inr (8, [.ref (ax 1), .ref (ax 7), .ref (ax 10), .ref (ax 11), .ref (ax 13), .ref (ax 15), .ref (ax 16), .ref (ax 21), .ref (ax 26), .ref (ax 27), .ref (ax 28), .int xNow, .int xEr, .int xTr, .int xMo, .int xFa, .int xRe])), ((ax 15), .inl (cA 5, 20, .inr (.inr (.inr (.inr gTr))))), ((ax 26), .inl (cA 0, 10, .inl gMo))]) [2, 0, 1] (by decide) rfl
      subst hQe
      have hans : ((-1) : Int32).toInt = (-1) := (by decide)
      exact W.iret (v := (-1)) hx hb hr (fun t ht hW => ⟨⟨(-1), (), rfl, trivial, by rw [ht]; exact hP9, hD9⟩, hS.F ht⟩) hS.2.2 dX8_misses_16

set_option maxHeartbeats 8000000 in
set_option maxRecDepth 100000 in
theorem k_X8_model (l : Launch) (dC : Nat → ClassId) (dI : Nat → Nat → Nat) (cA : Nat → ClassId) (sz : Nat) (ax : Nat → Nat) (xNow : Int32) (xEr : Int32) (xTr : Int32) (xMo : Int32) (xFa : Int32) (xRe : Int32) (gTr : Nat → Option Nat) (gMo : Nat → Int32) (L : List Nat) (pf : Nat → va_E) (a : Int32) (nd : Nat → Int32) (sl : Nat → Int32) (i_xNow : 0 ≤ xNow.toInt ∧ xNow.toInt ≤ 100000) (i_xTr : 0 ≤ xTr.toInt ∧ xTr.toInt ≤ 20) (i_xMo : 0 ≤ xMo.toInt ∧ xMo.toInt ≤ 10) (hTP : TP cA xTr gTr L pf nd sl) : Met l yX8_model wsX8_model ({ frames := 2, cells := 0, slots := 0, locals := 45 }) (va_Pc [.ref (ax 0), .int a] (fun U => U.heap.size = sz ∧ va_P (dC, dI) vwCl (([((ax 0), .inr (8, [.ref (ax 1), .ref (ax 7), .ref (ax 10), .ref (ax 11), .ref (ax 13), .ref (ax 15), .ref (ax 16), .ref (ax 21), .ref (ax 26), .ref (ax 27), .ref (ax 28), .int xNow, .int xEr, .int xTr, .int xMo, .int xFa, .int xRe])), ((ax 15), .inl (cA 5, 20, .inr (.inr (.inr (.inr gTr))))), ((ax 26), .inl (cA 0, 10, .inl gMo))] : va_W) ++ va_pl L pf) U.heap ∧ va_K (dC, dI) vwCl (tyL cA) U ∧ va_D (fun _ => True) (([((ax 0), .inr (8, [.ref (ax 1), .ref (ax 7), .ref (ax 10), .ref (ax 11), .ref (ax 13), .ref (ax 15), .ref (ax 16), .ref (ax 21), .ref (ax 26), .ref (ax 27), .ref (ax 28), .int xNow, .int xEr, .int xTr, .int xMo, .int xFa, .int xRe])), ((ax 15), .inl (cA 5, 20, .inr (.inr (.inr (.inr gTr))))), ((ax 26), .inl (cA 0, 10, .inl gMo))] : va_W) ++ va_pl L pf) ∧ nw_ok U)) (va_Qi (fun (r : Int32) (u : Int32 × Int32 × (Nat → Int32)) => (0 ≤ u.2.1.toInt ∧ u.2.1.toInt ≤ 10) ∧ ((¬ (0 ≤ a.toInt ∧ a.toInt < 2 ^ xTr.toInt.toNat) → r.toInt = (-1) ∧ u.2.1.toInt = xMo.toInt ∧ u.2.2 = gMo) ∧ ((0 ≤ a.toInt ∧ a.toInt < 2 ^ xTr.toInt.toNat) ∧ 10 ≤ xMo.toInt → r.toInt = (-5) ∧ u.2.1.toInt = xMo.toInt ∧ u.2.2 = gMo) ∧ ((0 ≤ a.toInt ∧ a.toInt < 2 ^ xTr.toInt.toNat) ∧ xMo.toInt < 10 → r.toInt = xMo.toInt ∧ u.2.1.toInt = xMo.toInt + 1 ∧ u.2.2 = upd gMo xMo.toNatClampNeg (nds nd a xTr.toInt.toNat)))) (fun (u : Int32 × Int32 × (Nat → Int32)) (t : State) => va_P (dC, dI) vwCl (([((ax 0), .inr (8, [.ref (ax 1), .ref (ax 7), .ref (ax 10), .ref (ax 11), .ref (ax 13), .ref (ax 15), .ref (ax 16), .ref (ax 21), .ref (ax 26), .ref (ax 27), .ref (ax 28), .int xNow, .int xEr, .int xTr, .int u.2.1, .int xFa, .int u.1])), ((ax 15), .inl (cA 5, 20, .inr (.inr (.inr (.inr gTr))))), ((ax 26), .inl (cA 0, 10, .inl u.2.2))] : va_W) ++ va_pl L pf) t.heap ∧ va_D (va_A (([((ax 0), .inr (8, [.ref (ax 1), .ref (ax 7), .ref (ax 10), .ref (ax 11), .ref (ax 13), .ref (ax 15), .ref (ax 16), .ref (ax 21), .ref (ax 26), .ref (ax 27), .ref (ax 28), .int xNow, .int xEr, .int xTr, .int xMo, .int xFa, .int xRe])), ((ax 15), .inl (cA 5, 20, .inr (.inr (.inr (.inr gTr))))), ((ax 26), .inl (cA 0, 10, .inl gMo))] : va_W) ++ va_pl L pf) sz) (([((ax 0), .inr (8, [.ref (ax 1), .ref (ax 7), .ref (ax 10), .ref (ax 11), .ref (ax 13), .ref (ax 15), .ref (ax 16), .ref (ax 21), .ref (ax 26), .ref (ax 27), .ref (ax 28), .int xNow, .int xEr, .int xTr, .int u.2.1, .int xFa, .int u.1])), ((ax 15), .inl (cA 5, 20, .inr (.inr (.inr (.inr gTr))))), ((ax 26), .inl (cA 0, 10, .inl u.2.2))] : va_W) ++ va_pl L pf)) (va_A (([((ax 0), .inr (8, [.ref (ax 1), .ref (ax 7), .ref (ax 10), .ref (ax 11), .ref (ax 13), .ref (ax 15), .ref (ax 16), .ref (ax 21), .ref (ax 26), .ref (ax 27), .ref (ax 28), .int xNow, .int xEr, .int xTr, .int xMo, .int xFa, .int xRe])), ((ax 15), .inl (cA 5, 20, .inr (.inr (.inr (.inr gTr))))), ((ax 26), .inl (cA 0, 10, .inl gMo))] : va_W) ++ va_pl L pf) sz)) 0 0 (va_A (([((ax 0), .inr (8, [.ref (ax 1), .ref (ax 7), .ref (ax 10), .ref (ax 11), .ref (ax 13), .ref (ax 15), .ref (ax 16), .ref (ax 21), .ref (ax 26), .ref (ax 27), .ref (ax 28), .int xNow, .int xEr, .int xTr, .int xMo, .int xFa, .int xRe])), ((ax 15), .inl (cA 5, 20, .inr (.inr (.inr (.inr gTr))))), ((ax 26), .inl (cA 0, 10, .inl gMo))] : va_W) ++ va_pl L pf) sz) := by
  refine Met.ofW (cc := cX8_model) (maxL := 2) (ret := (some .int)) (by decide) rfl ?_
  intro p e s m args below meth c s₁ B hml hv
  obtain ⟨rfl, hsz, hP, hK, hD0, hN⟩ := hv
  have hx := B.exec
  have hb := B.bytes
  have hr := B.returns
  have hts := atoms_spec (ws := wsX8_model) B.pre
  have hown : s.vm.findClass RX8 = some m.cls := findClass_of_methodNamed B.named
  have hlocks := B.notSynchronized
  subst hsz
  have hD := hD0.self (sz := s.heap.size)
  generalize hAe : va_A (([((ax 0), .inr (8, [.ref (ax 1), .ref (ax 7), .ref (ax 10), .ref (ax 11), .ref (ax 13), .ref (ax 15), .ref (ax 16), .ref (ax 21), .ref (ax 26), .ref (ax 27), .ref (ax 28), .int xNow, .int xEr, .int xTr, .int xMo, .int xFa, .int xRe])), ((ax 15), .inl (cA 5, 20, .inr (.inr (.inr (.inr gTr))))), ((ax 26), .inl (cA 0, 10, .inl gMo))] : va_W) ++ va_pl L pf) s.heap.size = A at hD ⊢
  have hA : ∀ q : Nat, s.heap.size ≤ q → A q := fun q h => by rw [← hAe]; exact Or.inr h
  have hS : va_S A s.heap s.heap [] := va_S.rf
  have hIX8 : ∀ w ∈ u_ws RX8 TX8 17, w ∈ wsX8_model := by decide +kernel
  have hl := lv_entry ([.ref (ax 0), .int a]) (n := 2) (Nat.le_of_ble_eq_true rfl)
  rw [lg_entry_eq]
  generalize (lg_sl ([.ref (ax 0), .int a]) ++ List.replicate (2 - (lg_sl ([.ref (ax 0), .int a])).length) Slot.unset).toArray = ls at hl ⊢
  have hl : lv_has ls 2 [(0, .ref (ax 0)), (1, .int a)] := hl
  generalize hQe : MQ below _ _ _ _ _ _ = QQ
  refine lv_iload_n hx hb dX8_model_0 rfl (lv_at hl 1 rfl) ?_
  refine lv_aload_n hx hb dX8_model_1 rfl (lv_at hl 0 rfl) ?_
  refine va_get (D := (dC, dI)) (ci := 8) (v := .int xTr) (C := RX8) (T := TX8) (N := 17) hx hb hts hIX8 hown hK hP 0 rfl rfl 13 (by decide) (hts (.fieldLink RX8 148 "TraitHouse" "traitsThere" "I") (by decide +kernel)) (fun _ h9 => h9) rfl dX8_model_2 ?_
  obtain ⟨x_1, ex_1⟩ : ∃ y : Int32, y = (a.toUInt32 >>> (xTr.toUInt32 &&& Int32.toUInt32 31)).toInt32 := ⟨_, rfl⟩
  refine lv_iushr (v := x_1) hx hb dX8_model_5 ex_1.symm ?_
  have dx_1 : x_1.toInt = 0 ↔ (0 ≤ a.toInt ∧ a.toInt < 2 ^ xTr.toInt.toNat) := ushr_0 ex_1 (by omega) (by omega)
  refine lv_if_eq (tgt := 15) hx hb dX8_model_6 (by decide) (fun c_2 => ?_) (fun c_2 => ?_)
  · have dc_2 : x_1.toInt = 0 := jI_eq c_2 rfl (by decide)
    refine lv_aload_n hx hb dX8_model_15 rfl (lv_at hl 0 rfl) ?_
    refine va_get (D := (dC, dI)) (ci := 8) (v := .int xMo) (C := RX8) (T := TX8) (N := 17) hx hb hts hIX8 hown hK hP 0 rfl rfl 14 (by decide) (hts (.fieldLink RX8 250 "TraitHouse" "modelsThere" "I") (by decide +kernel)) (fun _ h9 => h9) rfl dX8_model_16 ?_
    refine lv_bipush (v := 10) hx hb dX8_model_19 (by decide) ?_
    refine lv_icmp_lt (tgt := 31) hx hb dX8_model_21 (by decide) (fun c_3 => ?_) (fun c_3 => ?_)
    · have dc_3 : xMo.toInt < 10 := jI_lt c_3 rfl (by decide)
      refine lv_aload_n hx hb dX8_model_31 rfl (lv_at hl 0 rfl) ?_
      refine va_get (D := (dC, dI)) (ci := 8) (v := .ref (ax 26)) (C := RX8) (T := TX8) (N := 17) hx hb hts hIX8 hown hK hP 0 rfl rfl 8 (by decide) (hts (.fieldLink RX8 65 "TraitHouse" "models" "[I") (by decide +kernel)) (fun _ h9 => h9) rfl dX8_model_32 ?_
      refine lv_aload_n hx hb dX8_model_35 rfl (lv_at hl 0 rfl) ?_
      refine va_get (D := (dC, dI)) (ci := 8) (v := .int xMo) (C := RX8) (T := TX8) (N := 17) hx hb hts hIX8 hown hK hP 0 rfl rfl 14 (by decide) (hts (.fieldLink RX8 250 "TraitHouse" "modelsThere" "I") (by decide +kernel)) (fun _ h9 => h9) rfl dX8_model_36 ?_
      refine lv_aload_n hx hb dX8_model_39 rfl (lv_at hl 0 rfl) ?_
      refine lv_iload_n hx hb dX8_model_40 rfl (lv_at hl 1 rfl) ?_
      have hPc := hP.part (cx := [((ax 0), .inr (8, [.ref (ax 1), .ref (ax 7), .ref (ax 10), .ref (ax 11), .ref (ax 13), .ref (ax 15), .ref (ax 16), .ref (ax 21), .ref (ax 26), .ref (ax 27), .ref (ax 28), .int xNow, .int xEr, .int xTr, .int xMo, .int xFa, .int xRe])), ((ax 15), .inl (cA 5, 20, .inr (.inr (.inr (.inr gTr)))))]) [0, 1] rfl
      have hDc := hD.part (cx := [((ax 0), .inr (8, [.ref (ax 1), .ref (ax 7), .ref (ax 10), .ref (ax 11), .ref (ax 13), .ref (ax 15), .ref (ax 16), .ref (ax 21), .ref (ax 26), .ref (ax 27), .ref (ax 28), .int xNow, .int xEr, .int xTr, .int xMo, .int xFa, .int xRe])), ((ax 15), .inl (cA 5, 20, .inr (.inr (.inr (.inr gTr)))))]) [0, 1] (by decide) rfl
      have hFc := va_freeP (cx := [((ax 0), .inr (8, [.ref (ax 1), .ref (ax 7), .ref (ax 10), .ref (ax 11), .ref (ax 13), .ref (ax 15), .ref (ax 16), .ref (ax 21), .ref (ax 26), .ref (ax 27), .ref (ax 28), .int xNow, .int xEr, .int xTr, .int xMo, .int xFa, .int xRe])), ((ax 15), .inl (cA 5, 20, .inr (.inr (.inr (.inr gTr)))))]) hD hS hA [0, 1] rfl
      refine va_calli (va_runV (As := [.int a]) (rest := [.int xMo, .ref (ax 26)]) ⟨hx, hb, hml, hown, hts⟩ (k_X8_needsOf l dC dI cA s.heap.size ax xNow xEr xTr xMo xFa xRe gTr L pf a nd sl i_xNow i_xTr i_xMo hTP) (cwV 1 hts gX8_model_X8_needsOf rfl rfl rfl (by decide +kernel) ⟨Nat.le_of_ble_eq_true rfl, Nat.le_of_ble_eq_true rfl⟩) ⟨fun a U g mk q => by obtain ⟨q0, q1, qP, qK, qD, qN⟩ := q; exact ⟨q0, q1, qP, va_K.moved (u := U) (U := U.calling g mk a) (Vm.Alike.refl U.vm) qK, qD, qN.same rfl⟩, va_recv hK hPc (ci := 8) (q0 := 0) rfl rfl, fun U hU hW => ⟨rfl, by rw [hU], by rw [hU]; exact hPc, va_K.moved hW.alike hK, hDc.weaken (fun _ _ _ _ => trivial), hN.warm hW⟩⟩ rfl rfl hl.1 rfl (lv_room (Nat.le_of_ble_eq_true rfl)) dX8_model_41 ⟨Nat.le_of_ble_eq_true rfl, Nat.le_of_ble_eq_true rfl⟩) hS (fun q _ h => hFc q h) hFc (fun r_4 u_5 t H1 locs ht hvm hw_6 hB hz1 hk1 hS => ?_)
      try dsimp only at hw_6 hB
      have po_7 := hw_6
      clear hw_6
      obtain ⟨hP1, hD1⟩ := hB
      rw [ht] at hP1
      obtain ⟨hP, hD⟩ := va_joinP (wr := [((ax 26), .inl (cA 0, 10, .inl gMo))]) (rx := [((ax 0), .inr (8, [.ref (ax 1), .ref (ax 7), .ref (ax 10), .ref (ax 11), .ref (ax 13), .ref (ax 15), .ref (ax 16), .ref (ax 21), .ref (ax 26), .ref (ax 27), .ref (ax 28), .int xNow, .int xEr, .int xTr, .int xMo, .int xFa, .int xRe])), ((ax 15), .inl (cA 5, 20, .inr (.inr (.inr (.inr gTr)))))]) (pl1 := va_pl L pf) hP hD [0, 1] [2] rfl rfl (by decide) (by decide) hk1 hFc hP1 hD1
      clear hz1
      generalize H1 = H at hP hS ⊢
      replace hP : va_P (dC, dI) vwCl (([((ax 26), .inl (cA 0, 10, .inl gMo)), ((ax 0), .inr (8, [.ref (ax 1), .ref (ax 7), .ref (ax 10), .ref (ax 11), .ref (ax 13), .ref (ax 15), .ref (ax 16), .ref (ax 21), .ref (ax 26), .ref (ax 27), .ref (ax 28), .int xNow, .int xEr, .int xTr, .int xMo, .int xFa, .int xRe])), ((ax 15), .inl (cA 5, 20, .inr (.inr (.inr (.inr gTr)))))] : va_W) ++ va_pl L pf) H := hP
      replace hD : va_D A (([((ax 26), .inl (cA 0, 10, .inl gMo)), ((ax 0), .inr (8, [.ref (ax 1), .ref (ax 7), .ref (ax 10), .ref (ax 11), .ref (ax 13), .ref (ax 15), .ref (ax 16), .ref (ax 21), .ref (ax 26), .ref (ax 27), .ref (ax 28), .int xNow, .int xEr, .int xTr, .int xMo, .int xFa, .int xRe])), ((ax 15), .inl (cA 5, 20, .inr (.inr (.inr (.inr gTr)))))] : va_W) ++ va_pl L pf) := hD
      have h_8 : vp_in xMo 10 := (vp_in_iff.mpr ⟨by omega, by omega⟩)
      refine va_iast hx hb hK hP hD hS 0 0 rfl rfl h_8 dX8_model_44 (fun H locs hP hD hS => ?_)
      replace hP : va_P (dC, dI) vwCl (([((ax 26), .inl (cA 0, 10, .inl (upd gMo xMo.toNatClampNeg r_4))), ((ax 0), .inr (8, [.ref (ax 1), .ref (ax 7), .ref (ax 10), .ref (ax 11), .ref (ax 13), .ref (ax 15), .ref (ax 16), .ref (ax 21), .ref (ax 26), .ref (ax 27), .ref (ax 28), .int xNow, .int xEr, .int xTr, .int xMo, .int xFa, .int xRe])), ((ax 15), .inl (cA 5, 20, .inr (.inr (.inr (.inr gTr)))))] : va_W) ++ va_pl L pf) H := hP
      replace hD : va_D A (([((ax 26), .inl (cA 0, 10, .inl (upd gMo xMo.toNatClampNeg r_4))), ((ax 0), .inr (8, [.ref (ax 1), .ref (ax 7), .ref (ax 10), .ref (ax 11), .ref (ax 13), .ref (ax 15), .ref (ax 16), .ref (ax 21), .ref (ax 26), .ref (ax 27), .ref (ax 28), .int xNow, .int xEr, .int xTr, .int xMo, .int xFa, .int xRe])), ((ax 15), .inl (cA 5, 20, .inr (.inr (.inr (.inr gTr)))))] : va_W) ++ va_pl L pf) := hD
      obtain ⟨g_9, eg_9⟩ : ∃ g : Nat → Int32, g = upd gMo xMo.toNatClampNeg r_4 := ⟨_, rfl⟩
      rw [← eg_9] at hP hD
      refine lv_aload_n hx hb dX8_model_45 rfl (lv_at hl 0 rfl) ?_
      refine lv_dup hx hb dX8_model_46 rfl ?_
      refine va_get (D := (dC, dI)) (ci := 8) (v := .int xMo) (C := RX8) (T := TX8) (N := 17) hx hb hts hIX8 hown hK hP 1 rfl rfl 14 (by decide) (hts (.fieldLink RX8 250 "TraitHouse" "modelsThere" "I") (by decide +kernel)) (fun _ h9 => h9) rfl dX8_model_47 ?_
      refine lv_iconst (v := 1) hx hb dX8_model_50 (by decide) ?_
      refine lv_iadd hx hb dX8_model_51 ?_
      refine lv_topi (fun x_10 ex_10 => ?_)
      have dx_10 : x_10.toInt = xMo.toInt + 1 := by rw [ex_10]; exact jI_add rfl (by decide) (by omega) (by omega)
      refine va_put (D := (dC, dI)) (ci := 8) (v := .int x_10) (ty := .int) (C := RX8) (T := TX8) (N := 17) hx hb hts hIX8 tyX8 tyX8_ok nmX8 hown hK hP hD hS 1 rfl rfl 14 (by decide) (hts (.fieldLink RX8 250 "TraitHouse" "modelsThere" "I") (by decide +kernel)) (fun _ h9 => h9) rfl (by decide +kernel) rfl rfl (Nat.le_of_ble_eq_true rfl) dX8_model_52 (fun H locs hP hD hS => ?_)
      replace hP : va_P (dC, dI) vwCl (([((ax 26), .inl (cA 0, 10, .inl g_9)), ((ax 0), .inr (8, [.ref (ax 1), .ref (ax 7), .ref (ax 10), .ref (ax 11), .ref (ax 13), .ref (ax 15), .ref (ax 16), .ref (ax 21), .ref (ax 26), .ref (ax 27), .ref (ax 28), .int xNow, .int xEr, .int xTr, .int x_10, .int xFa, .int xRe])), ((ax 15), .inl (cA 5, 20, .inr (.inr (.inr (.inr gTr)))))] : va_W) ++ va_pl L pf) H := hP
      replace hD : va_D A (([((ax 26), .inl (cA 0, 10, .inl g_9)), ((ax 0), .inr (8, [.ref (ax 1), .ref (ax 7), .ref (ax 10), .ref (ax 11), .ref (ax 13), .ref (ax 15), .ref (ax 16), .ref (ax 21), .ref (ax 26), .ref (ax 27), .ref (ax 28), .int xNow, .int xEr, .int xTr, .int x_10, .int xFa, .int xRe])), ((ax 15), .inl (cA 5, 20, .inr (.inr (.inr (.inr gTr)))))] : va_W) ++ va_pl L pf) := hD
      refine lv_aload_n hx hb dX8_model_55 rfl (lv_at hl 0 rfl) ?_
      refine lv_aload_n hx hb dX8_model_56 rfl (lv_at hl 0 rfl) ?_
      refine va_get (D := (dC, dI)) (ci := 8) (v := .int x_10) (C := RX8) (T := TX8) (N := 17) hx hb hts hIX8 hown hK hP 1 rfl rfl 14 (by decide) (hts (.fieldLink RX8 250 "TraitHouse" "modelsThere" "I") (by decide +kernel)) (fun _ h9 => h9) rfl dX8_model_57 ?_
      refine lv_iconst (v := 1) hx hb dX8_model_60 (by decide) ?_
      refine lv_isub hx hb dX8_model_61 ?_
      refine lv_topi (fun x_11 ex_11 => ?_)
      have dx_11 : x_11.toInt = x_10.toInt - 1 := by rw [ex_11]; exact jI_sub rfl (by decide) (by omega) (by omega)
      obtain ⟨hPc, hDc, hFc, hCc⟩ := va_pre (ws' := [((ax 0), .inr (8, [.ref (ax 1), .ref (ax 7), .ref (ax 10), .ref (ax 11), .ref (ax 13), .ref (ax 15), .ref (ax 16), .ref (ax 21), .ref (ax 26), .ref (ax 27), .ref (ax 28), .int xNow, .int xEr, .int xTr, .int x_10, .int xFa, .int xRe]))]) hP hD hS hA [1] (by decide) rfl
      refine va_calli (va_runV (As := [.int x_11]) (rest := []) ⟨hx, hb, hml, hown, hts⟩ (k_X8_settle l dC dI cA H.size ax xNow xEr xTr x_10 xFa xRe x_11 i_xNow i_xTr (by omega)) (cwV 1 hts gX8_model_X8_settle rfl rfl rfl (by decide +kernel) ⟨Nat.le_of_ble_eq_true rfl, Nat.le_of_ble_eq_true rfl⟩) ⟨fun a U g mk q => by obtain ⟨q0, q1, qP, qK, qD, qN⟩ := q; exact ⟨q0, q1, qP, va_K.moved (u := U) (U := U.calling g mk a) (Vm.Alike.refl U.vm) qK, qD, qN.same rfl⟩, va_recv hK hPc (ci := 8) (q0 := 0) rfl rfl, fun U hU hW => ⟨rfl, by rw [hU], by rw [hU]; exact hPc, va_K.moved hW.alike hK, hDc.weaken (fun _ _ _ _ => trivial), hN.warm hW⟩⟩ rfl rfl hl.1 rfl (lv_room (Nat.le_of_ble_eq_true rfl)) dX8_model_62 ⟨Nat.le_of_ble_eq_true rfl, Nat.le_of_ble_eq_true rfl⟩) hS (fun q _ h => hFc q h) hFc (fun r_12 u_13 t H1 locs ht hvm hw_14 hB hz1 hk1 hS => ?_)
      obtain ⟨w_15, rfl⟩ : ∃ z, z = u_13 := ⟨_, rfl⟩
      try dsimp only at hw_14 hB
      have hr9 := hw_14
      clear hw_14
      obtain ⟨hP1, hD1⟩ := hB
      rw [ht] at hP1
      obtain ⟨hP, hD⟩ := va_joinQ (wr := [((ax 26), .inl (cA 0, 10, .inl g_9)), ((ax 15), .inl (cA 5, 20, .inr (.inr (.inr (.inr gTr)))))]) (w1 := [((ax 0), .inr (8, [.ref (ax 1), .ref (ax 7), .ref (ax 10), .ref (ax 11), .ref (ax 13), .ref (ax 15), .ref (ax 16), .ref (ax 21), .ref (ax 26), .ref (ax 27), .ref (ax 28), .int xNow, .int xEr, .int xTr, .int x_10, .int xFa, .int w_15]))]) hP hD [1] [0, 2] rfl rfl (by decide) (by decide) hk1 hFc hP1 hD1
      clear hz1
      generalize H1 = H at hP hS ⊢
      replace hP : va_P (dC, dI) vwCl (([((ax 26), .inl (cA 0, 10, .inl g_9)), ((ax 15), .inl (cA 5, 20, .inr (.inr (.inr (.inr gTr))))), ((ax 0), .inr (8, [.ref (ax 1), .ref (ax 7), .ref (ax 10), .ref (ax 11), .ref (ax 13), .ref (ax 15), .ref (ax 16), .ref (ax 21), .ref (ax 26), .ref (ax 27), .ref (ax 28), .int xNow, .int xEr, .int xTr, .int x_10, .int xFa, .int w_15]))] : va_W) ++ va_pl L pf) H := hP
      replace hD : va_D A (([((ax 26), .inl (cA 0, 10, .inl g_9)), ((ax 15), .inl (cA 5, 20, .inr (.inr (.inr (.inr gTr))))), ((ax 0), .inr (8, [.ref (ax 1), .ref (ax 7), .ref (ax 10), .ref (ax 11), .ref (ax 13), .ref (ax 15), .ref (ax 16), .ref (ax 21), .ref (ax 26), .ref (ax 27), .ref (ax 28), .int xNow, .int xEr, .int xTr, .int x_10, .int xFa, .int w_15]))] : va_W) ++ va_pl L pf) := hD
      obtain rfl : x_11 = r_12 := hr9.symm
      have hP9 := hP.part (cx := [((ax 0), .inr (8, [.ref (ax 1), .ref (ax 7), .ref (ax 10), .ref (ax 11), .ref (ax 13), .ref (ax 15), .ref (ax 16), .ref (ax 21), .ref (ax 26), .ref (ax 27), .ref (ax 28), .int xNow, .int xEr, .int xTr, .int x_10, .int xFa, .int w_15])), ((ax 15), .inl (cA 5, 20, .inr (.inr (.inr (.inr gTr))))), ((ax 26), .inl (cA 0, 10, .inl g_9))]) [2, 1, 0] rfl
      have hD9 := hD.part (cx := [((ax 0), .inr (8, [.ref (ax 1), .ref (ax 7), .ref (ax 10), .ref (ax 11), .ref (ax 13), .ref (ax 15), .ref (ax 16), .ref (ax 21), .ref (ax 26), .ref (ax 27), .ref (ax 28), .int xNow, .int xEr, .int xTr, .int x_10, .int xFa, .int w_15])), ((ax 15), .inl (cA 5, 20, .inr (.inr (.inr (.inr gTr))))), ((ax 26), .inl (cA 0, 10, .inl g_9))]) [2, 1, 0] (by decide) rfl
      subst hQe
      have hans : (x_11 : Int32).toInt = x_11.toInt := rfl
      have hpost : (0 ≤ x_10.toInt ∧ x_10.toInt ≤ 10) ∧ ((¬ (0 ≤ a.toInt ∧ a.toInt < 2 ^ xTr.toInt.toNat) → (x_11 : Int32).toInt = (-1) ∧ x_10.toInt = xMo.toInt ∧ g_9 = gMo) ∧ ((0 ≤ a.toInt ∧ a.toInt < 2 ^ xTr.toInt.toNat) ∧ 10 ≤ xMo.toInt → (x_11 : Int32).toInt = (-5) ∧ x_10.toInt = xMo.toInt ∧ g_9 = gMo) ∧ ((0 ≤ a.toInt ∧ a.toInt < 2 ^ xTr.toInt.toNat) ∧ xMo.toInt < 10 → (x_11 : Int32).toInt = xMo.toInt ∧ x_10.toInt = xMo.toInt + 1 ∧ g_9 = upd gMo xMo.toNatClampNeg (nds nd a xTr.toInt.toNat))) := ⟨by omega, ⟨fun h => by exfalso; omega, fun h => by exfalso; omega, fun _ => ⟨by omega, by omega, (by rw [eg_9, po_7])⟩⟩⟩
      exact W.iret (v := x_11) hx hb hr (fun t ht hW => ⟨⟨x_11, (w_15, x_10, g_9), rfl, hpost, by rw [ht]; exact hP9, hD9⟩, hS.F ht⟩) hS.2.2 dX8_model_65
    · have dc_3 : 10 ≤ xMo.toInt := jI_nlt c_3 rfl (by decide)
      refine lv_aload_n hx hb dX8_model_24 rfl (lv_at hl 0 rfl) ?_
      refine lv_bipush (v := (-5)) hx hb dX8_model_25 (by decide) ?_
      have hk_16 : ((-5) : Int32).toInt = (-5) := by decide
      obtain ⟨hPc, hDc, hFc, hCc⟩ := va_pre (ws' := [((ax 0), .inr (8, [.ref (ax 1), .ref (ax 7), .ref (ax 10), .ref (ax 11), .ref (ax 13), .ref (ax 15), .ref (ax 16), .ref (ax 21), .ref (ax 26), .ref (ax 27), .ref (ax 28), .int xNow, .int xEr, .int xTr, .int xMo, .int xFa, .int xRe]))]) hP hD hS hA [0] (by decide) rfl
      refine va_calli (va_runV (As := [.int (-5)]) (rest := []) ⟨hx, hb, hml, hown, hts⟩ (k_X8_settle l dC dI cA s.heap.size ax xNow xEr xTr xMo xFa xRe (-5) i_xNow i_xTr i_xMo) (cwV 1 hts gX8_model_X8_settle rfl rfl rfl (by decide +kernel) ⟨Nat.le_of_ble_eq_true rfl, Nat.le_of_ble_eq_true rfl⟩) ⟨fun a U g mk q => by obtain ⟨q0, q1, qP, qK, qD, qN⟩ := q; exact ⟨q0, q1, qP, va_K.moved (u := U) (U := U.calling g mk a) (Vm.Alike.refl U.vm) qK, qD, qN.same rfl⟩, va_recv hK hPc (ci := 8) (q0 := 0) rfl rfl, fun U hU hW => ⟨rfl, by rw [hU], by rw [hU]; exact hPc, va_K.moved hW.alike hK, hDc.weaken (fun _ _ _ _ => trivial), hN.warm hW⟩⟩ rfl rfl hl.1 rfl (lv_room (Nat.le_of_ble_eq_true rfl)) dX8_model_27 ⟨Nat.le_of_ble_eq_true rfl, Nat.le_of_ble_eq_true rfl⟩) hS (fun q _ h => hFc q h) hFc (fun r_17 u_18 t H1 locs ht hvm hw_19 hB hz1 hk1 hS => ?_)
      obtain ⟨w_20, rfl⟩ : ∃ z, z = u_18 := ⟨_, rfl⟩
      try dsimp only at hw_19 hB
      have hr9 := hw_19
      clear hw_19
      obtain ⟨hP1, hD1⟩ := hB
      rw [ht] at hP1
      obtain ⟨hP, hD⟩ := va_joinQ (wr := [((ax 15), .inl (cA 5, 20, .inr (.inr (.inr (.inr gTr))))), ((ax 26), .inl (cA 0, 10, .inl gMo))]) (w1 := [((ax 0), .inr (8, [.ref (ax 1), .ref (ax 7), .ref (ax 10), .ref (ax 11), .ref (ax 13), .ref (ax 15), .ref (ax 16), .ref (ax 21), .ref (ax 26), .ref (ax 27), .ref (ax 28), .int xNow, .int xEr, .int xTr, .int xMo, .int xFa, .int w_20]))]) hP hD [0] [1, 2] rfl rfl (by decide) (by decide) hk1 hFc hP1 hD1
      clear hz1
      generalize H1 = H at hP hS ⊢
      replace hP : va_P (dC, dI) vwCl (([((ax 15), .inl (cA 5, 20, .inr (.inr (.inr (.inr gTr))))), ((ax 26), .inl (cA 0, 10, .inl gMo)), ((ax 0), .inr (8, [.ref (ax 1), .ref (ax 7), .ref (ax 10), .ref (ax 11), .ref (ax 13), .ref (ax 15), .ref (ax 16), .ref (ax 21), .ref (ax 26), .ref (ax 27), .ref (ax 28), .int xNow, .int xEr, .int xTr, .int xMo, .int xFa, .int w_20]))] : va_W) ++ va_pl L pf) H := hP
      replace hD : va_D A (([((ax 15), .inl (cA 5, 20, .inr (.inr (.inr (.inr gTr))))), ((ax 26), .inl (cA 0, 10, .inl gMo)), ((ax 0), .inr (8, [.ref (ax 1), .ref (ax 7), .ref (ax 10), .ref (ax 11), .ref (ax 13), .ref (ax 15), .ref (ax 16), .ref (ax 21), .ref (ax 26), .ref (ax 27), .ref (ax 28), .int xNow, .int xEr, .int xTr, .int xMo, .int xFa, .int w_20]))] : va_W) ++ va_pl L pf) := hD
      obtain rfl : (-5) = r_17 := hr9.symm
      have hP9 := hP.part (cx := [((ax 0), .inr (8, [.ref (ax 1), .ref (ax 7), .ref (ax 10), .ref (ax 11), .ref (ax 13), .ref (ax 15), .ref (ax 16), .ref (ax 21), .ref (ax 26), .ref (ax 27), .ref (ax 28), .int xNow, .int xEr, .int xTr, .int xMo, .int xFa, .int w_20])), ((ax 15), .inl (cA 5, 20, .inr (.inr (.inr (.inr gTr))))), ((ax 26), .inl (cA 0, 10, .inl gMo))]) [2, 0, 1] rfl
      have hD9 := hD.part (cx := [((ax 0), .inr (8, [.ref (ax 1), .ref (ax 7), .ref (ax 10), .ref (ax 11), .ref (ax 13), .ref (ax 15), .ref (ax 16), .ref (ax 21), .ref (ax 26), .ref (ax 27), .ref (ax 28), .int xNow, .int xEr, .int xTr, .int xMo, .int xFa, .int w_20])), ((ax 15), .inl (cA 5, 20, .inr (.inr (.inr (.inr gTr))))), ((ax 26), .inl (cA 0, 10, .inl gMo))]) [2, 0, 1] (by decide) rfl
      subst hQe
      have hans : ((-5) : Int32).toInt = (-5) := (by decide)
      have hpost : (0 ≤ xMo.toInt ∧ xMo.toInt ≤ 10) ∧ ((¬ (0 ≤ a.toInt ∧ a.toInt < 2 ^ xTr.toInt.toNat) → ((-5) : Int32).toInt = (-1) ∧ xMo.toInt = xMo.toInt ∧ gMo = gMo) ∧ ((0 ≤ a.toInt ∧ a.toInt < 2 ^ xTr.toInt.toNat) ∧ 10 ≤ xMo.toInt → ((-5) : Int32).toInt = (-5) ∧ xMo.toInt = xMo.toInt ∧ gMo = gMo) ∧ ((0 ≤ a.toInt ∧ a.toInt < 2 ^ xTr.toInt.toNat) ∧ xMo.toInt < 10 → ((-5) : Int32).toInt = xMo.toInt ∧ xMo.toInt = xMo.toInt + 1 ∧ gMo = upd gMo xMo.toNatClampNeg (nds nd a xTr.toInt.toNat))) := ⟨i_xMo, ⟨fun h => by exfalso; omega, fun _ => ⟨by omega, by omega, rfl⟩, fun h => by exfalso; omega⟩⟩
      exact W.iret (v := (-5)) hx hb hr (fun t ht hW => ⟨⟨(-5), (w_20, xMo, gMo), rfl, hpost, by rw [ht]; exact hP9, hD9⟩, hS.F ht⟩) hS.2.2 dX8_model_30
  · have dc_2 : ¬ x_1.toInt = 0 := jI_ne c_2 rfl (by decide)
    refine lv_aload_n hx hb dX8_model_9 rfl (lv_at hl 0 rfl) ?_
    refine lv_iconst (v := (-1)) hx hb dX8_model_10 (by decide) ?_
    have hk_21 : ((-1) : Int32).toInt = (-1) := by decide
    obtain ⟨hPc, hDc, hFc, hCc⟩ := va_pre (ws' := [((ax 0), .inr (8, [.ref (ax 1), .ref (ax 7), .ref (ax 10), .ref (ax 11), .ref (ax 13), .ref (ax 15), .ref (ax 16), .ref (ax 21), .ref (ax 26), .ref (ax 27), .ref (ax 28), .int xNow, .int xEr, .int xTr, .int xMo, .int xFa, .int xRe]))]) hP hD hS hA [0] (by decide) rfl
    refine va_calli (va_runV (As := [.int (-1)]) (rest := []) ⟨hx, hb, hml, hown, hts⟩ (k_X8_settle l dC dI cA s.heap.size ax xNow xEr xTr xMo xFa xRe (-1) i_xNow i_xTr i_xMo) (cwV 1 hts gX8_model_X8_settle rfl rfl rfl (by decide +kernel) ⟨Nat.le_of_ble_eq_true rfl, Nat.le_of_ble_eq_true rfl⟩) ⟨fun a U g mk q => by obtain ⟨q0, q1, qP, qK, qD, qN⟩ := q; exact ⟨q0, q1, qP, va_K.moved (u := U) (U := U.calling g mk a) (Vm.Alike.refl U.vm) qK, qD, qN.same rfl⟩, va_recv hK hPc (ci := 8) (q0 := 0) rfl rfl, fun U hU hW => ⟨rfl, by rw [hU], by rw [hU]; exact hPc, va_K.moved hW.alike hK, hDc.weaken (fun _ _ _ _ => trivial), hN.warm hW⟩⟩ rfl rfl hl.1 rfl (lv_room (Nat.le_of_ble_eq_true rfl)) dX8_model_11 ⟨Nat.le_of_ble_eq_true rfl, Nat.le_of_ble_eq_true rfl⟩) hS (fun q _ h => hFc q h) hFc (fun r_22 u_23 t H1 locs ht hvm hw_24 hB hz1 hk1 hS => ?_)
    obtain ⟨w_25, rfl⟩ : ∃ z, z = u_23 := ⟨_, rfl⟩
    try dsimp only at hw_24 hB
    have hr9 := hw_24
    clear hw_24
    obtain ⟨hP1, hD1⟩ := hB
    rw [ht] at hP1
    obtain ⟨hP, hD⟩ := va_joinQ (wr := [((ax 15), .inl (cA 5, 20, .inr (.inr (.inr (.inr gTr))))), ((ax 26), .inl (cA 0, 10, .inl gMo))]) (w1 := [((ax 0), .inr (8, [.ref (ax 1), .ref (ax 7), .ref (ax 10), .ref (ax 11), .ref (ax 13), .ref (ax 15), .ref (ax 16), .ref (ax 21), .ref (ax 26), .ref (ax 27), .ref (ax 28), .int xNow, .int xEr, .int xTr, .int xMo, .int xFa, .int w_25]))]) hP hD [0] [1, 2] rfl rfl (by decide) (by decide) hk1 hFc hP1 hD1
    clear hz1
    generalize H1 = H at hP hS ⊢
    replace hP : va_P (dC, dI) vwCl (([((ax 15), .inl (cA 5, 20, .inr (.inr (.inr (.inr gTr))))), ((ax 26), .inl (cA 0, 10, .inl gMo)), ((ax 0), .inr (8, [.ref (ax 1), .ref (ax 7), .ref (ax 10), .ref (ax 11), .ref (ax 13), .ref (ax 15), .ref (ax 16), .ref (ax 21), .ref (ax 26), .ref (ax 27), .ref (ax 28), .int xNow, .int xEr, .int xTr, .int xMo, .int xFa, .int w_25]))] : va_W) ++ va_pl L pf) H := hP
    replace hD : va_D A (([((ax 15), .inl (cA 5, 20, .inr (.inr (.inr (.inr gTr))))), ((ax 26), .inl (cA 0, 10, .inl gMo)), ((ax 0), .inr (8, [.ref (ax 1), .ref (ax 7), .ref (ax 10), .ref (ax 11), .ref (ax 13), .ref (ax 15), .ref (ax 16), .ref (ax 21), .ref (ax 26), .ref (ax 27), .ref (ax 28), .int xNow, .int xEr, .int xTr, .int xMo, .int xFa, .int w_25]))] : va_W) ++ va_pl L pf) := hD
    obtain rfl : (-1) = r_22 := hr9.symm
    have hP9 := hP.part (cx := [((ax 0), .inr (8, [.ref (ax 1), .ref (ax 7), .ref (ax 10), .ref (ax 11), .ref (ax 13), .ref (ax 15), .ref (ax 16), .ref (ax 21), .ref (ax 26), .ref (ax 27), .ref (ax 28), .int xNow, .int xEr, .int xTr, .int xMo, .int xFa, .int w_25])), ((ax 15), .inl (cA 5, 20, .inr (.inr (.inr (.inr gTr))))), ((ax 26), .inl (cA 0, 10, .inl gMo))]) [2, 0, 1] rfl
    have hD9 := hD.part (cx := [((ax 0), .inr (8, [.ref (ax 1), .ref (ax 7), .ref (ax 10), .ref (ax 11), .ref (ax 13), .ref (ax 15), .ref (ax 16), .ref (ax 21), .ref (ax 26), .ref (ax 27), .ref (ax 28), .int xNow, .int xEr, .int xTr, .int xMo, .int xFa, .int w_25])), ((ax 15), .inl (cA 5, 20, .inr (.inr (.inr (.inr gTr))))), ((ax 26), .inl (cA 0, 10, .inl gMo))]) [2, 0, 1] (by decide) rfl
    subst hQe
    have hans : ((-1) : Int32).toInt = (-1) := (by decide)
    have hpost : (0 ≤ xMo.toInt ∧ xMo.toInt ≤ 10) ∧ ((¬ (0 ≤ a.toInt ∧ a.toInt < 2 ^ xTr.toInt.toNat) → ((-1) : Int32).toInt = (-1) ∧ xMo.toInt = xMo.toInt ∧ gMo = gMo) ∧ ((0 ≤ a.toInt ∧ a.toInt < 2 ^ xTr.toInt.toNat) ∧ 10 ≤ xMo.toInt → ((-1) : Int32).toInt = (-5) ∧ xMo.toInt = xMo.toInt ∧ gMo = gMo) ∧ ((0 ≤ a.toInt ∧ a.toInt < 2 ^ xTr.toInt.toNat) ∧ xMo.toInt < 10 → ((-1) : Int32).toInt = xMo.toInt ∧ xMo.toInt = xMo.toInt + 1 ∧ gMo = upd gMo xMo.toNatClampNeg (nds nd a xTr.toInt.toNat))) := ⟨i_xMo, ⟨fun _ => ⟨by omega, by omega, rfl⟩, fun h => by exfalso; omega, fun h => by exfalso; omega⟩⟩
    exact W.iret (v := (-1)) hx hb hr (fun t ht hW => ⟨⟨(-1), (w_25, xMo, gMo), rfl, hpost, by rw [ht]; exact hP9, hD9⟩, hS.F ht⟩) hS.2.2 dX8_model_14
