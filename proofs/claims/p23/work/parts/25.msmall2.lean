theorem dX9_model_0 : decode cX9_model 0 = .ok (.iload_n 1, 1) := by decide +kernel
theorem dX9_model_1 : decode cX9_model 1 = .ok (.ifCond .lt 13, 3) := by decide +kernel
theorem dX9_model_14 : decode cX9_model 14 = .ok (.aload_n 0, 1) := by decide +kernel
theorem dX9_model_15 : decode cX9_model 15 = .ok (.iconst (-1), 1) := by decide +kernel
set_option maxRecDepth 20000 in
theorem ggX9_model_X9_ends : GoodIn wsX9_model wsX9_ends := goodIn_r _ [8, 9, 10, 11, 12, 13, 14, 15, 16, 17, 18, 19, 20, 21, 22, 23, 24, 25, 26, 27, 28, 29, 30, 31, 32, 33, 34, 35, 36, 37, 38, 39, 40, 41, 42, 43, 44, 45, 46, 47, 48, 49, 50, 51, 52, 53, 54, 55, 56, 57, 58, 59, 60] (by decide +kernel) (by decide +kernel)
set_option maxRecDepth 20000 in
theorem gX9_model_X9_ends : GoodIn wsX9_model (wsV RX9 136 RX9 yX9_ends wsX9_ends) := goodIn_app (goodIn_of _ (by decide +kernel)) ggX9_model_X9_ends
theorem dX9_model_16 : decode cX9_model 16 = .ok (.invokevirtual 136, 3) := by decide +kernel
theorem dX9_model_19 : decode cX9_model 19 = .ok (.ireturn, 1) := by decide +kernel
theorem dX9_model_4 : decode cX9_model 4 = .ok (.iload_n 1, 1) := by decide +kernel
theorem dX9_model_5 : decode cX9_model 5 = .ok (.iconst 1, 1) := by decide +kernel
theorem dX9_model_6 : decode cX9_model 6 = .ok (.aload_n 0, 1) := by decide +kernel
theorem dX9_model_7 : decode cX9_model 7 = .ok (.getfield 197, 3) := by decide +kernel
theorem dX9_model_10 : decode cX9_model 10 = .ok (.ishl, 1) := by decide +kernel
theorem dX9_model_11 : decode cX9_model 11 = .ok (.if_icmp .lt 9, 3) := by decide +kernel
theorem dX9_model_20 : decode cX9_model 20 = .ok (.aload_n 0, 1) := by decide +kernel
theorem dX9_model_21 : decode cX9_model 21 = .ok (.getfield 323, 3) := by decide +kernel
theorem dX9_model_24 : decode cX9_model 24 = .ok (.bipush 10, 2) := by decide +kernel
theorem dX9_model_26 : decode cX9_model 26 = .ok (.if_icmp .ne 10, 3) := by decide +kernel
theorem dX9_model_36 : decode cX9_model 36 = .ok (.aload_n 0, 1) := by decide +kernel
theorem dX9_model_37 : decode cX9_model 37 = .ok (.getfield 113, 3) := by decide +kernel
theorem dX9_model_40 : decode cX9_model 40 = .ok (.aload_n 0, 1) := by decide +kernel
theorem dX9_model_41 : decode cX9_model 41 = .ok (.getfield 323, 3) := by decide +kernel
theorem dX9_model_44 : decode cX9_model 44 = .ok (.iload_n 1, 1) := by decide +kernel
theorem dX9_model_45 : decode cX9_model 45 = .ok (.iastore, 1) := by decide +kernel
theorem dX9_model_46 : decode cX9_model 46 = .ok (.aload_n 0, 1) := by decide +kernel
theorem dX9_model_47 : decode cX9_model 47 = .ok (.dup, 1) := by decide +kernel
theorem dX9_model_48 : decode cX9_model 48 = .ok (.getfield 323, 3) := by decide +kernel
theorem dX9_model_51 : decode cX9_model 51 = .ok (.iconst 1, 1) := by decide +kernel
theorem dX9_model_52 : decode cX9_model 52 = .ok (.iadd, 1) := by decide +kernel
theorem dX9_model_53 : decode cX9_model 53 = .ok (.putfield 323, 3) := by decide +kernel
theorem dX9_model_56 : decode cX9_model 56 = .ok (.aload_n 0, 1) := by decide +kernel
theorem dX9_model_57 : decode cX9_model 57 = .ok (.aload_n 0, 1) := by decide +kernel
theorem dX9_model_58 : decode cX9_model 58 = .ok (.getfield 323, 3) := by decide +kernel
theorem dX9_model_61 : decode cX9_model 61 = .ok (.iconst 1, 1) := by decide +kernel
theorem dX9_model_62 : decode cX9_model 62 = .ok (.isub, 1) := by decide +kernel
theorem dX9_model_63 : decode cX9_model 63 = .ok (.invokevirtual 136, 3) := by decide +kernel
theorem dX9_model_66 : decode cX9_model 66 = .ok (.ireturn, 1) := by decide +kernel
theorem dX9_model_29 : decode cX9_model 29 = .ok (.aload_n 0, 1) := by decide +kernel
theorem dX9_model_30 : decode cX9_model 30 = .ok (.bipush (-5), 2) := by decide +kernel
theorem dX9_model_32 : decode cX9_model 32 = .ok (.invokevirtual 136, 3) := by decide +kernel
theorem dX9_model_35 : decode cX9_model 35 = .ok (.ireturn, 1) := by decide +kernel
theorem dX9_neededOf_0 : decode cX9_neededOf 0 = .ok (.aload_n 0, 1) := by decide +kernel
theorem dX9_neededOf_1 : decode cX9_neededOf 1 = .ok (.getfield 113, 3) := by decide +kernel
theorem dX9_neededOf_4 : decode cX9_neededOf 4 = .ok (.iload_n 1, 1) := by decide +kernel
theorem dX9_neededOf_5 : decode cX9_neededOf 5 = .ok (.iaload, 1) := by decide +kernel
theorem dX9_neededOf_6 : decode cX9_neededOf 6 = .ok (.istore_n 2, 1) := by decide +kernel
theorem dX9_neededOf_7 : decode cX9_neededOf 7 = .ok (.aload_n 0, 1) := by decide +kernel
theorem dX9_neededOf_8 : decode cX9_neededOf 8 = .ok (.getfield 197, 3) := by decide +kernel
theorem dX9_neededOf_11 : decode cX9_neededOf 11 = .ok (.iconst 1, 1) := by decide +kernel
theorem dX9_neededOf_12 : decode cX9_neededOf 12 = .ok (.isub, 1) := by decide +kernel
theorem dX9_neededOf_13 : decode cX9_neededOf 13 = .ok (.istore_n 3, 1) := by decide +kernel
theorem dX9_neededOf_14 : decode cX9_neededOf 14 = .ok (.iload_n 3, 1) := by decide +kernel
theorem dX9_neededOf_15 : decode cX9_neededOf 15 = .ok (.ifCond .lt 76, 3) := by decide +kernel
theorem dX9_neededOf_91 : decode cX9_neededOf 91 = .ok (.iload_n 2, 1) := by decide +kernel
theorem dX9_neededOf_92 : decode cX9_neededOf 92 = .ok (.ireturn, 1) := by decide +kernel
theorem dX9_neededOf_18 : decode cX9_neededOf 18 = .ok (.iload_n 2, 1) := by decide +kernel
theorem dX9_neededOf_19 : decode cX9_neededOf 19 = .ok (.iload_n 3, 1) := by decide +kernel
theorem dX9_neededOf_20 : decode cX9_neededOf 20 = .ok (.ishr, 1) := by decide +kernel
theorem dX9_neededOf_21 : decode cX9_neededOf 21 = .ok (.iconst 1, 1) := by decide +kernel
theorem dX9_neededOf_22 : decode cX9_neededOf 22 = .ok (.iand, 1) := by decide +kernel
theorem dX9_neededOf_23 : decode cX9_neededOf 23 = .ok (.ifCond .ne 6, 3) := by decide +kernel
theorem dX9_neededOf_29 : decode cX9_neededOf 29 = .ok (.iconst 0, 1) := by decide +kernel
theorem dX9_neededOf_30 : decode cX9_neededOf 30 = .ok (.istore 4, 2) := by decide +kernel
theorem dX9_neededOf_32 : decode cX9_neededOf 32 = .ok (.iload 4, 2) := by decide +kernel
theorem dX9_neededOf_34 : decode cX9_neededOf 34 = .ok (.aload_n 0, 1) := by decide +kernel
theorem dX9_neededOf_35 : decode cX9_neededOf 35 = .ok (.getfield 49, 3) := by decide +kernel
theorem dX9_neededOf_38 : decode cX9_neededOf 38 = .ok (.iload_n 3, 1) := by decide +kernel
theorem dX9_neededOf_39 : decode cX9_neededOf 39 = .ok (.iaload, 1) := by decide +kernel
theorem dX9_neededOf_40 : decode cX9_neededOf 40 = .ok (.if_icmp .ge 45, 3) := by decide +kernel
theorem dX9_neededOf_85 : decode cX9_neededOf 85 = .ok (.iinc 3 (-1), 3) := by decide +kernel
theorem dX9_neededOf_88 : decode cX9_neededOf 88 = .ok (.goto (-74), 3) := by decide +kernel
theorem dX9_neededOf_43 : decode cX9_neededOf 43 = .ok (.aload_n 0, 1) := by decide +kernel
theorem dX9_neededOf_44 : decode cX9_neededOf 44 = .ok (.getfield 52, 3) := by decide +kernel
theorem dX9_neededOf_47 : decode cX9_neededOf 47 = .ok (.sipush 250, 3) := by decide +kernel
theorem dX9_neededOf_50 : decode cX9_neededOf 50 = .ok (.iload_n 3, 1) := by decide +kernel
theorem dX9_neededOf_51 : decode cX9_neededOf 51 = .ok (.imul, 1) := by decide +kernel
theorem dX9_neededOf_52 : decode cX9_neededOf 52 = .ok (.iload 4, 2) := by decide +kernel
theorem dX9_neededOf_54 : decode cX9_neededOf 54 = .ok (.iadd, 1) := by decide +kernel
theorem dX9_neededOf_55 : decode cX9_neededOf 55 = .ok (.iaload, 1) := by decide +kernel
theorem dX9_neededOf_56 : decode cX9_neededOf 56 = .ok (.bipush 6, 2) := by decide +kernel
theorem dX9_neededOf_58 : decode cX9_neededOf 58 = .ok (.if_icmp .ne 21, 3) := by decide +kernel
theorem dX9_neededOf_79 : decode cX9_neededOf 79 = .ok (.iinc 4 1, 3) := by decide +kernel
theorem dX9_neededOf_82 : decode cX9_neededOf 82 = .ok (.goto (-50), 3) := by decide +kernel
theorem dX9_neededOf_61 : decode cX9_neededOf 61 = .ok (.iload_n 2, 1) := by decide +kernel
theorem dX9_neededOf_62 : decode cX9_neededOf 62 = .ok (.iconst 1, 1) := by decide +kernel
theorem dX9_neededOf_63 : decode cX9_neededOf 63 = .ok (.aload_n 0, 1) := by decide +kernel
theorem dX9_neededOf_64 : decode cX9_neededOf 64 = .ok (.getfield 55, 3) := by decide +kernel
theorem dX9_neededOf_67 : decode cX9_neededOf 67 = .ok (.sipush 250, 3) := by decide +kernel
theorem dX9_neededOf_70 : decode cX9_neededOf 70 = .ok (.iload_n 3, 1) := by decide +kernel
theorem dX9_neededOf_71 : decode cX9_neededOf 71 = .ok (.imul, 1) := by decide +kernel
theorem dX9_neededOf_72 : decode cX9_neededOf 72 = .ok (.iload 4, 2) := by decide +kernel
theorem dX9_neededOf_74 : decode cX9_neededOf 74 = .ok (.iadd, 1) := by decide +kernel
theorem dX9_neededOf_75 : decode cX9_neededOf 75 = .ok (.iaload, 1) := by decide +kernel
theorem dX9_neededOf_76 : decode cX9_neededOf 76 = .ok (.ishl, 1) := by decide +kernel
theorem dX9_neededOf_77 : decode cX9_neededOf 77 = .ok (.ior, 1) := by decide +kernel
theorem dX9_neededOf_78 : decode cX9_neededOf 78 = .ok (.istore_n 2, 1) := by decide +kernel
theorem dX9_neededOf_26 : decode cX9_neededOf 26 = .ok (.goto 59, 3) := by decide +kernel
theorem dX9_needed_0 : decode cX9_needed 0 = .ok (.iload_n 1, 1) := by decide +kernel
theorem dX9_needed_1 : decode cX9_needed 1 = .ok (.i2l, 1) := by decide +kernel
theorem dX9_needed_2 : decode cX9_needed 2 = .ok (.lconst 0, 1) := by decide +kernel
theorem dX9_needed_3 : decode cX9_needed 3 = .ok (.aload_n 0, 1) := by decide +kernel
theorem dX9_needed_4 : decode cX9_needed 4 = .ok (.getfield 323, 3) := by decide +kernel
theorem dX9_needed_7 : decode cX9_needed 7 = .ok (.iconst 1, 1) := by decide +kernel
theorem dX9_needed_8 : decode cX9_needed 8 = .ok (.isub, 1) := by decide +kernel
theorem dX9_needed_9 : decode cX9_needed 9 = .ok (.i2l, 1) := by decide +kernel
set_option maxRecDepth 20000 in
theorem ggX9_needed_X9_in : GoodIn wsX9_needed wsX9_in := goodIn_r _ [5] (by decide +kernel) (by decide +kernel)
set_option maxRecDepth 20000 in
theorem gX9_needed_X9_in : GoodIn wsX9_needed (va_wsS RX9 127 yX9_in wsX9_in) := goodIn_app (goodIn_of _ (by decide +kernel)) ggX9_needed_X9_in
theorem dX9_needed_10 : decode cX9_needed 10 = .ok (.invokestatic 127, 3) := by decide +kernel
theorem dX9_needed_13 : decode cX9_needed 13 = .ok (.ifCond .eq 11, 3) := by decide +kernel
theorem dX9_needed_24 : decode cX9_needed 24 = .ok (.iconst 0, 1) := by decide +kernel
theorem dX9_needed_25 : decode cX9_needed 25 = .ok (.ireturn, 1) := by decide +kernel
theorem dX9_needed_16 : decode cX9_needed 16 = .ok (.aload_n 0, 1) := by decide +kernel
theorem dX9_needed_17 : decode cX9_needed 17 = .ok (.iload_n 1, 1) := by decide +kernel
set_option maxRecDepth 20000 in
theorem ggX9_needed_X9_neededOf : GoodIn wsX9_needed wsX9_neededOf := goodIn_r _ [9, 10, 11, 12, 13, 14, 15, 16, 17, 18, 19, 20, 21, 22, 23, 24, 25, 26, 27, 28, 29, 30, 31, 32, 33, 34, 35, 36, 37, 38, 39, 40, 41, 42, 43, 44, 45, 46, 47, 48, 49, 50, 51, 52, 53, 54, 55, 56, 57, 58, 59, 60, 61, 62, 63, 64, 65] (by decide +kernel) (by decide +kernel)
set_option maxRecDepth 20000 in
theorem gX9_needed_X9_neededOf : GoodIn wsX9_needed (wsV RX9 326 RX9 yX9_neededOf wsX9_neededOf) := goodIn_app (goodIn_of _ (by decide +kernel)) ggX9_needed_X9_neededOf
theorem dX9_needed_18 : decode cX9_needed 18 = .ok (.invokevirtual 326, 3) := by decide +kernel
theorem dX9_needed_21 : decode cX9_needed 21 = .ok (.goto 4, 3) := by decide +kernel
theorem dX9_hung_0 : decode cX9_hung 0 = .ok (.aload_n 0, 1) := by decide +kernel
theorem dX9_hung_1 : decode cX9_hung 1 = .ok (.iload_n 1, 1) := by decide +kernel
set_option maxRecDepth 20000 in
theorem ggX9_hung_X9_isTrait : GoodIn wsX9_hung wsX9_isTrait := goodIn_r _ [6, 7, 8, 9, 5, 10, 19, 20, 21, 22, 23, 24, 25, 26, 27, 28, 29, 30, 31, 32, 33, 34, 35, 36, 37, 38, 39, 40, 41, 42, 43, 44, 45, 46, 47, 48, 49, 50, 51, 52, 53, 54, 55, 56, 57, 58, 59, 60, 61, 62, 63, 64, 65, 66, 67, 68, 69] (by decide +kernel) (by decide +kernel)
set_option maxRecDepth 20000 in
theorem gX9_hung_X9_isTrait : GoodIn wsX9_hung (wsV RX9 297 RX9 yX9_isTrait wsX9_isTrait) := goodIn_app (goodIn_of _ (by decide +kernel)) ggX9_hung_X9_isTrait
theorem dX9_hung_2 : decode cX9_hung 2 = .ok (.invokevirtual 297, 3) := by decide +kernel
theorem dX9_hung_5 : decode cX9_hung 5 = .ok (.ifCond .ne 5, 3) := by decide +kernel
theorem dX9_hung_10 : decode cX9_hung 10 = .ok (.iconst 0, 1) := by decide +kernel
theorem dX9_hung_11 : decode cX9_hung 11 = .ok (.istore_n 2, 1) := by decide +kernel
theorem dX9_hung_12 : decode cX9_hung 12 = .ok (.iconst 0, 1) := by decide +kernel
theorem dX9_hung_13 : decode cX9_hung 13 = .ok (.istore_n 3, 1) := by decide +kernel
theorem dX9_hung_14 : decode cX9_hung 14 = .ok (.iload_n 3, 1) := by decide +kernel
theorem dX9_hung_15 : decode cX9_hung 15 = .ok (.aload_n 0, 1) := by decide +kernel
theorem dX9_hung_16 : decode cX9_hung 16 = .ok (.getfield 323, 3) := by decide +kernel
theorem dX9_hung_19 : decode cX9_hung 19 = .ok (.if_icmp .ge 21, 3) := by decide +kernel
theorem dX9_hung_40 : decode cX9_hung 40 = .ok (.iload_n 2, 1) := by decide +kernel
theorem dX9_hung_41 : decode cX9_hung 41 = .ok (.ireturn, 1) := by decide +kernel
theorem dX9_hung_22 : decode cX9_hung 22 = .ok (.iload_n 2, 1) := by decide +kernel
theorem dX9_hung_23 : decode cX9_hung 23 = .ok (.aload_n 0, 1) := by decide +kernel
theorem dX9_hung_24 : decode cX9_hung 24 = .ok (.iload_n 3, 1) := by decide +kernel
set_option maxRecDepth 20000 in
theorem ggX9_hung_X9_neededOf : GoodIn wsX9_hung wsX9_neededOf := goodIn_r _ [14, 15, 7, 16, 17, 18, 19, 20, 21, 22, 23, 24, 25, 26, 27, 28, 29, 30, 31, 32, 33, 34, 35, 36, 37, 38, 39, 40, 41, 42, 43, 44, 45, 46, 47, 48, 49, 50, 51, 52, 53, 54, 55, 56, 57, 58, 59, 60, 61, 62, 63, 64, 65, 66, 67, 68, 69] (by decide +kernel) (by decide +kernel)
set_option maxRecDepth 20000 in
theorem gX9_hung_X9_neededOf : GoodIn wsX9_hung (wsV RX9 326 RX9 yX9_neededOf wsX9_neededOf) := goodIn_app (goodIn_of _ (by decide +kernel)) ggX9_hung_X9_neededOf
theorem dX9_hung_25 : decode cX9_hung 25 = .ok (.invokevirtual 326, 3) := by decide +kernel
theorem dX9_hung_28 : decode cX9_hung 28 = .ok (.iload_n 1, 1) := by decide +kernel
theorem dX9_hung_29 : decode cX9_hung 29 = .ok (.ishr, 1) := by decide +kernel
theorem dX9_hung_30 : decode cX9_hung 30 = .ok (.iconst 1, 1) := by decide +kernel
theorem dX9_hung_31 : decode cX9_hung 31 = .ok (.iand, 1) := by decide +kernel
theorem dX9_hung_32 : decode cX9_hung 32 = .ok (.iadd, 1) := by decide +kernel
theorem dX9_hung_33 : decode cX9_hung 33 = .ok (.istore_n 2, 1) := by decide +kernel
theorem dX9_hung_34 : decode cX9_hung 34 = .ok (.iinc 3 1, 3) := by decide +kernel
theorem dX9_hung_37 : decode cX9_hung 37 = .ok (.goto (-23), 3) := by decide +kernel
theorem dX9_hung_8 : decode cX9_hung 8 = .ok (.iconst (-1), 1) := by decide +kernel
theorem dX9_hung_9 : decode cX9_hung 9 = .ok (.ireturn, 1) := by decide +kernel
theorem dX9_isKept_0 : decode cX9_isKept 0 = .ok (.aload_n 0, 1) := by decide +kernel
theorem dX9_isKept_1 : decode cX9_isKept 1 = .ok (.iload_n 1, 1) := by decide +kernel
set_option maxRecDepth 20000 in
theorem ggX9_isKept_X9_isTrait : GoodIn wsX9_isKept wsX9_isTrait := goodIn_r _ [6, 7, 8, 9, 5, 10, 15, 16, 17, 18, 19, 20, 21, 22, 23, 24, 25, 26, 27, 28, 29, 30, 31, 32, 33, 34, 35, 36, 37, 38, 39, 40, 41, 42, 43, 44, 45, 46, 47, 48, 49, 50, 51, 52, 53, 54, 55, 56, 57, 58, 59, 60, 61, 62, 63, 64, 65] (by decide +kernel) (by decide +kernel)
set_option maxRecDepth 20000 in
theorem gX9_isKept_X9_isTrait : GoodIn wsX9_isKept (wsV RX9 297 RX9 yX9_isTrait wsX9_isTrait) := goodIn_app (goodIn_of _ (by decide +kernel)) ggX9_isKept_X9_isTrait
theorem dX9_isKept_2 : decode cX9_isKept 2 = .ok (.invokevirtual 297, 3) := by decide +kernel
theorem dX9_isKept_5 : decode cX9_isKept 5 = .ok (.ifCond .eq 28, 3) := by decide +kernel
theorem dX9_isKept_33 : decode cX9_isKept 33 = .ok (.iconst 0, 1) := by decide +kernel
theorem dX9_isKept_34 : decode cX9_isKept 34 = .ok (.ireturn, 1) := by decide +kernel
theorem dX9_isKept_8 : decode cX9_isKept 8 = .ok (.iload_n 2, 1) := by decide +kernel
set_option maxRecDepth 20000 in
theorem ggX9_isKept_X9_isPerson : GoodIn wsX9_isKept wsX9_isPerson := goodIn_r _ [13, 14, 8, 9, 5, 10] (by decide +kernel) (by decide +kernel)
set_option maxRecDepth 20000 in
theorem gX9_isKept_X9_isPerson : GoodIn wsX9_isKept (va_wsS RX9 150 yX9_isPerson wsX9_isPerson) := goodIn_app (goodIn_of _ (by decide +kernel)) ggX9_isKept_X9_isPerson
theorem dX9_isKept_9 : decode cX9_isKept 9 = .ok (.invokestatic 150, 3) := by decide +kernel
theorem dX9_isKept_12 : decode cX9_isKept 12 = .ok (.ifCond .eq 21, 3) := by decide +kernel
theorem dX9_isKept_15 : decode cX9_isKept 15 = .ok (.aload_n 0, 1) := by decide +kernel
theorem dX9_isKept_16 : decode cX9_isKept 16 = .ok (.getfield 89, 3) := by decide +kernel
theorem dX9_isKept_19 : decode cX9_isKept 19 = .ok (.bipush 20, 2) := by decide +kernel
theorem dX9_isKept_21 : decode cX9_isKept 21 = .ok (.iload_n 1, 1) := by decide +kernel
theorem dX9_isKept_22 : decode cX9_isKept 22 = .ok (.imul, 1) := by decide +kernel
theorem dX9_isKept_23 : decode cX9_isKept 23 = .ok (.iload_n 2, 1) := by decide +kernel
theorem dX9_isKept_24 : decode cX9_isKept 24 = .ok (.iadd, 1) := by decide +kernel
theorem dX9_isKept_25 : decode cX9_isKept 25 = .ok (.baload, 1) := by decide +kernel
theorem dX9_isKept_26 : decode cX9_isKept 26 = .ok (.ifCond .eq 7, 3) := by decide +kernel
theorem dX9_isKept_29 : decode cX9_isKept 29 = .ok (.iconst 1, 1) := by decide +kernel
theorem dX9_isKept_30 : decode cX9_isKept 30 = .ok (.goto 4, 3) := by decide +kernel
theorem dX9_kept_0 : decode cX9_kept 0 = .ok (.aload_n 0, 1) := by decide +kernel
theorem dX9_kept_1 : decode cX9_kept 1 = .ok (.iload_n 1, 1) := by decide +kernel
theorem dX9_kept_2 : decode cX9_kept 2 = .ok (.iload_n 2, 1) := by decide +kernel
set_option maxRecDepth 20000 in
theorem ggX9_kept_X9_isKept : GoodIn wsX9_kept wsX9_isKept := goodIn_r _ [7, 8, 9, 10, 11, 6, 12, 13, 14, 15, 16, 17, 18, 19, 20, 21, 22, 23, 24, 25, 26, 27, 28, 29, 30, 31, 32, 33, 34, 35, 36, 37, 38, 39, 40, 41, 42, 43, 44, 45, 46, 47, 48, 49, 50, 51, 52, 53, 54, 55, 56, 57, 58, 59, 60, 61, 62, 63, 64, 65, 66, 67, 68, 69, 70, 71] (by decide +kernel) (by decide +kernel)
set_option maxRecDepth 20000 in
theorem gX9_kept_X9_isKept : GoodIn wsX9_kept (wsV RX9 311 RX9 yX9_isKept wsX9_isKept) := goodIn_app (goodIn_of _ (by decide +kernel)) ggX9_kept_X9_isKept
theorem dX9_kept_3 : decode cX9_kept 3 = .ok (.invokevirtual 311, 3) := by decide +kernel
theorem dX9_kept_6 : decode cX9_kept 6 = .ok (.ifCond .eq 17, 3) := by decide +kernel
theorem dX9_kept_23 : decode cX9_kept 23 = .ok (.ldc2_w 274, 3) := by decide +kernel
theorem dX9_kept_26 : decode cX9_kept 26 = .ok (.lreturn, 1) := by decide +kernel
theorem dX9_kept_9 : decode cX9_kept 9 = .ok (.aload_n 0, 1) := by decide +kernel
theorem dX9_kept_10 : decode cX9_kept 10 = .ok (.getfield 92, 3) := by decide +kernel
theorem dX9_kept_13 : decode cX9_kept 13 = .ok (.bipush 20, 2) := by decide +kernel
theorem dX9_kept_15 : decode cX9_kept 15 = .ok (.iload_n 1, 1) := by decide +kernel
theorem dX9_kept_16 : decode cX9_kept 16 = .ok (.imul, 1) := by decide +kernel
theorem dX9_kept_17 : decode cX9_kept 17 = .ok (.iload_n 2, 1) := by decide +kernel
theorem dX9_kept_18 : decode cX9_kept 18 = .ok (.iadd, 1) := by decide +kernel
theorem dX9_kept_19 : decode cX9_kept 19 = .ok (.laload, 1) := by decide +kernel
theorem dX9_kept_20 : decode cX9_kept 20 = .ok (.goto 6, 3) := by decide +kernel
theorem dX9_age_0 : decode cX9_age 0 = .ok (.aload_n 0, 1) := by decide +kernel
theorem dX9_age_1 : decode cX9_age 1 = .ok (.iload_n 1, 1) := by decide +kernel
theorem dX9_age_2 : decode cX9_age 2 = .ok (.iload_n 2, 1) := by decide +kernel
set_option maxRecDepth 20000 in
theorem ggX9_age_X9_isKept : GoodIn wsX9_age wsX9_isKept := goodIn_r _ [8, 9, 10, 11, 12, 7, 13, 14, 15, 16, 17, 18, 19, 20, 21, 22, 23, 24, 25, 26, 27, 28, 29, 30, 31, 32, 33, 34, 35, 36, 37, 38, 39, 40, 41, 42, 43, 44, 45, 46, 47, 48, 49, 50, 51, 52, 53, 54, 55, 56, 57, 58, 59, 60, 61, 62, 63, 64, 65, 66, 67, 68, 69, 70, 71, 72] (by decide +kernel) (by decide +kernel)
set_option maxRecDepth 20000 in
theorem gX9_age_X9_isKept : GoodIn wsX9_age (wsV RX9 311 RX9 yX9_isKept wsX9_isKept) := goodIn_app (goodIn_of _ (by decide +kernel)) ggX9_age_X9_isKept
theorem dX9_age_3 : decode cX9_age 3 = .ok (.invokevirtual 311, 3) := by decide +kernel
theorem dX9_age_6 : decode cX9_age 6 = .ok (.ifCond .ne 5, 3) := by decide +kernel
theorem dX9_age_11 : decode cX9_age 11 = .ok (.aload_n 0, 1) := by decide +kernel
theorem dX9_age_12 : decode cX9_age 12 = .ok (.getfield 95, 3) := by decide +kernel
theorem dX9_age_15 : decode cX9_age 15 = .ok (.bipush 20, 2) := by decide +kernel
theorem dX9_age_17 : decode cX9_age 17 = .ok (.iload_n 1, 1) := by decide +kernel
theorem dX9_age_18 : decode cX9_age 18 = .ok (.imul, 1) := by decide +kernel
theorem dX9_age_19 : decode cX9_age 19 = .ok (.iload_n 2, 1) := by decide +kernel
theorem dX9_age_20 : decode cX9_age 20 = .ok (.iadd, 1) := by decide +kernel
theorem dX9_age_21 : decode cX9_age 21 = .ok (.iaload, 1) := by decide +kernel
theorem dX9_age_22 : decode cX9_age 22 = .ok (.istore 4, 2) := by decide +kernel
theorem dX9_age_24 : decode cX9_age 24 = .ok (.iload_n 3, 1) := by decide +kernel
theorem dX9_age_25 : decode cX9_age 25 = .ok (.ifCond .ne 8, 3) := by decide +kernel
theorem dX9_age_33 : decode cX9_age 33 = .ok (.iload_n 3, 1) := by decide +kernel
theorem dX9_age_34 : decode cX9_age 34 = .ok (.iconst 1, 1) := by decide +kernel
theorem dX9_age_35 : decode cX9_age 35 = .ok (.if_icmp .ne 27, 3) := by decide +kernel
theorem dX9_age_62 : decode cX9_age 62 = .ok (.iconst (-1), 1) := by decide +kernel
theorem dX9_age_63 : decode cX9_age 63 = .ok (.ireturn, 1) := by decide +kernel
theorem dX9_age_38 : decode cX9_age 38 = .ok (.aload_n 0, 1) := by decide +kernel
theorem dX9_age_39 : decode cX9_age 39 = .ok (.getfield 133, 3) := by decide +kernel
theorem dX9_age_42 : decode cX9_age 42 = .ok (.iload 4, 2) := by decide +kernel
theorem dX9_age_44 : decode cX9_age 44 = .ok (.isub, 1) := by decide +kernel
theorem dX9_age_45 : decode cX9_age 45 = .ok (.aload_n 0, 1) := by decide +kernel
theorem dX9_age_46 : decode cX9_age 46 = .ok (.getfield 83, 3) := by decide +kernel
theorem dX9_age_49 : decode cX9_age 49 = .ok (.iload_n 1, 1) := by decide +kernel
theorem dX9_age_50 : decode cX9_age 50 = .ok (.iaload, 1) := by decide +kernel
theorem dX9_age_51 : decode cX9_age 51 = .ok (.if_icmp .le 7, 3) := by decide +kernel
theorem dX9_age_58 : decode cX9_age 58 = .ok (.iconst 0, 1) := by decide +kernel
theorem dX9_age_59 : decode cX9_age 59 = .ok (.goto 4, 3) := by decide +kernel
theorem dX9_age_54 : decode cX9_age 54 = .ok (.iconst 1, 1) := by decide +kernel
theorem dX9_age_55 : decode cX9_age 55 = .ok (.goto 8, 3) := by decide +kernel
theorem dX9_age_28 : decode cX9_age 28 = .ok (.iload 4, 2) := by decide +kernel
theorem dX9_age_30 : decode cX9_age 30 = .ok (.goto 33, 3) := by decide +kernel
theorem dX9_age_9 : decode cX9_age 9 = .ok (.iconst (-1), 1) := by decide +kernel
theorem dX9_age_10 : decode cX9_age 10 = .ok (.ireturn, 1) := by decide +kernel
theorem dX9_held_0 : decode cX9_held 0 = .ok (.aload_n 0, 1) := by decide +kernel
theorem dX9_held_1 : decode cX9_held 1 = .ok (.iload_n 1, 1) := by decide +kernel
set_option maxRecDepth 20000 in
theorem ggX9_held_X9_isTrait : GoodIn wsX9_held wsX9_isTrait := goodIn_r _ [6, 7, 8, 9, 5, 10, 11, 12, 13, 14, 15, 16, 17, 18, 19, 20, 21, 22, 23, 24, 25, 26, 27, 28, 29, 30, 31, 32, 33, 34, 35, 36, 37, 38, 39, 40, 41, 42, 43, 44, 45, 46, 47, 48, 49, 50, 51, 52, 53, 54, 55, 56, 57, 58, 59, 60, 61] (by decide +kernel) (by decide +kernel)
set_option maxRecDepth 20000 in
theorem gX9_held_X9_isTrait : GoodIn wsX9_held (wsV RX9 297 RX9 yX9_isTrait wsX9_isTrait) := goodIn_app (goodIn_of _ (by decide +kernel)) ggX9_held_X9_isTrait
theorem dX9_held_2 : decode cX9_held 2 = .ok (.invokevirtual 297, 3) := by decide +kernel
theorem dX9_held_5 : decode cX9_held 5 = .ok (.ifCond .eq 12, 3) := by decide +kernel
theorem dX9_held_17 : decode cX9_held 17 = .ok (.iconst (-1), 1) := by decide +kernel
theorem dX9_held_18 : decode cX9_held 18 = .ok (.ireturn, 1) := by decide +kernel
theorem dX9_held_8 : decode cX9_held 8 = .ok (.aload_n 0, 1) := by decide +kernel
theorem dX9_held_9 : decode cX9_held 9 = .ok (.getfield 86, 3) := by decide +kernel
theorem dX9_held_12 : decode cX9_held 12 = .ok (.iload_n 1, 1) := by decide +kernel
theorem dX9_held_13 : decode cX9_held 13 = .ok (.iaload, 1) := by decide +kernel
theorem dX9_held_14 : decode cX9_held 14 = .ok (.goto 4, 3) := by decide +kernel
theorem dX9_misses_0 : decode cX9_misses 0 = .ok (.iload_n 1, 1) := by decide +kernel
theorem dX9_misses_1 : decode cX9_misses 1 = .ok (.i2l, 1) := by decide +kernel
theorem dX9_misses_2 : decode cX9_misses 2 = .ok (.lconst 0, 1) := by decide +kernel
theorem dX9_misses_3 : decode cX9_misses 3 = .ok (.aload_n 0, 1) := by decide +kernel
theorem dX9_misses_4 : decode cX9_misses 4 = .ok (.getfield 323, 3) := by decide +kernel
theorem dX9_misses_7 : decode cX9_misses 7 = .ok (.iconst 1, 1) := by decide +kernel
theorem dX9_misses_8 : decode cX9_misses 8 = .ok (.isub, 1) := by decide +kernel
theorem dX9_misses_9 : decode cX9_misses 9 = .ok (.i2l, 1) := by decide +kernel
set_option maxRecDepth 20000 in
theorem ggX9_misses_X9_in : GoodIn wsX9_misses wsX9_in := goodIn_r _ [7] (by decide +kernel) (by decide +kernel)
set_option maxRecDepth 20000 in
theorem gX9_misses_X9_in : GoodIn wsX9_misses (va_wsS RX9 127 yX9_in wsX9_in) := goodIn_app (goodIn_of _ (by decide +kernel)) ggX9_misses_X9_in
theorem dX9_misses_10 : decode cX9_misses 10 = .ok (.invokestatic 127, 3) := by decide +kernel
theorem dX9_misses_13 : decode cX9_misses 13 = .ok (.ifCond .eq 10, 3) := by decide +kernel
theorem dX9_misses_23 : decode cX9_misses 23 = .ok (.iconst (-1), 1) := by decide +kernel
theorem dX9_misses_24 : decode cX9_misses 24 = .ok (.ireturn, 1) := by decide +kernel
theorem dX9_misses_16 : decode cX9_misses 16 = .ok (.iload_n 2, 1) := by decide +kernel
set_option maxRecDepth 20000 in
theorem ggX9_misses_X9_isPerson : GoodIn wsX9_misses wsX9_isPerson := goodIn_r _ [10, 11, 4, 5, 6, 7] (by decide +kernel) (by decide +kernel)
set_option maxRecDepth 20000 in
theorem gX9_misses_X9_isPerson : GoodIn wsX9_misses (va_wsS RX9 150 yX9_isPerson wsX9_isPerson) := goodIn_app (goodIn_of _ (by decide +kernel)) ggX9_misses_X9_isPerson
theorem dX9_misses_17 : decode cX9_misses 17 = .ok (.invokestatic 150, 3) := by decide +kernel
theorem dX9_misses_20 : decode cX9_misses 20 = .ok (.ifCond .ne 5, 3) := by decide +kernel
theorem dX9_misses_25 : decode cX9_misses 25 = .ok (.iconst 0, 1) := by decide +kernel
theorem dX9_misses_26 : decode cX9_misses 26 = .ok (.istore_n 3, 1) := by decide +kernel
theorem dX9_misses_27 : decode cX9_misses 27 = .ok (.iconst 0, 1) := by decide +kernel
theorem dX9_misses_28 : decode cX9_misses 28 = .ok (.istore 4, 2) := by decide +kernel
theorem dX9_misses_30 : decode cX9_misses 30 = .ok (.iload 4, 2) := by decide +kernel
theorem dX9_misses_32 : decode cX9_misses 32 = .ok (.aload_n 0, 1) := by decide +kernel
theorem dX9_misses_33 : decode cX9_misses 33 = .ok (.getfield 197, 3) := by decide +kernel
theorem dX9_misses_36 : decode cX9_misses 36 = .ok (.if_icmp .ge 52, 3) := by decide +kernel
theorem dX9_misses_88 : decode cX9_misses 88 = .ok (.iload_n 3, 1) := by decide +kernel
theorem dX9_misses_89 : decode cX9_misses 89 = .ok (.ireturn, 1) := by decide +kernel
theorem dX9_misses_39 : decode cX9_misses 39 = .ok (.aload_n 0, 1) := by decide +kernel
theorem dX9_misses_40 : decode cX9_misses 40 = .ok (.iload_n 1, 1) := by decide +kernel
set_option maxRecDepth 20000 in
theorem ggX9_misses_X9_neededOf : GoodIn wsX9_misses wsX9_neededOf := goodIn_r _ [15, 16, 2, 17, 18, 19, 41, 42, 43, 44, 45, 46, 47, 48, 49, 50, 51, 52, 53, 54, 55, 56, 57, 58, 59, 60, 61, 62, 63, 64, 65, 66, 67, 68, 69, 70, 71, 72, 73, 74, 75, 76, 77, 78, 79, 80, 81, 82, 83, 84, 85, 86, 87, 88, 89, 90, 91] (by decide +kernel) (by decide +kernel)
set_option maxRecDepth 20000 in
theorem gX9_misses_X9_neededOf : GoodIn wsX9_misses (wsV RX9 326 RX9 yX9_neededOf wsX9_neededOf) := goodIn_app (goodIn_of _ (by decide +kernel)) ggX9_misses_X9_neededOf
theorem dX9_misses_41 : decode cX9_misses 41 = .ok (.invokevirtual 326, 3) := by decide +kernel
theorem dX9_misses_44 : decode cX9_misses 44 = .ok (.iload 4, 2) := by decide +kernel
theorem dX9_misses_46 : decode cX9_misses 46 = .ok (.ishr, 1) := by decide +kernel
theorem dX9_misses_47 : decode cX9_misses 47 = .ok (.iconst 1, 1) := by decide +kernel
theorem dX9_misses_48 : decode cX9_misses 48 = .ok (.iand, 1) := by decide +kernel
theorem dX9_misses_49 : decode cX9_misses 49 = .ok (.iconst 1, 1) := by decide +kernel
theorem dX9_misses_50 : decode cX9_misses 50 = .ok (.if_icmp .ne 32, 3) := by decide +kernel
theorem dX9_misses_82 : decode cX9_misses 82 = .ok (.iinc 4 1, 3) := by decide +kernel
theorem dX9_misses_85 : decode cX9_misses 85 = .ok (.goto (-55), 3) := by decide +kernel
theorem dX9_misses_53 : decode cX9_misses 53 = .ok (.aload_n 0, 1) := by decide +kernel
theorem dX9_misses_54 : decode cX9_misses 54 = .ok (.iload 4, 2) := by decide +kernel
theorem dX9_misses_56 : decode cX9_misses 56 = .ok (.iload_n 2, 1) := by decide +kernel
set_option maxRecDepth 20000 in
theorem ggX9_misses_X9_kept : GoodIn wsX9_misses wsX9_kept := goodIn_r _ [23, 24, 3, 25, 26, 27, 6, 28, 29, 30, 31, 32, 33, 2, 4, 5, 7, 8, 9, 10, 11, 41, 42, 43, 44, 45, 46, 47, 48, 49, 50, 51, 52, 53, 54, 55, 56, 57, 58, 59, 60, 61, 62, 63, 64, 65, 66, 67, 68, 69, 70, 71, 72, 73, 74, 75, 76, 77, 78, 79, 80, 81, 82, 83, 84, 85, 86, 87, 88, 89, 90, 91] (by decide +kernel) (by decide +kernel)
set_option maxRecDepth 20000 in
theorem gX9_misses_X9_kept : GoodIn wsX9_misses (wsV RX9 329 RX9 yX9_kept wsX9_kept) := goodIn_app (goodIn_of _ (by decide +kernel)) ggX9_misses_X9_kept
theorem dX9_misses_57 : decode cX9_misses 57 = .ok (.invokevirtual 329, 3) := by decide +kernel
theorem dX9_misses_60 : decode cX9_misses 60 = .ok (.ldc2_w 274, 3) := by decide +kernel
theorem dX9_misses_63 : decode cX9_misses 63 = .ok (.lcmp, 1) := by decide +kernel
theorem dX9_misses_64 : decode cX9_misses 64 = .ok (.ifCond .eq 15, 3) := by decide +kernel
theorem dX9_misses_79 : decode cX9_misses 79 = .ok (.iinc 3 1, 3) := by decide +kernel
theorem dX9_misses_67 : decode cX9_misses 67 = .ok (.aload_n 0, 1) := by decide +kernel
theorem dX9_misses_68 : decode cX9_misses 68 = .ok (.iload 4, 2) := by decide +kernel
theorem dX9_misses_70 : decode cX9_misses 70 = .ok (.iload_n 2, 1) := by decide +kernel
theorem dX9_misses_71 : decode cX9_misses 71 = .ok (.iconst 1, 1) := by decide +kernel
set_option maxRecDepth 20000 in
theorem ggX9_misses_X9_age : GoodIn wsX9_misses wsX9_age := goodIn_r _ [37, 38, 39, 40, 25, 26, 27, 6, 28, 29, 30, 31, 32, 33, 2, 4, 5, 7, 8, 9, 10, 11, 41, 42, 43, 44, 45, 46, 47, 48, 49, 50, 51, 52, 53, 54, 55, 56, 57, 58, 59, 60, 61, 62, 63, 64, 65, 66, 67, 68, 69, 70, 71, 72, 73, 74, 75, 76, 77, 78, 79, 80, 81, 82, 83, 84, 85, 86, 87, 88, 89, 90, 91] (by decide +kernel) (by decide +kernel)
set_option maxRecDepth 20000 in
theorem gX9_misses_X9_age : GoodIn wsX9_misses (wsV RX9 332 RX9 yX9_age wsX9_age) := goodIn_app (goodIn_of _ (by decide +kernel)) ggX9_misses_X9_age
theorem dX9_misses_72 : decode cX9_misses 72 = .ok (.invokevirtual 332, 3) := by decide +kernel
theorem dX9_misses_75 : decode cX9_misses 75 = .ok (.iconst 1, 1) := by decide +kernel
theorem dX9_misses_76 : decode cX9_misses 76 = .ok (.if_icmp .ne 6, 3) := by decide +kernel
theorem dX9_fault_0 : decode cX9_fault 0 = .ok (.aload_n 0, 1) := by decide +kernel
theorem dX9_fault_1 : decode cX9_fault 1 = .ok (.getfield 42, 3) := by decide +kernel
theorem dX9_fault_4 : decode cX9_fault 4 = .ok (.ireturn, 1) := by decide +kernel
theorem dX9_status_0 : decode cX9_status 0 = .ok (.aload_n 0, 1) := by decide +kernel
theorem dX9_status_1 : decode cX9_status 1 = .ok (.getfield 122, 3) := by decide +kernel
theorem dX9_status_4 : decode cX9_status 4 = .ok (.ireturn, 1) := by decide +kernel
theorem shl_one {x n : Int32} (e : x = 1 <<< (n &&& 31)) (h0 : 0 ≤ n.toInt) (h1 : n.toInt ≤ 20) : x.toInt = 2 ^ n.toInt.toNat := by
  have key : ∀ k : Nat, k ≤ 20 → ((1 : Int32) <<< (Int32.ofNat k &&& 31)).toInt = 2 ^ k := by decide +kernel
  have hn : n = Int32.ofNat n.toInt.toNat := by
    apply Int32.toInt_inj.mp
    rw [show (Int32.ofNat n.toInt.toNat).toInt = (n.toInt.toNat : Int) from nI_toInt (by omega)]
    omega
  rw [e]
  conv => lhs; rw [hn]
  exact key _ (by omega)
theorem ushr_0 {v a n : Int32} (e : v = (a.toUInt32 >>> (n.toUInt32 &&& Int32.toUInt32 31)).toInt32) (h0 : 0 ≤ n.toInt) (h1 : n.toInt ≤ 20) : v.toInt = 0 ↔ (0 ≤ a.toInt ∧ a.toInt < 2 ^ n.toInt.toNat) := by
  have hn : n = Int32.ofNat n.toInt.toNat := by
    apply Int32.toInt_inj.mp
    rw [show (Int32.ofNat n.toInt.toNat).toInt = (n.toInt.toNat : Int) from nI_toInt (by omega)]
    omega
  have key : ∀ k : Nat, k ≤ 20 → ((Int32.ofNat k).toUInt32 &&& Int32.toUInt32 31).toBitVec.toNat % 32 = k := by decide +kernel
  have hk := key n.toInt.toNat (by omega)
  have hv : v.toBitVec.toNat = a.toBitVec.toNat / 2 ^ n.toInt.toNat := by
    have e1 : v.toBitVec = a.toBitVec >>> ((n.toUInt32 &&& Int32.toUInt32 31).toBitVec % 32#32) := by rw [e]; rfl
    rw [e1, BitVec.ushiftRight_eq', BitVec.toNat_ushiftRight, Nat.shiftRight_eq_div_pow, BitVec.toNat_umod]
    rw [← hn] at hk
    show _ / 2 ^ ((n.toUInt32 &&& Int32.toUInt32 31).toBitVec.toNat % 32) = _
    rw [hk]
  have hp : (2 : Nat) ^ n.toInt.toNat ≤ 2 ^ 20 := Nat.pow_le_pow_right (by decide) (by omega)
  have hp0 : 0 < (2 : Nat) ^ n.toInt.toNat := Nat.two_pow_pos _
  have hc : ((2 ^ n.toInt.toNat : Nat) : Int) = 2 ^ n.toInt.toNat := by first | exact Int.natCast_pow 2 _ | simp | norm_cast
  have ha := i32_nat a
  have hz : v.toInt = 0 ↔ v.toBitVec.toNat = 0 := by
    have hb := i32_nat v
    have hl := v.toBitVec.isLt
    omega
  have hA := a.toBitVec.isLt
  rw [hz, hv, Nat.div_eq_zero_iff_lt hp0, ← hc]
  have h20 : (2 : Nat) ^ 20 = 1048576 := by decide
  have hna : a.toInt = (a.toBitVec.toNat : Int) ∨ (2147483648 ≤ a.toBitVec.toNat ∧ a.toInt = (a.toBitVec.toNat : Int) - 4294967296) := by
    have h1 : a.toInt = a.toBitVec.toInt := rfl
    rw [h1, BitVec.toInt_eq_toNat_cond]
    split
    · exact Or.inl rfl
    · exact Or.inr ⟨by omega, rfl⟩
  rw [h20] at hp
  omega

/-! what traits need: bits -/
def tb (a : Int32) (i : Nat) : Bool := a.toBitVec.toNat.testBit i
theorem tb_ext {a b : Int32} (h : ∀ j, tb a j = tb b j) : a = b := by
  apply Int32.toBitVec_inj.mp
  apply BitVec.eq_of_toNat_eq
  exact Nat.eq_of_testBit_eq h
theorem tb_or (a b : Int32) (j : Nat) : tb (a ||| b) j = (tb a j || tb b j) := by
  show (a.toBitVec ||| b.toBitVec).toNat.testBit j = _
  rw [BitVec.toNat_or, Nat.testBit_or]
  rfl
theorem tb_0 (j : Nat) : tb 0 j = false := Nat.zero_testBit j
theorem tb_bti {v : Int} (h0 : 0 ≤ v) (h1 : v ≤ 30) (j : Nat) : tb (bti v) j = true ↔ j = v.toNat := by
  have key : ∀ k : Nat, k ≤ 30 → ((1 : Int32) <<< (Int32.ofInt (k : Int) &&& 31)).toBitVec.toNat = 2 ^ k := by decide +kernel
  have h := key v.toNat (by omega)
  rw [show ((v.toNat : Nat) : Int) = v by omega] at h
  show Nat.testBit (((1 : Int32) <<< (Int32.ofInt v &&& 31)).toBitVec.toNat) j = true ↔ _
  rw [h, Nat.testBit_two_pow, decide_eq_true_iff]
  exact eq_comm
theorem tb_shr {a b x y : Int32} (ex : x = (a.toUInt32 >>> (b.toUInt32 &&& Int32.toUInt32 31)).toInt32) (ey : y = x &&& 1) (h0 : 0 ≤ b.toInt) (h1 : b.toInt ≤ 30) : ¬ y.toInt = 0 ↔ tb a b.toInt.toNat = true := by
  have hn : b = Int32.ofNat b.toInt.toNat := by
    apply Int32.toInt_inj.mp
    rw [show (Int32.ofNat b.toInt.toNat).toInt = (b.toInt.toNat : Int) from nI_toInt (by omega)]
    omega
  have key : ∀ k : Nat, k ≤ 30 → ((Int32.ofNat k).toUInt32 &&& Int32.toUInt32 31).toBitVec.toNat % 32 = k := by decide +kernel
  have hk := key b.toInt.toNat (by omega)
  have hx : x.toBitVec.toNat = a.toBitVec.toNat / 2 ^ b.toInt.toNat := by
    have e1 : x.toBitVec = a.toBitVec >>> ((b.toUInt32 &&& Int32.toUInt32 31).toBitVec % 32#32) := by rw [ex]; rfl
    rw [e1, BitVec.ushiftRight_eq', BitVec.toNat_ushiftRight, Nat.shiftRight_eq_div_pow, BitVec.toNat_umod]
    rw [← hn] at hk
    show _ / 2 ^ ((b.toUInt32 &&& Int32.toUInt32 31).toBitVec.toNat % 32) = _
    rw [hk]
  have hy : y.toBitVec.toNat = a.toBitVec.toNat / 2 ^ b.toInt.toNat % 2 := by
    have e1 : y.toBitVec = x.toBitVec &&& 1#32 := by rw [ey]; rfl
    rw [e1, BitVec.toNat_and, show (1#32 : BitVec 32).toNat = 2 ^ 1 - 1 by decide, Nat.and_two_pow_sub_one_eq_mod, hx]
  have hz := i32_nat y
  have hl := y.toBitVec.isLt
  unfold tb
  rw [Nat.testBit_eq_decide_div_mod_eq, decide_eq_true_iff, ← hy]
  omega
theorem tb_sar {a b x y : Int32} (ex : x = a >>> (b &&& 31)) (ey : y = x &&& 1) (h0 : 0 ≤ b.toInt) (h1 : b.toInt ≤ 30) : ¬ y.toInt = 0 ↔ tb a b.toInt.toNat = true := by
  have hn : b = Int32.ofNat b.toInt.toNat := by
    apply Int32.toInt_inj.mp
    rw [show (Int32.ofNat b.toInt.toNat).toInt = (b.toInt.toNat : Int) from nI_toInt (by omega)]
    omega
  have key : ∀ k : Nat, k ≤ 30 → ((Int32.ofNat k &&& 31).toBitVec.smod 32#32).toNat = k := by decide +kernel
  have hk := key b.toInt.toNat (by omega)
  rw [← hn] at hk
  have hx : x.toInt = a.toInt / 2 ^ b.toInt.toNat := by
    have e1 : x.toBitVec = a.toBitVec.sshiftRight ((b &&& 31).toBitVec.smod 32#32).toNat := by rw [ex]; rfl
    show x.toBitVec.toInt = a.toBitVec.toInt / 2 ^ b.toInt.toNat
    rw [e1, BitVec.toInt_sshiftRight, Int.shiftRight_eq_div_pow, hk]
    rfl
  have hy : y.toBitVec.toNat = x.toBitVec.toNat % 2 := by
    have e1 : y.toBitVec = x.toBitVec &&& 1#32 := by rw [ey]; rfl
    rw [e1, BitVec.toNat_and, show (1#32 : BitVec 32).toNat = 2 ^ 1 - 1 by decide, Nat.and_two_pow_sub_one_eq_mod]
  have hz := i32_nat y
  have hl := y.toBitVec.isLt
  have hxz := i32_nat x
  have hax := i32_nat a
  unfold tb
  rw [Nat.testBit_eq_decide_div_mod_eq, decide_eq_true_iff]
  have h31 : 2 ^ b.toInt.toNat * 2 ^ (32 - b.toInt.toNat) = (4294967296 : Nat) := by
    rw [← Nat.pow_add, show b.toInt.toNat + (32 - b.toInt.toNat) = 32 by omega]
  have h2 : (2 : Nat) ^ (32 - b.toInt.toNat) = 2 * 2 ^ (31 - b.toInt.toNat) := by
    rw [show 32 - b.toInt.toNat = (31 - b.toInt.toNat) + 1 by omega, Nat.pow_succ, Nat.mul_comm]
  have hp : (0 : Int) < 2 ^ b.toInt.toNat := Int.pow_pos (by decide)
  have hc : ((2 ^ b.toInt.toNat : Nat) : Int) = 2 ^ b.toInt.toNat := by first | exact Int.natCast_pow 2 _ | simp | norm_cast
  have hd : ((a.toBitVec.toNat / 2 ^ b.toInt.toNat : Nat) : Int) = (a.toBitVec.toNat : Int) / 2 ^ b.toInt.toNat := by
    rw [← hc]; exact Int.natCast_ediv _ _
  have hq : (a.toInt / 2 ^ b.toInt.toNat) % 2 = ((a.toBitVec.toNat / 2 ^ b.toInt.toNat : Nat) : Int) % 2 := by
    rcases hax with ⟨w0, w⟩ | ⟨w0, w⟩
    · rw [w, hd]
    · rw [w, hd]
      have e4 : ((a.toBitVec.toNat : Int) - 4294967296) = (a.toBitVec.toNat : Int) + 2 ^ b.toInt.toNat * (-(2 * ((2 ^ (31 - b.toInt.toNat) : Nat) : Int))) := by
        have e5 : (4294967296 : Int) = 2 ^ b.toInt.toNat * (2 * ((2 ^ (31 - b.toInt.toNat) : Nat) : Int)) := by
          have e6 := congrArg (fun n : Nat => (n : Int)) h31
          rw [h2] at e6
          simp only [Int.natCast_mul] at e6
          rw [hc] at e6
          exact e6.symm
        rw [Int.mul_neg, ← e5]
        rfl
      rw [e4, Int.add_mul_ediv_left _ _ (Int.ne_of_gt hp)]
      omega
  rw [hx] at hxz
  omega
/-- the needs of the traits whose bits are set -/
def nds (nd : Nat → Int32) (a : Int32) : Nat → Int32
  | 0 => 0
  | i + 1 => if tb a i = true then nds nd a i ||| nd i else nds nd a i
theorem nds_tb {nd : Nat → Int32} {a : Int32} {j : Nat} : ∀ {n : Nat}, tb (nds nd a n) j = true ↔ ∃ i, i < n ∧ tb a i = true ∧ tb (nd i) j = true := by
  intro n
  induction n with
  | zero =>
    show tb 0 j = true ↔ _
    rw [tb_0]
    exact ⟨fun h => absurd h (by decide), fun ⟨i, h, _⟩ => absurd h (Nat.not_lt_zero i)⟩
  | succ n ih =>
    show tb (if tb a n = true then nds nd a n ||| nd n else nds nd a n) j = true ↔ _
    by_cases q : tb a n = true
    · rw [if_pos q, tb_or, Bool.or_eq_true, ih]
      constructor
      · rintro (⟨i, h1, h2⟩ | h)
        · exact ⟨i, by omega, h2⟩
        · exact ⟨n, by omega, q, h⟩
      · rintro ⟨i, h1, h2, h3⟩
        by_cases w : i = n
        · subst w; exact Or.inr h3
        · exact Or.inl ⟨i, by omega, h2, h3⟩
    · rw [if_neg q, ih]
      constructor
      · rintro ⟨i, h1, h2⟩; exact ⟨i, by omega, h2⟩
      · rintro ⟨i, h1, h2, h3⟩
        by_cases w : i = n
        · subst w; exact absurd h2 q
        · exact ⟨i, by omega, h2, h3⟩
/-- the reference's way down -/
def dsc (R : Nat → Int32) : Int32 → Nat → Int32
  | a, 0 => a
  | a, i + 1 => dsc R (if tb a i = true then a ||| R i else a) i
def ndI (R nd : Nat → Int32) (n : Nat) : Prop := ∀ i, i < n → (∀ j, tb (R i) j = true → j < i) ∧ nd i = nds nd (R i) i ||| bti (i : Int)
theorem ndI_tb {R nd : Nat → Int32} {n i j : Nat} (h : ndI R nd n) (hn : n ≤ 20) (hi : i < n) : tb (nd i) j = true ↔ (∃ k, k < i ∧ tb (R i) k = true ∧ tb (nd k) j = true) ∨ j = i := by
  rw [(h i hi).2, tb_or, Bool.or_eq_true, nds_tb, tb_bti (by omega) (by omega)]
  rw [show ((i : Int)).toNat = i by omega]
theorem dsc_tb {R nd : Nat → Int32} {n j : Nat} (h : ndI R nd n) (hn : n ≤ 20) : ∀ {i : Nat} {a : Int32}, i ≤ n → (tb (dsc R a i) j = true ↔ tb a j = true ∨ ∃ k, k < i ∧ tb a k = true ∧ tb (nd k) j = true) := by
  intro i
  induction i with
  | zero =>
    intro a _
    show tb a j = true ↔ _
    exact ⟨fun w => Or.inl w, fun w => w.elim id (fun ⟨k, q, _⟩ => absurd q (Nat.not_lt_zero k))⟩
  | succ i ih =>
    intro a hi
    show tb (dsc R (if tb a i = true then a ||| R i else a) i) j = true ↔ _
    rw [ih (by omega)]
    by_cases q : tb a i = true
    · rw [if_pos q]
      simp only [tb_or, Bool.or_eq_true]
      have hb := ndI_tb (j := j) h hn (show i < n by omega)
      constructor
      · rintro ((w | w) | ⟨k, h1, (h2 | h2), h3⟩)
        · exact Or.inl w
        · refine Or.inr ⟨i, by omega, q, hb.mpr (Or.inl ⟨j, (h i (by omega)).1 j w, w, ?_⟩)⟩
          exact (ndI_tb h hn (by have := (h i (by omega)).1 j w; omega)).mpr (Or.inr rfl)
        · exact Or.inr ⟨k, by omega, h2, h3⟩
        · exact Or.inr ⟨i, by omega, q, hb.mpr (Or.inl ⟨k, h1, h2, h3⟩)⟩
      · rintro (w | ⟨k, h1, h2, h3⟩)
        · exact Or.inl (Or.inl w)
        · by_cases e : k = i
          · subst e
            rcases hb.mp h3 with ⟨k2, g1, g2, g3⟩ | g
            · exact Or.inr ⟨k2, g1, Or.inr g2, g3⟩
            · subst g; exact Or.inl (Or.inl q)
          · exact Or.inr ⟨k, by omega, Or.inl h2, h3⟩
    · rw [if_neg q]
      constructor
      · rintro (w | ⟨k, h1, h2⟩)
        · exact Or.inl w
        · exact Or.inr ⟨k, by omega, h2⟩
      · rintro (w | ⟨k, h1, h2, h3⟩)
        · exact Or.inl w
        · by_cases e : k = i
          · subst e; exact absurd h2 q
          · exact Or.inr ⟨k, by omega, h2, h3⟩
theorem dsc_nds {R nd : Nat → Int32} {n : Nat} {a : Int32} (h : ndI R nd n) (hn : n ≤ 20) (ha : ∀ j, tb a j = true → j < n) : dsc R a n = nds nd a n := by
  apply tb_ext
  intro j
  rw [Bool.eq_iff_iff, dsc_tb h hn (Nat.le_refl n), nds_tb]
  constructor
  · rintro (w | w)
    · exact ⟨j, ha j w, w, (ndI_tb h hn (ha j w)).mpr (Or.inr rfl)⟩
    · exact w
  · exact fun w => Or.inr w
theorem nds_cong {nd nd' : Nat → Int32} {a : Int32} : ∀ {n : Nat}, (∀ i, i < n → nd' i = nd i) → nds nd' a n = nds nd a n := by
  intro n
  induction n with
  | zero => intro _; rfl
  | succ n ih =>
    intro h
    show (if tb a n = true then nds nd' a n ||| nd' n else nds nd' a n) = (if tb a n = true then nds nd a n ||| nd n else nds nd a n)
    rw [ih (fun i hi => h i (by omega)), h n (by omega)]
theorem nds_more {nd : Nat → Int32} {a : Int32} {n : Nat} (ha : ∀ j, tb a j = true → j < n) : nds nd a (n + 1) = nds nd a n := by
  show (if tb a n = true then nds nd a n ||| nd n else nds nd a n) = _
  rw [if_neg (fun q => absurd (ha n q) (Nat.lt_irrefl n))]
theorem ndI_more {R R' nd nd' : Nat → Int32} {n : Nat} (h : ndI R nd n) (hR : ∀ i, i < n → R' i = R i) (hd : ∀ i, i < n → nd' i = nd i) (hl : ∀ j, tb (R' n) j = true → j < n) (hn : nd' n = nds nd (R' n) n ||| bti (n : Int)) : ndI R' nd' (n + 1) := by
  intro i hi
  by_cases q : i = n
  · subst q
    refine ⟨hl, ?_⟩
    rw [hn, nds_cong hd]
  · have hi2 : i < n := by omega
    rw [hR i hi2, hd i hi2, nds_cong (fun k hk => hd k (by omega))]
    exact h i hi2
/-- what a text reads lies below the number of traits -/
def okr (n : Int) (x : RS) : Prop := ∀ p e lk rd, x = .inr (p, e, lk, rd) → ∀ j, tb rd j = true → (j : Int) < n
def lowb (n : Int) (rd : Int32) : Prop := ∀ j, tb rd j = true → (j : Int) < n
theorem okr_l {n : Int} {f : Int} : okr n (.inl f) := fun _ _ _ _ h => by cases h
theorem okr_r {n : Int} {p e lk : Int} {rd : Int32} (h : lowb n rd) : okr n (.inr (p, e, lk, rd)) := fun _ _ _ _ q => by cases q; exact h
theorem okr_bnd {n : Int} {x : RS} {k : Int → Int → Int → Int32 → RS} (hx : okr n x) (hk : ∀ p e lk rd, lowb n rd → okr n (k p e lk rd)) : okr n (bnd x k) := by
  cases x with
  | inl f => exact okr_l
  | inr y =>
    obtain ⟨p, e, lk, rd⟩ := y
    exact hk p e lk rd (hx p e lk rd rfl)
theorem okr_num {n : Int} {g : Int → Int} {z mx p e : Int} {k : Int → Int → Int → RS} (hk : ∀ v p e, 0 ≤ v → v ≤ mx → okr n (k v p e)) : okr n (pnum g z mx p e k) := by
  unfold pnum
  split
  · next h => exact hk _ _ _ h.2.1 h.2.2
  · exact okr_l
theorem okr_tak {n : Int} {g : Int → Int} {z p e : Int} {cs : List Int} {k : Int → Int → RS} (hk : ∀ p e, okr n (k p e)) : okr n (ptak g z cs p e k) := by
  unfold ptak
  split
  · exact hk _ _
  · exact okr_l
theorem okr_win {n : Int} {g : Int → Int} {z p e lk : Int} {rd : Int32} (h : lowb n rd) : okr n (pwin g z p e lk rd) := by
  unfold pwin
  refine okr_num (fun _ p e _ _ => okr_tak (fun p e => okr_num (fun x p e _ _ => okr_tak (fun p e => okr_num (fun _ p e _ _ => ?_)))))
  split
  · exact okr_r h
  · exact okr_r h
theorem lowb_or {n : Int} {rd : Int32} {v : Int} (h : lowb n rd) (h0 : 0 ≤ v) (h1 : v ≤ n - 1) (hn : n ≤ 20) : lowb n (rd ||| bti v) := by
  intro j hj
  rw [tb_or, Bool.or_eq_true] at hj
  rcases hj with w | w
  · exact h j w
  · have := (tb_bti h0 (by omega) j).mp w
    omega
theorem okr_atom {n : Int} {g : Int → Int} {z p e lk : Int} {rd : Int32} {br : Int → Int → Int → Int32 → RS} (hn : n ≤ 20) (hb : ∀ p e lk rd, lowb n rd → okr n (br p e lk rd)) (h : lowb n rd) : okr n (patom g z n br p e lk rd) := by
  unfold patom
  split
  · exact okr_num (fun _ _ _ _ _ => okr_r h)
  · split
    · exact hb _ _ _ _ h
    · split
      · exact okr_l
      · split
        · exact okr_num (fun v _ _ h0 h1 => okr_r (lowb_or h h0 h1 hn))
        · split
          · exact okr_num (fun _ _ _ _ _ => okr_r h)
          · exact okr_win h
theorem okr_part {n : Int} {g : Int → Int} {z p e lk : Int} {rd : Int32} {br : Int → Int → Int → Int32 → RS} (hn : n ≤ 20) (hb : ∀ p e lk rd, lowb n rd → okr n (br p e lk rd)) (h : lowb n rd) : okr n (ppart g z n br p e lk rd) := by
  unfold ppart
  refine okr_bnd (okr_atom hn hb h) (fun p e lk rd h => ?_)
  split
  · exact okr_num (fun _ _ _ _ _ => okr_r h)
  · exact okr_r h
theorem okr_loop {n : Int} {g : Int → Int} {z c1 c2 : Int} {sub : Int → Int → Int → Int32 → RS} (hs : ∀ p e lk rd, lowb n rd → okr n (sub p e lk rd)) : ∀ (f : Nat) (p e lk : Int) (rd : Int32), lowb n rd → okr n (ploop g z c1 c2 sub f p e lk rd) := by
  intro f
  induction f with
  | zero => intro p e lk rd h; exact okr_r h
  | succ f ih =>
    intro p e lk rd h
    show okr n (if tw g [c1] p e = true ∨ tw g [c2] p e = true then bnd (sub (sk g e) (tke g z (sk g e)) lk rd) (ploop g z c1 c2 sub f) else .inr (p, e, lk, rd))
    split
    · exact okr_bnd (hs _ _ _ _ h) ih
    · exact okr_r h
theorem okr_term {n : Int} {g : Int → Int} {z p e lk : Int} {rd : Int32} {br : Int → Int → Int → Int32 → RS} (hn : n ≤ 20) (hb : ∀ p e lk rd, lowb n rd → okr n (br p e lk rd)) (h : lowb n rd) : okr n (pterm g z n br p e lk rd) := by
  unfold pterm
  exact okr_bnd (okr_part hn hb h) (okr_loop (fun _ _ _ _ h => okr_part hn hb h) 200)
theorem okr_sum {n : Int} {g : Int → Int} {z p e lk : Int} {rd : Int32} {br : Int → Int → Int → Int32 → RS} (hn : n ≤ 20) (hb : ∀ p e lk rd, lowb n rd → okr n (br p e lk rd)) (h : lowb n rd) : okr n (psum g z n br p e lk rd) := by
  unfold psum
  exact okr_bnd (okr_term hn hb h) (okr_loop (fun _ _ _ _ h => okr_term hn hb h) 200)
theorem okr_B {n : Int} {g : Int → Int} {z : Int} (hn : n ≤ 20) : ∀ (l : Nat) (p e lk : Int) (rd : Int32), lowb n rd → okr n (pB g z n l p e lk rd) := by
  intro l
  induction l with
  | zero => intro p e lk rd _; exact okr_l
  | succ l ih =>
    intro p e lk rd h
    rw [pB_s]
    exact okr_bnd (okr_sum hn ih h) (fun p e lk rd h => okr_tak (fun _ _ => okr_r h))
theorem okr_read {n : Int} {g : Int → Int} {z : Int} (hn : n ≤ 20) : okr n (pread g z n) := by
  unfold pread
  refine okr_bnd (okr_sum hn (okr_B hn 8) (fun j hj => by rw [tb_0] at hj; cases hj)) (fun p e lk rd h => ?_)
  split
  · exact okr_l
  · exact okr_r h
theorem bti_eq {x : Int32} : bti x.toInt = 1 <<< (x &&& 31) := by
  unfold bti
  rw [Int32.ofInt_toInt]
theorem nds_s0 {nd : Nat → Int32} {a n i i2 : Int32} (h : n = nds nd a i.toInt.toNat) (h0 : 0 ≤ i.toInt) (ht : ¬ tb a i.toInt.toNat = true) (hi : i2.toInt = i.toInt + 1) : n = nds nd a i2.toInt.toNat := by
  rw [show i2.toInt.toNat = i.toInt.toNat + 1 by omega]
  show n = (if tb a i.toInt.toNat = true then nds nd a i.toInt.toNat ||| nd i.toInt.toNat else nds nd a i.toInt.toNat)
  rw [if_neg ht]; exact h
theorem nds_s1 {nd : Nat → Int32} {a n i i2 x y : Int32} (h : n = nds nd a i.toInt.toNat) (h0 : 0 ≤ i.toInt) (ht : tb a i.toInt.toNat = true) (ex : x = n ||| y) (ey : y = nd i.toNatClampNeg) (hi : i2.toInt = i.toInt + 1) : x = nds nd a i2.toInt.toNat := by
  rw [show i2.toInt.toNat = i.toInt.toNat + 1 by omega]
  show x = (if tb a i.toInt.toNat = true then nds nd a i.toInt.toNat ||| nd i.toInt.toNat else nds nd a i.toInt.toNat)
  rw [if_pos ht, ex, ey, ← h]; rfl
/-- how many of the first models hold the bit -/
def hgc (f : Nat → Int32) (t : Nat) : Nat → Nat
  | 0 => 0
  | k + 1 => hgc f t k + (if tb (f k) t = true then 1 else 0)
theorem hgc_cong {f g : Nat → Int32} {t : Nat} : ∀ {n : Nat}, (∀ k, k < n → f k = g k) → hgc f t n = hgc g t n := by
  intro n
  induction n with
  | zero => intro _; rfl
  | succ n ih =>
    intro h
    show hgc f t n + (if tb (f n) t = true then 1 else 0) = hgc g t n + (if tb (g n) t = true then 1 else 0)
    rw [ih (fun k hk => h k (by omega)), h n (by omega)]
theorem hgc_0 {f : Nat → Int32} {t : Nat} {n n2 i i2 x : Int32} (h : n.toInt = (hgc f t i.toInt.toNat : Int)) (h0 : 0 ≤ i.toInt) (ex : x = f i.toInt.toNat) (ht : ¬ tb x t = true) (hn : n2.toInt = n.toInt) (hi : i2.toInt = i.toInt + 1) : n2.toInt = (hgc f t i2.toInt.toNat : Int) := by
  rw [show i2.toInt.toNat = i.toInt.toNat + 1 by omega]
  show n2.toInt = ((hgc f t i.toInt.toNat + (if tb (f i.toInt.toNat) t = true then 1 else 0) : Nat) : Int)
  rw [← ex, if_neg ht, hn, h]; rfl
theorem hgc_1 {f : Nat → Int32} {t : Nat} {n n2 i i2 x : Int32} (h : n.toInt = (hgc f t i.toInt.toNat : Int)) (h0 : 0 ≤ i.toInt) (ex : x = f i.toInt.toNat) (ht : tb x t = true) (hn : n2.toInt = n.toInt + 1) (hi : i2.toInt = i.toInt + 1) : n2.toInt = (hgc f t i2.toInt.toNat : Int) := by
  rw [show i2.toInt.toNat = i.toInt.toNat + 1 by omega]
  show n2.toInt = ((hgc f t i.toInt.toNat + (if tb (f i.toInt.toNat) t = true then 1 else 0) : Nat) : Int)
  rw [← ex, if_pos ht, hn, h]; rfl
/-- the reads of each trait of the reference -/
def rdR (f fA f0 : Nat → Int32) : Nat → Int32 := fun i => orb f fA (250 * i) (f0 i).toInt.toNat
theorem dsc_z {R : Nat → Int32} {a T i : Int32} (h : dsc R a (i.toInt + 1).toNat = T) (hi : i.toInt < 0) : a = T := by
  rw [show (i.toInt + 1).toNat = 0 by omega] at h
  exact h
theorem dsc_n {R : Nat → Int32} {a T i i2 : Int32} (h : dsc R a (i.toInt + 1).toNat = T) (h0 : 0 ≤ i.toInt) (ht : ¬ tb a i.toInt.toNat = true) (hi : i2.toInt = i.toInt - 1) : dsc R a (i2.toInt + 1).toNat = T := by
  rw [show (i.toInt + 1).toNat = i.toInt.toNat + 1 by omega] at h
  rw [show (i2.toInt + 1).toNat = i.toInt.toNat by omega, ← h]
  show _ = dsc R (if tb a i.toInt.toNat = true then a ||| R i.toInt.toNat else a) i.toInt.toNat
  rw [if_neg ht]
theorem dsc_y {R : Nat → Int32} {a b T i i2 : Int32} (h : dsc R a (i.toInt + 1).toNat = T) (h0 : 0 ≤ i.toInt) (ht : tb a i.toInt.toNat = true) (hb : b = a ||| R i.toInt.toNat) (hi : i2.toInt = i.toInt - 1) : dsc R b (i2.toInt + 1).toNat = T := by
  rw [show (i.toInt + 1).toNat = i.toInt.toNat + 1 by omega] at h
  rw [show (i2.toInt + 1).toNat = i.toInt.toNat by omega, ← h, hb]
  show _ = dsc R (if tb a i.toInt.toNat = true then a ||| R i.toInt.toNat else a) i.toInt.toNat
  rw [if_pos ht]
theorem or_0 (a : Int32) : a = a ||| 0 := by
  apply tb_ext
  intro j
  rw [tb_or, tb_0, Bool.or_false]
theorem or_as (a b c : Int32) : a ||| b ||| c = a ||| (b ||| c) := by
  apply tb_ext
  intro j
  simp only [tb_or, Bool.or_assoc]
theorem orb_n {f fA : Nat → Int32} {a b c i j j2 ix : Int32} (h : b = a ||| orb f fA (250 * i.toInt.toNat) j.toInt.toNat) (h0 : 0 ≤ i.toInt) (h1 : 0 ≤ j.toInt) (hx : ix.toInt = 250 * i.toInt + j.toInt) (ec : c = f ix.toNatClampNeg) (hc : ¬ c.toInt = 6) (hj : j2.toInt = j.toInt + 1) : b = a ||| orb f fA (250 * i.toInt.toNat) j2.toInt.toNat := by
  have e1 : ix.toNatClampNeg = 250 * i.toInt.toNat + j.toInt.toNat := by have : ix.toNatClampNeg = ix.toInt.toNat := rfl; omega
  rw [show j2.toInt.toNat = j.toInt.toNat + 1 by omega]
  show b = a ||| (if (f (250 * i.toInt.toNat + j.toInt.toNat)).toInt = 6 then orb f fA (250 * i.toInt.toNat) j.toInt.toNat ||| bti (fA (250 * i.toInt.toNat + j.toInt.toNat)).toInt else orb f fA (250 * i.toInt.toNat) j.toInt.toNat)
  rw [← e1, ← ec, if_neg hc]; exact h
theorem orb_y {f fA : Nat → Int32} {a b c d i j j2 ix iy x y : Int32} (h : b = a ||| orb f fA (250 * i.toInt.toNat) j.toInt.toNat) (h0 : 0 ≤ i.toInt) (h1 : 0 ≤ j.toInt) (hx : ix.toInt = 250 * i.toInt + j.toInt) (ec : c = f ix.toNatClampNeg) (hc : c.toInt = 6) (hy : iy.toInt = 250 * i.toInt + j.toInt) (ey : y = fA iy.toNatClampNeg) (ex : x = 1 <<< (y &&& 31)) (ed : d = b ||| x) (hj : j2.toInt = j.toInt + 1) : d = a ||| orb f fA (250 * i.toInt.toNat) j2.toInt.toNat := by
  have e1 : ix.toNatClampNeg = 250 * i.toInt.toNat + j.toInt.toNat := by have : ix.toNatClampNeg = ix.toInt.toNat := rfl; omega
  have e2 : iy.toNatClampNeg = 250 * i.toInt.toNat + j.toInt.toNat := by have : iy.toNatClampNeg = iy.toInt.toNat := rfl; omega
  rw [show j2.toInt.toNat = j.toInt.toNat + 1 by omega]
  show d = a ||| (if (f (250 * i.toInt.toNat + j.toInt.toNat)).toInt = 6 then orb f fA (250 * i.toInt.toNat) j.toInt.toNat ||| bti (fA (250 * i.toInt.toNat + j.toInt.toNat)).toInt else orb f fA (250 * i.toInt.toNat) j.toInt.toNat)
  rw [← e1, ← ec, if_pos hc, e1, ← e2, ← ey, bti_eq, ← ex, ← or_as, ← h]; exact ed

set_option maxHeartbeats 8000000 in
set_option maxRecDepth 100000 in
theorem k_X9_model (l : Launch) (dC : Nat → ClassId) (dI : Nat → Nat → Nat) (cA : Nat → ClassId) (sz : Nat) (am : Nat → Nat) (v_status : Int32) (v_now : Int32) (v_told : Int32) (v_merges : Int32) (v_taped : Int32) (v_size : Int32) (v_from : Int32) (v_to : Int32) (v_fault : Int32) (v_readFault : Int32) (v_traits : Int32) (v_length : Int32) (v_open : Int32) (v_leaks : Int32) (v_places : Int32) (v_models : Int32) (f_uses : Nat → Int32) (a : Int32) (i_v_now : 0 ≤ v_now.toInt ∧ v_now.toInt ≤ 100000) (i_v_told : 0 ≤ v_told.toInt ∧ v_told.toInt ≤ 400) (i_v_taped : 0 ≤ v_taped.toInt ∧ v_taped.toInt ≤ 200) (i_v_size : 0 ≤ v_size.toInt ∧ v_size.toInt ≤ 200) (i_v_from : 0 ≤ v_from.toInt ∧ v_from.toInt ≤ 200) (i_v_to : 0 ≤ v_to.toInt ∧ v_to.toInt ≤ 200) (i_v_traits : 0 ≤ v_traits.toInt ∧ v_traits.toInt ≤ 20) (i_v_length : 0 ≤ v_length.toInt ∧ v_length.toInt ≤ 200) (i_v_open : 0 ≤ v_open.toInt ∧ v_open.toInt ≤ 8) (i_v_places : 0 ≤ v_places.toInt ∧ v_places.toInt ≤ 2000) (i_v_models : 0 ≤ v_models.toInt ∧ v_models.toInt ≤ 10)  : Met l yX9_model wsX9_model ({ frames := 1, cells := 0, slots := 0, locals := 21 }) (va_Pc [.ref (am 0), .int a] (fun U => U.heap.size = sz ∧ va_P (dC, dI) vwCl [((am 0), .inr (9, F9 am v_status v_now v_told v_merges v_taped v_size v_from v_to v_fault v_readFault v_traits v_length v_open v_leaks v_places v_models)), ((am 33), .inl (cA 0, 10, .inl f_uses))] U.heap ∧ va_K (dC, dI) vwCl (tyL cA) U ∧ va_D (fun _ => True) [((am 0), .inr (9, F9 am v_status v_now v_told v_merges v_taped v_size v_from v_to v_fault v_readFault v_traits v_length v_open v_leaks v_places v_models)), ((am 33), .inl (cA 0, 10, .inl f_uses))] ∧ nw_ok U)) (va_Qi (fun (r : Int32) (u : Int32 × Int32 × (Nat → Int32)) => (0 ≤ u.2.1.toInt ∧ u.2.1.toInt ≤ 10) ∧ ((¬ (0 ≤ a.toInt ∧ a.toInt < 2 ^ v_traits.toInt.toNat) → r.toInt = (-1) ∧ u.2.1.toInt = v_models.toInt ∧ u.2.2 = f_uses) ∧ ((0 ≤ a.toInt ∧ a.toInt < 2 ^ v_traits.toInt.toNat) ∧ 10 ≤ v_models.toInt → r.toInt = (-5) ∧ u.2.1.toInt = v_models.toInt ∧ u.2.2 = f_uses) ∧ ((0 ≤ a.toInt ∧ a.toInt < 2 ^ v_traits.toInt.toNat) ∧ v_models.toInt < 10 → r.toInt = v_models.toInt ∧ u.2.1.toInt = v_models.toInt + 1 ∧ u.2.2 = upd f_uses v_models.toNatClampNeg a))) (fun (u : Int32 × Int32 × (Nat → Int32)) (t : State) => va_P (dC, dI) vwCl [((am 0), .inr (9, F9 am u.1 v_now v_told v_merges v_taped v_size v_from v_to v_fault v_readFault v_traits v_length v_open v_leaks v_places u.2.1)), ((am 33), .inl (cA 0, 10, .inl u.2.2))] t.heap ∧ va_D (va_A [((am 0), .inr (9, F9 am v_status v_now v_told v_merges v_taped v_size v_from v_to v_fault v_readFault v_traits v_length v_open v_leaks v_places v_models)), ((am 33), .inl (cA 0, 10, .inl f_uses))] sz) [((am 0), .inr (9, F9 am u.1 v_now v_told v_merges v_taped v_size v_from v_to v_fault v_readFault v_traits v_length v_open v_leaks v_places u.2.1)), ((am 33), .inl (cA 0, 10, .inl u.2.2))]) (va_A [((am 0), .inr (9, F9 am v_status v_now v_told v_merges v_taped v_size v_from v_to v_fault v_readFault v_traits v_length v_open v_leaks v_places v_models)), ((am 33), .inl (cA 0, 10, .inl f_uses))] sz)) 0 0 (va_A [((am 0), .inr (9, F9 am v_status v_now v_told v_merges v_taped v_size v_from v_to v_fault v_readFault v_traits v_length v_open v_leaks v_places v_models)), ((am 33), .inl (cA 0, 10, .inl f_uses))] sz) := by
  refine Met.ofW (cc := cX9_model) (maxL := 2) (ret := (some .int)) (by decide) rfl ?_
  intro p e s m args below meth c s₁ B hml hv
  obtain ⟨rfl, hsz, hP, hK, hD0, hN⟩ := hv
  have hx := B.exec
  have hb := B.bytes
  have hr := B.returns
  have hts := atoms_spec (ws := wsX9_model) B.pre
  have hown : s.vm.findClass RX9 = some m.cls := findClass_of_methodNamed B.named
  have hlocks := B.notSynchronized
  subst hsz
  have hD := hD0.self (sz := s.heap.size)
  generalize hAe : va_A [((am 0), .inr (9, F9 am v_status v_now v_told v_merges v_taped v_size v_from v_to v_fault v_readFault v_traits v_length v_open v_leaks v_places v_models)), ((am 33), .inl (cA 0, 10, .inl f_uses))] s.heap.size = A at hD ⊢
  have hA : ∀ q : Nat, s.heap.size ≤ q → A q := fun q h => by rw [← hAe]; exact Or.inr h
  have hS : va_S A s.heap s.heap [] := va_S.rf
  have hIX9 : ∀ w ∈ u_ws RX9 TX9 51, w ∈ wsX9_model := by decide +kernel
  have hl := lv_entry ([.ref (am 0), .int a]) (n := 2) (Nat.le_of_ble_eq_true rfl)
  rw [lg_entry_eq]
  generalize (lg_sl ([.ref (am 0), .int a]) ++ List.replicate (2 - (lg_sl ([.ref (am 0), .int a])).length) Slot.unset).toArray = ls at hl ⊢
  have hl : lv_has ls 2 [(0, .ref (am 0)), (1, .int a)] := hl
  generalize hQe : MQ below _ _ _ _ _ _ = QQ
  refine lv_iload_n hx hb dX9_model_0 rfl (lv_at hl 1 rfl) ?_
  refine lv_if_lt (tgt := 14) hx hb dX9_model_1 (by decide) (fun c_1 => ?_) (fun c_1 => ?_)
  · have dc_1 : a.toInt < 0 := jI_lt c_1 rfl (by decide)
    refine lv_aload_n hx hb dX9_model_14 rfl (lv_at hl 0 rfl) ?_
    refine lv_iconst (v := (-1)) hx hb dX9_model_15 (by decide) ?_
    have hk_2 : ((-1) : Int32).toInt = (-1) := by decide
    obtain ⟨hPc, hDc, hFc, hCc⟩ := va_pre (ws' := [((am 0), .inr (9, F9 am v_status v_now v_told v_merges v_taped v_size v_from v_to v_fault v_readFault v_traits v_length v_open v_leaks v_places v_models))]) hP hD hS hA [0] (by decide) rfl
    refine va_calli (va_runV (As := [.int (-1)]) (rest := []) ⟨hx, hb, hml, hown, hts⟩ (k_X9_ends l dC dI cA s.heap.size am v_status v_now v_told v_merges v_taped v_size v_from v_to v_fault v_readFault v_traits v_length v_open v_leaks v_places v_models (-1) i_v_now i_v_told i_v_taped i_v_size i_v_from i_v_to i_v_traits i_v_length i_v_open i_v_places i_v_models) (cwV 1 hts gX9_model_X9_ends rfl rfl rfl (by decide +kernel) ⟨Nat.le_of_ble_eq_true rfl, Nat.le_of_ble_eq_true rfl⟩) ⟨fun a U g mk q => by obtain ⟨q0, q1, qP, qK, qD, qN⟩ := q; exact ⟨q0, q1, qP, va_K.moved (u := U) (U := U.calling g mk a) (Vm.Alike.refl U.vm) qK, qD, qN.same rfl⟩, va_recv hK hPc (ci := 9) (q0 := 0) rfl rfl, fun U hU hW => ⟨rfl, by rw [hU], by rw [hU]; exact hPc, va_K.moved hW.alike hK, hDc.weaken (fun _ _ _ _ => trivial), hN.warm hW⟩⟩ rfl rfl hl.1 rfl (lv_room (Nat.le_of_ble_eq_true rfl)) dX9_model_16 ⟨Nat.le_of_ble_eq_true rfl, Nat.le_of_ble_eq_true rfl⟩) hS (fun q _ h => hFc q h) hFc (fun r_3 u_4 t H1 locs ht hvm hw_5 hB hz1 hk1 hS => ?_)
    obtain ⟨w_6, rfl⟩ : ∃ z, z = u_4 := ⟨_, rfl⟩
    try dsimp only at hw_5 hB
    have hr9 := hw_5
    clear hw_5
    obtain ⟨hP1, hD1⟩ := hB
    rw [ht] at hP1
    obtain ⟨hP, hD⟩ := va_join (wr := [((am 33), .inl (cA 0, 10, .inl f_uses))]) (w1 := [((am 0), .inr (9, F9 am w_6 v_now v_told v_merges v_taped v_size v_from v_to v_fault v_readFault v_traits v_length v_open v_leaks v_places v_models))]) hP hD [0] [1] hCc rfl (by decide) (by decide) hk1 hFc hP1 hD1
    clear hz1
    generalize H1 = H at hP hS ⊢
    obtain rfl : (-1) = r_3 := hr9.symm
    obtain ⟨hP9, hD9⟩ := va_pd (ws' := [((am 0), .inr (9, F9 am w_6 v_now v_told v_merges v_taped v_size v_from v_to v_fault v_readFault v_traits v_length v_open v_leaks v_places v_models)), ((am 33), .inl (cA 0, 10, .inl f_uses))]) hP hD [1, 0] (by decide) rfl
    subst hQe
    have hans : ((-1) : Int32).toInt = (-1) := (by decide)
    have hpost : (0 ≤ v_models.toInt ∧ v_models.toInt ≤ 10) ∧ ((¬ (0 ≤ a.toInt ∧ a.toInt < 2 ^ v_traits.toInt.toNat) → ((-1) : Int32).toInt = (-1) ∧ v_models.toInt = v_models.toInt ∧ f_uses = f_uses) ∧ ((0 ≤ a.toInt ∧ a.toInt < 2 ^ v_traits.toInt.toNat) ∧ 10 ≤ v_models.toInt → ((-1) : Int32).toInt = (-5) ∧ v_models.toInt = v_models.toInt ∧ f_uses = f_uses) ∧ ((0 ≤ a.toInt ∧ a.toInt < 2 ^ v_traits.toInt.toNat) ∧ v_models.toInt < 10 → ((-1) : Int32).toInt = v_models.toInt ∧ v_models.toInt = v_models.toInt + 1 ∧ f_uses = upd f_uses v_models.toNatClampNeg a)) := ⟨i_v_models, ⟨fun _ => ⟨by omega, by omega, rfl⟩, fun h => by exfalso; omega, fun h => by exfalso; omega⟩⟩
    exact W.iret (v := (-1)) hx hb hr (fun t ht hW => ⟨⟨(-1), (w_6, v_models, f_uses), rfl, hpost, by rw [ht]; exact hP9, hD9⟩, hS.F ht⟩) hS.2.2 dX9_model_19
  · have dc_1 : 0 ≤ a.toInt := jI_nlt c_1 rfl (by decide)
    refine lv_iload_n hx hb dX9_model_4 rfl (lv_at hl 1 rfl) ?_
    refine lv_iconst (v := 1) hx hb dX9_model_5 (by decide) ?_
    refine lv_aload_n hx hb dX9_model_6 rfl (lv_at hl 0 rfl) ?_
    refine va_get (D := (dC, dI)) (ci := 9) (v := .int v_traits) (C := RX9) (T := TX9) (N := 51) hx hb hts hIX9 hown hK hP 0 rfl rfl 21 (by decide) (hts (.fieldLink RX9 197 "TraitHouseModel" "traits" "I") (by decide +kernel)) (fun _ h9 => h9) rfl dX9_model_7 ?_
    refine lv_ishl hx hb dX9_model_10 ?_
    refine lv_topi (fun x_7 ex_7 => ?_)
    have dx_7 : x_7.toInt = 2 ^ v_traits.toInt.toNat := shl_one ex_7 (by omega) (by omega)
    refine lv_icmp_lt (tgt := 20) hx hb dX9_model_11 (by decide) (fun c_8 => ?_) (fun c_8 => ?_)
    · have dc_8 : a.toInt < x_7.toInt := jI_lt c_8 rfl rfl
      refine lv_aload_n hx hb dX9_model_20 rfl (lv_at hl 0 rfl) ?_
      refine va_get (D := (dC, dI)) (ci := 9) (v := .int v_models) (C := RX9) (T := TX9) (N := 51) hx hb hts hIX9 hown hK hP 0 rfl rfl 47 (by decide) (hts (.fieldLink RX9 323 "TraitHouseModel" "models" "I") (by decide +kernel)) (fun _ h9 => h9) rfl dX9_model_21 ?_
      refine lv_bipush (v := 10) hx hb dX9_model_24 (by decide) ?_
      refine lv_icmp_ne (tgt := 36) hx hb dX9_model_26 (by decide) (fun c_9 => ?_) (fun c_9 => ?_)
      · have dc_9 : ¬ v_models.toInt = 10 := jI_ne c_9 rfl (by decide)
        refine lv_aload_n hx hb dX9_model_36 rfl (lv_at hl 0 rfl) ?_
        refine va_get (D := (dC, dI)) (ci := 9) (v := .ref (am 33)) (C := RX9) (T := TX9) (N := 51) hx hb hts hIX9 hown hK hP 0 rfl rfl 48 (by decide) (hts (.fieldLink RX9 113 "TraitHouseModel" "uses" "[I") (by decide +kernel)) (fun _ h9 => h9) rfl dX9_model_37 ?_
        refine lv_aload_n hx hb dX9_model_40 rfl (lv_at hl 0 rfl) ?_
        refine va_get (D := (dC, dI)) (ci := 9) (v := .int v_models) (C := RX9) (T := TX9) (N := 51) hx hb hts hIX9 hown hK hP 0 rfl rfl 47 (by decide) (hts (.fieldLink RX9 323 "TraitHouseModel" "models" "I") (by decide +kernel)) (fun _ h9 => h9) rfl dX9_model_41 ?_
        refine lv_iload_n hx hb dX9_model_44 rfl (lv_at hl 1 rfl) ?_
        have h_10 : vp_in v_models 10 := (vp_in_iff.mpr ⟨by omega, by omega⟩)
        refine va_iast hx hb hK hP hD hS 1 0 rfl rfl h_10 dX9_model_45 (fun H locs hP hD hS => ?_)
        replace hP : va_P (dC, dI) vwCl [((am 0), .inr (9, F9 am v_status v_now v_told v_merges v_taped v_size v_from v_to v_fault v_readFault v_traits v_length v_open v_leaks v_places v_models)), ((am 33), .inl (cA 0, 10, .inl (upd f_uses v_models.toNatClampNeg a)))] H := hP
        replace hD : va_D A [((am 0), .inr (9, F9 am v_status v_now v_told v_merges v_taped v_size v_from v_to v_fault v_readFault v_traits v_length v_open v_leaks v_places v_models)), ((am 33), .inl (cA 0, 10, .inl (upd f_uses v_models.toNatClampNeg a)))] := hD
        obtain ⟨g_11, eg_11⟩ : ∃ g : Nat → Int32, g = upd f_uses v_models.toNatClampNeg a := ⟨_, rfl⟩
        rw [← eg_11] at hP hD
        refine lv_aload_n hx hb dX9_model_46 rfl (lv_at hl 0 rfl) ?_
        refine lv_dup hx hb dX9_model_47 rfl ?_
        refine va_get (D := (dC, dI)) (ci := 9) (v := .int v_models) (C := RX9) (T := TX9) (N := 51) hx hb hts hIX9 hown hK hP 0 rfl rfl 47 (by decide) (hts (.fieldLink RX9 323 "TraitHouseModel" "models" "I") (by decide +kernel)) (fun _ h9 => h9) rfl dX9_model_48 ?_
        refine lv_iconst (v := 1) hx hb dX9_model_51 (by decide) ?_
        refine lv_iadd hx hb dX9_model_52 ?_
        refine lv_topi (fun x_12 ex_12 => ?_)
        have dx_12 : x_12.toInt = v_models.toInt + 1 := by rw [ex_12]; exact jI_add rfl (by decide) (by omega) (by omega)
        refine va_put (D := (dC, dI)) (ci := 9) (v := .int x_12) (ty := .int) (C := RX9) (T := TX9) (N := 51) hx hb hts hIX9 tyX9 tyX9_ok nmX9 hown hK hP hD hS 0 rfl rfl 47 (by decide) (hts (.fieldLink RX9 323 "TraitHouseModel" "models" "I") (by decide +kernel)) (fun _ h9 => h9) rfl (by decide +kernel) rfl rfl (Nat.le_of_ble_eq_true rfl) dX9_model_53 (fun H locs hP hD hS => ?_)
        replace hP : va_P (dC, dI) vwCl [((am 0), .inr (9, F9 am v_status v_now v_told v_merges v_taped v_size v_from v_to v_fault v_readFault v_traits v_length v_open v_leaks v_places x_12)), ((am 33), .inl (cA 0, 10, .inl g_11))] H := hP
        replace hD : va_D A [((am 0), .inr (9, F9 am v_status v_now v_told v_merges v_taped v_size v_from v_to v_fault v_readFault v_traits v_length v_open v_leaks v_places x_12)), ((am 33), .inl (cA 0, 10, .inl g_11))] := hD
        refine lv_aload_n hx hb dX9_model_56 rfl (lv_at hl 0 rfl) ?_
        refine lv_aload_n hx hb dX9_model_57 rfl (lv_at hl 0 rfl) ?_
        refine va_get (D := (dC, dI)) (ci := 9) (v := .int x_12) (C := RX9) (T := TX9) (N := 51) hx hb hts hIX9 hown hK hP 0 rfl rfl 47 (by decide) (hts (.fieldLink RX9 323 "TraitHouseModel" "models" "I") (by decide +kernel)) (fun _ h9 => h9) rfl dX9_model_58 ?_
        refine lv_iconst (v := 1) hx hb dX9_model_61 (by decide) ?_
        refine lv_isub hx hb dX9_model_62 ?_
        refine lv_topi (fun x_13 ex_13 => ?_)
        have dx_13 : x_13.toInt = x_12.toInt - 1 := by rw [ex_13]; exact jI_sub rfl (by decide) (by omega) (by omega)
        obtain ⟨hPc, hDc, hFc, hCc⟩ := va_pre (ws' := [((am 0), .inr (9, F9 am v_status v_now v_told v_merges v_taped v_size v_from v_to v_fault v_readFault v_traits v_length v_open v_leaks v_places x_12))]) hP hD hS hA [0] (by decide) rfl
        refine va_calli (va_runV (As := [.int x_13]) (rest := []) ⟨hx, hb, hml, hown, hts⟩ (k_X9_ends l dC dI cA H.size am v_status v_now v_told v_merges v_taped v_size v_from v_to v_fault v_readFault v_traits v_length v_open v_leaks v_places x_12 x_13 i_v_now i_v_told i_v_taped i_v_size i_v_from i_v_to i_v_traits i_v_length i_v_open i_v_places (by omega)) (cwV 1 hts gX9_model_X9_ends rfl rfl rfl (by decide +kernel) ⟨Nat.le_of_ble_eq_true rfl, Nat.le_of_ble_eq_true rfl⟩) ⟨fun a U g mk q => by obtain ⟨q0, q1, qP, qK, qD, qN⟩ := q; exact ⟨q0, q1, qP, va_K.moved (u := U) (U := U.calling g mk a) (Vm.Alike.refl U.vm) qK, qD, qN.same rfl⟩, va_recv hK hPc (ci := 9) (q0 := 0) rfl rfl, fun U hU hW => ⟨rfl, by rw [hU], by rw [hU]; exact hPc, va_K.moved hW.alike hK, hDc.weaken (fun _ _ _ _ => trivial), hN.warm hW⟩⟩ rfl rfl hl.1 rfl (lv_room (Nat.le_of_ble_eq_true rfl)) dX9_model_63 ⟨Nat.le_of_ble_eq_true rfl, Nat.le_of_ble_eq_true rfl⟩) hS (fun q _ h => hFc q h) hFc (fun r_14 u_15 t H1 locs ht hvm hw_16 hB hz1 hk1 hS => ?_)
        obtain ⟨w_17, rfl⟩ : ∃ z, z = u_15 := ⟨_, rfl⟩
        try dsimp only at hw_16 hB
        have hr9 := hw_16
        clear hw_16
        obtain ⟨hP1, hD1⟩ := hB
        rw [ht] at hP1
        obtain ⟨hP, hD⟩ := va_join (wr := [((am 33), .inl (cA 0, 10, .inl g_11))]) (w1 := [((am 0), .inr (9, F9 am w_17 v_now v_told v_merges v_taped v_size v_from v_to v_fault v_readFault v_traits v_length v_open v_leaks v_places x_12))]) hP hD [0] [1] hCc rfl (by decide) (by decide) hk1 hFc hP1 hD1
        clear hz1
        generalize H1 = H at hP hS ⊢
        obtain rfl : x_13 = r_14 := hr9.symm
        obtain ⟨hP9, hD9⟩ := va_pd (ws' := [((am 0), .inr (9, F9 am w_17 v_now v_told v_merges v_taped v_size v_from v_to v_fault v_readFault v_traits v_length v_open v_leaks v_places x_12)), ((am 33), .inl (cA 0, 10, .inl g_11))]) hP hD [1, 0] (by decide) rfl
        subst hQe
        have hans : (x_13 : Int32).toInt = x_13.toInt := rfl
        have hpost : (0 ≤ x_12.toInt ∧ x_12.toInt ≤ 10) ∧ ((¬ (0 ≤ a.toInt ∧ a.toInt < 2 ^ v_traits.toInt.toNat) → (x_13 : Int32).toInt = (-1) ∧ x_12.toInt = v_models.toInt ∧ g_11 = f_uses) ∧ ((0 ≤ a.toInt ∧ a.toInt < 2 ^ v_traits.toInt.toNat) ∧ 10 ≤ v_models.toInt → (x_13 : Int32).toInt = (-5) ∧ x_12.toInt = v_models.toInt ∧ g_11 = f_uses) ∧ ((0 ≤ a.toInt ∧ a.toInt < 2 ^ v_traits.toInt.toNat) ∧ v_models.toInt < 10 → (x_13 : Int32).toInt = v_models.toInt ∧ x_12.toInt = v_models.toInt + 1 ∧ g_11 = upd f_uses v_models.toNatClampNeg a)) := ⟨by omega, ⟨fun h => by exfalso; omega, fun h => by exfalso; omega, fun _ => ⟨by omega, by omega, eg_11⟩⟩⟩
        exact W.iret (v := x_13) hx hb hr (fun t ht hW => ⟨⟨x_13, (w_17, x_12, g_11), rfl, hpost, by rw [ht]; exact hP9, hD9⟩, hS.F ht⟩) hS.2.2 dX9_model_66
      · have dc_9 : v_models.toInt = 10 := jI_eq c_9 rfl (by decide)
        refine lv_aload_n hx hb dX9_model_29 rfl (lv_at hl 0 rfl) ?_
        refine lv_bipush (v := (-5)) hx hb dX9_model_30 (by decide) ?_
        have hk_18 : ((-5) : Int32).toInt = (-5) := by decide
        obtain ⟨hPc, hDc, hFc, hCc⟩ := va_pre (ws' := [((am 0), .inr (9, F9 am v_status v_now v_told v_merges v_taped v_size v_from v_to v_fault v_readFault v_traits v_length v_open v_leaks v_places v_models))]) hP hD hS hA [0] (by decide) rfl
        refine va_calli (va_runV (As := [.int (-5)]) (rest := []) ⟨hx, hb, hml, hown, hts⟩ (k_X9_ends l dC dI cA s.heap.size am v_status v_now v_told v_merges v_taped v_size v_from v_to v_fault v_readFault v_traits v_length v_open v_leaks v_places v_models (-5) i_v_now i_v_told i_v_taped i_v_size i_v_from i_v_to i_v_traits i_v_length i_v_open i_v_places i_v_models) (cwV 1 hts gX9_model_X9_ends rfl rfl rfl (by decide +kernel) ⟨Nat.le_of_ble_eq_true rfl, Nat.le_of_ble_eq_true rfl⟩) ⟨fun a U g mk q => by obtain ⟨q0, q1, qP, qK, qD, qN⟩ := q; exact ⟨q0, q1, qP, va_K.moved (u := U) (U := U.calling g mk a) (Vm.Alike.refl U.vm) qK, qD, qN.same rfl⟩, va_recv hK hPc (ci := 9) (q0 := 0) rfl rfl, fun U hU hW => ⟨rfl, by rw [hU], by rw [hU]; exact hPc, va_K.moved hW.alike hK, hDc.weaken (fun _ _ _ _ => trivial), hN.warm hW⟩⟩ rfl rfl hl.1 rfl (lv_room (Nat.le_of_ble_eq_true rfl)) dX9_model_32 ⟨Nat.le_of_ble_eq_true rfl, Nat.le_of_ble_eq_true rfl⟩) hS (fun q _ h => hFc q h) hFc (fun r_19 u_20 t H1 locs ht hvm hw_21 hB hz1 hk1 hS => ?_)
        obtain ⟨w_22, rfl⟩ : ∃ z, z = u_20 := ⟨_, rfl⟩
        try dsimp only at hw_21 hB
        have hr9 := hw_21
        clear hw_21
        obtain ⟨hP1, hD1⟩ := hB
        rw [ht] at hP1
        obtain ⟨hP, hD⟩ := va_join (wr := [((am 33), .inl (cA 0, 10, .inl f_uses))]) (w1 := [((am 0), .inr (9, F9 am w_22 v_now v_told v_merges v_taped v_size v_from v_to v_fault v_readFault v_traits v_length v_open v_leaks v_places v_models))]) hP hD [0] [1] hCc rfl (by decide) (by decide) hk1 hFc hP1 hD1
        clear hz1
        generalize H1 = H at hP hS ⊢
        obtain rfl : (-5) = r_19 := hr9.symm
        obtain ⟨hP9, hD9⟩ := va_pd (ws' := [((am 0), .inr (9, F9 am w_22 v_now v_told v_merges v_taped v_size v_from v_to v_fault v_readFault v_traits v_length v_open v_leaks v_places v_models)), ((am 33), .inl (cA 0, 10, .inl f_uses))]) hP hD [1, 0] (by decide) rfl
        subst hQe
        have hans : ((-5) : Int32).toInt = (-5) := (by decide)
        have hpost : (0 ≤ v_models.toInt ∧ v_models.toInt ≤ 10) ∧ ((¬ (0 ≤ a.toInt ∧ a.toInt < 2 ^ v_traits.toInt.toNat) → ((-5) : Int32).toInt = (-1) ∧ v_models.toInt = v_models.toInt ∧ f_uses = f_uses) ∧ ((0 ≤ a.toInt ∧ a.toInt < 2 ^ v_traits.toInt.toNat) ∧ 10 ≤ v_models.toInt → ((-5) : Int32).toInt = (-5) ∧ v_models.toInt = v_models.toInt ∧ f_uses = f_uses) ∧ ((0 ≤ a.toInt ∧ a.toInt < 2 ^ v_traits.toInt.toNat) ∧ v_models.toInt < 10 → ((-5) : Int32).toInt = v_models.toInt ∧ v_models.toInt = v_models.toInt + 1 ∧ f_uses = upd f_uses v_models.toNatClampNeg a)) := ⟨i_v_models, ⟨fun h => by exfalso; omega, fun _ => ⟨by omega, by omega, rfl⟩, fun h => by exfalso; omega⟩⟩
        exact W.iret (v := (-5)) hx hb hr (fun t ht hW => ⟨⟨(-5), (w_22, v_models, f_uses), rfl, hpost, by rw [ht]; exact hP9, hD9⟩, hS.F ht⟩) hS.2.2 dX9_model_35
    · have dc_8 : x_7.toInt ≤ a.toInt := jI_nlt c_8 rfl rfl
      refine lv_aload_n hx hb dX9_model_14 rfl (lv_at hl 0 rfl) ?_
      refine lv_iconst (v := (-1)) hx hb dX9_model_15 (by decide) ?_
      have hk_23 : ((-1) : Int32).toInt = (-1) := by decide
      obtain ⟨hPc, hDc, hFc, hCc⟩ := va_pre (ws' := [((am 0), .inr (9, F9 am v_status v_now v_told v_merges v_taped v_size v_from v_to v_fault v_readFault v_traits v_length v_open v_leaks v_places v_models))]) hP hD hS hA [0] (by decide) rfl
      refine va_calli (va_runV (As := [.int (-1)]) (rest := []) ⟨hx, hb, hml, hown, hts⟩ (k_X9_ends l dC dI cA s.heap.size am v_status v_now v_told v_merges v_taped v_size v_from v_to v_fault v_readFault v_traits v_length v_open v_leaks v_places v_models (-1) i_v_now i_v_told i_v_taped i_v_size i_v_from i_v_to i_v_traits i_v_length i_v_open i_v_places i_v_models) (cwV 1 hts gX9_model_X9_ends rfl rfl rfl (by decide +kernel) ⟨Nat.le_of_ble_eq_true rfl, Nat.le_of_ble_eq_true rfl⟩) ⟨fun a U g mk q => by obtain ⟨q0, q1, qP, qK, qD, qN⟩ := q; exact ⟨q0, q1, qP, va_K.moved (u := U) (U := U.calling g mk a) (Vm.Alike.refl U.vm) qK, qD, qN.same rfl⟩, va_recv hK hPc (ci := 9) (q0 := 0) rfl rfl, fun U hU hW => ⟨rfl, by rw [hU], by rw [hU]; exact hPc, va_K.moved hW.alike hK, hDc.weaken (fun _ _ _ _ => trivial), hN.warm hW⟩⟩ rfl rfl hl.1 rfl (lv_room (Nat.le_of_ble_eq_true rfl)) dX9_model_16 ⟨Nat.le_of_ble_eq_true rfl, Nat.le_of_ble_eq_true rfl⟩) hS (fun q _ h => hFc q h) hFc (fun r_24 u_25 t H1 locs ht hvm hw_26 hB hz1 hk1 hS => ?_)
      obtain ⟨w_27, rfl⟩ : ∃ z, z = u_25 := ⟨_, rfl⟩
      try dsimp only at hw_26 hB
      have hr9 := hw_26
      clear hw_26
      obtain ⟨hP1, hD1⟩ := hB
      rw [ht] at hP1
      obtain ⟨hP, hD⟩ := va_join (wr := [((am 33), .inl (cA 0, 10, .inl f_uses))]) (w1 := [((am 0), .inr (9, F9 am w_27 v_now v_told v_merges v_taped v_size v_from v_to v_fault v_readFault v_traits v_length v_open v_leaks v_places v_models))]) hP hD [0] [1] hCc rfl (by decide) (by decide) hk1 hFc hP1 hD1
      clear hz1
      generalize H1 = H at hP hS ⊢
      obtain rfl : (-1) = r_24 := hr9.symm
      obtain ⟨hP9, hD9⟩ := va_pd (ws' := [((am 0), .inr (9, F9 am w_27 v_now v_told v_merges v_taped v_size v_from v_to v_fault v_readFault v_traits v_length v_open v_leaks v_places v_models)), ((am 33), .inl (cA 0, 10, .inl f_uses))]) hP hD [1, 0] (by decide) rfl
      subst hQe
      have hans : ((-1) : Int32).toInt = (-1) := (by decide)
      have hpost : (0 ≤ v_models.toInt ∧ v_models.toInt ≤ 10) ∧ ((¬ (0 ≤ a.toInt ∧ a.toInt < 2 ^ v_traits.toInt.toNat) → ((-1) : Int32).toInt = (-1) ∧ v_models.toInt = v_models.toInt ∧ f_uses = f_uses) ∧ ((0 ≤ a.toInt ∧ a.toInt < 2 ^ v_traits.toInt.toNat) ∧ 10 ≤ v_models.toInt → ((-1) : Int32).toInt = (-5) ∧ v_models.toInt = v_models.toInt ∧ f_uses = f_uses) ∧ ((0 ≤ a.toInt ∧ a.toInt < 2 ^ v_traits.toInt.toNat) ∧ v_models.toInt < 10 → ((-1) : Int32).toInt = v_models.toInt ∧ v_models.toInt = v_models.toInt + 1 ∧ f_uses = upd f_uses v_models.toNatClampNeg a)) := ⟨i_v_models, ⟨fun _ => ⟨by omega, by omega, rfl⟩, fun h => by exfalso; omega, fun h => by exfalso; omega⟩⟩
      exact W.iret (v := (-1)) hx hb hr (fun t ht hW => ⟨⟨(-1), (w_27, v_models, f_uses), rfl, hpost, by rw [ht]; exact hP9, hD9⟩, hS.F ht⟩) hS.2.2 dX9_model_19

set_option maxHeartbeats 8000000 in
set_option maxRecDepth 100000 in
theorem k_X9_neededOf (l : Launch) (dC : Nat → ClassId) (dI : Nat → Nat → Nat) (cA : Nat → ClassId) (sz : Nat) (am : Nat → Nat) (v_status : Int32) (v_now : Int32) (v_told : Int32) (v_merges : Int32) (v_taped : Int32) (v_size : Int32) (v_from : Int32) (v_to : Int32) (v_fault : Int32) (v_readFault : Int32) (v_traits : Int32) (v_length : Int32) (v_open : Int32) (v_leaks : Int32) (v_places : Int32) (v_models : Int32) (f_uses : Nat → Int32) (f_size0 : Nat → Int32) (f_step : Nat → Int32) (f_stepA : Nat → Int32) (a : Int32) (i_v_now : 0 ≤ v_now.toInt ∧ v_now.toInt ≤ 100000) (i_v_told : 0 ≤ v_told.toInt ∧ v_told.toInt ≤ 400) (i_v_taped : 0 ≤ v_taped.toInt ∧ v_taped.toInt ≤ 200) (i_v_size : 0 ≤ v_size.toInt ∧ v_size.toInt ≤ 200) (i_v_from : 0 ≤ v_from.toInt ∧ v_from.toInt ≤ 200) (i_v_to : 0 ≤ v_to.toInt ∧ v_to.toInt ≤ 200) (i_v_traits : 0 ≤ v_traits.toInt ∧ v_traits.toInt ≤ 20) (i_v_length : 0 ≤ v_length.toInt ∧ v_length.toInt ≤ 200) (i_v_open : 0 ≤ v_open.toInt ∧ v_open.toInt ≤ 8) (i_v_places : 0 ≤ v_places.toInt ∧ v_places.toInt ≤ 2000) (i_v_models : 0 ≤ v_models.toInt ∧ v_models.toInt ≤ 10) (i_f_size0 : inB 0 200 20 f_size0) (ha : 0 ≤ a.toInt ∧ a.toInt ≤ 9) : Met l yX9_neededOf wsX9_neededOf ({ frames := 0, cells := 0, slots := 0, locals := 0 }) (va_Pc [.ref (am 0), .int a] (fun U => U.heap.size = sz ∧ va_P (dC, dI) vwCl [((am 0), .inr (9, F9 am v_status v_now v_told v_merges v_taped v_size v_from v_to v_fault v_readFault v_traits v_length v_open v_leaks v_places v_models)), ((am 33), .inl (cA 0, 10, .inl f_uses)), ((am 12), .inl (cA 0, 20, .inl f_size0)), ((am 13), .inl (cA 0, 5000, .inl f_step)), ((am 14), .inl (cA 0, 5000, .inl f_stepA))] U.heap ∧ va_K (dC, dI) vwCl (tyL cA) U ∧ va_D (fun _ => True) [((am 0), .inr (9, F9 am v_status v_now v_told v_merges v_taped v_size v_from v_to v_fault v_readFault v_traits v_length v_open v_leaks v_places v_models)), ((am 33), .inl (cA 0, 10, .inl f_uses)), ((am 12), .inl (cA 0, 20, .inl f_size0)), ((am 13), .inl (cA 0, 5000, .inl f_step)), ((am 14), .inl (cA 0, 5000, .inl f_stepA))] ∧ nw_ok U)) (va_Qi (fun (r : Int32) (_ : Unit) => (r = dsc (rdR f_step f_stepA f_size0) (f_uses a.toNatClampNeg) v_traits.toInt.toNat)) (fun (_ : Unit) (t : State) => va_P (dC, dI) vwCl [((am 0), .inr (9, F9 am v_status v_now v_told v_merges v_taped v_size v_from v_to v_fault v_readFault v_traits v_length v_open v_leaks v_places v_models)), ((am 33), .inl (cA 0, 10, .inl f_uses)), ((am 12), .inl (cA 0, 20, .inl f_size0)), ((am 13), .inl (cA 0, 5000, .inl f_step)), ((am 14), .inl (cA 0, 5000, .inl f_stepA))] t.heap ∧ va_D (va_A [((am 0), .inr (9, F9 am v_status v_now v_told v_merges v_taped v_size v_from v_to v_fault v_readFault v_traits v_length v_open v_leaks v_places v_models)), ((am 33), .inl (cA 0, 10, .inl f_uses)), ((am 12), .inl (cA 0, 20, .inl f_size0)), ((am 13), .inl (cA 0, 5000, .inl f_step)), ((am 14), .inl (cA 0, 5000, .inl f_stepA))] sz) [((am 0), .inr (9, F9 am v_status v_now v_told v_merges v_taped v_size v_from v_to v_fault v_readFault v_traits v_length v_open v_leaks v_places v_models)), ((am 33), .inl (cA 0, 10, .inl f_uses)), ((am 12), .inl (cA 0, 20, .inl f_size0)), ((am 13), .inl (cA 0, 5000, .inl f_step)), ((am 14), .inl (cA 0, 5000, .inl f_stepA))]) (va_A [((am 0), .inr (9, F9 am v_status v_now v_told v_merges v_taped v_size v_from v_to v_fault v_readFault v_traits v_length v_open v_leaks v_places v_models)), ((am 33), .inl (cA 0, 10, .inl f_uses)), ((am 12), .inl (cA 0, 20, .inl f_size0)), ((am 13), .inl (cA 0, 5000, .inl f_step)), ((am 14), .inl (cA 0, 5000, .inl f_stepA))] sz)) 0 0 (va_A [((am 0), .inr (9, F9 am v_status v_now v_told v_merges v_taped v_size v_from v_to v_fault v_readFault v_traits v_length v_open v_leaks v_places v_models)), ((am 33), .inl (cA 0, 10, .inl f_uses)), ((am 12), .inl (cA 0, 20, .inl f_size0)), ((am 13), .inl (cA 0, 5000, .inl f_step)), ((am 14), .inl (cA 0, 5000, .inl f_stepA))] sz) := by
  refine Met.ofW (cc := cX9_neededOf) (maxL := 5) (ret := (some .int)) (by decide) rfl ?_
  intro p e s m args below meth c s₁ B hml hv
  obtain ⟨rfl, hsz, hP, hK, hD0, hN⟩ := hv
  have hx := B.exec
  have hb := B.bytes
  have hr := B.returns
  have hts := atoms_spec (ws := wsX9_neededOf) B.pre
  have hown : s.vm.findClass RX9 = some m.cls := findClass_of_methodNamed B.named
  have hlocks := B.notSynchronized
  subst hsz
  have hD := hD0.self (sz := s.heap.size)
  generalize hAe : va_A [((am 0), .inr (9, F9 am v_status v_now v_told v_merges v_taped v_size v_from v_to v_fault v_readFault v_traits v_length v_open v_leaks v_places v_models)), ((am 33), .inl (cA 0, 10, .inl f_uses)), ((am 12), .inl (cA 0, 20, .inl f_size0)), ((am 13), .inl (cA 0, 5000, .inl f_step)), ((am 14), .inl (cA 0, 5000, .inl f_stepA))] s.heap.size = A at hD ⊢
  have hA : ∀ q : Nat, s.heap.size ≤ q → A q := fun q h => by rw [← hAe]; exact Or.inr h
  have hS : va_S A s.heap s.heap [] := va_S.rf
  have hIX9 : ∀ w ∈ u_ws RX9 TX9 51, w ∈ wsX9_neededOf := by decide +kernel
  have hl := lv_entry ([.ref (am 0), .int a]) (n := 5) (Nat.le_of_ble_eq_true rfl)
  rw [lg_entry_eq]
  generalize (lg_sl ([.ref (am 0), .int a]) ++ List.replicate (5 - (lg_sl ([.ref (am 0), .int a])).length) Slot.unset).toArray = ls at hl ⊢
  have hl : lv_has ls 5 [(0, .ref (am 0)), (1, .int a)] := hl
  generalize hQe : MQ below _ _ _ _ _ _ = QQ
  refine lv_aload_n hx hb dX9_neededOf_0 rfl (lv_at hl 0 rfl) ?_
  refine va_get (D := (dC, dI)) (ci := 9) (v := .ref (am 33)) (C := RX9) (T := TX9) (N := 51) hx hb hts hIX9 hown hK hP 0 rfl rfl 48 (by decide) (hts (.fieldLink RX9 113 "TraitHouseModel" "uses" "[I") (by decide +kernel)) (fun _ h9 => h9) rfl dX9_neededOf_1 ?_
  refine lv_iload_n hx hb dX9_neededOf_4 rfl (lv_at hl 1 rfl) ?_
  have h_1 : vp_in a 10 := (vp_in_iff.mpr ⟨by omega, by omega⟩)
  refine va_iald hx hb hK hP 1 0 rfl rfl h_1 dX9_neededOf_5 ?_
  refine lv_topi (fun x_2 ex_2 => ?_)
  refine lv_istore_n (lv' := [(2, .int x_2), (0, .ref (am 0)), (1, .int a)]) hx hb dX9_neededOf_6 rfl hl (by decide) rfl (fun ls hl => ?_)
  refine lv_aload_n hx hb dX9_neededOf_7 rfl (lv_at hl 1 rfl) ?_
  refine va_get (D := (dC, dI)) (ci := 9) (v := .int v_traits) (C := RX9) (T := TX9) (N := 51) hx hb hts hIX9 hown hK hP 0 rfl rfl 21 (by decide) (hts (.fieldLink RX9 197 "TraitHouseModel" "traits" "I") (by decide +kernel)) (fun _ h9 => h9) rfl dX9_neededOf_8 ?_
  refine lv_iconst (v := 1) hx hb dX9_neededOf_11 (by decide) ?_
  refine lv_isub hx hb dX9_neededOf_12 ?_
  refine lv_topi (fun x_3 ex_3 => ?_)
  have dx_3 : x_3.toInt = v_traits.toInt - 1 := by rw [ex_3]; exact jI_sub rfl (by decide) (by omega) (by omega)
  refine lv_istore_n (lv' := [(3, .int x_3), (2, .int x_2), (0, .ref (am 0)), (1, .int a)]) hx hb dX9_neededOf_13 rfl hl (by decide) rfl (fun ls hl => ?_)
  have loop14_4 : ∀ (n : Nat) (i3 : Int32) (n2 : Int32) (H : Heap) (locs : List Loc) (ls : Array Slot), i3.toInt + 1 < (n : Int) → ((-1) ≤ i3.toInt ∧ i3.toInt ≤ 19) → (dsc (rdR f_step f_stepA f_size0) n2 (i3.toInt + 1).toNat = dsc (rdR f_step f_stepA f_size0) (f_uses a.toNatClampNeg) v_traits.toInt.toNat) → va_P (dC, dI) vwCl [((am 0), .inr (9, F9 am v_status v_now v_told v_merges v_taped v_size v_from v_to v_fault v_readFault v_traits v_length v_open v_leaks v_places v_models)), ((am 33), .inl (cA 0, 10, .inl f_uses)), ((am 12), .inl (cA 0, 20, .inl f_size0)), ((am 13), .inl (cA 0, 5000, .inl f_step)), ((am 14), .inl (cA 0, 5000, .inl f_stepA))] H → va_D A [((am 0), .inr (9, F9 am v_status v_now v_told v_merges v_taped v_size v_from v_to v_fault v_readFault v_traits v_length v_open v_leaks v_places v_models)), ((am 33), .inl (cA 0, 10, .inl f_uses)), ((am 12), .inl (cA 0, 20, .inl f_size0)), ((am 13), .inl (cA 0, 5000, .inl f_step)), ((am 14), .inl (cA 0, 5000, .inl f_stepA))] → va_S A s.heap H locs → lv_has ls 5 [(3, .int i3), (2, .int n2), (0, .ref (am 0)), (1, .int a)] → W p l e ({ frames := 0, cells := 0, slots := 0, locals := 0 }) s m ([.ref (am 0), .int a] : List Value).toArray below meth c H locs 0 0 QQ (F0 m 14 ls []) := by
    intro n
    induction n with
    | zero => intro i3 n2 H locs ls hme hv0_14 hv1_14; exfalso; omega
    | succ n ih_14 =>
      intro i3 n2 H locs ls hme_14 hv0_14 hv1_14 hP hD hS hl
      refine lv_iload_n hx hb dX9_neededOf_14 rfl (lv_at hl 0 rfl) ?_
      refine lv_if_lt (tgt := 91) hx hb dX9_neededOf_15 (by decide) (fun c_5 => ?_) (fun c_5 => ?_)
      · have dc_5 : i3.toInt < 0 := jI_lt c_5 rfl (by decide)
        refine lv_iload_n hx hb dX9_neededOf_91 rfl (lv_at hl 1 rfl) ?_
        obtain ⟨hP9, hD9⟩ := va_pd (ws' := [((am 0), .inr (9, F9 am v_status v_now v_told v_merges v_taped v_size v_from v_to v_fault v_readFault v_traits v_length v_open v_leaks v_places v_models)), ((am 33), .inl (cA 0, 10, .inl f_uses)), ((am 12), .inl (cA 0, 20, .inl f_size0)), ((am 13), .inl (cA 0, 5000, .inl f_step)), ((am 14), .inl (cA 0, 5000, .inl f_stepA))]) hP hD [0, 1, 2, 3, 4] (by decide) rfl
        subst hQe
        have hans : (n2 : Int32).toInt = n2.toInt := rfl
        have hpost : ((n2 : Int32) = dsc (rdR f_step f_stepA f_size0) (f_uses a.toNatClampNeg) v_traits.toInt.toNat) := dsc_z hv1_14 (by omega)
        exact W.iret (v := n2) hx hb hr (fun t ht hW => ⟨⟨n2, (), rfl, hpost, by rw [ht]; exact hP9, hD9⟩, hS.F ht⟩) hS.2.2 dX9_neededOf_92
      · have dc_5 : 0 ≤ i3.toInt := jI_nlt c_5 rfl (by decide)
        refine lv_iload_n hx hb dX9_neededOf_18 rfl (lv_at hl 1 rfl) ?_
        refine lv_iload_n hx hb dX9_neededOf_19 rfl (lv_at hl 0 rfl) ?_
        refine lv_ishr hx hb dX9_neededOf_20 ?_
        refine lv_topi (fun x_6 ex_6 => ?_)
        refine lv_iconst (v := 1) hx hb dX9_neededOf_21 (by decide) ?_
        refine lv_iand hx hb dX9_neededOf_22 ?_
        refine lv_topi (fun x_7 ex_7 => ?_)
        have dx_7 : 0 ≤ x_7.toInt ∧ x_7.toInt ≤ 1 := by rw [ex_7]; exact jI_mask _ 1 (by decide) (by decide)
        refine lv_if_ne (tgt := 29) hx hb dX9_neededOf_23 (by decide) (fun c_8 => ?_) (fun c_8 => ?_)
        · have dc_8 : ¬ x_7.toInt = 0 := jI_ne c_8 rfl (by decide)
          refine lv_iconst (v := 0) hx hb dX9_neededOf_29 (by decide) ?_
          refine lv_istore (lv' := [(4, .int 0), (3, .int i3), (2, .int n2), (0, .ref (am 0)), (1, .int a)]) hx hb dX9_neededOf_30 hl (by decide) rfl (fun ls hl => ?_)
          have loop32_9 : ∀ (n : Nat) (j4 : Int32) (n2b : Int32) (H : Heap) (locs : List Loc) (ls : Array Slot), 200 - j4.toInt < (n : Int) → (0 ≤ j4.toInt ∧ j4.toInt ≤ 200) → (j4.toInt ≤ (f_size0 i3.toNatClampNeg).toInt) → (n2b = n2 ||| orb f_step f_stepA (250 * i3.toInt.toNat) j4.toInt.toNat) → va_P (dC, dI) vwCl [((am 0), .inr (9, F9 am v_status v_now v_told v_merges v_taped v_size v_from v_to v_fault v_readFault v_traits v_length v_open v_leaks v_places v_models)), ((am 33), .inl (cA 0, 10, .inl f_uses)), ((am 12), .inl (cA 0, 20, .inl f_size0)), ((am 13), .inl (cA 0, 5000, .inl f_step)), ((am 14), .inl (cA 0, 5000, .inl f_stepA))] H → va_D A [((am 0), .inr (9, F9 am v_status v_now v_told v_merges v_taped v_size v_from v_to v_fault v_readFault v_traits v_length v_open v_leaks v_places v_models)), ((am 33), .inl (cA 0, 10, .inl f_uses)), ((am 12), .inl (cA 0, 20, .inl f_size0)), ((am 13), .inl (cA 0, 5000, .inl f_step)), ((am 14), .inl (cA 0, 5000, .inl f_stepA))] → va_S A s.heap H locs → lv_has ls 5 [(4, .int j4), (3, .int i3), (2, .int n2b), (0, .ref (am 0)), (1, .int a)] → W p l e ({ frames := 0, cells := 0, slots := 0, locals := 0 }) s m ([.ref (am 0), .int a] : List Value).toArray below meth c H locs 0 0 QQ (F0 m 32 ls []) := by
            intro n
            induction n with
            | zero => intro j4 n2b H locs ls hme hv0_32 hv1_32 hv2_32; exfalso; omega
            | succ n ih_32 =>
              intro j4 n2b H locs ls hme_32 hv0_32 hv1_32 hv2_32 hP hD hS hl
              refine lv_iload hx hb dX9_neededOf_32 (lv_at hl 0 rfl) ?_
              refine lv_aload_n hx hb dX9_neededOf_34 rfl (lv_at hl 3 rfl) ?_
              refine va_get (D := (dC, dI)) (ci := 9) (v := .ref (am 12)) (C := RX9) (T := TX9) (N := 51) hx hb hts hIX9 hown hK hP 0 rfl rfl 25 (by decide) (hts (.fieldLink RX9 49 "TraitHouseModel" "size0" "[I") (by decide +kernel)) (fun _ h9 => h9) rfl dX9_neededOf_35 ?_
              refine lv_iload_n hx hb dX9_neededOf_38 rfl (lv_at hl 1 rfl) ?_
              have h_10 : vp_in i3 20 := (vp_in_iff.mpr ⟨by omega, by omega⟩)
              refine va_iald hx hb hK hP 2 0 rfl rfl h_10 dX9_neededOf_39 ?_
              refine lv_topi (fun x_11 ex_11 => ?_)
              have bx_11 := i_f_size0 _ (jix h_10)
              rw [← ex_11] at bx_11
              refine lv_icmp_ge (tgt := 85) hx hb dX9_neededOf_40 (by decide) (fun c_12 => ?_) (fun c_12 => ?_)
              · have dc_12 : x_11.toInt ≤ j4.toInt := jI_le c_12 rfl rfl
                obtain ⟨x_13, ex_13⟩ : ∃ y : Int32, y = i3 + (-1) := ⟨_, rfl⟩
                have dx_13 : x_13.toInt = i3.toInt + (-1) := by rw [ex_13]; exact jI_add rfl (by decide) (by omega) (by omega)
                refine lv_iinc (v := x_13) (lv' := [(3, .int x_13), (4, .int j4), (2, .int n2b), (0, .ref (am 0)), (1, .int a)]) hx hb dX9_neededOf_85 hl (k := 1) rfl (by rw [ex_13]; rfl) (by decide) rfl (fun ls hl => ?_)
                refine lv_goto (tgt := 14) hx hb dX9_neededOf_88 (by decide) ?_
                exact ih_14 x_13 n2b _ _ ls (by omega) (by omega) (dsc_y hv1_14 (by omega) ((tb_sar ex_6 ex_7 (by omega) (by omega)).mp (by omega)) (by rw [hv2_32]; show _ = n2 ||| orb f_step f_stepA (250 * i3.toInt.toNat) (f_size0 i3.toInt.toNat).toInt.toNat; have z9 := congrArg Int32.toInt ex_11; rw [show (f_size0 i3.toInt.toNat).toInt.toNat = j4.toInt.toNat by have z8 : (f_size0 i3.toInt.toNat).toInt = (f_size0 i3.toNatClampNeg).toInt := rfl; omega]) (by omega)) (hP.sub [0, 1, 2, 3, 4] rfl) (hD.sub [0, 1, 2, 3, 4] (by decide) rfl) hS (lv_sub hl [0, 2, 3, 4] rfl)
              · have dc_12 : j4.toInt < x_11.toInt := jI_nle c_12 rfl rfl
                refine lv_aload_n hx hb dX9_neededOf_43 rfl (lv_at hl 3 rfl) ?_
                refine va_get (D := (dC, dI)) (ci := 9) (v := .ref (am 13)) (C := RX9) (T := TX9) (N := 51) hx hb hts hIX9 hown hK hP 0 rfl rfl 26 (by decide) (hts (.fieldLink RX9 52 "TraitHouseModel" "step" "[I") (by decide +kernel)) (fun _ h9 => h9) rfl dX9_neededOf_44 ?_
                refine lv_sipush (v := 250) hx hb dX9_neededOf_47 (by decide) ?_
                refine lv_iload_n hx hb dX9_neededOf_50 rfl (lv_at hl 1 rfl) ?_
                refine lv_imul hx hb dX9_neededOf_51 ?_
                refine lv_topi (fun x_14 ex_14 => ?_)
                have dx_14 : x_14.toInt = 250 * i3.toInt := by rw [ex_14]; exact jI_mul (by decide) rfl (by omega) (by omega)
                refine lv_iload hx hb dX9_neededOf_52 (lv_at hl 0 rfl) ?_
                refine lv_iadd hx hb dX9_neededOf_54 ?_
                refine lv_topi (fun x_15 ex_15 => ?_)
                have dx_15 : x_15.toInt = x_14.toInt + j4.toInt := by rw [ex_15]; exact jI_add rfl rfl (by omega) (by omega)
                have h_16 : vp_in x_15 5000 := (vp_in_iff.mpr ⟨by omega, by omega⟩)
                refine va_iald hx hb hK hP 3 0 rfl rfl h_16 dX9_neededOf_55 ?_
                refine lv_topi (fun x_17 ex_17 => ?_)
                refine lv_bipush (v := 6) hx hb dX9_neededOf_56 (by decide) ?_
                refine lv_icmp_ne (tgt := 79) hx hb dX9_neededOf_58 (by decide) (fun c_18 => ?_) (fun c_18 => ?_)
                · have dc_18 : ¬ x_17.toInt = 6 := jI_ne c_18 rfl (by decide)
                  obtain ⟨x_19, ex_19⟩ : ∃ y : Int32, y = j4 + 1 := ⟨_, rfl⟩
                  have dx_19 : x_19.toInt = j4.toInt + 1 := by rw [ex_19]; exact jI_add rfl (by decide) (by omega) (by omega)
                  refine lv_iinc (v := x_19) (lv' := [(4, .int x_19), (3, .int i3), (2, .int n2b), (0, .ref (am 0)), (1, .int a)]) hx hb dX9_neededOf_79 hl (k := 0) rfl (by rw [ex_19]; rfl) (by decide) rfl (fun ls hl => ?_)
                  refine lv_goto (tgt := 32) hx hb dX9_neededOf_82 (by decide) ?_
                  exact ih_32 x_19 n2b _ _ ls (by omega) (by omega) (by have z9 := congrArg Int32.toInt ex_11; omega) (orb_n hv2_32 (by omega) (by omega) (ix := x_15) (by omega) ex_17 (by omega) (by omega)) (hP.sub [0, 1, 2, 3, 4] rfl) (hD.sub [0, 1, 2, 3, 4] (by decide) rfl) hS (lv_sub hl [0, 1, 2, 3, 4] rfl)
                · have dc_18 : x_17.toInt = 6 := jI_eq c_18 rfl (by decide)
                  refine lv_iload_n hx hb dX9_neededOf_61 rfl (lv_at hl 2 rfl) ?_
                  refine lv_iconst (v := 1) hx hb dX9_neededOf_62 (by decide) ?_
                  refine lv_aload_n hx hb dX9_neededOf_63 rfl (lv_at hl 3 rfl) ?_
                  refine va_get (D := (dC, dI)) (ci := 9) (v := .ref (am 14)) (C := RX9) (T := TX9) (N := 51) hx hb hts hIX9 hown hK hP 0 rfl rfl 27 (by decide) (hts (.fieldLink RX9 55 "TraitHouseModel" "stepA" "[I") (by decide +kernel)) (fun _ h9 => h9) rfl dX9_neededOf_64 ?_
                  refine lv_sipush (v := 250) hx hb dX9_neededOf_67 (by decide) ?_
                  refine lv_iload_n hx hb dX9_neededOf_70 rfl (lv_at hl 1 rfl) ?_
                  refine lv_imul hx hb dX9_neededOf_71 ?_
                  refine lv_topi (fun x_20 ex_20 => ?_)
                  have dx_20 : x_20.toInt = 250 * i3.toInt := by rw [ex_20]; exact jI_mul (by decide) rfl (by omega) (by omega)
                  refine lv_iload hx hb dX9_neededOf_72 (lv_at hl 0 rfl) ?_
                  refine lv_iadd hx hb dX9_neededOf_74 ?_
                  refine lv_topi (fun x_21 ex_21 => ?_)
                  have dx_21 : x_21.toInt = x_20.toInt + j4.toInt := by rw [ex_21]; exact jI_add rfl rfl (by omega) (by omega)
                  have h_22 : vp_in x_21 5000 := (vp_in_iff.mpr ⟨by omega, by omega⟩)
                  refine va_iald hx hb hK hP 4 0 rfl rfl h_22 dX9_neededOf_75 ?_
                  refine lv_topi (fun x_23 ex_23 => ?_)
                  refine lv_ishl hx hb dX9_neededOf_76 ?_
                  refine lv_topi (fun x_24 ex_24 => ?_)
                  refine lv_ior hx hb dX9_neededOf_77 ?_
                  refine lv_topi (fun x_25 ex_25 => ?_)
                  refine lv_istore_n (lv' := [(2, .int x_25), (4, .int j4), (3, .int i3), (0, .ref (am 0)), (1, .int a)]) hx hb dX9_neededOf_78 rfl hl (by decide) rfl (fun ls hl => ?_)
                  obtain ⟨x_26, ex_26⟩ : ∃ y : Int32, y = j4 + 1 := ⟨_, rfl⟩
                  have dx_26 : x_26.toInt = j4.toInt + 1 := by rw [ex_26]; exact jI_add rfl (by decide) (by omega) (by omega)
                  refine lv_iinc (v := x_26) (lv' := [(4, .int x_26), (2, .int x_25), (3, .int i3), (0, .ref (am 0)), (1, .int a)]) hx hb dX9_neededOf_79 hl (k := 1) rfl (by rw [ex_26]; rfl) (by decide) rfl (fun ls hl => ?_)
                  refine lv_goto (tgt := 32) hx hb dX9_neededOf_82 (by decide) ?_
                  exact ih_32 x_26 x_25 _ _ ls (by omega) (by omega) (by have z9 := congrArg Int32.toInt ex_11; omega) (orb_y hv2_32 (by omega) (by omega) (ix := x_15) (by omega) ex_17 (by omega) (iy := x_21) (by omega) ex_23 ex_24 ex_25 (by omega)) (hP.sub [0, 1, 2, 3, 4] rfl) (hD.sub [0, 1, 2, 3, 4] (by decide) rfl) hS (lv_sub hl [0, 2, 1, 3, 4] rfl)
          have hk_27 : (0 : Int32).toInt = 0 := by decide
          exact loop32_9 (Int.toNat (200 - (0 : Int32).toInt) + 1) 0 n2 _ _ ls (by omega) (by omega) (by have z9 := i_f_size0 i3.toNatClampNeg (by have : i3.toNatClampNeg = i3.toInt.toNat := rfl; omega); omega) (by rw [show (0 : Int32).toInt.toNat = 0 from rfl]; exact or_0 _) hP hD hS (lv_sub hl [0, 1, 2, 3, 4] rfl)
        · have dc_8 : x_7.toInt = 0 := jI_eq c_8 rfl (by decide)
          refine lv_goto (tgt := 85) hx hb dX9_neededOf_26 (by decide) ?_
          obtain ⟨x_28, ex_28⟩ : ∃ y : Int32, y = i3 + (-1) := ⟨_, rfl⟩
          have dx_28 : x_28.toInt = i3.toInt + (-1) := by rw [ex_28]; exact jI_add rfl (by decide) (by omega) (by omega)
          refine lv_iinc (v := x_28) (lv' := [(3, .int x_28), (2, .int n2), (0, .ref (am 0)), (1, .int a)]) hx hb dX9_neededOf_85 hl (k := 0) rfl (by rw [ex_28]; rfl) (by decide) rfl (fun ls hl => ?_)
          refine lv_goto (tgt := 14) hx hb dX9_neededOf_88 (by decide) ?_
          exact ih_14 x_28 n2 _ _ ls (by omega) (by omega) (dsc_n hv1_14 (by omega) (fun h => absurd ((tb_sar ex_6 ex_7 (by omega) (by omega)).mpr h) (by omega)) (by omega)) (hP.sub [0, 1, 2, 3, 4] rfl) (hD.sub [0, 1, 2, 3, 4] (by decide) rfl) hS (lv_sub hl [0, 1, 2, 3] rfl)
  exact loop14_4 (Int.toNat ((x_3 : Int32).toInt + 1) + 1) x_3 x_2 _ _ ls (by omega) (by omega) (by rw [show (x_3.toInt + 1).toNat = v_traits.toInt.toNat by omega, ex_2]) hP hD hS (lv_sub hl [0, 1, 2, 3] rfl)

set_option maxHeartbeats 8000000 in
set_option maxRecDepth 100000 in
theorem k_X9_needed (l : Launch) (dC : Nat → ClassId) (dI : Nat → Nat → Nat) (cA : Nat → ClassId) (sz : Nat) (am : Nat → Nat) (v_status : Int32) (v_now : Int32) (v_told : Int32) (v_merges : Int32) (v_taped : Int32) (v_size : Int32) (v_from : Int32) (v_to : Int32) (v_fault : Int32) (v_readFault : Int32) (v_traits : Int32) (v_length : Int32) (v_open : Int32) (v_leaks : Int32) (v_places : Int32) (v_models : Int32) (f_uses : Nat → Int32) (f_size0 : Nat → Int32) (f_step : Nat → Int32) (f_stepA : Nat → Int32) (a : Int32) (i_v_now : 0 ≤ v_now.toInt ∧ v_now.toInt ≤ 100000) (i_v_told : 0 ≤ v_told.toInt ∧ v_told.toInt ≤ 400) (i_v_taped : 0 ≤ v_taped.toInt ∧ v_taped.toInt ≤ 200) (i_v_size : 0 ≤ v_size.toInt ∧ v_size.toInt ≤ 200) (i_v_from : 0 ≤ v_from.toInt ∧ v_from.toInt ≤ 200) (i_v_to : 0 ≤ v_to.toInt ∧ v_to.toInt ≤ 200) (i_v_traits : 0 ≤ v_traits.toInt ∧ v_traits.toInt ≤ 20) (i_v_length : 0 ≤ v_length.toInt ∧ v_length.toInt ≤ 200) (i_v_open : 0 ≤ v_open.toInt ∧ v_open.toInt ≤ 8) (i_v_places : 0 ≤ v_places.toInt ∧ v_places.toInt ≤ 2000) (i_v_models : 0 ≤ v_models.toInt ∧ v_models.toInt ≤ 10) (i_f_size0 : inB 0 200 20 f_size0)  : Met l yX9_needed wsX9_needed ({ frames := 1, cells := 0, slots := 0, locals := 25 }) (va_Pc [.ref (am 0), .int a] (fun U => U.heap.size = sz ∧ va_P (dC, dI) vwCl [((am 0), .inr (9, F9 am v_status v_now v_told v_merges v_taped v_size v_from v_to v_fault v_readFault v_traits v_length v_open v_leaks v_places v_models)), ((am 33), .inl (cA 0, 10, .inl f_uses)), ((am 12), .inl (cA 0, 20, .inl f_size0)), ((am 13), .inl (cA 0, 5000, .inl f_step)), ((am 14), .inl (cA 0, 5000, .inl f_stepA))] U.heap ∧ va_K (dC, dI) vwCl (tyL cA) U ∧ va_D (fun _ => True) [((am 0), .inr (9, F9 am v_status v_now v_told v_merges v_taped v_size v_from v_to v_fault v_readFault v_traits v_length v_open v_leaks v_places v_models)), ((am 33), .inl (cA 0, 10, .inl f_uses)), ((am 12), .inl (cA 0, 20, .inl f_size0)), ((am 13), .inl (cA 0, 5000, .inl f_step)), ((am 14), .inl (cA 0, 5000, .inl f_stepA))] ∧ nw_ok U)) (va_Qi (fun (r : Int32) (_ : Unit) => ((0 ≤ a.toInt ∧ a.toInt < v_models.toInt → r = dsc (rdR f_step f_stepA f_size0) (f_uses a.toNatClampNeg) v_traits.toInt.toNat) ∧ (¬ (0 ≤ a.toInt ∧ a.toInt < v_models.toInt) → r.toInt = 0))) (fun (_ : Unit) (t : State) => va_P (dC, dI) vwCl [((am 0), .inr (9, F9 am v_status v_now v_told v_merges v_taped v_size v_from v_to v_fault v_readFault v_traits v_length v_open v_leaks v_places v_models)), ((am 33), .inl (cA 0, 10, .inl f_uses)), ((am 12), .inl (cA 0, 20, .inl f_size0)), ((am 13), .inl (cA 0, 5000, .inl f_step)), ((am 14), .inl (cA 0, 5000, .inl f_stepA))] t.heap ∧ va_D (va_A [((am 0), .inr (9, F9 am v_status v_now v_told v_merges v_taped v_size v_from v_to v_fault v_readFault v_traits v_length v_open v_leaks v_places v_models)), ((am 33), .inl (cA 0, 10, .inl f_uses)), ((am 12), .inl (cA 0, 20, .inl f_size0)), ((am 13), .inl (cA 0, 5000, .inl f_step)), ((am 14), .inl (cA 0, 5000, .inl f_stepA))] sz) [((am 0), .inr (9, F9 am v_status v_now v_told v_merges v_taped v_size v_from v_to v_fault v_readFault v_traits v_length v_open v_leaks v_places v_models)), ((am 33), .inl (cA 0, 10, .inl f_uses)), ((am 12), .inl (cA 0, 20, .inl f_size0)), ((am 13), .inl (cA 0, 5000, .inl f_step)), ((am 14), .inl (cA 0, 5000, .inl f_stepA))]) (va_A [((am 0), .inr (9, F9 am v_status v_now v_told v_merges v_taped v_size v_from v_to v_fault v_readFault v_traits v_length v_open v_leaks v_places v_models)), ((am 33), .inl (cA 0, 10, .inl f_uses)), ((am 12), .inl (cA 0, 20, .inl f_size0)), ((am 13), .inl (cA 0, 5000, .inl f_step)), ((am 14), .inl (cA 0, 5000, .inl f_stepA))] sz)) 0 0 (va_A [((am 0), .inr (9, F9 am v_status v_now v_told v_merges v_taped v_size v_from v_to v_fault v_readFault v_traits v_length v_open v_leaks v_places v_models)), ((am 33), .inl (cA 0, 10, .inl f_uses)), ((am 12), .inl (cA 0, 20, .inl f_size0)), ((am 13), .inl (cA 0, 5000, .inl f_step)), ((am 14), .inl (cA 0, 5000, .inl f_stepA))] sz) := by
  refine Met.ofW (cc := cX9_needed) (maxL := 2) (ret := (some .int)) (by decide) rfl ?_
  intro p e s m args below meth c s₁ B hml hv
  obtain ⟨rfl, hsz, hP, hK, hD0, hN⟩ := hv
  have hx := B.exec
  have hb := B.bytes
  have hr := B.returns
  have hts := atoms_spec (ws := wsX9_needed) B.pre
  have hown : s.vm.findClass RX9 = some m.cls := findClass_of_methodNamed B.named
  have hlocks := B.notSynchronized
  subst hsz
  have hD := hD0.self (sz := s.heap.size)
  generalize hAe : va_A [((am 0), .inr (9, F9 am v_status v_now v_told v_merges v_taped v_size v_from v_to v_fault v_readFault v_traits v_length v_open v_leaks v_places v_models)), ((am 33), .inl (cA 0, 10, .inl f_uses)), ((am 12), .inl (cA 0, 20, .inl f_size0)), ((am 13), .inl (cA 0, 5000, .inl f_step)), ((am 14), .inl (cA 0, 5000, .inl f_stepA))] s.heap.size = A at hD ⊢
  have hA : ∀ q : Nat, s.heap.size ≤ q → A q := fun q h => by rw [← hAe]; exact Or.inr h
  have hS : va_S A s.heap s.heap [] := va_S.rf
  have hIX9 : ∀ w ∈ u_ws RX9 TX9 51, w ∈ wsX9_needed := by decide +kernel
  have hl := lv_entry ([.ref (am 0), .int a]) (n := 2) (Nat.le_of_ble_eq_true rfl)
  rw [lg_entry_eq]
  generalize (lg_sl ([.ref (am 0), .int a]) ++ List.replicate (2 - (lg_sl ([.ref (am 0), .int a])).length) Slot.unset).toArray = ls at hl ⊢
  have hl : lv_has ls 2 [(0, .ref (am 0)), (1, .int a)] := hl
  generalize hQe : MQ below _ _ _ _ _ _ = QQ
  refine lv_iload_n hx hb dX9_needed_0 rfl (lv_at hl 1 rfl) ?_
  obtain ⟨y_1, ey_1⟩ : ∃ y : Int64, y = a.toInt64 := ⟨_, rfl⟩
  have dy_1 : y_1.toInt = a.toInt := by rw [ey_1]; exact Int32.toInt_toInt64 _
  refine lv_i2l (v := y_1) hx hb dX9_needed_1 ey_1.symm ?_
  refine lv_lconst (v := 0) hx hb dX9_needed_2 (by decide) ?_
  refine lv_aload_n hx hb dX9_needed_3 rfl (lv_at hl 0 rfl) ?_
  refine va_get (D := (dC, dI)) (ci := 9) (v := .int v_models) (C := RX9) (T := TX9) (N := 51) hx hb hts hIX9 hown hK hP 0 rfl rfl 47 (by decide) (hts (.fieldLink RX9 323 "TraitHouseModel" "models" "I") (by decide +kernel)) (fun _ h9 => h9) rfl dX9_needed_4 ?_
  refine lv_iconst (v := 1) hx hb dX9_needed_7 (by decide) ?_
  refine lv_isub hx hb dX9_needed_8 ?_
  refine lv_topi (fun x_2 ex_2 => ?_)
  have dx_2 : x_2.toInt = v_models.toInt - 1 := by rw [ex_2]; exact jI_sub rfl (by decide) (by omega) (by omega)
  obtain ⟨y_3, ey_3⟩ : ∃ y : Int64, y = x_2.toInt64 := ⟨_, rfl⟩
  have dy_3 : y_3.toInt = x_2.toInt := by rw [ey_3]; exact Int32.toInt_toInt64 _
  refine lv_i2l (v := y_3) hx hb dX9_needed_9 ey_3.symm ?_
  have hk_4 : (0 : Int64).toInt = 0 := by decide
  obtain ⟨hPc, hDc, hFc, hCc⟩ := va_pre (ws' := []) hP hD hS hA [] (by decide) rfl
  refine va_calli (va_runS (As := [.long y_1, .long 0, .long y_3]) (rest := []) ⟨hx, hb, hml, hown, hts⟩ (k_X9_in l dC dI cA s.heap.size y_1 0 y_3 ) (va_cwS 3 hts gX9_needed_X9_in rfl rfl rfl (by decide +kernel) ⟨Nat.le_of_ble_eq_true rfl, Nat.le_of_ble_eq_true rfl⟩) ⟨fun a U g mk q => by obtain ⟨q0, q1, qP, qK, qD, qN⟩ := q; exact ⟨q0, q1, qP, va_K.moved (u := U) (U := U.calling g mk a) (Vm.Alike.refl U.vm) qK, qD, qN.same rfl⟩, fun U hU hW => ⟨rfl, by rw [hU], by rw [hU]; exact hPc, va_K.moved hW.alike hK, hDc.weaken (fun _ _ _ _ => trivial), hN.warm hW⟩⟩ rfl rfl hl.1 rfl (lv_room (Nat.le_of_ble_eq_true rfl)) dX9_needed_10 ⟨Nat.le_of_ble_eq_true rfl, Nat.le_of_ble_eq_true rfl⟩) hS (fun q _ h => hFc q h) hFc (fun r_5 u_6 t H1 locs ht hvm hw_7 hB hz1 hk1 hS => ?_)
  try dsimp only at hw_7 hB
  have po_8 := hw_7
  clear hw_7
  try simp only [hk_4] at po_8
  obtain ⟨hP1, hD1⟩ := hB
  rw [ht] at hP1
  obtain ⟨hP, hD⟩ := va_join (wr := [((am 0), .inr (9, F9 am v_status v_now v_told v_merges v_taped v_size v_from v_to v_fault v_readFault v_traits v_length v_open v_leaks v_places v_models)), ((am 33), .inl (cA 0, 10, .inl f_uses)), ((am 12), .inl (cA 0, 20, .inl f_size0)), ((am 13), .inl (cA 0, 5000, .inl f_step)), ((am 14), .inl (cA 0, 5000, .inl f_stepA))]) (w1 := []) hP hD [] [0, 1, 2, 3, 4] hCc rfl (by decide) (by decide) hk1 hFc hP1 hD1
  clear hz1
  generalize H1 = H at hP hS ⊢
  refine lv_if_eq (tgt := 24) hx hb dX9_needed_13 (by decide) (fun c_9 => ?_) (fun c_9 => ?_)
  · have dc_9 : r_5.toInt = 0 := jI_eq c_9 rfl (by decide)
    refine lv_iconst (v := 0) hx hb dX9_needed_24 (by decide) ?_
    obtain ⟨hP9, hD9⟩ := va_pd (ws' := [((am 0), .inr (9, F9 am v_status v_now v_told v_merges v_taped v_size v_from v_to v_fault v_readFault v_traits v_length v_open v_leaks v_places v_models)), ((am 33), .inl (cA 0, 10, .inl f_uses)), ((am 12), .inl (cA 0, 20, .inl f_size0)), ((am 13), .inl (cA 0, 5000, .inl f_step)), ((am 14), .inl (cA 0, 5000, .inl f_stepA))]) hP hD [0, 1, 2, 3, 4] (by decide) rfl
    subst hQe
    have hans : (0 : Int32).toInt = 0 := (by decide)
    have hpost : ((0 ≤ a.toInt ∧ a.toInt < v_models.toInt → (0 : Int32) = dsc (rdR f_step f_stepA f_size0) (f_uses a.toNatClampNeg) v_traits.toInt.toNat) ∧ (¬ (0 ≤ a.toInt ∧ a.toInt < v_models.toInt) → (0 : Int32).toInt = 0)) := ⟨fun h => by exfalso; omega, fun _ => by omega⟩
    exact W.iret (v := 0) hx hb hr (fun t ht hW => ⟨⟨0, (), rfl, hpost, by rw [ht]; exact hP9, hD9⟩, hS.F ht⟩) hS.2.2 dX9_needed_25
  · have dc_9 : ¬ r_5.toInt = 0 := jI_ne c_9 rfl (by decide)
    refine lv_aload_n hx hb dX9_needed_16 rfl (lv_at hl 0 rfl) ?_
    refine lv_iload_n hx hb dX9_needed_17 rfl (lv_at hl 1 rfl) ?_
    obtain ⟨hPc, hDc, hFc, hCc⟩ := va_pre (ws' := [((am 0), .inr (9, F9 am v_status v_now v_told v_merges v_taped v_size v_from v_to v_fault v_readFault v_traits v_length v_open v_leaks v_places v_models)), ((am 33), .inl (cA 0, 10, .inl f_uses)), ((am 12), .inl (cA 0, 20, .inl f_size0)), ((am 13), .inl (cA 0, 5000, .inl f_step)), ((am 14), .inl (cA 0, 5000, .inl f_stepA))]) hP hD hS hA [0, 1, 2, 3, 4] (by decide) rfl
    refine va_calli (va_runV (As := [.int a]) (rest := []) ⟨hx, hb, hml, hown, hts⟩ (k_X9_neededOf l dC dI cA H.size am v_status v_now v_told v_merges v_taped v_size v_from v_to v_fault v_readFault v_traits v_length v_open v_leaks v_places v_models f_uses f_size0 f_step f_stepA a i_v_now i_v_told i_v_taped i_v_size i_v_from i_v_to i_v_traits i_v_length i_v_open i_v_places i_v_models i_f_size0 (by omega)) (cwV 1 hts gX9_needed_X9_neededOf rfl rfl rfl (by decide +kernel) ⟨Nat.le_of_ble_eq_true rfl, Nat.le_of_ble_eq_true rfl⟩) ⟨fun a U g mk q => by obtain ⟨q0, q1, qP, qK, qD, qN⟩ := q; exact ⟨q0, q1, qP, va_K.moved (u := U) (U := U.calling g mk a) (Vm.Alike.refl U.vm) qK, qD, qN.same rfl⟩, va_recv hK hPc (ci := 9) (q0 := 0) rfl rfl, fun U hU hW => ⟨rfl, by rw [hU], by rw [hU]; exact hPc, va_K.moved hW.alike hK, hDc.weaken (fun _ _ _ _ => trivial), hN.warm hW⟩⟩ rfl rfl hl.1 rfl (lv_room (Nat.le_of_ble_eq_true rfl)) dX9_needed_18 ⟨Nat.le_of_ble_eq_true rfl, Nat.le_of_ble_eq_true rfl⟩) hS (fun q _ h => hFc q h) hFc (fun r_10 u_11 t H1 locs ht hvm hw_12 hB hz1 hk1 hS => ?_)
    try dsimp only at hw_12 hB
    have po_13 := hw_12
    clear hw_12
    obtain ⟨hP1, hD1⟩ := hB
    rw [ht] at hP1
    obtain ⟨hP, hD⟩ := va_join (wr := []) (w1 := [((am 0), .inr (9, F9 am v_status v_now v_told v_merges v_taped v_size v_from v_to v_fault v_readFault v_traits v_length v_open v_leaks v_places v_models)), ((am 33), .inl (cA 0, 10, .inl f_uses)), ((am 12), .inl (cA 0, 20, .inl f_size0)), ((am 13), .inl (cA 0, 5000, .inl f_step)), ((am 14), .inl (cA 0, 5000, .inl f_stepA))]) hP hD [0, 1, 2, 3, 4] [] hCc rfl (by decide) (by decide) hk1 hFc hP1 hD1
    clear hz1
    generalize H1 = H at hP hS ⊢
    refine lv_goto (tgt := 25) hx hb dX9_needed_21 (by decide) ?_
    obtain ⟨hP9, hD9⟩ := va_pd (ws' := [((am 0), .inr (9, F9 am v_status v_now v_told v_merges v_taped v_size v_from v_to v_fault v_readFault v_traits v_length v_open v_leaks v_places v_models)), ((am 33), .inl (cA 0, 10, .inl f_uses)), ((am 12), .inl (cA 0, 20, .inl f_size0)), ((am 13), .inl (cA 0, 5000, .inl f_step)), ((am 14), .inl (cA 0, 5000, .inl f_stepA))]) hP hD [0, 1, 2, 3, 4] (by decide) rfl
    subst hQe
    have hans : (r_10 : Int32).toInt = r_10.toInt := rfl
    have hpost : ((0 ≤ a.toInt ∧ a.toInt < v_models.toInt → (r_10 : Int32) = dsc (rdR f_step f_stepA f_size0) (f_uses a.toNatClampNeg) v_traits.toInt.toNat) ∧ (¬ (0 ≤ a.toInt ∧ a.toInt < v_models.toInt) → (r_10 : Int32).toInt = 0)) := ⟨fun _ => po_13, fun h => by exfalso; omega⟩
    exact W.iret (v := r_10) hx hb hr (fun t ht hW => ⟨⟨r_10, (), rfl, hpost, by rw [ht]; exact hP9, hD9⟩, hS.F ht⟩) hS.2.2 dX9_needed_25

set_option maxHeartbeats 8000000 in
set_option maxRecDepth 100000 in
theorem k_X9_hung (l : Launch) (dC : Nat → ClassId) (dI : Nat → Nat → Nat) (cA : Nat → ClassId) (sz : Nat) (am : Nat → Nat) (v_status : Int32) (v_now : Int32) (v_told : Int32) (v_merges : Int32) (v_taped : Int32) (v_size : Int32) (v_from : Int32) (v_to : Int32) (v_fault : Int32) (v_readFault : Int32) (v_traits : Int32) (v_length : Int32) (v_open : Int32) (v_leaks : Int32) (v_places : Int32) (v_models : Int32) (f_uses : Nat → Int32) (f_size0 : Nat → Int32) (f_step : Nat → Int32) (f_stepA : Nat → Int32) (a : Int32) (i_v_now : 0 ≤ v_now.toInt ∧ v_now.toInt ≤ 100000) (i_v_told : 0 ≤ v_told.toInt ∧ v_told.toInt ≤ 400) (i_v_taped : 0 ≤ v_taped.toInt ∧ v_taped.toInt ≤ 200) (i_v_size : 0 ≤ v_size.toInt ∧ v_size.toInt ≤ 200) (i_v_from : 0 ≤ v_from.toInt ∧ v_from.toInt ≤ 200) (i_v_to : 0 ≤ v_to.toInt ∧ v_to.toInt ≤ 200) (i_v_traits : 0 ≤ v_traits.toInt ∧ v_traits.toInt ≤ 20) (i_v_length : 0 ≤ v_length.toInt ∧ v_length.toInt ≤ 200) (i_v_open : 0 ≤ v_open.toInt ∧ v_open.toInt ≤ 8) (i_v_places : 0 ≤ v_places.toInt ∧ v_places.toInt ≤ 2000) (i_v_models : 0 ≤ v_models.toInt ∧ v_models.toInt ≤ 10) (i_f_size0 : inB 0 200 20 f_size0)  : Met l yX9_hung wsX9_hung ({ frames := 2, cells := 0, slots := 0, locals := 46 }) (va_Pc [.ref (am 0), .int a] (fun U => U.heap.size = sz ∧ va_P (dC, dI) vwCl [((am 0), .inr (9, F9 am v_status v_now v_told v_merges v_taped v_size v_from v_to v_fault v_readFault v_traits v_length v_open v_leaks v_places v_models)), ((am 33), .inl (cA 0, 10, .inl f_uses)), ((am 12), .inl (cA 0, 20, .inl f_size0)), ((am 13), .inl (cA 0, 5000, .inl f_step)), ((am 14), .inl (cA 0, 5000, .inl f_stepA))] U.heap ∧ va_K (dC, dI) vwCl (tyL cA) U ∧ va_D (fun _ => True) [((am 0), .inr (9, F9 am v_status v_now v_told v_merges v_taped v_size v_from v_to v_fault v_readFault v_traits v_length v_open v_leaks v_places v_models)), ((am 33), .inl (cA 0, 10, .inl f_uses)), ((am 12), .inl (cA 0, 20, .inl f_size0)), ((am 13), .inl (cA 0, 5000, .inl f_step)), ((am 14), .inl (cA 0, 5000, .inl f_stepA))] ∧ nw_ok U)) (va_Qi (fun (r : Int32) (_ : Unit) => ((0 ≤ a.toInt ∧ a.toInt < v_traits.toInt → r.toInt = (hgc (fun k => dsc (rdR f_step f_stepA f_size0) (f_uses k) v_traits.toInt.toNat) a.toInt.toNat v_models.toInt.toNat : Int)) ∧ (¬ (0 ≤ a.toInt ∧ a.toInt < v_traits.toInt) → r.toInt = (-1)))) (fun (_ : Unit) (t : State) => va_P (dC, dI) vwCl [((am 0), .inr (9, F9 am v_status v_now v_told v_merges v_taped v_size v_from v_to v_fault v_readFault v_traits v_length v_open v_leaks v_places v_models)), ((am 33), .inl (cA 0, 10, .inl f_uses)), ((am 12), .inl (cA 0, 20, .inl f_size0)), ((am 13), .inl (cA 0, 5000, .inl f_step)), ((am 14), .inl (cA 0, 5000, .inl f_stepA))] t.heap ∧ va_D (va_A [((am 0), .inr (9, F9 am v_status v_now v_told v_merges v_taped v_size v_from v_to v_fault v_readFault v_traits v_length v_open v_leaks v_places v_models)), ((am 33), .inl (cA 0, 10, .inl f_uses)), ((am 12), .inl (cA 0, 20, .inl f_size0)), ((am 13), .inl (cA 0, 5000, .inl f_step)), ((am 14), .inl (cA 0, 5000, .inl f_stepA))] sz) [((am 0), .inr (9, F9 am v_status v_now v_told v_merges v_taped v_size v_from v_to v_fault v_readFault v_traits v_length v_open v_leaks v_places v_models)), ((am 33), .inl (cA 0, 10, .inl f_uses)), ((am 12), .inl (cA 0, 20, .inl f_size0)), ((am 13), .inl (cA 0, 5000, .inl f_step)), ((am 14), .inl (cA 0, 5000, .inl f_stepA))]) (va_A [((am 0), .inr (9, F9 am v_status v_now v_told v_merges v_taped v_size v_from v_to v_fault v_readFault v_traits v_length v_open v_leaks v_places v_models)), ((am 33), .inl (cA 0, 10, .inl f_uses)), ((am 12), .inl (cA 0, 20, .inl f_size0)), ((am 13), .inl (cA 0, 5000, .inl f_step)), ((am 14), .inl (cA 0, 5000, .inl f_stepA))] sz)) 0 0 (va_A [((am 0), .inr (9, F9 am v_status v_now v_told v_merges v_taped v_size v_from v_to v_fault v_readFault v_traits v_length v_open v_leaks v_places v_models)), ((am 33), .inl (cA 0, 10, .inl f_uses)), ((am 12), .inl (cA 0, 20, .inl f_size0)), ((am 13), .inl (cA 0, 5000, .inl f_step)), ((am 14), .inl (cA 0, 5000, .inl f_stepA))] sz) := by
  refine Met.ofW (cc := cX9_hung) (maxL := 4) (ret := (some .int)) (by decide) rfl ?_
  intro p e s m args below meth c s₁ B hml hv
  obtain ⟨rfl, hsz, hP, hK, hD0, hN⟩ := hv
  have hx := B.exec
  have hb := B.bytes
  have hr := B.returns
  have hts := atoms_spec (ws := wsX9_hung) B.pre
  have hown : s.vm.findClass RX9 = some m.cls := findClass_of_methodNamed B.named
  have hlocks := B.notSynchronized
  subst hsz
  have hD := hD0.self (sz := s.heap.size)
  generalize hAe : va_A [((am 0), .inr (9, F9 am v_status v_now v_told v_merges v_taped v_size v_from v_to v_fault v_readFault v_traits v_length v_open v_leaks v_places v_models)), ((am 33), .inl (cA 0, 10, .inl f_uses)), ((am 12), .inl (cA 0, 20, .inl f_size0)), ((am 13), .inl (cA 0, 5000, .inl f_step)), ((am 14), .inl (cA 0, 5000, .inl f_stepA))] s.heap.size = A at hD ⊢
  have hA : ∀ q : Nat, s.heap.size ≤ q → A q := fun q h => by rw [← hAe]; exact Or.inr h
  have hS : va_S A s.heap s.heap [] := va_S.rf
  have hIX9 : ∀ w ∈ u_ws RX9 TX9 51, w ∈ wsX9_hung := by decide +kernel
  have hl := lv_entry ([.ref (am 0), .int a]) (n := 4) (Nat.le_of_ble_eq_true rfl)
  rw [lg_entry_eq]
  generalize (lg_sl ([.ref (am 0), .int a]) ++ List.replicate (4 - (lg_sl ([.ref (am 0), .int a])).length) Slot.unset).toArray = ls at hl ⊢
  have hl : lv_has ls 4 [(0, .ref (am 0)), (1, .int a)] := hl
  generalize hQe : MQ below _ _ _ _ _ _ = QQ
  refine lv_aload_n hx hb dX9_hung_0 rfl (lv_at hl 0 rfl) ?_
  refine lv_iload_n hx hb dX9_hung_1 rfl (lv_at hl 1 rfl) ?_
  obtain ⟨hPc, hDc, hFc, hCc⟩ := va_pre (ws' := [((am 0), .inr (9, F9 am v_status v_now v_told v_merges v_taped v_size v_from v_to v_fault v_readFault v_traits v_length v_open v_leaks v_places v_models))]) hP hD hS hA [0] (by decide) rfl
  refine va_calli (va_runV (As := [.int a]) (rest := []) ⟨hx, hb, hml, hown, hts⟩ (k_X9_isTrait l dC dI cA s.heap.size am v_status v_now v_told v_merges v_taped v_size v_from v_to v_fault v_readFault v_traits v_length v_open v_leaks v_places v_models a i_v_now i_v_told i_v_taped i_v_size i_v_from i_v_to i_v_traits i_v_length i_v_open i_v_places i_v_models) (cwV 1 hts gX9_hung_X9_isTrait rfl rfl rfl (by decide +kernel) ⟨Nat.le_of_ble_eq_true rfl, Nat.le_of_ble_eq_true rfl⟩) ⟨fun a U g mk q => by obtain ⟨q0, q1, qP, qK, qD, qN⟩ := q; exact ⟨q0, q1, qP, va_K.moved (u := U) (U := U.calling g mk a) (Vm.Alike.refl U.vm) qK, qD, qN.same rfl⟩, va_recv hK hPc (ci := 9) (q0 := 0) rfl rfl, fun U hU hW => ⟨rfl, by rw [hU], by rw [hU]; exact hPc, va_K.moved hW.alike hK, hDc.weaken (fun _ _ _ _ => trivial), hN.warm hW⟩⟩ rfl rfl hl.1 rfl (lv_room (Nat.le_of_ble_eq_true rfl)) dX9_hung_2 ⟨Nat.le_of_ble_eq_true rfl, Nat.le_of_ble_eq_true rfl⟩) hS (fun q _ h => hFc q h) hFc (fun r_1 u_2 t H1 locs ht hvm hw_3 hB hz1 hk1 hS => ?_)
  try dsimp only at hw_3 hB
  have po_4 := hw_3
  clear hw_3
  obtain ⟨hP1, hD1⟩ := hB
  rw [ht] at hP1
  obtain ⟨hP, hD⟩ := va_join (wr := [((am 33), .inl (cA 0, 10, .inl f_uses)), ((am 12), .inl (cA 0, 20, .inl f_size0)), ((am 13), .inl (cA 0, 5000, .inl f_step)), ((am 14), .inl (cA 0, 5000, .inl f_stepA))]) (w1 := [((am 0), .inr (9, F9 am v_status v_now v_told v_merges v_taped v_size v_from v_to v_fault v_readFault v_traits v_length v_open v_leaks v_places v_models))]) hP hD [0] [1, 2, 3, 4] hCc rfl (by decide) (by decide) hk1 hFc hP1 hD1
  clear hz1
  generalize H1 = H at hP hS ⊢
  refine lv_if_ne (tgt := 10) hx hb dX9_hung_5 (by decide) (fun c_5 => ?_) (fun c_5 => ?_)
  · have dc_5 : ¬ r_1.toInt = 0 := jI_ne c_5 rfl (by decide)
    refine lv_iconst (v := 0) hx hb dX9_hung_10 (by decide) ?_
    refine lv_istore_n (lv' := [(2, .int 0), (0, .ref (am 0)), (1, .int a)]) hx hb dX9_hung_11 rfl hl (by decide) rfl (fun ls hl => ?_)
    refine lv_iconst (v := 0) hx hb dX9_hung_12 (by decide) ?_
    refine lv_istore_n (lv' := [(3, .int 0), (2, .int 0), (0, .ref (am 0)), (1, .int a)]) hx hb dX9_hung_13 rfl hl (by decide) rfl (fun ls hl => ?_)
    have loop14_6 : ∀ (n : Nat) (i3 : Int32) (n2 : Int32) (H : Heap) (locs : List Loc) (ls : Array Slot), 10 - i3.toInt < (n : Int) → (0 ≤ i3.toInt ∧ i3.toInt ≤ 10) → (0 ≤ n2.toInt ∧ n2.toInt ≤ 10) → (n2.toInt ≤ i3.toInt ∧ i3.toInt ≤ v_models.toInt) → (n2.toInt = (hgc (fun k => dsc (rdR f_step f_stepA f_size0) (f_uses k) v_traits.toInt.toNat) a.toInt.toNat i3.toInt.toNat : Int)) → va_P (dC, dI) vwCl [((am 33), .inl (cA 0, 10, .inl f_uses)), ((am 12), .inl (cA 0, 20, .inl f_size0)), ((am 13), .inl (cA 0, 5000, .inl f_step)), ((am 14), .inl (cA 0, 5000, .inl f_stepA)), ((am 0), .inr (9, F9 am v_status v_now v_told v_merges v_taped v_size v_from v_to v_fault v_readFault v_traits v_length v_open v_leaks v_places v_models))] H → va_D A [((am 33), .inl (cA 0, 10, .inl f_uses)), ((am 12), .inl (cA 0, 20, .inl f_size0)), ((am 13), .inl (cA 0, 5000, .inl f_step)), ((am 14), .inl (cA 0, 5000, .inl f_stepA)), ((am 0), .inr (9, F9 am v_status v_now v_told v_merges v_taped v_size v_from v_to v_fault v_readFault v_traits v_length v_open v_leaks v_places v_models))] → va_S A s.heap H locs → lv_has ls 4 [(3, .int i3), (2, .int n2), (0, .ref (am 0)), (1, .int a)] → W p l e ({ frames := 2, cells := 0, slots := 0, locals := 46 }) s m ([.ref (am 0), .int a] : List Value).toArray below meth c H locs 0 0 QQ (F0 m 14 ls []) := by
      intro n
      induction n with
      | zero => intro i3 n2 H locs ls hme hv0_14 hv1_14 hv2_14 hv3_14; exfalso; omega
      | succ n ih_14 =>
        intro i3 n2 H locs ls hme_14 hv0_14 hv1_14 hv2_14 hv3_14 hP hD hS hl
        refine lv_iload_n hx hb dX9_hung_14 rfl (lv_at hl 0 rfl) ?_
        refine lv_aload_n hx hb dX9_hung_15 rfl (lv_at hl 2 rfl) ?_
        refine va_get (D := (dC, dI)) (ci := 9) (v := .int v_models) (C := RX9) (T := TX9) (N := 51) hx hb hts hIX9 hown hK hP 4 rfl rfl 47 (by decide) (hts (.fieldLink RX9 323 "TraitHouseModel" "models" "I") (by decide +kernel)) (fun _ h9 => h9) rfl dX9_hung_16 ?_
        refine lv_icmp_ge (tgt := 40) hx hb dX9_hung_19 (by decide) (fun c_7 => ?_) (fun c_7 => ?_)
        · have dc_7 : v_models.toInt ≤ i3.toInt := jI_le c_7 rfl rfl
          refine lv_iload_n hx hb dX9_hung_40 rfl (lv_at hl 1 rfl) ?_
          obtain ⟨hP9, hD9⟩ := va_pd (ws' := [((am 0), .inr (9, F9 am v_status v_now v_told v_merges v_taped v_size v_from v_to v_fault v_readFault v_traits v_length v_open v_leaks v_places v_models)), ((am 33), .inl (cA 0, 10, .inl f_uses)), ((am 12), .inl (cA 0, 20, .inl f_size0)), ((am 13), .inl (cA 0, 5000, .inl f_step)), ((am 14), .inl (cA 0, 5000, .inl f_stepA))]) hP hD [4, 0, 1, 2, 3] (by decide) rfl
          subst hQe
          have hans : (n2 : Int32).toInt = n2.toInt := rfl
          have hpost : ((0 ≤ a.toInt ∧ a.toInt < v_traits.toInt → (n2 : Int32).toInt = (hgc (fun k => dsc (rdR f_step f_stepA f_size0) (f_uses k) v_traits.toInt.toNat) a.toInt.toNat v_models.toInt.toNat : Int)) ∧ (¬ (0 ≤ a.toInt ∧ a.toInt < v_traits.toInt) → (n2 : Int32).toInt = (-1))) := ⟨fun _ => (by have h9 := hv3_14; rw [show i3.toInt.toNat = v_models.toInt.toNat by omega] at h9; exact h9), fun h => by exfalso; omega⟩
          exact W.iret (v := n2) hx hb hr (fun t ht hW => ⟨⟨n2, (), rfl, hpost, by rw [ht]; exact hP9, hD9⟩, hS.F ht⟩) hS.2.2 dX9_hung_41
        · have dc_7 : i3.toInt < v_models.toInt := jI_nle c_7 rfl rfl
          refine lv_iload_n hx hb dX9_hung_22 rfl (lv_at hl 1 rfl) ?_
          refine lv_aload_n hx hb dX9_hung_23 rfl (lv_at hl 2 rfl) ?_
          refine lv_iload_n hx hb dX9_hung_24 rfl (lv_at hl 0 rfl) ?_
          obtain ⟨hPc, hDc, hFc, hCc⟩ := va_pre (ws' := [((am 0), .inr (9, F9 am v_status v_now v_told v_merges v_taped v_size v_from v_to v_fault v_readFault v_traits v_length v_open v_leaks v_places v_models)), ((am 33), .inl (cA 0, 10, .inl f_uses)), ((am 12), .inl (cA 0, 20, .inl f_size0)), ((am 13), .inl (cA 0, 5000, .inl f_step)), ((am 14), .inl (cA 0, 5000, .inl f_stepA))]) hP hD hS hA [4, 0, 1, 2, 3] (by decide) rfl
          refine va_calli (va_runV (As := [.int i3]) (rest := [.int n2]) ⟨hx, hb, hml, hown, hts⟩ (k_X9_neededOf l dC dI cA H.size am v_status v_now v_told v_merges v_taped v_size v_from v_to v_fault v_readFault v_traits v_length v_open v_leaks v_places v_models f_uses f_size0 f_step f_stepA i3 i_v_now i_v_told i_v_taped i_v_size i_v_from i_v_to i_v_traits i_v_length i_v_open i_v_places i_v_models i_f_size0 (by omega)) (cwV 1 hts gX9_hung_X9_neededOf rfl rfl rfl (by decide +kernel) ⟨Nat.le_of_ble_eq_true rfl, Nat.le_of_ble_eq_true rfl⟩) ⟨fun a U g mk q => by obtain ⟨q0, q1, qP, qK, qD, qN⟩ := q; exact ⟨q0, q1, qP, va_K.moved (u := U) (U := U.calling g mk a) (Vm.Alike.refl U.vm) qK, qD, qN.same rfl⟩, va_recv hK hPc (ci := 9) (q0 := 0) rfl rfl, fun U hU hW => ⟨rfl, by rw [hU], by rw [hU]; exact hPc, va_K.moved hW.alike hK, hDc.weaken (fun _ _ _ _ => trivial), hN.warm hW⟩⟩ rfl rfl hl.1 rfl (lv_room (Nat.le_of_ble_eq_true rfl)) dX9_hung_25 ⟨Nat.le_of_ble_eq_true rfl, Nat.le_of_ble_eq_true rfl⟩) hS (fun q _ h => hFc q h) hFc (fun r_8 u_9 t H1 locs ht hvm hw_10 hB hz1 hk1 hS => ?_)
          try dsimp only at hw_10 hB
          have po_11 := hw_10
          clear hw_10
          obtain ⟨hP1, hD1⟩ := hB
          rw [ht] at hP1
          obtain ⟨hP, hD⟩ := va_join (wr := []) (w1 := [((am 0), .inr (9, F9 am v_status v_now v_told v_merges v_taped v_size v_from v_to v_fault v_readFault v_traits v_length v_open v_leaks v_places v_models)), ((am 33), .inl (cA 0, 10, .inl f_uses)), ((am 12), .inl (cA 0, 20, .inl f_size0)), ((am 13), .inl (cA 0, 5000, .inl f_step)), ((am 14), .inl (cA 0, 5000, .inl f_stepA))]) hP hD [4, 0, 1, 2, 3] [] hCc rfl (by decide) (by decide) hk1 hFc hP1 hD1
          clear hz1
          generalize H1 = H at hP hS ⊢
          refine lv_iload_n hx hb dX9_hung_28 rfl (lv_at hl 3 rfl) ?_
          refine lv_ishr hx hb dX9_hung_29 ?_
          refine lv_topi (fun x_12 ex_12 => ?_)
          refine lv_iconst (v := 1) hx hb dX9_hung_30 (by decide) ?_
          refine lv_iand hx hb dX9_hung_31 ?_
          refine lv_topi (fun x_13 ex_13 => ?_)
          have dx_13 : 0 ≤ x_13.toInt ∧ x_13.toInt ≤ 1 := by rw [ex_13]; exact jI_mask _ 1 (by decide) (by decide)
          refine lv_iadd hx hb dX9_hung_32 ?_
          refine lv_topi (fun x_14 ex_14 => ?_)
          have dx_14 : x_14.toInt = n2.toInt + x_13.toInt := by rw [ex_14]; exact jI_add rfl rfl (by omega) (by omega)
          refine lv_istore_n (lv' := [(2, .int x_14), (3, .int i3), (0, .ref (am 0)), (1, .int a)]) hx hb dX9_hung_33 rfl hl (by decide) rfl (fun ls hl => ?_)
          obtain ⟨x_15, ex_15⟩ : ∃ y : Int32, y = i3 + 1 := ⟨_, rfl⟩
          have dx_15 : x_15.toInt = i3.toInt + 1 := by rw [ex_15]; exact jI_add rfl (by decide) (by omega) (by omega)
          refine lv_iinc (v := x_15) (lv' := [(3, .int x_15), (2, .int x_14), (0, .ref (am 0)), (1, .int a)]) hx hb dX9_hung_34 hl (k := 1) rfl (by rw [ex_15]; rfl) (by decide) rfl (fun ls hl => ?_)
          refine lv_goto (tgt := 14) hx hb dX9_hung_37 (by decide) ?_
          exact ih_14 x_15 x_14 _ _ ls (by omega) (by omega) (by omega) (by omega) ((by by_cases q9 : x_13.toInt = 0; exact hgc_0 hv3_14 (by omega) po_11 (fun h => absurd q9 ((tb_sar ex_12 ex_13 (by omega) (by omega)).mpr h)) (by omega) (by omega); exact hgc_1 hv3_14 (by omega) po_11 ((tb_sar ex_12 ex_13 (by omega) (by omega)).mp q9) (by omega) (by omega))) (hP.sub [1, 2, 3, 4, 0] rfl) (hD.sub [1, 2, 3, 4, 0] (by decide) rfl) hS (lv_sub hl [0, 1, 2, 3] rfl)
    have hk_16 : (0 : Int32).toInt = 0 := by decide
    have hk_17 : (0 : Int32).toInt = 0 := by decide
    exact loop14_6 (Int.toNat (10 - (0 : Int32).toInt) + 1) 0 0 _ _ ls (by omega) (by omega) (by omega) (by omega) (rfl) hP hD hS (lv_sub hl [0, 1, 2, 3] rfl)
  · have dc_5 : r_1.toInt = 0 := jI_eq c_5 rfl (by decide)
    refine lv_iconst (v := (-1)) hx hb dX9_hung_8 (by decide) ?_
    obtain ⟨hP9, hD9⟩ := va_pd (ws' := [((am 0), .inr (9, F9 am v_status v_now v_told v_merges v_taped v_size v_from v_to v_fault v_readFault v_traits v_length v_open v_leaks v_places v_models)), ((am 33), .inl (cA 0, 10, .inl f_uses)), ((am 12), .inl (cA 0, 20, .inl f_size0)), ((am 13), .inl (cA 0, 5000, .inl f_step)), ((am 14), .inl (cA 0, 5000, .inl f_stepA))]) hP hD [4, 0, 1, 2, 3] (by decide) rfl
    subst hQe
    have hans : ((-1) : Int32).toInt = (-1) := (by decide)
    have hpost : ((0 ≤ a.toInt ∧ a.toInt < v_traits.toInt → ((-1) : Int32).toInt = (hgc (fun k => dsc (rdR f_step f_stepA f_size0) (f_uses k) v_traits.toInt.toNat) a.toInt.toNat v_models.toInt.toNat : Int)) ∧ (¬ (0 ≤ a.toInt ∧ a.toInt < v_traits.toInt) → ((-1) : Int32).toInt = (-1))) := ⟨fun h => by exfalso; omega, fun _ => by omega⟩
    exact W.iret (v := (-1)) hx hb hr (fun t ht hW => ⟨⟨(-1), (), rfl, hpost, by rw [ht]; exact hP9, hD9⟩, hS.F ht⟩) hS.2.2 dX9_hung_9

set_option maxHeartbeats 8000000 in
set_option maxRecDepth 100000 in
theorem k_X9_isKept (l : Launch) (dC : Nat → ClassId) (dI : Nat → Nat → Nat) (cA : Nat → ClassId) (sz : Nat) (am : Nat → Nat) (v_status : Int32) (v_now : Int32) (v_told : Int32) (v_merges : Int32) (v_taped : Int32) (v_size : Int32) (v_from : Int32) (v_to : Int32) (v_fault : Int32) (v_readFault : Int32) (v_traits : Int32) (v_length : Int32) (v_open : Int32) (v_leaks : Int32) (v_places : Int32) (v_models : Int32) (f_hasKept : Nat → Int32) (tt : Int32) (pp : Int32) (i_v_now : 0 ≤ v_now.toInt ∧ v_now.toInt ≤ 100000) (i_v_told : 0 ≤ v_told.toInt ∧ v_told.toInt ≤ 400) (i_v_taped : 0 ≤ v_taped.toInt ∧ v_taped.toInt ≤ 200) (i_v_size : 0 ≤ v_size.toInt ∧ v_size.toInt ≤ 200) (i_v_from : 0 ≤ v_from.toInt ∧ v_from.toInt ≤ 200) (i_v_to : 0 ≤ v_to.toInt ∧ v_to.toInt ≤ 200) (i_v_traits : 0 ≤ v_traits.toInt ∧ v_traits.toInt ≤ 20) (i_v_length : 0 ≤ v_length.toInt ∧ v_length.toInt ≤ 200) (i_v_open : 0 ≤ v_open.toInt ∧ v_open.toInt ≤ 8) (i_v_places : 0 ≤ v_places.toInt ∧ v_places.toInt ≤ 2000) (i_v_models : 0 ≤ v_models.toInt ∧ v_models.toInt ≤ 10)  : Met l yX9_isKept wsX9_isKept ({ frames := 2, cells := 0, slots := 0, locals := 46 }) (va_Pc [.ref (am 0), .int tt, .int pp] (fun U => U.heap.size = sz ∧ va_P (dC, dI) vwCl [((am 0), .inr (9, F9 am v_status v_now v_told v_merges v_taped v_size v_from v_to v_fault v_readFault v_traits v_length v_open v_leaks v_places v_models)), ((am 25), .inl (cA 2, 400, .inl f_hasKept))] U.heap ∧ va_K (dC, dI) vwCl (tyL cA) U ∧ va_D (fun _ => True) [((am 0), .inr (9, F9 am v_status v_now v_told v_merges v_taped v_size v_from v_to v_fault v_readFault v_traits v_length v_open v_leaks v_places v_models)), ((am 25), .inl (cA 2, 400, .inl f_hasKept))] ∧ nw_ok U)) (va_Qi (fun (r : Int32) (_ : Unit) => ((0 ≤ r.toInt ∧ r.toInt ≤ 1) ∧ (¬ r.toInt = 0 → 0 ≤ tt.toInt ∧ tt.toInt ≤ 19 ∧ 0 ≤ pp.toInt ∧ pp.toInt ≤ 19))) (fun (_ : Unit) (t : State) => va_P (dC, dI) vwCl [((am 0), .inr (9, F9 am v_status v_now v_told v_merges v_taped v_size v_from v_to v_fault v_readFault v_traits v_length v_open v_leaks v_places v_models)), ((am 25), .inl (cA 2, 400, .inl f_hasKept))] t.heap ∧ va_D (va_A [((am 0), .inr (9, F9 am v_status v_now v_told v_merges v_taped v_size v_from v_to v_fault v_readFault v_traits v_length v_open v_leaks v_places v_models)), ((am 25), .inl (cA 2, 400, .inl f_hasKept))] sz) [((am 0), .inr (9, F9 am v_status v_now v_told v_merges v_taped v_size v_from v_to v_fault v_readFault v_traits v_length v_open v_leaks v_places v_models)), ((am 25), .inl (cA 2, 400, .inl f_hasKept))]) (va_A [((am 0), .inr (9, F9 am v_status v_now v_told v_merges v_taped v_size v_from v_to v_fault v_readFault v_traits v_length v_open v_leaks v_places v_models)), ((am 25), .inl (cA 2, 400, .inl f_hasKept))] sz)) 0 0 (va_A [((am 0), .inr (9, F9 am v_status v_now v_told v_merges v_taped v_size v_from v_to v_fault v_readFault v_traits v_length v_open v_leaks v_places v_models)), ((am 25), .inl (cA 2, 400, .inl f_hasKept))] sz) := by
  refine Met.ofW (cc := cX9_isKept) (maxL := 3) (ret := (some .boolean)) (by decide) rfl ?_
  intro p e s m args below meth c s₁ B hml hv
  obtain ⟨rfl, hsz, hP, hK, hD0, hN⟩ := hv
  have hx := B.exec
  have hb := B.bytes
  have hr := B.returns
  have hts := atoms_spec (ws := wsX9_isKept) B.pre
  have hown : s.vm.findClass RX9 = some m.cls := findClass_of_methodNamed B.named
  have hlocks := B.notSynchronized
  subst hsz
  have hD := hD0.self (sz := s.heap.size)
  generalize hAe : va_A [((am 0), .inr (9, F9 am v_status v_now v_told v_merges v_taped v_size v_from v_to v_fault v_readFault v_traits v_length v_open v_leaks v_places v_models)), ((am 25), .inl (cA 2, 400, .inl f_hasKept))] s.heap.size = A at hD ⊢
  have hA : ∀ q : Nat, s.heap.size ≤ q → A q := fun q h => by rw [← hAe]; exact Or.inr h
  have hS : va_S A s.heap s.heap [] := va_S.rf
  have hIX9 : ∀ w ∈ u_ws RX9 TX9 51, w ∈ wsX9_isKept := by decide +kernel
  have hl := lv_entry ([.ref (am 0), .int tt, .int pp]) (n := 3) (Nat.le_of_ble_eq_true rfl)
  rw [lg_entry_eq]
  generalize (lg_sl ([.ref (am 0), .int tt, .int pp]) ++ List.replicate (3 - (lg_sl ([.ref (am 0), .int tt, .int pp])).length) Slot.unset).toArray = ls at hl ⊢
  have hl : lv_has ls 3 [(0, .ref (am 0)), (1, .int tt), (2, .int pp)] := hl
  generalize hQe : MQ below _ _ _ _ _ _ = QQ
  refine lv_aload_n hx hb dX9_isKept_0 rfl (lv_at hl 0 rfl) ?_
  refine lv_iload_n hx hb dX9_isKept_1 rfl (lv_at hl 1 rfl) ?_
  obtain ⟨hPc, hDc, hFc, hCc⟩ := va_pre (ws' := [((am 0), .inr (9, F9 am v_status v_now v_told v_merges v_taped v_size v_from v_to v_fault v_readFault v_traits v_length v_open v_leaks v_places v_models))]) hP hD hS hA [0] (by decide) rfl
  refine va_calli (va_runV (As := [.int tt]) (rest := []) ⟨hx, hb, hml, hown, hts⟩ (k_X9_isTrait l dC dI cA s.heap.size am v_status v_now v_told v_merges v_taped v_size v_from v_to v_fault v_readFault v_traits v_length v_open v_leaks v_places v_models tt i_v_now i_v_told i_v_taped i_v_size i_v_from i_v_to i_v_traits i_v_length i_v_open i_v_places i_v_models) (cwV 1 hts gX9_isKept_X9_isTrait rfl rfl rfl (by decide +kernel) ⟨Nat.le_of_ble_eq_true rfl, Nat.le_of_ble_eq_true rfl⟩) ⟨fun a U g mk q => by obtain ⟨q0, q1, qP, qK, qD, qN⟩ := q; exact ⟨q0, q1, qP, va_K.moved (u := U) (U := U.calling g mk a) (Vm.Alike.refl U.vm) qK, qD, qN.same rfl⟩, va_recv hK hPc (ci := 9) (q0 := 0) rfl rfl, fun U hU hW => ⟨rfl, by rw [hU], by rw [hU]; exact hPc, va_K.moved hW.alike hK, hDc.weaken (fun _ _ _ _ => trivial), hN.warm hW⟩⟩ rfl rfl hl.1 rfl (lv_room (Nat.le_of_ble_eq_true rfl)) dX9_isKept_2 ⟨Nat.le_of_ble_eq_true rfl, Nat.le_of_ble_eq_true rfl⟩) hS (fun q _ h => hFc q h) hFc (fun r_1 u_2 t H1 locs ht hvm hw_3 hB hz1 hk1 hS => ?_)
  try dsimp only at hw_3 hB
  have po_4 := hw_3
  clear hw_3
  obtain ⟨hP1, hD1⟩ := hB
  rw [ht] at hP1
  obtain ⟨hP, hD⟩ := va_join (wr := [((am 25), .inl (cA 2, 400, .inl f_hasKept))]) (w1 := [((am 0), .inr (9, F9 am v_status v_now v_told v_merges v_taped v_size v_from v_to v_fault v_readFault v_traits v_length v_open v_leaks v_places v_models))]) hP hD [0] [1] hCc rfl (by decide) (by decide) hk1 hFc hP1 hD1
  clear hz1
  generalize H1 = H at hP hS ⊢
  refine lv_if_eq (tgt := 33) hx hb dX9_isKept_5 (by decide) (fun c_5 => ?_) (fun c_5 => ?_)
  · have dc_5 : r_1.toInt = 0 := jI_eq c_5 rfl (by decide)
    refine lv_iconst (v := 0) hx hb dX9_isKept_33 (by decide) ?_
    obtain ⟨hP9, hD9⟩ := va_pd (ws' := [((am 0), .inr (9, F9 am v_status v_now v_told v_merges v_taped v_size v_from v_to v_fault v_readFault v_traits v_length v_open v_leaks v_places v_models)), ((am 25), .inl (cA 2, 400, .inl f_hasKept))]) hP hD [1, 0] (by decide) rfl
    subst hQe
    have hans : (0 : Int32).toInt = 0 := (by decide)
    have hpost : ((0 ≤ (0 : Int32).toInt ∧ (0 : Int32).toInt ≤ 1) ∧ (¬ (0 : Int32).toInt = 0 → 0 ≤ tt.toInt ∧ tt.toInt ≤ 19 ∧ 0 ≤ pp.toInt ∧ pp.toInt ≤ 19)) := by omega
    exact W.zret (v := 0) hx hb hr (by decide) (fun t ht hW => ⟨⟨0, (), rfl, hpost, by rw [ht]; exact hP9, hD9⟩, hS.F ht⟩) hS.2.2 dX9_isKept_34
  · have dc_5 : ¬ r_1.toInt = 0 := jI_ne c_5 rfl (by decide)
    refine lv_iload_n hx hb dX9_isKept_8 rfl (lv_at hl 2 rfl) ?_
    obtain ⟨hPc, hDc, hFc, hCc⟩ := va_pre (ws' := []) hP hD hS hA [] (by decide) rfl
    refine va_calli (va_runS (As := [.int pp]) (rest := []) ⟨hx, hb, hml, hown, hts⟩ (k_X9_isPerson l dC dI cA H.size pp ) (va_cwS 1 hts gX9_isKept_X9_isPerson rfl rfl rfl (by decide +kernel) ⟨Nat.le_of_ble_eq_true rfl, Nat.le_of_ble_eq_true rfl⟩) ⟨fun a U g mk q => by obtain ⟨q0, q1, qP, qK, qD, qN⟩ := q; exact ⟨q0, q1, qP, va_K.moved (u := U) (U := U.calling g mk a) (Vm.Alike.refl U.vm) qK, qD, qN.same rfl⟩, fun U hU hW => ⟨rfl, by rw [hU], by rw [hU]; exact hPc, va_K.moved hW.alike hK, hDc.weaken (fun _ _ _ _ => trivial), hN.warm hW⟩⟩ rfl rfl hl.1 rfl (lv_room (Nat.le_of_ble_eq_true rfl)) dX9_isKept_9 ⟨Nat.le_of_ble_eq_true rfl, Nat.le_of_ble_eq_true rfl⟩) hS (fun q _ h => hFc q h) hFc (fun r_6 u_7 t H1 locs ht hvm hw_8 hB hz1 hk1 hS => ?_)
    try dsimp only at hw_8 hB
    have po_9 := hw_8
    clear hw_8
    obtain ⟨hP1, hD1⟩ := hB
    rw [ht] at hP1
    obtain ⟨hP, hD⟩ := va_join (wr := [((am 25), .inl (cA 2, 400, .inl f_hasKept)), ((am 0), .inr (9, F9 am v_status v_now v_told v_merges v_taped v_size v_from v_to v_fault v_readFault v_traits v_length v_open v_leaks v_places v_models))]) (w1 := []) hP hD [] [0, 1] hCc rfl (by decide) (by decide) hk1 hFc hP1 hD1
    clear hz1
    generalize H1 = H at hP hS ⊢
    refine lv_if_eq (tgt := 33) hx hb dX9_isKept_12 (by decide) (fun c_10 => ?_) (fun c_10 => ?_)
    · have dc_10 : r_6.toInt = 0 := jI_eq c_10 rfl (by decide)
      refine lv_iconst (v := 0) hx hb dX9_isKept_33 (by decide) ?_
      obtain ⟨hP9, hD9⟩ := va_pd (ws' := [((am 0), .inr (9, F9 am v_status v_now v_told v_merges v_taped v_size v_from v_to v_fault v_readFault v_traits v_length v_open v_leaks v_places v_models)), ((am 25), .inl (cA 2, 400, .inl f_hasKept))]) hP hD [1, 0] (by decide) rfl
      subst hQe
      have hans : (0 : Int32).toInt = 0 := (by decide)
      have hpost : ((0 ≤ (0 : Int32).toInt ∧ (0 : Int32).toInt ≤ 1) ∧ (¬ (0 : Int32).toInt = 0 → 0 ≤ tt.toInt ∧ tt.toInt ≤ 19 ∧ 0 ≤ pp.toInt ∧ pp.toInt ≤ 19)) := by omega
      exact W.zret (v := 0) hx hb hr (by decide) (fun t ht hW => ⟨⟨0, (), rfl, hpost, by rw [ht]; exact hP9, hD9⟩, hS.F ht⟩) hS.2.2 dX9_isKept_34
    · have dc_10 : ¬ r_6.toInt = 0 := jI_ne c_10 rfl (by decide)
      refine lv_aload_n hx hb dX9_isKept_15 rfl (lv_at hl 0 rfl) ?_
      refine va_get (D := (dC, dI)) (ci := 9) (v := .ref (am 25)) (C := RX9) (T := TX9) (N := 51) hx hb hts hIX9 hown hK hP 1 rfl rfl 38 (by decide) (hts (.fieldLink RX9 89 "TraitHouseModel" "hasKept" "[Z") (by decide +kernel)) (fun _ h9 => h9) rfl dX9_isKept_16 ?_
      refine lv_bipush (v := 20) hx hb dX9_isKept_19 (by decide) ?_
      refine lv_iload_n hx hb dX9_isKept_21 rfl (lv_at hl 1 rfl) ?_
      refine lv_imul hx hb dX9_isKept_22 ?_
      refine lv_topi (fun x_11 ex_11 => ?_)
      have dx_11 : x_11.toInt = 20 * tt.toInt := by rw [ex_11]; exact jI_mul (by decide) rfl (by omega) (by omega)
      refine lv_iload_n hx hb dX9_isKept_23 rfl (lv_at hl 2 rfl) ?_
      refine lv_iadd hx hb dX9_isKept_24 ?_
      refine lv_topi (fun x_12 ex_12 => ?_)
      have dx_12 : x_12.toInt = x_11.toInt + pp.toInt := by rw [ex_12]; exact jI_add rfl rfl (by omega) (by omega)
      have h_13 : vp_in x_12 400 := (vp_in_iff.mpr ⟨by omega, by omega⟩)
      refine va_zald hx hb hK hP 0 2 rfl rfl h_13 dX9_isKept_25 ?_
      refine lv_topi (fun x_14 ex_14 => ?_)
      refine lv_if_eq (tgt := 33) hx hb dX9_isKept_26 (by decide) (fun c_15 => ?_) (fun c_15 => ?_)
      · have dc_15 : x_14.toInt = 0 := jI_eq c_15 rfl (by decide)
        refine lv_iconst (v := 0) hx hb dX9_isKept_33 (by decide) ?_
        obtain ⟨hP9, hD9⟩ := va_pd (ws' := [((am 0), .inr (9, F9 am v_status v_now v_told v_merges v_taped v_size v_from v_to v_fault v_readFault v_traits v_length v_open v_leaks v_places v_models)), ((am 25), .inl (cA 2, 400, .inl f_hasKept))]) hP hD [1, 0] (by decide) rfl
        subst hQe
        have hans : (0 : Int32).toInt = 0 := (by decide)
        have hpost : ((0 ≤ (0 : Int32).toInt ∧ (0 : Int32).toInt ≤ 1) ∧ (¬ (0 : Int32).toInt = 0 → 0 ≤ tt.toInt ∧ tt.toInt ≤ 19 ∧ 0 ≤ pp.toInt ∧ pp.toInt ≤ 19)) := by omega
        exact W.zret (v := 0) hx hb hr (by decide) (fun t ht hW => ⟨⟨0, (), rfl, hpost, by rw [ht]; exact hP9, hD9⟩, hS.F ht⟩) hS.2.2 dX9_isKept_34
      · have dc_15 : ¬ x_14.toInt = 0 := jI_ne c_15 rfl (by decide)
        refine lv_iconst (v := 1) hx hb dX9_isKept_29 (by decide) ?_
        refine lv_goto (tgt := 34) hx hb dX9_isKept_30 (by decide) ?_
        obtain ⟨hP9, hD9⟩ := va_pd (ws' := [((am 0), .inr (9, F9 am v_status v_now v_told v_merges v_taped v_size v_from v_to v_fault v_readFault v_traits v_length v_open v_leaks v_places v_models)), ((am 25), .inl (cA 2, 400, .inl f_hasKept))]) hP hD [1, 0] (by decide) rfl
        subst hQe
        have hans : (1 : Int32).toInt = 1 := (by decide)
        have hpost : ((0 ≤ (1 : Int32).toInt ∧ (1 : Int32).toInt ≤ 1) ∧ (¬ (1 : Int32).toInt = 0 → 0 ≤ tt.toInt ∧ tt.toInt ≤ 19 ∧ 0 ≤ pp.toInt ∧ pp.toInt ≤ 19)) := by omega
        exact W.zret (v := 1) hx hb hr (by decide) (fun t ht hW => ⟨⟨1, (), rfl, hpost, by rw [ht]; exact hP9, hD9⟩, hS.F ht⟩) hS.2.2 dX9_isKept_34

set_option maxHeartbeats 8000000 in
set_option maxRecDepth 100000 in
theorem k_X9_kept (l : Launch) (dC : Nat → ClassId) (dI : Nat → Nat → Nat) (cA : Nat → ClassId) (sz : Nat) (am : Nat → Nat) (v_status : Int32) (v_now : Int32) (v_told : Int32) (v_merges : Int32) (v_taped : Int32) (v_size : Int32) (v_from : Int32) (v_to : Int32) (v_fault : Int32) (v_readFault : Int32) (v_traits : Int32) (v_length : Int32) (v_open : Int32) (v_leaks : Int32) (v_places : Int32) (v_models : Int32) (f_hasKept : Nat → Int32) (f_kept : Nat → Int64) (tt : Int32) (pp : Int32) (i_v_now : 0 ≤ v_now.toInt ∧ v_now.toInt ≤ 100000) (i_v_told : 0 ≤ v_told.toInt ∧ v_told.toInt ≤ 400) (i_v_taped : 0 ≤ v_taped.toInt ∧ v_taped.toInt ≤ 200) (i_v_size : 0 ≤ v_size.toInt ∧ v_size.toInt ≤ 200) (i_v_from : 0 ≤ v_from.toInt ∧ v_from.toInt ≤ 200) (i_v_to : 0 ≤ v_to.toInt ∧ v_to.toInt ≤ 200) (i_v_traits : 0 ≤ v_traits.toInt ∧ v_traits.toInt ≤ 20) (i_v_length : 0 ≤ v_length.toInt ∧ v_length.toInt ≤ 200) (i_v_open : 0 ≤ v_open.toInt ∧ v_open.toInt ≤ 8) (i_v_places : 0 ≤ v_places.toInt ∧ v_places.toInt ≤ 2000) (i_v_models : 0 ≤ v_models.toInt ∧ v_models.toInt ≤ 10)  : Met l yX9_kept wsX9_kept ({ frames := 3, cells := 0, slots := 0, locals := 68 }) (va_Pc [.ref (am 0), .int tt, .int pp] (fun U => U.heap.size = sz ∧ va_P (dC, dI) vwCl [((am 0), .inr (9, F9 am v_status v_now v_told v_merges v_taped v_size v_from v_to v_fault v_readFault v_traits v_length v_open v_leaks v_places v_models)), ((am 25), .inl (cA 2, 400, .inl f_hasKept)), ((am 26), .inl (cA 1, 400, .inr (.inl f_kept)))] U.heap ∧ va_K (dC, dI) vwCl (tyL cA) U ∧ va_D (fun _ => True) [((am 0), .inr (9, F9 am v_status v_now v_told v_merges v_taped v_size v_from v_to v_fault v_readFault v_traits v_length v_open v_leaks v_places v_models)), ((am 25), .inl (cA 2, 400, .inl f_hasKept)), ((am 26), .inl (cA 1, 400, .inr (.inl f_kept)))] ∧ nw_ok U)) (va_Ql (fun (r : Int64) (_ : Unit) => True) (fun (_ : Unit) (t : State) => va_P (dC, dI) vwCl [((am 0), .inr (9, F9 am v_status v_now v_told v_merges v_taped v_size v_from v_to v_fault v_readFault v_traits v_length v_open v_leaks v_places v_models)), ((am 25), .inl (cA 2, 400, .inl f_hasKept)), ((am 26), .inl (cA 1, 400, .inr (.inl f_kept)))] t.heap ∧ va_D (va_A [((am 0), .inr (9, F9 am v_status v_now v_told v_merges v_taped v_size v_from v_to v_fault v_readFault v_traits v_length v_open v_leaks v_places v_models)), ((am 25), .inl (cA 2, 400, .inl f_hasKept)), ((am 26), .inl (cA 1, 400, .inr (.inl f_kept)))] sz) [((am 0), .inr (9, F9 am v_status v_now v_told v_merges v_taped v_size v_from v_to v_fault v_readFault v_traits v_length v_open v_leaks v_places v_models)), ((am 25), .inl (cA 2, 400, .inl f_hasKept)), ((am 26), .inl (cA 1, 400, .inr (.inl f_kept)))]) (va_A [((am 0), .inr (9, F9 am v_status v_now v_told v_merges v_taped v_size v_from v_to v_fault v_readFault v_traits v_length v_open v_leaks v_places v_models)), ((am 25), .inl (cA 2, 400, .inl f_hasKept)), ((am 26), .inl (cA 1, 400, .inr (.inl f_kept)))] sz)) 0 0 (va_A [((am 0), .inr (9, F9 am v_status v_now v_told v_merges v_taped v_size v_from v_to v_fault v_readFault v_traits v_length v_open v_leaks v_places v_models)), ((am 25), .inl (cA 2, 400, .inl f_hasKept)), ((am 26), .inl (cA 1, 400, .inr (.inl f_kept)))] sz) := by
  refine Met.ofW (cc := cX9_kept) (maxL := 3) (ret := (some .long)) (by decide) rfl ?_
  intro p e s m args below meth c s₁ B hml hv
  obtain ⟨rfl, hsz, hP, hK, hD0, hN⟩ := hv
  have hx := B.exec
  have hb := B.bytes
  have hr := B.returns
  have hts := atoms_spec (ws := wsX9_kept) B.pre
  have hown : s.vm.findClass RX9 = some m.cls := findClass_of_methodNamed B.named
  have hlocks := B.notSynchronized
  subst hsz
  have hD := hD0.self (sz := s.heap.size)
  generalize hAe : va_A [((am 0), .inr (9, F9 am v_status v_now v_told v_merges v_taped v_size v_from v_to v_fault v_readFault v_traits v_length v_open v_leaks v_places v_models)), ((am 25), .inl (cA 2, 400, .inl f_hasKept)), ((am 26), .inl (cA 1, 400, .inr (.inl f_kept)))] s.heap.size = A at hD ⊢
  have hA : ∀ q : Nat, s.heap.size ≤ q → A q := fun q h => by rw [← hAe]; exact Or.inr h
  have hS : va_S A s.heap s.heap [] := va_S.rf
  have hIX9 : ∀ w ∈ u_ws RX9 TX9 51, w ∈ wsX9_kept := by decide +kernel
  have hl := lv_entry ([.ref (am 0), .int tt, .int pp]) (n := 3) (Nat.le_of_ble_eq_true rfl)
  rw [lg_entry_eq]
  generalize (lg_sl ([.ref (am 0), .int tt, .int pp]) ++ List.replicate (3 - (lg_sl ([.ref (am 0), .int tt, .int pp])).length) Slot.unset).toArray = ls at hl ⊢
  have hl : lv_has ls 3 [(0, .ref (am 0)), (1, .int tt), (2, .int pp)] := hl
  generalize hQe : MQ below _ _ _ _ _ _ = QQ
  refine lv_aload_n hx hb dX9_kept_0 rfl (lv_at hl 0 rfl) ?_
  refine lv_iload_n hx hb dX9_kept_1 rfl (lv_at hl 1 rfl) ?_
  refine lv_iload_n hx hb dX9_kept_2 rfl (lv_at hl 2 rfl) ?_
  obtain ⟨hPc, hDc, hFc, hCc⟩ := va_pre (ws' := [((am 0), .inr (9, F9 am v_status v_now v_told v_merges v_taped v_size v_from v_to v_fault v_readFault v_traits v_length v_open v_leaks v_places v_models)), ((am 25), .inl (cA 2, 400, .inl f_hasKept))]) hP hD hS hA [0, 1] (by decide) rfl
  refine va_calli (va_runV (As := [.int tt, .int pp]) (rest := []) ⟨hx, hb, hml, hown, hts⟩ (k_X9_isKept l dC dI cA s.heap.size am v_status v_now v_told v_merges v_taped v_size v_from v_to v_fault v_readFault v_traits v_length v_open v_leaks v_places v_models f_hasKept tt pp i_v_now i_v_told i_v_taped i_v_size i_v_from i_v_to i_v_traits i_v_length i_v_open i_v_places i_v_models) (cwV 2 hts gX9_kept_X9_isKept rfl rfl rfl (by decide +kernel) ⟨Nat.le_of_ble_eq_true rfl, Nat.le_of_ble_eq_true rfl⟩) ⟨fun a U g mk q => by obtain ⟨q0, q1, qP, qK, qD, qN⟩ := q; exact ⟨q0, q1, qP, va_K.moved (u := U) (U := U.calling g mk a) (Vm.Alike.refl U.vm) qK, qD, qN.same rfl⟩, va_recv hK hPc (ci := 9) (q0 := 0) rfl rfl, fun U hU hW => ⟨rfl, by rw [hU], by rw [hU]; exact hPc, va_K.moved hW.alike hK, hDc.weaken (fun _ _ _ _ => trivial), hN.warm hW⟩⟩ rfl rfl hl.1 rfl (lv_room (Nat.le_of_ble_eq_true rfl)) dX9_kept_3 ⟨Nat.le_of_ble_eq_true rfl, Nat.le_of_ble_eq_true rfl⟩) hS (fun q _ h => hFc q h) hFc (fun r_1 u_2 t H1 locs ht hvm hw_3 hB hz1 hk1 hS => ?_)
  try dsimp only at hw_3 hB
  have po_4 := hw_3
  clear hw_3
  obtain ⟨hP1, hD1⟩ := hB
  rw [ht] at hP1
  obtain ⟨hP, hD⟩ := va_join (wr := [((am 26), .inl (cA 1, 400, .inr (.inl f_kept)))]) (w1 := [((am 0), .inr (9, F9 am v_status v_now v_told v_merges v_taped v_size v_from v_to v_fault v_readFault v_traits v_length v_open v_leaks v_places v_models)), ((am 25), .inl (cA 2, 400, .inl f_hasKept))]) hP hD [0, 1] [2] hCc rfl (by decide) (by decide) hk1 hFc hP1 hD1
  clear hz1
  generalize H1 = H at hP hS ⊢
  refine lv_if_eq (tgt := 23) hx hb dX9_kept_6 (by decide) (fun c_5 => ?_) (fun c_5 => ?_)
  · have dc_5 : r_1.toInt = 0 := jI_eq c_5 rfl (by decide)
    refine lv_ldc2 hx hb hown (hts (.constantLong RX9 274 (-9000000000000000000)) (by decide +kernel)) dX9_kept_23 ?_
    obtain ⟨hP9, hD9⟩ := va_pd (ws' := [((am 0), .inr (9, F9 am v_status v_now v_told v_merges v_taped v_size v_from v_to v_fault v_readFault v_traits v_length v_open v_leaks v_places v_models)), ((am 25), .inl (cA 2, 400, .inl f_hasKept)), ((am 26), .inl (cA 1, 400, .inr (.inl f_kept)))]) hP hD [1, 2, 0] (by decide) rfl
    subst hQe
    have hans : ((-9000000000000000000) : Int64).toInt = (-9000000000000000000) := (by decide)
    exact W.lret (v := (-9000000000000000000)) hx hb hr (fun t ht hW => ⟨⟨(-9000000000000000000), (), rfl, trivial, by rw [ht]; exact hP9, hD9⟩, hS.F ht⟩) hS.2.2 dX9_kept_26
  · have dc_5 : ¬ r_1.toInt = 0 := jI_ne c_5 rfl (by decide)
    refine lv_aload_n hx hb dX9_kept_9 rfl (lv_at hl 0 rfl) ?_
    refine va_get (D := (dC, dI)) (ci := 9) (v := .ref (am 26)) (C := RX9) (T := TX9) (N := 51) hx hb hts hIX9 hown hK hP 1 rfl rfl 39 (by decide) (hts (.fieldLink RX9 92 "TraitHouseModel" "kept" "[J") (by decide +kernel)) (fun _ h9 => h9) rfl dX9_kept_10 ?_
    refine lv_bipush (v := 20) hx hb dX9_kept_13 (by decide) ?_
    refine lv_iload_n hx hb dX9_kept_15 rfl (lv_at hl 1 rfl) ?_
    refine lv_imul hx hb dX9_kept_16 ?_
    refine lv_topi (fun x_6 ex_6 => ?_)
    have dx_6 : x_6.toInt = 20 * tt.toInt := by rw [ex_6]; exact jI_mul (by decide) rfl (by omega) (by omega)
    refine lv_iload_n hx hb dX9_kept_17 rfl (lv_at hl 2 rfl) ?_
    refine lv_iadd hx hb dX9_kept_18 ?_
    refine lv_topi (fun x_7 ex_7 => ?_)
    have dx_7 : x_7.toInt = x_6.toInt + pp.toInt := by rw [ex_7]; exact jI_add rfl rfl (by omega) (by omega)
    have h_8 : vp_in x_7 400 := (vp_in_iff.mpr ⟨by omega, by omega⟩)
    refine va_lald hx hb hK hP 0 1 rfl rfl h_8 dX9_kept_19 ?_
    refine lv_topl (fun y_9 ey_9 => ?_)
    refine lv_goto (tgt := 26) hx hb dX9_kept_20 (by decide) ?_
    obtain ⟨hP9, hD9⟩ := va_pd (ws' := [((am 0), .inr (9, F9 am v_status v_now v_told v_merges v_taped v_size v_from v_to v_fault v_readFault v_traits v_length v_open v_leaks v_places v_models)), ((am 25), .inl (cA 2, 400, .inl f_hasKept)), ((am 26), .inl (cA 1, 400, .inr (.inl f_kept)))]) hP hD [1, 2, 0] (by decide) rfl
    subst hQe
    have hans : (y_9 : Int64).toInt = y_9.toInt := rfl
    exact W.lret (v := y_9) hx hb hr (fun t ht hW => ⟨⟨y_9, (), rfl, trivial, by rw [ht]; exact hP9, hD9⟩, hS.F ht⟩) hS.2.2 dX9_kept_26

set_option maxHeartbeats 8000000 in
set_option maxRecDepth 100000 in
theorem k_X9_age (l : Launch) (dC : Nat → ClassId) (dI : Nat → Nat → Nat) (cA : Nat → ClassId) (sz : Nat) (am : Nat → Nat) (v_status : Int32) (v_now : Int32) (v_told : Int32) (v_merges : Int32) (v_taped : Int32) (v_size : Int32) (v_from : Int32) (v_to : Int32) (v_fault : Int32) (v_readFault : Int32) (v_traits : Int32) (v_length : Int32) (v_open : Int32) (v_leaks : Int32) (v_places : Int32) (v_models : Int32) (f_hasKept : Nat → Int32) (f_keptAt : Nat → Int32) (f_limits : Nat → Int32) (tt : Int32) (pp : Int32) (w : Int32) (i_v_now : 0 ≤ v_now.toInt ∧ v_now.toInt ≤ 100000) (i_v_told : 0 ≤ v_told.toInt ∧ v_told.toInt ≤ 400) (i_v_taped : 0 ≤ v_taped.toInt ∧ v_taped.toInt ≤ 200) (i_v_size : 0 ≤ v_size.toInt ∧ v_size.toInt ≤ 200) (i_v_from : 0 ≤ v_from.toInt ∧ v_from.toInt ≤ 200) (i_v_to : 0 ≤ v_to.toInt ∧ v_to.toInt ≤ 200) (i_v_traits : 0 ≤ v_traits.toInt ∧ v_traits.toInt ≤ 20) (i_v_length : 0 ≤ v_length.toInt ∧ v_length.toInt ≤ 200) (i_v_open : 0 ≤ v_open.toInt ∧ v_open.toInt ≤ 8) (i_v_places : 0 ≤ v_places.toInt ∧ v_places.toInt ≤ 2000) (i_v_models : 0 ≤ v_models.toInt ∧ v_models.toInt ≤ 10)  : Met l yX9_age wsX9_age ({ frames := 3, cells := 0, slots := 0, locals := 68 }) (va_Pc [.ref (am 0), .int tt, .int pp, .int w] (fun U => U.heap.size = sz ∧ va_P (dC, dI) vwCl [((am 0), .inr (9, F9 am v_status v_now v_told v_merges v_taped v_size v_from v_to v_fault v_readFault v_traits v_length v_open v_leaks v_places v_models)), ((am 25), .inl (cA 2, 400, .inl f_hasKept)), ((am 27), .inl (cA 0, 400, .inl f_keptAt)), ((am 23), .inl (cA 0, 20, .inl f_limits))] U.heap ∧ va_K (dC, dI) vwCl (tyL cA) U ∧ va_D (fun _ => True) [((am 0), .inr (9, F9 am v_status v_now v_told v_merges v_taped v_size v_from v_to v_fault v_readFault v_traits v_length v_open v_leaks v_places v_models)), ((am 25), .inl (cA 2, 400, .inl f_hasKept)), ((am 27), .inl (cA 0, 400, .inl f_keptAt)), ((am 23), .inl (cA 0, 20, .inl f_limits))] ∧ nw_ok U)) (va_Qi (fun (r : Int32) (_ : Unit) => True) (fun (_ : Unit) (t : State) => va_P (dC, dI) vwCl [((am 0), .inr (9, F9 am v_status v_now v_told v_merges v_taped v_size v_from v_to v_fault v_readFault v_traits v_length v_open v_leaks v_places v_models)), ((am 25), .inl (cA 2, 400, .inl f_hasKept)), ((am 27), .inl (cA 0, 400, .inl f_keptAt)), ((am 23), .inl (cA 0, 20, .inl f_limits))] t.heap ∧ va_D (va_A [((am 0), .inr (9, F9 am v_status v_now v_told v_merges v_taped v_size v_from v_to v_fault v_readFault v_traits v_length v_open v_leaks v_places v_models)), ((am 25), .inl (cA 2, 400, .inl f_hasKept)), ((am 27), .inl (cA 0, 400, .inl f_keptAt)), ((am 23), .inl (cA 0, 20, .inl f_limits))] sz) [((am 0), .inr (9, F9 am v_status v_now v_told v_merges v_taped v_size v_from v_to v_fault v_readFault v_traits v_length v_open v_leaks v_places v_models)), ((am 25), .inl (cA 2, 400, .inl f_hasKept)), ((am 27), .inl (cA 0, 400, .inl f_keptAt)), ((am 23), .inl (cA 0, 20, .inl f_limits))]) (va_A [((am 0), .inr (9, F9 am v_status v_now v_told v_merges v_taped v_size v_from v_to v_fault v_readFault v_traits v_length v_open v_leaks v_places v_models)), ((am 25), .inl (cA 2, 400, .inl f_hasKept)), ((am 27), .inl (cA 0, 400, .inl f_keptAt)), ((am 23), .inl (cA 0, 20, .inl f_limits))] sz)) 0 0 (va_A [((am 0), .inr (9, F9 am v_status v_now v_told v_merges v_taped v_size v_from v_to v_fault v_readFault v_traits v_length v_open v_leaks v_places v_models)), ((am 25), .inl (cA 2, 400, .inl f_hasKept)), ((am 27), .inl (cA 0, 400, .inl f_keptAt)), ((am 23), .inl (cA 0, 20, .inl f_limits))] sz) := by
  refine Met.ofW (cc := cX9_age) (maxL := 5) (ret := (some .int)) (by decide) rfl ?_
  intro p e s m args below meth c s₁ B hml hv
  obtain ⟨rfl, hsz, hP, hK, hD0, hN⟩ := hv
  have hx := B.exec
  have hb := B.bytes
  have hr := B.returns
  have hts := atoms_spec (ws := wsX9_age) B.pre
  have hown : s.vm.findClass RX9 = some m.cls := findClass_of_methodNamed B.named
  have hlocks := B.notSynchronized
  subst hsz
  have hD := hD0.self (sz := s.heap.size)
  generalize hAe : va_A [((am 0), .inr (9, F9 am v_status v_now v_told v_merges v_taped v_size v_from v_to v_fault v_readFault v_traits v_length v_open v_leaks v_places v_models)), ((am 25), .inl (cA 2, 400, .inl f_hasKept)), ((am 27), .inl (cA 0, 400, .inl f_keptAt)), ((am 23), .inl (cA 0, 20, .inl f_limits))] s.heap.size = A at hD ⊢
  have hA : ∀ q : Nat, s.heap.size ≤ q → A q := fun q h => by rw [← hAe]; exact Or.inr h
  have hS : va_S A s.heap s.heap [] := va_S.rf
  have hIX9 : ∀ w ∈ u_ws RX9 TX9 51, w ∈ wsX9_age := by decide +kernel
  have hl := lv_entry ([.ref (am 0), .int tt, .int pp, .int w]) (n := 5) (Nat.le_of_ble_eq_true rfl)
  rw [lg_entry_eq]
  generalize (lg_sl ([.ref (am 0), .int tt, .int pp, .int w]) ++ List.replicate (5 - (lg_sl ([.ref (am 0), .int tt, .int pp, .int w])).length) Slot.unset).toArray = ls at hl ⊢
  have hl : lv_has ls 5 [(0, .ref (am 0)), (1, .int tt), (2, .int pp), (3, .int w)] := hl
  generalize hQe : MQ below _ _ _ _ _ _ = QQ
  refine lv_aload_n hx hb dX9_age_0 rfl (lv_at hl 0 rfl) ?_
  refine lv_iload_n hx hb dX9_age_1 rfl (lv_at hl 1 rfl) ?_
  refine lv_iload_n hx hb dX9_age_2 rfl (lv_at hl 2 rfl) ?_
  obtain ⟨hPc, hDc, hFc, hCc⟩ := va_pre (ws' := [((am 0), .inr (9, F9 am v_status v_now v_told v_merges v_taped v_size v_from v_to v_fault v_readFault v_traits v_length v_open v_leaks v_places v_models)), ((am 25), .inl (cA 2, 400, .inl f_hasKept))]) hP hD hS hA [0, 1] (by decide) rfl
  refine va_calli (va_runV (As := [.int tt, .int pp]) (rest := []) ⟨hx, hb, hml, hown, hts⟩ (k_X9_isKept l dC dI cA s.heap.size am v_status v_now v_told v_merges v_taped v_size v_from v_to v_fault v_readFault v_traits v_length v_open v_leaks v_places v_models f_hasKept tt pp i_v_now i_v_told i_v_taped i_v_size i_v_from i_v_to i_v_traits i_v_length i_v_open i_v_places i_v_models) (cwV 2 hts gX9_age_X9_isKept rfl rfl rfl (by decide +kernel) ⟨Nat.le_of_ble_eq_true rfl, Nat.le_of_ble_eq_true rfl⟩) ⟨fun a U g mk q => by obtain ⟨q0, q1, qP, qK, qD, qN⟩ := q; exact ⟨q0, q1, qP, va_K.moved (u := U) (U := U.calling g mk a) (Vm.Alike.refl U.vm) qK, qD, qN.same rfl⟩, va_recv hK hPc (ci := 9) (q0 := 0) rfl rfl, fun U hU hW => ⟨rfl, by rw [hU], by rw [hU]; exact hPc, va_K.moved hW.alike hK, hDc.weaken (fun _ _ _ _ => trivial), hN.warm hW⟩⟩ rfl rfl hl.1 rfl (lv_room (Nat.le_of_ble_eq_true rfl)) dX9_age_3 ⟨Nat.le_of_ble_eq_true rfl, Nat.le_of_ble_eq_true rfl⟩) hS (fun q _ h => hFc q h) hFc (fun r_1 u_2 t H1 locs ht hvm hw_3 hB hz1 hk1 hS => ?_)
  try dsimp only at hw_3 hB
  have po_4 := hw_3
  clear hw_3
  obtain ⟨hP1, hD1⟩ := hB
  rw [ht] at hP1
  obtain ⟨hP, hD⟩ := va_join (wr := [((am 27), .inl (cA 0, 400, .inl f_keptAt)), ((am 23), .inl (cA 0, 20, .inl f_limits))]) (w1 := [((am 0), .inr (9, F9 am v_status v_now v_told v_merges v_taped v_size v_from v_to v_fault v_readFault v_traits v_length v_open v_leaks v_places v_models)), ((am 25), .inl (cA 2, 400, .inl f_hasKept))]) hP hD [0, 1] [2, 3] hCc rfl (by decide) (by decide) hk1 hFc hP1 hD1
  clear hz1
  generalize H1 = H at hP hS ⊢
  refine lv_if_ne (tgt := 11) hx hb dX9_age_6 (by decide) (fun c_5 => ?_) (fun c_5 => ?_)
  · have dc_5 : ¬ r_1.toInt = 0 := jI_ne c_5 rfl (by decide)
    refine lv_aload_n hx hb dX9_age_11 rfl (lv_at hl 0 rfl) ?_
    refine va_get (D := (dC, dI)) (ci := 9) (v := .ref (am 27)) (C := RX9) (T := TX9) (N := 51) hx hb hts hIX9 hown hK hP 2 rfl rfl 40 (by decide) (hts (.fieldLink RX9 95 "TraitHouseModel" "keptAt" "[I") (by decide +kernel)) (fun _ h9 => h9) rfl dX9_age_12 ?_
    refine lv_bipush (v := 20) hx hb dX9_age_15 (by decide) ?_
    refine lv_iload_n hx hb dX9_age_17 rfl (lv_at hl 1 rfl) ?_
    refine lv_imul hx hb dX9_age_18 ?_
    refine lv_topi (fun x_6 ex_6 => ?_)
    have dx_6 : x_6.toInt = 20 * tt.toInt := by rw [ex_6]; exact jI_mul (by decide) rfl (by omega) (by omega)
    refine lv_iload_n hx hb dX9_age_19 rfl (lv_at hl 2 rfl) ?_
    refine lv_iadd hx hb dX9_age_20 ?_
    refine lv_topi (fun x_7 ex_7 => ?_)
    have dx_7 : x_7.toInt = x_6.toInt + pp.toInt := by rw [ex_7]; exact jI_add rfl rfl (by omega) (by omega)
    have h_8 : vp_in x_7 400 := (vp_in_iff.mpr ⟨by omega, by omega⟩)
    refine va_iald hx hb hK hP 0 0 rfl rfl h_8 dX9_age_21 ?_
    refine lv_topi (fun x_9 ex_9 => ?_)
    refine lv_istore (lv' := [(4, .int x_9), (0, .ref (am 0)), (1, .int tt), (2, .int pp), (3, .int w)]) hx hb dX9_age_22 hl (by decide) rfl (fun ls hl => ?_)
    refine lv_iload_n hx hb dX9_age_24 rfl (lv_at hl 4 rfl) ?_
    refine lv_if_ne (tgt := 33) hx hb dX9_age_25 (by decide) (fun c_10 => ?_) (fun c_10 => ?_)
    · have dc_10 : ¬ w.toInt = 0 := jI_ne c_10 rfl (by decide)
      refine lv_iload_n hx hb dX9_age_33 rfl (lv_at hl 4 rfl) ?_
      refine lv_iconst (v := 1) hx hb dX9_age_34 (by decide) ?_
      refine lv_icmp_ne (tgt := 62) hx hb dX9_age_35 (by decide) (fun c_11 => ?_) (fun c_11 => ?_)
      · have dc_11 : ¬ w.toInt = 1 := jI_ne c_11 rfl (by decide)
        refine lv_iconst (v := (-1)) hx hb dX9_age_62 (by decide) ?_
        obtain ⟨hP9, hD9⟩ := va_pd (ws' := [((am 0), .inr (9, F9 am v_status v_now v_told v_merges v_taped v_size v_from v_to v_fault v_readFault v_traits v_length v_open v_leaks v_places v_models)), ((am 25), .inl (cA 2, 400, .inl f_hasKept)), ((am 27), .inl (cA 0, 400, .inl f_keptAt)), ((am 23), .inl (cA 0, 20, .inl f_limits))]) hP hD [2, 3, 0, 1] (by decide) rfl
        subst hQe
        have hans : ((-1) : Int32).toInt = (-1) := (by decide)
        exact W.iret (v := (-1)) hx hb hr (fun t ht hW => ⟨⟨(-1), (), rfl, trivial, by rw [ht]; exact hP9, hD9⟩, hS.F ht⟩) hS.2.2 dX9_age_63
      · have dc_11 : w.toInt = 1 := jI_eq c_11 rfl (by decide)
        refine lv_aload_n hx hb dX9_age_38 rfl (lv_at hl 1 rfl) ?_
        refine va_get (D := (dC, dI)) (ci := 9) (v := .int v_now) (C := RX9) (T := TX9) (N := 51) hx hb hts hIX9 hown hK hP 2 rfl rfl 1 (by decide) (hts (.fieldLink RX9 133 "TraitHouseModel" "now" "I") (by decide +kernel)) (fun _ h9 => h9) rfl dX9_age_39 ?_
        refine lv_iload hx hb dX9_age_42 (lv_at hl 0 rfl) ?_
        refine lv_isub hx hb dX9_age_44 ?_
        refine lv_topi (fun x_12 ex_12 => ?_)
        refine lv_aload_n hx hb dX9_age_45 rfl (lv_at hl 1 rfl) ?_
        refine va_get (D := (dC, dI)) (ci := 9) (v := .ref (am 23)) (C := RX9) (T := TX9) (N := 51) hx hb hts hIX9 hown hK hP 2 rfl rfl 36 (by decide) (hts (.fieldLink RX9 83 "TraitHouseModel" "limits" "[I") (by decide +kernel)) (fun _ h9 => h9) rfl dX9_age_46 ?_
        refine lv_iload_n hx hb dX9_age_49 rfl (lv_at hl 2 rfl) ?_
        have h_13 : vp_in tt 20 := (vp_in_iff.mpr ⟨by omega, by omega⟩)
        refine va_iald hx hb hK hP 1 0 rfl rfl h_13 dX9_age_50 ?_
        refine lv_topi (fun x_14 ex_14 => ?_)
        refine lv_icmp_le (tgt := 58) hx hb dX9_age_51 (by decide) (fun c_15 => ?_) (fun c_15 => ?_)
        · have dc_15 : x_12.toInt ≤ x_14.toInt := jI_le c_15 rfl rfl
          refine lv_iconst (v := 0) hx hb dX9_age_58 (by decide) ?_
          refine lv_goto (tgt := 63) hx hb dX9_age_59 (by decide) ?_
          obtain ⟨hP9, hD9⟩ := va_pd (ws' := [((am 0), .inr (9, F9 am v_status v_now v_told v_merges v_taped v_size v_from v_to v_fault v_readFault v_traits v_length v_open v_leaks v_places v_models)), ((am 25), .inl (cA 2, 400, .inl f_hasKept)), ((am 27), .inl (cA 0, 400, .inl f_keptAt)), ((am 23), .inl (cA 0, 20, .inl f_limits))]) hP hD [2, 3, 0, 1] (by decide) rfl
          subst hQe
          have hans : (0 : Int32).toInt = 0 := (by decide)
          exact W.iret (v := 0) hx hb hr (fun t ht hW => ⟨⟨0, (), rfl, trivial, by rw [ht]; exact hP9, hD9⟩, hS.F ht⟩) hS.2.2 dX9_age_63
        · have dc_15 : x_14.toInt < x_12.toInt := jI_nle c_15 rfl rfl
          refine lv_iconst (v := 1) hx hb dX9_age_54 (by decide) ?_
          refine lv_goto (tgt := 63) hx hb dX9_age_55 (by decide) ?_
          obtain ⟨hP9, hD9⟩ := va_pd (ws' := [((am 0), .inr (9, F9 am v_status v_now v_told v_merges v_taped v_size v_from v_to v_fault v_readFault v_traits v_length v_open v_leaks v_places v_models)), ((am 25), .inl (cA 2, 400, .inl f_hasKept)), ((am 27), .inl (cA 0, 400, .inl f_keptAt)), ((am 23), .inl (cA 0, 20, .inl f_limits))]) hP hD [2, 3, 0, 1] (by decide) rfl
          subst hQe
          have hans : (1 : Int32).toInt = 1 := (by decide)
          exact W.iret (v := 1) hx hb hr (fun t ht hW => ⟨⟨1, (), rfl, trivial, by rw [ht]; exact hP9, hD9⟩, hS.F ht⟩) hS.2.2 dX9_age_63
    · have dc_10 : w.toInt = 0 := jI_eq c_10 rfl (by decide)
      refine lv_iload hx hb dX9_age_28 (lv_at hl 0 rfl) ?_
      refine lv_goto (tgt := 63) hx hb dX9_age_30 (by decide) ?_
      obtain ⟨hP9, hD9⟩ := va_pd (ws' := [((am 0), .inr (9, F9 am v_status v_now v_told v_merges v_taped v_size v_from v_to v_fault v_readFault v_traits v_length v_open v_leaks v_places v_models)), ((am 25), .inl (cA 2, 400, .inl f_hasKept)), ((am 27), .inl (cA 0, 400, .inl f_keptAt)), ((am 23), .inl (cA 0, 20, .inl f_limits))]) hP hD [2, 3, 0, 1] (by decide) rfl
      subst hQe
      have hans : (x_9 : Int32).toInt = x_9.toInt := rfl
      exact W.iret (v := x_9) hx hb hr (fun t ht hW => ⟨⟨x_9, (), rfl, trivial, by rw [ht]; exact hP9, hD9⟩, hS.F ht⟩) hS.2.2 dX9_age_63
  · have dc_5 : r_1.toInt = 0 := jI_eq c_5 rfl (by decide)
    refine lv_iconst (v := (-1)) hx hb dX9_age_9 (by decide) ?_
    obtain ⟨hP9, hD9⟩ := va_pd (ws' := [((am 0), .inr (9, F9 am v_status v_now v_told v_merges v_taped v_size v_from v_to v_fault v_readFault v_traits v_length v_open v_leaks v_places v_models)), ((am 25), .inl (cA 2, 400, .inl f_hasKept)), ((am 27), .inl (cA 0, 400, .inl f_keptAt)), ((am 23), .inl (cA 0, 20, .inl f_limits))]) hP hD [2, 3, 0, 1] (by decide) rfl
    subst hQe
    have hans : ((-1) : Int32).toInt = (-1) := (by decide)
    exact W.iret (v := (-1)) hx hb hr (fun t ht hW => ⟨⟨(-1), (), rfl, trivial, by rw [ht]; exact hP9, hD9⟩, hS.F ht⟩) hS.2.2 dX9_age_10

set_option maxHeartbeats 8000000 in
set_option maxRecDepth 100000 in
theorem k_X9_held (l : Launch) (dC : Nat → ClassId) (dI : Nat → Nat → Nat) (cA : Nat → ClassId) (sz : Nat) (am : Nat → Nat) (v_status : Int32) (v_now : Int32) (v_told : Int32) (v_merges : Int32) (v_taped : Int32) (v_size : Int32) (v_from : Int32) (v_to : Int32) (v_fault : Int32) (v_readFault : Int32) (v_traits : Int32) (v_length : Int32) (v_open : Int32) (v_leaks : Int32) (v_places : Int32) (v_models : Int32) (f_held : Nat → Int32) (tt : Int32) (i_v_now : 0 ≤ v_now.toInt ∧ v_now.toInt ≤ 100000) (i_v_told : 0 ≤ v_told.toInt ∧ v_told.toInt ≤ 400) (i_v_taped : 0 ≤ v_taped.toInt ∧ v_taped.toInt ≤ 200) (i_v_size : 0 ≤ v_size.toInt ∧ v_size.toInt ≤ 200) (i_v_from : 0 ≤ v_from.toInt ∧ v_from.toInt ≤ 200) (i_v_to : 0 ≤ v_to.toInt ∧ v_to.toInt ≤ 200) (i_v_traits : 0 ≤ v_traits.toInt ∧ v_traits.toInt ≤ 20) (i_v_length : 0 ≤ v_length.toInt ∧ v_length.toInt ≤ 200) (i_v_open : 0 ≤ v_open.toInt ∧ v_open.toInt ≤ 8) (i_v_places : 0 ≤ v_places.toInt ∧ v_places.toInt ≤ 2000) (i_v_models : 0 ≤ v_models.toInt ∧ v_models.toInt ≤ 10)  : Met l yX9_held wsX9_held ({ frames := 2, cells := 0, slots := 0, locals := 46 }) (va_Pc [.ref (am 0), .int tt] (fun U => U.heap.size = sz ∧ va_P (dC, dI) vwCl [((am 0), .inr (9, F9 am v_status v_now v_told v_merges v_taped v_size v_from v_to v_fault v_readFault v_traits v_length v_open v_leaks v_places v_models)), ((am 24), .inl (cA 0, 20, .inl f_held))] U.heap ∧ va_K (dC, dI) vwCl (tyL cA) U ∧ va_D (fun _ => True) [((am 0), .inr (9, F9 am v_status v_now v_told v_merges v_taped v_size v_from v_to v_fault v_readFault v_traits v_length v_open v_leaks v_places v_models)), ((am 24), .inl (cA 0, 20, .inl f_held))] ∧ nw_ok U)) (va_Qi (fun (r : Int32) (_ : Unit) => True) (fun (_ : Unit) (t : State) => va_P (dC, dI) vwCl [((am 0), .inr (9, F9 am v_status v_now v_told v_merges v_taped v_size v_from v_to v_fault v_readFault v_traits v_length v_open v_leaks v_places v_models)), ((am 24), .inl (cA 0, 20, .inl f_held))] t.heap ∧ va_D (va_A [((am 0), .inr (9, F9 am v_status v_now v_told v_merges v_taped v_size v_from v_to v_fault v_readFault v_traits v_length v_open v_leaks v_places v_models)), ((am 24), .inl (cA 0, 20, .inl f_held))] sz) [((am 0), .inr (9, F9 am v_status v_now v_told v_merges v_taped v_size v_from v_to v_fault v_readFault v_traits v_length v_open v_leaks v_places v_models)), ((am 24), .inl (cA 0, 20, .inl f_held))]) (va_A [((am 0), .inr (9, F9 am v_status v_now v_told v_merges v_taped v_size v_from v_to v_fault v_readFault v_traits v_length v_open v_leaks v_places v_models)), ((am 24), .inl (cA 0, 20, .inl f_held))] sz)) 0 0 (va_A [((am 0), .inr (9, F9 am v_status v_now v_told v_merges v_taped v_size v_from v_to v_fault v_readFault v_traits v_length v_open v_leaks v_places v_models)), ((am 24), .inl (cA 0, 20, .inl f_held))] sz) := by
  refine Met.ofW (cc := cX9_held) (maxL := 2) (ret := (some .int)) (by decide) rfl ?_
  intro p e s m args below meth c s₁ B hml hv
  obtain ⟨rfl, hsz, hP, hK, hD0, hN⟩ := hv
  have hx := B.exec
  have hb := B.bytes
  have hr := B.returns
  have hts := atoms_spec (ws := wsX9_held) B.pre
  have hown : s.vm.findClass RX9 = some m.cls := findClass_of_methodNamed B.named
  have hlocks := B.notSynchronized
  subst hsz
  have hD := hD0.self (sz := s.heap.size)
  generalize hAe : va_A [((am 0), .inr (9, F9 am v_status v_now v_told v_merges v_taped v_size v_from v_to v_fault v_readFault v_traits v_length v_open v_leaks v_places v_models)), ((am 24), .inl (cA 0, 20, .inl f_held))] s.heap.size = A at hD ⊢
  have hA : ∀ q : Nat, s.heap.size ≤ q → A q := fun q h => by rw [← hAe]; exact Or.inr h
  have hS : va_S A s.heap s.heap [] := va_S.rf
  have hIX9 : ∀ w ∈ u_ws RX9 TX9 51, w ∈ wsX9_held := by decide +kernel
  have hl := lv_entry ([.ref (am 0), .int tt]) (n := 2) (Nat.le_of_ble_eq_true rfl)
  rw [lg_entry_eq]
  generalize (lg_sl ([.ref (am 0), .int tt]) ++ List.replicate (2 - (lg_sl ([.ref (am 0), .int tt])).length) Slot.unset).toArray = ls at hl ⊢
  have hl : lv_has ls 2 [(0, .ref (am 0)), (1, .int tt)] := hl
  generalize hQe : MQ below _ _ _ _ _ _ = QQ
  refine lv_aload_n hx hb dX9_held_0 rfl (lv_at hl 0 rfl) ?_
  refine lv_iload_n hx hb dX9_held_1 rfl (lv_at hl 1 rfl) ?_
  obtain ⟨hPc, hDc, hFc, hCc⟩ := va_pre (ws' := [((am 0), .inr (9, F9 am v_status v_now v_told v_merges v_taped v_size v_from v_to v_fault v_readFault v_traits v_length v_open v_leaks v_places v_models))]) hP hD hS hA [0] (by decide) rfl
  refine va_calli (va_runV (As := [.int tt]) (rest := []) ⟨hx, hb, hml, hown, hts⟩ (k_X9_isTrait l dC dI cA s.heap.size am v_status v_now v_told v_merges v_taped v_size v_from v_to v_fault v_readFault v_traits v_length v_open v_leaks v_places v_models tt i_v_now i_v_told i_v_taped i_v_size i_v_from i_v_to i_v_traits i_v_length i_v_open i_v_places i_v_models) (cwV 1 hts gX9_held_X9_isTrait rfl rfl rfl (by decide +kernel) ⟨Nat.le_of_ble_eq_true rfl, Nat.le_of_ble_eq_true rfl⟩) ⟨fun a U g mk q => by obtain ⟨q0, q1, qP, qK, qD, qN⟩ := q; exact ⟨q0, q1, qP, va_K.moved (u := U) (U := U.calling g mk a) (Vm.Alike.refl U.vm) qK, qD, qN.same rfl⟩, va_recv hK hPc (ci := 9) (q0 := 0) rfl rfl, fun U hU hW => ⟨rfl, by rw [hU], by rw [hU]; exact hPc, va_K.moved hW.alike hK, hDc.weaken (fun _ _ _ _ => trivial), hN.warm hW⟩⟩ rfl rfl hl.1 rfl (lv_room (Nat.le_of_ble_eq_true rfl)) dX9_held_2 ⟨Nat.le_of_ble_eq_true rfl, Nat.le_of_ble_eq_true rfl⟩) hS (fun q _ h => hFc q h) hFc (fun r_1 u_2 t H1 locs ht hvm hw_3 hB hz1 hk1 hS => ?_)
  try dsimp only at hw_3 hB
  have po_4 := hw_3
  clear hw_3
  obtain ⟨hP1, hD1⟩ := hB
  rw [ht] at hP1
  obtain ⟨hP, hD⟩ := va_join (wr := [((am 24), .inl (cA 0, 20, .inl f_held))]) (w1 := [((am 0), .inr (9, F9 am v_status v_now v_told v_merges v_taped v_size v_from v_to v_fault v_readFault v_traits v_length v_open v_leaks v_places v_models))]) hP hD [0] [1] hCc rfl (by decide) (by decide) hk1 hFc hP1 hD1
  clear hz1
  generalize H1 = H at hP hS ⊢
  refine lv_if_eq (tgt := 17) hx hb dX9_held_5 (by decide) (fun c_5 => ?_) (fun c_5 => ?_)
  · have dc_5 : r_1.toInt = 0 := jI_eq c_5 rfl (by decide)
    refine lv_iconst (v := (-1)) hx hb dX9_held_17 (by decide) ?_
    obtain ⟨hP9, hD9⟩ := va_pd (ws' := [((am 0), .inr (9, F9 am v_status v_now v_told v_merges v_taped v_size v_from v_to v_fault v_readFault v_traits v_length v_open v_leaks v_places v_models)), ((am 24), .inl (cA 0, 20, .inl f_held))]) hP hD [1, 0] (by decide) rfl
    subst hQe
    have hans : ((-1) : Int32).toInt = (-1) := (by decide)
    exact W.iret (v := (-1)) hx hb hr (fun t ht hW => ⟨⟨(-1), (), rfl, trivial, by rw [ht]; exact hP9, hD9⟩, hS.F ht⟩) hS.2.2 dX9_held_18
  · have dc_5 : ¬ r_1.toInt = 0 := jI_ne c_5 rfl (by decide)
    refine lv_aload_n hx hb dX9_held_8 rfl (lv_at hl 0 rfl) ?_
    refine va_get (D := (dC, dI)) (ci := 9) (v := .ref (am 24)) (C := RX9) (T := TX9) (N := 51) hx hb hts hIX9 hown hK hP 1 rfl rfl 37 (by decide) (hts (.fieldLink RX9 86 "TraitHouseModel" "held" "[I") (by decide +kernel)) (fun _ h9 => h9) rfl dX9_held_9 ?_
    refine lv_iload_n hx hb dX9_held_12 rfl (lv_at hl 1 rfl) ?_
    have h_6 : vp_in tt 20 := (vp_in_iff.mpr ⟨by omega, by omega⟩)
    refine va_iald hx hb hK hP 0 0 rfl rfl h_6 dX9_held_13 ?_
    refine lv_topi (fun x_7 ex_7 => ?_)
    refine lv_goto (tgt := 18) hx hb dX9_held_14 (by decide) ?_
    obtain ⟨hP9, hD9⟩ := va_pd (ws' := [((am 0), .inr (9, F9 am v_status v_now v_told v_merges v_taped v_size v_from v_to v_fault v_readFault v_traits v_length v_open v_leaks v_places v_models)), ((am 24), .inl (cA 0, 20, .inl f_held))]) hP hD [1, 0] (by decide) rfl
    subst hQe
    have hans : (x_7 : Int32).toInt = x_7.toInt := rfl
    exact W.iret (v := x_7) hx hb hr (fun t ht hW => ⟨⟨x_7, (), rfl, trivial, by rw [ht]; exact hP9, hD9⟩, hS.F ht⟩) hS.2.2 dX9_held_18

set_option maxHeartbeats 8000000 in
set_option maxRecDepth 100000 in
theorem k_X9_misses (l : Launch) (dC : Nat → ClassId) (dI : Nat → Nat → Nat) (cA : Nat → ClassId) (sz : Nat) (am : Nat → Nat) (v_status : Int32) (v_now : Int32) (v_told : Int32) (v_merges : Int32) (v_taped : Int32) (v_size : Int32) (v_from : Int32) (v_to : Int32) (v_fault : Int32) (v_readFault : Int32) (v_traits : Int32) (v_length : Int32) (v_open : Int32) (v_leaks : Int32) (v_places : Int32) (v_models : Int32) (f_uses : Nat → Int32) (f_size0 : Nat → Int32) (f_step : Nat → Int32) (f_stepA : Nat → Int32) (f_hasKept : Nat → Int32) (f_kept : Nat → Int64) (f_keptAt : Nat → Int32) (f_limits : Nat → Int32) (a : Int32) (pp : Int32) (i_v_now : 0 ≤ v_now.toInt ∧ v_now.toInt ≤ 100000) (i_v_told : 0 ≤ v_told.toInt ∧ v_told.toInt ≤ 400) (i_v_taped : 0 ≤ v_taped.toInt ∧ v_taped.toInt ≤ 200) (i_v_size : 0 ≤ v_size.toInt ∧ v_size.toInt ≤ 200) (i_v_from : 0 ≤ v_from.toInt ∧ v_from.toInt ≤ 200) (i_v_to : 0 ≤ v_to.toInt ∧ v_to.toInt ≤ 200) (i_v_traits : 0 ≤ v_traits.toInt ∧ v_traits.toInt ≤ 20) (i_v_length : 0 ≤ v_length.toInt ∧ v_length.toInt ≤ 200) (i_v_open : 0 ≤ v_open.toInt ∧ v_open.toInt ≤ 8) (i_v_places : 0 ≤ v_places.toInt ∧ v_places.toInt ≤ 2000) (i_v_models : 0 ≤ v_models.toInt ∧ v_models.toInt ≤ 10) (i_f_size0 : inB 0 200 20 f_size0)  : Met l yX9_misses wsX9_misses ({ frames := 4, cells := 0, slots := 0, locals := 92 }) (va_Pc [.ref (am 0), .int a, .int pp] (fun U => U.heap.size = sz ∧ va_P (dC, dI) vwCl [((am 0), .inr (9, F9 am v_status v_now v_told v_merges v_taped v_size v_from v_to v_fault v_readFault v_traits v_length v_open v_leaks v_places v_models)), ((am 33), .inl (cA 0, 10, .inl f_uses)), ((am 12), .inl (cA 0, 20, .inl f_size0)), ((am 13), .inl (cA 0, 5000, .inl f_step)), ((am 14), .inl (cA 0, 5000, .inl f_stepA)), ((am 25), .inl (cA 2, 400, .inl f_hasKept)), ((am 26), .inl (cA 1, 400, .inr (.inl f_kept))), ((am 27), .inl (cA 0, 400, .inl f_keptAt)), ((am 23), .inl (cA 0, 20, .inl f_limits))] U.heap ∧ va_K (dC, dI) vwCl (tyL cA) U ∧ va_D (fun _ => True) [((am 0), .inr (9, F9 am v_status v_now v_told v_merges v_taped v_size v_from v_to v_fault v_readFault v_traits v_length v_open v_leaks v_places v_models)), ((am 33), .inl (cA 0, 10, .inl f_uses)), ((am 12), .inl (cA 0, 20, .inl f_size0)), ((am 13), .inl (cA 0, 5000, .inl f_step)), ((am 14), .inl (cA 0, 5000, .inl f_stepA)), ((am 25), .inl (cA 2, 400, .inl f_hasKept)), ((am 26), .inl (cA 1, 400, .inr (.inl f_kept))), ((am 27), .inl (cA 0, 400, .inl f_keptAt)), ((am 23), .inl (cA 0, 20, .inl f_limits))] ∧ nw_ok U)) (va_Qi (fun (r : Int32) (_ : Unit) => True) (fun (_ : Unit) (t : State) => va_P (dC, dI) vwCl [((am 0), .inr (9, F9 am v_status v_now v_told v_merges v_taped v_size v_from v_to v_fault v_readFault v_traits v_length v_open v_leaks v_places v_models)), ((am 33), .inl (cA 0, 10, .inl f_uses)), ((am 12), .inl (cA 0, 20, .inl f_size0)), ((am 13), .inl (cA 0, 5000, .inl f_step)), ((am 14), .inl (cA 0, 5000, .inl f_stepA)), ((am 25), .inl (cA 2, 400, .inl f_hasKept)), ((am 26), .inl (cA 1, 400, .inr (.inl f_kept))), ((am 27), .inl (cA 0, 400, .inl f_keptAt)), ((am 23), .inl (cA 0, 20, .inl f_limits))] t.heap ∧ va_D (va_A [((am 0), .inr (9, F9 am v_status v_now v_told v_merges v_taped v_size v_from v_to v_fault v_readFault v_traits v_length v_open v_leaks v_places v_models)), ((am 33), .inl (cA 0, 10, .inl f_uses)), ((am 12), .inl (cA 0, 20, .inl f_size0)), ((am 13), .inl (cA 0, 5000, .inl f_step)), ((am 14), .inl (cA 0, 5000, .inl f_stepA)), ((am 25), .inl (cA 2, 400, .inl f_hasKept)), ((am 26), .inl (cA 1, 400, .inr (.inl f_kept))), ((am 27), .inl (cA 0, 400, .inl f_keptAt)), ((am 23), .inl (cA 0, 20, .inl f_limits))] sz) [((am 0), .inr (9, F9 am v_status v_now v_told v_merges v_taped v_size v_from v_to v_fault v_readFault v_traits v_length v_open v_leaks v_places v_models)), ((am 33), .inl (cA 0, 10, .inl f_uses)), ((am 12), .inl (cA 0, 20, .inl f_size0)), ((am 13), .inl (cA 0, 5000, .inl f_step)), ((am 14), .inl (cA 0, 5000, .inl f_stepA)), ((am 25), .inl (cA 2, 400, .inl f_hasKept)), ((am 26), .inl (cA 1, 400, .inr (.inl f_kept))), ((am 27), .inl (cA 0, 400, .inl f_keptAt)), ((am 23), .inl (cA 0, 20, .inl f_limits))]) (va_A [((am 0), .inr (9, F9 am v_status v_now v_told v_merges v_taped v_size v_from v_to v_fault v_readFault v_traits v_length v_open v_leaks v_places v_models)), ((am 33), .inl (cA 0, 10, .inl f_uses)), ((am 12), .inl (cA 0, 20, .inl f_size0)), ((am 13), .inl (cA 0, 5000, .inl f_step)), ((am 14), .inl (cA 0, 5000, .inl f_stepA)), ((am 25), .inl (cA 2, 400, .inl f_hasKept)), ((am 26), .inl (cA 1, 400, .inr (.inl f_kept))), ((am 27), .inl (cA 0, 400, .inl f_keptAt)), ((am 23), .inl (cA 0, 20, .inl f_limits))] sz)) 0 0 (va_A [((am 0), .inr (9, F9 am v_status v_now v_told v_merges v_taped v_size v_from v_to v_fault v_readFault v_traits v_length v_open v_leaks v_places v_models)), ((am 33), .inl (cA 0, 10, .inl f_uses)), ((am 12), .inl (cA 0, 20, .inl f_size0)), ((am 13), .inl (cA 0, 5000, .inl f_step)), ((am 14), .inl (cA 0, 5000, .inl f_stepA)), ((am 25), .inl (cA 2, 400, .inl f_hasKept)), ((am 26), .inl (cA 1, 400, .inr (.inl f_kept))), ((am 27), .inl (cA 0, 400, .inl f_keptAt)), ((am 23), .inl (cA 0, 20, .inl f_limits))] sz) := by
  refine Met.ofW (cc := cX9_misses) (maxL := 5) (ret := (some .int)) (by decide) rfl ?_
  intro p e s m args below meth c s₁ B hml hv
  obtain ⟨rfl, hsz, hP, hK, hD0, hN⟩ := hv
  have hx := B.exec
  have hb := B.bytes
  have hr := B.returns
  have hts := atoms_spec (ws := wsX9_misses) B.pre
  have hown : s.vm.findClass RX9 = some m.cls := findClass_of_methodNamed B.named
  have hlocks := B.notSynchronized
  subst hsz
  have hD := hD0.self (sz := s.heap.size)
  generalize hAe : va_A [((am 0), .inr (9, F9 am v_status v_now v_told v_merges v_taped v_size v_from v_to v_fault v_readFault v_traits v_length v_open v_leaks v_places v_models)), ((am 33), .inl (cA 0, 10, .inl f_uses)), ((am 12), .inl (cA 0, 20, .inl f_size0)), ((am 13), .inl (cA 0, 5000, .inl f_step)), ((am 14), .inl (cA 0, 5000, .inl f_stepA)), ((am 25), .inl (cA 2, 400, .inl f_hasKept)), ((am 26), .inl (cA 1, 400, .inr (.inl f_kept))), ((am 27), .inl (cA 0, 400, .inl f_keptAt)), ((am 23), .inl (cA 0, 20, .inl f_limits))] s.heap.size = A at hD ⊢
  have hA : ∀ q : Nat, s.heap.size ≤ q → A q := fun q h => by rw [← hAe]; exact Or.inr h
  have hS : va_S A s.heap s.heap [] := va_S.rf
  have hIX9 : ∀ w ∈ u_ws RX9 TX9 51, w ∈ wsX9_misses := by decide +kernel
  have hl := lv_entry ([.ref (am 0), .int a, .int pp]) (n := 5) (Nat.le_of_ble_eq_true rfl)
  rw [lg_entry_eq]
  generalize (lg_sl ([.ref (am 0), .int a, .int pp]) ++ List.replicate (5 - (lg_sl ([.ref (am 0), .int a, .int pp])).length) Slot.unset).toArray = ls at hl ⊢
  have hl : lv_has ls 5 [(0, .ref (am 0)), (1, .int a), (2, .int pp)] := hl
  generalize hQe : MQ below _ _ _ _ _ _ = QQ
  refine lv_iload_n hx hb dX9_misses_0 rfl (lv_at hl 1 rfl) ?_
  obtain ⟨y_1, ey_1⟩ : ∃ y : Int64, y = a.toInt64 := ⟨_, rfl⟩
  have dy_1 : y_1.toInt = a.toInt := by rw [ey_1]; exact Int32.toInt_toInt64 _
  refine lv_i2l (v := y_1) hx hb dX9_misses_1 ey_1.symm ?_
  refine lv_lconst (v := 0) hx hb dX9_misses_2 (by decide) ?_
  refine lv_aload_n hx hb dX9_misses_3 rfl (lv_at hl 0 rfl) ?_
  refine va_get (D := (dC, dI)) (ci := 9) (v := .int v_models) (C := RX9) (T := TX9) (N := 51) hx hb hts hIX9 hown hK hP 0 rfl rfl 47 (by decide) (hts (.fieldLink RX9 323 "TraitHouseModel" "models" "I") (by decide +kernel)) (fun _ h9 => h9) rfl dX9_misses_4 ?_
  refine lv_iconst (v := 1) hx hb dX9_misses_7 (by decide) ?_
  refine lv_isub hx hb dX9_misses_8 ?_
  refine lv_topi (fun x_2 ex_2 => ?_)
  have dx_2 : x_2.toInt = v_models.toInt - 1 := by rw [ex_2]; exact jI_sub rfl (by decide) (by omega) (by omega)
  obtain ⟨y_3, ey_3⟩ : ∃ y : Int64, y = x_2.toInt64 := ⟨_, rfl⟩
  have dy_3 : y_3.toInt = x_2.toInt := by rw [ey_3]; exact Int32.toInt_toInt64 _
  refine lv_i2l (v := y_3) hx hb dX9_misses_9 ey_3.symm ?_
  have hk_4 : (0 : Int64).toInt = 0 := by decide
  obtain ⟨hPc, hDc, hFc, hCc⟩ := va_pre (ws' := []) hP hD hS hA [] (by decide) rfl
  refine va_calli (va_runS (As := [.long y_1, .long 0, .long y_3]) (rest := []) ⟨hx, hb, hml, hown, hts⟩ (k_X9_in l dC dI cA s.heap.size y_1 0 y_3 ) (va_cwS 3 hts gX9_misses_X9_in rfl rfl rfl (by decide +kernel) ⟨Nat.le_of_ble_eq_true rfl, Nat.le_of_ble_eq_true rfl⟩) ⟨fun a U g mk q => by obtain ⟨q0, q1, qP, qK, qD, qN⟩ := q; exact ⟨q0, q1, qP, va_K.moved (u := U) (U := U.calling g mk a) (Vm.Alike.refl U.vm) qK, qD, qN.same rfl⟩, fun U hU hW => ⟨rfl, by rw [hU], by rw [hU]; exact hPc, va_K.moved hW.alike hK, hDc.weaken (fun _ _ _ _ => trivial), hN.warm hW⟩⟩ rfl rfl hl.1 rfl (lv_room (Nat.le_of_ble_eq_true rfl)) dX9_misses_10 ⟨Nat.le_of_ble_eq_true rfl, Nat.le_of_ble_eq_true rfl⟩) hS (fun q _ h => hFc q h) hFc (fun r_5 u_6 t H1 locs ht hvm hw_7 hB hz1 hk1 hS => ?_)
  try dsimp only at hw_7 hB
  have po_8 := hw_7
  clear hw_7
  try simp only [hk_4] at po_8
  obtain ⟨hP1, hD1⟩ := hB
  rw [ht] at hP1
  obtain ⟨hP, hD⟩ := va_join (wr := [((am 0), .inr (9, F9 am v_status v_now v_told v_merges v_taped v_size v_from v_to v_fault v_readFault v_traits v_length v_open v_leaks v_places v_models)), ((am 33), .inl (cA 0, 10, .inl f_uses)), ((am 12), .inl (cA 0, 20, .inl f_size0)), ((am 13), .inl (cA 0, 5000, .inl f_step)), ((am 14), .inl (cA 0, 5000, .inl f_stepA)), ((am 25), .inl (cA 2, 400, .inl f_hasKept)), ((am 26), .inl (cA 1, 400, .inr (.inl f_kept))), ((am 27), .inl (cA 0, 400, .inl f_keptAt)), ((am 23), .inl (cA 0, 20, .inl f_limits))]) (w1 := []) hP hD [] [0, 1, 2, 3, 4, 5, 6, 7, 8] hCc rfl (by decide) (by decide) hk1 hFc hP1 hD1
  clear hz1
  generalize H1 = H at hP hS ⊢
  refine lv_if_eq (tgt := 23) hx hb dX9_misses_13 (by decide) (fun c_9 => ?_) (fun c_9 => ?_)
  · have dc_9 : r_5.toInt = 0 := jI_eq c_9 rfl (by decide)
    refine lv_iconst (v := (-1)) hx hb dX9_misses_23 (by decide) ?_
    obtain ⟨hP9, hD9⟩ := va_pd (ws' := [((am 0), .inr (9, F9 am v_status v_now v_told v_merges v_taped v_size v_from v_to v_fault v_readFault v_traits v_length v_open v_leaks v_places v_models)), ((am 33), .inl (cA 0, 10, .inl f_uses)), ((am 12), .inl (cA 0, 20, .inl f_size0)), ((am 13), .inl (cA 0, 5000, .inl f_step)), ((am 14), .inl (cA 0, 5000, .inl f_stepA)), ((am 25), .inl (cA 2, 400, .inl f_hasKept)), ((am 26), .inl (cA 1, 400, .inr (.inl f_kept))), ((am 27), .inl (cA 0, 400, .inl f_keptAt)), ((am 23), .inl (cA 0, 20, .inl f_limits))]) hP hD [0, 1, 2, 3, 4, 5, 6, 7, 8] (by decide) rfl
    subst hQe
    have hans : ((-1) : Int32).toInt = (-1) := (by decide)
    exact W.iret (v := (-1)) hx hb hr (fun t ht hW => ⟨⟨(-1), (), rfl, trivial, by rw [ht]; exact hP9, hD9⟩, hS.F ht⟩) hS.2.2 dX9_misses_24
  · have dc_9 : ¬ r_5.toInt = 0 := jI_ne c_9 rfl (by decide)
    refine lv_iload_n hx hb dX9_misses_16 rfl (lv_at hl 2 rfl) ?_
    obtain ⟨hPc, hDc, hFc, hCc⟩ := va_pre (ws' := []) hP hD hS hA [] (by decide) rfl
    refine va_calli (va_runS (As := [.int pp]) (rest := []) ⟨hx, hb, hml, hown, hts⟩ (k_X9_isPerson l dC dI cA H.size pp ) (va_cwS 1 hts gX9_misses_X9_isPerson rfl rfl rfl (by decide +kernel) ⟨Nat.le_of_ble_eq_true rfl, Nat.le_of_ble_eq_true rfl⟩) ⟨fun a U g mk q => by obtain ⟨q0, q1, qP, qK, qD, qN⟩ := q; exact ⟨q0, q1, qP, va_K.moved (u := U) (U := U.calling g mk a) (Vm.Alike.refl U.vm) qK, qD, qN.same rfl⟩, fun U hU hW => ⟨rfl, by rw [hU], by rw [hU]; exact hPc, va_K.moved hW.alike hK, hDc.weaken (fun _ _ _ _ => trivial), hN.warm hW⟩⟩ rfl rfl hl.1 rfl (lv_room (Nat.le_of_ble_eq_true rfl)) dX9_misses_17 ⟨Nat.le_of_ble_eq_true rfl, Nat.le_of_ble_eq_true rfl⟩) hS (fun q _ h => hFc q h) hFc (fun r_10 u_11 t H1 locs ht hvm hw_12 hB hz1 hk1 hS => ?_)
    try dsimp only at hw_12 hB
    have po_13 := hw_12
    clear hw_12
    obtain ⟨hP1, hD1⟩ := hB
    rw [ht] at hP1
    obtain ⟨hP, hD⟩ := va_join (wr := [((am 0), .inr (9, F9 am v_status v_now v_told v_merges v_taped v_size v_from v_to v_fault v_readFault v_traits v_length v_open v_leaks v_places v_models)), ((am 33), .inl (cA 0, 10, .inl f_uses)), ((am 12), .inl (cA 0, 20, .inl f_size0)), ((am 13), .inl (cA 0, 5000, .inl f_step)), ((am 14), .inl (cA 0, 5000, .inl f_stepA)), ((am 25), .inl (cA 2, 400, .inl f_hasKept)), ((am 26), .inl (cA 1, 400, .inr (.inl f_kept))), ((am 27), .inl (cA 0, 400, .inl f_keptAt)), ((am 23), .inl (cA 0, 20, .inl f_limits))]) (w1 := []) hP hD [] [0, 1, 2, 3, 4, 5, 6, 7, 8] hCc rfl (by decide) (by decide) hk1 hFc hP1 hD1
    clear hz1
    generalize H1 = H at hP hS ⊢
    refine lv_if_ne (tgt := 25) hx hb dX9_misses_20 (by decide) (fun c_14 => ?_) (fun c_14 => ?_)
    · have dc_14 : ¬ r_10.toInt = 0 := jI_ne c_14 rfl (by decide)
      refine lv_iconst (v := 0) hx hb dX9_misses_25 (by decide) ?_
      refine lv_istore_n (lv' := [(3, .int 0), (0, .ref (am 0)), (1, .int a), (2, .int pp)]) hx hb dX9_misses_26 rfl hl (by decide) rfl (fun ls hl => ?_)
      refine lv_iconst (v := 0) hx hb dX9_misses_27 (by decide) ?_
      refine lv_istore (lv' := [(4, .int 0), (3, .int 0), (0, .ref (am 0)), (1, .int a), (2, .int pp)]) hx hb dX9_misses_28 hl (by decide) rfl (fun ls hl => ?_)
      have loop30_15 : ∀ (n : Nat) (i4 : Int32) (n3 : Int32) (H : Heap) (locs : List Loc) (ls : Array Slot), 20 - i4.toInt < (n : Int) → (0 ≤ i4.toInt ∧ i4.toInt ≤ 20) → va_P (dC, dI) vwCl [((am 0), .inr (9, F9 am v_status v_now v_told v_merges v_taped v_size v_from v_to v_fault v_readFault v_traits v_length v_open v_leaks v_places v_models)), ((am 33), .inl (cA 0, 10, .inl f_uses)), ((am 12), .inl (cA 0, 20, .inl f_size0)), ((am 13), .inl (cA 0, 5000, .inl f_step)), ((am 14), .inl (cA 0, 5000, .inl f_stepA)), ((am 25), .inl (cA 2, 400, .inl f_hasKept)), ((am 26), .inl (cA 1, 400, .inr (.inl f_kept))), ((am 27), .inl (cA 0, 400, .inl f_keptAt)), ((am 23), .inl (cA 0, 20, .inl f_limits))] H → va_D A [((am 0), .inr (9, F9 am v_status v_now v_told v_merges v_taped v_size v_from v_to v_fault v_readFault v_traits v_length v_open v_leaks v_places v_models)), ((am 33), .inl (cA 0, 10, .inl f_uses)), ((am 12), .inl (cA 0, 20, .inl f_size0)), ((am 13), .inl (cA 0, 5000, .inl f_step)), ((am 14), .inl (cA 0, 5000, .inl f_stepA)), ((am 25), .inl (cA 2, 400, .inl f_hasKept)), ((am 26), .inl (cA 1, 400, .inr (.inl f_kept))), ((am 27), .inl (cA 0, 400, .inl f_keptAt)), ((am 23), .inl (cA 0, 20, .inl f_limits))] → va_S A s.heap H locs → lv_has ls 5 [(4, .int i4), (3, .int n3), (0, .ref (am 0)), (1, .int a), (2, .int pp)] → W p l e ({ frames := 4, cells := 0, slots := 0, locals := 92 }) s m ([.ref (am 0), .int a, .int pp] : List Value).toArray below meth c H locs 0 0 QQ (F0 m 30 ls []) := by
        intro n
        induction n with
        | zero => intro i4 n3 H locs ls hme hv0_30; exfalso; omega
        | succ n ih_30 =>
          intro i4 n3 H locs ls hme_30 hv0_30 hP hD hS hl
          refine lv_iload hx hb dX9_misses_30 (lv_at hl 0 rfl) ?_
          refine lv_aload_n hx hb dX9_misses_32 rfl (lv_at hl 2 rfl) ?_
          refine va_get (D := (dC, dI)) (ci := 9) (v := .int v_traits) (C := RX9) (T := TX9) (N := 51) hx hb hts hIX9 hown hK hP 0 rfl rfl 21 (by decide) (hts (.fieldLink RX9 197 "TraitHouseModel" "traits" "I") (by decide +kernel)) (fun _ h9 => h9) rfl dX9_misses_33 ?_
          refine lv_icmp_ge (tgt := 88) hx hb dX9_misses_36 (by decide) (fun c_16 => ?_) (fun c_16 => ?_)
          · have dc_16 : v_traits.toInt ≤ i4.toInt := jI_le c_16 rfl rfl
            refine lv_iload_n hx hb dX9_misses_88 rfl (lv_at hl 1 rfl) ?_
            obtain ⟨hP9, hD9⟩ := va_pd (ws' := [((am 0), .inr (9, F9 am v_status v_now v_told v_merges v_taped v_size v_from v_to v_fault v_readFault v_traits v_length v_open v_leaks v_places v_models)), ((am 33), .inl (cA 0, 10, .inl f_uses)), ((am 12), .inl (cA 0, 20, .inl f_size0)), ((am 13), .inl (cA 0, 5000, .inl f_step)), ((am 14), .inl (cA 0, 5000, .inl f_stepA)), ((am 25), .inl (cA 2, 400, .inl f_hasKept)), ((am 26), .inl (cA 1, 400, .inr (.inl f_kept))), ((am 27), .inl (cA 0, 400, .inl f_keptAt)), ((am 23), .inl (cA 0, 20, .inl f_limits))]) hP hD [0, 1, 2, 3, 4, 5, 6, 7, 8] (by decide) rfl
            subst hQe
            have hans : (n3 : Int32).toInt = n3.toInt := rfl
            exact W.iret (v := n3) hx hb hr (fun t ht hW => ⟨⟨n3, (), rfl, trivial, by rw [ht]; exact hP9, hD9⟩, hS.F ht⟩) hS.2.2 dX9_misses_89
          · have dc_16 : i4.toInt < v_traits.toInt := jI_nle c_16 rfl rfl
            refine lv_aload_n hx hb dX9_misses_39 rfl (lv_at hl 2 rfl) ?_
            refine lv_iload_n hx hb dX9_misses_40 rfl (lv_at hl 3 rfl) ?_
            obtain ⟨hPc, hDc, hFc, hCc⟩ := va_pre (ws' := [((am 0), .inr (9, F9 am v_status v_now v_told v_merges v_taped v_size v_from v_to v_fault v_readFault v_traits v_length v_open v_leaks v_places v_models)), ((am 33), .inl (cA 0, 10, .inl f_uses)), ((am 12), .inl (cA 0, 20, .inl f_size0)), ((am 13), .inl (cA 0, 5000, .inl f_step)), ((am 14), .inl (cA 0, 5000, .inl f_stepA))]) hP hD hS hA [0, 1, 2, 3, 4] (by decide) rfl
            refine va_calli (va_runV (As := [.int a]) (rest := []) ⟨hx, hb, hml, hown, hts⟩ (k_X9_neededOf l dC dI cA H.size am v_status v_now v_told v_merges v_taped v_size v_from v_to v_fault v_readFault v_traits v_length v_open v_leaks v_places v_models f_uses f_size0 f_step f_stepA a i_v_now i_v_told i_v_taped i_v_size i_v_from i_v_to i_v_traits i_v_length i_v_open i_v_places i_v_models i_f_size0 (by omega)) (cwV 1 hts gX9_misses_X9_neededOf rfl rfl rfl (by decide +kernel) ⟨Nat.le_of_ble_eq_true rfl, Nat.le_of_ble_eq_true rfl⟩) ⟨fun a U g mk q => by obtain ⟨q0, q1, qP, qK, qD, qN⟩ := q; exact ⟨q0, q1, qP, va_K.moved (u := U) (U := U.calling g mk a) (Vm.Alike.refl U.vm) qK, qD, qN.same rfl⟩, va_recv hK hPc (ci := 9) (q0 := 0) rfl rfl, fun U hU hW => ⟨rfl, by rw [hU], by rw [hU]; exact hPc, va_K.moved hW.alike hK, hDc.weaken (fun _ _ _ _ => trivial), hN.warm hW⟩⟩ rfl rfl hl.1 rfl (lv_room (Nat.le_of_ble_eq_true rfl)) dX9_misses_41 ⟨Nat.le_of_ble_eq_true rfl, Nat.le_of_ble_eq_true rfl⟩) hS (fun q _ h => hFc q h) hFc (fun r_17 u_18 t H1 locs ht hvm hw_19 hB hz1 hk1 hS => ?_)
            try dsimp only at hw_19 hB
            have po_20 := hw_19
            clear hw_19
            obtain ⟨hP1, hD1⟩ := hB
            rw [ht] at hP1
            obtain ⟨hP, hD⟩ := va_join (wr := [((am 25), .inl (cA 2, 400, .inl f_hasKept)), ((am 26), .inl (cA 1, 400, .inr (.inl f_kept))), ((am 27), .inl (cA 0, 400, .inl f_keptAt)), ((am 23), .inl (cA 0, 20, .inl f_limits))]) (w1 := [((am 0), .inr (9, F9 am v_status v_now v_told v_merges v_taped v_size v_from v_to v_fault v_readFault v_traits v_length v_open v_leaks v_places v_models)), ((am 33), .inl (cA 0, 10, .inl f_uses)), ((am 12), .inl (cA 0, 20, .inl f_size0)), ((am 13), .inl (cA 0, 5000, .inl f_step)), ((am 14), .inl (cA 0, 5000, .inl f_stepA))]) hP hD [0, 1, 2, 3, 4] [5, 6, 7, 8] hCc rfl (by decide) (by decide) hk1 hFc hP1 hD1
            clear hz1
            generalize H1 = H at hP hS ⊢
            refine lv_iload hx hb dX9_misses_44 (lv_at hl 0 rfl) ?_
            refine lv_ishr hx hb dX9_misses_46 ?_
            refine lv_topi (fun x_21 ex_21 => ?_)
            refine lv_iconst (v := 1) hx hb dX9_misses_47 (by decide) ?_
            refine lv_iand hx hb dX9_misses_48 ?_
            refine lv_topi (fun x_22 ex_22 => ?_)
            have dx_22 : 0 ≤ x_22.toInt ∧ x_22.toInt ≤ 1 := by rw [ex_22]; exact jI_mask _ 1 (by decide) (by decide)
            refine lv_iconst (v := 1) hx hb dX9_misses_49 (by decide) ?_
            refine lv_icmp_ne (tgt := 82) hx hb dX9_misses_50 (by decide) (fun c_23 => ?_) (fun c_23 => ?_)
            · have dc_23 : ¬ x_22.toInt = 1 := jI_ne c_23 rfl (by decide)
              obtain ⟨x_24, ex_24⟩ : ∃ y : Int32, y = i4 + 1 := ⟨_, rfl⟩
              have dx_24 : x_24.toInt = i4.toInt + 1 := by rw [ex_24]; exact jI_add rfl (by decide) (by omega) (by omega)
              refine lv_iinc (v := x_24) (lv' := [(4, .int x_24), (3, .int n3), (0, .ref (am 0)), (1, .int a), (2, .int pp)]) hx hb dX9_misses_82 hl (k := 0) rfl (by rw [ex_24]; rfl) (by decide) rfl (fun ls hl => ?_)
              refine lv_goto (tgt := 30) hx hb dX9_misses_85 (by decide) ?_
              exact ih_30 x_24 n3 _ _ ls (by omega) (by omega) (hP.sub [4, 5, 6, 7, 8, 0, 1, 2, 3] rfl) (hD.sub [4, 5, 6, 7, 8, 0, 1, 2, 3] (by decide) rfl) hS (lv_sub hl [0, 1, 2, 3, 4] rfl)
            · have dc_23 : x_22.toInt = 1 := jI_eq c_23 rfl (by decide)
              refine lv_aload_n hx hb dX9_misses_53 rfl (lv_at hl 2 rfl) ?_
              refine lv_iload hx hb dX9_misses_54 (lv_at hl 0 rfl) ?_
              refine lv_iload_n hx hb dX9_misses_56 rfl (lv_at hl 4 rfl) ?_
              obtain ⟨hPc, hDc, hFc, hCc⟩ := va_pre (ws' := [((am 0), .inr (9, F9 am v_status v_now v_told v_merges v_taped v_size v_from v_to v_fault v_readFault v_traits v_length v_open v_leaks v_places v_models)), ((am 25), .inl (cA 2, 400, .inl f_hasKept)), ((am 26), .inl (cA 1, 400, .inr (.inl f_kept)))]) hP hD hS hA [4, 0, 1] (by decide) rfl
              refine va_calll (va_runV (As := [.int i4, .int pp]) (rest := []) ⟨hx, hb, hml, hown, hts⟩ (k_X9_kept l dC dI cA H.size am v_status v_now v_told v_merges v_taped v_size v_from v_to v_fault v_readFault v_traits v_length v_open v_leaks v_places v_models f_hasKept f_kept i4 pp i_v_now i_v_told i_v_taped i_v_size i_v_from i_v_to i_v_traits i_v_length i_v_open i_v_places i_v_models) (cwV 2 hts gX9_misses_X9_kept rfl rfl rfl (by decide +kernel) ⟨Nat.le_of_ble_eq_true rfl, Nat.le_of_ble_eq_true rfl⟩) ⟨fun a U g mk q => by obtain ⟨q0, q1, qP, qK, qD, qN⟩ := q; exact ⟨q0, q1, qP, va_K.moved (u := U) (U := U.calling g mk a) (Vm.Alike.refl U.vm) qK, qD, qN.same rfl⟩, va_recv hK hPc (ci := 9) (q0 := 0) rfl rfl, fun U hU hW => ⟨rfl, by rw [hU], by rw [hU]; exact hPc, va_K.moved hW.alike hK, hDc.weaken (fun _ _ _ _ => trivial), hN.warm hW⟩⟩ rfl rfl hl.1 rfl (lv_room (Nat.le_of_ble_eq_true rfl)) dX9_misses_57 ⟨Nat.le_of_ble_eq_true rfl, Nat.le_of_ble_eq_true rfl⟩) hS (fun q _ h => hFc q h) hFc (fun r_25 u_26 t H1 locs ht hvm hw_27 hB hz1 hk1 hS => ?_)
              try dsimp only at hw_27 hB
              obtain ⟨hP1, hD1⟩ := hB
              rw [ht] at hP1
              obtain ⟨hP, hD⟩ := va_join (wr := [((am 27), .inl (cA 0, 400, .inl f_keptAt)), ((am 23), .inl (cA 0, 20, .inl f_limits)), ((am 33), .inl (cA 0, 10, .inl f_uses)), ((am 12), .inl (cA 0, 20, .inl f_size0)), ((am 13), .inl (cA 0, 5000, .inl f_step)), ((am 14), .inl (cA 0, 5000, .inl f_stepA))]) (w1 := [((am 0), .inr (9, F9 am v_status v_now v_told v_merges v_taped v_size v_from v_to v_fault v_readFault v_traits v_length v_open v_leaks v_places v_models)), ((am 25), .inl (cA 2, 400, .inl f_hasKept)), ((am 26), .inl (cA 1, 400, .inr (.inl f_kept)))]) hP hD [4, 0, 1] [2, 3, 5, 6, 7, 8] hCc rfl (by decide) (by decide) hk1 hFc hP1 hD1
              clear hz1
              generalize H1 = H at hP hS ⊢
              refine lv_ldc2 hx hb hown (hts (.constantLong RX9 274 (-9000000000000000000)) (by decide +kernel)) dX9_misses_60 ?_
              refine W.lcmp hx hb dX9_misses_63 ?_
              refine lv_topi (fun k_28 ek_28 => ?_)
              have dk_28 : (k_28.toInt < 0 ↔ r_25.toInt < (-9000000000000000000)) ∧ (k_28.toInt = 0 ↔ r_25.toInt = (-9000000000000000000)) ∧ (0 < k_28.toInt ↔ (-9000000000000000000) < r_25.toInt) := jI_cmp ek_28 rfl (by decide)
              refine lv_if_eq (tgt := 79) hx hb dX9_misses_64 (by decide) (fun c_29 => ?_) (fun c_29 => ?_)
              · have dc_29 : k_28.toInt = 0 := jI_eq c_29 rfl (by decide)
                obtain ⟨x_30, ex_30⟩ : ∃ y : Int32, y = n3 + 1 := ⟨_, rfl⟩
                refine lv_iinc (v := x_30) (lv' := [(3, .int x_30), (4, .int i4), (0, .ref (am 0)), (1, .int a), (2, .int pp)]) hx hb dX9_misses_79 hl (k := 1) rfl (by rw [ex_30]; rfl) (by decide) rfl (fun ls hl => ?_)
                obtain ⟨x_31, ex_31⟩ : ∃ y : Int32, y = i4 + 1 := ⟨_, rfl⟩
                have dx_31 : x_31.toInt = i4.toInt + 1 := by rw [ex_31]; exact jI_add rfl (by decide) (by omega) (by omega)
                refine lv_iinc (v := x_31) (lv' := [(4, .int x_31), (3, .int x_30), (0, .ref (am 0)), (1, .int a), (2, .int pp)]) hx hb dX9_misses_82 hl (k := 1) rfl (by rw [ex_31]; rfl) (by decide) rfl (fun ls hl => ?_)
                refine lv_goto (tgt := 30) hx hb dX9_misses_85 (by decide) ?_
                exact ih_30 x_31 x_30 _ _ ls (by omega) (by omega) (hP.sub [6, 2, 3, 4, 5, 7, 8, 0, 1] rfl) (hD.sub [6, 2, 3, 4, 5, 7, 8, 0, 1] (by decide) rfl) hS (lv_sub hl [0, 1, 2, 3, 4] rfl)
              · have dc_29 : ¬ k_28.toInt = 0 := jI_ne c_29 rfl (by decide)
                refine lv_aload_n hx hb dX9_misses_67 rfl (lv_at hl 2 rfl) ?_
                refine lv_iload hx hb dX9_misses_68 (lv_at hl 0 rfl) ?_
                refine lv_iload_n hx hb dX9_misses_70 rfl (lv_at hl 4 rfl) ?_
                refine lv_iconst (v := 1) hx hb dX9_misses_71 (by decide) ?_
                have hk_32 : (1 : Int32).toInt = 1 := by decide
                obtain ⟨hPc, hDc, hFc, hCc⟩ := va_pre (ws' := [((am 0), .inr (9, F9 am v_status v_now v_told v_merges v_taped v_size v_from v_to v_fault v_readFault v_traits v_length v_open v_leaks v_places v_models)), ((am 25), .inl (cA 2, 400, .inl f_hasKept)), ((am 27), .inl (cA 0, 400, .inl f_keptAt)), ((am 23), .inl (cA 0, 20, .inl f_limits))]) hP hD hS hA [6, 7, 0, 1] (by decide) rfl
                refine va_calli (va_runV (As := [.int i4, .int pp, .int 1]) (rest := []) ⟨hx, hb, hml, hown, hts⟩ (k_X9_age l dC dI cA H.size am v_status v_now v_told v_merges v_taped v_size v_from v_to v_fault v_readFault v_traits v_length v_open v_leaks v_places v_models f_hasKept f_keptAt f_limits i4 pp 1 i_v_now i_v_told i_v_taped i_v_size i_v_from i_v_to i_v_traits i_v_length i_v_open i_v_places i_v_models) (cwV 3 hts gX9_misses_X9_age rfl rfl rfl (by decide +kernel) ⟨Nat.le_of_ble_eq_true rfl, Nat.le_of_ble_eq_true rfl⟩) ⟨fun a U g mk q => by obtain ⟨q0, q1, qP, qK, qD, qN⟩ := q; exact ⟨q0, q1, qP, va_K.moved (u := U) (U := U.calling g mk a) (Vm.Alike.refl U.vm) qK, qD, qN.same rfl⟩, va_recv hK hPc (ci := 9) (q0 := 0) rfl rfl, fun U hU hW => ⟨rfl, by rw [hU], by rw [hU]; exact hPc, va_K.moved hW.alike hK, hDc.weaken (fun _ _ _ _ => trivial), hN.warm hW⟩⟩ rfl rfl hl.1 rfl (lv_room (Nat.le_of_ble_eq_true rfl)) dX9_misses_72 ⟨Nat.le_of_ble_eq_true rfl, Nat.le_of_ble_eq_true rfl⟩) hS (fun q _ h => hFc q h) hFc (fun r_33 u_34 t H1 locs ht hvm hw_35 hB hz1 hk1 hS => ?_)
                try dsimp only at hw_35 hB
                obtain ⟨hP1, hD1⟩ := hB
                rw [ht] at hP1
                obtain ⟨hP, hD⟩ := va_join (wr := [((am 33), .inl (cA 0, 10, .inl f_uses)), ((am 12), .inl (cA 0, 20, .inl f_size0)), ((am 13), .inl (cA 0, 5000, .inl f_step)), ((am 14), .inl (cA 0, 5000, .inl f_stepA)), ((am 26), .inl (cA 1, 400, .inr (.inl f_kept)))]) (w1 := [((am 0), .inr (9, F9 am v_status v_now v_told v_merges v_taped v_size v_from v_to v_fault v_readFault v_traits v_length v_open v_leaks v_places v_models)), ((am 25), .inl (cA 2, 400, .inl f_hasKept)), ((am 27), .inl (cA 0, 400, .inl f_keptAt)), ((am 23), .inl (cA 0, 20, .inl f_limits))]) hP hD [6, 7, 0, 1] [2, 3, 4, 5, 8] hCc rfl (by decide) (by decide) hk1 hFc hP1 hD1
                clear hz1
                generalize H1 = H at hP hS ⊢
                refine lv_iconst (v := 1) hx hb dX9_misses_75 (by decide) ?_
                refine lv_icmp_ne (tgt := 82) hx hb dX9_misses_76 (by decide) (fun c_36 => ?_) (fun c_36 => ?_)
                · have dc_36 : ¬ r_33.toInt = 1 := jI_ne c_36 rfl (by decide)
                  obtain ⟨x_37, ex_37⟩ : ∃ y : Int32, y = i4 + 1 := ⟨_, rfl⟩
                  have dx_37 : x_37.toInt = i4.toInt + 1 := by rw [ex_37]; exact jI_add rfl (by decide) (by omega) (by omega)
                  refine lv_iinc (v := x_37) (lv' := [(4, .int x_37), (3, .int n3), (0, .ref (am 0)), (1, .int a), (2, .int pp)]) hx hb dX9_misses_82 hl (k := 0) rfl (by rw [ex_37]; rfl) (by decide) rfl (fun ls hl => ?_)
                  refine lv_goto (tgt := 30) hx hb dX9_misses_85 (by decide) ?_
                  exact ih_30 x_37 n3 _ _ ls (by omega) (by omega) (hP.sub [5, 0, 1, 2, 3, 6, 4, 7, 8] rfl) (hD.sub [5, 0, 1, 2, 3, 6, 4, 7, 8] (by decide) rfl) hS (lv_sub hl [0, 1, 2, 3, 4] rfl)
                · have dc_36 : r_33.toInt = 1 := jI_eq c_36 rfl (by decide)
                  obtain ⟨x_38, ex_38⟩ : ∃ y : Int32, y = n3 + 1 := ⟨_, rfl⟩
                  refine lv_iinc (v := x_38) (lv' := [(3, .int x_38), (4, .int i4), (0, .ref (am 0)), (1, .int a), (2, .int pp)]) hx hb dX9_misses_79 hl (k := 1) rfl (by rw [ex_38]; rfl) (by decide) rfl (fun ls hl => ?_)
                  obtain ⟨x_39, ex_39⟩ : ∃ y : Int32, y = i4 + 1 := ⟨_, rfl⟩
                  have dx_39 : x_39.toInt = i4.toInt + 1 := by rw [ex_39]; exact jI_add rfl (by decide) (by omega) (by omega)
                  refine lv_iinc (v := x_39) (lv' := [(4, .int x_39), (3, .int x_38), (0, .ref (am 0)), (1, .int a), (2, .int pp)]) hx hb dX9_misses_82 hl (k := 1) rfl (by rw [ex_39]; rfl) (by decide) rfl (fun ls hl => ?_)
                  refine lv_goto (tgt := 30) hx hb dX9_misses_85 (by decide) ?_
                  exact ih_30 x_39 x_38 _ _ ls (by omega) (by omega) (hP.sub [5, 0, 1, 2, 3, 6, 4, 7, 8] rfl) (hD.sub [5, 0, 1, 2, 3, 6, 4, 7, 8] (by decide) rfl) hS (lv_sub hl [0, 1, 2, 3, 4] rfl)
      have hk_40 : (0 : Int32).toInt = 0 := by decide
      have hk_41 : (0 : Int32).toInt = 0 := by decide
      exact loop30_15 (Int.toNat (20 - (0 : Int32).toInt) + 1) 0 0 _ _ ls (by omega) (by omega) hP hD hS (lv_sub hl [0, 1, 2, 3, 4] rfl)
    · have dc_14 : r_10.toInt = 0 := jI_eq c_14 rfl (by decide)
      refine lv_iconst (v := (-1)) hx hb dX9_misses_23 (by decide) ?_
      obtain ⟨hP9, hD9⟩ := va_pd (ws' := [((am 0), .inr (9, F9 am v_status v_now v_told v_merges v_taped v_size v_from v_to v_fault v_readFault v_traits v_length v_open v_leaks v_places v_models)), ((am 33), .inl (cA 0, 10, .inl f_uses)), ((am 12), .inl (cA 0, 20, .inl f_size0)), ((am 13), .inl (cA 0, 5000, .inl f_step)), ((am 14), .inl (cA 0, 5000, .inl f_stepA)), ((am 25), .inl (cA 2, 400, .inl f_hasKept)), ((am 26), .inl (cA 1, 400, .inr (.inl f_kept))), ((am 27), .inl (cA 0, 400, .inl f_keptAt)), ((am 23), .inl (cA 0, 20, .inl f_limits))]) hP hD [0, 1, 2, 3, 4, 5, 6, 7, 8] (by decide) rfl
      subst hQe
      have hans : ((-1) : Int32).toInt = (-1) := (by decide)
      exact W.iret (v := (-1)) hx hb hr (fun t ht hW => ⟨⟨(-1), (), rfl, trivial, by rw [ht]; exact hP9, hD9⟩, hS.F ht⟩) hS.2.2 dX9_misses_24

set_option maxHeartbeats 8000000 in
set_option maxRecDepth 100000 in
theorem k_X9_fault (l : Launch) (dC : Nat → ClassId) (dI : Nat → Nat → Nat) (cA : Nat → ClassId) (sz : Nat) (am : Nat → Nat) (v_status : Int32) (v_now : Int32) (v_told : Int32) (v_merges : Int32) (v_taped : Int32) (v_size : Int32) (v_from : Int32) (v_to : Int32) (v_fault : Int32) (v_readFault : Int32) (v_traits : Int32) (v_length : Int32) (v_open : Int32) (v_leaks : Int32) (v_places : Int32) (v_models : Int32) (i_v_now : 0 ≤ v_now.toInt ∧ v_now.toInt ≤ 100000) (i_v_told : 0 ≤ v_told.toInt ∧ v_told.toInt ≤ 400) (i_v_taped : 0 ≤ v_taped.toInt ∧ v_taped.toInt ≤ 200) (i_v_size : 0 ≤ v_size.toInt ∧ v_size.toInt ≤ 200) (i_v_from : 0 ≤ v_from.toInt ∧ v_from.toInt ≤ 200) (i_v_to : 0 ≤ v_to.toInt ∧ v_to.toInt ≤ 200) (i_v_traits : 0 ≤ v_traits.toInt ∧ v_traits.toInt ≤ 20) (i_v_length : 0 ≤ v_length.toInt ∧ v_length.toInt ≤ 200) (i_v_open : 0 ≤ v_open.toInt ∧ v_open.toInt ≤ 8) (i_v_places : 0 ≤ v_places.toInt ∧ v_places.toInt ≤ 2000) (i_v_models : 0 ≤ v_models.toInt ∧ v_models.toInt ≤ 10)  : Met l yX9_fault wsX9_fault ({ frames := 0, cells := 0, slots := 0, locals := 0 }) (va_Pc [.ref (am 0)] (fun U => U.heap.size = sz ∧ va_P (dC, dI) vwCl [((am 0), .inr (9, F9 am v_status v_now v_told v_merges v_taped v_size v_from v_to v_fault v_readFault v_traits v_length v_open v_leaks v_places v_models))] U.heap ∧ va_K (dC, dI) vwCl (tyL cA) U ∧ va_D (fun _ => True) [((am 0), .inr (9, F9 am v_status v_now v_told v_merges v_taped v_size v_from v_to v_fault v_readFault v_traits v_length v_open v_leaks v_places v_models))] ∧ nw_ok U)) (va_Qi (fun (r : Int32) (_ : Unit) => (r = v_fault)) (fun (_ : Unit) (t : State) => va_P (dC, dI) vwCl [((am 0), .inr (9, F9 am v_status v_now v_told v_merges v_taped v_size v_from v_to v_fault v_readFault v_traits v_length v_open v_leaks v_places v_models))] t.heap ∧ va_D (va_A [((am 0), .inr (9, F9 am v_status v_now v_told v_merges v_taped v_size v_from v_to v_fault v_readFault v_traits v_length v_open v_leaks v_places v_models))] sz) [((am 0), .inr (9, F9 am v_status v_now v_told v_merges v_taped v_size v_from v_to v_fault v_readFault v_traits v_length v_open v_leaks v_places v_models))]) (va_A [((am 0), .inr (9, F9 am v_status v_now v_told v_merges v_taped v_size v_from v_to v_fault v_readFault v_traits v_length v_open v_leaks v_places v_models))] sz)) 0 0 (va_A [((am 0), .inr (9, F9 am v_status v_now v_told v_merges v_taped v_size v_from v_to v_fault v_readFault v_traits v_length v_open v_leaks v_places v_models))] sz) := by
  refine Met.ofW (cc := cX9_fault) (maxL := 1) (ret := (some .int)) (by decide) rfl ?_
  intro p e s m args below meth c s₁ B hml hv
  obtain ⟨rfl, hsz, hP, hK, hD0, hN⟩ := hv
  have hx := B.exec
  have hb := B.bytes
  have hr := B.returns
  have hts := atoms_spec (ws := wsX9_fault) B.pre
  have hown : s.vm.findClass RX9 = some m.cls := findClass_of_methodNamed B.named
  have hlocks := B.notSynchronized
  subst hsz
  have hD := hD0.self (sz := s.heap.size)
  generalize hAe : va_A [((am 0), .inr (9, F9 am v_status v_now v_told v_merges v_taped v_size v_from v_to v_fault v_readFault v_traits v_length v_open v_leaks v_places v_models))] s.heap.size = A at hD ⊢
  have hA : ∀ q : Nat, s.heap.size ≤ q → A q := fun q h => by rw [← hAe]; exact Or.inr h
  have hS : va_S A s.heap s.heap [] := va_S.rf
  have hIX9 : ∀ w ∈ u_ws RX9 TX9 51, w ∈ wsX9_fault := by decide +kernel
  have hl := lv_entry ([.ref (am 0)]) (n := 1) (Nat.le_of_ble_eq_true rfl)
  rw [lg_entry_eq]
  generalize (lg_sl ([.ref (am 0)]) ++ List.replicate (1 - (lg_sl ([.ref (am 0)])).length) Slot.unset).toArray = ls at hl ⊢
  have hl : lv_has ls 1 [(0, .ref (am 0))] := hl
  generalize hQe : MQ below _ _ _ _ _ _ = QQ
  refine lv_aload_n hx hb dX9_fault_0 rfl (lv_at hl 0 rfl) ?_
  refine va_get (D := (dC, dI)) (ci := 9) (v := .int v_fault) (C := RX9) (T := TX9) (N := 51) hx hb hts hIX9 hown hK hP 0 rfl rfl 18 (by decide) (hts (.fieldLink RX9 42 "TraitHouseModel" "fault" "I") (by decide +kernel)) (fun _ h9 => h9) rfl dX9_fault_1 ?_
  obtain ⟨hP9, hD9⟩ := va_pd (ws' := [((am 0), .inr (9, F9 am v_status v_now v_told v_merges v_taped v_size v_from v_to v_fault v_readFault v_traits v_length v_open v_leaks v_places v_models))]) hP hD [0] (by decide) rfl
  subst hQe
  have hans : (v_fault : Int32).toInt = v_fault.toInt := rfl
  have hpost : ((v_fault : Int32) = v_fault) := rfl
  exact W.iret (v := v_fault) hx hb hr (fun t ht hW => ⟨⟨v_fault, (), rfl, hpost, by rw [ht]; exact hP9, hD9⟩, hS.F ht⟩) hS.2.2 dX9_fault_4

set_option maxHeartbeats 8000000 in
set_option maxRecDepth 100000 in
theorem k_X9_status (l : Launch) (dC : Nat → ClassId) (dI : Nat → Nat → Nat) (cA : Nat → ClassId) (sz : Nat) (am : Nat → Nat) (v_status : Int32) (v_now : Int32) (v_told : Int32) (v_merges : Int32) (v_taped : Int32) (v_size : Int32) (v_from : Int32) (v_to : Int32) (v_fault : Int32) (v_readFault : Int32) (v_traits : Int32) (v_length : Int32) (v_open : Int32) (v_leaks : Int32) (v_places : Int32) (v_models : Int32) (i_v_now : 0 ≤ v_now.toInt ∧ v_now.toInt ≤ 100000) (i_v_told : 0 ≤ v_told.toInt ∧ v_told.toInt ≤ 400) (i_v_taped : 0 ≤ v_taped.toInt ∧ v_taped.toInt ≤ 200) (i_v_size : 0 ≤ v_size.toInt ∧ v_size.toInt ≤ 200) (i_v_from : 0 ≤ v_from.toInt ∧ v_from.toInt ≤ 200) (i_v_to : 0 ≤ v_to.toInt ∧ v_to.toInt ≤ 200) (i_v_traits : 0 ≤ v_traits.toInt ∧ v_traits.toInt ≤ 20) (i_v_length : 0 ≤ v_length.toInt ∧ v_length.toInt ≤ 200) (i_v_open : 0 ≤ v_open.toInt ∧ v_open.toInt ≤ 8) (i_v_places : 0 ≤ v_places.toInt ∧ v_places.toInt ≤ 2000) (i_v_models : 0 ≤ v_models.toInt ∧ v_models.toInt ≤ 10)  : Met l yX9_status wsX9_status ({ frames := 0, cells := 0, slots := 0, locals := 0 }) (va_Pc [.ref (am 0)] (fun U => U.heap.size = sz ∧ va_P (dC, dI) vwCl [((am 0), .inr (9, F9 am v_status v_now v_told v_merges v_taped v_size v_from v_to v_fault v_readFault v_traits v_length v_open v_leaks v_places v_models))] U.heap ∧ va_K (dC, dI) vwCl (tyL cA) U ∧ va_D (fun _ => True) [((am 0), .inr (9, F9 am v_status v_now v_told v_merges v_taped v_size v_from v_to v_fault v_readFault v_traits v_length v_open v_leaks v_places v_models))] ∧ nw_ok U)) (va_Qi (fun (r : Int32) (_ : Unit) => (r = v_status)) (fun (_ : Unit) (t : State) => va_P (dC, dI) vwCl [((am 0), .inr (9, F9 am v_status v_now v_told v_merges v_taped v_size v_from v_to v_fault v_readFault v_traits v_length v_open v_leaks v_places v_models))] t.heap ∧ va_D (va_A [((am 0), .inr (9, F9 am v_status v_now v_told v_merges v_taped v_size v_from v_to v_fault v_readFault v_traits v_length v_open v_leaks v_places v_models))] sz) [((am 0), .inr (9, F9 am v_status v_now v_told v_merges v_taped v_size v_from v_to v_fault v_readFault v_traits v_length v_open v_leaks v_places v_models))]) (va_A [((am 0), .inr (9, F9 am v_status v_now v_told v_merges v_taped v_size v_from v_to v_fault v_readFault v_traits v_length v_open v_leaks v_places v_models))] sz)) 0 0 (va_A [((am 0), .inr (9, F9 am v_status v_now v_told v_merges v_taped v_size v_from v_to v_fault v_readFault v_traits v_length v_open v_leaks v_places v_models))] sz) := by
  refine Met.ofW (cc := cX9_status) (maxL := 1) (ret := (some .int)) (by decide) rfl ?_
  intro p e s m args below meth c s₁ B hml hv
  obtain ⟨rfl, hsz, hP, hK, hD0, hN⟩ := hv
  have hx := B.exec
  have hb := B.bytes
  have hr := B.returns
  have hts := atoms_spec (ws := wsX9_status) B.pre
  have hown : s.vm.findClass RX9 = some m.cls := findClass_of_methodNamed B.named
  have hlocks := B.notSynchronized
  subst hsz
  have hD := hD0.self (sz := s.heap.size)
  generalize hAe : va_A [((am 0), .inr (9, F9 am v_status v_now v_told v_merges v_taped v_size v_from v_to v_fault v_readFault v_traits v_length v_open v_leaks v_places v_models))] s.heap.size = A at hD ⊢
  have hA : ∀ q : Nat, s.heap.size ≤ q → A q := fun q h => by rw [← hAe]; exact Or.inr h
  have hS : va_S A s.heap s.heap [] := va_S.rf
  have hIX9 : ∀ w ∈ u_ws RX9 TX9 51, w ∈ wsX9_status := by decide +kernel
  have hl := lv_entry ([.ref (am 0)]) (n := 1) (Nat.le_of_ble_eq_true rfl)
  rw [lg_entry_eq]
  generalize (lg_sl ([.ref (am 0)]) ++ List.replicate (1 - (lg_sl ([.ref (am 0)])).length) Slot.unset).toArray = ls at hl ⊢
  have hl : lv_has ls 1 [(0, .ref (am 0))] := hl
  generalize hQe : MQ below _ _ _ _ _ _ = QQ
  refine lv_aload_n hx hb dX9_status_0 rfl (lv_at hl 0 rfl) ?_
  refine va_get (D := (dC, dI)) (ci := 9) (v := .int v_status) (C := RX9) (T := TX9) (N := 51) hx hb hts hIX9 hown hK hP 0 rfl rfl 0 (by decide) (hts (.fieldLink RX9 122 "TraitHouseModel" "status" "I") (by decide +kernel)) (fun _ h9 => h9) rfl dX9_status_1 ?_
  obtain ⟨hP9, hD9⟩ := va_pd (ws' := [((am 0), .inr (9, F9 am v_status v_now v_told v_merges v_taped v_size v_from v_to v_fault v_readFault v_traits v_length v_open v_leaks v_places v_models))]) hP hD [0] (by decide) rfl
  subst hQe
  have hans : (v_status : Int32).toInt = v_status.toInt := rfl
  have hpost : ((v_status : Int32) = v_status) := rfl
  exact W.iret (v := v_status) hx hb hr (fun t ht hW => ⟨⟨v_status, (), rfl, hpost, by rw [ht]; exact hP9, hD9⟩, hS.F ht⟩) hS.2.2 dX9_status_4
