theorem dX9_erase_0 : decode cX9_erase 0 = .ok (.iload_n 1, 1) := by decide +kernel
set_option maxRecDepth 20000 in
theorem ggX9_erase_X9_isPerson : GoodIn wsX9_erase wsX9_isPerson := goodIn_r _ [9, 10, 11, 12, 8, 13] (by decide +kernel) (by decide +kernel)
set_option maxRecDepth 20000 in
theorem gX9_erase_X9_isPerson : GoodIn wsX9_erase (va_wsS RX9 150 yX9_isPerson wsX9_isPerson) := goodIn_app (goodIn_of _ (by decide +kernel)) ggX9_erase_X9_isPerson
theorem dX9_erase_1 : decode cX9_erase 1 = .ok (.invokestatic 150, 3) := by decide +kernel
theorem dX9_erase_4 : decode cX9_erase 4 = .ok (.ifCond .ne 10, 3) := by decide +kernel
theorem dX9_erase_14 : decode cX9_erase 14 = .ok (.aload_n 0, 1) := by decide +kernel
theorem dX9_erase_15 : decode cX9_erase 15 = .ok (.getfield 35, 3) := by decide +kernel
theorem dX9_erase_18 : decode cX9_erase 18 = .ok (.iload_n 1, 1) := by decide +kernel
theorem dX9_erase_19 : decode cX9_erase 19 = .ok (.baload, 1) := by decide +kernel
theorem dX9_erase_20 : decode cX9_erase 20 = .ok (.ifCond .eq 10, 3) := by decide +kernel
theorem dX9_erase_30 : decode cX9_erase 30 = .ok (.aload_n 0, 1) := by decide +kernel
theorem dX9_erase_31 : decode cX9_erase 31 = .ok (.getfield 35, 3) := by decide +kernel
theorem dX9_erase_34 : decode cX9_erase 34 = .ok (.iload_n 1, 1) := by decide +kernel
theorem dX9_erase_35 : decode cX9_erase 35 = .ok (.iconst 1, 1) := by decide +kernel
theorem dX9_erase_36 : decode cX9_erase 36 = .ok (.bastore, 1) := by decide +kernel
theorem dX9_erase_37 : decode cX9_erase 37 = .ok (.iconst 0, 1) := by decide +kernel
theorem dX9_erase_38 : decode cX9_erase 38 = .ok (.istore_n 2, 1) := by decide +kernel
theorem dX9_erase_39 : decode cX9_erase 39 = .ok (.iconst 0, 1) := by decide +kernel
theorem dX9_erase_40 : decode cX9_erase 40 = .ok (.istore_n 3, 1) := by decide +kernel
theorem dX9_erase_41 : decode cX9_erase 41 = .ok (.iload_n 3, 1) := by decide +kernel
theorem dX9_erase_42 : decode cX9_erase 42 = .ok (.aload_n 0, 1) := by decide +kernel
theorem dX9_erase_43 : decode cX9_erase 43 = .ok (.getfield 153, 3) := by decide +kernel
theorem dX9_erase_46 : decode cX9_erase 46 = .ok (.if_icmp .ge 41, 3) := by decide +kernel
theorem dX9_erase_87 : decode cX9_erase 87 = .ok (.iconst 0, 1) := by decide +kernel
theorem dX9_erase_88 : decode cX9_erase 88 = .ok (.istore_n 3, 1) := by decide +kernel
theorem dX9_erase_89 : decode cX9_erase 89 = .ok (.iload_n 3, 1) := by decide +kernel
theorem dX9_erase_90 : decode cX9_erase 90 = .ok (.bipush 20, 2) := by decide +kernel
theorem dX9_erase_92 : decode cX9_erase 92 = .ok (.if_icmp .ge 21, 3) := by decide +kernel
theorem dX9_erase_113 : decode cX9_erase 113 = .ok (.aload_n 0, 1) := by decide +kernel
theorem dX9_erase_114 : decode cX9_erase 114 = .ok (.iload_n 2, 1) := by decide +kernel
set_option maxRecDepth 20000 in
theorem ggX9_erase_X9_ends : GoodIn wsX9_erase wsX9_ends := goodIn_r _ [17, 18, 19, 20, 21, 22, 23, 24, 25, 26, 27, 28, 29, 30, 31, 32, 33, 34, 35, 36, 37, 38, 39, 40, 41, 42, 43, 44, 45, 46, 47, 48, 49, 50, 51, 52, 53, 54, 55, 56, 57, 58, 59, 60, 61, 62, 63, 64, 65, 66, 67, 68, 69] (by decide +kernel) (by decide +kernel)
set_option maxRecDepth 20000 in
theorem gX9_erase_X9_ends : GoodIn wsX9_erase (wsV RX9 136 RX9 yX9_ends wsX9_ends) := goodIn_app (goodIn_of _ (by decide +kernel)) ggX9_erase_X9_ends
theorem dX9_erase_115 : decode cX9_erase 115 = .ok (.invokevirtual 136, 3) := by decide +kernel
theorem dX9_erase_118 : decode cX9_erase 118 = .ok (.ireturn, 1) := by decide +kernel
theorem dX9_erase_95 : decode cX9_erase 95 = .ok (.aload_n 0, 1) := by decide +kernel
theorem dX9_erase_96 : decode cX9_erase 96 = .ok (.getfield 89, 3) := by decide +kernel
theorem dX9_erase_99 : decode cX9_erase 99 = .ok (.bipush 20, 2) := by decide +kernel
theorem dX9_erase_101 : decode cX9_erase 101 = .ok (.iload_n 3, 1) := by decide +kernel
theorem dX9_erase_102 : decode cX9_erase 102 = .ok (.imul, 1) := by decide +kernel
theorem dX9_erase_103 : decode cX9_erase 103 = .ok (.iload_n 1, 1) := by decide +kernel
theorem dX9_erase_104 : decode cX9_erase 104 = .ok (.iadd, 1) := by decide +kernel
theorem dX9_erase_105 : decode cX9_erase 105 = .ok (.iconst 0, 1) := by decide +kernel
theorem dX9_erase_106 : decode cX9_erase 106 = .ok (.bastore, 1) := by decide +kernel
theorem dX9_erase_107 : decode cX9_erase 107 = .ok (.iinc 3 1, 3) := by decide +kernel
theorem dX9_erase_110 : decode cX9_erase 110 = .ok (.goto (-21), 3) := by decide +kernel
theorem dX9_erase_49 : decode cX9_erase 49 = .ok (.aload_n 0, 1) := by decide +kernel
theorem dX9_erase_50 : decode cX9_erase 50 = .ok (.getfield 7, 3) := by decide +kernel
theorem dX9_erase_53 : decode cX9_erase 53 = .ok (.iload_n 3, 1) := by decide +kernel
theorem dX9_erase_54 : decode cX9_erase 54 = .ok (.iaload, 1) := by decide +kernel
theorem dX9_erase_55 : decode cX9_erase 55 = .ok (.iload_n 1, 1) := by decide +kernel
theorem dX9_erase_56 : decode cX9_erase 56 = .ok (.if_icmp .ne 25, 3) := by decide +kernel
theorem dX9_erase_81 : decode cX9_erase 81 = .ok (.iinc 3 1, 3) := by decide +kernel
theorem dX9_erase_84 : decode cX9_erase 84 = .ok (.goto (-43), 3) := by decide +kernel
theorem dX9_erase_59 : decode cX9_erase 59 = .ok (.aload_n 0, 1) := by decide +kernel
theorem dX9_erase_60 : decode cX9_erase 60 = .ok (.getfield 25, 3) := by decide +kernel
theorem dX9_erase_63 : decode cX9_erase 63 = .ok (.iload_n 3, 1) := by decide +kernel
theorem dX9_erase_64 : decode cX9_erase 64 = .ok (.baload, 1) := by decide +kernel
theorem dX9_erase_65 : decode cX9_erase 65 = .ok (.ifCond .eq 6, 3) := by decide +kernel
theorem dX9_erase_71 : decode cX9_erase 71 = .ok (.aload_n 0, 1) := by decide +kernel
theorem dX9_erase_72 : decode cX9_erase 72 = .ok (.getfield 25, 3) := by decide +kernel
theorem dX9_erase_75 : decode cX9_erase 75 = .ok (.iload_n 3, 1) := by decide +kernel
theorem dX9_erase_76 : decode cX9_erase 76 = .ok (.iconst 1, 1) := by decide +kernel
theorem dX9_erase_77 : decode cX9_erase 77 = .ok (.bastore, 1) := by decide +kernel
theorem dX9_erase_78 : decode cX9_erase 78 = .ok (.iinc 2 1, 3) := by decide +kernel
theorem dX9_erase_68 : decode cX9_erase 68 = .ok (.goto 13, 3) := by decide +kernel
theorem dX9_erase_23 : decode cX9_erase 23 = .ok (.aload_n 0, 1) := by decide +kernel
theorem dX9_erase_24 : decode cX9_erase 24 = .ok (.bipush (-6), 2) := by decide +kernel
theorem dX9_erase_26 : decode cX9_erase 26 = .ok (.invokevirtual 136, 3) := by decide +kernel
theorem dX9_erase_29 : decode cX9_erase 29 = .ok (.ireturn, 1) := by decide +kernel
theorem dX9_erase_7 : decode cX9_erase 7 = .ok (.aload_n 0, 1) := by decide +kernel
theorem dX9_erase_8 : decode cX9_erase 8 = .ok (.bipush (-2), 2) := by decide +kernel
theorem dX9_erase_10 : decode cX9_erase 10 = .ok (.invokevirtual 136, 3) := by decide +kernel
theorem dX9_erase_13 : decode cX9_erase 13 = .ok (.ireturn, 1) := by decide +kernel
theorem dX9_feed_0 : decode cX9_feed 0 = .ok (.aload_n 0, 1) := by decide +kernel
theorem dX9_feed_1 : decode cX9_feed 1 = .ok (.getfield 164, 3) := by decide +kernel
theorem dX9_feed_4 : decode cX9_feed 4 = .ok (.bipush 20, 2) := by decide +kernel
theorem dX9_feed_6 : decode cX9_feed 6 = .ok (.iadd, 1) := by decide +kernel
theorem dX9_feed_7 : decode cX9_feed 7 = .ok (.sipush 200, 3) := by decide +kernel
theorem dX9_feed_10 : decode cX9_feed 10 = .ok (.if_icmp .le 5, 3) := by decide +kernel
theorem dX9_feed_15 : decode cX9_feed 15 = .ok (.aload_n 0, 1) := by decide +kernel
theorem dX9_feed_16 : decode cX9_feed 16 = .ok (.getfield 46, 3) := by decide +kernel
theorem dX9_feed_19 : decode cX9_feed 19 = .ok (.astore 6, 2) := by decide +kernel
theorem dX9_feed_21 : decode cX9_feed 21 = .ok (.aload 6, 2) := by decide +kernel
theorem dX9_feed_23 : decode cX9_feed 23 = .ok (.iconst 0, 1) := by decide +kernel
theorem dX9_feed_24 : decode cX9_feed 24 = .ok (.iload_n 1, 1) := by decide +kernel
theorem dX9_feed_25 : decode cX9_feed 25 = .ok (.iastore, 1) := by decide +kernel
theorem dX9_feed_26 : decode cX9_feed 26 = .ok (.aload 6, 2) := by decide +kernel
theorem dX9_feed_28 : decode cX9_feed 28 = .ok (.iconst 1, 1) := by decide +kernel
theorem dX9_feed_29 : decode cX9_feed 29 = .ok (.iload_n 2, 1) := by decide +kernel
theorem dX9_feed_30 : decode cX9_feed 30 = .ok (.iastore, 1) := by decide +kernel
theorem dX9_feed_31 : decode cX9_feed 31 = .ok (.aload 6, 2) := by decide +kernel
theorem dX9_feed_33 : decode cX9_feed 33 = .ok (.iconst 2, 1) := by decide +kernel
theorem dX9_feed_34 : decode cX9_feed 34 = .ok (.iload_n 3, 1) := by decide +kernel
theorem dX9_feed_35 : decode cX9_feed 35 = .ok (.iastore, 1) := by decide +kernel
theorem dX9_feed_36 : decode cX9_feed 36 = .ok (.aload 6, 2) := by decide +kernel
theorem dX9_feed_38 : decode cX9_feed 38 = .ok (.iconst 3, 1) := by decide +kernel
theorem dX9_feed_39 : decode cX9_feed 39 = .ok (.iload 4, 2) := by decide +kernel
theorem dX9_feed_41 : decode cX9_feed 41 = .ok (.iastore, 1) := by decide +kernel
theorem dX9_feed_42 : decode cX9_feed 42 = .ok (.aload 6, 2) := by decide +kernel
theorem dX9_feed_44 : decode cX9_feed 44 = .ok (.iconst 4, 1) := by decide +kernel
theorem dX9_feed_45 : decode cX9_feed 45 = .ok (.iload 5, 2) := by decide +kernel
theorem dX9_feed_47 : decode cX9_feed 47 = .ok (.iastore, 1) := by decide +kernel
theorem dX9_feed_48 : decode cX9_feed 48 = .ok (.iconst 0, 1) := by decide +kernel
theorem dX9_feed_49 : decode cX9_feed 49 = .ok (.istore 7, 2) := by decide +kernel
theorem dX9_feed_51 : decode cX9_feed 51 = .ok (.iload 7, 2) := by decide +kernel
theorem dX9_feed_53 : decode cX9_feed 53 = .ok (.bipush 20, 2) := by decide +kernel
theorem dX9_feed_55 : decode cX9_feed 55 = .ok (.if_icmp .ge 40, 3) := by decide +kernel
theorem dX9_feed_95 : decode cX9_feed 95 = .ok (.aload_n 0, 1) := by decide +kernel
theorem dX9_feed_96 : decode cX9_feed 96 = .ok (.dup, 1) := by decide +kernel
theorem dX9_feed_97 : decode cX9_feed 97 = .ok (.getfield 164, 3) := by decide +kernel
theorem dX9_feed_100 : decode cX9_feed 100 = .ok (.bipush 20, 2) := by decide +kernel
theorem dX9_feed_102 : decode cX9_feed 102 = .ok (.iadd, 1) := by decide +kernel
theorem dX9_feed_103 : decode cX9_feed 103 = .ok (.putfield 164, 3) := by decide +kernel
theorem dX9_feed_106 : decode cX9_feed 106 = .ok (.aload_n 0, 1) := by decide +kernel
theorem dX9_feed_107 : decode cX9_feed 107 = .ok (.getfield 164, 3) := by decide +kernel
theorem dX9_feed_110 : decode cX9_feed 110 = .ok (.ireturn, 1) := by decide +kernel
theorem dX9_feed_58 : decode cX9_feed 58 = .ok (.aload_n 0, 1) := by decide +kernel
theorem dX9_feed_59 : decode cX9_feed 59 = .ok (.getfield 38, 3) := by decide +kernel
theorem dX9_feed_62 : decode cX9_feed 62 = .ok (.aload_n 0, 1) := by decide +kernel
theorem dX9_feed_63 : decode cX9_feed 63 = .ok (.getfield 164, 3) := by decide +kernel
theorem dX9_feed_66 : decode cX9_feed 66 = .ok (.iload 7, 2) := by decide +kernel
theorem dX9_feed_68 : decode cX9_feed 68 = .ok (.iadd, 1) := by decide +kernel
theorem dX9_feed_69 : decode cX9_feed 69 = .ok (.aload 6, 2) := by decide +kernel
theorem dX9_feed_71 : decode cX9_feed 71 = .ok (.iload 7, 2) := by decide +kernel
theorem dX9_feed_73 : decode cX9_feed 73 = .ok (.iconst 4, 1) := by decide +kernel
theorem dX9_feed_74 : decode cX9_feed 74 = .ok (.idiv, 1) := by decide +kernel
theorem dX9_feed_75 : decode cX9_feed 75 = .ok (.iaload, 1) := by decide +kernel
theorem dX9_feed_76 : decode cX9_feed 76 = .ok (.bipush 24, 2) := by decide +kernel
theorem dX9_feed_78 : decode cX9_feed 78 = .ok (.bipush 8, 2) := by decide +kernel
theorem dX9_feed_80 : decode cX9_feed 80 = .ok (.iload 7, 2) := by decide +kernel
theorem dX9_feed_82 : decode cX9_feed 82 = .ok (.iconst 4, 1) := by decide +kernel
theorem dX9_feed_83 : decode cX9_feed 83 = .ok (.irem, 1) := by decide +kernel
theorem dX9_feed_84 : decode cX9_feed 84 = .ok (.imul, 1) := by decide +kernel
theorem dX9_feed_85 : decode cX9_feed 85 = .ok (.isub, 1) := by decide +kernel
theorem dX9_feed_86 : decode cX9_feed 86 = .ok (.ishr, 1) := by decide +kernel
theorem dX9_feed_87 : decode cX9_feed 87 = .ok (.i2b, 1) := by decide +kernel
theorem dX9_feed_88 : decode cX9_feed 88 = .ok (.bastore, 1) := by decide +kernel
theorem dX9_feed_89 : decode cX9_feed 89 = .ok (.iinc 7 1, 3) := by decide +kernel
theorem dX9_feed_92 : decode cX9_feed 92 = .ok (.goto (-41), 3) := by decide +kernel
theorem dX9_feed_13 : decode cX9_feed 13 = .ok (.iconst (-1), 1) := by decide +kernel
theorem dX9_feed_14 : decode cX9_feed 14 = .ok (.ireturn, 1) := by decide +kernel
theorem dX9_end_0 : decode cX9_end 0 = .ok (.iload_n 1, 1) := by decide +kernel
theorem dX9_end_1 : decode cX9_end 1 = .ok (.ifCond .lt 11, 3) := by decide +kernel
theorem dX9_end_12 : decode cX9_end 12 = .ok (.iconst (-1), 1) := by decide +kernel
theorem dX9_end_13 : decode cX9_end 13 = .ok (.ireturn, 1) := by decide +kernel
theorem dX9_end_4 : decode cX9_end 4 = .ok (.iload_n 1, 1) := by decide +kernel
theorem dX9_end_5 : decode cX9_end 5 = .ok (.aload_n 0, 1) := by decide +kernel
theorem dX9_end_6 : decode cX9_end 6 = .ok (.getfield 164, 3) := by decide +kernel
theorem dX9_end_9 : decode cX9_end 9 = .ok (.if_icmp .le 5, 3) := by decide +kernel
theorem dX9_end_14 : decode cX9_end 14 = .ok (.aload_n 0, 1) := by decide +kernel
theorem dX9_end_15 : decode cX9_end 15 = .ok (.iload_n 1, 1) := by decide +kernel
theorem dX9_end_16 : decode cX9_end 16 = .ok (.putfield 164, 3) := by decide +kernel
theorem dX9_end_19 : decode cX9_end 19 = .ok (.iload_n 1, 1) := by decide +kernel
theorem dX9_end_20 : decode cX9_end 20 = .ok (.ireturn, 1) := by decide +kernel
theorem dX9_living_0 : decode cX9_living 0 = .ok (.iconst 0, 1) := by decide +kernel
theorem dX9_living_1 : decode cX9_living 1 = .ok (.istore_n 1, 1) := by decide +kernel
theorem dX9_living_2 : decode cX9_living 2 = .ok (.iconst 0, 1) := by decide +kernel
theorem dX9_living_3 : decode cX9_living 3 = .ok (.istore_n 2, 1) := by decide +kernel
theorem dX9_living_4 : decode cX9_living 4 = .ok (.iload_n 2, 1) := by decide +kernel
theorem dX9_living_5 : decode cX9_living 5 = .ok (.bipush 20, 2) := by decide +kernel
theorem dX9_living_7 : decode cX9_living 7 = .ok (.if_icmp .ge 26, 3) := by decide +kernel
theorem dX9_living_33 : decode cX9_living 33 = .ok (.iload_n 1, 1) := by decide +kernel
theorem dX9_living_34 : decode cX9_living 34 = .ok (.ireturn, 1) := by decide +kernel
theorem dX9_living_10 : decode cX9_living 10 = .ok (.iload_n 1, 1) := by decide +kernel
theorem dX9_living_11 : decode cX9_living 11 = .ok (.aload_n 0, 1) := by decide +kernel
theorem dX9_living_12 : decode cX9_living 12 = .ok (.getfield 35, 3) := by decide +kernel
theorem dX9_living_15 : decode cX9_living 15 = .ok (.iload_n 2, 1) := by decide +kernel
theorem dX9_living_16 : decode cX9_living 16 = .ok (.baload, 1) := by decide +kernel
theorem dX9_living_17 : decode cX9_living 17 = .ok (.ifCond .eq 7, 3) := by decide +kernel
theorem dX9_living_24 : decode cX9_living 24 = .ok (.iconst 1, 1) := by decide +kernel
theorem dX9_living_25 : decode cX9_living 25 = .ok (.iadd, 1) := by decide +kernel
theorem dX9_living_26 : decode cX9_living 26 = .ok (.istore_n 1, 1) := by decide +kernel
theorem dX9_living_27 : decode cX9_living 27 = .ok (.iinc 2 1, 3) := by decide +kernel
theorem dX9_living_30 : decode cX9_living 30 = .ok (.goto (-26), 3) := by decide +kernel
theorem dX9_living_20 : decode cX9_living 20 = .ok (.iconst 0, 1) := by decide +kernel
theorem dX9_living_21 : decode cX9_living 21 = .ok (.goto 4, 3) := by decide +kernel
theorem dX9_count_0 : decode cX9_count 0 = .ok (.iconst 0, 1) := by decide +kernel
theorem dX9_count_1 : decode cX9_count 1 = .ok (.istore_n 2, 1) := by decide +kernel
theorem dX9_count_2 : decode cX9_count 2 = .ok (.iload_n 1, 1) := by decide +kernel
theorem dX9_count_3 : decode cX9_count 3 = .ok (.tableswitch 118 0 7 #[45, 50, 85, 90, 98, 103, 108, 113], 45) := by decide +kernel
theorem dX9_count_121 : decode cX9_count 121 = .ok (.iconst (-1), 1) := by decide +kernel
theorem dX9_count_122 : decode cX9_count 122 = .ok (.ireturn, 1) := by decide +kernel
theorem dX9_count_48 : decode cX9_count 48 = .ok (.aload_n 0, 1) := by decide +kernel
theorem dX9_count_49 : decode cX9_count 49 = .ok (.getfield 133, 3) := by decide +kernel
theorem dX9_count_52 : decode cX9_count 52 = .ok (.ireturn, 1) := by decide +kernel
theorem dX9_count_53 : decode cX9_count 53 = .ok (.iconst 0, 1) := by decide +kernel
theorem dX9_count_54 : decode cX9_count 54 = .ok (.istore_n 3, 1) := by decide +kernel
theorem dX9_count_55 : decode cX9_count 55 = .ok (.iload_n 3, 1) := by decide +kernel
theorem dX9_count_56 : decode cX9_count 56 = .ok (.aload_n 0, 1) := by decide +kernel
theorem dX9_count_57 : decode cX9_count 57 = .ok (.getfield 153, 3) := by decide +kernel
theorem dX9_count_60 : decode cX9_count 60 = .ok (.if_icmp .ge 26, 3) := by decide +kernel
theorem dX9_count_86 : decode cX9_count 86 = .ok (.iload_n 2, 1) := by decide +kernel
theorem dX9_count_87 : decode cX9_count 87 = .ok (.ireturn, 1) := by decide +kernel
theorem dX9_count_63 : decode cX9_count 63 = .ok (.iload_n 2, 1) := by decide +kernel
theorem dX9_count_64 : decode cX9_count 64 = .ok (.aload_n 0, 1) := by decide +kernel
theorem dX9_count_65 : decode cX9_count 65 = .ok (.getfield 25, 3) := by decide +kernel
theorem dX9_count_68 : decode cX9_count 68 = .ok (.iload_n 3, 1) := by decide +kernel
theorem dX9_count_69 : decode cX9_count 69 = .ok (.baload, 1) := by decide +kernel
theorem dX9_count_70 : decode cX9_count 70 = .ok (.ifCond .eq 7, 3) := by decide +kernel
theorem dX9_count_77 : decode cX9_count 77 = .ok (.iconst 1, 1) := by decide +kernel
theorem dX9_count_78 : decode cX9_count 78 = .ok (.iadd, 1) := by decide +kernel
theorem dX9_count_79 : decode cX9_count 79 = .ok (.istore_n 2, 1) := by decide +kernel
theorem dX9_count_80 : decode cX9_count 80 = .ok (.iinc 3 1, 3) := by decide +kernel
theorem dX9_count_83 : decode cX9_count 83 = .ok (.goto (-28), 3) := by decide +kernel
theorem dX9_count_73 : decode cX9_count 73 = .ok (.iconst 0, 1) := by decide +kernel
theorem dX9_count_74 : decode cX9_count 74 = .ok (.goto 4, 3) := by decide +kernel
theorem dX9_count_88 : decode cX9_count 88 = .ok (.aload_n 0, 1) := by decide +kernel
theorem dX9_count_89 : decode cX9_count 89 = .ok (.getfield 161, 3) := by decide +kernel
theorem dX9_count_92 : decode cX9_count 92 = .ok (.ireturn, 1) := by decide +kernel
theorem dX9_count_93 : decode cX9_count 93 = .ok (.bipush 20, 2) := by decide +kernel
theorem dX9_count_95 : decode cX9_count 95 = .ok (.aload_n 0, 1) := by decide +kernel
set_option maxRecDepth 20000 in
theorem ggX9_count_X9_living : GoodIn wsX9_count wsX9_living := goodIn_r _ [13, 14, 15, 16, 17, 18, 19, 20, 21, 22, 23, 24, 25, 26, 27, 28, 29, 30, 31, 32, 33, 34, 35, 36, 37, 38, 39, 40, 41, 42, 43, 44, 45, 46, 47, 48, 49, 50, 51, 52, 53, 54, 55, 56, 57, 58, 59, 60, 61, 62, 63, 64, 65] (by decide +kernel) (by decide +kernel)
set_option maxRecDepth 20000 in
theorem gX9_count_X9_living : GoodIn wsX9_count (wsV RX9 315 RX9 yX9_living wsX9_living) := goodIn_app (goodIn_of _ (by decide +kernel)) ggX9_count_X9_living
theorem dX9_count_96 : decode cX9_count 96 = .ok (.invokevirtual 315, 3) := by decide +kernel
theorem dX9_count_99 : decode cX9_count 99 = .ok (.isub, 1) := by decide +kernel
theorem dX9_count_100 : decode cX9_count 100 = .ok (.ireturn, 1) := by decide +kernel
theorem dX9_count_101 : decode cX9_count 101 = .ok (.aload_n 0, 1) := by decide +kernel
theorem dX9_count_102 : decode cX9_count 102 = .ok (.getfield 197, 3) := by decide +kernel
theorem dX9_count_105 : decode cX9_count 105 = .ok (.ireturn, 1) := by decide +kernel
theorem dX9_count_106 : decode cX9_count 106 = .ok (.aload_n 0, 1) := by decide +kernel
theorem dX9_count_107 : decode cX9_count 107 = .ok (.getfield 323, 3) := by decide +kernel
theorem dX9_count_110 : decode cX9_count 110 = .ok (.ireturn, 1) := by decide +kernel
theorem dX9_count_111 : decode cX9_count 111 = .ok (.aload_n 0, 1) := by decide +kernel
theorem dX9_count_112 : decode cX9_count 112 = .ok (.getfield 304, 3) := by decide +kernel
theorem dX9_count_115 : decode cX9_count 115 = .ok (.ireturn, 1) := by decide +kernel
theorem dX9_count_116 : decode cX9_count 116 = .ok (.aload_n 0, 1) := by decide +kernel
theorem dX9_count_117 : decode cX9_count 117 = .ok (.getfield 164, 3) := by decide +kernel
theorem dX9_count_120 : decode cX9_count 120 = .ok (.ireturn, 1) := by decide +kernel
theorem dX9_law_0 : decode cX9_law 0 = .ok (.lload_n 2, 1) := by decide +kernel
theorem dX9_law_1 : decode cX9_law 1 = .ok (.lload 4, 2) := by decide +kernel
theorem dX9_law_3 : decode cX9_law 3 = .ok (.lcmp, 1) := by decide +kernel
theorem dX9_law_4 : decode cX9_law 4 = .ok (.ifCond .le 9, 3) := by decide +kernel
theorem dX9_law_13 : decode cX9_law 13 = .ok (.aload_n 0, 1) := by decide +kernel
theorem dX9_law_14 : decode cX9_law 14 = .ok (.iload_n 1, 1) := by decide +kernel
set_option maxRecDepth 20000 in
theorem ggX9_law_X9_isTrait : GoodIn wsX9_law wsX9_isTrait := goodIn_r _ [13, 14, 15, 16, 7, 17, 18, 19, 20, 21, 22, 23, 24, 25, 26, 27, 28, 29, 30, 31, 32, 33, 34, 35, 36, 37, 38, 39, 40, 41, 42, 43, 44, 45, 46, 47, 48, 49, 50, 51, 52, 53, 54, 55, 56, 57, 58, 59, 60, 61, 62, 63, 64, 65, 66, 67, 68] (by decide +kernel) (by decide +kernel)
set_option maxRecDepth 20000 in
theorem gX9_law_X9_isTrait : GoodIn wsX9_law (wsV RX9 297 RX9 yX9_isTrait wsX9_isTrait) := goodIn_app (goodIn_of _ (by decide +kernel)) ggX9_law_X9_isTrait
theorem dX9_law_15 : decode cX9_law 15 = .ok (.invokevirtual 297, 3) := by decide +kernel
theorem dX9_law_18 : decode cX9_law 18 = .ok (.ifCond .ne 10, 3) := by decide +kernel
theorem dX9_law_28 : decode cX9_law 28 = .ok (.aload_n 0, 1) := by decide +kernel
theorem dX9_law_29 : decode cX9_law 29 = .ok (.getfield 80, 3) := by decide +kernel
theorem dX9_law_32 : decode cX9_law 32 = .ok (.iload_n 1, 1) := by decide +kernel
theorem dX9_law_33 : decode cX9_law 33 = .ok (.iconst 1, 1) := by decide +kernel
theorem dX9_law_34 : decode cX9_law 34 = .ok (.bastore, 1) := by decide +kernel
theorem dX9_law_35 : decode cX9_law 35 = .ok (.aload_n 0, 1) := by decide +kernel
theorem dX9_law_36 : decode cX9_law 36 = .ok (.getfield 74, 3) := by decide +kernel
theorem dX9_law_39 : decode cX9_law 39 = .ok (.iload_n 1, 1) := by decide +kernel
theorem dX9_law_40 : decode cX9_law 40 = .ok (.lload_n 2, 1) := by decide +kernel
theorem dX9_law_41 : decode cX9_law 41 = .ok (.lastore, 1) := by decide +kernel
theorem dX9_law_42 : decode cX9_law 42 = .ok (.aload_n 0, 1) := by decide +kernel
theorem dX9_law_43 : decode cX9_law 43 = .ok (.getfield 77, 3) := by decide +kernel
theorem dX9_law_46 : decode cX9_law 46 = .ok (.iload_n 1, 1) := by decide +kernel
theorem dX9_law_47 : decode cX9_law 47 = .ok (.lload 4, 2) := by decide +kernel
theorem dX9_law_49 : decode cX9_law 49 = .ok (.lastore, 1) := by decide +kernel
theorem dX9_law_50 : decode cX9_law 50 = .ok (.aload_n 0, 1) := by decide +kernel
theorem dX9_law_51 : decode cX9_law 51 = .ok (.iconst 0, 1) := by decide +kernel
set_option maxRecDepth 20000 in
theorem ggX9_law_X9_ends : GoodIn wsX9_law wsX9_ends := goodIn_r _ [8, 9, 18, 19, 20, 21, 22, 23, 24, 25, 26, 27, 28, 29, 30, 31, 32, 33, 34, 35, 36, 37, 38, 39, 40, 41, 42, 43, 44, 45, 46, 47, 48, 49, 50, 51, 52, 53, 54, 55, 56, 57, 58, 59, 60, 61, 62, 63, 64, 65, 66, 67, 68] (by decide +kernel) (by decide +kernel)
set_option maxRecDepth 20000 in
theorem gX9_law_X9_ends : GoodIn wsX9_law (wsV RX9 136 RX9 yX9_ends wsX9_ends) := goodIn_app (goodIn_of _ (by decide +kernel)) ggX9_law_X9_ends
theorem dX9_law_52 : decode cX9_law 52 = .ok (.invokevirtual 136, 3) := by decide +kernel
theorem dX9_law_55 : decode cX9_law 55 = .ok (.ireturn, 1) := by decide +kernel
theorem dX9_law_21 : decode cX9_law 21 = .ok (.aload_n 0, 1) := by decide +kernel
theorem dX9_law_22 : decode cX9_law 22 = .ok (.bipush (-2), 2) := by decide +kernel
theorem dX9_law_24 : decode cX9_law 24 = .ok (.invokevirtual 136, 3) := by decide +kernel
theorem dX9_law_27 : decode cX9_law 27 = .ok (.ireturn, 1) := by decide +kernel
theorem dX9_law_7 : decode cX9_law 7 = .ok (.aload_n 0, 1) := by decide +kernel
theorem dX9_law_8 : decode cX9_law 8 = .ok (.iconst (-1), 1) := by decide +kernel
theorem dX9_law_9 : decode cX9_law 9 = .ok (.invokevirtual 136, 3) := by decide +kernel
theorem dX9_law_12 : decode cX9_law 12 = .ok (.ireturn, 1) := by decide +kernel
theorem dX9_limit_0 : decode cX9_limit 0 = .ok (.iload_n 2, 1) := by decide +kernel
theorem dX9_limit_1 : decode cX9_limit 1 = .ok (.i2l, 1) := by decide +kernel
theorem dX9_limit_2 : decode cX9_limit 2 = .ok (.lconst 0, 1) := by decide +kernel
theorem dX9_limit_3 : decode cX9_limit 3 = .ok (.ldc2_w 125, 3) := by decide +kernel
set_option maxRecDepth 20000 in
theorem ggX9_limit_X9_in : GoodIn wsX9_limit wsX9_in := goodIn_r _ [6] (by decide +kernel) (by decide +kernel)
set_option maxRecDepth 20000 in
theorem gX9_limit_X9_in : GoodIn wsX9_limit (va_wsS RX9 127 yX9_in wsX9_in) := goodIn_app (goodIn_of _ (by decide +kernel)) ggX9_limit_X9_in
theorem dX9_limit_6 : decode cX9_limit 6 = .ok (.invokestatic 127, 3) := by decide +kernel
theorem dX9_limit_9 : decode cX9_limit 9 = .ok (.ifCond .ne 9, 3) := by decide +kernel
theorem dX9_limit_18 : decode cX9_limit 18 = .ok (.aload_n 0, 1) := by decide +kernel
theorem dX9_limit_19 : decode cX9_limit 19 = .ok (.iload_n 1, 1) := by decide +kernel
set_option maxRecDepth 20000 in
theorem ggX9_limit_X9_isTrait : GoodIn wsX9_limit wsX9_isTrait := goodIn_r _ [15, 16, 3, 4, 5, 6, 17, 18, 19, 20, 21, 22, 23, 24, 25, 26, 27, 28, 29, 30, 31, 32, 33, 34, 35, 36, 37, 38, 39, 40, 41, 42, 43, 44, 45, 46, 47, 48, 49, 50, 51, 52, 53, 54, 55, 56, 57, 58, 59, 60, 61, 62, 63, 64, 65, 66, 67] (by decide +kernel) (by decide +kernel)
set_option maxRecDepth 20000 in
theorem gX9_limit_X9_isTrait : GoodIn wsX9_limit (wsV RX9 297 RX9 yX9_isTrait wsX9_isTrait) := goodIn_app (goodIn_of _ (by decide +kernel)) ggX9_limit_X9_isTrait
theorem dX9_limit_20 : decode cX9_limit 20 = .ok (.invokevirtual 297, 3) := by decide +kernel
theorem dX9_limit_23 : decode cX9_limit 23 = .ok (.ifCond .ne 10, 3) := by decide +kernel
theorem dX9_limit_33 : decode cX9_limit 33 = .ok (.aload_n 0, 1) := by decide +kernel
theorem dX9_limit_34 : decode cX9_limit 34 = .ok (.getfield 83, 3) := by decide +kernel
theorem dX9_limit_37 : decode cX9_limit 37 = .ok (.iload_n 1, 1) := by decide +kernel
theorem dX9_limit_38 : decode cX9_limit 38 = .ok (.iaload, 1) := by decide +kernel
theorem dX9_limit_39 : decode cX9_limit 39 = .ok (.istore_n 3, 1) := by decide +kernel
theorem dX9_limit_40 : decode cX9_limit 40 = .ok (.aload_n 0, 1) := by decide +kernel
theorem dX9_limit_41 : decode cX9_limit 41 = .ok (.getfield 83, 3) := by decide +kernel
theorem dX9_limit_44 : decode cX9_limit 44 = .ok (.iload_n 1, 1) := by decide +kernel
theorem dX9_limit_45 : decode cX9_limit 45 = .ok (.iload_n 2, 1) := by decide +kernel
theorem dX9_limit_46 : decode cX9_limit 46 = .ok (.iastore, 1) := by decide +kernel
theorem dX9_limit_47 : decode cX9_limit 47 = .ok (.aload_n 0, 1) := by decide +kernel
theorem dX9_limit_48 : decode cX9_limit 48 = .ok (.iload_n 3, 1) := by decide +kernel
set_option maxRecDepth 20000 in
theorem ggX9_limit_X9_ends : GoodIn wsX9_limit wsX9_ends := goodIn_r _ [10, 11, 17, 18, 19, 20, 21, 22, 23, 24, 25, 26, 27, 28, 29, 30, 31, 32, 33, 34, 35, 36, 37, 38, 39, 40, 41, 42, 43, 44, 45, 46, 47, 48, 49, 50, 51, 52, 53, 54, 55, 56, 57, 58, 59, 60, 61, 62, 63, 64, 65, 66, 67] (by decide +kernel) (by decide +kernel)
set_option maxRecDepth 20000 in
theorem gX9_limit_X9_ends : GoodIn wsX9_limit (wsV RX9 136 RX9 yX9_ends wsX9_ends) := goodIn_app (goodIn_of _ (by decide +kernel)) ggX9_limit_X9_ends
theorem dX9_limit_49 : decode cX9_limit 49 = .ok (.invokevirtual 136, 3) := by decide +kernel
theorem dX9_limit_52 : decode cX9_limit 52 = .ok (.ireturn, 1) := by decide +kernel
theorem dX9_limit_26 : decode cX9_limit 26 = .ok (.aload_n 0, 1) := by decide +kernel
theorem dX9_limit_27 : decode cX9_limit 27 = .ok (.bipush (-2), 2) := by decide +kernel
theorem dX9_limit_29 : decode cX9_limit 29 = .ok (.invokevirtual 136, 3) := by decide +kernel
theorem dX9_limit_32 : decode cX9_limit 32 = .ok (.ireturn, 1) := by decide +kernel
theorem dX9_limit_12 : decode cX9_limit 12 = .ok (.aload_n 0, 1) := by decide +kernel
theorem dX9_limit_13 : decode cX9_limit 13 = .ok (.iconst (-1), 1) := by decide +kernel
theorem dX9_limit_14 : decode cX9_limit 14 = .ok (.invokevirtual 136, 3) := by decide +kernel
theorem dX9_limit_17 : decode cX9_limit 17 = .ok (.ireturn, 1) := by decide +kernel
theorem dX9_lays_0 : decode cX9_lays 0 = .ok (.aload_n 0, 1) := by decide +kernel
theorem dX9_lays_1 : decode cX9_lays 1 = .ok (.getfield 98, 3) := by decide +kernel
theorem dX9_lays_4 : decode cX9_lays 4 = .ok (.aload_n 0, 1) := by decide +kernel
theorem dX9_lays_5 : decode cX9_lays 5 = .ok (.getfield 304, 3) := by decide +kernel
theorem dX9_lays_8 : decode cX9_lays 8 = .ok (.iload_n 1, 1) := by decide +kernel
theorem dX9_lays_9 : decode cX9_lays 9 = .ok (.iastore, 1) := by decide +kernel
theorem dX9_lays_10 : decode cX9_lays 10 = .ok (.aload_n 0, 1) := by decide +kernel
theorem dX9_lays_11 : decode cX9_lays 11 = .ok (.getfield 101, 3) := by decide +kernel
theorem dX9_lays_14 : decode cX9_lays 14 = .ok (.aload_n 0, 1) := by decide +kernel
theorem dX9_lays_15 : decode cX9_lays 15 = .ok (.getfield 304, 3) := by decide +kernel
theorem dX9_lays_18 : decode cX9_lays 18 = .ok (.iload_n 2, 1) := by decide +kernel
theorem dX9_lays_19 : decode cX9_lays 19 = .ok (.iastore, 1) := by decide +kernel
theorem dX9_lays_20 : decode cX9_lays 20 = .ok (.aload_n 0, 1) := by decide +kernel
theorem dX9_lays_21 : decode cX9_lays 21 = .ok (.getfield 104, 3) := by decide +kernel
theorem dX9_lays_24 : decode cX9_lays 24 = .ok (.aload_n 0, 1) := by decide +kernel
theorem dX9_lays_25 : decode cX9_lays 25 = .ok (.getfield 304, 3) := by decide +kernel
theorem dX9_lays_28 : decode cX9_lays 28 = .ok (.iload_n 3, 1) := by decide +kernel
theorem dX9_lays_29 : decode cX9_lays 29 = .ok (.iastore, 1) := by decide +kernel
theorem dX9_lays_30 : decode cX9_lays 30 = .ok (.aload_n 0, 1) := by decide +kernel
theorem dX9_lays_31 : decode cX9_lays 31 = .ok (.getfield 107, 3) := by decide +kernel
theorem dX9_lays_34 : decode cX9_lays 34 = .ok (.aload_n 0, 1) := by decide +kernel
theorem dX9_lays_35 : decode cX9_lays 35 = .ok (.getfield 304, 3) := by decide +kernel
theorem dX9_lays_38 : decode cX9_lays 38 = .ok (.lload 4, 2) := by decide +kernel
theorem dX9_lays_40 : decode cX9_lays 40 = .ok (.lastore, 1) := by decide +kernel
theorem dX9_lays_41 : decode cX9_lays 41 = .ok (.aload_n 0, 1) := by decide +kernel
theorem dX9_lays_42 : decode cX9_lays 42 = .ok (.getfield 110, 3) := by decide +kernel
theorem dX9_lays_45 : decode cX9_lays 45 = .ok (.aload_n 0, 1) := by decide +kernel
theorem dX9_lays_46 : decode cX9_lays 46 = .ok (.getfield 304, 3) := by decide +kernel
theorem dX9_lays_49 : decode cX9_lays 49 = .ok (.iload 6, 2) := by decide +kernel
theorem dX9_lays_51 : decode cX9_lays 51 = .ok (.bastore, 1) := by decide +kernel
theorem dX9_lays_52 : decode cX9_lays 52 = .ok (.aload_n 0, 1) := by decide +kernel
theorem dX9_lays_53 : decode cX9_lays 53 = .ok (.dup, 1) := by decide +kernel
theorem dX9_lays_54 : decode cX9_lays 54 = .ok (.getfield 304, 3) := by decide +kernel
theorem dX9_lays_57 : decode cX9_lays 57 = .ok (.iconst 1, 1) := by decide +kernel
theorem dX9_lays_58 : decode cX9_lays 58 = .ok (.iadd, 1) := by decide +kernel
theorem dX9_lays_59 : decode cX9_lays 59 = .ok (.putfield 304, 3) := by decide +kernel
theorem dX9_lays_62 : decode cX9_lays 62 = .ok (.return_, 1) := by decide +kernel
theorem dX9_found_0 : decode cX9_found 0 = .ok (.iconst (-1), 1) := by decide +kernel
theorem dX9_found_1 : decode cX9_found 1 = .ok (.istore 4, 2) := by decide +kernel
theorem dX9_found_3 : decode cX9_found 3 = .ok (.iload_n 2, 1) := by decide +kernel
set_option maxRecDepth 20000 in
theorem ggX9_found_X9_isPerson : GoodIn wsX9_found wsX9_isPerson := goodIn_r _ [9, 10, 11, 12, 8, 13] (by decide +kernel) (by decide +kernel)
set_option maxRecDepth 20000 in
theorem gX9_found_X9_isPerson : GoodIn wsX9_found (va_wsS RX9 150 yX9_isPerson wsX9_isPerson) := goodIn_app (goodIn_of _ (by decide +kernel)) ggX9_found_X9_isPerson
theorem dX9_found_4 : decode cX9_found 4 = .ok (.invokestatic 150, 3) := by decide +kernel
theorem dX9_found_7 : decode cX9_found 7 = .ok (.ifCond .eq 19, 3) := by decide +kernel
theorem dX9_found_26 : decode cX9_found 26 = .ok (.iconst (-1), 1) := by decide +kernel
theorem dX9_found_27 : decode cX9_found 27 = .ok (.ireturn, 1) := by decide +kernel
theorem dX9_found_10 : decode cX9_found 10 = .ok (.aload_n 0, 1) := by decide +kernel
theorem dX9_found_11 : decode cX9_found 11 = .ok (.getfield 35, 3) := by decide +kernel
theorem dX9_found_14 : decode cX9_found 14 = .ok (.iload_n 2, 1) := by decide +kernel
theorem dX9_found_15 : decode cX9_found 15 = .ok (.baload, 1) := by decide +kernel
theorem dX9_found_16 : decode cX9_found 16 = .ok (.ifCond .ne 10, 3) := by decide +kernel
theorem dX9_found_19 : decode cX9_found 19 = .ok (.iload_n 3, 1) := by decide +kernel
set_option maxRecDepth 20000 in
theorem ggX9_found_X9_isMoment : GoodIn wsX9_found wsX9_isMoment := goodIn_r _ [16, 17, 11, 12, 8, 13] (by decide +kernel) (by decide +kernel)
set_option maxRecDepth 20000 in
theorem gX9_found_X9_isMoment : GoodIn wsX9_found (va_wsS RX9 142 yX9_isMoment wsX9_isMoment) := goodIn_app (goodIn_of _ (by decide +kernel)) ggX9_found_X9_isMoment
theorem dX9_found_20 : decode cX9_found 20 = .ok (.invokestatic 142, 3) := by decide +kernel
theorem dX9_found_23 : decode cX9_found 23 = .ok (.ifCond .ne 5, 3) := by decide +kernel
theorem dX9_found_28 : decode cX9_found 28 = .ok (.iconst 0, 1) := by decide +kernel
theorem dX9_found_29 : decode cX9_found 29 = .ok (.istore 5, 2) := by decide +kernel
theorem dX9_found_31 : decode cX9_found 31 = .ok (.iload 5, 2) := by decide +kernel
theorem dX9_found_33 : decode cX9_found 33 = .ok (.aload_n 0, 1) := by decide +kernel
theorem dX9_found_34 : decode cX9_found 34 = .ok (.getfield 304, 3) := by decide +kernel
theorem dX9_found_37 : decode cX9_found 37 = .ok (.if_icmp .ge 72, 3) := by decide +kernel
theorem dX9_found_109 : decode cX9_found 109 = .ok (.iload 4, 2) := by decide +kernel
theorem dX9_found_111 : decode cX9_found 111 = .ok (.ireturn, 1) := by decide +kernel
theorem dX9_found_40 : decode cX9_found 40 = .ok (.aload_n 0, 1) := by decide +kernel
theorem dX9_found_41 : decode cX9_found 41 = .ok (.getfield 98, 3) := by decide +kernel
theorem dX9_found_44 : decode cX9_found 44 = .ok (.iload 5, 2) := by decide +kernel
theorem dX9_found_46 : decode cX9_found 46 = .ok (.iaload, 1) := by decide +kernel
theorem dX9_found_47 : decode cX9_found 47 = .ok (.iload_n 1, 1) := by decide +kernel
theorem dX9_found_48 : decode cX9_found 48 = .ok (.if_icmp .ne 55, 3) := by decide +kernel
theorem dX9_found_103 : decode cX9_found 103 = .ok (.iinc 5 1, 3) := by decide +kernel
theorem dX9_found_106 : decode cX9_found 106 = .ok (.goto (-75), 3) := by decide +kernel
theorem dX9_found_51 : decode cX9_found 51 = .ok (.aload_n 0, 1) := by decide +kernel
theorem dX9_found_52 : decode cX9_found 52 = .ok (.getfield 101, 3) := by decide +kernel
theorem dX9_found_55 : decode cX9_found 55 = .ok (.iload 5, 2) := by decide +kernel
theorem dX9_found_57 : decode cX9_found 57 = .ok (.iaload, 1) := by decide +kernel
theorem dX9_found_58 : decode cX9_found 58 = .ok (.iload_n 2, 1) := by decide +kernel
theorem dX9_found_59 : decode cX9_found 59 = .ok (.if_icmp .ne 44, 3) := by decide +kernel
theorem dX9_found_62 : decode cX9_found 62 = .ok (.aload_n 0, 1) := by decide +kernel
theorem dX9_found_63 : decode cX9_found 63 = .ok (.getfield 104, 3) := by decide +kernel
theorem dX9_found_66 : decode cX9_found 66 = .ok (.iload 5, 2) := by decide +kernel
theorem dX9_found_68 : decode cX9_found 68 = .ok (.iaload, 1) := by decide +kernel
theorem dX9_found_69 : decode cX9_found 69 = .ok (.iload_n 3, 1) := by decide +kernel
theorem dX9_found_70 : decode cX9_found 70 = .ok (.if_icmp .le 6, 3) := by decide +kernel
theorem dX9_found_76 : decode cX9_found 76 = .ok (.iload 4, 2) := by decide +kernel
theorem dX9_found_78 : decode cX9_found 78 = .ok (.iconst (-1), 1) := by decide +kernel
theorem dX9_found_79 : decode cX9_found 79 = .ok (.if_icmp .eq 20, 3) := by decide +kernel
theorem dX9_found_99 : decode cX9_found 99 = .ok (.iload 5, 2) := by decide +kernel
theorem dX9_found_101 : decode cX9_found 101 = .ok (.istore 4, 2) := by decide +kernel
theorem dX9_found_82 : decode cX9_found 82 = .ok (.aload_n 0, 1) := by decide +kernel
theorem dX9_found_83 : decode cX9_found 83 = .ok (.getfield 104, 3) := by decide +kernel
theorem dX9_found_86 : decode cX9_found 86 = .ok (.iload 5, 2) := by decide +kernel
theorem dX9_found_88 : decode cX9_found 88 = .ok (.iaload, 1) := by decide +kernel
theorem dX9_found_89 : decode cX9_found 89 = .ok (.aload_n 0, 1) := by decide +kernel
theorem dX9_found_90 : decode cX9_found 90 = .ok (.getfield 104, 3) := by decide +kernel
theorem dX9_found_93 : decode cX9_found 93 = .ok (.iload 4, 2) := by decide +kernel
theorem dX9_found_95 : decode cX9_found 95 = .ok (.iaload, 1) := by decide +kernel
theorem dX9_found_96 : decode cX9_found 96 = .ok (.if_icmp .lt 7, 3) := by decide +kernel
theorem dX9_found_73 : decode cX9_found 73 = .ok (.goto 30, 3) := by decide +kernel
theorem dX9_history_0 : decode cX9_history 0 = .ok (.aload_n 0, 1) := by decide +kernel
theorem dX9_history_1 : decode cX9_history 1 = .ok (.iload_n 1, 1) := by decide +kernel
theorem dX9_history_2 : decode cX9_history 2 = .ok (.iload_n 2, 1) := by decide +kernel
theorem dX9_history_3 : decode cX9_history 3 = .ok (.iload_n 3, 1) := by decide +kernel
set_option maxRecDepth 20000 in
theorem ggX9_history_X9_found : GoodIn wsX9_history wsX9_found := goodIn_r _ [7, 8, 9, 10, 11, 12, 13, 14, 6, 15, 16, 17, 18, 19, 20, 21, 22, 23, 24, 25, 26, 27, 28, 29, 30, 31, 32, 33, 34, 35, 36, 37, 38, 39, 40, 41, 42, 43, 44, 45, 46, 47, 48, 49, 50, 51, 52, 53, 54, 55, 56, 57, 58, 59, 60, 61, 62, 63, 64, 65, 66, 67, 68, 69, 70, 71, 72, 73, 74] (by decide +kernel) (by decide +kernel)
set_option maxRecDepth 20000 in
theorem gX9_history_X9_found : GoodIn wsX9_history (wsV RX9 319 RX9 yX9_found wsX9_found) := goodIn_app (goodIn_of _ (by decide +kernel)) ggX9_history_X9_found
theorem dX9_history_4 : decode cX9_history 4 = .ok (.invokevirtual 319, 3) := by decide +kernel
theorem dX9_history_7 : decode cX9_history 7 = .ok (.istore 4, 2) := by decide +kernel
theorem dX9_history_9 : decode cX9_history 9 = .ok (.iload 4, 2) := by decide +kernel
theorem dX9_history_11 : decode cX9_history 11 = .ok (.iconst (-1), 1) := by decide +kernel
theorem dX9_history_12 : decode cX9_history 12 = .ok (.if_icmp .ne 9, 3) := by decide +kernel
theorem dX9_history_21 : decode cX9_history 21 = .ok (.aload_n 0, 1) := by decide +kernel
theorem dX9_history_22 : decode cX9_history 22 = .ok (.getfield 107, 3) := by decide +kernel
theorem dX9_history_25 : decode cX9_history 25 = .ok (.iload 4, 2) := by decide +kernel
theorem dX9_history_27 : decode cX9_history 27 = .ok (.laload, 1) := by decide +kernel
theorem dX9_history_28 : decode cX9_history 28 = .ok (.lreturn, 1) := by decide +kernel
theorem dX9_history_15 : decode cX9_history 15 = .ok (.ldc2_w 274, 3) := by decide +kernel
theorem dX9_history_18 : decode cX9_history 18 = .ok (.goto 10, 3) := by decide +kernel
theorem dX9_told_0 : decode cX9_told 0 = .ok (.aload_n 0, 1) := by decide +kernel
theorem dX9_told_1 : decode cX9_told 1 = .ok (.iload_n 1, 1) := by decide +kernel
theorem dX9_told_2 : decode cX9_told 2 = .ok (.iload_n 2, 1) := by decide +kernel
theorem dX9_told_3 : decode cX9_told 3 = .ok (.iload_n 3, 1) := by decide +kernel
set_option maxRecDepth 20000 in
theorem ggX9_told_X9_found : GoodIn wsX9_told wsX9_found := goodIn_r _ [7, 8, 9, 10, 11, 1, 12, 13, 6, 14, 15, 16, 17, 18, 19, 20, 21, 22, 23, 24, 25, 26, 27, 28, 29, 30, 31, 32, 33, 34, 35, 36, 37, 38, 39, 40, 41, 42, 43, 44, 45, 46, 47, 48, 49, 50, 51, 52, 53, 54, 55, 56, 57, 58, 59, 60, 61, 62, 63, 64, 65, 66, 67, 68, 69, 70, 71, 72, 73] (by decide +kernel) (by decide +kernel)
set_option maxRecDepth 20000 in
theorem gX9_told_X9_found : GoodIn wsX9_told (wsV RX9 319 RX9 yX9_found wsX9_found) := goodIn_app (goodIn_of _ (by decide +kernel)) ggX9_told_X9_found
theorem dX9_told_4 : decode cX9_told 4 = .ok (.invokevirtual 319, 3) := by decide +kernel
theorem dX9_told_7 : decode cX9_told 7 = .ok (.istore 5, 2) := by decide +kernel
theorem dX9_told_9 : decode cX9_told 9 = .ok (.iload 5, 2) := by decide +kernel
theorem dX9_told_11 : decode cX9_told 11 = .ok (.iconst (-1), 1) := by decide +kernel
theorem dX9_told_12 : decode cX9_told 12 = .ok (.if_icmp .eq 14, 3) := by decide +kernel
theorem dX9_told_26 : decode cX9_told 26 = .ok (.iconst (-1), 1) := by decide +kernel
theorem dX9_told_27 : decode cX9_told 27 = .ok (.ireturn, 1) := by decide +kernel
theorem dX9_told_15 : decode cX9_told 15 = .ok (.iload 4, 2) := by decide +kernel
theorem dX9_told_17 : decode cX9_told 17 = .ok (.i2l, 1) := by decide +kernel
theorem dX9_told_18 : decode cX9_told 18 = .ok (.lconst 0, 1) := by decide +kernel
theorem dX9_told_19 : decode cX9_told 19 = .ok (.lconst 1, 1) := by decide +kernel
set_option maxRecDepth 20000 in
theorem ggX9_told_X9_in : GoodIn wsX9_told wsX9_in := goodIn_r _ [18] (by decide +kernel) (by decide +kernel)
set_option maxRecDepth 20000 in
theorem gX9_told_X9_in : GoodIn wsX9_told (va_wsS RX9 127 yX9_in wsX9_in) := goodIn_app (goodIn_of _ (by decide +kernel)) ggX9_told_X9_in
theorem dX9_told_20 : decode cX9_told 20 = .ok (.invokestatic 127, 3) := by decide +kernel
theorem dX9_told_23 : decode cX9_told 23 = .ok (.ifCond .ne 5, 3) := by decide +kernel
theorem dX9_told_28 : decode cX9_told 28 = .ok (.iload 4, 2) := by decide +kernel
theorem dX9_told_30 : decode cX9_told 30 = .ok (.ifCond .ne 13, 3) := by decide +kernel
theorem dX9_told_43 : decode cX9_told 43 = .ok (.aload_n 0, 1) := by decide +kernel
theorem dX9_told_44 : decode cX9_told 44 = .ok (.getfield 110, 3) := by decide +kernel
theorem dX9_told_47 : decode cX9_told 47 = .ok (.iload 5, 2) := by decide +kernel
theorem dX9_told_49 : decode cX9_told 49 = .ok (.baload, 1) := by decide +kernel
theorem dX9_told_50 : decode cX9_told 50 = .ok (.ifCond .eq 7, 3) := by decide +kernel
theorem dX9_told_57 : decode cX9_told 57 = .ok (.iconst 0, 1) := by decide +kernel
theorem dX9_told_58 : decode cX9_told 58 = .ok (.ireturn, 1) := by decide +kernel
theorem dX9_told_53 : decode cX9_told 53 = .ok (.iconst 1, 1) := by decide +kernel
theorem dX9_told_54 : decode cX9_told 54 = .ok (.goto 4, 3) := by decide +kernel
theorem dX9_told_33 : decode cX9_told 33 = .ok (.aload_n 0, 1) := by decide +kernel
theorem dX9_told_34 : decode cX9_told 34 = .ok (.getfield 104, 3) := by decide +kernel
theorem dX9_told_37 : decode cX9_told 37 = .ok (.iload 5, 2) := by decide +kernel
theorem dX9_told_39 : decode cX9_told 39 = .ok (.iaload, 1) := by decide +kernel
theorem dX9_told_40 : decode cX9_told 40 = .ok (.goto 18, 3) := by decide +kernel
/-- how many of the first places of f hold 0 -/
def liv (f : Nat → Int32) : Nat → Nat
  | 0 => 0
  | n + 1 => liv f n + (if (f n).toInt = 0 then 1 else 0)
theorem liv_le (f : Nat → Int32) (n : Nat) : liv f n ≤ n := by
  induction n with
  | zero => exact Nat.le_refl 0
  | succ n ih =>
    show liv f n + _ ≤ n + 1
    split <;> omega
theorem liv_step0 {f : Nat → Int32} {i j x n n2 : Int32} (h : n.toInt = (liv f i.toInt.toNat : Int)) (h0 : 0 ≤ i.toInt) (e : x = f i.toNatClampNeg) (hj : j.toInt = i.toInt + 1) (hx : ¬ x.toInt = 0) (hn : n2.toInt = n.toInt) : n2.toInt = (liv f j.toInt.toNat : Int) := by
  have e1 : j.toInt.toNat = i.toInt.toNat + 1 := by omega
  have e2 : i.toNatClampNeg = i.toInt.toNat := rfl
  rw [e1]
  show n2.toInt = ((liv f i.toInt.toNat + (if (f i.toInt.toNat).toInt = 0 then 1 else 0) : Nat) : Int)
  rw [e2] at e
  rw [← e, if_neg hx, hn, h]
  rfl
theorem liv_step1 {f : Nat → Int32} {i j x n n2 : Int32} (h : n.toInt = (liv f i.toInt.toNat : Int)) (h0 : 0 ≤ i.toInt) (e : x = f i.toNatClampNeg) (hj : j.toInt = i.toInt + 1) (hx : x.toInt = 0) (hn : n2.toInt = n.toInt + 1) : n2.toInt = (liv f j.toInt.toNat : Int) := by
  have e1 : j.toInt.toNat = i.toInt.toNat + 1 := by omega
  have e2 : i.toNatClampNeg = i.toInt.toNat := rfl
  rw [e1]
  show n2.toInt = ((liv f i.toInt.toNat + (if (f i.toInt.toNat).toInt = 0 then 1 else 0) : Nat) : Int)
  rw [e2] at e
  rw [← e, if_pos hx, hn, h]
  rfl

set_option maxHeartbeats 8000000 in
set_option maxRecDepth 100000 in
theorem k_X9_erase (l : Launch) (dC : Nat → ClassId) (dI : Nat → Nat → Nat) (cA : Nat → ClassId) (sz : Nat) (am : Nat → Nat) (v_status : Int32) (v_now : Int32) (v_told : Int32) (v_merges : Int32) (v_taped : Int32) (v_size : Int32) (v_from : Int32) (v_to : Int32) (v_fault : Int32) (v_readFault : Int32) (v_traits : Int32) (v_length : Int32) (v_open : Int32) (v_leaks : Int32) (v_places : Int32) (v_models : Int32) (f_isErased : Nat → Int32) (f_rowPerson : Nat → Int32) (f_isGone : Nat → Int32) (f_hasKept : Nat → Int32) (a : Int32) (i_v_now : 0 ≤ v_now.toInt ∧ v_now.toInt ≤ 100000) (i_v_told : 0 ≤ v_told.toInt ∧ v_told.toInt ≤ 400) (i_v_taped : 0 ≤ v_taped.toInt ∧ v_taped.toInt ≤ 200) (i_v_size : 0 ≤ v_size.toInt ∧ v_size.toInt ≤ 200) (i_v_from : 0 ≤ v_from.toInt ∧ v_from.toInt ≤ 200) (i_v_to : 0 ≤ v_to.toInt ∧ v_to.toInt ≤ 200) (i_v_traits : 0 ≤ v_traits.toInt ∧ v_traits.toInt ≤ 20) (i_v_length : 0 ≤ v_length.toInt ∧ v_length.toInt ≤ 200) (i_v_open : 0 ≤ v_open.toInt ∧ v_open.toInt ≤ 8) (i_v_places : 0 ≤ v_places.toInt ∧ v_places.toInt ≤ 2000) (i_v_models : 0 ≤ v_models.toInt ∧ v_models.toInt ≤ 10) (i_f_rowPerson : inB 0 19 400 f_rowPerson)  : Met l yX9_erase wsX9_erase ({ frames := 2, cells := 0, slots := 0, locals := 45 }) (va_Pc [.ref (am 0), .int a] (fun U => U.heap.size = sz ∧ va_P (dC, dI) vwCl [((am 0), .inr (9, F9 am v_status v_now v_told v_merges v_taped v_size v_from v_to v_fault v_readFault v_traits v_length v_open v_leaks v_places v_models)), ((am 9), .inl (cA 2, 20, .inl f_isErased)), ((am 1), .inl (cA 0, 400, .inl f_rowPerson)), ((am 6), .inl (cA 2, 400, .inl f_isGone)), ((am 25), .inl (cA 2, 400, .inl f_hasKept))] U.heap ∧ va_K (dC, dI) vwCl (tyL cA) U ∧ va_D (fun _ => True) [((am 0), .inr (9, F9 am v_status v_now v_told v_merges v_taped v_size v_from v_to v_fault v_readFault v_traits v_length v_open v_leaks v_places v_models)), ((am 9), .inl (cA 2, 20, .inl f_isErased)), ((am 1), .inl (cA 0, 400, .inl f_rowPerson)), ((am 6), .inl (cA 2, 400, .inl f_isGone)), ((am 25), .inl (cA 2, 400, .inl f_hasKept))] ∧ nw_ok U)) (va_Qi (fun (r : Int32) (u : Int32 × (Nat → Int32) × (Nat → Int32) × (Nat → Int32)) => True) (fun (u : Int32 × (Nat → Int32) × (Nat → Int32) × (Nat → Int32)) (t : State) => va_P (dC, dI) vwCl [((am 0), .inr (9, F9 am u.1 v_now v_told v_merges v_taped v_size v_from v_to v_fault v_readFault v_traits v_length v_open v_leaks v_places v_models)), ((am 9), .inl (cA 2, 20, .inl u.2.1)), ((am 1), .inl (cA 0, 400, .inl f_rowPerson)), ((am 6), .inl (cA 2, 400, .inl u.2.2.1)), ((am 25), .inl (cA 2, 400, .inl u.2.2.2))] t.heap ∧ va_D (va_A [((am 0), .inr (9, F9 am v_status v_now v_told v_merges v_taped v_size v_from v_to v_fault v_readFault v_traits v_length v_open v_leaks v_places v_models)), ((am 9), .inl (cA 2, 20, .inl f_isErased)), ((am 1), .inl (cA 0, 400, .inl f_rowPerson)), ((am 6), .inl (cA 2, 400, .inl f_isGone)), ((am 25), .inl (cA 2, 400, .inl f_hasKept))] sz) [((am 0), .inr (9, F9 am u.1 v_now v_told v_merges v_taped v_size v_from v_to v_fault v_readFault v_traits v_length v_open v_leaks v_places v_models)), ((am 9), .inl (cA 2, 20, .inl u.2.1)), ((am 1), .inl (cA 0, 400, .inl f_rowPerson)), ((am 6), .inl (cA 2, 400, .inl u.2.2.1)), ((am 25), .inl (cA 2, 400, .inl u.2.2.2))]) (va_A [((am 0), .inr (9, F9 am v_status v_now v_told v_merges v_taped v_size v_from v_to v_fault v_readFault v_traits v_length v_open v_leaks v_places v_models)), ((am 9), .inl (cA 2, 20, .inl f_isErased)), ((am 1), .inl (cA 0, 400, .inl f_rowPerson)), ((am 6), .inl (cA 2, 400, .inl f_isGone)), ((am 25), .inl (cA 2, 400, .inl f_hasKept))] sz)) 0 0 (va_A [((am 0), .inr (9, F9 am v_status v_now v_told v_merges v_taped v_size v_from v_to v_fault v_readFault v_traits v_length v_open v_leaks v_places v_models)), ((am 9), .inl (cA 2, 20, .inl f_isErased)), ((am 1), .inl (cA 0, 400, .inl f_rowPerson)), ((am 6), .inl (cA 2, 400, .inl f_isGone)), ((am 25), .inl (cA 2, 400, .inl f_hasKept))] sz) := by
  refine Met.ofW (cc := cX9_erase) (maxL := 4) (ret := (some .int)) (by decide) rfl ?_
  intro p e s m args below meth c s₁ B hml hv
  obtain ⟨rfl, hsz, hP, hK, hD0, hN⟩ := hv
  have hx := B.exec
  have hb := B.bytes
  have hr := B.returns
  have hts := atoms_spec (ws := wsX9_erase) B.pre
  have hown : s.vm.findClass RX9 = some m.cls := findClass_of_methodNamed B.named
  have hlocks := B.notSynchronized
  subst hsz
  have hD := hD0.self (sz := s.heap.size)
  generalize hAe : va_A [((am 0), .inr (9, F9 am v_status v_now v_told v_merges v_taped v_size v_from v_to v_fault v_readFault v_traits v_length v_open v_leaks v_places v_models)), ((am 9), .inl (cA 2, 20, .inl f_isErased)), ((am 1), .inl (cA 0, 400, .inl f_rowPerson)), ((am 6), .inl (cA 2, 400, .inl f_isGone)), ((am 25), .inl (cA 2, 400, .inl f_hasKept))] s.heap.size = A at hD ⊢
  have hA : ∀ q : Nat, s.heap.size ≤ q → A q := fun q h => by rw [← hAe]; exact Or.inr h
  have hS : va_S A s.heap s.heap [] := va_S.rf
  have hIX9 : ∀ w ∈ u_ws RX9 TX9 51, w ∈ wsX9_erase := by decide +kernel
  have hl := lv_entry ([.ref (am 0), .int a]) (n := 4) (Nat.le_of_ble_eq_true rfl)
  rw [lg_entry_eq]
  generalize (lg_sl ([.ref (am 0), .int a]) ++ List.replicate (4 - (lg_sl ([.ref (am 0), .int a])).length) Slot.unset).toArray = ls at hl ⊢
  have hl : lv_has ls 4 [(0, .ref (am 0)), (1, .int a)] := hl
  generalize hQe : MQ below _ _ _ _ _ _ = QQ
  refine lv_iload_n hx hb dX9_erase_0 rfl (lv_at hl 1 rfl) ?_
  obtain ⟨hPc, hDc, hFc, hCc⟩ := va_pre (ws' := []) hP hD hS hA [] (by decide) rfl
  refine va_calli (va_runS (As := [.int a]) (rest := []) ⟨hx, hb, hml, hown, hts⟩ (k_X9_isPerson l dC dI cA s.heap.size a ) (va_cwS 1 hts gX9_erase_X9_isPerson rfl rfl rfl (by decide +kernel) ⟨Nat.le_of_ble_eq_true rfl, Nat.le_of_ble_eq_true rfl⟩) ⟨fun a U g mk q => by obtain ⟨q0, q1, qP, qK, qD, qN⟩ := q; exact ⟨q0, q1, qP, va_K.moved (u := U) (U := U.calling g mk a) (Vm.Alike.refl U.vm) qK, qD, qN.same rfl⟩, fun U hU hW => ⟨rfl, by rw [hU], by rw [hU]; exact hPc, va_K.moved hW.alike hK, hDc.weaken (fun _ _ _ _ => trivial), hN.warm hW⟩⟩ rfl rfl hl.1 rfl (lv_room (Nat.le_of_ble_eq_true rfl)) dX9_erase_1 ⟨Nat.le_of_ble_eq_true rfl, Nat.le_of_ble_eq_true rfl⟩) hS (fun q _ h => hFc q h) hFc (fun r_1 u_2 t H1 locs ht hvm hw_3 hB hz1 hk1 hS => ?_)
  try dsimp only at hw_3 hB
  have po_4 := hw_3
  clear hw_3
  obtain ⟨hP1, hD1⟩ := hB
  rw [ht] at hP1
  obtain ⟨hP, hD⟩ := va_join (wr := [((am 0), .inr (9, F9 am v_status v_now v_told v_merges v_taped v_size v_from v_to v_fault v_readFault v_traits v_length v_open v_leaks v_places v_models)), ((am 9), .inl (cA 2, 20, .inl f_isErased)), ((am 1), .inl (cA 0, 400, .inl f_rowPerson)), ((am 6), .inl (cA 2, 400, .inl f_isGone)), ((am 25), .inl (cA 2, 400, .inl f_hasKept))]) (w1 := []) hP hD [] [0, 1, 2, 3, 4] hCc rfl (by decide) (by decide) hk1 hFc hP1 hD1
  clear hz1
  generalize H1 = H at hP hS ⊢
  refine lv_if_ne (tgt := 14) hx hb dX9_erase_4 (by decide) (fun c_5 => ?_) (fun c_5 => ?_)
  · have dc_5 : ¬ r_1.toInt = 0 := jI_ne c_5 rfl (by decide)
    refine lv_aload_n hx hb dX9_erase_14 rfl (lv_at hl 0 rfl) ?_
    refine va_get (D := (dC, dI)) (ci := 9) (v := .ref (am 9)) (C := RX9) (T := TX9) (N := 51) hx hb hts hIX9 hown hK hP 0 rfl rfl 12 (by decide) (hts (.fieldLink RX9 35 "TraitHouseModel" "isErased" "[Z") (by decide +kernel)) (fun _ h9 => h9) rfl dX9_erase_15 ?_
    refine lv_iload_n hx hb dX9_erase_18 rfl (lv_at hl 1 rfl) ?_
    have h_6 : vp_in a 20 := (vp_in_iff.mpr ⟨by omega, by omega⟩)
    refine va_zald hx hb hK hP 1 2 rfl rfl h_6 dX9_erase_19 ?_
    refine lv_topi (fun x_7 ex_7 => ?_)
    refine lv_if_eq (tgt := 30) hx hb dX9_erase_20 (by decide) (fun c_8 => ?_) (fun c_8 => ?_)
    · have dc_8 : x_7.toInt = 0 := jI_eq c_8 rfl (by decide)
      refine lv_aload_n hx hb dX9_erase_30 rfl (lv_at hl 0 rfl) ?_
      refine va_get (D := (dC, dI)) (ci := 9) (v := .ref (am 9)) (C := RX9) (T := TX9) (N := 51) hx hb hts hIX9 hown hK hP 0 rfl rfl 12 (by decide) (hts (.fieldLink RX9 35 "TraitHouseModel" "isErased" "[Z") (by decide +kernel)) (fun _ h9 => h9) rfl dX9_erase_31 ?_
      refine lv_iload_n hx hb dX9_erase_34 rfl (lv_at hl 1 rfl) ?_
      refine lv_iconst (v := 1) hx hb dX9_erase_35 (by decide) ?_
      have h_9 : vp_in a 20 := (vp_in_iff.mpr ⟨by omega, by omega⟩)
      refine va_zast hx hb hK hP hD hS 1 2 rfl rfl h_9 dX9_erase_36 (fun H locs hP hD hS => ?_)
      replace hP : va_P (dC, dI) vwCl [((am 0), .inr (9, F9 am v_status v_now v_told v_merges v_taped v_size v_from v_to v_fault v_readFault v_traits v_length v_open v_leaks v_places v_models)), ((am 9), .inl (cA 2, 20, .inl (upd f_isErased a.toNatClampNeg (vp_nar .boolean 1)))), ((am 1), .inl (cA 0, 400, .inl f_rowPerson)), ((am 6), .inl (cA 2, 400, .inl f_isGone)), ((am 25), .inl (cA 2, 400, .inl f_hasKept))] H := hP
      replace hD : va_D A [((am 0), .inr (9, F9 am v_status v_now v_told v_merges v_taped v_size v_from v_to v_fault v_readFault v_traits v_length v_open v_leaks v_places v_models)), ((am 9), .inl (cA 2, 20, .inl (upd f_isErased a.toNatClampNeg (vp_nar .boolean 1)))), ((am 1), .inl (cA 0, 400, .inl f_rowPerson)), ((am 6), .inl (cA 2, 400, .inl f_isGone)), ((am 25), .inl (cA 2, 400, .inl f_hasKept))] := hD
      obtain ⟨g_10, eg_10⟩ : ∃ g : Nat → Int32, g = upd f_isErased a.toNatClampNeg (vp_nar .boolean 1) := ⟨_, rfl⟩
      rw [← eg_10] at hP hD
      refine lv_iconst (v := 0) hx hb dX9_erase_37 (by decide) ?_
      refine lv_istore_n (lv' := [(2, .int 0), (0, .ref (am 0)), (1, .int a)]) hx hb dX9_erase_38 rfl hl (by decide) rfl (fun ls hl => ?_)
      refine lv_iconst (v := 0) hx hb dX9_erase_39 (by decide) ?_
      refine lv_istore_n (lv' := [(3, .int 0), (2, .int 0), (0, .ref (am 0)), (1, .int a)]) hx hb dX9_erase_40 rfl hl (by decide) rfl (fun ls hl => ?_)
      have loop41_11 : ∀ (n : Nat) (i3 : Int32) (n2 : Int32) (w_f_isGone_41 : Nat → Int32) (H : Heap) (locs : List Loc) (ls : Array Slot), 400 - i3.toInt < (n : Int) → (0 ≤ i3.toInt ∧ i3.toInt ≤ 400) → va_P (dC, dI) vwCl [((am 0), .inr (9, F9 am v_status v_now v_told v_merges v_taped v_size v_from v_to v_fault v_readFault v_traits v_length v_open v_leaks v_places v_models)), ((am 9), .inl (cA 2, 20, .inl g_10)), ((am 1), .inl (cA 0, 400, .inl f_rowPerson)), ((am 6), .inl (cA 2, 400, .inl w_f_isGone_41)), ((am 25), .inl (cA 2, 400, .inl f_hasKept))] H → va_D A [((am 0), .inr (9, F9 am v_status v_now v_told v_merges v_taped v_size v_from v_to v_fault v_readFault v_traits v_length v_open v_leaks v_places v_models)), ((am 9), .inl (cA 2, 20, .inl g_10)), ((am 1), .inl (cA 0, 400, .inl f_rowPerson)), ((am 6), .inl (cA 2, 400, .inl w_f_isGone_41)), ((am 25), .inl (cA 2, 400, .inl f_hasKept))] → va_S A s.heap H locs → lv_has ls 4 [(3, .int i3), (2, .int n2), (0, .ref (am 0)), (1, .int a)] → W p l e ({ frames := 2, cells := 0, slots := 0, locals := 45 }) s m ([.ref (am 0), .int a] : List Value).toArray below meth c H locs 0 0 QQ (F0 m 41 ls []) := by
        intro n
        induction n with
        | zero => intro i3 n2 w_f_isGone_41 H locs ls hme hv0_41; exfalso; omega
        | succ n ih_41 =>
          intro i3 n2 w_f_isGone_41 H locs ls hme_41 hv0_41 hP hD hS hl
          refine lv_iload_n hx hb dX9_erase_41 rfl (lv_at hl 0 rfl) ?_
          refine lv_aload_n hx hb dX9_erase_42 rfl (lv_at hl 2 rfl) ?_
          refine va_get (D := (dC, dI)) (ci := 9) (v := .int v_told) (C := RX9) (T := TX9) (N := 51) hx hb hts hIX9 hown hK hP 0 rfl rfl 2 (by decide) (hts (.fieldLink RX9 153 "TraitHouseModel" "told" "I") (by decide +kernel)) (fun _ h9 => h9) rfl dX9_erase_43 ?_
          refine lv_icmp_ge (tgt := 87) hx hb dX9_erase_46 (by decide) (fun c_12 => ?_) (fun c_12 => ?_)
          · have dc_12 : v_told.toInt ≤ i3.toInt := jI_le c_12 rfl rfl
            refine lv_iconst (v := 0) hx hb dX9_erase_87 (by decide) ?_
            refine lv_istore_n (lv' := [(3, .int 0), (2, .int n2), (0, .ref (am 0)), (1, .int a)]) hx hb dX9_erase_88 rfl hl (by decide) rfl (fun ls hl => ?_)
            have loop89_13 : ∀ (n : Nat) (i3b : Int32) (w_f_hasKept_89 : Nat → Int32) (H : Heap) (locs : List Loc) (ls : Array Slot), 20 - i3b.toInt < (n : Int) → (0 ≤ i3b.toInt ∧ i3b.toInt ≤ 20) → va_P (dC, dI) vwCl [((am 0), .inr (9, F9 am v_status v_now v_told v_merges v_taped v_size v_from v_to v_fault v_readFault v_traits v_length v_open v_leaks v_places v_models)), ((am 9), .inl (cA 2, 20, .inl g_10)), ((am 1), .inl (cA 0, 400, .inl f_rowPerson)), ((am 6), .inl (cA 2, 400, .inl w_f_isGone_41)), ((am 25), .inl (cA 2, 400, .inl w_f_hasKept_89))] H → va_D A [((am 0), .inr (9, F9 am v_status v_now v_told v_merges v_taped v_size v_from v_to v_fault v_readFault v_traits v_length v_open v_leaks v_places v_models)), ((am 9), .inl (cA 2, 20, .inl g_10)), ((am 1), .inl (cA 0, 400, .inl f_rowPerson)), ((am 6), .inl (cA 2, 400, .inl w_f_isGone_41)), ((am 25), .inl (cA 2, 400, .inl w_f_hasKept_89))] → va_S A s.heap H locs → lv_has ls 4 [(3, .int i3b), (2, .int n2), (0, .ref (am 0)), (1, .int a)] → W p l e ({ frames := 2, cells := 0, slots := 0, locals := 45 }) s m ([.ref (am 0), .int a] : List Value).toArray below meth c H locs 0 0 QQ (F0 m 89 ls []) := by
              intro n
              induction n with
              | zero => intro i3b w_f_hasKept_89 H locs ls hme hv0_89; exfalso; omega
              | succ n ih_89 =>
                intro i3b w_f_hasKept_89 H locs ls hme_89 hv0_89 hP hD hS hl
                refine lv_iload_n hx hb dX9_erase_89 rfl (lv_at hl 0 rfl) ?_
                refine lv_bipush (v := 20) hx hb dX9_erase_90 (by decide) ?_
                refine lv_icmp_ge (tgt := 113) hx hb dX9_erase_92 (by decide) (fun c_14 => ?_) (fun c_14 => ?_)
                · have dc_14 : 20 ≤ i3b.toInt := jI_le c_14 (by decide) rfl
                  refine lv_aload_n hx hb dX9_erase_113 rfl (lv_at hl 2 rfl) ?_
                  refine lv_iload_n hx hb dX9_erase_114 rfl (lv_at hl 1 rfl) ?_
                  obtain ⟨hPc, hDc, hFc, hCc⟩ := va_pre (ws' := [((am 0), .inr (9, F9 am v_status v_now v_told v_merges v_taped v_size v_from v_to v_fault v_readFault v_traits v_length v_open v_leaks v_places v_models))]) hP hD hS hA [0] (by decide) rfl
                  refine va_calli (va_runV (As := [.int n2]) (rest := []) ⟨hx, hb, hml, hown, hts⟩ (k_X9_ends l dC dI cA H.size am v_status v_now v_told v_merges v_taped v_size v_from v_to v_fault v_readFault v_traits v_length v_open v_leaks v_places v_models n2 i_v_now i_v_told i_v_taped i_v_size i_v_from i_v_to i_v_traits i_v_length i_v_open i_v_places i_v_models) (cwV 1 hts gX9_erase_X9_ends rfl rfl rfl (by decide +kernel) ⟨Nat.le_of_ble_eq_true rfl, Nat.le_of_ble_eq_true rfl⟩) ⟨fun a U g mk q => by obtain ⟨q0, q1, qP, qK, qD, qN⟩ := q; exact ⟨q0, q1, qP, va_K.moved (u := U) (U := U.calling g mk a) (Vm.Alike.refl U.vm) qK, qD, qN.same rfl⟩, va_recv hK hPc (ci := 9) (q0 := 0) rfl rfl, fun U hU hW => ⟨rfl, by rw [hU], by rw [hU]; exact hPc, va_K.moved hW.alike hK, hDc.weaken (fun _ _ _ _ => trivial), hN.warm hW⟩⟩ rfl rfl hl.1 rfl (lv_room (Nat.le_of_ble_eq_true rfl)) dX9_erase_115 ⟨Nat.le_of_ble_eq_true rfl, Nat.le_of_ble_eq_true rfl⟩) hS (fun q _ h => hFc q h) hFc (fun r_15 u_16 t H1 locs ht hvm hw_17 hB hz1 hk1 hS => ?_)
                  obtain ⟨w_18, rfl⟩ : ∃ z, z = u_16 := ⟨_, rfl⟩
                  try dsimp only at hw_17 hB
                  have hr9 := hw_17
                  clear hw_17
                  obtain ⟨hP1, hD1⟩ := hB
                  rw [ht] at hP1
                  obtain ⟨hP, hD⟩ := va_join (wr := [((am 9), .inl (cA 2, 20, .inl g_10)), ((am 1), .inl (cA 0, 400, .inl f_rowPerson)), ((am 6), .inl (cA 2, 400, .inl w_f_isGone_41)), ((am 25), .inl (cA 2, 400, .inl w_f_hasKept_89))]) (w1 := [((am 0), .inr (9, F9 am w_18 v_now v_told v_merges v_taped v_size v_from v_to v_fault v_readFault v_traits v_length v_open v_leaks v_places v_models))]) hP hD [0] [1, 2, 3, 4] hCc rfl (by decide) (by decide) hk1 hFc hP1 hD1
                  clear hz1
                  generalize H1 = H at hP hS ⊢
                  obtain rfl : n2 = r_15 := hr9.symm
                  obtain ⟨hP9, hD9⟩ := va_pd (ws' := [((am 0), .inr (9, F9 am w_18 v_now v_told v_merges v_taped v_size v_from v_to v_fault v_readFault v_traits v_length v_open v_leaks v_places v_models)), ((am 9), .inl (cA 2, 20, .inl g_10)), ((am 1), .inl (cA 0, 400, .inl f_rowPerson)), ((am 6), .inl (cA 2, 400, .inl w_f_isGone_41)), ((am 25), .inl (cA 2, 400, .inl w_f_hasKept_89))]) hP hD [4, 0, 1, 2, 3] (by decide) rfl
                  subst hQe
                  have hans : (n2 : Int32).toInt = n2.toInt := rfl
                  exact W.iret (v := n2) hx hb hr (fun t ht hW => ⟨⟨n2, (w_18, g_10, w_f_isGone_41, w_f_hasKept_89), rfl, trivial, by rw [ht]; exact hP9, hD9⟩, hS.F ht⟩) hS.2.2 dX9_erase_118
                · have dc_14 : i3b.toInt < 20 := jI_nle c_14 (by decide) rfl
                  refine lv_aload_n hx hb dX9_erase_95 rfl (lv_at hl 2 rfl) ?_
                  refine va_get (D := (dC, dI)) (ci := 9) (v := .ref (am 25)) (C := RX9) (T := TX9) (N := 51) hx hb hts hIX9 hown hK hP 0 rfl rfl 38 (by decide) (hts (.fieldLink RX9 89 "TraitHouseModel" "hasKept" "[Z") (by decide +kernel)) (fun _ h9 => h9) rfl dX9_erase_96 ?_
                  refine lv_bipush (v := 20) hx hb dX9_erase_99 (by decide) ?_
                  refine lv_iload_n hx hb dX9_erase_101 rfl (lv_at hl 0 rfl) ?_
                  refine lv_imul hx hb dX9_erase_102 ?_
                  refine lv_topi (fun x_19 ex_19 => ?_)
                  have dx_19 : x_19.toInt = 20 * i3b.toInt := by rw [ex_19]; exact jI_mul (by decide) rfl (by omega) (by omega)
                  refine lv_iload_n hx hb dX9_erase_103 rfl (lv_at hl 3 rfl) ?_
                  refine lv_iadd hx hb dX9_erase_104 ?_
                  refine lv_topi (fun x_20 ex_20 => ?_)
                  have dx_20 : x_20.toInt = x_19.toInt + a.toInt := by rw [ex_20]; exact jI_add rfl rfl (by omega) (by omega)
                  refine lv_iconst (v := 0) hx hb dX9_erase_105 (by decide) ?_
                  have h_21 : vp_in x_20 400 := (vp_in_iff.mpr ⟨by omega, by omega⟩)
                  refine va_zast hx hb hK hP hD hS 4 2 rfl rfl h_21 dX9_erase_106 (fun H locs hP hD hS => ?_)
                  replace hP : va_P (dC, dI) vwCl [((am 0), .inr (9, F9 am v_status v_now v_told v_merges v_taped v_size v_from v_to v_fault v_readFault v_traits v_length v_open v_leaks v_places v_models)), ((am 9), .inl (cA 2, 20, .inl g_10)), ((am 1), .inl (cA 0, 400, .inl f_rowPerson)), ((am 6), .inl (cA 2, 400, .inl w_f_isGone_41)), ((am 25), .inl (cA 2, 400, .inl (upd w_f_hasKept_89 x_20.toNatClampNeg (vp_nar .boolean 0))))] H := hP
                  replace hD : va_D A [((am 0), .inr (9, F9 am v_status v_now v_told v_merges v_taped v_size v_from v_to v_fault v_readFault v_traits v_length v_open v_leaks v_places v_models)), ((am 9), .inl (cA 2, 20, .inl g_10)), ((am 1), .inl (cA 0, 400, .inl f_rowPerson)), ((am 6), .inl (cA 2, 400, .inl w_f_isGone_41)), ((am 25), .inl (cA 2, 400, .inl (upd w_f_hasKept_89 x_20.toNatClampNeg (vp_nar .boolean 0))))] := hD
                  obtain ⟨g_22, eg_22⟩ : ∃ g : Nat → Int32, g = upd w_f_hasKept_89 x_20.toNatClampNeg (vp_nar .boolean 0) := ⟨_, rfl⟩
                  rw [← eg_22] at hP hD
                  obtain ⟨x_23, ex_23⟩ : ∃ y : Int32, y = i3b + 1 := ⟨_, rfl⟩
                  have dx_23 : x_23.toInt = i3b.toInt + 1 := by rw [ex_23]; exact jI_add rfl (by decide) (by omega) (by omega)
                  refine lv_iinc (v := x_23) (lv' := [(3, .int x_23), (2, .int n2), (0, .ref (am 0)), (1, .int a)]) hx hb dX9_erase_107 hl (k := 0) rfl (by rw [ex_23]; rfl) (by decide) rfl (fun ls hl => ?_)
                  refine lv_goto (tgt := 89) hx hb dX9_erase_110 (by decide) ?_
                  exact ih_89 x_23 g_22 _ _ ls (by omega) (by omega) (hP.sub [0, 1, 2, 3, 4] rfl) (hD.sub [0, 1, 2, 3, 4] (by decide) rfl) hS (lv_sub hl [0, 1, 2, 3] rfl)
            have hk_24 : (0 : Int32).toInt = 0 := by decide
            exact loop89_13 (Int.toNat (20 - (0 : Int32).toInt) + 1) 0 f_hasKept _ _ ls (by omega) (by omega) hP hD hS (lv_sub hl [0, 1, 2, 3] rfl)
          · have dc_12 : i3.toInt < v_told.toInt := jI_nle c_12 rfl rfl
            refine lv_aload_n hx hb dX9_erase_49 rfl (lv_at hl 2 rfl) ?_
            refine va_get (D := (dC, dI)) (ci := 9) (v := .ref (am 1)) (C := RX9) (T := TX9) (N := 51) hx hb hts hIX9 hown hK hP 0 rfl rfl 3 (by decide) (hts (.fieldLink RX9 7 "TraitHouseModel" "rowPerson" "[I") (by decide +kernel)) (fun _ h9 => h9) rfl dX9_erase_50 ?_
            refine lv_iload_n hx hb dX9_erase_53 rfl (lv_at hl 0 rfl) ?_
            have h_25 : vp_in i3 400 := (vp_in_iff.mpr ⟨by omega, by omega⟩)
            refine va_iald hx hb hK hP 2 0 rfl rfl h_25 dX9_erase_54 ?_
            refine lv_topi (fun x_26 ex_26 => ?_)
            have bx_26 := i_f_rowPerson _ (jix h_25)
            rw [← ex_26] at bx_26
            refine lv_iload_n hx hb dX9_erase_55 rfl (lv_at hl 3 rfl) ?_
            refine lv_icmp_ne (tgt := 81) hx hb dX9_erase_56 (by decide) (fun c_27 => ?_) (fun c_27 => ?_)
            · have dc_27 : ¬ x_26.toInt = a.toInt := jI_ne c_27 rfl rfl
              obtain ⟨x_28, ex_28⟩ : ∃ y : Int32, y = i3 + 1 := ⟨_, rfl⟩
              have dx_28 : x_28.toInt = i3.toInt + 1 := by rw [ex_28]; exact jI_add rfl (by decide) (by omega) (by omega)
              refine lv_iinc (v := x_28) (lv' := [(3, .int x_28), (2, .int n2), (0, .ref (am 0)), (1, .int a)]) hx hb dX9_erase_81 hl (k := 0) rfl (by rw [ex_28]; rfl) (by decide) rfl (fun ls hl => ?_)
              refine lv_goto (tgt := 41) hx hb dX9_erase_84 (by decide) ?_
              exact ih_41 x_28 n2 w_f_isGone_41 _ _ ls (by omega) (by omega) (hP.sub [0, 1, 2, 3, 4] rfl) (hD.sub [0, 1, 2, 3, 4] (by decide) rfl) hS (lv_sub hl [0, 1, 2, 3] rfl)
            · have dc_27 : x_26.toInt = a.toInt := jI_eq c_27 rfl rfl
              refine lv_aload_n hx hb dX9_erase_59 rfl (lv_at hl 2 rfl) ?_
              refine va_get (D := (dC, dI)) (ci := 9) (v := .ref (am 6)) (C := RX9) (T := TX9) (N := 51) hx hb hts hIX9 hown hK hP 0 rfl rfl 8 (by decide) (hts (.fieldLink RX9 25 "TraitHouseModel" "isGone" "[Z") (by decide +kernel)) (fun _ h9 => h9) rfl dX9_erase_60 ?_
              refine lv_iload_n hx hb dX9_erase_63 rfl (lv_at hl 0 rfl) ?_
              have h_29 : vp_in i3 400 := (vp_in_iff.mpr ⟨by omega, by omega⟩)
              refine va_zald hx hb hK hP 3 2 rfl rfl h_29 dX9_erase_64 ?_
              refine lv_topi (fun x_30 ex_30 => ?_)
              refine lv_if_eq (tgt := 71) hx hb dX9_erase_65 (by decide) (fun c_31 => ?_) (fun c_31 => ?_)
              · have dc_31 : x_30.toInt = 0 := jI_eq c_31 rfl (by decide)
                refine lv_aload_n hx hb dX9_erase_71 rfl (lv_at hl 2 rfl) ?_
                refine va_get (D := (dC, dI)) (ci := 9) (v := .ref (am 6)) (C := RX9) (T := TX9) (N := 51) hx hb hts hIX9 hown hK hP 0 rfl rfl 8 (by decide) (hts (.fieldLink RX9 25 "TraitHouseModel" "isGone" "[Z") (by decide +kernel)) (fun _ h9 => h9) rfl dX9_erase_72 ?_
                refine lv_iload_n hx hb dX9_erase_75 rfl (lv_at hl 0 rfl) ?_
                refine lv_iconst (v := 1) hx hb dX9_erase_76 (by decide) ?_
                have h_32 : vp_in i3 400 := (vp_in_iff.mpr ⟨by omega, by omega⟩)
                refine va_zast hx hb hK hP hD hS 3 2 rfl rfl h_32 dX9_erase_77 (fun H locs hP hD hS => ?_)
                replace hP : va_P (dC, dI) vwCl [((am 0), .inr (9, F9 am v_status v_now v_told v_merges v_taped v_size v_from v_to v_fault v_readFault v_traits v_length v_open v_leaks v_places v_models)), ((am 9), .inl (cA 2, 20, .inl g_10)), ((am 1), .inl (cA 0, 400, .inl f_rowPerson)), ((am 6), .inl (cA 2, 400, .inl (upd w_f_isGone_41 i3.toNatClampNeg (vp_nar .boolean 1)))), ((am 25), .inl (cA 2, 400, .inl f_hasKept))] H := hP
                replace hD : va_D A [((am 0), .inr (9, F9 am v_status v_now v_told v_merges v_taped v_size v_from v_to v_fault v_readFault v_traits v_length v_open v_leaks v_places v_models)), ((am 9), .inl (cA 2, 20, .inl g_10)), ((am 1), .inl (cA 0, 400, .inl f_rowPerson)), ((am 6), .inl (cA 2, 400, .inl (upd w_f_isGone_41 i3.toNatClampNeg (vp_nar .boolean 1)))), ((am 25), .inl (cA 2, 400, .inl f_hasKept))] := hD
                obtain ⟨g_33, eg_33⟩ : ∃ g : Nat → Int32, g = upd w_f_isGone_41 i3.toNatClampNeg (vp_nar .boolean 1) := ⟨_, rfl⟩
                rw [← eg_33] at hP hD
                obtain ⟨x_34, ex_34⟩ : ∃ y : Int32, y = n2 + 1 := ⟨_, rfl⟩
                refine lv_iinc (v := x_34) (lv' := [(2, .int x_34), (3, .int i3), (0, .ref (am 0)), (1, .int a)]) hx hb dX9_erase_78 hl (k := 1) rfl (by rw [ex_34]; rfl) (by decide) rfl (fun ls hl => ?_)
                obtain ⟨x_35, ex_35⟩ : ∃ y : Int32, y = i3 + 1 := ⟨_, rfl⟩
                have dx_35 : x_35.toInt = i3.toInt + 1 := by rw [ex_35]; exact jI_add rfl (by decide) (by omega) (by omega)
                refine lv_iinc (v := x_35) (lv' := [(3, .int x_35), (2, .int x_34), (0, .ref (am 0)), (1, .int a)]) hx hb dX9_erase_81 hl (k := 1) rfl (by rw [ex_35]; rfl) (by decide) rfl (fun ls hl => ?_)
                refine lv_goto (tgt := 41) hx hb dX9_erase_84 (by decide) ?_
                exact ih_41 x_35 x_34 g_33 _ _ ls (by omega) (by omega) (hP.sub [0, 1, 2, 3, 4] rfl) (hD.sub [0, 1, 2, 3, 4] (by decide) rfl) hS (lv_sub hl [0, 1, 2, 3] rfl)
              · have dc_31 : ¬ x_30.toInt = 0 := jI_ne c_31 rfl (by decide)
                refine lv_goto (tgt := 81) hx hb dX9_erase_68 (by decide) ?_
                obtain ⟨x_36, ex_36⟩ : ∃ y : Int32, y = i3 + 1 := ⟨_, rfl⟩
                have dx_36 : x_36.toInt = i3.toInt + 1 := by rw [ex_36]; exact jI_add rfl (by decide) (by omega) (by omega)
                refine lv_iinc (v := x_36) (lv' := [(3, .int x_36), (2, .int n2), (0, .ref (am 0)), (1, .int a)]) hx hb dX9_erase_81 hl (k := 0) rfl (by rw [ex_36]; rfl) (by decide) rfl (fun ls hl => ?_)
                refine lv_goto (tgt := 41) hx hb dX9_erase_84 (by decide) ?_
                exact ih_41 x_36 n2 w_f_isGone_41 _ _ ls (by omega) (by omega) (hP.sub [0, 1, 2, 3, 4] rfl) (hD.sub [0, 1, 2, 3, 4] (by decide) rfl) hS (lv_sub hl [0, 1, 2, 3] rfl)
      have hk_37 : (0 : Int32).toInt = 0 := by decide
      have hk_38 : (0 : Int32).toInt = 0 := by decide
      exact loop41_11 (Int.toNat (400 - (0 : Int32).toInt) + 1) 0 0 f_isGone _ _ ls (by omega) (by omega) hP hD hS (lv_sub hl [0, 1, 2, 3] rfl)
    · have dc_8 : ¬ x_7.toInt = 0 := jI_ne c_8 rfl (by decide)
      refine lv_aload_n hx hb dX9_erase_23 rfl (lv_at hl 0 rfl) ?_
      refine lv_bipush (v := (-6)) hx hb dX9_erase_24 (by decide) ?_
      have hk_39 : ((-6) : Int32).toInt = (-6) := by decide
      obtain ⟨hPc, hDc, hFc, hCc⟩ := va_pre (ws' := [((am 0), .inr (9, F9 am v_status v_now v_told v_merges v_taped v_size v_from v_to v_fault v_readFault v_traits v_length v_open v_leaks v_places v_models))]) hP hD hS hA [0] (by decide) rfl
      refine va_calli (va_runV (As := [.int (-6)]) (rest := []) ⟨hx, hb, hml, hown, hts⟩ (k_X9_ends l dC dI cA H.size am v_status v_now v_told v_merges v_taped v_size v_from v_to v_fault v_readFault v_traits v_length v_open v_leaks v_places v_models (-6) i_v_now i_v_told i_v_taped i_v_size i_v_from i_v_to i_v_traits i_v_length i_v_open i_v_places i_v_models) (cwV 1 hts gX9_erase_X9_ends rfl rfl rfl (by decide +kernel) ⟨Nat.le_of_ble_eq_true rfl, Nat.le_of_ble_eq_true rfl⟩) ⟨fun a U g mk q => by obtain ⟨q0, q1, qP, qK, qD, qN⟩ := q; exact ⟨q0, q1, qP, va_K.moved (u := U) (U := U.calling g mk a) (Vm.Alike.refl U.vm) qK, qD, qN.same rfl⟩, va_recv hK hPc (ci := 9) (q0 := 0) rfl rfl, fun U hU hW => ⟨rfl, by rw [hU], by rw [hU]; exact hPc, va_K.moved hW.alike hK, hDc.weaken (fun _ _ _ _ => trivial), hN.warm hW⟩⟩ rfl rfl hl.1 rfl (lv_room (Nat.le_of_ble_eq_true rfl)) dX9_erase_26 ⟨Nat.le_of_ble_eq_true rfl, Nat.le_of_ble_eq_true rfl⟩) hS (fun q _ h => hFc q h) hFc (fun r_40 u_41 t H1 locs ht hvm hw_42 hB hz1 hk1 hS => ?_)
      obtain ⟨w_43, rfl⟩ : ∃ z, z = u_41 := ⟨_, rfl⟩
      try dsimp only at hw_42 hB
      have hr9 := hw_42
      clear hw_42
      obtain ⟨hP1, hD1⟩ := hB
      rw [ht] at hP1
      obtain ⟨hP, hD⟩ := va_join (wr := [((am 9), .inl (cA 2, 20, .inl f_isErased)), ((am 1), .inl (cA 0, 400, .inl f_rowPerson)), ((am 6), .inl (cA 2, 400, .inl f_isGone)), ((am 25), .inl (cA 2, 400, .inl f_hasKept))]) (w1 := [((am 0), .inr (9, F9 am w_43 v_now v_told v_merges v_taped v_size v_from v_to v_fault v_readFault v_traits v_length v_open v_leaks v_places v_models))]) hP hD [0] [1, 2, 3, 4] hCc rfl (by decide) (by decide) hk1 hFc hP1 hD1
      clear hz1
      generalize H1 = H at hP hS ⊢
      obtain rfl : (-6) = r_40 := hr9.symm
      obtain ⟨hP9, hD9⟩ := va_pd (ws' := [((am 0), .inr (9, F9 am w_43 v_now v_told v_merges v_taped v_size v_from v_to v_fault v_readFault v_traits v_length v_open v_leaks v_places v_models)), ((am 9), .inl (cA 2, 20, .inl f_isErased)), ((am 1), .inl (cA 0, 400, .inl f_rowPerson)), ((am 6), .inl (cA 2, 400, .inl f_isGone)), ((am 25), .inl (cA 2, 400, .inl f_hasKept))]) hP hD [4, 0, 1, 2, 3] (by decide) rfl
      subst hQe
      have hans : ((-6) : Int32).toInt = (-6) := (by decide)
      exact W.iret (v := (-6)) hx hb hr (fun t ht hW => ⟨⟨(-6), (w_43, f_isErased, f_isGone, f_hasKept), rfl, trivial, by rw [ht]; exact hP9, hD9⟩, hS.F ht⟩) hS.2.2 dX9_erase_29
  · have dc_5 : r_1.toInt = 0 := jI_eq c_5 rfl (by decide)
    refine lv_aload_n hx hb dX9_erase_7 rfl (lv_at hl 0 rfl) ?_
    refine lv_bipush (v := (-2)) hx hb dX9_erase_8 (by decide) ?_
    have hk_44 : ((-2) : Int32).toInt = (-2) := by decide
    obtain ⟨hPc, hDc, hFc, hCc⟩ := va_pre (ws' := [((am 0), .inr (9, F9 am v_status v_now v_told v_merges v_taped v_size v_from v_to v_fault v_readFault v_traits v_length v_open v_leaks v_places v_models))]) hP hD hS hA [0] (by decide) rfl
    refine va_calli (va_runV (As := [.int (-2)]) (rest := []) ⟨hx, hb, hml, hown, hts⟩ (k_X9_ends l dC dI cA H.size am v_status v_now v_told v_merges v_taped v_size v_from v_to v_fault v_readFault v_traits v_length v_open v_leaks v_places v_models (-2) i_v_now i_v_told i_v_taped i_v_size i_v_from i_v_to i_v_traits i_v_length i_v_open i_v_places i_v_models) (cwV 1 hts gX9_erase_X9_ends rfl rfl rfl (by decide +kernel) ⟨Nat.le_of_ble_eq_true rfl, Nat.le_of_ble_eq_true rfl⟩) ⟨fun a U g mk q => by obtain ⟨q0, q1, qP, qK, qD, qN⟩ := q; exact ⟨q0, q1, qP, va_K.moved (u := U) (U := U.calling g mk a) (Vm.Alike.refl U.vm) qK, qD, qN.same rfl⟩, va_recv hK hPc (ci := 9) (q0 := 0) rfl rfl, fun U hU hW => ⟨rfl, by rw [hU], by rw [hU]; exact hPc, va_K.moved hW.alike hK, hDc.weaken (fun _ _ _ _ => trivial), hN.warm hW⟩⟩ rfl rfl hl.1 rfl (lv_room (Nat.le_of_ble_eq_true rfl)) dX9_erase_10 ⟨Nat.le_of_ble_eq_true rfl, Nat.le_of_ble_eq_true rfl⟩) hS (fun q _ h => hFc q h) hFc (fun r_45 u_46 t H1 locs ht hvm hw_47 hB hz1 hk1 hS => ?_)
    obtain ⟨w_48, rfl⟩ : ∃ z, z = u_46 := ⟨_, rfl⟩
    try dsimp only at hw_47 hB
    have hr9 := hw_47
    clear hw_47
    obtain ⟨hP1, hD1⟩ := hB
    rw [ht] at hP1
    obtain ⟨hP, hD⟩ := va_join (wr := [((am 9), .inl (cA 2, 20, .inl f_isErased)), ((am 1), .inl (cA 0, 400, .inl f_rowPerson)), ((am 6), .inl (cA 2, 400, .inl f_isGone)), ((am 25), .inl (cA 2, 400, .inl f_hasKept))]) (w1 := [((am 0), .inr (9, F9 am w_48 v_now v_told v_merges v_taped v_size v_from v_to v_fault v_readFault v_traits v_length v_open v_leaks v_places v_models))]) hP hD [0] [1, 2, 3, 4] hCc rfl (by decide) (by decide) hk1 hFc hP1 hD1
    clear hz1
    generalize H1 = H at hP hS ⊢
    obtain rfl : (-2) = r_45 := hr9.symm
    obtain ⟨hP9, hD9⟩ := va_pd (ws' := [((am 0), .inr (9, F9 am w_48 v_now v_told v_merges v_taped v_size v_from v_to v_fault v_readFault v_traits v_length v_open v_leaks v_places v_models)), ((am 9), .inl (cA 2, 20, .inl f_isErased)), ((am 1), .inl (cA 0, 400, .inl f_rowPerson)), ((am 6), .inl (cA 2, 400, .inl f_isGone)), ((am 25), .inl (cA 2, 400, .inl f_hasKept))]) hP hD [4, 0, 1, 2, 3] (by decide) rfl
    subst hQe
    have hans : ((-2) : Int32).toInt = (-2) := (by decide)
    exact W.iret (v := (-2)) hx hb hr (fun t ht hW => ⟨⟨(-2), (w_48, f_isErased, f_isGone, f_hasKept), rfl, trivial, by rw [ht]; exact hP9, hD9⟩, hS.F ht⟩) hS.2.2 dX9_erase_13

/-! the bytes that feed lays -/
def byt (a : Int32) (j : Nat) : Int := nrm (a.toInt / 2 ^ (24 - 8 * j) % 256)
def w5 (a b c d e : Int32) (j : Nat) : Int := if j < 4 then byt a j else if j < 8 then byt b (j - 4) else if j < 12 then byt c (j - 8) else if j < 16 then byt d (j - 12) else byt e (j - 16)
def apl (g : Int → Int) (z : Int) (w : Nat → Int) (n : Nat) : Int → Int := fun k => if z ≤ k ∧ k < z + n then w (k - z).toNat else g k
theorem apl5 {g : Int → Int} {z : Int} {a b c d e : Int32} : apl (apl (apl (apl (apl g z (byt a) 4) (z + 4) (byt b) 4) (z + 8) (byt c) 4) (z + 12) (byt d) 4) (z + 16) (byt e) 4 = apl g z (w5 a b c d e) 20 := by
  funext k
  simp only [apl, w5]
  repeat' split
  all_goals first | rfl | (exfalso; omega) | (congr 1; omega)
def fdI (f0 f : Nat → Int32) (z : Nat) (w : Nat → Int) (n : Nat) : Prop := (∀ k, k < z → f k = f0 k) ∧ ∀ j, j < n → nrm (f (z + j)).toInt = w j
theorem fd_0 {f0 : Nat → Int32} {z : Nat} {w : Nat → Int} : fdI f0 f0 z w 0 := ⟨fun _ _ => rfl, fun j hj => absurd hj (Nat.not_lt_zero j)⟩
theorem fd_s {f0 f f2 : Nat → Int32} {z n n2 ix : Nat} {w : Nat → Int} {x : Int32} (h : fdI f0 f z w n) (ef : f2 = upd f ix x) (hi : ix = z + n) (hx : nrm x.toInt = w n) (hn : n2 = n + 1) : fdI f0 f2 z w n2 := by
  subst ef; subst hi; subst hn
  refine ⟨fun k hk => ?_, fun j hj => ?_⟩
  · rw [pk_un (by omega)]; exact h.1 k hk
  · by_cases q : j = n
    · subst q; rw [pk_us]; exact hx
    · rw [pk_un (by omega)]; exact h.2 j (by omega)
theorem fd_e {f0 f : Nat → Int32} {z z2 : Int32} {w : Nat → Int} {n : Nat} (h : fdI f0 f z.toInt.toNat w n) (h0 : 0 ≤ z.toInt) (hz : z2.toInt = z.toInt + n) : tpe f z2 = apl (tpe f0 z) z.toInt w n := by
  funext k
  show (if 0 ≤ k ∧ k < z2.toInt then nrm (f k.toNat).toInt else 0) = (if z.toInt ≤ k ∧ k < z.toInt + n then w (k - z.toInt).toNat else (if 0 ≤ k ∧ k < z.toInt then nrm (f0 k.toNat).toInt else 0))
  by_cases q : z.toInt ≤ k ∧ k < z.toInt + n
  · rw [if_pos q, if_pos (by omega), ← h.2 (k - z.toInt).toNat (by omega), show z.toInt.toNat + (k - z.toInt).toNat = k.toNat by omega]
  · rw [if_neg q]
    by_cases q2 : 0 ≤ k ∧ k < z.toInt
    · rw [if_pos q2, if_pos (by omega), h.1 k.toNat (by omega)]
    · rw [if_neg q2, if_neg (by omega)]
theorem tpe_le {f g : Nat → Int32} {z n : Int32} (h : tpe f z = tpe g z) (hn : n.toInt ≤ z.toInt) : tpe f n = tpe g n := by
  funext k
  have hk := congrFun h k
  show (if 0 ≤ k ∧ k < n.toInt then nrm (f k.toNat).toInt else 0) = (if 0 ≤ k ∧ k < n.toInt then nrm (g k.toNat).toInt else 0)
  by_cases q : 0 ≤ k ∧ k < n.toInt
  · rw [if_pos q, if_pos q]
    have h1 : tpe f z k = nrm (f k.toNat).toInt := if_pos ⟨q.1, by omega⟩
    have h2 : tpe g z k = nrm (g k.toNat).toInt := if_pos ⟨q.1, by omega⟩
    rw [← h1, ← h2]; exact hk
  · rw [if_neg q, if_neg q]
theorem i32_nat (a : Int32) : (a.toBitVec.toNat < 2147483648 ∧ a.toInt = (a.toBitVec.toNat : Int)) ∨ (2147483648 ≤ a.toBitVec.toNat ∧ a.toInt = (a.toBitVec.toNat : Int) - 4294967296) := by
  have h1 : a.toInt = a.toBitVec.toInt := rfl
  rw [h1, BitVec.toInt_eq_toNat_cond]
  split
  · exact Or.inl ⟨by omega, rfl⟩
  · exact Or.inr ⟨by omega, rfl⟩
theorem and255 {y : Int32} {b : BitVec 32} (h : y.toBitVec = b &&& 255#32) : y.toInt = ((b.toNat % 256 : Nat) : Int) := by
  have hn : y.toBitVec.toNat = b.toNat % 256 := by
    rw [h, BitVec.toNat_and, show (255#32 : BitVec 32).toNat = 2 ^ 8 - 1 by decide, Nat.and_two_pow_sub_one_eq_mod]
  have h1 : y.toInt = y.toBitVec.toInt := rfl
  rw [h1, BitVec.toInt_eq_toNat_cond, if_pos (by omega), hn]
theorem cl_byt {a x v y i : Int32} {n : Nat} (hx : x.toInt = 8 * i.toInt) (h0 : 0 ≤ i.toInt) (h3 : i.toInt ≤ 3) (ev : v = (a.toUInt32 >>> (x.toUInt32 &&& Int32.toUInt32 31)).toInt32) (ey : y = v &&& 255) (hn : (n : Int) = 3 - i.toInt) : nrm y.toInt = byt a n := by
  have ha := i32_nat a
  have hA := a.toBitVec.isLt
  unfold byt
  rcases (show i.toInt = 0 ∨ i.toInt = 1 ∨ i.toInt = 2 ∨ i.toInt = 3 by omega) with q | q | q | q
  · obtain rfl : x = 0 := Int32.toInt_inj.mp ((show x.toInt = 0 by omega).trans (by decide))
    have hy : y.toBitVec = (a.toBitVec >>> 0) &&& 255#32 := by rw [ey, ev]; rfl
    rw [and255 hy, BitVec.toNat_ushiftRight, Nat.shiftRight_eq_div_pow, show n = 3 by omega]
    congr 1
    show ((a.toBitVec.toNat / 2 ^ 0 % 256 : Nat) : Int) = a.toInt / 1 % 256
    omega
  · obtain rfl : x = 8 := Int32.toInt_inj.mp ((show x.toInt = 8 by omega).trans (by decide))
    have hy : y.toBitVec = (a.toBitVec >>> 8) &&& 255#32 := by rw [ey, ev]; rfl
    rw [and255 hy, BitVec.toNat_ushiftRight, Nat.shiftRight_eq_div_pow, show n = 2 by omega]
    congr 1
    show ((a.toBitVec.toNat / 256 % 256 : Nat) : Int) = a.toInt / 256 % 256
    omega
  · obtain rfl : x = 16 := Int32.toInt_inj.mp ((show x.toInt = 16 by omega).trans (by decide))
    have hy : y.toBitVec = (a.toBitVec >>> 16) &&& 255#32 := by rw [ey, ev]; rfl
    rw [and255 hy, BitVec.toNat_ushiftRight, Nat.shiftRight_eq_div_pow, show n = 1 by omega]
    congr 1
    show ((a.toBitVec.toNat / 65536 % 256 : Nat) : Int) = a.toInt / 65536 % 256
    omega
  · obtain rfl : x = 24 := Int32.toInt_inj.mp ((show x.toInt = 24 by omega).trans (by decide))
    have hy : y.toBitVec = (a.toBitVec >>> 24) &&& 255#32 := by rw [ey, ev]; rfl
    rw [and255 hy, BitVec.toNat_ushiftRight, Nat.shiftRight_eq_div_pow, show n = 0 by omega]
    congr 1
    show ((a.toBitVec.toNat / 16777216 % 256 : Nat) : Int) = a.toInt / 16777216 % 256
    omega
theorem nrm_bmod (x : Int) : nrm ((x.bmod 256).bmod 256) = nrm (x % 256) := by
  rw [Int.bmod_bmod, Int.bmod_def]
  unfold nrm
  split <;> split <;> split <;> omega
theorem i8_int (x : Int32) : (vp_nar .byte x.toInt8.toInt32).toInt = (x.toInt.bmod 256).bmod 256 := by
  show (x.toInt8.toInt32.toInt8.toInt32).toInt = _
  rw [Int8.toInt_toInt32, Int32.toInt_toInt8, Int8.toInt_toInt32, Int32.toInt_toInt8]
theorem rf_byt {y s x2 x3 : Int32} {n : Nat} (hs : s.toInt = 24 - 8 * (n : Int)) (h3 : n ≤ 3) (e2 : x2 = y >>> (s &&& 31)) (e3 : x3 = x2.toInt8.toInt32) : nrm (vp_nar .byte x3).toInt = byt y n := by
  rw [e3, i8_int, nrm_bmod]
  unfold byt
  rcases (show n = 0 ∨ n = 1 ∨ n = 2 ∨ n = 3 by omega) with q | q | q | q
  · subst q
    obtain rfl : s = 24 := Int32.toInt_inj.mp ((show s.toInt = 24 by omega).trans (by decide))
    have hy : x2.toBitVec = y.toBitVec.sshiftRight 24 := by rw [e2]; rfl
    have hi : x2.toInt = y.toInt / 2 ^ 24 := by
      show x2.toBitVec.toInt = y.toBitVec.toInt / 2 ^ 24
      rw [hy, BitVec.toInt_sshiftRight, Int.shiftRight_eq_div_pow]; rfl
    rw [hi]
  · subst q
    obtain rfl : s = 16 := Int32.toInt_inj.mp ((show s.toInt = 16 by omega).trans (by decide))
    have hy : x2.toBitVec = y.toBitVec.sshiftRight 16 := by rw [e2]; rfl
    have hi : x2.toInt = y.toInt / 2 ^ 16 := by
      show x2.toBitVec.toInt = y.toBitVec.toInt / 2 ^ 16
      rw [hy, BitVec.toInt_sshiftRight, Int.shiftRight_eq_div_pow]; rfl
    rw [hi]
  · subst q
    obtain rfl : s = 8 := Int32.toInt_inj.mp ((show s.toInt = 8 by omega).trans (by decide))
    have hy : x2.toBitVec = y.toBitVec.sshiftRight 8 := by rw [e2]; rfl
    have hi : x2.toInt = y.toInt / 2 ^ 8 := by
      show x2.toBitVec.toInt = y.toBitVec.toInt / 2 ^ 8
      rw [hy, BitVec.toInt_sshiftRight, Int.shiftRight_eq_div_pow]; rfl
    rw [hi]
  · subst q
    obtain rfl : s = 0 := Int32.toInt_inj.mp ((show s.toInt = 0 by omega).trans (by decide))
    have hy : x2.toBitVec = y.toBitVec.sshiftRight 0 := by rw [e2]; rfl
    have hi : x2.toInt = y.toInt / 2 ^ 0 := by
      show x2.toBitVec.toInt = y.toBitVec.toInt / 2 ^ 0
      rw [hy, BitVec.toInt_sshiftRight, Int.shiftRight_eq_div_pow]; rfl
    rw [hi]
theorem rem4 {x i : Int32} (e : x = i - i / 4 * 4) (h0 : 0 ≤ i.toInt) (h1 : i.toInt < 1000) : x.toInt = i.toInt % 4 := by
  have hd : (i / 4).toInt = i.toInt / 4 := jI_div rfl (by decide) h0 (by decide)
  have hm : (i / 4 * 4).toInt = i.toInt / 4 * 4 := jI_mul hd (by decide) (by omega) (by omega)
  rw [e, jI_sub rfl hm (by omega) (by omega)]
  omega
/-- the word that stands at a place of the five -/
theorem five_at {f g1 g2 g3 g4 g5 : Nat → Int32} {a b c d e y i q : Int32} {n : Nat} (h1 : g1 = upd f (0 : Int32).toNatClampNeg a) (h2 : g2 = upd g1 (1 : Int32).toNatClampNeg b) (h3 : g3 = upd g2 (2 : Int32).toNatClampNeg c) (h4 : g4 = upd g3 (3 : Int32).toNatClampNeg d) (h5 : g5 = upd g4 (4 : Int32).toNatClampNeg e) (ey : y = g5 q.toNatClampNeg) (hq : q.toInt = i.toInt / 4) (h0 : 0 ≤ i.toInt) (hi : i.toInt < 20) (hn : n = i.toInt.toNat) : byt y (n % 4) = w5 a b c d e n := by
  have eq : q.toNatClampNeg = n / 4 := by have : q.toNatClampNeg = q.toInt.toNat := rfl; omega
  have k0 : (0 : Int32).toNatClampNeg = 0 := by decide
  have k1 : (1 : Int32).toNatClampNeg = 1 := by decide
  have k2 : (2 : Int32).toNatClampNeg = 2 := by decide
  have k3 : (3 : Int32).toNatClampNeg = 3 := by decide
  have k4 : (4 : Int32).toNatClampNeg = 4 := by decide
  rw [k0] at h1; rw [k1] at h2; rw [k2] at h3; rw [k3] at h4; rw [k4] at h5
  have v0 : g5 0 = a := by rw [h5, pk_un (by decide), h4, pk_un (by decide), h3, pk_un (by decide), h2, pk_un (by decide), h1, pk_us]
  have v1 : g5 1 = b := by rw [h5, pk_un (by decide), h4, pk_un (by decide), h3, pk_un (by decide), h2, pk_us]
  have v2 : g5 2 = c := by rw [h5, pk_un (by decide), h4, pk_un (by decide), h3, pk_us]
  have v3 : g5 3 = d := by rw [h5, pk_un (by decide), h4, pk_us]
  have v4 : g5 4 = e := by rw [h5, pk_us]
  unfold w5
  rw [ey, eq]
  rcases (show n / 4 = 0 ∨ n / 4 = 1 ∨ n / 4 = 2 ∨ n / 4 = 3 ∨ n / 4 = 4 by omega) with w | w | w | w | w
  · rw [w, v0, if_pos (by omega), show n % 4 = n by omega]
  · rw [w, v1, if_neg (by omega), if_pos (by omega), show n % 4 = n - 4 by omega]
  · rw [w, v2, if_neg (by omega), if_neg (by omega), if_pos (by omega), show n % 4 = n - 8 by omega]
  · rw [w, v3, if_neg (by omega), if_neg (by omega), if_neg (by omega), if_pos (by omega), show n % 4 = n - 12 by omega]
  · rw [w, v4, if_neg (by omega), if_neg (by omega), if_neg (by omega), if_neg (by omega), show n % 4 = n - 16 by omega]

set_option maxHeartbeats 8000000 in
set_option maxRecDepth 100000 in
theorem k_X9_feed (l : Launch) (dC : Nat → ClassId) (dI : Nat → Nat → Nat) (cA : Nat → ClassId) (sz : Nat) (am : Nat → Nat) (v_status : Int32) (v_now : Int32) (v_told : Int32) (v_merges : Int32) (v_taped : Int32) (v_size : Int32) (v_from : Int32) (v_to : Int32) (v_fault : Int32) (v_readFault : Int32) (v_traits : Int32) (v_length : Int32) (v_open : Int32) (v_leaks : Int32) (v_places : Int32) (v_models : Int32) (f_tape : Nat → Int32) (f_five : Nat → Int32) (a : Int32) (b : Int32) (d : Int32) (e1 : Int32) (e2 : Int32) (i_v_now : 0 ≤ v_now.toInt ∧ v_now.toInt ≤ 100000) (i_v_told : 0 ≤ v_told.toInt ∧ v_told.toInt ≤ 400) (i_v_taped : 0 ≤ v_taped.toInt ∧ v_taped.toInt ≤ 200) (i_v_size : 0 ≤ v_size.toInt ∧ v_size.toInt ≤ 200) (i_v_from : 0 ≤ v_from.toInt ∧ v_from.toInt ≤ 200) (i_v_to : 0 ≤ v_to.toInt ∧ v_to.toInt ≤ 200) (i_v_traits : 0 ≤ v_traits.toInt ∧ v_traits.toInt ≤ 20) (i_v_length : 0 ≤ v_length.toInt ∧ v_length.toInt ≤ 200) (i_v_open : 0 ≤ v_open.toInt ∧ v_open.toInt ≤ 8) (i_v_places : 0 ≤ v_places.toInt ∧ v_places.toInt ≤ 2000) (i_v_models : 0 ≤ v_models.toInt ∧ v_models.toInt ≤ 10)  : Met l yX9_feed wsX9_feed ({ frames := 0, cells := 0, slots := 0, locals := 0 }) (va_Pc [.ref (am 0), .int a, .int b, .int d, .int e1, .int e2] (fun U => U.heap.size = sz ∧ va_P (dC, dI) vwCl [((am 0), .inr (9, F9 am v_status v_now v_told v_merges v_taped v_size v_from v_to v_fault v_readFault v_traits v_length v_open v_leaks v_places v_models)), ((am 10), .inl (cA 3, 200, .inl f_tape)), ((am 11), .inl (cA 0, 5, .inl f_five))] U.heap ∧ va_K (dC, dI) vwCl (tyL cA) U ∧ va_D (fun _ => True) [((am 0), .inr (9, F9 am v_status v_now v_told v_merges v_taped v_size v_from v_to v_fault v_readFault v_traits v_length v_open v_leaks v_places v_models)), ((am 10), .inl (cA 3, 200, .inl f_tape)), ((am 11), .inl (cA 0, 5, .inl f_five))] ∧ nw_ok U)) (va_Qi (fun (r : Int32) (u : Int32 × (Nat → Int32) × (Nat → Int32)) => (0 ≤ u.1.toInt ∧ u.1.toInt ≤ 200) ∧ ((v_taped.toInt + 20 ≤ 200 → r.toInt = v_taped.toInt + 20 ∧ u.1.toInt = v_taped.toInt + 20) ∧ (¬ v_taped.toInt + 20 ≤ 200 → r.toInt = (-1) ∧ u.1.toInt = v_taped.toInt)) ∧ ((v_taped.toInt + 20 ≤ 200 → tpe u.2.1 u.1 = apl (tpe f_tape v_taped) v_taped.toInt (w5 a b d e1 e2) 20) ∧ (¬ v_taped.toInt + 20 ≤ 200 → u.2.1 = f_tape))) (fun (u : Int32 × (Nat → Int32) × (Nat → Int32)) (t : State) => va_P (dC, dI) vwCl [((am 0), .inr (9, F9 am v_status v_now v_told v_merges u.1 v_size v_from v_to v_fault v_readFault v_traits v_length v_open v_leaks v_places v_models)), ((am 10), .inl (cA 3, 200, .inl u.2.1)), ((am 11), .inl (cA 0, 5, .inl u.2.2))] t.heap ∧ va_D (va_A [((am 0), .inr (9, F9 am v_status v_now v_told v_merges v_taped v_size v_from v_to v_fault v_readFault v_traits v_length v_open v_leaks v_places v_models)), ((am 10), .inl (cA 3, 200, .inl f_tape)), ((am 11), .inl (cA 0, 5, .inl f_five))] sz) [((am 0), .inr (9, F9 am v_status v_now v_told v_merges u.1 v_size v_from v_to v_fault v_readFault v_traits v_length v_open v_leaks v_places v_models)), ((am 10), .inl (cA 3, 200, .inl u.2.1)), ((am 11), .inl (cA 0, 5, .inl u.2.2))]) (va_A [((am 0), .inr (9, F9 am v_status v_now v_told v_merges v_taped v_size v_from v_to v_fault v_readFault v_traits v_length v_open v_leaks v_places v_models)), ((am 10), .inl (cA 3, 200, .inl f_tape)), ((am 11), .inl (cA 0, 5, .inl f_five))] sz)) 0 0 (va_A [((am 0), .inr (9, F9 am v_status v_now v_told v_merges v_taped v_size v_from v_to v_fault v_readFault v_traits v_length v_open v_leaks v_places v_models)), ((am 10), .inl (cA 3, 200, .inl f_tape)), ((am 11), .inl (cA 0, 5, .inl f_five))] sz) := by
  refine Met.ofW (cc := cX9_feed) (maxL := 8) (ret := (some .int)) (by decide) rfl ?_
  intro p e s m args below meth c s₁ B hml hv
  obtain ⟨rfl, hsz, hP, hK, hD0, hN⟩ := hv
  have hx := B.exec
  have hb := B.bytes
  have hr := B.returns
  have hts := atoms_spec (ws := wsX9_feed) B.pre
  have hown : s.vm.findClass RX9 = some m.cls := findClass_of_methodNamed B.named
  have hlocks := B.notSynchronized
  subst hsz
  have hD := hD0.self (sz := s.heap.size)
  generalize hAe : va_A [((am 0), .inr (9, F9 am v_status v_now v_told v_merges v_taped v_size v_from v_to v_fault v_readFault v_traits v_length v_open v_leaks v_places v_models)), ((am 10), .inl (cA 3, 200, .inl f_tape)), ((am 11), .inl (cA 0, 5, .inl f_five))] s.heap.size = A at hD ⊢
  have hA : ∀ q : Nat, s.heap.size ≤ q → A q := fun q h => by rw [← hAe]; exact Or.inr h
  have hS : va_S A s.heap s.heap [] := va_S.rf
  have hIX9 : ∀ w ∈ u_ws RX9 TX9 51, w ∈ wsX9_feed := by decide +kernel
  have hl := lv_entry ([.ref (am 0), .int a, .int b, .int d, .int e1, .int e2]) (n := 8) (Nat.le_of_ble_eq_true rfl)
  rw [lg_entry_eq]
  generalize (lg_sl ([.ref (am 0), .int a, .int b, .int d, .int e1, .int e2]) ++ List.replicate (8 - (lg_sl ([.ref (am 0), .int a, .int b, .int d, .int e1, .int e2])).length) Slot.unset).toArray = ls at hl ⊢
  have hl : lv_has ls 8 [(0, .ref (am 0)), (1, .int a), (2, .int b), (3, .int d), (4, .int e1), (5, .int e2)] := hl
  generalize hQe : MQ below _ _ _ _ _ _ = QQ
  refine lv_aload_n hx hb dX9_feed_0 rfl (lv_at hl 0 rfl) ?_
  refine va_get (D := (dC, dI)) (ci := 9) (v := .int v_taped) (C := RX9) (T := TX9) (N := 51) hx hb hts hIX9 hown hK hP 0 rfl rfl 14 (by decide) (hts (.fieldLink RX9 164 "TraitHouseModel" "taped" "I") (by decide +kernel)) (fun _ h9 => h9) rfl dX9_feed_1 ?_
  refine lv_bipush (v := 20) hx hb dX9_feed_4 (by decide) ?_
  refine lv_iadd hx hb dX9_feed_6 ?_
  refine lv_topi (fun x_1 ex_1 => ?_)
  have dx_1 : x_1.toInt = v_taped.toInt + 20 := by rw [ex_1]; exact jI_add rfl (by decide) (by omega) (by omega)
  refine lv_sipush (v := 200) hx hb dX9_feed_7 (by decide) ?_
  refine lv_icmp_le (tgt := 15) hx hb dX9_feed_10 (by decide) (fun c_2 => ?_) (fun c_2 => ?_)
  · have dc_2 : x_1.toInt ≤ 200 := jI_le c_2 rfl (by decide)
    refine lv_aload_n hx hb dX9_feed_15 rfl (lv_at hl 0 rfl) ?_
    refine va_get (D := (dC, dI)) (ci := 9) (v := .ref (am 11)) (C := RX9) (T := TX9) (N := 51) hx hb hts hIX9 hown hK hP 0 rfl rfl 20 (by decide) (hts (.fieldLink RX9 46 "TraitHouseModel" "five" "[I") (by decide +kernel)) (fun _ h9 => h9) rfl dX9_feed_16 ?_
    refine lv_astore (lv' := [(6, .ref (am 11)), (0, .ref (am 0)), (1, .int a), (2, .int b), (3, .int d), (4, .int e1), (5, .int e2)]) hx hb dX9_feed_19 hl (by decide) rfl (fun ls hl => ?_)
    refine lv_aload hx hb dX9_feed_21 (lv_at hl 0 rfl) ?_
    refine lv_iconst (v := 0) hx hb dX9_feed_23 (by decide) ?_
    refine lv_iload_n hx hb dX9_feed_24 rfl (lv_at hl 2 rfl) ?_
    have h_3 : vp_in 0 5 := (vp_in_iff.mpr ⟨by decide, by decide⟩)
    refine va_iast hx hb hK hP hD hS 2 0 rfl rfl h_3 dX9_feed_25 (fun H locs hP hD hS => ?_)
    replace hP : va_P (dC, dI) vwCl [((am 0), .inr (9, F9 am v_status v_now v_told v_merges v_taped v_size v_from v_to v_fault v_readFault v_traits v_length v_open v_leaks v_places v_models)), ((am 10), .inl (cA 3, 200, .inl f_tape)), ((am 11), .inl (cA 0, 5, .inl (upd f_five (0 : Int32).toNatClampNeg a)))] H := hP
    replace hD : va_D A [((am 0), .inr (9, F9 am v_status v_now v_told v_merges v_taped v_size v_from v_to v_fault v_readFault v_traits v_length v_open v_leaks v_places v_models)), ((am 10), .inl (cA 3, 200, .inl f_tape)), ((am 11), .inl (cA 0, 5, .inl (upd f_five (0 : Int32).toNatClampNeg a)))] := hD
    obtain ⟨g_4, eg_4⟩ : ∃ g : Nat → Int32, g = upd f_five (0 : Int32).toNatClampNeg a := ⟨_, rfl⟩
    rw [← eg_4] at hP hD
    refine lv_aload hx hb dX9_feed_26 (lv_at hl 0 rfl) ?_
    refine lv_iconst (v := 1) hx hb dX9_feed_28 (by decide) ?_
    refine lv_iload_n hx hb dX9_feed_29 rfl (lv_at hl 3 rfl) ?_
    have h_5 : vp_in 1 5 := (vp_in_iff.mpr ⟨by decide, by decide⟩)
    refine va_iast hx hb hK hP hD hS 2 0 rfl rfl h_5 dX9_feed_30 (fun H locs hP hD hS => ?_)
    replace hP : va_P (dC, dI) vwCl [((am 0), .inr (9, F9 am v_status v_now v_told v_merges v_taped v_size v_from v_to v_fault v_readFault v_traits v_length v_open v_leaks v_places v_models)), ((am 10), .inl (cA 3, 200, .inl f_tape)), ((am 11), .inl (cA 0, 5, .inl (upd g_4 (1 : Int32).toNatClampNeg b)))] H := hP
    replace hD : va_D A [((am 0), .inr (9, F9 am v_status v_now v_told v_merges v_taped v_size v_from v_to v_fault v_readFault v_traits v_length v_open v_leaks v_places v_models)), ((am 10), .inl (cA 3, 200, .inl f_tape)), ((am 11), .inl (cA 0, 5, .inl (upd g_4 (1 : Int32).toNatClampNeg b)))] := hD
    obtain ⟨g_6, eg_6⟩ : ∃ g : Nat → Int32, g = upd g_4 (1 : Int32).toNatClampNeg b := ⟨_, rfl⟩
    rw [← eg_6] at hP hD
    refine lv_aload hx hb dX9_feed_31 (lv_at hl 0 rfl) ?_
    refine lv_iconst (v := 2) hx hb dX9_feed_33 (by decide) ?_
    refine lv_iload_n hx hb dX9_feed_34 rfl (lv_at hl 4 rfl) ?_
    have h_7 : vp_in 2 5 := (vp_in_iff.mpr ⟨by decide, by decide⟩)
    refine va_iast hx hb hK hP hD hS 2 0 rfl rfl h_7 dX9_feed_35 (fun H locs hP hD hS => ?_)
    replace hP : va_P (dC, dI) vwCl [((am 0), .inr (9, F9 am v_status v_now v_told v_merges v_taped v_size v_from v_to v_fault v_readFault v_traits v_length v_open v_leaks v_places v_models)), ((am 10), .inl (cA 3, 200, .inl f_tape)), ((am 11), .inl (cA 0, 5, .inl (upd g_6 (2 : Int32).toNatClampNeg d)))] H := hP
    replace hD : va_D A [((am 0), .inr (9, F9 am v_status v_now v_told v_merges v_taped v_size v_from v_to v_fault v_readFault v_traits v_length v_open v_leaks v_places v_models)), ((am 10), .inl (cA 3, 200, .inl f_tape)), ((am 11), .inl (cA 0, 5, .inl (upd g_6 (2 : Int32).toNatClampNeg d)))] := hD
    obtain ⟨g_8, eg_8⟩ : ∃ g : Nat → Int32, g = upd g_6 (2 : Int32).toNatClampNeg d := ⟨_, rfl⟩
    rw [← eg_8] at hP hD
    refine lv_aload hx hb dX9_feed_36 (lv_at hl 0 rfl) ?_
    refine lv_iconst (v := 3) hx hb dX9_feed_38 (by decide) ?_
    refine lv_iload hx hb dX9_feed_39 (lv_at hl 5 rfl) ?_
    have h_9 : vp_in 3 5 := (vp_in_iff.mpr ⟨by decide, by decide⟩)
    refine va_iast hx hb hK hP hD hS 2 0 rfl rfl h_9 dX9_feed_41 (fun H locs hP hD hS => ?_)
    replace hP : va_P (dC, dI) vwCl [((am 0), .inr (9, F9 am v_status v_now v_told v_merges v_taped v_size v_from v_to v_fault v_readFault v_traits v_length v_open v_leaks v_places v_models)), ((am 10), .inl (cA 3, 200, .inl f_tape)), ((am 11), .inl (cA 0, 5, .inl (upd g_8 (3 : Int32).toNatClampNeg e1)))] H := hP
    replace hD : va_D A [((am 0), .inr (9, F9 am v_status v_now v_told v_merges v_taped v_size v_from v_to v_fault v_readFault v_traits v_length v_open v_leaks v_places v_models)), ((am 10), .inl (cA 3, 200, .inl f_tape)), ((am 11), .inl (cA 0, 5, .inl (upd g_8 (3 : Int32).toNatClampNeg e1)))] := hD
    obtain ⟨g_10, eg_10⟩ : ∃ g : Nat → Int32, g = upd g_8 (3 : Int32).toNatClampNeg e1 := ⟨_, rfl⟩
    rw [← eg_10] at hP hD
    refine lv_aload hx hb dX9_feed_42 (lv_at hl 0 rfl) ?_
    refine lv_iconst (v := 4) hx hb dX9_feed_44 (by decide) ?_
    refine lv_iload hx hb dX9_feed_45 (lv_at hl 6 rfl) ?_
    have h_11 : vp_in 4 5 := (vp_in_iff.mpr ⟨by decide, by decide⟩)
    refine va_iast hx hb hK hP hD hS 2 0 rfl rfl h_11 dX9_feed_47 (fun H locs hP hD hS => ?_)
    replace hP : va_P (dC, dI) vwCl [((am 0), .inr (9, F9 am v_status v_now v_told v_merges v_taped v_size v_from v_to v_fault v_readFault v_traits v_length v_open v_leaks v_places v_models)), ((am 10), .inl (cA 3, 200, .inl f_tape)), ((am 11), .inl (cA 0, 5, .inl (upd g_10 (4 : Int32).toNatClampNeg e2)))] H := hP
    replace hD : va_D A [((am 0), .inr (9, F9 am v_status v_now v_told v_merges v_taped v_size v_from v_to v_fault v_readFault v_traits v_length v_open v_leaks v_places v_models)), ((am 10), .inl (cA 3, 200, .inl f_tape)), ((am 11), .inl (cA 0, 5, .inl (upd g_10 (4 : Int32).toNatClampNeg e2)))] := hD
    obtain ⟨g_12, eg_12⟩ : ∃ g : Nat → Int32, g = upd g_10 (4 : Int32).toNatClampNeg e2 := ⟨_, rfl⟩
    rw [← eg_12] at hP hD
    refine lv_iconst (v := 0) hx hb dX9_feed_48 (by decide) ?_
    refine lv_istore (lv' := [(7, .int 0), (6, .ref (am 11)), (0, .ref (am 0)), (1, .int a), (2, .int b), (3, .int d), (4, .int e1), (5, .int e2)]) hx hb dX9_feed_49 hl (by decide) rfl (fun ls hl => ?_)
    have loop51_13 : ∀ (n : Nat) (i7 : Int32) (w_f_tape_51 : Nat → Int32) (H : Heap) (locs : List Loc) (ls : Array Slot), 20 - i7.toInt < (n : Int) → (0 ≤ i7.toInt ∧ i7.toInt ≤ 20) → (fdI f_tape w_f_tape_51 v_taped.toInt.toNat (w5 a b d e1 e2) i7.toInt.toNat) → va_P (dC, dI) vwCl [((am 0), .inr (9, F9 am v_status v_now v_told v_merges v_taped v_size v_from v_to v_fault v_readFault v_traits v_length v_open v_leaks v_places v_models)), ((am 10), .inl (cA 3, 200, .inl w_f_tape_51)), ((am 11), .inl (cA 0, 5, .inl g_12))] H → va_D A [((am 0), .inr (9, F9 am v_status v_now v_told v_merges v_taped v_size v_from v_to v_fault v_readFault v_traits v_length v_open v_leaks v_places v_models)), ((am 10), .inl (cA 3, 200, .inl w_f_tape_51)), ((am 11), .inl (cA 0, 5, .inl g_12))] → va_S A s.heap H locs → lv_has ls 8 [(7, .int i7), (6, .ref (am 11)), (0, .ref (am 0)), (1, .int a), (2, .int b), (3, .int d), (4, .int e1), (5, .int e2)] → W p l e ({ frames := 0, cells := 0, slots := 0, locals := 0 }) s m ([.ref (am 0), .int a, .int b, .int d, .int e1, .int e2] : List Value).toArray below meth c H locs 0 0 QQ (F0 m 51 ls []) := by
      intro n
      induction n with
      | zero => intro i7 w_f_tape_51 H locs ls hme hv0_51 hv1_51; exfalso; omega
      | succ n ih_51 =>
        intro i7 w_f_tape_51 H locs ls hme_51 hv0_51 hv1_51 hP hD hS hl
        refine lv_iload hx hb dX9_feed_51 (lv_at hl 0 rfl) ?_
        refine lv_bipush (v := 20) hx hb dX9_feed_53 (by decide) ?_
        refine lv_icmp_ge (tgt := 95) hx hb dX9_feed_55 (by decide) (fun c_14 => ?_) (fun c_14 => ?_)
        · have dc_14 : 20 ≤ i7.toInt := jI_le c_14 (by decide) rfl
          refine lv_aload_n hx hb dX9_feed_95 rfl (lv_at hl 2 rfl) ?_
          refine lv_dup hx hb dX9_feed_96 rfl ?_
          refine va_get (D := (dC, dI)) (ci := 9) (v := .int v_taped) (C := RX9) (T := TX9) (N := 51) hx hb hts hIX9 hown hK hP 0 rfl rfl 14 (by decide) (hts (.fieldLink RX9 164 "TraitHouseModel" "taped" "I") (by decide +kernel)) (fun _ h9 => h9) rfl dX9_feed_97 ?_
          refine lv_bipush (v := 20) hx hb dX9_feed_100 (by decide) ?_
          refine lv_iadd hx hb dX9_feed_102 ?_
          refine lv_topi (fun x_15 ex_15 => ?_)
          have dx_15 : x_15.toInt = v_taped.toInt + 20 := by rw [ex_15]; exact jI_add rfl (by decide) (by omega) (by omega)
          refine va_put (D := (dC, dI)) (ci := 9) (v := .int x_15) (ty := .int) (C := RX9) (T := TX9) (N := 51) hx hb hts hIX9 tyX9 tyX9_ok nmX9 hown hK hP hD hS 0 rfl rfl 14 (by decide) (hts (.fieldLink RX9 164 "TraitHouseModel" "taped" "I") (by decide +kernel)) (fun _ h9 => h9) rfl (by decide +kernel) rfl rfl (Nat.le_of_ble_eq_true rfl) dX9_feed_103 (fun H locs hP hD hS => ?_)
          replace hP : va_P (dC, dI) vwCl [((am 0), .inr (9, F9 am v_status v_now v_told v_merges x_15 v_size v_from v_to v_fault v_readFault v_traits v_length v_open v_leaks v_places v_models)), ((am 10), .inl (cA 3, 200, .inl w_f_tape_51)), ((am 11), .inl (cA 0, 5, .inl g_12))] H := hP
          replace hD : va_D A [((am 0), .inr (9, F9 am v_status v_now v_told v_merges x_15 v_size v_from v_to v_fault v_readFault v_traits v_length v_open v_leaks v_places v_models)), ((am 10), .inl (cA 3, 200, .inl w_f_tape_51)), ((am 11), .inl (cA 0, 5, .inl g_12))] := hD
          refine lv_aload_n hx hb dX9_feed_106 rfl (lv_at hl 2 rfl) ?_
          refine va_get (D := (dC, dI)) (ci := 9) (v := .int x_15) (C := RX9) (T := TX9) (N := 51) hx hb hts hIX9 hown hK hP 0 rfl rfl 14 (by decide) (hts (.fieldLink RX9 164 "TraitHouseModel" "taped" "I") (by decide +kernel)) (fun _ h9 => h9) rfl dX9_feed_107 ?_
          obtain ⟨hP9, hD9⟩ := va_pd (ws' := [((am 0), .inr (9, F9 am v_status v_now v_told v_merges x_15 v_size v_from v_to v_fault v_readFault v_traits v_length v_open v_leaks v_places v_models)), ((am 10), .inl (cA 3, 200, .inl w_f_tape_51)), ((am 11), .inl (cA 0, 5, .inl g_12))]) hP hD [0, 1, 2] (by decide) rfl
          subst hQe
          have hans : (x_15 : Int32).toInt = x_15.toInt := rfl
          have hpost : (0 ≤ x_15.toInt ∧ x_15.toInt ≤ 200) ∧ ((v_taped.toInt + 20 ≤ 200 → (x_15 : Int32).toInt = v_taped.toInt + 20 ∧ x_15.toInt = v_taped.toInt + 20) ∧ (¬ v_taped.toInt + 20 ≤ 200 → (x_15 : Int32).toInt = (-1) ∧ x_15.toInt = v_taped.toInt)) ∧ ((v_taped.toInt + 20 ≤ 200 → tpe w_f_tape_51 x_15 = apl (tpe f_tape v_taped) v_taped.toInt (w5 a b d e1 e2) 20) ∧ (¬ v_taped.toInt + 20 ≤ 200 → w_f_tape_51 = f_tape)) := ⟨by omega, by omega, ⟨fun _ => fd_e (n := 20) (by have h9 := hv1_51; rw [show i7.toInt.toNat = 20 by omega] at h9; exact h9) (by omega) (by omega), fun h => by exfalso; omega⟩⟩
          exact W.iret (v := x_15) hx hb hr (fun t ht hW => ⟨⟨x_15, (x_15, w_f_tape_51, g_12), rfl, hpost, by rw [ht]; exact hP9, hD9⟩, hS.F ht⟩) hS.2.2 dX9_feed_110
        · have dc_14 : i7.toInt < 20 := jI_nle c_14 (by decide) rfl
          refine lv_aload_n hx hb dX9_feed_58 rfl (lv_at hl 2 rfl) ?_
          refine va_get (D := (dC, dI)) (ci := 9) (v := .ref (am 10)) (C := RX9) (T := TX9) (N := 51) hx hb hts hIX9 hown hK hP 0 rfl rfl 13 (by decide) (hts (.fieldLink RX9 38 "TraitHouseModel" "tape" "[B") (by decide +kernel)) (fun _ h9 => h9) rfl dX9_feed_59 ?_
          refine lv_aload_n hx hb dX9_feed_62 rfl (lv_at hl 2 rfl) ?_
          refine va_get (D := (dC, dI)) (ci := 9) (v := .int v_taped) (C := RX9) (T := TX9) (N := 51) hx hb hts hIX9 hown hK hP 0 rfl rfl 14 (by decide) (hts (.fieldLink RX9 164 "TraitHouseModel" "taped" "I") (by decide +kernel)) (fun _ h9 => h9) rfl dX9_feed_63 ?_
          refine lv_iload hx hb dX9_feed_66 (lv_at hl 0 rfl) ?_
          refine lv_iadd hx hb dX9_feed_68 ?_
          refine lv_topi (fun x_16 ex_16 => ?_)
          have dx_16 : x_16.toInt = v_taped.toInt + i7.toInt := by rw [ex_16]; exact jI_add rfl rfl (by omega) (by omega)
          refine lv_aload hx hb dX9_feed_69 (lv_at hl 1 rfl) ?_
          refine lv_iload hx hb dX9_feed_71 (lv_at hl 0 rfl) ?_
          refine lv_iconst (v := 4) hx hb dX9_feed_73 (by decide) ?_
          refine lv_idiv hx hb dX9_feed_74 (by decide) ?_
          refine lv_topi (fun x_17 ex_17 => ?_)
          have dx_17 : x_17.toInt = i7.toInt / 4 := by rw [ex_17]; exact jI_div rfl (by decide) (by omega) (by decide)
          have h_18 : vp_in x_17 5 := (vp_in_iff.mpr ⟨by omega, by omega⟩)
          refine va_iald hx hb hK hP 2 0 rfl rfl h_18 dX9_feed_75 ?_
          refine lv_topi (fun x_19 ex_19 => ?_)
          refine lv_bipush (v := 24) hx hb dX9_feed_76 (by decide) ?_
          refine lv_bipush (v := 8) hx hb dX9_feed_78 (by decide) ?_
          refine lv_iload hx hb dX9_feed_80 (lv_at hl 0 rfl) ?_
          refine lv_iconst (v := 4) hx hb dX9_feed_82 (by decide) ?_
          refine lv_irem hx hb dX9_feed_83 (by decide) ?_
          refine lv_topi (fun x_20 ex_20 => ?_)
          have dx_20 : x_20.toInt = i7.toInt % 4 := rem4 ex_20 (by omega) (by omega)
          refine lv_imul hx hb dX9_feed_84 ?_
          refine lv_topi (fun x_21 ex_21 => ?_)
          have dx_21 : x_21.toInt = 8 * x_20.toInt := by rw [ex_21]; exact jI_mul (by decide) rfl (by omega) (by omega)
          refine lv_isub hx hb dX9_feed_85 ?_
          refine lv_topi (fun x_22 ex_22 => ?_)
          have dx_22 : x_22.toInt = 24 - x_21.toInt := by rw [ex_22]; exact jI_sub (by decide) rfl (by omega) (by omega)
          refine lv_ishr hx hb dX9_feed_86 ?_
          refine lv_topi (fun x_23 ex_23 => ?_)
          obtain ⟨x_24, ex_24⟩ : ∃ y : Int32, y = x_23.toInt8.toInt32 := ⟨_, rfl⟩
          refine lv_i2b (v := x_24) hx hb dX9_feed_87 ex_24.symm ?_
          have h_25 : vp_in x_16 200 := (vp_in_iff.mpr ⟨by omega, by omega⟩)
          refine va_bast hx hb hK hP hD hS 1 3 rfl rfl h_25 dX9_feed_88 (fun H locs hP hD hS => ?_)
          replace hP : va_P (dC, dI) vwCl [((am 0), .inr (9, F9 am v_status v_now v_told v_merges v_taped v_size v_from v_to v_fault v_readFault v_traits v_length v_open v_leaks v_places v_models)), ((am 10), .inl (cA 3, 200, .inl (upd w_f_tape_51 x_16.toNatClampNeg (vp_nar .byte x_24)))), ((am 11), .inl (cA 0, 5, .inl g_12))] H := hP
          replace hD : va_D A [((am 0), .inr (9, F9 am v_status v_now v_told v_merges v_taped v_size v_from v_to v_fault v_readFault v_traits v_length v_open v_leaks v_places v_models)), ((am 10), .inl (cA 3, 200, .inl (upd w_f_tape_51 x_16.toNatClampNeg (vp_nar .byte x_24)))), ((am 11), .inl (cA 0, 5, .inl g_12))] := hD
          obtain ⟨g_26, eg_26⟩ : ∃ g : Nat → Int32, g = upd w_f_tape_51 x_16.toNatClampNeg (vp_nar .byte x_24) := ⟨_, rfl⟩
          rw [← eg_26] at hP hD
          obtain ⟨x_27, ex_27⟩ : ∃ y : Int32, y = i7 + 1 := ⟨_, rfl⟩
          have dx_27 : x_27.toInt = i7.toInt + 1 := by rw [ex_27]; exact jI_add rfl (by decide) (by omega) (by omega)
          refine lv_iinc (v := x_27) (lv' := [(7, .int x_27), (6, .ref (am 11)), (0, .ref (am 0)), (1, .int a), (2, .int b), (3, .int d), (4, .int e1), (5, .int e2)]) hx hb dX9_feed_89 hl (k := 0) rfl (by rw [ex_27]; rfl) (by decide) rfl (fun ls hl => ?_)
          refine lv_goto (tgt := 51) hx hb dX9_feed_92 (by decide) ?_
          exact ih_51 x_27 g_26 _ _ ls (by omega) (by omega) (fd_s hv1_51 eg_26 (by have : x_16.toNatClampNeg = x_16.toInt.toNat := rfl; omega) (by rw [← five_at eg_4 eg_6 eg_8 eg_10 eg_12 ex_19 (q := x_17) (i := i7) (by omega) (by omega) (by omega) rfl]; exact rf_byt (by omega) (by omega) ex_23 ex_24) (by omega)) (hP.sub [0, 1, 2] rfl) (hD.sub [0, 1, 2] (by decide) rfl) hS (lv_sub hl [0, 1, 2, 3, 4, 5, 6, 7] rfl)
    have hk_28 : (0 : Int32).toInt = 0 := by decide
    exact loop51_13 (Int.toNat (20 - (0 : Int32).toInt) + 1) 0 f_tape _ _ ls (by omega) (by omega) (by rw [show (0 : Int32).toInt.toNat = 0 from rfl]; exact fd_0) hP hD hS (lv_sub hl [0, 1, 2, 3, 4, 5, 6, 7] rfl)
  · have dc_2 : 200 < x_1.toInt := jI_nle c_2 rfl (by decide)
    refine lv_iconst (v := (-1)) hx hb dX9_feed_13 (by decide) ?_
    obtain ⟨hP9, hD9⟩ := va_pd (ws' := [((am 0), .inr (9, F9 am v_status v_now v_told v_merges v_taped v_size v_from v_to v_fault v_readFault v_traits v_length v_open v_leaks v_places v_models)), ((am 10), .inl (cA 3, 200, .inl f_tape)), ((am 11), .inl (cA 0, 5, .inl f_five))]) hP hD [0, 1, 2] (by decide) rfl
    subst hQe
    have hans : ((-1) : Int32).toInt = (-1) := (by decide)
    have hpost : (0 ≤ v_taped.toInt ∧ v_taped.toInt ≤ 200) ∧ ((v_taped.toInt + 20 ≤ 200 → ((-1) : Int32).toInt = v_taped.toInt + 20 ∧ v_taped.toInt = v_taped.toInt + 20) ∧ (¬ v_taped.toInt + 20 ≤ 200 → ((-1) : Int32).toInt = (-1) ∧ v_taped.toInt = v_taped.toInt)) ∧ ((v_taped.toInt + 20 ≤ 200 → tpe f_tape v_taped = apl (tpe f_tape v_taped) v_taped.toInt (w5 a b d e1 e2) 20) ∧ (¬ v_taped.toInt + 20 ≤ 200 → f_tape = f_tape)) := ⟨i_v_taped, by omega, ⟨fun h => by exfalso; omega, fun _ => rfl⟩⟩
    exact W.iret (v := (-1)) hx hb hr (fun t ht hW => ⟨⟨(-1), (v_taped, f_tape, f_five), rfl, hpost, by rw [ht]; exact hP9, hD9⟩, hS.F ht⟩) hS.2.2 dX9_feed_14

set_option maxHeartbeats 8000000 in
set_option maxRecDepth 100000 in
theorem k_X9_end (l : Launch) (dC : Nat → ClassId) (dI : Nat → Nat → Nat) (cA : Nat → ClassId) (sz : Nat) (am : Nat → Nat) (v_status : Int32) (v_now : Int32) (v_told : Int32) (v_merges : Int32) (v_taped : Int32) (v_size : Int32) (v_from : Int32) (v_to : Int32) (v_fault : Int32) (v_readFault : Int32) (v_traits : Int32) (v_length : Int32) (v_open : Int32) (v_leaks : Int32) (v_places : Int32) (v_models : Int32) (n : Int32) (i_v_now : 0 ≤ v_now.toInt ∧ v_now.toInt ≤ 100000) (i_v_told : 0 ≤ v_told.toInt ∧ v_told.toInt ≤ 400) (i_v_taped : 0 ≤ v_taped.toInt ∧ v_taped.toInt ≤ 200) (i_v_size : 0 ≤ v_size.toInt ∧ v_size.toInt ≤ 200) (i_v_from : 0 ≤ v_from.toInt ∧ v_from.toInt ≤ 200) (i_v_to : 0 ≤ v_to.toInt ∧ v_to.toInt ≤ 200) (i_v_traits : 0 ≤ v_traits.toInt ∧ v_traits.toInt ≤ 20) (i_v_length : 0 ≤ v_length.toInt ∧ v_length.toInt ≤ 200) (i_v_open : 0 ≤ v_open.toInt ∧ v_open.toInt ≤ 8) (i_v_places : 0 ≤ v_places.toInt ∧ v_places.toInt ≤ 2000) (i_v_models : 0 ≤ v_models.toInt ∧ v_models.toInt ≤ 10)  : Met l yX9_end wsX9_end ({ frames := 0, cells := 0, slots := 0, locals := 0 }) (va_Pc [.ref (am 0), .int n] (fun U => U.heap.size = sz ∧ va_P (dC, dI) vwCl [((am 0), .inr (9, F9 am v_status v_now v_told v_merges v_taped v_size v_from v_to v_fault v_readFault v_traits v_length v_open v_leaks v_places v_models))] U.heap ∧ va_K (dC, dI) vwCl (tyL cA) U ∧ va_D (fun _ => True) [((am 0), .inr (9, F9 am v_status v_now v_told v_merges v_taped v_size v_from v_to v_fault v_readFault v_traits v_length v_open v_leaks v_places v_models))] ∧ nw_ok U)) (va_Qi (fun (r : Int32) (u : Int32) => (0 ≤ u.toInt ∧ u.toInt ≤ 200) ∧ ((0 ≤ n.toInt ∧ n.toInt ≤ v_taped.toInt → r.toInt = n.toInt ∧ u.toInt = n.toInt) ∧ (¬ (0 ≤ n.toInt ∧ n.toInt ≤ v_taped.toInt) → r.toInt = (-1) ∧ u.toInt = v_taped.toInt))) (fun (u : Int32) (t : State) => va_P (dC, dI) vwCl [((am 0), .inr (9, F9 am v_status v_now v_told v_merges u v_size v_from v_to v_fault v_readFault v_traits v_length v_open v_leaks v_places v_models))] t.heap ∧ va_D (va_A [((am 0), .inr (9, F9 am v_status v_now v_told v_merges v_taped v_size v_from v_to v_fault v_readFault v_traits v_length v_open v_leaks v_places v_models))] sz) [((am 0), .inr (9, F9 am v_status v_now v_told v_merges u v_size v_from v_to v_fault v_readFault v_traits v_length v_open v_leaks v_places v_models))]) (va_A [((am 0), .inr (9, F9 am v_status v_now v_told v_merges v_taped v_size v_from v_to v_fault v_readFault v_traits v_length v_open v_leaks v_places v_models))] sz)) 0 0 (va_A [((am 0), .inr (9, F9 am v_status v_now v_told v_merges v_taped v_size v_from v_to v_fault v_readFault v_traits v_length v_open v_leaks v_places v_models))] sz) := by
  refine Met.ofW (cc := cX9_end) (maxL := 2) (ret := (some .int)) (by decide) rfl ?_
  intro p e s m args below meth c s₁ B hml hv
  obtain ⟨rfl, hsz, hP, hK, hD0, hN⟩ := hv
  have hx := B.exec
  have hb := B.bytes
  have hr := B.returns
  have hts := atoms_spec (ws := wsX9_end) B.pre
  have hown : s.vm.findClass RX9 = some m.cls := findClass_of_methodNamed B.named
  have hlocks := B.notSynchronized
  subst hsz
  have hD := hD0.self (sz := s.heap.size)
  generalize hAe : va_A [((am 0), .inr (9, F9 am v_status v_now v_told v_merges v_taped v_size v_from v_to v_fault v_readFault v_traits v_length v_open v_leaks v_places v_models))] s.heap.size = A at hD ⊢
  have hA : ∀ q : Nat, s.heap.size ≤ q → A q := fun q h => by rw [← hAe]; exact Or.inr h
  have hS : va_S A s.heap s.heap [] := va_S.rf
  have hIX9 : ∀ w ∈ u_ws RX9 TX9 51, w ∈ wsX9_end := by decide +kernel
  have hl := lv_entry ([.ref (am 0), .int n]) (n := 2) (Nat.le_of_ble_eq_true rfl)
  rw [lg_entry_eq]
  generalize (lg_sl ([.ref (am 0), .int n]) ++ List.replicate (2 - (lg_sl ([.ref (am 0), .int n])).length) Slot.unset).toArray = ls at hl ⊢
  have hl : lv_has ls 2 [(0, .ref (am 0)), (1, .int n)] := hl
  generalize hQe : MQ below _ _ _ _ _ _ = QQ
  refine lv_iload_n hx hb dX9_end_0 rfl (lv_at hl 1 rfl) ?_
  refine lv_if_lt (tgt := 12) hx hb dX9_end_1 (by decide) (fun c_1 => ?_) (fun c_1 => ?_)
  · have dc_1 : n.toInt < 0 := jI_lt c_1 rfl (by decide)
    refine lv_iconst (v := (-1)) hx hb dX9_end_12 (by decide) ?_
    obtain ⟨hP9, hD9⟩ := va_pd (ws' := [((am 0), .inr (9, F9 am v_status v_now v_told v_merges v_taped v_size v_from v_to v_fault v_readFault v_traits v_length v_open v_leaks v_places v_models))]) hP hD [0] (by decide) rfl
    subst hQe
    have hans : ((-1) : Int32).toInt = (-1) := (by decide)
    have hpost : (0 ≤ v_taped.toInt ∧ v_taped.toInt ≤ 200) ∧ ((0 ≤ n.toInt ∧ n.toInt ≤ v_taped.toInt → ((-1) : Int32).toInt = n.toInt ∧ v_taped.toInt = n.toInt) ∧ (¬ (0 ≤ n.toInt ∧ n.toInt ≤ v_taped.toInt) → ((-1) : Int32).toInt = (-1) ∧ v_taped.toInt = v_taped.toInt)) := ⟨i_v_taped, by omega⟩
    exact W.iret (v := (-1)) hx hb hr (fun t ht hW => ⟨⟨(-1), v_taped, rfl, hpost, by rw [ht]; exact hP9, hD9⟩, hS.F ht⟩) hS.2.2 dX9_end_13
  · have dc_1 : 0 ≤ n.toInt := jI_nlt c_1 rfl (by decide)
    refine lv_iload_n hx hb dX9_end_4 rfl (lv_at hl 1 rfl) ?_
    refine lv_aload_n hx hb dX9_end_5 rfl (lv_at hl 0 rfl) ?_
    refine va_get (D := (dC, dI)) (ci := 9) (v := .int v_taped) (C := RX9) (T := TX9) (N := 51) hx hb hts hIX9 hown hK hP 0 rfl rfl 14 (by decide) (hts (.fieldLink RX9 164 "TraitHouseModel" "taped" "I") (by decide +kernel)) (fun _ h9 => h9) rfl dX9_end_6 ?_
    refine lv_icmp_le (tgt := 14) hx hb dX9_end_9 (by decide) (fun c_2 => ?_) (fun c_2 => ?_)
    · have dc_2 : n.toInt ≤ v_taped.toInt := jI_le c_2 rfl rfl
      refine lv_aload_n hx hb dX9_end_14 rfl (lv_at hl 0 rfl) ?_
      refine lv_iload_n hx hb dX9_end_15 rfl (lv_at hl 1 rfl) ?_
      refine va_put (D := (dC, dI)) (ci := 9) (v := .int n) (ty := .int) (C := RX9) (T := TX9) (N := 51) hx hb hts hIX9 tyX9 tyX9_ok nmX9 hown hK hP hD hS 0 rfl rfl 14 (by decide) (hts (.fieldLink RX9 164 "TraitHouseModel" "taped" "I") (by decide +kernel)) (fun _ h9 => h9) rfl (by decide +kernel) rfl rfl (Nat.le_of_ble_eq_true rfl) dX9_end_16 (fun H locs hP hD hS => ?_)
      replace hP : va_P (dC, dI) vwCl [((am 0), .inr (9, F9 am v_status v_now v_told v_merges n v_size v_from v_to v_fault v_readFault v_traits v_length v_open v_leaks v_places v_models))] H := hP
      replace hD : va_D A [((am 0), .inr (9, F9 am v_status v_now v_told v_merges n v_size v_from v_to v_fault v_readFault v_traits v_length v_open v_leaks v_places v_models))] := hD
      refine lv_iload_n hx hb dX9_end_19 rfl (lv_at hl 1 rfl) ?_
      obtain ⟨hP9, hD9⟩ := va_pd (ws' := [((am 0), .inr (9, F9 am v_status v_now v_told v_merges n v_size v_from v_to v_fault v_readFault v_traits v_length v_open v_leaks v_places v_models))]) hP hD [0] (by decide) rfl
      subst hQe
      have hans : (n : Int32).toInt = n.toInt := rfl
      have hpost : (0 ≤ n.toInt ∧ n.toInt ≤ 200) ∧ ((0 ≤ n.toInt ∧ n.toInt ≤ v_taped.toInt → (n : Int32).toInt = n.toInt ∧ n.toInt = n.toInt) ∧ (¬ (0 ≤ n.toInt ∧ n.toInt ≤ v_taped.toInt) → (n : Int32).toInt = (-1) ∧ n.toInt = v_taped.toInt)) := ⟨by omega, by omega⟩
      exact W.iret (v := n) hx hb hr (fun t ht hW => ⟨⟨n, n, rfl, hpost, by rw [ht]; exact hP9, hD9⟩, hS.F ht⟩) hS.2.2 dX9_end_20
    · have dc_2 : v_taped.toInt < n.toInt := jI_nle c_2 rfl rfl
      refine lv_iconst (v := (-1)) hx hb dX9_end_12 (by decide) ?_
      obtain ⟨hP9, hD9⟩ := va_pd (ws' := [((am 0), .inr (9, F9 am v_status v_now v_told v_merges v_taped v_size v_from v_to v_fault v_readFault v_traits v_length v_open v_leaks v_places v_models))]) hP hD [0] (by decide) rfl
      subst hQe
      have hans : ((-1) : Int32).toInt = (-1) := (by decide)
      have hpost : (0 ≤ v_taped.toInt ∧ v_taped.toInt ≤ 200) ∧ ((0 ≤ n.toInt ∧ n.toInt ≤ v_taped.toInt → ((-1) : Int32).toInt = n.toInt ∧ v_taped.toInt = n.toInt) ∧ (¬ (0 ≤ n.toInt ∧ n.toInt ≤ v_taped.toInt) → ((-1) : Int32).toInt = (-1) ∧ v_taped.toInt = v_taped.toInt)) := ⟨i_v_taped, by omega⟩
      exact W.iret (v := (-1)) hx hb hr (fun t ht hW => ⟨⟨(-1), v_taped, rfl, hpost, by rw [ht]; exact hP9, hD9⟩, hS.F ht⟩) hS.2.2 dX9_end_13

set_option maxHeartbeats 8000000 in
set_option maxRecDepth 100000 in
theorem k_X9_living (l : Launch) (dC : Nat → ClassId) (dI : Nat → Nat → Nat) (cA : Nat → ClassId) (sz : Nat) (am : Nat → Nat) (v_status : Int32) (v_now : Int32) (v_told : Int32) (v_merges : Int32) (v_taped : Int32) (v_size : Int32) (v_from : Int32) (v_to : Int32) (v_fault : Int32) (v_readFault : Int32) (v_traits : Int32) (v_length : Int32) (v_open : Int32) (v_leaks : Int32) (v_places : Int32) (v_models : Int32) (f_isErased : Nat → Int32) (i_v_now : 0 ≤ v_now.toInt ∧ v_now.toInt ≤ 100000) (i_v_told : 0 ≤ v_told.toInt ∧ v_told.toInt ≤ 400) (i_v_taped : 0 ≤ v_taped.toInt ∧ v_taped.toInt ≤ 200) (i_v_size : 0 ≤ v_size.toInt ∧ v_size.toInt ≤ 200) (i_v_from : 0 ≤ v_from.toInt ∧ v_from.toInt ≤ 200) (i_v_to : 0 ≤ v_to.toInt ∧ v_to.toInt ≤ 200) (i_v_traits : 0 ≤ v_traits.toInt ∧ v_traits.toInt ≤ 20) (i_v_length : 0 ≤ v_length.toInt ∧ v_length.toInt ≤ 200) (i_v_open : 0 ≤ v_open.toInt ∧ v_open.toInt ≤ 8) (i_v_places : 0 ≤ v_places.toInt ∧ v_places.toInt ≤ 2000) (i_v_models : 0 ≤ v_models.toInt ∧ v_models.toInt ≤ 10)  : Met l yX9_living wsX9_living ({ frames := 0, cells := 0, slots := 0, locals := 0 }) (va_Pc [.ref (am 0)] (fun U => U.heap.size = sz ∧ va_P (dC, dI) vwCl [((am 0), .inr (9, F9 am v_status v_now v_told v_merges v_taped v_size v_from v_to v_fault v_readFault v_traits v_length v_open v_leaks v_places v_models)), ((am 9), .inl (cA 2, 20, .inl f_isErased))] U.heap ∧ va_K (dC, dI) vwCl (tyL cA) U ∧ va_D (fun _ => True) [((am 0), .inr (9, F9 am v_status v_now v_told v_merges v_taped v_size v_from v_to v_fault v_readFault v_traits v_length v_open v_leaks v_places v_models)), ((am 9), .inl (cA 2, 20, .inl f_isErased))] ∧ nw_ok U)) (va_Qi (fun (r : Int32) (_ : Unit) => (r.toInt = (liv f_isErased 20 : Int) ∧ 0 ≤ r.toInt ∧ r.toInt ≤ 20)) (fun (_ : Unit) (t : State) => va_P (dC, dI) vwCl [((am 0), .inr (9, F9 am v_status v_now v_told v_merges v_taped v_size v_from v_to v_fault v_readFault v_traits v_length v_open v_leaks v_places v_models)), ((am 9), .inl (cA 2, 20, .inl f_isErased))] t.heap ∧ va_D (va_A [((am 0), .inr (9, F9 am v_status v_now v_told v_merges v_taped v_size v_from v_to v_fault v_readFault v_traits v_length v_open v_leaks v_places v_models)), ((am 9), .inl (cA 2, 20, .inl f_isErased))] sz) [((am 0), .inr (9, F9 am v_status v_now v_told v_merges v_taped v_size v_from v_to v_fault v_readFault v_traits v_length v_open v_leaks v_places v_models)), ((am 9), .inl (cA 2, 20, .inl f_isErased))]) (va_A [((am 0), .inr (9, F9 am v_status v_now v_told v_merges v_taped v_size v_from v_to v_fault v_readFault v_traits v_length v_open v_leaks v_places v_models)), ((am 9), .inl (cA 2, 20, .inl f_isErased))] sz)) 0 0 (va_A [((am 0), .inr (9, F9 am v_status v_now v_told v_merges v_taped v_size v_from v_to v_fault v_readFault v_traits v_length v_open v_leaks v_places v_models)), ((am 9), .inl (cA 2, 20, .inl f_isErased))] sz) := by
  refine Met.ofW (cc := cX9_living) (maxL := 3) (ret := (some .int)) (by decide) rfl ?_
  intro p e s m args below meth c s₁ B hml hv
  obtain ⟨rfl, hsz, hP, hK, hD0, hN⟩ := hv
  have hx := B.exec
  have hb := B.bytes
  have hr := B.returns
  have hts := atoms_spec (ws := wsX9_living) B.pre
  have hown : s.vm.findClass RX9 = some m.cls := findClass_of_methodNamed B.named
  have hlocks := B.notSynchronized
  subst hsz
  have hD := hD0.self (sz := s.heap.size)
  generalize hAe : va_A [((am 0), .inr (9, F9 am v_status v_now v_told v_merges v_taped v_size v_from v_to v_fault v_readFault v_traits v_length v_open v_leaks v_places v_models)), ((am 9), .inl (cA 2, 20, .inl f_isErased))] s.heap.size = A at hD ⊢
  have hA : ∀ q : Nat, s.heap.size ≤ q → A q := fun q h => by rw [← hAe]; exact Or.inr h
  have hS : va_S A s.heap s.heap [] := va_S.rf
  have hIX9 : ∀ w ∈ u_ws RX9 TX9 51, w ∈ wsX9_living := by decide +kernel
  have hl := lv_entry ([.ref (am 0)]) (n := 3) (Nat.le_of_ble_eq_true rfl)
  rw [lg_entry_eq]
  generalize (lg_sl ([.ref (am 0)]) ++ List.replicate (3 - (lg_sl ([.ref (am 0)])).length) Slot.unset).toArray = ls at hl ⊢
  have hl : lv_has ls 3 [(0, .ref (am 0))] := hl
  generalize hQe : MQ below _ _ _ _ _ _ = QQ
  refine lv_iconst (v := 0) hx hb dX9_living_0 (by decide) ?_
  refine lv_istore_n (lv' := [(1, .int 0), (0, .ref (am 0))]) hx hb dX9_living_1 rfl hl (by decide) rfl (fun ls hl => ?_)
  refine lv_iconst (v := 0) hx hb dX9_living_2 (by decide) ?_
  refine lv_istore_n (lv' := [(2, .int 0), (1, .int 0), (0, .ref (am 0))]) hx hb dX9_living_3 rfl hl (by decide) rfl (fun ls hl => ?_)
  have loop4_1 : ∀ (n : Nat) (i2 : Int32) (n1 : Int32) (H : Heap) (locs : List Loc) (ls : Array Slot), 20 - i2.toInt < (n : Int) → (0 ≤ i2.toInt ∧ i2.toInt ≤ 20) → (0 ≤ n1.toInt ∧ n1.toInt ≤ 20) → (n1.toInt ≤ i2.toInt) → (n1.toInt = (liv f_isErased i2.toInt.toNat : Int)) → va_P (dC, dI) vwCl [((am 0), .inr (9, F9 am v_status v_now v_told v_merges v_taped v_size v_from v_to v_fault v_readFault v_traits v_length v_open v_leaks v_places v_models)), ((am 9), .inl (cA 2, 20, .inl f_isErased))] H → va_D A [((am 0), .inr (9, F9 am v_status v_now v_told v_merges v_taped v_size v_from v_to v_fault v_readFault v_traits v_length v_open v_leaks v_places v_models)), ((am 9), .inl (cA 2, 20, .inl f_isErased))] → va_S A s.heap H locs → lv_has ls 3 [(2, .int i2), (1, .int n1), (0, .ref (am 0))] → W p l e ({ frames := 0, cells := 0, slots := 0, locals := 0 }) s m ([.ref (am 0)] : List Value).toArray below meth c H locs 0 0 QQ (F0 m 4 ls []) := by
    intro n
    induction n with
    | zero => intro i2 n1 H locs ls hme hv0_4 hv1_4 hv2_4 hv3_4; exfalso; omega
    | succ n ih_4 =>
      intro i2 n1 H locs ls hme_4 hv0_4 hv1_4 hv2_4 hv3_4 hP hD hS hl
      refine lv_iload_n hx hb dX9_living_4 rfl (lv_at hl 0 rfl) ?_
      refine lv_bipush (v := 20) hx hb dX9_living_5 (by decide) ?_
      refine lv_icmp_ge (tgt := 33) hx hb dX9_living_7 (by decide) (fun c_2 => ?_) (fun c_2 => ?_)
      · have dc_2 : 20 ≤ i2.toInt := jI_le c_2 (by decide) rfl
        refine lv_iload_n hx hb dX9_living_33 rfl (lv_at hl 1 rfl) ?_
        obtain ⟨hP9, hD9⟩ := va_pd (ws' := [((am 0), .inr (9, F9 am v_status v_now v_told v_merges v_taped v_size v_from v_to v_fault v_readFault v_traits v_length v_open v_leaks v_places v_models)), ((am 9), .inl (cA 2, 20, .inl f_isErased))]) hP hD [0, 1] (by decide) rfl
        subst hQe
        have hans : (n1 : Int32).toInt = n1.toInt := rfl
        have hpost : ((n1 : Int32).toInt = (liv f_isErased 20 : Int) ∧ 0 ≤ (n1 : Int32).toInt ∧ (n1 : Int32).toInt ≤ 20) := (by have e20 : i2.toInt.toNat = 20 := (by omega); have h20 := hv3_4; rw [e20] at h20; exact ⟨h20, by omega, by omega⟩)
        exact W.iret (v := n1) hx hb hr (fun t ht hW => ⟨⟨n1, (), rfl, hpost, by rw [ht]; exact hP9, hD9⟩, hS.F ht⟩) hS.2.2 dX9_living_34
      · have dc_2 : i2.toInt < 20 := jI_nle c_2 (by decide) rfl
        refine lv_iload_n hx hb dX9_living_10 rfl (lv_at hl 1 rfl) ?_
        refine lv_aload_n hx hb dX9_living_11 rfl (lv_at hl 2 rfl) ?_
        refine va_get (D := (dC, dI)) (ci := 9) (v := .ref (am 9)) (C := RX9) (T := TX9) (N := 51) hx hb hts hIX9 hown hK hP 0 rfl rfl 12 (by decide) (hts (.fieldLink RX9 35 "TraitHouseModel" "isErased" "[Z") (by decide +kernel)) (fun _ h9 => h9) rfl dX9_living_12 ?_
        refine lv_iload_n hx hb dX9_living_15 rfl (lv_at hl 0 rfl) ?_
        have h_3 : vp_in i2 20 := (vp_in_iff.mpr ⟨by omega, by omega⟩)
        refine va_zald hx hb hK hP 1 2 rfl rfl h_3 dX9_living_16 ?_
        refine lv_topi (fun x_4 ex_4 => ?_)
        refine lv_if_eq (tgt := 24) hx hb dX9_living_17 (by decide) (fun c_5 => ?_) (fun c_5 => ?_)
        · have dc_5 : x_4.toInt = 0 := jI_eq c_5 rfl (by decide)
          refine lv_iconst (v := 1) hx hb dX9_living_24 (by decide) ?_
          refine lv_iadd hx hb dX9_living_25 ?_
          refine lv_topi (fun x_6 ex_6 => ?_)
          have dx_6 : x_6.toInt = n1.toInt + 1 := by rw [ex_6]; exact jI_add rfl (by decide) (by omega) (by omega)
          refine lv_istore_n (lv' := [(1, .int x_6), (2, .int i2), (0, .ref (am 0))]) hx hb dX9_living_26 rfl hl (by decide) rfl (fun ls hl => ?_)
          obtain ⟨x_7, ex_7⟩ : ∃ y : Int32, y = i2 + 1 := ⟨_, rfl⟩
          have dx_7 : x_7.toInt = i2.toInt + 1 := by rw [ex_7]; exact jI_add rfl (by decide) (by omega) (by omega)
          refine lv_iinc (v := x_7) (lv' := [(2, .int x_7), (1, .int x_6), (0, .ref (am 0))]) hx hb dX9_living_27 hl (k := 1) rfl (by rw [ex_7]; rfl) (by decide) rfl (fun ls hl => ?_)
          refine lv_goto (tgt := 4) hx hb dX9_living_30 (by decide) ?_
          exact ih_4 x_7 x_6 _ _ ls (by omega) (by omega) (by omega) (by omega) ((by first | exact liv_step0 hv3_4 (by omega) ex_4 (by omega) (by omega) (by omega) | exact liv_step1 hv3_4 (by omega) ex_4 (by omega) (by omega) (by omega))) (hP.sub [0, 1] rfl) (hD.sub [0, 1] (by decide) rfl) hS (lv_sub hl [0, 1, 2] rfl)
        · have dc_5 : ¬ x_4.toInt = 0 := jI_ne c_5 rfl (by decide)
          refine lv_iconst (v := 0) hx hb dX9_living_20 (by decide) ?_
          refine lv_goto (tgt := 25) hx hb dX9_living_21 (by decide) ?_
          refine lv_iadd hx hb dX9_living_25 ?_
          refine lv_topi (fun x_8 ex_8 => ?_)
          have dx_8 : x_8.toInt = n1.toInt + 0 := by rw [ex_8]; exact jI_add rfl (by decide) (by omega) (by omega)
          refine lv_istore_n (lv' := [(1, .int x_8), (2, .int i2), (0, .ref (am 0))]) hx hb dX9_living_26 rfl hl (by decide) rfl (fun ls hl => ?_)
          obtain ⟨x_9, ex_9⟩ : ∃ y : Int32, y = i2 + 1 := ⟨_, rfl⟩
          have dx_9 : x_9.toInt = i2.toInt + 1 := by rw [ex_9]; exact jI_add rfl (by decide) (by omega) (by omega)
          refine lv_iinc (v := x_9) (lv' := [(2, .int x_9), (1, .int x_8), (0, .ref (am 0))]) hx hb dX9_living_27 hl (k := 1) rfl (by rw [ex_9]; rfl) (by decide) rfl (fun ls hl => ?_)
          refine lv_goto (tgt := 4) hx hb dX9_living_30 (by decide) ?_
          exact ih_4 x_9 x_8 _ _ ls (by omega) (by omega) (by omega) (by omega) ((by first | exact liv_step0 hv3_4 (by omega) ex_4 (by omega) (by omega) (by omega) | exact liv_step1 hv3_4 (by omega) ex_4 (by omega) (by omega) (by omega))) (hP.sub [0, 1] rfl) (hD.sub [0, 1] (by decide) rfl) hS (lv_sub hl [0, 1, 2] rfl)
  have hk_10 : (0 : Int32).toInt = 0 := by decide
  have hk_11 : (0 : Int32).toInt = 0 := by decide
  exact loop4_1 (Int.toNat (20 - (0 : Int32).toInt) + 1) 0 0 _ _ ls (by omega) (by omega) (by omega) (by omega) (rfl) hP hD hS (lv_sub hl [0, 1, 2] rfl)

set_option maxHeartbeats 8000000 in
set_option maxRecDepth 100000 in
theorem k_X9_count (l : Launch) (dC : Nat → ClassId) (dI : Nat → Nat → Nat) (cA : Nat → ClassId) (sz : Nat) (am : Nat → Nat) (v_status : Int32) (v_now : Int32) (v_told : Int32) (v_merges : Int32) (v_taped : Int32) (v_size : Int32) (v_from : Int32) (v_to : Int32) (v_fault : Int32) (v_readFault : Int32) (v_traits : Int32) (v_length : Int32) (v_open : Int32) (v_leaks : Int32) (v_places : Int32) (v_models : Int32) (f_isGone : Nat → Int32) (f_isErased : Nat → Int32) (a : Int32) (i_v_now : 0 ≤ v_now.toInt ∧ v_now.toInt ≤ 100000) (i_v_told : 0 ≤ v_told.toInt ∧ v_told.toInt ≤ 400) (i_v_taped : 0 ≤ v_taped.toInt ∧ v_taped.toInt ≤ 200) (i_v_size : 0 ≤ v_size.toInt ∧ v_size.toInt ≤ 200) (i_v_from : 0 ≤ v_from.toInt ∧ v_from.toInt ≤ 200) (i_v_to : 0 ≤ v_to.toInt ∧ v_to.toInt ≤ 200) (i_v_traits : 0 ≤ v_traits.toInt ∧ v_traits.toInt ≤ 20) (i_v_length : 0 ≤ v_length.toInt ∧ v_length.toInt ≤ 200) (i_v_open : 0 ≤ v_open.toInt ∧ v_open.toInt ≤ 8) (i_v_places : 0 ≤ v_places.toInt ∧ v_places.toInt ≤ 2000) (i_v_models : 0 ≤ v_models.toInt ∧ v_models.toInt ≤ 10)  : Met l yX9_count wsX9_count ({ frames := 1, cells := 0, slots := 0, locals := 22 }) (va_Pc [.ref (am 0), .int a] (fun U => U.heap.size = sz ∧ va_P (dC, dI) vwCl [((am 0), .inr (9, F9 am v_status v_now v_told v_merges v_taped v_size v_from v_to v_fault v_readFault v_traits v_length v_open v_leaks v_places v_models)), ((am 6), .inl (cA 2, 400, .inl f_isGone)), ((am 9), .inl (cA 2, 20, .inl f_isErased))] U.heap ∧ va_K (dC, dI) vwCl (tyL cA) U ∧ va_D (fun _ => True) [((am 0), .inr (9, F9 am v_status v_now v_told v_merges v_taped v_size v_from v_to v_fault v_readFault v_traits v_length v_open v_leaks v_places v_models)), ((am 6), .inl (cA 2, 400, .inl f_isGone)), ((am 9), .inl (cA 2, 20, .inl f_isErased))] ∧ nw_ok U)) (va_Qi (fun (r : Int32) (_ : Unit) => True) (fun (_ : Unit) (t : State) => va_P (dC, dI) vwCl [((am 0), .inr (9, F9 am v_status v_now v_told v_merges v_taped v_size v_from v_to v_fault v_readFault v_traits v_length v_open v_leaks v_places v_models)), ((am 6), .inl (cA 2, 400, .inl f_isGone)), ((am 9), .inl (cA 2, 20, .inl f_isErased))] t.heap ∧ va_D (va_A [((am 0), .inr (9, F9 am v_status v_now v_told v_merges v_taped v_size v_from v_to v_fault v_readFault v_traits v_length v_open v_leaks v_places v_models)), ((am 6), .inl (cA 2, 400, .inl f_isGone)), ((am 9), .inl (cA 2, 20, .inl f_isErased))] sz) [((am 0), .inr (9, F9 am v_status v_now v_told v_merges v_taped v_size v_from v_to v_fault v_readFault v_traits v_length v_open v_leaks v_places v_models)), ((am 6), .inl (cA 2, 400, .inl f_isGone)), ((am 9), .inl (cA 2, 20, .inl f_isErased))]) (va_A [((am 0), .inr (9, F9 am v_status v_now v_told v_merges v_taped v_size v_from v_to v_fault v_readFault v_traits v_length v_open v_leaks v_places v_models)), ((am 6), .inl (cA 2, 400, .inl f_isGone)), ((am 9), .inl (cA 2, 20, .inl f_isErased))] sz)) 0 0 (va_A [((am 0), .inr (9, F9 am v_status v_now v_told v_merges v_taped v_size v_from v_to v_fault v_readFault v_traits v_length v_open v_leaks v_places v_models)), ((am 6), .inl (cA 2, 400, .inl f_isGone)), ((am 9), .inl (cA 2, 20, .inl f_isErased))] sz) := by
  refine Met.ofW (cc := cX9_count) (maxL := 4) (ret := (some .int)) (by decide) rfl ?_
  intro p e s m args below meth c s₁ B hml hv
  obtain ⟨rfl, hsz, hP, hK, hD0, hN⟩ := hv
  have hx := B.exec
  have hb := B.bytes
  have hr := B.returns
  have hts := atoms_spec (ws := wsX9_count) B.pre
  have hown : s.vm.findClass RX9 = some m.cls := findClass_of_methodNamed B.named
  have hlocks := B.notSynchronized
  subst hsz
  have hD := hD0.self (sz := s.heap.size)
  generalize hAe : va_A [((am 0), .inr (9, F9 am v_status v_now v_told v_merges v_taped v_size v_from v_to v_fault v_readFault v_traits v_length v_open v_leaks v_places v_models)), ((am 6), .inl (cA 2, 400, .inl f_isGone)), ((am 9), .inl (cA 2, 20, .inl f_isErased))] s.heap.size = A at hD ⊢
  have hA : ∀ q : Nat, s.heap.size ≤ q → A q := fun q h => by rw [← hAe]; exact Or.inr h
  have hS : va_S A s.heap s.heap [] := va_S.rf
  have hIX9 : ∀ w ∈ u_ws RX9 TX9 51, w ∈ wsX9_count := by decide +kernel
  have hl := lv_entry ([.ref (am 0), .int a]) (n := 4) (Nat.le_of_ble_eq_true rfl)
  rw [lg_entry_eq]
  generalize (lg_sl ([.ref (am 0), .int a]) ++ List.replicate (4 - (lg_sl ([.ref (am 0), .int a])).length) Slot.unset).toArray = ls at hl ⊢
  have hl : lv_has ls 4 [(0, .ref (am 0)), (1, .int a)] := hl
  generalize hQe : MQ below _ _ _ _ _ _ = QQ
  refine lv_iconst (v := 0) hx hb dX9_count_0 (by decide) ?_
  refine lv_istore_n (lv' := [(2, .int 0), (0, .ref (am 0)), (1, .int a)]) hx hb dX9_count_1 rfl hl (by decide) rfl (fun ls hl => ?_)
  refine lv_iload_n hx hb dX9_count_2 rfl (lv_at hl 2 rfl) ?_
  rcases (jI_range a 0 7 : (a.toInt < 0 ∨ 7 < a.toInt) ∨ (0 ≤ a.toInt ∧ a.toInt ≤ 7)) with hsw | hsw
  · refine lv_tableOut (tgt := 121) hx hb dX9_count_3 hsw (by decide) ?_
    refine lv_iconst (v := (-1)) hx hb dX9_count_121 (by decide) ?_
    obtain ⟨hP9, hD9⟩ := va_pd (ws' := [((am 0), .inr (9, F9 am v_status v_now v_told v_merges v_taped v_size v_from v_to v_fault v_readFault v_traits v_length v_open v_leaks v_places v_models)), ((am 6), .inl (cA 2, 400, .inl f_isGone)), ((am 9), .inl (cA 2, 20, .inl f_isErased))]) hP hD [0, 1, 2] (by decide) rfl
    subst hQe
    have hans : ((-1) : Int32).toInt = (-1) := (by decide)
    exact W.iret (v := (-1)) hx hb hr (fun t ht hW => ⟨⟨(-1), (), rfl, trivial, by rw [ht]; exact hP9, hD9⟩, hS.F ht⟩) hS.2.2 dX9_count_122
  · rcases (show a.toInt = 0 ∨ a.toInt = 1 ∨ a.toInt = 2 ∨ a.toInt = 3 ∨ a.toInt = 4 ∨ a.toInt = 5 ∨ a.toInt = 6 ∨ a.toInt = 7 by omega) with hsw | hsw | hsw | hsw | hsw | hsw | hsw | hsw
    · refine lv_tableIn (off := 45) (tgt := 48) hx hb dX9_count_3 (by omega) (by omega) (by rw [hsw]; rfl) (by decide) ?_
      refine lv_aload_n hx hb dX9_count_48 rfl (lv_at hl 1 rfl) ?_
      refine va_get (D := (dC, dI)) (ci := 9) (v := .int v_now) (C := RX9) (T := TX9) (N := 51) hx hb hts hIX9 hown hK hP 0 rfl rfl 1 (by decide) (hts (.fieldLink RX9 133 "TraitHouseModel" "now" "I") (by decide +kernel)) (fun _ h9 => h9) rfl dX9_count_49 ?_
      obtain ⟨hP9, hD9⟩ := va_pd (ws' := [((am 0), .inr (9, F9 am v_status v_now v_told v_merges v_taped v_size v_from v_to v_fault v_readFault v_traits v_length v_open v_leaks v_places v_models)), ((am 6), .inl (cA 2, 400, .inl f_isGone)), ((am 9), .inl (cA 2, 20, .inl f_isErased))]) hP hD [0, 1, 2] (by decide) rfl
      subst hQe
      have hans : (v_now : Int32).toInt = v_now.toInt := rfl
      exact W.iret (v := v_now) hx hb hr (fun t ht hW => ⟨⟨v_now, (), rfl, trivial, by rw [ht]; exact hP9, hD9⟩, hS.F ht⟩) hS.2.2 dX9_count_52
    · refine lv_tableIn (off := 50) (tgt := 53) hx hb dX9_count_3 (by omega) (by omega) (by rw [hsw]; rfl) (by decide) ?_
      refine lv_iconst (v := 0) hx hb dX9_count_53 (by decide) ?_
      refine lv_istore_n (lv' := [(3, .int 0), (2, .int 0), (0, .ref (am 0)), (1, .int a)]) hx hb dX9_count_54 rfl hl (by decide) rfl (fun ls hl => ?_)
      have loop55_1 : ∀ (n : Nat) (i3 : Int32) (n2 : Int32) (H : Heap) (locs : List Loc) (ls : Array Slot), 400 - i3.toInt < (n : Int) → (0 ≤ i3.toInt ∧ i3.toInt ≤ 400) → va_P (dC, dI) vwCl [((am 0), .inr (9, F9 am v_status v_now v_told v_merges v_taped v_size v_from v_to v_fault v_readFault v_traits v_length v_open v_leaks v_places v_models)), ((am 6), .inl (cA 2, 400, .inl f_isGone)), ((am 9), .inl (cA 2, 20, .inl f_isErased))] H → va_D A [((am 0), .inr (9, F9 am v_status v_now v_told v_merges v_taped v_size v_from v_to v_fault v_readFault v_traits v_length v_open v_leaks v_places v_models)), ((am 6), .inl (cA 2, 400, .inl f_isGone)), ((am 9), .inl (cA 2, 20, .inl f_isErased))] → va_S A s.heap H locs → lv_has ls 4 [(3, .int i3), (2, .int n2), (0, .ref (am 0)), (1, .int a)] → W p l e ({ frames := 1, cells := 0, slots := 0, locals := 22 }) s m ([.ref (am 0), .int a] : List Value).toArray below meth c H locs 0 0 QQ (F0 m 55 ls []) := by
        intro n
        induction n with
        | zero => intro i3 n2 H locs ls hme hv0_55; exfalso; omega
        | succ n ih_55 =>
          intro i3 n2 H locs ls hme_55 hv0_55 hP hD hS hl
          refine lv_iload_n hx hb dX9_count_55 rfl (lv_at hl 0 rfl) ?_
          refine lv_aload_n hx hb dX9_count_56 rfl (lv_at hl 2 rfl) ?_
          refine va_get (D := (dC, dI)) (ci := 9) (v := .int v_told) (C := RX9) (T := TX9) (N := 51) hx hb hts hIX9 hown hK hP 0 rfl rfl 2 (by decide) (hts (.fieldLink RX9 153 "TraitHouseModel" "told" "I") (by decide +kernel)) (fun _ h9 => h9) rfl dX9_count_57 ?_
          refine lv_icmp_ge (tgt := 86) hx hb dX9_count_60 (by decide) (fun c_2 => ?_) (fun c_2 => ?_)
          · have dc_2 : v_told.toInt ≤ i3.toInt := jI_le c_2 rfl rfl
            refine lv_iload_n hx hb dX9_count_86 rfl (lv_at hl 1 rfl) ?_
            obtain ⟨hP9, hD9⟩ := va_pd (ws' := [((am 0), .inr (9, F9 am v_status v_now v_told v_merges v_taped v_size v_from v_to v_fault v_readFault v_traits v_length v_open v_leaks v_places v_models)), ((am 6), .inl (cA 2, 400, .inl f_isGone)), ((am 9), .inl (cA 2, 20, .inl f_isErased))]) hP hD [0, 1, 2] (by decide) rfl
            subst hQe
            have hans : (n2 : Int32).toInt = n2.toInt := rfl
            exact W.iret (v := n2) hx hb hr (fun t ht hW => ⟨⟨n2, (), rfl, trivial, by rw [ht]; exact hP9, hD9⟩, hS.F ht⟩) hS.2.2 dX9_count_87
          · have dc_2 : i3.toInt < v_told.toInt := jI_nle c_2 rfl rfl
            refine lv_iload_n hx hb dX9_count_63 rfl (lv_at hl 1 rfl) ?_
            refine lv_aload_n hx hb dX9_count_64 rfl (lv_at hl 2 rfl) ?_
            refine va_get (D := (dC, dI)) (ci := 9) (v := .ref (am 6)) (C := RX9) (T := TX9) (N := 51) hx hb hts hIX9 hown hK hP 0 rfl rfl 8 (by decide) (hts (.fieldLink RX9 25 "TraitHouseModel" "isGone" "[Z") (by decide +kernel)) (fun _ h9 => h9) rfl dX9_count_65 ?_
            refine lv_iload_n hx hb dX9_count_68 rfl (lv_at hl 0 rfl) ?_
            have h_3 : vp_in i3 400 := (vp_in_iff.mpr ⟨by omega, by omega⟩)
            refine va_zald hx hb hK hP 1 2 rfl rfl h_3 dX9_count_69 ?_
            refine lv_topi (fun x_4 ex_4 => ?_)
            refine lv_if_eq (tgt := 77) hx hb dX9_count_70 (by decide) (fun c_5 => ?_) (fun c_5 => ?_)
            · have dc_5 : x_4.toInt = 0 := jI_eq c_5 rfl (by decide)
              refine lv_iconst (v := 1) hx hb dX9_count_77 (by decide) ?_
              refine lv_iadd hx hb dX9_count_78 ?_
              refine lv_topi (fun x_6 ex_6 => ?_)
              refine lv_istore_n (lv' := [(2, .int x_6), (3, .int i3), (0, .ref (am 0)), (1, .int a)]) hx hb dX9_count_79 rfl hl (by decide) rfl (fun ls hl => ?_)
              obtain ⟨x_7, ex_7⟩ : ∃ y : Int32, y = i3 + 1 := ⟨_, rfl⟩
              have dx_7 : x_7.toInt = i3.toInt + 1 := by rw [ex_7]; exact jI_add rfl (by decide) (by omega) (by omega)
              refine lv_iinc (v := x_7) (lv' := [(3, .int x_7), (2, .int x_6), (0, .ref (am 0)), (1, .int a)]) hx hb dX9_count_80 hl (k := 1) rfl (by rw [ex_7]; rfl) (by decide) rfl (fun ls hl => ?_)
              refine lv_goto (tgt := 55) hx hb dX9_count_83 (by decide) ?_
              exact ih_55 x_7 x_6 _ _ ls (by omega) (by omega) (hP.sub [0, 1, 2] rfl) (hD.sub [0, 1, 2] (by decide) rfl) hS (lv_sub hl [0, 1, 2, 3] rfl)
            · have dc_5 : ¬ x_4.toInt = 0 := jI_ne c_5 rfl (by decide)
              refine lv_iconst (v := 0) hx hb dX9_count_73 (by decide) ?_
              refine lv_goto (tgt := 78) hx hb dX9_count_74 (by decide) ?_
              refine lv_iadd hx hb dX9_count_78 ?_
              refine lv_topi (fun x_8 ex_8 => ?_)
              refine lv_istore_n (lv' := [(2, .int x_8), (3, .int i3), (0, .ref (am 0)), (1, .int a)]) hx hb dX9_count_79 rfl hl (by decide) rfl (fun ls hl => ?_)
              obtain ⟨x_9, ex_9⟩ : ∃ y : Int32, y = i3 + 1 := ⟨_, rfl⟩
              have dx_9 : x_9.toInt = i3.toInt + 1 := by rw [ex_9]; exact jI_add rfl (by decide) (by omega) (by omega)
              refine lv_iinc (v := x_9) (lv' := [(3, .int x_9), (2, .int x_8), (0, .ref (am 0)), (1, .int a)]) hx hb dX9_count_80 hl (k := 1) rfl (by rw [ex_9]; rfl) (by decide) rfl (fun ls hl => ?_)
              refine lv_goto (tgt := 55) hx hb dX9_count_83 (by decide) ?_
              exact ih_55 x_9 x_8 _ _ ls (by omega) (by omega) (hP.sub [0, 1, 2] rfl) (hD.sub [0, 1, 2] (by decide) rfl) hS (lv_sub hl [0, 1, 2, 3] rfl)
      have hk_10 : (0 : Int32).toInt = 0 := by decide
      have hk_11 : (0 : Int32).toInt = 0 := by decide
      exact loop55_1 (Int.toNat (400 - (0 : Int32).toInt) + 1) 0 0 _ _ ls (by omega) (by omega) hP hD hS (lv_sub hl [0, 1, 2, 3] rfl)
    · refine lv_tableIn (off := 85) (tgt := 88) hx hb dX9_count_3 (by omega) (by omega) (by rw [hsw]; rfl) (by decide) ?_
      refine lv_aload_n hx hb dX9_count_88 rfl (lv_at hl 1 rfl) ?_
      refine va_get (D := (dC, dI)) (ci := 9) (v := .int v_merges) (C := RX9) (T := TX9) (N := 51) hx hb hts hIX9 hown hK hP 0 rfl rfl 11 (by decide) (hts (.fieldLink RX9 161 "TraitHouseModel" "merges" "I") (by decide +kernel)) (fun _ h9 => h9) rfl dX9_count_89 ?_
      obtain ⟨hP9, hD9⟩ := va_pd (ws' := [((am 0), .inr (9, F9 am v_status v_now v_told v_merges v_taped v_size v_from v_to v_fault v_readFault v_traits v_length v_open v_leaks v_places v_models)), ((am 6), .inl (cA 2, 400, .inl f_isGone)), ((am 9), .inl (cA 2, 20, .inl f_isErased))]) hP hD [0, 1, 2] (by decide) rfl
      subst hQe
      have hans : (v_merges : Int32).toInt = v_merges.toInt := rfl
      exact W.iret (v := v_merges) hx hb hr (fun t ht hW => ⟨⟨v_merges, (), rfl, trivial, by rw [ht]; exact hP9, hD9⟩, hS.F ht⟩) hS.2.2 dX9_count_92
    · refine lv_tableIn (off := 90) (tgt := 93) hx hb dX9_count_3 (by omega) (by omega) (by rw [hsw]; rfl) (by decide) ?_
      refine lv_bipush (v := 20) hx hb dX9_count_93 (by decide) ?_
      refine lv_aload_n hx hb dX9_count_95 rfl (lv_at hl 1 rfl) ?_
      obtain ⟨hPc, hDc, hFc, hCc⟩ := va_pre (ws' := [((am 0), .inr (9, F9 am v_status v_now v_told v_merges v_taped v_size v_from v_to v_fault v_readFault v_traits v_length v_open v_leaks v_places v_models)), ((am 9), .inl (cA 2, 20, .inl f_isErased))]) hP hD hS hA [0, 2] (by decide) rfl
      refine va_calli (va_runV (As := []) (rest := [.int 20]) ⟨hx, hb, hml, hown, hts⟩ (k_X9_living l dC dI cA s.heap.size am v_status v_now v_told v_merges v_taped v_size v_from v_to v_fault v_readFault v_traits v_length v_open v_leaks v_places v_models f_isErased i_v_now i_v_told i_v_taped i_v_size i_v_from i_v_to i_v_traits i_v_length i_v_open i_v_places i_v_models) (cwV 0 hts gX9_count_X9_living rfl rfl rfl (by decide +kernel) ⟨Nat.le_of_ble_eq_true rfl, Nat.le_of_ble_eq_true rfl⟩) ⟨fun a U g mk q => by obtain ⟨q0, q1, qP, qK, qD, qN⟩ := q; exact ⟨q0, q1, qP, va_K.moved (u := U) (U := U.calling g mk a) (Vm.Alike.refl U.vm) qK, qD, qN.same rfl⟩, va_recv hK hPc (ci := 9) (q0 := 0) rfl rfl, fun U hU hW => ⟨rfl, by rw [hU], by rw [hU]; exact hPc, va_K.moved hW.alike hK, hDc.weaken (fun _ _ _ _ => trivial), hN.warm hW⟩⟩ rfl rfl hl.1 rfl (lv_room (Nat.le_of_ble_eq_true rfl)) dX9_count_96 ⟨Nat.le_of_ble_eq_true rfl, Nat.le_of_ble_eq_true rfl⟩) hS (fun q _ h => hFc q h) hFc (fun r_12 u_13 t H1 locs ht hvm hw_14 hB hz1 hk1 hS => ?_)
      try dsimp only at hw_14 hB
      have po_15 := hw_14
      clear hw_14
      obtain ⟨hP1, hD1⟩ := hB
      rw [ht] at hP1
      obtain ⟨hP, hD⟩ := va_join (wr := [((am 6), .inl (cA 2, 400, .inl f_isGone))]) (w1 := [((am 0), .inr (9, F9 am v_status v_now v_told v_merges v_taped v_size v_from v_to v_fault v_readFault v_traits v_length v_open v_leaks v_places v_models)), ((am 9), .inl (cA 2, 20, .inl f_isErased))]) hP hD [0, 2] [1] hCc rfl (by decide) (by decide) hk1 hFc hP1 hD1
      clear hz1
      generalize H1 = H at hP hS ⊢
      refine lv_isub hx hb dX9_count_99 ?_
      refine lv_topi (fun x_16 ex_16 => ?_)
      have dx_16 : x_16.toInt = 20 - r_12.toInt := by rw [ex_16]; exact jI_sub (by decide) rfl (by omega) (by omega)
      obtain ⟨hP9, hD9⟩ := va_pd (ws' := [((am 0), .inr (9, F9 am v_status v_now v_told v_merges v_taped v_size v_from v_to v_fault v_readFault v_traits v_length v_open v_leaks v_places v_models)), ((am 6), .inl (cA 2, 400, .inl f_isGone)), ((am 9), .inl (cA 2, 20, .inl f_isErased))]) hP hD [1, 0, 2] (by decide) rfl
      subst hQe
      have hans : (x_16 : Int32).toInt = x_16.toInt := rfl
      exact W.iret (v := x_16) hx hb hr (fun t ht hW => ⟨⟨x_16, (), rfl, trivial, by rw [ht]; exact hP9, hD9⟩, hS.F ht⟩) hS.2.2 dX9_count_100
    · refine lv_tableIn (off := 98) (tgt := 101) hx hb dX9_count_3 (by omega) (by omega) (by rw [hsw]; rfl) (by decide) ?_
      refine lv_aload_n hx hb dX9_count_101 rfl (lv_at hl 1 rfl) ?_
      refine va_get (D := (dC, dI)) (ci := 9) (v := .int v_traits) (C := RX9) (T := TX9) (N := 51) hx hb hts hIX9 hown hK hP 0 rfl rfl 21 (by decide) (hts (.fieldLink RX9 197 "TraitHouseModel" "traits" "I") (by decide +kernel)) (fun _ h9 => h9) rfl dX9_count_102 ?_
      obtain ⟨hP9, hD9⟩ := va_pd (ws' := [((am 0), .inr (9, F9 am v_status v_now v_told v_merges v_taped v_size v_from v_to v_fault v_readFault v_traits v_length v_open v_leaks v_places v_models)), ((am 6), .inl (cA 2, 400, .inl f_isGone)), ((am 9), .inl (cA 2, 20, .inl f_isErased))]) hP hD [0, 1, 2] (by decide) rfl
      subst hQe
      have hans : (v_traits : Int32).toInt = v_traits.toInt := rfl
      exact W.iret (v := v_traits) hx hb hr (fun t ht hW => ⟨⟨v_traits, (), rfl, trivial, by rw [ht]; exact hP9, hD9⟩, hS.F ht⟩) hS.2.2 dX9_count_105
    · refine lv_tableIn (off := 103) (tgt := 106) hx hb dX9_count_3 (by omega) (by omega) (by rw [hsw]; rfl) (by decide) ?_
      refine lv_aload_n hx hb dX9_count_106 rfl (lv_at hl 1 rfl) ?_
      refine va_get (D := (dC, dI)) (ci := 9) (v := .int v_models) (C := RX9) (T := TX9) (N := 51) hx hb hts hIX9 hown hK hP 0 rfl rfl 47 (by decide) (hts (.fieldLink RX9 323 "TraitHouseModel" "models" "I") (by decide +kernel)) (fun _ h9 => h9) rfl dX9_count_107 ?_
      obtain ⟨hP9, hD9⟩ := va_pd (ws' := [((am 0), .inr (9, F9 am v_status v_now v_told v_merges v_taped v_size v_from v_to v_fault v_readFault v_traits v_length v_open v_leaks v_places v_models)), ((am 6), .inl (cA 2, 400, .inl f_isGone)), ((am 9), .inl (cA 2, 20, .inl f_isErased))]) hP hD [0, 1, 2] (by decide) rfl
      subst hQe
      have hans : (v_models : Int32).toInt = v_models.toInt := rfl
      exact W.iret (v := v_models) hx hb hr (fun t ht hW => ⟨⟨v_models, (), rfl, trivial, by rw [ht]; exact hP9, hD9⟩, hS.F ht⟩) hS.2.2 dX9_count_110
    · refine lv_tableIn (off := 108) (tgt := 111) hx hb dX9_count_3 (by omega) (by omega) (by rw [hsw]; rfl) (by decide) ?_
      refine lv_aload_n hx hb dX9_count_111 rfl (lv_at hl 1 rfl) ?_
      refine va_get (D := (dC, dI)) (ci := 9) (v := .int v_places) (C := RX9) (T := TX9) (N := 51) hx hb hts hIX9 hown hK hP 0 rfl rfl 41 (by decide) (hts (.fieldLink RX9 304 "TraitHouseModel" "places" "I") (by decide +kernel)) (fun _ h9 => h9) rfl dX9_count_112 ?_
      obtain ⟨hP9, hD9⟩ := va_pd (ws' := [((am 0), .inr (9, F9 am v_status v_now v_told v_merges v_taped v_size v_from v_to v_fault v_readFault v_traits v_length v_open v_leaks v_places v_models)), ((am 6), .inl (cA 2, 400, .inl f_isGone)), ((am 9), .inl (cA 2, 20, .inl f_isErased))]) hP hD [0, 1, 2] (by decide) rfl
      subst hQe
      have hans : (v_places : Int32).toInt = v_places.toInt := rfl
      exact W.iret (v := v_places) hx hb hr (fun t ht hW => ⟨⟨v_places, (), rfl, trivial, by rw [ht]; exact hP9, hD9⟩, hS.F ht⟩) hS.2.2 dX9_count_115
    · refine lv_tableIn (off := 113) (tgt := 116) hx hb dX9_count_3 (by omega) (by omega) (by rw [hsw]; rfl) (by decide) ?_
      refine lv_aload_n hx hb dX9_count_116 rfl (lv_at hl 1 rfl) ?_
      refine va_get (D := (dC, dI)) (ci := 9) (v := .int v_taped) (C := RX9) (T := TX9) (N := 51) hx hb hts hIX9 hown hK hP 0 rfl rfl 14 (by decide) (hts (.fieldLink RX9 164 "TraitHouseModel" "taped" "I") (by decide +kernel)) (fun _ h9 => h9) rfl dX9_count_117 ?_
      obtain ⟨hP9, hD9⟩ := va_pd (ws' := [((am 0), .inr (9, F9 am v_status v_now v_told v_merges v_taped v_size v_from v_to v_fault v_readFault v_traits v_length v_open v_leaks v_places v_models)), ((am 6), .inl (cA 2, 400, .inl f_isGone)), ((am 9), .inl (cA 2, 20, .inl f_isErased))]) hP hD [0, 1, 2] (by decide) rfl
      subst hQe
      have hans : (v_taped : Int32).toInt = v_taped.toInt := rfl
      exact W.iret (v := v_taped) hx hb hr (fun t ht hW => ⟨⟨v_taped, (), rfl, trivial, by rw [ht]; exact hP9, hD9⟩, hS.F ht⟩) hS.2.2 dX9_count_120

set_option maxHeartbeats 8000000 in
set_option maxRecDepth 100000 in
theorem k_X9_law (l : Launch) (dC : Nat → ClassId) (dI : Nat → Nat → Nat) (cA : Nat → ClassId) (sz : Nat) (am : Nat → Nat) (v_status : Int32) (v_now : Int32) (v_told : Int32) (v_merges : Int32) (v_taped : Int32) (v_size : Int32) (v_from : Int32) (v_to : Int32) (v_fault : Int32) (v_readFault : Int32) (v_traits : Int32) (v_length : Int32) (v_open : Int32) (v_leaks : Int32) (v_places : Int32) (v_models : Int32) (f_hasLaw : Nat → Int32) (f_lawFrom : Nat → Int64) (f_lawTo : Nat → Int64) (tt : Int32) (a : Int64) (b : Int64) (i_v_now : 0 ≤ v_now.toInt ∧ v_now.toInt ≤ 100000) (i_v_told : 0 ≤ v_told.toInt ∧ v_told.toInt ≤ 400) (i_v_taped : 0 ≤ v_taped.toInt ∧ v_taped.toInt ≤ 200) (i_v_size : 0 ≤ v_size.toInt ∧ v_size.toInt ≤ 200) (i_v_from : 0 ≤ v_from.toInt ∧ v_from.toInt ≤ 200) (i_v_to : 0 ≤ v_to.toInt ∧ v_to.toInt ≤ 200) (i_v_traits : 0 ≤ v_traits.toInt ∧ v_traits.toInt ≤ 20) (i_v_length : 0 ≤ v_length.toInt ∧ v_length.toInt ≤ 200) (i_v_open : 0 ≤ v_open.toInt ∧ v_open.toInt ≤ 8) (i_v_places : 0 ≤ v_places.toInt ∧ v_places.toInt ≤ 2000) (i_v_models : 0 ≤ v_models.toInt ∧ v_models.toInt ≤ 10)  : Met l yX9_law wsX9_law ({ frames := 2, cells := 0, slots := 0, locals := 46 }) (va_Pc [.ref (am 0), .int tt, .long a, .long b] (fun U => U.heap.size = sz ∧ va_P (dC, dI) vwCl [((am 0), .inr (9, F9 am v_status v_now v_told v_merges v_taped v_size v_from v_to v_fault v_readFault v_traits v_length v_open v_leaks v_places v_models)), ((am 22), .inl (cA 2, 20, .inl f_hasLaw)), ((am 20), .inl (cA 1, 20, .inr (.inl f_lawFrom))), ((am 21), .inl (cA 1, 20, .inr (.inl f_lawTo)))] U.heap ∧ va_K (dC, dI) vwCl (tyL cA) U ∧ va_D (fun _ => True) [((am 0), .inr (9, F9 am v_status v_now v_told v_merges v_taped v_size v_from v_to v_fault v_readFault v_traits v_length v_open v_leaks v_places v_models)), ((am 22), .inl (cA 2, 20, .inl f_hasLaw)), ((am 20), .inl (cA 1, 20, .inr (.inl f_lawFrom))), ((am 21), .inl (cA 1, 20, .inr (.inl f_lawTo)))] ∧ nw_ok U)) (va_Qi (fun (r : Int32) (u : Int32 × (Nat → Int32) × (Nat → Int64) × (Nat → Int64)) => ((b.toInt < a.toInt → r.toInt = (-1)) ∧ (a.toInt ≤ b.toInt ∧ ¬ (0 ≤ tt.toInt ∧ tt.toInt < v_traits.toInt) → r.toInt = (-2)) ∧ (a.toInt ≤ b.toInt ∧ 0 ≤ tt.toInt ∧ tt.toInt < v_traits.toInt → r.toInt = 0))) (fun (u : Int32 × (Nat → Int32) × (Nat → Int64) × (Nat → Int64)) (t : State) => va_P (dC, dI) vwCl [((am 0), .inr (9, F9 am u.1 v_now v_told v_merges v_taped v_size v_from v_to v_fault v_readFault v_traits v_length v_open v_leaks v_places v_models)), ((am 22), .inl (cA 2, 20, .inl u.2.1)), ((am 20), .inl (cA 1, 20, .inr (.inl u.2.2.1))), ((am 21), .inl (cA 1, 20, .inr (.inl u.2.2.2)))] t.heap ∧ va_D (va_A [((am 0), .inr (9, F9 am v_status v_now v_told v_merges v_taped v_size v_from v_to v_fault v_readFault v_traits v_length v_open v_leaks v_places v_models)), ((am 22), .inl (cA 2, 20, .inl f_hasLaw)), ((am 20), .inl (cA 1, 20, .inr (.inl f_lawFrom))), ((am 21), .inl (cA 1, 20, .inr (.inl f_lawTo)))] sz) [((am 0), .inr (9, F9 am u.1 v_now v_told v_merges v_taped v_size v_from v_to v_fault v_readFault v_traits v_length v_open v_leaks v_places v_models)), ((am 22), .inl (cA 2, 20, .inl u.2.1)), ((am 20), .inl (cA 1, 20, .inr (.inl u.2.2.1))), ((am 21), .inl (cA 1, 20, .inr (.inl u.2.2.2)))]) (va_A [((am 0), .inr (9, F9 am v_status v_now v_told v_merges v_taped v_size v_from v_to v_fault v_readFault v_traits v_length v_open v_leaks v_places v_models)), ((am 22), .inl (cA 2, 20, .inl f_hasLaw)), ((am 20), .inl (cA 1, 20, .inr (.inl f_lawFrom))), ((am 21), .inl (cA 1, 20, .inr (.inl f_lawTo)))] sz)) 0 0 (va_A [((am 0), .inr (9, F9 am v_status v_now v_told v_merges v_taped v_size v_from v_to v_fault v_readFault v_traits v_length v_open v_leaks v_places v_models)), ((am 22), .inl (cA 2, 20, .inl f_hasLaw)), ((am 20), .inl (cA 1, 20, .inr (.inl f_lawFrom))), ((am 21), .inl (cA 1, 20, .inr (.inl f_lawTo)))] sz) := by
  refine Met.ofW (cc := cX9_law) (maxL := 6) (ret := (some .int)) (by decide) rfl ?_
  intro p e s m args below meth c s₁ B hml hv
  obtain ⟨rfl, hsz, hP, hK, hD0, hN⟩ := hv
  have hx := B.exec
  have hb := B.bytes
  have hr := B.returns
  have hts := atoms_spec (ws := wsX9_law) B.pre
  have hown : s.vm.findClass RX9 = some m.cls := findClass_of_methodNamed B.named
  have hlocks := B.notSynchronized
  subst hsz
  have hD := hD0.self (sz := s.heap.size)
  generalize hAe : va_A [((am 0), .inr (9, F9 am v_status v_now v_told v_merges v_taped v_size v_from v_to v_fault v_readFault v_traits v_length v_open v_leaks v_places v_models)), ((am 22), .inl (cA 2, 20, .inl f_hasLaw)), ((am 20), .inl (cA 1, 20, .inr (.inl f_lawFrom))), ((am 21), .inl (cA 1, 20, .inr (.inl f_lawTo)))] s.heap.size = A at hD ⊢
  have hA : ∀ q : Nat, s.heap.size ≤ q → A q := fun q h => by rw [← hAe]; exact Or.inr h
  have hS : va_S A s.heap s.heap [] := va_S.rf
  have hIX9 : ∀ w ∈ u_ws RX9 TX9 51, w ∈ wsX9_law := by decide +kernel
  have hl := lv_entry ([.ref (am 0), .int tt, .long a, .long b]) (n := 6) (Nat.le_of_ble_eq_true rfl)
  rw [lg_entry_eq]
  generalize (lg_sl ([.ref (am 0), .int tt, .long a, .long b]) ++ List.replicate (6 - (lg_sl ([.ref (am 0), .int tt, .long a, .long b])).length) Slot.unset).toArray = ls at hl ⊢
  have hl : lv_has ls 6 [(0, .ref (am 0)), (1, .int tt), (2, .long a), (4, .long b)] := hl
  generalize hQe : MQ below _ _ _ _ _ _ = QQ
  refine lv_lload_n hx hb dX9_law_0 rfl (lv_at hl 2 rfl) ?_
  refine lv_lload hx hb dX9_law_1 (lv_at hl 3 rfl) ?_
  refine W.lcmp hx hb dX9_law_3 ?_
  refine lv_topi (fun k_1 ek_1 => ?_)
  have dk_1 : (k_1.toInt < 0 ↔ a.toInt < b.toInt) ∧ (k_1.toInt = 0 ↔ a.toInt = b.toInt) ∧ (0 < k_1.toInt ↔ b.toInt < a.toInt) := jI_cmp ek_1 rfl rfl
  refine lv_if_le (tgt := 13) hx hb dX9_law_4 (by decide) (fun c_2 => ?_) (fun c_2 => ?_)
  · have dc_2 : k_1.toInt ≤ 0 := jI_le c_2 rfl (by decide)
    refine lv_aload_n hx hb dX9_law_13 rfl (lv_at hl 0 rfl) ?_
    refine lv_iload_n hx hb dX9_law_14 rfl (lv_at hl 1 rfl) ?_
    obtain ⟨hPc, hDc, hFc, hCc⟩ := va_pre (ws' := [((am 0), .inr (9, F9 am v_status v_now v_told v_merges v_taped v_size v_from v_to v_fault v_readFault v_traits v_length v_open v_leaks v_places v_models))]) hP hD hS hA [0] (by decide) rfl
    refine va_calli (va_runV (As := [.int tt]) (rest := []) ⟨hx, hb, hml, hown, hts⟩ (k_X9_isTrait l dC dI cA s.heap.size am v_status v_now v_told v_merges v_taped v_size v_from v_to v_fault v_readFault v_traits v_length v_open v_leaks v_places v_models tt i_v_now i_v_told i_v_taped i_v_size i_v_from i_v_to i_v_traits i_v_length i_v_open i_v_places i_v_models) (cwV 1 hts gX9_law_X9_isTrait rfl rfl rfl (by decide +kernel) ⟨Nat.le_of_ble_eq_true rfl, Nat.le_of_ble_eq_true rfl⟩) ⟨fun a U g mk q => by obtain ⟨q0, q1, qP, qK, qD, qN⟩ := q; exact ⟨q0, q1, qP, va_K.moved (u := U) (U := U.calling g mk a) (Vm.Alike.refl U.vm) qK, qD, qN.same rfl⟩, va_recv hK hPc (ci := 9) (q0 := 0) rfl rfl, fun U hU hW => ⟨rfl, by rw [hU], by rw [hU]; exact hPc, va_K.moved hW.alike hK, hDc.weaken (fun _ _ _ _ => trivial), hN.warm hW⟩⟩ rfl rfl hl.1 rfl (lv_room (Nat.le_of_ble_eq_true rfl)) dX9_law_15 ⟨Nat.le_of_ble_eq_true rfl, Nat.le_of_ble_eq_true rfl⟩) hS (fun q _ h => hFc q h) hFc (fun r_3 u_4 t H1 locs ht hvm hw_5 hB hz1 hk1 hS => ?_)
    try dsimp only at hw_5 hB
    have po_6 := hw_5
    clear hw_5
    obtain ⟨hP1, hD1⟩ := hB
    rw [ht] at hP1
    obtain ⟨hP, hD⟩ := va_join (wr := [((am 22), .inl (cA 2, 20, .inl f_hasLaw)), ((am 20), .inl (cA 1, 20, .inr (.inl f_lawFrom))), ((am 21), .inl (cA 1, 20, .inr (.inl f_lawTo)))]) (w1 := [((am 0), .inr (9, F9 am v_status v_now v_told v_merges v_taped v_size v_from v_to v_fault v_readFault v_traits v_length v_open v_leaks v_places v_models))]) hP hD [0] [1, 2, 3] hCc rfl (by decide) (by decide) hk1 hFc hP1 hD1
    clear hz1
    generalize H1 = H at hP hS ⊢
    refine lv_if_ne (tgt := 28) hx hb dX9_law_18 (by decide) (fun c_7 => ?_) (fun c_7 => ?_)
    · have dc_7 : ¬ r_3.toInt = 0 := jI_ne c_7 rfl (by decide)
      refine lv_aload_n hx hb dX9_law_28 rfl (lv_at hl 0 rfl) ?_
      refine va_get (D := (dC, dI)) (ci := 9) (v := .ref (am 22)) (C := RX9) (T := TX9) (N := 51) hx hb hts hIX9 hown hK hP 3 rfl rfl 35 (by decide) (hts (.fieldLink RX9 80 "TraitHouseModel" "hasLaw" "[Z") (by decide +kernel)) (fun _ h9 => h9) rfl dX9_law_29 ?_
      refine lv_iload_n hx hb dX9_law_32 rfl (lv_at hl 1 rfl) ?_
      refine lv_iconst (v := 1) hx hb dX9_law_33 (by decide) ?_
      have h_8 : vp_in tt 20 := (vp_in_iff.mpr ⟨by omega, by omega⟩)
      refine va_zast hx hb hK hP hD hS 0 2 rfl rfl h_8 dX9_law_34 (fun H locs hP hD hS => ?_)
      replace hP : va_P (dC, dI) vwCl [((am 22), .inl (cA 2, 20, .inl (upd f_hasLaw tt.toNatClampNeg (vp_nar .boolean 1)))), ((am 20), .inl (cA 1, 20, .inr (.inl f_lawFrom))), ((am 21), .inl (cA 1, 20, .inr (.inl f_lawTo))), ((am 0), .inr (9, F9 am v_status v_now v_told v_merges v_taped v_size v_from v_to v_fault v_readFault v_traits v_length v_open v_leaks v_places v_models))] H := hP
      replace hD : va_D A [((am 22), .inl (cA 2, 20, .inl (upd f_hasLaw tt.toNatClampNeg (vp_nar .boolean 1)))), ((am 20), .inl (cA 1, 20, .inr (.inl f_lawFrom))), ((am 21), .inl (cA 1, 20, .inr (.inl f_lawTo))), ((am 0), .inr (9, F9 am v_status v_now v_told v_merges v_taped v_size v_from v_to v_fault v_readFault v_traits v_length v_open v_leaks v_places v_models))] := hD
      obtain ⟨g_9, eg_9⟩ : ∃ g : Nat → Int32, g = upd f_hasLaw tt.toNatClampNeg (vp_nar .boolean 1) := ⟨_, rfl⟩
      rw [← eg_9] at hP hD
      refine lv_aload_n hx hb dX9_law_35 rfl (lv_at hl 0 rfl) ?_
      refine va_get (D := (dC, dI)) (ci := 9) (v := .ref (am 20)) (C := RX9) (T := TX9) (N := 51) hx hb hts hIX9 hown hK hP 3 rfl rfl 33 (by decide) (hts (.fieldLink RX9 74 "TraitHouseModel" "lawFrom" "[J") (by decide +kernel)) (fun _ h9 => h9) rfl dX9_law_36 ?_
      refine lv_iload_n hx hb dX9_law_39 rfl (lv_at hl 1 rfl) ?_
      refine lv_lload_n hx hb dX9_law_40 rfl (lv_at hl 2 rfl) ?_
      have h_10 : vp_in tt 20 := (vp_in_iff.mpr ⟨by omega, by omega⟩)
      refine va_last hx hb hK hP hD hS 1 1 rfl rfl h_10 dX9_law_41 (fun H locs hP hD hS => ?_)
      replace hP : va_P (dC, dI) vwCl [((am 22), .inl (cA 2, 20, .inl g_9)), ((am 20), .inl (cA 1, 20, .inr (.inl (vp_updL f_lawFrom tt.toNatClampNeg a)))), ((am 21), .inl (cA 1, 20, .inr (.inl f_lawTo))), ((am 0), .inr (9, F9 am v_status v_now v_told v_merges v_taped v_size v_from v_to v_fault v_readFault v_traits v_length v_open v_leaks v_places v_models))] H := hP
      replace hD : va_D A [((am 22), .inl (cA 2, 20, .inl g_9)), ((am 20), .inl (cA 1, 20, .inr (.inl (vp_updL f_lawFrom tt.toNatClampNeg a)))), ((am 21), .inl (cA 1, 20, .inr (.inl f_lawTo))), ((am 0), .inr (9, F9 am v_status v_now v_told v_merges v_taped v_size v_from v_to v_fault v_readFault v_traits v_length v_open v_leaks v_places v_models))] := hD
      obtain ⟨g_11, eg_11⟩ : ∃ g : Nat → Int64, g = vp_updL f_lawFrom tt.toNatClampNeg a := ⟨_, rfl⟩
      rw [← eg_11] at hP hD
      refine lv_aload_n hx hb dX9_law_42 rfl (lv_at hl 0 rfl) ?_
      refine va_get (D := (dC, dI)) (ci := 9) (v := .ref (am 21)) (C := RX9) (T := TX9) (N := 51) hx hb hts hIX9 hown hK hP 3 rfl rfl 34 (by decide) (hts (.fieldLink RX9 77 "TraitHouseModel" "lawTo" "[J") (by decide +kernel)) (fun _ h9 => h9) rfl dX9_law_43 ?_
      refine lv_iload_n hx hb dX9_law_46 rfl (lv_at hl 1 rfl) ?_
      refine lv_lload hx hb dX9_law_47 (lv_at hl 3 rfl) ?_
      have h_12 : vp_in tt 20 := (vp_in_iff.mpr ⟨by omega, by omega⟩)
      refine va_last hx hb hK hP hD hS 2 1 rfl rfl h_12 dX9_law_49 (fun H locs hP hD hS => ?_)
      replace hP : va_P (dC, dI) vwCl [((am 22), .inl (cA 2, 20, .inl g_9)), ((am 20), .inl (cA 1, 20, .inr (.inl g_11))), ((am 21), .inl (cA 1, 20, .inr (.inl (vp_updL f_lawTo tt.toNatClampNeg b)))), ((am 0), .inr (9, F9 am v_status v_now v_told v_merges v_taped v_size v_from v_to v_fault v_readFault v_traits v_length v_open v_leaks v_places v_models))] H := hP
      replace hD : va_D A [((am 22), .inl (cA 2, 20, .inl g_9)), ((am 20), .inl (cA 1, 20, .inr (.inl g_11))), ((am 21), .inl (cA 1, 20, .inr (.inl (vp_updL f_lawTo tt.toNatClampNeg b)))), ((am 0), .inr (9, F9 am v_status v_now v_told v_merges v_taped v_size v_from v_to v_fault v_readFault v_traits v_length v_open v_leaks v_places v_models))] := hD
      obtain ⟨g_13, eg_13⟩ : ∃ g : Nat → Int64, g = vp_updL f_lawTo tt.toNatClampNeg b := ⟨_, rfl⟩
      rw [← eg_13] at hP hD
      refine lv_aload_n hx hb dX9_law_50 rfl (lv_at hl 0 rfl) ?_
      refine lv_iconst (v := 0) hx hb dX9_law_51 (by decide) ?_
      have hk_14 : (0 : Int32).toInt = 0 := by decide
      obtain ⟨hPc, hDc, hFc, hCc⟩ := va_pre (ws' := [((am 0), .inr (9, F9 am v_status v_now v_told v_merges v_taped v_size v_from v_to v_fault v_readFault v_traits v_length v_open v_leaks v_places v_models))]) hP hD hS hA [3] (by decide) rfl
      refine va_calli (va_runV (As := [.int 0]) (rest := []) ⟨hx, hb, hml, hown, hts⟩ (k_X9_ends l dC dI cA H.size am v_status v_now v_told v_merges v_taped v_size v_from v_to v_fault v_readFault v_traits v_length v_open v_leaks v_places v_models 0 i_v_now i_v_told i_v_taped i_v_size i_v_from i_v_to i_v_traits i_v_length i_v_open i_v_places i_v_models) (cwV 1 hts gX9_law_X9_ends rfl rfl rfl (by decide +kernel) ⟨Nat.le_of_ble_eq_true rfl, Nat.le_of_ble_eq_true rfl⟩) ⟨fun a U g mk q => by obtain ⟨q0, q1, qP, qK, qD, qN⟩ := q; exact ⟨q0, q1, qP, va_K.moved (u := U) (U := U.calling g mk a) (Vm.Alike.refl U.vm) qK, qD, qN.same rfl⟩, va_recv hK hPc (ci := 9) (q0 := 0) rfl rfl, fun U hU hW => ⟨rfl, by rw [hU], by rw [hU]; exact hPc, va_K.moved hW.alike hK, hDc.weaken (fun _ _ _ _ => trivial), hN.warm hW⟩⟩ rfl rfl hl.1 rfl (lv_room (Nat.le_of_ble_eq_true rfl)) dX9_law_52 ⟨Nat.le_of_ble_eq_true rfl, Nat.le_of_ble_eq_true rfl⟩) hS (fun q _ h => hFc q h) hFc (fun r_15 u_16 t H1 locs ht hvm hw_17 hB hz1 hk1 hS => ?_)
      obtain ⟨w_18, rfl⟩ : ∃ z, z = u_16 := ⟨_, rfl⟩
      try dsimp only at hw_17 hB
      have hr9 := hw_17
      clear hw_17
      obtain ⟨hP1, hD1⟩ := hB
      rw [ht] at hP1
      obtain ⟨hP, hD⟩ := va_join (wr := [((am 22), .inl (cA 2, 20, .inl g_9)), ((am 20), .inl (cA 1, 20, .inr (.inl g_11))), ((am 21), .inl (cA 1, 20, .inr (.inl g_13)))]) (w1 := [((am 0), .inr (9, F9 am w_18 v_now v_told v_merges v_taped v_size v_from v_to v_fault v_readFault v_traits v_length v_open v_leaks v_places v_models))]) hP hD [3] [0, 1, 2] hCc rfl (by decide) (by decide) hk1 hFc hP1 hD1
      clear hz1
      generalize H1 = H at hP hS ⊢
      obtain rfl : 0 = r_15 := hr9.symm
      obtain ⟨hP9, hD9⟩ := va_pd (ws' := [((am 0), .inr (9, F9 am w_18 v_now v_told v_merges v_taped v_size v_from v_to v_fault v_readFault v_traits v_length v_open v_leaks v_places v_models)), ((am 22), .inl (cA 2, 20, .inl g_9)), ((am 20), .inl (cA 1, 20, .inr (.inl g_11))), ((am 21), .inl (cA 1, 20, .inr (.inl g_13)))]) hP hD [3, 0, 1, 2] (by decide) rfl
      subst hQe
      have hans : (0 : Int32).toInt = 0 := (by decide)
      have hpost : ((b.toInt < a.toInt → (0 : Int32).toInt = (-1)) ∧ (a.toInt ≤ b.toInt ∧ ¬ (0 ≤ tt.toInt ∧ tt.toInt < v_traits.toInt) → (0 : Int32).toInt = (-2)) ∧ (a.toInt ≤ b.toInt ∧ 0 ≤ tt.toInt ∧ tt.toInt < v_traits.toInt → (0 : Int32).toInt = 0)) := by omega
      exact W.iret (v := 0) hx hb hr (fun t ht hW => ⟨⟨0, (w_18, g_9, g_11, g_13), rfl, hpost, by rw [ht]; exact hP9, hD9⟩, hS.F ht⟩) hS.2.2 dX9_law_55
    · have dc_7 : r_3.toInt = 0 := jI_eq c_7 rfl (by decide)
      refine lv_aload_n hx hb dX9_law_21 rfl (lv_at hl 0 rfl) ?_
      refine lv_bipush (v := (-2)) hx hb dX9_law_22 (by decide) ?_
      have hk_19 : ((-2) : Int32).toInt = (-2) := by decide
      obtain ⟨hPc, hDc, hFc, hCc⟩ := va_pre (ws' := [((am 0), .inr (9, F9 am v_status v_now v_told v_merges v_taped v_size v_from v_to v_fault v_readFault v_traits v_length v_open v_leaks v_places v_models))]) hP hD hS hA [3] (by decide) rfl
      refine va_calli (va_runV (As := [.int (-2)]) (rest := []) ⟨hx, hb, hml, hown, hts⟩ (k_X9_ends l dC dI cA H.size am v_status v_now v_told v_merges v_taped v_size v_from v_to v_fault v_readFault v_traits v_length v_open v_leaks v_places v_models (-2) i_v_now i_v_told i_v_taped i_v_size i_v_from i_v_to i_v_traits i_v_length i_v_open i_v_places i_v_models) (cwV 1 hts gX9_law_X9_ends rfl rfl rfl (by decide +kernel) ⟨Nat.le_of_ble_eq_true rfl, Nat.le_of_ble_eq_true rfl⟩) ⟨fun a U g mk q => by obtain ⟨q0, q1, qP, qK, qD, qN⟩ := q; exact ⟨q0, q1, qP, va_K.moved (u := U) (U := U.calling g mk a) (Vm.Alike.refl U.vm) qK, qD, qN.same rfl⟩, va_recv hK hPc (ci := 9) (q0 := 0) rfl rfl, fun U hU hW => ⟨rfl, by rw [hU], by rw [hU]; exact hPc, va_K.moved hW.alike hK, hDc.weaken (fun _ _ _ _ => trivial), hN.warm hW⟩⟩ rfl rfl hl.1 rfl (lv_room (Nat.le_of_ble_eq_true rfl)) dX9_law_24 ⟨Nat.le_of_ble_eq_true rfl, Nat.le_of_ble_eq_true rfl⟩) hS (fun q _ h => hFc q h) hFc (fun r_20 u_21 t H1 locs ht hvm hw_22 hB hz1 hk1 hS => ?_)
      obtain ⟨w_23, rfl⟩ : ∃ z, z = u_21 := ⟨_, rfl⟩
      try dsimp only at hw_22 hB
      have hr9 := hw_22
      clear hw_22
      obtain ⟨hP1, hD1⟩ := hB
      rw [ht] at hP1
      obtain ⟨hP, hD⟩ := va_join (wr := [((am 22), .inl (cA 2, 20, .inl f_hasLaw)), ((am 20), .inl (cA 1, 20, .inr (.inl f_lawFrom))), ((am 21), .inl (cA 1, 20, .inr (.inl f_lawTo)))]) (w1 := [((am 0), .inr (9, F9 am w_23 v_now v_told v_merges v_taped v_size v_from v_to v_fault v_readFault v_traits v_length v_open v_leaks v_places v_models))]) hP hD [3] [0, 1, 2] hCc rfl (by decide) (by decide) hk1 hFc hP1 hD1
      clear hz1
      generalize H1 = H at hP hS ⊢
      obtain rfl : (-2) = r_20 := hr9.symm
      obtain ⟨hP9, hD9⟩ := va_pd (ws' := [((am 0), .inr (9, F9 am w_23 v_now v_told v_merges v_taped v_size v_from v_to v_fault v_readFault v_traits v_length v_open v_leaks v_places v_models)), ((am 22), .inl (cA 2, 20, .inl f_hasLaw)), ((am 20), .inl (cA 1, 20, .inr (.inl f_lawFrom))), ((am 21), .inl (cA 1, 20, .inr (.inl f_lawTo)))]) hP hD [3, 0, 1, 2] (by decide) rfl
      subst hQe
      have hans : ((-2) : Int32).toInt = (-2) := (by decide)
      have hpost : ((b.toInt < a.toInt → ((-2) : Int32).toInt = (-1)) ∧ (a.toInt ≤ b.toInt ∧ ¬ (0 ≤ tt.toInt ∧ tt.toInt < v_traits.toInt) → ((-2) : Int32).toInt = (-2)) ∧ (a.toInt ≤ b.toInt ∧ 0 ≤ tt.toInt ∧ tt.toInt < v_traits.toInt → ((-2) : Int32).toInt = 0)) := by omega
      exact W.iret (v := (-2)) hx hb hr (fun t ht hW => ⟨⟨(-2), (w_23, f_hasLaw, f_lawFrom, f_lawTo), rfl, hpost, by rw [ht]; exact hP9, hD9⟩, hS.F ht⟩) hS.2.2 dX9_law_27
  · have dc_2 : 0 < k_1.toInt := jI_nle c_2 rfl (by decide)
    refine lv_aload_n hx hb dX9_law_7 rfl (lv_at hl 0 rfl) ?_
    refine lv_iconst (v := (-1)) hx hb dX9_law_8 (by decide) ?_
    have hk_24 : ((-1) : Int32).toInt = (-1) := by decide
    obtain ⟨hPc, hDc, hFc, hCc⟩ := va_pre (ws' := [((am 0), .inr (9, F9 am v_status v_now v_told v_merges v_taped v_size v_from v_to v_fault v_readFault v_traits v_length v_open v_leaks v_places v_models))]) hP hD hS hA [0] (by decide) rfl
    refine va_calli (va_runV (As := [.int (-1)]) (rest := []) ⟨hx, hb, hml, hown, hts⟩ (k_X9_ends l dC dI cA s.heap.size am v_status v_now v_told v_merges v_taped v_size v_from v_to v_fault v_readFault v_traits v_length v_open v_leaks v_places v_models (-1) i_v_now i_v_told i_v_taped i_v_size i_v_from i_v_to i_v_traits i_v_length i_v_open i_v_places i_v_models) (cwV 1 hts gX9_law_X9_ends rfl rfl rfl (by decide +kernel) ⟨Nat.le_of_ble_eq_true rfl, Nat.le_of_ble_eq_true rfl⟩) ⟨fun a U g mk q => by obtain ⟨q0, q1, qP, qK, qD, qN⟩ := q; exact ⟨q0, q1, qP, va_K.moved (u := U) (U := U.calling g mk a) (Vm.Alike.refl U.vm) qK, qD, qN.same rfl⟩, va_recv hK hPc (ci := 9) (q0 := 0) rfl rfl, fun U hU hW => ⟨rfl, by rw [hU], by rw [hU]; exact hPc, va_K.moved hW.alike hK, hDc.weaken (fun _ _ _ _ => trivial), hN.warm hW⟩⟩ rfl rfl hl.1 rfl (lv_room (Nat.le_of_ble_eq_true rfl)) dX9_law_9 ⟨Nat.le_of_ble_eq_true rfl, Nat.le_of_ble_eq_true rfl⟩) hS (fun q _ h => hFc q h) hFc (fun r_25 u_26 t H1 locs ht hvm hw_27 hB hz1 hk1 hS => ?_)
    obtain ⟨w_28, rfl⟩ : ∃ z, z = u_26 := ⟨_, rfl⟩
    try dsimp only at hw_27 hB
    have hr9 := hw_27
    clear hw_27
    obtain ⟨hP1, hD1⟩ := hB
    rw [ht] at hP1
    obtain ⟨hP, hD⟩ := va_join (wr := [((am 22), .inl (cA 2, 20, .inl f_hasLaw)), ((am 20), .inl (cA 1, 20, .inr (.inl f_lawFrom))), ((am 21), .inl (cA 1, 20, .inr (.inl f_lawTo)))]) (w1 := [((am 0), .inr (9, F9 am w_28 v_now v_told v_merges v_taped v_size v_from v_to v_fault v_readFault v_traits v_length v_open v_leaks v_places v_models))]) hP hD [0] [1, 2, 3] hCc rfl (by decide) (by decide) hk1 hFc hP1 hD1
    clear hz1
    generalize H1 = H at hP hS ⊢
    obtain rfl : (-1) = r_25 := hr9.symm
    obtain ⟨hP9, hD9⟩ := va_pd (ws' := [((am 0), .inr (9, F9 am w_28 v_now v_told v_merges v_taped v_size v_from v_to v_fault v_readFault v_traits v_length v_open v_leaks v_places v_models)), ((am 22), .inl (cA 2, 20, .inl f_hasLaw)), ((am 20), .inl (cA 1, 20, .inr (.inl f_lawFrom))), ((am 21), .inl (cA 1, 20, .inr (.inl f_lawTo)))]) hP hD [3, 0, 1, 2] (by decide) rfl
    subst hQe
    have hans : ((-1) : Int32).toInt = (-1) := (by decide)
    have hpost : ((b.toInt < a.toInt → ((-1) : Int32).toInt = (-1)) ∧ (a.toInt ≤ b.toInt ∧ ¬ (0 ≤ tt.toInt ∧ tt.toInt < v_traits.toInt) → ((-1) : Int32).toInt = (-2)) ∧ (a.toInt ≤ b.toInt ∧ 0 ≤ tt.toInt ∧ tt.toInt < v_traits.toInt → ((-1) : Int32).toInt = 0)) := by omega
    exact W.iret (v := (-1)) hx hb hr (fun t ht hW => ⟨⟨(-1), (w_28, f_hasLaw, f_lawFrom, f_lawTo), rfl, hpost, by rw [ht]; exact hP9, hD9⟩, hS.F ht⟩) hS.2.2 dX9_law_12

set_option maxHeartbeats 8000000 in
set_option maxRecDepth 100000 in
theorem k_X9_limit (l : Launch) (dC : Nat → ClassId) (dI : Nat → Nat → Nat) (cA : Nat → ClassId) (sz : Nat) (am : Nat → Nat) (v_status : Int32) (v_now : Int32) (v_told : Int32) (v_merges : Int32) (v_taped : Int32) (v_size : Int32) (v_from : Int32) (v_to : Int32) (v_fault : Int32) (v_readFault : Int32) (v_traits : Int32) (v_length : Int32) (v_open : Int32) (v_leaks : Int32) (v_places : Int32) (v_models : Int32) (f_limits : Nat → Int32) (tt : Int32) (n : Int32) (i_v_now : 0 ≤ v_now.toInt ∧ v_now.toInt ≤ 100000) (i_v_told : 0 ≤ v_told.toInt ∧ v_told.toInt ≤ 400) (i_v_taped : 0 ≤ v_taped.toInt ∧ v_taped.toInt ≤ 200) (i_v_size : 0 ≤ v_size.toInt ∧ v_size.toInt ≤ 200) (i_v_from : 0 ≤ v_from.toInt ∧ v_from.toInt ≤ 200) (i_v_to : 0 ≤ v_to.toInt ∧ v_to.toInt ≤ 200) (i_v_traits : 0 ≤ v_traits.toInt ∧ v_traits.toInt ≤ 20) (i_v_length : 0 ≤ v_length.toInt ∧ v_length.toInt ≤ 200) (i_v_open : 0 ≤ v_open.toInt ∧ v_open.toInt ≤ 8) (i_v_places : 0 ≤ v_places.toInt ∧ v_places.toInt ≤ 2000) (i_v_models : 0 ≤ v_models.toInt ∧ v_models.toInt ≤ 10)  : Met l yX9_limit wsX9_limit ({ frames := 2, cells := 0, slots := 0, locals := 46 }) (va_Pc [.ref (am 0), .int tt, .int n] (fun U => U.heap.size = sz ∧ va_P (dC, dI) vwCl [((am 0), .inr (9, F9 am v_status v_now v_told v_merges v_taped v_size v_from v_to v_fault v_readFault v_traits v_length v_open v_leaks v_places v_models)), ((am 23), .inl (cA 0, 20, .inl f_limits))] U.heap ∧ va_K (dC, dI) vwCl (tyL cA) U ∧ va_D (fun _ => True) [((am 0), .inr (9, F9 am v_status v_now v_told v_merges v_taped v_size v_from v_to v_fault v_readFault v_traits v_length v_open v_leaks v_places v_models)), ((am 23), .inl (cA 0, 20, .inl f_limits))] ∧ nw_ok U)) (va_Qi (fun (r : Int32) (u : Int32 × (Nat → Int32)) => ((¬ (0 ≤ n.toInt ∧ n.toInt ≤ 100000) → r.toInt = (-1) ∧ u.2 = f_limits) ∧ ((0 ≤ n.toInt ∧ n.toInt ≤ 100000) ∧ ¬ (0 ≤ tt.toInt ∧ tt.toInt < v_traits.toInt) → r.toInt = (-2) ∧ u.2 = f_limits) ∧ ((0 ≤ n.toInt ∧ n.toInt ≤ 100000) ∧ (0 ≤ tt.toInt ∧ tt.toInt < v_traits.toInt) → r = f_limits tt.toNatClampNeg ∧ u.2 = upd f_limits tt.toNatClampNeg n))) (fun (u : Int32 × (Nat → Int32)) (t : State) => va_P (dC, dI) vwCl [((am 0), .inr (9, F9 am u.1 v_now v_told v_merges v_taped v_size v_from v_to v_fault v_readFault v_traits v_length v_open v_leaks v_places v_models)), ((am 23), .inl (cA 0, 20, .inl u.2))] t.heap ∧ va_D (va_A [((am 0), .inr (9, F9 am v_status v_now v_told v_merges v_taped v_size v_from v_to v_fault v_readFault v_traits v_length v_open v_leaks v_places v_models)), ((am 23), .inl (cA 0, 20, .inl f_limits))] sz) [((am 0), .inr (9, F9 am u.1 v_now v_told v_merges v_taped v_size v_from v_to v_fault v_readFault v_traits v_length v_open v_leaks v_places v_models)), ((am 23), .inl (cA 0, 20, .inl u.2))]) (va_A [((am 0), .inr (9, F9 am v_status v_now v_told v_merges v_taped v_size v_from v_to v_fault v_readFault v_traits v_length v_open v_leaks v_places v_models)), ((am 23), .inl (cA 0, 20, .inl f_limits))] sz)) 0 0 (va_A [((am 0), .inr (9, F9 am v_status v_now v_told v_merges v_taped v_size v_from v_to v_fault v_readFault v_traits v_length v_open v_leaks v_places v_models)), ((am 23), .inl (cA 0, 20, .inl f_limits))] sz) := by
  refine Met.ofW (cc := cX9_limit) (maxL := 4) (ret := (some .int)) (by decide) rfl ?_
  intro p e s m args below meth c s₁ B hml hv
  obtain ⟨rfl, hsz, hP, hK, hD0, hN⟩ := hv
  have hx := B.exec
  have hb := B.bytes
  have hr := B.returns
  have hts := atoms_spec (ws := wsX9_limit) B.pre
  have hown : s.vm.findClass RX9 = some m.cls := findClass_of_methodNamed B.named
  have hlocks := B.notSynchronized
  subst hsz
  have hD := hD0.self (sz := s.heap.size)
  generalize hAe : va_A [((am 0), .inr (9, F9 am v_status v_now v_told v_merges v_taped v_size v_from v_to v_fault v_readFault v_traits v_length v_open v_leaks v_places v_models)), ((am 23), .inl (cA 0, 20, .inl f_limits))] s.heap.size = A at hD ⊢
  have hA : ∀ q : Nat, s.heap.size ≤ q → A q := fun q h => by rw [← hAe]; exact Or.inr h
  have hS : va_S A s.heap s.heap [] := va_S.rf
  have hIX9 : ∀ w ∈ u_ws RX9 TX9 51, w ∈ wsX9_limit := by decide +kernel
  have hl := lv_entry ([.ref (am 0), .int tt, .int n]) (n := 4) (Nat.le_of_ble_eq_true rfl)
  rw [lg_entry_eq]
  generalize (lg_sl ([.ref (am 0), .int tt, .int n]) ++ List.replicate (4 - (lg_sl ([.ref (am 0), .int tt, .int n])).length) Slot.unset).toArray = ls at hl ⊢
  have hl : lv_has ls 4 [(0, .ref (am 0)), (1, .int tt), (2, .int n)] := hl
  generalize hQe : MQ below _ _ _ _ _ _ = QQ
  refine lv_iload_n hx hb dX9_limit_0 rfl (lv_at hl 2 rfl) ?_
  obtain ⟨y_1, ey_1⟩ : ∃ y : Int64, y = n.toInt64 := ⟨_, rfl⟩
  have dy_1 : y_1.toInt = n.toInt := by rw [ey_1]; exact Int32.toInt_toInt64 _
  refine lv_i2l (v := y_1) hx hb dX9_limit_1 ey_1.symm ?_
  refine lv_lconst (v := 0) hx hb dX9_limit_2 (by decide) ?_
  refine lv_ldc2 hx hb hown (hts (.constantLong RX9 125 (100000)) (by decide +kernel)) dX9_limit_3 ?_
  have hk_2 : (0 : Int64).toInt = 0 := by decide
  have hk_3 : (100000 : Int64).toInt = 100000 := by decide
  obtain ⟨hPc, hDc, hFc, hCc⟩ := va_pre (ws' := []) hP hD hS hA [] (by decide) rfl
  refine va_calli (va_runS (As := [.long y_1, .long 0, .long 100000]) (rest := []) ⟨hx, hb, hml, hown, hts⟩ (k_X9_in l dC dI cA s.heap.size y_1 0 100000 ) (va_cwS 3 hts gX9_limit_X9_in rfl rfl rfl (by decide +kernel) ⟨Nat.le_of_ble_eq_true rfl, Nat.le_of_ble_eq_true rfl⟩) ⟨fun a U g mk q => by obtain ⟨q0, q1, qP, qK, qD, qN⟩ := q; exact ⟨q0, q1, qP, va_K.moved (u := U) (U := U.calling g mk a) (Vm.Alike.refl U.vm) qK, qD, qN.same rfl⟩, fun U hU hW => ⟨rfl, by rw [hU], by rw [hU]; exact hPc, va_K.moved hW.alike hK, hDc.weaken (fun _ _ _ _ => trivial), hN.warm hW⟩⟩ rfl rfl hl.1 rfl (lv_room (Nat.le_of_ble_eq_true rfl)) dX9_limit_6 ⟨Nat.le_of_ble_eq_true rfl, Nat.le_of_ble_eq_true rfl⟩) hS (fun q _ h => hFc q h) hFc (fun r_4 u_5 t H1 locs ht hvm hw_6 hB hz1 hk1 hS => ?_)
  try dsimp only at hw_6 hB
  have po_7 := hw_6
  clear hw_6
  try simp only [hk_2, hk_3] at po_7
  obtain ⟨hP1, hD1⟩ := hB
  rw [ht] at hP1
  obtain ⟨hP, hD⟩ := va_join (wr := [((am 0), .inr (9, F9 am v_status v_now v_told v_merges v_taped v_size v_from v_to v_fault v_readFault v_traits v_length v_open v_leaks v_places v_models)), ((am 23), .inl (cA 0, 20, .inl f_limits))]) (w1 := []) hP hD [] [0, 1] hCc rfl (by decide) (by decide) hk1 hFc hP1 hD1
  clear hz1
  generalize H1 = H at hP hS ⊢
  refine lv_if_ne (tgt := 18) hx hb dX9_limit_9 (by decide) (fun c_8 => ?_) (fun c_8 => ?_)
  · have dc_8 : ¬ r_4.toInt = 0 := jI_ne c_8 rfl (by decide)
    refine lv_aload_n hx hb dX9_limit_18 rfl (lv_at hl 0 rfl) ?_
    refine lv_iload_n hx hb dX9_limit_19 rfl (lv_at hl 1 rfl) ?_
    obtain ⟨hPc, hDc, hFc, hCc⟩ := va_pre (ws' := [((am 0), .inr (9, F9 am v_status v_now v_told v_merges v_taped v_size v_from v_to v_fault v_readFault v_traits v_length v_open v_leaks v_places v_models))]) hP hD hS hA [0] (by decide) rfl
    refine va_calli (va_runV (As := [.int tt]) (rest := []) ⟨hx, hb, hml, hown, hts⟩ (k_X9_isTrait l dC dI cA H.size am v_status v_now v_told v_merges v_taped v_size v_from v_to v_fault v_readFault v_traits v_length v_open v_leaks v_places v_models tt i_v_now i_v_told i_v_taped i_v_size i_v_from i_v_to i_v_traits i_v_length i_v_open i_v_places i_v_models) (cwV 1 hts gX9_limit_X9_isTrait rfl rfl rfl (by decide +kernel) ⟨Nat.le_of_ble_eq_true rfl, Nat.le_of_ble_eq_true rfl⟩) ⟨fun a U g mk q => by obtain ⟨q0, q1, qP, qK, qD, qN⟩ := q; exact ⟨q0, q1, qP, va_K.moved (u := U) (U := U.calling g mk a) (Vm.Alike.refl U.vm) qK, qD, qN.same rfl⟩, va_recv hK hPc (ci := 9) (q0 := 0) rfl rfl, fun U hU hW => ⟨rfl, by rw [hU], by rw [hU]; exact hPc, va_K.moved hW.alike hK, hDc.weaken (fun _ _ _ _ => trivial), hN.warm hW⟩⟩ rfl rfl hl.1 rfl (lv_room (Nat.le_of_ble_eq_true rfl)) dX9_limit_20 ⟨Nat.le_of_ble_eq_true rfl, Nat.le_of_ble_eq_true rfl⟩) hS (fun q _ h => hFc q h) hFc (fun r_9 u_10 t H1 locs ht hvm hw_11 hB hz1 hk1 hS => ?_)
    try dsimp only at hw_11 hB
    have po_12 := hw_11
    clear hw_11
    obtain ⟨hP1, hD1⟩ := hB
    rw [ht] at hP1
    obtain ⟨hP, hD⟩ := va_join (wr := [((am 23), .inl (cA 0, 20, .inl f_limits))]) (w1 := [((am 0), .inr (9, F9 am v_status v_now v_told v_merges v_taped v_size v_from v_to v_fault v_readFault v_traits v_length v_open v_leaks v_places v_models))]) hP hD [0] [1] hCc rfl (by decide) (by decide) hk1 hFc hP1 hD1
    clear hz1
    generalize H1 = H at hP hS ⊢
    refine lv_if_ne (tgt := 33) hx hb dX9_limit_23 (by decide) (fun c_13 => ?_) (fun c_13 => ?_)
    · have dc_13 : ¬ r_9.toInt = 0 := jI_ne c_13 rfl (by decide)
      refine lv_aload_n hx hb dX9_limit_33 rfl (lv_at hl 0 rfl) ?_
      refine va_get (D := (dC, dI)) (ci := 9) (v := .ref (am 23)) (C := RX9) (T := TX9) (N := 51) hx hb hts hIX9 hown hK hP 1 rfl rfl 36 (by decide) (hts (.fieldLink RX9 83 "TraitHouseModel" "limits" "[I") (by decide +kernel)) (fun _ h9 => h9) rfl dX9_limit_34 ?_
      refine lv_iload_n hx hb dX9_limit_37 rfl (lv_at hl 1 rfl) ?_
      have h_14 : vp_in tt 20 := (vp_in_iff.mpr ⟨by omega, by omega⟩)
      refine va_iald hx hb hK hP 0 0 rfl rfl h_14 dX9_limit_38 ?_
      refine lv_topi (fun x_15 ex_15 => ?_)
      refine lv_istore_n (lv' := [(3, .int x_15), (0, .ref (am 0)), (1, .int tt), (2, .int n)]) hx hb dX9_limit_39 rfl hl (by decide) rfl (fun ls hl => ?_)
      refine lv_aload_n hx hb dX9_limit_40 rfl (lv_at hl 1 rfl) ?_
      refine va_get (D := (dC, dI)) (ci := 9) (v := .ref (am 23)) (C := RX9) (T := TX9) (N := 51) hx hb hts hIX9 hown hK hP 1 rfl rfl 36 (by decide) (hts (.fieldLink RX9 83 "TraitHouseModel" "limits" "[I") (by decide +kernel)) (fun _ h9 => h9) rfl dX9_limit_41 ?_
      refine lv_iload_n hx hb dX9_limit_44 rfl (lv_at hl 2 rfl) ?_
      refine lv_iload_n hx hb dX9_limit_45 rfl (lv_at hl 3 rfl) ?_
      have h_16 : vp_in tt 20 := (vp_in_iff.mpr ⟨by omega, by omega⟩)
      refine va_iast hx hb hK hP hD hS 0 0 rfl rfl h_16 dX9_limit_46 (fun H locs hP hD hS => ?_)
      replace hP : va_P (dC, dI) vwCl [((am 23), .inl (cA 0, 20, .inl (upd f_limits tt.toNatClampNeg n))), ((am 0), .inr (9, F9 am v_status v_now v_told v_merges v_taped v_size v_from v_to v_fault v_readFault v_traits v_length v_open v_leaks v_places v_models))] H := hP
      replace hD : va_D A [((am 23), .inl (cA 0, 20, .inl (upd f_limits tt.toNatClampNeg n))), ((am 0), .inr (9, F9 am v_status v_now v_told v_merges v_taped v_size v_from v_to v_fault v_readFault v_traits v_length v_open v_leaks v_places v_models))] := hD
      obtain ⟨g_17, eg_17⟩ : ∃ g : Nat → Int32, g = upd f_limits tt.toNatClampNeg n := ⟨_, rfl⟩
      rw [← eg_17] at hP hD
      refine lv_aload_n hx hb dX9_limit_47 rfl (lv_at hl 1 rfl) ?_
      refine lv_iload_n hx hb dX9_limit_48 rfl (lv_at hl 0 rfl) ?_
      obtain ⟨hPc, hDc, hFc, hCc⟩ := va_pre (ws' := [((am 0), .inr (9, F9 am v_status v_now v_told v_merges v_taped v_size v_from v_to v_fault v_readFault v_traits v_length v_open v_leaks v_places v_models))]) hP hD hS hA [1] (by decide) rfl
      refine va_calli (va_runV (As := [.int x_15]) (rest := []) ⟨hx, hb, hml, hown, hts⟩ (k_X9_ends l dC dI cA H.size am v_status v_now v_told v_merges v_taped v_size v_from v_to v_fault v_readFault v_traits v_length v_open v_leaks v_places v_models x_15 i_v_now i_v_told i_v_taped i_v_size i_v_from i_v_to i_v_traits i_v_length i_v_open i_v_places i_v_models) (cwV 1 hts gX9_limit_X9_ends rfl rfl rfl (by decide +kernel) ⟨Nat.le_of_ble_eq_true rfl, Nat.le_of_ble_eq_true rfl⟩) ⟨fun a U g mk q => by obtain ⟨q0, q1, qP, qK, qD, qN⟩ := q; exact ⟨q0, q1, qP, va_K.moved (u := U) (U := U.calling g mk a) (Vm.Alike.refl U.vm) qK, qD, qN.same rfl⟩, va_recv hK hPc (ci := 9) (q0 := 0) rfl rfl, fun U hU hW => ⟨rfl, by rw [hU], by rw [hU]; exact hPc, va_K.moved hW.alike hK, hDc.weaken (fun _ _ _ _ => trivial), hN.warm hW⟩⟩ rfl rfl hl.1 rfl (lv_room (Nat.le_of_ble_eq_true rfl)) dX9_limit_49 ⟨Nat.le_of_ble_eq_true rfl, Nat.le_of_ble_eq_true rfl⟩) hS (fun q _ h => hFc q h) hFc (fun r_18 u_19 t H1 locs ht hvm hw_20 hB hz1 hk1 hS => ?_)
      obtain ⟨w_21, rfl⟩ : ∃ z, z = u_19 := ⟨_, rfl⟩
      try dsimp only at hw_20 hB
      have hr9 := hw_20
      clear hw_20
      obtain ⟨hP1, hD1⟩ := hB
      rw [ht] at hP1
      obtain ⟨hP, hD⟩ := va_join (wr := [((am 23), .inl (cA 0, 20, .inl g_17))]) (w1 := [((am 0), .inr (9, F9 am w_21 v_now v_told v_merges v_taped v_size v_from v_to v_fault v_readFault v_traits v_length v_open v_leaks v_places v_models))]) hP hD [1] [0] hCc rfl (by decide) (by decide) hk1 hFc hP1 hD1
      clear hz1
      generalize H1 = H at hP hS ⊢
      obtain rfl : x_15 = r_18 := hr9.symm
      obtain ⟨hP9, hD9⟩ := va_pd (ws' := [((am 0), .inr (9, F9 am w_21 v_now v_told v_merges v_taped v_size v_from v_to v_fault v_readFault v_traits v_length v_open v_leaks v_places v_models)), ((am 23), .inl (cA 0, 20, .inl g_17))]) hP hD [1, 0] (by decide) rfl
      subst hQe
      have hans : (x_15 : Int32).toInt = x_15.toInt := rfl
      have hpost : ((¬ (0 ≤ n.toInt ∧ n.toInt ≤ 100000) → (x_15 : Int32).toInt = (-1) ∧ g_17 = f_limits) ∧ ((0 ≤ n.toInt ∧ n.toInt ≤ 100000) ∧ ¬ (0 ≤ tt.toInt ∧ tt.toInt < v_traits.toInt) → (x_15 : Int32).toInt = (-2) ∧ g_17 = f_limits) ∧ ((0 ≤ n.toInt ∧ n.toInt ≤ 100000) ∧ (0 ≤ tt.toInt ∧ tt.toInt < v_traits.toInt) → (x_15 : Int32) = f_limits tt.toNatClampNeg ∧ g_17 = upd f_limits tt.toNatClampNeg n)) := ⟨fun h => by exfalso; omega, fun h => by exfalso; omega, fun _ => ⟨ex_15, eg_17⟩⟩
      exact W.iret (v := x_15) hx hb hr (fun t ht hW => ⟨⟨x_15, (w_21, g_17), rfl, hpost, by rw [ht]; exact hP9, hD9⟩, hS.F ht⟩) hS.2.2 dX9_limit_52
    · have dc_13 : r_9.toInt = 0 := jI_eq c_13 rfl (by decide)
      refine lv_aload_n hx hb dX9_limit_26 rfl (lv_at hl 0 rfl) ?_
      refine lv_bipush (v := (-2)) hx hb dX9_limit_27 (by decide) ?_
      have hk_22 : ((-2) : Int32).toInt = (-2) := by decide
      obtain ⟨hPc, hDc, hFc, hCc⟩ := va_pre (ws' := [((am 0), .inr (9, F9 am v_status v_now v_told v_merges v_taped v_size v_from v_to v_fault v_readFault v_traits v_length v_open v_leaks v_places v_models))]) hP hD hS hA [1] (by decide) rfl
      refine va_calli (va_runV (As := [.int (-2)]) (rest := []) ⟨hx, hb, hml, hown, hts⟩ (k_X9_ends l dC dI cA H.size am v_status v_now v_told v_merges v_taped v_size v_from v_to v_fault v_readFault v_traits v_length v_open v_leaks v_places v_models (-2) i_v_now i_v_told i_v_taped i_v_size i_v_from i_v_to i_v_traits i_v_length i_v_open i_v_places i_v_models) (cwV 1 hts gX9_limit_X9_ends rfl rfl rfl (by decide +kernel) ⟨Nat.le_of_ble_eq_true rfl, Nat.le_of_ble_eq_true rfl⟩) ⟨fun a U g mk q => by obtain ⟨q0, q1, qP, qK, qD, qN⟩ := q; exact ⟨q0, q1, qP, va_K.moved (u := U) (U := U.calling g mk a) (Vm.Alike.refl U.vm) qK, qD, qN.same rfl⟩, va_recv hK hPc (ci := 9) (q0 := 0) rfl rfl, fun U hU hW => ⟨rfl, by rw [hU], by rw [hU]; exact hPc, va_K.moved hW.alike hK, hDc.weaken (fun _ _ _ _ => trivial), hN.warm hW⟩⟩ rfl rfl hl.1 rfl (lv_room (Nat.le_of_ble_eq_true rfl)) dX9_limit_29 ⟨Nat.le_of_ble_eq_true rfl, Nat.le_of_ble_eq_true rfl⟩) hS (fun q _ h => hFc q h) hFc (fun r_23 u_24 t H1 locs ht hvm hw_25 hB hz1 hk1 hS => ?_)
      obtain ⟨w_26, rfl⟩ : ∃ z, z = u_24 := ⟨_, rfl⟩
      try dsimp only at hw_25 hB
      have hr9 := hw_25
      clear hw_25
      obtain ⟨hP1, hD1⟩ := hB
      rw [ht] at hP1
      obtain ⟨hP, hD⟩ := va_join (wr := [((am 23), .inl (cA 0, 20, .inl f_limits))]) (w1 := [((am 0), .inr (9, F9 am w_26 v_now v_told v_merges v_taped v_size v_from v_to v_fault v_readFault v_traits v_length v_open v_leaks v_places v_models))]) hP hD [1] [0] hCc rfl (by decide) (by decide) hk1 hFc hP1 hD1
      clear hz1
      generalize H1 = H at hP hS ⊢
      obtain rfl : (-2) = r_23 := hr9.symm
      obtain ⟨hP9, hD9⟩ := va_pd (ws' := [((am 0), .inr (9, F9 am w_26 v_now v_told v_merges v_taped v_size v_from v_to v_fault v_readFault v_traits v_length v_open v_leaks v_places v_models)), ((am 23), .inl (cA 0, 20, .inl f_limits))]) hP hD [1, 0] (by decide) rfl
      subst hQe
      have hans : ((-2) : Int32).toInt = (-2) := (by decide)
      have hpost : ((¬ (0 ≤ n.toInt ∧ n.toInt ≤ 100000) → ((-2) : Int32).toInt = (-1) ∧ f_limits = f_limits) ∧ ((0 ≤ n.toInt ∧ n.toInt ≤ 100000) ∧ ¬ (0 ≤ tt.toInt ∧ tt.toInt < v_traits.toInt) → ((-2) : Int32).toInt = (-2) ∧ f_limits = f_limits) ∧ ((0 ≤ n.toInt ∧ n.toInt ≤ 100000) ∧ (0 ≤ tt.toInt ∧ tt.toInt < v_traits.toInt) → ((-2) : Int32) = f_limits tt.toNatClampNeg ∧ f_limits = upd f_limits tt.toNatClampNeg n)) := ⟨fun h => by exfalso; omega, fun _ => ⟨by omega, rfl⟩, fun h => by exfalso; omega⟩
      exact W.iret (v := (-2)) hx hb hr (fun t ht hW => ⟨⟨(-2), (w_26, f_limits), rfl, hpost, by rw [ht]; exact hP9, hD9⟩, hS.F ht⟩) hS.2.2 dX9_limit_32
  · have dc_8 : r_4.toInt = 0 := jI_eq c_8 rfl (by decide)
    refine lv_aload_n hx hb dX9_limit_12 rfl (lv_at hl 0 rfl) ?_
    refine lv_iconst (v := (-1)) hx hb dX9_limit_13 (by decide) ?_
    have hk_27 : ((-1) : Int32).toInt = (-1) := by decide
    obtain ⟨hPc, hDc, hFc, hCc⟩ := va_pre (ws' := [((am 0), .inr (9, F9 am v_status v_now v_told v_merges v_taped v_size v_from v_to v_fault v_readFault v_traits v_length v_open v_leaks v_places v_models))]) hP hD hS hA [0] (by decide) rfl
    refine va_calli (va_runV (As := [.int (-1)]) (rest := []) ⟨hx, hb, hml, hown, hts⟩ (k_X9_ends l dC dI cA H.size am v_status v_now v_told v_merges v_taped v_size v_from v_to v_fault v_readFault v_traits v_length v_open v_leaks v_places v_models (-1) i_v_now i_v_told i_v_taped i_v_size i_v_from i_v_to i_v_traits i_v_length i_v_open i_v_places i_v_models) (cwV 1 hts gX9_limit_X9_ends rfl rfl rfl (by decide +kernel) ⟨Nat.le_of_ble_eq_true rfl, Nat.le_of_ble_eq_true rfl⟩) ⟨fun a U g mk q => by obtain ⟨q0, q1, qP, qK, qD, qN⟩ := q; exact ⟨q0, q1, qP, va_K.moved (u := U) (U := U.calling g mk a) (Vm.Alike.refl U.vm) qK, qD, qN.same rfl⟩, va_recv hK hPc (ci := 9) (q0 := 0) rfl rfl, fun U hU hW => ⟨rfl, by rw [hU], by rw [hU]; exact hPc, va_K.moved hW.alike hK, hDc.weaken (fun _ _ _ _ => trivial), hN.warm hW⟩⟩ rfl rfl hl.1 rfl (lv_room (Nat.le_of_ble_eq_true rfl)) dX9_limit_14 ⟨Nat.le_of_ble_eq_true rfl, Nat.le_of_ble_eq_true rfl⟩) hS (fun q _ h => hFc q h) hFc (fun r_28 u_29 t H1 locs ht hvm hw_30 hB hz1 hk1 hS => ?_)
    obtain ⟨w_31, rfl⟩ : ∃ z, z = u_29 := ⟨_, rfl⟩
    try dsimp only at hw_30 hB
    have hr9 := hw_30
    clear hw_30
    obtain ⟨hP1, hD1⟩ := hB
    rw [ht] at hP1
    obtain ⟨hP, hD⟩ := va_join (wr := [((am 23), .inl (cA 0, 20, .inl f_limits))]) (w1 := [((am 0), .inr (9, F9 am w_31 v_now v_told v_merges v_taped v_size v_from v_to v_fault v_readFault v_traits v_length v_open v_leaks v_places v_models))]) hP hD [0] [1] hCc rfl (by decide) (by decide) hk1 hFc hP1 hD1
    clear hz1
    generalize H1 = H at hP hS ⊢
    obtain rfl : (-1) = r_28 := hr9.symm
    obtain ⟨hP9, hD9⟩ := va_pd (ws' := [((am 0), .inr (9, F9 am w_31 v_now v_told v_merges v_taped v_size v_from v_to v_fault v_readFault v_traits v_length v_open v_leaks v_places v_models)), ((am 23), .inl (cA 0, 20, .inl f_limits))]) hP hD [1, 0] (by decide) rfl
    subst hQe
    have hans : ((-1) : Int32).toInt = (-1) := (by decide)
    have hpost : ((¬ (0 ≤ n.toInt ∧ n.toInt ≤ 100000) → ((-1) : Int32).toInt = (-1) ∧ f_limits = f_limits) ∧ ((0 ≤ n.toInt ∧ n.toInt ≤ 100000) ∧ ¬ (0 ≤ tt.toInt ∧ tt.toInt < v_traits.toInt) → ((-1) : Int32).toInt = (-2) ∧ f_limits = f_limits) ∧ ((0 ≤ n.toInt ∧ n.toInt ≤ 100000) ∧ (0 ≤ tt.toInt ∧ tt.toInt < v_traits.toInt) → ((-1) : Int32) = f_limits tt.toNatClampNeg ∧ f_limits = upd f_limits tt.toNatClampNeg n)) := ⟨fun _ => ⟨by omega, rfl⟩, fun h => by exfalso; omega, fun h => by exfalso; omega⟩
    exact W.iret (v := (-1)) hx hb hr (fun t ht hW => ⟨⟨(-1), (w_31, f_limits), rfl, hpost, by rw [ht]; exact hP9, hD9⟩, hS.F ht⟩) hS.2.2 dX9_limit_17

set_option maxHeartbeats 8000000 in
set_option maxRecDepth 100000 in
theorem k_X9_lays (l : Launch) (dC : Nat → ClassId) (dI : Nat → Nat → Nat) (cA : Nat → ClassId) (sz : Nat) (am : Nat → Nat) (v_status : Int32) (v_now : Int32) (v_told : Int32) (v_merges : Int32) (v_taped : Int32) (v_size : Int32) (v_from : Int32) (v_to : Int32) (v_fault : Int32) (v_readFault : Int32) (v_traits : Int32) (v_length : Int32) (v_open : Int32) (v_leaks : Int32) (v_places : Int32) (v_models : Int32) (f_placeTrait : Nat → Int32) (f_placePerson : Nat → Int32) (f_placeMoment : Nat → Int32) (f_placeValue : Nat → Int64) (f_isFilled : Nat → Int32) (tt : Int32) (pp : Int32) (mo : Int32) (va : Int64) (fi : Int32) (i_v_now : 0 ≤ v_now.toInt ∧ v_now.toInt ≤ 100000) (i_v_told : 0 ≤ v_told.toInt ∧ v_told.toInt ≤ 400) (i_v_taped : 0 ≤ v_taped.toInt ∧ v_taped.toInt ≤ 200) (i_v_size : 0 ≤ v_size.toInt ∧ v_size.toInt ≤ 200) (i_v_from : 0 ≤ v_from.toInt ∧ v_from.toInt ≤ 200) (i_v_to : 0 ≤ v_to.toInt ∧ v_to.toInt ≤ 200) (i_v_traits : 0 ≤ v_traits.toInt ∧ v_traits.toInt ≤ 20) (i_v_length : 0 ≤ v_length.toInt ∧ v_length.toInt ≤ 200) (i_v_open : 0 ≤ v_open.toInt ∧ v_open.toInt ≤ 8) (i_v_places : 0 ≤ v_places.toInt ∧ v_places.toInt ≤ 2000) (i_v_models : 0 ≤ v_models.toInt ∧ v_models.toInt ≤ 10) (hpl : v_places.toInt ≤ 1999) : Met l yX9_lays wsX9_lays ({ frames := 0, cells := 0, slots := 0, locals := 0 }) (va_Pc [.ref (am 0), .int tt, .int pp, .int mo, .long va, .int fi] (fun U => U.heap.size = sz ∧ va_P (dC, dI) vwCl [((am 0), .inr (9, F9 am v_status v_now v_told v_merges v_taped v_size v_from v_to v_fault v_readFault v_traits v_length v_open v_leaks v_places v_models)), ((am 28), .inl (cA 0, 2000, .inl f_placeTrait)), ((am 29), .inl (cA 0, 2000, .inl f_placePerson)), ((am 30), .inl (cA 0, 2000, .inl f_placeMoment)), ((am 31), .inl (cA 1, 2000, .inr (.inl f_placeValue))), ((am 32), .inl (cA 2, 2000, .inl f_isFilled))] U.heap ∧ va_K (dC, dI) vwCl (tyL cA) U ∧ va_D (fun _ => True) [((am 0), .inr (9, F9 am v_status v_now v_told v_merges v_taped v_size v_from v_to v_fault v_readFault v_traits v_length v_open v_leaks v_places v_models)), ((am 28), .inl (cA 0, 2000, .inl f_placeTrait)), ((am 29), .inl (cA 0, 2000, .inl f_placePerson)), ((am 30), .inl (cA 0, 2000, .inl f_placeMoment)), ((am 31), .inl (cA 1, 2000, .inr (.inl f_placeValue))), ((am 32), .inl (cA 2, 2000, .inl f_isFilled))] ∧ nw_ok U)) (va_Qv (fun (u : Int32 × (Nat → Int32) × (Nat → Int32) × (Nat → Int32) × (Nat → Int64) × (Nat → Int32)) => (0 ≤ u.1.toInt ∧ u.1.toInt ≤ 2000) ∧ (u.1.toInt = v_places.toInt + 1)) (fun (u : Int32 × (Nat → Int32) × (Nat → Int32) × (Nat → Int32) × (Nat → Int64) × (Nat → Int32)) (t : State) => va_P (dC, dI) vwCl [((am 0), .inr (9, F9 am v_status v_now v_told v_merges v_taped v_size v_from v_to v_fault v_readFault v_traits v_length v_open v_leaks u.1 v_models)), ((am 28), .inl (cA 0, 2000, .inl u.2.1)), ((am 29), .inl (cA 0, 2000, .inl u.2.2.1)), ((am 30), .inl (cA 0, 2000, .inl u.2.2.2.1)), ((am 31), .inl (cA 1, 2000, .inr (.inl u.2.2.2.2.1))), ((am 32), .inl (cA 2, 2000, .inl u.2.2.2.2.2))] t.heap ∧ va_D (va_A [((am 0), .inr (9, F9 am v_status v_now v_told v_merges v_taped v_size v_from v_to v_fault v_readFault v_traits v_length v_open v_leaks v_places v_models)), ((am 28), .inl (cA 0, 2000, .inl f_placeTrait)), ((am 29), .inl (cA 0, 2000, .inl f_placePerson)), ((am 30), .inl (cA 0, 2000, .inl f_placeMoment)), ((am 31), .inl (cA 1, 2000, .inr (.inl f_placeValue))), ((am 32), .inl (cA 2, 2000, .inl f_isFilled))] sz) [((am 0), .inr (9, F9 am v_status v_now v_told v_merges v_taped v_size v_from v_to v_fault v_readFault v_traits v_length v_open v_leaks u.1 v_models)), ((am 28), .inl (cA 0, 2000, .inl u.2.1)), ((am 29), .inl (cA 0, 2000, .inl u.2.2.1)), ((am 30), .inl (cA 0, 2000, .inl u.2.2.2.1)), ((am 31), .inl (cA 1, 2000, .inr (.inl u.2.2.2.2.1))), ((am 32), .inl (cA 2, 2000, .inl u.2.2.2.2.2))]) (va_A [((am 0), .inr (9, F9 am v_status v_now v_told v_merges v_taped v_size v_from v_to v_fault v_readFault v_traits v_length v_open v_leaks v_places v_models)), ((am 28), .inl (cA 0, 2000, .inl f_placeTrait)), ((am 29), .inl (cA 0, 2000, .inl f_placePerson)), ((am 30), .inl (cA 0, 2000, .inl f_placeMoment)), ((am 31), .inl (cA 1, 2000, .inr (.inl f_placeValue))), ((am 32), .inl (cA 2, 2000, .inl f_isFilled))] sz)) 0 0 (va_A [((am 0), .inr (9, F9 am v_status v_now v_told v_merges v_taped v_size v_from v_to v_fault v_readFault v_traits v_length v_open v_leaks v_places v_models)), ((am 28), .inl (cA 0, 2000, .inl f_placeTrait)), ((am 29), .inl (cA 0, 2000, .inl f_placePerson)), ((am 30), .inl (cA 0, 2000, .inl f_placeMoment)), ((am 31), .inl (cA 1, 2000, .inr (.inl f_placeValue))), ((am 32), .inl (cA 2, 2000, .inl f_isFilled))] sz) := by
  refine Met.ofW (cc := cX9_lays) (maxL := 7) (ret := none) (by decide) rfl ?_
  intro p e s m args below meth c s₁ B hml hv
  obtain ⟨rfl, hsz, hP, hK, hD0, hN⟩ := hv
  have hx := B.exec
  have hb := B.bytes
  have hr := B.returns
  have hts := atoms_spec (ws := wsX9_lays) B.pre
  have hown : s.vm.findClass RX9 = some m.cls := findClass_of_methodNamed B.named
  have hlocks := B.notSynchronized
  subst hsz
  have hD := hD0.self (sz := s.heap.size)
  generalize hAe : va_A [((am 0), .inr (9, F9 am v_status v_now v_told v_merges v_taped v_size v_from v_to v_fault v_readFault v_traits v_length v_open v_leaks v_places v_models)), ((am 28), .inl (cA 0, 2000, .inl f_placeTrait)), ((am 29), .inl (cA 0, 2000, .inl f_placePerson)), ((am 30), .inl (cA 0, 2000, .inl f_placeMoment)), ((am 31), .inl (cA 1, 2000, .inr (.inl f_placeValue))), ((am 32), .inl (cA 2, 2000, .inl f_isFilled))] s.heap.size = A at hD ⊢
  have hA : ∀ q : Nat, s.heap.size ≤ q → A q := fun q h => by rw [← hAe]; exact Or.inr h
  have hS : va_S A s.heap s.heap [] := va_S.rf
  have hIX9 : ∀ w ∈ u_ws RX9 TX9 51, w ∈ wsX9_lays := by decide +kernel
  have hl := lv_entry ([.ref (am 0), .int tt, .int pp, .int mo, .long va, .int fi]) (n := 7) (Nat.le_of_ble_eq_true rfl)
  rw [lg_entry_eq]
  generalize (lg_sl ([.ref (am 0), .int tt, .int pp, .int mo, .long va, .int fi]) ++ List.replicate (7 - (lg_sl ([.ref (am 0), .int tt, .int pp, .int mo, .long va, .int fi])).length) Slot.unset).toArray = ls at hl ⊢
  have hl : lv_has ls 7 [(0, .ref (am 0)), (1, .int tt), (2, .int pp), (3, .int mo), (4, .long va), (6, .int fi)] := hl
  generalize hQe : MQ below _ _ _ _ _ _ = QQ
  refine lv_aload_n hx hb dX9_lays_0 rfl (lv_at hl 0 rfl) ?_
  refine va_get (D := (dC, dI)) (ci := 9) (v := .ref (am 28)) (C := RX9) (T := TX9) (N := 51) hx hb hts hIX9 hown hK hP 0 rfl rfl 42 (by decide) (hts (.fieldLink RX9 98 "TraitHouseModel" "placeTrait" "[I") (by decide +kernel)) (fun _ h9 => h9) rfl dX9_lays_1 ?_
  refine lv_aload_n hx hb dX9_lays_4 rfl (lv_at hl 0 rfl) ?_
  refine va_get (D := (dC, dI)) (ci := 9) (v := .int v_places) (C := RX9) (T := TX9) (N := 51) hx hb hts hIX9 hown hK hP 0 rfl rfl 41 (by decide) (hts (.fieldLink RX9 304 "TraitHouseModel" "places" "I") (by decide +kernel)) (fun _ h9 => h9) rfl dX9_lays_5 ?_
  refine lv_iload_n hx hb dX9_lays_8 rfl (lv_at hl 1 rfl) ?_
  have h_1 : vp_in v_places 2000 := (vp_in_iff.mpr ⟨by omega, by omega⟩)
  refine va_iast hx hb hK hP hD hS 1 0 rfl rfl h_1 dX9_lays_9 (fun H locs hP hD hS => ?_)
  replace hP : va_P (dC, dI) vwCl [((am 0), .inr (9, F9 am v_status v_now v_told v_merges v_taped v_size v_from v_to v_fault v_readFault v_traits v_length v_open v_leaks v_places v_models)), ((am 28), .inl (cA 0, 2000, .inl (upd f_placeTrait v_places.toNatClampNeg tt))), ((am 29), .inl (cA 0, 2000, .inl f_placePerson)), ((am 30), .inl (cA 0, 2000, .inl f_placeMoment)), ((am 31), .inl (cA 1, 2000, .inr (.inl f_placeValue))), ((am 32), .inl (cA 2, 2000, .inl f_isFilled))] H := hP
  replace hD : va_D A [((am 0), .inr (9, F9 am v_status v_now v_told v_merges v_taped v_size v_from v_to v_fault v_readFault v_traits v_length v_open v_leaks v_places v_models)), ((am 28), .inl (cA 0, 2000, .inl (upd f_placeTrait v_places.toNatClampNeg tt))), ((am 29), .inl (cA 0, 2000, .inl f_placePerson)), ((am 30), .inl (cA 0, 2000, .inl f_placeMoment)), ((am 31), .inl (cA 1, 2000, .inr (.inl f_placeValue))), ((am 32), .inl (cA 2, 2000, .inl f_isFilled))] := hD
  obtain ⟨g_2, eg_2⟩ : ∃ g : Nat → Int32, g = upd f_placeTrait v_places.toNatClampNeg tt := ⟨_, rfl⟩
  rw [← eg_2] at hP hD
  refine lv_aload_n hx hb dX9_lays_10 rfl (lv_at hl 0 rfl) ?_
  refine va_get (D := (dC, dI)) (ci := 9) (v := .ref (am 29)) (C := RX9) (T := TX9) (N := 51) hx hb hts hIX9 hown hK hP 0 rfl rfl 43 (by decide) (hts (.fieldLink RX9 101 "TraitHouseModel" "placePerson" "[I") (by decide +kernel)) (fun _ h9 => h9) rfl dX9_lays_11 ?_
  refine lv_aload_n hx hb dX9_lays_14 rfl (lv_at hl 0 rfl) ?_
  refine va_get (D := (dC, dI)) (ci := 9) (v := .int v_places) (C := RX9) (T := TX9) (N := 51) hx hb hts hIX9 hown hK hP 0 rfl rfl 41 (by decide) (hts (.fieldLink RX9 304 "TraitHouseModel" "places" "I") (by decide +kernel)) (fun _ h9 => h9) rfl dX9_lays_15 ?_
  refine lv_iload_n hx hb dX9_lays_18 rfl (lv_at hl 2 rfl) ?_
  have h_3 : vp_in v_places 2000 := (vp_in_iff.mpr ⟨by omega, by omega⟩)
  refine va_iast hx hb hK hP hD hS 2 0 rfl rfl h_3 dX9_lays_19 (fun H locs hP hD hS => ?_)
  replace hP : va_P (dC, dI) vwCl [((am 0), .inr (9, F9 am v_status v_now v_told v_merges v_taped v_size v_from v_to v_fault v_readFault v_traits v_length v_open v_leaks v_places v_models)), ((am 28), .inl (cA 0, 2000, .inl g_2)), ((am 29), .inl (cA 0, 2000, .inl (upd f_placePerson v_places.toNatClampNeg pp))), ((am 30), .inl (cA 0, 2000, .inl f_placeMoment)), ((am 31), .inl (cA 1, 2000, .inr (.inl f_placeValue))), ((am 32), .inl (cA 2, 2000, .inl f_isFilled))] H := hP
  replace hD : va_D A [((am 0), .inr (9, F9 am v_status v_now v_told v_merges v_taped v_size v_from v_to v_fault v_readFault v_traits v_length v_open v_leaks v_places v_models)), ((am 28), .inl (cA 0, 2000, .inl g_2)), ((am 29), .inl (cA 0, 2000, .inl (upd f_placePerson v_places.toNatClampNeg pp))), ((am 30), .inl (cA 0, 2000, .inl f_placeMoment)), ((am 31), .inl (cA 1, 2000, .inr (.inl f_placeValue))), ((am 32), .inl (cA 2, 2000, .inl f_isFilled))] := hD
  obtain ⟨g_4, eg_4⟩ : ∃ g : Nat → Int32, g = upd f_placePerson v_places.toNatClampNeg pp := ⟨_, rfl⟩
  rw [← eg_4] at hP hD
  refine lv_aload_n hx hb dX9_lays_20 rfl (lv_at hl 0 rfl) ?_
  refine va_get (D := (dC, dI)) (ci := 9) (v := .ref (am 30)) (C := RX9) (T := TX9) (N := 51) hx hb hts hIX9 hown hK hP 0 rfl rfl 44 (by decide) (hts (.fieldLink RX9 104 "TraitHouseModel" "placeMoment" "[I") (by decide +kernel)) (fun _ h9 => h9) rfl dX9_lays_21 ?_
  refine lv_aload_n hx hb dX9_lays_24 rfl (lv_at hl 0 rfl) ?_
  refine va_get (D := (dC, dI)) (ci := 9) (v := .int v_places) (C := RX9) (T := TX9) (N := 51) hx hb hts hIX9 hown hK hP 0 rfl rfl 41 (by decide) (hts (.fieldLink RX9 304 "TraitHouseModel" "places" "I") (by decide +kernel)) (fun _ h9 => h9) rfl dX9_lays_25 ?_
  refine lv_iload_n hx hb dX9_lays_28 rfl (lv_at hl 3 rfl) ?_
  have h_5 : vp_in v_places 2000 := (vp_in_iff.mpr ⟨by omega, by omega⟩)
  refine va_iast hx hb hK hP hD hS 3 0 rfl rfl h_5 dX9_lays_29 (fun H locs hP hD hS => ?_)
  replace hP : va_P (dC, dI) vwCl [((am 0), .inr (9, F9 am v_status v_now v_told v_merges v_taped v_size v_from v_to v_fault v_readFault v_traits v_length v_open v_leaks v_places v_models)), ((am 28), .inl (cA 0, 2000, .inl g_2)), ((am 29), .inl (cA 0, 2000, .inl g_4)), ((am 30), .inl (cA 0, 2000, .inl (upd f_placeMoment v_places.toNatClampNeg mo))), ((am 31), .inl (cA 1, 2000, .inr (.inl f_placeValue))), ((am 32), .inl (cA 2, 2000, .inl f_isFilled))] H := hP
  replace hD : va_D A [((am 0), .inr (9, F9 am v_status v_now v_told v_merges v_taped v_size v_from v_to v_fault v_readFault v_traits v_length v_open v_leaks v_places v_models)), ((am 28), .inl (cA 0, 2000, .inl g_2)), ((am 29), .inl (cA 0, 2000, .inl g_4)), ((am 30), .inl (cA 0, 2000, .inl (upd f_placeMoment v_places.toNatClampNeg mo))), ((am 31), .inl (cA 1, 2000, .inr (.inl f_placeValue))), ((am 32), .inl (cA 2, 2000, .inl f_isFilled))] := hD
  obtain ⟨g_6, eg_6⟩ : ∃ g : Nat → Int32, g = upd f_placeMoment v_places.toNatClampNeg mo := ⟨_, rfl⟩
  rw [← eg_6] at hP hD
  refine lv_aload_n hx hb dX9_lays_30 rfl (lv_at hl 0 rfl) ?_
  refine va_get (D := (dC, dI)) (ci := 9) (v := .ref (am 31)) (C := RX9) (T := TX9) (N := 51) hx hb hts hIX9 hown hK hP 0 rfl rfl 45 (by decide) (hts (.fieldLink RX9 107 "TraitHouseModel" "placeValue" "[J") (by decide +kernel)) (fun _ h9 => h9) rfl dX9_lays_31 ?_
  refine lv_aload_n hx hb dX9_lays_34 rfl (lv_at hl 0 rfl) ?_
  refine va_get (D := (dC, dI)) (ci := 9) (v := .int v_places) (C := RX9) (T := TX9) (N := 51) hx hb hts hIX9 hown hK hP 0 rfl rfl 41 (by decide) (hts (.fieldLink RX9 304 "TraitHouseModel" "places" "I") (by decide +kernel)) (fun _ h9 => h9) rfl dX9_lays_35 ?_
  refine lv_lload hx hb dX9_lays_38 (lv_at hl 4 rfl) ?_
  have h_7 : vp_in v_places 2000 := (vp_in_iff.mpr ⟨by omega, by omega⟩)
  refine va_last hx hb hK hP hD hS 4 1 rfl rfl h_7 dX9_lays_40 (fun H locs hP hD hS => ?_)
  replace hP : va_P (dC, dI) vwCl [((am 0), .inr (9, F9 am v_status v_now v_told v_merges v_taped v_size v_from v_to v_fault v_readFault v_traits v_length v_open v_leaks v_places v_models)), ((am 28), .inl (cA 0, 2000, .inl g_2)), ((am 29), .inl (cA 0, 2000, .inl g_4)), ((am 30), .inl (cA 0, 2000, .inl g_6)), ((am 31), .inl (cA 1, 2000, .inr (.inl (vp_updL f_placeValue v_places.toNatClampNeg va)))), ((am 32), .inl (cA 2, 2000, .inl f_isFilled))] H := hP
  replace hD : va_D A [((am 0), .inr (9, F9 am v_status v_now v_told v_merges v_taped v_size v_from v_to v_fault v_readFault v_traits v_length v_open v_leaks v_places v_models)), ((am 28), .inl (cA 0, 2000, .inl g_2)), ((am 29), .inl (cA 0, 2000, .inl g_4)), ((am 30), .inl (cA 0, 2000, .inl g_6)), ((am 31), .inl (cA 1, 2000, .inr (.inl (vp_updL f_placeValue v_places.toNatClampNeg va)))), ((am 32), .inl (cA 2, 2000, .inl f_isFilled))] := hD
  obtain ⟨g_8, eg_8⟩ : ∃ g : Nat → Int64, g = vp_updL f_placeValue v_places.toNatClampNeg va := ⟨_, rfl⟩
  rw [← eg_8] at hP hD
  refine lv_aload_n hx hb dX9_lays_41 rfl (lv_at hl 0 rfl) ?_
  refine va_get (D := (dC, dI)) (ci := 9) (v := .ref (am 32)) (C := RX9) (T := TX9) (N := 51) hx hb hts hIX9 hown hK hP 0 rfl rfl 46 (by decide) (hts (.fieldLink RX9 110 "TraitHouseModel" "isFilled" "[Z") (by decide +kernel)) (fun _ h9 => h9) rfl dX9_lays_42 ?_
  refine lv_aload_n hx hb dX9_lays_45 rfl (lv_at hl 0 rfl) ?_
  refine va_get (D := (dC, dI)) (ci := 9) (v := .int v_places) (C := RX9) (T := TX9) (N := 51) hx hb hts hIX9 hown hK hP 0 rfl rfl 41 (by decide) (hts (.fieldLink RX9 304 "TraitHouseModel" "places" "I") (by decide +kernel)) (fun _ h9 => h9) rfl dX9_lays_46 ?_
  refine lv_iload hx hb dX9_lays_49 (lv_at hl 5 rfl) ?_
  have h_9 : vp_in v_places 2000 := (vp_in_iff.mpr ⟨by omega, by omega⟩)
  refine va_zast hx hb hK hP hD hS 5 2 rfl rfl h_9 dX9_lays_51 (fun H locs hP hD hS => ?_)
  replace hP : va_P (dC, dI) vwCl [((am 0), .inr (9, F9 am v_status v_now v_told v_merges v_taped v_size v_from v_to v_fault v_readFault v_traits v_length v_open v_leaks v_places v_models)), ((am 28), .inl (cA 0, 2000, .inl g_2)), ((am 29), .inl (cA 0, 2000, .inl g_4)), ((am 30), .inl (cA 0, 2000, .inl g_6)), ((am 31), .inl (cA 1, 2000, .inr (.inl g_8))), ((am 32), .inl (cA 2, 2000, .inl (upd f_isFilled v_places.toNatClampNeg (vp_nar .boolean fi))))] H := hP
  replace hD : va_D A [((am 0), .inr (9, F9 am v_status v_now v_told v_merges v_taped v_size v_from v_to v_fault v_readFault v_traits v_length v_open v_leaks v_places v_models)), ((am 28), .inl (cA 0, 2000, .inl g_2)), ((am 29), .inl (cA 0, 2000, .inl g_4)), ((am 30), .inl (cA 0, 2000, .inl g_6)), ((am 31), .inl (cA 1, 2000, .inr (.inl g_8))), ((am 32), .inl (cA 2, 2000, .inl (upd f_isFilled v_places.toNatClampNeg (vp_nar .boolean fi))))] := hD
  obtain ⟨g_10, eg_10⟩ : ∃ g : Nat → Int32, g = upd f_isFilled v_places.toNatClampNeg (vp_nar .boolean fi) := ⟨_, rfl⟩
  rw [← eg_10] at hP hD
  refine lv_aload_n hx hb dX9_lays_52 rfl (lv_at hl 0 rfl) ?_
  refine lv_dup hx hb dX9_lays_53 rfl ?_
  refine va_get (D := (dC, dI)) (ci := 9) (v := .int v_places) (C := RX9) (T := TX9) (N := 51) hx hb hts hIX9 hown hK hP 0 rfl rfl 41 (by decide) (hts (.fieldLink RX9 304 "TraitHouseModel" "places" "I") (by decide +kernel)) (fun _ h9 => h9) rfl dX9_lays_54 ?_
  refine lv_iconst (v := 1) hx hb dX9_lays_57 (by decide) ?_
  refine lv_iadd hx hb dX9_lays_58 ?_
  refine lv_topi (fun x_11 ex_11 => ?_)
  have dx_11 : x_11.toInt = v_places.toInt + 1 := by rw [ex_11]; exact jI_add rfl (by decide) (by omega) (by omega)
  refine va_put (D := (dC, dI)) (ci := 9) (v := .int x_11) (ty := .int) (C := RX9) (T := TX9) (N := 51) hx hb hts hIX9 tyX9 tyX9_ok nmX9 hown hK hP hD hS 0 rfl rfl 41 (by decide) (hts (.fieldLink RX9 304 "TraitHouseModel" "places" "I") (by decide +kernel)) (fun _ h9 => h9) rfl (by decide +kernel) rfl rfl (Nat.le_of_ble_eq_true rfl) dX9_lays_59 (fun H locs hP hD hS => ?_)
  replace hP : va_P (dC, dI) vwCl [((am 0), .inr (9, F9 am v_status v_now v_told v_merges v_taped v_size v_from v_to v_fault v_readFault v_traits v_length v_open v_leaks x_11 v_models)), ((am 28), .inl (cA 0, 2000, .inl g_2)), ((am 29), .inl (cA 0, 2000, .inl g_4)), ((am 30), .inl (cA 0, 2000, .inl g_6)), ((am 31), .inl (cA 1, 2000, .inr (.inl g_8))), ((am 32), .inl (cA 2, 2000, .inl g_10))] H := hP
  replace hD : va_D A [((am 0), .inr (9, F9 am v_status v_now v_told v_merges v_taped v_size v_from v_to v_fault v_readFault v_traits v_length v_open v_leaks x_11 v_models)), ((am 28), .inl (cA 0, 2000, .inl g_2)), ((am 29), .inl (cA 0, 2000, .inl g_4)), ((am 30), .inl (cA 0, 2000, .inl g_6)), ((am 31), .inl (cA 1, 2000, .inr (.inl g_8))), ((am 32), .inl (cA 2, 2000, .inl g_10))] := hD
  obtain ⟨hP9, hD9⟩ := va_pd (ws' := [((am 0), .inr (9, F9 am v_status v_now v_told v_merges v_taped v_size v_from v_to v_fault v_readFault v_traits v_length v_open v_leaks x_11 v_models)), ((am 28), .inl (cA 0, 2000, .inl g_2)), ((am 29), .inl (cA 0, 2000, .inl g_4)), ((am 30), .inl (cA 0, 2000, .inl g_6)), ((am 31), .inl (cA 1, 2000, .inr (.inl g_8))), ((am 32), .inl (cA 2, 2000, .inl g_10))]) hP hD [0, 1, 2, 3, 4, 5] (by decide) rfl
  subst hQe
  have hpost : (0 ≤ x_11.toInt ∧ x_11.toInt ≤ 2000) ∧ (x_11.toInt = v_places.toInt + 1) := ⟨by omega, by omega⟩
  exact W.vret hx hb hr (fun t ht hW => ⟨⟨(x_11, g_2, g_4, g_6, g_8, g_10), rfl, hpost, by rw [ht]; exact hP9, hD9⟩, hS.F ht⟩) hS.2.2 dX9_lays_62

set_option maxHeartbeats 8000000 in
set_option maxRecDepth 100000 in
theorem k_X9_found (l : Launch) (dC : Nat → ClassId) (dI : Nat → Nat → Nat) (cA : Nat → ClassId) (sz : Nat) (am : Nat → Nat) (v_status : Int32) (v_now : Int32) (v_told : Int32) (v_merges : Int32) (v_taped : Int32) (v_size : Int32) (v_from : Int32) (v_to : Int32) (v_fault : Int32) (v_readFault : Int32) (v_traits : Int32) (v_length : Int32) (v_open : Int32) (v_leaks : Int32) (v_places : Int32) (v_models : Int32) (f_isErased : Nat → Int32) (f_placeTrait : Nat → Int32) (f_placePerson : Nat → Int32) (f_placeMoment : Nat → Int32) (tt : Int32) (pp : Int32) (mo : Int32) (i_v_now : 0 ≤ v_now.toInt ∧ v_now.toInt ≤ 100000) (i_v_told : 0 ≤ v_told.toInt ∧ v_told.toInt ≤ 400) (i_v_taped : 0 ≤ v_taped.toInt ∧ v_taped.toInt ≤ 200) (i_v_size : 0 ≤ v_size.toInt ∧ v_size.toInt ≤ 200) (i_v_from : 0 ≤ v_from.toInt ∧ v_from.toInt ≤ 200) (i_v_to : 0 ≤ v_to.toInt ∧ v_to.toInt ≤ 200) (i_v_traits : 0 ≤ v_traits.toInt ∧ v_traits.toInt ≤ 20) (i_v_length : 0 ≤ v_length.toInt ∧ v_length.toInt ≤ 200) (i_v_open : 0 ≤ v_open.toInt ∧ v_open.toInt ≤ 8) (i_v_places : 0 ≤ v_places.toInt ∧ v_places.toInt ≤ 2000) (i_v_models : 0 ≤ v_models.toInt ∧ v_models.toInt ≤ 10)  : Met l yX9_found wsX9_found ({ frames := 2, cells := 0, slots := 0, locals := 45 }) (va_Pc [.ref (am 0), .int tt, .int pp, .int mo] (fun U => U.heap.size = sz ∧ va_P (dC, dI) vwCl [((am 0), .inr (9, F9 am v_status v_now v_told v_merges v_taped v_size v_from v_to v_fault v_readFault v_traits v_length v_open v_leaks v_places v_models)), ((am 9), .inl (cA 2, 20, .inl f_isErased)), ((am 28), .inl (cA 0, 2000, .inl f_placeTrait)), ((am 29), .inl (cA 0, 2000, .inl f_placePerson)), ((am 30), .inl (cA 0, 2000, .inl f_placeMoment))] U.heap ∧ va_K (dC, dI) vwCl (tyL cA) U ∧ va_D (fun _ => True) [((am 0), .inr (9, F9 am v_status v_now v_told v_merges v_taped v_size v_from v_to v_fault v_readFault v_traits v_length v_open v_leaks v_places v_models)), ((am 9), .inl (cA 2, 20, .inl f_isErased)), ((am 28), .inl (cA 0, 2000, .inl f_placeTrait)), ((am 29), .inl (cA 0, 2000, .inl f_placePerson)), ((am 30), .inl (cA 0, 2000, .inl f_placeMoment))] ∧ nw_ok U)) (va_Qi (fun (r : Int32) (_ : Unit) => ((-1) ≤ r.toInt ∧ r.toInt ≤ 1999)) (fun (_ : Unit) (t : State) => va_P (dC, dI) vwCl [((am 0), .inr (9, F9 am v_status v_now v_told v_merges v_taped v_size v_from v_to v_fault v_readFault v_traits v_length v_open v_leaks v_places v_models)), ((am 9), .inl (cA 2, 20, .inl f_isErased)), ((am 28), .inl (cA 0, 2000, .inl f_placeTrait)), ((am 29), .inl (cA 0, 2000, .inl f_placePerson)), ((am 30), .inl (cA 0, 2000, .inl f_placeMoment))] t.heap ∧ va_D (va_A [((am 0), .inr (9, F9 am v_status v_now v_told v_merges v_taped v_size v_from v_to v_fault v_readFault v_traits v_length v_open v_leaks v_places v_models)), ((am 9), .inl (cA 2, 20, .inl f_isErased)), ((am 28), .inl (cA 0, 2000, .inl f_placeTrait)), ((am 29), .inl (cA 0, 2000, .inl f_placePerson)), ((am 30), .inl (cA 0, 2000, .inl f_placeMoment))] sz) [((am 0), .inr (9, F9 am v_status v_now v_told v_merges v_taped v_size v_from v_to v_fault v_readFault v_traits v_length v_open v_leaks v_places v_models)), ((am 9), .inl (cA 2, 20, .inl f_isErased)), ((am 28), .inl (cA 0, 2000, .inl f_placeTrait)), ((am 29), .inl (cA 0, 2000, .inl f_placePerson)), ((am 30), .inl (cA 0, 2000, .inl f_placeMoment))]) (va_A [((am 0), .inr (9, F9 am v_status v_now v_told v_merges v_taped v_size v_from v_to v_fault v_readFault v_traits v_length v_open v_leaks v_places v_models)), ((am 9), .inl (cA 2, 20, .inl f_isErased)), ((am 28), .inl (cA 0, 2000, .inl f_placeTrait)), ((am 29), .inl (cA 0, 2000, .inl f_placePerson)), ((am 30), .inl (cA 0, 2000, .inl f_placeMoment))] sz)) 0 0 (va_A [((am 0), .inr (9, F9 am v_status v_now v_told v_merges v_taped v_size v_from v_to v_fault v_readFault v_traits v_length v_open v_leaks v_places v_models)), ((am 9), .inl (cA 2, 20, .inl f_isErased)), ((am 28), .inl (cA 0, 2000, .inl f_placeTrait)), ((am 29), .inl (cA 0, 2000, .inl f_placePerson)), ((am 30), .inl (cA 0, 2000, .inl f_placeMoment))] sz) := by
  refine Met.ofW (cc := cX9_found) (maxL := 6) (ret := (some .int)) (by decide) rfl ?_
  intro p e s m args below meth c s₁ B hml hv
  obtain ⟨rfl, hsz, hP, hK, hD0, hN⟩ := hv
  have hx := B.exec
  have hb := B.bytes
  have hr := B.returns
  have hts := atoms_spec (ws := wsX9_found) B.pre
  have hown : s.vm.findClass RX9 = some m.cls := findClass_of_methodNamed B.named
  have hlocks := B.notSynchronized
  subst hsz
  have hD := hD0.self (sz := s.heap.size)
  generalize hAe : va_A [((am 0), .inr (9, F9 am v_status v_now v_told v_merges v_taped v_size v_from v_to v_fault v_readFault v_traits v_length v_open v_leaks v_places v_models)), ((am 9), .inl (cA 2, 20, .inl f_isErased)), ((am 28), .inl (cA 0, 2000, .inl f_placeTrait)), ((am 29), .inl (cA 0, 2000, .inl f_placePerson)), ((am 30), .inl (cA 0, 2000, .inl f_placeMoment))] s.heap.size = A at hD ⊢
  have hA : ∀ q : Nat, s.heap.size ≤ q → A q := fun q h => by rw [← hAe]; exact Or.inr h
  have hS : va_S A s.heap s.heap [] := va_S.rf
  have hIX9 : ∀ w ∈ u_ws RX9 TX9 51, w ∈ wsX9_found := by decide +kernel
  have hl := lv_entry ([.ref (am 0), .int tt, .int pp, .int mo]) (n := 6) (Nat.le_of_ble_eq_true rfl)
  rw [lg_entry_eq]
  generalize (lg_sl ([.ref (am 0), .int tt, .int pp, .int mo]) ++ List.replicate (6 - (lg_sl ([.ref (am 0), .int tt, .int pp, .int mo])).length) Slot.unset).toArray = ls at hl ⊢
  have hl : lv_has ls 6 [(0, .ref (am 0)), (1, .int tt), (2, .int pp), (3, .int mo)] := hl
  generalize hQe : MQ below _ _ _ _ _ _ = QQ
  refine lv_iconst (v := (-1)) hx hb dX9_found_0 (by decide) ?_
  refine lv_istore (lv' := [(4, .int (-1)), (0, .ref (am 0)), (1, .int tt), (2, .int pp), (3, .int mo)]) hx hb dX9_found_1 hl (by decide) rfl (fun ls hl => ?_)
  refine lv_iload_n hx hb dX9_found_3 rfl (lv_at hl 3 rfl) ?_
  obtain ⟨hPc, hDc, hFc, hCc⟩ := va_pre (ws' := []) hP hD hS hA [] (by decide) rfl
  refine va_calli (va_runS (As := [.int pp]) (rest := []) ⟨hx, hb, hml, hown, hts⟩ (k_X9_isPerson l dC dI cA s.heap.size pp ) (va_cwS 1 hts gX9_found_X9_isPerson rfl rfl rfl (by decide +kernel) ⟨Nat.le_of_ble_eq_true rfl, Nat.le_of_ble_eq_true rfl⟩) ⟨fun a U g mk q => by obtain ⟨q0, q1, qP, qK, qD, qN⟩ := q; exact ⟨q0, q1, qP, va_K.moved (u := U) (U := U.calling g mk a) (Vm.Alike.refl U.vm) qK, qD, qN.same rfl⟩, fun U hU hW => ⟨rfl, by rw [hU], by rw [hU]; exact hPc, va_K.moved hW.alike hK, hDc.weaken (fun _ _ _ _ => trivial), hN.warm hW⟩⟩ rfl rfl hl.1 rfl (lv_room (Nat.le_of_ble_eq_true rfl)) dX9_found_4 ⟨Nat.le_of_ble_eq_true rfl, Nat.le_of_ble_eq_true rfl⟩) hS (fun q _ h => hFc q h) hFc (fun r_1 u_2 t H1 locs ht hvm hw_3 hB hz1 hk1 hS => ?_)
  try dsimp only at hw_3 hB
  have po_4 := hw_3
  clear hw_3
  obtain ⟨hP1, hD1⟩ := hB
  rw [ht] at hP1
  obtain ⟨hP, hD⟩ := va_join (wr := [((am 0), .inr (9, F9 am v_status v_now v_told v_merges v_taped v_size v_from v_to v_fault v_readFault v_traits v_length v_open v_leaks v_places v_models)), ((am 9), .inl (cA 2, 20, .inl f_isErased)), ((am 28), .inl (cA 0, 2000, .inl f_placeTrait)), ((am 29), .inl (cA 0, 2000, .inl f_placePerson)), ((am 30), .inl (cA 0, 2000, .inl f_placeMoment))]) (w1 := []) hP hD [] [0, 1, 2, 3, 4] hCc rfl (by decide) (by decide) hk1 hFc hP1 hD1
  clear hz1
  generalize H1 = H at hP hS ⊢
  refine lv_if_eq (tgt := 26) hx hb dX9_found_7 (by decide) (fun c_5 => ?_) (fun c_5 => ?_)
  · have dc_5 : r_1.toInt = 0 := jI_eq c_5 rfl (by decide)
    refine lv_iconst (v := (-1)) hx hb dX9_found_26 (by decide) ?_
    obtain ⟨hP9, hD9⟩ := va_pd (ws' := [((am 0), .inr (9, F9 am v_status v_now v_told v_merges v_taped v_size v_from v_to v_fault v_readFault v_traits v_length v_open v_leaks v_places v_models)), ((am 9), .inl (cA 2, 20, .inl f_isErased)), ((am 28), .inl (cA 0, 2000, .inl f_placeTrait)), ((am 29), .inl (cA 0, 2000, .inl f_placePerson)), ((am 30), .inl (cA 0, 2000, .inl f_placeMoment))]) hP hD [0, 1, 2, 3, 4] (by decide) rfl
    subst hQe
    have hans : ((-1) : Int32).toInt = (-1) := (by decide)
    have hpost : ((-1) ≤ ((-1) : Int32).toInt ∧ ((-1) : Int32).toInt ≤ 1999) := by omega
    exact W.iret (v := (-1)) hx hb hr (fun t ht hW => ⟨⟨(-1), (), rfl, hpost, by rw [ht]; exact hP9, hD9⟩, hS.F ht⟩) hS.2.2 dX9_found_27
  · have dc_5 : ¬ r_1.toInt = 0 := jI_ne c_5 rfl (by decide)
    refine lv_aload_n hx hb dX9_found_10 rfl (lv_at hl 1 rfl) ?_
    refine va_get (D := (dC, dI)) (ci := 9) (v := .ref (am 9)) (C := RX9) (T := TX9) (N := 51) hx hb hts hIX9 hown hK hP 0 rfl rfl 12 (by decide) (hts (.fieldLink RX9 35 "TraitHouseModel" "isErased" "[Z") (by decide +kernel)) (fun _ h9 => h9) rfl dX9_found_11 ?_
    refine lv_iload_n hx hb dX9_found_14 rfl (lv_at hl 3 rfl) ?_
    have h_6 : vp_in pp 20 := (vp_in_iff.mpr ⟨by omega, by omega⟩)
    refine va_zald hx hb hK hP 1 2 rfl rfl h_6 dX9_found_15 ?_
    refine lv_topi (fun x_7 ex_7 => ?_)
    refine lv_if_ne (tgt := 26) hx hb dX9_found_16 (by decide) (fun c_8 => ?_) (fun c_8 => ?_)
    · have dc_8 : ¬ x_7.toInt = 0 := jI_ne c_8 rfl (by decide)
      refine lv_iconst (v := (-1)) hx hb dX9_found_26 (by decide) ?_
      obtain ⟨hP9, hD9⟩ := va_pd (ws' := [((am 0), .inr (9, F9 am v_status v_now v_told v_merges v_taped v_size v_from v_to v_fault v_readFault v_traits v_length v_open v_leaks v_places v_models)), ((am 9), .inl (cA 2, 20, .inl f_isErased)), ((am 28), .inl (cA 0, 2000, .inl f_placeTrait)), ((am 29), .inl (cA 0, 2000, .inl f_placePerson)), ((am 30), .inl (cA 0, 2000, .inl f_placeMoment))]) hP hD [0, 1, 2, 3, 4] (by decide) rfl
      subst hQe
      have hans : ((-1) : Int32).toInt = (-1) := (by decide)
      have hpost : ((-1) ≤ ((-1) : Int32).toInt ∧ ((-1) : Int32).toInt ≤ 1999) := by omega
      exact W.iret (v := (-1)) hx hb hr (fun t ht hW => ⟨⟨(-1), (), rfl, hpost, by rw [ht]; exact hP9, hD9⟩, hS.F ht⟩) hS.2.2 dX9_found_27
    · have dc_8 : x_7.toInt = 0 := jI_eq c_8 rfl (by decide)
      refine lv_iload_n hx hb dX9_found_19 rfl (lv_at hl 4 rfl) ?_
      obtain ⟨hPc, hDc, hFc, hCc⟩ := va_pre (ws' := []) hP hD hS hA [] (by decide) rfl
      refine va_calli (va_runS (As := [.int mo]) (rest := []) ⟨hx, hb, hml, hown, hts⟩ (k_X9_isMoment l dC dI cA H.size mo ) (va_cwS 1 hts gX9_found_X9_isMoment rfl rfl rfl (by decide +kernel) ⟨Nat.le_of_ble_eq_true rfl, Nat.le_of_ble_eq_true rfl⟩) ⟨fun a U g mk q => by obtain ⟨q0, q1, qP, qK, qD, qN⟩ := q; exact ⟨q0, q1, qP, va_K.moved (u := U) (U := U.calling g mk a) (Vm.Alike.refl U.vm) qK, qD, qN.same rfl⟩, fun U hU hW => ⟨rfl, by rw [hU], by rw [hU]; exact hPc, va_K.moved hW.alike hK, hDc.weaken (fun _ _ _ _ => trivial), hN.warm hW⟩⟩ rfl rfl hl.1 rfl (lv_room (Nat.le_of_ble_eq_true rfl)) dX9_found_20 ⟨Nat.le_of_ble_eq_true rfl, Nat.le_of_ble_eq_true rfl⟩) hS (fun q _ h => hFc q h) hFc (fun r_9 u_10 t H1 locs ht hvm hw_11 hB hz1 hk1 hS => ?_)
      try dsimp only at hw_11 hB
      have po_12 := hw_11
      clear hw_11
      obtain ⟨hP1, hD1⟩ := hB
      rw [ht] at hP1
      obtain ⟨hP, hD⟩ := va_join (wr := [((am 0), .inr (9, F9 am v_status v_now v_told v_merges v_taped v_size v_from v_to v_fault v_readFault v_traits v_length v_open v_leaks v_places v_models)), ((am 9), .inl (cA 2, 20, .inl f_isErased)), ((am 28), .inl (cA 0, 2000, .inl f_placeTrait)), ((am 29), .inl (cA 0, 2000, .inl f_placePerson)), ((am 30), .inl (cA 0, 2000, .inl f_placeMoment))]) (w1 := []) hP hD [] [0, 1, 2, 3, 4] hCc rfl (by decide) (by decide) hk1 hFc hP1 hD1
      clear hz1
      generalize H1 = H at hP hS ⊢
      refine lv_if_ne (tgt := 28) hx hb dX9_found_23 (by decide) (fun c_13 => ?_) (fun c_13 => ?_)
      · have dc_13 : ¬ r_9.toInt = 0 := jI_ne c_13 rfl (by decide)
        refine lv_iconst (v := 0) hx hb dX9_found_28 (by decide) ?_
        refine lv_istore (lv' := [(5, .int 0), (4, .int (-1)), (0, .ref (am 0)), (1, .int tt), (2, .int pp), (3, .int mo)]) hx hb dX9_found_29 hl (by decide) rfl (fun ls hl => ?_)
        have loop31_14 : ∀ (n : Nat) (i5 : Int32) (b4 : Int32) (H : Heap) (locs : List Loc) (ls : Array Slot), 2000 - i5.toInt < (n : Int) → (0 ≤ i5.toInt ∧ i5.toInt ≤ 2000) → ((-1) ≤ b4.toInt ∧ b4.toInt ≤ 1999) → va_P (dC, dI) vwCl [((am 0), .inr (9, F9 am v_status v_now v_told v_merges v_taped v_size v_from v_to v_fault v_readFault v_traits v_length v_open v_leaks v_places v_models)), ((am 9), .inl (cA 2, 20, .inl f_isErased)), ((am 28), .inl (cA 0, 2000, .inl f_placeTrait)), ((am 29), .inl (cA 0, 2000, .inl f_placePerson)), ((am 30), .inl (cA 0, 2000, .inl f_placeMoment))] H → va_D A [((am 0), .inr (9, F9 am v_status v_now v_told v_merges v_taped v_size v_from v_to v_fault v_readFault v_traits v_length v_open v_leaks v_places v_models)), ((am 9), .inl (cA 2, 20, .inl f_isErased)), ((am 28), .inl (cA 0, 2000, .inl f_placeTrait)), ((am 29), .inl (cA 0, 2000, .inl f_placePerson)), ((am 30), .inl (cA 0, 2000, .inl f_placeMoment))] → va_S A s.heap H locs → lv_has ls 6 [(5, .int i5), (4, .int b4), (0, .ref (am 0)), (1, .int tt), (2, .int pp), (3, .int mo)] → W p l e ({ frames := 2, cells := 0, slots := 0, locals := 45 }) s m ([.ref (am 0), .int tt, .int pp, .int mo] : List Value).toArray below meth c H locs 0 0 QQ (F0 m 31 ls []) := by
          intro n
          induction n with
          | zero => intro i5 b4 H locs ls hme hv0_31 hv1_31; exfalso; omega
          | succ n ih_31 =>
            intro i5 b4 H locs ls hme_31 hv0_31 hv1_31 hP hD hS hl
            refine lv_iload hx hb dX9_found_31 (lv_at hl 0 rfl) ?_
            refine lv_aload_n hx hb dX9_found_33 rfl (lv_at hl 2 rfl) ?_
            refine va_get (D := (dC, dI)) (ci := 9) (v := .int v_places) (C := RX9) (T := TX9) (N := 51) hx hb hts hIX9 hown hK hP 0 rfl rfl 41 (by decide) (hts (.fieldLink RX9 304 "TraitHouseModel" "places" "I") (by decide +kernel)) (fun _ h9 => h9) rfl dX9_found_34 ?_
            refine lv_icmp_ge (tgt := 109) hx hb dX9_found_37 (by decide) (fun c_15 => ?_) (fun c_15 => ?_)
            · have dc_15 : v_places.toInt ≤ i5.toInt := jI_le c_15 rfl rfl
              refine lv_iload hx hb dX9_found_109 (lv_at hl 1 rfl) ?_
              obtain ⟨hP9, hD9⟩ := va_pd (ws' := [((am 0), .inr (9, F9 am v_status v_now v_told v_merges v_taped v_size v_from v_to v_fault v_readFault v_traits v_length v_open v_leaks v_places v_models)), ((am 9), .inl (cA 2, 20, .inl f_isErased)), ((am 28), .inl (cA 0, 2000, .inl f_placeTrait)), ((am 29), .inl (cA 0, 2000, .inl f_placePerson)), ((am 30), .inl (cA 0, 2000, .inl f_placeMoment))]) hP hD [0, 1, 2, 3, 4] (by decide) rfl
              subst hQe
              have hans : (b4 : Int32).toInt = b4.toInt := rfl
              have hpost : ((-1) ≤ (b4 : Int32).toInt ∧ (b4 : Int32).toInt ≤ 1999) := by omega
              exact W.iret (v := b4) hx hb hr (fun t ht hW => ⟨⟨b4, (), rfl, hpost, by rw [ht]; exact hP9, hD9⟩, hS.F ht⟩) hS.2.2 dX9_found_111
            · have dc_15 : i5.toInt < v_places.toInt := jI_nle c_15 rfl rfl
              refine lv_aload_n hx hb dX9_found_40 rfl (lv_at hl 2 rfl) ?_
              refine va_get (D := (dC, dI)) (ci := 9) (v := .ref (am 28)) (C := RX9) (T := TX9) (N := 51) hx hb hts hIX9 hown hK hP 0 rfl rfl 42 (by decide) (hts (.fieldLink RX9 98 "TraitHouseModel" "placeTrait" "[I") (by decide +kernel)) (fun _ h9 => h9) rfl dX9_found_41 ?_
              refine lv_iload hx hb dX9_found_44 (lv_at hl 0 rfl) ?_
              have h_16 : vp_in i5 2000 := (vp_in_iff.mpr ⟨by omega, by omega⟩)
              refine va_iald hx hb hK hP 2 0 rfl rfl h_16 dX9_found_46 ?_
              refine lv_topi (fun x_17 ex_17 => ?_)
              refine lv_iload_n hx hb dX9_found_47 rfl (lv_at hl 3 rfl) ?_
              refine lv_icmp_ne (tgt := 103) hx hb dX9_found_48 (by decide) (fun c_18 => ?_) (fun c_18 => ?_)
              · have dc_18 : ¬ x_17.toInt = tt.toInt := jI_ne c_18 rfl rfl
                obtain ⟨x_19, ex_19⟩ : ∃ y : Int32, y = i5 + 1 := ⟨_, rfl⟩
                have dx_19 : x_19.toInt = i5.toInt + 1 := by rw [ex_19]; exact jI_add rfl (by decide) (by omega) (by omega)
                refine lv_iinc (v := x_19) (lv' := [(5, .int x_19), (4, .int b4), (0, .ref (am 0)), (1, .int tt), (2, .int pp), (3, .int mo)]) hx hb dX9_found_103 hl (k := 0) rfl (by rw [ex_19]; rfl) (by decide) rfl (fun ls hl => ?_)
                refine lv_goto (tgt := 31) hx hb dX9_found_106 (by decide) ?_
                exact ih_31 x_19 b4 _ _ ls (by omega) (by omega) hv1_31 (hP.sub [0, 1, 2, 3, 4] rfl) (hD.sub [0, 1, 2, 3, 4] (by decide) rfl) hS (lv_sub hl [0, 1, 2, 3, 4, 5] rfl)
              · have dc_18 : x_17.toInt = tt.toInt := jI_eq c_18 rfl rfl
                refine lv_aload_n hx hb dX9_found_51 rfl (lv_at hl 2 rfl) ?_
                refine va_get (D := (dC, dI)) (ci := 9) (v := .ref (am 29)) (C := RX9) (T := TX9) (N := 51) hx hb hts hIX9 hown hK hP 0 rfl rfl 43 (by decide) (hts (.fieldLink RX9 101 "TraitHouseModel" "placePerson" "[I") (by decide +kernel)) (fun _ h9 => h9) rfl dX9_found_52 ?_
                refine lv_iload hx hb dX9_found_55 (lv_at hl 0 rfl) ?_
                have h_20 : vp_in i5 2000 := (vp_in_iff.mpr ⟨by omega, by omega⟩)
                refine va_iald hx hb hK hP 3 0 rfl rfl h_20 dX9_found_57 ?_
                refine lv_topi (fun x_21 ex_21 => ?_)
                refine lv_iload_n hx hb dX9_found_58 rfl (lv_at hl 4 rfl) ?_
                refine lv_icmp_ne (tgt := 103) hx hb dX9_found_59 (by decide) (fun c_22 => ?_) (fun c_22 => ?_)
                · have dc_22 : ¬ x_21.toInt = pp.toInt := jI_ne c_22 rfl rfl
                  obtain ⟨x_23, ex_23⟩ : ∃ y : Int32, y = i5 + 1 := ⟨_, rfl⟩
                  have dx_23 : x_23.toInt = i5.toInt + 1 := by rw [ex_23]; exact jI_add rfl (by decide) (by omega) (by omega)
                  refine lv_iinc (v := x_23) (lv' := [(5, .int x_23), (4, .int b4), (0, .ref (am 0)), (1, .int tt), (2, .int pp), (3, .int mo)]) hx hb dX9_found_103 hl (k := 0) rfl (by rw [ex_23]; rfl) (by decide) rfl (fun ls hl => ?_)
                  refine lv_goto (tgt := 31) hx hb dX9_found_106 (by decide) ?_
                  exact ih_31 x_23 b4 _ _ ls (by omega) (by omega) hv1_31 (hP.sub [0, 1, 2, 3, 4] rfl) (hD.sub [0, 1, 2, 3, 4] (by decide) rfl) hS (lv_sub hl [0, 1, 2, 3, 4, 5] rfl)
                · have dc_22 : x_21.toInt = pp.toInt := jI_eq c_22 rfl rfl
                  refine lv_aload_n hx hb dX9_found_62 rfl (lv_at hl 2 rfl) ?_
                  refine va_get (D := (dC, dI)) (ci := 9) (v := .ref (am 30)) (C := RX9) (T := TX9) (N := 51) hx hb hts hIX9 hown hK hP 0 rfl rfl 44 (by decide) (hts (.fieldLink RX9 104 "TraitHouseModel" "placeMoment" "[I") (by decide +kernel)) (fun _ h9 => h9) rfl dX9_found_63 ?_
                  refine lv_iload hx hb dX9_found_66 (lv_at hl 0 rfl) ?_
                  have h_24 : vp_in i5 2000 := (vp_in_iff.mpr ⟨by omega, by omega⟩)
                  refine va_iald hx hb hK hP 4 0 rfl rfl h_24 dX9_found_68 ?_
                  refine lv_topi (fun x_25 ex_25 => ?_)
                  refine lv_iload_n hx hb dX9_found_69 rfl (lv_at hl 5 rfl) ?_
                  refine lv_icmp_le (tgt := 76) hx hb dX9_found_70 (by decide) (fun c_26 => ?_) (fun c_26 => ?_)
                  · have dc_26 : x_25.toInt ≤ mo.toInt := jI_le c_26 rfl rfl
                    refine lv_iload hx hb dX9_found_76 (lv_at hl 1 rfl) ?_
                    refine lv_iconst (v := (-1)) hx hb dX9_found_78 (by decide) ?_
                    refine lv_icmp_eq (tgt := 99) hx hb dX9_found_79 (by decide) (fun c_27 => ?_) (fun c_27 => ?_)
                    · have dc_27 : b4.toInt = (-1) := jI_eq c_27 rfl (by decide)
                      refine lv_iload hx hb dX9_found_99 (lv_at hl 0 rfl) ?_
                      refine lv_istore (lv' := [(4, .int i5), (5, .int i5), (0, .ref (am 0)), (1, .int tt), (2, .int pp), (3, .int mo)]) hx hb dX9_found_101 hl (by decide) rfl (fun ls hl => ?_)
                      obtain ⟨x_28, ex_28⟩ : ∃ y : Int32, y = i5 + 1 := ⟨_, rfl⟩
                      have dx_28 : x_28.toInt = i5.toInt + 1 := by rw [ex_28]; exact jI_add rfl (by decide) (by omega) (by omega)
                      refine lv_iinc (v := x_28) (lv' := [(5, .int x_28), (4, .int i5), (0, .ref (am 0)), (1, .int tt), (2, .int pp), (3, .int mo)]) hx hb dX9_found_103 hl (k := 1) rfl (by rw [ex_28]; rfl) (by decide) rfl (fun ls hl => ?_)
                      refine lv_goto (tgt := 31) hx hb dX9_found_106 (by decide) ?_
                      exact ih_31 x_28 i5 _ _ ls (by omega) (by omega) (by omega) (hP.sub [0, 1, 2, 3, 4] rfl) (hD.sub [0, 1, 2, 3, 4] (by decide) rfl) hS (lv_sub hl [0, 1, 2, 3, 4, 5] rfl)
                    · have dc_27 : ¬ b4.toInt = (-1) := jI_ne c_27 rfl (by decide)
                      refine lv_aload_n hx hb dX9_found_82 rfl (lv_at hl 2 rfl) ?_
                      refine va_get (D := (dC, dI)) (ci := 9) (v := .ref (am 30)) (C := RX9) (T := TX9) (N := 51) hx hb hts hIX9 hown hK hP 0 rfl rfl 44 (by decide) (hts (.fieldLink RX9 104 "TraitHouseModel" "placeMoment" "[I") (by decide +kernel)) (fun _ h9 => h9) rfl dX9_found_83 ?_
                      refine lv_iload hx hb dX9_found_86 (lv_at hl 0 rfl) ?_
                      have h_29 : vp_in i5 2000 := (vp_in_iff.mpr ⟨by omega, by omega⟩)
                      refine va_iald hx hb hK hP 4 0 rfl rfl h_29 dX9_found_88 ?_
                      refine lv_topi (fun x_30 ex_30 => ?_)
                      refine lv_aload_n hx hb dX9_found_89 rfl (lv_at hl 2 rfl) ?_
                      refine va_get (D := (dC, dI)) (ci := 9) (v := .ref (am 30)) (C := RX9) (T := TX9) (N := 51) hx hb hts hIX9 hown hK hP 0 rfl rfl 44 (by decide) (hts (.fieldLink RX9 104 "TraitHouseModel" "placeMoment" "[I") (by decide +kernel)) (fun _ h9 => h9) rfl dX9_found_90 ?_
                      refine lv_iload hx hb dX9_found_93 (lv_at hl 1 rfl) ?_
                      have h_31 : vp_in b4 2000 := (vp_in_iff.mpr ⟨by omega, by omega⟩)
                      refine va_iald hx hb hK hP 4 0 rfl rfl h_31 dX9_found_95 ?_
                      refine lv_topi (fun x_32 ex_32 => ?_)
                      refine lv_icmp_lt (tgt := 103) hx hb dX9_found_96 (by decide) (fun c_33 => ?_) (fun c_33 => ?_)
                      · have dc_33 : x_30.toInt < x_32.toInt := jI_lt c_33 rfl rfl
                        obtain ⟨x_34, ex_34⟩ : ∃ y : Int32, y = i5 + 1 := ⟨_, rfl⟩
                        have dx_34 : x_34.toInt = i5.toInt + 1 := by rw [ex_34]; exact jI_add rfl (by decide) (by omega) (by omega)
                        refine lv_iinc (v := x_34) (lv' := [(5, .int x_34), (4, .int b4), (0, .ref (am 0)), (1, .int tt), (2, .int pp), (3, .int mo)]) hx hb dX9_found_103 hl (k := 0) rfl (by rw [ex_34]; rfl) (by decide) rfl (fun ls hl => ?_)
                        refine lv_goto (tgt := 31) hx hb dX9_found_106 (by decide) ?_
                        exact ih_31 x_34 b4 _ _ ls (by omega) (by omega) hv1_31 (hP.sub [0, 1, 2, 3, 4] rfl) (hD.sub [0, 1, 2, 3, 4] (by decide) rfl) hS (lv_sub hl [0, 1, 2, 3, 4, 5] rfl)
                      · have dc_33 : x_32.toInt ≤ x_30.toInt := jI_nlt c_33 rfl rfl
                        refine lv_iload hx hb dX9_found_99 (lv_at hl 0 rfl) ?_
                        refine lv_istore (lv' := [(4, .int i5), (5, .int i5), (0, .ref (am 0)), (1, .int tt), (2, .int pp), (3, .int mo)]) hx hb dX9_found_101 hl (by decide) rfl (fun ls hl => ?_)
                        obtain ⟨x_35, ex_35⟩ : ∃ y : Int32, y = i5 + 1 := ⟨_, rfl⟩
                        have dx_35 : x_35.toInt = i5.toInt + 1 := by rw [ex_35]; exact jI_add rfl (by decide) (by omega) (by omega)
                        refine lv_iinc (v := x_35) (lv' := [(5, .int x_35), (4, .int i5), (0, .ref (am 0)), (1, .int tt), (2, .int pp), (3, .int mo)]) hx hb dX9_found_103 hl (k := 1) rfl (by rw [ex_35]; rfl) (by decide) rfl (fun ls hl => ?_)
                        refine lv_goto (tgt := 31) hx hb dX9_found_106 (by decide) ?_
                        exact ih_31 x_35 i5 _ _ ls (by omega) (by omega) (by omega) (hP.sub [0, 1, 2, 3, 4] rfl) (hD.sub [0, 1, 2, 3, 4] (by decide) rfl) hS (lv_sub hl [0, 1, 2, 3, 4, 5] rfl)
                  · have dc_26 : mo.toInt < x_25.toInt := jI_nle c_26 rfl rfl
                    refine lv_goto (tgt := 103) hx hb dX9_found_73 (by decide) ?_
                    obtain ⟨x_36, ex_36⟩ : ∃ y : Int32, y = i5 + 1 := ⟨_, rfl⟩
                    have dx_36 : x_36.toInt = i5.toInt + 1 := by rw [ex_36]; exact jI_add rfl (by decide) (by omega) (by omega)
                    refine lv_iinc (v := x_36) (lv' := [(5, .int x_36), (4, .int b4), (0, .ref (am 0)), (1, .int tt), (2, .int pp), (3, .int mo)]) hx hb dX9_found_103 hl (k := 0) rfl (by rw [ex_36]; rfl) (by decide) rfl (fun ls hl => ?_)
                    refine lv_goto (tgt := 31) hx hb dX9_found_106 (by decide) ?_
                    exact ih_31 x_36 b4 _ _ ls (by omega) (by omega) hv1_31 (hP.sub [0, 1, 2, 3, 4] rfl) (hD.sub [0, 1, 2, 3, 4] (by decide) rfl) hS (lv_sub hl [0, 1, 2, 3, 4, 5] rfl)
        have hk_37 : (0 : Int32).toInt = 0 := by decide
        have hk_38 : ((-1) : Int32).toInt = (-1) := by decide
        exact loop31_14 (Int.toNat (2000 - (0 : Int32).toInt) + 1) 0 (-1) _ _ ls (by omega) (by omega) (by omega) hP hD hS (lv_sub hl [0, 1, 2, 3, 4, 5] rfl)
      · have dc_13 : r_9.toInt = 0 := jI_eq c_13 rfl (by decide)
        refine lv_iconst (v := (-1)) hx hb dX9_found_26 (by decide) ?_
        obtain ⟨hP9, hD9⟩ := va_pd (ws' := [((am 0), .inr (9, F9 am v_status v_now v_told v_merges v_taped v_size v_from v_to v_fault v_readFault v_traits v_length v_open v_leaks v_places v_models)), ((am 9), .inl (cA 2, 20, .inl f_isErased)), ((am 28), .inl (cA 0, 2000, .inl f_placeTrait)), ((am 29), .inl (cA 0, 2000, .inl f_placePerson)), ((am 30), .inl (cA 0, 2000, .inl f_placeMoment))]) hP hD [0, 1, 2, 3, 4] (by decide) rfl
        subst hQe
        have hans : ((-1) : Int32).toInt = (-1) := (by decide)
        have hpost : ((-1) ≤ ((-1) : Int32).toInt ∧ ((-1) : Int32).toInt ≤ 1999) := by omega
        exact W.iret (v := (-1)) hx hb hr (fun t ht hW => ⟨⟨(-1), (), rfl, hpost, by rw [ht]; exact hP9, hD9⟩, hS.F ht⟩) hS.2.2 dX9_found_27

set_option maxHeartbeats 8000000 in
set_option maxRecDepth 100000 in
theorem k_X9_history (l : Launch) (dC : Nat → ClassId) (dI : Nat → Nat → Nat) (cA : Nat → ClassId) (sz : Nat) (am : Nat → Nat) (v_status : Int32) (v_now : Int32) (v_told : Int32) (v_merges : Int32) (v_taped : Int32) (v_size : Int32) (v_from : Int32) (v_to : Int32) (v_fault : Int32) (v_readFault : Int32) (v_traits : Int32) (v_length : Int32) (v_open : Int32) (v_leaks : Int32) (v_places : Int32) (v_models : Int32) (f_isErased : Nat → Int32) (f_placeTrait : Nat → Int32) (f_placePerson : Nat → Int32) (f_placeMoment : Nat → Int32) (f_placeValue : Nat → Int64) (tt : Int32) (pp : Int32) (mo : Int32) (i_v_now : 0 ≤ v_now.toInt ∧ v_now.toInt ≤ 100000) (i_v_told : 0 ≤ v_told.toInt ∧ v_told.toInt ≤ 400) (i_v_taped : 0 ≤ v_taped.toInt ∧ v_taped.toInt ≤ 200) (i_v_size : 0 ≤ v_size.toInt ∧ v_size.toInt ≤ 200) (i_v_from : 0 ≤ v_from.toInt ∧ v_from.toInt ≤ 200) (i_v_to : 0 ≤ v_to.toInt ∧ v_to.toInt ≤ 200) (i_v_traits : 0 ≤ v_traits.toInt ∧ v_traits.toInt ≤ 20) (i_v_length : 0 ≤ v_length.toInt ∧ v_length.toInt ≤ 200) (i_v_open : 0 ≤ v_open.toInt ∧ v_open.toInt ≤ 8) (i_v_places : 0 ≤ v_places.toInt ∧ v_places.toInt ≤ 2000) (i_v_models : 0 ≤ v_models.toInt ∧ v_models.toInt ≤ 10)  : Met l yX9_history wsX9_history ({ frames := 3, cells := 0, slots := 0, locals := 70 }) (va_Pc [.ref (am 0), .int tt, .int pp, .int mo] (fun U => U.heap.size = sz ∧ va_P (dC, dI) vwCl [((am 0), .inr (9, F9 am v_status v_now v_told v_merges v_taped v_size v_from v_to v_fault v_readFault v_traits v_length v_open v_leaks v_places v_models)), ((am 9), .inl (cA 2, 20, .inl f_isErased)), ((am 28), .inl (cA 0, 2000, .inl f_placeTrait)), ((am 29), .inl (cA 0, 2000, .inl f_placePerson)), ((am 30), .inl (cA 0, 2000, .inl f_placeMoment)), ((am 31), .inl (cA 1, 2000, .inr (.inl f_placeValue)))] U.heap ∧ va_K (dC, dI) vwCl (tyL cA) U ∧ va_D (fun _ => True) [((am 0), .inr (9, F9 am v_status v_now v_told v_merges v_taped v_size v_from v_to v_fault v_readFault v_traits v_length v_open v_leaks v_places v_models)), ((am 9), .inl (cA 2, 20, .inl f_isErased)), ((am 28), .inl (cA 0, 2000, .inl f_placeTrait)), ((am 29), .inl (cA 0, 2000, .inl f_placePerson)), ((am 30), .inl (cA 0, 2000, .inl f_placeMoment)), ((am 31), .inl (cA 1, 2000, .inr (.inl f_placeValue)))] ∧ nw_ok U)) (va_Ql (fun (r : Int64) (_ : Unit) => True) (fun (_ : Unit) (t : State) => va_P (dC, dI) vwCl [((am 0), .inr (9, F9 am v_status v_now v_told v_merges v_taped v_size v_from v_to v_fault v_readFault v_traits v_length v_open v_leaks v_places v_models)), ((am 9), .inl (cA 2, 20, .inl f_isErased)), ((am 28), .inl (cA 0, 2000, .inl f_placeTrait)), ((am 29), .inl (cA 0, 2000, .inl f_placePerson)), ((am 30), .inl (cA 0, 2000, .inl f_placeMoment)), ((am 31), .inl (cA 1, 2000, .inr (.inl f_placeValue)))] t.heap ∧ va_D (va_A [((am 0), .inr (9, F9 am v_status v_now v_told v_merges v_taped v_size v_from v_to v_fault v_readFault v_traits v_length v_open v_leaks v_places v_models)), ((am 9), .inl (cA 2, 20, .inl f_isErased)), ((am 28), .inl (cA 0, 2000, .inl f_placeTrait)), ((am 29), .inl (cA 0, 2000, .inl f_placePerson)), ((am 30), .inl (cA 0, 2000, .inl f_placeMoment)), ((am 31), .inl (cA 1, 2000, .inr (.inl f_placeValue)))] sz) [((am 0), .inr (9, F9 am v_status v_now v_told v_merges v_taped v_size v_from v_to v_fault v_readFault v_traits v_length v_open v_leaks v_places v_models)), ((am 9), .inl (cA 2, 20, .inl f_isErased)), ((am 28), .inl (cA 0, 2000, .inl f_placeTrait)), ((am 29), .inl (cA 0, 2000, .inl f_placePerson)), ((am 30), .inl (cA 0, 2000, .inl f_placeMoment)), ((am 31), .inl (cA 1, 2000, .inr (.inl f_placeValue)))]) (va_A [((am 0), .inr (9, F9 am v_status v_now v_told v_merges v_taped v_size v_from v_to v_fault v_readFault v_traits v_length v_open v_leaks v_places v_models)), ((am 9), .inl (cA 2, 20, .inl f_isErased)), ((am 28), .inl (cA 0, 2000, .inl f_placeTrait)), ((am 29), .inl (cA 0, 2000, .inl f_placePerson)), ((am 30), .inl (cA 0, 2000, .inl f_placeMoment)), ((am 31), .inl (cA 1, 2000, .inr (.inl f_placeValue)))] sz)) 0 0 (va_A [((am 0), .inr (9, F9 am v_status v_now v_told v_merges v_taped v_size v_from v_to v_fault v_readFault v_traits v_length v_open v_leaks v_places v_models)), ((am 9), .inl (cA 2, 20, .inl f_isErased)), ((am 28), .inl (cA 0, 2000, .inl f_placeTrait)), ((am 29), .inl (cA 0, 2000, .inl f_placePerson)), ((am 30), .inl (cA 0, 2000, .inl f_placeMoment)), ((am 31), .inl (cA 1, 2000, .inr (.inl f_placeValue)))] sz) := by
  refine Met.ofW (cc := cX9_history) (maxL := 5) (ret := (some .long)) (by decide) rfl ?_
  intro p e s m args below meth c s₁ B hml hv
  obtain ⟨rfl, hsz, hP, hK, hD0, hN⟩ := hv
  have hx := B.exec
  have hb := B.bytes
  have hr := B.returns
  have hts := atoms_spec (ws := wsX9_history) B.pre
  have hown : s.vm.findClass RX9 = some m.cls := findClass_of_methodNamed B.named
  have hlocks := B.notSynchronized
  subst hsz
  have hD := hD0.self (sz := s.heap.size)
  generalize hAe : va_A [((am 0), .inr (9, F9 am v_status v_now v_told v_merges v_taped v_size v_from v_to v_fault v_readFault v_traits v_length v_open v_leaks v_places v_models)), ((am 9), .inl (cA 2, 20, .inl f_isErased)), ((am 28), .inl (cA 0, 2000, .inl f_placeTrait)), ((am 29), .inl (cA 0, 2000, .inl f_placePerson)), ((am 30), .inl (cA 0, 2000, .inl f_placeMoment)), ((am 31), .inl (cA 1, 2000, .inr (.inl f_placeValue)))] s.heap.size = A at hD ⊢
  have hA : ∀ q : Nat, s.heap.size ≤ q → A q := fun q h => by rw [← hAe]; exact Or.inr h
  have hS : va_S A s.heap s.heap [] := va_S.rf
  have hIX9 : ∀ w ∈ u_ws RX9 TX9 51, w ∈ wsX9_history := by decide +kernel
  have hl := lv_entry ([.ref (am 0), .int tt, .int pp, .int mo]) (n := 5) (Nat.le_of_ble_eq_true rfl)
  rw [lg_entry_eq]
  generalize (lg_sl ([.ref (am 0), .int tt, .int pp, .int mo]) ++ List.replicate (5 - (lg_sl ([.ref (am 0), .int tt, .int pp, .int mo])).length) Slot.unset).toArray = ls at hl ⊢
  have hl : lv_has ls 5 [(0, .ref (am 0)), (1, .int tt), (2, .int pp), (3, .int mo)] := hl
  generalize hQe : MQ below _ _ _ _ _ _ = QQ
  refine lv_aload_n hx hb dX9_history_0 rfl (lv_at hl 0 rfl) ?_
  refine lv_iload_n hx hb dX9_history_1 rfl (lv_at hl 1 rfl) ?_
  refine lv_iload_n hx hb dX9_history_2 rfl (lv_at hl 2 rfl) ?_
  refine lv_iload_n hx hb dX9_history_3 rfl (lv_at hl 3 rfl) ?_
  obtain ⟨hPc, hDc, hFc, hCc⟩ := va_pre (ws' := [((am 0), .inr (9, F9 am v_status v_now v_told v_merges v_taped v_size v_from v_to v_fault v_readFault v_traits v_length v_open v_leaks v_places v_models)), ((am 9), .inl (cA 2, 20, .inl f_isErased)), ((am 28), .inl (cA 0, 2000, .inl f_placeTrait)), ((am 29), .inl (cA 0, 2000, .inl f_placePerson)), ((am 30), .inl (cA 0, 2000, .inl f_placeMoment))]) hP hD hS hA [0, 1, 2, 3, 4] (by decide) rfl
  refine va_calli (va_runV (As := [.int tt, .int pp, .int mo]) (rest := []) ⟨hx, hb, hml, hown, hts⟩ (k_X9_found l dC dI cA s.heap.size am v_status v_now v_told v_merges v_taped v_size v_from v_to v_fault v_readFault v_traits v_length v_open v_leaks v_places v_models f_isErased f_placeTrait f_placePerson f_placeMoment tt pp mo i_v_now i_v_told i_v_taped i_v_size i_v_from i_v_to i_v_traits i_v_length i_v_open i_v_places i_v_models) (cwV 3 hts gX9_history_X9_found rfl rfl rfl (by decide +kernel) ⟨Nat.le_of_ble_eq_true rfl, Nat.le_of_ble_eq_true rfl⟩) ⟨fun a U g mk q => by obtain ⟨q0, q1, qP, qK, qD, qN⟩ := q; exact ⟨q0, q1, qP, va_K.moved (u := U) (U := U.calling g mk a) (Vm.Alike.refl U.vm) qK, qD, qN.same rfl⟩, va_recv hK hPc (ci := 9) (q0 := 0) rfl rfl, fun U hU hW => ⟨rfl, by rw [hU], by rw [hU]; exact hPc, va_K.moved hW.alike hK, hDc.weaken (fun _ _ _ _ => trivial), hN.warm hW⟩⟩ rfl rfl hl.1 rfl (lv_room (Nat.le_of_ble_eq_true rfl)) dX9_history_4 ⟨Nat.le_of_ble_eq_true rfl, Nat.le_of_ble_eq_true rfl⟩) hS (fun q _ h => hFc q h) hFc (fun r_1 u_2 t H1 locs ht hvm hw_3 hB hz1 hk1 hS => ?_)
  try dsimp only at hw_3 hB
  have po_4 := hw_3
  clear hw_3
  obtain ⟨hP1, hD1⟩ := hB
  rw [ht] at hP1
  obtain ⟨hP, hD⟩ := va_join (wr := [((am 31), .inl (cA 1, 2000, .inr (.inl f_placeValue)))]) (w1 := [((am 0), .inr (9, F9 am v_status v_now v_told v_merges v_taped v_size v_from v_to v_fault v_readFault v_traits v_length v_open v_leaks v_places v_models)), ((am 9), .inl (cA 2, 20, .inl f_isErased)), ((am 28), .inl (cA 0, 2000, .inl f_placeTrait)), ((am 29), .inl (cA 0, 2000, .inl f_placePerson)), ((am 30), .inl (cA 0, 2000, .inl f_placeMoment))]) hP hD [0, 1, 2, 3, 4] [5] hCc rfl (by decide) (by decide) hk1 hFc hP1 hD1
  clear hz1
  generalize H1 = H at hP hS ⊢
  refine lv_istore (lv' := [(4, .int r_1), (0, .ref (am 0)), (1, .int tt), (2, .int pp), (3, .int mo)]) hx hb dX9_history_7 hl (by decide) rfl (fun ls hl => ?_)
  refine lv_iload hx hb dX9_history_9 (lv_at hl 0 rfl) ?_
  refine lv_iconst (v := (-1)) hx hb dX9_history_11 (by decide) ?_
  refine lv_icmp_ne (tgt := 21) hx hb dX9_history_12 (by decide) (fun c_5 => ?_) (fun c_5 => ?_)
  · have dc_5 : ¬ r_1.toInt = (-1) := jI_ne c_5 rfl (by decide)
    refine lv_aload_n hx hb dX9_history_21 rfl (lv_at hl 1 rfl) ?_
    refine va_get (D := (dC, dI)) (ci := 9) (v := .ref (am 31)) (C := RX9) (T := TX9) (N := 51) hx hb hts hIX9 hown hK hP 1 rfl rfl 45 (by decide) (hts (.fieldLink RX9 107 "TraitHouseModel" "placeValue" "[J") (by decide +kernel)) (fun _ h9 => h9) rfl dX9_history_22 ?_
    refine lv_iload hx hb dX9_history_25 (lv_at hl 0 rfl) ?_
    have h_6 : vp_in r_1 2000 := (vp_in_iff.mpr ⟨by omega, by omega⟩)
    refine va_lald hx hb hK hP 0 1 rfl rfl h_6 dX9_history_27 ?_
    refine lv_topl (fun y_7 ey_7 => ?_)
    obtain ⟨hP9, hD9⟩ := va_pd (ws' := [((am 0), .inr (9, F9 am v_status v_now v_told v_merges v_taped v_size v_from v_to v_fault v_readFault v_traits v_length v_open v_leaks v_places v_models)), ((am 9), .inl (cA 2, 20, .inl f_isErased)), ((am 28), .inl (cA 0, 2000, .inl f_placeTrait)), ((am 29), .inl (cA 0, 2000, .inl f_placePerson)), ((am 30), .inl (cA 0, 2000, .inl f_placeMoment)), ((am 31), .inl (cA 1, 2000, .inr (.inl f_placeValue)))]) hP hD [1, 2, 3, 4, 5, 0] (by decide) rfl
    subst hQe
    have hans : (y_7 : Int64).toInt = y_7.toInt := rfl
    exact W.lret (v := y_7) hx hb hr (fun t ht hW => ⟨⟨y_7, (), rfl, trivial, by rw [ht]; exact hP9, hD9⟩, hS.F ht⟩) hS.2.2 dX9_history_28
  · have dc_5 : r_1.toInt = (-1) := jI_eq c_5 rfl (by decide)
    refine lv_ldc2 hx hb hown (hts (.constantLong RX9 274 (-9000000000000000000)) (by decide +kernel)) dX9_history_15 ?_
    refine lv_goto (tgt := 28) hx hb dX9_history_18 (by decide) ?_
    obtain ⟨hP9, hD9⟩ := va_pd (ws' := [((am 0), .inr (9, F9 am v_status v_now v_told v_merges v_taped v_size v_from v_to v_fault v_readFault v_traits v_length v_open v_leaks v_places v_models)), ((am 9), .inl (cA 2, 20, .inl f_isErased)), ((am 28), .inl (cA 0, 2000, .inl f_placeTrait)), ((am 29), .inl (cA 0, 2000, .inl f_placePerson)), ((am 30), .inl (cA 0, 2000, .inl f_placeMoment)), ((am 31), .inl (cA 1, 2000, .inr (.inl f_placeValue)))]) hP hD [1, 2, 3, 4, 5, 0] (by decide) rfl
    subst hQe
    have hans : ((-9000000000000000000) : Int64).toInt = (-9000000000000000000) := (by decide)
    exact W.lret (v := (-9000000000000000000)) hx hb hr (fun t ht hW => ⟨⟨(-9000000000000000000), (), rfl, trivial, by rw [ht]; exact hP9, hD9⟩, hS.F ht⟩) hS.2.2 dX9_history_28

set_option maxHeartbeats 8000000 in
set_option maxRecDepth 100000 in
theorem k_X9_told (l : Launch) (dC : Nat → ClassId) (dI : Nat → Nat → Nat) (cA : Nat → ClassId) (sz : Nat) (am : Nat → Nat) (v_status : Int32) (v_now : Int32) (v_told : Int32) (v_merges : Int32) (v_taped : Int32) (v_size : Int32) (v_from : Int32) (v_to : Int32) (v_fault : Int32) (v_readFault : Int32) (v_traits : Int32) (v_length : Int32) (v_open : Int32) (v_leaks : Int32) (v_places : Int32) (v_models : Int32) (f_isErased : Nat → Int32) (f_placeTrait : Nat → Int32) (f_placePerson : Nat → Int32) (f_placeMoment : Nat → Int32) (f_isFilled : Nat → Int32) (tt : Int32) (pp : Int32) (mo : Int32) (w : Int32) (i_v_now : 0 ≤ v_now.toInt ∧ v_now.toInt ≤ 100000) (i_v_told : 0 ≤ v_told.toInt ∧ v_told.toInt ≤ 400) (i_v_taped : 0 ≤ v_taped.toInt ∧ v_taped.toInt ≤ 200) (i_v_size : 0 ≤ v_size.toInt ∧ v_size.toInt ≤ 200) (i_v_from : 0 ≤ v_from.toInt ∧ v_from.toInt ≤ 200) (i_v_to : 0 ≤ v_to.toInt ∧ v_to.toInt ≤ 200) (i_v_traits : 0 ≤ v_traits.toInt ∧ v_traits.toInt ≤ 20) (i_v_length : 0 ≤ v_length.toInt ∧ v_length.toInt ≤ 200) (i_v_open : 0 ≤ v_open.toInt ∧ v_open.toInt ≤ 8) (i_v_places : 0 ≤ v_places.toInt ∧ v_places.toInt ≤ 2000) (i_v_models : 0 ≤ v_models.toInt ∧ v_models.toInt ≤ 10)  : Met l yX9_told wsX9_told ({ frames := 3, cells := 0, slots := 0, locals := 70 }) (va_Pc [.ref (am 0), .int tt, .int pp, .int mo, .int w] (fun U => U.heap.size = sz ∧ va_P (dC, dI) vwCl [((am 0), .inr (9, F9 am v_status v_now v_told v_merges v_taped v_size v_from v_to v_fault v_readFault v_traits v_length v_open v_leaks v_places v_models)), ((am 9), .inl (cA 2, 20, .inl f_isErased)), ((am 28), .inl (cA 0, 2000, .inl f_placeTrait)), ((am 29), .inl (cA 0, 2000, .inl f_placePerson)), ((am 30), .inl (cA 0, 2000, .inl f_placeMoment)), ((am 32), .inl (cA 2, 2000, .inl f_isFilled))] U.heap ∧ va_K (dC, dI) vwCl (tyL cA) U ∧ va_D (fun _ => True) [((am 0), .inr (9, F9 am v_status v_now v_told v_merges v_taped v_size v_from v_to v_fault v_readFault v_traits v_length v_open v_leaks v_places v_models)), ((am 9), .inl (cA 2, 20, .inl f_isErased)), ((am 28), .inl (cA 0, 2000, .inl f_placeTrait)), ((am 29), .inl (cA 0, 2000, .inl f_placePerson)), ((am 30), .inl (cA 0, 2000, .inl f_placeMoment)), ((am 32), .inl (cA 2, 2000, .inl f_isFilled))] ∧ nw_ok U)) (va_Qi (fun (r : Int32) (_ : Unit) => True) (fun (_ : Unit) (t : State) => va_P (dC, dI) vwCl [((am 0), .inr (9, F9 am v_status v_now v_told v_merges v_taped v_size v_from v_to v_fault v_readFault v_traits v_length v_open v_leaks v_places v_models)), ((am 9), .inl (cA 2, 20, .inl f_isErased)), ((am 28), .inl (cA 0, 2000, .inl f_placeTrait)), ((am 29), .inl (cA 0, 2000, .inl f_placePerson)), ((am 30), .inl (cA 0, 2000, .inl f_placeMoment)), ((am 32), .inl (cA 2, 2000, .inl f_isFilled))] t.heap ∧ va_D (va_A [((am 0), .inr (9, F9 am v_status v_now v_told v_merges v_taped v_size v_from v_to v_fault v_readFault v_traits v_length v_open v_leaks v_places v_models)), ((am 9), .inl (cA 2, 20, .inl f_isErased)), ((am 28), .inl (cA 0, 2000, .inl f_placeTrait)), ((am 29), .inl (cA 0, 2000, .inl f_placePerson)), ((am 30), .inl (cA 0, 2000, .inl f_placeMoment)), ((am 32), .inl (cA 2, 2000, .inl f_isFilled))] sz) [((am 0), .inr (9, F9 am v_status v_now v_told v_merges v_taped v_size v_from v_to v_fault v_readFault v_traits v_length v_open v_leaks v_places v_models)), ((am 9), .inl (cA 2, 20, .inl f_isErased)), ((am 28), .inl (cA 0, 2000, .inl f_placeTrait)), ((am 29), .inl (cA 0, 2000, .inl f_placePerson)), ((am 30), .inl (cA 0, 2000, .inl f_placeMoment)), ((am 32), .inl (cA 2, 2000, .inl f_isFilled))]) (va_A [((am 0), .inr (9, F9 am v_status v_now v_told v_merges v_taped v_size v_from v_to v_fault v_readFault v_traits v_length v_open v_leaks v_places v_models)), ((am 9), .inl (cA 2, 20, .inl f_isErased)), ((am 28), .inl (cA 0, 2000, .inl f_placeTrait)), ((am 29), .inl (cA 0, 2000, .inl f_placePerson)), ((am 30), .inl (cA 0, 2000, .inl f_placeMoment)), ((am 32), .inl (cA 2, 2000, .inl f_isFilled))] sz)) 0 0 (va_A [((am 0), .inr (9, F9 am v_status v_now v_told v_merges v_taped v_size v_from v_to v_fault v_readFault v_traits v_length v_open v_leaks v_places v_models)), ((am 9), .inl (cA 2, 20, .inl f_isErased)), ((am 28), .inl (cA 0, 2000, .inl f_placeTrait)), ((am 29), .inl (cA 0, 2000, .inl f_placePerson)), ((am 30), .inl (cA 0, 2000, .inl f_placeMoment)), ((am 32), .inl (cA 2, 2000, .inl f_isFilled))] sz) := by
  refine Met.ofW (cc := cX9_told) (maxL := 6) (ret := (some .int)) (by decide) rfl ?_
  intro p e s m args below meth c s₁ B hml hv
  obtain ⟨rfl, hsz, hP, hK, hD0, hN⟩ := hv
  have hx := B.exec
  have hb := B.bytes
  have hr := B.returns
  have hts := atoms_spec (ws := wsX9_told) B.pre
  have hown : s.vm.findClass RX9 = some m.cls := findClass_of_methodNamed B.named
  have hlocks := B.notSynchronized
  subst hsz
  have hD := hD0.self (sz := s.heap.size)
  generalize hAe : va_A [((am 0), .inr (9, F9 am v_status v_now v_told v_merges v_taped v_size v_from v_to v_fault v_readFault v_traits v_length v_open v_leaks v_places v_models)), ((am 9), .inl (cA 2, 20, .inl f_isErased)), ((am 28), .inl (cA 0, 2000, .inl f_placeTrait)), ((am 29), .inl (cA 0, 2000, .inl f_placePerson)), ((am 30), .inl (cA 0, 2000, .inl f_placeMoment)), ((am 32), .inl (cA 2, 2000, .inl f_isFilled))] s.heap.size = A at hD ⊢
  have hA : ∀ q : Nat, s.heap.size ≤ q → A q := fun q h => by rw [← hAe]; exact Or.inr h
  have hS : va_S A s.heap s.heap [] := va_S.rf
  have hIX9 : ∀ w ∈ u_ws RX9 TX9 51, w ∈ wsX9_told := by decide +kernel
  have hl := lv_entry ([.ref (am 0), .int tt, .int pp, .int mo, .int w]) (n := 6) (Nat.le_of_ble_eq_true rfl)
  rw [lg_entry_eq]
  generalize (lg_sl ([.ref (am 0), .int tt, .int pp, .int mo, .int w]) ++ List.replicate (6 - (lg_sl ([.ref (am 0), .int tt, .int pp, .int mo, .int w])).length) Slot.unset).toArray = ls at hl ⊢
  have hl : lv_has ls 6 [(0, .ref (am 0)), (1, .int tt), (2, .int pp), (3, .int mo), (4, .int w)] := hl
  generalize hQe : MQ below _ _ _ _ _ _ = QQ
  refine lv_aload_n hx hb dX9_told_0 rfl (lv_at hl 0 rfl) ?_
  refine lv_iload_n hx hb dX9_told_1 rfl (lv_at hl 1 rfl) ?_
  refine lv_iload_n hx hb dX9_told_2 rfl (lv_at hl 2 rfl) ?_
  refine lv_iload_n hx hb dX9_told_3 rfl (lv_at hl 3 rfl) ?_
  obtain ⟨hPc, hDc, hFc, hCc⟩ := va_pre (ws' := [((am 0), .inr (9, F9 am v_status v_now v_told v_merges v_taped v_size v_from v_to v_fault v_readFault v_traits v_length v_open v_leaks v_places v_models)), ((am 9), .inl (cA 2, 20, .inl f_isErased)), ((am 28), .inl (cA 0, 2000, .inl f_placeTrait)), ((am 29), .inl (cA 0, 2000, .inl f_placePerson)), ((am 30), .inl (cA 0, 2000, .inl f_placeMoment))]) hP hD hS hA [0, 1, 2, 3, 4] (by decide) rfl
  refine va_calli (va_runV (As := [.int tt, .int pp, .int mo]) (rest := []) ⟨hx, hb, hml, hown, hts⟩ (k_X9_found l dC dI cA s.heap.size am v_status v_now v_told v_merges v_taped v_size v_from v_to v_fault v_readFault v_traits v_length v_open v_leaks v_places v_models f_isErased f_placeTrait f_placePerson f_placeMoment tt pp mo i_v_now i_v_told i_v_taped i_v_size i_v_from i_v_to i_v_traits i_v_length i_v_open i_v_places i_v_models) (cwV 3 hts gX9_told_X9_found rfl rfl rfl (by decide +kernel) ⟨Nat.le_of_ble_eq_true rfl, Nat.le_of_ble_eq_true rfl⟩) ⟨fun a U g mk q => by obtain ⟨q0, q1, qP, qK, qD, qN⟩ := q; exact ⟨q0, q1, qP, va_K.moved (u := U) (U := U.calling g mk a) (Vm.Alike.refl U.vm) qK, qD, qN.same rfl⟩, va_recv hK hPc (ci := 9) (q0 := 0) rfl rfl, fun U hU hW => ⟨rfl, by rw [hU], by rw [hU]; exact hPc, va_K.moved hW.alike hK, hDc.weaken (fun _ _ _ _ => trivial), hN.warm hW⟩⟩ rfl rfl hl.1 rfl (lv_room (Nat.le_of_ble_eq_true rfl)) dX9_told_4 ⟨Nat.le_of_ble_eq_true rfl, Nat.le_of_ble_eq_true rfl⟩) hS (fun q _ h => hFc q h) hFc (fun r_1 u_2 t H1 locs ht hvm hw_3 hB hz1 hk1 hS => ?_)
  try dsimp only at hw_3 hB
  have po_4 := hw_3
  clear hw_3
  obtain ⟨hP1, hD1⟩ := hB
  rw [ht] at hP1
  obtain ⟨hP, hD⟩ := va_join (wr := [((am 32), .inl (cA 2, 2000, .inl f_isFilled))]) (w1 := [((am 0), .inr (9, F9 am v_status v_now v_told v_merges v_taped v_size v_from v_to v_fault v_readFault v_traits v_length v_open v_leaks v_places v_models)), ((am 9), .inl (cA 2, 20, .inl f_isErased)), ((am 28), .inl (cA 0, 2000, .inl f_placeTrait)), ((am 29), .inl (cA 0, 2000, .inl f_placePerson)), ((am 30), .inl (cA 0, 2000, .inl f_placeMoment))]) hP hD [0, 1, 2, 3, 4] [5] hCc rfl (by decide) (by decide) hk1 hFc hP1 hD1
  clear hz1
  generalize H1 = H at hP hS ⊢
  refine lv_istore (lv' := [(5, .int r_1), (0, .ref (am 0)), (1, .int tt), (2, .int pp), (3, .int mo), (4, .int w)]) hx hb dX9_told_7 hl (by decide) rfl (fun ls hl => ?_)
  refine lv_iload hx hb dX9_told_9 (lv_at hl 0 rfl) ?_
  refine lv_iconst (v := (-1)) hx hb dX9_told_11 (by decide) ?_
  refine lv_icmp_eq (tgt := 26) hx hb dX9_told_12 (by decide) (fun c_5 => ?_) (fun c_5 => ?_)
  · have dc_5 : r_1.toInt = (-1) := jI_eq c_5 rfl (by decide)
    refine lv_iconst (v := (-1)) hx hb dX9_told_26 (by decide) ?_
    obtain ⟨hP9, hD9⟩ := va_pd (ws' := [((am 0), .inr (9, F9 am v_status v_now v_told v_merges v_taped v_size v_from v_to v_fault v_readFault v_traits v_length v_open v_leaks v_places v_models)), ((am 9), .inl (cA 2, 20, .inl f_isErased)), ((am 28), .inl (cA 0, 2000, .inl f_placeTrait)), ((am 29), .inl (cA 0, 2000, .inl f_placePerson)), ((am 30), .inl (cA 0, 2000, .inl f_placeMoment)), ((am 32), .inl (cA 2, 2000, .inl f_isFilled))]) hP hD [1, 2, 3, 4, 5, 0] (by decide) rfl
    subst hQe
    have hans : ((-1) : Int32).toInt = (-1) := (by decide)
    exact W.iret (v := (-1)) hx hb hr (fun t ht hW => ⟨⟨(-1), (), rfl, trivial, by rw [ht]; exact hP9, hD9⟩, hS.F ht⟩) hS.2.2 dX9_told_27
  · have dc_5 : ¬ r_1.toInt = (-1) := jI_ne c_5 rfl (by decide)
    refine lv_iload hx hb dX9_told_15 (lv_at hl 5 rfl) ?_
    obtain ⟨y_6, ey_6⟩ : ∃ y : Int64, y = w.toInt64 := ⟨_, rfl⟩
    have dy_6 : y_6.toInt = w.toInt := by rw [ey_6]; exact Int32.toInt_toInt64 _
    refine lv_i2l (v := y_6) hx hb dX9_told_17 ey_6.symm ?_
    refine lv_lconst (v := 0) hx hb dX9_told_18 (by decide) ?_
    refine lv_lconst (v := 1) hx hb dX9_told_19 (by decide) ?_
    have hk_7 : (0 : Int64).toInt = 0 := by decide
    have hk_8 : (1 : Int64).toInt = 1 := by decide
    obtain ⟨hPc, hDc, hFc, hCc⟩ := va_pre (ws' := []) hP hD hS hA [] (by decide) rfl
    refine va_calli (va_runS (As := [.long y_6, .long 0, .long 1]) (rest := []) ⟨hx, hb, hml, hown, hts⟩ (k_X9_in l dC dI cA H.size y_6 0 1 ) (va_cwS 3 hts gX9_told_X9_in rfl rfl rfl (by decide +kernel) ⟨Nat.le_of_ble_eq_true rfl, Nat.le_of_ble_eq_true rfl⟩) ⟨fun a U g mk q => by obtain ⟨q0, q1, qP, qK, qD, qN⟩ := q; exact ⟨q0, q1, qP, va_K.moved (u := U) (U := U.calling g mk a) (Vm.Alike.refl U.vm) qK, qD, qN.same rfl⟩, fun U hU hW => ⟨rfl, by rw [hU], by rw [hU]; exact hPc, va_K.moved hW.alike hK, hDc.weaken (fun _ _ _ _ => trivial), hN.warm hW⟩⟩ rfl rfl hl.1 rfl (lv_room (Nat.le_of_ble_eq_true rfl)) dX9_told_20 ⟨Nat.le_of_ble_eq_true rfl, Nat.le_of_ble_eq_true rfl⟩) hS (fun q _ h => hFc q h) hFc (fun r_9 u_10 t H1 locs ht hvm hw_11 hB hz1 hk1 hS => ?_)
    try dsimp only at hw_11 hB
    have po_12 := hw_11
    clear hw_11
    try simp only [hk_7, hk_8] at po_12
    obtain ⟨hP1, hD1⟩ := hB
    rw [ht] at hP1
    obtain ⟨hP, hD⟩ := va_join (wr := [((am 32), .inl (cA 2, 2000, .inl f_isFilled)), ((am 0), .inr (9, F9 am v_status v_now v_told v_merges v_taped v_size v_from v_to v_fault v_readFault v_traits v_length v_open v_leaks v_places v_models)), ((am 9), .inl (cA 2, 20, .inl f_isErased)), ((am 28), .inl (cA 0, 2000, .inl f_placeTrait)), ((am 29), .inl (cA 0, 2000, .inl f_placePerson)), ((am 30), .inl (cA 0, 2000, .inl f_placeMoment))]) (w1 := []) hP hD [] [0, 1, 2, 3, 4, 5] hCc rfl (by decide) (by decide) hk1 hFc hP1 hD1
    clear hz1
    generalize H1 = H at hP hS ⊢
    refine lv_if_ne (tgt := 28) hx hb dX9_told_23 (by decide) (fun c_13 => ?_) (fun c_13 => ?_)
    · have dc_13 : ¬ r_9.toInt = 0 := jI_ne c_13 rfl (by decide)
      refine lv_iload hx hb dX9_told_28 (lv_at hl 5 rfl) ?_
      refine lv_if_ne (tgt := 43) hx hb dX9_told_30 (by decide) (fun c_14 => ?_) (fun c_14 => ?_)
      · have dc_14 : ¬ w.toInt = 0 := jI_ne c_14 rfl (by decide)
        refine lv_aload_n hx hb dX9_told_43 rfl (lv_at hl 1 rfl) ?_
        refine va_get (D := (dC, dI)) (ci := 9) (v := .ref (am 32)) (C := RX9) (T := TX9) (N := 51) hx hb hts hIX9 hown hK hP 1 rfl rfl 46 (by decide) (hts (.fieldLink RX9 110 "TraitHouseModel" "isFilled" "[Z") (by decide +kernel)) (fun _ h9 => h9) rfl dX9_told_44 ?_
        refine lv_iload hx hb dX9_told_47 (lv_at hl 0 rfl) ?_
        have h_15 : vp_in r_1 2000 := (vp_in_iff.mpr ⟨by omega, by omega⟩)
        refine va_zald hx hb hK hP 0 2 rfl rfl h_15 dX9_told_49 ?_
        refine lv_topi (fun x_16 ex_16 => ?_)
        refine lv_if_eq (tgt := 57) hx hb dX9_told_50 (by decide) (fun c_17 => ?_) (fun c_17 => ?_)
        · have dc_17 : x_16.toInt = 0 := jI_eq c_17 rfl (by decide)
          refine lv_iconst (v := 0) hx hb dX9_told_57 (by decide) ?_
          obtain ⟨hP9, hD9⟩ := va_pd (ws' := [((am 0), .inr (9, F9 am v_status v_now v_told v_merges v_taped v_size v_from v_to v_fault v_readFault v_traits v_length v_open v_leaks v_places v_models)), ((am 9), .inl (cA 2, 20, .inl f_isErased)), ((am 28), .inl (cA 0, 2000, .inl f_placeTrait)), ((am 29), .inl (cA 0, 2000, .inl f_placePerson)), ((am 30), .inl (cA 0, 2000, .inl f_placeMoment)), ((am 32), .inl (cA 2, 2000, .inl f_isFilled))]) hP hD [1, 2, 3, 4, 5, 0] (by decide) rfl
          subst hQe
          have hans : (0 : Int32).toInt = 0 := (by decide)
          exact W.iret (v := 0) hx hb hr (fun t ht hW => ⟨⟨0, (), rfl, trivial, by rw [ht]; exact hP9, hD9⟩, hS.F ht⟩) hS.2.2 dX9_told_58
        · have dc_17 : ¬ x_16.toInt = 0 := jI_ne c_17 rfl (by decide)
          refine lv_iconst (v := 1) hx hb dX9_told_53 (by decide) ?_
          refine lv_goto (tgt := 58) hx hb dX9_told_54 (by decide) ?_
          obtain ⟨hP9, hD9⟩ := va_pd (ws' := [((am 0), .inr (9, F9 am v_status v_now v_told v_merges v_taped v_size v_from v_to v_fault v_readFault v_traits v_length v_open v_leaks v_places v_models)), ((am 9), .inl (cA 2, 20, .inl f_isErased)), ((am 28), .inl (cA 0, 2000, .inl f_placeTrait)), ((am 29), .inl (cA 0, 2000, .inl f_placePerson)), ((am 30), .inl (cA 0, 2000, .inl f_placeMoment)), ((am 32), .inl (cA 2, 2000, .inl f_isFilled))]) hP hD [1, 2, 3, 4, 5, 0] (by decide) rfl
          subst hQe
          have hans : (1 : Int32).toInt = 1 := (by decide)
          exact W.iret (v := 1) hx hb hr (fun t ht hW => ⟨⟨1, (), rfl, trivial, by rw [ht]; exact hP9, hD9⟩, hS.F ht⟩) hS.2.2 dX9_told_58
      · have dc_14 : w.toInt = 0 := jI_eq c_14 rfl (by decide)
        refine lv_aload_n hx hb dX9_told_33 rfl (lv_at hl 1 rfl) ?_
        refine va_get (D := (dC, dI)) (ci := 9) (v := .ref (am 30)) (C := RX9) (T := TX9) (N := 51) hx hb hts hIX9 hown hK hP 1 rfl rfl 44 (by decide) (hts (.fieldLink RX9 104 "TraitHouseModel" "placeMoment" "[I") (by decide +kernel)) (fun _ h9 => h9) rfl dX9_told_34 ?_
        refine lv_iload hx hb dX9_told_37 (lv_at hl 0 rfl) ?_
        have h_18 : vp_in r_1 2000 := (vp_in_iff.mpr ⟨by omega, by omega⟩)
        refine va_iald hx hb hK hP 5 0 rfl rfl h_18 dX9_told_39 ?_
        refine lv_topi (fun x_19 ex_19 => ?_)
        refine lv_goto (tgt := 58) hx hb dX9_told_40 (by decide) ?_
        obtain ⟨hP9, hD9⟩ := va_pd (ws' := [((am 0), .inr (9, F9 am v_status v_now v_told v_merges v_taped v_size v_from v_to v_fault v_readFault v_traits v_length v_open v_leaks v_places v_models)), ((am 9), .inl (cA 2, 20, .inl f_isErased)), ((am 28), .inl (cA 0, 2000, .inl f_placeTrait)), ((am 29), .inl (cA 0, 2000, .inl f_placePerson)), ((am 30), .inl (cA 0, 2000, .inl f_placeMoment)), ((am 32), .inl (cA 2, 2000, .inl f_isFilled))]) hP hD [1, 2, 3, 4, 5, 0] (by decide) rfl
        subst hQe
        have hans : (x_19 : Int32).toInt = x_19.toInt := rfl
        exact W.iret (v := x_19) hx hb hr (fun t ht hW => ⟨⟨x_19, (), rfl, trivial, by rw [ht]; exact hP9, hD9⟩, hS.F ht⟩) hS.2.2 dX9_told_58
    · have dc_13 : r_9.toInt = 0 := jI_eq c_13 rfl (by decide)
      refine lv_iconst (v := (-1)) hx hb dX9_told_26 (by decide) ?_
      obtain ⟨hP9, hD9⟩ := va_pd (ws' := [((am 0), .inr (9, F9 am v_status v_now v_told v_merges v_taped v_size v_from v_to v_fault v_readFault v_traits v_length v_open v_leaks v_places v_models)), ((am 9), .inl (cA 2, 20, .inl f_isErased)), ((am 28), .inl (cA 0, 2000, .inl f_placeTrait)), ((am 29), .inl (cA 0, 2000, .inl f_placePerson)), ((am 30), .inl (cA 0, 2000, .inl f_placeMoment)), ((am 32), .inl (cA 2, 2000, .inl f_isFilled))]) hP hD [1, 2, 3, 4, 5, 0] (by decide) rfl
      subst hQe
      have hans : ((-1) : Int32).toInt = (-1) := (by decide)
      exact W.iret (v := (-1)) hx hb hr (fun t ht hW => ⟨⟨(-1), (), rfl, trivial, by rw [ht]; exact hP9, hD9⟩, hS.F ht⟩) hS.2.2 dX9_told_27
