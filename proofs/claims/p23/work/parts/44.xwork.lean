theorem dX7_look_0 : decode cX7_look 0 = .ok (.aload_n 0, 1) := by decide +kernel
theorem dX7_look_1 : decode cX7_look 1 = .ok (.getfield 30, 3) := by decide +kernel
theorem dX7_look_4 : decode cX7_look 4 = .ok (.iload_n 1, 1) := by decide +kernel
theorem dX7_look_5 : decode cX7_look 5 = .ok (.iload_n 3, 1) := by decide +kernel
set_option maxRecDepth 20000 in
theorem ggX7_look_X0_lastOf : GoodIn wsX7_look wsX0_lastOf := goodIn_r _ [10, 11, 12, 13, 14, 15, 8, 16, 34, 35, 36] (by decide +kernel) (by decide +kernel)
set_option maxRecDepth 20000 in
theorem gX7_look_X0_lastOf_n62 : GoodIn wsX7_look (wsX0_lastOf) := ggX7_look_X0_lastOf
theorem dX7_look_6 : decode cX7_look 6 = .ok (.invokevirtual 62, 3) := by decide +kernel
theorem dX7_look_9 : decode cX7_look 9 = .ok (.istore 4, 2) := by decide +kernel
theorem dX7_look_11 : decode cX7_look 11 = .ok (.iconst 0, 1) := by decide +kernel
theorem dX7_look_12 : decode cX7_look 12 = .ok (.istore 5, 2) := by decide +kernel
theorem dX7_look_14 : decode cX7_look 14 = .ok (.iload 5, 2) := by decide +kernel
theorem dX7_look_16 : decode cX7_look 16 = .ok (.bipush 20, 2) := by decide +kernel
theorem dX7_look_18 : decode cX7_look 18 = .ok (.if_icmp .ge 36, 3) := by decide +kernel
theorem dX7_look_54 : decode cX7_look 54 = .ok (.aload_n 0, 1) := by decide +kernel
theorem dX7_look_55 : decode cX7_look 55 = .ok (.iload_n 2, 1) := by decide +kernel
theorem dX7_look_56 : decode cX7_look 56 = .ok (.putfield 68, 3) := by decide +kernel
theorem dX7_look_59 : decode cX7_look 59 = .ok (.aload_n 0, 1) := by decide +kernel
theorem dX7_look_60 : decode cX7_look 60 = .ok (.iconst 0, 1) := by decide +kernel
theorem dX7_look_61 : decode cX7_look 61 = .ok (.putfield 71, 3) := by decide +kernel
theorem dX7_look_64 : decode cX7_look 64 = .ok (.iconst 0, 1) := by decide +kernel
theorem dX7_look_65 : decode cX7_look 65 = .ok (.istore 5, 2) := by decide +kernel
theorem dX7_look_67 : decode cX7_look 67 = .ok (.iload 5, 2) := by decide +kernel
theorem dX7_look_69 : decode cX7_look 69 = .ok (.aload_n 0, 1) := by decide +kernel
theorem dX7_look_70 : decode cX7_look 70 = .ok (.getfield 26, 3) := by decide +kernel
theorem dX7_look_73 : decode cX7_look 73 = .ok (.getfield 74, 3) := by decide +kernel
theorem dX7_look_76 : decode cX7_look 76 = .ok (.if_icmp .ge 76, 3) := by decide +kernel
theorem dX7_look_152 : decode cX7_look 152 = .ok (.return_, 1) := by decide +kernel
theorem dX7_look_79 : decode cX7_look 79 = .ok (.aload_n 0, 1) := by decide +kernel
theorem dX7_look_80 : decode cX7_look 80 = .ok (.getfield 9, 3) := by decide +kernel
theorem dX7_look_83 : decode cX7_look 83 = .ok (.aload_n 0, 1) := by decide +kernel
theorem dX7_look_84 : decode cX7_look 84 = .ok (.getfield 26, 3) := by decide +kernel
theorem dX7_look_87 : decode cX7_look 87 = .ok (.getfield 79, 3) := by decide +kernel
theorem dX7_look_90 : decode cX7_look 90 = .ok (.iload 5, 2) := by decide +kernel
theorem dX7_look_92 : decode cX7_look 92 = .ok (.iaload, 1) := by decide +kernel
theorem dX7_look_93 : decode cX7_look 93 = .ok (.baload, 1) := by decide +kernel
theorem dX7_look_94 : decode cX7_look 94 = .ok (.ifCond .eq 52, 3) := by decide +kernel
theorem dX7_look_146 : decode cX7_look 146 = .ok (.iinc 5 1, 3) := by decide +kernel
theorem dX7_look_149 : decode cX7_look 149 = .ok (.goto (-82), 3) := by decide +kernel
theorem dX7_look_97 : decode cX7_look 97 = .ok (.aload_n 0, 1) := by decide +kernel
theorem dX7_look_98 : decode cX7_look 98 = .ok (.getfield 26, 3) := by decide +kernel
theorem dX7_look_101 : decode cX7_look 101 = .ok (.getfield 82, 3) := by decide +kernel
theorem dX7_look_104 : decode cX7_look 104 = .ok (.iload 5, 2) := by decide +kernel
theorem dX7_look_106 : decode cX7_look 106 = .ok (.iaload, 1) := by decide +kernel
theorem dX7_look_107 : decode cX7_look 107 = .ok (.iload_n 2, 1) := by decide +kernel
theorem dX7_look_108 : decode cX7_look 108 = .ok (.if_icmp .gt 38, 3) := by decide +kernel
theorem dX7_look_111 : decode cX7_look 111 = .ok (.aload_n 0, 1) := by decide +kernel
theorem dX7_look_112 : decode cX7_look 112 = .ok (.getfield 26, 3) := by decide +kernel
theorem dX7_look_115 : decode cX7_look 115 = .ok (.getfield 85, 3) := by decide +kernel
theorem dX7_look_118 : decode cX7_look 118 = .ok (.iload 5, 2) := by decide +kernel
theorem dX7_look_120 : decode cX7_look 120 = .ok (.iaload, 1) := by decide +kernel
theorem dX7_look_121 : decode cX7_look 121 = .ok (.iload_n 3, 1) := by decide +kernel
theorem dX7_look_122 : decode cX7_look 122 = .ok (.if_icmp .gt 24, 3) := by decide +kernel
theorem dX7_look_125 : decode cX7_look 125 = .ok (.aload_n 0, 1) := by decide +kernel
theorem dX7_look_126 : decode cX7_look 126 = .ok (.getfield 15, 3) := by decide +kernel
theorem dX7_look_129 : decode cX7_look 129 = .ok (.aload_n 0, 1) := by decide +kernel
theorem dX7_look_130 : decode cX7_look 130 = .ok (.getfield 71, 3) := by decide +kernel
theorem dX7_look_133 : decode cX7_look 133 = .ok (.iload 5, 2) := by decide +kernel
theorem dX7_look_135 : decode cX7_look 135 = .ok (.iastore, 1) := by decide +kernel
theorem dX7_look_136 : decode cX7_look 136 = .ok (.aload_n 0, 1) := by decide +kernel
theorem dX7_look_137 : decode cX7_look 137 = .ok (.dup, 1) := by decide +kernel
theorem dX7_look_138 : decode cX7_look 138 = .ok (.getfield 71, 3) := by decide +kernel
theorem dX7_look_141 : decode cX7_look 141 = .ok (.iconst 1, 1) := by decide +kernel
theorem dX7_look_142 : decode cX7_look 142 = .ok (.iadd, 1) := by decide +kernel
theorem dX7_look_143 : decode cX7_look 143 = .ok (.putfield 71, 3) := by decide +kernel
theorem dX7_look_21 : decode cX7_look 21 = .ok (.aload_n 0, 1) := by decide +kernel
theorem dX7_look_22 : decode cX7_look 22 = .ok (.getfield 9, 3) := by decide +kernel
theorem dX7_look_25 : decode cX7_look 25 = .ok (.iload 5, 2) := by decide +kernel
theorem dX7_look_27 : decode cX7_look 27 = .ok (.aload_n 0, 1) := by decide +kernel
theorem dX7_look_28 : decode cX7_look 28 = .ok (.getfield 30, 3) := by decide +kernel
theorem dX7_look_31 : decode cX7_look 31 = .ok (.iload 5, 2) := by decide +kernel
theorem dX7_look_33 : decode cX7_look 33 = .ok (.iload_n 3, 1) := by decide +kernel
theorem dX7_look_34 : decode cX7_look 34 = .ok (.invokevirtual 62, 3) := by decide +kernel
theorem dX7_look_37 : decode cX7_look 37 = .ok (.iload 4, 2) := by decide +kernel
theorem dX7_look_39 : decode cX7_look 39 = .ok (.if_icmp .ne 7, 3) := by decide +kernel
theorem dX7_look_46 : decode cX7_look 46 = .ok (.iconst 0, 1) := by decide +kernel
theorem dX7_look_47 : decode cX7_look 47 = .ok (.bastore, 1) := by decide +kernel
theorem dX7_look_48 : decode cX7_look 48 = .ok (.iinc 5 1, 3) := by decide +kernel
theorem dX7_look_51 : decode cX7_look 51 = .ok (.goto (-37), 3) := by decide +kernel
theorem dX7_look_42 : decode cX7_look 42 = .ok (.iconst 1, 1) := by decide +kernel
theorem dX7_look_43 : decode cX7_look 43 = .ok (.goto 4, 3) := by decide +kernel
theorem dX7_push_0 : decode cX7_push 0 = .ok (.aload_n 0, 1) := by decide +kernel
theorem dX7_push_1 : decode cX7_push 1 = .ok (.getfield 88, 3) := by decide +kernel
theorem dX7_push_4 : decode cX7_push 4 = .ok (.sipush 200, 3) := by decide +kernel
theorem dX7_push_7 : decode cX7_push 7 = .ok (.if_icmp .ge 40, 3) := by decide +kernel
theorem dX7_push_47 : decode cX7_push 47 = .ok (.return_, 1) := by decide +kernel
theorem dX7_push_10 : decode cX7_push 10 = .ok (.aload_n 0, 1) := by decide +kernel
theorem dX7_push_11 : decode cX7_push 11 = .ok (.getfield 19, 3) := by decide +kernel
theorem dX7_push_14 : decode cX7_push 14 = .ok (.aload_n 0, 1) := by decide +kernel
theorem dX7_push_15 : decode cX7_push 15 = .ok (.getfield 88, 3) := by decide +kernel
theorem dX7_push_18 : decode cX7_push 18 = .ok (.lload_n 1, 1) := by decide +kernel
theorem dX7_push_19 : decode cX7_push 19 = .ok (.invokestatic 153, 3) := by decide +kernel
theorem dX7_push_22 : decode cX7_push 22 = .ok (.ldc2_w 157, 3) := by decide +kernel
theorem dX7_push_25 : decode cX7_push 25 = .ok (.lcmp, 1) := by decide +kernel
theorem dX7_push_26 : decode cX7_push 26 = .ok (.ifCond .le 9, 3) := by decide +kernel
theorem dX7_push_35 : decode cX7_push 35 = .ok (.lload_n 1, 1) := by decide +kernel
theorem dX7_push_36 : decode cX7_push 36 = .ok (.lastore, 1) := by decide +kernel
theorem dX7_push_37 : decode cX7_push 37 = .ok (.aload_n 0, 1) := by decide +kernel
theorem dX7_push_38 : decode cX7_push 38 = .ok (.dup, 1) := by decide +kernel
theorem dX7_push_39 : decode cX7_push 39 = .ok (.getfield 88, 3) := by decide +kernel
theorem dX7_push_42 : decode cX7_push 42 = .ok (.iconst 1, 1) := by decide +kernel
theorem dX7_push_43 : decode cX7_push 43 = .ok (.iadd, 1) := by decide +kernel
theorem dX7_push_44 : decode cX7_push 44 = .ok (.putfield 88, 3) := by decide +kernel
theorem dX7_push_29 : decode cX7_push 29 = .ok (.ldc2_w 38, 3) := by decide +kernel
theorem dX7_push_32 : decode cX7_push 32 = .ok (.goto 4, 3) := by decide +kernel
theorem dX7_pop_0 : decode cX7_pop 0 = .ok (.aload_n 0, 1) := by decide +kernel
theorem dX7_pop_1 : decode cX7_pop 1 = .ok (.getfield 88, 3) := by decide +kernel
theorem dX7_pop_4 : decode cX7_pop 4 = .ok (.ifCond .ne 7, 3) := by decide +kernel
theorem dX7_pop_11 : decode cX7_pop 11 = .ok (.aload_n 0, 1) := by decide +kernel
theorem dX7_pop_12 : decode cX7_pop 12 = .ok (.dup, 1) := by decide +kernel
theorem dX7_pop_13 : decode cX7_pop 13 = .ok (.getfield 88, 3) := by decide +kernel
theorem dX7_pop_16 : decode cX7_pop 16 = .ok (.iconst 1, 1) := by decide +kernel
theorem dX7_pop_17 : decode cX7_pop 17 = .ok (.isub, 1) := by decide +kernel
theorem dX7_pop_18 : decode cX7_pop 18 = .ok (.putfield 88, 3) := by decide +kernel
theorem dX7_pop_21 : decode cX7_pop 21 = .ok (.aload_n 0, 1) := by decide +kernel
theorem dX7_pop_22 : decode cX7_pop 22 = .ok (.getfield 19, 3) := by decide +kernel
theorem dX7_pop_25 : decode cX7_pop 25 = .ok (.aload_n 0, 1) := by decide +kernel
theorem dX7_pop_26 : decode cX7_pop 26 = .ok (.getfield 88, 3) := by decide +kernel
theorem dX7_pop_29 : decode cX7_pop 29 = .ok (.laload, 1) := by decide +kernel
theorem dX7_pop_30 : decode cX7_pop 30 = .ok (.lreturn, 1) := by decide +kernel
theorem dX7_pop_7 : decode cX7_pop 7 = .ok (.ldc2_w 38, 3) := by decide +kernel
theorem dX7_pop_10 : decode cX7_pop 10 = .ok (.lreturn, 1) := by decide +kernel
theorem dX7_times_0 : decode cX7_times 0 = .ok (.lload_n 0, 1) := by decide +kernel
theorem dX7_times_1 : decode cX7_times 1 = .ok (.lconst 0, 1) := by decide +kernel
theorem dX7_times_2 : decode cX7_times 2 = .ok (.lcmp, 1) := by decide +kernel
theorem dX7_times_3 : decode cX7_times 3 = .ok (.ifCond .eq 23, 3) := by decide +kernel
theorem dX7_times_26 : decode cX7_times 26 = .ok (.lload_n 0, 1) := by decide +kernel
theorem dX7_times_27 : decode cX7_times 27 = .ok (.lload_n 2, 1) := by decide +kernel
theorem dX7_times_28 : decode cX7_times 28 = .ok (.lmul, 1) := by decide +kernel
theorem dX7_times_29 : decode cX7_times 29 = .ok (.lreturn, 1) := by decide +kernel
theorem dX7_times_6 : decode cX7_times 6 = .ok (.lload_n 2, 1) := by decide +kernel
theorem dX7_times_7 : decode cX7_times 7 = .ok (.invokestatic 153, 3) := by decide +kernel
theorem dX7_times_10 : decode cX7_times 10 = .ok (.ldc2_w 157, 3) := by decide +kernel
theorem dX7_times_13 : decode cX7_times 13 = .ok (.lload_n 0, 1) := by decide +kernel
theorem dX7_times_14 : decode cX7_times 14 = .ok (.invokestatic 153, 3) := by decide +kernel
theorem dX7_times_17 : decode cX7_times 17 = .ok (.ldiv, 1) := by decide +kernel
theorem dX7_times_18 : decode cX7_times 18 = .ok (.lcmp, 1) := by decide +kernel
theorem dX7_times_19 : decode cX7_times 19 = .ok (.ifCond .le 7, 3) := by decide +kernel
theorem dX7_times_22 : decode cX7_times 22 = .ok (.ldc2_w 38, 3) := by decide +kernel
theorem dX7_times_25 : decode cX7_times 25 = .ok (.lreturn, 1) := by decide +kernel
theorem dX7_join_0 : decode cX7_join 0 = .ok (.lload_n 1, 1) := by decide +kernel
theorem dX7_join_1 : decode cX7_join 1 = .ok (.ldc2_w 38, 3) := by decide +kernel
theorem dX7_join_4 : decode cX7_join 4 = .ok (.lcmp, 1) := by decide +kernel
theorem dX7_join_5 : decode cX7_join 5 = .ok (.ifCond .eq 11, 3) := by decide +kernel
theorem dX7_join_16 : decode cX7_join 16 = .ok (.ldc2_w 38, 3) := by decide +kernel
theorem dX7_join_19 : decode cX7_join 19 = .ok (.lreturn, 1) := by decide +kernel
theorem dX7_join_8 : decode cX7_join 8 = .ok (.lload_n 3, 1) := by decide +kernel
theorem dX7_join_9 : decode cX7_join 9 = .ok (.ldc2_w 38, 3) := by decide +kernel
theorem dX7_join_12 : decode cX7_join 12 = .ok (.lcmp, 1) := by decide +kernel
theorem dX7_join_13 : decode cX7_join 13 = .ok (.ifCond .ne 7, 3) := by decide +kernel
theorem dX7_join_20 : decode cX7_join 20 = .ok (.iload_n 0, 1) := by decide +kernel
theorem dX7_join_21 : decode cX7_join 21 = .ok (.tableswitch 41 9 11 #[27, 31, 35], 27) := by decide +kernel
theorem dX7_join_62 : decode cX7_join 62 = .ok (.lload_n 3, 1) := by decide +kernel
theorem dX7_join_63 : decode cX7_join 63 = .ok (.lconst 0, 1) := by decide +kernel
theorem dX7_join_64 : decode cX7_join 64 = .ok (.lcmp, 1) := by decide +kernel
theorem dX7_join_65 : decode cX7_join 65 = .ok (.ifCond .ne 9, 3) := by decide +kernel
theorem dX7_join_74 : decode cX7_join 74 = .ok (.lload_n 1, 1) := by decide +kernel
theorem dX7_join_75 : decode cX7_join 75 = .ok (.lload_n 3, 1) := by decide +kernel
theorem dX7_join_76 : decode cX7_join 76 = .ok (.ldiv, 1) := by decide +kernel
theorem dX7_join_77 : decode cX7_join 77 = .ok (.lreturn, 1) := by decide +kernel
theorem dX7_join_68 : decode cX7_join 68 = .ok (.ldc2_w 38, 3) := by decide +kernel
theorem dX7_join_71 : decode cX7_join 71 = .ok (.goto 6, 3) := by decide +kernel
theorem dX7_join_48 : decode cX7_join 48 = .ok (.lload_n 1, 1) := by decide +kernel
theorem dX7_join_49 : decode cX7_join 49 = .ok (.lload_n 3, 1) := by decide +kernel
theorem dX7_join_50 : decode cX7_join 50 = .ok (.ladd, 1) := by decide +kernel
theorem dX7_join_51 : decode cX7_join 51 = .ok (.lreturn, 1) := by decide +kernel
theorem dX7_join_52 : decode cX7_join 52 = .ok (.lload_n 1, 1) := by decide +kernel
theorem dX7_join_53 : decode cX7_join 53 = .ok (.lload_n 3, 1) := by decide +kernel
theorem dX7_join_54 : decode cX7_join 54 = .ok (.lsub, 1) := by decide +kernel
theorem dX7_join_55 : decode cX7_join 55 = .ok (.lreturn, 1) := by decide +kernel
theorem dX7_join_56 : decode cX7_join 56 = .ok (.lload_n 1, 1) := by decide +kernel
theorem dX7_join_57 : decode cX7_join 57 = .ok (.lload_n 3, 1) := by decide +kernel
set_option maxRecDepth 20000 in
theorem ggX7_join_X7_times : GoodIn wsX7_join wsX7_times := goodIn_r _ [5, 6, 7, 8, 9, 10, 1] (by decide +kernel) (by decide +kernel)
set_option maxRecDepth 20000 in
theorem gX7_join_X7_times : GoodIn wsX7_join (va_wsS RX7 150 yX7_times wsX7_times) := goodIn_app (goodIn_of _ (by decide +kernel)) ggX7_join_X7_times
theorem dX7_join_58 : decode cX7_join 58 = .ok (.invokestatic 150, 3) := by decide +kernel
theorem dX7_join_61 : decode cX7_join 61 = .ok (.lreturn, 1) := by decide +kernel
set_option maxHeartbeats 8000000 in
set_option maxRecDepth 100000 in
theorem k_X7_look (l : Launch) (dC : Nat → ClassId) (dI : Nat → Nat → Nat) (cA : Nat → ClassId) (sz : Nat) (ax : Nat → Nat) (xSr : Int32) (xWm : Int32) (xTp : Int32) (xRz : Int32) (xRn : Int32) (xMz : Int32) (gT : Nat → Int32) (gN : Nat → Int32) (gP : Nat → Int32) (gM : Nat → Int32) (gK : Nat → Int32) (gO : Nat → Int32) (gW : Nat → Int32) (pp : Int32) (mo : Int32) (kn : Int32) (i_xSr : 0 ≤ xSr.toInt ∧ xSr.toInt ≤ 400) (i_xTp : 0 ≤ xTp.toInt ∧ xTp.toInt ≤ 200) (i_xRz : 0 ≤ xRz.toInt ∧ xRz.toInt ≤ 400) (i_gT : inB (-1) 19 20 gT) (i_gN : inB 0 100000 20 gN) (i_gP : inB 0 19 400 gP) (i_gW : inB 0 399 400 gW) (hpp : 0 ≤ pp.toInt ∧ pp.toInt ≤ 19) : Met l yX7_look wsX7_look ({ frames := 2, cells := 0, slots := 0, locals := 45 }) (va_Pc [.ref (ax 16), .int pp, .int mo, .int kn] (fun U => U.heap.size = sz ∧ va_P (dC, dI) vwCl [((ax 16), .inr (7, [.ref (ax 1), .ref (ax 7), .ref (ax 15), .ref (ax 17), .ref (ax 18), .ref (ax 19), .ref (ax 20), .int xSr, .int xWm, .int xTp])), ((ax 1), .inr (3, [.ref (ax 2), .ref (ax 3), .ref (ax 4), .ref (ax 5), .ref (ax 6), .int xRz, .int xRn])), ((ax 7), .inr (0, [.ref (ax 8), .ref (ax 9), .int xMz])), ((ax 8), .inl (cA 0, 20, .inl gT)), ((ax 9), .inl (cA 0, 20, .inl gN)), ((ax 2), .inl (cA 0, 400, .inl gP)), ((ax 4), .inl (cA 0, 400, .inl gM)), ((ax 5), .inl (cA 0, 400, .inl gK)), ((ax 17), .inl (cA 2, 20, .inl gO)), ((ax 18), .inl (cA 0, 400, .inl gW))] U.heap ∧ va_K (dC, dI) vwCl (tyL cA) U ∧ va_D (fun _ => True) [((ax 16), .inr (7, [.ref (ax 1), .ref (ax 7), .ref (ax 15), .ref (ax 17), .ref (ax 18), .ref (ax 19), .ref (ax 20), .int xSr, .int xWm, .int xTp])), ((ax 1), .inr (3, [.ref (ax 2), .ref (ax 3), .ref (ax 4), .ref (ax 5), .ref (ax 6), .int xRz, .int xRn])), ((ax 7), .inr (0, [.ref (ax 8), .ref (ax 9), .int xMz])), ((ax 8), .inl (cA 0, 20, .inl gT)), ((ax 9), .inl (cA 0, 20, .inl gN)), ((ax 2), .inl (cA 0, 400, .inl gP)), ((ax 4), .inl (cA 0, 400, .inl gM)), ((ax 5), .inl (cA 0, 400, .inl gK)), ((ax 17), .inl (cA 2, 20, .inl gO)), ((ax 18), .inl (cA 0, 400, .inl gW))] ∧ nw_ok U)) (va_Qv (fun (u : (Nat → Int32) × (Nat → Int32) × Int32 × Int32) => (inB 0 399 400 u.2.1) ∧ (0 ≤ u.2.2.1.toInt ∧ u.2.2.1.toInt ≤ 400)) (fun (u : (Nat → Int32) × (Nat → Int32) × Int32 × Int32) (t : State) => va_P (dC, dI) vwCl [((ax 16), .inr (7, [.ref (ax 1), .ref (ax 7), .ref (ax 15), .ref (ax 17), .ref (ax 18), .ref (ax 19), .ref (ax 20), .int u.2.2.1, .int u.2.2.2, .int xTp])), ((ax 1), .inr (3, [.ref (ax 2), .ref (ax 3), .ref (ax 4), .ref (ax 5), .ref (ax 6), .int xRz, .int xRn])), ((ax 7), .inr (0, [.ref (ax 8), .ref (ax 9), .int xMz])), ((ax 8), .inl (cA 0, 20, .inl gT)), ((ax 9), .inl (cA 0, 20, .inl gN)), ((ax 2), .inl (cA 0, 400, .inl gP)), ((ax 4), .inl (cA 0, 400, .inl gM)), ((ax 5), .inl (cA 0, 400, .inl gK)), ((ax 17), .inl (cA 2, 20, .inl u.1)), ((ax 18), .inl (cA 0, 400, .inl u.2.1))] t.heap ∧ va_D (va_A [((ax 16), .inr (7, [.ref (ax 1), .ref (ax 7), .ref (ax 15), .ref (ax 17), .ref (ax 18), .ref (ax 19), .ref (ax 20), .int xSr, .int xWm, .int xTp])), ((ax 1), .inr (3, [.ref (ax 2), .ref (ax 3), .ref (ax 4), .ref (ax 5), .ref (ax 6), .int xRz, .int xRn])), ((ax 7), .inr (0, [.ref (ax 8), .ref (ax 9), .int xMz])), ((ax 8), .inl (cA 0, 20, .inl gT)), ((ax 9), .inl (cA 0, 20, .inl gN)), ((ax 2), .inl (cA 0, 400, .inl gP)), ((ax 4), .inl (cA 0, 400, .inl gM)), ((ax 5), .inl (cA 0, 400, .inl gK)), ((ax 17), .inl (cA 2, 20, .inl gO)), ((ax 18), .inl (cA 0, 400, .inl gW))] sz) [((ax 16), .inr (7, [.ref (ax 1), .ref (ax 7), .ref (ax 15), .ref (ax 17), .ref (ax 18), .ref (ax 19), .ref (ax 20), .int u.2.2.1, .int u.2.2.2, .int xTp])), ((ax 1), .inr (3, [.ref (ax 2), .ref (ax 3), .ref (ax 4), .ref (ax 5), .ref (ax 6), .int xRz, .int xRn])), ((ax 7), .inr (0, [.ref (ax 8), .ref (ax 9), .int xMz])), ((ax 8), .inl (cA 0, 20, .inl gT)), ((ax 9), .inl (cA 0, 20, .inl gN)), ((ax 2), .inl (cA 0, 400, .inl gP)), ((ax 4), .inl (cA 0, 400, .inl gM)), ((ax 5), .inl (cA 0, 400, .inl gK)), ((ax 17), .inl (cA 2, 20, .inl u.1)), ((ax 18), .inl (cA 0, 400, .inl u.2.1))]) (va_A [((ax 16), .inr (7, [.ref (ax 1), .ref (ax 7), .ref (ax 15), .ref (ax 17), .ref (ax 18), .ref (ax 19), .ref (ax 20), .int xSr, .int xWm, .int xTp])), ((ax 1), .inr (3, [.ref (ax 2), .ref (ax 3), .ref (ax 4), .ref (ax 5), .ref (ax 6), .int xRz, .int xRn])), ((ax 7), .inr (0, [.ref (ax 8), .ref (ax 9), .int xMz])), ((ax 8), .inl (cA 0, 20, .inl gT)), ((ax 9), .inl (cA 0, 20, .inl gN)), ((ax 2), .inl (cA 0, 400, .inl gP)), ((ax 4), .inl (cA 0, 400, .inl gM)), ((ax 5), .inl (cA 0, 400, .inl gK)), ((ax 17), .inl (cA 2, 20, .inl gO)), ((ax 18), .inl (cA 0, 400, .inl gW))] sz)) 0 0 (va_A [((ax 16), .inr (7, [.ref (ax 1), .ref (ax 7), .ref (ax 15), .ref (ax 17), .ref (ax 18), .ref (ax 19), .ref (ax 20), .int xSr, .int xWm, .int xTp])), ((ax 1), .inr (3, [.ref (ax 2), .ref (ax 3), .ref (ax 4), .ref (ax 5), .ref (ax 6), .int xRz, .int xRn])), ((ax 7), .inr (0, [.ref (ax 8), .ref (ax 9), .int xMz])), ((ax 8), .inl (cA 0, 20, .inl gT)), ((ax 9), .inl (cA 0, 20, .inl gN)), ((ax 2), .inl (cA 0, 400, .inl gP)), ((ax 4), .inl (cA 0, 400, .inl gM)), ((ax 5), .inl (cA 0, 400, .inl gK)), ((ax 17), .inl (cA 2, 20, .inl gO)), ((ax 18), .inl (cA 0, 400, .inl gW))] sz) := by
  refine Met.ofW (cc := cX7_look) (maxL := 6) (ret := none) (by decide) rfl ?_
  intro p e s m args below meth c s₁ B hml hv
  obtain ⟨rfl, hsz, hP, hK, hD0, hN⟩ := hv
  have hx := B.exec
  have hb := B.bytes
  have hr := B.returns
  have hts := atoms_spec (ws := wsX7_look) B.pre
  have hown : s.vm.findClass RX7 = some m.cls := findClass_of_methodNamed B.named
  have hlocks := B.notSynchronized
  subst hsz
  have hD := hD0.self (sz := s.heap.size)
  generalize hAe : va_A [((ax 16), .inr (7, [.ref (ax 1), .ref (ax 7), .ref (ax 15), .ref (ax 17), .ref (ax 18), .ref (ax 19), .ref (ax 20), .int xSr, .int xWm, .int xTp])), ((ax 1), .inr (3, [.ref (ax 2), .ref (ax 3), .ref (ax 4), .ref (ax 5), .ref (ax 6), .int xRz, .int xRn])), ((ax 7), .inr (0, [.ref (ax 8), .ref (ax 9), .int xMz])), ((ax 8), .inl (cA 0, 20, .inl gT)), ((ax 9), .inl (cA 0, 20, .inl gN)), ((ax 2), .inl (cA 0, 400, .inl gP)), ((ax 4), .inl (cA 0, 400, .inl gM)), ((ax 5), .inl (cA 0, 400, .inl gK)), ((ax 17), .inl (cA 2, 20, .inl gO)), ((ax 18), .inl (cA 0, 400, .inl gW))] s.heap.size = A at hD ⊢
  have hA : ∀ q : Nat, s.heap.size ≤ q → A q := fun q h => by rw [← hAe]; exact Or.inr h
  have hS : va_S A s.heap s.heap [] := va_S.rf
  have hIX3 : ∀ w ∈ u_ws RX3 TX3 7, w ∈ wsX7_look := by decide +kernel
  have hIX7 : ∀ w ∈ u_ws RX7 TX7 10, w ∈ wsX7_look := by decide +kernel
  have hl := lv_entry ([.ref (ax 16), .int pp, .int mo, .int kn]) (n := 6) (Nat.le_of_ble_eq_true rfl)
  rw [lg_entry_eq]
  generalize (lg_sl ([.ref (ax 16), .int pp, .int mo, .int kn]) ++ List.replicate (6 - (lg_sl ([.ref (ax 16), .int pp, .int mo, .int kn])).length) Slot.unset).toArray = ls at hl ⊢
  have hl : lv_has ls 6 [(0, .ref (ax 16)), (1, .int pp), (2, .int mo), (3, .int kn)] := hl
  generalize hQe : MQ below _ _ _ _ _ _ = QQ
  refine lv_aload_n hx hb dX7_look_0 rfl (lv_at hl 0 rfl) ?_
  refine va_get (D := (dC, dI)) (ci := 7) (v := .ref (ax 7)) (C := RX7) (T := TX7) (N := 10) hx hb hts hIX7 hown hK hP 0 rfl rfl 1 (by decide) (hts (.fieldLink RX7 30 "TraitHouse$Worker" "merges" "LTraitHouse$Merges;") (by decide +kernel)) (fun _ h9 => h9) rfl dX7_look_1 ?_
  refine lv_iload_n hx hb dX7_look_4 rfl (lv_at hl 1 rfl) ?_
  refine lv_iload_n hx hb dX7_look_5 rfl (lv_at hl 3 rfl) ?_
  obtain ⟨hPc, hDc, hFc, hCc⟩ := va_pre (ws' := [((ax 7), .inr (0, [.ref (ax 8), .ref (ax 9), .int xMz])), ((ax 8), .inl (cA 0, 20, .inl gT)), ((ax 9), .inl (cA 0, 20, .inl gN))]) hP hD hS hA [2, 3, 4] (by decide) rfl
  refine va_calli (va_runVN (As := [.int pp, .int kn]) (rest := []) ⟨hx, hb, hml, hown, hts⟩ (k_X0_lastOf l dC dI cA s.heap.size ax xMz gT gN pp kn i_gT i_gN hpp) ⟨(va_cnB 2 hts gX7_look_X0_lastOf_n62 rfl rfl rfl (nw_at hN 50 rfl) (hts (.initialized RX0) (by decide +kernel)) (by decide +kernel) ⟨Nat.le_of_ble_eq_true rfl, Nat.le_of_ble_eq_true rfl⟩), (hts (.instanceMethod yX0_lastOf) (by decide +kernel)), (hts (.selects RX0 yX0_lastOf yX0_lastOf) (by decide +kernel))⟩ ⟨fun a U g mk q => by obtain ⟨q0, q1, qP, qK, qD, qN⟩ := q; exact ⟨q0, q1, qP, va_K.moved (u := U) (U := U.calling g mk a) (Vm.Alike.refl U.vm) qK, qD, qN.same rfl⟩, va_recv hK hPc (ci := 0) (q0 := 0) rfl rfl, fun U hU hW => ⟨rfl, by rw [hU], by rw [hU]; exact hPc, va_K.moved hW.alike hK, hDc.weaken (fun _ _ _ _ => trivial), hN.warm hW⟩⟩ rfl rfl hl.1 rfl (lv_room (Nat.le_of_ble_eq_true rfl)) dX7_look_6 ⟨Nat.le_of_ble_eq_true rfl, Nat.le_of_ble_eq_true rfl⟩) hS (fun q _ h => hFc q h) hFc (fun r_1 u_2 t H1 locs ht hvm hw_3 hB hz1 hk1 hS => ?_)
  try dsimp only at hw_3 hB
  have po_4 := hw_3
  clear hw_3
  obtain ⟨hP1, hD1⟩ := hB
  rw [ht] at hP1
  obtain ⟨hP, hD⟩ := va_join (wr := [((ax 16), .inr (7, [.ref (ax 1), .ref (ax 7), .ref (ax 15), .ref (ax 17), .ref (ax 18), .ref (ax 19), .ref (ax 20), .int xSr, .int xWm, .int xTp])), ((ax 1), .inr (3, [.ref (ax 2), .ref (ax 3), .ref (ax 4), .ref (ax 5), .ref (ax 6), .int xRz, .int xRn])), ((ax 2), .inl (cA 0, 400, .inl gP)), ((ax 4), .inl (cA 0, 400, .inl gM)), ((ax 5), .inl (cA 0, 400, .inl gK)), ((ax 17), .inl (cA 2, 20, .inl gO)), ((ax 18), .inl (cA 0, 400, .inl gW))]) (w1 := [((ax 7), .inr (0, [.ref (ax 8), .ref (ax 9), .int xMz])), ((ax 8), .inl (cA 0, 20, .inl gT)), ((ax 9), .inl (cA 0, 20, .inl gN))]) hP hD [2, 3, 4] [0, 1, 5, 6, 7, 8, 9] hCc rfl (by decide) (by decide) hk1 hFc hP1 hD1
  clear hz1
  generalize H1 = H at hP hS ⊢
  refine lv_istore (lv' := [(4, .int r_1), (0, .ref (ax 16)), (1, .int pp), (2, .int mo), (3, .int kn)]) hx hb dX7_look_9 hl (by decide) rfl (fun ls hl => ?_)
  refine lv_iconst (v := 0) hx hb dX7_look_11 (by decide) ?_
  refine lv_istore (lv' := [(5, .int 0), (4, .int r_1), (0, .ref (ax 16)), (1, .int pp), (2, .int mo), (3, .int kn)]) hx hb dX7_look_12 hl (by decide) rfl (fun ls hl => ?_)
  have loop14_5 : ∀ (n : Nat) (i5 : Int32) (w_gO_14 : Nat → Int32) (H : Heap) (locs : List Loc) (ls : Array Slot), 20 - i5.toInt < (n : Int) → (0 ≤ i5.toInt ∧ i5.toInt ≤ 20) → va_P (dC, dI) vwCl [((ax 16), .inr (7, [.ref (ax 1), .ref (ax 7), .ref (ax 15), .ref (ax 17), .ref (ax 18), .ref (ax 19), .ref (ax 20), .int xSr, .int xWm, .int xTp])), ((ax 1), .inr (3, [.ref (ax 2), .ref (ax 3), .ref (ax 4), .ref (ax 5), .ref (ax 6), .int xRz, .int xRn])), ((ax 2), .inl (cA 0, 400, .inl gP)), ((ax 4), .inl (cA 0, 400, .inl gM)), ((ax 5), .inl (cA 0, 400, .inl gK)), ((ax 17), .inl (cA 2, 20, .inl w_gO_14)), ((ax 18), .inl (cA 0, 400, .inl gW)), ((ax 7), .inr (0, [.ref (ax 8), .ref (ax 9), .int xMz])), ((ax 8), .inl (cA 0, 20, .inl gT)), ((ax 9), .inl (cA 0, 20, .inl gN))] H → va_D A [((ax 16), .inr (7, [.ref (ax 1), .ref (ax 7), .ref (ax 15), .ref (ax 17), .ref (ax 18), .ref (ax 19), .ref (ax 20), .int xSr, .int xWm, .int xTp])), ((ax 1), .inr (3, [.ref (ax 2), .ref (ax 3), .ref (ax 4), .ref (ax 5), .ref (ax 6), .int xRz, .int xRn])), ((ax 2), .inl (cA 0, 400, .inl gP)), ((ax 4), .inl (cA 0, 400, .inl gM)), ((ax 5), .inl (cA 0, 400, .inl gK)), ((ax 17), .inl (cA 2, 20, .inl w_gO_14)), ((ax 18), .inl (cA 0, 400, .inl gW)), ((ax 7), .inr (0, [.ref (ax 8), .ref (ax 9), .int xMz])), ((ax 8), .inl (cA 0, 20, .inl gT)), ((ax 9), .inl (cA 0, 20, .inl gN))] → va_S A s.heap H locs → lv_has ls 6 [(5, .int i5), (4, .int r_1), (0, .ref (ax 16)), (1, .int pp), (2, .int mo), (3, .int kn)] → W p l e ({ frames := 2, cells := 0, slots := 0, locals := 45 }) s m ([.ref (ax 16), .int pp, .int mo, .int kn] : List Value).toArray below meth c H locs 0 0 QQ (F0 m 14 ls []) := by
    intro n
    induction n with
    | zero => intro i5 w_gO_14 H locs ls hme hv0_14; exfalso; omega
    | succ n ih_14 =>
      intro i5 w_gO_14 H locs ls hme_14 hv0_14 hP hD hS hl
      refine lv_iload hx hb dX7_look_14 (lv_at hl 0 rfl) ?_
      refine lv_bipush (v := 20) hx hb dX7_look_16 (by decide) ?_
      refine lv_icmp_ge (tgt := 54) hx hb dX7_look_18 (by decide) (fun c_6 => ?_) (fun c_6 => ?_)
      · have dc_6 : 20 ≤ i5.toInt := jI_le c_6 (by decide) rfl
        refine lv_aload_n hx hb dX7_look_54 rfl (lv_at hl 2 rfl) ?_
        refine lv_iload_n hx hb dX7_look_55 rfl (lv_at hl 4 rfl) ?_
        refine va_put (D := (dC, dI)) (ci := 7) (v := .int mo) (ty := .int) (C := RX7) (T := TX7) (N := 10) hx hb hts hIX7 tyX7 tyX7_ok nmX7 hown hK hP hD hS 0 rfl rfl 8 (by decide) (hts (.fieldLink RX7 68 "TraitHouse$Worker" "moment" "I") (by decide +kernel)) (fun _ h9 => h9) rfl (by decide +kernel) rfl rfl (Nat.le_of_ble_eq_true rfl) dX7_look_56 (fun H locs hP hD hS => ?_)
        replace hP : va_P (dC, dI) vwCl [((ax 16), .inr (7, [.ref (ax 1), .ref (ax 7), .ref (ax 15), .ref (ax 17), .ref (ax 18), .ref (ax 19), .ref (ax 20), .int xSr, .int mo, .int xTp])), ((ax 1), .inr (3, [.ref (ax 2), .ref (ax 3), .ref (ax 4), .ref (ax 5), .ref (ax 6), .int xRz, .int xRn])), ((ax 2), .inl (cA 0, 400, .inl gP)), ((ax 4), .inl (cA 0, 400, .inl gM)), ((ax 5), .inl (cA 0, 400, .inl gK)), ((ax 17), .inl (cA 2, 20, .inl w_gO_14)), ((ax 18), .inl (cA 0, 400, .inl gW)), ((ax 7), .inr (0, [.ref (ax 8), .ref (ax 9), .int xMz])), ((ax 8), .inl (cA 0, 20, .inl gT)), ((ax 9), .inl (cA 0, 20, .inl gN))] H := hP
        replace hD : va_D A [((ax 16), .inr (7, [.ref (ax 1), .ref (ax 7), .ref (ax 15), .ref (ax 17), .ref (ax 18), .ref (ax 19), .ref (ax 20), .int xSr, .int mo, .int xTp])), ((ax 1), .inr (3, [.ref (ax 2), .ref (ax 3), .ref (ax 4), .ref (ax 5), .ref (ax 6), .int xRz, .int xRn])), ((ax 2), .inl (cA 0, 400, .inl gP)), ((ax 4), .inl (cA 0, 400, .inl gM)), ((ax 5), .inl (cA 0, 400, .inl gK)), ((ax 17), .inl (cA 2, 20, .inl w_gO_14)), ((ax 18), .inl (cA 0, 400, .inl gW)), ((ax 7), .inr (0, [.ref (ax 8), .ref (ax 9), .int xMz])), ((ax 8), .inl (cA 0, 20, .inl gT)), ((ax 9), .inl (cA 0, 20, .inl gN))] := hD
        refine lv_aload_n hx hb dX7_look_59 rfl (lv_at hl 2 rfl) ?_
        refine lv_iconst (v := 0) hx hb dX7_look_60 (by decide) ?_
        refine va_put (D := (dC, dI)) (ci := 7) (v := .int 0) (ty := .int) (C := RX7) (T := TX7) (N := 10) hx hb hts hIX7 tyX7 tyX7_ok nmX7 hown hK hP hD hS 0 rfl rfl 7 (by decide) (hts (.fieldLink RX7 71 "TraitHouse$Worker" "seenRows" "I") (by decide +kernel)) (fun _ h9 => h9) rfl (by decide +kernel) rfl rfl (Nat.le_of_ble_eq_true rfl) dX7_look_61 (fun H locs hP hD hS => ?_)
        replace hP : va_P (dC, dI) vwCl [((ax 16), .inr (7, [.ref (ax 1), .ref (ax 7), .ref (ax 15), .ref (ax 17), .ref (ax 18), .ref (ax 19), .ref (ax 20), .int 0, .int mo, .int xTp])), ((ax 1), .inr (3, [.ref (ax 2), .ref (ax 3), .ref (ax 4), .ref (ax 5), .ref (ax 6), .int xRz, .int xRn])), ((ax 2), .inl (cA 0, 400, .inl gP)), ((ax 4), .inl (cA 0, 400, .inl gM)), ((ax 5), .inl (cA 0, 400, .inl gK)), ((ax 17), .inl (cA 2, 20, .inl w_gO_14)), ((ax 18), .inl (cA 0, 400, .inl gW)), ((ax 7), .inr (0, [.ref (ax 8), .ref (ax 9), .int xMz])), ((ax 8), .inl (cA 0, 20, .inl gT)), ((ax 9), .inl (cA 0, 20, .inl gN))] H := hP
        replace hD : va_D A [((ax 16), .inr (7, [.ref (ax 1), .ref (ax 7), .ref (ax 15), .ref (ax 17), .ref (ax 18), .ref (ax 19), .ref (ax 20), .int 0, .int mo, .int xTp])), ((ax 1), .inr (3, [.ref (ax 2), .ref (ax 3), .ref (ax 4), .ref (ax 5), .ref (ax 6), .int xRz, .int xRn])), ((ax 2), .inl (cA 0, 400, .inl gP)), ((ax 4), .inl (cA 0, 400, .inl gM)), ((ax 5), .inl (cA 0, 400, .inl gK)), ((ax 17), .inl (cA 2, 20, .inl w_gO_14)), ((ax 18), .inl (cA 0, 400, .inl gW)), ((ax 7), .inr (0, [.ref (ax 8), .ref (ax 9), .int xMz])), ((ax 8), .inl (cA 0, 20, .inl gT)), ((ax 9), .inl (cA 0, 20, .inl gN))] := hD
        refine lv_iconst (v := 0) hx hb dX7_look_64 (by decide) ?_
        refine lv_istore (lv' := [(5, .int 0), (4, .int r_1), (0, .ref (ax 16)), (1, .int pp), (2, .int mo), (3, .int kn)]) hx hb dX7_look_65 hl (by decide) rfl (fun ls hl => ?_)
        have loop67_7 : ∀ (n : Nat) (i5b : Int32) (w_xSr_67 : Int32) (w_gW_67 : Nat → Int32) (H : Heap) (locs : List Loc) (ls : Array Slot), 400 - i5b.toInt < (n : Int) → (0 ≤ i5b.toInt ∧ i5b.toInt ≤ 400) → (0 ≤ w_xSr_67.toInt ∧ w_xSr_67.toInt ≤ 400) → (inB 0 399 400 w_gW_67) → (w_xSr_67.toInt ≤ i5b.toInt) → va_P (dC, dI) vwCl [((ax 16), .inr (7, [.ref (ax 1), .ref (ax 7), .ref (ax 15), .ref (ax 17), .ref (ax 18), .ref (ax 19), .ref (ax 20), .int w_xSr_67, .int mo, .int xTp])), ((ax 1), .inr (3, [.ref (ax 2), .ref (ax 3), .ref (ax 4), .ref (ax 5), .ref (ax 6), .int xRz, .int xRn])), ((ax 2), .inl (cA 0, 400, .inl gP)), ((ax 4), .inl (cA 0, 400, .inl gM)), ((ax 5), .inl (cA 0, 400, .inl gK)), ((ax 17), .inl (cA 2, 20, .inl w_gO_14)), ((ax 18), .inl (cA 0, 400, .inl w_gW_67)), ((ax 7), .inr (0, [.ref (ax 8), .ref (ax 9), .int xMz])), ((ax 8), .inl (cA 0, 20, .inl gT)), ((ax 9), .inl (cA 0, 20, .inl gN))] H → va_D A [((ax 16), .inr (7, [.ref (ax 1), .ref (ax 7), .ref (ax 15), .ref (ax 17), .ref (ax 18), .ref (ax 19), .ref (ax 20), .int w_xSr_67, .int mo, .int xTp])), ((ax 1), .inr (3, [.ref (ax 2), .ref (ax 3), .ref (ax 4), .ref (ax 5), .ref (ax 6), .int xRz, .int xRn])), ((ax 2), .inl (cA 0, 400, .inl gP)), ((ax 4), .inl (cA 0, 400, .inl gM)), ((ax 5), .inl (cA 0, 400, .inl gK)), ((ax 17), .inl (cA 2, 20, .inl w_gO_14)), ((ax 18), .inl (cA 0, 400, .inl w_gW_67)), ((ax 7), .inr (0, [.ref (ax 8), .ref (ax 9), .int xMz])), ((ax 8), .inl (cA 0, 20, .inl gT)), ((ax 9), .inl (cA 0, 20, .inl gN))] → va_S A s.heap H locs → lv_has ls 6 [(5, .int i5b), (4, .int r_1), (0, .ref (ax 16)), (1, .int pp), (2, .int mo), (3, .int kn)] → W p l e ({ frames := 2, cells := 0, slots := 0, locals := 45 }) s m ([.ref (ax 16), .int pp, .int mo, .int kn] : List Value).toArray below meth c H locs 0 0 QQ (F0 m 67 ls []) := by
          intro n
          induction n with
          | zero => intro i5b w_xSr_67 w_gW_67 H locs ls hme hv0_67 hv1_67 hv2_67 hv3_67; exfalso; omega
          | succ n ih_67 =>
            intro i5b w_xSr_67 w_gW_67 H locs ls hme_67 hv0_67 hv1_67 hv2_67 hv3_67 hP hD hS hl
            refine lv_iload hx hb dX7_look_67 (lv_at hl 0 rfl) ?_
            refine lv_aload_n hx hb dX7_look_69 rfl (lv_at hl 2 rfl) ?_
            refine va_get (D := (dC, dI)) (ci := 7) (v := .ref (ax 1)) (C := RX7) (T := TX7) (N := 10) hx hb hts hIX7 hown hK hP 0 rfl rfl 0 (by decide) (hts (.fieldLink RX7 26 "TraitHouse$Worker" "rows" "LTraitHouse$Rows;") (by decide +kernel)) (fun _ h9 => h9) rfl dX7_look_70 ?_
            refine va_getN (D := (dC, dI)) (ci := 3) (v := .int xRz) (C := RX3) (T := TX3) (N := 7) hx hb hts hIX3 hown hK hP 1 rfl rfl 5 (by decide) (va_Nw.use rfl (nw_at hN 5 rfl)) (fun _ h9 => h9) rfl dX7_look_73 ?_
            refine lv_icmp_ge (tgt := 152) hx hb dX7_look_76 (by decide) (fun c_8 => ?_) (fun c_8 => ?_)
            · have dc_8 : xRz.toInt ≤ i5b.toInt := jI_le c_8 rfl rfl
              obtain ⟨hP9, hD9⟩ := va_pd (ws' := [((ax 16), .inr (7, [.ref (ax 1), .ref (ax 7), .ref (ax 15), .ref (ax 17), .ref (ax 18), .ref (ax 19), .ref (ax 20), .int w_xSr_67, .int mo, .int xTp])), ((ax 1), .inr (3, [.ref (ax 2), .ref (ax 3), .ref (ax 4), .ref (ax 5), .ref (ax 6), .int xRz, .int xRn])), ((ax 7), .inr (0, [.ref (ax 8), .ref (ax 9), .int xMz])), ((ax 8), .inl (cA 0, 20, .inl gT)), ((ax 9), .inl (cA 0, 20, .inl gN)), ((ax 2), .inl (cA 0, 400, .inl gP)), ((ax 4), .inl (cA 0, 400, .inl gM)), ((ax 5), .inl (cA 0, 400, .inl gK)), ((ax 17), .inl (cA 2, 20, .inl w_gO_14)), ((ax 18), .inl (cA 0, 400, .inl w_gW_67))]) hP hD [0, 1, 7, 8, 9, 2, 3, 4, 5, 6] (by decide) rfl
              subst hQe
              have hpost : (inB 0 399 400 w_gW_67) ∧ (0 ≤ w_xSr_67.toInt ∧ w_xSr_67.toInt ≤ 400) := ⟨hv2_67, hv1_67⟩
              exact W.vret hx hb hr (fun t ht hW => ⟨⟨(w_gO_14, w_gW_67, w_xSr_67, mo), rfl, hpost, by rw [ht]; exact hP9, hD9⟩, hS.F ht⟩) hS.2.2 dX7_look_152
            · have dc_8 : i5b.toInt < xRz.toInt := jI_nle c_8 rfl rfl
              refine lv_aload_n hx hb dX7_look_79 rfl (lv_at hl 2 rfl) ?_
              refine va_get (D := (dC, dI)) (ci := 7) (v := .ref (ax 17)) (C := RX7) (T := TX7) (N := 10) hx hb hts hIX7 hown hK hP 0 rfl rfl 3 (by decide) (hts (.fieldLink RX7 9 "TraitHouse$Worker" "ones" "[Z") (by decide +kernel)) (fun _ h9 => h9) rfl dX7_look_80 ?_
              refine lv_aload_n hx hb dX7_look_83 rfl (lv_at hl 2 rfl) ?_
              refine va_get (D := (dC, dI)) (ci := 7) (v := .ref (ax 1)) (C := RX7) (T := TX7) (N := 10) hx hb hts hIX7 hown hK hP 0 rfl rfl 0 (by decide) (hts (.fieldLink RX7 26 "TraitHouse$Worker" "rows" "LTraitHouse$Rows;") (by decide +kernel)) (fun _ h9 => h9) rfl dX7_look_84 ?_
              refine va_getN (D := (dC, dI)) (ci := 3) (v := .ref (ax 2)) (C := RX3) (T := TX3) (N := 7) hx hb hts hIX3 hown hK hP 1 rfl rfl 0 (by decide) (va_Nw.use rfl (nw_at hN 0 rfl)) (fun _ h9 => h9) rfl dX7_look_87 ?_
              refine lv_iload hx hb dX7_look_90 (lv_at hl 0 rfl) ?_
              have h_9 : vp_in i5b 400 := (vp_in_iff.mpr ⟨by omega, by omega⟩)
              refine va_iald hx hb hK hP 2 0 rfl rfl h_9 dX7_look_92 ?_
              refine lv_topi (fun x_10 ex_10 => ?_)
              have bx_10 := i_gP _ (jix h_9)
              rw [← ex_10] at bx_10
              have h_11 : vp_in x_10 20 := (vp_in_iff.mpr ⟨by omega, by omega⟩)
              refine va_zald hx hb hK hP 5 2 rfl rfl h_11 dX7_look_93 ?_
              refine lv_topi (fun x_12 ex_12 => ?_)
              refine lv_if_eq (tgt := 146) hx hb dX7_look_94 (by decide) (fun c_13 => ?_) (fun c_13 => ?_)
              · have dc_13 : x_12.toInt = 0 := jI_eq c_13 rfl (by decide)
                obtain ⟨x_14, ex_14⟩ : ∃ y : Int32, y = i5b + 1 := ⟨_, rfl⟩
                have dx_14 : x_14.toInt = i5b.toInt + 1 := by rw [ex_14]; exact jI_add rfl (by decide) (by omega) (by omega)
                refine lv_iinc (v := x_14) (lv' := [(5, .int x_14), (4, .int r_1), (0, .ref (ax 16)), (1, .int pp), (2, .int mo), (3, .int kn)]) hx hb dX7_look_146 hl (k := 0) rfl (by rw [ex_14]; rfl) (by decide) rfl (fun ls hl => ?_)
                refine lv_goto (tgt := 67) hx hb dX7_look_149 (by decide) ?_
                exact ih_67 x_14 w_xSr_67 w_gW_67 _ _ ls (by omega) (by omega) hv1_67 hv2_67 (by omega) (hP.sub [0, 1, 2, 3, 4, 5, 6, 7, 8, 9] rfl) (hD.sub [0, 1, 2, 3, 4, 5, 6, 7, 8, 9] (by decide) rfl) hS (lv_sub hl [0, 1, 2, 3, 4, 5] rfl)
              · have dc_13 : ¬ x_12.toInt = 0 := jI_ne c_13 rfl (by decide)
                refine lv_aload_n hx hb dX7_look_97 rfl (lv_at hl 2 rfl) ?_
                refine va_get (D := (dC, dI)) (ci := 7) (v := .ref (ax 1)) (C := RX7) (T := TX7) (N := 10) hx hb hts hIX7 hown hK hP 0 rfl rfl 0 (by decide) (hts (.fieldLink RX7 26 "TraitHouse$Worker" "rows" "LTraitHouse$Rows;") (by decide +kernel)) (fun _ h9 => h9) rfl dX7_look_98 ?_
                refine va_getN (D := (dC, dI)) (ci := 3) (v := .ref (ax 4)) (C := RX3) (T := TX3) (N := 7) hx hb hts hIX3 hown hK hP 1 rfl rfl 2 (by decide) (va_Nw.use rfl (nw_at hN 2 rfl)) (fun _ h9 => h9) rfl dX7_look_101 ?_
                refine lv_iload hx hb dX7_look_104 (lv_at hl 0 rfl) ?_
                have h_15 : vp_in i5b 400 := (vp_in_iff.mpr ⟨by omega, by omega⟩)
                refine va_iald hx hb hK hP 3 0 rfl rfl h_15 dX7_look_106 ?_
                refine lv_topi (fun x_16 ex_16 => ?_)
                refine lv_iload_n hx hb dX7_look_107 rfl (lv_at hl 4 rfl) ?_
                refine lv_icmp_gt (tgt := 146) hx hb dX7_look_108 (by decide) (fun c_17 => ?_) (fun c_17 => ?_)
                · have dc_17 : mo.toInt < x_16.toInt := jI_lt c_17 rfl rfl
                  obtain ⟨x_18, ex_18⟩ : ∃ y : Int32, y = i5b + 1 := ⟨_, rfl⟩
                  have dx_18 : x_18.toInt = i5b.toInt + 1 := by rw [ex_18]; exact jI_add rfl (by decide) (by omega) (by omega)
                  refine lv_iinc (v := x_18) (lv' := [(5, .int x_18), (4, .int r_1), (0, .ref (ax 16)), (1, .int pp), (2, .int mo), (3, .int kn)]) hx hb dX7_look_146 hl (k := 0) rfl (by rw [ex_18]; rfl) (by decide) rfl (fun ls hl => ?_)
                  refine lv_goto (tgt := 67) hx hb dX7_look_149 (by decide) ?_
                  exact ih_67 x_18 w_xSr_67 w_gW_67 _ _ ls (by omega) (by omega) hv1_67 hv2_67 (by omega) (hP.sub [0, 1, 2, 3, 4, 5, 6, 7, 8, 9] rfl) (hD.sub [0, 1, 2, 3, 4, 5, 6, 7, 8, 9] (by decide) rfl) hS (lv_sub hl [0, 1, 2, 3, 4, 5] rfl)
                · have dc_17 : x_16.toInt ≤ mo.toInt := jI_nlt c_17 rfl rfl
                  refine lv_aload_n hx hb dX7_look_111 rfl (lv_at hl 2 rfl) ?_
                  refine va_get (D := (dC, dI)) (ci := 7) (v := .ref (ax 1)) (C := RX7) (T := TX7) (N := 10) hx hb hts hIX7 hown hK hP 0 rfl rfl 0 (by decide) (hts (.fieldLink RX7 26 "TraitHouse$Worker" "rows" "LTraitHouse$Rows;") (by decide +kernel)) (fun _ h9 => h9) rfl dX7_look_112 ?_
                  refine va_getN (D := (dC, dI)) (ci := 3) (v := .ref (ax 5)) (C := RX3) (T := TX3) (N := 7) hx hb hts hIX3 hown hK hP 1 rfl rfl 3 (by decide) (va_Nw.use rfl (nw_at hN 3 rfl)) (fun _ h9 => h9) rfl dX7_look_115 ?_
                  refine lv_iload hx hb dX7_look_118 (lv_at hl 0 rfl) ?_
                  have h_19 : vp_in i5b 400 := (vp_in_iff.mpr ⟨by omega, by omega⟩)
                  refine va_iald hx hb hK hP 4 0 rfl rfl h_19 dX7_look_120 ?_
                  refine lv_topi (fun x_20 ex_20 => ?_)
                  refine lv_iload_n hx hb dX7_look_121 rfl (lv_at hl 5 rfl) ?_
                  refine lv_icmp_gt (tgt := 146) hx hb dX7_look_122 (by decide) (fun c_21 => ?_) (fun c_21 => ?_)
                  · have dc_21 : kn.toInt < x_20.toInt := jI_lt c_21 rfl rfl
                    obtain ⟨x_22, ex_22⟩ : ∃ y : Int32, y = i5b + 1 := ⟨_, rfl⟩
                    have dx_22 : x_22.toInt = i5b.toInt + 1 := by rw [ex_22]; exact jI_add rfl (by decide) (by omega) (by omega)
                    refine lv_iinc (v := x_22) (lv' := [(5, .int x_22), (4, .int r_1), (0, .ref (ax 16)), (1, .int pp), (2, .int mo), (3, .int kn)]) hx hb dX7_look_146 hl (k := 0) rfl (by rw [ex_22]; rfl) (by decide) rfl (fun ls hl => ?_)
                    refine lv_goto (tgt := 67) hx hb dX7_look_149 (by decide) ?_
                    exact ih_67 x_22 w_xSr_67 w_gW_67 _ _ ls (by omega) (by omega) hv1_67 hv2_67 (by omega) (hP.sub [0, 1, 2, 3, 4, 5, 6, 7, 8, 9] rfl) (hD.sub [0, 1, 2, 3, 4, 5, 6, 7, 8, 9] (by decide) rfl) hS (lv_sub hl [0, 1, 2, 3, 4, 5] rfl)
                  · have dc_21 : x_20.toInt ≤ kn.toInt := jI_nlt c_21 rfl rfl
                    refine lv_aload_n hx hb dX7_look_125 rfl (lv_at hl 2 rfl) ?_
                    refine va_get (D := (dC, dI)) (ci := 7) (v := .ref (ax 18)) (C := RX7) (T := TX7) (N := 10) hx hb hts hIX7 hown hK hP 0 rfl rfl 4 (by decide) (hts (.fieldLink RX7 15 "TraitHouse$Worker" "seen" "[I") (by decide +kernel)) (fun _ h9 => h9) rfl dX7_look_126 ?_
                    refine lv_aload_n hx hb dX7_look_129 rfl (lv_at hl 2 rfl) ?_
                    refine va_get (D := (dC, dI)) (ci := 7) (v := .int w_xSr_67) (C := RX7) (T := TX7) (N := 10) hx hb hts hIX7 hown hK hP 0 rfl rfl 7 (by decide) (hts (.fieldLink RX7 71 "TraitHouse$Worker" "seenRows" "I") (by decide +kernel)) (fun _ h9 => h9) rfl dX7_look_130 ?_
                    refine lv_iload hx hb dX7_look_133 (lv_at hl 0 rfl) ?_
                    have h_23 : vp_in w_xSr_67 400 := (vp_in_iff.mpr ⟨by omega, by omega⟩)
                    refine va_iast hx hb hK hP hD hS 6 0 rfl rfl h_23 dX7_look_135 (fun H locs hP hD hS => ?_)
                    replace hP : va_P (dC, dI) vwCl [((ax 16), .inr (7, [.ref (ax 1), .ref (ax 7), .ref (ax 15), .ref (ax 17), .ref (ax 18), .ref (ax 19), .ref (ax 20), .int w_xSr_67, .int mo, .int xTp])), ((ax 1), .inr (3, [.ref (ax 2), .ref (ax 3), .ref (ax 4), .ref (ax 5), .ref (ax 6), .int xRz, .int xRn])), ((ax 2), .inl (cA 0, 400, .inl gP)), ((ax 4), .inl (cA 0, 400, .inl gM)), ((ax 5), .inl (cA 0, 400, .inl gK)), ((ax 17), .inl (cA 2, 20, .inl w_gO_14)), ((ax 18), .inl (cA 0, 400, .inl (upd w_gW_67 w_xSr_67.toNatClampNeg i5b))), ((ax 7), .inr (0, [.ref (ax 8), .ref (ax 9), .int xMz])), ((ax 8), .inl (cA 0, 20, .inl gT)), ((ax 9), .inl (cA 0, 20, .inl gN))] H := hP
                    replace hD : va_D A [((ax 16), .inr (7, [.ref (ax 1), .ref (ax 7), .ref (ax 15), .ref (ax 17), .ref (ax 18), .ref (ax 19), .ref (ax 20), .int w_xSr_67, .int mo, .int xTp])), ((ax 1), .inr (3, [.ref (ax 2), .ref (ax 3), .ref (ax 4), .ref (ax 5), .ref (ax 6), .int xRz, .int xRn])), ((ax 2), .inl (cA 0, 400, .inl gP)), ((ax 4), .inl (cA 0, 400, .inl gM)), ((ax 5), .inl (cA 0, 400, .inl gK)), ((ax 17), .inl (cA 2, 20, .inl w_gO_14)), ((ax 18), .inl (cA 0, 400, .inl (upd w_gW_67 w_xSr_67.toNatClampNeg i5b))), ((ax 7), .inr (0, [.ref (ax 8), .ref (ax 9), .int xMz])), ((ax 8), .inl (cA 0, 20, .inl gT)), ((ax 9), .inl (cA 0, 20, .inl gN))] := hD
                    obtain ⟨g_24, eg_24⟩ : ∃ g : Nat → Int32, g = upd w_gW_67 w_xSr_67.toNatClampNeg i5b := ⟨_, rfl⟩
                    rw [← eg_24] at hP hD
                    have ig_24 : inB 0 399 400 g_24 := by rw [eg_24]; exact inB_upd hv2_67 (by omega) (by omega)
                    refine lv_aload_n hx hb dX7_look_136 rfl (lv_at hl 2 rfl) ?_
                    refine lv_dup hx hb dX7_look_137 rfl ?_
                    refine va_get (D := (dC, dI)) (ci := 7) (v := .int w_xSr_67) (C := RX7) (T := TX7) (N := 10) hx hb hts hIX7 hown hK hP 0 rfl rfl 7 (by decide) (hts (.fieldLink RX7 71 "TraitHouse$Worker" "seenRows" "I") (by decide +kernel)) (fun _ h9 => h9) rfl dX7_look_138 ?_
                    refine lv_iconst (v := 1) hx hb dX7_look_141 (by decide) ?_
                    refine lv_iadd hx hb dX7_look_142 ?_
                    refine lv_topi (fun x_25 ex_25 => ?_)
                    have dx_25 : x_25.toInt = w_xSr_67.toInt + 1 := by rw [ex_25]; exact jI_add rfl (by decide) (by omega) (by omega)
                    refine va_put (D := (dC, dI)) (ci := 7) (v := .int x_25) (ty := .int) (C := RX7) (T := TX7) (N := 10) hx hb hts hIX7 tyX7 tyX7_ok nmX7 hown hK hP hD hS 0 rfl rfl 7 (by decide) (hts (.fieldLink RX7 71 "TraitHouse$Worker" "seenRows" "I") (by decide +kernel)) (fun _ h9 => h9) rfl (by decide +kernel) rfl rfl (Nat.le_of_ble_eq_true rfl) dX7_look_143 (fun H locs hP hD hS => ?_)
                    replace hP : va_P (dC, dI) vwCl [((ax 16), .inr (7, [.ref (ax 1), .ref (ax 7), .ref (ax 15), .ref (ax 17), .ref (ax 18), .ref (ax 19), .ref (ax 20), .int x_25, .int mo, .int xTp])), ((ax 1), .inr (3, [.ref (ax 2), .ref (ax 3), .ref (ax 4), .ref (ax 5), .ref (ax 6), .int xRz, .int xRn])), ((ax 2), .inl (cA 0, 400, .inl gP)), ((ax 4), .inl (cA 0, 400, .inl gM)), ((ax 5), .inl (cA 0, 400, .inl gK)), ((ax 17), .inl (cA 2, 20, .inl w_gO_14)), ((ax 18), .inl (cA 0, 400, .inl g_24)), ((ax 7), .inr (0, [.ref (ax 8), .ref (ax 9), .int xMz])), ((ax 8), .inl (cA 0, 20, .inl gT)), ((ax 9), .inl (cA 0, 20, .inl gN))] H := hP
                    replace hD : va_D A [((ax 16), .inr (7, [.ref (ax 1), .ref (ax 7), .ref (ax 15), .ref (ax 17), .ref (ax 18), .ref (ax 19), .ref (ax 20), .int x_25, .int mo, .int xTp])), ((ax 1), .inr (3, [.ref (ax 2), .ref (ax 3), .ref (ax 4), .ref (ax 5), .ref (ax 6), .int xRz, .int xRn])), ((ax 2), .inl (cA 0, 400, .inl gP)), ((ax 4), .inl (cA 0, 400, .inl gM)), ((ax 5), .inl (cA 0, 400, .inl gK)), ((ax 17), .inl (cA 2, 20, .inl w_gO_14)), ((ax 18), .inl (cA 0, 400, .inl g_24)), ((ax 7), .inr (0, [.ref (ax 8), .ref (ax 9), .int xMz])), ((ax 8), .inl (cA 0, 20, .inl gT)), ((ax 9), .inl (cA 0, 20, .inl gN))] := hD
                    obtain ⟨x_26, ex_26⟩ : ∃ y : Int32, y = i5b + 1 := ⟨_, rfl⟩
                    have dx_26 : x_26.toInt = i5b.toInt + 1 := by rw [ex_26]; exact jI_add rfl (by decide) (by omega) (by omega)
                    refine lv_iinc (v := x_26) (lv' := [(5, .int x_26), (4, .int r_1), (0, .ref (ax 16)), (1, .int pp), (2, .int mo), (3, .int kn)]) hx hb dX7_look_146 hl (k := 0) rfl (by rw [ex_26]; rfl) (by decide) rfl (fun ls hl => ?_)
                    refine lv_goto (tgt := 67) hx hb dX7_look_149 (by decide) ?_
                    exact ih_67 x_26 x_25 g_24 _ _ ls (by omega) (by omega) (by omega) ig_24 (by omega) (hP.sub [0, 1, 2, 3, 4, 5, 6, 7, 8, 9] rfl) (hD.sub [0, 1, 2, 3, 4, 5, 6, 7, 8, 9] (by decide) rfl) hS (lv_sub hl [0, 1, 2, 3, 4, 5] rfl)
        have hk_27 : (0 : Int32).toInt = 0 := by decide
        have hk_28 : (0 : Int32).toInt = 0 := by decide
        exact loop67_7 (Int.toNat (400 - (0 : Int32).toInt) + 1) 0 0 gW _ _ ls (by omega) (by omega) (by omega) i_gW (by omega) hP hD hS (lv_sub hl [0, 1, 2, 3, 4, 5] rfl)
      · have dc_6 : i5.toInt < 20 := jI_nle c_6 (by decide) rfl
        refine lv_aload_n hx hb dX7_look_21 rfl (lv_at hl 2 rfl) ?_
        refine va_get (D := (dC, dI)) (ci := 7) (v := .ref (ax 17)) (C := RX7) (T := TX7) (N := 10) hx hb hts hIX7 hown hK hP 0 rfl rfl 3 (by decide) (hts (.fieldLink RX7 9 "TraitHouse$Worker" "ones" "[Z") (by decide +kernel)) (fun _ h9 => h9) rfl dX7_look_22 ?_
        refine lv_iload hx hb dX7_look_25 (lv_at hl 0 rfl) ?_
        refine lv_aload_n hx hb dX7_look_27 rfl (lv_at hl 2 rfl) ?_
        refine va_get (D := (dC, dI)) (ci := 7) (v := .ref (ax 7)) (C := RX7) (T := TX7) (N := 10) hx hb hts hIX7 hown hK hP 0 rfl rfl 1 (by decide) (hts (.fieldLink RX7 30 "TraitHouse$Worker" "merges" "LTraitHouse$Merges;") (by decide +kernel)) (fun _ h9 => h9) rfl dX7_look_28 ?_
        refine lv_iload hx hb dX7_look_31 (lv_at hl 0 rfl) ?_
        refine lv_iload_n hx hb dX7_look_33 rfl (lv_at hl 5 rfl) ?_
        obtain ⟨hPc, hDc, hFc, hCc⟩ := va_pre (ws' := [((ax 7), .inr (0, [.ref (ax 8), .ref (ax 9), .int xMz])), ((ax 8), .inl (cA 0, 20, .inl gT)), ((ax 9), .inl (cA 0, 20, .inl gN))]) hP hD hS hA [7, 8, 9] (by decide) rfl
        refine va_calli (va_runVN (As := [.int i5, .int kn]) (rest := [.int i5, .ref (ax 17)]) ⟨hx, hb, hml, hown, hts⟩ (k_X0_lastOf l dC dI cA H.size ax xMz gT gN i5 kn i_gT i_gN (by omega)) ⟨(va_cnB 2 hts gX7_look_X0_lastOf_n62 rfl rfl rfl (nw_at hN 50 rfl) (hts (.initialized RX0) (by decide +kernel)) (by decide +kernel) ⟨Nat.le_of_ble_eq_true rfl, Nat.le_of_ble_eq_true rfl⟩), (hts (.instanceMethod yX0_lastOf) (by decide +kernel)), (hts (.selects RX0 yX0_lastOf yX0_lastOf) (by decide +kernel))⟩ ⟨fun a U g mk q => by obtain ⟨q0, q1, qP, qK, qD, qN⟩ := q; exact ⟨q0, q1, qP, va_K.moved (u := U) (U := U.calling g mk a) (Vm.Alike.refl U.vm) qK, qD, qN.same rfl⟩, va_recv hK hPc (ci := 0) (q0 := 0) rfl rfl, fun U hU hW => ⟨rfl, by rw [hU], by rw [hU]; exact hPc, va_K.moved hW.alike hK, hDc.weaken (fun _ _ _ _ => trivial), hN.warm hW⟩⟩ rfl rfl hl.1 rfl (lv_room (Nat.le_of_ble_eq_true rfl)) dX7_look_34 ⟨Nat.le_of_ble_eq_true rfl, Nat.le_of_ble_eq_true rfl⟩) hS (fun q _ h => hFc q h) hFc (fun r_29 u_30 t H1 locs ht hvm hw_31 hB hz1 hk1 hS => ?_)
        try dsimp only at hw_31 hB
        have po_32 := hw_31
        clear hw_31
        obtain ⟨hP1, hD1⟩ := hB
        rw [ht] at hP1
        obtain ⟨hP, hD⟩ := va_join (wr := [((ax 16), .inr (7, [.ref (ax 1), .ref (ax 7), .ref (ax 15), .ref (ax 17), .ref (ax 18), .ref (ax 19), .ref (ax 20), .int xSr, .int xWm, .int xTp])), ((ax 1), .inr (3, [.ref (ax 2), .ref (ax 3), .ref (ax 4), .ref (ax 5), .ref (ax 6), .int xRz, .int xRn])), ((ax 2), .inl (cA 0, 400, .inl gP)), ((ax 4), .inl (cA 0, 400, .inl gM)), ((ax 5), .inl (cA 0, 400, .inl gK)), ((ax 17), .inl (cA 2, 20, .inl w_gO_14)), ((ax 18), .inl (cA 0, 400, .inl gW))]) (w1 := [((ax 7), .inr (0, [.ref (ax 8), .ref (ax 9), .int xMz])), ((ax 8), .inl (cA 0, 20, .inl gT)), ((ax 9), .inl (cA 0, 20, .inl gN))]) hP hD [7, 8, 9] [0, 1, 2, 3, 4, 5, 6] hCc rfl (by decide) (by decide) hk1 hFc hP1 hD1
        clear hz1
        generalize H1 = H at hP hS ⊢
        refine lv_iload hx hb dX7_look_37 (lv_at hl 1 rfl) ?_
        refine lv_icmp_ne (tgt := 46) hx hb dX7_look_39 (by decide) (fun c_33 => ?_) (fun c_33 => ?_)
        · have dc_33 : ¬ r_29.toInt = r_1.toInt := jI_ne c_33 rfl rfl
          refine lv_iconst (v := 0) hx hb dX7_look_46 (by decide) ?_
          have h_34 : vp_in i5 20 := (vp_in_iff.mpr ⟨by omega, by omega⟩)
          refine va_zast hx hb hK hP hD hS 5 2 rfl rfl h_34 dX7_look_47 (fun H locs hP hD hS => ?_)
          replace hP : va_P (dC, dI) vwCl [((ax 16), .inr (7, [.ref (ax 1), .ref (ax 7), .ref (ax 15), .ref (ax 17), .ref (ax 18), .ref (ax 19), .ref (ax 20), .int xSr, .int xWm, .int xTp])), ((ax 1), .inr (3, [.ref (ax 2), .ref (ax 3), .ref (ax 4), .ref (ax 5), .ref (ax 6), .int xRz, .int xRn])), ((ax 2), .inl (cA 0, 400, .inl gP)), ((ax 4), .inl (cA 0, 400, .inl gM)), ((ax 5), .inl (cA 0, 400, .inl gK)), ((ax 17), .inl (cA 2, 20, .inl (upd w_gO_14 i5.toNatClampNeg (vp_nar .boolean 0)))), ((ax 18), .inl (cA 0, 400, .inl gW)), ((ax 7), .inr (0, [.ref (ax 8), .ref (ax 9), .int xMz])), ((ax 8), .inl (cA 0, 20, .inl gT)), ((ax 9), .inl (cA 0, 20, .inl gN))] H := hP
          replace hD : va_D A [((ax 16), .inr (7, [.ref (ax 1), .ref (ax 7), .ref (ax 15), .ref (ax 17), .ref (ax 18), .ref (ax 19), .ref (ax 20), .int xSr, .int xWm, .int xTp])), ((ax 1), .inr (3, [.ref (ax 2), .ref (ax 3), .ref (ax 4), .ref (ax 5), .ref (ax 6), .int xRz, .int xRn])), ((ax 2), .inl (cA 0, 400, .inl gP)), ((ax 4), .inl (cA 0, 400, .inl gM)), ((ax 5), .inl (cA 0, 400, .inl gK)), ((ax 17), .inl (cA 2, 20, .inl (upd w_gO_14 i5.toNatClampNeg (vp_nar .boolean 0)))), ((ax 18), .inl (cA 0, 400, .inl gW)), ((ax 7), .inr (0, [.ref (ax 8), .ref (ax 9), .int xMz])), ((ax 8), .inl (cA 0, 20, .inl gT)), ((ax 9), .inl (cA 0, 20, .inl gN))] := hD
          obtain ⟨g_35, eg_35⟩ : ∃ g : Nat → Int32, g = upd w_gO_14 i5.toNatClampNeg (vp_nar .boolean 0) := ⟨_, rfl⟩
          rw [← eg_35] at hP hD
          obtain ⟨x_36, ex_36⟩ : ∃ y : Int32, y = i5 + 1 := ⟨_, rfl⟩
          have dx_36 : x_36.toInt = i5.toInt + 1 := by rw [ex_36]; exact jI_add rfl (by decide) (by omega) (by omega)
          refine lv_iinc (v := x_36) (lv' := [(5, .int x_36), (4, .int r_1), (0, .ref (ax 16)), (1, .int pp), (2, .int mo), (3, .int kn)]) hx hb dX7_look_48 hl (k := 0) rfl (by rw [ex_36]; rfl) (by decide) rfl (fun ls hl => ?_)
          refine lv_goto (tgt := 14) hx hb dX7_look_51 (by decide) ?_
          exact ih_14 x_36 g_35 _ _ ls (by omega) (by omega) (hP.sub [0, 1, 2, 3, 4, 5, 6, 7, 8, 9] rfl) (hD.sub [0, 1, 2, 3, 4, 5, 6, 7, 8, 9] (by decide) rfl) hS (lv_sub hl [0, 1, 2, 3, 4, 5] rfl)
        · have dc_33 : r_29.toInt = r_1.toInt := jI_eq c_33 rfl rfl
          refine lv_iconst (v := 1) hx hb dX7_look_42 (by decide) ?_
          refine lv_goto (tgt := 47) hx hb dX7_look_43 (by decide) ?_
          have h_37 : vp_in i5 20 := (vp_in_iff.mpr ⟨by omega, by omega⟩)
          refine va_zast hx hb hK hP hD hS 5 2 rfl rfl h_37 dX7_look_47 (fun H locs hP hD hS => ?_)
          replace hP : va_P (dC, dI) vwCl [((ax 16), .inr (7, [.ref (ax 1), .ref (ax 7), .ref (ax 15), .ref (ax 17), .ref (ax 18), .ref (ax 19), .ref (ax 20), .int xSr, .int xWm, .int xTp])), ((ax 1), .inr (3, [.ref (ax 2), .ref (ax 3), .ref (ax 4), .ref (ax 5), .ref (ax 6), .int xRz, .int xRn])), ((ax 2), .inl (cA 0, 400, .inl gP)), ((ax 4), .inl (cA 0, 400, .inl gM)), ((ax 5), .inl (cA 0, 400, .inl gK)), ((ax 17), .inl (cA 2, 20, .inl (upd w_gO_14 i5.toNatClampNeg (vp_nar .boolean 1)))), ((ax 18), .inl (cA 0, 400, .inl gW)), ((ax 7), .inr (0, [.ref (ax 8), .ref (ax 9), .int xMz])), ((ax 8), .inl (cA 0, 20, .inl gT)), ((ax 9), .inl (cA 0, 20, .inl gN))] H := hP
          replace hD : va_D A [((ax 16), .inr (7, [.ref (ax 1), .ref (ax 7), .ref (ax 15), .ref (ax 17), .ref (ax 18), .ref (ax 19), .ref (ax 20), .int xSr, .int xWm, .int xTp])), ((ax 1), .inr (3, [.ref (ax 2), .ref (ax 3), .ref (ax 4), .ref (ax 5), .ref (ax 6), .int xRz, .int xRn])), ((ax 2), .inl (cA 0, 400, .inl gP)), ((ax 4), .inl (cA 0, 400, .inl gM)), ((ax 5), .inl (cA 0, 400, .inl gK)), ((ax 17), .inl (cA 2, 20, .inl (upd w_gO_14 i5.toNatClampNeg (vp_nar .boolean 1)))), ((ax 18), .inl (cA 0, 400, .inl gW)), ((ax 7), .inr (0, [.ref (ax 8), .ref (ax 9), .int xMz])), ((ax 8), .inl (cA 0, 20, .inl gT)), ((ax 9), .inl (cA 0, 20, .inl gN))] := hD
          obtain ⟨g_38, eg_38⟩ : ∃ g : Nat → Int32, g = upd w_gO_14 i5.toNatClampNeg (vp_nar .boolean 1) := ⟨_, rfl⟩
          rw [← eg_38] at hP hD
          obtain ⟨x_39, ex_39⟩ : ∃ y : Int32, y = i5 + 1 := ⟨_, rfl⟩
          have dx_39 : x_39.toInt = i5.toInt + 1 := by rw [ex_39]; exact jI_add rfl (by decide) (by omega) (by omega)
          refine lv_iinc (v := x_39) (lv' := [(5, .int x_39), (4, .int r_1), (0, .ref (ax 16)), (1, .int pp), (2, .int mo), (3, .int kn)]) hx hb dX7_look_48 hl (k := 0) rfl (by rw [ex_39]; rfl) (by decide) rfl (fun ls hl => ?_)
          refine lv_goto (tgt := 14) hx hb dX7_look_51 (by decide) ?_
          exact ih_14 x_39 g_38 _ _ ls (by omega) (by omega) (hP.sub [0, 1, 2, 3, 4, 5, 6, 7, 8, 9] rfl) (hD.sub [0, 1, 2, 3, 4, 5, 6, 7, 8, 9] (by decide) rfl) hS (lv_sub hl [0, 1, 2, 3, 4, 5] rfl)
  have hk_40 : (0 : Int32).toInt = 0 := by decide
  exact loop14_5 (Int.toNat (20 - (0 : Int32).toInt) + 1) 0 gO _ _ ls (by omega) (by omega) hP hD hS (lv_sub hl [0, 1, 2, 3, 4, 5] rfl)

set_option maxHeartbeats 8000000 in
set_option maxRecDepth 100000 in
theorem k_X7_push (l : Launch) (dC : Nat → ClassId) (dI : Nat → Nat → Nat) (cA : Nat → ClassId) (sz : Nat) (ax : Nat → Nat) (xSr : Int32) (xWm : Int32) (xTp : Int32) (gKk : Nat → Int64) (a : Int64) (i_xSr : 0 ≤ xSr.toInt ∧ xSr.toInt ≤ 400) (i_xTp : 0 ≤ xTp.toInt ∧ xTp.toInt ≤ 200)  : Met l yX7_push wsX7_push ({ frames := 1, cells := 0, slots := 0, locals := 23 }) (va_Pc [.ref (ax 16), .long a] (fun U => U.heap.size = sz ∧ va_P (dC, dI) vwCl [((ax 16), .inr (7, [.ref (ax 1), .ref (ax 7), .ref (ax 15), .ref (ax 17), .ref (ax 18), .ref (ax 19), .ref (ax 20), .int xSr, .int xWm, .int xTp])), ((ax 19), .inl (cA 1, 200, .inr (.inl gKk)))] U.heap ∧ va_K (dC, dI) vwCl (tyL cA) U ∧ va_D (fun _ => True) [((ax 16), .inr (7, [.ref (ax 1), .ref (ax 7), .ref (ax 15), .ref (ax 17), .ref (ax 18), .ref (ax 19), .ref (ax 20), .int xSr, .int xWm, .int xTp])), ((ax 19), .inl (cA 1, 200, .inr (.inl gKk)))] ∧ nw_ok U)) (va_Qv (fun (u : (Nat → Int64) × Int32) => (0 ≤ u.2.toInt ∧ u.2.toInt ≤ 200)) (fun (u : (Nat → Int64) × Int32) (t : State) => va_P (dC, dI) vwCl [((ax 16), .inr (7, [.ref (ax 1), .ref (ax 7), .ref (ax 15), .ref (ax 17), .ref (ax 18), .ref (ax 19), .ref (ax 20), .int xSr, .int xWm, .int u.2])), ((ax 19), .inl (cA 1, 200, .inr (.inl u.1)))] t.heap ∧ va_D (va_A [((ax 16), .inr (7, [.ref (ax 1), .ref (ax 7), .ref (ax 15), .ref (ax 17), .ref (ax 18), .ref (ax 19), .ref (ax 20), .int xSr, .int xWm, .int xTp])), ((ax 19), .inl (cA 1, 200, .inr (.inl gKk)))] sz) [((ax 16), .inr (7, [.ref (ax 1), .ref (ax 7), .ref (ax 15), .ref (ax 17), .ref (ax 18), .ref (ax 19), .ref (ax 20), .int xSr, .int xWm, .int u.2])), ((ax 19), .inl (cA 1, 200, .inr (.inl u.1)))]) (va_A [((ax 16), .inr (7, [.ref (ax 1), .ref (ax 7), .ref (ax 15), .ref (ax 17), .ref (ax 18), .ref (ax 19), .ref (ax 20), .int xSr, .int xWm, .int xTp])), ((ax 19), .inl (cA 1, 200, .inr (.inl gKk)))] sz)) 0 0 (va_A [((ax 16), .inr (7, [.ref (ax 1), .ref (ax 7), .ref (ax 15), .ref (ax 17), .ref (ax 18), .ref (ax 19), .ref (ax 20), .int xSr, .int xWm, .int xTp])), ((ax 19), .inl (cA 1, 200, .inr (.inl gKk)))] sz) := by
  refine Met.ofW (cc := cX7_push) (maxL := 3) (ret := none) (by decide) rfl ?_
  intro p e s m args below meth c s₁ B hml hv
  obtain ⟨rfl, hsz, hP, hK, hD0, hN⟩ := hv
  have hx := B.exec
  have hb := B.bytes
  have hr := B.returns
  have hts := atoms_spec (ws := wsX7_push) B.pre
  have hown : s.vm.findClass RX7 = some m.cls := findClass_of_methodNamed B.named
  have hlocks := B.notSynchronized
  subst hsz
  have hD := hD0.self (sz := s.heap.size)
  generalize hAe : va_A [((ax 16), .inr (7, [.ref (ax 1), .ref (ax 7), .ref (ax 15), .ref (ax 17), .ref (ax 18), .ref (ax 19), .ref (ax 20), .int xSr, .int xWm, .int xTp])), ((ax 19), .inl (cA 1, 200, .inr (.inl gKk)))] s.heap.size = A at hD ⊢
  have hA : ∀ q : Nat, s.heap.size ≤ q → A q := fun q h => by rw [← hAe]; exact Or.inr h
  have hS : va_S A s.heap s.heap [] := va_S.rf
  have hIX7 : ∀ w ∈ u_ws RX7 TX7 10, w ∈ wsX7_push := by decide +kernel
  have hl := lv_entry ([.ref (ax 16), .long a]) (n := 3) (Nat.le_of_ble_eq_true rfl)
  rw [lg_entry_eq]
  generalize (lg_sl ([.ref (ax 16), .long a]) ++ List.replicate (3 - (lg_sl ([.ref (ax 16), .long a])).length) Slot.unset).toArray = ls at hl ⊢
  have hl : lv_has ls 3 [(0, .ref (ax 16)), (1, .long a)] := hl
  generalize hQe : MQ below _ _ _ _ _ _ = QQ
  refine lv_aload_n hx hb dX7_push_0 rfl (lv_at hl 0 rfl) ?_
  refine va_get (D := (dC, dI)) (ci := 7) (v := .int xTp) (C := RX7) (T := TX7) (N := 10) hx hb hts hIX7 hown hK hP 0 rfl rfl 9 (by decide) (hts (.fieldLink RX7 88 "TraitHouse$Worker" "top" "I") (by decide +kernel)) (fun _ h9 => h9) rfl dX7_push_1 ?_
  refine lv_sipush (v := 200) hx hb dX7_push_4 (by decide) ?_
  refine lv_icmp_ge (tgt := 47) hx hb dX7_push_7 (by decide) (fun c_1 => ?_) (fun c_1 => ?_)
  · have dc_1 : 200 ≤ xTp.toInt := jI_le c_1 (by decide) rfl
    obtain ⟨hP9, hD9⟩ := va_pd (ws' := [((ax 16), .inr (7, [.ref (ax 1), .ref (ax 7), .ref (ax 15), .ref (ax 17), .ref (ax 18), .ref (ax 19), .ref (ax 20), .int xSr, .int xWm, .int xTp])), ((ax 19), .inl (cA 1, 200, .inr (.inl gKk)))]) hP hD [0, 1] (by decide) rfl
    subst hQe
    have hpost : (0 ≤ xTp.toInt ∧ xTp.toInt ≤ 200) := i_xTp
    exact W.vret hx hb hr (fun t ht hW => ⟨⟨(gKk, xTp), rfl, hpost, by rw [ht]; exact hP9, hD9⟩, hS.F ht⟩) hS.2.2 dX7_push_47
  · have dc_1 : xTp.toInt < 200 := jI_nle c_1 (by decide) rfl
    refine lv_aload_n hx hb dX7_push_10 rfl (lv_at hl 0 rfl) ?_
    refine va_get (D := (dC, dI)) (ci := 7) (v := .ref (ax 19)) (C := RX7) (T := TX7) (N := 10) hx hb hts hIX7 hown hK hP 0 rfl rfl 5 (by decide) (hts (.fieldLink RX7 19 "TraitHouse$Worker" "stack" "[J") (by decide +kernel)) (fun _ h9 => h9) rfl dX7_push_11 ?_
    refine lv_aload_n hx hb dX7_push_14 rfl (lv_at hl 0 rfl) ?_
    refine va_get (D := (dC, dI)) (ci := 7) (v := .int xTp) (C := RX7) (T := TX7) (N := 10) hx hb hts hIX7 hown hK hP 0 rfl rfl 9 (by decide) (hts (.fieldLink RX7 88 "TraitHouse$Worker" "top" "I") (by decide +kernel)) (fun _ h9 => h9) rfl dX7_push_15 ?_
    refine lv_lload_n hx hb dX7_push_18 rfl (lv_at hl 1 rfl) ?_
    refine va_mabs_long hx hb (by rw [hml]; exact hl.1.symm) hown (hts (.methodLink RX7 153 Lib.MathLoose.abs_long.x) (by decide +kernel)) (hts (.static Lib.MathLoose.abs_long.x) (by decide +kernel)) (hts (.initialized "java/lang/Math") (by decide +kernel)) (hts (.code Lib.MathLoose.abs_long.x Lib.MathLoose.abs_long.code 2 (some .long)) (by decide +kernel)) (Nat.le_of_ble_eq_true rfl) (Nat.le_of_ble_eq_true rfl) (Nat.le_of_ble_eq_true rfl) (Nat.le_of_ble_eq_true rfl) dX7_push_19 ?_
    refine lv_topl (fun y_2 ey_2 => ?_)
    have dy_2 : y_2.toInt = 0 ↔ a.toInt = 0 := jL_abs0 ey_2
    refine lv_ldc2 hx hb hown (hts (.constantLong RX7 157 (1000000000000)) (by decide +kernel)) dX7_push_22 ?_
    refine W.lcmp hx hb dX7_push_25 ?_
    refine lv_topi (fun k_3 ek_3 => ?_)
    have dk_3 : (k_3.toInt < 0 ↔ y_2.toInt < 1000000000000) ∧ (k_3.toInt = 0 ↔ y_2.toInt = 1000000000000) ∧ (0 < k_3.toInt ↔ 1000000000000 < y_2.toInt) := jI_cmp ek_3 rfl (by decide)
    refine lv_if_le (tgt := 35) hx hb dX7_push_26 (by decide) (fun c_4 => ?_) (fun c_4 => ?_)
    · have dc_4 : k_3.toInt ≤ 0 := jI_le c_4 rfl (by decide)
      refine lv_lload_n hx hb dX7_push_35 rfl (lv_at hl 1 rfl) ?_
      have h_5 : vp_in xTp 200 := (vp_in_iff.mpr ⟨by omega, by omega⟩)
      refine va_last hx hb hK hP hD hS 1 1 rfl rfl h_5 dX7_push_36 (fun H locs hP hD hS => ?_)
      replace hP : va_P (dC, dI) vwCl [((ax 16), .inr (7, [.ref (ax 1), .ref (ax 7), .ref (ax 15), .ref (ax 17), .ref (ax 18), .ref (ax 19), .ref (ax 20), .int xSr, .int xWm, .int xTp])), ((ax 19), .inl (cA 1, 200, .inr (.inl (vp_updL gKk xTp.toNatClampNeg a))))] H := hP
      replace hD : va_D A [((ax 16), .inr (7, [.ref (ax 1), .ref (ax 7), .ref (ax 15), .ref (ax 17), .ref (ax 18), .ref (ax 19), .ref (ax 20), .int xSr, .int xWm, .int xTp])), ((ax 19), .inl (cA 1, 200, .inr (.inl (vp_updL gKk xTp.toNatClampNeg a))))] := hD
      obtain ⟨g_6, eg_6⟩ : ∃ g : Nat → Int64, g = vp_updL gKk xTp.toNatClampNeg a := ⟨_, rfl⟩
      rw [← eg_6] at hP hD
      refine lv_aload_n hx hb dX7_push_37 rfl (lv_at hl 0 rfl) ?_
      refine lv_dup hx hb dX7_push_38 rfl ?_
      refine va_get (D := (dC, dI)) (ci := 7) (v := .int xTp) (C := RX7) (T := TX7) (N := 10) hx hb hts hIX7 hown hK hP 0 rfl rfl 9 (by decide) (hts (.fieldLink RX7 88 "TraitHouse$Worker" "top" "I") (by decide +kernel)) (fun _ h9 => h9) rfl dX7_push_39 ?_
      refine lv_iconst (v := 1) hx hb dX7_push_42 (by decide) ?_
      refine lv_iadd hx hb dX7_push_43 ?_
      refine lv_topi (fun x_7 ex_7 => ?_)
      have dx_7 : x_7.toInt = xTp.toInt + 1 := by rw [ex_7]; exact jI_add rfl (by decide) (by omega) (by omega)
      refine va_put (D := (dC, dI)) (ci := 7) (v := .int x_7) (ty := .int) (C := RX7) (T := TX7) (N := 10) hx hb hts hIX7 tyX7 tyX7_ok nmX7 hown hK hP hD hS 0 rfl rfl 9 (by decide) (hts (.fieldLink RX7 88 "TraitHouse$Worker" "top" "I") (by decide +kernel)) (fun _ h9 => h9) rfl (by decide +kernel) rfl rfl (Nat.le_of_ble_eq_true rfl) dX7_push_44 (fun H locs hP hD hS => ?_)
      replace hP : va_P (dC, dI) vwCl [((ax 16), .inr (7, [.ref (ax 1), .ref (ax 7), .ref (ax 15), .ref (ax 17), .ref (ax 18), .ref (ax 19), .ref (ax 20), .int xSr, .int xWm, .int x_7])), ((ax 19), .inl (cA 1, 200, .inr (.inl g_6)))] H := hP
      replace hD : va_D A [((ax 16), .inr (7, [.ref (ax 1), .ref (ax 7), .ref (ax 15), .ref (ax 17), .ref (ax 18), .ref (ax 19), .ref (ax 20), .int xSr, .int xWm, .int x_7])), ((ax 19), .inl (cA 1, 200, .inr (.inl g_6)))] := hD
      obtain ⟨hP9, hD9⟩ := va_pd (ws' := [((ax 16), .inr (7, [.ref (ax 1), .ref (ax 7), .ref (ax 15), .ref (ax 17), .ref (ax 18), .ref (ax 19), .ref (ax 20), .int xSr, .int xWm, .int x_7])), ((ax 19), .inl (cA 1, 200, .inr (.inl g_6)))]) hP hD [0, 1] (by decide) rfl
      subst hQe
      have hpost : (0 ≤ x_7.toInt ∧ x_7.toInt ≤ 200) := by omega
      exact W.vret hx hb hr (fun t ht hW => ⟨⟨(g_6, x_7), rfl, hpost, by rw [ht]; exact hP9, hD9⟩, hS.F ht⟩) hS.2.2 dX7_push_47
    · have dc_4 : 0 < k_3.toInt := jI_nle c_4 rfl (by decide)
      refine lv_ldc2 hx hb hown (hts (.constantLong RX7 38 (-9000000000000000000)) (by decide +kernel)) dX7_push_29 ?_
      refine lv_goto (tgt := 36) hx hb dX7_push_32 (by decide) ?_
      have h_8 : vp_in xTp 200 := (vp_in_iff.mpr ⟨by omega, by omega⟩)
      refine va_last hx hb hK hP hD hS 1 1 rfl rfl h_8 dX7_push_36 (fun H locs hP hD hS => ?_)
      replace hP : va_P (dC, dI) vwCl [((ax 16), .inr (7, [.ref (ax 1), .ref (ax 7), .ref (ax 15), .ref (ax 17), .ref (ax 18), .ref (ax 19), .ref (ax 20), .int xSr, .int xWm, .int xTp])), ((ax 19), .inl (cA 1, 200, .inr (.inl (vp_updL gKk xTp.toNatClampNeg (-9000000000000000000)))))] H := hP
      replace hD : va_D A [((ax 16), .inr (7, [.ref (ax 1), .ref (ax 7), .ref (ax 15), .ref (ax 17), .ref (ax 18), .ref (ax 19), .ref (ax 20), .int xSr, .int xWm, .int xTp])), ((ax 19), .inl (cA 1, 200, .inr (.inl (vp_updL gKk xTp.toNatClampNeg (-9000000000000000000)))))] := hD
      obtain ⟨g_9, eg_9⟩ : ∃ g : Nat → Int64, g = vp_updL gKk xTp.toNatClampNeg (-9000000000000000000) := ⟨_, rfl⟩
      rw [← eg_9] at hP hD
      refine lv_aload_n hx hb dX7_push_37 rfl (lv_at hl 0 rfl) ?_
      refine lv_dup hx hb dX7_push_38 rfl ?_
      refine va_get (D := (dC, dI)) (ci := 7) (v := .int xTp) (C := RX7) (T := TX7) (N := 10) hx hb hts hIX7 hown hK hP 0 rfl rfl 9 (by decide) (hts (.fieldLink RX7 88 "TraitHouse$Worker" "top" "I") (by decide +kernel)) (fun _ h9 => h9) rfl dX7_push_39 ?_
      refine lv_iconst (v := 1) hx hb dX7_push_42 (by decide) ?_
      refine lv_iadd hx hb dX7_push_43 ?_
      refine lv_topi (fun x_10 ex_10 => ?_)
      have dx_10 : x_10.toInt = xTp.toInt + 1 := by rw [ex_10]; exact jI_add rfl (by decide) (by omega) (by omega)
      refine va_put (D := (dC, dI)) (ci := 7) (v := .int x_10) (ty := .int) (C := RX7) (T := TX7) (N := 10) hx hb hts hIX7 tyX7 tyX7_ok nmX7 hown hK hP hD hS 0 rfl rfl 9 (by decide) (hts (.fieldLink RX7 88 "TraitHouse$Worker" "top" "I") (by decide +kernel)) (fun _ h9 => h9) rfl (by decide +kernel) rfl rfl (Nat.le_of_ble_eq_true rfl) dX7_push_44 (fun H locs hP hD hS => ?_)
      replace hP : va_P (dC, dI) vwCl [((ax 16), .inr (7, [.ref (ax 1), .ref (ax 7), .ref (ax 15), .ref (ax 17), .ref (ax 18), .ref (ax 19), .ref (ax 20), .int xSr, .int xWm, .int x_10])), ((ax 19), .inl (cA 1, 200, .inr (.inl g_9)))] H := hP
      replace hD : va_D A [((ax 16), .inr (7, [.ref (ax 1), .ref (ax 7), .ref (ax 15), .ref (ax 17), .ref (ax 18), .ref (ax 19), .ref (ax 20), .int xSr, .int xWm, .int x_10])), ((ax 19), .inl (cA 1, 200, .inr (.inl g_9)))] := hD
      obtain ⟨hP9, hD9⟩ := va_pd (ws' := [((ax 16), .inr (7, [.ref (ax 1), .ref (ax 7), .ref (ax 15), .ref (ax 17), .ref (ax 18), .ref (ax 19), .ref (ax 20), .int xSr, .int xWm, .int x_10])), ((ax 19), .inl (cA 1, 200, .inr (.inl g_9)))]) hP hD [0, 1] (by decide) rfl
      subst hQe
      have hpost : (0 ≤ x_10.toInt ∧ x_10.toInt ≤ 200) := by omega
      exact W.vret hx hb hr (fun t ht hW => ⟨⟨(g_9, x_10), rfl, hpost, by rw [ht]; exact hP9, hD9⟩, hS.F ht⟩) hS.2.2 dX7_push_47

set_option maxHeartbeats 8000000 in
set_option maxRecDepth 100000 in
theorem k_X7_pop (l : Launch) (dC : Nat → ClassId) (dI : Nat → Nat → Nat) (cA : Nat → ClassId) (sz : Nat) (ax : Nat → Nat) (xSr : Int32) (xWm : Int32) (xTp : Int32) (gKk : Nat → Int64) (i_xSr : 0 ≤ xSr.toInt ∧ xSr.toInt ≤ 400) (i_xTp : 0 ≤ xTp.toInt ∧ xTp.toInt ≤ 200)  : Met l yX7_pop wsX7_pop ({ frames := 0, cells := 0, slots := 0, locals := 0 }) (va_Pc [.ref (ax 16)] (fun U => U.heap.size = sz ∧ va_P (dC, dI) vwCl [((ax 16), .inr (7, [.ref (ax 1), .ref (ax 7), .ref (ax 15), .ref (ax 17), .ref (ax 18), .ref (ax 19), .ref (ax 20), .int xSr, .int xWm, .int xTp])), ((ax 19), .inl (cA 1, 200, .inr (.inl gKk)))] U.heap ∧ va_K (dC, dI) vwCl (tyL cA) U ∧ va_D (fun _ => True) [((ax 16), .inr (7, [.ref (ax 1), .ref (ax 7), .ref (ax 15), .ref (ax 17), .ref (ax 18), .ref (ax 19), .ref (ax 20), .int xSr, .int xWm, .int xTp])), ((ax 19), .inl (cA 1, 200, .inr (.inl gKk)))] ∧ nw_ok U)) (va_Ql (fun (r : Int64) (u : Int32) => (0 ≤ u.toInt ∧ u.toInt ≤ 200)) (fun (u : Int32) (t : State) => va_P (dC, dI) vwCl [((ax 16), .inr (7, [.ref (ax 1), .ref (ax 7), .ref (ax 15), .ref (ax 17), .ref (ax 18), .ref (ax 19), .ref (ax 20), .int xSr, .int xWm, .int u])), ((ax 19), .inl (cA 1, 200, .inr (.inl gKk)))] t.heap ∧ va_D (va_A [((ax 16), .inr (7, [.ref (ax 1), .ref (ax 7), .ref (ax 15), .ref (ax 17), .ref (ax 18), .ref (ax 19), .ref (ax 20), .int xSr, .int xWm, .int xTp])), ((ax 19), .inl (cA 1, 200, .inr (.inl gKk)))] sz) [((ax 16), .inr (7, [.ref (ax 1), .ref (ax 7), .ref (ax 15), .ref (ax 17), .ref (ax 18), .ref (ax 19), .ref (ax 20), .int xSr, .int xWm, .int u])), ((ax 19), .inl (cA 1, 200, .inr (.inl gKk)))]) (va_A [((ax 16), .inr (7, [.ref (ax 1), .ref (ax 7), .ref (ax 15), .ref (ax 17), .ref (ax 18), .ref (ax 19), .ref (ax 20), .int xSr, .int xWm, .int xTp])), ((ax 19), .inl (cA 1, 200, .inr (.inl gKk)))] sz)) 0 0 (va_A [((ax 16), .inr (7, [.ref (ax 1), .ref (ax 7), .ref (ax 15), .ref (ax 17), .ref (ax 18), .ref (ax 19), .ref (ax 20), .int xSr, .int xWm, .int xTp])), ((ax 19), .inl (cA 1, 200, .inr (.inl gKk)))] sz) := by
  refine Met.ofW (cc := cX7_pop) (maxL := 1) (ret := (some .long)) (by decide) rfl ?_
  intro p e s m args below meth c s₁ B hml hv
  obtain ⟨rfl, hsz, hP, hK, hD0, hN⟩ := hv
  have hx := B.exec
  have hb := B.bytes
  have hr := B.returns
  have hts := atoms_spec (ws := wsX7_pop) B.pre
  have hown : s.vm.findClass RX7 = some m.cls := findClass_of_methodNamed B.named
  have hlocks := B.notSynchronized
  subst hsz
  have hD := hD0.self (sz := s.heap.size)
  generalize hAe : va_A [((ax 16), .inr (7, [.ref (ax 1), .ref (ax 7), .ref (ax 15), .ref (ax 17), .ref (ax 18), .ref (ax 19), .ref (ax 20), .int xSr, .int xWm, .int xTp])), ((ax 19), .inl (cA 1, 200, .inr (.inl gKk)))] s.heap.size = A at hD ⊢
  have hA : ∀ q : Nat, s.heap.size ≤ q → A q := fun q h => by rw [← hAe]; exact Or.inr h
  have hS : va_S A s.heap s.heap [] := va_S.rf
  have hIX7 : ∀ w ∈ u_ws RX7 TX7 10, w ∈ wsX7_pop := by decide +kernel
  have hl := lv_entry ([.ref (ax 16)]) (n := 1) (Nat.le_of_ble_eq_true rfl)
  rw [lg_entry_eq]
  generalize (lg_sl ([.ref (ax 16)]) ++ List.replicate (1 - (lg_sl ([.ref (ax 16)])).length) Slot.unset).toArray = ls at hl ⊢
  have hl : lv_has ls 1 [(0, .ref (ax 16))] := hl
  generalize hQe : MQ below _ _ _ _ _ _ = QQ
  refine lv_aload_n hx hb dX7_pop_0 rfl (lv_at hl 0 rfl) ?_
  refine va_get (D := (dC, dI)) (ci := 7) (v := .int xTp) (C := RX7) (T := TX7) (N := 10) hx hb hts hIX7 hown hK hP 0 rfl rfl 9 (by decide) (hts (.fieldLink RX7 88 "TraitHouse$Worker" "top" "I") (by decide +kernel)) (fun _ h9 => h9) rfl dX7_pop_1 ?_
  refine lv_if_ne (tgt := 11) hx hb dX7_pop_4 (by decide) (fun c_1 => ?_) (fun c_1 => ?_)
  · have dc_1 : ¬ xTp.toInt = 0 := jI_ne c_1 rfl (by decide)
    refine lv_aload_n hx hb dX7_pop_11 rfl (lv_at hl 0 rfl) ?_
    refine lv_dup hx hb dX7_pop_12 rfl ?_
    refine va_get (D := (dC, dI)) (ci := 7) (v := .int xTp) (C := RX7) (T := TX7) (N := 10) hx hb hts hIX7 hown hK hP 0 rfl rfl 9 (by decide) (hts (.fieldLink RX7 88 "TraitHouse$Worker" "top" "I") (by decide +kernel)) (fun _ h9 => h9) rfl dX7_pop_13 ?_
    refine lv_iconst (v := 1) hx hb dX7_pop_16 (by decide) ?_
    refine lv_isub hx hb dX7_pop_17 ?_
    refine lv_topi (fun x_2 ex_2 => ?_)
    have dx_2 : x_2.toInt = xTp.toInt - 1 := by rw [ex_2]; exact jI_sub rfl (by decide) (by omega) (by omega)
    refine va_put (D := (dC, dI)) (ci := 7) (v := .int x_2) (ty := .int) (C := RX7) (T := TX7) (N := 10) hx hb hts hIX7 tyX7 tyX7_ok nmX7 hown hK hP hD hS 0 rfl rfl 9 (by decide) (hts (.fieldLink RX7 88 "TraitHouse$Worker" "top" "I") (by decide +kernel)) (fun _ h9 => h9) rfl (by decide +kernel) rfl rfl (Nat.le_of_ble_eq_true rfl) dX7_pop_18 (fun H locs hP hD hS => ?_)
    replace hP : va_P (dC, dI) vwCl [((ax 16), .inr (7, [.ref (ax 1), .ref (ax 7), .ref (ax 15), .ref (ax 17), .ref (ax 18), .ref (ax 19), .ref (ax 20), .int xSr, .int xWm, .int x_2])), ((ax 19), .inl (cA 1, 200, .inr (.inl gKk)))] H := hP
    replace hD : va_D A [((ax 16), .inr (7, [.ref (ax 1), .ref (ax 7), .ref (ax 15), .ref (ax 17), .ref (ax 18), .ref (ax 19), .ref (ax 20), .int xSr, .int xWm, .int x_2])), ((ax 19), .inl (cA 1, 200, .inr (.inl gKk)))] := hD
    refine lv_aload_n hx hb dX7_pop_21 rfl (lv_at hl 0 rfl) ?_
    refine va_get (D := (dC, dI)) (ci := 7) (v := .ref (ax 19)) (C := RX7) (T := TX7) (N := 10) hx hb hts hIX7 hown hK hP 0 rfl rfl 5 (by decide) (hts (.fieldLink RX7 19 "TraitHouse$Worker" "stack" "[J") (by decide +kernel)) (fun _ h9 => h9) rfl dX7_pop_22 ?_
    refine lv_aload_n hx hb dX7_pop_25 rfl (lv_at hl 0 rfl) ?_
    refine va_get (D := (dC, dI)) (ci := 7) (v := .int x_2) (C := RX7) (T := TX7) (N := 10) hx hb hts hIX7 hown hK hP 0 rfl rfl 9 (by decide) (hts (.fieldLink RX7 88 "TraitHouse$Worker" "top" "I") (by decide +kernel)) (fun _ h9 => h9) rfl dX7_pop_26 ?_
    have h_3 : vp_in x_2 200 := (vp_in_iff.mpr ⟨by omega, by omega⟩)
    refine va_lald hx hb hK hP 1 1 rfl rfl h_3 dX7_pop_29 ?_
    refine lv_topl (fun y_4 ey_4 => ?_)
    obtain ⟨hP9, hD9⟩ := va_pd (ws' := [((ax 16), .inr (7, [.ref (ax 1), .ref (ax 7), .ref (ax 15), .ref (ax 17), .ref (ax 18), .ref (ax 19), .ref (ax 20), .int xSr, .int xWm, .int x_2])), ((ax 19), .inl (cA 1, 200, .inr (.inl gKk)))]) hP hD [0, 1] (by decide) rfl
    subst hQe
    have hans : (y_4 : Int64).toInt = y_4.toInt := rfl
    have hpost : (0 ≤ x_2.toInt ∧ x_2.toInt ≤ 200) := by omega
    exact W.lret (v := y_4) hx hb hr (fun t ht hW => ⟨⟨y_4, x_2, rfl, hpost, by rw [ht]; exact hP9, hD9⟩, hS.F ht⟩) hS.2.2 dX7_pop_30
  · have dc_1 : xTp.toInt = 0 := jI_eq c_1 rfl (by decide)
    refine lv_ldc2 hx hb hown (hts (.constantLong RX7 38 (-9000000000000000000)) (by decide +kernel)) dX7_pop_7 ?_
    obtain ⟨hP9, hD9⟩ := va_pd (ws' := [((ax 16), .inr (7, [.ref (ax 1), .ref (ax 7), .ref (ax 15), .ref (ax 17), .ref (ax 18), .ref (ax 19), .ref (ax 20), .int xSr, .int xWm, .int xTp])), ((ax 19), .inl (cA 1, 200, .inr (.inl gKk)))]) hP hD [0, 1] (by decide) rfl
    subst hQe
    have hans : ((-9000000000000000000) : Int64).toInt = (-9000000000000000000) := (by decide)
    have hpost : (0 ≤ xTp.toInt ∧ xTp.toInt ≤ 200) := i_xTp
    exact W.lret (v := (-9000000000000000000)) hx hb hr (fun t ht hW => ⟨⟨(-9000000000000000000), xTp, rfl, hpost, by rw [ht]; exact hP9, hD9⟩, hS.F ht⟩) hS.2.2 dX7_pop_10

set_option maxHeartbeats 8000000 in
set_option maxRecDepth 100000 in
theorem k_X7_times (l : Launch) (dC : Nat → ClassId) (dI : Nat → Nat → Nat) (cA : Nat → ClassId) (sz : Nat) (a : Int64) (b : Int64)   : Met l yX7_times wsX7_times ({ frames := 1, cells := 0, slots := 0, locals := 23 }) (va_Pc [.long a, .long b] (fun U => U.heap.size = sz ∧ va_P (dC, dI) vwCl [] U.heap ∧ va_K (dC, dI) vwCl (tyL cA) U ∧ va_D (fun _ => True) [] ∧ nw_ok U)) (va_Ql (fun (r : Int64) (_ : Unit) => True) (fun (_ : Unit) (t : State) => va_P (dC, dI) vwCl [] t.heap ∧ va_D (va_A [] sz) []) (va_A [] sz)) 0 0 (va_A [] sz) := by
  refine Met.ofW (cc := cX7_times) (maxL := 4) (ret := (some .long)) (by decide) rfl ?_
  intro p e s m args below meth c s₁ B hml hv
  obtain ⟨rfl, hsz, hP, hK, hD0, hN⟩ := hv
  have hx := B.exec
  have hb := B.bytes
  have hr := B.returns
  have hts := atoms_spec (ws := wsX7_times) B.pre
  have hown : s.vm.findClass RX7 = some m.cls := findClass_of_methodNamed B.named
  have hlocks := B.notSynchronized
  subst hsz
  have hD := hD0.self (sz := s.heap.size)
  generalize hAe : va_A [] s.heap.size = A at hD ⊢
  have hA : ∀ q : Nat, s.heap.size ≤ q → A q := fun q h => by rw [← hAe]; exact Or.inr h
  have hS : va_S A s.heap s.heap [] := va_S.rf
  have hl := lv_entry ([.long a, .long b]) (n := 4) (Nat.le_of_ble_eq_true rfl)
  rw [lg_entry_eq]
  generalize (lg_sl ([.long a, .long b]) ++ List.replicate (4 - (lg_sl ([.long a, .long b])).length) Slot.unset).toArray = ls at hl ⊢
  have hl : lv_has ls 4 [(0, .long a), (2, .long b)] := hl
  generalize hQe : MQ below _ _ _ _ _ _ = QQ
  refine lv_lload_n hx hb dX7_times_0 rfl (lv_at hl 0 rfl) ?_
  refine lv_lconst (v := 0) hx hb dX7_times_1 (by decide) ?_
  refine W.lcmp hx hb dX7_times_2 ?_
  refine lv_topi (fun k_1 ek_1 => ?_)
  have dk_1 : (k_1.toInt < 0 ↔ a.toInt < 0) ∧ (k_1.toInt = 0 ↔ a.toInt = 0) ∧ (0 < k_1.toInt ↔ 0 < a.toInt) := jI_cmp ek_1 rfl (by decide)
  refine lv_if_eq (tgt := 26) hx hb dX7_times_3 (by decide) (fun c_2 => ?_) (fun c_2 => ?_)
  · have dc_2 : k_1.toInt = 0 := jI_eq c_2 rfl (by decide)
    refine lv_lload_n hx hb dX7_times_26 rfl (lv_at hl 0 rfl) ?_
    refine lv_lload_n hx hb dX7_times_27 rfl (lv_at hl 1 rfl) ?_
    refine lv_lmul hx hb dX7_times_28 ?_
    refine lv_topl (fun y_3 ey_3 => ?_)
    obtain ⟨hP9, hD9⟩ := va_pd (ws' := []) hP hD [] (by decide) rfl
    subst hQe
    have hans : (y_3 : Int64).toInt = y_3.toInt := rfl
    exact W.lret (v := y_3) hx hb hr (fun t ht hW => ⟨⟨y_3, (), rfl, trivial, by rw [ht]; exact hP9, hD9⟩, hS.F ht⟩) hS.2.2 dX7_times_29
  · have dc_2 : ¬ k_1.toInt = 0 := jI_ne c_2 rfl (by decide)
    refine lv_lload_n hx hb dX7_times_6 rfl (lv_at hl 1 rfl) ?_
    refine va_mabs_long hx hb (by rw [hml]; exact hl.1.symm) hown (hts (.methodLink RX7 153 Lib.MathLoose.abs_long.x) (by decide +kernel)) (hts (.static Lib.MathLoose.abs_long.x) (by decide +kernel)) (hts (.initialized "java/lang/Math") (by decide +kernel)) (hts (.code Lib.MathLoose.abs_long.x Lib.MathLoose.abs_long.code 2 (some .long)) (by decide +kernel)) (Nat.le_of_ble_eq_true rfl) (Nat.le_of_ble_eq_true rfl) (Nat.le_of_ble_eq_true rfl) (Nat.le_of_ble_eq_true rfl) dX7_times_7 ?_
    refine lv_topl (fun y_4 ey_4 => ?_)
    have dy_4 : y_4.toInt = 0 ↔ b.toInt = 0 := jL_abs0 ey_4
    refine lv_ldc2 hx hb hown (hts (.constantLong RX7 157 (1000000000000)) (by decide +kernel)) dX7_times_10 ?_
    refine lv_lload_n hx hb dX7_times_13 rfl (lv_at hl 0 rfl) ?_
    refine va_mabs_long hx hb (by rw [hml]; exact hl.1.symm) hown (hts (.methodLink RX7 153 Lib.MathLoose.abs_long.x) (by decide +kernel)) (hts (.static Lib.MathLoose.abs_long.x) (by decide +kernel)) (hts (.initialized "java/lang/Math") (by decide +kernel)) (hts (.code Lib.MathLoose.abs_long.x Lib.MathLoose.abs_long.code 2 (some .long)) (by decide +kernel)) (Nat.le_of_ble_eq_true rfl) (Nat.le_of_ble_eq_true rfl) (Nat.le_of_ble_eq_true rfl) (Nat.le_of_ble_eq_true rfl) dX7_times_14 ?_
    refine lv_topl (fun y_5 ey_5 => ?_)
    have dy_5 : y_5.toInt = 0 ↔ a.toInt = 0 := jL_abs0 ey_5
    refine lv_ldiv hx hb dX7_times_17 (jL_ne0 (by omega)) ?_
    refine lv_topl (fun y_6 ey_6 => ?_)
    refine W.lcmp hx hb dX7_times_18 ?_
    refine lv_topi (fun k_7 ek_7 => ?_)
    have dk_7 : (k_7.toInt < 0 ↔ y_4.toInt < y_6.toInt) ∧ (k_7.toInt = 0 ↔ y_4.toInt = y_6.toInt) ∧ (0 < k_7.toInt ↔ y_6.toInt < y_4.toInt) := jI_cmp ek_7 rfl rfl
    refine lv_if_le (tgt := 26) hx hb dX7_times_19 (by decide) (fun c_8 => ?_) (fun c_8 => ?_)
    · have dc_8 : k_7.toInt ≤ 0 := jI_le c_8 rfl (by decide)
      refine lv_lload_n hx hb dX7_times_26 rfl (lv_at hl 0 rfl) ?_
      refine lv_lload_n hx hb dX7_times_27 rfl (lv_at hl 1 rfl) ?_
      refine lv_lmul hx hb dX7_times_28 ?_
      refine lv_topl (fun y_9 ey_9 => ?_)
      obtain ⟨hP9, hD9⟩ := va_pd (ws' := []) hP hD [] (by decide) rfl
      subst hQe
      have hans : (y_9 : Int64).toInt = y_9.toInt := rfl
      exact W.lret (v := y_9) hx hb hr (fun t ht hW => ⟨⟨y_9, (), rfl, trivial, by rw [ht]; exact hP9, hD9⟩, hS.F ht⟩) hS.2.2 dX7_times_29
    · have dc_8 : 0 < k_7.toInt := jI_nle c_8 rfl (by decide)
      refine lv_ldc2 hx hb hown (hts (.constantLong RX7 38 (-9000000000000000000)) (by decide +kernel)) dX7_times_22 ?_
      obtain ⟨hP9, hD9⟩ := va_pd (ws' := []) hP hD [] (by decide) rfl
      subst hQe
      have hans : ((-9000000000000000000) : Int64).toInt = (-9000000000000000000) := (by decide)
      exact W.lret (v := (-9000000000000000000)) hx hb hr (fun t ht hW => ⟨⟨(-9000000000000000000), (), rfl, trivial, by rw [ht]; exact hP9, hD9⟩, hS.F ht⟩) hS.2.2 dX7_times_25

set_option maxHeartbeats 8000000 in
set_option maxRecDepth 100000 in
theorem k_X7_join (l : Launch) (dC : Nat → ClassId) (dI : Nat → Nat → Nat) (cA : Nat → ClassId) (sz : Nat) (cd : Int32) (a : Int64) (b : Int64)   : Met l yX7_join wsX7_join ({ frames := 2, cells := 0, slots := 0, locals := 46 }) (va_Pc [.int cd, .long a, .long b] (fun U => U.heap.size = sz ∧ va_P (dC, dI) vwCl [] U.heap ∧ va_K (dC, dI) vwCl (tyL cA) U ∧ va_D (fun _ => True) [] ∧ nw_ok U)) (va_Ql (fun (r : Int64) (_ : Unit) => True) (fun (_ : Unit) (t : State) => va_P (dC, dI) vwCl [] t.heap ∧ va_D (va_A [] sz) []) (va_A [] sz)) 0 0 (va_A [] sz) := by
  refine Met.ofW (cc := cX7_join) (maxL := 5) (ret := (some .long)) (by decide) rfl ?_
  intro p e s m args below meth c s₁ B hml hv
  obtain ⟨rfl, hsz, hP, hK, hD0, hN⟩ := hv
  have hx := B.exec
  have hb := B.bytes
  have hr := B.returns
  have hts := atoms_spec (ws := wsX7_join) B.pre
  have hown : s.vm.findClass RX7 = some m.cls := findClass_of_methodNamed B.named
  have hlocks := B.notSynchronized
  subst hsz
  have hD := hD0.self (sz := s.heap.size)
  generalize hAe : va_A [] s.heap.size = A at hD ⊢
  have hA : ∀ q : Nat, s.heap.size ≤ q → A q := fun q h => by rw [← hAe]; exact Or.inr h
  have hS : va_S A s.heap s.heap [] := va_S.rf
  have hl := lv_entry ([.int cd, .long a, .long b]) (n := 5) (Nat.le_of_ble_eq_true rfl)
  rw [lg_entry_eq]
  generalize (lg_sl ([.int cd, .long a, .long b]) ++ List.replicate (5 - (lg_sl ([.int cd, .long a, .long b])).length) Slot.unset).toArray = ls at hl ⊢
  have hl : lv_has ls 5 [(0, .int cd), (1, .long a), (3, .long b)] := hl
  generalize hQe : MQ below _ _ _ _ _ _ = QQ
  refine lv_lload_n hx hb dX7_join_0 rfl (lv_at hl 1 rfl) ?_
  refine lv_ldc2 hx hb hown (hts (.constantLong RX7 38 (-9000000000000000000)) (by decide +kernel)) dX7_join_1 ?_
  refine W.lcmp hx hb dX7_join_4 ?_
  refine lv_topi (fun k_1 ek_1 => ?_)
  have dk_1 : (k_1.toInt < 0 ↔ a.toInt < (-9000000000000000000)) ∧ (k_1.toInt = 0 ↔ a.toInt = (-9000000000000000000)) ∧ (0 < k_1.toInt ↔ (-9000000000000000000) < a.toInt) := jI_cmp ek_1 rfl (by decide)
  refine lv_if_eq (tgt := 16) hx hb dX7_join_5 (by decide) (fun c_2 => ?_) (fun c_2 => ?_)
  · have dc_2 : k_1.toInt = 0 := jI_eq c_2 rfl (by decide)
    refine lv_ldc2 hx hb hown (hts (.constantLong RX7 38 (-9000000000000000000)) (by decide +kernel)) dX7_join_16 ?_
    obtain ⟨hP9, hD9⟩ := va_pd (ws' := []) hP hD [] (by decide) rfl
    subst hQe
    have hans : ((-9000000000000000000) : Int64).toInt = (-9000000000000000000) := (by decide)
    exact W.lret (v := (-9000000000000000000)) hx hb hr (fun t ht hW => ⟨⟨(-9000000000000000000), (), rfl, trivial, by rw [ht]; exact hP9, hD9⟩, hS.F ht⟩) hS.2.2 dX7_join_19
  · have dc_2 : ¬ k_1.toInt = 0 := jI_ne c_2 rfl (by decide)
    refine lv_lload_n hx hb dX7_join_8 rfl (lv_at hl 2 rfl) ?_
    refine lv_ldc2 hx hb hown (hts (.constantLong RX7 38 (-9000000000000000000)) (by decide +kernel)) dX7_join_9 ?_
    refine W.lcmp hx hb dX7_join_12 ?_
    refine lv_topi (fun k_3 ek_3 => ?_)
    have dk_3 : (k_3.toInt < 0 ↔ b.toInt < (-9000000000000000000)) ∧ (k_3.toInt = 0 ↔ b.toInt = (-9000000000000000000)) ∧ (0 < k_3.toInt ↔ (-9000000000000000000) < b.toInt) := jI_cmp ek_3 rfl (by decide)
    refine lv_if_ne (tgt := 20) hx hb dX7_join_13 (by decide) (fun c_4 => ?_) (fun c_4 => ?_)
    · have dc_4 : ¬ k_3.toInt = 0 := jI_ne c_4 rfl (by decide)
      refine lv_iload_n hx hb dX7_join_20 rfl (lv_at hl 0 rfl) ?_
      rcases (jI_range cd 9 11 : (cd.toInt < 9 ∨ 11 < cd.toInt) ∨ (9 ≤ cd.toInt ∧ cd.toInt ≤ 11)) with hsw | hsw
      · refine lv_tableOut (tgt := 62) hx hb dX7_join_21 hsw (by decide) ?_
        refine lv_lload_n hx hb dX7_join_62 rfl (lv_at hl 2 rfl) ?_
        refine lv_lconst (v := 0) hx hb dX7_join_63 (by decide) ?_
        refine W.lcmp hx hb dX7_join_64 ?_
        refine lv_topi (fun k_5 ek_5 => ?_)
        have dk_5 : (k_5.toInt < 0 ↔ b.toInt < 0) ∧ (k_5.toInt = 0 ↔ b.toInt = 0) ∧ (0 < k_5.toInt ↔ 0 < b.toInt) := jI_cmp ek_5 rfl (by decide)
        refine lv_if_ne (tgt := 74) hx hb dX7_join_65 (by decide) (fun c_6 => ?_) (fun c_6 => ?_)
        · have dc_6 : ¬ k_5.toInt = 0 := jI_ne c_6 rfl (by decide)
          refine lv_lload_n hx hb dX7_join_74 rfl (lv_at hl 1 rfl) ?_
          refine lv_lload_n hx hb dX7_join_75 rfl (lv_at hl 2 rfl) ?_
          refine lv_ldiv hx hb dX7_join_76 (jL_ne0 (by omega)) ?_
          refine lv_topl (fun y_7 ey_7 => ?_)
          obtain ⟨hP9, hD9⟩ := va_pd (ws' := []) hP hD [] (by decide) rfl
          subst hQe
          have hans : (y_7 : Int64).toInt = y_7.toInt := rfl
          exact W.lret (v := y_7) hx hb hr (fun t ht hW => ⟨⟨y_7, (), rfl, trivial, by rw [ht]; exact hP9, hD9⟩, hS.F ht⟩) hS.2.2 dX7_join_77
        · have dc_6 : k_5.toInt = 0 := jI_eq c_6 rfl (by decide)
          refine lv_ldc2 hx hb hown (hts (.constantLong RX7 38 (-9000000000000000000)) (by decide +kernel)) dX7_join_68 ?_
          refine lv_goto (tgt := 77) hx hb dX7_join_71 (by decide) ?_
          obtain ⟨hP9, hD9⟩ := va_pd (ws' := []) hP hD [] (by decide) rfl
          subst hQe
          have hans : ((-9000000000000000000) : Int64).toInt = (-9000000000000000000) := (by decide)
          exact W.lret (v := (-9000000000000000000)) hx hb hr (fun t ht hW => ⟨⟨(-9000000000000000000), (), rfl, trivial, by rw [ht]; exact hP9, hD9⟩, hS.F ht⟩) hS.2.2 dX7_join_77
      · rcases (show cd.toInt = 9 ∨ cd.toInt = 10 ∨ cd.toInt = 11 by omega) with hsw | hsw | hsw
        · refine lv_tableIn (off := 27) (tgt := 48) hx hb dX7_join_21 (by omega) (by omega) (by rw [hsw]; rfl) (by decide) ?_
          refine lv_lload_n hx hb dX7_join_48 rfl (lv_at hl 1 rfl) ?_
          refine lv_lload_n hx hb dX7_join_49 rfl (lv_at hl 2 rfl) ?_
          refine lv_ladd hx hb dX7_join_50 ?_
          refine lv_topl (fun y_8 ey_8 => ?_)
          obtain ⟨hP9, hD9⟩ := va_pd (ws' := []) hP hD [] (by decide) rfl
          subst hQe
          have hans : (y_8 : Int64).toInt = y_8.toInt := rfl
          exact W.lret (v := y_8) hx hb hr (fun t ht hW => ⟨⟨y_8, (), rfl, trivial, by rw [ht]; exact hP9, hD9⟩, hS.F ht⟩) hS.2.2 dX7_join_51
        · refine lv_tableIn (off := 31) (tgt := 52) hx hb dX7_join_21 (by omega) (by omega) (by rw [hsw]; rfl) (by decide) ?_
          refine lv_lload_n hx hb dX7_join_52 rfl (lv_at hl 1 rfl) ?_
          refine lv_lload_n hx hb dX7_join_53 rfl (lv_at hl 2 rfl) ?_
          refine lv_lsub hx hb dX7_join_54 ?_
          refine lv_topl (fun y_9 ey_9 => ?_)
          obtain ⟨hP9, hD9⟩ := va_pd (ws' := []) hP hD [] (by decide) rfl
          subst hQe
          have hans : (y_9 : Int64).toInt = y_9.toInt := rfl
          exact W.lret (v := y_9) hx hb hr (fun t ht hW => ⟨⟨y_9, (), rfl, trivial, by rw [ht]; exact hP9, hD9⟩, hS.F ht⟩) hS.2.2 dX7_join_55
        · refine lv_tableIn (off := 35) (tgt := 56) hx hb dX7_join_21 (by omega) (by omega) (by rw [hsw]; rfl) (by decide) ?_
          refine lv_lload_n hx hb dX7_join_56 rfl (lv_at hl 1 rfl) ?_
          refine lv_lload_n hx hb dX7_join_57 rfl (lv_at hl 2 rfl) ?_
          obtain ⟨hPc, hDc, hFc, hCc⟩ := va_pre (ws' := []) hP hD hS hA [] (by decide) rfl
          refine va_calll (va_runS (As := [.long a, .long b]) (rest := []) ⟨hx, hb, hml, hown, hts⟩ (k_X7_times l dC dI cA s.heap.size a b ) (va_cwS 2 hts gX7_join_X7_times rfl rfl rfl (by decide +kernel) ⟨Nat.le_of_ble_eq_true rfl, Nat.le_of_ble_eq_true rfl⟩) ⟨fun a U g mk q => by obtain ⟨q0, q1, qP, qK, qD, qN⟩ := q; exact ⟨q0, q1, qP, va_K.moved (u := U) (U := U.calling g mk a) (Vm.Alike.refl U.vm) qK, qD, qN.same rfl⟩, fun U hU hW => ⟨rfl, by rw [hU], by rw [hU]; exact hPc, va_K.moved hW.alike hK, hDc.weaken (fun _ _ _ _ => trivial), hN.warm hW⟩⟩ rfl rfl hl.1 rfl (lv_room (Nat.le_of_ble_eq_true rfl)) dX7_join_58 ⟨Nat.le_of_ble_eq_true rfl, Nat.le_of_ble_eq_true rfl⟩) hS (fun q _ h => hFc q h) hFc (fun r_10 u_11 t H1 locs ht hvm hw_12 hB hz1 hk1 hS => ?_)
          try dsimp only at hw_12 hB
          obtain ⟨hP1, hD1⟩ := hB
          rw [ht] at hP1
          obtain ⟨hP, hD⟩ := va_join (wr := []) (w1 := []) hP hD [] [] hCc rfl (by decide) (by decide) hk1 hFc hP1 hD1
          clear hz1
          generalize H1 = H at hP hS ⊢
          obtain ⟨hP9, hD9⟩ := va_pd (ws' := []) hP hD [] (by decide) rfl
          subst hQe
          have hans : (r_10 : Int64).toInt = r_10.toInt := rfl
          exact W.lret (v := r_10) hx hb hr (fun t ht hW => ⟨⟨r_10, (), rfl, trivial, by rw [ht]; exact hP9, hD9⟩, hS.F ht⟩) hS.2.2 dX7_join_61
    · have dc_4 : k_3.toInt = 0 := jI_eq c_4 rfl (by decide)
      refine lv_ldc2 hx hb hown (hts (.constantLong RX7 38 (-9000000000000000000)) (by decide +kernel)) dX7_join_16 ?_
      obtain ⟨hP9, hD9⟩ := va_pd (ws' := []) hP hD [] (by decide) rfl
      subst hQe
      have hans : ((-9000000000000000000) : Int64).toInt = (-9000000000000000000) := (by decide)
      exact W.lret (v := (-9000000000000000000)) hx hb hr (fun t ht hW => ⟨⟨(-9000000000000000000), (), rfl, trivial, by rw [ht]; exact hP9, hD9⟩, hS.F ht⟩) hS.2.2 dX7_join_19
