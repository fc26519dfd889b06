theorem dX9_shift_0 : decode cX9_shift 0 = .ok (.iload_n 2, 1) := by decide +kernel
set_option maxRecDepth 20000 in
theorem ggX9_shift_X9_isMoment : GoodIn wsX9_shift wsX9_isMoment := goodIn_r _ [9, 10, 11, 12, 8, 13] (by decide +kernel) (by decide +kernel)
set_option maxRecDepth 20000 in
theorem gX9_shift_X9_isMoment : GoodIn wsX9_shift (va_wsS RX9 142 yX9_isMoment wsX9_isMoment) := goodIn_app (goodIn_of _ (by decide +kernel)) ggX9_shift_X9_isMoment
theorem dX9_shift_1 : decode cX9_shift 1 = .ok (.invokestatic 142, 3) := by decide +kernel
theorem dX9_shift_4 : decode cX9_shift 4 = .ok (.ifCond .eq 37, 3) := by decide +kernel
theorem dX9_shift_41 : decode cX9_shift 41 = .ok (.ldc2_w 335, 3) := by decide +kernel
theorem dX9_shift_44 : decode cX9_shift 44 = .ok (.lreturn, 1) := by decide +kernel
theorem dX9_shift_7 : decode cX9_shift 7 = .ok (.iload_n 3, 1) := by decide +kernel
theorem dX9_shift_8 : decode cX9_shift 8 = .ok (.invokestatic 142, 3) := by decide +kernel
theorem dX9_shift_11 : decode cX9_shift 11 = .ok (.ifCond .eq 30, 3) := by decide +kernel
theorem dX9_shift_14 : decode cX9_shift 14 = .ok (.lload 4, 2) := by decide +kernel
theorem dX9_shift_16 : decode cX9_shift 16 = .ok (.lload 6, 2) := by decide +kernel
theorem dX9_shift_18 : decode cX9_shift 18 = .ok (.lcmp, 1) := by decide +kernel
theorem dX9_shift_19 : decode cX9_shift 19 = .ok (.ifCond .gt 22, 3) := by decide +kernel
theorem dX9_shift_22 : decode cX9_shift 22 = .ok (.lload 6, 2) := by decide +kernel
theorem dX9_shift_24 : decode cX9_shift 24 = .ok (.lload 8, 2) := by decide +kernel
theorem dX9_shift_26 : decode cX9_shift 26 = .ok (.lcmp, 1) := by decide +kernel
theorem dX9_shift_27 : decode cX9_shift 27 = .ok (.ifCond .gt 14, 3) := by decide +kernel
theorem dX9_shift_30 : decode cX9_shift 30 = .ok (.iload 10, 2) := by decide +kernel
theorem dX9_shift_32 : decode cX9_shift 32 = .ok (.i2l, 1) := by decide +kernel
theorem dX9_shift_33 : decode cX9_shift 33 = .ok (.lconst 0, 1) := by decide +kernel
theorem dX9_shift_34 : decode cX9_shift 34 = .ok (.lconst 1, 1) := by decide +kernel
set_option maxRecDepth 20000 in
theorem ggX9_shift_X9_in : GoodIn wsX9_shift wsX9_in := goodIn_r _ [13] (by decide +kernel) (by decide +kernel)
set_option maxRecDepth 20000 in
theorem gX9_shift_X9_in : GoodIn wsX9_shift (va_wsS RX9 127 yX9_in wsX9_in) := goodIn_app (goodIn_of _ (by decide +kernel)) ggX9_shift_X9_in
theorem dX9_shift_35 : decode cX9_shift 35 = .ok (.invokestatic 127, 3) := by decide +kernel
theorem dX9_shift_38 : decode cX9_shift 38 = .ok (.ifCond .ne 7, 3) := by decide +kernel
theorem dX9_shift_45 : decode cX9_shift 45 = .ok (.aload_n 0, 1) := by decide +kernel
theorem dX9_shift_46 : decode cX9_shift 46 = .ok (.iload_n 1, 1) := by decide +kernel
set_option maxRecDepth 20000 in
theorem ggX9_shift_X9_isTrait : GoodIn wsX9_shift wsX9_isTrait := goodIn_r _ [17, 18, 11, 12, 8, 13, 73, 74, 75, 76, 77, 78, 79, 80, 81, 82, 83, 84, 85, 86, 87, 88, 89, 90, 91, 92, 93, 94, 95, 96, 97, 98, 99, 100, 101, 102, 103, 104, 105, 106, 107, 108, 109, 110, 111, 112, 113, 114, 115, 116, 117, 118, 119, 120, 121, 122, 123] (by decide +kernel) (by decide +kernel)
set_option maxRecDepth 20000 in
theorem gX9_shift_X9_isTrait : GoodIn wsX9_shift (wsV RX9 297 RX9 yX9_isTrait wsX9_isTrait) := goodIn_app (goodIn_of _ (by decide +kernel)) ggX9_shift_X9_isTrait
theorem dX9_shift_47 : decode cX9_shift 47 = .ok (.invokevirtual 297, 3) := by decide +kernel
theorem dX9_shift_50 : decode cX9_shift 50 = .ok (.ifCond .ne 7, 3) := by decide +kernel
theorem dX9_shift_57 : decode cX9_shift 57 = .ok (.aload_n 0, 1) := by decide +kernel
theorem dX9_shift_58 : decode cX9_shift 58 = .ok (.iload_n 1, 1) := by decide +kernel
theorem dX9_shift_59 : decode cX9_shift 59 = .ok (.iload_n 2, 1) := by decide +kernel
theorem dX9_shift_60 : decode cX9_shift 60 = .ok (.lload 4, 2) := by decide +kernel
theorem dX9_shift_62 : decode cX9_shift 62 = .ok (.lload 6, 2) := by decide +kernel
theorem dX9_shift_64 : decode cX9_shift 64 = .ok (.lload 8, 2) := by decide +kernel
theorem dX9_shift_66 : decode cX9_shift 66 = .ok (.aload_n 0, 1) := by decide +kernel
theorem dX9_shift_67 : decode cX9_shift 67 = .ok (.getfield 116, 3) := by decide +kernel
set_option maxRecDepth 20000 in
theorem ggX9_shift_X9_heaps : GoodIn wsX9_shift wsX9_heaps := goodIn_r _ [22, 23, 24, 25, 26, 27, 8, 28, 29, 30, 31, 32, 33, 34, 35, 36, 37, 38, 39, 40, 41, 42, 43, 44, 45, 46, 47, 48, 49, 50, 51, 52, 53, 54, 55, 56, 57, 58, 59, 60, 61, 62, 63, 64, 65, 66, 67, 68, 69, 70, 71, 72, 73, 74, 75, 76, 77, 78, 79, 80, 81, 82, 83, 84, 85, 86, 87, 88, 89, 90, 91, 92, 93, 94, 95, 96, 97, 98, 99, 100, 101, 102, 103, 104, 105, 106, 107, 108, 109, 110, 111, 112, 113, 114, 115, 116, 117, 118, 119, 120, 121, 122, 123] (by decide +kernel) (by decide +kernel)
set_option maxRecDepth 20000 in
theorem gX9_shift_X9_heaps : GoodIn wsX9_shift (wsV RX9 339 RX9 yX9_heaps wsX9_heaps) := goodIn_app (goodIn_of _ (by decide +kernel)) ggX9_shift_X9_heaps
theorem dX9_shift_70 : decode cX9_shift 70 = .ok (.invokevirtual 339, 3) := by decide +kernel
theorem dX9_shift_73 : decode cX9_shift 73 = .ok (.istore 11, 2) := by decide +kernel
theorem dX9_shift_75 : decode cX9_shift 75 = .ok (.aload_n 0, 1) := by decide +kernel
theorem dX9_shift_76 : decode cX9_shift 76 = .ok (.iload_n 1, 1) := by decide +kernel
theorem dX9_shift_77 : decode cX9_shift 77 = .ok (.iload_n 3, 1) := by decide +kernel
theorem dX9_shift_78 : decode cX9_shift 78 = .ok (.lload 4, 2) := by decide +kernel
theorem dX9_shift_80 : decode cX9_shift 80 = .ok (.lload 6, 2) := by decide +kernel
theorem dX9_shift_82 : decode cX9_shift 82 = .ok (.lload 8, 2) := by decide +kernel
theorem dX9_shift_84 : decode cX9_shift 84 = .ok (.aload_n 0, 1) := by decide +kernel
theorem dX9_shift_85 : decode cX9_shift 85 = .ok (.getfield 119, 3) := by decide +kernel
theorem dX9_shift_88 : decode cX9_shift 88 = .ok (.invokevirtual 339, 3) := by decide +kernel
theorem dX9_shift_91 : decode cX9_shift 91 = .ok (.istore 12, 2) := by decide +kernel
theorem dX9_shift_93 : decode cX9_shift 93 = .ok (.iload 11, 2) := by decide +kernel
theorem dX9_shift_95 : decode cX9_shift 95 = .ok (.ifCond .eq 8, 3) := by decide +kernel
theorem dX9_shift_103 : decode cX9_shift 103 = .ok (.ldc2_w 343, 3) := by decide +kernel
theorem dX9_shift_106 : decode cX9_shift 106 = .ok (.lreturn, 1) := by decide +kernel
theorem dX9_shift_98 : decode cX9_shift 98 = .ok (.iload 12, 2) := by decide +kernel
theorem dX9_shift_100 : decode cX9_shift 100 = .ok (.ifCond .ne 7, 3) := by decide +kernel
theorem dX9_shift_107 : decode cX9_shift 107 = .ok (.iconst 0, 1) := by decide +kernel
theorem dX9_shift_108 : decode cX9_shift 108 = .ok (.istore 13, 2) := by decide +kernel
theorem dX9_shift_110 : decode cX9_shift 110 = .ok (.iconst 0, 1) := by decide +kernel
theorem dX9_shift_111 : decode cX9_shift 111 = .ok (.istore 14, 2) := by decide +kernel
theorem dX9_shift_113 : decode cX9_shift 113 = .ok (.iload 14, 2) := by decide +kernel
theorem dX9_shift_115 : decode cX9_shift 115 = .ok (.iconst 4, 1) := by decide +kernel
theorem dX9_shift_116 : decode cX9_shift 116 = .ok (.if_icmp .ge 48, 3) := by decide +kernel
theorem dX9_shift_164 : decode cX9_shift 164 = .ok (.iload 11, 2) := by decide +kernel
theorem dX9_shift_166 : decode cX9_shift 166 = .ok (.iload 12, 2) := by decide +kernel
theorem dX9_shift_168 : decode cX9_shift 168 = .ok (.imul, 1) := by decide +kernel
theorem dX9_shift_169 : decode cX9_shift 169 = .ok (.istore 14, 2) := by decide +kernel
theorem dX9_shift_171 : decode cX9_shift 171 = .ok (.iload 13, 2) := by decide +kernel
theorem dX9_shift_173 : decode cX9_shift 173 = .ok (.istore 15, 2) := by decide +kernel
theorem dX9_shift_175 : decode cX9_shift 175 = .ok (.iload 15, 2) := by decide +kernel
theorem dX9_shift_177 : decode cX9_shift 177 = .ok (.ifCond .le 21, 3) := by decide +kernel
theorem dX9_shift_198 : decode cX9_shift 198 = .ok (.iload 10, 2) := by decide +kernel
theorem dX9_shift_200 : decode cX9_shift 200 = .ok (.ifCond .ne 12, 3) := by decide +kernel
theorem dX9_shift_212 : decode cX9_shift 212 = .ok (.iload 11, 2) := by decide +kernel
theorem dX9_shift_214 : decode cX9_shift 214 = .ok (.iload 12, 2) := by decide +kernel
theorem dX9_shift_216 : decode cX9_shift 216 = .ok (.imul, 1) := by decide +kernel
theorem dX9_shift_217 : decode cX9_shift 217 = .ok (.iload 14, 2) := by decide +kernel
theorem dX9_shift_219 : decode cX9_shift 219 = .ok (.idiv, 1) := by decide +kernel
theorem dX9_shift_220 : decode cX9_shift 220 = .ok (.i2l, 1) := by decide +kernel
theorem dX9_shift_221 : decode cX9_shift 221 = .ok (.lreturn, 1) := by decide +kernel
theorem dX9_shift_203 : decode cX9_shift 203 = .ok (.iload 13, 2) := by decide +kernel
theorem dX9_shift_205 : decode cX9_shift 205 = .ok (.iload 14, 2) := by decide +kernel
theorem dX9_shift_207 : decode cX9_shift 207 = .ok (.idiv, 1) := by decide +kernel
theorem dX9_shift_208 : decode cX9_shift 208 = .ok (.i2l, 1) := by decide +kernel
theorem dX9_shift_209 : decode cX9_shift 209 = .ok (.goto 12, 3) := by decide +kernel
theorem dX9_shift_180 : decode cX9_shift 180 = .ok (.iload 14, 2) := by decide +kernel
theorem dX9_shift_182 : decode cX9_shift 182 = .ok (.iload 15, 2) := by decide +kernel
theorem dX9_shift_184 : decode cX9_shift 184 = .ok (.irem, 1) := by decide +kernel
theorem dX9_shift_185 : decode cX9_shift 185 = .ok (.istore 16, 2) := by decide +kernel
theorem dX9_shift_187 : decode cX9_shift 187 = .ok (.iload 15, 2) := by decide +kernel
theorem dX9_shift_189 : decode cX9_shift 189 = .ok (.istore 14, 2) := by decide +kernel
theorem dX9_shift_191 : decode cX9_shift 191 = .ok (.iload 16, 2) := by decide +kernel
theorem dX9_shift_193 : decode cX9_shift 193 = .ok (.istore 15, 2) := by decide +kernel
theorem dX9_shift_195 : decode cX9_shift 195 = .ok (.goto (-20), 3) := by decide +kernel
theorem dX9_shift_119 : decode cX9_shift 119 = .ok (.aload_n 0, 1) := by decide +kernel
theorem dX9_shift_120 : decode cX9_shift 120 = .ok (.getfield 116, 3) := by decide +kernel
theorem dX9_shift_123 : decode cX9_shift 123 = .ok (.iload 14, 2) := by decide +kernel
theorem dX9_shift_125 : decode cX9_shift 125 = .ok (.iaload, 1) := by decide +kernel
theorem dX9_shift_126 : decode cX9_shift 126 = .ok (.iload 12, 2) := by decide +kernel
theorem dX9_shift_128 : decode cX9_shift 128 = .ok (.imul, 1) := by decide +kernel
theorem dX9_shift_129 : decode cX9_shift 129 = .ok (.aload_n 0, 1) := by decide +kernel
theorem dX9_shift_130 : decode cX9_shift 130 = .ok (.getfield 119, 3) := by decide +kernel
theorem dX9_shift_133 : decode cX9_shift 133 = .ok (.iload 14, 2) := by decide +kernel
theorem dX9_shift_135 : decode cX9_shift 135 = .ok (.iaload, 1) := by decide +kernel
theorem dX9_shift_136 : decode cX9_shift 136 = .ok (.iload 11, 2) := by decide +kernel
theorem dX9_shift_138 : decode cX9_shift 138 = .ok (.imul, 1) := by decide +kernel
theorem dX9_shift_139 : decode cX9_shift 139 = .ok (.isub, 1) := by decide +kernel
theorem dX9_shift_140 : decode cX9_shift 140 = .ok (.istore 15, 2) := by decide +kernel
theorem dX9_shift_142 : decode cX9_shift 142 = .ok (.iload 13, 2) := by decide +kernel
theorem dX9_shift_144 : decode cX9_shift 144 = .ok (.iload 15, 2) := by decide +kernel
theorem dX9_shift_146 : decode cX9_shift 146 = .ok (.ifCond .le 8, 3) := by decide +kernel
theorem dX9_shift_154 : decode cX9_shift 154 = .ok (.iconst 0, 1) := by decide +kernel
theorem dX9_shift_155 : decode cX9_shift 155 = .ok (.iadd, 1) := by decide +kernel
theorem dX9_shift_156 : decode cX9_shift 156 = .ok (.istore 13, 2) := by decide +kernel
theorem dX9_shift_158 : decode cX9_shift 158 = .ok (.iinc 14 1, 3) := by decide +kernel
theorem dX9_shift_161 : decode cX9_shift 161 = .ok (.goto (-48), 3) := by decide +kernel
theorem dX9_shift_149 : decode cX9_shift 149 = .ok (.iload 15, 2) := by decide +kernel
theorem dX9_shift_151 : decode cX9_shift 151 = .ok (.goto 4, 3) := by decide +kernel
theorem dX9_shift_53 : decode cX9_shift 53 = .ok (.ldc2_w 337, 3) := by decide +kernel
theorem dX9_shift_56 : decode cX9_shift 56 = .ok (.lreturn, 1) := by decide +kernel
set_option maxHeartbeats 8000000 in
set_option maxRecDepth 100000 in
theorem k_X9_shift (l : Launch) (dC : Nat → ClassId) (dI : Nat → Nat → Nat) (cA : Nat → ClassId) (sz : Nat) (am : Nat → Nat) (v_status : Int32) (v_now : Int32) (v_told : Int32) (v_merges : Int32) (v_taped : Int32) (v_size : Int32) (v_from : Int32) (v_to : Int32) (v_fault : Int32) (v_readFault : Int32) (v_traits : Int32) (v_length : Int32) (v_open : Int32) (v_leaks : Int32) (v_places : Int32) (v_models : Int32) (f_isGone : Nat → Int32) (f_rowStream : Nat → Int32) (f_isOne : Nat → Int32) (f_rowPerson : Nat → Int32) (f_rowMoment : Nat → Int32) (f_rowKnown : Nat → Int32) (f_rowValue : Nat → Int32) (f_size0 : Nat → Int32) (f_step : Nat → Int32) (f_stepA : Nat → Int32) (f_stepB : Nat → Int32) (f_stepC : Nat → Int32) (f_heap : Nat → Int64) (f_values : Nat → Int64) (f_mergeTo : Nat → Int32) (f_mergeKnown : Nat → Int32) (f_isErased : Nat → Int32) (f_heapsOne : Nat → Int32) (f_heapsOther : Nat → Int32) (tt : Int32) (m1 : Int32) (m2 : Int32) (a : Int64) (b : Int64) (d : Int64) (w : Int32) (i_v_now : 0 ≤ v_now.toInt ∧ v_now.toInt ≤ 100000) (i_v_told : 0 ≤ v_told.toInt ∧ v_told.toInt ≤ 400) (i_v_taped : 0 ≤ v_taped.toInt ∧ v_taped.toInt ≤ 200) (i_v_size : 0 ≤ v_size.toInt ∧ v_size.toInt ≤ 200) (i_v_from : 0 ≤ v_from.toInt ∧ v_from.toInt ≤ 200) (i_v_to : 0 ≤ v_to.toInt ∧ v_to.toInt ≤ 200) (i_v_traits : 0 ≤ v_traits.toInt ∧ v_traits.toInt ≤ 20) (i_v_length : 0 ≤ v_length.toInt ∧ v_length.toInt ≤ 200) (i_v_open : 0 ≤ v_open.toInt ∧ v_open.toInt ≤ 8) (i_v_places : 0 ≤ v_places.toInt ∧ v_places.toInt ≤ 2000) (i_v_models : 0 ≤ v_models.toInt ∧ v_models.toInt ≤ 10) (i_f_rowPerson : inB 0 19 400 f_rowPerson) (i_f_size0 : inB 0 200 20 f_size0) (i_f_mergeTo : inB (-1) 19 20 f_mergeTo) (i_f_mergeKnown : inB 0 100000 20 f_mergeKnown) (hac : Acyc f_mergeTo) (hpr : progOK f_step f_stepA f_size0 v_traits) : Met l yX9_shift wsX9_shift ({ frames := 5, cells := 0, slots := 0, locals := 140 }) (va_Pc [.ref (am 0), .int tt, .int m1, .int m2, .long a, .long b, .long d, .int w] (fun U => U.heap.size = sz ∧ va_P (dC, dI) vwCl [((am 0), .inr (9, F9 am v_status v_now v_told v_merges v_taped v_size v_from v_to v_fault v_readFault v_traits v_length v_open v_leaks v_places v_models)), ((am 6), .inl (cA 2, 400, .inl f_isGone)), ((am 2), .inl (cA 0, 400, .inl f_rowStream)), ((am 19), .inl (cA 2, 20, .inl f_isOne)), ((am 1), .inl (cA 0, 400, .inl f_rowPerson)), ((am 3), .inl (cA 0, 400, .inl f_rowMoment)), ((am 4), .inl (cA 0, 400, .inl f_rowKnown)), ((am 5), .inl (cA 0, 400, .inl f_rowValue)), ((am 12), .inl (cA 0, 20, .inl f_size0)), ((am 13), .inl (cA 0, 5000, .inl f_step)), ((am 14), .inl (cA 0, 5000, .inl f_stepA)), ((am 15), .inl (cA 0, 5000, .inl f_stepB)), ((am 16), .inl (cA 0, 5000, .inl f_stepC)), ((am 18), .inl (cA 1, 250, .inr (.inl f_heap))), ((am 17), .inl (cA 1, 20, .inr (.inl f_values))), ((am 7), .inl (cA 0, 20, .inl f_mergeTo)), ((am 8), .inl (cA 0, 20, .inl f_mergeKnown)), ((am 9), .inl (cA 2, 20, .inl f_isErased)), ((am 34), .inl (cA 0, 4, .inl f_heapsOne)), ((am 35), .inl (cA 0, 4, .inl f_heapsOther))] U.heap ∧ va_K (dC, dI) vwCl (tyL cA) U ∧ va_D (fun _ => True) [((am 0), .inr (9, F9 am v_status v_now v_told v_merges v_taped v_size v_from v_to v_fault v_readFault v_traits v_length v_open v_leaks v_places v_models)), ((am 6), .inl (cA 2, 400, .inl f_isGone)), ((am 2), .inl (cA 0, 400, .inl f_rowStream)), ((am 19), .inl (cA 2, 20, .inl f_isOne)), ((am 1), .inl (cA 0, 400, .inl f_rowPerson)), ((am 3), .inl (cA 0, 400, .inl f_rowMoment)), ((am 4), .inl (cA 0, 400, .inl f_rowKnown)), ((am 5), .inl (cA 0, 400, .inl f_rowValue)), ((am 12), .inl (cA 0, 20, .inl f_size0)), ((am 13), .inl (cA 0, 5000, .inl f_step)), ((am 14), .inl (cA 0, 5000, .inl f_stepA)), ((am 15), .inl (cA 0, 5000, .inl f_stepB)), ((am 16), .inl (cA 0, 5000, .inl f_stepC)), ((am 18), .inl (cA 1, 250, .inr (.inl f_heap))), ((am 17), .inl (cA 1, 20, .inr (.inl f_values))), ((am 7), .inl (cA 0, 20, .inl f_mergeTo)), ((am 8), .inl (cA 0, 20, .inl f_mergeKnown)), ((am 9), .inl (cA 2, 20, .inl f_isErased)), ((am 34), .inl (cA 0, 4, .inl f_heapsOne)), ((am 35), .inl (cA 0, 4, .inl f_heapsOther))] ∧ nw_ok U)) (va_Ql (fun (r : Int64) (u : (Nat → Int64) × (Nat → Int64) × (Nat → Int32) × (Nat → Int32) × (Nat → Int32)) => True) (fun (u : (Nat → Int64) × (Nat → Int64) × (Nat → Int32) × (Nat → Int32) × (Nat → Int32)) (t : State) => va_P (dC, dI) vwCl [((am 0), .inr (9, F9 am v_status v_now v_told v_merges v_taped v_size v_from v_to v_fault v_readFault v_traits v_length v_open v_leaks v_places v_models)), ((am 6), .inl (cA 2, 400, .inl f_isGone)), ((am 2), .inl (cA 0, 400, .inl f_rowStream)), ((am 19), .inl (cA 2, 20, .inl u.2.2.1)), ((am 1), .inl (cA 0, 400, .inl f_rowPerson)), ((am 3), .inl (cA 0, 400, .inl f_rowMoment)), ((am 4), .inl (cA 0, 400, .inl f_rowKnown)), ((am 5), .inl (cA 0, 400, .inl f_rowValue)), ((am 12), .inl (cA 0, 20, .inl f_size0)), ((am 13), .inl (cA 0, 5000, .inl f_step)), ((am 14), .inl (cA 0, 5000, .inl f_stepA)), ((am 15), .inl (cA 0, 5000, .inl f_stepB)), ((am 16), .inl (cA 0, 5000, .inl f_stepC)), ((am 18), .inl (cA 1, 250, .inr (.inl u.1))), ((am 17), .inl (cA 1, 20, .inr (.inl u.2.1))), ((am 7), .inl (cA 0, 20, .inl f_mergeTo)), ((am 8), .inl (cA 0, 20, .inl f_mergeKnown)), ((am 9), .inl (cA 2, 20, .inl f_isErased)), ((am 34), .inl (cA 0, 4, .inl u.2.2.2.1)), ((am 35), .inl (cA 0, 4, .inl u.2.2.2.2))] t.heap ∧ va_D (va_A [((am 0), .inr (9, F9 am v_status v_now v_told v_merges v_taped v_size v_from v_to v_fault v_readFault v_traits v_length v_open v_leaks v_places v_models)), ((am 6), .inl (cA 2, 400, .inl f_isGone)), ((am 2), .inl (cA 0, 400, .inl f_rowStream)), ((am 19), .inl (cA 2, 20, .inl f_isOne)), ((am 1), .inl (cA 0, 400, .inl f_rowPerson)), ((am 3), .inl (cA 0, 400, .inl f_rowMoment)), ((am 4), .inl (cA 0, 400, .inl f_rowKnown)), ((am 5), .inl (cA 0, 400, .inl f_rowValue)), ((am 12), .inl (cA 0, 20, .inl f_size0)), ((am 13), .inl (cA 0, 5000, .inl f_step)), ((am 14), .inl (cA 0, 5000, .inl f_stepA)), ((am 15), .inl (cA 0, 5000, .inl f_stepB)), ((am 16), .inl (cA 0, 5000, .inl f_stepC)), ((am 18), .inl (cA 1, 250, .inr (.inl f_heap))), ((am 17), .inl (cA 1, 20, .inr (.inl f_values))), ((am 7), .inl (cA 0, 20, .inl f_mergeTo)), ((am 8), .inl (cA 0, 20, .inl f_mergeKnown)), ((am 9), .inl (cA 2, 20, .inl f_isErased)), ((am 34), .inl (cA 0, 4, .inl f_heapsOne)), ((am 35), .inl (cA 0, 4, .inl f_heapsOther))] sz) [((am 0), .inr (9, F9 am v_status v_now v_told v_merges v_taped v_size v_from v_to v_fault v_readFault v_traits v_length v_open v_leaks v_places v_models)), ((am 6), .inl (cA 2, 400, .inl f_isGone)), ((am 2), .inl (cA 0, 400, .inl f_rowStream)), ((am 19), .inl (cA 2, 20, .inl u.2.2.1)), ((am 1), .inl (cA 0, 400, .inl f_rowPerson)), ((am 3), .inl (cA 0, 400, .inl f_rowMoment)), ((am 4), .inl (cA 0, 400, .inl f_rowKnown)), ((am 5), .inl (cA 0, 400, .inl f_rowValue)), ((am 12), .inl (cA 0, 20, .inl f_size0)), ((am 13), .inl (cA 0, 5000, .inl f_step)), ((am 14), .inl (cA 0, 5000, .inl f_stepA)), ((am 15), .inl (cA 0, 5000, .inl f_stepB)), ((am 16), .inl (cA 0, 5000, .inl f_stepC)), ((am 18), .inl (cA 1, 250, .inr (.inl u.1))), ((am 17), .inl (cA 1, 20, .inr (.inl u.2.1))), ((am 7), .inl (cA 0, 20, .inl f_mergeTo)), ((am 8), .inl (cA 0, 20, .inl f_mergeKnown)), ((am 9), .inl (cA 2, 20, .inl f_isErased)), ((am 34), .inl (cA 0, 4, .inl u.2.2.2.1)), ((am 35), .inl (cA 0, 4, .inl u.2.2.2.2))]) (va_A [((am 0), .inr (9, F9 am v_status v_now v_told v_merges v_taped v_size v_from v_to v_fault v_readFault v_traits v_length v_open v_leaks v_places v_models)), ((am 6), .inl (cA 2, 400, .inl f_isGone)), ((am 2), .inl (cA 0, 400, .inl f_rowStream)), ((am 19), .inl (cA 2, 20, .inl f_isOne)), ((am 1), .inl (cA 0, 400, .inl f_rowPerson)), ((am 3), .inl (cA 0, 400, .inl f_rowMoment)), ((am 4), .inl (cA 0, 400, .inl f_rowKnown)), ((am 5), .inl (cA 0, 400, .inl f_rowValue)), ((am 12), .inl (cA 0, 20, .inl f_size0)), ((am 13), .inl (cA 0, 5000, .inl f_step)), ((am 14), .inl (cA 0, 5000, .inl f_stepA)), ((am 15), .inl (cA 0, 5000, .inl f_stepB)), ((am 16), .inl (cA 0, 5000, .inl f_stepC)), ((am 18), .inl (cA 1, 250, .inr (.inl f_heap))), ((am 17), .inl (cA 1, 20, .inr (.inl f_values))), ((am 7), .inl (cA 0, 20, .inl f_mergeTo)), ((am 8), .inl (cA 0, 20, .inl f_mergeKnown)), ((am 9), .inl (cA 2, 20, .inl f_isErased)), ((am 34), .inl (cA 0, 4, .inl f_heapsOne)), ((am 35), .inl (cA 0, 4, .inl f_heapsOther))] sz)) 0 0 (va_A [((am 0), .inr (9, F9 am v_status v_now v_told v_merges v_taped v_size v_from v_to v_fault v_readFault v_traits v_length v_open v_leaks v_places v_models)), ((am 6), .inl (cA 2, 400, .inl f_isGone)), ((am 2), .inl (cA 0, 400, .inl f_rowStream)), ((am 19), .inl (cA 2, 20, .inl f_isOne)), ((am 1), .inl (cA 0, 400, .inl f_rowPerson)), ((am 3), .inl (cA 0, 400, .inl f_rowMoment)), ((am 4), .inl (cA 0, 400, .inl f_rowKnown)), ((am 5), .inl (cA 0, 400, .inl f_rowValue)), ((am 12), .inl (cA 0, 20, .inl f_size0)), ((am 13), .inl (cA 0, 5000, .inl f_step)), ((am 14), .inl (cA 0, 5000, .inl f_stepA)), ((am 15), .inl (cA 0, 5000, .inl f_stepB)), ((am 16), .inl (cA 0, 5000, .inl f_stepC)), ((am 18), .inl (cA 1, 250, .inr (.inl f_heap))), ((am 17), .inl (cA 1, 20, .inr (.inl f_values))), ((am 7), .inl (cA 0, 20, .inl f_mergeTo)), ((am 8), .inl (cA 0, 20, .inl f_mergeKnown)), ((am 9), .inl (cA 2, 20, .inl f_isErased)), ((am 34), .inl (cA 0, 4, .inl f_heapsOne)), ((am 35), .inl (cA 0, 4, .inl f_heapsOther))] sz) := by
  refine Met.ofW (cc := cX9_shift) (maxL := 17) (ret := (some .long)) (by decide) rfl ?_
  intro p e s m args below meth c s₁ B hml hv
  obtain ⟨rfl, hsz, hP, hK, hD0, hN⟩ := hv
  have hx := B.exec
  have hb := B.bytes
  have hr := B.returns
  have hts := atoms_spec (ws := wsX9_shift) B.pre
  have hown : s.vm.findClass RX9 = some m.cls := findClass_of_methodNamed B.named
  have hlocks := B.notSynchronized
  subst hsz
  have hD := hD0.self (sz := s.heap.size)
  generalize hAe : va_A [((am 0), .inr (9, F9 am v_status v_now v_told v_merges v_taped v_size v_from v_to v_fault v_readFault v_traits v_length v_open v_leaks v_places v_models)), ((am 6), .inl (cA 2, 400, .inl f_isGone)), ((am 2), .inl (cA 0, 400, .inl f_rowStream)), ((am 19), .inl (cA 2, 20, .inl f_isOne)), ((am 1), .inl (cA 0, 400, .inl f_rowPerson)), ((am 3), .inl (cA 0, 400, .inl f_rowMoment)), ((am 4), .inl (cA 0, 400, .inl f_rowKnown)), ((am 5), .inl (cA 0, 400, .inl f_rowValue)), ((am 12), .inl (cA 0, 20, .inl f_size0)), ((am 13), .inl (cA 0, 5000, .inl f_step)), ((am 14), .inl (cA 0, 5000, .inl f_stepA)), ((am 15), .inl (cA 0, 5000, .inl f_stepB)), ((am 16), .inl (cA 0, 5000, .inl f_stepC)), ((am 18), .inl (cA 1, 250, .inr (.inl f_heap))), ((am 17), .inl (cA 1, 20, .inr (.inl f_values))), ((am 7), .inl (cA 0, 20, .inl f_mergeTo)), ((am 8), .inl (cA 0, 20, .inl f_mergeKnown)), ((am 9), .inl (cA 2, 20, .inl f_isErased)), ((am 34), .inl (cA 0, 4, .inl f_heapsOne)), ((am 35), .inl (cA 0, 4, .inl f_heapsOther))] s.heap.size = A at hD ⊢
  have hA : ∀ q : Nat, s.heap.size ≤ q → A q := fun q h => by rw [← hAe]; exact Or.inr h
  have hS : va_S A s.heap s.heap [] := va_S.rf
  have hIX9 : ∀ w ∈ u_ws RX9 TX9 51, w ∈ wsX9_shift := by decide +kernel
  have hl := lv_entry ([.ref (am 0), .int tt, .int m1, .int m2, .long a, .long b, .long d, .int w]) (n := 17) (Nat.le_of_ble_eq_true rfl)
  rw [lg_entry_eq]
  generalize (lg_sl ([.ref (am 0), .int tt, .int m1, .int m2, .long a, .long b, .long d, .int w]) ++ List.replicate (17 - (lg_sl ([.ref (am 0), .int tt, .int m1, .int m2, .long a, .long b, .long d, .int w])).length) Slot.unset).toArray = ls at hl ⊢
  have hl : lv_has ls 17 [(0, .ref (am 0)), (1, .int tt), (2, .int m1), (3, .int m2), (4, .long a), (6, .long b), (8, .long d), (10, .int w)] := hl
  generalize hQe : MQ below _ _ _ _ _ _ = QQ
  refine lv_iload_n hx hb dX9_shift_0 rfl (lv_at hl 2 rfl) ?_
  obtain ⟨hPc, hDc, hFc, hCc⟩ := va_pre (ws' := []) hP hD hS hA [] (by decide) rfl
  refine va_calli (va_runS (As := [.int m1]) (rest := []) ⟨hx, hb, hml, hown, hts⟩ (k_X9_isMoment l dC dI cA s.heap.size m1 ) (va_cwS 1 hts gX9_shift_X9_isMoment rfl rfl rfl (by decide +kernel) ⟨Nat.le_of_ble_eq_true rfl, Nat.le_of_ble_eq_true rfl⟩) ⟨fun a U g mk q => by obtain ⟨q0, q1, qP, qK, qD, qN⟩ := q; exact ⟨q0, q1, qP, va_K.moved (u := U) (U := U.calling g mk a) (Vm.Alike.refl U.vm) qK, qD, qN.same rfl⟩, fun U hU hW => ⟨rfl, by rw [hU], by rw [hU]; exact hPc, va_K.moved hW.alike hK, hDc.weaken (fun _ _ _ _ => trivial), hN.warm hW⟩⟩ rfl rfl hl.1 rfl (lv_room (Nat.le_of_ble_eq_true rfl)) dX9_shift_1 ⟨Nat.le_of_ble_eq_true rfl, Nat.le_of_ble_eq_true rfl⟩) hS (fun q _ h => hFc q h) hFc (fun r_1 u_2 t H1 locs ht hvm hw_3 hB hz1 hk1 hS => ?_)
  try dsimp only at hw_3 hB
  have po_4 := hw_3
  clear hw_3
  obtain ⟨hP1, hD1⟩ := hB
  rw [ht] at hP1
  obtain ⟨hP, hD⟩ := va_join (wr := [((am 0), .inr (9, F9 am v_status v_now v_told v_merges v_taped v_size v_from v_to v_fault v_readFault v_traits v_length v_open v_leaks v_places v_models)), ((am 6), .inl (cA 2, 400, .inl f_isGone)), ((am 2), .inl (cA 0, 400, .inl f_rowStream)), ((am 19), .inl (cA 2, 20, .inl f_isOne)), ((am 1), .inl (cA 0, 400, .inl f_rowPerson)), ((am 3), .inl (cA 0, 400, .inl f_rowMoment)), ((am 4), .inl (cA 0, 400, .inl f_rowKnown)), ((am 5), .inl (cA 0, 400, .inl f_rowValue)), ((am 12), .inl (cA 0, 20, .inl f_size0)), ((am 13), .inl (cA 0, 5000, .inl f_step)), ((am 14), .inl (cA 0, 5000, .inl f_stepA)), ((am 15), .inl (cA 0, 5000, .inl f_stepB)), ((am 16), .inl (cA 0, 5000, .inl f_stepC)), ((am 18), .inl (cA 1, 250, .inr (.inl f_heap))), ((am 17), .inl (cA 1, 20, .inr (.inl f_values))), ((am 7), .inl (cA 0, 20, .inl f_mergeTo)), ((am 8), .inl (cA 0, 20, .inl f_mergeKnown)), ((am 9), .inl (cA 2, 20, .inl f_isErased)), ((am 34), .inl (cA 0, 4, .inl f_heapsOne)), ((am 35), .inl (cA 0, 4, .inl f_heapsOther))]) (w1 := []) hP hD [] [0, 1, 2, 3, 4, 5, 6, 7, 8, 9, 10, 11, 12, 13, 14, 15, 16, 17, 18, 19] hCc rfl (by decide) (by decide) hk1 hFc hP1 hD1
  clear hz1
  generalize H1 = H at hP hS ⊢
  refine lv_if_eq (tgt := 41) hx hb dX9_shift_4 (by decide) (fun c_5 => ?_) (fun c_5 => ?_)
  · have dc_5 : r_1.toInt = 0 := jI_eq c_5 rfl (by decide)
    refine lv_ldc2 hx hb hown (hts (.constantLong RX9 335 (-1)) (by decide +kernel)) dX9_shift_41 ?_
    obtain ⟨hP9, hD9⟩ := va_pd (ws' := [((am 0), .inr (9, F9 am v_status v_now v_told v_merges v_taped v_size v_from v_to v_fault v_readFault v_traits v_length v_open v_leaks v_places v_models)), ((am 6), .inl (cA 2, 400, .inl f_isGone)), ((am 2), .inl (cA 0, 400, .inl f_rowStream)), ((am 19), .inl (cA 2, 20, .inl f_isOne)), ((am 1), .inl (cA 0, 400, .inl f_rowPerson)), ((am 3), .inl (cA 0, 400, .inl f_rowMoment)), ((am 4), .inl (cA 0, 400, .inl f_rowKnown)), ((am 5), .inl (cA 0, 400, .inl f_rowValue)), ((am 12), .inl (cA 0, 20, .inl f_size0)), ((am 13), .inl (cA 0, 5000, .inl f_step)), ((am 14), .inl (cA 0, 5000, .inl f_stepA)), ((am 15), .inl (cA 0, 5000, .inl f_stepB)), ((am 16), .inl (cA 0, 5000, .inl f_stepC)), ((am 18), .inl (cA 1, 250, .inr (.inl f_heap))), ((am 17), .inl (cA 1, 20, .inr (.inl f_values))), ((am 7), .inl (cA 0, 20, .inl f_mergeTo)), ((am 8), .inl (cA 0, 20, .inl f_mergeKnown)), ((am 9), .inl (cA 2, 20, .inl f_isErased)), ((am 34), .inl (cA 0, 4, .inl f_heapsOne)), ((am 35), .inl (cA 0, 4, .inl f_heapsOther))]) hP hD [0, 1, 2, 3, 4, 5, 6, 7, 8, 9, 10, 11, 12, 13, 14, 15, 16, 17, 18, 19] (by decide) rfl
    subst hQe
    have hans : ((-1) : Int64).toInt = (-1) := (by decide)
    exact W.lret (v := (-1)) hx hb hr (fun t ht hW => ⟨⟨(-1), (f_heap, f_values, f_isOne, f_heapsOne, f_heapsOther), rfl, trivial, by rw [ht]; exact hP9, hD9⟩, hS.F ht⟩) hS.2.2 dX9_shift_44
  · have dc_5 : ¬ r_1.toInt = 0 := jI_ne c_5 rfl (by decide)
    refine lv_iload_n hx hb dX9_shift_7 rfl (lv_at hl 3 rfl) ?_
    obtain ⟨hPc, hDc, hFc, hCc⟩ := va_pre (ws' := []) hP hD hS hA [] (by decide) rfl
    refine va_calli (va_runS (As := [.int m2]) (rest := []) ⟨hx, hb, hml, hown, hts⟩ (k_X9_isMoment l dC dI cA H.size m2 ) (va_cwS 1 hts gX9_shift_X9_isMoment rfl rfl rfl (by decide +kernel) ⟨Nat.le_of_ble_eq_true rfl, Nat.le_of_ble_eq_true rfl⟩) ⟨fun a U g mk q => by obtain ⟨q0, q1, qP, qK, qD, qN⟩ := q; exact ⟨q0, q1, qP, va_K.moved (u := U) (U := U.calling g mk a) (Vm.Alike.refl U.vm) qK, qD, qN.same rfl⟩, fun U hU hW => ⟨rfl, by rw [hU], by rw [hU]; exact hPc, va_K.moved hW.alike hK, hDc.weaken (fun _ _ _ _ => trivial), hN.warm hW⟩⟩ rfl rfl hl.1 rfl (lv_room (Nat.le_of_ble_eq_true rfl)) dX9_shift_8 ⟨Nat.le_of_ble_eq_true rfl, Nat.le_of_ble_eq_true rfl⟩) hS (fun q _ h => hFc q h) hFc (fun r_6 u_7 t H1 locs ht hvm hw_8 hB hz1 hk1 hS => ?_)
    try dsimp only at hw_8 hB
    have po_9 := hw_8
    clear hw_8
    obtain ⟨hP1, hD1⟩ := hB
    rw [ht] at hP1
    obtain ⟨hP, hD⟩ := va_join (wr := [((am 0), .inr (9, F9 am v_status v_now v_told v_merges v_taped v_size v_from v_to v_fault v_readFault v_traits v_length v_open v_leaks v_places v_models)), ((am 6), .inl (cA 2, 400, .inl f_isGone)), ((am 2), .inl (cA 0, 400, .inl f_rowStream)), ((am 19), .inl (cA 2, 20, .inl f_isOne)), ((am 1), .inl (cA 0, 400, .inl f_rowPerson)), ((am 3), .inl (cA 0, 400, .inl f_rowMoment)), ((am 4), .inl (cA 0, 400, .inl f_rowKnown)), ((am 5), .inl (cA 0, 400, .inl f_rowValue)), ((am 12), .inl (cA 0, 20, .inl f_size0)), ((am 13), .inl (cA 0, 5000, .inl f_step)), ((am 14), .inl (cA 0, 5000, .inl f_stepA)), ((am 15), .inl (cA 0, 5000, .inl f_stepB)), ((am 16), .inl (cA 0, 5000, .inl f_stepC)), ((am 18), .inl (cA 1, 250, .inr (.inl f_heap))), ((am 17), .inl (cA 1, 20, .inr (.inl f_values))), ((am 7), .inl (cA 0, 20, .inl f_mergeTo)), ((am 8), .inl (cA 0, 20, .inl f_mergeKnown)), ((am 9), .inl (cA 2, 20, .inl f_isErased)), ((am 34), .inl (cA 0, 4, .inl f_heapsOne)), ((am 35), .inl (cA 0, 4, .inl f_heapsOther))]) (w1 := []) hP hD [] [0, 1, 2, 3, 4, 5, 6, 7, 8, 9, 10, 11, 12, 13, 14, 15, 16, 17, 18, 19] hCc rfl (by decide) (by decide) hk1 hFc hP1 hD1
    clear hz1
    generalize H1 = H at hP hS ⊢
    refine lv_if_eq (tgt := 41) hx hb dX9_shift_11 (by decide) (fun c_10 => ?_) (fun c_10 => ?_)
    · have dc_10 : r_6.toInt = 0 := jI_eq c_10 rfl (by decide)
      refine lv_ldc2 hx hb hown (hts (.constantLong RX9 335 (-1)) (by decide +kernel)) dX9_shift_41 ?_
      obtain ⟨hP9, hD9⟩ := va_pd (ws' := [((am 0), .inr (9, F9 am v_status v_now v_told v_merges v_taped v_size v_from v_to v_fault v_readFault v_traits v_length v_open v_leaks v_places v_models)), ((am 6), .inl (cA 2, 400, .inl f_isGone)), ((am 2), .inl (cA 0, 400, .inl f_rowStream)), ((am 19), .inl (cA 2, 20, .inl f_isOne)), ((am 1), .inl (cA 0, 400, .inl f_rowPerson)), ((am 3), .inl (cA 0, 400, .inl f_rowMoment)), ((am 4), .inl (cA 0, 400, .inl f_rowKnown)), ((am 5), .inl (cA 0, 400, .inl f_rowValue)), ((am 12), .inl (cA 0, 20, .inl f_size0)), ((am 13), .inl (cA 0, 5000, .inl f_step)), ((am 14), .inl (cA 0, 5000, .inl f_stepA)), ((am 15), .inl (cA 0, 5000, .inl f_stepB)), ((am 16), .inl (cA 0, 5000, .inl f_stepC)), ((am 18), .inl (cA 1, 250, .inr (.inl f_heap))), ((am 17), .inl (cA 1, 20, .inr (.inl f_values))), ((am 7), .inl (cA 0, 20, .inl f_mergeTo)), ((am 8), .inl (cA 0, 20, .inl f_mergeKnown)), ((am 9), .inl (cA 2, 20, .inl f_isErased)), ((am 34), .inl (cA 0, 4, .inl f_heapsOne)), ((am 35), .inl (cA 0, 4, .inl f_heapsOther))]) hP hD [0, 1, 2, 3, 4, 5, 6, 7, 8, 9, 10, 11, 12, 13, 14, 15, 16, 17, 18, 19] (by decide) rfl
      subst hQe
      have hans : ((-1) : Int64).toInt = (-1) := (by decide)
      exact W.lret (v := (-1)) hx hb hr (fun t ht hW => ⟨⟨(-1), (f_heap, f_values, f_isOne, f_heapsOne, f_heapsOther), rfl, trivial, by rw [ht]; exact hP9, hD9⟩, hS.F ht⟩) hS.2.2 dX9_shift_44
    · have dc_10 : ¬ r_6.toInt = 0 := jI_ne c_10 rfl (by decide)
      refine lv_lload hx hb dX9_shift_14 (lv_at hl 4 rfl) ?_
      refine lv_lload hx hb dX9_shift_16 (lv_at hl 5 rfl) ?_
      refine W.lcmp hx hb dX9_shift_18 ?_
      refine lv_topi (fun k_11 ek_11 => ?_)
      have dk_11 : (k_11.toInt < 0 ↔ a.toInt < b.toInt) ∧ (k_11.toInt = 0 ↔ a.toInt = b.toInt) ∧ (0 < k_11.toInt ↔ b.toInt < a.toInt) := jI_cmp ek_11 rfl rfl
      refine lv_if_gt (tgt := 41) hx hb dX9_shift_19 (by decide) (fun c_12 => ?_) (fun c_12 => ?_)
      · have dc_12 : 0 < k_11.toInt := jI_lt c_12 (by decide) rfl
        refine lv_ldc2 hx hb hown (hts (.constantLong RX9 335 (-1)) (by decide +kernel)) dX9_shift_41 ?_
        obtain ⟨hP9, hD9⟩ := va_pd (ws' := [((am 0), .inr (9, F9 am v_status v_now v_told v_merges v_taped v_size v_from v_to v_fault v_readFault v_traits v_length v_open v_leaks v_places v_models)), ((am 6), .inl (cA 2, 400, .inl f_isGone)), ((am 2), .inl (cA 0, 400, .inl f_rowStream)), ((am 19), .inl (cA 2, 20, .inl f_isOne)), ((am 1), .inl (cA 0, 400, .inl f_rowPerson)), ((am 3), .inl (cA 0, 400, .inl f_rowMoment)), ((am 4), .inl (cA 0, 400, .inl f_rowKnown)), ((am 5), .inl (cA 0, 400, .inl f_rowValue)), ((am 12), .inl (cA 0, 20, .inl f_size0)), ((am 13), .inl (cA 0, 5000, .inl f_step)), ((am 14), .inl (cA 0, 5000, .inl f_stepA)), ((am 15), .inl (cA 0, 5000, .inl f_stepB)), ((am 16), .inl (cA 0, 5000, .inl f_stepC)), ((am 18), .inl (cA 1, 250, .inr (.inl f_heap))), ((am 17), .inl (cA 1, 20, .inr (.inl f_values))), ((am 7), .inl (cA 0, 20, .inl f_mergeTo)), ((am 8), .inl (cA 0, 20, .inl f_mergeKnown)), ((am 9), .inl (cA 2, 20, .inl f_isErased)), ((am 34), .inl (cA 0, 4, .inl f_heapsOne)), ((am 35), .inl (cA 0, 4, .inl f_heapsOther))]) hP hD [0, 1, 2, 3, 4, 5, 6, 7, 8, 9, 10, 11, 12, 13, 14, 15, 16, 17, 18, 19] (by decide) rfl
        subst hQe
        have hans : ((-1) : Int64).toInt = (-1) := (by decide)
        exact W.lret (v := (-1)) hx hb hr (fun t ht hW => ⟨⟨(-1), (f_heap, f_values, f_isOne, f_heapsOne, f_heapsOther), rfl, trivial, by rw [ht]; exact hP9, hD9⟩, hS.F ht⟩) hS.2.2 dX9_shift_44
      · have dc_12 : k_11.toInt ≤ 0 := jI_nlt c_12 (by decide) rfl
        refine lv_lload hx hb dX9_shift_22 (lv_at hl 5 rfl) ?_
        refine lv_lload hx hb dX9_shift_24 (lv_at hl 6 rfl) ?_
        refine W.lcmp hx hb dX9_shift_26 ?_
        refine lv_topi (fun k_13 ek_13 => ?_)
        have dk_13 : (k_13.toInt < 0 ↔ b.toInt < d.toInt) ∧ (k_13.toInt = 0 ↔ b.toInt = d.toInt) ∧ (0 < k_13.toInt ↔ d.toInt < b.toInt) := jI_cmp ek_13 rfl rfl
        refine lv_if_gt (tgt := 41) hx hb dX9_shift_27 (by decide) (fun c_14 => ?_) (fun c_14 => ?_)
        · have dc_14 : 0 < k_13.toInt := jI_lt c_14 (by decide) rfl
          refine lv_ldc2 hx hb hown (hts (.constantLong RX9 335 (-1)) (by decide +kernel)) dX9_shift_41 ?_
          obtain ⟨hP9, hD9⟩ := va_pd (ws' := [((am 0), .inr (9, F9 am v_status v_now v_told v_merges v_taped v_size v_from v_to v_fault v_readFault v_traits v_length v_open v_leaks v_places v_models)), ((am 6), .inl (cA 2, 400, .inl f_isGone)), ((am 2), .inl (cA 0, 400, .inl f_rowStream)), ((am 19), .inl (cA 2, 20, .inl f_isOne)), ((am 1), .inl (cA 0, 400, .inl f_rowPerson)), ((am 3), .inl (cA 0, 400, .inl f_rowMoment)), ((am 4), .inl (cA 0, 400, .inl f_rowKnown)), ((am 5), .inl (cA 0, 400, .inl f_rowValue)), ((am 12), .inl (cA 0, 20, .inl f_size0)), ((am 13), .inl (cA 0, 5000, .inl f_step)), ((am 14), .inl (cA 0, 5000, .inl f_stepA)), ((am 15), .inl (cA 0, 5000, .inl f_stepB)), ((am 16), .inl (cA 0, 5000, .inl f_stepC)), ((am 18), .inl (cA 1, 250, .inr (.inl f_heap))), ((am 17), .inl (cA 1, 20, .inr (.inl f_values))), ((am 7), .inl (cA 0, 20, .inl f_mergeTo)), ((am 8), .inl (cA 0, 20, .inl f_mergeKnown)), ((am 9), .inl (cA 2, 20, .inl f_isErased)), ((am 34), .inl (cA 0, 4, .inl f_heapsOne)), ((am 35), .inl (cA 0, 4, .inl f_heapsOther))]) hP hD [0, 1, 2, 3, 4, 5, 6, 7, 8, 9, 10, 11, 12, 13, 14, 15, 16, 17, 18, 19] (by decide) rfl
          subst hQe
          have hans : ((-1) : Int64).toInt = (-1) := (by decide)
          exact W.lret (v := (-1)) hx hb hr (fun t ht hW => ⟨⟨(-1), (f_heap, f_values, f_isOne, f_heapsOne, f_heapsOther), rfl, trivial, by rw [ht]; exact hP9, hD9⟩, hS.F ht⟩) hS.2.2 dX9_shift_44
        · have dc_14 : k_13.toInt ≤ 0 := jI_nlt c_14 (by decide) rfl
          refine lv_iload hx hb dX9_shift_30 (lv_at hl 7 rfl) ?_
          obtain ⟨y_15, ey_15⟩ : ∃ y : Int64, y = w.toInt64 := ⟨_, rfl⟩
          have dy_15 : y_15.toInt = w.toInt := by rw [ey_15]; exact Int32.toInt_toInt64 _
          refine lv_i2l (v := y_15) hx hb dX9_shift_32 ey_15.symm ?_
          refine lv_lconst (v := 0) hx hb dX9_shift_33 (by decide) ?_
          refine lv_lconst (v := 1) hx hb dX9_shift_34 (by decide) ?_
          have hk_16 : (0 : Int64).toInt = 0 := by decide
          have hk_17 : (1 : Int64).toInt = 1 := by decide
          obtain ⟨hPc, hDc, hFc, hCc⟩ := va_pre (ws' := []) hP hD hS hA [] (by decide) rfl
          refine va_calli (va_runS (As := [.long y_15, .long 0, .long 1]) (rest := []) ⟨hx, hb, hml, hown, hts⟩ (k_X9_in l dC dI cA H.size y_15 0 1 ) (va_cwS 3 hts gX9_shift_X9_in rfl rfl rfl (by decide +kernel) ⟨Nat.le_of_ble_eq_true rfl, Nat.le_of_ble_eq_true rfl⟩) ⟨fun a U g mk q => by obtain ⟨q0, q1, qP, qK, qD, qN⟩ := q; exact ⟨q0, q1, qP, va_K.moved (u := U) (U := U.calling g mk a) (Vm.Alike.refl U.vm) qK, qD, qN.same rfl⟩, fun U hU hW => ⟨rfl, by rw [hU], by rw [hU]; exact hPc, va_K.moved hW.alike hK, hDc.weaken (fun _ _ _ _ => trivial), hN.warm hW⟩⟩ rfl rfl hl.1 rfl (lv_room (Nat.le_of_ble_eq_true rfl)) dX9_shift_35 ⟨Nat.le_of_ble_eq_true rfl, Nat.le_of_ble_eq_true rfl⟩) hS (fun q _ h => hFc q h) hFc (fun r_18 u_19 t H1 locs ht hvm hw_20 hB hz1 hk1 hS => ?_)
          try dsimp only at hw_20 hB
          have po_21 := hw_20
          clear hw_20
          try simp only [hk_16, hk_17] at po_21
          obtain ⟨hP1, hD1⟩ := hB
          rw [ht] at hP1
          obtain ⟨hP, hD⟩ := va_join (wr := [((am 0), .inr (9, F9 am v_status v_now v_told v_merges v_taped v_size v_from v_to v_fault v_readFault v_traits v_length v_open v_leaks v_places v_models)), ((am 6), .inl (cA 2, 400, .inl f_isGone)), ((am 2), .inl (cA 0, 400, .inl f_rowStream)), ((am 19), .inl (cA 2, 20, .inl f_isOne)), ((am 1), .inl (cA 0, 400, .inl f_rowPerson)), ((am 3), .inl (cA 0, 400, .inl f_rowMoment)), ((am 4), .inl (cA 0, 400, .inl f_rowKnown)), ((am 5), .inl (cA 0, 400, .inl f_rowValue)), ((am 12), .inl (cA 0, 20, .inl f_size0)), ((am 13), .inl (cA 0, 5000, .inl f_step)), ((am 14), .inl (cA 0, 5000, .inl f_stepA)), ((am 15), .inl (cA 0, 5000, .inl f_stepB)), ((am 16), .inl (cA 0, 5000, .inl f_stepC)), ((am 18), .inl (cA 1, 250, .inr (.inl f_heap))), ((am 17), .inl (cA 1, 20, .inr (.inl f_values))), ((am 7), .inl (cA 0, 20, .inl f_mergeTo)), ((am 8), .inl (cA 0, 20, .inl f_mergeKnown)), ((am 9), .inl (cA 2, 20, .inl f_isErased)), ((am 34), .inl (cA 0, 4, .inl f_heapsOne)), ((am 35), .inl (cA 0, 4, .inl f_heapsOther))]) (w1 := []) hP hD [] [0, 1, 2, 3, 4, 5, 6, 7, 8, 9, 10, 11, 12, 13, 14, 15, 16, 17, 18, 19] hCc rfl (by decide) (by decide) hk1 hFc hP1 hD1
          clear hz1
          generalize H1 = H at hP hS ⊢
          refine lv_if_ne (tgt := 45) hx hb dX9_shift_38 (by decide) (fun c_22 => ?_) (fun c_22 => ?_)
          · have dc_22 : ¬ r_18.toInt = 0 := jI_ne c_22 rfl (by decide)
            refine lv_aload_n hx hb dX9_shift_45 rfl (lv_at hl 0 rfl) ?_
            refine lv_iload_n hx hb dX9_shift_46 rfl (lv_at hl 1 rfl) ?_
            obtain ⟨hPc, hDc, hFc, hCc⟩ := va_pre (ws' := [((am 0), .inr (9, F9 am v_status v_now v_told v_merges v_taped v_size v_from v_to v_fault v_readFault v_traits v_length v_open v_leaks v_places v_models))]) hP hD hS hA [0] (by decide) rfl
            refine va_calli (va_runV (As := [.int tt]) (rest := []) ⟨hx, hb, hml, hown, hts⟩ (k_X9_isTrait l dC dI cA H.size am v_status v_now v_told v_merges v_taped v_size v_from v_to v_fault v_readFault v_traits v_length v_open v_leaks v_places v_models tt i_v_now i_v_told i_v_taped i_v_size i_v_from i_v_to i_v_traits i_v_length i_v_open i_v_places i_v_models) (cwV 1 hts gX9_shift_X9_isTrait rfl rfl rfl (by decide +kernel) ⟨Nat.le_of_ble_eq_true rfl, Nat.le_of_ble_eq_true rfl⟩) ⟨fun a U g mk q => by obtain ⟨q0, q1, qP, qK, qD, qN⟩ := q; exact ⟨q0, q1, qP, va_K.moved (u := U) (U := U.calling g mk a) (Vm.Alike.refl U.vm) qK, qD, qN.same rfl⟩, va_recv hK hPc (ci := 9) (q0 := 0) rfl rfl, fun U hU hW => ⟨rfl, by rw [hU], by rw [hU]; exact hPc, va_K.moved hW.alike hK, hDc.weaken (fun _ _ _ _ => trivial), hN.warm hW⟩⟩ rfl rfl hl.1 rfl (lv_room (Nat.le_of_ble_eq_true rfl)) dX9_shift_47 ⟨Nat.le_of_ble_eq_true rfl, Nat.le_of_ble_eq_true rfl⟩) hS (fun q _ h => hFc q h) hFc (fun r_23 u_24 t H1 locs ht hvm hw_25 hB hz1 hk1 hS => ?_)
            try dsimp only at hw_25 hB
            have po_26 := hw_25
            clear hw_25
            obtain ⟨hP1, hD1⟩ := hB
            rw [ht] at hP1
            obtain ⟨hP, hD⟩ := va_join (wr := [((am 6), .inl (cA 2, 400, .inl f_isGone)), ((am 2), .inl (cA 0, 400, .inl f_rowStream)), ((am 19), .inl (cA 2, 20, .inl f_isOne)), ((am 1), .inl (cA 0, 400, .inl f_rowPerson)), ((am 3), .inl (cA 0, 400, .inl f_rowMoment)), ((am 4), .inl (cA 0, 400, .inl f_rowKnown)), ((am 5), .inl (cA 0, 400, .inl f_rowValue)), ((am 12), .inl (cA 0, 20, .inl f_size0)), ((am 13), .inl (cA 0, 5000, .inl f_step)), ((am 14), .inl (cA 0, 5000, .inl f_stepA)), ((am 15), .inl (cA 0, 5000, .inl f_stepB)), ((am 16), .inl (cA 0, 5000, .inl f_stepC)), ((am 18), .inl (cA 1, 250, .inr (.inl f_heap))), ((am 17), .inl (cA 1, 20, .inr (.inl f_values))), ((am 7), .inl (cA 0, 20, .inl f_mergeTo)), ((am 8), .inl (cA 0, 20, .inl f_mergeKnown)), ((am 9), .inl (cA 2, 20, .inl f_isErased)), ((am 34), .inl (cA 0, 4, .inl f_heapsOne)), ((am 35), .inl (cA 0, 4, .inl f_heapsOther))]) (w1 := [((am 0), .inr (9, F9 am v_status v_now v_told v_merges v_taped v_size v_from v_to v_fault v_readFault v_traits v_length v_open v_leaks v_places v_models))]) hP hD [0] [1, 2, 3, 4, 5, 6, 7, 8, 9, 10, 11, 12, 13, 14, 15, 16, 17, 18, 19] hCc rfl (by decide) (by decide) hk1 hFc hP1 hD1
            clear hz1
            generalize H1 = H at hP hS ⊢
            refine lv_if_ne (tgt := 57) hx hb dX9_shift_50 (by decide) (fun c_27 => ?_) (fun c_27 => ?_)
            · have dc_27 : ¬ r_23.toInt = 0 := jI_ne c_27 rfl (by decide)
              refine lv_aload_n hx hb dX9_shift_57 rfl (lv_at hl 0 rfl) ?_
              refine lv_iload_n hx hb dX9_shift_58 rfl (lv_at hl 1 rfl) ?_
              refine lv_iload_n hx hb dX9_shift_59 rfl (lv_at hl 2 rfl) ?_
              refine lv_lload hx hb dX9_shift_60 (lv_at hl 4 rfl) ?_
              refine lv_lload hx hb dX9_shift_62 (lv_at hl 5 rfl) ?_
              refine lv_lload hx hb dX9_shift_64 (lv_at hl 6 rfl) ?_
              refine lv_aload_n hx hb dX9_shift_66 rfl (lv_at hl 0 rfl) ?_
              refine va_get (D := (dC, dI)) (ci := 9) (v := .ref (am 34)) (C := RX9) (T := TX9) (N := 51) hx hb hts hIX9 hown hK hP 19 rfl rfl 49 (by decide) (hts (.fieldLink RX9 116 "TraitHouseModel" "heapsOne" "[I") (by decide +kernel)) (fun _ h9 => h9) rfl dX9_shift_67 ?_
              obtain ⟨hPc, hDc, hFc, hCc⟩ := va_pre (ws' := [((am 0), .inr (9, F9 am v_status v_now v_told v_merges v_taped v_size v_from v_to v_fault v_readFault v_traits v_length v_open v_leaks v_places v_models)), ((am 6), .inl (cA 2, 400, .inl f_isGone)), ((am 2), .inl (cA 0, 400, .inl f_rowStream)), ((am 19), .inl (cA 2, 20, .inl f_isOne)), ((am 1), .inl (cA 0, 400, .inl f_rowPerson)), ((am 3), .inl (cA 0, 400, .inl f_rowMoment)), ((am 4), .inl (cA 0, 400, .inl f_rowKnown)), ((am 5), .inl (cA 0, 400, .inl f_rowValue)), ((am 12), .inl (cA 0, 20, .inl f_size0)), ((am 13), .inl (cA 0, 5000, .inl f_step)), ((am 14), .inl (cA 0, 5000, .inl f_stepA)), ((am 15), .inl (cA 0, 5000, .inl f_stepB)), ((am 16), .inl (cA 0, 5000, .inl f_stepC)), ((am 18), .inl (cA 1, 250, .inr (.inl f_heap))), ((am 17), .inl (cA 1, 20, .inr (.inl f_values))), ((am 7), .inl (cA 0, 20, .inl f_mergeTo)), ((am 8), .inl (cA 0, 20, .inl f_mergeKnown)), ((am 9), .inl (cA 2, 20, .inl f_isErased)), ((am 34), .inl (cA 0, 4, .inl f_heapsOne))]) hP hD hS hA [19, 0, 1, 2, 3, 4, 5, 6, 7, 8, 9, 10, 11, 12, 13, 14, 15, 16, 17] (by decide) rfl
              refine va_calli (va_runV (As := [.int tt, .int m1, .long a, .long b, .long d, .ref (am 34)]) (rest := []) ⟨hx, hb, hml, hown, hts⟩ (k_X9_heaps l dC dI cA H.size am (am 34) v_status v_now v_told v_merges v_taped v_size v_from v_to v_fault v_readFault v_traits v_length v_open v_leaks v_places v_models f_isGone f_rowStream f_isOne f_rowPerson f_rowMoment f_rowKnown f_rowValue f_size0 f_step f_stepA f_stepB f_stepC f_heap f_values f_mergeTo f_mergeKnown f_isErased f_heapsOne tt m1 a b d i_v_now i_v_told i_v_taped i_v_size i_v_from i_v_to i_v_traits i_v_length i_v_open i_v_places i_v_models i_f_rowPerson i_f_size0 i_f_mergeTo i_f_mergeKnown hac hpr (by omega)) (cwV 6 hts gX9_shift_X9_heaps rfl rfl rfl (by decide +kernel) ⟨Nat.le_of_ble_eq_true rfl, Nat.le_of_ble_eq_true rfl⟩) ⟨fun a U g mk q => by obtain ⟨q0, q1, qP, qK, qD, qN⟩ := q; exact ⟨q0, q1, qP, va_K.moved (u := U) (U := U.calling g mk a) (Vm.Alike.refl U.vm) qK, qD, qN.same rfl⟩, va_recv hK hPc (ci := 9) (q0 := 0) rfl rfl, fun U hU hW => ⟨rfl, by rw [hU], by rw [hU]; exact hPc, va_K.moved hW.alike hK, hDc.weaken (fun _ _ _ _ => trivial), hN.warm hW⟩⟩ rfl rfl hl.1 rfl (lv_room (Nat.le_of_ble_eq_true rfl)) dX9_shift_70 ⟨Nat.le_of_ble_eq_true rfl, Nat.le_of_ble_eq_true rfl⟩) hS (fun q _ h => hFc q h) hFc (fun r_28 u_29 t H1 locs ht hvm hw_30 hB hz1 hk1 hS => ?_)
              obtain ⟨w_31, w_32, w_33, w_34⟩ := u_29
              try dsimp only at hw_30 hB
              have po_35 := hw_30
              clear hw_30
              obtain ⟨hP1, hD1⟩ := hB
              rw [ht] at hP1
              obtain ⟨hP, hD⟩ := va_join (wr := [((am 35), .inl (cA 0, 4, .inl f_heapsOther))]) (w1 := [((am 0), .inr (9, F9 am v_status v_now v_told v_merges v_taped v_size v_from v_to v_fault v_readFault v_traits v_length v_open v_leaks v_places v_models)), ((am 6), .inl (cA 2, 400, .inl f_isGone)), ((am 2), .inl (cA 0, 400, .inl f_rowStream)), ((am 19), .inl (cA 2, 20, .inl w_33)), ((am 1), .inl (cA 0, 400, .inl f_rowPerson)), ((am 3), .inl (cA 0, 400, .inl f_rowMoment)), ((am 4), .inl (cA 0, 400, .inl f_rowKnown)), ((am 5), .inl (cA 0, 400, .inl f_rowValue)), ((am 12), .inl (cA 0, 20, .inl f_size0)), ((am 13), .inl (cA 0, 5000, .inl f_step)), ((am 14), .inl (cA 0, 5000, .inl f_stepA)), ((am 15), .inl (cA 0, 5000, .inl f_stepB)), ((am 16), .inl (cA 0, 5000, .inl f_stepC)), ((am 18), .inl (cA 1, 250, .inr (.inl w_31))), ((am 17), .inl (cA 1, 20, .inr (.inl w_32))), ((am 7), .inl (cA 0, 20, .inl f_mergeTo)), ((am 8), .inl (cA 0, 20, .inl f_mergeKnown)), ((am 9), .inl (cA 2, 20, .inl f_isErased)), ((am 34), .inl (cA 0, 4, .inl w_34))]) hP hD [19, 0, 1, 2, 3, 4, 5, 6, 7, 8, 9, 10, 11, 12, 13, 14, 15, 16, 17] [18] hCc rfl (by decide) (by decide) hk1 hFc hP1 hD1
              clear hz1
              generalize H1 = H at hP hS ⊢
              refine lv_istore (lv' := [(11, .int r_28), (0, .ref (am 0)), (1, .int tt), (2, .int m1), (3, .int m2), (4, .long a), (6, .long b), (8, .long d), (10, .int w)]) hx hb dX9_shift_73 hl (by decide) rfl (fun ls hl => ?_)
              refine lv_aload_n hx hb dX9_shift_75 rfl (lv_at hl 1 rfl) ?_
              refine lv_iload_n hx hb dX9_shift_76 rfl (lv_at hl 2 rfl) ?_
              refine lv_iload_n hx hb dX9_shift_77 rfl (lv_at hl 4 rfl) ?_
              refine lv_lload hx hb dX9_shift_78 (lv_at hl 5 rfl) ?_
              refine lv_lload hx hb dX9_shift_80 (lv_at hl 6 rfl) ?_
              refine lv_lload hx hb dX9_shift_82 (lv_at hl 7 rfl) ?_
              refine lv_aload_n hx hb dX9_shift_84 rfl (lv_at hl 1 rfl) ?_
              refine va_get (D := (dC, dI)) (ci := 9) (v := .ref (am 35)) (C := RX9) (T := TX9) (N := 51) hx hb hts hIX9 hown hK hP 1 rfl rfl 50 (by decide) (hts (.fieldLink RX9 119 "TraitHouseModel" "heapsOther" "[I") (by decide +kernel)) (fun _ h9 => h9) rfl dX9_shift_85 ?_
              obtain ⟨hPc, hDc, hFc, hCc⟩ := va_pre (ws' := [((am 0), .inr (9, F9 am v_status v_now v_told v_merges v_taped v_size v_from v_to v_fault v_readFault v_traits v_length v_open v_leaks v_places v_models)), ((am 6), .inl (cA 2, 400, .inl f_isGone)), ((am 2), .inl (cA 0, 400, .inl f_rowStream)), ((am 19), .inl (cA 2, 20, .inl w_33)), ((am 1), .inl (cA 0, 400, .inl f_rowPerson)), ((am 3), .inl (cA 0, 400, .inl f_rowMoment)), ((am 4), .inl (cA 0, 400, .inl f_rowKnown)), ((am 5), .inl (cA 0, 400, .inl f_rowValue)), ((am 12), .inl (cA 0, 20, .inl f_size0)), ((am 13), .inl (cA 0, 5000, .inl f_step)), ((am 14), .inl (cA 0, 5000, .inl f_stepA)), ((am 15), .inl (cA 0, 5000, .inl f_stepB)), ((am 16), .inl (cA 0, 5000, .inl f_stepC)), ((am 18), .inl (cA 1, 250, .inr (.inl w_31))), ((am 17), .inl (cA 1, 20, .inr (.inl w_32))), ((am 7), .inl (cA 0, 20, .inl f_mergeTo)), ((am 8), .inl (cA 0, 20, .inl f_mergeKnown)), ((am 9), .inl (cA 2, 20, .inl f_isErased)), ((am 35), .inl (cA 0, 4, .inl f_heapsOther))]) hP hD hS hA [1, 2, 3, 4, 5, 6, 7, 8, 9, 10, 11, 12, 13, 14, 15, 16, 17, 18, 0] (by decide) rfl
              refine va_calli (va_runV (As := [.int tt, .int m2, .long a, .long b, .long d, .ref (am 35)]) (rest := []) ⟨hx, hb, hml, hown, hts⟩ (k_X9_heaps l dC dI cA H.size am (am 35) v_status v_now v_told v_merges v_taped v_size v_from v_to v_fault v_readFault v_traits v_length v_open v_leaks v_places v_models f_isGone f_rowStream w_33 f_rowPerson f_rowMoment f_rowKnown f_rowValue f_size0 f_step f_stepA f_stepB f_stepC w_31 w_32 f_mergeTo f_mergeKnown f_isErased f_heapsOther tt m2 a b d i_v_now i_v_told i_v_taped i_v_size i_v_from i_v_to i_v_traits i_v_length i_v_open i_v_places i_v_models i_f_rowPerson i_f_size0 i_f_mergeTo i_f_mergeKnown hac hpr (by omega)) (cwV 6 hts gX9_shift_X9_heaps rfl rfl rfl (by decide +kernel) ⟨Nat.le_of_ble_eq_true rfl, Nat.le_of_ble_eq_true rfl⟩) ⟨fun a U g mk q => by obtain ⟨q0, q1, qP, qK, qD, qN⟩ := q; exact ⟨q0, q1, qP, va_K.moved (u := U) (U := U.calling g mk a) (Vm.Alike.refl U.vm) qK, qD, qN.same rfl⟩, va_recv hK hPc (ci := 9) (q0 := 0) rfl rfl, fun U hU hW => ⟨rfl, by rw [hU], by rw [hU]; exact hPc, va_K.moved hW.alike hK, hDc.weaken (fun _ _ _ _ => trivial), hN.warm hW⟩⟩ rfl rfl hl.1 rfl (lv_room (Nat.le_of_ble_eq_true rfl)) dX9_shift_88 ⟨Nat.le_of_ble_eq_true rfl, Nat.le_of_ble_eq_true rfl⟩) hS (fun q _ h => hFc q h) hFc (fun r_36 u_37 t H1 locs ht hvm hw_38 hB hz1 hk1 hS => ?_)
              obtain ⟨w_39, w_40, w_41, w_42⟩ := u_37
              try dsimp only at hw_38 hB
              have po_43 := hw_38
              clear hw_38
              obtain ⟨hP1, hD1⟩ := hB
              rw [ht] at hP1
              obtain ⟨hP, hD⟩ := va_join (wr := [((am 34), .inl (cA 0, 4, .inl w_34))]) (w1 := [((am 0), .inr (9, F9 am v_status v_now v_told v_merges v_taped v_size v_from v_to v_fault v_readFault v_traits v_length v_open v_leaks v_places v_models)), ((am 6), .inl (cA 2, 400, .inl f_isGone)), ((am 2), .inl (cA 0, 400, .inl f_rowStream)), ((am 19), .inl (cA 2, 20, .inl w_41)), ((am 1), .inl (cA 0, 400, .inl f_rowPerson)), ((am 3), .inl (cA 0, 400, .inl f_rowMoment)), ((am 4), .inl (cA 0, 400, .inl f_rowKnown)), ((am 5), .inl (cA 0, 400, .inl f_rowValue)), ((am 12), .inl (cA 0, 20, .inl f_size0)), ((am 13), .inl (cA 0, 5000, .inl f_step)), ((am 14), .inl (cA 0, 5000, .inl f_stepA)), ((am 15), .inl (cA 0, 5000, .inl f_stepB)), ((am 16), .inl (cA 0, 5000, .inl f_stepC)), ((am 18), .inl (cA 1, 250, .inr (.inl w_39))), ((am 17), .inl (cA 1, 20, .inr (.inl w_40))), ((am 7), .inl (cA 0, 20, .inl f_mergeTo)), ((am 8), .inl (cA 0, 20, .inl f_mergeKnown)), ((am 9), .inl (cA 2, 20, .inl f_isErased)), ((am 35), .inl (cA 0, 4, .inl w_42))]) hP hD [1, 2, 3, 4, 5, 6, 7, 8, 9, 10, 11, 12, 13, 14, 15, 16, 17, 18, 0] [19] hCc rfl (by decide) (by decide) hk1 hFc hP1 hD1
              clear hz1
              generalize H1 = H at hP hS ⊢
              refine lv_istore (lv' := [(12, .int r_36), (11, .int r_28), (0, .ref (am 0)), (1, .int tt), (2, .int m1), (3, .int m2), (4, .long a), (6, .long b), (8, .long d), (10, .int w)]) hx hb dX9_shift_91 hl (by decide) rfl (fun ls hl => ?_)
              refine lv_iload hx hb dX9_shift_93 (lv_at hl 1 rfl) ?_
              refine lv_if_eq (tgt := 103) hx hb dX9_shift_95 (by decide) (fun c_44 => ?_) (fun c_44 => ?_)
              · have dc_44 : r_28.toInt = 0 := jI_eq c_44 rfl (by decide)
                refine lv_ldc2 hx hb hown (hts (.constantLong RX9 343 (-6)) (by decide +kernel)) dX9_shift_103 ?_
                obtain ⟨hP9, hD9⟩ := va_pd (ws' := [((am 0), .inr (9, F9 am v_status v_now v_told v_merges v_taped v_size v_from v_to v_fault v_readFault v_traits v_length v_open v_leaks v_places v_models)), ((am 6), .inl (cA 2, 400, .inl f_isGone)), ((am 2), .inl (cA 0, 400, .inl f_rowStream)), ((am 19), .inl (cA 2, 20, .inl w_41)), ((am 1), .inl (cA 0, 400, .inl f_rowPerson)), ((am 3), .inl (cA 0, 400, .inl f_rowMoment)), ((am 4), .inl (cA 0, 400, .inl f_rowKnown)), ((am 5), .inl (cA 0, 400, .inl f_rowValue)), ((am 12), .inl (cA 0, 20, .inl f_size0)), ((am 13), .inl (cA 0, 5000, .inl f_step)), ((am 14), .inl (cA 0, 5000, .inl f_stepA)), ((am 15), .inl (cA 0, 5000, .inl f_stepB)), ((am 16), .inl (cA 0, 5000, .inl f_stepC)), ((am 18), .inl (cA 1, 250, .inr (.inl w_39))), ((am 17), .inl (cA 1, 20, .inr (.inl w_40))), ((am 7), .inl (cA 0, 20, .inl f_mergeTo)), ((am 8), .inl (cA 0, 20, .inl f_mergeKnown)), ((am 9), .inl (cA 2, 20, .inl f_isErased)), ((am 34), .inl (cA 0, 4, .inl w_34)), ((am 35), .inl (cA 0, 4, .inl w_42))]) hP hD [1, 2, 3, 4, 5, 6, 7, 8, 9, 10, 11, 12, 13, 14, 15, 16, 17, 18, 0, 19] (by decide) rfl
                subst hQe
                have hans : ((-6) : Int64).toInt = (-6) := (by decide)
                exact W.lret (v := (-6)) hx hb hr (fun t ht hW => ⟨⟨(-6), (w_39, w_40, w_41, w_34, w_42), rfl, trivial, by rw [ht]; exact hP9, hD9⟩, hS.F ht⟩) hS.2.2 dX9_shift_106
              · have dc_44 : ¬ r_28.toInt = 0 := jI_ne c_44 rfl (by decide)
                refine lv_iload hx hb dX9_shift_98 (lv_at hl 0 rfl) ?_
                refine lv_if_ne (tgt := 107) hx hb dX9_shift_100 (by decide) (fun c_45 => ?_) (fun c_45 => ?_)
                · have dc_45 : ¬ r_36.toInt = 0 := jI_ne c_45 rfl (by decide)
                  refine lv_iconst (v := 0) hx hb dX9_shift_107 (by decide) ?_
                  refine lv_istore (lv' := [(13, .int 0), (12, .int r_36), (11, .int r_28), (0, .ref (am 0)), (1, .int tt), (2, .int m1), (3, .int m2), (4, .long a), (6, .long b), (8, .long d), (10, .int w)]) hx hb dX9_shift_108 hl (by decide) rfl (fun ls hl => ?_)
                  refine lv_iconst (v := 0) hx hb dX9_shift_110 (by decide) ?_
                  refine lv_istore (lv' := [(14, .int 0), (13, .int 0), (12, .int r_36), (11, .int r_28), (0, .ref (am 0)), (1, .int tt), (2, .int m1), (3, .int m2), (4, .long a), (6, .long b), (8, .long d), (10, .int w)]) hx hb dX9_shift_111 hl (by decide) rfl (fun ls hl => ?_)
                  have loop113_46 : ∀ (n : Nat) (i14 : Int32) (n13 : Int32) (H : Heap) (locs : List Loc) (ls : Array Slot), 4 - i14.toInt < (n : Int) → (0 ≤ i14.toInt ∧ i14.toInt ≤ 4) → va_P (dC, dI) vwCl [((am 34), .inl (cA 0, 4, .inl w_34)), ((am 0), .inr (9, F9 am v_status v_now v_told v_merges v_taped v_size v_from v_to v_fault v_readFault v_traits v_length v_open v_leaks v_places v_models)), ((am 6), .inl (cA 2, 400, .inl f_isGone)), ((am 2), .inl (cA 0, 400, .inl f_rowStream)), ((am 19), .inl (cA 2, 20, .inl w_41)), ((am 1), .inl (cA 0, 400, .inl f_rowPerson)), ((am 3), .inl (cA 0, 400, .inl f_rowMoment)), ((am 4), .inl (cA 0, 400, .inl f_rowKnown)), ((am 5), .inl (cA 0, 400, .inl f_rowValue)), ((am 12), .inl (cA 0, 20, .inl f_size0)), ((am 13), .inl (cA 0, 5000, .inl f_step)), ((am 14), .inl (cA 0, 5000, .inl f_stepA)), ((am 15), .inl (cA 0, 5000, .inl f_stepB)), ((am 16), .inl (cA 0, 5000, .inl f_stepC)), ((am 18), .inl (cA 1, 250, .inr (.inl w_39))), ((am 17), .inl (cA 1, 20, .inr (.inl w_40))), ((am 7), .inl (cA 0, 20, .inl f_mergeTo)), ((am 8), .inl (cA 0, 20, .inl f_mergeKnown)), ((am 9), .inl (cA 2, 20, .inl f_isErased)), ((am 35), .inl (cA 0, 4, .inl w_42))] H → va_D A [((am 34), .inl (cA 0, 4, .inl w_34)), ((am 0), .inr (9, F9 am v_status v_now v_told v_merges v_taped v_size v_from v_to v_fault v_readFault v_traits v_length v_open v_leaks v_places v_models)), ((am 6), .inl (cA 2, 400, .inl f_isGone)), ((am 2), .inl (cA 0, 400, .inl f_rowStream)), ((am 19), .inl (cA 2, 20, .inl w_41)), ((am 1), .inl (cA 0, 400, .inl f_rowPerson)), ((am 3), .inl (cA 0, 400, .inl f_rowMoment)), ((am 4), .inl (cA 0, 400, .inl f_rowKnown)), ((am 5), .inl (cA 0, 400, .inl f_rowValue)), ((am 12), .inl (cA 0, 20, .inl f_size0)), ((am 13), .inl (cA 0, 5000, .inl f_step)), ((am 14), .inl (cA 0, 5000, .inl f_stepA)), ((am 15), .inl (cA 0, 5000, .inl f_stepB)), ((am 16), .inl (cA 0, 5000, .inl f_stepC)), ((am 18), .inl (cA 1, 250, .inr (.inl w_39))), ((am 17), .inl (cA 1, 20, .inr (.inl w_40))), ((am 7), .inl (cA 0, 20, .inl f_mergeTo)), ((am 8), .inl (cA 0, 20, .inl f_mergeKnown)), ((am 9), .inl (cA 2, 20, .inl f_isErased)), ((am 35), .inl (cA 0, 4, .inl w_42))] → va_S A s.heap H locs → lv_has ls 17 [(14, .int i14), (13, .int n13), (12, .int r_36), (11, .int r_28), (0, .ref (am 0)), (1, .int tt), (2, .int m1), (3, .int m2), (4, .long a), (6, .long b), (8, .long d), (10, .int w)] → W p l e ({ frames := 5, cells := 0, slots := 0, locals := 140 }) s m ([.ref (am 0), .int tt, .int m1, .int m2, .long a, .long b, .long d, .int w] : List Value).toArray below meth c H locs 0 0 QQ (F0 m 113 ls []) := by
                    intro n
                    induction n with
                    | zero => intro i14 n13 H locs ls hme hv0_113; exfalso; omega
                    | succ n ih_113 =>
                      intro i14 n13 H locs ls hme_113 hv0_113 hP hD hS hl
                      refine lv_iload hx hb dX9_shift_113 (lv_at hl 0 rfl) ?_
                      refine lv_iconst (v := 4) hx hb dX9_shift_115 (by decide) ?_
                      refine lv_icmp_ge (tgt := 164) hx hb dX9_shift_116 (by decide) (fun c_47 => ?_) (fun c_47 => ?_)
                      · have dc_47 : 4 ≤ i14.toInt := jI_le c_47 (by decide) rfl
                        refine lv_iload hx hb dX9_shift_164 (lv_at hl 3 rfl) ?_
                        refine lv_iload hx hb dX9_shift_166 (lv_at hl 2 rfl) ?_
                        refine lv_imul hx hb dX9_shift_168 ?_
                        refine lv_topi (fun x_48 ex_48 => ?_)
                        have dx_48 : x_48.toInt = r_28.toInt * r_36.toInt ∧ 1 * 1 ≤ x_48.toInt ∧ x_48.toInt ≤ 20 * 20 := by rw [ex_48]; exact jI_mulb rfl rfl (by omega) (by omega) (by omega) (by omega) (by decide) (by decide)
                        refine lv_istore (lv' := [(14, .int x_48), (13, .int n13), (12, .int r_36), (11, .int r_28), (0, .ref (am 0)), (1, .int tt), (2, .int m1), (3, .int m2), (4, .long a), (6, .long b), (8, .long d), (10, .int w)]) hx hb dX9_shift_169 hl (by decide) rfl (fun ls hl => ?_)
                        refine lv_iload hx hb dX9_shift_171 (lv_at hl 1 rfl) ?_
                        refine lv_istore (lv' := [(15, .int n13), (14, .int x_48), (13, .int n13), (12, .int r_36), (11, .int r_28), (0, .ref (am 0)), (1, .int tt), (2, .int m1), (3, .int m2), (4, .long a), (6, .long b), (8, .long d), (10, .int w)]) hx hb dX9_shift_173 hl (by decide) rfl (fun ls hl => ?_)
                        have loop175_49 : ∀ (n : Nat) (h15 : Int32) (g14 : Int32) (H : Heap) (locs : List Loc) (ls : Array Slot), (h15.toInt.toNat : Int) < (n : Int) → (1 ≤ g14.toInt) → va_P (dC, dI) vwCl [((am 34), .inl (cA 0, 4, .inl w_34)), ((am 0), .inr (9, F9 am v_status v_now v_told v_merges v_taped v_size v_from v_to v_fault v_readFault v_traits v_length v_open v_leaks v_places v_models)), ((am 6), .inl (cA 2, 400, .inl f_isGone)), ((am 2), .inl (cA 0, 400, .inl f_rowStream)), ((am 19), .inl (cA 2, 20, .inl w_41)), ((am 1), .inl (cA 0, 400, .inl f_rowPerson)), ((am 3), .inl (cA 0, 400, .inl f_rowMoment)), ((am 4), .inl (cA 0, 400, .inl f_rowKnown)), ((am 5), .inl (cA 0, 400, .inl f_rowValue)), ((am 12), .inl (cA 0, 20, .inl f_size0)), ((am 13), .inl (cA 0, 5000, .inl f_step)), ((am 14), .inl (cA 0, 5000, .inl f_stepA)), ((am 15), .inl (cA 0, 5000, .inl f_stepB)), ((am 16), .inl (cA 0, 5000, .inl f_stepC)), ((am 18), .inl (cA 1, 250, .inr (.inl w_39))), ((am 17), .inl (cA 1, 20, .inr (.inl w_40))), ((am 7), .inl (cA 0, 20, .inl f_mergeTo)), ((am 8), .inl (cA 0, 20, .inl f_mergeKnown)), ((am 9), .inl (cA 2, 20, .inl f_isErased)), ((am 35), .inl (cA 0, 4, .inl w_42))] H → va_D A [((am 34), .inl (cA 0, 4, .inl w_34)), ((am 0), .inr (9, F9 am v_status v_now v_told v_merges v_taped v_size v_from v_to v_fault v_readFault v_traits v_length v_open v_leaks v_places v_models)), ((am 6), .inl (cA 2, 400, .inl f_isGone)), ((am 2), .inl (cA 0, 400, .inl f_rowStream)), ((am 19), .inl (cA 2, 20, .inl w_41)), ((am 1), .inl (cA 0, 400, .inl f_rowPerson)), ((am 3), .inl (cA 0, 400, .inl f_rowMoment)), ((am 4), .inl (cA 0, 400, .inl f_rowKnown)), ((am 5), .inl (cA 0, 400, .inl f_rowValue)), ((am 12), .inl (cA 0, 20, .inl f_size0)), ((am 13), .inl (cA 0, 5000, .inl f_step)), ((am 14), .inl (cA 0, 5000, .inl f_stepA)), ((am 15), .inl (cA 0, 5000, .inl f_stepB)), ((am 16), .inl (cA 0, 5000, .inl f_stepC)), ((am 18), .inl (cA 1, 250, .inr (.inl w_39))), ((am 17), .inl (cA 1, 20, .inr (.inl w_40))), ((am 7), .inl (cA 0, 20, .inl f_mergeTo)), ((am 8), .inl (cA 0, 20, .inl f_mergeKnown)), ((am 9), .inl (cA 2, 20, .inl f_isErased)), ((am 35), .inl (cA 0, 4, .inl w_42))] → va_S A s.heap H locs → lv_has ls 17 [(15, .int h15), (14, .int g14), (13, .int n13), (12, .int r_36), (11, .int r_28), (0, .ref (am 0)), (1, .int tt), (2, .int m1), (3, .int m2), (4, .long a), (6, .long b), (8, .long d), (10, .int w)] → W p l e ({ frames := 5, cells := 0, slots := 0, locals := 140 }) s m ([.ref (am 0), .int tt, .int m1, .int m2, .long a, .long b, .long d, .int w] : List Value).toArray below meth c H locs 0 0 QQ (F0 m 175 ls []) := by
                          intro n
                          induction n with
                          | zero => intro h15 g14 H locs ls hme hv0_175; exfalso; omega
                          | succ n ih_175 =>
                            intro h15 g14 H locs ls hme_175 hv0_175 hP hD hS hl
                            refine lv_iload hx hb dX9_shift_175 (lv_at hl 0 rfl) ?_
                            refine lv_if_le (tgt := 198) hx hb dX9_shift_177 (by decide) (fun c_50 => ?_) (fun c_50 => ?_)
                            · have dc_50 : h15.toInt ≤ 0 := jI_le c_50 rfl (by decide)
                              refine lv_iload hx hb dX9_shift_198 (lv_at hl 12 rfl) ?_
                              refine lv_if_ne (tgt := 212) hx hb dX9_shift_200 (by decide) (fun c_51 => ?_) (fun c_51 => ?_)
                              · have dc_51 : ¬ w.toInt = 0 := jI_ne c_51 rfl (by decide)
                                refine lv_iload hx hb dX9_shift_212 (lv_at hl 4 rfl) ?_
                                refine lv_iload hx hb dX9_shift_214 (lv_at hl 3 rfl) ?_
                                refine lv_imul hx hb dX9_shift_216 ?_
                                refine lv_topi (fun x_52 ex_52 => ?_)
                                have dx_52 : x_52.toInt = r_28.toInt * r_36.toInt ∧ 1 * 1 ≤ x_52.toInt ∧ x_52.toInt ≤ 20 * 20 := by rw [ex_52]; exact jI_mulb rfl rfl (by omega) (by omega) (by omega) (by omega) (by decide) (by decide)
                                refine lv_iload hx hb dX9_shift_217 (lv_at hl 1 rfl) ?_
                                refine lv_idiv hx hb dX9_shift_219 (jI_ne0 (by omega)) ?_
                                refine lv_topi (fun x_53 ex_53 => ?_)
                                have dx_53 : 0 ≤ x_53.toInt ∧ x_53.toInt ≤ x_52.toInt := by rw [ex_53]; exact jI_divle rfl rfl (by omega) (by omega)
                                obtain ⟨y_54, ey_54⟩ : ∃ y : Int64, y = x_53.toInt64 := ⟨_, rfl⟩
                                have dy_54 : y_54.toInt = x_53.toInt := by rw [ey_54]; exact Int32.toInt_toInt64 _
                                refine lv_i2l (v := y_54) hx hb dX9_shift_220 ey_54.symm ?_
                                obtain ⟨hP9, hD9⟩ := va_pd (ws' := [((am 0), .inr (9, F9 am v_status v_now v_told v_merges v_taped v_size v_from v_to v_fault v_readFault v_traits v_length v_open v_leaks v_places v_models)), ((am 6), .inl (cA 2, 400, .inl f_isGone)), ((am 2), .inl (cA 0, 400, .inl f_rowStream)), ((am 19), .inl (cA 2, 20, .inl w_41)), ((am 1), .inl (cA 0, 400, .inl f_rowPerson)), ((am 3), .inl (cA 0, 400, .inl f_rowMoment)), ((am 4), .inl (cA 0, 400, .inl f_rowKnown)), ((am 5), .inl (cA 0, 400, .inl f_rowValue)), ((am 12), .inl (cA 0, 20, .inl f_size0)), ((am 13), .inl (cA 0, 5000, .inl f_step)), ((am 14), .inl (cA 0, 5000, .inl f_stepA)), ((am 15), .inl (cA 0, 5000, .inl f_stepB)), ((am 16), .inl (cA 0, 5000, .inl f_stepC)), ((am 18), .inl (cA 1, 250, .inr (.inl w_39))), ((am 17), .inl (cA 1, 20, .inr (.inl w_40))), ((am 7), .inl (cA 0, 20, .inl f_mergeTo)), ((am 8), .inl (cA 0, 20, .inl f_mergeKnown)), ((am 9), .inl (cA 2, 20, .inl f_isErased)), ((am 34), .inl (cA 0, 4, .inl w_34)), ((am 35), .inl (cA 0, 4, .inl w_42))]) hP hD [1, 2, 3, 4, 5, 6, 7, 8, 9, 10, 11, 12, 13, 14, 15, 16, 17, 18, 0, 19] (by decide) rfl
                                subst hQe
                                have hans : (y_54 : Int64).toInt = y_54.toInt := rfl
                                exact W.lret (v := y_54) hx hb hr (fun t ht hW => ⟨⟨y_54, (w_39, w_40, w_41, w_34, w_42), rfl, trivial, by rw [ht]; exact hP9, hD9⟩, hS.F ht⟩) hS.2.2 dX9_shift_221
                              · have dc_51 : w.toInt = 0 := jI_eq c_51 rfl (by decide)
                                refine lv_iload hx hb dX9_shift_203 (lv_at hl 2 rfl) ?_
                                refine lv_iload hx hb dX9_shift_205 (lv_at hl 1 rfl) ?_
                                refine lv_idiv hx hb dX9_shift_207 (jI_ne0 (by omega)) ?_
                                refine lv_topi (fun x_55 ex_55 => ?_)
                                obtain ⟨y_56, ey_56⟩ : ∃ y : Int64, y = x_55.toInt64 := ⟨_, rfl⟩
                                have dy_56 : y_56.toInt = x_55.toInt := by rw [ey_56]; exact Int32.toInt_toInt64 _
                                refine lv_i2l (v := y_56) hx hb dX9_shift_208 ey_56.symm ?_
                                refine lv_goto (tgt := 221) hx hb dX9_shift_209 (by decide) ?_
                                obtain ⟨hP9, hD9⟩ := va_pd (ws' := [((am 0), .inr (9, F9 am v_status v_now v_told v_merges v_taped v_size v_from v_to v_fault v_readFault v_traits v_length v_open v_leaks v_places v_models)), ((am 6), .inl (cA 2, 400, .inl f_isGone)), ((am 2), .inl (cA 0, 400, .inl f_rowStream)), ((am 19), .inl (cA 2, 20, .inl w_41)), ((am 1), .inl (cA 0, 400, .inl f_rowPerson)), ((am 3), .inl (cA 0, 400, .inl f_rowMoment)), ((am 4), .inl (cA 0, 400, .inl f_rowKnown)), ((am 5), .inl (cA 0, 400, .inl f_rowValue)), ((am 12), .inl (cA 0, 20, .inl f_size0)), ((am 13), .inl (cA 0, 5000, .inl f_step)), ((am 14), .inl (cA 0, 5000, .inl f_stepA)), ((am 15), .inl (cA 0, 5000, .inl f_stepB)), ((am 16), .inl (cA 0, 5000, .inl f_stepC)), ((am 18), .inl (cA 1, 250, .inr (.inl w_39))), ((am 17), .inl (cA 1, 20, .inr (.inl w_40))), ((am 7), .inl (cA 0, 20, .inl f_mergeTo)), ((am 8), .inl (cA 0, 20, .inl f_mergeKnown)), ((am 9), .inl (cA 2, 20, .inl f_isErased)), ((am 34), .inl (cA 0, 4, .inl w_34)), ((am 35), .inl (cA 0, 4, .inl w_42))]) hP hD [1, 2, 3, 4, 5, 6, 7, 8, 9, 10, 11, 12, 13, 14, 15, 16, 17, 18, 0, 19] (by decide) rfl
                                subst hQe
                                have hans : (y_56 : Int64).toInt = y_56.toInt := rfl
                                exact W.lret (v := y_56) hx hb hr (fun t ht hW => ⟨⟨y_56, (w_39, w_40, w_41, w_34, w_42), rfl, trivial, by rw [ht]; exact hP9, hD9⟩, hS.F ht⟩) hS.2.2 dX9_shift_221
                            · have dc_50 : 0 < h15.toInt := jI_nle c_50 rfl (by decide)
                              refine lv_iload hx hb dX9_shift_180 (lv_at hl 1 rfl) ?_
                              refine lv_iload hx hb dX9_shift_182 (lv_at hl 0 rfl) ?_
                              refine lv_irem hx hb dX9_shift_184 (jI_ne0 (by omega)) ?_
                              refine lv_topi (fun x_57 ex_57 => ?_)
                              have dx_57 : 0 ≤ x_57.toInt ∧ x_57.toInt < h15.toInt := by rw [ex_57]; exact jI_rem rfl rfl (by omega) (by omega)
                              refine lv_istore (lv' := [(16, .int x_57), (15, .int h15), (14, .int g14), (13, .int n13), (12, .int r_36), (11, .int r_28), (0, .ref (am 0)), (1, .int tt), (2, .int m1), (3, .int m2), (4, .long a), (6, .long b), (8, .long d), (10, .int w)]) hx hb dX9_shift_185 hl (by decide) rfl (fun ls hl => ?_)
                              refine lv_iload hx hb dX9_shift_187 (lv_at hl 1 rfl) ?_
                              refine lv_istore (lv' := [(14, .int h15), (16, .int x_57), (15, .int h15), (13, .int n13), (12, .int r_36), (11, .int r_28), (0, .ref (am 0)), (1, .int tt), (2, .int m1), (3, .int m2), (4, .long a), (6, .long b), (8, .long d), (10, .int w)]) hx hb dX9_shift_189 hl (by decide) rfl (fun ls hl => ?_)
                              refine lv_iload hx hb dX9_shift_191 (lv_at hl 1 rfl) ?_
                              refine lv_istore (lv' := [(15, .int x_57), (14, .int h15), (16, .int x_57), (13, .int n13), (12, .int r_36), (11, .int r_28), (0, .ref (am 0)), (1, .int tt), (2, .int m1), (3, .int m2), (4, .long a), (6, .long b), (8, .long d), (10, .int w)]) hx hb dX9_shift_193 hl (by decide) rfl (fun ls hl => ?_)
                              refine lv_goto (tgt := 175) hx hb dX9_shift_195 (by decide) ?_
                              exact ih_175 x_57 h15 _ _ ls (by omega) (by omega) (hP.sub [0, 1, 2, 3, 4, 5, 6, 7, 8, 9, 10, 11, 12, 13, 14, 15, 16, 17, 18, 19] rfl) (hD.sub [0, 1, 2, 3, 4, 5, 6, 7, 8, 9, 10, 11, 12, 13, 14, 15, 16, 17, 18, 19] (by decide) rfl) hS (lv_sub hl [0, 1, 3, 4, 5, 6, 7, 8, 9, 10, 11, 12, 13] rfl)
                        exact loop175_49 (Int.toNat (((n13 : Int32).toInt.toNat : Int)) + 1) n13 x_48 _ _ ls (by omega) (by omega) hP hD hS (lv_sub hl [0, 1, 2, 3, 4, 5, 6, 7, 8, 9, 10, 11, 12] rfl)
                      · have dc_47 : i14.toInt < 4 := jI_nle c_47 (by decide) rfl
                        refine lv_aload_n hx hb dX9_shift_119 rfl (lv_at hl 4 rfl) ?_
                        refine va_get (D := (dC, dI)) (ci := 9) (v := .ref (am 34)) (C := RX9) (T := TX9) (N := 51) hx hb hts hIX9 hown hK hP 1 rfl rfl 49 (by decide) (hts (.fieldLink RX9 116 "TraitHouseModel" "heapsOne" "[I") (by decide +kernel)) (fun _ h9 => h9) rfl dX9_shift_120 ?_
                        refine lv_iload hx hb dX9_shift_123 (lv_at hl 0 rfl) ?_
                        have h_58 : vp_in i14 4 := (vp_in_iff.mpr ⟨by omega, by omega⟩)
                        refine va_iald hx hb hK hP 0 0 rfl rfl h_58 dX9_shift_125 ?_
                        refine lv_topi (fun x_59 ex_59 => ?_)
                        refine lv_iload hx hb dX9_shift_126 (lv_at hl 2 rfl) ?_
                        refine lv_imul hx hb dX9_shift_128 ?_
                        refine lv_topi (fun x_60 ex_60 => ?_)
                        refine lv_aload_n hx hb dX9_shift_129 rfl (lv_at hl 4 rfl) ?_
                        refine va_get (D := (dC, dI)) (ci := 9) (v := .ref (am 35)) (C := RX9) (T := TX9) (N := 51) hx hb hts hIX9 hown hK hP 1 rfl rfl 50 (by decide) (hts (.fieldLink RX9 119 "TraitHouseModel" "heapsOther" "[I") (by decide +kernel)) (fun _ h9 => h9) rfl dX9_shift_130 ?_
                        refine lv_iload hx hb dX9_shift_133 (lv_at hl 0 rfl) ?_
                        have h_61 : vp_in i14 4 := (vp_in_iff.mpr ⟨by omega, by omega⟩)
                        refine va_iald hx hb hK hP 19 0 rfl rfl h_61 dX9_shift_135 ?_
                        refine lv_topi (fun x_62 ex_62 => ?_)
                        refine lv_iload hx hb dX9_shift_136 (lv_at hl 3 rfl) ?_
                        refine lv_imul hx hb dX9_shift_138 ?_
                        refine lv_topi (fun x_63 ex_63 => ?_)
                        refine lv_isub hx hb dX9_shift_139 ?_
                        refine lv_topi (fun x_64 ex_64 => ?_)
                        refine lv_istore (lv' := [(15, .int x_64), (14, .int i14), (13, .int n13), (12, .int r_36), (11, .int r_28), (0, .ref (am 0)), (1, .int tt), (2, .int m1), (3, .int m2), (4, .long a), (6, .long b), (8, .long d), (10, .int w)]) hx hb dX9_shift_140 hl (by decide) rfl (fun ls hl => ?_)
                        refine lv_iload hx hb dX9_shift_142 (lv_at hl 2 rfl) ?_
                        refine lv_iload hx hb dX9_shift_144 (lv_at hl 0 rfl) ?_
                        refine lv_if_le (tgt := 154) hx hb dX9_shift_146 (by decide) (fun c_65 => ?_) (fun c_65 => ?_)
                        · have dc_65 : x_64.toInt ≤ 0 := jI_le c_65 rfl (by decide)
                          refine lv_iconst (v := 0) hx hb dX9_shift_154 (by decide) ?_
                          refine lv_iadd hx hb dX9_shift_155 ?_
                          refine lv_topi (fun x_66 ex_66 => ?_)
                          refine lv_istore (lv' := [(13, .int x_66), (15, .int x_64), (14, .int i14), (12, .int r_36), (11, .int r_28), (0, .ref (am 0)), (1, .int tt), (2, .int m1), (3, .int m2), (4, .long a), (6, .long b), (8, .long d), (10, .int w)]) hx hb dX9_shift_156 hl (by decide) rfl (fun ls hl => ?_)
                          obtain ⟨x_67, ex_67⟩ : ∃ y : Int32, y = i14 + 1 := ⟨_, rfl⟩
                          have dx_67 : x_67.toInt = i14.toInt + 1 := by rw [ex_67]; exact jI_add rfl (by decide) (by omega) (by omega)
                          refine lv_iinc (v := x_67) (lv' := [(14, .int x_67), (13, .int x_66), (15, .int x_64), (12, .int r_36), (11, .int r_28), (0, .ref (am 0)), (1, .int tt), (2, .int m1), (3, .int m2), (4, .long a), (6, .long b), (8, .long d), (10, .int w)]) hx hb dX9_shift_158 hl (k := 2) rfl (by rw [ex_67]; rfl) (by decide) rfl (fun ls hl => ?_)
                          refine lv_goto (tgt := 113) hx hb dX9_shift_161 (by decide) ?_
                          exact ih_113 x_67 x_66 _ _ ls (by omega) (by omega) (hP.sub [0, 1, 2, 3, 4, 5, 6, 7, 8, 9, 10, 11, 12, 13, 14, 15, 16, 17, 18, 19] rfl) (hD.sub [0, 1, 2, 3, 4, 5, 6, 7, 8, 9, 10, 11, 12, 13, 14, 15, 16, 17, 18, 19] (by decide) rfl) hS (lv_sub hl [0, 1, 3, 4, 5, 6, 7, 8, 9, 10, 11, 12] rfl)
                        · have dc_65 : 0 < x_64.toInt := jI_nle c_65 rfl (by decide)
                          refine lv_iload hx hb dX9_shift_149 (lv_at hl 0 rfl) ?_
                          refine lv_goto (tgt := 155) hx hb dX9_shift_151 (by decide) ?_
                          refine lv_iadd hx hb dX9_shift_155 ?_
                          refine lv_topi (fun x_68 ex_68 => ?_)
                          refine lv_istore (lv' := [(13, .int x_68), (15, .int x_64), (14, .int i14), (12, .int r_36), (11, .int r_28), (0, .ref (am 0)), (1, .int tt), (2, .int m1), (3, .int m2), (4, .long a), (6, .long b), (8, .long d), (10, .int w)]) hx hb dX9_shift_156 hl (by decide) rfl (fun ls hl => ?_)
                          obtain ⟨x_69, ex_69⟩ : ∃ y : Int32, y = i14 + 1 := ⟨_, rfl⟩
                          have dx_69 : x_69.toInt = i14.toInt + 1 := by rw [ex_69]; exact jI_add rfl (by decide) (by omega) (by omega)
                          refine lv_iinc (v := x_69) (lv' := [(14, .int x_69), (13, .int x_68), (15, .int x_64), (12, .int r_36), (11, .int r_28), (0, .ref (am 0)), (1, .int tt), (2, .int m1), (3, .int m2), (4, .long a), (6, .long b), (8, .long d), (10, .int w)]) hx hb dX9_shift_158 hl (k := 2) rfl (by rw [ex_69]; rfl) (by decide) rfl (fun ls hl => ?_)
                          refine lv_goto (tgt := 113) hx hb dX9_shift_161 (by decide) ?_
                          exact ih_113 x_69 x_68 _ _ ls (by omega) (by omega) (hP.sub [0, 1, 2, 3, 4, 5, 6, 7, 8, 9, 10, 11, 12, 13, 14, 15, 16, 17, 18, 19] rfl) (hD.sub [0, 1, 2, 3, 4, 5, 6, 7, 8, 9, 10, 11, 12, 13, 14, 15, 16, 17, 18, 19] (by decide) rfl) hS (lv_sub hl [0, 1, 3, 4, 5, 6, 7, 8, 9, 10, 11, 12] rfl)
                  have hk_70 : (0 : Int32).toInt = 0 := by decide
                  have hk_71 : (0 : Int32).toInt = 0 := by decide
                  exact loop113_46 (Int.toNat (4 - (0 : Int32).toInt) + 1) 0 0 _ _ ls (by omega) (by omega) hP hD hS (lv_sub hl [0, 1, 2, 3, 4, 5, 6, 7, 8, 9, 10, 11] rfl)
                · have dc_45 : r_36.toInt = 0 := jI_eq c_45 rfl (by decide)
                  refine lv_ldc2 hx hb hown (hts (.constantLong RX9 343 (-6)) (by decide +kernel)) dX9_shift_103 ?_
                  obtain ⟨hP9, hD9⟩ := va_pd (ws' := [((am 0), .inr (9, F9 am v_status v_now v_told v_merges v_taped v_size v_from v_to v_fault v_readFault v_traits v_length v_open v_leaks v_places v_models)), ((am 6), .inl (cA 2, 400, .inl f_isGone)), ((am 2), .inl (cA 0, 400, .inl f_rowStream)), ((am 19), .inl (cA 2, 20, .inl w_41)), ((am 1), .inl (cA 0, 400, .inl f_rowPerson)), ((am 3), .inl (cA 0, 400, .inl f_rowMoment)), ((am 4), .inl (cA 0, 400, .inl f_rowKnown)), ((am 5), .inl (cA 0, 400, .inl f_rowValue)), ((am 12), .inl (cA 0, 20, .inl f_size0)), ((am 13), .inl (cA 0, 5000, .inl f_step)), ((am 14), .inl (cA 0, 5000, .inl f_stepA)), ((am 15), .inl (cA 0, 5000, .inl f_stepB)), ((am 16), .inl (cA 0, 5000, .inl f_stepC)), ((am 18), .inl (cA 1, 250, .inr (.inl w_39))), ((am 17), .inl (cA 1, 20, .inr (.inl w_40))), ((am 7), .inl (cA 0, 20, .inl f_mergeTo)), ((am 8), .inl (cA 0, 20, .inl f_mergeKnown)), ((am 9), .inl (cA 2, 20, .inl f_isErased)), ((am 34), .inl (cA 0, 4, .inl w_34)), ((am 35), .inl (cA 0, 4, .inl w_42))]) hP hD [1, 2, 3, 4, 5, 6, 7, 8, 9, 10, 11, 12, 13, 14, 15, 16, 17, 18, 0, 19] (by decide) rfl
                  subst hQe
                  have hans : ((-6) : Int64).toInt = (-6) := (by decide)
                  exact W.lret (v := (-6)) hx hb hr (fun t ht hW => ⟨⟨(-6), (w_39, w_40, w_41, w_34, w_42), rfl, trivial, by rw [ht]; exact hP9, hD9⟩, hS.F ht⟩) hS.2.2 dX9_shift_106
            · have dc_27 : r_23.toInt = 0 := jI_eq c_27 rfl (by decide)
              refine lv_ldc2 hx hb hown (hts (.constantLong RX9 337 (-2)) (by decide +kernel)) dX9_shift_53 ?_
              obtain ⟨hP9, hD9⟩ := va_pd (ws' := [((am 0), .inr (9, F9 am v_status v_now v_told v_merges v_taped v_size v_from v_to v_fault v_readFault v_traits v_length v_open v_leaks v_places v_models)), ((am 6), .inl (cA 2, 400, .inl f_isGone)), ((am 2), .inl (cA 0, 400, .inl f_rowStream)), ((am 19), .inl (cA 2, 20, .inl f_isOne)), ((am 1), .inl (cA 0, 400, .inl f_rowPerson)), ((am 3), .inl (cA 0, 400, .inl f_rowMoment)), ((am 4), .inl (cA 0, 400, .inl f_rowKnown)), ((am 5), .inl (cA 0, 400, .inl f_rowValue)), ((am 12), .inl (cA 0, 20, .inl f_size0)), ((am 13), .inl (cA 0, 5000, .inl f_step)), ((am 14), .inl (cA 0, 5000, .inl f_stepA)), ((am 15), .inl (cA 0, 5000, .inl f_stepB)), ((am 16), .inl (cA 0, 5000, .inl f_stepC)), ((am 18), .inl (cA 1, 250, .inr (.inl f_heap))), ((am 17), .inl (cA 1, 20, .inr (.inl f_values))), ((am 7), .inl (cA 0, 20, .inl f_mergeTo)), ((am 8), .inl (cA 0, 20, .inl f_mergeKnown)), ((am 9), .inl (cA 2, 20, .inl f_isErased)), ((am 34), .inl (cA 0, 4, .inl f_heapsOne)), ((am 35), .inl (cA 0, 4, .inl f_heapsOther))]) hP hD [19, 0, 1, 2, 3, 4, 5, 6, 7, 8, 9, 10, 11, 12, 13, 14, 15, 16, 17, 18] (by decide) rfl
              subst hQe
              have hans : ((-2) : Int64).toInt = (-2) := (by decide)
              exact W.lret (v := (-2)) hx hb hr (fun t ht hW => ⟨⟨(-2), (f_heap, f_values, f_isOne, f_heapsOne, f_heapsOther), rfl, trivial, by rw [ht]; exact hP9, hD9⟩, hS.F ht⟩) hS.2.2 dX9_shift_56
          · have dc_22 : r_18.toInt = 0 := jI_eq c_22 rfl (by decide)
            refine lv_ldc2 hx hb hown (hts (.constantLong RX9 335 (-1)) (by decide +kernel)) dX9_shift_41 ?_
            obtain ⟨hP9, hD9⟩ := va_pd (ws' := [((am 0), .inr (9, F9 am v_status v_now v_told v_merges v_taped v_size v_from v_to v_fault v_readFault v_traits v_length v_open v_leaks v_places v_models)), ((am 6), .inl (cA 2, 400, .inl f_isGone)), ((am 2), .inl (cA 0, 400, .inl f_rowStream)), ((am 19), .inl (cA 2, 20, .inl f_isOne)), ((am 1), .inl (cA 0, 400, .inl f_rowPerson)), ((am 3), .inl (cA 0, 400, .inl f_rowMoment)), ((am 4), .inl (cA 0, 400, .inl f_rowKnown)), ((am 5), .inl (cA 0, 400, .inl f_rowValue)), ((am 12), .inl (cA 0, 20, .inl f_size0)), ((am 13), .inl (cA 0, 5000, .inl f_step)), ((am 14), .inl (cA 0, 5000, .inl f_stepA)), ((am 15), .inl (cA 0, 5000, .inl f_stepB)), ((am 16), .inl (cA 0, 5000, .inl f_stepC)), ((am 18), .inl (cA 1, 250, .inr (.inl f_heap))), ((am 17), .inl (cA 1, 20, .inr (.inl f_values))), ((am 7), .inl (cA 0, 20, .inl f_mergeTo)), ((am 8), .inl (cA 0, 20, .inl f_mergeKnown)), ((am 9), .inl (cA 2, 20, .inl f_isErased)), ((am 34), .inl (cA 0, 4, .inl f_heapsOne)), ((am 35), .inl (cA 0, 4, .inl f_heapsOther))]) hP hD [0, 1, 2, 3, 4, 5, 6, 7, 8, 9, 10, 11, 12, 13, 14, 15, 16, 17, 18, 19] (by decide) rfl
            subst hQe
            have hans : ((-1) : Int64).toInt = (-1) := (by decide)
            exact W.lret (v := (-1)) hx hb hr (fun t ht hW => ⟨⟨(-1), (f_heap, f_values, f_isOne, f_heapsOne, f_heapsOther), rfl, trivial, by rw [ht]; exact hP9, hD9⟩, hS.F ht⟩) hS.2.2 dX9_shift_44
