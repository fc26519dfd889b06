theorem dX9_trait_0 : decode cX9_trait 0 = .ok (.aload_n 0, 1) := by decide +kernel
theorem dX9_trait_1 : decode cX9_trait 1 = .ok (.aload_n 0, 1) := by decide +kernel
theorem dX9_trait_2 : decode cX9_trait 2 = .ok (.getfield 164, 3) := by decide +kernel
theorem dX9_trait_5 : decode cX9_trait 5 = .ok (.putfield 167, 3) := by decide +kernel
theorem dX9_trait_8 : decode cX9_trait 8 = .ok (.aload_n 0, 1) := by decide +kernel
theorem dX9_trait_9 : decode cX9_trait 9 = .ok (.iconst 0, 1) := by decide +kernel
theorem dX9_trait_10 : decode cX9_trait 10 = .ok (.putfield 164, 3) := by decide +kernel
theorem dX9_trait_13 : decode cX9_trait 13 = .ok (.aload_n 0, 1) := by decide +kernel
theorem dX9_trait_14 : decode cX9_trait 14 = .ok (.getfield 197, 3) := by decide +kernel
theorem dX9_trait_17 : decode cX9_trait 17 = .ok (.bipush 20, 2) := by decide +kernel
theorem dX9_trait_19 : decode cX9_trait 19 = .ok (.if_icmp .ne 10, 3) := by decide +kernel
theorem dX9_trait_29 : decode cX9_trait 29 = .ok (.aload_n 0, 1) := by decide +kernel
theorem dX9_trait_30 : decode cX9_trait 30 = .ok (.iconst 0, 1) := by decide +kernel
theorem dX9_trait_31 : decode cX9_trait 31 = .ok (.putfield 170, 3) := by decide +kernel
theorem dX9_trait_34 : decode cX9_trait 34 = .ok (.aload_n 0, 1) := by decide +kernel
theorem dX9_trait_35 : decode cX9_trait 35 = .ok (.iconst (-1), 1) := by decide +kernel
theorem dX9_trait_36 : decode cX9_trait 36 = .ok (.putfield 184, 3) := by decide +kernel
theorem dX9_trait_39 : decode cX9_trait 39 = .ok (.aload_n 0, 1) := by decide +kernel
theorem dX9_trait_40 : decode cX9_trait 40 = .ok (.iconst 0, 1) := by decide +kernel
theorem dX9_trait_41 : decode cX9_trait 41 = .ok (.putfield 200, 3) := by decide +kernel
theorem dX9_trait_44 : decode cX9_trait 44 = .ok (.aload_n 0, 1) := by decide +kernel
theorem dX9_trait_45 : decode cX9_trait 45 = .ok (.iconst 0, 1) := by decide +kernel
theorem dX9_trait_46 : decode cX9_trait 46 = .ok (.putfield 254, 3) := by decide +kernel
theorem dX9_trait_49 : decode cX9_trait 49 = .ok (.aload_n 0, 1) := by decide +kernel
theorem dX9_trait_50 : decode cX9_trait 50 = .ok (.iconst 0, 1) := by decide +kernel
theorem dX9_trait_51 : decode cX9_trait 51 = .ok (.putfield 266, 3) := by decide +kernel
theorem dX9_trait_54 : decode cX9_trait 54 = .ok (.aload_n 0, 1) := by decide +kernel
set_option maxRecDepth 20000 in
theorem ggX9_trait_X9_next : GoodIn wsX9_trait wsX9_next := goodIn_r _ [24, 4, 9, 2, 25, 26, 27, 28, 18, 29, 98, 99, 100, 101, 102, 103, 104, 105, 106, 107, 108, 109, 110, 111, 112, 113, 114, 115, 116, 117, 118, 119, 120, 121, 122, 123, 124, 125, 126, 127, 128, 129, 130, 131, 132, 133, 134, 135, 136, 137, 138, 139, 140, 141, 142, 143, 144, 145, 146, 147, 148] (by decide +kernel) (by decide +kernel)
set_option maxRecDepth 20000 in
theorem gX9_trait_X9_next : GoodIn wsX9_trait (wsV RX9 194 RX9 yX9_next wsX9_next) := goodIn_app (goodIn_of _ (by decide +kernel)) ggX9_trait_X9_next
theorem dX9_trait_55 : decode cX9_trait 55 = .ok (.invokevirtual 194, 3) := by decide +kernel
theorem dX9_trait_58 : decode cX9_trait 58 = .ok (.aload_n 0, 1) := by decide +kernel
set_option maxRecDepth 20000 in
theorem ggX9_trait_X9_sum : GoodIn wsX9_trait wsX9_sum := goodIn_r _ [33, 34, 35, 36, 18, 37, 38, 39, 40, 5, 41, 42, 43, 44, 9, 2, 25, 4, 21, 22, 23, 24, 26, 27, 28, 29, 45, 46, 47, 48, 3, 6, 49, 50, 51, 52, 53, 54, 55, 56, 57, 58, 59, 60, 61, 62, 63, 64, 65, 66, 67, 68, 69, 70, 71, 72, 73, 74, 75, 76, 77, 78, 79, 80, 81, 82, 83, 84, 85, 86, 87, 8, 88, 7, 30, 31, 32, 89, 90, 91, 92, 93, 94, 95, 96, 97, 98, 99, 100, 101, 102, 103, 104, 105, 106, 107, 108, 109, 110, 111, 112, 113, 114, 115, 116, 117, 118, 119, 120, 121, 122, 123, 124, 125, 126, 127, 128, 129, 130, 131, 132, 133, 134, 135, 136, 137, 138, 139, 140, 141, 142, 143, 144, 145, 146, 147, 148] (by decide +kernel) (by decide +kernel)
set_option maxRecDepth 20000 in
theorem gX9_trait_X9_sum : GoodIn wsX9_trait (wsV RX9 257 RX9 yX9_sum wsX9_sum) := goodIn_app (goodIn_of _ (by decide +kernel)) ggX9_trait_X9_sum
theorem dX9_trait_59 : decode cX9_trait 59 = .ok (.invokevirtual 257, 3) := by decide +kernel
theorem dX9_trait_62 : decode cX9_trait 62 = .ok (.aload_n 0, 1) := by decide +kernel
set_option maxRecDepth 20000 in
theorem ggX9_trait_X9_good : GoodIn wsX9_trait wsX9_good := goodIn_r _ [40, 5, 98, 99, 100, 101, 102, 103, 104, 105, 106, 107, 108, 109, 110, 111, 112, 113, 114, 115, 116, 117, 118, 119, 120, 121, 122, 123, 124, 125, 126, 127, 128, 129, 130, 131, 132, 133, 134, 135, 136, 137, 138, 139, 140, 141, 142, 143, 144, 145, 146, 147, 148] (by decide +kernel) (by decide +kernel)
set_option maxRecDepth 20000 in
theorem gX9_trait_X9_good : GoodIn wsX9_trait (wsV RX9 206 RX9 yX9_good wsX9_good) := goodIn_app (goodIn_of _ (by decide +kernel)) ggX9_trait_X9_good
theorem dX9_trait_63 : decode cX9_trait 63 = .ok (.invokevirtual 206, 3) := by decide +kernel
theorem dX9_trait_66 : decode cX9_trait 66 = .ok (.ifCond .eq 18, 3) := by decide +kernel
theorem dX9_trait_84 : decode cX9_trait 84 = .ok (.aload_n 0, 1) := by decide +kernel
theorem dX9_trait_85 : decode cX9_trait 85 = .ok (.aload_n 0, 1) := by decide +kernel
theorem dX9_trait_86 : decode cX9_trait 86 = .ok (.getfield 184, 3) := by decide +kernel
theorem dX9_trait_89 : decode cX9_trait 89 = .ok (.putfield 42, 3) := by decide +kernel
theorem dX9_trait_92 : decode cX9_trait 92 = .ok (.aload_n 0, 1) := by decide +kernel
theorem dX9_trait_93 : decode cX9_trait 93 = .ok (.invokevirtual 206, 3) := by decide +kernel
theorem dX9_trait_96 : decode cX9_trait 96 = .ok (.ifCond .ne 10, 3) := by decide +kernel
theorem dX9_trait_99 : decode cX9_trait 99 = .ok (.aload_n 0, 1) := by decide +kernel
theorem dX9_trait_100 : decode cX9_trait 100 = .ok (.bipush (-6), 2) := by decide +kernel
set_option maxRecDepth 20000 in
theorem ggX9_trait_X9_ends : GoodIn wsX9_trait wsX9_ends := goodIn_r _ [19, 20, 98, 99, 100, 101, 102, 103, 104, 105, 106, 107, 108, 109, 110, 111, 112, 113, 114, 115, 116, 117, 118, 119, 120, 121, 122, 123, 124, 125, 126, 127, 128, 129, 130, 131, 132, 133, 134, 135, 136, 137, 138, 139, 140, 141, 142, 143, 144, 145, 146, 147, 148] (by decide +kernel) (by decide +kernel)
set_option maxRecDepth 20000 in
theorem gX9_trait_X9_ends : GoodIn wsX9_trait (wsV RX9 136 RX9 yX9_ends wsX9_ends) := goodIn_app (goodIn_of _ (by decide +kernel)) ggX9_trait_X9_ends
theorem dX9_trait_102 : decode cX9_trait 102 = .ok (.invokevirtual 136, 3) := by decide +kernel
theorem dX9_trait_105 : decode cX9_trait 105 = .ok (.ireturn, 1) := by decide +kernel
theorem dX9_trait_69 : decode cX9_trait 69 = .ok (.aload_n 0, 1) := by decide +kernel
theorem dX9_trait_70 : decode cX9_trait 70 = .ok (.getfield 173, 3) := by decide +kernel
theorem dX9_trait_73 : decode cX9_trait 73 = .ok (.aload_n 0, 1) := by decide +kernel
theorem dX9_trait_74 : decode cX9_trait 74 = .ok (.getfield 167, 3) := by decide +kernel
theorem dX9_trait_77 : decode cX9_trait 77 = .ok (.if_icmp .ge 7, 3) := by decide +kernel
theorem dX9_trait_106 : decode cX9_trait 106 = .ok (.aload_n 0, 1) := by decide +kernel
theorem dX9_trait_107 : decode cX9_trait 107 = .ok (.getfield 266, 3) := by decide +kernel
theorem dX9_trait_110 : decode cX9_trait 110 = .ok (.ifCond .eq 10, 3) := by decide +kernel
theorem dX9_trait_120 : decode cX9_trait 120 = .ok (.aload_n 0, 1) := by decide +kernel
theorem dX9_trait_121 : decode cX9_trait 121 = .ok (.getfield 49, 3) := by decide +kernel
theorem dX9_trait_124 : decode cX9_trait 124 = .ok (.aload_n 0, 1) := by decide +kernel
theorem dX9_trait_125 : decode cX9_trait 125 = .ok (.getfield 197, 3) := by decide +kernel
theorem dX9_trait_128 : decode cX9_trait 128 = .ok (.aload_n 0, 1) := by decide +kernel
theorem dX9_trait_129 : decode cX9_trait 129 = .ok (.getfield 200, 3) := by decide +kernel
theorem dX9_trait_132 : decode cX9_trait 132 = .ok (.iastore, 1) := by decide +kernel
theorem dX9_trait_133 : decode cX9_trait 133 = .ok (.aload_n 0, 1) := by decide +kernel
theorem dX9_trait_134 : decode cX9_trait 134 = .ok (.getfield 83, 3) := by decide +kernel
theorem dX9_trait_137 : decode cX9_trait 137 = .ok (.aload_n 0, 1) := by decide +kernel
theorem dX9_trait_138 : decode cX9_trait 138 = .ok (.getfield 197, 3) := by decide +kernel
theorem dX9_trait_141 : decode cX9_trait 141 = .ok (.ldc 156, 2) := by decide +kernel
theorem dX9_trait_143 : decode cX9_trait 143 = .ok (.iastore, 1) := by decide +kernel
theorem dX9_trait_144 : decode cX9_trait 144 = .ok (.aload_n 0, 1) := by decide +kernel
theorem dX9_trait_145 : decode cX9_trait 145 = .ok (.getfield 80, 3) := by decide +kernel
theorem dX9_trait_148 : decode cX9_trait 148 = .ok (.aload_n 0, 1) := by decide +kernel
theorem dX9_trait_149 : decode cX9_trait 149 = .ok (.getfield 197, 3) := by decide +kernel
theorem dX9_trait_152 : decode cX9_trait 152 = .ok (.iconst 0, 1) := by decide +kernel
theorem dX9_trait_153 : decode cX9_trait 153 = .ok (.bastore, 1) := by decide +kernel
theorem dX9_trait_154 : decode cX9_trait 154 = .ok (.aload_n 0, 1) := by decide +kernel
theorem dX9_trait_155 : decode cX9_trait 155 = .ok (.dup, 1) := by decide +kernel
theorem dX9_trait_156 : decode cX9_trait 156 = .ok (.getfield 197, 3) := by decide +kernel
theorem dX9_trait_159 : decode cX9_trait 159 = .ok (.iconst 1, 1) := by decide +kernel
theorem dX9_trait_160 : decode cX9_trait 160 = .ok (.iadd, 1) := by decide +kernel
theorem dX9_trait_161 : decode cX9_trait 161 = .ok (.putfield 197, 3) := by decide +kernel
theorem dX9_trait_164 : decode cX9_trait 164 = .ok (.aload_n 0, 1) := by decide +kernel
theorem dX9_trait_165 : decode cX9_trait 165 = .ok (.aload_n 0, 1) := by decide +kernel
theorem dX9_trait_166 : decode cX9_trait 166 = .ok (.getfield 197, 3) := by decide +kernel
theorem dX9_trait_169 : decode cX9_trait 169 = .ok (.iconst 1, 1) := by decide +kernel
theorem dX9_trait_170 : decode cX9_trait 170 = .ok (.isub, 1) := by decide +kernel
theorem dX9_trait_171 : decode cX9_trait 171 = .ok (.invokevirtual 136, 3) := by decide +kernel
theorem dX9_trait_174 : decode cX9_trait 174 = .ok (.ireturn, 1) := by decide +kernel
theorem dX9_trait_113 : decode cX9_trait 113 = .ok (.aload_n 0, 1) := by decide +kernel
theorem dX9_trait_114 : decode cX9_trait 114 = .ok (.bipush (-3), 2) := by decide +kernel
theorem dX9_trait_116 : decode cX9_trait 116 = .ok (.invokevirtual 136, 3) := by decide +kernel
theorem dX9_trait_119 : decode cX9_trait 119 = .ok (.ireturn, 1) := by decide +kernel
theorem dX9_trait_80 : decode cX9_trait 80 = .ok (.aload_n 0, 1) := by decide +kernel
set_option maxRecDepth 20000 in
theorem ggX9_trait_X9_faults : GoodIn wsX9_trait wsX9_faults := goodIn_r _ [71, 5, 9, 98, 99, 100, 101, 102, 103, 104, 105, 106, 107, 108, 109, 110, 111, 112, 113, 114, 115, 116, 117, 118, 119, 120, 121, 122, 123, 124, 125, 126, 127, 128, 129, 130, 131, 132, 133, 134, 135, 136, 137, 138, 139, 140, 141, 142, 143, 144, 145, 146, 147, 148] (by decide +kernel) (by decide +kernel)
set_option maxRecDepth 20000 in
theorem gX9_trait_X9_faults : GoodIn wsX9_trait (wsV RX9 187 RX9 yX9_faults wsX9_faults) := goodIn_app (goodIn_of _ (by decide +kernel)) ggX9_trait_X9_faults
theorem dX9_trait_81 : decode cX9_trait 81 = .ok (.invokevirtual 187, 3) := by decide +kernel
theorem dX9_trait_22 : decode cX9_trait 22 = .ok (.aload_n 0, 1) := by decide +kernel
theorem dX9_trait_23 : decode cX9_trait 23 = .ok (.bipush (-5), 2) := by decide +kernel
theorem dX9_trait_25 : decode cX9_trait 25 = .ok (.invokevirtual 136, 3) := by decide +kernel
theorem dX9_trait_28 : decode cX9_trait 28 = .ok (.ireturn, 1) := by decide +kernel
set_option maxHeartbeats 8000000 in
set_option maxRecDepth 100000 in
theorem k_X9_trait (l : Launch) (dC : Nat → ClassId) (dI : Nat → Nat → Nat) (cA : Nat → ClassId) (sz : Nat) (am : Nat → Nat) (v_status : Int32) (v_now : Int32) (v_told : Int32) (v_merges : Int32) (v_taped : Int32) (v_size : Int32) (v_from : Int32) (v_to : Int32) (v_fault : Int32) (v_readFault : Int32) (v_traits : Int32) (v_length : Int32) (v_open : Int32) (v_leaks : Int32) (v_places : Int32) (v_models : Int32) (f_tape : Nat → Int32) (f_step : Nat → Int32) (f_stepA : Nat → Int32) (f_stepB : Nat → Int32) (f_stepC : Nat → Int32) (f_size0 : Nat → Int32) (f_limits : Nat → Int32) (f_hasLaw : Nat → Int32) (i_v_now : 0 ≤ v_now.toInt ∧ v_now.toInt ≤ 100000) (i_v_told : 0 ≤ v_told.toInt ∧ v_told.toInt ≤ 400) (i_v_taped : 0 ≤ v_taped.toInt ∧ v_taped.toInt ≤ 200) (i_v_size : 0 ≤ v_size.toInt ∧ v_size.toInt ≤ 200) (i_v_from : 0 ≤ v_from.toInt ∧ v_from.toInt ≤ 200) (i_v_to : 0 ≤ v_to.toInt ∧ v_to.toInt ≤ 200) (i_v_traits : 0 ≤ v_traits.toInt ∧ v_traits.toInt ≤ 20) (i_v_length : 0 ≤ v_length.toInt ∧ v_length.toInt ≤ 200) (i_v_open : 0 ≤ v_open.toInt ∧ v_open.toInt ≤ 8) (i_v_places : 0 ≤ v_places.toInt ∧ v_places.toInt ≤ 2000) (i_v_models : 0 ≤ v_models.toInt ∧ v_models.toInt ≤ 10) (i_f_size0 : inB 0 200 20 f_size0) (hpr : progOK f_step f_stepA f_size0 v_traits) : Met l yX9_trait wsX9_trait ({ frames := 64, cells := 0, slots := 0, locals := 1425 }) (va_Pc [.ref (am 0)] (fun U => U.heap.size = sz ∧ va_P (dC, dI) vwCl [((am 0), .inr (9, F9 am v_status v_now v_told v_merges v_taped v_size v_from v_to v_fault v_readFault v_traits v_length v_open v_leaks v_places v_models)), ((am 10), .inl (cA 3, 200, .inl f_tape)), ((am 13), .inl (cA 0, 5000, .inl f_step)), ((am 14), .inl (cA 0, 5000, .inl f_stepA)), ((am 15), .inl (cA 0, 5000, .inl f_stepB)), ((am 16), .inl (cA 0, 5000, .inl f_stepC)), ((am 12), .inl (cA 0, 20, .inl f_size0)), ((am 23), .inl (cA 0, 20, .inl f_limits)), ((am 22), .inl (cA 2, 20, .inl f_hasLaw))] U.heap ∧ va_K (dC, dI) vwCl (tyL cA) U ∧ va_D (fun _ => True) [((am 0), .inr (9, F9 am v_status v_now v_told v_merges v_taped v_size v_from v_to v_fault v_readFault v_traits v_length v_open v_leaks v_places v_models)), ((am 10), .inl (cA 3, 200, .inl f_tape)), ((am 13), .inl (cA 0, 5000, .inl f_step)), ((am 14), .inl (cA 0, 5000, .inl f_stepA)), ((am 15), .inl (cA 0, 5000, .inl f_stepB)), ((am 16), .inl (cA 0, 5000, .inl f_stepC)), ((am 12), .inl (cA 0, 20, .inl f_size0)), ((am 23), .inl (cA 0, 20, .inl f_limits)), ((am 22), .inl (cA 2, 20, .inl f_hasLaw))] ∧ nw_ok U)) (va_Qi (fun (r : Int32) (u : Int32 × Int32 × Int32 × Int32 × Int32 × Int32 × (Nat → Int32) × (Nat → Int32) × (Nat → Int32) × (Nat → Int32) × Int32 × Int32 × Int32 × Int32 × Int32 × (Nat → Int32) × (Nat → Int32) × (Nat → Int32)) => (0 ≤ u.1.toInt ∧ u.1.toInt ≤ 200) ∧ (0 ≤ u.2.1.toInt ∧ u.2.1.toInt ≤ 200) ∧ (0 ≤ u.2.2.2.1.toInt ∧ u.2.2.2.1.toInt ≤ 200) ∧ (0 ≤ u.2.2.2.2.1.toInt ∧ u.2.2.2.2.1.toInt ≤ 8) ∧ (0 ≤ u.2.2.2.2.2.2.2.2.2.2.1.toInt ∧ u.2.2.2.2.2.2.2.2.2.2.1.toInt ≤ 200) ∧ (0 ≤ u.2.2.2.2.2.2.2.2.2.2.2.1.toInt ∧ u.2.2.2.2.2.2.2.2.2.2.2.1.toInt ≤ 200) ∧ (0 ≤ u.2.2.2.2.2.2.2.2.2.2.2.2.2.1.toInt ∧ u.2.2.2.2.2.2.2.2.2.2.2.2.2.1.toInt ≤ 20) ∧ (inB 0 200 20 u.2.2.2.2.2.2.2.2.2.2.2.2.2.2.2.1) ∧ (u.2.2.2.2.2.2.2.2.2.2.2.1.toInt = 0 ∧ v_traits.toInt ≤ u.2.2.2.2.2.2.2.2.2.2.2.2.2.1.toInt) ∧ (progOK u.2.2.2.2.2.2.1 u.2.2.2.2.2.2.2.1 u.2.2.2.2.2.2.2.2.2.2.2.2.2.2.2.1 u.2.2.2.2.2.2.2.2.2.2.2.2.2.1) ∧ (trRes (pread (tpe f_tape v_taped) v_taped.toInt v_traits.toInt) v_traits.toInt v_fault.toInt r.toInt u.2.2.2.2.2.2.2.2.2.2.2.2.2.1.toInt u.2.2.2.2.2.2.2.2.2.2.2.2.1.toInt) ∧ ((u.2.2.2.2.2.2.2.2.2.2.2.2.2.1.toInt = v_traits.toInt ∧ u.2.2.2.2.2.2.2.2.2.2.2.2.2.2.2.2.1 = f_limits) ∨ (u.2.2.2.2.2.2.2.2.2.2.2.2.2.1.toInt = v_traits.toInt + 1 ∧ u.2.2.2.2.2.2.2.2.2.2.2.2.2.2.2.2.1 = upd f_limits v_traits.toNatClampNeg 100000)) ∧ ((∀ i : Nat, (i : Int) < v_traits.toInt → rdR u.2.2.2.2.2.2.1 u.2.2.2.2.2.2.2.1 u.2.2.2.2.2.2.2.2.2.2.2.2.2.2.2.1 i = rdR f_step f_stepA f_size0 i) ∧ (u.2.2.2.2.2.2.2.2.2.2.2.2.2.1.toInt = v_traits.toInt + 1 → ∃ p e lk rd, pread (tpe f_tape v_taped) v_taped.toInt v_traits.toInt = .inr (p, e, lk, rd) ∧ rdR u.2.2.2.2.2.2.1 u.2.2.2.2.2.2.2.1 u.2.2.2.2.2.2.2.2.2.2.2.2.2.2.2.1 v_traits.toInt.toNat = rd))) (fun (u : Int32 × Int32 × Int32 × Int32 × Int32 × Int32 × (Nat → Int32) × (Nat → Int32) × (Nat → Int32) × (Nat → Int32) × Int32 × Int32 × Int32 × Int32 × Int32 × (Nat → Int32) × (Nat → Int32) × (Nat → Int32)) (t : State) => va_P (dC, dI) vwCl [((am 0), .inr (9, F9 am u.2.2.2.2.2.2.2.2.2.2.2.2.2.2.1 v_now v_told v_merges u.2.2.2.2.2.2.2.2.2.2.2.1 u.2.2.2.2.2.2.2.2.2.2.1 u.1 u.2.1 u.2.2.2.2.2.2.2.2.2.2.2.2.1 u.2.2.1 u.2.2.2.2.2.2.2.2.2.2.2.2.2.1 u.2.2.2.1 u.2.2.2.2.1 u.2.2.2.2.2.1 v_places v_models)), ((am 10), .inl (cA 3, 200, .inl f_tape)), ((am 13), .inl (cA 0, 5000, .inl u.2.2.2.2.2.2.1)), ((am 14), .inl (cA 0, 5000, .inl u.2.2.2.2.2.2.2.1)), ((am 15), .inl (cA 0, 5000, .inl u.2.2.2.2.2.2.2.2.1)), ((am 16), .inl (cA 0, 5000, .inl u.2.2.2.2.2.2.2.2.2.1)), ((am 12), .inl (cA 0, 20, .inl u.2.2.2.2.2.2.2.2.2.2.2.2.2.2.2.1)), ((am 23), .inl (cA 0, 20, .inl u.2.2.2.2.2.2.2.2.2.2.2.2.2.2.2.2.1)), ((am 22), .inl (cA 2, 20, .inl u.2.2.2.2.2.2.2.2.2.2.2.2.2.2.2.2.2))] t.heap ∧ va_D (va_A [((am 0), .inr (9, F9 am v_status v_now v_told v_merges v_taped v_size v_from v_to v_fault v_readFault v_traits v_length v_open v_leaks v_places v_models)), ((am 10), .inl (cA 3, 200, .inl f_tape)), ((am 13), .inl (cA 0, 5000, .inl f_step)), ((am 14), .inl (cA 0, 5000, .inl f_stepA)), ((am 15), .inl (cA 0, 5000, .inl f_stepB)), ((am 16), .inl (cA 0, 5000, .inl f_stepC)), ((am 12), .inl (cA 0, 20, .inl f_size0)), ((am 23), .inl (cA 0, 20, .inl f_limits)), ((am 22), .inl (cA 2, 20, .inl f_hasLaw))] sz) [((am 0), .inr (9, F9 am u.2.2.2.2.2.2.2.2.2.2.2.2.2.2.1 v_now v_told v_merges u.2.2.2.2.2.2.2.2.2.2.2.1 u.2.2.2.2.2.2.2.2.2.2.1 u.1 u.2.1 u.2.2.2.2.2.2.2.2.2.2.2.2.1 u.2.2.1 u.2.2.2.2.2.2.2.2.2.2.2.2.2.1 u.2.2.2.1 u.2.2.2.2.1 u.2.2.2.2.2.1 v_places v_models)), ((am 10), .inl (cA 3, 200, .inl f_tape)), ((am 13), .inl (cA 0, 5000, .inl u.2.2.2.2.2.2.1)), ((am 14), .inl (cA 0, 5000, .inl u.2.2.2.2.2.2.2.1)), ((am 15), .inl (cA 0, 5000, .inl u.2.2.2.2.2.2.2.2.1)), ((am 16), .inl (cA 0, 5000, .inl u.2.2.2.2.2.2.2.2.2.1)), ((am 12), .inl (cA 0, 20, .inl u.2.2.2.2.2.2.2.2.2.2.2.2.2.2.2.1)), ((am 23), .inl (cA 0, 20, .inl u.2.2.2.2.2.2.2.2.2.2.2.2.2.2.2.2.1)), ((am 22), .inl (cA 2, 20, .inl u.2.2.2.2.2.2.2.2.2.2.2.2.2.2.2.2.2))]) (va_A [((am 0), .inr (9, F9 am v_status v_now v_told v_merges v_taped v_size v_from v_to v_fault v_readFault v_traits v_length v_open v_leaks v_places v_models)), ((am 10), .inl (cA 3, 200, .inl f_tape)), ((am 13), .inl (cA 0, 5000, .inl f_step)), ((am 14), .inl (cA 0, 5000, .inl f_stepA)), ((am 15), .inl (cA 0, 5000, .inl f_stepB)), ((am 16), .inl (cA 0, 5000, .inl f_stepC)), ((am 12), .inl (cA 0, 20, .inl f_size0)), ((am 23), .inl (cA 0, 20, .inl f_limits)), ((am 22), .inl (cA 2, 20, .inl f_hasLaw))] sz)) 0 0 (va_A [((am 0), .inr (9, F9 am v_status v_now v_told v_merges v_taped v_size v_from v_to v_fault v_readFault v_traits v_length v_open v_leaks v_places v_models)), ((am 10), .inl (cA 3, 200, .inl f_tape)), ((am 13), .inl (cA 0, 5000, .inl f_step)), ((am 14), .inl (cA 0, 5000, .inl f_stepA)), ((am 15), .inl (cA 0, 5000, .inl f_stepB)), ((am 16), .inl (cA 0, 5000, .inl f_stepC)), ((am 12), .inl (cA 0, 20, .inl f_size0)), ((am 23), .inl (cA 0, 20, .inl f_limits)), ((am 22), .inl (cA 2, 20, .inl f_hasLaw))] sz) := by
  refine Met.ofW (cc := cX9_trait) (maxL := 1) (ret := (some .int)) (by decide) rfl ?_
  intro p e s m args below meth c s₁ B hml hv
  obtain ⟨rfl, hsz, hP, hK, hD0, hN⟩ := hv
  have hx := B.exec
  have hb := B.bytes
  have hr := B.returns
  have hts := atoms_spec (ws := wsX9_trait) B.pre
  have hown : s.vm.findClass RX9 = some m.cls := findClass_of_methodNamed B.named
  have hlocks := B.notSynchronized
  subst hsz
  have hD := hD0.self (sz := s.heap.size)
  generalize hAe : va_A [((am 0), .inr (9, F9 am v_status v_now v_told v_merges v_taped v_size v_from v_to v_fault v_readFault v_traits v_length v_open v_leaks v_places v_models)), ((am 10), .inl (cA 3, 200, .inl f_tape)), ((am 13), .inl (cA 0, 5000, .inl f_step)), ((am 14), .inl (cA 0, 5000, .inl f_stepA)), ((am 15), .inl (cA 0, 5000, .inl f_stepB)), ((am 16), .inl (cA 0, 5000, .inl f_stepC)), ((am 12), .inl (cA 0, 20, .inl f_size0)), ((am 23), .inl (cA 0, 20, .inl f_limits)), ((am 22), .inl (cA 2, 20, .inl f_hasLaw))] s.heap.size = A at hD ⊢
  have hA : ∀ q : Nat, s.heap.size ≤ q → A q := fun q h => by rw [← hAe]; exact Or.inr h
  have hS : va_S A s.heap s.heap [] := va_S.rf
  have hIX9 : ∀ w ∈ u_ws RX9 TX9 51, w ∈ wsX9_trait := by decide +kernel
  have hl := lv_entry ([.ref (am 0)]) (n := 1) (Nat.le_of_ble_eq_true rfl)
  rw [lg_entry_eq]
  generalize (lg_sl ([.ref (am 0)]) ++ List.replicate (1 - (lg_sl ([.ref (am 0)])).length) Slot.unset).toArray = ls at hl ⊢
  have hl : lv_has ls 1 [(0, .ref (am 0))] := hl
  generalize hQe : MQ below _ _ _ _ _ _ = QQ
  refine lv_aload_n hx hb dX9_trait_0 rfl (lv_at hl 0 rfl) ?_
  refine lv_aload_n hx hb dX9_trait_1 rfl (lv_at hl 0 rfl) ?_
  refine va_get (D := (dC, dI)) (ci := 9) (v := .int v_taped) (C := RX9) (T := TX9) (N := 51) hx hb hts hIX9 hown hK hP 0 rfl rfl 14 (by decide) (hts (.fieldLink RX9 164 "TraitHouseModel" "taped" "I") (by decide +kernel)) (fun _ h9 => h9) rfl dX9_trait_2 ?_
  refine va_put (D := (dC, dI)) (ci := 9) (v := .int v_taped) (ty := .int) (C := RX9) (T := TX9) (N := 51) hx hb hts hIX9 tyX9 tyX9_ok nmX9 hown hK hP hD hS 0 rfl rfl 15 (by decide) (hts (.fieldLink RX9 167 "TraitHouseModel" "size" "I") (by decide +kernel)) (fun _ h9 => h9) rfl (by decide +kernel) rfl rfl (Nat.le_of_ble_eq_true rfl) dX9_trait_5 (fun H locs hP hD hS => ?_)
  replace hP : va_P (dC, dI) vwCl [((am 0), .inr (9, F9 am v_status v_now v_told v_merges v_taped v_taped v_from v_to v_fault v_readFault v_traits v_length v_open v_leaks v_places v_models)), ((am 10), .inl (cA 3, 200, .inl f_tape)), ((am 13), .inl (cA 0, 5000, .inl f_step)), ((am 14), .inl (cA 0, 5000, .inl f_stepA)), ((am 15), .inl (cA 0, 5000, .inl f_stepB)), ((am 16), .inl (cA 0, 5000, .inl f_stepC)), ((am 12), .inl (cA 0, 20, .inl f_size0)), ((am 23), .inl (cA 0, 20, .inl f_limits)), ((am 22), .inl (cA 2, 20, .inl f_hasLaw))] H := hP
  replace hD : va_D A [((am 0), .inr (9, F9 am v_status v_now v_told v_merges v_taped v_taped v_from v_to v_fault v_readFault v_traits v_length v_open v_leaks v_places v_models)), ((am 10), .inl (cA 3, 200, .inl f_tape)), ((am 13), .inl (cA 0, 5000, .inl f_step)), ((am 14), .inl (cA 0, 5000, .inl f_stepA)), ((am 15), .inl (cA 0, 5000, .inl f_stepB)), ((am 16), .inl (cA 0, 5000, .inl f_stepC)), ((am 12), .inl (cA 0, 20, .inl f_size0)), ((am 23), .inl (cA 0, 20, .inl f_limits)), ((am 22), .inl (cA 2, 20, .inl f_hasLaw))] := hD
  refine lv_aload_n hx hb dX9_trait_8 rfl (lv_at hl 0 rfl) ?_
  refine lv_iconst (v := 0) hx hb dX9_trait_9 (by decide) ?_
  refine va_put (D := (dC, dI)) (ci := 9) (v := .int 0) (ty := .int) (C := RX9) (T := TX9) (N := 51) hx hb hts hIX9 tyX9 tyX9_ok nmX9 hown hK hP hD hS 0 rfl rfl 14 (by decide) (hts (.fieldLink RX9 164 "TraitHouseModel" "taped" "I") (by decide +kernel)) (fun _ h9 => h9) rfl (by decide +kernel) rfl rfl (Nat.le_of_ble_eq_true rfl) dX9_trait_10 (fun H locs hP hD hS => ?_)
  replace hP : va_P (dC, dI) vwCl [((am 0), .inr (9, F9 am v_status v_now v_told v_merges 0 v_taped v_from v_to v_fault v_readFault v_traits v_length v_open v_leaks v_places v_models)), ((am 10), .inl (cA 3, 200, .inl f_tape)), ((am 13), .inl (cA 0, 5000, .inl f_step)), ((am 14), .inl (cA 0, 5000, .inl f_stepA)), ((am 15), .inl (cA 0, 5000, .inl f_stepB)), ((am 16), .inl (cA 0, 5000, .inl f_stepC)), ((am 12), .inl (cA 0, 20, .inl f_size0)), ((am 23), .inl (cA 0, 20, .inl f_limits)), ((am 22), .inl (cA 2, 20, .inl f_hasLaw))] H := hP
  replace hD : va_D A [((am 0), .inr (9, F9 am v_status v_now v_told v_merges 0 v_taped v_from v_to v_fault v_readFault v_traits v_length v_open v_leaks v_places v_models)), ((am 10), .inl (cA 3, 200, .inl f_tape)), ((am 13), .inl (cA 0, 5000, .inl f_step)), ((am 14), .inl (cA 0, 5000, .inl f_stepA)), ((am 15), .inl (cA 0, 5000, .inl f_stepB)), ((am 16), .inl (cA 0, 5000, .inl f_stepC)), ((am 12), .inl (cA 0, 20, .inl f_size0)), ((am 23), .inl (cA 0, 20, .inl f_limits)), ((am 22), .inl (cA 2, 20, .inl f_hasLaw))] := hD
  refine lv_aload_n hx hb dX9_trait_13 rfl (lv_at hl 0 rfl) ?_
  refine va_get (D := (dC, dI)) (ci := 9) (v := .int v_traits) (C := RX9) (T := TX9) (N := 51) hx hb hts hIX9 hown hK hP 0 rfl rfl 21 (by decide) (hts (.fieldLink RX9 197 "TraitHouseModel" "traits" "I") (by decide +kernel)) (fun _ h9 => h9) rfl dX9_trait_14 ?_
  refine lv_bipush (v := 20) hx hb dX9_trait_17 (by decide) ?_
  refine lv_icmp_ne (tgt := 29) hx hb dX9_trait_19 (by decide) (fun c_1 => ?_) (fun c_1 => ?_)
  · have dc_1 : ¬ v_traits.toInt = 20 := jI_ne c_1 rfl (by decide)
    refine lv_aload_n hx hb dX9_trait_29 rfl (lv_at hl 0 rfl) ?_
    refine lv_iconst (v := 0) hx hb dX9_trait_30 (by decide) ?_
    refine va_put (D := (dC, dI)) (ci := 9) (v := .int 0) (ty := .int) (C := RX9) (T := TX9) (N := 51) hx hb hts hIX9 tyX9 tyX9_ok nmX9 hown hK hP hD hS 0 rfl rfl 17 (by decide) (hts (.fieldLink RX9 170 "TraitHouseModel" "to" "I") (by decide +kernel)) (fun _ h9 => h9) rfl (by decide +kernel) rfl rfl (Nat.le_of_ble_eq_true rfl) dX9_trait_31 (fun H locs hP hD hS => ?_)
    replace hP : va_P (dC, dI) vwCl [((am 0), .inr (9, F9 am v_status v_now v_told v_merges 0 v_taped v_from 0 v_fault v_readFault v_traits v_length v_open v_leaks v_places v_models)), ((am 10), .inl (cA 3, 200, .inl f_tape)), ((am 13), .inl (cA 0, 5000, .inl f_step)), ((am 14), .inl (cA 0, 5000, .inl f_stepA)), ((am 15), .inl (cA 0, 5000, .inl f_stepB)), ((am 16), .inl (cA 0, 5000, .inl f_stepC)), ((am 12), .inl (cA 0, 20, .inl f_size0)), ((am 23), .inl (cA 0, 20, .inl f_limits)), ((am 22), .inl (cA 2, 20, .inl f_hasLaw))] H := hP
    replace hD : va_D A [((am 0), .inr (9, F9 am v_status v_now v_told v_merges 0 v_taped v_from 0 v_fault v_readFault v_traits v_length v_open v_leaks v_places v_models)), ((am 10), .inl (cA 3, 200, .inl f_tape)), ((am 13), .inl (cA 0, 5000, .inl f_step)), ((am 14), .inl (cA 0, 5000, .inl f_stepA)), ((am 15), .inl (cA 0, 5000, .inl f_stepB)), ((am 16), .inl (cA 0, 5000, .inl f_stepC)), ((am 12), .inl (cA 0, 20, .inl f_size0)), ((am 23), .inl (cA 0, 20, .inl f_limits)), ((am 22), .inl (cA 2, 20, .inl f_hasLaw))] := hD
    refine lv_aload_n hx hb dX9_trait_34 rfl (lv_at hl 0 rfl) ?_
    refine lv_iconst (v := (-1)) hx hb dX9_trait_35 (by decide) ?_
    refine va_put (D := (dC, dI)) (ci := 9) (v := .int (-1)) (ty := .int) (C := RX9) (T := TX9) (N := 51) hx hb hts hIX9 tyX9 tyX9_ok nmX9 hown hK hP hD hS 0 rfl rfl 19 (by decide) (hts (.fieldLink RX9 184 "TraitHouseModel" "readFault" "I") (by decide +kernel)) (fun _ h9 => h9) rfl (by decide +kernel) rfl rfl (Nat.le_of_ble_eq_true rfl) dX9_trait_36 (fun H locs hP hD hS => ?_)
    replace hP : va_P (dC, dI) vwCl [((am 0), .inr (9, F9 am v_status v_now v_told v_merges 0 v_taped v_from 0 v_fault (-1) v_traits v_length v_open v_leaks v_places v_models)), ((am 10), .inl (cA 3, 200, .inl f_tape)), ((am 13), .inl (cA 0, 5000, .inl f_step)), ((am 14), .inl (cA 0, 5000, .inl f_stepA)), ((am 15), .inl (cA 0, 5000, .inl f_stepB)), ((am 16), .inl (cA 0, 5000, .inl f_stepC)), ((am 12), .inl (cA 0, 20, .inl f_size0)), ((am 23), .inl (cA 0, 20, .inl f_limits)), ((am 22), .inl (cA 2, 20, .inl f_hasLaw))] H := hP
    replace hD : va_D A [((am 0), .inr (9, F9 am v_status v_now v_told v_merges 0 v_taped v_from 0 v_fault (-1) v_traits v_length v_open v_leaks v_places v_models)), ((am 10), .inl (cA 3, 200, .inl f_tape)), ((am 13), .inl (cA 0, 5000, .inl f_step)), ((am 14), .inl (cA 0, 5000, .inl f_stepA)), ((am 15), .inl (cA 0, 5000, .inl f_stepB)), ((am 16), .inl (cA 0, 5000, .inl f_stepC)), ((am 12), .inl (cA 0, 20, .inl f_size0)), ((am 23), .inl (cA 0, 20, .inl f_limits)), ((am 22), .inl (cA 2, 20, .inl f_hasLaw))] := hD
    refine lv_aload_n hx hb dX9_trait_39 rfl (lv_at hl 0 rfl) ?_
    refine lv_iconst (v := 0) hx hb dX9_trait_40 (by decide) ?_
    refine va_put (D := (dC, dI)) (ci := 9) (v := .int 0) (ty := .int) (C := RX9) (T := TX9) (N := 51) hx hb hts hIX9 tyX9 tyX9_ok nmX9 hown hK hP hD hS 0 rfl rfl 22 (by decide) (hts (.fieldLink RX9 200 "TraitHouseModel" "length" "I") (by decide +kernel)) (fun _ h9 => h9) rfl (by decide +kernel) rfl rfl (Nat.le_of_ble_eq_true rfl) dX9_trait_41 (fun H locs hP hD hS => ?_)
    replace hP : va_P (dC, dI) vwCl [((am 0), .inr (9, F9 am v_status v_now v_told v_merges 0 v_taped v_from 0 v_fault (-1) v_traits 0 v_open v_leaks v_places v_models)), ((am 10), .inl (cA 3, 200, .inl f_tape)), ((am 13), .inl (cA 0, 5000, .inl f_step)), ((am 14), .inl (cA 0, 5000, .inl f_stepA)), ((am 15), .inl (cA 0, 5000, .inl f_stepB)), ((am 16), .inl (cA 0, 5000, .inl f_stepC)), ((am 12), .inl (cA 0, 20, .inl f_size0)), ((am 23), .inl (cA 0, 20, .inl f_limits)), ((am 22), .inl (cA 2, 20, .inl f_hasLaw))] H := hP
    replace hD : va_D A [((am 0), .inr (9, F9 am v_status v_now v_told v_merges 0 v_taped v_from 0 v_fault (-1) v_traits 0 v_open v_leaks v_places v_models)), ((am 10), .inl (cA 3, 200, .inl f_tape)), ((am 13), .inl (cA 0, 5000, .inl f_step)), ((am 14), .inl (cA 0, 5000, .inl f_stepA)), ((am 15), .inl (cA 0, 5000, .inl f_stepB)), ((am 16), .inl (cA 0, 5000, .inl f_stepC)), ((am 12), .inl (cA 0, 20, .inl f_size0)), ((am 23), .inl (cA 0, 20, .inl f_limits)), ((am 22), .inl (cA 2, 20, .inl f_hasLaw))] := hD
    refine lv_aload_n hx hb dX9_trait_44 rfl (lv_at hl 0 rfl) ?_
    refine lv_iconst (v := 0) hx hb dX9_trait_45 (by decide) ?_
    refine va_put (D := (dC, dI)) (ci := 9) (v := .int 0) (ty := .int) (C := RX9) (T := TX9) (N := 51) hx hb hts hIX9 tyX9 tyX9_ok nmX9 hown hK hP hD hS 0 rfl rfl 23 (by decide) (hts (.fieldLink RX9 254 "TraitHouseModel" "open" "I") (by decide +kernel)) (fun _ h9 => h9) rfl (by decide +kernel) rfl rfl (Nat.le_of_ble_eq_true rfl) dX9_trait_46 (fun H locs hP hD hS => ?_)
    replace hP : va_P (dC, dI) vwCl [((am 0), .inr (9, F9 am v_status v_now v_told v_merges 0 v_taped v_from 0 v_fault (-1) v_traits 0 0 v_leaks v_places v_models)), ((am 10), .inl (cA 3, 200, .inl f_tape)), ((am 13), .inl (cA 0, 5000, .inl f_step)), ((am 14), .inl (cA 0, 5000, .inl f_stepA)), ((am 15), .inl (cA 0, 5000, .inl f_stepB)), ((am 16), .inl (cA 0, 5000, .inl f_stepC)), ((am 12), .inl (cA 0, 20, .inl f_size0)), ((am 23), .inl (cA 0, 20, .inl f_limits)), ((am 22), .inl (cA 2, 20, .inl f_hasLaw))] H := hP
    replace hD : va_D A [((am 0), .inr (9, F9 am v_status v_now v_told v_merges 0 v_taped v_from 0 v_fault (-1) v_traits 0 0 v_leaks v_places v_models)), ((am 10), .inl (cA 3, 200, .inl f_tape)), ((am 13), .inl (cA 0, 5000, .inl f_step)), ((am 14), .inl (cA 0, 5000, .inl f_stepA)), ((am 15), .inl (cA 0, 5000, .inl f_stepB)), ((am 16), .inl (cA 0, 5000, .inl f_stepC)), ((am 12), .inl (cA 0, 20, .inl f_size0)), ((am 23), .inl (cA 0, 20, .inl f_limits)), ((am 22), .inl (cA 2, 20, .inl f_hasLaw))] := hD
    refine lv_aload_n hx hb dX9_trait_49 rfl (lv_at hl 0 rfl) ?_
    refine lv_iconst (v := 0) hx hb dX9_trait_50 (by decide) ?_
    refine va_put (D := (dC, dI)) (ci := 9) (v := .int 0) (ty := .boolean) (C := RX9) (T := TX9) (N := 51) hx hb hts hIX9 tyX9 tyX9_ok nmX9 hown hK hP hD hS 0 rfl rfl 24 (by decide) (hts (.fieldLink RX9 266 "TraitHouseModel" "leaks" "Z") (by decide +kernel)) (fun _ h9 => h9) rfl (by decide +kernel) rfl rfl (Nat.le_of_ble_eq_true rfl) dX9_trait_51 (fun H locs hP hD hS => ?_)
    replace hP : va_P (dC, dI) vwCl [((am 0), .inr (9, F9 am v_status v_now v_told v_merges 0 v_taped v_from 0 v_fault (-1) v_traits 0 0 0 v_places v_models)), ((am 10), .inl (cA 3, 200, .inl f_tape)), ((am 13), .inl (cA 0, 5000, .inl f_step)), ((am 14), .inl (cA 0, 5000, .inl f_stepA)), ((am 15), .inl (cA 0, 5000, .inl f_stepB)), ((am 16), .inl (cA 0, 5000, .inl f_stepC)), ((am 12), .inl (cA 0, 20, .inl f_size0)), ((am 23), .inl (cA 0, 20, .inl f_limits)), ((am 22), .inl (cA 2, 20, .inl f_hasLaw))] H := hP
    replace hD : va_D A [((am 0), .inr (9, F9 am v_status v_now v_told v_merges 0 v_taped v_from 0 v_fault (-1) v_traits 0 0 0 v_places v_models)), ((am 10), .inl (cA 3, 200, .inl f_tape)), ((am 13), .inl (cA 0, 5000, .inl f_step)), ((am 14), .inl (cA 0, 5000, .inl f_stepA)), ((am 15), .inl (cA 0, 5000, .inl f_stepB)), ((am 16), .inl (cA 0, 5000, .inl f_stepC)), ((am 12), .inl (cA 0, 20, .inl f_size0)), ((am 23), .inl (cA 0, 20, .inl f_limits)), ((am 22), .inl (cA 2, 20, .inl f_hasLaw))] := hD
    refine lv_aload_n hx hb dX9_trait_54 rfl (lv_at hl 0 rfl) ?_
    have hk_2 : (0 : Int32).toInt = 0 := by decide
    have hk_3 : ((-1) : Int32).toInt = (-1) := by decide
    obtain ⟨hPc, hDc, hFc, hCc⟩ := va_pre (ws' := [((am 0), .inr (9, F9 am v_status v_now v_told v_merges 0 v_taped v_from 0 v_fault (-1) v_traits 0 0 0 v_places v_models)), ((am 10), .inl (cA 3, 200, .inl f_tape))]) hP hD hS hA [0, 1] (by decide) rfl
    refine va_callv (va_runV (As := []) (rest := []) ⟨hx, hb, hml, hown, hts⟩ (k_X9_next l dC dI cA H.size am v_status v_now v_told v_merges 0 v_taped v_from 0 v_fault (-1) v_traits 0 0 0 v_places v_models f_tape i_v_now i_v_told (by omega) i_v_taped i_v_from (by omega) i_v_traits (by omega) (by omega) i_v_places i_v_models (by omega)) (cwV 0 hts gX9_trait_X9_next rfl rfl rfl (by decide +kernel) ⟨Nat.le_of_ble_eq_true rfl, Nat.le_of_ble_eq_true rfl⟩) ⟨fun a U g mk q => by obtain ⟨q0, q1, qP, qK, qD, qN⟩ := q; exact ⟨q0, q1, qP, va_K.moved (u := U) (U := U.calling g mk a) (Vm.Alike.refl U.vm) qK, qD, qN.same rfl⟩, va_recv hK hPc (ci := 9) (q0 := 0) rfl rfl, fun U hU hW => ⟨rfl, by rw [hU], by rw [hU]; exact hPc, va_K.moved hW.alike hK, hDc.weaken (fun _ _ _ _ => trivial), hN.warm hW⟩⟩ rfl rfl hl.1 rfl (lv_room (Nat.le_of_ble_eq_true rfl)) dX9_trait_55 ⟨Nat.le_of_ble_eq_true rfl, Nat.le_of_ble_eq_true rfl⟩) hS (fun q _ h => hFc q h) hFc (fun u_4 t H1 locs ht hvm hw_5 hB hz1 hk1 hS => ?_)
    obtain ⟨w_6, w_7⟩ := u_4
    try dsimp only at hw_5 hB
    obtain ⟨iv_8, iv_9, po_10, tk_11, ad_12⟩ := hw_5
    obtain ⟨hP1, hD1⟩ := hB
    rw [ht] at hP1
    obtain ⟨hP, hD⟩ := va_join (wr := [((am 13), .inl (cA 0, 5000, .inl f_step)), ((am 14), .inl (cA 0, 5000, .inl f_stepA)), ((am 15), .inl (cA 0, 5000, .inl f_stepB)), ((am 16), .inl (cA 0, 5000, .inl f_stepC)), ((am 12), .inl (cA 0, 20, .inl f_size0)), ((am 23), .inl (cA 0, 20, .inl f_limits)), ((am 22), .inl (cA 2, 20, .inl f_hasLaw))]) (w1 := [((am 0), .inr (9, F9 am v_status v_now v_told v_merges 0 v_taped w_6 w_7 v_fault (-1) v_traits 0 0 0 v_places v_models)), ((am 10), .inl (cA 3, 200, .inl f_tape))]) hP hD [0, 1] [2, 3, 4, 5, 6, 7, 8] hCc rfl (by decide) (by decide) hk1 hFc hP1 hD1
    clear hz1
    generalize H1 = H at hP hS ⊢
    refine lv_aload_n hx hb dX9_trait_58 rfl (lv_at hl 0 rfl) ?_
    have hk_13 : (0 : Int32).toInt = 0 := by decide
    have hk_14 : ((-1) : Int32).toInt = (-1) := by decide
    obtain ⟨hPc, hDc, hFc, hCc⟩ := va_pre (ws' := [((am 0), .inr (9, F9 am v_status v_now v_told v_merges 0 v_taped w_6 w_7 v_fault (-1) v_traits 0 0 0 v_places v_models)), ((am 10), .inl (cA 3, 200, .inl f_tape)), ((am 13), .inl (cA 0, 5000, .inl f_step)), ((am 14), .inl (cA 0, 5000, .inl f_stepA)), ((am 15), .inl (cA 0, 5000, .inl f_stepB)), ((am 16), .inl (cA 0, 5000, .inl f_stepC))]) hP hD hS hA [7, 8, 0, 1, 2, 3] (by decide) rfl
    refine va_callv (va_runV (As := []) (rest := []) ⟨hx, hb, hml, hown, hts⟩ (sum_all l dC dI cA 8 H.size am v_status v_now v_told v_merges 0 v_taped w_6 w_7 v_fault (-1) v_traits 0 0 0 v_places v_models f_tape f_step f_stepA f_stepB f_stepC i_v_now i_v_told (by omega) i_v_taped iv_8 iv_9 i_v_traits (by omega) (by omega) i_v_places i_v_models (by omega) (by omega) tk_11 (by omega) (by omega) (fun j hj => absurd hj (Nat.not_lt_zero j)) (by omega)) (cwV 0 hts gX9_trait_X9_sum rfl rfl rfl (by decide +kernel) ⟨Nat.le_of_ble_eq_true rfl, Nat.le_of_ble_eq_true rfl⟩) ⟨fun a U g mk q => by obtain ⟨q0, q1, qP, qK, qD, qN⟩ := q; exact ⟨q0, q1, qP, va_K.moved (u := U) (U := U.calling g mk a) (Vm.Alike.refl U.vm) qK, qD, qN.same rfl⟩, va_recv hK hPc (ci := 9) (q0 := 0) rfl rfl, fun U hU hW => ⟨rfl, by rw [hU], by rw [hU]; exact hPc, va_K.moved hW.alike hK, hDc.weaken (fun _ _ _ _ => trivial), hN.warm hW⟩⟩ rfl rfl hl.1 rfl (lv_room (Nat.le_of_ble_eq_true rfl)) dX9_trait_59 ⟨Nat.le_of_ble_eq_true rfl, Nat.le_of_ble_eq_true rfl⟩) hS (fun q _ h => hFc q h) hFc (fun u_15 t H1 locs ht hvm hw_16 hB hz1 hk1 hS => ?_)
    obtain ⟨w_17, w_18, w_19, w_20, w_21, w_22, w_23, w_24, w_25, w_26⟩ := u_15
    try dsimp only at hw_16 hB
    obtain ⟨iv_27, iv_28, iv_29, iv_30, po_31, tk_32, pg_33, rs_34⟩ := hw_16
    obtain ⟨hP1, hD1⟩ := hB
    rw [ht] at hP1
    obtain ⟨hP, hD⟩ := va_join (wr := [((am 12), .inl (cA 0, 20, .inl f_size0)), ((am 23), .inl (cA 0, 20, .inl f_limits)), ((am 22), .inl (cA 2, 20, .inl f_hasLaw))]) (w1 := [((am 0), .inr (9, F9 am v_status v_now v_told v_merges 0 v_taped w_17 w_18 v_fault w_19 v_traits w_20 w_21 w_22 v_places v_models)), ((am 10), .inl (cA 3, 200, .inl f_tape)), ((am 13), .inl (cA 0, 5000, .inl w_23)), ((am 14), .inl (cA 0, 5000, .inl w_24)), ((am 15), .inl (cA 0, 5000, .inl w_25)), ((am 16), .inl (cA 0, 5000, .inl w_26))]) hP hD [7, 8, 0, 1, 2, 3] [4, 5, 6] hCc rfl (by decide) (by decide) hk1 hFc hP1 hD1
    clear hz1
    generalize H1 = H at hP hS ⊢
    refine lv_aload_n hx hb dX9_trait_62 rfl (lv_at hl 0 rfl) ?_
    have hk_35 : (0 : Int32).toInt = 0 := by decide
    obtain ⟨hPc, hDc, hFc, hCc⟩ := va_pre (ws' := [((am 0), .inr (9, F9 am v_status v_now v_told v_merges 0 v_taped w_17 w_18 v_fault w_19 v_traits w_20 w_21 w_22 v_places v_models))]) hP hD hS hA [3] (by decide) rfl
    refine va_calli (va_runV (As := []) (rest := []) ⟨hx, hb, hml, hown, hts⟩ (k_X9_good l dC dI cA H.size am v_status v_now v_told v_merges 0 v_taped w_17 w_18 v_fault w_19 v_traits w_20 w_21 w_22 v_places v_models i_v_now i_v_told (by omega) i_v_taped iv_27 iv_28 i_v_traits iv_29 iv_30 i_v_places i_v_models) (cwV 0 hts gX9_trait_X9_good rfl rfl rfl (by decide +kernel) ⟨Nat.le_of_ble_eq_true rfl, Nat.le_of_ble_eq_true rfl⟩) ⟨fun a U g mk q => by obtain ⟨q0, q1, qP, qK, qD, qN⟩ := q; exact ⟨q0, q1, qP, va_K.moved (u := U) (U := U.calling g mk a) (Vm.Alike.refl U.vm) qK, qD, qN.same rfl⟩, va_recv hK hPc (ci := 9) (q0 := 0) rfl rfl, fun U hU hW => ⟨rfl, by rw [hU], by rw [hU]; exact hPc, va_K.moved hW.alike hK, hDc.weaken (fun _ _ _ _ => trivial), hN.warm hW⟩⟩ rfl rfl hl.1 rfl (lv_room (Nat.le_of_ble_eq_true rfl)) dX9_trait_63 ⟨Nat.le_of_ble_eq_true rfl, Nat.le_of_ble_eq_true rfl⟩) hS (fun q _ h => hFc q h) hFc (fun r_36 u_37 t H1 locs ht hvm hw_38 hB hz1 hk1 hS => ?_)
    try dsimp only at hw_38 hB
    have po_39 := hw_38
    clear hw_38
    obtain ⟨hP1, hD1⟩ := hB
    rw [ht] at hP1
    obtain ⟨hP, hD⟩ := va_join (wr := [((am 12), .inl (cA 0, 20, .inl f_size0)), ((am 23), .inl (cA 0, 20, .inl f_limits)), ((am 22), .inl (cA 2, 20, .inl f_hasLaw)), ((am 10), .inl (cA 3, 200, .inl f_tape)), ((am 13), .inl (cA 0, 5000, .inl w_23)), ((am 14), .inl (cA 0, 5000, .inl w_24)), ((am 15), .inl (cA 0, 5000, .inl w_25)), ((am 16), .inl (cA 0, 5000, .inl w_26))]) (w1 := [((am 0), .inr (9, F9 am v_status v_now v_told v_merges 0 v_taped w_17 w_18 v_fault w_19 v_traits w_20 w_21 w_22 v_places v_models))]) hP hD [3] [0, 1, 2, 4, 5, 6, 7, 8] hCc rfl (by decide) (by decide) hk1 hFc hP1 hD1
    clear hz1
    generalize H1 = H at hP hS ⊢
    refine lv_if_eq (tgt := 84) hx hb dX9_trait_66 (by decide) (fun c_40 => ?_) (fun c_40 => ?_)
    · have dc_40 : r_36.toInt = 0 := jI_eq c_40 rfl (by decide)
      replace po_39 := gd_n po_39 dc_40
      refine lv_aload_n hx hb dX9_trait_84 rfl (lv_at hl 0 rfl) ?_
      refine lv_aload_n hx hb dX9_trait_85 rfl (lv_at hl 0 rfl) ?_
      refine va_get (D := (dC, dI)) (ci := 9) (v := .int w_19) (C := RX9) (T := TX9) (N := 51) hx hb hts hIX9 hown hK hP 8 rfl rfl 19 (by decide) (hts (.fieldLink RX9 184 "TraitHouseModel" "readFault" "I") (by decide +kernel)) (fun _ h9 => h9) rfl dX9_trait_86 ?_
      refine va_put (D := (dC, dI)) (ci := 9) (v := .int w_19) (ty := .int) (C := RX9) (T := TX9) (N := 51) hx hb hts hIX9 tyX9 tyX9_ok nmX9 hown hK hP hD hS 8 rfl rfl 18 (by decide) (hts (.fieldLink RX9 42 "TraitHouseModel" "fault" "I") (by decide +kernel)) (fun _ h9 => h9) rfl (by decide +kernel) rfl rfl (Nat.le_of_ble_eq_true rfl) dX9_trait_89 (fun H locs hP hD hS => ?_)
      replace hP : va_P (dC, dI) vwCl [((am 12), .inl (cA 0, 20, .inl f_size0)), ((am 23), .inl (cA 0, 20, .inl f_limits)), ((am 22), .inl (cA 2, 20, .inl f_hasLaw)), ((am 10), .inl (cA 3, 200, .inl f_tape)), ((am 13), .inl (cA 0, 5000, .inl w_23)), ((am 14), .inl (cA 0, 5000, .inl w_24)), ((am 15), .inl (cA 0, 5000, .inl w_25)), ((am 16), .inl (cA 0, 5000, .inl w_26)), ((am 0), .inr (9, F9 am v_status v_now v_told v_merges 0 v_taped w_17 w_18 w_19 w_19 v_traits w_20 w_21 w_22 v_places v_models))] H := hP
      replace hD : va_D A [((am 12), .inl (cA 0, 20, .inl f_size0)), ((am 23), .inl (cA 0, 20, .inl f_limits)), ((am 22), .inl (cA 2, 20, .inl f_hasLaw)), ((am 10), .inl (cA 3, 200, .inl f_tape)), ((am 13), .inl (cA 0, 5000, .inl w_23)), ((am 14), .inl (cA 0, 5000, .inl w_24)), ((am 15), .inl (cA 0, 5000, .inl w_25)), ((am 16), .inl (cA 0, 5000, .inl w_26)), ((am 0), .inr (9, F9 am v_status v_now v_told v_merges 0 v_taped w_17 w_18 w_19 w_19 v_traits w_20 w_21 w_22 v_places v_models))] := hD
      refine lv_aload_n hx hb dX9_trait_92 rfl (lv_at hl 0 rfl) ?_
      have hk_41 : (0 : Int32).toInt = 0 := by decide
      obtain ⟨hPc, hDc, hFc, hCc⟩ := va_pre (ws' := [((am 0), .inr (9, F9 am v_status v_now v_told v_merges 0 v_taped w_17 w_18 w_19 w_19 v_traits w_20 w_21 w_22 v_places v_models))]) hP hD hS hA [8] (by decide) rfl
      refine va_calli (va_runV (As := []) (rest := []) ⟨hx, hb, hml, hown, hts⟩ (k_X9_good l dC dI cA H.size am v_status v_now v_told v_merges 0 v_taped w_17 w_18 w_19 w_19 v_traits w_20 w_21 w_22 v_places v_models i_v_now i_v_told (by omega) i_v_taped iv_27 iv_28 i_v_traits iv_29 iv_30 i_v_places i_v_models) (cwV 0 hts gX9_trait_X9_good rfl rfl rfl (by decide +kernel) ⟨Nat.le_of_ble_eq_true rfl, Nat.le_of_ble_eq_true rfl⟩) ⟨fun a U g mk q => by obtain ⟨q0, q1, qP, qK, qD, qN⟩ := q; exact ⟨q0, q1, qP, va_K.moved (u := U) (U := U.calling g mk a) (Vm.Alike.refl U.vm) qK, qD, qN.same rfl⟩, va_recv hK hPc (ci := 9) (q0 := 0) rfl rfl, fun U hU hW => ⟨rfl, by rw [hU], by rw [hU]; exact hPc, va_K.moved hW.alike hK, hDc.weaken (fun _ _ _ _ => trivial), hN.warm hW⟩⟩ rfl rfl hl.1 rfl (lv_room (Nat.le_of_ble_eq_true rfl)) dX9_trait_93 ⟨Nat.le_of_ble_eq_true rfl, Nat.le_of_ble_eq_true rfl⟩) hS (fun q _ h => hFc q h) hFc (fun r_42 u_43 t H1 locs ht hvm hw_44 hB hz1 hk1 hS => ?_)
      try dsimp only at hw_44 hB
      have po_45 := hw_44
      clear hw_44
      obtain ⟨hP1, hD1⟩ := hB
      rw [ht] at hP1
      obtain ⟨hP, hD⟩ := va_join (wr := [((am 12), .inl (cA 0, 20, .inl f_size0)), ((am 23), .inl (cA 0, 20, .inl f_limits)), ((am 22), .inl (cA 2, 20, .inl f_hasLaw)), ((am 10), .inl (cA 3, 200, .inl f_tape)), ((am 13), .inl (cA 0, 5000, .inl w_23)), ((am 14), .inl (cA 0, 5000, .inl w_24)), ((am 15), .inl (cA 0, 5000, .inl w_25)), ((am 16), .inl (cA 0, 5000, .inl w_26))]) (w1 := [((am 0), .inr (9, F9 am v_status v_now v_told v_merges 0 v_taped w_17 w_18 w_19 w_19 v_traits w_20 w_21 w_22 v_places v_models))]) hP hD [8] [0, 1, 2, 3, 4, 5, 6, 7] hCc rfl (by decide) (by decide) hk1 hFc hP1 hD1
      clear hz1
      generalize H1 = H at hP hS ⊢
      refine lv_if_ne (tgt := 106) hx hb dX9_trait_96 (by decide) (fun c_46 => ?_) (fun c_46 => ?_)
      · have dc_46 : ¬ r_42.toInt = 0 := jI_ne c_46 rfl (by decide)
        replace po_45 := gd_y po_45 dc_46
        exfalso; omega
      · have dc_46 : r_42.toInt = 0 := jI_eq c_46 rfl (by decide)
        replace po_45 := gd_n po_45 dc_46
        refine lv_aload_n hx hb dX9_trait_99 rfl (lv_at hl 0 rfl) ?_
        refine lv_bipush (v := (-6)) hx hb dX9_trait_100 (by decide) ?_
        have hk_47 : ((-6) : Int32).toInt = (-6) := by decide
        have hk_48 : (0 : Int32).toInt = 0 := by decide
        obtain ⟨hPc, hDc, hFc, hCc⟩ := va_pre (ws' := [((am 0), .inr (9, F9 am v_status v_now v_told v_merges 0 v_taped w_17 w_18 w_19 w_19 v_traits w_20 w_21 w_22 v_places v_models))]) hP hD hS hA [8] (by decide) rfl
        refine va_calli (va_runV (As := [.int (-6)]) (rest := []) ⟨hx, hb, hml, hown, hts⟩ (k_X9_ends l dC dI cA H.size am v_status v_now v_told v_merges 0 v_taped w_17 w_18 w_19 w_19 v_traits w_20 w_21 w_22 v_places v_models (-6) i_v_now i_v_told (by omega) i_v_taped iv_27 iv_28 i_v_traits iv_29 iv_30 i_v_places i_v_models) (cwV 1 hts gX9_trait_X9_ends rfl rfl rfl (by decide +kernel) ⟨Nat.le_of_ble_eq_true rfl, Nat.le_of_ble_eq_true rfl⟩) ⟨fun a U g mk q => by obtain ⟨q0, q1, qP, qK, qD, qN⟩ := q; exact ⟨q0, q1, qP, va_K.moved (u := U) (U := U.calling g mk a) (Vm.Alike.refl U.vm) qK, qD, qN.same rfl⟩, va_recv hK hPc (ci := 9) (q0 := 0) rfl rfl, fun U hU hW => ⟨rfl, by rw [hU], by rw [hU]; exact hPc, va_K.moved hW.alike hK, hDc.weaken (fun _ _ _ _ => trivial), hN.warm hW⟩⟩ rfl rfl hl.1 rfl (lv_room (Nat.le_of_ble_eq_true rfl)) dX9_trait_102 ⟨Nat.le_of_ble_eq_true rfl, Nat.le_of_ble_eq_true rfl⟩) hS (fun q _ h => hFc q h) hFc (fun r_49 u_50 t H1 locs ht hvm hw_51 hB hz1 hk1 hS => ?_)
        obtain ⟨w_52, rfl⟩ : ∃ z, z = u_50 := ⟨_, rfl⟩
        try dsimp only at hw_51 hB
        have hr9 := hw_51
        clear hw_51
        obtain ⟨hP1, hD1⟩ := hB
        rw [ht] at hP1
        obtain ⟨hP, hD⟩ := va_join (wr := [((am 12), .inl (cA 0, 20, .inl f_size0)), ((am 23), .inl (cA 0, 20, .inl f_limits)), ((am 22), .inl (cA 2, 20, .inl f_hasLaw)), ((am 10), .inl (cA 3, 200, .inl f_tape)), ((am 13), .inl (cA 0, 5000, .inl w_23)), ((am 14), .inl (cA 0, 5000, .inl w_24)), ((am 15), .inl (cA 0, 5000, .inl w_25)), ((am 16), .inl (cA 0, 5000, .inl w_26))]) (w1 := [((am 0), .inr (9, F9 am w_52 v_now v_told v_merges 0 v_taped w_17 w_18 w_19 w_19 v_traits w_20 w_21 w_22 v_places v_models))]) hP hD [8] [0, 1, 2, 3, 4, 5, 6, 7] hCc rfl (by decide) (by decide) hk1 hFc hP1 hD1
        clear hz1
        generalize H1 = H at hP hS ⊢
        obtain rfl : (-6) = r_49 := hr9.symm
        obtain ⟨hP9, hD9⟩ := va_pd (ws' := [((am 0), .inr (9, F9 am w_52 v_now v_told v_merges 0 v_taped w_17 w_18 w_19 w_19 v_traits w_20 w_21 w_22 v_places v_models)), ((am 10), .inl (cA 3, 200, .inl f_tape)), ((am 13), .inl (cA 0, 5000, .inl w_23)), ((am 14), .inl (cA 0, 5000, .inl w_24)), ((am 15), .inl (cA 0, 5000, .inl w_25)), ((am 16), .inl (cA 0, 5000, .inl w_26)), ((am 12), .inl (cA 0, 20, .inl f_size0)), ((am 23), .inl (cA 0, 20, .inl f_limits)), ((am 22), .inl (cA 2, 20, .inl f_hasLaw))]) hP hD [8, 3, 4, 5, 6, 7, 0, 1, 2] (by decide) rfl
        subst hQe
        have hans : ((-6) : Int32).toInt = (-6) := (by decide)
        have hk_53 : (0 : Int32).toInt = 0 := by decide
        have hpost : (0 ≤ w_17.toInt ∧ w_17.toInt ≤ 200) ∧ (0 ≤ w_18.toInt ∧ w_18.toInt ≤ 200) ∧ (0 ≤ w_20.toInt ∧ w_20.toInt ≤ 200) ∧ (0 ≤ w_21.toInt ∧ w_21.toInt ≤ 8) ∧ (0 ≤ v_taped.toInt ∧ v_taped.toInt ≤ 200) ∧ (0 ≤ (0 : Int32).toInt ∧ (0 : Int32).toInt ≤ 200) ∧ (0 ≤ v_traits.toInt ∧ v_traits.toInt ≤ 20) ∧ (inB 0 200 20 f_size0) ∧ ((0 : Int32).toInt = 0 ∧ v_traits.toInt ≤ v_traits.toInt) ∧ (progOK w_23 w_24 f_size0 v_traits) ∧ (trRes (pread (tpe f_tape v_taped) v_taped.toInt v_traits.toInt) v_traits.toInt v_fault.toInt ((-6) : Int32).toInt v_traits.toInt w_19.toInt) ∧ ((v_traits.toInt = v_traits.toInt ∧ f_limits = f_limits) ∨ (v_traits.toInt = v_traits.toInt + 1 ∧ f_limits = upd f_limits v_traits.toNatClampNeg 100000)) ∧ ((∀ i : Nat, (i : Int) < v_traits.toInt → rdR w_23 w_24 f_size0 i = rdR f_step f_stepA f_size0 i) ∧ (v_traits.toInt = v_traits.toInt + 1 → ∃ p e lk rd, pread (tpe f_tape v_taped) v_taped.toInt v_traits.toInt = .inr (p, e, lk, rd) ∧ rdR w_23 w_24 f_size0 v_traits.toInt.toNat = rd)) := ⟨iv_27, iv_28, iv_29, iv_30, i_v_taped, by omega, i_v_traits, i_f_size0, by omega, prog_keep hpr i_f_size0 (by omega) rfl pg_33, (by have z9 : (0 : Int32).toInt = 0 := (by decide); have s9 : rs w_19 w_17 w_18 w_22 (orb w_23 w_24 (250 * v_traits.toInt.toNat) w_20.toInt.toNat) = psum (tpe f_tape v_taped) v_taped.toInt v_traits.toInt (pB (tpe f_tape v_taped) v_taped.toInt v_traits.toInt 8) (sk (tpe f_tape v_taped) 0) (tke (tpe f_tape v_taped) v_taped.toInt (sk (tpe f_tape v_taped) 0)) 0 0 := (by have h1 := ad_12; have h2 := rs_34; rw [z9] at h1 h2; rw [← h1.2, ← h1.1]; exact h2); exact trRes_l (by omega) (by rw [pread, bnd_no s9 (by omega)]) (by omega) (by omega) (by omega)), Or.inl ⟨rfl, rfl⟩, ⟨fun i hi => orb_cong (fun k hk => pg_33.2.1 k (by have s9 := i_f_size0 i (by omega); omega)), fun h => by exfalso; omega⟩⟩
        exact W.iret (v := (-6)) hx hb hr (fun t ht hW => ⟨⟨(-6), (w_17, w_18, w_19, w_20, w_21, w_22, w_23, w_24, w_25, w_26, v_taped, 0, w_19, v_traits, w_52, f_size0, f_limits, f_hasLaw), rfl, hpost, by rw [ht]; exact hP9, hD9⟩, hS.F ht⟩) hS.2.2 dX9_trait_105
    · have dc_40 : ¬ r_36.toInt = 0 := jI_ne c_40 rfl (by decide)
      replace po_39 := gd_y po_39 dc_40
      refine lv_aload_n hx hb dX9_trait_69 rfl (lv_at hl 0 rfl) ?_
      refine va_get (D := (dC, dI)) (ci := 9) (v := .int w_17) (C := RX9) (T := TX9) (N := 51) hx hb hts hIX9 hown hK hP 8 rfl rfl 16 (by decide) (hts (.fieldLink RX9 173 "TraitHouseModel" "from" "I") (by decide +kernel)) (fun _ h9 => h9) rfl dX9_trait_70 ?_
      refine lv_aload_n hx hb dX9_trait_73 rfl (lv_at hl 0 rfl) ?_
      refine va_get (D := (dC, dI)) (ci := 9) (v := .int v_taped) (C := RX9) (T := TX9) (N := 51) hx hb hts hIX9 hown hK hP 8 rfl rfl 15 (by decide) (hts (.fieldLink RX9 167 "TraitHouseModel" "size" "I") (by decide +kernel)) (fun _ h9 => h9) rfl dX9_trait_74 ?_
      refine lv_icmp_ge (tgt := 84) hx hb dX9_trait_77 (by decide) (fun c_54 => ?_) (fun c_54 => ?_)
      · have dc_54 : v_taped.toInt ≤ w_17.toInt := jI_le c_54 rfl rfl
        refine lv_aload_n hx hb dX9_trait_84 rfl (lv_at hl 0 rfl) ?_
        refine lv_aload_n hx hb dX9_trait_85 rfl (lv_at hl 0 rfl) ?_
        refine va_get (D := (dC, dI)) (ci := 9) (v := .int w_19) (C := RX9) (T := TX9) (N := 51) hx hb hts hIX9 hown hK hP 8 rfl rfl 19 (by decide) (hts (.fieldLink RX9 184 "TraitHouseModel" "readFault" "I") (by decide +kernel)) (fun _ h9 => h9) rfl dX9_trait_86 ?_
        refine va_put (D := (dC, dI)) (ci := 9) (v := .int w_19) (ty := .int) (C := RX9) (T := TX9) (N := 51) hx hb hts hIX9 tyX9 tyX9_ok nmX9 hown hK hP hD hS 8 rfl rfl 18 (by decide) (hts (.fieldLink RX9 42 "TraitHouseModel" "fault" "I") (by decide +kernel)) (fun _ h9 => h9) rfl (by decide +kernel) rfl rfl (Nat.le_of_ble_eq_true rfl) dX9_trait_89 (fun H locs hP hD hS => ?_)
        replace hP : va_P (dC, dI) vwCl [((am 12), .inl (cA 0, 20, .inl f_size0)), ((am 23), .inl (cA 0, 20, .inl f_limits)), ((am 22), .inl (cA 2, 20, .inl f_hasLaw)), ((am 10), .inl (cA 3, 200, .inl f_tape)), ((am 13), .inl (cA 0, 5000, .inl w_23)), ((am 14), .inl (cA 0, 5000, .inl w_24)), ((am 15), .inl (cA 0, 5000, .inl w_25)), ((am 16), .inl (cA 0, 5000, .inl w_26)), ((am 0), .inr (9, F9 am v_status v_now v_told v_merges 0 v_taped w_17 w_18 w_19 w_19 v_traits w_20 w_21 w_22 v_places v_models))] H := hP
        replace hD : va_D A [((am 12), .inl (cA 0, 20, .inl f_size0)), ((am 23), .inl (cA 0, 20, .inl f_limits)), ((am 22), .inl (cA 2, 20, .inl f_hasLaw)), ((am 10), .inl (cA 3, 200, .inl f_tape)), ((am 13), .inl (cA 0, 5000, .inl w_23)), ((am 14), .inl (cA 0, 5000, .inl w_24)), ((am 15), .inl (cA 0, 5000, .inl w_25)), ((am 16), .inl (cA 0, 5000, .inl w_26)), ((am 0), .inr (9, F9 am v_status v_now v_told v_merges 0 v_taped w_17 w_18 w_19 w_19 v_traits w_20 w_21 w_22 v_places v_models))] := hD
        refine lv_aload_n hx hb dX9_trait_92 rfl (lv_at hl 0 rfl) ?_
        have hk_55 : (0 : Int32).toInt = 0 := by decide
        obtain ⟨hPc, hDc, hFc, hCc⟩ := va_pre (ws' := [((am 0), .inr (9, F9 am v_status v_now v_told v_merges 0 v_taped w_17 w_18 w_19 w_19 v_traits w_20 w_21 w_22 v_places v_models))]) hP hD hS hA [8] (by decide) rfl
        refine va_calli (va_runV (As := []) (rest := []) ⟨hx, hb, hml, hown, hts⟩ (k_X9_good l dC dI cA H.size am v_status v_now v_told v_merges 0 v_taped w_17 w_18 w_19 w_19 v_traits w_20 w_21 w_22 v_places v_models i_v_now i_v_told (by omega) i_v_taped iv_27 iv_28 i_v_traits iv_29 iv_30 i_v_places i_v_models) (cwV 0 hts gX9_trait_X9_good rfl rfl rfl (by decide +kernel) ⟨Nat.le_of_ble_eq_true rfl, Nat.le_of_ble_eq_true rfl⟩) ⟨fun a U g mk q => by obtain ⟨q0, q1, qP, qK, qD, qN⟩ := q; exact ⟨q0, q1, qP, va_K.moved (u := U) (U := U.calling g mk a) (Vm.Alike.refl U.vm) qK, qD, qN.same rfl⟩, va_recv hK hPc (ci := 9) (q0 := 0) rfl rfl, fun U hU hW => ⟨rfl, by rw [hU], by rw [hU]; exact hPc, va_K.moved hW.alike hK, hDc.weaken (fun _ _ _ _ => trivial), hN.warm hW⟩⟩ rfl rfl hl.1 rfl (lv_room (Nat.le_of_ble_eq_true rfl)) dX9_trait_93 ⟨Nat.le_of_ble_eq_true rfl, Nat.le_of_ble_eq_true rfl⟩) hS (fun q _ h => hFc q h) hFc (fun r_56 u_57 t H1 locs ht hvm hw_58 hB hz1 hk1 hS => ?_)
        try dsimp only at hw_58 hB
        have po_59 := hw_58
        clear hw_58
        obtain ⟨hP1, hD1⟩ := hB
        rw [ht] at hP1
        obtain ⟨hP, hD⟩ := va_join (wr := [((am 12), .inl (cA 0, 20, .inl f_size0)), ((am 23), .inl (cA 0, 20, .inl f_limits)), ((am 22), .inl (cA 2, 20, .inl f_hasLaw)), ((am 10), .inl (cA 3, 200, .inl f_tape)), ((am 13), .inl (cA 0, 5000, .inl w_23)), ((am 14), .inl (cA 0, 5000, .inl w_24)), ((am 15), .inl (cA 0, 5000, .inl w_25)), ((am 16), .inl (cA 0, 5000, .inl w_26))]) (w1 := [((am 0), .inr (9, F9 am v_status v_now v_told v_merges 0 v_taped w_17 w_18 w_19 w_19 v_traits w_20 w_21 w_22 v_places v_models))]) hP hD [8] [0, 1, 2, 3, 4, 5, 6, 7] hCc rfl (by decide) (by decide) hk1 hFc hP1 hD1
        clear hz1
        generalize H1 = H at hP hS ⊢
        refine lv_if_ne (tgt := 106) hx hb dX9_trait_96 (by decide) (fun c_60 => ?_) (fun c_60 => ?_)
        · have dc_60 : ¬ r_56.toInt = 0 := jI_ne c_60 rfl (by decide)
          replace po_59 := gd_y po_59 dc_60
          refine lv_aload_n hx hb dX9_trait_106 rfl (lv_at hl 0 rfl) ?_
          refine va_get (D := (dC, dI)) (ci := 9) (v := .int w_22) (C := RX9) (T := TX9) (N := 51) hx hb hts hIX9 hown hK hP 8 rfl rfl 24 (by decide) (hts (.fieldLink RX9 266 "TraitHouseModel" "leaks" "Z") (by decide +kernel)) (fun _ h9 => h9) rfl dX9_trait_107 ?_
          refine lv_if_eq (tgt := 120) hx hb dX9_trait_110 (by decide) (fun c_61 => ?_) (fun c_61 => ?_)
          · have dc_61 : w_22.toInt = 0 := jI_eq c_61 rfl (by decide)
            refine lv_aload_n hx hb dX9_trait_120 rfl (lv_at hl 0 rfl) ?_
            refine va_get (D := (dC, dI)) (ci := 9) (v := .ref (am 12)) (C := RX9) (T := TX9) (N := 51) hx hb hts hIX9 hown hK hP 8 rfl rfl 25 (by decide) (hts (.fieldLink RX9 49 "TraitHouseModel" "size0" "[I") (by decide +kernel)) (fun _ h9 => h9) rfl dX9_trait_121 ?_
            refine lv_aload_n hx hb dX9_trait_124 rfl (lv_at hl 0 rfl) ?_
            refine va_get (D := (dC, dI)) (ci := 9) (v := .int v_traits) (C := RX9) (T := TX9) (N := 51) hx hb hts hIX9 hown hK hP 8 rfl rfl 21 (by decide) (hts (.fieldLink RX9 197 "TraitHouseModel" "traits" "I") (by decide +kernel)) (fun _ h9 => h9) rfl dX9_trait_125 ?_
            refine lv_aload_n hx hb dX9_trait_128 rfl (lv_at hl 0 rfl) ?_
            refine va_get (D := (dC, dI)) (ci := 9) (v := .int w_20) (C := RX9) (T := TX9) (N := 51) hx hb hts hIX9 hown hK hP 8 rfl rfl 22 (by decide) (hts (.fieldLink RX9 200 "TraitHouseModel" "length" "I") (by decide +kernel)) (fun _ h9 => h9) rfl dX9_trait_129 ?_
            have h_62 : vp_in v_traits 20 := (vp_in_iff.mpr ⟨by omega, by omega⟩)
            refine va_iast hx hb hK hP hD hS 0 0 rfl rfl h_62 dX9_trait_132 (fun H locs hP hD hS => ?_)
            replace hP : va_P (dC, dI) vwCl [((am 12), .inl (cA 0, 20, .inl (upd f_size0 v_traits.toNatClampNeg w_20))), ((am 23), .inl (cA 0, 20, .inl f_limits)), ((am 22), .inl (cA 2, 20, .inl f_hasLaw)), ((am 10), .inl (cA 3, 200, .inl f_tape)), ((am 13), .inl (cA 0, 5000, .inl w_23)), ((am 14), .inl (cA 0, 5000, .inl w_24)), ((am 15), .inl (cA 0, 5000, .inl w_25)), ((am 16), .inl (cA 0, 5000, .inl w_26)), ((am 0), .inr (9, F9 am v_status v_now v_told v_merges 0 v_taped w_17 w_18 w_19 w_19 v_traits w_20 w_21 w_22 v_places v_models))] H := hP
            replace hD : va_D A [((am 12), .inl (cA 0, 20, .inl (upd f_size0 v_traits.toNatClampNeg w_20))), ((am 23), .inl (cA 0, 20, .inl f_limits)), ((am 22), .inl (cA 2, 20, .inl f_hasLaw)), ((am 10), .inl (cA 3, 200, .inl f_tape)), ((am 13), .inl (cA 0, 5000, .inl w_23)), ((am 14), .inl (cA 0, 5000, .inl w_24)), ((am 15), .inl (cA 0, 5000, .inl w_25)), ((am 16), .inl (cA 0, 5000, .inl w_26)), ((am 0), .inr (9, F9 am v_status v_now v_told v_merges 0 v_taped w_17 w_18 w_19 w_19 v_traits w_20 w_21 w_22 v_places v_models))] := hD
            obtain ⟨g_63, eg_63⟩ : ∃ g : Nat → Int32, g = upd f_size0 v_traits.toNatClampNeg w_20 := ⟨_, rfl⟩
            rw [← eg_63] at hP hD
            have ig_63 : inB 0 200 20 g_63 := by rw [eg_63]; exact inB_upd i_f_size0 (by omega) (by omega)
            refine lv_aload_n hx hb dX9_trait_133 rfl (lv_at hl 0 rfl) ?_
            refine va_get (D := (dC, dI)) (ci := 9) (v := .ref (am 23)) (C := RX9) (T := TX9) (N := 51) hx hb hts hIX9 hown hK hP 8 rfl rfl 36 (by decide) (hts (.fieldLink RX9 83 "TraitHouseModel" "limits" "[I") (by decide +kernel)) (fun _ h9 => h9) rfl dX9_trait_134 ?_
            refine lv_aload_n hx hb dX9_trait_137 rfl (lv_at hl 0 rfl) ?_
            refine va_get (D := (dC, dI)) (ci := 9) (v := .int v_traits) (C := RX9) (T := TX9) (N := 51) hx hb hts hIX9 hown hK hP 8 rfl rfl 21 (by decide) (hts (.fieldLink RX9 197 "TraitHouseModel" "traits" "I") (by decide +kernel)) (fun _ h9 => h9) rfl dX9_trait_138 ?_
            refine lv_ldc hx hb hown (hts (.constant RX9 156 (100000)) (by decide +kernel)) dX9_trait_141 ?_
            have h_64 : vp_in v_traits 20 := (vp_in_iff.mpr ⟨by omega, by omega⟩)
            refine va_iast hx hb hK hP hD hS 1 0 rfl rfl h_64 dX9_trait_143 (fun H locs hP hD hS => ?_)
            replace hP : va_P (dC, dI) vwCl [((am 12), .inl (cA 0, 20, .inl g_63)), ((am 23), .inl (cA 0, 20, .inl (upd f_limits v_traits.toNatClampNeg 100000))), ((am 22), .inl (cA 2, 20, .inl f_hasLaw)), ((am 10), .inl (cA 3, 200, .inl f_tape)), ((am 13), .inl (cA 0, 5000, .inl w_23)), ((am 14), .inl (cA 0, 5000, .inl w_24)), ((am 15), .inl (cA 0, 5000, .inl w_25)), ((am 16), .inl (cA 0, 5000, .inl w_26)), ((am 0), .inr (9, F9 am v_status v_now v_told v_merges 0 v_taped w_17 w_18 w_19 w_19 v_traits w_20 w_21 w_22 v_places v_models))] H := hP
            replace hD : va_D A [((am 12), .inl (cA 0, 20, .inl g_63)), ((am 23), .inl (cA 0, 20, .inl (upd f_limits v_traits.toNatClampNeg 100000))), ((am 22), .inl (cA 2, 20, .inl f_hasLaw)), ((am 10), .inl (cA 3, 200, .inl f_tape)), ((am 13), .inl (cA 0, 5000, .inl w_23)), ((am 14), .inl (cA 0, 5000, .inl w_24)), ((am 15), .inl (cA 0, 5000, .inl w_25)), ((am 16), .inl (cA 0, 5000, .inl w_26)), ((am 0), .inr (9, F9 am v_status v_now v_told v_merges 0 v_taped w_17 w_18 w_19 w_19 v_traits w_20 w_21 w_22 v_places v_models))] := hD
            obtain ⟨g_65, eg_65⟩ : ∃ g : Nat → Int32, g = upd f_limits v_traits.toNatClampNeg 100000 := ⟨_, rfl⟩
            rw [← eg_65] at hP hD
            refine lv_aload_n hx hb dX9_trait_144 rfl (lv_at hl 0 rfl) ?_
            refine va_get (D := (dC, dI)) (ci := 9) (v := .ref (am 22)) (C := RX9) (T := TX9) (N := 51) hx hb hts hIX9 hown hK hP 8 rfl rfl 35 (by decide) (hts (.fieldLink RX9 80 "TraitHouseModel" "hasLaw" "[Z") (by decide +kernel)) (fun _ h9 => h9) rfl dX9_trait_145 ?_
            refine lv_aload_n hx hb dX9_trait_148 rfl (lv_at hl 0 rfl) ?_
            refine va_get (D := (dC, dI)) (ci := 9) (v := .int v_traits) (C := RX9) (T := TX9) (N := 51) hx hb hts hIX9 hown hK hP 8 rfl rfl 21 (by decide) (hts (.fieldLink RX9 197 "TraitHouseModel" "traits" "I") (by decide +kernel)) (fun _ h9 => h9) rfl dX9_trait_149 ?_
            refine lv_iconst (v := 0) hx hb dX9_trait_152 (by decide) ?_
            have h_66 : vp_in v_traits 20 := (vp_in_iff.mpr ⟨by omega, by omega⟩)
            refine va_zast hx hb hK hP hD hS 2 2 rfl rfl h_66 dX9_trait_153 (fun H locs hP hD hS => ?_)
            replace hP : va_P (dC, dI) vwCl [((am 12), .inl (cA 0, 20, .inl g_63)), ((am 23), .inl (cA 0, 20, .inl g_65)), ((am 22), .inl (cA 2, 20, .inl (upd f_hasLaw v_traits.toNatClampNeg (vp_nar .boolean 0)))), ((am 10), .inl (cA 3, 200, .inl f_tape)), ((am 13), .inl (cA 0, 5000, .inl w_23)), ((am 14), .inl (cA 0, 5000, .inl w_24)), ((am 15), .inl (cA 0, 5000, .inl w_25)), ((am 16), .inl (cA 0, 5000, .inl w_26)), ((am 0), .inr (9, F9 am v_status v_now v_told v_merges 0 v_taped w_17 w_18 w_19 w_19 v_traits w_20 w_21 w_22 v_places v_models))] H := hP
            replace hD : va_D A [((am 12), .inl (cA 0, 20, .inl g_63)), ((am 23), .inl (cA 0, 20, .inl g_65)), ((am 22), .inl (cA 2, 20, .inl (upd f_hasLaw v_traits.toNatClampNeg (vp_nar .boolean 0)))), ((am 10), .inl (cA 3, 200, .inl f_tape)), ((am 13), .inl (cA 0, 5000, .inl w_23)), ((am 14), .inl (cA 0, 5000, .inl w_24)), ((am 15), .inl (cA 0, 5000, .inl w_25)), ((am 16), .inl (cA 0, 5000, .inl w_26)), ((am 0), .inr (9, F9 am v_status v_now v_told v_merges 0 v_taped w_17 w_18 w_19 w_19 v_traits w_20 w_21 w_22 v_places v_models))] := hD
            obtain ⟨g_67, eg_67⟩ : ∃ g : Nat → Int32, g = upd f_hasLaw v_traits.toNatClampNeg (vp_nar .boolean 0) := ⟨_, rfl⟩
            rw [← eg_67] at hP hD
            refine lv_aload_n hx hb dX9_trait_154 rfl (lv_at hl 0 rfl) ?_
            refine lv_dup hx hb dX9_trait_155 rfl ?_
            refine va_get (D := (dC, dI)) (ci := 9) (v := .int v_traits) (C := RX9) (T := TX9) (N := 51) hx hb hts hIX9 hown hK hP 8 rfl rfl 21 (by decide) (hts (.fieldLink RX9 197 "TraitHouseModel" "traits" "I") (by decide +kernel)) (fun _ h9 => h9) rfl dX9_trait_156 ?_
            refine lv_iconst (v := 1) hx hb dX9_trait_159 (by decide) ?_
            refine lv_iadd hx hb dX9_trait_160 ?_
            refine lv_topi (fun x_68 ex_68 => ?_)
            have dx_68 : x_68.toInt = v_traits.toInt + 1 := by rw [ex_68]; exact jI_add rfl (by decide) (by omega) (by omega)
            refine va_put (D := (dC, dI)) (ci := 9) (v := .int x_68) (ty := .int) (C := RX9) (T := TX9) (N := 51) hx hb hts hIX9 tyX9 tyX9_ok nmX9 hown hK hP hD hS 8 rfl rfl 21 (by decide) (hts (.fieldLink RX9 197 "TraitHouseModel" "traits" "I") (by decide +kernel)) (fun _ h9 => h9) rfl (by decide +kernel) rfl rfl (Nat.le_of_ble_eq_true rfl) dX9_trait_161 (fun H locs hP hD hS => ?_)
            replace hP : va_P (dC, dI) vwCl [((am 12), .inl (cA 0, 20, .inl g_63)), ((am 23), .inl (cA 0, 20, .inl g_65)), ((am 22), .inl (cA 2, 20, .inl g_67)), ((am 10), .inl (cA 3, 200, .inl f_tape)), ((am 13), .inl (cA 0, 5000, .inl w_23)), ((am 14), .inl (cA 0, 5000, .inl w_24)), ((am 15), .inl (cA 0, 5000, .inl w_25)), ((am 16), .inl (cA 0, 5000, .inl w_26)), ((am 0), .inr (9, F9 am v_status v_now v_told v_merges 0 v_taped w_17 w_18 w_19 w_19 x_68 w_20 w_21 w_22 v_places v_models))] H := hP
            replace hD : va_D A [((am 12), .inl (cA 0, 20, .inl g_63)), ((am 23), .inl (cA 0, 20, .inl g_65)), ((am 22), .inl (cA 2, 20, .inl g_67)), ((am 10), .inl (cA 3, 200, .inl f_tape)), ((am 13), .inl (cA 0, 5000, .inl w_23)), ((am 14), .inl (cA 0, 5000, .inl w_24)), ((am 15), .inl (cA 0, 5000, .inl w_25)), ((am 16), .inl (cA 0, 5000, .inl w_26)), ((am 0), .inr (9, F9 am v_status v_now v_told v_merges 0 v_taped w_17 w_18 w_19 w_19 x_68 w_20 w_21 w_22 v_places v_models))] := hD
            refine lv_aload_n hx hb dX9_trait_164 rfl (lv_at hl 0 rfl) ?_
            refine lv_aload_n hx hb dX9_trait_165 rfl (lv_at hl 0 rfl) ?_
            refine va_get (D := (dC, dI)) (ci := 9) (v := .int x_68) (C := RX9) (T := TX9) (N := 51) hx hb hts hIX9 hown hK hP 8 rfl rfl 21 (by decide) (hts (.fieldLink RX9 197 "TraitHouseModel" "traits" "I") (by decide +kernel)) (fun _ h9 => h9) rfl dX9_trait_166 ?_
            refine lv_iconst (v := 1) hx hb dX9_trait_169 (by decide) ?_
            refine lv_isub hx hb dX9_trait_170 ?_
            refine lv_topi (fun x_69 ex_69 => ?_)
            have dx_69 : x_69.toInt = x_68.toInt - 1 := by rw [ex_69]; exact jI_sub rfl (by decide) (by omega) (by omega)
            have hk_70 : (0 : Int32).toInt = 0 := by decide
            obtain ⟨hPc, hDc, hFc, hCc⟩ := va_pre (ws' := [((am 0), .inr (9, F9 am v_status v_now v_told v_merges 0 v_taped w_17 w_18 w_19 w_19 x_68 w_20 w_21 w_22 v_places v_models))]) hP hD hS hA [8] (by decide) rfl
            refine va_calli (va_runV (As := [.int x_69]) (rest := []) ⟨hx, hb, hml, hown, hts⟩ (k_X9_ends l dC dI cA H.size am v_status v_now v_told v_merges 0 v_taped w_17 w_18 w_19 w_19 x_68 w_20 w_21 w_22 v_places v_models x_69 i_v_now i_v_told (by omega) i_v_taped iv_27 iv_28 (by omega) iv_29 iv_30 i_v_places i_v_models) (cwV 1 hts gX9_trait_X9_ends rfl rfl rfl (by decide +kernel) ⟨Nat.le_of_ble_eq_true rfl, Nat.le_of_ble_eq_true rfl⟩) ⟨fun a U g mk q => by obtain ⟨q0, q1, qP, qK, qD, qN⟩ := q; exact ⟨q0, q1, qP, va_K.moved (u := U) (U := U.calling g mk a) (Vm.Alike.refl U.vm) qK, qD, qN.same rfl⟩, va_recv hK hPc (ci := 9) (q0 := 0) rfl rfl, fun U hU hW => ⟨rfl, by rw [hU], by rw [hU]; exact hPc, va_K.moved hW.alike hK, hDc.weaken (fun _ _ _ _ => trivial), hN.warm hW⟩⟩ rfl rfl hl.1 rfl (lv_room (Nat.le_of_ble_eq_true rfl)) dX9_trait_171 ⟨Nat.le_of_ble_eq_true rfl, Nat.le_of_ble_eq_true rfl⟩) hS (fun q _ h => hFc q h) hFc (fun r_71 u_72 t H1 locs ht hvm hw_73 hB hz1 hk1 hS => ?_)
            obtain ⟨w_74, rfl⟩ : ∃ z, z = u_72 := ⟨_, rfl⟩
            try dsimp only at hw_73 hB
            have hr9 := hw_73
            clear hw_73
            obtain ⟨hP1, hD1⟩ := hB
            rw [ht] at hP1
            obtain ⟨hP, hD⟩ := va_join (wr := [((am 12), .inl (cA 0, 20, .inl g_63)), ((am 23), .inl (cA 0, 20, .inl g_65)), ((am 22), .inl (cA 2, 20, .inl g_67)), ((am 10), .inl (cA 3, 200, .inl f_tape)), ((am 13), .inl (cA 0, 5000, .inl w_23)), ((am 14), .inl (cA 0, 5000, .inl w_24)), ((am 15), .inl (cA 0, 5000, .inl w_25)), ((am 16), .inl (cA 0, 5000, .inl w_26))]) (w1 := [((am 0), .inr (9, F9 am w_74 v_now v_told v_merges 0 v_taped w_17 w_18 w_19 w_19 x_68 w_20 w_21 w_22 v_places v_models))]) hP hD [8] [0, 1, 2, 3, 4, 5, 6, 7] hCc rfl (by decide) (by decide) hk1 hFc hP1 hD1
            clear hz1
            generalize H1 = H at hP hS ⊢
            obtain rfl : x_69 = r_71 := hr9.symm
            obtain ⟨hP9, hD9⟩ := va_pd (ws' := [((am 0), .inr (9, F9 am w_74 v_now v_told v_merges 0 v_taped w_17 w_18 w_19 w_19 x_68 w_20 w_21 w_22 v_places v_models)), ((am 10), .inl (cA 3, 200, .inl f_tape)), ((am 13), .inl (cA 0, 5000, .inl w_23)), ((am 14), .inl (cA 0, 5000, .inl w_24)), ((am 15), .inl (cA 0, 5000, .inl w_25)), ((am 16), .inl (cA 0, 5000, .inl w_26)), ((am 12), .inl (cA 0, 20, .inl g_63)), ((am 23), .inl (cA 0, 20, .inl g_65)), ((am 22), .inl (cA 2, 20, .inl g_67))]) hP hD [8, 3, 4, 5, 6, 7, 0, 1, 2] (by decide) rfl
            subst hQe
            have hans : (x_69 : Int32).toInt = x_69.toInt := rfl
            have hk_75 : (0 : Int32).toInt = 0 := by decide
            have hpost : (0 ≤ w_17.toInt ∧ w_17.toInt ≤ 200) ∧ (0 ≤ w_18.toInt ∧ w_18.toInt ≤ 200) ∧ (0 ≤ w_20.toInt ∧ w_20.toInt ≤ 200) ∧ (0 ≤ w_21.toInt ∧ w_21.toInt ≤ 8) ∧ (0 ≤ v_taped.toInt ∧ v_taped.toInt ≤ 200) ∧ (0 ≤ (0 : Int32).toInt ∧ (0 : Int32).toInt ≤ 200) ∧ (0 ≤ x_68.toInt ∧ x_68.toInt ≤ 20) ∧ (inB 0 200 20 g_63) ∧ ((0 : Int32).toInt = 0 ∧ v_traits.toInt ≤ x_68.toInt) ∧ (progOK w_23 w_24 g_63 x_68) ∧ (trRes (pread (tpe f_tape v_taped) v_taped.toInt v_traits.toInt) v_traits.toInt v_fault.toInt (x_69 : Int32).toInt x_68.toInt w_19.toInt) ∧ ((x_68.toInt = v_traits.toInt ∧ g_65 = f_limits) ∨ (x_68.toInt = v_traits.toInt + 1 ∧ g_65 = upd f_limits v_traits.toNatClampNeg 100000)) ∧ ((∀ i : Nat, (i : Int) < v_traits.toInt → rdR w_23 w_24 g_63 i = rdR f_step f_stepA f_size0 i) ∧ (x_68.toInt = v_traits.toInt + 1 → ∃ p e lk rd, pread (tpe f_tape v_taped) v_taped.toInt v_traits.toInt = .inr (p, e, lk, rd) ∧ rdR w_23 w_24 g_63 v_traits.toInt.toNat = rd)) := ⟨iv_27, iv_28, iv_29, iv_30, i_v_taped, by omega, by omega, ig_63, by omega, prog_new (prog_keep hpr i_f_size0 (by omega) rfl pg_33) (by omega) (by omega) pg_33.2.2.1 eg_63, (by have z9 : (0 : Int32).toInt = 0 := (by decide); have s9 : rs w_19 w_17 w_18 w_22 (orb w_23 w_24 (250 * v_traits.toInt.toNat) w_20.toInt.toNat) = psum (tpe f_tape v_taped) v_taped.toInt v_traits.toInt (pB (tpe f_tape v_taped) v_taped.toInt v_traits.toInt 8) (sk (tpe f_tape v_taped) 0) (tke (tpe f_tape v_taped) v_taped.toInt (sk (tpe f_tape v_taped) 0)) 0 0 := (by have h1 := ad_12; have h2 := rs_34; rw [z9] at h1 h2; rw [← h1.2, ← h1.1]; exact h2); exact trRes_r0 (by omega) (by rw [pread, bnd_ok s9 (by omega), if_neg (show ¬ w_17.toInt < v_taped.toInt by omega)]) (by omega) (by omega) (by omega) (by omega)), Or.inr ⟨by omega, eg_65⟩, ⟨fun i hi => (by have n9 : v_traits.toNatClampNeg = v_traits.toInt.toNat := rfl; show orb _ _ (250 * i) (g_63 i).toInt.toNat = orb _ _ (250 * i) (f_size0 i).toInt.toNat; rw [eg_63, pk_un (by omega)]; exact orb_cong (fun k hk => pg_33.2.1 k (by have s9 := i_f_size0 i (by omega); omega))), fun _ => (by have z9 : (0 : Int32).toInt = 0 := (by decide); have s9 : rs w_19 w_17 w_18 w_22 (orb w_23 w_24 (250 * v_traits.toInt.toNat) w_20.toInt.toNat) = psum (tpe f_tape v_taped) v_taped.toInt v_traits.toInt (pB (tpe f_tape v_taped) v_taped.toInt v_traits.toInt 8) (sk (tpe f_tape v_taped) 0) (tke (tpe f_tape v_taped) v_taped.toInt (sk (tpe f_tape v_taped) 0)) 0 0 := (by have h1 := ad_12; have h2 := rs_34; rw [z9] at h1 h2; rw [← h1.2, ← h1.1]; exact h2); have n9 : v_traits.toNatClampNeg = v_traits.toInt.toNat := rfl; exact ⟨_, _, _, _, (by rw [pread, bnd_ok s9 (by omega), if_neg (show ¬ w_17.toInt < v_taped.toInt by omega)]), (by show orb _ _ (250 * v_traits.toInt.toNat) (g_63 v_traits.toInt.toNat).toInt.toNat = _; rw [eg_63, n9, pk_us])⟩)⟩⟩
            exact W.iret (v := x_69) hx hb hr (fun t ht hW => ⟨⟨x_69, (w_17, w_18, w_19, w_20, w_21, w_22, w_23, w_24, w_25, w_26, v_taped, 0, w_19, x_68, w_74, g_63, g_65, g_67), rfl, hpost, by rw [ht]; exact hP9, hD9⟩, hS.F ht⟩) hS.2.2 dX9_trait_174
          · have dc_61 : ¬ w_22.toInt = 0 := jI_ne c_61 rfl (by decide)
            refine lv_aload_n hx hb dX9_trait_113 rfl (lv_at hl 0 rfl) ?_
            refine lv_bipush (v := (-3)) hx hb dX9_trait_114 (by decide) ?_
            have hk_76 : ((-3) : Int32).toInt = (-3) := by decide
            have hk_77 : (0 : Int32).toInt = 0 := by decide
            obtain ⟨hPc, hDc, hFc, hCc⟩ := va_pre (ws' := [((am 0), .inr (9, F9 am v_status v_now v_told v_merges 0 v_taped w_17 w_18 w_19 w_19 v_traits w_20 w_21 w_22 v_places v_models))]) hP hD hS hA [8] (by decide) rfl
            refine va_calli (va_runV (As := [.int (-3)]) (rest := []) ⟨hx, hb, hml, hown, hts⟩ (k_X9_ends l dC dI cA H.size am v_status v_now v_told v_merges 0 v_taped w_17 w_18 w_19 w_19 v_traits w_20 w_21 w_22 v_places v_models (-3) i_v_now i_v_told (by omega) i_v_taped iv_27 iv_28 i_v_traits iv_29 iv_30 i_v_places i_v_models) (cwV 1 hts gX9_trait_X9_ends rfl rfl rfl (by decide +kernel) ⟨Nat.le_of_ble_eq_true rfl, Nat.le_of_ble_eq_true rfl⟩) ⟨fun a U g mk q => by obtain ⟨q0, q1, qP, qK, qD, qN⟩ := q; exact ⟨q0, q1, qP, va_K.moved (u := U) (U := U.calling g mk a) (Vm.Alike.refl U.vm) qK, qD, qN.same rfl⟩, va_recv hK hPc (ci := 9) (q0 := 0) rfl rfl, fun U hU hW => ⟨rfl, by rw [hU], by rw [hU]; exact hPc, va_K.moved hW.alike hK, hDc.weaken (fun _ _ _ _ => trivial), hN.warm hW⟩⟩ rfl rfl hl.1 rfl (lv_room (Nat.le_of_ble_eq_true rfl)) dX9_trait_116 ⟨Nat.le_of_ble_eq_true rfl, Nat.le_of_ble_eq_true rfl⟩) hS (fun q _ h => hFc q h) hFc (fun r_78 u_79 t H1 locs ht hvm hw_80 hB hz1 hk1 hS => ?_)
            obtain ⟨w_81, rfl⟩ : ∃ z, z = u_79 := ⟨_, rfl⟩
            try dsimp only at hw_80 hB
            have hr9 := hw_80
            clear hw_80
            obtain ⟨hP1, hD1⟩ := hB
            rw [ht] at hP1
            obtain ⟨hP, hD⟩ := va_join (wr := [((am 12), .inl (cA 0, 20, .inl f_size0)), ((am 23), .inl (cA 0, 20, .inl f_limits)), ((am 22), .inl (cA 2, 20, .inl f_hasLaw)), ((am 10), .inl (cA 3, 200, .inl f_tape)), ((am 13), .inl (cA 0, 5000, .inl w_23)), ((am 14), .inl (cA 0, 5000, .inl w_24)), ((am 15), .inl (cA 0, 5000, .inl w_25)), ((am 16), .inl (cA 0, 5000, .inl w_26))]) (w1 := [((am 0), .inr (9, F9 am w_81 v_now v_told v_merges 0 v_taped w_17 w_18 w_19 w_19 v_traits w_20 w_21 w_22 v_places v_models))]) hP hD [8] [0, 1, 2, 3, 4, 5, 6, 7] hCc rfl (by decide) (by decide) hk1 hFc hP1 hD1
            clear hz1
            generalize H1 = H at hP hS ⊢
            obtain rfl : (-3) = r_78 := hr9.symm
            obtain ⟨hP9, hD9⟩ := va_pd (ws' := [((am 0), .inr (9, F9 am w_81 v_now v_told v_merges 0 v_taped w_17 w_18 w_19 w_19 v_traits w_20 w_21 w_22 v_places v_models)), ((am 10), .inl (cA 3, 200, .inl f_tape)), ((am 13), .inl (cA 0, 5000, .inl w_23)), ((am 14), .inl (cA 0, 5000, .inl w_24)), ((am 15), .inl (cA 0, 5000, .inl w_25)), ((am 16), .inl (cA 0, 5000, .inl w_26)), ((am 12), .inl (cA 0, 20, .inl f_size0)), ((am 23), .inl (cA 0, 20, .inl f_limits)), ((am 22), .inl (cA 2, 20, .inl f_hasLaw))]) hP hD [8, 3, 4, 5, 6, 7, 0, 1, 2] (by decide) rfl
            subst hQe
            have hans : ((-3) : Int32).toInt = (-3) := (by decide)
            have hk_82 : (0 : Int32).toInt = 0 := by decide
            have hpost : (0 ≤ w_17.toInt ∧ w_17.toInt ≤ 200) ∧ (0 ≤ w_18.toInt ∧ w_18.toInt ≤ 200) ∧ (0 ≤ w_20.toInt ∧ w_20.toInt ≤ 200) ∧ (0 ≤ w_21.toInt ∧ w_21.toInt ≤ 8) ∧ (0 ≤ v_taped.toInt ∧ v_taped.toInt ≤ 200) ∧ (0 ≤ (0 : Int32).toInt ∧ (0 : Int32).toInt ≤ 200) ∧ (0 ≤ v_traits.toInt ∧ v_traits.toInt ≤ 20) ∧ (inB 0 200 20 f_size0) ∧ ((0 : Int32).toInt = 0 ∧ v_traits.toInt ≤ v_traits.toInt) ∧ (progOK w_23 w_24 f_size0 v_traits) ∧ (trRes (pread (tpe f_tape v_taped) v_taped.toInt v_traits.toInt) v_traits.toInt v_fault.toInt ((-3) : Int32).toInt v_traits.toInt w_19.toInt) ∧ ((v_traits.toInt = v_traits.toInt ∧ f_limits = f_limits) ∨ (v_traits.toInt = v_traits.toInt + 1 ∧ f_limits = upd f_limits v_traits.toNatClampNeg 100000)) ∧ ((∀ i : Nat, (i : Int) < v_traits.toInt → rdR w_23 w_24 f_size0 i = rdR f_step f_stepA f_size0 i) ∧ (v_traits.toInt = v_traits.toInt + 1 → ∃ p e lk rd, pread (tpe f_tape v_taped) v_taped.toInt v_traits.toInt = .inr (p, e, lk, rd) ∧ rdR w_23 w_24 f_size0 v_traits.toInt.toNat = rd)) := ⟨iv_27, iv_28, iv_29, iv_30, i_v_taped, by omega, i_v_traits, i_f_size0, by omega, prog_keep hpr i_f_size0 (by omega) rfl pg_33, (by have z9 : (0 : Int32).toInt = 0 := (by decide); have s9 : rs w_19 w_17 w_18 w_22 (orb w_23 w_24 (250 * v_traits.toInt.toNat) w_20.toInt.toNat) = psum (tpe f_tape v_taped) v_taped.toInt v_traits.toInt (pB (tpe f_tape v_taped) v_taped.toInt v_traits.toInt 8) (sk (tpe f_tape v_taped) 0) (tke (tpe f_tape v_taped) v_taped.toInt (sk (tpe f_tape v_taped) 0)) 0 0 := (by have h1 := ad_12; have h2 := rs_34; rw [z9] at h1 h2; rw [← h1.2, ← h1.1]; exact h2); exact trRes_r1 (by omega) (by rw [pread, bnd_ok s9 (by omega), if_neg (show ¬ w_17.toInt < v_taped.toInt by omega)]) (by omega) (by omega) (by omega) (by omega)), Or.inl ⟨rfl, rfl⟩, ⟨fun i hi => orb_cong (fun k hk => pg_33.2.1 k (by have s9 := i_f_size0 i (by omega); omega)), fun h => by exfalso; omega⟩⟩
            exact W.iret (v := (-3)) hx hb hr (fun t ht hW => ⟨⟨(-3), (w_17, w_18, w_19, w_20, w_21, w_22, w_23, w_24, w_25, w_26, v_taped, 0, w_19, v_traits, w_81, f_size0, f_limits, f_hasLaw), rfl, hpost, by rw [ht]; exact hP9, hD9⟩, hS.F ht⟩) hS.2.2 dX9_trait_119
        · have dc_60 : r_56.toInt = 0 := jI_eq c_60 rfl (by decide)
          replace po_59 := gd_n po_59 dc_60
          exfalso; omega
      · have dc_54 : w_17.toInt < v_taped.toInt := jI_nle c_54 rfl rfl
        refine lv_aload_n hx hb dX9_trait_80 rfl (lv_at hl 0 rfl) ?_
        have hk_83 : (0 : Int32).toInt = 0 := by decide
        obtain ⟨hPc, hDc, hFc, hCc⟩ := va_pre (ws' := [((am 0), .inr (9, F9 am v_status v_now v_told v_merges 0 v_taped w_17 w_18 v_fault w_19 v_traits w_20 w_21 w_22 v_places v_models))]) hP hD hS hA [8] (by decide) rfl
        refine va_callv (va_runV (As := []) (rest := []) ⟨hx, hb, hml, hown, hts⟩ (k_X9_faults l dC dI cA H.size am v_status v_now v_told v_merges 0 v_taped w_17 w_18 v_fault w_19 v_traits w_20 w_21 w_22 v_places v_models i_v_now i_v_told (by omega) i_v_taped iv_27 iv_28 i_v_traits iv_29 iv_30 i_v_places i_v_models (by omega)) (cwV 0 hts gX9_trait_X9_faults rfl rfl rfl (by decide +kernel) ⟨Nat.le_of_ble_eq_true rfl, Nat.le_of_ble_eq_true rfl⟩) ⟨fun a U g mk q => by obtain ⟨q0, q1, qP, qK, qD, qN⟩ := q; exact ⟨q0, q1, qP, va_K.moved (u := U) (U := U.calling g mk a) (Vm.Alike.refl U.vm) qK, qD, qN.same rfl⟩, va_recv hK hPc (ci := 9) (q0 := 0) rfl rfl, fun U hU hW => ⟨rfl, by rw [hU], by rw [hU]; exact hPc, va_K.moved hW.alike hK, hDc.weaken (fun _ _ _ _ => trivial), hN.warm hW⟩⟩ rfl rfl hl.1 rfl (lv_room (Nat.le_of_ble_eq_true rfl)) dX9_trait_81 ⟨Nat.le_of_ble_eq_true rfl, Nat.le_of_ble_eq_true rfl⟩) hS (fun q _ h => hFc q h) hFc (fun u_84 t H1 locs ht hvm hw_85 hB hz1 hk1 hS => ?_)
        obtain ⟨w_86, rfl⟩ : ∃ z, z = u_84 := ⟨_, rfl⟩
        try dsimp only at hw_85 hB
        have po_87 := hw_85
        clear hw_85
        obtain ⟨hP1, hD1⟩ := hB
        rw [ht] at hP1
        obtain ⟨hP, hD⟩ := va_join (wr := [((am 12), .inl (cA 0, 20, .inl f_size0)), ((am 23), .inl (cA 0, 20, .inl f_limits)), ((am 22), .inl (cA 2, 20, .inl f_hasLaw)), ((am 10), .inl (cA 3, 200, .inl f_tape)), ((am 13), .inl (cA 0, 5000, .inl w_23)), ((am 14), .inl (cA 0, 5000, .inl w_24)), ((am 15), .inl (cA 0, 5000, .inl w_25)), ((am 16), .inl (cA 0, 5000, .inl w_26))]) (w1 := [((am 0), .inr (9, F9 am v_status v_now v_told v_merges 0 v_taped w_17 w_18 v_fault w_86 v_traits w_20 w_21 w_22 v_places v_models))]) hP hD [8] [0, 1, 2, 3, 4, 5, 6, 7] hCc rfl (by decide) (by decide) hk1 hFc hP1 hD1
        clear hz1
        generalize H1 = H at hP hS ⊢
        refine lv_aload_n hx hb dX9_trait_84 rfl (lv_at hl 0 rfl) ?_
        refine lv_aload_n hx hb dX9_trait_85 rfl (lv_at hl 0 rfl) ?_
        refine va_get (D := (dC, dI)) (ci := 9) (v := .int w_86) (C := RX9) (T := TX9) (N := 51) hx hb hts hIX9 hown hK hP 8 rfl rfl 19 (by decide) (hts (.fieldLink RX9 184 "TraitHouseModel" "readFault" "I") (by decide +kernel)) (fun _ h9 => h9) rfl dX9_trait_86 ?_
        refine va_put (D := (dC, dI)) (ci := 9) (v := .int w_86) (ty := .int) (C := RX9) (T := TX9) (N := 51) hx hb hts hIX9 tyX9 tyX9_ok nmX9 hown hK hP hD hS 8 rfl rfl 18 (by decide) (hts (.fieldLink RX9 42 "TraitHouseModel" "fault" "I") (by decide +kernel)) (fun _ h9 => h9) rfl (by decide +kernel) rfl rfl (Nat.le_of_ble_eq_true rfl) dX9_trait_89 (fun H locs hP hD hS => ?_)
        replace hP : va_P (dC, dI) vwCl [((am 12), .inl (cA 0, 20, .inl f_size0)), ((am 23), .inl (cA 0, 20, .inl f_limits)), ((am 22), .inl (cA 2, 20, .inl f_hasLaw)), ((am 10), .inl (cA 3, 200, .inl f_tape)), ((am 13), .inl (cA 0, 5000, .inl w_23)), ((am 14), .inl (cA 0, 5000, .inl w_24)), ((am 15), .inl (cA 0, 5000, .inl w_25)), ((am 16), .inl (cA 0, 5000, .inl w_26)), ((am 0), .inr (9, F9 am v_status v_now v_told v_merges 0 v_taped w_17 w_18 w_86 w_86 v_traits w_20 w_21 w_22 v_places v_models))] H := hP
        replace hD : va_D A [((am 12), .inl (cA 0, 20, .inl f_size0)), ((am 23), .inl (cA 0, 20, .inl f_limits)), ((am 22), .inl (cA 2, 20, .inl f_hasLaw)), ((am 10), .inl (cA 3, 200, .inl f_tape)), ((am 13), .inl (cA 0, 5000, .inl w_23)), ((am 14), .inl (cA 0, 5000, .inl w_24)), ((am 15), .inl (cA 0, 5000, .inl w_25)), ((am 16), .inl (cA 0, 5000, .inl w_26)), ((am 0), .inr (9, F9 am v_status v_now v_told v_merges 0 v_taped w_17 w_18 w_86 w_86 v_traits w_20 w_21 w_22 v_places v_models))] := hD
        refine lv_aload_n hx hb dX9_trait_92 rfl (lv_at hl 0 rfl) ?_
        have hk_88 : (0 : Int32).toInt = 0 := by decide
        obtain ⟨hPc, hDc, hFc, hCc⟩ := va_pre (ws' := [((am 0), .inr (9, F9 am v_status v_now v_told v_merges 0 v_taped w_17 w_18 w_86 w_86 v_traits w_20 w_21 w_22 v_places v_models))]) hP hD hS hA [8] (by decide) rfl
        refine va_calli (va_runV (As := []) (rest := []) ⟨hx, hb, hml, hown, hts⟩ (k_X9_good l dC dI cA H.size am v_status v_now v_told v_merges 0 v_taped w_17 w_18 w_86 w_86 v_traits w_20 w_21 w_22 v_places v_models i_v_now i_v_told (by omega) i_v_taped iv_27 iv_28 i_v_traits iv_29 iv_30 i_v_places i_v_models) (cwV 0 hts gX9_trait_X9_good rfl rfl rfl (by decide +kernel) ⟨Nat.le_of_ble_eq_true rfl, Nat.le_of_ble_eq_true rfl⟩) ⟨fun a U g mk q => by obtain ⟨q0, q1, qP, qK, qD, qN⟩ := q; exact ⟨q0, q1, qP, va_K.moved (u := U) (U := U.calling g mk a) (Vm.Alike.refl U.vm) qK, qD, qN.same rfl⟩, va_recv hK hPc (ci := 9) (q0 := 0) rfl rfl, fun U hU hW => ⟨rfl, by rw [hU], by rw [hU]; exact hPc, va_K.moved hW.alike hK, hDc.weaken (fun _ _ _ _ => trivial), hN.warm hW⟩⟩ rfl rfl hl.1 rfl (lv_room (Nat.le_of_ble_eq_true rfl)) dX9_trait_93 ⟨Nat.le_of_ble_eq_true rfl, Nat.le_of_ble_eq_true rfl⟩) hS (fun q _ h => hFc q h) hFc (fun r_89 u_90 t H1 locs ht hvm hw_91 hB hz1 hk1 hS => ?_)
        try dsimp only at hw_91 hB
        have po_92 := hw_91
        clear hw_91
        obtain ⟨hP1, hD1⟩ := hB
        rw [ht] at hP1
        obtain ⟨hP, hD⟩ := va_join (wr := [((am 12), .inl (cA 0, 20, .inl f_size0)), ((am 23), .inl (cA 0, 20, .inl f_limits)), ((am 22), .inl (cA 2, 20, .inl f_hasLaw)), ((am 10), .inl (cA 3, 200, .inl f_tape)), ((am 13), .inl (cA 0, 5000, .inl w_23)), ((am 14), .inl (cA 0, 5000, .inl w_24)), ((am 15), .inl (cA 0, 5000, .inl w_25)), ((am 16), .inl (cA 0, 5000, .inl w_26))]) (w1 := [((am 0), .inr (9, F9 am v_status v_now v_told v_merges 0 v_taped w_17 w_18 w_86 w_86 v_traits w_20 w_21 w_22 v_places v_models))]) hP hD [8] [0, 1, 2, 3, 4, 5, 6, 7] hCc rfl (by decide) (by decide) hk1 hFc hP1 hD1
        clear hz1
        generalize H1 = H at hP hS ⊢
        refine lv_if_ne (tgt := 106) hx hb dX9_trait_96 (by decide) (fun c_93 => ?_) (fun c_93 => ?_)
        · have dc_93 : ¬ r_89.toInt = 0 := jI_ne c_93 rfl (by decide)
          replace po_92 := gd_y po_92 dc_93
          exfalso; omega
        · have dc_93 : r_89.toInt = 0 := jI_eq c_93 rfl (by decide)
          replace po_92 := gd_n po_92 dc_93
          refine lv_aload_n hx hb dX9_trait_99 rfl (lv_at hl 0 rfl) ?_
          refine lv_bipush (v := (-6)) hx hb dX9_trait_100 (by decide) ?_
          have hk_94 : ((-6) : Int32).toInt = (-6) := by decide
          have hk_95 : (0 : Int32).toInt = 0 := by decide
          obtain ⟨hPc, hDc, hFc, hCc⟩ := va_pre (ws' := [((am 0), .inr (9, F9 am v_status v_now v_told v_merges 0 v_taped w_17 w_18 w_86 w_86 v_traits w_20 w_21 w_22 v_places v_models))]) hP hD hS hA [8] (by decide) rfl
          refine va_calli (va_runV (As := [.int (-6)]) (rest := []) ⟨hx, hb, hml, hown, hts⟩ (k_X9_ends l dC dI cA H.size am v_status v_now v_told v_merges 0 v_taped w_17 w_18 w_86 w_86 v_traits w_20 w_21 w_22 v_places v_models (-6) i_v_now i_v_told (by omega) i_v_taped iv_27 iv_28 i_v_traits iv_29 iv_30 i_v_places i_v_models) (cwV 1 hts gX9_trait_X9_ends rfl rfl rfl (by decide +kernel) ⟨Nat.le_of_ble_eq_true rfl, Nat.le_of_ble_eq_true rfl⟩) ⟨fun a U g mk q => by obtain ⟨q0, q1, qP, qK, qD, qN⟩ := q; exact ⟨q0, q1, qP, va_K.moved (u := U) (U := U.calling g mk a) (Vm.Alike.refl U.vm) qK, qD, qN.same rfl⟩, va_recv hK hPc (ci := 9) (q0 := 0) rfl rfl, fun U hU hW => ⟨rfl, by rw [hU], by rw [hU]; exact hPc, va_K.moved hW.alike hK, hDc.weaken (fun _ _ _ _ => trivial), hN.warm hW⟩⟩ rfl rfl hl.1 rfl (lv_room (Nat.le_of_ble_eq_true rfl)) dX9_trait_102 ⟨Nat.le_of_ble_eq_true rfl, Nat.le_of_ble_eq_true rfl⟩) hS (fun q _ h => hFc q h) hFc (fun r_96 u_97 t H1 locs ht hvm hw_98 hB hz1 hk1 hS => ?_)
          obtain ⟨w_99, rfl⟩ : ∃ z, z = u_97 := ⟨_, rfl⟩
          try dsimp only at hw_98 hB
          have hr9 := hw_98
          clear hw_98
          obtain ⟨hP1, hD1⟩ := hB
          rw [ht] at hP1
          obtain ⟨hP, hD⟩ := va_join (wr := [((am 12), .inl (cA 0, 20, .inl f_size0)), ((am 23), .inl (cA 0, 20, .inl f_limits)), ((am 22), .inl (cA 2, 20, .inl f_hasLaw)), ((am 10), .inl (cA 3, 200, .inl f_tape)), ((am 13), .inl (cA 0, 5000, .inl w_23)), ((am 14), .inl (cA 0, 5000, .inl w_24)), ((am 15), .inl (cA 0, 5000, .inl w_25)), ((am 16), .inl (cA 0, 5000, .inl w_26))]) (w1 := [((am 0), .inr (9, F9 am w_99 v_now v_told v_merges 0 v_taped w_17 w_18 w_86 w_86 v_traits w_20 w_21 w_22 v_places v_models))]) hP hD [8] [0, 1, 2, 3, 4, 5, 6, 7] hCc rfl (by decide) (by decide) hk1 hFc hP1 hD1
          clear hz1
          generalize H1 = H at hP hS ⊢
          obtain rfl : (-6) = r_96 := hr9.symm
          obtain ⟨hP9, hD9⟩ := va_pd (ws' := [((am 0), .inr (9, F9 am w_99 v_now v_told v_merges 0 v_taped w_17 w_18 w_86 w_86 v_traits w_20 w_21 w_22 v_places v_models)), ((am 10), .inl (cA 3, 200, .inl f_tape)), ((am 13), .inl (cA 0, 5000, .inl w_23)), ((am 14), .inl (cA 0, 5000, .inl w_24)), ((am 15), .inl (cA 0, 5000, .inl w_25)), ((am 16), .inl (cA 0, 5000, .inl w_26)), ((am 12), .inl (cA 0, 20, .inl f_size0)), ((am 23), .inl (cA 0, 20, .inl f_limits)), ((am 22), .inl (cA 2, 20, .inl f_hasLaw))]) hP hD [8, 3, 4, 5, 6, 7, 0, 1, 2] (by decide) rfl
          subst hQe
          have hans : ((-6) : Int32).toInt = (-6) := (by decide)
          have hk_100 : (0 : Int32).toInt = 0 := by decide
          have hpost : (0 ≤ w_17.toInt ∧ w_17.toInt ≤ 200) ∧ (0 ≤ w_18.toInt ∧ w_18.toInt ≤ 200) ∧ (0 ≤ w_20.toInt ∧ w_20.toInt ≤ 200) ∧ (0 ≤ w_21.toInt ∧ w_21.toInt ≤ 8) ∧ (0 ≤ v_taped.toInt ∧ v_taped.toInt ≤ 200) ∧ (0 ≤ (0 : Int32).toInt ∧ (0 : Int32).toInt ≤ 200) ∧ (0 ≤ v_traits.toInt ∧ v_traits.toInt ≤ 20) ∧ (inB 0 200 20 f_size0) ∧ ((0 : Int32).toInt = 0 ∧ v_traits.toInt ≤ v_traits.toInt) ∧ (progOK w_23 w_24 f_size0 v_traits) ∧ (trRes (pread (tpe f_tape v_taped) v_taped.toInt v_traits.toInt) v_traits.toInt v_fault.toInt ((-6) : Int32).toInt v_traits.toInt w_86.toInt) ∧ ((v_traits.toInt = v_traits.toInt ∧ f_limits = f_limits) ∨ (v_traits.toInt = v_traits.toInt + 1 ∧ f_limits = upd f_limits v_traits.toNatClampNeg 100000)) ∧ ((∀ i : Nat, (i : Int) < v_traits.toInt → rdR w_23 w_24 f_size0 i = rdR f_step f_stepA f_size0 i) ∧ (v_traits.toInt = v_traits.toInt + 1 → ∃ p e lk rd, pread (tpe f_tape v_taped) v_taped.toInt v_traits.toInt = .inr (p, e, lk, rd) ∧ rdR w_23 w_24 f_size0 v_traits.toInt.toNat = rd)) := ⟨iv_27, iv_28, iv_29, iv_30, i_v_taped, by omega, i_v_traits, i_f_size0, by omega, prog_keep hpr i_f_size0 (by omega) rfl pg_33, (by have z9 : (0 : Int32).toInt = 0 := (by decide); have s9 : rs w_19 w_17 w_18 w_22 (orb w_23 w_24 (250 * v_traits.toInt.toNat) w_20.toInt.toNat) = psum (tpe f_tape v_taped) v_taped.toInt v_traits.toInt (pB (tpe f_tape v_taped) v_taped.toInt v_traits.toInt 8) (sk (tpe f_tape v_taped) 0) (tke (tpe f_tape v_taped) v_taped.toInt (sk (tpe f_tape v_taped) 0)) 0 0 := (by have h1 := ad_12; have h2 := rs_34; rw [z9] at h1 h2; rw [← h1.2, ← h1.1]; exact h2); exact trRes_l (by omega) (by rw [pread, bnd_ok s9 (by omega), if_pos (show w_17.toInt < v_taped.toInt by omega)]) (by omega) (by omega) (by omega)), Or.inl ⟨rfl, rfl⟩, ⟨fun i hi => orb_cong (fun k hk => pg_33.2.1 k (by have s9 := i_f_size0 i (by omega); omega)), fun h => by exfalso; omega⟩⟩
          exact W.iret (v := (-6)) hx hb hr (fun t ht hW => ⟨⟨(-6), (w_17, w_18, w_86, w_20, w_21, w_22, w_23, w_24, w_25, w_26, v_taped, 0, w_86, v_traits, w_99, f_size0, f_limits, f_hasLaw), rfl, hpost, by rw [ht]; exact hP9, hD9⟩, hS.F ht⟩) hS.2.2 dX9_trait_105
  · have dc_1 : v_traits.toInt = 20 := jI_eq c_1 rfl (by decide)
    refine lv_aload_n hx hb dX9_trait_22 rfl (lv_at hl 0 rfl) ?_
    refine lv_bipush (v := (-5)) hx hb dX9_trait_23 (by decide) ?_
    have hk_101 : ((-5) : Int32).toInt = (-5) := by decide
    have hk_102 : (0 : Int32).toInt = 0 := by decide
    obtain ⟨hPc, hDc, hFc, hCc⟩ := va_pre (ws' := [((am 0), .inr (9, F9 am v_status v_now v_told v_merges 0 v_taped v_from v_to v_fault v_readFault v_traits v_length v_open v_leaks v_places v_models))]) hP hD hS hA [0] (by decide) rfl
    refine va_calli (va_runV (As := [.int (-5)]) (rest := []) ⟨hx, hb, hml, hown, hts⟩ (k_X9_ends l dC dI cA H.size am v_status v_now v_told v_merges 0 v_taped v_from v_to v_fault v_readFault v_traits v_length v_open v_leaks v_places v_models (-5) i_v_now i_v_told (by omega) i_v_taped i_v_from i_v_to i_v_traits i_v_length i_v_open i_v_places i_v_models) (cwV 1 hts gX9_trait_X9_ends rfl rfl rfl (by decide +kernel) ⟨Nat.le_of_ble_eq_true rfl, Nat.le_of_ble_eq_true rfl⟩) ⟨fun a U g mk q => by obtain ⟨q0, q1, qP, qK, qD, qN⟩ := q; exact ⟨q0, q1, qP, va_K.moved (u := U) (U := U.calling g mk a) (Vm.Alike.refl U.vm) qK, qD, qN.same rfl⟩, va_recv hK hPc (ci := 9) (q0 := 0) rfl rfl, fun U hU hW => ⟨rfl, by rw [hU], by rw [hU]; exact hPc, va_K.moved hW.alike hK, hDc.weaken (fun _ _ _ _ => trivial), hN.warm hW⟩⟩ rfl rfl hl.1 rfl (lv_room (Nat.le_of_ble_eq_true rfl)) dX9_trait_25 ⟨Nat.le_of_ble_eq_true rfl, Nat.le_of_ble_eq_true rfl⟩) hS (fun q _ h => hFc q h) hFc (fun r_103 u_104 t H1 locs ht hvm hw_105 hB hz1 hk1 hS => ?_)
    obtain ⟨w_106, rfl⟩ : ∃ z, z = u_104 := ⟨_, rfl⟩
    try dsimp only at hw_105 hB
    have hr9 := hw_105
    clear hw_105
    obtain ⟨hP1, hD1⟩ := hB
    rw [ht] at hP1
    obtain ⟨hP, hD⟩ := va_join (wr := [((am 10), .inl (cA 3, 200, .inl f_tape)), ((am 13), .inl (cA 0, 5000, .inl f_step)), ((am 14), .inl (cA 0, 5000, .inl f_stepA)), ((am 15), .inl (cA 0, 5000, .inl f_stepB)), ((am 16), .inl (cA 0, 5000, .inl f_stepC)), ((am 12), .inl (cA 0, 20, .inl f_size0)), ((am 23), .inl (cA 0, 20, .inl f_limits)), ((am 22), .inl (cA 2, 20, .inl f_hasLaw))]) (w1 := [((am 0), .inr (9, F9 am w_106 v_now v_told v_merges 0 v_taped v_from v_to v_fault v_readFault v_traits v_length v_open v_leaks v_places v_models))]) hP hD [0] [1, 2, 3, 4, 5, 6, 7, 8] hCc rfl (by decide) (by decide) hk1 hFc hP1 hD1
    clear hz1
    generalize H1 = H at hP hS ⊢
    obtain rfl : (-5) = r_103 := hr9.symm
    obtain ⟨hP9, hD9⟩ := va_pd (ws' := [((am 0), .inr (9, F9 am w_106 v_now v_told v_merges 0 v_taped v_from v_to v_fault v_readFault v_traits v_length v_open v_leaks v_places v_models)), ((am 10), .inl (cA 3, 200, .inl f_tape)), ((am 13), .inl (cA 0, 5000, .inl f_step)), ((am 14), .inl (cA 0, 5000, .inl f_stepA)), ((am 15), .inl (cA 0, 5000, .inl f_stepB)), ((am 16), .inl (cA 0, 5000, .inl f_stepC)), ((am 12), .inl (cA 0, 20, .inl f_size0)), ((am 23), .inl (cA 0, 20, .inl f_limits)), ((am 22), .inl (cA 2, 20, .inl f_hasLaw))]) hP hD [8, 0, 1, 2, 3, 4, 5, 6, 7] (by decide) rfl
    subst hQe
    have hans : ((-5) : Int32).toInt = (-5) := (by decide)
    have hk_107 : (0 : Int32).toInt = 0 := by decide
    have hpost : (0 ≤ v_from.toInt ∧ v_from.toInt ≤ 200) ∧ (0 ≤ v_to.toInt ∧ v_to.toInt ≤ 200) ∧ (0 ≤ v_length.toInt ∧ v_length.toInt ≤ 200) ∧ (0 ≤ v_open.toInt ∧ v_open.toInt ≤ 8) ∧ (0 ≤ v_taped.toInt ∧ v_taped.toInt ≤ 200) ∧ (0 ≤ (0 : Int32).toInt ∧ (0 : Int32).toInt ≤ 200) ∧ (0 ≤ v_traits.toInt ∧ v_traits.toInt ≤ 20) ∧ (inB 0 200 20 f_size0) ∧ ((0 : Int32).toInt = 0 ∧ v_traits.toInt ≤ v_traits.toInt) ∧ (progOK f_step f_stepA f_size0 v_traits) ∧ (trRes (pread (tpe f_tape v_taped) v_taped.toInt v_traits.toInt) v_traits.toInt v_fault.toInt ((-5) : Int32).toInt v_traits.toInt v_fault.toInt) ∧ ((v_traits.toInt = v_traits.toInt ∧ f_limits = f_limits) ∨ (v_traits.toInt = v_traits.toInt + 1 ∧ f_limits = upd f_limits v_traits.toNatClampNeg 100000)) ∧ ((∀ i : Nat, (i : Int) < v_traits.toInt → rdR f_step f_stepA f_size0 i = rdR f_step f_stepA f_size0 i) ∧ (v_traits.toInt = v_traits.toInt + 1 → ∃ p e lk rd, pread (tpe f_tape v_taped) v_taped.toInt v_traits.toInt = .inr (p, e, lk, rd) ∧ rdR f_step f_stepA f_size0 v_traits.toInt.toNat = rd)) := ⟨i_v_from, i_v_to, i_v_length, i_v_open, i_v_taped, by omega, i_v_traits, i_f_size0, by omega, hpr, trRes_20 (by omega) (by omega) (by omega) (by omega), Or.inl ⟨rfl, rfl⟩, ⟨fun i hi => rfl, fun h => by exfalso; omega⟩⟩
    exact W.iret (v := (-5)) hx hb hr (fun t ht hW => ⟨⟨(-5), (v_from, v_to, v_readFault, v_length, v_open, v_leaks, f_step, f_stepA, f_stepB, f_stepC, v_taped, 0, v_fault, v_traits, w_106, f_size0, f_limits, f_hasLaw), rfl, hpost, by rw [ht]; exact hP9, hD9⟩, hS.F ht⟩) hS.2.2 dX9_trait_28
