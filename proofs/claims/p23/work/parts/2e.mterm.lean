theorem dX9_term_0 : decode cX9_term 0 = .ok (.aload_n 0, 1) := by decide +kernel
set_option maxRecDepth 20000 in
theorem ggX9_term_X9_part : GoodIn wsX9_term wsX9_part := goodIn_r _ [77, 78, 37, 79, 80, 81, 4, 5, 6, 7, 8, 9, 58, 59, 60, 61, 14, 17, 16, 62, 63, 18, 19, 20, 21, 15, 22, 23, 24, 25, 45, 46, 47, 48, 49, 50, 51, 52, 53, 54, 26, 27, 28, 29, 30, 31, 32, 33, 34, 35, 36, 38, 39, 40, 41, 42, 43, 44, 10, 11, 12, 13, 55, 56, 57, 64, 65, 66, 67, 68, 69, 70, 71, 72, 73, 74, 75, 76, 82, 83, 84, 85, 0, 1, 2, 3, 86, 87, 88, 89, 90, 91, 92, 93, 94, 95, 96, 97, 98, 99, 100, 101, 102, 103, 104, 105, 106, 107, 108, 109, 110, 111, 112, 113, 114, 115, 116, 117, 118, 119, 120, 121, 122, 123, 124, 125, 126, 127, 128, 129, 130, 131, 132, 133, 134, 135, 136] (by decide +kernel) (by decide +kernel)
set_option maxRecDepth 20000 in
theorem gX9_term_X9_part : GoodIn wsX9_term (wsV RX9 217 RX9 yX9_part wsX9_part) := goodIn_app (goodIn_of _ (by decide +kernel)) ggX9_term_X9_part
theorem dX9_term_1 : decode cX9_term 1 = .ok (.invokevirtual 217, 3) := by decide +kernel
theorem dX9_term_4 : decode cX9_term 4 = .ok (.aload_n 0, 1) := by decide +kernel
set_option maxRecDepth 20000 in
theorem ggX9_term_X9_good : GoodIn wsX9_term wsX9_good := goodIn_r _ [8, 9, 86, 87, 88, 89, 90, 91, 92, 93, 94, 95, 96, 97, 98, 99, 100, 101, 102, 103, 104, 105, 106, 107, 108, 109, 110, 111, 112, 113, 114, 115, 116, 117, 118, 119, 120, 121, 122, 123, 124, 125, 126, 127, 128, 129, 130, 131, 132, 133, 134, 135, 136] (by decide +kernel) (by decide +kernel)
set_option maxRecDepth 20000 in
theorem gX9_term_X9_good : GoodIn wsX9_term (wsV RX9 206 RX9 yX9_good wsX9_good) := goodIn_app (goodIn_of _ (by decide +kernel)) ggX9_term_X9_good
theorem dX9_term_5 : decode cX9_term 5 = .ok (.invokevirtual 206, 3) := by decide +kernel
theorem dX9_term_8 : decode cX9_term 8 = .ok (.ifCond .eq 62, 3) := by decide +kernel
theorem dX9_term_70 : decode cX9_term 70 = .ok (.return_, 1) := by decide +kernel
theorem dX9_term_11 : decode cX9_term 11 = .ok (.aload_n 0, 1) := by decide +kernel
theorem dX9_term_12 : decode cX9_term 12 = .ok (.bipush 42, 2) := by decide +kernel
set_option maxRecDepth 20000 in
theorem ggX9_term_X9_isSign : GoodIn wsX9_term wsX9_isSign := goodIn_r _ [13, 14, 15, 16, 17, 86, 87, 88, 89, 90, 91, 92, 93, 94, 95, 96, 97, 98, 99, 100, 101, 102, 103, 104, 105, 106, 107, 108, 109, 110, 111, 112, 113, 114, 115, 116, 117, 118, 119, 120, 121, 122, 123, 124, 125, 126, 127, 128, 129, 130, 131, 132, 133, 134, 135, 136] (by decide +kernel) (by decide +kernel)
set_option maxRecDepth 20000 in
theorem gX9_term_X9_isSign : GoodIn wsX9_term (wsV RX9 210 RX9 yX9_isSign wsX9_isSign) := goodIn_app (goodIn_of _ (by decide +kernel)) ggX9_term_X9_isSign
theorem dX9_term_14 : decode cX9_term 14 = .ok (.invokevirtual 210, 3) := by decide +kernel
theorem dX9_term_17 : decode cX9_term 17 = .ok (.ifCond .ne 12, 3) := by decide +kernel
theorem dX9_term_29 : decode cX9_term 29 = .ok (.aload_n 0, 1) := by decide +kernel
theorem dX9_term_30 : decode cX9_term 30 = .ok (.bipush 42, 2) := by decide +kernel
theorem dX9_term_32 : decode cX9_term 32 = .ok (.invokevirtual 210, 3) := by decide +kernel
theorem dX9_term_35 : decode cX9_term 35 = .ok (.istore_n 1, 1) := by decide +kernel
theorem dX9_term_36 : decode cX9_term 36 = .ok (.aload_n 0, 1) := by decide +kernel
set_option maxRecDepth 20000 in
theorem ggX9_term_X9_next : GoodIn wsX9_term wsX9_next := goodIn_r _ [21, 17, 14, 15, 16, 22, 23, 24, 4, 25, 86, 87, 88, 89, 90, 91, 92, 93, 94, 95, 96, 97, 98, 99, 100, 101, 102, 103, 104, 105, 106, 107, 108, 109, 110, 111, 112, 113, 114, 115, 116, 117, 118, 119, 120, 121, 122, 123, 124, 125, 126, 127, 128, 129, 130, 131, 132, 133, 134, 135, 136] (by decide +kernel) (by decide +kernel)
set_option maxRecDepth 20000 in
theorem gX9_term_X9_next : GoodIn wsX9_term (wsV RX9 194 RX9 yX9_next wsX9_next) := goodIn_app (goodIn_of _ (by decide +kernel)) ggX9_term_X9_next
theorem dX9_term_37 : decode cX9_term 37 = .ok (.invokevirtual 194, 3) := by decide +kernel
theorem dX9_term_40 : decode cX9_term 40 = .ok (.aload_n 0, 1) := by decide +kernel
theorem dX9_term_41 : decode cX9_term 41 = .ok (.invokevirtual 217, 3) := by decide +kernel
theorem dX9_term_44 : decode cX9_term 44 = .ok (.aload_n 0, 1) := by decide +kernel
theorem dX9_term_45 : decode cX9_term 45 = .ok (.invokevirtual 206, 3) := by decide +kernel
theorem dX9_term_48 : decode cX9_term 48 = .ok (.ifCond .eq 19, 3) := by decide +kernel
theorem dX9_term_67 : decode cX9_term 67 = .ok (.goto (-63), 3) := by decide +kernel
theorem dX9_term_51 : decode cX9_term 51 = .ok (.aload_n 0, 1) := by decide +kernel
theorem dX9_term_52 : decode cX9_term 52 = .ok (.iload_n 1, 1) := by decide +kernel
theorem dX9_term_53 : decode cX9_term 53 = .ok (.ifCond .eq 7, 3) := by decide +kernel
theorem dX9_term_60 : decode cX9_term 60 = .ok (.iconst 4, 1) := by decide +kernel
theorem dX9_term_61 : decode cX9_term 61 = .ok (.iconst 0, 1) := by decide +kernel
theorem dX9_term_62 : decode cX9_term 62 = .ok (.iconst 0, 1) := by decide +kernel
theorem dX9_term_63 : decode cX9_term 63 = .ok (.iconst 0, 1) := by decide +kernel
set_option maxRecDepth 20000 in
theorem ggX9_term_X9_puts : GoodIn wsX9_term wsX9_puts := goodIn_r _ [29, 30, 31, 32, 33, 34, 35, 86, 87, 88, 89, 90, 91, 92, 93, 94, 95, 96, 97, 98, 99, 100, 101, 102, 103, 104, 105, 106, 107, 108, 109, 110, 111, 112, 113, 114, 115, 116, 117, 118, 119, 120, 121, 122, 123, 124, 125, 126, 127, 128, 129, 130, 131, 132, 133, 134, 135, 136] (by decide +kernel) (by decide +kernel)
set_option maxRecDepth 20000 in
theorem gX9_term_X9_puts : GoodIn wsX9_term (wsV RX9 213 RX9 yX9_puts wsX9_puts) := goodIn_app (goodIn_of _ (by decide +kernel)) ggX9_term_X9_puts
theorem dX9_term_64 : decode cX9_term 64 = .ok (.invokevirtual 213, 3) := by decide +kernel
theorem dX9_term_56 : decode cX9_term 56 = .ok (.iconst 3, 1) := by decide +kernel
theorem dX9_term_57 : decode cX9_term 57 = .ok (.goto 4, 3) := by decide +kernel
theorem dX9_term_20 : decode cX9_term 20 = .ok (.aload_n 0, 1) := by decide +kernel
theorem dX9_term_21 : decode cX9_term 21 = .ok (.bipush 47, 2) := by decide +kernel
theorem dX9_term_23 : decode cX9_term 23 = .ok (.invokevirtual 210, 3) := by decide +kernel
theorem dX9_term_26 : decode cX9_term 26 = .ok (.ifCond .eq 44, 3) := by decide +kernel
theorem dX9_sum_0 : decode cX9_sum 0 = .ok (.aload_n 0, 1) := by decide +kernel
set_option maxRecDepth 20000 in
theorem ggX9_sum_X9_term : GoodIn wsX9_sum wsX9_term := goodIn_r _ [82, 83, 84, 85, 4, 5, 6, 7, 8, 9, 10, 11, 12, 13, 14, 15, 16, 17, 18, 19, 20, 21, 22, 23, 24, 25, 26, 27, 28, 29, 30, 31, 32, 33, 34, 35, 36, 37, 38, 39, 40, 41, 42, 43, 44, 45, 46, 47, 48, 49, 50, 51, 52, 53, 54, 55, 56, 57, 58, 59, 60, 61, 62, 63, 64, 65, 66, 67, 68, 69, 70, 71, 72, 73, 74, 75, 76, 77, 78, 79, 80, 81, 0, 1, 2, 3, 86, 87, 88, 89, 90, 91, 92, 93, 94, 95, 96, 97, 98, 99, 100, 101, 102, 103, 104, 105, 106, 107, 108, 109, 110, 111, 112, 113, 114, 115, 116, 117, 118, 119, 120, 121, 122, 123, 124, 125, 126, 127, 128, 129, 130, 131, 132, 133, 134, 135, 136] (by decide +kernel) (by decide +kernel)
set_option maxRecDepth 20000 in
theorem gX9_sum_X9_term : GoodIn wsX9_sum (wsV RX9 203 RX9 yX9_term wsX9_term) := goodIn_app (goodIn_of _ (by decide +kernel)) ggX9_sum_X9_term
theorem dX9_sum_1 : decode cX9_sum 1 = .ok (.invokevirtual 203, 3) := by decide +kernel
theorem dX9_sum_4 : decode cX9_sum 4 = .ok (.aload_n 0, 1) := by decide +kernel
set_option maxRecDepth 20000 in
theorem ggX9_sum_X9_good : GoodIn wsX9_sum wsX9_good := goodIn_r _ [8, 9, 86, 87, 88, 89, 90, 91, 92, 93, 94, 95, 96, 97, 98, 99, 100, 101, 102, 103, 104, 105, 106, 107, 108, 109, 110, 111, 112, 113, 114, 115, 116, 117, 118, 119, 120, 121, 122, 123, 124, 125, 126, 127, 128, 129, 130, 131, 132, 133, 134, 135, 136] (by decide +kernel) (by decide +kernel)
set_option maxRecDepth 20000 in
theorem gX9_sum_X9_good : GoodIn wsX9_sum (wsV RX9 206 RX9 yX9_good wsX9_good) := goodIn_app (goodIn_of _ (by decide +kernel)) ggX9_sum_X9_good
theorem dX9_sum_5 : decode cX9_sum 5 = .ok (.invokevirtual 206, 3) := by decide +kernel
theorem dX9_sum_8 : decode cX9_sum 8 = .ok (.ifCond .eq 62, 3) := by decide +kernel
theorem dX9_sum_70 : decode cX9_sum 70 = .ok (.return_, 1) := by decide +kernel
theorem dX9_sum_11 : decode cX9_sum 11 = .ok (.aload_n 0, 1) := by decide +kernel
theorem dX9_sum_12 : decode cX9_sum 12 = .ok (.bipush 43, 2) := by decide +kernel
set_option maxRecDepth 20000 in
theorem ggX9_sum_X9_isSign : GoodIn wsX9_sum wsX9_isSign := goodIn_r _ [13, 14, 15, 16, 17, 86, 87, 88, 89, 90, 91, 92, 93, 94, 95, 96, 97, 98, 99, 100, 101, 102, 103, 104, 105, 106, 107, 108, 109, 110, 111, 112, 113, 114, 115, 116, 117, 118, 119, 120, 121, 122, 123, 124, 125, 126, 127, 128, 129, 130, 131, 132, 133, 134, 135, 136] (by decide +kernel) (by decide +kernel)
set_option maxRecDepth 20000 in
theorem gX9_sum_X9_isSign : GoodIn wsX9_sum (wsV RX9 210 RX9 yX9_isSign wsX9_isSign) := goodIn_app (goodIn_of _ (by decide +kernel)) ggX9_sum_X9_isSign
theorem dX9_sum_14 : decode cX9_sum 14 = .ok (.invokevirtual 210, 3) := by decide +kernel
theorem dX9_sum_17 : decode cX9_sum 17 = .ok (.ifCond .ne 12, 3) := by decide +kernel
theorem dX9_sum_29 : decode cX9_sum 29 = .ok (.aload_n 0, 1) := by decide +kernel
theorem dX9_sum_30 : decode cX9_sum 30 = .ok (.bipush 43, 2) := by decide +kernel
theorem dX9_sum_32 : decode cX9_sum 32 = .ok (.invokevirtual 210, 3) := by decide +kernel
theorem dX9_sum_35 : decode cX9_sum 35 = .ok (.istore_n 1, 1) := by decide +kernel
theorem dX9_sum_36 : decode cX9_sum 36 = .ok (.aload_n 0, 1) := by decide +kernel
set_option maxRecDepth 20000 in
theorem ggX9_sum_X9_next : GoodIn wsX9_sum wsX9_next := goodIn_r _ [21, 17, 14, 15, 16, 22, 23, 24, 4, 25, 86, 87, 88, 89, 90, 91, 92, 93, 94, 95, 96, 97, 98, 99, 100, 101, 102, 103, 104, 105, 106, 107, 108, 109, 110, 111, 112, 113, 114, 115, 116, 117, 118, 119, 120, 121, 122, 123, 124, 125, 126, 127, 128, 129, 130, 131, 132, 133, 134, 135, 136] (by decide +kernel) (by decide +kernel)
set_option maxRecDepth 20000 in
theorem gX9_sum_X9_next : GoodIn wsX9_sum (wsV RX9 194 RX9 yX9_next wsX9_next) := goodIn_app (goodIn_of _ (by decide +kernel)) ggX9_sum_X9_next
theorem dX9_sum_37 : decode cX9_sum 37 = .ok (.invokevirtual 194, 3) := by decide +kernel
theorem dX9_sum_40 : decode cX9_sum 40 = .ok (.aload_n 0, 1) := by decide +kernel
theorem dX9_sum_41 : decode cX9_sum 41 = .ok (.invokevirtual 203, 3) := by decide +kernel
theorem dX9_sum_44 : decode cX9_sum 44 = .ok (.aload_n 0, 1) := by decide +kernel
theorem dX9_sum_45 : decode cX9_sum 45 = .ok (.invokevirtual 206, 3) := by decide +kernel
theorem dX9_sum_48 : decode cX9_sum 48 = .ok (.ifCond .eq 19, 3) := by decide +kernel
theorem dX9_sum_67 : decode cX9_sum 67 = .ok (.goto (-63), 3) := by decide +kernel
theorem dX9_sum_51 : decode cX9_sum 51 = .ok (.aload_n 0, 1) := by decide +kernel
theorem dX9_sum_52 : decode cX9_sum 52 = .ok (.iload_n 1, 1) := by decide +kernel
theorem dX9_sum_53 : decode cX9_sum 53 = .ok (.ifCond .eq 7, 3) := by decide +kernel
theorem dX9_sum_60 : decode cX9_sum 60 = .ok (.iconst 2, 1) := by decide +kernel
theorem dX9_sum_61 : decode cX9_sum 61 = .ok (.iconst 0, 1) := by decide +kernel
theorem dX9_sum_62 : decode cX9_sum 62 = .ok (.iconst 0, 1) := by decide +kernel
theorem dX9_sum_63 : decode cX9_sum 63 = .ok (.iconst 0, 1) := by decide +kernel
set_option maxRecDepth 20000 in
theorem ggX9_sum_X9_puts : GoodIn wsX9_sum wsX9_puts := goodIn_r _ [29, 30, 31, 32, 33, 34, 35, 86, 87, 88, 89, 90, 91, 92, 93, 94, 95, 96, 97, 98, 99, 100, 101, 102, 103, 104, 105, 106, 107, 108, 109, 110, 111, 112, 113, 114, 115, 116, 117, 118, 119, 120, 121, 122, 123, 124, 125, 126, 127, 128, 129, 130, 131, 132, 133, 134, 135, 136] (by decide +kernel) (by decide +kernel)
set_option maxRecDepth 20000 in
theorem gX9_sum_X9_puts : GoodIn wsX9_sum (wsV RX9 213 RX9 yX9_puts wsX9_puts) := goodIn_app (goodIn_of _ (by decide +kernel)) ggX9_sum_X9_puts
theorem dX9_sum_64 : decode cX9_sum 64 = .ok (.invokevirtual 213, 3) := by decide +kernel
theorem dX9_sum_56 : decode cX9_sum 56 = .ok (.iconst 1, 1) := by decide +kernel
theorem dX9_sum_57 : decode cX9_sum 57 = .ok (.goto 4, 3) := by decide +kernel
theorem dX9_sum_20 : decode cX9_sum 20 = .ok (.aload_n 0, 1) := by decide +kernel
theorem dX9_sum_21 : decode cX9_sum 21 = .ok (.bipush 45, 2) := by decide +kernel
theorem dX9_sum_23 : decode cX9_sum 23 = .ok (.invokevirtual 210, 3) := by decide +kernel
theorem dX9_sum_26 : decode cX9_sum 26 = .ok (.ifCond .eq 44, 3) := by decide +kernel
set_option maxHeartbeats 8000000 in
set_option maxRecDepth 100000 in
theorem k_X9_term (l : Launch) (dC : Nat → ClassId) (dI : Nat → Nat → Nat) (cA : Nat → ClassId) (sz : Nat) (am : Nat → Nat) (v_status : Int32) (v_now : Int32) (v_told : Int32) (v_merges : Int32) (v_taped : Int32) (v_size : Int32) (v_from : Int32) (v_to : Int32) (v_fault : Int32) (v_readFault : Int32) (v_traits : Int32) (v_length : Int32) (v_open : Int32) (v_leaks : Int32) (v_places : Int32) (v_models : Int32) (f_tape : Nat → Int32) (f_step : Nat → Int32) (f_stepA : Nat → Int32) (f_stepB : Nat → Int32) (f_stepC : Nat → Int32) (rl : Nat) (FR : Nat) (LO : Nat) (i_v_now : 0 ≤ v_now.toInt ∧ v_now.toInt ≤ 100000) (i_v_told : 0 ≤ v_told.toInt ∧ v_told.toInt ≤ 400) (i_v_taped : 0 ≤ v_taped.toInt ∧ v_taped.toInt ≤ 200) (i_v_size : 0 ≤ v_size.toInt ∧ v_size.toInt ≤ 200) (i_v_from : 0 ≤ v_from.toInt ∧ v_from.toInt ≤ 200) (i_v_to : 0 ≤ v_to.toInt ∧ v_to.toInt ≤ 200) (i_v_traits : 0 ≤ v_traits.toInt ∧ v_traits.toInt ≤ 20) (i_v_length : 0 ≤ v_length.toInt ∧ v_length.toInt ≤ 200) (i_v_open : 0 ≤ v_open.toInt ∧ v_open.toInt ≤ 8) (i_v_places : 0 ≤ v_places.toInt ∧ v_places.toInt ≤ 2000) (i_v_models : 0 ≤ v_models.toInt ∧ v_models.toInt ≤ 10) (htr : v_traits.toInt ≤ 19) (hfr : v_from.toInt ≤ v_to.toInt ∧ v_to.toInt ≤ v_size.toInt ∧ (v_from.toInt < v_size.toInt → v_from.toInt < v_to.toInt)) (htk : tokOK f_tape v_from v_to v_size) (hfl : v_length.toInt ≤ v_from.toInt) (hgd : v_readFault.toInt = (-1)) (hwp : wfp f_step f_stepA (250 * v_traits.toInt.toNat) v_length.toInt.toNat) (hop : 8 - v_open.toInt ≤ (rl : Int)) (ih : 0 < rl → SumC l dC dI cA (rl - 1) FR LO) : Met l yX9_term wsX9_term ({ frames := FR + 6, cells := 0, slots := 0, locals := LO + 135 }) (va_Pc [.ref (am 0)] (fun U => U.heap.size = sz ∧ va_P (dC, dI) vwCl [((am 0), .inr (9, F9 am v_status v_now v_told v_merges v_taped v_size v_from v_to v_fault v_readFault v_traits v_length v_open v_leaks v_places v_models)), ((am 10), .inl (cA 3, 200, .inl f_tape)), ((am 13), .inl (cA 0, 5000, .inl f_step)), ((am 14), .inl (cA 0, 5000, .inl f_stepA)), ((am 15), .inl (cA 0, 5000, .inl f_stepB)), ((am 16), .inl (cA 0, 5000, .inl f_stepC))] U.heap ∧ va_K (dC, dI) vwCl (tyL cA) U ∧ va_D (fun _ => True) [((am 0), .inr (9, F9 am v_status v_now v_told v_merges v_taped v_size v_from v_to v_fault v_readFault v_traits v_length v_open v_leaks v_places v_models)), ((am 10), .inl (cA 3, 200, .inl f_tape)), ((am 13), .inl (cA 0, 5000, .inl f_step)), ((am 14), .inl (cA 0, 5000, .inl f_stepA)), ((am 15), .inl (cA 0, 5000, .inl f_stepB)), ((am 16), .inl (cA 0, 5000, .inl f_stepC))] ∧ nw_ok U)) (va_Qv (fun (u : Int32 × Int32 × Int32 × Int32 × Int32 × Int32 × (Nat → Int32) × (Nat → Int32) × (Nat → Int32) × (Nat → Int32)) => (0 ≤ u.1.toInt ∧ u.1.toInt ≤ 200) ∧ (0 ≤ u.2.1.toInt ∧ u.2.1.toInt ≤ 200) ∧ (0 ≤ u.2.2.2.1.toInt ∧ u.2.2.2.1.toInt ≤ 200) ∧ (0 ≤ u.2.2.2.2.1.toInt ∧ u.2.2.2.2.1.toInt ≤ 8) ∧ (v_from.toInt ≤ u.1.toInt ∧ u.1.toInt ≤ u.2.1.toInt ∧ u.2.1.toInt ≤ v_size.toInt ∧ (u.1.toInt < v_size.toInt → u.1.toInt < u.2.1.toInt) ∧ u.2.2.2.1.toInt - v_length.toInt ≤ u.1.toInt - v_from.toInt ∧ v_length.toInt ≤ u.2.2.2.1.toInt ∧ (u.2.2.1.toInt = (-1) → u.2.2.2.2.1.toInt = v_open.toInt)) ∧ (tokOK f_tape u.1 u.2.1 v_size) ∧ (prg f_step f_stepA u.2.2.2.2.2.2.1 u.2.2.2.2.2.2.2.1 (250 * v_traits.toInt.toNat) v_length.toInt.toNat u.2.2.2.1.toInt.toNat (u.2.2.1.toInt = (-1))) ∧ (rs u.2.2.1 u.1 u.2.1 u.2.2.2.2.2.1 (orb u.2.2.2.2.2.2.1 u.2.2.2.2.2.2.2.1 (250 * v_traits.toInt.toNat) u.2.2.2.1.toInt.toNat) = pterm (tpe f_tape v_size) v_size.toInt v_traits.toInt (pB (tpe f_tape v_size) v_size.toInt v_traits.toInt (8 - v_open.toInt).toNat) v_from.toInt v_to.toInt v_leaks.toInt (orb f_step f_stepA (250 * v_traits.toInt.toNat) v_length.toInt.toNat))) (fun (u : Int32 × Int32 × Int32 × Int32 × Int32 × Int32 × (Nat → Int32) × (Nat → Int32) × (Nat → Int32) × (Nat → Int32)) (t : State) => va_P (dC, dI) vwCl [((am 0), .inr (9, F9 am v_status v_now v_told v_merges v_taped v_size u.1 u.2.1 v_fault u.2.2.1 v_traits u.2.2.2.1 u.2.2.2.2.1 u.2.2.2.2.2.1 v_places v_models)), ((am 10), .inl (cA 3, 200, .inl f_tape)), ((am 13), .inl (cA 0, 5000, .inl u.2.2.2.2.2.2.1)), ((am 14), .inl (cA 0, 5000, .inl u.2.2.2.2.2.2.2.1)), ((am 15), .inl (cA 0, 5000, .inl u.2.2.2.2.2.2.2.2.1)), ((am 16), .inl (cA 0, 5000, .inl u.2.2.2.2.2.2.2.2.2))] t.heap ∧ va_D (va_A [((am 0), .inr (9, F9 am v_status v_now v_told v_merges v_taped v_size v_from v_to v_fault v_readFault v_traits v_length v_open v_leaks v_places v_models)), ((am 10), .inl (cA 3, 200, .inl f_tape)), ((am 13), .inl (cA 0, 5000, .inl f_step)), ((am 14), .inl (cA 0, 5000, .inl f_stepA)), ((am 15), .inl (cA 0, 5000, .inl f_stepB)), ((am 16), .inl (cA 0, 5000, .inl f_stepC))] sz) [((am 0), .inr (9, F9 am v_status v_now v_told v_merges v_taped v_size u.1 u.2.1 v_fault u.2.2.1 v_traits u.2.2.2.1 u.2.2.2.2.1 u.2.2.2.2.2.1 v_places v_models)), ((am 10), .inl (cA 3, 200, .inl f_tape)), ((am 13), .inl (cA 0, 5000, .inl u.2.2.2.2.2.2.1)), ((am 14), .inl (cA 0, 5000, .inl u.2.2.2.2.2.2.2.1)), ((am 15), .inl (cA 0, 5000, .inl u.2.2.2.2.2.2.2.2.1)), ((am 16), .inl (cA 0, 5000, .inl u.2.2.2.2.2.2.2.2.2))]) (va_A [((am 0), .inr (9, F9 am v_status v_now v_told v_merges v_taped v_size v_from v_to v_fault v_readFault v_traits v_length v_open v_leaks v_places v_models)), ((am 10), .inl (cA 3, 200, .inl f_tape)), ((am 13), .inl (cA 0, 5000, .inl f_step)), ((am 14), .inl (cA 0, 5000, .inl f_stepA)), ((am 15), .inl (cA 0, 5000, .inl f_stepB)), ((am 16), .inl (cA 0, 5000, .inl f_stepC))] sz)) 0 0 (va_A [((am 0), .inr (9, F9 am v_status v_now v_told v_merges v_taped v_size v_from v_to v_fault v_readFault v_traits v_length v_open v_leaks v_places v_models)), ((am 10), .inl (cA 3, 200, .inl f_tape)), ((am 13), .inl (cA 0, 5000, .inl f_step)), ((am 14), .inl (cA 0, 5000, .inl f_stepA)), ((am 15), .inl (cA 0, 5000, .inl f_stepB)), ((am 16), .inl (cA 0, 5000, .inl f_stepC))] sz) := by
  refine Met.ofW (cc := cX9_term) (maxL := 2) (ret := none) (by decide) rfl ?_
  intro p e s m args below meth c s₁ B hml hv
  obtain ⟨rfl, hsz, hP, hK, hD0, hN⟩ := hv
  have hx := B.exec
  have hb := B.bytes
  have hr := B.returns
  have hts := atoms_spec (ws := wsX9_term) B.pre
  have hown : s.vm.findClass RX9 = some m.cls := findClass_of_methodNamed B.named
  have hlocks := B.notSynchronized
  subst hsz
  have hD := hD0.self (sz := s.heap.size)
  generalize hAe : va_A [((am 0), .inr (9, F9 am v_status v_now v_told v_merges v_taped v_size v_from v_to v_fault v_readFault v_traits v_length v_open v_leaks v_places v_models)), ((am 10), .inl (cA 3, 200, .inl f_tape)), ((am 13), .inl (cA 0, 5000, .inl f_step)), ((am 14), .inl (cA 0, 5000, .inl f_stepA)), ((am 15), .inl (cA 0, 5000, .inl f_stepB)), ((am 16), .inl (cA 0, 5000, .inl f_stepC))] s.heap.size = A at hD ⊢
  have hA : ∀ q : Nat, s.heap.size ≤ q → A q := fun q h => by rw [← hAe]; exact Or.inr h
  have hS : va_S A s.heap s.heap [] := va_S.rf
  have hl := lv_entry ([.ref (am 0)]) (n := 2) (Nat.le_of_ble_eq_true rfl)
  rw [lg_entry_eq]
  generalize (lg_sl ([.ref (am 0)]) ++ List.replicate (2 - (lg_sl ([.ref (am 0)])).length) Slot.unset).toArray = ls at hl ⊢
  have hl : lv_has ls 2 [(0, .ref (am 0))] := hl
  generalize hQe : MQ below _ _ _ _ _ _ = QQ
  refine lv_aload_n hx hb dX9_term_0 rfl (lv_at hl 0 rfl) ?_
  obtain ⟨hPc, hDc, hFc, hCc⟩ := va_pre (ws' := [((am 0), .inr (9, F9 am v_status v_now v_told v_merges v_taped v_size v_from v_to v_fault v_readFault v_traits v_length v_open v_leaks v_places v_models)), ((am 10), .inl (cA 3, 200, .inl f_tape)), ((am 13), .inl (cA 0, 5000, .inl f_step)), ((am 14), .inl (cA 0, 5000, .inl f_stepA)), ((am 15), .inl (cA 0, 5000, .inl f_stepB)), ((am 16), .inl (cA 0, 5000, .inl f_stepC))]) hP hD hS hA [0, 1, 2, 3, 4, 5] (by decide) rfl
  refine va_callv (va_runV (As := []) (rest := []) ⟨hx, hb, hml, hown, hts⟩ (k_X9_part l dC dI cA s.heap.size am v_status v_now v_told v_merges v_taped v_size v_from v_to v_fault v_readFault v_traits v_length v_open v_leaks v_places v_models f_tape f_step f_stepA f_stepB f_stepC rl FR LO i_v_now i_v_told i_v_taped i_v_size i_v_from i_v_to i_v_traits i_v_length i_v_open i_v_places i_v_models htr hfr htk hfl hgd hwp hop ih) (cwV 0 hts gX9_term_X9_part rfl rfl rfl (by decide +kernel) ⟨(show (FR + 5) + 1 ≤ FR + 6 from fl_a (F := FR) (a := 5) (b := 1) (c := 6) (by decide)), (show 8 + (2 + 11) + (LO + 114) ≤ LO + 135 from fl_c (F := LO) (a := 8 + (2 + 11)) (b := 114) (c := 135) (by decide))⟩) ⟨fun a U g mk q => by obtain ⟨q0, q1, qP, qK, qD, qN⟩ := q; exact ⟨q0, q1, qP, va_K.moved (u := U) (U := U.calling g mk a) (Vm.Alike.refl U.vm) qK, qD, qN.same rfl⟩, va_recv hK hPc (ci := 9) (q0 := 0) rfl rfl, fun U hU hW => ⟨rfl, by rw [hU], by rw [hU]; exact hPc, va_K.moved hW.alike hK, hDc.weaken (fun _ _ _ _ => trivial), hN.warm hW⟩⟩ rfl rfl hl.1 rfl (lv_room (Nat.le_of_ble_eq_true rfl)) dX9_term_1 ⟨(show 0 + 0 ≤ 0 by omega), (show 0 + 0 ≤ 0 by omega)⟩) hS (fun q _ h => hFc q h) hFc (fun u_1 t H1 locs ht hvm hw_2 hB hz1 hk1 hS => ?_)
  obtain ⟨w_3, w_4, w_5, w_6, w_7, w_8, w_9, w_10, w_11, w_12⟩ := u_1
  try dsimp only at hw_2 hB
  obtain ⟨iv_13, iv_14, iv_15, iv_16, po_17, tk_18, pg_19, rs_20⟩ := hw_2
  obtain ⟨hP1, hD1⟩ := hB
  rw [ht] at hP1
  obtain ⟨hP, hD⟩ := va_join (wr := []) (w1 := [((am 0), .inr (9, F9 am v_status v_now v_told v_merges v_taped v_size w_3 w_4 v_fault w_5 v_traits w_6 w_7 w_8 v_places v_models)), ((am 10), .inl (cA 3, 200, .inl f_tape)), ((am 13), .inl (cA 0, 5000, .inl w_9)), ((am 14), .inl (cA 0, 5000, .inl w_10)), ((am 15), .inl (cA 0, 5000, .inl w_11)), ((am 16), .inl (cA 0, 5000, .inl w_12))]) hP hD [0, 1, 2, 3, 4, 5] [] hCc rfl (by decide) (by decide) hk1 hFc hP1 hD1
  clear hz1
  generalize H1 = H at hP hS ⊢
  have loop4_21 : ∀ (n : Nat) (w_v_from_4 : Int32) (w_v_to_4 : Int32) (w_v_readFault_4 : Int32) (w_v_length_4 : Int32) (w_v_open_4 : Int32) (w_v_leaks_4 : Int32) (w_f_step_4 : Nat → Int32) (w_f_stepA_4 : Nat → Int32) (w_f_stepB_4 : Nat → Int32) (w_f_stepC_4 : Nat → Int32) (H : Heap) (locs : List Loc) (ls : Array Slot), 200 - w_v_from_4.toInt < (n : Int) → (0 ≤ w_v_from_4.toInt ∧ w_v_from_4.toInt ≤ 200) → (0 ≤ w_v_to_4.toInt ∧ w_v_to_4.toInt ≤ 200) → (0 ≤ w_v_length_4.toInt ∧ w_v_length_4.toInt ≤ 200) → (0 ≤ w_v_open_4.toInt ∧ w_v_open_4.toInt ≤ 8) → (v_from.toInt ≤ w_v_from_4.toInt ∧ w_v_from_4.toInt ≤ w_v_to_4.toInt ∧ w_v_to_4.toInt ≤ v_size.toInt ∧ (w_v_from_4.toInt < v_size.toInt → w_v_from_4.toInt < w_v_to_4.toInt) ∧ w_v_length_4.toInt - v_length.toInt ≤ w_v_from_4.toInt - v_from.toInt ∧ v_length.toInt ≤ w_v_length_4.toInt ∧ (w_v_readFault_4.toInt = (-1) → w_v_open_4.toInt = v_open.toInt)) → (tokOK f_tape w_v_from_4 w_v_to_4 v_size) → (prg f_step f_stepA w_f_step_4 w_f_stepA_4 (250 * v_traits.toInt.toNat) v_length.toInt.toNat w_v_length_4.toInt.toNat (w_v_readFault_4.toInt = (-1))) → (lpI (tpe f_tape v_size) v_size.toInt 42 47 (ppart (tpe f_tape v_size) v_size.toInt v_traits.toInt (pB (tpe f_tape v_size) v_size.toInt v_traits.toInt (8 - v_open.toInt).toNat)) w_v_readFault_4 w_v_from_4 w_v_to_4 w_v_leaks_4 (orb w_f_step_4 w_f_stepA_4 (250 * v_traits.toInt.toNat) w_v_length_4.toInt.toNat) (pterm (tpe f_tape v_size) v_size.toInt v_traits.toInt (pB (tpe f_tape v_size) v_size.toInt v_traits.toInt (8 - v_open.toInt).toNat) v_from.toInt v_to.toInt v_leaks.toInt (orb f_step f_stepA (250 * v_traits.toInt.toNat) v_length.toInt.toNat))) → va_P (dC, dI) vwCl [((am 0), .inr (9, F9 am v_status v_now v_told v_merges v_taped v_size w_v_from_4 w_v_to_4 v_fault w_v_readFault_4 v_traits w_v_length_4 w_v_open_4 w_v_leaks_4 v_places v_models)), ((am 10), .inl (cA 3, 200, .inl f_tape)), ((am 13), .inl (cA 0, 5000, .inl w_f_step_4)), ((am 14), .inl (cA 0, 5000, .inl w_f_stepA_4)), ((am 15), .inl (cA 0, 5000, .inl w_f_stepB_4)), ((am 16), .inl (cA 0, 5000, .inl w_f_stepC_4))] H → va_D A [((am 0), .inr (9, F9 am v_status v_now v_told v_merges v_taped v_size w_v_from_4 w_v_to_4 v_fault w_v_readFault_4 v_traits w_v_length_4 w_v_open_4 w_v_leaks_4 v_places v_models)), ((am 10), .inl (cA 3, 200, .inl f_tape)), ((am 13), .inl (cA 0, 5000, .inl w_f_step_4)), ((am 14), .inl (cA 0, 5000, .inl w_f_stepA_4)), ((am 15), .inl (cA 0, 5000, .inl w_f_stepB_4)), ((am 16), .inl (cA 0, 5000, .inl w_f_stepC_4))] → va_S A s.heap H locs → lv_has ls 2 [(0, .ref (am 0))] → W p l e ({ frames := FR + 6, cells := 0, slots := 0, locals := LO + 135 }) s m ([.ref (am 0)] : List Value).toArray below meth c H locs 0 0 QQ (F0 m 4 ls []) := by
    intro n
    induction n with
    | zero => intro w_v_from_4 w_v_to_4 w_v_readFault_4 w_v_length_4 w_v_open_4 w_v_leaks_4 w_f_step_4 w_f_stepA_4 w_f_stepB_4 w_f_stepC_4 H locs ls hme hv0_4 hv1_4 hv2_4 hv3_4 hv4_4 hv5_4 hv6_4 hv7_4; exfalso; omega
    | succ n ih_4 =>
      intro w_v_from_4 w_v_to_4 w_v_readFault_4 w_v_length_4 w_v_open_4 w_v_leaks_4 w_f_step_4 w_f_stepA_4 w_f_stepB_4 w_f_stepC_4 H locs ls hme_4 hv0_4 hv1_4 hv2_4 hv3_4 hv4_4 hv5_4 hv6_4 hv7_4 hP hD hS hl
      clear po_17 tk_18 pg_19 rs_20
      refine lv_aload_n hx hb dX9_term_4 rfl (lv_at hl 0 rfl) ?_
      obtain ⟨hPc, hDc, hFc, hCc⟩ := va_pre (ws' := [((am 0), .inr (9, F9 am v_status v_now v_told v_merges v_taped v_size w_v_from_4 w_v_to_4 v_fault w_v_readFault_4 v_traits w_v_length_4 w_v_open_4 w_v_leaks_4 v_places v_models))]) hP hD hS hA [0] (by decide) rfl
      refine va_calli (va_runV (As := []) (rest := []) ⟨hx, hb, hml, hown, hts⟩ (k_X9_good l dC dI cA H.size am v_status v_now v_told v_merges v_taped v_size w_v_from_4 w_v_to_4 v_fault w_v_readFault_4 v_traits w_v_length_4 w_v_open_4 w_v_leaks_4 v_places v_models i_v_now i_v_told i_v_taped i_v_size hv0_4 hv1_4 i_v_traits hv2_4 hv3_4 i_v_places i_v_models) (cwV 0 hts gX9_term_X9_good rfl rfl rfl (by decide +kernel) ⟨Nat.le_of_ble_eq_true rfl, Nat.le_of_ble_eq_true rfl⟩) ⟨fun a U g mk q => by obtain ⟨q0, q1, qP, qK, qD, qN⟩ := q; exact ⟨q0, q1, qP, va_K.moved (u := U) (U := U.calling g mk a) (Vm.Alike.refl U.vm) qK, qD, qN.same rfl⟩, va_recv hK hPc (ci := 9) (q0 := 0) rfl rfl, fun U hU hW => ⟨rfl, by rw [hU], by rw [hU]; exact hPc, va_K.moved hW.alike hK, hDc.weaken (fun _ _ _ _ => trivial), hN.warm hW⟩⟩ rfl rfl hl.1 rfl (lv_room (Nat.le_of_ble_eq_true rfl)) dX9_term_5 ⟨Nat.le_of_ble_eq_true rfl, Nat.le_of_ble_eq_true rfl⟩) hS (fun q _ h => hFc q h) hFc (fun r_22 u_23 t H1 locs ht hvm hw_24 hB hz1 hk1 hS => ?_)
      try dsimp only at hw_24 hB
      have po_25 := hw_24
      clear hw_24
      obtain ⟨hP1, hD1⟩ := hB
      rw [ht] at hP1
      obtain ⟨hP, hD⟩ := va_join (wr := [((am 10), .inl (cA 3, 200, .inl f_tape)), ((am 13), .inl (cA 0, 5000, .inl w_f_step_4)), ((am 14), .inl (cA 0, 5000, .inl w_f_stepA_4)), ((am 15), .inl (cA 0, 5000, .inl w_f_stepB_4)), ((am 16), .inl (cA 0, 5000, .inl w_f_stepC_4))]) (w1 := [((am 0), .inr (9, F9 am v_status v_now v_told v_merges v_taped v_size w_v_from_4 w_v_to_4 v_fault w_v_readFault_4 v_traits w_v_length_4 w_v_open_4 w_v_leaks_4 v_places v_models))]) hP hD [0] [1, 2, 3, 4, 5] hCc rfl (by decide) (by decide) hk1 hFc hP1 hD1
      clear hz1
      generalize H1 = H at hP hS ⊢
      refine lv_if_eq (tgt := 70) hx hb dX9_term_8 (by decide) (fun c_26 => ?_) (fun c_26 => ?_)
      · have dc_26 : r_22.toInt = 0 := jI_eq c_26 rfl (by decide)
        replace po_25 := gd_n po_25 dc_26
        replace hv4_4 := im7_n hv4_4
        obtain ⟨hP9, hD9⟩ := va_pd (ws' := [((am 0), .inr (9, F9 am v_status v_now v_told v_merges v_taped v_size w_v_from_4 w_v_to_4 v_fault w_v_readFault_4 v_traits w_v_length_4 w_v_open_4 w_v_leaks_4 v_places v_models)), ((am 10), .inl (cA 3, 200, .inl f_tape)), ((am 13), .inl (cA 0, 5000, .inl w_f_step_4)), ((am 14), .inl (cA 0, 5000, .inl w_f_stepA_4)), ((am 15), .inl (cA 0, 5000, .inl w_f_stepB_4)), ((am 16), .inl (cA 0, 5000, .inl w_f_stepC_4))]) hP hD [5, 0, 1, 2, 3, 4] (by decide) rfl
        subst hQe
        have hpost : (0 ≤ w_v_from_4.toInt ∧ w_v_from_4.toInt ≤ 200) ∧ (0 ≤ w_v_to_4.toInt ∧ w_v_to_4.toInt ≤ 200) ∧ (0 ≤ w_v_length_4.toInt ∧ w_v_length_4.toInt ≤ 200) ∧ (0 ≤ w_v_open_4.toInt ∧ w_v_open_4.toInt ≤ 8) ∧ (v_from.toInt ≤ w_v_from_4.toInt ∧ w_v_from_4.toInt ≤ w_v_to_4.toInt ∧ w_v_to_4.toInt ≤ v_size.toInt ∧ (w_v_from_4.toInt < v_size.toInt → w_v_from_4.toInt < w_v_to_4.toInt) ∧ w_v_length_4.toInt - v_length.toInt ≤ w_v_from_4.toInt - v_from.toInt ∧ v_length.toInt ≤ w_v_length_4.toInt ∧ (w_v_readFault_4.toInt = (-1) → w_v_open_4.toInt = v_open.toInt)) ∧ (tokOK f_tape w_v_from_4 w_v_to_4 v_size) ∧ (prg f_step f_stepA w_f_step_4 w_f_stepA_4 (250 * v_traits.toInt.toNat) v_length.toInt.toNat w_v_length_4.toInt.toNat (w_v_readFault_4.toInt = (-1))) ∧ (rs w_v_readFault_4 w_v_from_4 w_v_to_4 w_v_leaks_4 (orb w_f_step_4 w_f_stepA_4 (250 * v_traits.toInt.toNat) w_v_length_4.toInt.toNat) = pterm (tpe f_tape v_size) v_size.toInt v_traits.toInt (pB (tpe f_tape v_size) v_size.toInt v_traits.toInt (8 - v_open.toInt).toNat) v_from.toInt v_to.toInt v_leaks.toInt (orb f_step f_stepA (250 * v_traits.toInt.toNat) v_length.toInt.toNat)) := ⟨hv0_4, hv1_4, hv2_4, hv3_4, by omega, hv5_4, prg_same hv6_4 (fun h => by omega), lpI_e hv7_4 (Or.inl (by omega))⟩
        exact W.vret hx hb hr (fun t ht hW => ⟨⟨(w_v_from_4, w_v_to_4, w_v_readFault_4, w_v_length_4, w_v_open_4, w_v_leaks_4, w_f_step_4, w_f_stepA_4, w_f_stepB_4, w_f_stepC_4), rfl, hpost, by rw [ht]; exact hP9, hD9⟩, hS.F ht⟩) hS.2.2 dX9_term_70
      · have dc_26 : ¬ r_22.toInt = 0 := jI_ne c_26 rfl (by decide)
        replace po_25 := gd_y po_25 dc_26
        replace hv4_4 := im7_y hv4_4 po_25
        refine lv_aload_n hx hb dX9_term_11 rfl (lv_at hl 0 rfl) ?_
        refine lv_bipush (v := 42) hx hb dX9_term_12 (by decide) ?_
        have hk_27 : (42 : Int32).toInt = 42 := by decide
        obtain ⟨hPc, hDc, hFc, hCc⟩ := va_pre (ws' := [((am 0), .inr (9, F9 am v_status v_now v_told v_merges v_taped v_size w_v_from_4 w_v_to_4 v_fault w_v_readFault_4 v_traits w_v_length_4 w_v_open_4 w_v_leaks_4 v_places v_models)), ((am 10), .inl (cA 3, 200, .inl f_tape))]) hP hD hS hA [5, 0] (by decide) rfl
        refine va_calli (va_runV (As := [.int 42]) (rest := []) ⟨hx, hb, hml, hown, hts⟩ (k_X9_isSign l dC dI cA H.size am v_status v_now v_told v_merges v_taped v_size w_v_from_4 w_v_to_4 v_fault w_v_readFault_4 v_traits w_v_length_4 w_v_open_4 w_v_leaks_4 v_places v_models f_tape 42 i_v_now i_v_told i_v_taped i_v_size hv0_4 hv1_4 i_v_traits hv2_4 hv3_4 i_v_places i_v_models (by omega)) (cwV 1 hts gX9_term_X9_isSign rfl rfl rfl (by decide +kernel) ⟨Nat.le_of_ble_eq_true rfl, Nat.le_of_ble_eq_true rfl⟩) ⟨fun a U g mk q => by obtain ⟨q0, q1, qP, qK, qD, qN⟩ := q; exact ⟨q0, q1, qP, va_K.moved (u := U) (U := U.calling g mk a) (Vm.Alike.refl U.vm) qK, qD, qN.same rfl⟩, va_recv hK hPc (ci := 9) (q0 := 0) rfl rfl, fun U hU hW => ⟨rfl, by rw [hU], by rw [hU]; exact hPc, va_K.moved hW.alike hK, hDc.weaken (fun _ _ _ _ => trivial), hN.warm hW⟩⟩ rfl rfl hl.1 rfl (lv_room (Nat.le_of_ble_eq_true rfl)) dX9_term_14 ⟨Nat.le_of_ble_eq_true rfl, Nat.le_of_ble_eq_true rfl⟩) hS (fun q _ h => hFc q h) hFc (fun r_28 u_29 t H1 locs ht hvm hw_30 hB hz1 hk1 hS => ?_)
        try dsimp only at hw_30 hB
        obtain ⟨po_31, tw_32⟩ := hw_30
        try simp only [hk_27] at po_31 tw_32
        obtain ⟨hP1, hD1⟩ := hB
        rw [ht] at hP1
        obtain ⟨hP, hD⟩ := va_join (wr := [((am 13), .inl (cA 0, 5000, .inl w_f_step_4)), ((am 14), .inl (cA 0, 5000, .inl w_f_stepA_4)), ((am 15), .inl (cA 0, 5000, .inl w_f_stepB_4)), ((am 16), .inl (cA 0, 5000, .inl w_f_stepC_4))]) (w1 := [((am 0), .inr (9, F9 am v_status v_now v_told v_merges v_taped v_size w_v_from_4 w_v_to_4 v_fault w_v_readFault_4 v_traits w_v_length_4 w_v_open_4 w_v_leaks_4 v_places v_models)), ((am 10), .inl (cA 3, 200, .inl f_tape))]) hP hD [5, 0] [1, 2, 3, 4] hCc rfl (by decide) (by decide) hk1 hFc hP1 hD1
        clear hz1
        generalize H1 = H at hP hS ⊢
        refine lv_if_ne (tgt := 29) hx hb dX9_term_17 (by decide) (fun c_33 => ?_) (fun c_33 => ?_)
        · have dc_33 : ¬ r_28.toInt = 0 := jI_ne c_33 rfl (by decide)
          replace po_31 := sg_y po_31 dc_33
          refine lv_aload_n hx hb dX9_term_29 rfl (lv_at hl 0 rfl) ?_
          refine lv_bipush (v := 42) hx hb dX9_term_30 (by decide) ?_
          have hk_34 : (42 : Int32).toInt = 42 := by decide
          obtain ⟨hPc, hDc, hFc, hCc⟩ := va_pre (ws' := [((am 0), .inr (9, F9 am v_status v_now v_told v_merges v_taped v_size w_v_from_4 w_v_to_4 v_fault w_v_readFault_4 v_traits w_v_length_4 w_v_open_4 w_v_leaks_4 v_places v_models)), ((am 10), .inl (cA 3, 200, .inl f_tape))]) hP hD hS hA [4, 5] (by decide) rfl
          refine va_calli (va_runV (As := [.int 42]) (rest := []) ⟨hx, hb, hml, hown, hts⟩ (k_X9_isSign l dC dI cA H.size am v_status v_now v_told v_merges v_taped v_size w_v_from_4 w_v_to_4 v_fault w_v_readFault_4 v_traits w_v_length_4 w_v_open_4 w_v_leaks_4 v_places v_models f_tape 42 i_v_now i_v_told i_v_taped i_v_size hv0_4 hv1_4 i_v_traits hv2_4 hv3_4 i_v_places i_v_models (by omega)) (cwV 1 hts gX9_term_X9_isSign rfl rfl rfl (by decide +kernel) ⟨Nat.le_of_ble_eq_true rfl, Nat.le_of_ble_eq_true rfl⟩) ⟨fun a U g mk q => by obtain ⟨q0, q1, qP, qK, qD, qN⟩ := q; exact ⟨q0, q1, qP, va_K.moved (u := U) (U := U.calling g mk a) (Vm.Alike.refl U.vm) qK, qD, qN.same rfl⟩, va_recv hK hPc (ci := 9) (q0 := 0) rfl rfl, fun U hU hW => ⟨rfl, by rw [hU], by rw [hU]; exact hPc, va_K.moved hW.alike hK, hDc.weaken (fun _ _ _ _ => trivial), hN.warm hW⟩⟩ rfl rfl hl.1 rfl (lv_room (Nat.le_of_ble_eq_true rfl)) dX9_term_32 ⟨Nat.le_of_ble_eq_true rfl, Nat.le_of_ble_eq_true rfl⟩) hS (fun q _ h => hFc q h) hFc (fun r_35 u_36 t H1 locs ht hvm hw_37 hB hz1 hk1 hS => ?_)
          try dsimp only at hw_37 hB
          obtain ⟨po_38, tw_39⟩ := hw_37
          try simp only [hk_34] at po_38 tw_39
          obtain ⟨hP1, hD1⟩ := hB
          rw [ht] at hP1
          obtain ⟨hP, hD⟩ := va_join (wr := [((am 13), .inl (cA 0, 5000, .inl w_f_step_4)), ((am 14), .inl (cA 0, 5000, .inl w_f_stepA_4)), ((am 15), .inl (cA 0, 5000, .inl w_f_stepB_4)), ((am 16), .inl (cA 0, 5000, .inl w_f_stepC_4))]) (w1 := [((am 0), .inr (9, F9 am v_status v_now v_told v_merges v_taped v_size w_v_from_4 w_v_to_4 v_fault w_v_readFault_4 v_traits w_v_length_4 w_v_open_4 w_v_leaks_4 v_places v_models)), ((am 10), .inl (cA 3, 200, .inl f_tape))]) hP hD [4, 5] [0, 1, 2, 3] hCc rfl (by decide) (by decide) hk1 hFc hP1 hD1
          clear hz1
          generalize H1 = H at hP hS ⊢
          refine lv_istore_n (lv' := [(1, .int r_35), (0, .ref (am 0))]) hx hb dX9_term_35 rfl hl (by decide) rfl (fun ls hl => ?_)
          refine lv_aload_n hx hb dX9_term_36 rfl (lv_at hl 1 rfl) ?_
          obtain ⟨hPc, hDc, hFc, hCc⟩ := va_pre (ws' := [((am 0), .inr (9, F9 am v_status v_now v_told v_merges v_taped v_size w_v_from_4 w_v_to_4 v_fault w_v_readFault_4 v_traits w_v_length_4 w_v_open_4 w_v_leaks_4 v_places v_models)), ((am 10), .inl (cA 3, 200, .inl f_tape))]) hP hD hS hA [4, 5] (by decide) rfl
          refine va_callv (va_runV (As := []) (rest := []) ⟨hx, hb, hml, hown, hts⟩ (k_X9_next l dC dI cA H.size am v_status v_now v_told v_merges v_taped v_size w_v_from_4 w_v_to_4 v_fault w_v_readFault_4 v_traits w_v_length_4 w_v_open_4 w_v_leaks_4 v_places v_models f_tape i_v_now i_v_told i_v_taped i_v_size hv0_4 hv1_4 i_v_traits hv2_4 hv3_4 i_v_places i_v_models (by omega)) (cwV 0 hts gX9_term_X9_next rfl rfl rfl (by decide +kernel) ⟨Nat.le_of_ble_eq_true rfl, Nat.le_of_ble_eq_true rfl⟩) ⟨fun a U g mk q => by obtain ⟨q0, q1, qP, qK, qD, qN⟩ := q; exact ⟨q0, q1, qP, va_K.moved (u := U) (U := U.calling g mk a) (Vm.Alike.refl U.vm) qK, qD, qN.same rfl⟩, va_recv hK hPc (ci := 9) (q0 := 0) rfl rfl, fun U hU hW => ⟨rfl, by rw [hU], by rw [hU]; exact hPc, va_K.moved hW.alike hK, hDc.weaken (fun _ _ _ _ => trivial), hN.warm hW⟩⟩ rfl rfl hl.1 rfl (lv_room (Nat.le_of_ble_eq_true rfl)) dX9_term_37 ⟨Nat.le_of_ble_eq_true rfl, Nat.le_of_ble_eq_true rfl⟩) hS (fun q _ h => hFc q h) hFc (fun u_40 t H1 locs ht hvm hw_41 hB hz1 hk1 hS => ?_)
          obtain ⟨w_42, w_43⟩ := u_40
          try dsimp only at hw_41 hB
          obtain ⟨iv_44, iv_45, po_46, tk_47, ad_48⟩ := hw_41
          obtain ⟨hP1, hD1⟩ := hB
          rw [ht] at hP1
          obtain ⟨hP, hD⟩ := va_join (wr := [((am 13), .inl (cA 0, 5000, .inl w_f_step_4)), ((am 14), .inl (cA 0, 5000, .inl w_f_stepA_4)), ((am 15), .inl (cA 0, 5000, .inl w_f_stepB_4)), ((am 16), .inl (cA 0, 5000, .inl w_f_stepC_4))]) (w1 := [((am 0), .inr (9, F9 am v_status v_now v_told v_merges v_taped v_size w_42 w_43 v_fault w_v_readFault_4 v_traits w_v_length_4 w_v_open_4 w_v_leaks_4 v_places v_models)), ((am 10), .inl (cA 3, 200, .inl f_tape))]) hP hD [4, 5] [0, 1, 2, 3] hCc rfl (by decide) (by decide) hk1 hFc hP1 hD1
          clear hz1
          generalize H1 = H at hP hS ⊢
          refine lv_aload_n hx hb dX9_term_40 rfl (lv_at hl 1 rfl) ?_
          obtain ⟨hPc, hDc, hFc, hCc⟩ := va_pre (ws' := [((am 0), .inr (9, F9 am v_status v_now v_told v_merges v_taped v_size w_42 w_43 v_fault w_v_readFault_4 v_traits w_v_length_4 w_v_open_4 w_v_leaks_4 v_places v_models)), ((am 10), .inl (cA 3, 200, .inl f_tape)), ((am 13), .inl (cA 0, 5000, .inl w_f_step_4)), ((am 14), .inl (cA 0, 5000, .inl w_f_stepA_4)), ((am 15), .inl (cA 0, 5000, .inl w_f_stepB_4)), ((am 16), .inl (cA 0, 5000, .inl w_f_stepC_4))]) hP hD hS hA [4, 5, 0, 1, 2, 3] (by decide) rfl
          refine va_callv (va_runV (As := []) (rest := []) ⟨hx, hb, hml, hown, hts⟩ (k_X9_part l dC dI cA H.size am v_status v_now v_told v_merges v_taped v_size w_42 w_43 v_fault w_v_readFault_4 v_traits w_v_length_4 w_v_open_4 w_v_leaks_4 v_places v_models f_tape w_f_step_4 w_f_stepA_4 w_f_stepB_4 w_f_stepC_4 rl FR LO i_v_now i_v_told i_v_taped i_v_size iv_44 iv_45 i_v_traits hv2_4 hv3_4 i_v_places i_v_models htr (by omega) tk_47 (by omega) (by omega) hv6_4.2.2.1 (by omega) ih) (cwV 0 hts gX9_term_X9_part rfl rfl rfl (by decide +kernel) ⟨(show (FR + 5) + 1 ≤ FR + 6 from fl_a (F := FR) (a := 5) (b := 1) (c := 6) (by decide)), (show 8 + (2 + 11) + (LO + 114) ≤ LO + 135 from fl_c (F := LO) (a := 8 + (2 + 11)) (b := 114) (c := 135) (by decide))⟩) ⟨fun a U g mk q => by obtain ⟨q0, q1, qP, qK, qD, qN⟩ := q; exact ⟨q0, q1, qP, va_K.moved (u := U) (U := U.calling g mk a) (Vm.Alike.refl U.vm) qK, qD, qN.same rfl⟩, va_recv hK hPc (ci := 9) (q0 := 0) rfl rfl, fun U hU hW => ⟨rfl, by rw [hU], by rw [hU]; exact hPc, va_K.moved hW.alike hK, hDc.weaken (fun _ _ _ _ => trivial), hN.warm hW⟩⟩ rfl rfl hl.1 rfl (lv_room (Nat.le_of_ble_eq_true rfl)) dX9_term_41 ⟨(show 0 + 0 ≤ 0 by omega), (show 0 + 0 ≤ 0 by omega)⟩) hS (fun q _ h => hFc q h) hFc (fun u_49 t H1 locs ht hvm hw_50 hB hz1 hk1 hS => ?_)
          obtain ⟨w_51, w_52, w_53, w_54, w_55, w_56, w_57, w_58, w_59, w_60⟩ := u_49
          try dsimp only at hw_50 hB
          obtain ⟨iv_61, iv_62, iv_63, iv_64, po_65, tk_66, pg_67, rs_68⟩ := hw_50
          obtain ⟨hP1, hD1⟩ := hB
          rw [ht] at hP1
          obtain ⟨hP, hD⟩ := va_join (wr := []) (w1 := [((am 0), .inr (9, F9 am v_status v_now v_told v_merges v_taped v_size w_51 w_52 v_fault w_53 v_traits w_54 w_55 w_56 v_places v_models)), ((am 10), .inl (cA 3, 200, .inl f_tape)), ((am 13), .inl (cA 0, 5000, .inl w_57)), ((am 14), .inl (cA 0, 5000, .inl w_58)), ((am 15), .inl (cA 0, 5000, .inl w_59)), ((am 16), .inl (cA 0, 5000, .inl w_60))]) hP hD [4, 5, 0, 1, 2, 3] [] hCc rfl (by decide) (by decide) hk1 hFc hP1 hD1
          clear hz1
          generalize H1 = H at hP hS ⊢
          refine lv_aload_n hx hb dX9_term_44 rfl (lv_at hl 1 rfl) ?_
          obtain ⟨hPc, hDc, hFc, hCc⟩ := va_pre (ws' := [((am 0), .inr (9, F9 am v_status v_now v_told v_merges v_taped v_size w_51 w_52 v_fault w_53 v_traits w_54 w_55 w_56 v_places v_models))]) hP hD hS hA [0] (by decide) rfl
          refine va_calli (va_runV (As := []) (rest := []) ⟨hx, hb, hml, hown, hts⟩ (k_X9_good l dC dI cA H.size am v_status v_now v_told v_merges v_taped v_size w_51 w_52 v_fault w_53 v_traits w_54 w_55 w_56 v_places v_models i_v_now i_v_told i_v_taped i_v_size iv_61 iv_62 i_v_traits iv_63 iv_64 i_v_places i_v_models) (cwV 0 hts gX9_term_X9_good rfl rfl rfl (by decide +kernel) ⟨Nat.le_of_ble_eq_true rfl, Nat.le_of_ble_eq_true rfl⟩) ⟨fun a U g mk q => by obtain ⟨q0, q1, qP, qK, qD, qN⟩ := q; exact ⟨q0, q1, qP, va_K.moved (u := U) (U := U.calling g mk a) (Vm.Alike.refl U.vm) qK, qD, qN.same rfl⟩, va_recv hK hPc (ci := 9) (q0 := 0) rfl rfl, fun U hU hW => ⟨rfl, by rw [hU], by rw [hU]; exact hPc, va_K.moved hW.alike hK, hDc.weaken (fun _ _ _ _ => trivial), hN.warm hW⟩⟩ rfl rfl hl.1 rfl (lv_room (Nat.le_of_ble_eq_true rfl)) dX9_term_45 ⟨Nat.le_of_ble_eq_true rfl, Nat.le_of_ble_eq_true rfl⟩) hS (fun q _ h => hFc q h) hFc (fun r_69 u_70 t H1 locs ht hvm hw_71 hB hz1 hk1 hS => ?_)
          try dsimp only at hw_71 hB
          have po_72 := hw_71
          clear hw_71
          obtain ⟨hP1, hD1⟩ := hB
          rw [ht] at hP1
          obtain ⟨hP, hD⟩ := va_join (wr := [((am 10), .inl (cA 3, 200, .inl f_tape)), ((am 13), .inl (cA 0, 5000, .inl w_57)), ((am 14), .inl (cA 0, 5000, .inl w_58)), ((am 15), .inl (cA 0, 5000, .inl w_59)), ((am 16), .inl (cA 0, 5000, .inl w_60))]) (w1 := [((am 0), .inr (9, F9 am v_status v_now v_told v_merges v_taped v_size w_51 w_52 v_fault w_53 v_traits w_54 w_55 w_56 v_places v_models))]) hP hD [0] [1, 2, 3, 4, 5] hCc rfl (by decide) (by decide) hk1 hFc hP1 hD1
          clear hz1
          generalize H1 = H at hP hS ⊢
          refine lv_if_eq (tgt := 67) hx hb dX9_term_48 (by decide) (fun c_73 => ?_) (fun c_73 => ?_)
          · have dc_73 : r_69.toInt = 0 := jI_eq c_73 rfl (by decide)
            replace po_72 := gd_n po_72 dc_73
            replace po_65 := im7_n po_65
            refine lv_goto (tgt := 4) hx hb dX9_term_67 (by decide) ?_
            exact ih_4 w_51 w_52 w_53 w_54 w_55 w_56 w_57 w_58 w_59 w_60 _ _ ls (by omega) iv_61 iv_62 iv_63 iv_64 (by omega) (tk_66) (prg_bad hv6_4 pg_67 (by omega)) (lpI_s hv7_4 (by omega) (Or.inl (tw_32.mp dc_33)) (by omega) (by omega) ad_48.1 ad_48.2 (by have h9 := rs_68; rw [show (8 - w_v_open_4.toInt).toNat = (8 - v_open.toInt).toNat by omega] at h9; exact h9)) (hP.sub [5, 0, 1, 2, 3, 4] rfl) (hD.sub [5, 0, 1, 2, 3, 4] (by decide) rfl) hS (lv_sub hl [1] rfl)
          · have dc_73 : ¬ r_69.toInt = 0 := jI_ne c_73 rfl (by decide)
            replace po_72 := gd_y po_72 dc_73
            replace po_65 := im7_y po_65 po_72
            refine lv_aload_n hx hb dX9_term_51 rfl (lv_at hl 1 rfl) ?_
            refine lv_iload_n hx hb dX9_term_52 rfl (lv_at hl 0 rfl) ?_
            refine lv_if_eq (tgt := 60) hx hb dX9_term_53 (by decide) (fun c_74 => ?_) (fun c_74 => ?_)
            · have dc_74 : r_35.toInt = 0 := jI_eq c_74 rfl (by decide)
              replace po_38 := sg_n po_38
              refine lv_iconst (v := 4) hx hb dX9_term_60 (by decide) ?_
              refine lv_iconst (v := 0) hx hb dX9_term_61 (by decide) ?_
              refine lv_iconst (v := 0) hx hb dX9_term_62 (by decide) ?_
              refine lv_iconst (v := 0) hx hb dX9_term_63 (by decide) ?_
              have hk_75 : (4 : Int32).toInt = 4 := by decide
              have hk_76 : (0 : Int32).toInt = 0 := by decide
              obtain ⟨hPc, hDc, hFc, hCc⟩ := va_pre (ws' := [((am 0), .inr (9, F9 am v_status v_now v_told v_merges v_taped v_size w_51 w_52 v_fault w_53 v_traits w_54 w_55 w_56 v_places v_models)), ((am 13), .inl (cA 0, 5000, .inl w_57)), ((am 14), .inl (cA 0, 5000, .inl w_58)), ((am 15), .inl (cA 0, 5000, .inl w_59)), ((am 16), .inl (cA 0, 5000, .inl w_60))]) hP hD hS hA [5, 1, 2, 3, 4] (by decide) rfl
              refine va_callv (va_runV (As := [.int 4, .int 0, .int 0, .int 0]) (rest := []) ⟨hx, hb, hml, hown, hts⟩ (k_X9_puts l dC dI cA H.size am v_status v_now v_told v_merges v_taped v_size w_51 w_52 v_fault w_53 v_traits w_54 w_55 w_56 v_places v_models w_57 w_58 w_59 w_60 4 0 0 0 i_v_now i_v_told i_v_taped i_v_size iv_61 iv_62 i_v_traits iv_63 iv_64 i_v_places i_v_models htr (by omega)) (cwV 4 hts gX9_term_X9_puts rfl rfl rfl (by decide +kernel) ⟨Nat.le_of_ble_eq_true rfl, Nat.le_of_ble_eq_true rfl⟩) ⟨fun a U g mk q => by obtain ⟨q0, q1, qP, qK, qD, qN⟩ := q; exact ⟨q0, q1, qP, va_K.moved (u := U) (U := U.calling g mk a) (Vm.Alike.refl U.vm) qK, qD, qN.same rfl⟩, va_recv hK hPc (ci := 9) (q0 := 0) rfl rfl, fun U hU hW => ⟨rfl, by rw [hU], by rw [hU]; exact hPc, va_K.moved hW.alike hK, hDc.weaken (fun _ _ _ _ => trivial), hN.warm hW⟩⟩ rfl rfl hl.1 rfl (lv_room (Nat.le_of_ble_eq_true rfl)) dX9_term_64 ⟨Nat.le_of_ble_eq_true rfl, Nat.le_of_ble_eq_true rfl⟩) hS (fun q _ h => hFc q h) hFc (fun u_77 t H1 locs ht hvm hw_78 hB hz1 hk1 hS => ?_)
              obtain ⟨w_79, w_80, w_81, w_82, w_83⟩ := u_77
              try dsimp only at hw_78 hB
              obtain ⟨iv_84, po_85, es_86, eA_87⟩ := hw_78
              try simp only [hk_75, hk_76] at po_85 es_86 eA_87
              obtain ⟨hP1, hD1⟩ := hB
              rw [ht] at hP1
              obtain ⟨hP, hD⟩ := va_join (wr := [((am 10), .inl (cA 3, 200, .inl f_tape))]) (w1 := [((am 0), .inr (9, F9 am v_status v_now v_told v_merges v_taped v_size w_51 w_52 v_fault w_53 v_traits w_79 w_55 w_56 v_places v_models)), ((am 13), .inl (cA 0, 5000, .inl w_80)), ((am 14), .inl (cA 0, 5000, .inl w_81)), ((am 15), .inl (cA 0, 5000, .inl w_82)), ((am 16), .inl (cA 0, 5000, .inl w_83))]) hP hD [5, 1, 2, 3, 4] [0] hCc rfl (by decide) (by decide) hk1 hFc hP1 hD1
              clear hz1
              generalize H1 = H at hP hS ⊢
              refine lv_goto (tgt := 4) hx hb dX9_term_67 (by decide) ?_
              exact ih_4 w_51 w_52 w_53 w_79 w_55 w_56 w_80 w_81 w_82 w_83 _ _ ls (by omega) iv_61 iv_62 iv_84 iv_64 (by omega) (tk_66) (prg_op hwp hv6_4 (by omega) pg_67 (by omega) (by first | omega | decide) es_86 eA_87 (by omega)) (lpI_s hv7_4 (by omega) (Or.inl (tw_32.mp dc_33)) (by omega) (by omega) ad_48.1 ad_48.2 (by have h9 := rs_68; rw [show (8 - w_v_open_4.toInt).toNat = (8 - v_open.toInt).toNat by omega] at h9; rw [orb_0 (by first | omega | decide) es_86 eA_87 (by omega)]; exact h9)) (hP.sub [1, 0, 2, 3, 4, 5] rfl) (hD.sub [1, 0, 2, 3, 4, 5] (by decide) rfl) hS (lv_sub hl [1] rfl)
            · have dc_74 : ¬ r_35.toInt = 0 := jI_ne c_74 rfl (by decide)
              replace po_38 := sg_y po_38 dc_74
              refine lv_iconst (v := 3) hx hb dX9_term_56 (by decide) ?_
              refine lv_goto (tgt := 61) hx hb dX9_term_57 (by decide) ?_
              refine lv_iconst (v := 0) hx hb dX9_term_61 (by decide) ?_
              refine lv_iconst (v := 0) hx hb dX9_term_62 (by decide) ?_
              refine lv_iconst (v := 0) hx hb dX9_term_63 (by decide) ?_
              have hk_88 : (3 : Int32).toInt = 3 := by decide
              have hk_89 : (0 : Int32).toInt = 0 := by decide
              obtain ⟨hPc, hDc, hFc, hCc⟩ := va_pre (ws' := [((am 0), .inr (9, F9 am v_status v_now v_told v_merges v_taped v_size w_51 w_52 v_fault w_53 v_traits w_54 w_55 w_56 v_places v_models)), ((am 13), .inl (cA 0, 5000, .inl w_57)), ((am 14), .inl (cA 0, 5000, .inl w_58)), ((am 15), .inl (cA 0, 5000, .inl w_59)), ((am 16), .inl (cA 0, 5000, .inl w_60))]) hP hD hS hA [5, 1, 2, 3, 4] (by decide) rfl
              refine va_callv (va_runV (As := [.int 3, .int 0, .int 0, .int 0]) (rest := []) ⟨hx, hb, hml, hown, hts⟩ (k_X9_puts l dC dI cA H.size am v_status v_now v_told v_merges v_taped v_size w_51 w_52 v_fault w_53 v_traits w_54 w_55 w_56 v_places v_models w_57 w_58 w_59 w_60 3 0 0 0 i_v_now i_v_told i_v_taped i_v_size iv_61 iv_62 i_v_traits iv_63 iv_64 i_v_places i_v_models htr (by omega)) (cwV 4 hts gX9_term_X9_puts rfl rfl rfl (by decide +kernel) ⟨Nat.le_of_ble_eq_true rfl, Nat.le_of_ble_eq_true rfl⟩) ⟨fun a U g mk q => by obtain ⟨q0, q1, qP, qK, qD, qN⟩ := q; exact ⟨q0, q1, qP, va_K.moved (u := U) (U := U.calling g mk a) (Vm.Alike.refl U.vm) qK, qD, qN.same rfl⟩, va_recv hK hPc (ci := 9) (q0 := 0) rfl rfl, fun U hU hW => ⟨rfl, by rw [hU], by rw [hU]; exact hPc, va_K.moved hW.alike hK, hDc.weaken (fun _ _ _ _ => trivial), hN.warm hW⟩⟩ rfl rfl hl.1 rfl (lv_room (Nat.le_of_ble_eq_true rfl)) dX9_term_64 ⟨Nat.le_of_ble_eq_true rfl, Nat.le_of_ble_eq_true rfl⟩) hS (fun q _ h => hFc q h) hFc (fun u_90 t H1 locs ht hvm hw_91 hB hz1 hk1 hS => ?_)
              obtain ⟨w_92, w_93, w_94, w_95, w_96⟩ := u_90
              try dsimp only at hw_91 hB
              obtain ⟨iv_97, po_98, es_99, eA_100⟩ := hw_91
              try simp only [hk_88, hk_89] at po_98 es_99 eA_100
              obtain ⟨hP1, hD1⟩ := hB
              rw [ht] at hP1
              obtain ⟨hP, hD⟩ := va_join (wr := [((am 10), .inl (cA 3, 200, .inl f_tape))]) (w1 := [((am 0), .inr (9, F9 am v_status v_now v_told v_merges v_taped v_size w_51 w_52 v_fault w_53 v_traits w_92 w_55 w_56 v_places v_models)), ((am 13), .inl (cA 0, 5000, .inl w_93)), ((am 14), .inl (cA 0, 5000, .inl w_94)), ((am 15), .inl (cA 0, 5000, .inl w_95)), ((am 16), .inl (cA 0, 5000, .inl w_96))]) hP hD [5, 1, 2, 3, 4] [0] hCc rfl (by decide) (by decide) hk1 hFc hP1 hD1
              clear hz1
              generalize H1 = H at hP hS ⊢
              refine lv_goto (tgt := 4) hx hb dX9_term_67 (by decide) ?_
              exact ih_4 w_51 w_52 w_53 w_92 w_55 w_56 w_93 w_94 w_95 w_96 _ _ ls (by omega) iv_61 iv_62 iv_97 iv_64 (by omega) (tk_66) (prg_op hwp hv6_4 (by omega) pg_67 (by omega) (by first | omega | decide) es_99 eA_100 (by omega)) (lpI_s hv7_4 (by omega) (Or.inl (tw_32.mp dc_33)) (by omega) (by omega) ad_48.1 ad_48.2 (by have h9 := rs_68; rw [show (8 - w_v_open_4.toInt).toNat = (8 - v_open.toInt).toNat by omega] at h9; rw [orb_0 (by first | omega | decide) es_99 eA_100 (by omega)]; exact h9)) (hP.sub [1, 0, 2, 3, 4, 5] rfl) (hD.sub [1, 0, 2, 3, 4, 5] (by decide) rfl) hS (lv_sub hl [1] rfl)
        · have dc_33 : r_28.toInt = 0 := jI_eq c_33 rfl (by decide)
          replace po_31 := sg_n po_31
          refine lv_aload_n hx hb dX9_term_20 rfl (lv_at hl 0 rfl) ?_
          refine lv_bipush (v := 47) hx hb dX9_term_21 (by decide) ?_
          have hk_101 : (47 : Int32).toInt = 47 := by decide
          obtain ⟨hPc, hDc, hFc, hCc⟩ := va_pre (ws' := [((am 0), .inr (9, F9 am v_status v_now v_told v_merges v_taped v_size w_v_from_4 w_v_to_4 v_fault w_v_readFault_4 v_traits w_v_length_4 w_v_open_4 w_v_leaks_4 v_places v_models)), ((am 10), .inl (cA 3, 200, .inl f_tape))]) hP hD hS hA [4, 5] (by decide) rfl
          refine va_calli (va_runV (As := [.int 47]) (rest := []) ⟨hx, hb, hml, hown, hts⟩ (k_X9_isSign l dC dI cA H.size am v_status v_now v_told v_merges v_taped v_size w_v_from_4 w_v_to_4 v_fault w_v_readFault_4 v_traits w_v_length_4 w_v_open_4 w_v_leaks_4 v_places v_models f_tape 47 i_v_now i_v_told i_v_taped i_v_size hv0_4 hv1_4 i_v_traits hv2_4 hv3_4 i_v_places i_v_models (by omega)) (cwV 1 hts gX9_term_X9_isSign rfl rfl rfl (by decide +kernel) ⟨Nat.le_of_ble_eq_true rfl, Nat.le_of_ble_eq_true rfl⟩) ⟨fun a U g mk q => by obtain ⟨q0, q1, qP, qK, qD, qN⟩ := q; exact ⟨q0, q1, qP, va_K.moved (u := U) (U := U.calling g mk a) (Vm.Alike.refl U.vm) qK, qD, qN.same rfl⟩, va_recv hK hPc (ci := 9) (q0 := 0) rfl rfl, fun U hU hW => ⟨rfl, by rw [hU], by rw [hU]; exact hPc, va_K.moved hW.alike hK, hDc.weaken (fun _ _ _ _ => trivial), hN.warm hW⟩⟩ rfl rfl hl.1 rfl (lv_room (Nat.le_of_ble_eq_true rfl)) dX9_term_23 ⟨Nat.le_of_ble_eq_true rfl, Nat.le_of_ble_eq_true rfl⟩) hS (fun q _ h => hFc q h) hFc (fun r_102 u_103 t H1 locs ht hvm hw_104 hB hz1 hk1 hS => ?_)
          try dsimp only at hw_104 hB
          obtain ⟨po_105, tw_106⟩ := hw_104
          try simp only [hk_101] at po_105 tw_106
          obtain ⟨hP1, hD1⟩ := hB
          rw [ht] at hP1
          obtain ⟨hP, hD⟩ := va_join (wr := [((am 13), .inl (cA 0, 5000, .inl w_f_step_4)), ((am 14), .inl (cA 0, 5000, .inl w_f_stepA_4)), ((am 15), .inl (cA 0, 5000, .inl w_f_stepB_4)), ((am 16), .inl (cA 0, 5000, .inl w_f_stepC_4))]) (w1 := [((am 0), .inr (9, F9 am v_status v_now v_told v_merges v_taped v_size w_v_from_4 w_v_to_4 v_fault w_v_readFault_4 v_traits w_v_length_4 w_v_open_4 w_v_leaks_4 v_places v_models)), ((am 10), .inl (cA 3, 200, .inl f_tape))]) hP hD [4, 5] [0, 1, 2, 3] hCc rfl (by decide) (by decide) hk1 hFc hP1 hD1
          clear hz1
          generalize H1 = H at hP hS ⊢
          refine lv_if_eq (tgt := 70) hx hb dX9_term_26 (by decide) (fun c_107 => ?_) (fun c_107 => ?_)
          · have dc_107 : r_102.toInt = 0 := jI_eq c_107 rfl (by decide)
            replace po_105 := sg_n po_105
            obtain ⟨hP9, hD9⟩ := va_pd (ws' := [((am 0), .inr (9, F9 am v_status v_now v_told v_merges v_taped v_size w_v_from_4 w_v_to_4 v_fault w_v_readFault_4 v_traits w_v_length_4 w_v_open_4 w_v_leaks_4 v_places v_models)), ((am 10), .inl (cA 3, 200, .inl f_tape)), ((am 13), .inl (cA 0, 5000, .inl w_f_step_4)), ((am 14), .inl (cA 0, 5000, .inl w_f_stepA_4)), ((am 15), .inl (cA 0, 5000, .inl w_f_stepB_4)), ((am 16), .inl (cA 0, 5000, .inl w_f_stepC_4))]) hP hD [4, 5, 0, 1, 2, 3] (by decide) rfl
            subst hQe
            have hpost : (0 ≤ w_v_from_4.toInt ∧ w_v_from_4.toInt ≤ 200) ∧ (0 ≤ w_v_to_4.toInt ∧ w_v_to_4.toInt ≤ 200) ∧ (0 ≤ w_v_length_4.toInt ∧ w_v_length_4.toInt ≤ 200) ∧ (0 ≤ w_v_open_4.toInt ∧ w_v_open_4.toInt ≤ 8) ∧ (v_from.toInt ≤ w_v_from_4.toInt ∧ w_v_from_4.toInt ≤ w_v_to_4.toInt ∧ w_v_to_4.toInt ≤ v_size.toInt ∧ (w_v_from_4.toInt < v_size.toInt → w_v_from_4.toInt < w_v_to_4.toInt) ∧ w_v_length_4.toInt - v_length.toInt ≤ w_v_from_4.toInt - v_from.toInt ∧ v_length.toInt ≤ w_v_length_4.toInt ∧ (w_v_readFault_4.toInt = (-1) → w_v_open_4.toInt = v_open.toInt)) ∧ (tokOK f_tape w_v_from_4 w_v_to_4 v_size) ∧ (prg f_step f_stepA w_f_step_4 w_f_stepA_4 (250 * v_traits.toInt.toNat) v_length.toInt.toNat w_v_length_4.toInt.toNat (w_v_readFault_4.toInt = (-1))) ∧ (rs w_v_readFault_4 w_v_from_4 w_v_to_4 w_v_leaks_4 (orb w_f_step_4 w_f_stepA_4 (250 * v_traits.toInt.toNat) w_v_length_4.toInt.toNat) = pterm (tpe f_tape v_size) v_size.toInt v_traits.toInt (pB (tpe f_tape v_size) v_size.toInt v_traits.toInt (8 - v_open.toInt).toNat) v_from.toInt v_to.toInt v_leaks.toInt (orb f_step f_stepA (250 * v_traits.toInt.toNat) v_length.toInt.toNat)) := ⟨hv0_4, hv1_4, hv2_4, hv3_4, by omega, hv5_4, prg_same hv6_4 (fun h => by omega), lpI_e hv7_4 (Or.inr (fun h => h.elim (fun h => absurd (tw_32.mpr h) (fun q => q dc_33)) (fun h => absurd (tw_106.mpr h) (fun q => q dc_107))))⟩
            exact W.vret hx hb hr (fun t ht hW => ⟨⟨(w_v_from_4, w_v_to_4, w_v_readFault_4, w_v_length_4, w_v_open_4, w_v_leaks_4, w_f_step_4, w_f_stepA_4, w_f_stepB_4, w_f_stepC_4), rfl, hpost, by rw [ht]; exact hP9, hD9⟩, hS.F ht⟩) hS.2.2 dX9_term_70
          · have dc_107 : ¬ r_102.toInt = 0 := jI_ne c_107 rfl (by decide)
            replace po_105 := sg_y po_105 dc_107
            refine lv_aload_n hx hb dX9_term_29 rfl (lv_at hl 0 rfl) ?_
            refine lv_bipush (v := 42) hx hb dX9_term_30 (by decide) ?_
            have hk_108 : (42 : Int32).toInt = 42 := by decide
            obtain ⟨hPc, hDc, hFc, hCc⟩ := va_pre (ws' := [((am 0), .inr (9, F9 am v_status v_now v_told v_merges v_taped v_size w_v_from_4 w_v_to_4 v_fault w_v_readFault_4 v_traits w_v_length_4 w_v_open_4 w_v_leaks_4 v_places v_models)), ((am 10), .inl (cA 3, 200, .inl f_tape))]) hP hD hS hA [4, 5] (by decide) rfl
            refine va_calli (va_runV (As := [.int 42]) (rest := []) ⟨hx, hb, hml, hown, hts⟩ (k_X9_isSign l dC dI cA H.size am v_status v_now v_told v_merges v_taped v_size w_v_from_4 w_v_to_4 v_fault w_v_readFault_4 v_traits w_v_length_4 w_v_open_4 w_v_leaks_4 v_places v_models f_tape 42 i_v_now i_v_told i_v_taped i_v_size hv0_4 hv1_4 i_v_traits hv2_4 hv3_4 i_v_places i_v_models (by omega)) (cwV 1 hts gX9_term_X9_isSign rfl rfl rfl (by decide +kernel) ⟨Nat.le_of_ble_eq_true rfl, Nat.le_of_ble_eq_true rfl⟩) ⟨fun a U g mk q => by obtain ⟨q0, q1, qP, qK, qD, qN⟩ := q; exact ⟨q0, q1, qP, va_K.moved (u := U) (U := U.calling g mk a) (Vm.Alike.refl U.vm) qK, qD, qN.same rfl⟩, va_recv hK hPc (ci := 9) (q0 := 0) rfl rfl, fun U hU hW => ⟨rfl, by rw [hU], by rw [hU]; exact hPc, va_K.moved hW.alike hK, hDc.weaken (fun _ _ _ _ => trivial), hN.warm hW⟩⟩ rfl rfl hl.1 rfl (lv_room (Nat.le_of_ble_eq_true rfl)) dX9_term_32 ⟨Nat.le_of_ble_eq_true rfl, Nat.le_of_ble_eq_true rfl⟩) hS (fun q _ h => hFc q h) hFc (fun r_109 u_110 t H1 locs ht hvm hw_111 hB hz1 hk1 hS => ?_)
            try dsimp only at hw_111 hB
            obtain ⟨po_112, tw_113⟩ := hw_111
            try simp only [hk_108] at po_112 tw_113
            obtain ⟨hP1, hD1⟩ := hB
            rw [ht] at hP1
            obtain ⟨hP, hD⟩ := va_join (wr := [((am 13), .inl (cA 0, 5000, .inl w_f_step_4)), ((am 14), .inl (cA 0, 5000, .inl w_f_stepA_4)), ((am 15), .inl (cA 0, 5000, .inl w_f_stepB_4)), ((am 16), .inl (cA 0, 5000, .inl w_f_stepC_4))]) (w1 := [((am 0), .inr (9, F9 am v_status v_now v_told v_merges v_taped v_size w_v_from_4 w_v_to_4 v_fault w_v_readFault_4 v_traits w_v_length_4 w_v_open_4 w_v_leaks_4 v_places v_models)), ((am 10), .inl (cA 3, 200, .inl f_tape))]) hP hD [4, 5] [0, 1, 2, 3] hCc rfl (by decide) (by decide) hk1 hFc hP1 hD1
            clear hz1
            generalize H1 = H at hP hS ⊢
            refine lv_istore_n (lv' := [(1, .int r_109), (0, .ref (am 0))]) hx hb dX9_term_35 rfl hl (by decide) rfl (fun ls hl => ?_)
            refine lv_aload_n hx hb dX9_term_36 rfl (lv_at hl 1 rfl) ?_
            obtain ⟨hPc, hDc, hFc, hCc⟩ := va_pre (ws' := [((am 0), .inr (9, F9 am v_status v_now v_told v_merges v_taped v_size w_v_from_4 w_v_to_4 v_fault w_v_readFault_4 v_traits w_v_length_4 w_v_open_4 w_v_leaks_4 v_places v_models)), ((am 10), .inl (cA 3, 200, .inl f_tape))]) hP hD hS hA [4, 5] (by decide) rfl
            refine va_callv (va_runV (As := []) (rest := []) ⟨hx, hb, hml, hown, hts⟩ (k_X9_next l dC dI cA H.size am v_status v_now v_told v_merges v_taped v_size w_v_from_4 w_v_to_4 v_fault w_v_readFault_4 v_traits w_v_length_4 w_v_open_4 w_v_leaks_4 v_places v_models f_tape i_v_now i_v_told i_v_taped i_v_size hv0_4 hv1_4 i_v_traits hv2_4 hv3_4 i_v_places i_v_models (by omega)) (cwV 0 hts gX9_term_X9_next rfl rfl rfl (by decide +kernel) ⟨Nat.le_of_ble_eq_true rfl, Nat.le_of_ble_eq_true rfl⟩) ⟨fun a U g mk q => by obtain ⟨q0, q1, qP, qK, qD, qN⟩ := q; exact ⟨q0, q1, qP, va_K.moved (u := U) (U := U.calling g mk a) (Vm.Alike.refl U.vm) qK, qD, qN.same rfl⟩, va_recv hK hPc (ci := 9) (q0 := 0) rfl rfl, fun U hU hW => ⟨rfl, by rw [hU], by rw [hU]; exact hPc, va_K.moved hW.alike hK, hDc.weaken (fun _ _ _ _ => trivial), hN.warm hW⟩⟩ rfl rfl hl.1 rfl (lv_room (Nat.le_of_ble_eq_true rfl)) dX9_term_37 ⟨Nat.le_of_ble_eq_true rfl, Nat.le_of_ble_eq_true rfl⟩) hS (fun q _ h => hFc q h) hFc (fun u_114 t H1 locs ht hvm hw_115 hB hz1 hk1 hS => ?_)
            obtain ⟨w_116, w_117⟩ := u_114
            try dsimp only at hw_115 hB
            obtain ⟨iv_118, iv_119, po_120, tk_121, ad_122⟩ := hw_115
            obtain ⟨hP1, hD1⟩ := hB
            rw [ht] at hP1
            obtain ⟨hP, hD⟩ := va_join (wr := [((am 13), .inl (cA 0, 5000, .inl w_f_step_4)), ((am 14), .inl (cA 0, 5000, .inl w_f_stepA_4)), ((am 15), .inl (cA 0, 5000, .inl w_f_stepB_4)), ((am 16), .inl (cA 0, 5000, .inl w_f_stepC_4))]) (w1 := [((am 0), .inr (9, F9 am v_status v_now v_told v_merges v_taped v_size w_116 w_117 v_fault w_v_readFault_4 v_traits w_v_length_4 w_v_open_4 w_v_leaks_4 v_places v_models)), ((am 10), .inl (cA 3, 200, .inl f_tape))]) hP hD [4, 5] [0, 1, 2, 3] hCc rfl (by decide) (by decide) hk1 hFc hP1 hD1
            clear hz1
            generalize H1 = H at hP hS ⊢
            refine lv_aload_n hx hb dX9_term_40 rfl (lv_at hl 1 rfl) ?_
            obtain ⟨hPc, hDc, hFc, hCc⟩ := va_pre (ws' := [((am 0), .inr (9, F9 am v_status v_now v_told v_merges v_taped v_size w_116 w_117 v_fault w_v_readFault_4 v_traits w_v_length_4 w_v_open_4 w_v_leaks_4 v_places v_models)), ((am 10), .inl (cA 3, 200, .inl f_tape)), ((am 13), .inl (cA 0, 5000, .inl w_f_step_4)), ((am 14), .inl (cA 0, 5000, .inl w_f_stepA_4)), ((am 15), .inl (cA 0, 5000, .inl w_f_stepB_4)), ((am 16), .inl (cA 0, 5000, .inl w_f_stepC_4))]) hP hD hS hA [4, 5, 0, 1, 2, 3] (by decide) rfl
            refine va_callv (va_runV (As := []) (rest := []) ⟨hx, hb, hml, hown, hts⟩ (k_X9_part l dC dI cA H.size am v_status v_now v_told v_merges v_taped v_size w_116 w_117 v_fault w_v_readFault_4 v_traits w_v_length_4 w_v_open_4 w_v_leaks_4 v_places v_models f_tape w_f_step_4 w_f_stepA_4 w_f_stepB_4 w_f_stepC_4 rl FR LO i_v_now i_v_told i_v_taped i_v_size iv_118 iv_119 i_v_traits hv2_4 hv3_4 i_v_places i_v_models htr (by omega) tk_121 (by omega) (by omega) hv6_4.2.2.1 (by omega) ih) (cwV 0 hts gX9_term_X9_part rfl rfl rfl (by decide +kernel) ⟨(show (FR + 5) + 1 ≤ FR + 6 from fl_a (F := FR) (a := 5) (b := 1) (c := 6) (by decide)), (show 8 + (2 + 11) + (LO + 114) ≤ LO + 135 from fl_c (F := LO) (a := 8 + (2 + 11)) (b := 114) (c := 135) (by decide))⟩) ⟨fun a U g mk q => by obtain ⟨q0, q1, qP, qK, qD, qN⟩ := q; exact ⟨q0, q1, qP, va_K.moved (u := U) (U := U.calling g mk a) (Vm.Alike.refl U.vm) qK, qD, qN.same rfl⟩, va_recv hK hPc (ci := 9) (q0 := 0) rfl rfl, fun U hU hW => ⟨rfl, by rw [hU], by rw [hU]; exact hPc, va_K.moved hW.alike hK, hDc.weaken (fun _ _ _ _ => trivial), hN.warm hW⟩⟩ rfl rfl hl.1 rfl (lv_room (Nat.le_of_ble_eq_true rfl)) dX9_term_41 ⟨(show 0 + 0 ≤ 0 by omega), (show 0 + 0 ≤ 0 by omega)⟩) hS (fun q _ h => hFc q h) hFc (fun u_123 t H1 locs ht hvm hw_124 hB hz1 hk1 hS => ?_)
            obtain ⟨w_125, w_126, w_127, w_128, w_129, w_130, w_131, w_132, w_133, w_134⟩ := u_123
            try dsimp only at hw_124 hB
            obtain ⟨iv_135, iv_136, iv_137, iv_138, po_139, tk_140, pg_141, rs_142⟩ := hw_124
            obtain ⟨hP1, hD1⟩ := hB
            rw [ht] at hP1
            obtain ⟨hP, hD⟩ := va_join (wr := []) (w1 := [((am 0), .inr (9, F9 am v_status v_now v_told v_merges v_taped v_size w_125 w_126 v_fault w_127 v_traits w_128 w_129 w_130 v_places v_models)), ((am 10), .inl (cA 3, 200, .inl f_tape)), ((am 13), .inl (cA 0, 5000, .inl w_131)), ((am 14), .inl (cA 0, 5000, .inl w_132)), ((am 15), .inl (cA 0, 5000, .inl w_133)), ((am 16), .inl (cA 0, 5000, .inl w_134))]) hP hD [4, 5, 0, 1, 2, 3] [] hCc rfl (by decide) (by decide) hk1 hFc hP1 hD1
            clear hz1
            generalize H1 = H at hP hS ⊢
            refine lv_aload_n hx hb dX9_term_44 rfl (lv_at hl 1 rfl) ?_
            obtain ⟨hPc, hDc, hFc, hCc⟩ := va_pre (ws' := [((am 0), .inr (9, F9 am v_status v_now v_told v_merges v_taped v_size w_125 w_126 v_fault w_127 v_traits w_128 w_129 w_130 v_places v_models))]) hP hD hS hA [0] (by decide) rfl
            refine va_calli (va_runV (As := []) (rest := []) ⟨hx, hb, hml, hown, hts⟩ (k_X9_good l dC dI cA H.size am v_status v_now v_told v_merges v_taped v_size w_125 w_126 v_fault w_127 v_traits w_128 w_129 w_130 v_places v_models i_v_now i_v_told i_v_taped i_v_size iv_135 iv_136 i_v_traits iv_137 iv_138 i_v_places i_v_models) (cwV 0 hts gX9_term_X9_good rfl rfl rfl (by decide +kernel) ⟨Nat.le_of_ble_eq_true rfl, Nat.le_of_ble_eq_true rfl⟩) ⟨fun a U g mk q => by obtain ⟨q0, q1, qP, qK, qD, qN⟩ := q; exact ⟨q0, q1, qP, va_K.moved (u := U) (U := U.calling g mk a) (Vm.Alike.refl U.vm) qK, qD, qN.same rfl⟩, va_recv hK hPc (ci := 9) (q0 := 0) rfl rfl, fun U hU hW => ⟨rfl, by rw [hU], by rw [hU]; exact hPc, va_K.moved hW.alike hK, hDc.weaken (fun _ _ _ _ => trivial), hN.warm hW⟩⟩ rfl rfl hl.1 rfl (lv_room (Nat.le_of_ble_eq_true rfl)) dX9_term_45 ⟨Nat.le_of_ble_eq_true rfl, Nat.le_of_ble_eq_true rfl⟩) hS (fun q _ h => hFc q h) hFc (fun r_143 u_144 t H1 locs ht hvm hw_145 hB hz1 hk1 hS => ?_)
            try dsimp only at hw_145 hB
            have po_146 := hw_145
            clear hw_145
            obtain ⟨hP1, hD1⟩ := hB
            rw [ht] at hP1
            obtain ⟨hP, hD⟩ := va_join (wr := [((am 10), .inl (cA 3, 200, .inl f_tape)), ((am 13), .inl (cA 0, 5000, .inl w_131)), ((am 14), .inl (cA 0, 5000, .inl w_132)), ((am 15), .inl (cA 0, 5000, .inl w_133)), ((am 16), .inl (cA 0, 5000, .inl w_134))]) (w1 := [((am 0), .inr (9, F9 am v_status v_now v_told v_merges v_taped v_size w_125 w_126 v_fault w_127 v_traits w_128 w_129 w_130 v_places v_models))]) hP hD [0] [1, 2, 3, 4, 5] hCc rfl (by decide) (by decide) hk1 hFc hP1 hD1
            clear hz1
            generalize H1 = H at hP hS ⊢
            refine lv_if_eq (tgt := 67) hx hb dX9_term_48 (by decide) (fun c_147 => ?_) (fun c_147 => ?_)
            · have dc_147 : r_143.toInt = 0 := jI_eq c_147 rfl (by decide)
              replace po_146 := gd_n po_146 dc_147
              replace po_139 := im7_n po_139
              refine lv_goto (tgt := 4) hx hb dX9_term_67 (by decide) ?_
              exact ih_4 w_125 w_126 w_127 w_128 w_129 w_130 w_131 w_132 w_133 w_134 _ _ ls (by omega) iv_135 iv_136 iv_137 iv_138 (by omega) (tk_140) (prg_bad hv6_4 pg_141 (by omega)) (lpI_s hv7_4 (by omega) (Or.inr (tw_106.mp dc_107)) (by omega) (by omega) ad_122.1 ad_122.2 (by have h9 := rs_142; rw [show (8 - w_v_open_4.toInt).toNat = (8 - v_open.toInt).toNat by omega] at h9; exact h9)) (hP.sub [5, 0, 1, 2, 3, 4] rfl) (hD.sub [5, 0, 1, 2, 3, 4] (by decide) rfl) hS (lv_sub hl [1] rfl)
            · have dc_147 : ¬ r_143.toInt = 0 := jI_ne c_147 rfl (by decide)
              replace po_146 := gd_y po_146 dc_147
              replace po_139 := im7_y po_139 po_146
              refine lv_aload_n hx hb dX9_term_51 rfl (lv_at hl 1 rfl) ?_
              refine lv_iload_n hx hb dX9_term_52 rfl (lv_at hl 0 rfl) ?_
              refine lv_if_eq (tgt := 60) hx hb dX9_term_53 (by decide) (fun c_148 => ?_) (fun c_148 => ?_)
              · have dc_148 : r_109.toInt = 0 := jI_eq c_148 rfl (by decide)
                replace po_112 := sg_n po_112
                refine lv_iconst (v := 4) hx hb dX9_term_60 (by decide) ?_
                refine lv_iconst (v := 0) hx hb dX9_term_61 (by decide) ?_
                refine lv_iconst (v := 0) hx hb dX9_term_62 (by decide) ?_
                refine lv_iconst (v := 0) hx hb dX9_term_63 (by decide) ?_
                have hk_149 : (4 : Int32).toInt = 4 := by decide
                have hk_150 : (0 : Int32).toInt = 0 := by decide
                obtain ⟨hPc, hDc, hFc, hCc⟩ := va_pre (ws' := [((am 0), .inr (9, F9 am v_status v_now v_told v_merges v_taped v_size w_125 w_126 v_fault w_127 v_traits w_128 w_129 w_130 v_places v_models)), ((am 13), .inl (cA 0, 5000, .inl w_131)), ((am 14), .inl (cA 0, 5000, .inl w_132)), ((am 15), .inl (cA 0, 5000, .inl w_133)), ((am 16), .inl (cA 0, 5000, .inl w_134))]) hP hD hS hA [5, 1, 2, 3, 4] (by decide) rfl
                refine va_callv (va_runV (As := [.int 4, .int 0, .int 0, .int 0]) (rest := []) ⟨hx, hb, hml, hown, hts⟩ (k_X9_puts l dC dI cA H.size am v_status v_now v_told v_merges v_taped v_size w_125 w_126 v_fault w_127 v_traits w_128 w_129 w_130 v_places v_models w_131 w_132 w_133 w_134 4 0 0 0 i_v_now i_v_told i_v_taped i_v_size iv_135 iv_136 i_v_traits iv_137 iv_138 i_v_places i_v_models htr (by omega)) (cwV 4 hts gX9_term_X9_puts rfl rfl rfl (by decide +kernel) ⟨Nat.le_of_ble_eq_true rfl, Nat.le_of_ble_eq_true rfl⟩) ⟨fun a U g mk q => by obtain ⟨q0, q1, qP, qK, qD, qN⟩ := q; exact ⟨q0, q1, qP, va_K.moved (u := U) (U := U.calling g mk a) (Vm.Alike.refl U.vm) qK, qD, qN.same rfl⟩, va_recv hK hPc (ci := 9) (q0 := 0) rfl rfl, fun U hU hW => ⟨rfl, by rw [hU], by rw [hU]; exact hPc, va_K.moved hW.alike hK, hDc.weaken (fun _ _ _ _ => trivial), hN.warm hW⟩⟩ rfl rfl hl.1 rfl (lv_room (Nat.le_of_ble_eq_true rfl)) dX9_term_64 ⟨Nat.le_of_ble_eq_true rfl, Nat.le_of_ble_eq_true rfl⟩) hS (fun q _ h => hFc q h) hFc (fun u_151 t H1 locs ht hvm hw_152 hB hz1 hk1 hS => ?_)
                obtain ⟨w_153, w_154, w_155, w_156, w_157⟩ := u_151
                try dsimp only at hw_152 hB
                obtain ⟨iv_158, po_159, es_160, eA_161⟩ := hw_152
                try simp only [hk_149, hk_150] at po_159 es_160 eA_161
                obtain ⟨hP1, hD1⟩ := hB
                rw [ht] at hP1
                obtain ⟨hP, hD⟩ := va_join (wr := [((am 10), .inl (cA 3, 200, .inl f_tape))]) (w1 := [((am 0), .inr (9, F9 am v_status v_now v_told v_merges v_taped v_size w_125 w_126 v_fault w_127 v_traits w_153 w_129 w_130 v_places v_models)), ((am 13), .inl (cA 0, 5000, .inl w_154)), ((am 14), .inl (cA 0, 5000, .inl w_155)), ((am 15), .inl (cA 0, 5000, .inl w_156)), ((am 16), .inl (cA 0, 5000, .inl w_157))]) hP hD [5, 1, 2, 3, 4] [0] hCc rfl (by decide) (by decide) hk1 hFc hP1 hD1
                clear hz1
                generalize H1 = H at hP hS ⊢
                refine lv_goto (tgt := 4) hx hb dX9_term_67 (by decide) ?_
                exact ih_4 w_125 w_126 w_127 w_153 w_129 w_130 w_154 w_155 w_156 w_157 _ _ ls (by omega) iv_135 iv_136 iv_158 iv_138 (by omega) (tk_140) (prg_op hwp hv6_4 (by omega) pg_141 (by omega) (by first | omega | decide) es_160 eA_161 (by omega)) (lpI_s hv7_4 (by omega) (Or.inr (tw_106.mp dc_107)) (by omega) (by omega) ad_122.1 ad_122.2 (by have h9 := rs_142; rw [show (8 - w_v_open_4.toInt).toNat = (8 - v_open.toInt).toNat by omega] at h9; rw [orb_0 (by first | omega | decide) es_160 eA_161 (by omega)]; exact h9)) (hP.sub [1, 0, 2, 3, 4, 5] rfl) (hD.sub [1, 0, 2, 3, 4, 5] (by decide) rfl) hS (lv_sub hl [1] rfl)
              · have dc_148 : ¬ r_109.toInt = 0 := jI_ne c_148 rfl (by decide)
                replace po_112 := sg_y po_112 dc_148
                refine lv_iconst (v := 3) hx hb dX9_term_56 (by decide) ?_
                refine lv_goto (tgt := 61) hx hb dX9_term_57 (by decide) ?_
                refine lv_iconst (v := 0) hx hb dX9_term_61 (by decide) ?_
                refine lv_iconst (v := 0) hx hb dX9_term_62 (by decide) ?_
                refine lv_iconst (v := 0) hx hb dX9_term_63 (by decide) ?_
                have hk_162 : (3 : Int32).toInt = 3 := by decide
                have hk_163 : (0 : Int32).toInt = 0 := by decide
                obtain ⟨hPc, hDc, hFc, hCc⟩ := va_pre (ws' := [((am 0), .inr (9, F9 am v_status v_now v_told v_merges v_taped v_size w_125 w_126 v_fault w_127 v_traits w_128 w_129 w_130 v_places v_models)), ((am 13), .inl (cA 0, 5000, .inl w_131)), ((am 14), .inl (cA 0, 5000, .inl w_132)), ((am 15), .inl (cA 0, 5000, .inl w_133)), ((am 16), .inl (cA 0, 5000, .inl w_134))]) hP hD hS hA [5, 1, 2, 3, 4] (by decide) rfl
                refine va_callv (va_runV (As := [.int 3, .int 0, .int 0, .int 0]) (rest := []) ⟨hx, hb, hml, hown, hts⟩ (k_X9_puts l dC dI cA H.size am v_status v_now v_told v_merges v_taped v_size w_125 w_126 v_fault w_127 v_traits w_128 w_129 w_130 v_places v_models w_131 w_132 w_133 w_134 3 0 0 0 i_v_now i_v_told i_v_taped i_v_size iv_135 iv_136 i_v_traits iv_137 iv_138 i_v_places i_v_models htr (by omega)) (cwV 4 hts gX9_term_X9_puts rfl rfl rfl (by decide +kernel) ⟨Nat.le_of_ble_eq_true rfl, Nat.le_of_ble_eq_true rfl⟩) ⟨fun a U g mk q => by obtain ⟨q0, q1, qP, qK, qD, qN⟩ := q; exact ⟨q0, q1, qP, va_K.moved (u := U) (U := U.calling g mk a) (Vm.Alike.refl U.vm) qK, qD, qN.same rfl⟩, va_recv hK hPc (ci := 9) (q0 := 0) rfl rfl, fun U hU hW => ⟨rfl, by rw [hU], by rw [hU]; exact hPc, va_K.moved hW.alike hK, hDc.weaken (fun _ _ _ _ => trivial), hN.warm hW⟩⟩ rfl rfl hl.1 rfl (lv_room (Nat.le_of_ble_eq_true rfl)) dX9_term_64 ⟨Nat.le_of_ble_eq_true rfl, Nat.le_of_ble_eq_true rfl⟩) hS (fun q _ h => hFc q h) hFc (fun u_164 t H1 locs ht hvm hw_165 hB hz1 hk1 hS => ?_)
                obtain ⟨w_166, w_167, w_168, w_169, w_170⟩ := u_164
                try dsimp only at hw_165 hB
                obtain ⟨iv_171, po_172, es_173, eA_174⟩ := hw_165
                try simp only [hk_162, hk_163] at po_172 es_173 eA_174
                obtain ⟨hP1, hD1⟩ := hB
                rw [ht] at hP1
                obtain ⟨hP, hD⟩ := va_join (wr := [((am 10), .inl (cA 3, 200, .inl f_tape))]) (w1 := [((am 0), .inr (9, F9 am v_status v_now v_told v_merges v_taped v_size w_125 w_126 v_fault w_127 v_traits w_166 w_129 w_130 v_places v_models)), ((am 13), .inl (cA 0, 5000, .inl w_167)), ((am 14), .inl (cA 0, 5000, .inl w_168)), ((am 15), .inl (cA 0, 5000, .inl w_169)), ((am 16), .inl (cA 0, 5000, .inl w_170))]) hP hD [5, 1, 2, 3, 4] [0] hCc rfl (by decide) (by decide) hk1 hFc hP1 hD1
                clear hz1
                generalize H1 = H at hP hS ⊢
                refine lv_goto (tgt := 4) hx hb dX9_term_67 (by decide) ?_
                exact ih_4 w_125 w_126 w_127 w_166 w_129 w_130 w_167 w_168 w_169 w_170 _ _ ls (by omega) iv_135 iv_136 iv_171 iv_138 (by omega) (tk_140) (prg_op hwp hv6_4 (by omega) pg_141 (by omega) (by first | omega | decide) es_173 eA_174 (by omega)) (lpI_s hv7_4 (by omega) (Or.inr (tw_106.mp dc_107)) (by omega) (by omega) ad_122.1 ad_122.2 (by have h9 := rs_142; rw [show (8 - w_v_open_4.toInt).toNat = (8 - v_open.toInt).toNat by omega] at h9; rw [orb_0 (by first | omega | decide) es_173 eA_174 (by omega)]; exact h9)) (hP.sub [1, 0, 2, 3, 4, 5] rfl) (hD.sub [1, 0, 2, 3, 4, 5] (by decide) rfl) hS (lv_sub hl [1] rfl)
  exact loop4_21 (Int.toNat (200 - (w_3 : Int32).toInt) + 1) w_3 w_4 w_5 w_6 w_7 w_8 w_9 w_10 w_11 w_12 _ _ ls (by omega) iv_13 iv_14 iv_15 iv_16 (by omega) (tk_18) (pg_19) (lpI_0 (by omega) rs_20) hP hD hS (lv_sub hl [0] rfl)

set_option maxHeartbeats 8000000 in
set_option maxRecDepth 100000 in
theorem k_X9_sum (l : Launch) (dC : Nat → ClassId) (dI : Nat → Nat → Nat) (cA : Nat → ClassId) (sz : Nat) (am : Nat → Nat) (v_status : Int32) (v_now : Int32) (v_told : Int32) (v_merges : Int32) (v_taped : Int32) (v_size : Int32) (v_from : Int32) (v_to : Int32) (v_fault : Int32) (v_readFault : Int32) (v_traits : Int32) (v_length : Int32) (v_open : Int32) (v_leaks : Int32) (v_places : Int32) (v_models : Int32) (f_tape : Nat → Int32) (f_step : Nat → Int32) (f_stepA : Nat → Int32) (f_stepB : Nat → Int32) (f_stepC : Nat → Int32) (rl : Nat) (FR : Nat) (LO : Nat) (i_v_now : 0 ≤ v_now.toInt ∧ v_now.toInt ≤ 100000) (i_v_told : 0 ≤ v_told.toInt ∧ v_told.toInt ≤ 400) (i_v_taped : 0 ≤ v_taped.toInt ∧ v_taped.toInt ≤ 200) (i_v_size : 0 ≤ v_size.toInt ∧ v_size.toInt ≤ 200) (i_v_from : 0 ≤ v_from.toInt ∧ v_from.toInt ≤ 200) (i_v_to : 0 ≤ v_to.toInt ∧ v_to.toInt ≤ 200) (i_v_traits : 0 ≤ v_traits.toInt ∧ v_traits.toInt ≤ 20) (i_v_length : 0 ≤ v_length.toInt ∧ v_length.toInt ≤ 200) (i_v_open : 0 ≤ v_open.toInt ∧ v_open.toInt ≤ 8) (i_v_places : 0 ≤ v_places.toInt ∧ v_places.toInt ≤ 2000) (i_v_models : 0 ≤ v_models.toInt ∧ v_models.toInt ≤ 10) (htr : v_traits.toInt ≤ 19) (hfr : v_from.toInt ≤ v_to.toInt ∧ v_to.toInt ≤ v_size.toInt ∧ (v_from.toInt < v_size.toInt → v_from.toInt < v_to.toInt)) (htk : tokOK f_tape v_from v_to v_size) (hfl : v_length.toInt ≤ v_from.toInt) (hgd : v_readFault.toInt = (-1)) (hwp : wfp f_step f_stepA (250 * v_traits.toInt.toNat) v_length.toInt.toNat) (hop : 8 - v_open.toInt ≤ (rl : Int)) (ih : 0 < rl → SumC l dC dI cA (rl - 1) FR LO) : Met l yX9_sum wsX9_sum ({ frames := FR + 7, cells := 0, slots := 0, locals := LO + 156 }) (va_Pc [.ref (am 0)] (fun U => U.heap.size = sz ∧ va_P (dC, dI) vwCl [((am 0), .inr (9, F9 am v_status v_now v_told v_merges v_taped v_size v_from v_to v_fault v_readFault v_traits v_length v_open v_leaks v_places v_models)), ((am 10), .inl (cA 3, 200, .inl f_tape)), ((am 13), .inl (cA 0, 5000, .inl f_step)), ((am 14), .inl (cA 0, 5000, .inl f_stepA)), ((am 15), .inl (cA 0, 5000, .inl f_stepB)), ((am 16), .inl (cA 0, 5000, .inl f_stepC))] U.heap ∧ va_K (dC, dI) vwCl (tyL cA) U ∧ va_D (fun _ => True) [((am 0), .inr (9, F9 am v_status v_now v_told v_merges v_taped v_size v_from v_to v_fault v_readFault v_traits v_length v_open v_leaks v_places v_models)), ((am 10), .inl (cA 3, 200, .inl f_tape)), ((am 13), .inl (cA 0, 5000, .inl f_step)), ((am 14), .inl (cA 0, 5000, .inl f_stepA)), ((am 15), .inl (cA 0, 5000, .inl f_stepB)), ((am 16), .inl (cA 0, 5000, .inl f_stepC))] ∧ nw_ok U)) (va_Qv (fun (u : Int32 × Int32 × Int32 × Int32 × Int32 × Int32 × (Nat → Int32) × (Nat → Int32) × (Nat → Int32) × (Nat → Int32)) => (0 ≤ u.1.toInt ∧ u.1.toInt ≤ 200) ∧ (0 ≤ u.2.1.toInt ∧ u.2.1.toInt ≤ 200) ∧ (0 ≤ u.2.2.2.1.toInt ∧ u.2.2.2.1.toInt ≤ 200) ∧ (0 ≤ u.2.2.2.2.1.toInt ∧ u.2.2.2.2.1.toInt ≤ 8) ∧ (v_from.toInt ≤ u.1.toInt ∧ u.1.toInt ≤ u.2.1.toInt ∧ u.2.1.toInt ≤ v_size.toInt ∧ (u.1.toInt < v_size.toInt → u.1.toInt < u.2.1.toInt) ∧ u.2.2.2.1.toInt - v_length.toInt ≤ u.1.toInt - v_from.toInt ∧ v_length.toInt ≤ u.2.2.2.1.toInt ∧ (u.2.2.1.toInt = (-1) → u.2.2.2.2.1.toInt = v_open.toInt)) ∧ (tokOK f_tape u.1 u.2.1 v_size) ∧ (prg f_step f_stepA u.2.2.2.2.2.2.1 u.2.2.2.2.2.2.2.1 (250 * v_traits.toInt.toNat) v_length.toInt.toNat u.2.2.2.1.toInt.toNat (u.2.2.1.toInt = (-1))) ∧ (rs u.2.2.1 u.1 u.2.1 u.2.2.2.2.2.1 (orb u.2.2.2.2.2.2.1 u.2.2.2.2.2.2.2.1 (250 * v_traits.toInt.toNat) u.2.2.2.1.toInt.toNat) = psum (tpe f_tape v_size) v_size.toInt v_traits.toInt (pB (tpe f_tape v_size) v_size.toInt v_traits.toInt (8 - v_open.toInt).toNat) v_from.toInt v_to.toInt v_leaks.toInt (orb f_step f_stepA (250 * v_traits.toInt.toNat) v_length.toInt.toNat))) (fun (u : Int32 × Int32 × Int32 × Int32 × Int32 × Int32 × (Nat → Int32) × (Nat → Int32) × (Nat → Int32) × (Nat → Int32)) (t : State) => va_P (dC, dI) vwCl [((am 0), .inr (9, F9 am v_status v_now v_told v_merges v_taped v_size u.1 u.2.1 v_fault u.2.2.1 v_traits u.2.2.2.1 u.2.2.2.2.1 u.2.2.2.2.2.1 v_places v_models)), ((am 10), .inl (cA 3, 200, .inl f_tape)), ((am 13), .inl (cA 0, 5000, .inl u.2.2.2.2.2.2.1)), ((am 14), .inl (cA 0, 5000, .inl u.2.2.2.2.2.2.2.1)), ((am 15), .inl (cA 0, 5000, .inl u.2.2.2.2.2.2.2.2.1)), ((am 16), .inl (cA 0, 5000, .inl u.2.2.2.2.2.2.2.2.2))] t.heap ∧ va_D (va_A [((am 0), .inr (9, F9 am v_status v_now v_told v_merges v_taped v_size v_from v_to v_fault v_readFault v_traits v_length v_open v_leaks v_places v_models)), ((am 10), .inl (cA 3, 200, .inl f_tape)), ((am 13), .inl (cA 0, 5000, .inl f_step)), ((am 14), .inl (cA 0, 5000, .inl f_stepA)), ((am 15), .inl (cA 0, 5000, .inl f_stepB)), ((am 16), .inl (cA 0, 5000, .inl f_stepC))] sz) [((am 0), .inr (9, F9 am v_status v_now v_told v_merges v_taped v_size u.1 u.2.1 v_fault u.2.2.1 v_traits u.2.2.2.1 u.2.2.2.2.1 u.2.2.2.2.2.1 v_places v_models)), ((am 10), .inl (cA 3, 200, .inl f_tape)), ((am 13), .inl (cA 0, 5000, .inl u.2.2.2.2.2.2.1)), ((am 14), .inl (cA 0, 5000, .inl u.2.2.2.2.2.2.2.1)), ((am 15), .inl (cA 0, 5000, .inl u.2.2.2.2.2.2.2.2.1)), ((am 16), .inl (cA 0, 5000, .inl u.2.2.2.2.2.2.2.2.2))]) (va_A [((am 0), .inr (9, F9 am v_status v_now v_told v_merges v_taped v_size v_from v_to v_fault v_readFault v_traits v_length v_open v_leaks v_places v_models)), ((am 10), .inl (cA 3, 200, .inl f_tape)), ((am 13), .inl (cA 0, 5000, .inl f_step)), ((am 14), .inl (cA 0, 5000, .inl f_stepA)), ((am 15), .inl (cA 0, 5000, .inl f_stepB)), ((am 16), .inl (cA 0, 5000, .inl f_stepC))] sz)) 0 0 (va_A [((am 0), .inr (9, F9 am v_status v_now v_told v_merges v_taped v_size v_from v_to v_fault v_readFault v_traits v_length v_open v_leaks v_places v_models)), ((am 10), .inl (cA 3, 200, .inl f_tape)), ((am 13), .inl (cA 0, 5000, .inl f_step)), ((am 14), .inl (cA 0, 5000, .inl f_stepA)), ((am 15), .inl (cA 0, 5000, .inl f_stepB)), ((am 16), .inl (cA 0, 5000, .inl f_stepC))] sz) := by
  refine Met.ofW (cc := cX9_sum) (maxL := 2) (ret := none) (by decide) rfl ?_
  intro p e s m args below meth c s₁ B hml hv
  obtain ⟨rfl, hsz, hP, hK, hD0, hN⟩ := hv
  have hx := B.exec
  have hb := B.bytes
  have hr := B.returns
  have hts := atoms_spec (ws := wsX9_sum) B.pre
  have hown : s.vm.findClass RX9 = some m.cls := findClass_of_methodNamed B.named
  have hlocks := B.notSynchronized
  subst hsz
  have hD := hD0.self (sz := s.heap.size)
  generalize hAe : va_A [((am 0), .inr (9, F9 am v_status v_now v_told v_merges v_taped v_size v_from v_to v_fault v_readFault v_traits v_length v_open v_leaks v_places v_models)), ((am 10), .inl (cA 3, 200, .inl f_tape)), ((am 13), .inl (cA 0, 5000, .inl f_step)), ((am 14), .inl (cA 0, 5000, .inl f_stepA)), ((am 15), .inl (cA 0, 5000, .inl f_stepB)), ((am 16), .inl (cA 0, 5000, .inl f_stepC))] s.heap.size = A at hD ⊢
  have hA : ∀ q : Nat, s.heap.size ≤ q → A q := fun q h => by rw [← hAe]; exact Or.inr h
  have hS : va_S A s.heap s.heap [] := va_S.rf
  have hl := lv_entry ([.ref (am 0)]) (n := 2) (Nat.le_of_ble_eq_true rfl)
  rw [lg_entry_eq]
  generalize (lg_sl ([.ref (am 0)]) ++ List.replicate (2 - (lg_sl ([.ref (am 0)])).length) Slot.unset).toArray = ls at hl ⊢
  have hl : lv_has ls 2 [(0, .ref (am 0))] := hl
  generalize hQe : MQ below _ _ _ _ _ _ = QQ
  refine lv_aload_n hx hb dX9_sum_0 rfl (lv_at hl 0 rfl) ?_
  obtain ⟨hPc, hDc, hFc, hCc⟩ := va_pre (ws' := [((am 0), .inr (9, F9 am v_status v_now v_told v_merges v_taped v_size v_from v_to v_fault v_readFault v_traits v_length v_open v_leaks v_places v_models)), ((am 10), .inl (cA 3, 200, .inl f_tape)), ((am 13), .inl (cA 0, 5000, .inl f_step)), ((am 14), .inl (cA 0, 5000, .inl f_stepA)), ((am 15), .inl (cA 0, 5000, .inl f_stepB)), ((am 16), .inl (cA 0, 5000, .inl f_stepC))]) hP hD hS hA [0, 1, 2, 3, 4, 5] (by decide) rfl
  refine va_callv (va_runV (As := []) (rest := []) ⟨hx, hb, hml, hown, hts⟩ (k_X9_term l dC dI cA s.heap.size am v_status v_now v_told v_merges v_taped v_size v_from v_to v_fault v_readFault v_traits v_length v_open v_leaks v_places v_models f_tape f_step f_stepA f_stepB f_stepC rl FR LO i_v_now i_v_told i_v_taped i_v_size i_v_from i_v_to i_v_traits i_v_length i_v_open i_v_places i_v_models htr hfr htk hfl hgd hwp hop ih) (cwV 0 hts gX9_sum_X9_term rfl rfl rfl (by decide +kernel) ⟨(show (FR + 6) + 1 ≤ FR + 7 from fl_a (F := FR) (a := 6) (b := 1) (c := 7) (by decide)), (show 8 + (2 + 11) + (LO + 135) ≤ LO + 156 from fl_c (F := LO) (a := 8 + (2 + 11)) (b := 135) (c := 156) (by decide))⟩) ⟨fun a U g mk q => by obtain ⟨q0, q1, qP, qK, qD, qN⟩ := q; exact ⟨q0, q1, qP, va_K.moved (u := U) (U := U.calling g mk a) (Vm.Alike.refl U.vm) qK, qD, qN.same rfl⟩, va_recv hK hPc (ci := 9) (q0 := 0) rfl rfl, fun U hU hW => ⟨rfl, by rw [hU], by rw [hU]; exact hPc, va_K.moved hW.alike hK, hDc.weaken (fun _ _ _ _ => trivial), hN.warm hW⟩⟩ rfl rfl hl.1 rfl (lv_room (Nat.le_of_ble_eq_true rfl)) dX9_sum_1 ⟨(show 0 + 0 ≤ 0 by omega), (show 0 + 0 ≤ 0 by omega)⟩) hS (fun q _ h => hFc q h) hFc (fun u_1 t H1 locs ht hvm hw_2 hB hz1 hk1 hS => ?_)
  obtain ⟨w_3, w_4, w_5, w_6, w_7, w_8, w_9, w_10, w_11, w_12⟩ := u_1
  try dsimp only at hw_2 hB
  obtain ⟨iv_13, iv_14, iv_15, iv_16, po_17, tk_18, pg_19, rs_20⟩ := hw_2
  obtain ⟨hP1, hD1⟩ := hB
  rw [ht] at hP1
  obtain ⟨hP, hD⟩ := va_join (wr := []) (w1 := [((am 0), .inr (9, F9 am v_status v_now v_told v_merges v_taped v_size w_3 w_4 v_fault w_5 v_traits w_6 w_7 w_8 v_places v_models)), ((am 10), .inl (cA 3, 200, .inl f_tape)), ((am 13), .inl (cA 0, 5000, .inl w_9)), ((am 14), .inl (cA 0, 5000, .inl w_10)), ((am 15), .inl (cA 0, 5000, .inl w_11)), ((am 16), .inl (cA 0, 5000, .inl w_12))]) hP hD [0, 1, 2, 3, 4, 5] [] hCc rfl (by decide) (by decide) hk1 hFc hP1 hD1
  clear hz1
  generalize H1 = H at hP hS ⊢
  have loop4_21 : ∀ (n : Nat) (w_v_from_4 : Int32) (w_v_to_4 : Int32) (w_v_readFault_4 : Int32) (w_v_length_4 : Int32) (w_v_open_4 : Int32) (w_v_leaks_4 : Int32) (w_f_step_4 : Nat → Int32) (w_f_stepA_4 : Nat → Int32) (w_f_stepB_4 : Nat → Int32) (w_f_stepC_4 : Nat → Int32) (H : Heap) (locs : List Loc) (ls : Array Slot), 200 - w_v_from_4.toInt < (n : Int) → (0 ≤ w_v_from_4.toInt ∧ w_v_from_4.toInt ≤ 200) → (0 ≤ w_v_to_4.toInt ∧ w_v_to_4.toInt ≤ 200) → (0 ≤ w_v_length_4.toInt ∧ w_v_length_4.toInt ≤ 200) → (0 ≤ w_v_open_4.toInt ∧ w_v_open_4.toInt ≤ 8) → (v_from.toInt ≤ w_v_from_4.toInt ∧ w_v_from_4.toInt ≤ w_v_to_4.toInt ∧ w_v_to_4.toInt ≤ v_size.toInt ∧ (w_v_from_4.toInt < v_size.toInt → w_v_from_4.toInt < w_v_to_4.toInt) ∧ w_v_length_4.toInt - v_length.toInt ≤ w_v_from_4.toInt - v_from.toInt ∧ v_length.toInt ≤ w_v_length_4.toInt ∧ (w_v_readFault_4.toInt = (-1) → w_v_open_4.toInt = v_open.toInt)) → (tokOK f_tape w_v_from_4 w_v_to_4 v_size) → (prg f_step f_stepA w_f_step_4 w_f_stepA_4 (250 * v_traits.toInt.toNat) v_length.toInt.toNat w_v_length_4.toInt.toNat (w_v_readFault_4.toInt = (-1))) → (lpI (tpe f_tape v_size) v_size.toInt 43 45 (pterm (tpe f_tape v_size) v_size.toInt v_traits.toInt (pB (tpe f_tape v_size) v_size.toInt v_traits.toInt (8 - v_open.toInt).toNat)) w_v_readFault_4 w_v_from_4 w_v_to_4 w_v_leaks_4 (orb w_f_step_4 w_f_stepA_4 (250 * v_traits.toInt.toNat) w_v_length_4.toInt.toNat) (psum (tpe f_tape v_size) v_size.toInt v_traits.toInt (pB (tpe f_tape v_size) v_size.toInt v_traits.toInt (8 - v_open.toInt).toNat) v_from.toInt v_to.toInt v_leaks.toInt (orb f_step f_stepA (250 * v_traits.toInt.toNat) v_length.toInt.toNat))) → va_P (dC, dI) vwCl [((am 0), .inr (9, F9 am v_status v_now v_told v_merges v_taped v_size w_v_from_4 w_v_to_4 v_fault w_v_readFault_4 v_traits w_v_length_4 w_v_open_4 w_v_leaks_4 v_places v_models)), ((am 10), .inl (cA 3, 200, .inl f_tape)), ((am 13), .inl (cA 0, 5000, .inl w_f_step_4)), ((am 14), .inl (cA 0, 5000, .inl w_f_stepA_4)), ((am 15), .inl (cA 0, 5000, .inl w_f_stepB_4)), ((am 16), .inl (cA 0, 5000, .inl w_f_stepC_4))] H → va_D A [((am 0), .inr (9, F9 am v_status v_now v_told v_merges v_taped v_size w_v_from_4 w_v_to_4 v_fault w_v_readFault_4 v_traits w_v_length_4 w_v_open_4 w_v_leaks_4 v_places v_models)), ((am 10), .inl (cA 3, 200, .inl f_tape)), ((am 13), .inl (cA 0, 5000, .inl w_f_step_4)), ((am 14), .inl (cA 0, 5000, .inl w_f_stepA_4)), ((am 15), .inl (cA 0, 5000, .inl w_f_stepB_4)), ((am 16), .inl (cA 0, 5000, .inl w_f_stepC_4))] → va_S A s.heap H locs → lv_has ls 2 [(0, .ref (am 0))] → W p l e ({ frames := FR + 7, cells := 0, slots := 0, locals := LO + 156 }) s m ([.ref (am 0)] : List Value).toArray below meth c H locs 0 0 QQ (F0 m 4 ls []) := by
    intro n
    induction n with
    | zero => intro w_v_from_4 w_v_to_4 w_v_readFault_4 w_v_length_4 w_v_open_4 w_v_leaks_4 w_f_step_4 w_f_stepA_4 w_f_stepB_4 w_f_stepC_4 H locs ls hme hv0_4 hv1_4 hv2_4 hv3_4 hv4_4 hv5_4 hv6_4 hv7_4; exfalso; omega
    | succ n ih_4 =>
      intro w_v_from_4 w_v_to_4 w_v_readFault_4 w_v_length_4 w_v_open_4 w_v_leaks_4 w_f_step_4 w_f_stepA_4 w_f_stepB_4 w_f_stepC_4 H locs ls hme_4 hv0_4 hv1_4 hv2_4 hv3_4 hv4_4 hv5_4 hv6_4 hv7_4 hP hD hS hl
      clear po_17 tk_18 pg_19 rs_20
      refine lv_aload_n hx hb dX9_sum_4 rfl (lv_at hl 0 rfl) ?_
      obtain ⟨hPc, hDc, hFc, hCc⟩ := va_pre (ws' := [((am 0), .inr (9, F9 am v_status v_now v_told v_merges v_taped v_size w_v_from_4 w_v_to_4 v_fault w_v_readFault_4 v_traits w_v_length_4 w_v_open_4 w_v_leaks_4 v_places v_models))]) hP hD hS hA [0] (by decide) rfl
      refine va_calli (va_runV (As := []) (rest := []) ⟨hx, hb, hml, hown, hts⟩ (k_X9_good l dC dI cA H.size am v_status v_now v_told v_merges v_taped v_size w_v_from_4 w_v_to_4 v_fault w_v_readFault_4 v_traits w_v_length_4 w_v_open_4 w_v_leaks_4 v_places v_models i_v_now i_v_told i_v_taped i_v_size hv0_4 hv1_4 i_v_traits hv2_4 hv3_4 i_v_places i_v_models) (cwV 0 hts gX9_sum_X9_good rfl rfl rfl (by decide +kernel) ⟨Nat.le_of_ble_eq_true rfl, Nat.le_of_ble_eq_true rfl⟩) ⟨fun a U g mk q => by obtain ⟨q0, q1, qP, qK, qD, qN⟩ := q; exact ⟨q0, q1, qP, va_K.moved (u := U) (U := U.calling g mk a) (Vm.Alike.refl U.vm) qK, qD, qN.same rfl⟩, va_recv hK hPc (ci := 9) (q0 := 0) rfl rfl, fun U hU hW => ⟨rfl, by rw [hU], by rw [hU]; exact hPc, va_K.moved hW.alike hK, hDc.weaken (fun _ _ _ _ => trivial), hN.warm hW⟩⟩ rfl rfl hl.1 rfl (lv_room (Nat.le_of_ble_eq_true rfl)) dX9_sum_5 ⟨Nat.le_of_ble_eq_true rfl, Nat.le_of_ble_eq_true rfl⟩) hS (fun q _ h => hFc q h) hFc (fun r_22 u_23 t H1 locs ht hvm hw_24 hB hz1 hk1 hS => ?_)
      try dsimp only at hw_24 hB
      have po_25 := hw_24
      clear hw_24
      obtain ⟨hP1, hD1⟩ := hB
      rw [ht] at hP1
      obtain ⟨hP, hD⟩ := va_join (wr := [((am 10), .inl (cA 3, 200, .inl f_tape)), ((am 13), .inl (cA 0, 5000, .inl w_f_step_4)), ((am 14), .inl (cA 0, 5000, .inl w_f_stepA_4)), ((am 15), .inl (cA 0, 5000, .inl w_f_stepB_4)), ((am 16), .inl (cA 0, 5000, .inl w_f_stepC_4))]) (w1 := [((am 0), .inr (9, F9 am v_status v_now v_told v_merges v_taped v_size w_v_from_4 w_v_to_4 v_fault w_v_readFault_4 v_traits w_v_length_4 w_v_open_4 w_v_leaks_4 v_places v_models))]) hP hD [0] [1, 2, 3, 4, 5] hCc rfl (by decide) (by decide) hk1 hFc hP1 hD1
      clear hz1
      generalize H1 = H at hP hS ⊢
      refine lv_if_eq (tgt := 70) hx hb dX9_sum_8 (by decide) (fun c_26 => ?_) (fun c_26 => ?_)
      · have dc_26 : r_22.toInt = 0 := jI_eq c_26 rfl (by decide)
        replace po_25 := gd_n po_25 dc_26
        replace hv4_4 := im7_n hv4_4
        obtain ⟨hP9, hD9⟩ := va_pd (ws' := [((am 0), .inr (9, F9 am v_status v_now v_told v_merges v_taped v_size w_v_from_4 w_v_to_4 v_fault w_v_readFault_4 v_traits w_v_length_4 w_v_open_4 w_v_leaks_4 v_places v_models)), ((am 10), .inl (cA 3, 200, .inl f_tape)), ((am 13), .inl (cA 0, 5000, .inl w_f_step_4)), ((am 14), .inl (cA 0, 5000, .inl w_f_stepA_4)), ((am 15), .inl (cA 0, 5000, .inl w_f_stepB_4)), ((am 16), .inl (cA 0, 5000, .inl w_f_stepC_4))]) hP hD [5, 0, 1, 2, 3, 4] (by decide) rfl
        subst hQe
        have hpost : (0 ≤ w_v_from_4.toInt ∧ w_v_from_4.toInt ≤ 200) ∧ (0 ≤ w_v_to_4.toInt ∧ w_v_to_4.toInt ≤ 200) ∧ (0 ≤ w_v_length_4.toInt ∧ w_v_length_4.toInt ≤ 200) ∧ (0 ≤ w_v_open_4.toInt ∧ w_v_open_4.toInt ≤ 8) ∧ (v_from.toInt ≤ w_v_from_4.toInt ∧ w_v_from_4.toInt ≤ w_v_to_4.toInt ∧ w_v_to_4.toInt ≤ v_size.toInt ∧ (w_v_from_4.toInt < v_size.toInt → w_v_from_4.toInt < w_v_to_4.toInt) ∧ w_v_length_4.toInt - v_length.toInt ≤ w_v_from_4.toInt - v_from.toInt ∧ v_length.toInt ≤ w_v_length_4.toInt ∧ (w_v_readFault_4.toInt = (-1) → w_v_open_4.toInt = v_open.toInt)) ∧ (tokOK f_tape w_v_from_4 w_v_to_4 v_size) ∧ (prg f_step f_stepA w_f_step_4 w_f_stepA_4 (250 * v_traits.toInt.toNat) v_length.toInt.toNat w_v_length_4.toInt.toNat (w_v_readFault_4.toInt = (-1))) ∧ (rs w_v_readFault_4 w_v_from_4 w_v_to_4 w_v_leaks_4 (orb w_f_step_4 w_f_stepA_4 (250 * v_traits.toInt.toNat) w_v_length_4.toInt.toNat) = psum (tpe f_tape v_size) v_size.toInt v_traits.toInt (pB (tpe f_tape v_size) v_size.toInt v_traits.toInt (8 - v_open.toInt).toNat) v_from.toInt v_to.toInt v_leaks.toInt (orb f_step f_stepA (250 * v_traits.toInt.toNat) v_length.toInt.toNat)) := ⟨hv0_4, hv1_4, hv2_4, hv3_4, by omega, hv5_4, prg_same hv6_4 (fun h => by omega), lpI_e hv7_4 (Or.inl (by omega))⟩
        exact W.vret hx hb hr (fun t ht hW => ⟨⟨(w_v_from_4, w_v_to_4, w_v_readFault_4, w_v_length_4, w_v_open_4, w_v_leaks_4, w_f_step_4, w_f_stepA_4, w_f_stepB_4, w_f_stepC_4), rfl, hpost, by rw [ht]; exact hP9, hD9⟩, hS.F ht⟩) hS.2.2 dX9_sum_70
      · have dc_26 : ¬ r_22.toInt = 0 := jI_ne c_26 rfl (by decide)
        replace po_25 := gd_y po_25 dc_26
        replace hv4_4 := im7_y hv4_4 po_25
        refine lv_aload_n hx hb dX9_sum_11 rfl (lv_at hl 0 rfl) ?_
        refine lv_bipush (v := 43) hx hb dX9_sum_12 (by decide) ?_
        have hk_27 : (43 : Int32).toInt = 43 := by decide
        obtain ⟨hPc, hDc, hFc, hCc⟩ := va_pre (ws' := [((am 0), .inr (9, F9 am v_status v_now v_told v_merges v_taped v_size w_v_from_4 w_v_to_4 v_fault w_v_readFault_4 v_traits w_v_length_4 w_v_open_4 w_v_leaks_4 v_places v_models)), ((am 10), .inl (cA 3, 200, .inl f_tape))]) hP hD hS hA [5, 0] (by decide) rfl
        refine va_calli (va_runV (As := [.int 43]) (rest := []) ⟨hx, hb, hml, hown, hts⟩ (k_X9_isSign l dC dI cA H.size am v_status v_now v_told v_merges v_taped v_size w_v_from_4 w_v_to_4 v_fault w_v_readFault_4 v_traits w_v_length_4 w_v_open_4 w_v_leaks_4 v_places v_models f_tape 43 i_v_now i_v_told i_v_taped i_v_size hv0_4 hv1_4 i_v_traits hv2_4 hv3_4 i_v_places i_v_models (by omega)) (cwV 1 hts gX9_sum_X9_isSign rfl rfl rfl (by decide +kernel) ⟨Nat.le_of_ble_eq_true rfl, Nat.le_of_ble_eq_true rfl⟩) ⟨fun a U g mk q => by obtain ⟨q0, q1, qP, qK, qD, qN⟩ := q; exact ⟨q0, q1, qP, va_K.moved (u := U) (U := U.calling g mk a) (Vm.Alike.refl U.vm) qK, qD, qN.same rfl⟩, va_recv hK hPc (ci := 9) (q0 := 0) rfl rfl, fun U hU hW => ⟨rfl, by rw [hU], by rw [hU]; exact hPc, va_K.moved hW.alike hK, hDc.weaken (fun _ _ _ _ => trivial), hN.warm hW⟩⟩ rfl rfl hl.1 rfl (lv_room (Nat.le_of_ble_eq_true rfl)) dX9_sum_14 ⟨Nat.le_of_ble_eq_true rfl, Nat.le_of_ble_eq_true rfl⟩) hS (fun q _ h => hFc q h) hFc (fun r_28 u_29 t H1 locs ht hvm hw_30 hB hz1 hk1 hS => ?_)
        try dsimp only at hw_30 hB
        obtain ⟨po_31, tw_32⟩ := hw_30
        try simp only [hk_27] at po_31 tw_32
        obtain ⟨hP1, hD1⟩ := hB
        rw [ht] at hP1
        obtain ⟨hP, hD⟩ := va_join (wr := [((am 13), .inl (cA 0, 5000, .inl w_f_step_4)), ((am 14), .inl (cA 0, 5000, .inl w_f_stepA_4)), ((am 15), .inl (cA 0, 5000, .inl w_f_stepB_4)), ((am 16), .inl (cA 0, 5000, .inl w_f_stepC_4))]) (w1 := [((am 0), .inr (9, F9 am v_status v_now v_told v_merges v_taped v_size w_v_from_4 w_v_to_4 v_fault w_v_readFault_4 v_traits w_v_length_4 w_v_open_4 w_v_leaks_4 v_places v_models)), ((am 10), .inl (cA 3, 200, .inl f_tape))]) hP hD [5, 0] [1, 2, 3, 4] hCc rfl (by decide) (by decide) hk1 hFc hP1 hD1
        clear hz1
        generalize H1 = H at hP hS ⊢
        refine lv_if_ne (tgt := 29) hx hb dX9_sum_17 (by decide) (fun c_33 => ?_) (fun c_33 => ?_)
        · have dc_33 : ¬ r_28.toInt = 0 := jI_ne c_33 rfl (by decide)
          replace po_31 := sg_y po_31 dc_33
          refine lv_aload_n hx hb dX9_sum_29 rfl (lv_at hl 0 rfl) ?_
          refine lv_bipush (v := 43) hx hb dX9_sum_30 (by decide) ?_
          have hk_34 : (43 : Int32).toInt = 43 := by decide
          obtain ⟨hPc, hDc, hFc, hCc⟩ := va_pre (ws' := [((am 0), .inr (9, F9 am v_status v_now v_told v_merges v_taped v_size w_v_from_4 w_v_to_4 v_fault w_v_readFault_4 v_traits w_v_length_4 w_v_open_4 w_v_leaks_4 v_places v_models)), ((am 10), .inl (cA 3, 200, .inl f_tape))]) hP hD hS hA [4, 5] (by decide) rfl
          refine va_calli (va_runV (As := [.int 43]) (rest := []) ⟨hx, hb, hml, hown, hts⟩ (k_X9_isSign l dC dI cA H.size am v_status v_now v_told v_merges v_taped v_size w_v_from_4 w_v_to_4 v_fault w_v_readFault_4 v_traits w_v_length_4 w_v_open_4 w_v_leaks_4 v_places v_models f_tape 43 i_v_now i_v_told i_v_taped i_v_size hv0_4 hv1_4 i_v_traits hv2_4 hv3_4 i_v_places i_v_models (by omega)) (cwV 1 hts gX9_sum_X9_isSign rfl rfl rfl (by decide +kernel) ⟨Nat.le_of_ble_eq_true rfl, Nat.le_of_ble_eq_true rfl⟩) ⟨fun a U g mk q => by obtain ⟨q0, q1, qP, qK, qD, qN⟩ := q; exact ⟨q0, q1, qP, va_K.moved (u := U) (U := U.calling g mk a) (Vm.Alike.refl U.vm) qK, qD, qN.same rfl⟩, va_recv hK hPc (ci := 9) (q0 := 0) rfl rfl, fun U hU hW => ⟨rfl, by rw [hU], by rw [hU]; exact hPc, va_K.moved hW.alike hK, hDc.weaken (fun _ _ _ _ => trivial), hN.warm hW⟩⟩ rfl rfl hl.1 rfl (lv_room (Nat.le_of_ble_eq_true rfl)) dX9_sum_32 ⟨Nat.le_of_ble_eq_true rfl, Nat.le_of_ble_eq_true rfl⟩) hS (fun q _ h => hFc q h) hFc (fun r_35 u_36 t H1 locs ht hvm hw_37 hB hz1 hk1 hS => ?_)
          try dsimp only at hw_37 hB
          obtain ⟨po_38, tw_39⟩ := hw_37
          try simp only [hk_34] at po_38 tw_39
          obtain ⟨hP1, hD1⟩ := hB
          rw [ht] at hP1
          obtain ⟨hP, hD⟩ := va_join (wr := [((am 13), .inl (cA 0, 5000, .inl w_f_step_4)), ((am 14), .inl (cA 0, 5000, .inl w_f_stepA_4)), ((am 15), .inl (cA 0, 5000, .inl w_f_stepB_4)), ((am 16), .inl (cA 0, 5000, .inl w_f_stepC_4))]) (w1 := [((am 0), .inr (9, F9 am v_status v_now v_told v_merges v_taped v_size w_v_from_4 w_v_to_4 v_fault w_v_readFault_4 v_traits w_v_length_4 w_v_open_4 w_v_leaks_4 v_places v_models)), ((am 10), .inl (cA 3, 200, .inl f_tape))]) hP hD [4, 5] [0, 1, 2, 3] hCc rfl (by decide) (by decide) hk1 hFc hP1 hD1
          clear hz1
          generalize H1 = H at hP hS ⊢
          refine lv_istore_n (lv' := [(1, .int r_35), (0, .ref (am 0))]) hx hb dX9_sum_35 rfl hl (by decide) rfl (fun ls hl => ?_)
          refine lv_aload_n hx hb dX9_sum_36 rfl (lv_at hl 1 rfl) ?_
          obtain ⟨hPc, hDc, hFc, hCc⟩ := va_pre (ws' := [((am 0), .inr (9, F9 am v_status v_now v_told v_merges v_taped v_size w_v_from_4 w_v_to_4 v_fault w_v_readFault_4 v_traits w_v_length_4 w_v_open_4 w_v_leaks_4 v_places v_models)), ((am 10), .inl (cA 3, 200, .inl f_tape))]) hP hD hS hA [4, 5] (by decide) rfl
          refine va_callv (va_runV (As := []) (rest := []) ⟨hx, hb, hml, hown, hts⟩ (k_X9_next l dC dI cA H.size am v_status v_now v_told v_merges v_taped v_size w_v_from_4 w_v_to_4 v_fault w_v_readFault_4 v_traits w_v_length_4 w_v_open_4 w_v_leaks_4 v_places v_models f_tape i_v_now i_v_told i_v_taped i_v_size hv0_4 hv1_4 i_v_traits hv2_4 hv3_4 i_v_places i_v_models (by omega)) (cwV 0 hts gX9_sum_X9_next rfl rfl rfl (by decide +kernel) ⟨Nat.le_of_ble_eq_true rfl, Nat.le_of_ble_eq_true rfl⟩) ⟨fun a U g mk q => by obtain ⟨q0, q1, qP, qK, qD, qN⟩ := q; exact ⟨q0, q1, qP, va_K.moved (u := U) (U := U.calling g mk a) (Vm.Alike.refl U.vm) qK, qD, qN.same rfl⟩, va_recv hK hPc (ci := 9) (q0 := 0) rfl rfl, fun U hU hW => ⟨rfl, by rw [hU], by rw [hU]; exact hPc, va_K.moved hW.alike hK, hDc.weaken (fun _ _ _ _ => trivial), hN.warm hW⟩⟩ rfl rfl hl.1 rfl (lv_room (Nat.le_of_ble_eq_true rfl)) dX9_sum_37 ⟨Nat.le_of_ble_eq_true rfl, Nat.le_of_ble_eq_true rfl⟩) hS (fun q _ h => hFc q h) hFc (fun u_40 t H1 locs ht hvm hw_41 hB hz1 hk1 hS => ?_)
          obtain ⟨w_42, w_43⟩ := u_40
          try dsimp only at hw_41 hB
          obtain ⟨iv_44, iv_45, po_46, tk_47, ad_48⟩ := hw_41
          obtain ⟨hP1, hD1⟩ := hB
          rw [ht] at hP1
          obtain ⟨hP, hD⟩ := va_join (wr := [((am 13), .inl (cA 0, 5000, .inl w_f_step_4)), ((am 14), .inl (cA 0, 5000, .inl w_f_stepA_4)), ((am 15), .inl (cA 0, 5000, .inl w_f_stepB_4)), ((am 16), .inl (cA 0, 5000, .inl w_f_stepC_4))]) (w1 := [((am 0), .inr (9, F9 am v_status v_now v_told v_merges v_taped v_size w_42 w_43 v_fault w_v_readFault_4 v_traits w_v_length_4 w_v_open_4 w_v_leaks_4 v_places v_models)), ((am 10), .inl (cA 3, 200, .inl f_tape))]) hP hD [4, 5] [0, 1, 2, 3] hCc rfl (by decide) (by decide) hk1 hFc hP1 hD1
          clear hz1
          generalize H1 = H at hP hS ⊢
          refine lv_aload_n hx hb dX9_sum_40 rfl (lv_at hl 1 rfl) ?_
          obtain ⟨hPc, hDc, hFc, hCc⟩ := va_pre (ws' := [((am 0), .inr (9, F9 am v_status v_now v_told v_merges v_taped v_size w_42 w_43 v_fault w_v_readFault_4 v_traits w_v_length_4 w_v_open_4 w_v_leaks_4 v_places v_models)), ((am 10), .inl (cA 3, 200, .inl f_tape)), ((am 13), .inl (cA 0, 5000, .inl w_f_step_4)), ((am 14), .inl (cA 0, 5000, .inl w_f_stepA_4)), ((am 15), .inl (cA 0, 5000, .inl w_f_stepB_4)), ((am 16), .inl (cA 0, 5000, .inl w_f_stepC_4))]) hP hD hS hA [4, 5, 0, 1, 2, 3] (by decide) rfl
          refine va_callv (va_runV (As := []) (rest := []) ⟨hx, hb, hml, hown, hts⟩ (k_X9_term l dC dI cA H.size am v_status v_now v_told v_merges v_taped v_size w_42 w_43 v_fault w_v_readFault_4 v_traits w_v_length_4 w_v_open_4 w_v_leaks_4 v_places v_models f_tape w_f_step_4 w_f_stepA_4 w_f_stepB_4 w_f_stepC_4 rl FR LO i_v_now i_v_told i_v_taped i_v_size iv_44 iv_45 i_v_traits hv2_4 hv3_4 i_v_places i_v_models htr (by omega) tk_47 (by omega) (by omega) hv6_4.2.2.1 (by omega) ih) (cwV 0 hts gX9_sum_X9_term rfl rfl rfl (by decide +kernel) ⟨(show (FR + 6) + 1 ≤ FR + 7 from fl_a (F := FR) (a := 6) (b := 1) (c := 7) (by decide)), (show 8 + (2 + 11) + (LO + 135) ≤ LO + 156 from fl_c (F := LO) (a := 8 + (2 + 11)) (b := 135) (c := 156) (by decide))⟩) ⟨fun a U g mk q => by obtain ⟨q0, q1, qP, qK, qD, qN⟩ := q; exact ⟨q0, q1, qP, va_K.moved (u := U) (U := U.calling g mk a) (Vm.Alike.refl U.vm) qK, qD, qN.same rfl⟩, va_recv hK hPc (ci := 9) (q0 := 0) rfl rfl, fun U hU hW => ⟨rfl, by rw [hU], by rw [hU]; exact hPc, va_K.moved hW.alike hK, hDc.weaken (fun _ _ _ _ => trivial), hN.warm hW⟩⟩ rfl rfl hl.1 rfl (lv_room (Nat.le_of_ble_eq_true rfl)) dX9_sum_41 ⟨(show 0 + 0 ≤ 0 by omega), (show 0 + 0 ≤ 0 by omega)⟩) hS (fun q _ h => hFc q h) hFc (fun u_49 t H1 locs ht hvm hw_50 hB hz1 hk1 hS => ?_)
          obtain ⟨w_51, w_52, w_53, w_54, w_55, w_56, w_57, w_58, w_59, w_60⟩ := u_49
          try dsimp only at hw_50 hB
          obtain ⟨iv_61, iv_62, iv_63, iv_64, po_65, tk_66, pg_67, rs_68⟩ := hw_50
          obtain ⟨hP1, hD1⟩ := hB
          rw [ht] at hP1
          obtain ⟨hP, hD⟩ := va_join (wr := []) (w1 := [((am 0), .inr (9, F9 am v_status v_now v_told v_merges v_taped v_size w_51 w_52 v_fault w_53 v_traits w_54 w_55 w_56 v_places v_models)), ((am 10), .inl (cA 3, 200, .inl f_tape)), ((am 13), .inl (cA 0, 5000, .inl w_57)), ((am 14), .inl (cA 0, 5000, .inl w_58)), ((am 15), .inl (cA 0, 5000, .inl w_59)), ((am 16), .inl (cA 0, 5000, .inl w_60))]) hP hD [4, 5, 0, 1, 2, 3] [] hCc rfl (by decide) (by decide) hk1 hFc hP1 hD1
          clear hz1
          generalize H1 = H at hP hS ⊢
          refine lv_aload_n hx hb dX9_sum_44 rfl (lv_at hl 1 rfl) ?_
          obtain ⟨hPc, hDc, hFc, hCc⟩ := va_pre (ws' := [((am 0), .inr (9, F9 am v_status v_now v_told v_merges v_taped v_size w_51 w_52 v_fault w_53 v_traits w_54 w_55 w_56 v_places v_models))]) hP hD hS hA [0] (by decide) rfl
          refine va_calli (va_runV (As := []) (rest := []) ⟨hx, hb, hml, hown, hts⟩ (k_X9_good l dC dI cA H.size am v_status v_now v_told v_merges v_taped v_size w_51 w_52 v_fault w_53 v_traits w_54 w_55 w_56 v_places v_models i_v_now i_v_told i_v_taped i_v_size iv_61 iv_62 i_v_traits iv_63 iv_64 i_v_places i_v_models) (cwV 0 hts gX9_sum_X9_good rfl rfl rfl (by decide +kernel) ⟨Nat.le_of_ble_eq_true rfl, Nat.le_of_ble_eq_true rfl⟩) ⟨fun a U g mk q => by obtain ⟨q0, q1, qP, qK, qD, qN⟩ := q; exact ⟨q0, q1, qP, va_K.moved (u := U) (U := U.calling g mk a) (Vm.Alike.refl U.vm) qK, qD, qN.same rfl⟩, va_recv hK hPc (ci := 9) (q0 := 0) rfl rfl, fun U hU hW => ⟨rfl, by rw [hU], by rw [hU]; exact hPc, va_K.moved hW.alike hK, hDc.weaken (fun _ _ _ _ => trivial), hN.warm hW⟩⟩ rfl rfl hl.1 rfl (lv_room (Nat.le_of_ble_eq_true rfl)) dX9_sum_45 ⟨Nat.le_of_ble_eq_true rfl, Nat.le_of_ble_eq_true rfl⟩) hS (fun q _ h => hFc q h) hFc (fun r_69 u_70 t H1 locs ht hvm hw_71 hB hz1 hk1 hS => ?_)
          try dsimp only at hw_71 hB
          have po_72 := hw_71
          clear hw_71
          obtain ⟨hP1, hD1⟩ := hB
          rw [ht] at hP1
          obtain ⟨hP, hD⟩ := va_join (wr := [((am 10), .inl (cA 3, 200, .inl f_tape)), ((am 13), .inl (cA 0, 5000, .inl w_57)), ((am 14), .inl (cA 0, 5000, .inl w_58)), ((am 15), .inl (cA 0, 5000, .inl w_59)), ((am 16), .inl (cA 0, 5000, .inl w_60))]) (w1 := [((am 0), .inr (9, F9 am v_status v_now v_told v_merges v_taped v_size w_51 w_52 v_fault w_53 v_traits w_54 w_55 w_56 v_places v_models))]) hP hD [0] [1, 2, 3, 4, 5] hCc rfl (by decide) (by decide) hk1 hFc hP1 hD1
          clear hz1
          generalize H1 = H at hP hS ⊢
          refine lv_if_eq (tgt := 67) hx hb dX9_sum_48 (by decide) (fun c_73 => ?_) (fun c_73 => ?_)
          · have dc_73 : r_69.toInt = 0 := jI_eq c_73 rfl (by decide)
            replace po_72 := gd_n po_72 dc_73
            replace po_65 := im7_n po_65
            refine lv_goto (tgt := 4) hx hb dX9_sum_67 (by decide) ?_
            exact ih_4 w_51 w_52 w_53 w_54 w_55 w_56 w_57 w_58 w_59 w_60 _ _ ls (by omega) iv_61 iv_62 iv_63 iv_64 (by omega) (tk_66) (prg_bad hv6_4 pg_67 (by omega)) (lpI_s hv7_4 (by omega) (Or.inl (tw_32.mp dc_33)) (by omega) (by omega) ad_48.1 ad_48.2 (by have h9 := rs_68; rw [show (8 - w_v_open_4.toInt).toNat = (8 - v_open.toInt).toNat by omega] at h9; exact h9)) (hP.sub [5, 0, 1, 2, 3, 4] rfl) (hD.sub [5, 0, 1, 2, 3, 4] (by decide) rfl) hS (lv_sub hl [1] rfl)
          · have dc_73 : ¬ r_69.toInt = 0 := jI_ne c_73 rfl (by decide)
            replace po_72 := gd_y po_72 dc_73
            replace po_65 := im7_y po_65 po_72
            refine lv_aload_n hx hb dX9_sum_51 rfl (lv_at hl 1 rfl) ?_
            refine lv_iload_n hx hb dX9_sum_52 rfl (lv_at hl 0 rfl) ?_
            refine lv_if_eq (tgt := 60) hx hb dX9_sum_53 (by decide) (fun c_74 => ?_) (fun c_74 => ?_)
            · have dc_74 : r_35.toInt = 0 := jI_eq c_74 rfl (by decide)
              replace po_38 := sg_n po_38
              refine lv_iconst (v := 2) hx hb dX9_sum_60 (by decide) ?_
              refine lv_iconst (v := 0) hx hb dX9_sum_61 (by decide) ?_
              refine lv_iconst (v := 0) hx hb dX9_sum_62 (by decide) ?_
              refine lv_iconst (v := 0) hx hb dX9_sum_63 (by decide) ?_
              have hk_75 : (2 : Int32).toInt = 2 := by decide
              have hk_76 : (0 : Int32).toInt = 0 := by decide
              obtain ⟨hPc, hDc, hFc, hCc⟩ := va_pre (ws' := [((am 0), .inr (9, F9 am v_status v_now v_told v_merges v_taped v_size w_51 w_52 v_fault w_53 v_traits w_54 w_55 w_56 v_places v_models)), ((am 13), .inl (cA 0, 5000, .inl w_57)), ((am 14), .inl (cA 0, 5000, .inl w_58)), ((am 15), .inl (cA 0, 5000, .inl w_59)), ((am 16), .inl (cA 0, 5000, .inl w_60))]) hP hD hS hA [5, 1, 2, 3, 4] (by decide) rfl
              refine va_callv (va_runV (As := [.int 2, .int 0, .int 0, .int 0]) (rest := []) ⟨hx, hb, hml, hown, hts⟩ (k_X9_puts l dC dI cA H.size am v_status v_now v_told v_merges v_taped v_size w_51 w_52 v_fault w_53 v_traits w_54 w_55 w_56 v_places v_models w_57 w_58 w_59 w_60 2 0 0 0 i_v_now i_v_told i_v_taped i_v_size iv_61 iv_62 i_v_traits iv_63 iv_64 i_v_places i_v_models htr (by omega)) (cwV 4 hts gX9_sum_X9_puts rfl rfl rfl (by decide +kernel) ⟨Nat.le_of_ble_eq_true rfl, Nat.le_of_ble_eq_true rfl⟩) ⟨fun a U g mk q => by obtain ⟨q0, q1, qP, qK, qD, qN⟩ := q; exact ⟨q0, q1, qP, va_K.moved (u := U) (U := U.calling g mk a) (Vm.Alike.refl U.vm) qK, qD, qN.same rfl⟩, va_recv hK hPc (ci := 9) (q0 := 0) rfl rfl, fun U hU hW => ⟨rfl, by rw [hU], by rw [hU]; exact hPc, va_K.moved hW.alike hK, hDc.weaken (fun _ _ _ _ => trivial), hN.warm hW⟩⟩ rfl rfl hl.1 rfl (lv_room (Nat.le_of_ble_eq_true rfl)) dX9_sum_64 ⟨Nat.le_of_ble_eq_true rfl, Nat.le_of_ble_eq_true rfl⟩) hS (fun q _ h => hFc q h) hFc (fun u_77 t H1 locs ht hvm hw_78 hB hz1 hk1 hS => ?_)
              obtain ⟨w_79, w_80, w_81, w_82, w_83⟩ := u_77
              try dsimp only at hw_78 hB
              obtain ⟨iv_84, po_85, es_86, eA_87⟩ := hw_78
              try simp only [hk_75, hk_76] at po_85 es_86 eA_87
              obtain ⟨hP1, hD1⟩ := hB
              rw [ht] at hP1
              obtain ⟨hP, hD⟩ := va_join (wr := [((am 10), .inl (cA 3, 200, .inl f_tape))]) (w1 := [((am 0), .inr (9, F9 am v_status v_now v_told v_merges v_taped v_size w_51 w_52 v_fault w_53 v_traits w_79 w_55 w_56 v_places v_models)), ((am 13), .inl (cA 0, 5000, .inl w_80)), ((am 14), .inl (cA 0, 5000, .inl w_81)), ((am 15), .inl (cA 0, 5000, .inl w_82)), ((am 16), .inl (cA 0, 5000, .inl w_83))]) hP hD [5, 1, 2, 3, 4] [0] hCc rfl (by decide) (by decide) hk1 hFc hP1 hD1
              clear hz1
              generalize H1 = H at hP hS ⊢
              refine lv_goto (tgt := 4) hx hb dX9_sum_67 (by decide) ?_
              exact ih_4 w_51 w_52 w_53 w_79 w_55 w_56 w_80 w_81 w_82 w_83 _ _ ls (by omega) iv_61 iv_62 iv_84 iv_64 (by omega) (tk_66) (prg_op hwp hv6_4 (by omega) pg_67 (by omega) (by first | omega | decide) es_86 eA_87 (by omega)) (lpI_s hv7_4 (by omega) (Or.inl (tw_32.mp dc_33)) (by omega) (by omega) ad_48.1 ad_48.2 (by have h9 := rs_68; rw [show (8 - w_v_open_4.toInt).toNat = (8 - v_open.toInt).toNat by omega] at h9; rw [orb_0 (by first | omega | decide) es_86 eA_87 (by omega)]; exact h9)) (hP.sub [1, 0, 2, 3, 4, 5] rfl) (hD.sub [1, 0, 2, 3, 4, 5] (by decide) rfl) hS (lv_sub hl [1] rfl)
            · have dc_74 : ¬ r_35.toInt = 0 := jI_ne c_74 rfl (by decide)
              replace po_38 := sg_y po_38 dc_74
              refine lv_iconst (v := 1) hx hb dX9_sum_56 (by decide) ?_
              refine lv_goto (tgt := 61) hx hb dX9_sum_57 (by decide) ?_
              refine lv_iconst (v := 0) hx hb dX9_sum_61 (by decide) ?_
              refine lv_iconst (v := 0) hx hb dX9_sum_62 (by decide) ?_
              refine lv_iconst (v := 0) hx hb dX9_sum_63 (by decide) ?_
              have hk_88 : (1 : Int32).toInt = 1 := by decide
              have hk_89 : (0 : Int32).toInt = 0 := by decide
              obtain ⟨hPc, hDc, hFc, hCc⟩ := va_pre (ws' := [((am 0), .inr (9, F9 am v_status v_now v_told v_merges v_taped v_size w_51 w_52 v_fault w_53 v_traits w_54 w_55 w_56 v_places v_models)), ((am 13), .inl (cA 0, 5000, .inl w_57)), ((am 14), .inl (cA 0, 5000, .inl w_58)), ((am 15), .inl (cA 0, 5000, .inl w_59)), ((am 16), .inl (cA 0, 5000, .inl w_60))]) hP hD hS hA [5, 1, 2, 3, 4] (by decide) rfl
              refine va_callv (va_runV (As := [.int 1, .int 0, .int 0, .int 0]) (rest := []) ⟨hx, hb, hml, hown, hts⟩ (k_X9_puts l dC dI cA H.size am v_status v_now v_told v_merges v_taped v_size w_51 w_52 v_fault w_53 v_traits w_54 w_55 w_56 v_places v_models w_57 w_58 w_59 w_60 1 0 0 0 i_v_now i_v_told i_v_taped i_v_size iv_61 iv_62 i_v_traits iv_63 iv_64 i_v_places i_v_models htr (by omega)) (cwV 4 hts gX9_sum_X9_puts rfl rfl rfl (by decide +kernel) ⟨Nat.le_of_ble_eq_true rfl, Nat.le_of_ble_eq_true rfl⟩) ⟨fun a U g mk q => by obtain ⟨q0, q1, qP, qK, qD, qN⟩ := q; exact ⟨q0, q1, qP, va_K.moved (u := U) (U := U.calling g mk a) (Vm.Alike.refl U.vm) qK, qD, qN.same rfl⟩, va_recv hK hPc (ci := 9) (q0 := 0) rfl rfl, fun U hU hW => ⟨rfl, by rw [hU], by rw [hU]; exact hPc, va_K.moved hW.alike hK, hDc.weaken (fun _ _ _ _ => trivial), hN.warm hW⟩⟩ rfl rfl hl.1 rfl (lv_room (Nat.le_of_ble_eq_true rfl)) dX9_sum_64 ⟨Nat.le_of_ble_eq_true rfl, Nat.le_of_ble_eq_true rfl⟩) hS (fun q _ h => hFc q h) hFc (fun u_90 t H1 locs ht hvm hw_91 hB hz1 hk1 hS => ?_)
              obtain ⟨w_92, w_93, w_94, w_95, w_96⟩ := u_90
              try dsimp only at hw_91 hB
              obtain ⟨iv_97, po_98, es_99, eA_100⟩ := hw_91
              try simp only [hk_88, hk_89] at po_98 es_99 eA_100
              obtain ⟨hP1, hD1⟩ := hB
              rw [ht] at hP1
              obtain ⟨hP, hD⟩ := va_join (wr := [((am 10), .inl (cA 3, 200, .inl f_tape))]) (w1 := [((am 0), .inr (9, F9 am v_status v_now v_told v_merges v_taped v_size w_51 w_52 v_fault w_53 v_traits w_92 w_55 w_56 v_places v_models)), ((am 13), .inl (cA 0, 5000, .inl w_93)), ((am 14), .inl (cA 0, 5000, .inl w_94)), ((am 15), .inl (cA 0, 5000, .inl w_95)), ((am 16), .inl (cA 0, 5000, .inl w_96))]) hP hD [5, 1, 2, 3, 4] [0] hCc rfl (by decide) (by decide) hk1 hFc hP1 hD1
              clear hz1
              generalize H1 = H at hP hS ⊢
              refine lv_goto (tgt := 4) hx hb dX9_sum_67 (by decide) ?_
              exact ih_4 w_51 w_52 w_53 w_92 w_55 w_56 w_93 w_94 w_95 w_96 _ _ ls (by omega) iv_61 iv_62 iv_97 iv_64 (by omega) (tk_66) (prg_op hwp hv6_4 (by omega) pg_67 (by omega) (by first | omega | decide) es_99 eA_100 (by omega)) (lpI_s hv7_4 (by omega) (Or.inl (tw_32.mp dc_33)) (by omega) (by omega) ad_48.1 ad_48.2 (by have h9 := rs_68; rw [show (8 - w_v_open_4.toInt).toNat = (8 - v_open.toInt).toNat by omega] at h9; rw [orb_0 (by first | omega | decide) es_99 eA_100 (by omega)]; exact h9)) (hP.sub [1, 0, 2, 3, 4, 5] rfl) (hD.sub [1, 0, 2, 3, 4, 5] (by decide) rfl) hS (lv_sub hl [1] rfl)
        · have dc_33 : r_28.toInt = 0 := jI_eq c_33 rfl (by decide)
          replace po_31 := sg_n po_31
          refine lv_aload_n hx hb dX9_sum_20 rfl (lv_at hl 0 rfl) ?_
          refine lv_bipush (v := 45) hx hb dX9_sum_21 (by decide) ?_
          have hk_101 : (45 : Int32).toInt = 45 := by decide
          obtain ⟨hPc, hDc, hFc, hCc⟩ := va_pre (ws' := [((am 0), .inr (9, F9 am v_status v_now v_told v_merges v_taped v_size w_v_from_4 w_v_to_4 v_fault w_v_readFault_4 v_traits w_v_length_4 w_v_open_4 w_v_leaks_4 v_places v_models)), ((am 10), .inl (cA 3, 200, .inl f_tape))]) hP hD hS hA [4, 5] (by decide) rfl
          refine va_calli (va_runV (As := [.int 45]) (rest := []) ⟨hx, hb, hml, hown, hts⟩ (k_X9_isSign l dC dI cA H.size am v_status v_now v_told v_merges v_taped v_size w_v_from_4 w_v_to_4 v_fault w_v_readFault_4 v_traits w_v_length_4 w_v_open_4 w_v_leaks_4 v_places v_models f_tape 45 i_v_now i_v_told i_v_taped i_v_size hv0_4 hv1_4 i_v_traits hv2_4 hv3_4 i_v_places i_v_models (by omega)) (cwV 1 hts gX9_sum_X9_isSign rfl rfl rfl (by decide +kernel) ⟨Nat.le_of_ble_eq_true rfl, Nat.le_of_ble_eq_true rfl⟩) ⟨fun a U g mk q => by obtain ⟨q0, q1, qP, qK, qD, qN⟩ := q; exact ⟨q0, q1, qP, va_K.moved (u := U) (U := U.calling g mk a) (Vm.Alike.refl U.vm) qK, qD, qN.same rfl⟩, va_recv hK hPc (ci := 9) (q0 := 0) rfl rfl, fun U hU hW => ⟨rfl, by rw [hU], by rw [hU]; exact hPc, va_K.moved hW.alike hK, hDc.weaken (fun _ _ _ _ => trivial), hN.warm hW⟩⟩ rfl rfl hl.1 rfl (lv_room (Nat.le_of_ble_eq_true rfl)) dX9_sum_23 ⟨Nat.le_of_ble_eq_true rfl, Nat.le_of_ble_eq_true rfl⟩) hS (fun q _ h => hFc q h) hFc (fun r_102 u_103 t H1 locs ht hvm hw_104 hB hz1 hk1 hS => ?_)
          try dsimp only at hw_104 hB
          obtain ⟨po_105, tw_106⟩ := hw_104
          try simp only [hk_101] at po_105 tw_106
          obtain ⟨hP1, hD1⟩ := hB
          rw [ht] at hP1
          obtain ⟨hP, hD⟩ := va_join (wr := [((am 13), .inl (cA 0, 5000, .inl w_f_step_4)), ((am 14), .inl (cA 0, 5000, .inl w_f_stepA_4)), ((am 15), .inl (cA 0, 5000, .inl w_f_stepB_4)), ((am 16), .inl (cA 0, 5000, .inl w_f_stepC_4))]) (w1 := [((am 0), .inr (9, F9 am v_status v_now v_told v_merges v_taped v_size w_v_from_4 w_v_to_4 v_fault w_v_readFault_4 v_traits w_v_length_4 w_v_open_4 w_v_leaks_4 v_places v_models)), ((am 10), .inl (cA 3, 200, .inl f_tape))]) hP hD [4, 5] [0, 1, 2, 3] hCc rfl (by decide) (by decide) hk1 hFc hP1 hD1
          clear hz1
          generalize H1 = H at hP hS ⊢
          refine lv_if_eq (tgt := 70) hx hb dX9_sum_26 (by decide) (fun c_107 => ?_) (fun c_107 => ?_)
          · have dc_107 : r_102.toInt = 0 := jI_eq c_107 rfl (by decide)
            replace po_105 := sg_n po_105
            obtain ⟨hP9, hD9⟩ := va_pd (ws' := [((am 0), .inr (9, F9 am v_status v_now v_told v_merges v_taped v_size w_v_from_4 w_v_to_4 v_fault w_v_readFault_4 v_traits w_v_length_4 w_v_open_4 w_v_leaks_4 v_places v_models)), ((am 10), .inl (cA 3, 200, .inl f_tape)), ((am 13), .inl (cA 0, 5000, .inl w_f_step_4)), ((am 14), .inl (cA 0, 5000, .inl w_f_stepA_4)), ((am 15), .inl (cA 0, 5000, .inl w_f_stepB_4)), ((am 16), .inl (cA 0, 5000, .inl w_f_stepC_4))]) hP hD [4, 5, 0, 1, 2, 3] (by decide) rfl
            subst hQe
            have hpost : (0 ≤ w_v_from_4.toInt ∧ w_v_from_4.toInt ≤ 200) ∧ (0 ≤ w_v_to_4.toInt ∧ w_v_to_4.toInt ≤ 200) ∧ (0 ≤ w_v_length_4.toInt ∧ w_v_length_4.toInt ≤ 200) ∧ (0 ≤ w_v_open_4.toInt ∧ w_v_open_4.toInt ≤ 8) ∧ (v_from.toInt ≤ w_v_from_4.toInt ∧ w_v_from_4.toInt ≤ w_v_to_4.toInt ∧ w_v_to_4.toInt ≤ v_size.toInt ∧ (w_v_from_4.toInt < v_size.toInt → w_v_from_4.toInt < w_v_to_4.toInt) ∧ w_v_length_4.toInt - v_length.toInt ≤ w_v_from_4.toInt - v_from.toInt ∧ v_length.toInt ≤ w_v_length_4.toInt ∧ (w_v_readFault_4.toInt = (-1) → w_v_open_4.toInt = v_open.toInt)) ∧ (tokOK f_tape w_v_from_4 w_v_to_4 v_size) ∧ (prg f_step f_stepA w_f_step_4 w_f_stepA_4 (250 * v_traits.toInt.toNat) v_length.toInt.toNat w_v_length_4.toInt.toNat (w_v_readFault_4.toInt = (-1))) ∧ (rs w_v_readFault_4 w_v_from_4 w_v_to_4 w_v_leaks_4 (orb w_f_step_4 w_f_stepA_4 (250 * v_traits.toInt.toNat) w_v_length_4.toInt.toNat) = psum (tpe f_tape v_size) v_size.toInt v_traits.toInt (pB (tpe f_tape v_size) v_size.toInt v_traits.toInt (8 - v_open.toInt).toNat) v_from.toInt v_to.toInt v_leaks.toInt (orb f_step f_stepA (250 * v_traits.toInt.toNat) v_length.toInt.toNat)) := ⟨hv0_4, hv1_4, hv2_4, hv3_4, by omega, hv5_4, prg_same hv6_4 (fun h => by omega), lpI_e hv7_4 (Or.inr (fun h => h.elim (fun h => absurd (tw_32.mpr h) (fun q => q dc_33)) (fun h => absurd (tw_106.mpr h) (fun q => q dc_107))))⟩
            exact W.vret hx hb hr (fun t ht hW => ⟨⟨(w_v_from_4, w_v_to_4, w_v_readFault_4, w_v_length_4, w_v_open_4, w_v_leaks_4, w_f_step_4, w_f_stepA_4, w_f_stepB_4, w_f_stepC_4), rfl, hpost, by rw [ht]; exact hP9, hD9⟩, hS.F ht⟩) hS.2.2 dX9_sum_70
          · have dc_107 : ¬ r_102.toInt = 0 := jI_ne c_107 rfl (by decide)
            replace po_105 := sg_y po_105 dc_107
            refine lv_aload_n hx hb dX9_sum_29 rfl (lv_at hl 0 rfl) ?_
            refine lv_bipush (v := 43) hx hb dX9_sum_30 (by decide) ?_
            have hk_108 : (43 : Int32).toInt = 43 := by decide
            obtain ⟨hPc, hDc, hFc, hCc⟩ := va_pre (ws' := [((am 0), .inr (9, F9 am v_status v_now v_told v_merges v_taped v_size w_v_from_4 w_v_to_4 v_fault w_v_readFault_4 v_traits w_v_length_4 w_v_open_4 w_v_leaks_4 v_places v_models)), ((am 10), .inl (cA 3, 200, .inl f_tape))]) hP hD hS hA [4, 5] (by decide) rfl
            refine va_calli (va_runV (As := [.int 43]) (rest := []) ⟨hx, hb, hml, hown, hts⟩ (k_X9_isSign l dC dI cA H.size am v_status v_now v_told v_merges v_taped v_size w_v_from_4 w_v_to_4 v_fault w_v_readFault_4 v_traits w_v_length_4 w_v_open_4 w_v_leaks_4 v_places v_models f_tape 43 i_v_now i_v_told i_v_taped i_v_size hv0_4 hv1_4 i_v_traits hv2_4 hv3_4 i_v_places i_v_models (by omega)) (cwV 1 hts gX9_sum_X9_isSign rfl rfl rfl (by decide +kernel) ⟨Nat.le_of_ble_eq_true rfl, Nat.le_of_ble_eq_true rfl⟩) ⟨fun a U g mk q => by obtain ⟨q0, q1, qP, qK, qD, qN⟩ := q; exact ⟨q0, q1, qP, va_K.moved (u := U) (U := U.calling g mk a) (Vm.Alike.refl U.vm) qK, qD, qN.same rfl⟩, va_recv hK hPc (ci := 9) (q0 := 0) rfl rfl, fun U hU hW => ⟨rfl, by rw [hU], by rw [hU]; exact hPc, va_K.moved hW.alike hK, hDc.weaken (fun _ _ _ _ => trivial), hN.warm hW⟩⟩ rfl rfl hl.1 rfl (lv_room (Nat.le_of_ble_eq_true rfl)) dX9_sum_32 ⟨Nat.le_of_ble_eq_true rfl, Nat.le_of_ble_eq_true rfl⟩) hS (fun q _ h => hFc q h) hFc (fun r_109 u_110 t H1 locs ht hvm hw_111 hB hz1 hk1 hS => ?_)
            try dsimp only at hw_111 hB
            obtain ⟨po_112, tw_113⟩ := hw_111
            try simp only [hk_108] at po_112 tw_113
            obtain ⟨hP1, hD1⟩ := hB
            rw [ht] at hP1
            obtain ⟨hP, hD⟩ := va_join (wr := [((am 13), .inl (cA 0, 5000, .inl w_f_step_4)), ((am 14), .inl (cA 0, 5000, .inl w_f_stepA_4)), ((am 15), .inl (cA 0, 5000, .inl w_f_stepB_4)), ((am 16), .inl (cA 0, 5000, .inl w_f_stepC_4))]) (w1 := [((am 0), .inr (9, F9 am v_status v_now v_told v_merges v_taped v_size w_v_from_4 w_v_to_4 v_fault w_v_readFault_4 v_traits w_v_length_4 w_v_open_4 w_v_leaks_4 v_places v_models)), ((am 10), .inl (cA 3, 200, .inl f_tape))]) hP hD [4, 5] [0, 1, 2, 3] hCc rfl (by decide) (by decide) hk1 hFc hP1 hD1
            clear hz1
            generalize H1 = H at hP hS ⊢
            refine lv_istore_n (lv' := [(1, .int r_109), (0, .ref (am 0))]) hx hb dX9_sum_35 rfl hl (by decide) rfl (fun ls hl => ?_)
            refine lv_aload_n hx hb dX9_sum_36 rfl (lv_at hl 1 rfl) ?_
            obtain ⟨hPc, hDc, hFc, hCc⟩ := va_pre (ws' := [((am 0), .inr (9, F9 am v_status v_now v_told v_merges v_taped v_size w_v_from_4 w_v_to_4 v_fault w_v_readFault_4 v_traits w_v_length_4 w_v_open_4 w_v_leaks_4 v_places v_models)), ((am 10), .inl (cA 3, 200, .inl f_tape))]) hP hD hS hA [4, 5] (by decide) rfl
            refine va_callv (va_runV (As := []) (rest := []) ⟨hx, hb, hml, hown, hts⟩ (k_X9_next l dC dI cA H.size am v_status v_now v_told v_merges v_taped v_size w_v_from_4 w_v_to_4 v_fault w_v_readFault_4 v_traits w_v_length_4 w_v_open_4 w_v_leaks_4 v_places v_models f_tape i_v_now i_v_told i_v_taped i_v_size hv0_4 hv1_4 i_v_traits hv2_4 hv3_4 i_v_places i_v_models (by omega)) (cwV 0 hts gX9_sum_X9_next rfl rfl rfl (by decide +kernel) ⟨Nat.le_of_ble_eq_true rfl, Nat.le_of_ble_eq_true rfl⟩) ⟨fun a U g mk q => by obtain ⟨q0, q1, qP, qK, qD, qN⟩ := q; exact ⟨q0, q1, qP, va_K.moved (u := U) (U := U.calling g mk a) (Vm.Alike.refl U.vm) qK, qD, qN.same rfl⟩, va_recv hK hPc (ci := 9) (q0 := 0) rfl rfl, fun U hU hW => ⟨rfl, by rw [hU], by rw [hU]; exact hPc, va_K.moved hW.alike hK, hDc.weaken (fun _ _ _ _ => trivial), hN.warm hW⟩⟩ rfl rfl hl.1 rfl (lv_room (Nat.le_of_ble_eq_true rfl)) dX9_sum_37 ⟨Nat.le_of_ble_eq_true rfl, Nat.le_of_ble_eq_true rfl⟩) hS (fun q _ h => hFc q h) hFc (fun u_114 t H1 locs ht hvm hw_115 hB hz1 hk1 hS => ?_)
            obtain ⟨w_116, w_117⟩ := u_114
            try dsimp only at hw_115 hB
            obtain ⟨iv_118, iv_119, po_120, tk_121, ad_122⟩ := hw_115
            obtain ⟨hP1, hD1⟩ := hB
            rw [ht] at hP1
            obtain ⟨hP, hD⟩ := va_join (wr := [((am 13), .inl (cA 0, 5000, .inl w_f_step_4)), ((am 14), .inl (cA 0, 5000, .inl w_f_stepA_4)), ((am 15), .inl (cA 0, 5000, .inl w_f_stepB_4)), ((am 16), .inl (cA 0, 5000, .inl w_f_stepC_4))]) (w1 := [((am 0), .inr (9, F9 am v_status v_now v_told v_merges v_taped v_size w_116 w_117 v_fault w_v_readFault_4 v_traits w_v_length_4 w_v_open_4 w_v_leaks_4 v_places v_models)), ((am 10), .inl (cA 3, 200, .inl f_tape))]) hP hD [4, 5] [0, 1, 2, 3] hCc rfl (by decide) (by decide) hk1 hFc hP1 hD1
            clear hz1
            generalize H1 = H at hP hS ⊢
            refine lv_aload_n hx hb dX9_sum_40 rfl (lv_at hl 1 rfl) ?_
            obtain ⟨hPc, hDc, hFc, hCc⟩ := va_pre (ws' := [((am 0), .inr (9, F9 am v_status v_now v_told v_merges v_taped v_size w_116 w_117 v_fault w_v_readFault_4 v_traits w_v_length_4 w_v_open_4 w_v_leaks_4 v_places v_models)), ((am 10), .inl (cA 3, 200, .inl f_tape)), ((am 13), .inl (cA 0, 5000, .inl w_f_step_4)), ((am 14), .inl (cA 0, 5000, .inl w_f_stepA_4)), ((am 15), .inl (cA 0, 5000, .inl w_f_stepB_4)), ((am 16), .inl (cA 0, 5000, .inl w_f_stepC_4))]) hP hD hS hA [4, 5, 0, 1, 2, 3] (by decide) rfl
            refine va_callv (va_runV (As := []) (rest := []) ⟨hx, hb, hml, hown, hts⟩ (k_X9_term l dC dI cA H.size am v_status v_now v_told v_merges v_taped v_size w_116 w_117 v_fault w_v_readFault_4 v_traits w_v_length_4 w_v_open_4 w_v_leaks_4 v_places v_models f_tape w_f_step_4 w_f_stepA_4 w_f_stepB_4 w_f_stepC_4 rl FR LO i_v_now i_v_told i_v_taped i_v_size iv_118 iv_119 i_v_traits hv2_4 hv3_4 i_v_places i_v_models htr (by omega) tk_121 (by omega) (by omega) hv6_4.2.2.1 (by omega) ih) (cwV 0 hts gX9_sum_X9_term rfl rfl rfl (by decide +kernel) ⟨(show (FR + 6) + 1 ≤ FR + 7 from fl_a (F := FR) (a := 6) (b := 1) (c := 7) (by decide)), (show 8 + (2 + 11) + (LO + 135) ≤ LO + 156 from fl_c (F := LO) (a := 8 + (2 + 11)) (b := 135) (c := 156) (by decide))⟩) ⟨fun a U g mk q => by obtain ⟨q0, q1, qP, qK, qD, qN⟩ := q; exact ⟨q0, q1, qP, va_K.moved (u := U) (U := U.calling g mk a) (Vm.Alike.refl U.vm) qK, qD, qN.same rfl⟩, va_recv hK hPc (ci := 9) (q0 := 0) rfl rfl, fun U hU hW => ⟨rfl, by rw [hU], by rw [hU]; exact hPc, va_K.moved hW.alike hK, hDc.weaken (fun _ _ _ _ => trivial), hN.warm hW⟩⟩ rfl rfl hl.1 rfl (lv_room (Nat.le_of_ble_eq_true rfl)) dX9_sum_41 ⟨(show 0 + 0 ≤ 0 by omega), (show 0 + 0 ≤ 0 by omega)⟩) hS (fun q _ h => hFc q h) hFc (fun u_123 t H1 locs ht hvm hw_124 hB hz1 hk1 hS => ?_)
            obtain ⟨w_125, w_126, w_127, w_128, w_129, w_130, w_131, w_132, w_133, w_134⟩ := u_123
            try dsimp only at hw_124 hB
            obtain ⟨iv_135, iv_136, iv_137, iv_138, po_139, tk_140, pg_141, rs_142⟩ := hw_124
            obtain ⟨hP1, hD1⟩ := hB
            rw [ht] at hP1
            obtain ⟨hP, hD⟩ := va_join (wr := []) (w1 := [((am 0), .inr (9, F9 am v_status v_now v_told v_merges v_taped v_size w_125 w_126 v_fault w_127 v_traits w_128 w_129 w_130 v_places v_models)), ((am 10), .inl (cA 3, 200, .inl f_tape)), ((am 13), .inl (cA 0, 5000, .inl w_131)), ((am 14), .inl (cA 0, 5000, .inl w_132)), ((am 15), .inl (cA 0, 5000, .inl w_133)), ((am 16), .inl (cA 0, 5000, .inl w_134))]) hP hD [4, 5, 0, 1, 2, 3] [] hCc rfl (by decide) (by decide) hk1 hFc hP1 hD1
            clear hz1
            generalize H1 = H at hP hS ⊢
            refine lv_aload_n hx hb dX9_sum_44 rfl (lv_at hl 1 rfl) ?_
            obtain ⟨hPc, hDc, hFc, hCc⟩ := va_pre (ws' := [((am 0), .inr (9, F9 am v_status v_now v_told v_merges v_taped v_size w_125 w_126 v_fault w_127 v_traits w_128 w_129 w_130 v_places v_models))]) hP hD hS hA [0] (by decide) rfl
            refine va_calli (va_runV (As := []) (rest := []) ⟨hx, hb, hml, hown, hts⟩ (k_X9_good l dC dI cA H.size am v_status v_now v_told v_merges v_taped v_size w_125 w_126 v_fault w_127 v_traits w_128 w_129 w_130 v_places v_models i_v_now i_v_told i_v_taped i_v_size iv_135 iv_136 i_v_traits iv_137 iv_138 i_v_places i_v_models) (cwV 0 hts gX9_sum_X9_good rfl rfl rfl (by decide +kernel) ⟨Nat.le_of_ble_eq_true rfl, Nat.le_of_ble_eq_true rfl⟩) ⟨fun a U g mk q => by obtain ⟨q0, q1, qP, qK, qD, qN⟩ := q; exact ⟨q0, q1, qP, va_K.moved (u := U) (U := U.calling g mk a) (Vm.Alike.refl U.vm) qK, qD, qN.same rfl⟩, va_recv hK hPc (ci := 9) (q0 := 0) rfl rfl, fun U hU hW => ⟨rfl, by rw [hU], by rw [hU]; exact hPc, va_K.moved hW.alike hK, hDc.weaken (fun _ _ _ _ => trivial), hN.warm hW⟩⟩ rfl rfl hl.1 rfl (lv_room (Nat.le_of_ble_eq_true rfl)) dX9_sum_45 ⟨Nat.le_of_ble_eq_true rfl, Nat.le_of_ble_eq_true rfl⟩) hS (fun q _ h => hFc q h) hFc (fun r_143 u_144 t H1 locs ht hvm hw_145 hB hz1 hk1 hS => ?_)
            try dsimp only at hw_145 hB
            have po_146 := hw_145
            clear hw_145
            obtain ⟨hP1, hD1⟩ := hB
            rw [ht] at hP1
            obtain ⟨hP, hD⟩ := va_join (wr := [((am 10), .inl (cA 3, 200, .inl f_tape)), ((am 13), .inl (cA 0, 5000, .inl w_131)), ((am 14), .inl (cA 0, 5000, .inl w_132)), ((am 15), .inl (cA 0, 5000, .inl w_133)), ((am 16), .inl (cA 0, 5000, .inl w_134))]) (w1 := [((am 0), .inr (9, F9 am v_status v_now v_told v_merges v_taped v_size w_125 w_126 v_fault w_127 v_traits w_128 w_129 w_130 v_places v_models))]) hP hD [0] [1, 2, 3, 4, 5] hCc rfl (by decide) (by decide) hk1 hFc hP1 hD1
            clear hz1
            generalize H1 = H at hP hS ⊢
            refine lv_if_eq (tgt := 67) hx hb dX9_sum_48 (by decide) (fun c_147 => ?_) (fun c_147 => ?_)
            · have dc_147 : r_143.toInt = 0 := jI_eq c_147 rfl (by decide)
              replace po_146 := gd_n po_146 dc_147
              replace po_139 := im7_n po_139
              refine lv_goto (tgt := 4) hx hb dX9_sum_67 (by decide) ?_
              exact ih_4 w_125 w_126 w_127 w_128 w_129 w_130 w_131 w_132 w_133 w_134 _ _ ls (by omega) iv_135 iv_136 iv_137 iv_138 (by omega) (tk_140) (prg_bad hv6_4 pg_141 (by omega)) (lpI_s hv7_4 (by omega) (Or.inr (tw_106.mp dc_107)) (by omega) (by omega) ad_122.1 ad_122.2 (by have h9 := rs_142; rw [show (8 - w_v_open_4.toInt).toNat = (8 - v_open.toInt).toNat by omega] at h9; exact h9)) (hP.sub [5, 0, 1, 2, 3, 4] rfl) (hD.sub [5, 0, 1, 2, 3, 4] (by decide) rfl) hS (lv_sub hl [1] rfl)
            · have dc_147 : ¬ r_143.toInt = 0 := jI_ne c_147 rfl (by decide)
              replace po_146 := gd_y po_146 dc_147
              replace po_139 := im7_y po_139 po_146
              refine lv_aload_n hx hb dX9_sum_51 rfl (lv_at hl 1 rfl) ?_
              refine lv_iload_n hx hb dX9_sum_52 rfl (lv_at hl 0 rfl) ?_
              refine lv_if_eq (tgt := 60) hx hb dX9_sum_53 (by decide) (fun c_148 => ?_) (fun c_148 => ?_)
              · have dc_148 : r_109.toInt = 0 := jI_eq c_148 rfl (by decide)
                replace po_112 := sg_n po_112
                refine lv_iconst (v := 2) hx hb dX9_sum_60 (by decide) ?_
                refine lv_iconst (v := 0) hx hb dX9_sum_61 (by decide) ?_
                refine lv_iconst (v := 0) hx hb dX9_sum_62 (by decide) ?_
                refine lv_iconst (v := 0) hx hb dX9_sum_63 (by decide) ?_
                have hk_149 : (2 : Int32).toInt = 2 := by decide
                have hk_150 : (0 : Int32).toInt = 0 := by decide
                obtain ⟨hPc, hDc, hFc, hCc⟩ := va_pre (ws' := [((am 0), .inr (9, F9 am v_status v_now v_told v_merges v_taped v_size w_125 w_126 v_fault w_127 v_traits w_128 w_129 w_130 v_places v_models)), ((am 13), .inl (cA 0, 5000, .inl w_131)), ((am 14), .inl (cA 0, 5000, .inl w_132)), ((am 15), .inl (cA 0, 5000, .inl w_133)), ((am 16), .inl (cA 0, 5000, .inl w_134))]) hP hD hS hA [5, 1, 2, 3, 4] (by decide) rfl
                refine va_callv (va_runV (As := [.int 2, .int 0, .int 0, .int 0]) (rest := []) ⟨hx, hb, hml, hown, hts⟩ (k_X9_puts l dC dI cA H.size am v_status v_now v_told v_merges v_taped v_size w_125 w_126 v_fault w_127 v_traits w_128 w_129 w_130 v_places v_models w_131 w_132 w_133 w_134 2 0 0 0 i_v_now i_v_told i_v_taped i_v_size iv_135 iv_136 i_v_traits iv_137 iv_138 i_v_places i_v_models htr (by omega)) (cwV 4 hts gX9_sum_X9_puts rfl rfl rfl (by decide +kernel) ⟨Nat.le_of_ble_eq_true rfl, Nat.le_of_ble_eq_true rfl⟩) ⟨fun a U g mk q => by obtain ⟨q0, q1, qP, qK, qD, qN⟩ := q; exact ⟨q0, q1, qP, va_K.moved (u := U) (U := U.calling g mk a) (Vm.Alike.refl U.vm) qK, qD, qN.same rfl⟩, va_recv hK hPc (ci := 9) (q0 := 0) rfl rfl, fun U hU hW => ⟨rfl, by rw [hU], by rw [hU]; exact hPc, va_K.moved hW.alike hK, hDc.weaken (fun _ _ _ _ => trivial), hN.warm hW⟩⟩ rfl rfl hl.1 rfl (lv_room (Nat.le_of_ble_eq_true rfl)) dX9_sum_64 ⟨Nat.le_of_ble_eq_true rfl, Nat.le_of_ble_eq_true rfl⟩) hS (fun q _ h => hFc q h) hFc (fun u_151 t H1 locs ht hvm hw_152 hB hz1 hk1 hS => ?_)
                obtain ⟨w_153, w_154, w_155, w_156, w_157⟩ := u_151
                try dsimp only at hw_152 hB
                obtain ⟨iv_158, po_159, es_160, eA_161⟩ := hw_152
                try simp only [hk_149, hk_150] at po_159 es_160 eA_161
                obtain ⟨hP1, hD1⟩ := hB
                rw [ht] at hP1
                obtain ⟨hP, hD⟩ := va_join (wr := [((am 10), .inl (cA 3, 200, .inl f_tape))]) (w1 := [((am 0), .inr (9, F9 am v_status v_now v_told v_merges v_taped v_size w_125 w_126 v_fault w_127 v_traits w_153 w_129 w_130 v_places v_models)), ((am 13), .inl (cA 0, 5000, .inl w_154)), ((am 14), .inl (cA 0, 5000, .inl w_155)), ((am 15), .inl (cA 0, 5000, .inl w_156)), ((am 16), .inl (cA 0, 5000, .inl w_157))]) hP hD [5, 1, 2, 3, 4] [0] hCc rfl (by decide) (by decide) hk1 hFc hP1 hD1
                clear hz1
                generalize H1 = H at hP hS ⊢
                refine lv_goto (tgt := 4) hx hb dX9_sum_67 (by decide) ?_
                exact ih_4 w_125 w_126 w_127 w_153 w_129 w_130 w_154 w_155 w_156 w_157 _ _ ls (by omega) iv_135 iv_136 iv_158 iv_138 (by omega) (tk_140) (prg_op hwp hv6_4 (by omega) pg_141 (by omega) (by first | omega | decide) es_160 eA_161 (by omega)) (lpI_s hv7_4 (by omega) (Or.inr (tw_106.mp dc_107)) (by omega) (by omega) ad_122.1 ad_122.2 (by have h9 := rs_142; rw [show (8 - w_v_open_4.toInt).toNat = (8 - v_open.toInt).toNat by omega] at h9; rw [orb_0 (by first | omega | decide) es_160 eA_161 (by omega)]; exact h9)) (hP.sub [1, 0, 2, 3, 4, 5] rfl) (hD.sub [1, 0, 2, 3, 4, 5] (by decide) rfl) hS (lv_sub hl [1] rfl)
              · have dc_148 : ¬ r_109.toInt = 0 := jI_ne c_148 rfl (by decide)
                replace po_112 := sg_y po_112 dc_148
                refine lv_iconst (v := 1) hx hb dX9_sum_56 (by decide) ?_
                refine lv_goto (tgt := 61) hx hb dX9_sum_57 (by decide) ?_
                refine lv_iconst (v := 0) hx hb dX9_sum_61 (by decide) ?_
                refine lv_iconst (v := 0) hx hb dX9_sum_62 (by decide) ?_
                refine lv_iconst (v := 0) hx hb dX9_sum_63 (by decide) ?_
                have hk_162 : (1 : Int32).toInt = 1 := by decide
                have hk_163 : (0 : Int32).toInt = 0 := by decide
                obtain ⟨hPc, hDc, hFc, hCc⟩ := va_pre (ws' := [((am 0), .inr (9, F9 am v_status v_now v_told v_merges v_taped v_size w_125 w_126 v_fault w_127 v_traits w_128 w_129 w_130 v_places v_models)), ((am 13), .inl (cA 0, 5000, .inl w_131)), ((am 14), .inl (cA 0, 5000, .inl w_132)), ((am 15), .inl (cA 0, 5000, .inl w_133)), ((am 16), .inl (cA 0, 5000, .inl w_134))]) hP hD hS hA [5, 1, 2, 3, 4] (by decide) rfl
                refine va_callv (va_runV (As := [.int 1, .int 0, .int 0, .int 0]) (rest := []) ⟨hx, hb, hml, hown, hts⟩ (k_X9_puts l dC dI cA H.size am v_status v_now v_told v_merges v_taped v_size w_125 w_126 v_fault w_127 v_traits w_128 w_129 w_130 v_places v_models w_131 w_132 w_133 w_134 1 0 0 0 i_v_now i_v_told i_v_taped i_v_size iv_135 iv_136 i_v_traits iv_137 iv_138 i_v_places i_v_models htr (by omega)) (cwV 4 hts gX9_sum_X9_puts rfl rfl rfl (by decide +kernel) ⟨Nat.le_of_ble_eq_true rfl, Nat.le_of_ble_eq_true rfl⟩) ⟨fun a U g mk q => by obtain ⟨q0, q1, qP, qK, qD, qN⟩ := q; exact ⟨q0, q1, qP, va_K.moved (u := U) (U := U.calling g mk a) (Vm.Alike.refl U.vm) qK, qD, qN.same rfl⟩, va_recv hK hPc (ci := 9) (q0 := 0) rfl rfl, fun U hU hW => ⟨rfl, by rw [hU], by rw [hU]; exact hPc, va_K.moved hW.alike hK, hDc.weaken (fun _ _ _ _ => trivial), hN.warm hW⟩⟩ rfl rfl hl.1 rfl (lv_room (Nat.le_of_ble_eq_true rfl)) dX9_sum_64 ⟨Nat.le_of_ble_eq_true rfl, Nat.le_of_ble_eq_true rfl⟩) hS (fun q _ h => hFc q h) hFc (fun u_164 t H1 locs ht hvm hw_165 hB hz1 hk1 hS => ?_)
                obtain ⟨w_166, w_167, w_168, w_169, w_170⟩ := u_164
                try dsimp only at hw_165 hB
                obtain ⟨iv_171, po_172, es_173, eA_174⟩ := hw_165
                try simp only [hk_162, hk_163] at po_172 es_173 eA_174
                obtain ⟨hP1, hD1⟩ := hB
                rw [ht] at hP1
                obtain ⟨hP, hD⟩ := va_join (wr := [((am 10), .inl (cA 3, 200, .inl f_tape))]) (w1 := [((am 0), .inr (9, F9 am v_status v_now v_told v_merges v_taped v_size w_125 w_126 v_fault w_127 v_traits w_166 w_129 w_130 v_places v_models)), ((am 13), .inl (cA 0, 5000, .inl w_167)), ((am 14), .inl (cA 0, 5000, .inl w_168)), ((am 15), .inl (cA 0, 5000, .inl w_169)), ((am 16), .inl (cA 0, 5000, .inl w_170))]) hP hD [5, 1, 2, 3, 4] [0] hCc rfl (by decide) (by decide) hk1 hFc hP1 hD1
                clear hz1
                generalize H1 = H at hP hS ⊢
                refine lv_goto (tgt := 4) hx hb dX9_sum_67 (by decide) ?_
                exact ih_4 w_125 w_126 w_127 w_166 w_129 w_130 w_167 w_168 w_169 w_170 _ _ ls (by omega) iv_135 iv_136 iv_171 iv_138 (by omega) (tk_140) (prg_op hwp hv6_4 (by omega) pg_141 (by omega) (by first | omega | decide) es_173 eA_174 (by omega)) (lpI_s hv7_4 (by omega) (Or.inr (tw_106.mp dc_107)) (by omega) (by omega) ad_122.1 ad_122.2 (by have h9 := rs_142; rw [show (8 - w_v_open_4.toInt).toNat = (8 - v_open.toInt).toNat by omega] at h9; rw [orb_0 (by first | omega | decide) es_173 eA_174 (by omega)]; exact h9)) (hP.sub [1, 0, 2, 3, 4, 5] rfl) (hD.sub [1, 0, 2, 3, 4, 5] (by decide) rfl) hS (lv_sub hl [1] rfl)
  exact loop4_21 (Int.toNat (200 - (w_3 : Int32).toInt) + 1) w_3 w_4 w_5 w_6 w_7 w_8 w_9 w_10 w_11 w_12 _ _ ls (by omega) iv_13 iv_14 iv_15 iv_16 (by omega) (tk_18) (pg_19) (lpI_0 (by omega) rs_20) hP hD hS (lv_sub hl [0] rfl)

theorem sum_all (l : Launch) (dC : Nat → ClassId) (dI : Nat → Nat → Nat) (cA : Nat → ClassId) : ∀ r : Nat, SumC l dC dI cA r (7 * r + 7) (156 * r + 156) := by
  intro r
  induction r with
  | zero =>
    intro sz am v_status v_now v_told v_merges v_taped v_size v_from v_to v_fault v_readFault v_traits v_length v_open v_leaks v_places v_models f_tape f_step f_stepA f_stepB f_stepC i_v_now i_v_told i_v_taped i_v_size i_v_from i_v_to i_v_traits i_v_length i_v_open i_v_places i_v_models htr hfr htk hfl hgd hwp hop
    have := k_X9_sum l dC dI cA sz am v_status v_now v_told v_merges v_taped v_size v_from v_to v_fault v_readFault v_traits v_length v_open v_leaks v_places v_models f_tape f_step f_stepA f_stepB f_stepC 0 0 0 i_v_now i_v_told i_v_taped i_v_size i_v_from i_v_to i_v_traits i_v_length i_v_open i_v_places i_v_models htr hfr htk hfl hgd hwp hop (fun h => absurd h (Nat.lt_irrefl 0))
    simpa only [Nat.mul_zero, Nat.zero_add] using this
  | succ r ih0 =>
    intro sz am v_status v_now v_told v_merges v_taped v_size v_from v_to v_fault v_readFault v_traits v_length v_open v_leaks v_places v_models f_tape f_step f_stepA f_stepB f_stepC i_v_now i_v_told i_v_taped i_v_size i_v_from i_v_to i_v_traits i_v_length i_v_open i_v_places i_v_models htr hfr htk hfl hgd hwp hop
    have := k_X9_sum l dC dI cA sz am v_status v_now v_told v_merges v_taped v_size v_from v_to v_fault v_readFault v_traits v_length v_open v_leaks v_places v_models f_tape f_step f_stepA f_stepB f_stepC (r + 1) (7 * r + 7) (156 * r + 156) i_v_now i_v_told i_v_taped i_v_size i_v_from i_v_to i_v_traits i_v_length i_v_open i_v_places i_v_models htr hfr htk hfl hgd hwp hop (fun _ => ih0)
    simpa only [Nat.mul_succ, Nat.add_assoc, Nat.add_comm, Nat.add_left_comm] using this
