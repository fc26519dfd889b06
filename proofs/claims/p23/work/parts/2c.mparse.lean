theorem dX9_window_0 : decode cX9_window 0 = .ok (.aload_n 0, 1) := by decide +kernel
set_option maxRecDepth 20000 in
theorem ggX9_window_X9_next : GoodIn wsX9_window wsX9_next := goodIn_r _ [12, 13, 4, 14, 15, 16, 17, 18, 11, 19, 50, 51, 52, 53, 54, 55, 56, 57, 58, 59, 60, 61, 62, 63, 64, 65, 66, 67, 68, 69, 70, 71, 72, 73, 74, 75, 76, 77, 78, 79, 80, 81, 82, 83, 84, 85, 86, 87, 88, 89, 90, 91, 92, 93, 94, 95, 96, 97, 98, 99, 100] (by decide +kernel) (by decide +kernel)
set_option maxRecDepth 20000 in
theorem gX9_window_X9_next : GoodIn wsX9_window (wsV RX9 194 RX9 yX9_next wsX9_next) := goodIn_app (goodIn_of _ (by decide +kernel)) ggX9_window_X9_next
theorem dX9_window_1 : decode cX9_window 1 = .ok (.invokevirtual 194, 3) := by decide +kernel
theorem dX9_window_4 : decode cX9_window 4 = .ok (.aload_n 0, 1) := by decide +kernel
theorem dX9_window_5 : decode cX9_window 5 = .ok (.iconst 5, 1) := by decide +kernel
set_option maxRecDepth 20000 in
theorem ggX9_window_X9_number : GoodIn wsX9_window wsX9_number := goodIn_r _ [23, 4, 13, 24, 15, 25, 16, 17, 18, 11, 19, 14, 26, 27, 28, 29, 5, 8, 9, 10, 12, 50, 51, 52, 53, 54, 55, 56, 57, 58, 59, 60, 61, 62, 63, 64, 65, 66, 67, 68, 69, 70, 71, 72, 73, 74, 75, 76, 77, 78, 79, 80, 81, 82, 83, 84, 85, 86, 87, 88, 89, 90, 91, 92, 93, 94, 95, 96, 97, 98, 99, 100] (by decide +kernel) (by decide +kernel)
set_option maxRecDepth 20000 in
theorem gX9_window_X9_number : GoodIn wsX9_window (wsV RX9 230 RX9 yX9_number wsX9_number) := goodIn_app (goodIn_of _ (by decide +kernel)) ggX9_window_X9_number
theorem dX9_window_6 : decode cX9_window 6 = .ok (.invokevirtual 230, 3) := by decide +kernel
theorem dX9_window_9 : decode cX9_window 9 = .ok (.istore_n 2, 1) := by decide +kernel
theorem dX9_window_10 : decode cX9_window 10 = .ok (.aload_n 0, 1) := by decide +kernel
set_option maxRecDepth 20000 in
theorem ggX9_window_X9_good : GoodIn wsX9_window wsX9_good := goodIn_r _ [33, 5, 50, 51, 52, 53, 54, 55, 56, 57, 58, 59, 60, 61, 62, 63, 64, 65, 66, 67, 68, 69, 70, 71, 72, 73, 74, 75, 76, 77, 78, 79, 80, 81, 82, 83, 84, 85, 86, 87, 88, 89, 90, 91, 92, 93, 94, 95, 96, 97, 98, 99, 100] (by decide +kernel) (by decide +kernel)
set_option maxRecDepth 20000 in
theorem gX9_window_X9_good : GoodIn wsX9_window (wsV RX9 206 RX9 yX9_good wsX9_good) := goodIn_app (goodIn_of _ (by decide +kernel)) ggX9_window_X9_good
theorem dX9_window_11 : decode cX9_window 11 = .ok (.invokevirtual 206, 3) := by decide +kernel
theorem dX9_window_14 : decode cX9_window 14 = .ok (.ifCond .eq 17, 3) := by decide +kernel
theorem dX9_window_31 : decode cX9_window 31 = .ok (.aload_n 0, 1) := by decide +kernel
theorem dX9_window_32 : decode cX9_window 32 = .ok (.invokevirtual 206, 3) := by decide +kernel
theorem dX9_window_35 : decode cX9_window 35 = .ok (.ifCond .ne 4, 3) := by decide +kernel
theorem dX9_window_38 : decode cX9_window 38 = .ok (.return_, 1) := by decide +kernel
theorem dX9_window_17 : decode cX9_window 17 = .ok (.aload_n 0, 1) := by decide +kernel
theorem dX9_window_18 : decode cX9_window 18 = .ok (.ldc2_w 260, 3) := by decide +kernel
set_option maxRecDepth 20000 in
theorem ggX9_window_X9_isWord : GoodIn wsX9_window wsX9_isWord := goodIn_r _ [37, 4, 13, 15, 38, 39, 50, 51, 52, 53, 54, 55, 56, 57, 58, 59, 60, 61, 62, 63, 64, 65, 66, 67, 68, 69, 70, 71, 72, 73, 74, 75, 76, 77, 78, 79, 80, 81, 82, 83, 84, 85, 86, 87, 88, 89, 90, 91, 92, 93, 94, 95, 96, 97, 98, 99, 100] (by decide +kernel) (by decide +kernel)
set_option maxRecDepth 20000 in
theorem gX9_window_X9_isWord : GoodIn wsX9_window (wsV RX9 225 RX9 yX9_isWord wsX9_isWord) := goodIn_app (goodIn_of _ (by decide +kernel)) ggX9_window_X9_isWord
theorem dX9_window_21 : decode cX9_window 21 = .ok (.invokevirtual 225, 3) := by decide +kernel
theorem dX9_window_24 : decode cX9_window 24 = .ok (.ifCond .ne 7, 3) := by decide +kernel
theorem dX9_window_39 : decode cX9_window 39 = .ok (.aload_n 0, 1) := by decide +kernel
theorem dX9_window_40 : decode cX9_window 40 = .ok (.invokevirtual 194, 3) := by decide +kernel
theorem dX9_window_43 : decode cX9_window 43 = .ok (.aload_n 0, 1) := by decide +kernel
theorem dX9_window_44 : decode cX9_window 44 = .ok (.ldc 229, 2) := by decide +kernel
theorem dX9_window_46 : decode cX9_window 46 = .ok (.invokevirtual 230, 3) := by decide +kernel
theorem dX9_window_49 : decode cX9_window 49 = .ok (.istore_n 3, 1) := by decide +kernel
theorem dX9_window_50 : decode cX9_window 50 = .ok (.aload_n 0, 1) := by decide +kernel
theorem dX9_window_51 : decode cX9_window 51 = .ok (.invokevirtual 206, 3) := by decide +kernel
theorem dX9_window_54 : decode cX9_window 54 = .ok (.ifCond .eq 17, 3) := by decide +kernel
theorem dX9_window_71 : decode cX9_window 71 = .ok (.aload_n 0, 1) := by decide +kernel
theorem dX9_window_72 : decode cX9_window 72 = .ok (.invokevirtual 206, 3) := by decide +kernel
theorem dX9_window_75 : decode cX9_window 75 = .ok (.ifCond .ne 4, 3) := by decide +kernel
theorem dX9_window_78 : decode cX9_window 78 = .ok (.return_, 1) := by decide +kernel
theorem dX9_window_57 : decode cX9_window 57 = .ok (.aload_n 0, 1) := by decide +kernel
theorem dX9_window_58 : decode cX9_window 58 = .ok (.ldc2_w 262, 3) := by decide +kernel
theorem dX9_window_61 : decode cX9_window 61 = .ok (.invokevirtual 225, 3) := by decide +kernel
theorem dX9_window_64 : decode cX9_window 64 = .ok (.ifCond .ne 7, 3) := by decide +kernel
theorem dX9_window_79 : decode cX9_window 79 = .ok (.aload_n 0, 1) := by decide +kernel
theorem dX9_window_80 : decode cX9_window 80 = .ok (.invokevirtual 194, 3) := by decide +kernel
theorem dX9_window_83 : decode cX9_window 83 = .ok (.aload_n 0, 1) := by decide +kernel
theorem dX9_window_84 : decode cX9_window 84 = .ok (.getfield 173, 3) := by decide +kernel
theorem dX9_window_87 : decode cX9_window 87 = .ok (.istore 4, 2) := by decide +kernel
theorem dX9_window_89 : decode cX9_window 89 = .ok (.aload_n 0, 1) := by decide +kernel
theorem dX9_window_90 : decode cX9_window 90 = .ok (.ldc 229, 2) := by decide +kernel
theorem dX9_window_92 : decode cX9_window 92 = .ok (.invokevirtual 230, 3) := by decide +kernel
theorem dX9_window_95 : decode cX9_window 95 = .ok (.istore 5, 2) := by decide +kernel
theorem dX9_window_97 : decode cX9_window 97 = .ok (.aload_n 0, 1) := by decide +kernel
theorem dX9_window_98 : decode cX9_window 98 = .ok (.invokevirtual 206, 3) := by decide +kernel
theorem dX9_window_101 : decode cX9_window 101 = .ok (.ifCond .eq 15, 3) := by decide +kernel
theorem dX9_window_116 : decode cX9_window 116 = .ok (.aload_n 0, 1) := by decide +kernel
theorem dX9_window_117 : decode cX9_window 117 = .ok (.invokevirtual 206, 3) := by decide +kernel
theorem dX9_window_120 : decode cX9_window 120 = .ok (.ifCond .ne 4, 3) := by decide +kernel
theorem dX9_window_123 : decode cX9_window 123 = .ok (.return_, 1) := by decide +kernel
theorem dX9_window_104 : decode cX9_window 104 = .ok (.iload 5, 2) := by decide +kernel
theorem dX9_window_106 : decode cX9_window 106 = .ok (.iload_n 3, 1) := by decide +kernel
theorem dX9_window_107 : decode cX9_window 107 = .ok (.if_icmp .le 9, 3) := by decide +kernel
theorem dX9_window_124 : decode cX9_window 124 = .ok (.aload_n 0, 1) := by decide +kernel
theorem dX9_window_125 : decode cX9_window 125 = .ok (.ldc2_w 264, 3) := by decide +kernel
theorem dX9_window_128 : decode cX9_window 128 = .ok (.invokevirtual 225, 3) := by decide +kernel
theorem dX9_window_131 : decode cX9_window 131 = .ok (.ifCond .eq 12, 3) := by decide +kernel
theorem dX9_window_143 : decode cX9_window 143 = .ok (.aload_n 0, 1) := by decide +kernel
theorem dX9_window_144 : decode cX9_window 144 = .ok (.iload_n 1, 1) := by decide +kernel
theorem dX9_window_145 : decode cX9_window 145 = .ok (.iload_n 2, 1) := by decide +kernel
theorem dX9_window_146 : decode cX9_window 146 = .ok (.iload_n 3, 1) := by decide +kernel
theorem dX9_window_147 : decode cX9_window 147 = .ok (.iload 5, 2) := by decide +kernel
set_option maxRecDepth 20000 in
theorem ggX9_window_X9_puts : GoodIn wsX9_window wsX9_puts := goodIn_r _ [43, 44, 45, 46, 47, 48, 49, 50, 51, 52, 53, 54, 55, 56, 57, 58, 59, 60, 61, 62, 63, 64, 65, 66, 67, 68, 69, 70, 71, 72, 73, 74, 75, 76, 77, 78, 79, 80, 81, 82, 83, 84, 85, 86, 87, 88, 89, 90, 91, 92, 93, 94, 95, 96, 97, 98, 99, 100] (by decide +kernel) (by decide +kernel)
set_option maxRecDepth 20000 in
theorem gX9_window_X9_puts : GoodIn wsX9_window (wsV RX9 213 RX9 yX9_puts wsX9_puts) := goodIn_app (goodIn_of _ (by decide +kernel)) ggX9_window_X9_puts
theorem dX9_window_149 : decode cX9_window 149 = .ok (.invokevirtual 213, 3) := by decide +kernel
theorem dX9_window_152 : decode cX9_window 152 = .ok (.return_, 1) := by decide +kernel
theorem dX9_window_134 : decode cX9_window 134 = .ok (.aload_n 0, 1) := by decide +kernel
theorem dX9_window_135 : decode cX9_window 135 = .ok (.iconst 1, 1) := by decide +kernel
theorem dX9_window_136 : decode cX9_window 136 = .ok (.putfield 266, 3) := by decide +kernel
theorem dX9_window_139 : decode cX9_window 139 = .ok (.aload_n 0, 1) := by decide +kernel
theorem dX9_window_140 : decode cX9_window 140 = .ok (.invokevirtual 194, 3) := by decide +kernel
theorem dX9_window_110 : decode cX9_window 110 = .ok (.aload_n 0, 1) := by decide +kernel
theorem dX9_window_111 : decode cX9_window 111 = .ok (.iload 4, 2) := by decide +kernel
theorem dX9_window_113 : decode cX9_window 113 = .ok (.putfield 184, 3) := by decide +kernel
theorem dX9_window_67 : decode cX9_window 67 = .ok (.aload_n 0, 1) := by decide +kernel
set_option maxRecDepth 20000 in
theorem ggX9_window_X9_faults : GoodIn wsX9_window wsX9_faults := goodIn_r _ [29, 5, 4, 50, 51, 52, 53, 54, 55, 56, 57, 58, 59, 60, 61, 62, 63, 64, 65, 66, 67, 68, 69, 70, 71, 72, 73, 74, 75, 76, 77, 78, 79, 80, 81, 82, 83, 84, 85, 86, 87, 88, 89, 90, 91, 92, 93, 94, 95, 96, 97, 98, 99, 100] (by decide +kernel) (by decide +kernel)
set_option maxRecDepth 20000 in
theorem gX9_window_X9_faults : GoodIn wsX9_window (wsV RX9 187 RX9 yX9_faults wsX9_faults) := goodIn_app (goodIn_of _ (by decide +kernel)) ggX9_window_X9_faults
theorem dX9_window_68 : decode cX9_window 68 = .ok (.invokevirtual 187, 3) := by decide +kernel
theorem dX9_window_27 : decode cX9_window 27 = .ok (.aload_n 0, 1) := by decide +kernel
theorem dX9_window_28 : decode cX9_window 28 = .ok (.invokevirtual 187, 3) := by decide +kernel
theorem twd_Trait {g : Int → Int} {p e : Int} : twd g 13 21268052 p e = tw g wTrait p e := rfl
theorem twd_Last {g : Int → Int} {p e : Int} : twd g 13 674860 p e = tw g wLast p e := rfl
theorem twd_Age {g : Int → Int} {p e : Int} : twd g 13 5345 p e = tw g wAge p e := rfl
theorem twd_Count {g : Int → Int} {p e : Int} : twd g 13 21452259 p e = tw g wCount p e := rfl
theorem twd_Sum {g : Int → Int} {p e : Int} : twd g 13 14003 p e = tw g wSum p e := rfl
theorem twd_Least {g : Int → Int} {p e : Int} : twd g 13 21595308 p e = tw g wLeast p e := rfl
theorem twd_Most {g : Int → Int} {p e : Int} : twd g 13 675309 p e = tw g wMost p e := rfl
theorem twd_Else {g : Int → Int} {p e : Int} : twd g 13 183685 p e = tw g wElse p e := rfl
theorem twd_From {g : Int → Int} {p e : Int} : twd g 13 441926 p e = tw g wFrom p e := rfl
theorem twd_To {g : Int → Int} {p e : Int} : twd g 13 500 p e = tw g wTo p e := rfl
theorem twd_Ahead {g : Int → Int} {p e : Int} : twd g 13 4232449 p e = tw g wAhead p e := rfl

set_option maxHeartbeats 8000000 in
set_option maxRecDepth 100000 in
theorem k_X9_window (l : Launch) (dC : Nat → ClassId) (dI : Nat → Nat → Nat) (cA : Nat → ClassId) (sz : Nat) (am : Nat → Nat) (v_status : Int32) (v_now : Int32) (v_told : Int32) (v_merges : Int32) (v_taped : Int32) (v_size : Int32) (v_from : Int32) (v_to : Int32) (v_fault : Int32) (v_readFault : Int32) (v_traits : Int32) (v_length : Int32) (v_open : Int32) (v_leaks : Int32) (v_places : Int32) (v_models : Int32) (f_tape : Nat → Int32) (f_step : Nat → Int32) (f_stepA : Nat → Int32) (f_stepB : Nat → Int32) (f_stepC : Nat → Int32) (cd : Int32) (i_v_now : 0 ≤ v_now.toInt ∧ v_now.toInt ≤ 100000) (i_v_told : 0 ≤ v_told.toInt ∧ v_told.toInt ≤ 400) (i_v_taped : 0 ≤ v_taped.toInt ∧ v_taped.toInt ≤ 200) (i_v_size : 0 ≤ v_size.toInt ∧ v_size.toInt ≤ 200) (i_v_from : 0 ≤ v_from.toInt ∧ v_from.toInt ≤ 200) (i_v_to : 0 ≤ v_to.toInt ∧ v_to.toInt ≤ 200) (i_v_traits : 0 ≤ v_traits.toInt ∧ v_traits.toInt ≤ 20) (i_v_length : 0 ≤ v_length.toInt ∧ v_length.toInt ≤ 200) (i_v_open : 0 ≤ v_open.toInt ∧ v_open.toInt ≤ 8) (i_v_places : 0 ≤ v_places.toInt ∧ v_places.toInt ≤ 2000) (i_v_models : 0 ≤ v_models.toInt ∧ v_models.toInt ≤ 10) (htr : v_traits.toInt ≤ 19) (hfr : v_from.toInt ≤ v_to.toInt ∧ v_to.toInt ≤ v_size.toInt ∧ (v_from.toInt < v_size.toInt → v_from.toInt < v_to.toInt)) (htk : tokOK f_tape v_from v_to v_size) (hfl : v_length.toInt ≤ v_from.toInt) (hgd : v_readFault.toInt = (-1)) (hwp : wfp f_step f_stepA (250 * v_traits.toInt.toNat) v_length.toInt.toNat) (hcd : 9 ≤ cd.toInt ∧ cd.toInt ≤ 12) (hne : v_from.toInt < v_to.toInt) : Met l yX9_window wsX9_window ({ frames := 3, cells := 0, slots := 0, locals := 67 }) (va_Pc [.ref (am 0), .int cd] (fun U => U.heap.size = sz ∧ va_P (dC, dI) vwCl [((am 0), .inr (9, F9 am v_status v_now v_told v_merges v_taped v_size v_from v_to v_fault v_readFault v_traits v_length v_open v_leaks v_places v_models)), ((am 10), .inl (cA 3, 200, .inl f_tape)), ((am 13), .inl (cA 0, 5000, .inl f_step)), ((am 14), .inl (cA 0, 5000, .inl f_stepA)), ((am 15), .inl (cA 0, 5000, .inl f_stepB)), ((am 16), .inl (cA 0, 5000, .inl f_stepC))] U.heap ∧ va_K (dC, dI) vwCl (tyL cA) U ∧ va_D (fun _ => True) [((am 0), .inr (9, F9 am v_status v_now v_told v_merges v_taped v_size v_from v_to v_fault v_readFault v_traits v_length v_open v_leaks v_places v_models)), ((am 10), .inl (cA 3, 200, .inl f_tape)), ((am 13), .inl (cA 0, 5000, .inl f_step)), ((am 14), .inl (cA 0, 5000, .inl f_stepA)), ((am 15), .inl (cA 0, 5000, .inl f_stepB)), ((am 16), .inl (cA 0, 5000, .inl f_stepC))] ∧ nw_ok U)) (va_Qv (fun (u : Int32 × Int32 × Int32 × Int32 × Int32 × Int32 × (Nat → Int32) × (Nat → Int32) × (Nat → Int32) × (Nat → Int32)) => (0 ≤ u.1.toInt ∧ u.1.toInt ≤ 200) ∧ (0 ≤ u.2.1.toInt ∧ u.2.1.toInt ≤ 200) ∧ (0 ≤ u.2.2.2.1.toInt ∧ u.2.2.2.1.toInt ≤ 200) ∧ (0 ≤ u.2.2.2.2.1.toInt ∧ u.2.2.2.2.1.toInt ≤ 8) ∧ (v_from.toInt ≤ u.1.toInt ∧ u.1.toInt ≤ u.2.1.toInt ∧ u.2.1.toInt ≤ v_size.toInt ∧ (u.1.toInt < v_size.toInt → u.1.toInt < u.2.1.toInt) ∧ u.2.2.2.1.toInt - v_length.toInt ≤ u.1.toInt - v_from.toInt ∧ v_length.toInt ≤ u.2.2.2.1.toInt ∧ (u.2.2.1.toInt = (-1) → u.2.2.2.2.1.toInt = v_open.toInt)) ∧ (tokOK f_tape u.1 u.2.1 v_size) ∧ (prg f_step f_stepA u.2.2.2.2.2.2.1 u.2.2.2.2.2.2.2.1 (250 * v_traits.toInt.toNat) v_length.toInt.toNat u.2.2.2.1.toInt.toNat (u.2.2.1.toInt = (-1))) ∧ (rs u.2.2.1 u.1 u.2.1 u.2.2.2.2.2.1 (orb u.2.2.2.2.2.2.1 u.2.2.2.2.2.2.2.1 (250 * v_traits.toInt.toNat) u.2.2.2.1.toInt.toNat) = pwin (tpe f_tape v_size) v_size.toInt (sk (tpe f_tape v_size) v_to.toInt) (tke (tpe f_tape v_size) v_size.toInt (sk (tpe f_tape v_size) v_to.toInt)) v_leaks.toInt (orb f_step f_stepA (250 * v_traits.toInt.toNat) v_length.toInt.toNat))) (fun (u : Int32 × Int32 × Int32 × Int32 × Int32 × Int32 × (Nat → Int32) × (Nat → Int32) × (Nat → Int32) × (Nat → Int32)) (t : State) => va_P (dC, dI) vwCl [((am 0), .inr (9, F9 am v_status v_now v_told v_merges v_taped v_size u.1 u.2.1 v_fault u.2.2.1 v_traits u.2.2.2.1 u.2.2.2.2.1 u.2.2.2.2.2.1 v_places v_models)), ((am 10), .inl (cA 3, 200, .inl f_tape)), ((am 13), .inl (cA 0, 5000, .inl u.2.2.2.2.2.2.1)), ((am 14), .inl (cA 0, 5000, .inl u.2.2.2.2.2.2.2.1)), ((am 15), .inl (cA 0, 5000, .inl u.2.2.2.2.2.2.2.2.1)), ((am 16), .inl (cA 0, 5000, .inl u.2.2.2.2.2.2.2.2.2))] t.heap ∧ va_D (va_A [((am 0), .inr (9, F9 am v_status v_now v_told v_merges v_taped v_size v_from v_to v_fault v_readFault v_traits v_length v_open v_leaks v_places v_models)), ((am 10), .inl (cA 3, 200, .inl f_tape)), ((am 13), .inl (cA 0, 5000, .inl f_step)), ((am 14), .inl (cA 0, 5000, .inl f_stepA)), ((am 15), .inl (cA 0, 5000, .inl f_stepB)), ((am 16), .inl (cA 0, 5000, .inl f_stepC))] sz) [((am 0), .inr (9, F9 am v_status v_now v_told v_merges v_taped v_size u.1 u.2.1 v_fault u.2.2.1 v_traits u.2.2.2.1 u.2.2.2.2.1 u.2.2.2.2.2.1 v_places v_models)), ((am 10), .inl (cA 3, 200, .inl f_tape)), ((am 13), .inl (cA 0, 5000, .inl u.2.2.2.2.2.2.1)), ((am 14), .inl (cA 0, 5000, .inl u.2.2.2.2.2.2.2.1)), ((am 15), .inl (cA 0, 5000, .inl u.2.2.2.2.2.2.2.2.1)), ((am 16), .inl (cA 0, 5000, .inl u.2.2.2.2.2.2.2.2.2))]) (va_A [((am 0), .inr (9, F9 am v_status v_now v_told v_merges v_taped v_size v_from v_to v_fault v_readFault v_traits v_length v_open v_leaks v_places v_models)), ((am 10), .inl (cA 3, 200, .inl f_tape)), ((am 13), .inl (cA 0, 5000, .inl f_step)), ((am 14), .inl (cA 0, 5000, .inl f_stepA)), ((am 15), .inl (cA 0, 5000, .inl f_stepB)), ((am 16), .inl (cA 0, 5000, .inl f_stepC))] sz)) 0 0 (va_A [((am 0), .inr (9, F9 am v_status v_now v_told v_merges v_taped v_size v_from v_to v_fault v_readFault v_traits v_length v_open v_leaks v_places v_models)), ((am 10), .inl (cA 3, 200, .inl f_tape)), ((am 13), .inl (cA 0, 5000, .inl f_step)), ((am 14), .inl (cA 0, 5000, .inl f_stepA)), ((am 15), .inl (cA 0, 5000, .inl f_stepB)), ((am 16), .inl (cA 0, 5000, .inl f_stepC))] sz) := by
  refine Met.ofW (cc := cX9_window) (maxL := 6) (ret := none) (by decide) rfl ?_
  intro p e s m args below meth c s₁ B hml hv
  obtain ⟨rfl, hsz, hP, hK, hD0, hN⟩ := hv
  have hx := B.exec
  have hb := B.bytes
  have hr := B.returns
  have hts := atoms_spec (ws := wsX9_window) B.pre
  have hown : s.vm.findClass RX9 = some m.cls := findClass_of_methodNamed B.named
  have hlocks := B.notSynchronized
  subst hsz
  have hD := hD0.self (sz := s.heap.size)
  generalize hAe : va_A [((am 0), .inr (9, F9 am v_status v_now v_told v_merges v_taped v_size v_from v_to v_fault v_readFault v_traits v_length v_open v_leaks v_places v_models)), ((am 10), .inl (cA 3, 200, .inl f_tape)), ((am 13), .inl (cA 0, 5000, .inl f_step)), ((am 14), .inl (cA 0, 5000, .inl f_stepA)), ((am 15), .inl (cA 0, 5000, .inl f_stepB)), ((am 16), .inl (cA 0, 5000, .inl f_stepC))] s.heap.size = A at hD ⊢
  have hA : ∀ q : Nat, s.heap.size ≤ q → A q := fun q h => by rw [← hAe]; exact Or.inr h
  have hS : va_S A s.heap s.heap [] := va_S.rf
  have hIX9 : ∀ w ∈ u_ws RX9 TX9 51, w ∈ wsX9_window := by decide +kernel
  have hl := lv_entry ([.ref (am 0), .int cd]) (n := 6) (Nat.le_of_ble_eq_true rfl)
  rw [lg_entry_eq]
  generalize (lg_sl ([.ref (am 0), .int cd]) ++ List.replicate (6 - (lg_sl ([.ref (am 0), .int cd])).length) Slot.unset).toArray = ls at hl ⊢
  have hl : lv_has ls 6 [(0, .ref (am 0)), (1, .int cd)] := hl
  generalize hQe : MQ below _ _ _ _ _ _ = QQ
  refine lv_aload_n hx hb dX9_window_0 rfl (lv_at hl 0 rfl) ?_
  obtain ⟨hPc, hDc, hFc, hCc⟩ := va_pre (ws' := [((am 0), .inr (9, F9 am v_status v_now v_told v_merges v_taped v_size v_from v_to v_fault v_readFault v_traits v_length v_open v_leaks v_places v_models)), ((am 10), .inl (cA 3, 200, .inl f_tape))]) hP hD hS hA [0, 1] (by decide) rfl
  refine va_callv (va_runV (As := []) (rest := []) ⟨hx, hb, hml, hown, hts⟩ (k_X9_next l dC dI cA s.heap.size am v_status v_now v_told v_merges v_taped v_size v_from v_to v_fault v_readFault v_traits v_length v_open v_leaks v_places v_models f_tape i_v_now i_v_told i_v_taped i_v_size i_v_from i_v_to i_v_traits i_v_length i_v_open i_v_places i_v_models (by omega)) (cwV 0 hts gX9_window_X9_next rfl rfl rfl (by decide +kernel) ⟨Nat.le_of_ble_eq_true rfl, Nat.le_of_ble_eq_true rfl⟩) ⟨fun a U g mk q => by obtain ⟨q0, q1, qP, qK, qD, qN⟩ := q; exact ⟨q0, q1, qP, va_K.moved (u := U) (U := U.calling g mk a) (Vm.Alike.refl U.vm) qK, qD, qN.same rfl⟩, va_recv hK hPc (ci := 9) (q0 := 0) rfl rfl, fun U hU hW => ⟨rfl, by rw [hU], by rw [hU]; exact hPc, va_K.moved hW.alike hK, hDc.weaken (fun _ _ _ _ => trivial), hN.warm hW⟩⟩ rfl rfl hl.1 rfl (lv_room (Nat.le_of_ble_eq_true rfl)) dX9_window_1 ⟨Nat.le_of_ble_eq_true rfl, Nat.le_of_ble_eq_true rfl⟩) hS (fun q _ h => hFc q h) hFc (fun u_1 t H1 locs ht hvm hw_2 hB hz1 hk1 hS => ?_)
  obtain ⟨w_3, w_4⟩ := u_1
  try dsimp only at hw_2 hB
  obtain ⟨iv_5, iv_6, po_7, tk_8, ad_9⟩ := hw_2
  obtain ⟨hP1, hD1⟩ := hB
  rw [ht] at hP1
  obtain ⟨hP, hD⟩ := va_join (wr := [((am 13), .inl (cA 0, 5000, .inl f_step)), ((am 14), .inl (cA 0, 5000, .inl f_stepA)), ((am 15), .inl (cA 0, 5000, .inl f_stepB)), ((am 16), .inl (cA 0, 5000, .inl f_stepC))]) (w1 := [((am 0), .inr (9, F9 am v_status v_now v_told v_merges v_taped v_size w_3 w_4 v_fault v_readFault v_traits v_length v_open v_leaks v_places v_models)), ((am 10), .inl (cA 3, 200, .inl f_tape))]) hP hD [0, 1] [2, 3, 4, 5] hCc rfl (by decide) (by decide) hk1 hFc hP1 hD1
  clear hz1
  generalize H1 = H at hP hS ⊢
  refine lv_aload_n hx hb dX9_window_4 rfl (lv_at hl 0 rfl) ?_
  refine lv_iconst (v := 5) hx hb dX9_window_5 (by decide) ?_
  have hk_10 : (5 : Int32).toInt = 5 := by decide
  obtain ⟨hPc, hDc, hFc, hCc⟩ := va_pre (ws' := [((am 0), .inr (9, F9 am v_status v_now v_told v_merges v_taped v_size w_3 w_4 v_fault v_readFault v_traits v_length v_open v_leaks v_places v_models)), ((am 10), .inl (cA 3, 200, .inl f_tape))]) hP hD hS hA [4, 5] (by decide) rfl
  refine va_calli (va_runV (As := [.int 5]) (rest := []) ⟨hx, hb, hml, hown, hts⟩ (k_X9_number l dC dI cA H.size am v_status v_now v_told v_merges v_taped v_size w_3 w_4 v_fault v_readFault v_traits v_length v_open v_leaks v_places v_models f_tape 5 i_v_now i_v_told i_v_taped i_v_size iv_5 iv_6 i_v_traits i_v_length i_v_open i_v_places i_v_models (by omega) tk_8 hgd (by omega)) (cwV 1 hts gX9_window_X9_number rfl rfl rfl (by decide +kernel) ⟨Nat.le_of_ble_eq_true rfl, Nat.le_of_ble_eq_true rfl⟩) ⟨fun a U g mk q => by obtain ⟨q0, q1, qP, qK, qD, qN⟩ := q; exact ⟨q0, q1, qP, va_K.moved (u := U) (U := U.calling g mk a) (Vm.Alike.refl U.vm) qK, qD, qN.same rfl⟩, va_recv hK hPc (ci := 9) (q0 := 0) rfl rfl, fun U hU hW => ⟨rfl, by rw [hU], by rw [hU]; exact hPc, va_K.moved hW.alike hK, hDc.weaken (fun _ _ _ _ => trivial), hN.warm hW⟩⟩ rfl rfl hl.1 rfl (lv_room (Nat.le_of_ble_eq_true rfl)) dX9_window_6 ⟨Nat.le_of_ble_eq_true rfl, Nat.le_of_ble_eq_true rfl⟩) hS (fun q _ h => hFc q h) hFc (fun r_11 u_12 t H1 locs ht hvm hw_13 hB hz1 hk1 hS => ?_)
  obtain ⟨w_14, w_15, w_16⟩ := u_12
  try dsimp only at hw_13 hB
  obtain ⟨iv_17, iv_18, po_19, tk_20, nm_21⟩ := hw_13
  try simp only [hk_10] at po_19 tk_20 nm_21
  obtain ⟨hP1, hD1⟩ := hB
  rw [ht] at hP1
  obtain ⟨hP, hD⟩ := va_join (wr := [((am 13), .inl (cA 0, 5000, .inl f_step)), ((am 14), .inl (cA 0, 5000, .inl f_stepA)), ((am 15), .inl (cA 0, 5000, .inl f_stepB)), ((am 16), .inl (cA 0, 5000, .inl f_stepC))]) (w1 := [((am 0), .inr (9, F9 am v_status v_now v_told v_merges v_taped v_size w_14 w_15 v_fault w_16 v_traits v_length v_open v_leaks v_places v_models)), ((am 10), .inl (cA 3, 200, .inl f_tape))]) hP hD [4, 5] [0, 1, 2, 3] hCc rfl (by decide) (by decide) hk1 hFc hP1 hD1
  clear hz1
  generalize H1 = H at hP hS ⊢
  refine lv_istore_n (lv' := [(2, .int r_11), (0, .ref (am 0)), (1, .int cd)]) hx hb dX9_window_9 rfl hl (by decide) rfl (fun ls hl => ?_)
  refine lv_aload_n hx hb dX9_window_10 rfl (lv_at hl 1 rfl) ?_
  obtain ⟨hPc, hDc, hFc, hCc⟩ := va_pre (ws' := [((am 0), .inr (9, F9 am v_status v_now v_told v_merges v_taped v_size w_14 w_15 v_fault w_16 v_traits v_length v_open v_leaks v_places v_models))]) hP hD hS hA [4] (by decide) rfl
  refine va_calli (va_runV (As := []) (rest := []) ⟨hx, hb, hml, hown, hts⟩ (k_X9_good l dC dI cA H.size am v_status v_now v_told v_merges v_taped v_size w_14 w_15 v_fault w_16 v_traits v_length v_open v_leaks v_places v_models i_v_now i_v_told i_v_taped i_v_size iv_17 iv_18 i_v_traits i_v_length i_v_open i_v_places i_v_models) (cwV 0 hts gX9_window_X9_good rfl rfl rfl (by decide +kernel) ⟨Nat.le_of_ble_eq_true rfl, Nat.le_of_ble_eq_true rfl⟩) ⟨fun a U g mk q => by obtain ⟨q0, q1, qP, qK, qD, qN⟩ := q; exact ⟨q0, q1, qP, va_K.moved (u := U) (U := U.calling g mk a) (Vm.Alike.refl U.vm) qK, qD, qN.same rfl⟩, va_recv hK hPc (ci := 9) (q0 := 0) rfl rfl, fun U hU hW => ⟨rfl, by rw [hU], by rw [hU]; exact hPc, va_K.moved hW.alike hK, hDc.weaken (fun _ _ _ _ => trivial), hN.warm hW⟩⟩ rfl rfl hl.1 rfl (lv_room (Nat.le_of_ble_eq_true rfl)) dX9_window_11 ⟨Nat.le_of_ble_eq_true rfl, Nat.le_of_ble_eq_true rfl⟩) hS (fun q _ h => hFc q h) hFc (fun r_22 u_23 t H1 locs ht hvm hw_24 hB hz1 hk1 hS => ?_)
  try dsimp only at hw_24 hB
  have po_25 := hw_24
  clear hw_24
  obtain ⟨hP1, hD1⟩ := hB
  rw [ht] at hP1
  obtain ⟨hP, hD⟩ := va_join (wr := [((am 13), .inl (cA 0, 5000, .inl f_step)), ((am 14), .inl (cA 0, 5000, .inl f_stepA)), ((am 15), .inl (cA 0, 5000, .inl f_stepB)), ((am 16), .inl (cA 0, 5000, .inl f_stepC)), ((am 10), .inl (cA 3, 200, .inl f_tape))]) (w1 := [((am 0), .inr (9, F9 am v_status v_now v_told v_merges v_taped v_size w_14 w_15 v_fault w_16 v_traits v_length v_open v_leaks v_places v_models))]) hP hD [4] [0, 1, 2, 3, 5] hCc rfl (by decide) (by decide) hk1 hFc hP1 hD1
  clear hz1
  generalize H1 = H at hP hS ⊢
  refine lv_if_eq (tgt := 31) hx hb dX9_window_14 (by decide) (fun c_26 => ?_) (fun c_26 => ?_)
  · have dc_26 : r_22.toInt = 0 := jI_eq c_26 rfl (by decide)
    replace po_25 := gd_n po_25 dc_26
    replace po_19 := im5_n po_19
    refine lv_aload_n hx hb dX9_window_31 rfl (lv_at hl 1 rfl) ?_
    obtain ⟨hPc, hDc, hFc, hCc⟩ := va_pre (ws' := [((am 0), .inr (9, F9 am v_status v_now v_told v_merges v_taped v_size w_14 w_15 v_fault w_16 v_traits v_length v_open v_leaks v_places v_models))]) hP hD hS hA [5] (by decide) rfl
    refine va_calli (va_runV (As := []) (rest := []) ⟨hx, hb, hml, hown, hts⟩ (k_X9_good l dC dI cA H.size am v_status v_now v_told v_merges v_taped v_size w_14 w_15 v_fault w_16 v_traits v_length v_open v_leaks v_places v_models i_v_now i_v_told i_v_taped i_v_size iv_17 iv_18 i_v_traits i_v_length i_v_open i_v_places i_v_models) (cwV 0 hts gX9_window_X9_good rfl rfl rfl (by decide +kernel) ⟨Nat.le_of_ble_eq_true rfl, Nat.le_of_ble_eq_true rfl⟩) ⟨fun a U g mk q => by obtain ⟨q0, q1, qP, qK, qD, qN⟩ := q; exact ⟨q0, q1, qP, va_K.moved (u := U) (U := U.calling g mk a) (Vm.Alike.refl U.vm) qK, qD, qN.same rfl⟩, va_recv hK hPc (ci := 9) (q0 := 0) rfl rfl, fun U hU hW => ⟨rfl, by rw [hU], by rw [hU]; exact hPc, va_K.moved hW.alike hK, hDc.weaken (fun _ _ _ _ => trivial), hN.warm hW⟩⟩ rfl rfl hl.1 rfl (lv_room (Nat.le_of_ble_eq_true rfl)) dX9_window_32 ⟨Nat.le_of_ble_eq_true rfl, Nat.le_of_ble_eq_true rfl⟩) hS (fun q _ h => hFc q h) hFc (fun r_27 u_28 t H1 locs ht hvm hw_29 hB hz1 hk1 hS => ?_)
    try dsimp only at hw_29 hB
    have po_30 := hw_29
    clear hw_29
    obtain ⟨hP1, hD1⟩ := hB
    rw [ht] at hP1
    obtain ⟨hP, hD⟩ := va_join (wr := [((am 13), .inl (cA 0, 5000, .inl f_step)), ((am 14), .inl (cA 0, 5000, .inl f_stepA)), ((am 15), .inl (cA 0, 5000, .inl f_stepB)), ((am 16), .inl (cA 0, 5000, .inl f_stepC)), ((am 10), .inl (cA 3, 200, .inl f_tape))]) (w1 := [((am 0), .inr (9, F9 am v_status v_now v_told v_merges v_taped v_size w_14 w_15 v_fault w_16 v_traits v_length v_open v_leaks v_places v_models))]) hP hD [5] [0, 1, 2, 3, 4] hCc rfl (by decide) (by decide) hk1 hFc hP1 hD1
    clear hz1
    generalize H1 = H at hP hS ⊢
    refine lv_if_ne (tgt := 39) hx hb dX9_window_35 (by decide) (fun c_31 => ?_) (fun c_31 => ?_)
    · have dc_31 : ¬ r_27.toInt = 0 := jI_ne c_31 rfl (by decide)
      replace po_30 := gd_y po_30 dc_31
      exfalso; omega
    · have dc_31 : r_27.toInt = 0 := jI_eq c_31 rfl (by decide)
      replace po_30 := gd_n po_30 dc_31
      obtain ⟨hP9, hD9⟩ := va_pd (ws' := [((am 0), .inr (9, F9 am v_status v_now v_told v_merges v_taped v_size w_14 w_15 v_fault w_16 v_traits v_length v_open v_leaks v_places v_models)), ((am 10), .inl (cA 3, 200, .inl f_tape)), ((am 13), .inl (cA 0, 5000, .inl f_step)), ((am 14), .inl (cA 0, 5000, .inl f_stepA)), ((am 15), .inl (cA 0, 5000, .inl f_stepB)), ((am 16), .inl (cA 0, 5000, .inl f_stepC))]) hP hD [5, 4, 0, 1, 2, 3] (by decide) rfl
      subst hQe
      have hpost : (0 ≤ w_14.toInt ∧ w_14.toInt ≤ 200) ∧ (0 ≤ w_15.toInt ∧ w_15.toInt ≤ 200) ∧ (0 ≤ v_length.toInt ∧ v_length.toInt ≤ 200) ∧ (0 ≤ v_open.toInt ∧ v_open.toInt ≤ 8) ∧ (v_from.toInt ≤ w_14.toInt ∧ w_14.toInt ≤ w_15.toInt ∧ w_15.toInt ≤ v_size.toInt ∧ (w_14.toInt < v_size.toInt → w_14.toInt < w_15.toInt) ∧ v_length.toInt - v_length.toInt ≤ w_14.toInt - v_from.toInt ∧ v_length.toInt ≤ v_length.toInt ∧ (w_16.toInt = (-1) → v_open.toInt = v_open.toInt)) ∧ (tokOK f_tape w_14 w_15 v_size) ∧ (prg f_step f_stepA f_step f_stepA (250 * v_traits.toInt.toNat) v_length.toInt.toNat v_length.toInt.toNat (w_16.toInt = (-1))) ∧ (rs w_16 w_14 w_15 v_leaks (orb f_step f_stepA (250 * v_traits.toInt.toNat) v_length.toInt.toNat) = pwin (tpe f_tape v_size) v_size.toInt (sk (tpe f_tape v_size) v_to.toInt) (tke (tpe f_tape v_size) v_size.toInt (sk (tpe f_tape v_size) v_to.toInt)) v_leaks.toInt (orb f_step f_stepA (250 * v_traits.toInt.toNat) v_length.toInt.toNat)) := ⟨iv_17, iv_18, i_v_length, i_v_open, by omega, tk_20, prg_rf hwp (by omega), (by rw [pwin, ← ad_9.2, ← ad_9.1, nm_no nm_21 (by omega)]; exact rs_inl (by omega) (by omega))⟩
      exact W.vret hx hb hr (fun t ht hW => ⟨⟨(w_14, w_15, w_16, v_length, v_open, v_leaks, f_step, f_stepA, f_stepB, f_stepC), rfl, hpost, by rw [ht]; exact hP9, hD9⟩, hS.F ht⟩) hS.2.2 dX9_window_38
  · have dc_26 : ¬ r_22.toInt = 0 := jI_ne c_26 rfl (by decide)
    replace po_25 := gd_y po_25 dc_26
    replace po_19 := im5_y po_19 po_25
    refine lv_aload_n hx hb dX9_window_17 rfl (lv_at hl 1 rfl) ?_
    refine lv_ldc2 hx hb hown (hts (.constantLong RX9 260 (441926)) (by decide +kernel)) dX9_window_18 ?_
    have hk_32 : (441926 : Int64).toInt = 441926 := by decide
    obtain ⟨hPc, hDc, hFc, hCc⟩ := va_pre (ws' := [((am 0), .inr (9, F9 am v_status v_now v_told v_merges v_taped v_size w_14 w_15 v_fault w_16 v_traits v_length v_open v_leaks v_places v_models)), ((am 10), .inl (cA 3, 200, .inl f_tape))]) hP hD hS hA [5, 4] (by decide) rfl
    refine va_calli (va_runV (As := [.long 441926]) (rest := []) ⟨hx, hb, hml, hown, hts⟩ (k_X9_isWord l dC dI cA H.size am v_status v_now v_told v_merges v_taped v_size w_14 w_15 v_fault w_16 v_traits v_length v_open v_leaks v_places v_models f_tape 441926 i_v_now i_v_told i_v_taped i_v_size iv_17 iv_18 i_v_traits i_v_length i_v_open i_v_places i_v_models (by omega) (by omega) (by omega)) (cwV 1 hts gX9_window_X9_isWord rfl rfl rfl (by decide +kernel) ⟨Nat.le_of_ble_eq_true rfl, Nat.le_of_ble_eq_true rfl⟩) ⟨fun a U g mk q => by obtain ⟨q0, q1, qP, qK, qD, qN⟩ := q; exact ⟨q0, q1, qP, va_K.moved (u := U) (U := U.calling g mk a) (Vm.Alike.refl U.vm) qK, qD, qN.same rfl⟩, va_recv hK hPc (ci := 9) (q0 := 0) rfl rfl, fun U hU hW => ⟨rfl, by rw [hU], by rw [hU]; exact hPc, va_K.moved hW.alike hK, hDc.weaken (fun _ _ _ _ => trivial), hN.warm hW⟩⟩ rfl rfl hl.1 rfl (lv_room (Nat.le_of_ble_eq_true rfl)) dX9_window_21 ⟨Nat.le_of_ble_eq_true rfl, Nat.le_of_ble_eq_true rfl⟩) hS (fun q _ h => hFc q h) hFc (fun r_33 u_34 t H1 locs ht hvm hw_35 hB hz1 hk1 hS => ?_)
    try dsimp only at hw_35 hB
    obtain ⟨po_36, tw_37⟩ := hw_35
    try simp only [hk_32] at po_36 tw_37
    obtain ⟨hP1, hD1⟩ := hB
    rw [ht] at hP1
    obtain ⟨hP, hD⟩ := va_join (wr := [((am 13), .inl (cA 0, 5000, .inl f_step)), ((am 14), .inl (cA 0, 5000, .inl f_stepA)), ((am 15), .inl (cA 0, 5000, .inl f_stepB)), ((am 16), .inl (cA 0, 5000, .inl f_stepC))]) (w1 := [((am 0), .inr (9, F9 am v_status v_now v_told v_merges v_taped v_size w_14 w_15 v_fault w_16 v_traits v_length v_open v_leaks v_places v_models)), ((am 10), .inl (cA 3, 200, .inl f_tape))]) hP hD [5, 4] [0, 1, 2, 3] hCc rfl (by decide) (by decide) hk1 hFc hP1 hD1
    clear hz1
    rw [twd_From] at tw_37
    generalize H1 = H at hP hS ⊢
    replace hP : va_P (dC, dI) vwCl [((am 13), .inl (cA 0, 5000, .inl f_step)), ((am 14), .inl (cA 0, 5000, .inl f_stepA)), ((am 15), .inl (cA 0, 5000, .inl f_stepB)), ((am 16), .inl (cA 0, 5000, .inl f_stepC)), ((am 0), .inr (9, F9 am v_status v_now v_told v_merges v_taped v_size w_14 w_15 v_fault w_16 v_traits v_length v_open v_leaks v_places v_models)), ((am 10), .inl (cA 3, 200, .inl f_tape))] H := hP
    replace hD : va_D A [((am 13), .inl (cA 0, 5000, .inl f_step)), ((am 14), .inl (cA 0, 5000, .inl f_stepA)), ((am 15), .inl (cA 0, 5000, .inl f_stepB)), ((am 16), .inl (cA 0, 5000, .inl f_stepC)), ((am 0), .inr (9, F9 am v_status v_now v_told v_merges v_taped v_size w_14 w_15 v_fault w_16 v_traits v_length v_open v_leaks v_places v_models)), ((am 10), .inl (cA 3, 200, .inl f_tape))] := hD
    refine lv_if_ne (tgt := 31) hx hb dX9_window_24 (by decide) (fun c_38 => ?_) (fun c_38 => ?_)
    · have dc_38 : ¬ r_33.toInt = 0 := jI_ne c_38 rfl (by decide)
      replace po_36 := sg_y po_36 dc_38
      refine lv_aload_n hx hb dX9_window_31 rfl (lv_at hl 1 rfl) ?_
      obtain ⟨hPc, hDc, hFc, hCc⟩ := va_pre (ws' := [((am 0), .inr (9, F9 am v_status v_now v_told v_merges v_taped v_size w_14 w_15 v_fault w_16 v_traits v_length v_open v_leaks v_places v_models))]) hP hD hS hA [4] (by decide) rfl
      refine va_calli (va_runV (As := []) (rest := []) ⟨hx, hb, hml, hown, hts⟩ (k_X9_good l dC dI cA H.size am v_status v_now v_told v_merges v_taped v_size w_14 w_15 v_fault w_16 v_traits v_length v_open v_leaks v_places v_models i_v_now i_v_told i_v_taped i_v_size iv_17 iv_18 i_v_traits i_v_length i_v_open i_v_places i_v_models) (cwV 0 hts gX9_window_X9_good rfl rfl rfl (by decide +kernel) ⟨Nat.le_of_ble_eq_true rfl, Nat.le_of_ble_eq_true rfl⟩) ⟨fun a U g mk q => by obtain ⟨q0, q1, qP, qK, qD, qN⟩ := q; exact ⟨q0, q1, qP, va_K.moved (u := U) (U := U.calling g mk a) (Vm.Alike.refl U.vm) qK, qD, qN.same rfl⟩, va_recv hK hPc (ci := 9) (q0 := 0) rfl rfl, fun U hU hW => ⟨rfl, by rw [hU], by rw [hU]; exact hPc, va_K.moved hW.alike hK, hDc.weaken (fun _ _ _ _ => trivial), hN.warm hW⟩⟩ rfl rfl hl.1 rfl (lv_room (Nat.le_of_ble_eq_true rfl)) dX9_window_32 ⟨Nat.le_of_ble_eq_true rfl, Nat.le_of_ble_eq_true rfl⟩) hS (fun q _ h => hFc q h) hFc (fun r_39 u_40 t H1 locs ht hvm hw_41 hB hz1 hk1 hS => ?_)
      try dsimp only at hw_41 hB
      have po_42 := hw_41
      clear hw_41
      obtain ⟨hP1, hD1⟩ := hB
      rw [ht] at hP1
      obtain ⟨hP, hD⟩ := va_join (wr := [((am 13), .inl (cA 0, 5000, .inl f_step)), ((am 14), .inl (cA 0, 5000, .inl f_stepA)), ((am 15), .inl (cA 0, 5000, .inl f_stepB)), ((am 16), .inl (cA 0, 5000, .inl f_stepC)), ((am 10), .inl (cA 3, 200, .inl f_tape))]) (w1 := [((am 0), .inr (9, F9 am v_status v_now v_told v_merges v_taped v_size w_14 w_15 v_fault w_16 v_traits v_length v_open v_leaks v_places v_models))]) hP hD [4] [0, 1, 2, 3, 5] hCc rfl (by decide) (by decide) hk1 hFc hP1 hD1
      clear hz1
      generalize H1 = H at hP hS ⊢
      refine lv_if_ne (tgt := 39) hx hb dX9_window_35 (by decide) (fun c_43 => ?_) (fun c_43 => ?_)
      · have dc_43 : ¬ r_39.toInt = 0 := jI_ne c_43 rfl (by decide)
        replace po_42 := gd_y po_42 dc_43
        refine lv_aload_n hx hb dX9_window_39 rfl (lv_at hl 1 rfl) ?_
        obtain ⟨hPc, hDc, hFc, hCc⟩ := va_pre (ws' := [((am 0), .inr (9, F9 am v_status v_now v_told v_merges v_taped v_size w_14 w_15 v_fault w_16 v_traits v_length v_open v_leaks v_places v_models)), ((am 10), .inl (cA 3, 200, .inl f_tape))]) hP hD hS hA [5, 4] (by decide) rfl
        refine va_callv (va_runV (As := []) (rest := []) ⟨hx, hb, hml, hown, hts⟩ (k_X9_next l dC dI cA H.size am v_status v_now v_told v_merges v_taped v_size w_14 w_15 v_fault w_16 v_traits v_length v_open v_leaks v_places v_models f_tape i_v_now i_v_told i_v_taped i_v_size iv_17 iv_18 i_v_traits i_v_length i_v_open i_v_places i_v_models (by omega)) (cwV 0 hts gX9_window_X9_next rfl rfl rfl (by decide +kernel) ⟨Nat.le_of_ble_eq_true rfl, Nat.le_of_ble_eq_true rfl⟩) ⟨fun a U g mk q => by obtain ⟨q0, q1, qP, qK, qD, qN⟩ := q; exact ⟨q0, q1, qP, va_K.moved (u := U) (U := U.calling g mk a) (Vm.Alike.refl U.vm) qK, qD, qN.same rfl⟩, va_recv hK hPc (ci := 9) (q0 := 0) rfl rfl, fun U hU hW => ⟨rfl, by rw [hU], by rw [hU]; exact hPc, va_K.moved hW.alike hK, hDc.weaken (fun _ _ _ _ => trivial), hN.warm hW⟩⟩ rfl rfl hl.1 rfl (lv_room (Nat.le_of_ble_eq_true rfl)) dX9_window_40 ⟨Nat.le_of_ble_eq_true rfl, Nat.le_of_ble_eq_true rfl⟩) hS (fun q _ h => hFc q h) hFc (fun u_44 t H1 locs ht hvm hw_45 hB hz1 hk1 hS => ?_)
        obtain ⟨w_46, w_47⟩ := u_44
        try dsimp only at hw_45 hB
        obtain ⟨iv_48, iv_49, po_50, tk_51, ad_52⟩ := hw_45
        obtain ⟨hP1, hD1⟩ := hB
        rw [ht] at hP1
        obtain ⟨hP, hD⟩ := va_join (wr := [((am 13), .inl (cA 0, 5000, .inl f_step)), ((am 14), .inl (cA 0, 5000, .inl f_stepA)), ((am 15), .inl (cA 0, 5000, .inl f_stepB)), ((am 16), .inl (cA 0, 5000, .inl f_stepC))]) (w1 := [((am 0), .inr (9, F9 am v_status v_now v_told v_merges v_taped v_size w_46 w_47 v_fault w_16 v_traits v_length v_open v_leaks v_places v_models)), ((am 10), .inl (cA 3, 200, .inl f_tape))]) hP hD [5, 4] [0, 1, 2, 3] hCc rfl (by decide) (by decide) hk1 hFc hP1 hD1
        clear hz1
        generalize H1 = H at hP hS ⊢
        refine lv_aload_n hx hb dX9_window_43 rfl (lv_at hl 1 rfl) ?_
        refine lv_ldc hx hb hown (hts (.constant RX9 229 (1000000)) (by decide +kernel)) dX9_window_44 ?_
        have hk_53 : (1000000 : Int32).toInt = 1000000 := by decide
        obtain ⟨hPc, hDc, hFc, hCc⟩ := va_pre (ws' := [((am 0), .inr (9, F9 am v_status v_now v_told v_merges v_taped v_size w_46 w_47 v_fault w_16 v_traits v_length v_open v_leaks v_places v_models)), ((am 10), .inl (cA 3, 200, .inl f_tape))]) hP hD hS hA [4, 5] (by decide) rfl
        refine va_calli (va_runV (As := [.int 1000000]) (rest := []) ⟨hx, hb, hml, hown, hts⟩ (k_X9_number l dC dI cA H.size am v_status v_now v_told v_merges v_taped v_size w_46 w_47 v_fault w_16 v_traits v_length v_open v_leaks v_places v_models f_tape 1000000 i_v_now i_v_told i_v_taped i_v_size iv_48 iv_49 i_v_traits i_v_length i_v_open i_v_places i_v_models (by omega) tk_51 (by omega) (by omega)) (cwV 1 hts gX9_window_X9_number rfl rfl rfl (by decide +kernel) ⟨Nat.le_of_ble_eq_true rfl, Nat.le_of_ble_eq_true rfl⟩) ⟨fun a U g mk q => by obtain ⟨q0, q1, qP, qK, qD, qN⟩ := q; exact ⟨q0, q1, qP, va_K.moved (u := U) (U := U.calling g mk a) (Vm.Alike.refl U.vm) qK, qD, qN.same rfl⟩, va_recv hK hPc (ci := 9) (q0 := 0) rfl rfl, fun U hU hW => ⟨rfl, by rw [hU], by rw [hU]; exact hPc, va_K.moved hW.alike hK, hDc.weaken (fun _ _ _ _ => trivial), hN.warm hW⟩⟩ rfl rfl hl.1 rfl (lv_room (Nat.le_of_ble_eq_true rfl)) dX9_window_46 ⟨Nat.le_of_ble_eq_true rfl, Nat.le_of_ble_eq_true rfl⟩) hS (fun q _ h => hFc q h) hFc (fun r_54 u_55 t H1 locs ht hvm hw_56 hB hz1 hk1 hS => ?_)
        obtain ⟨w_57, w_58, w_59⟩ := u_55
        try dsimp only at hw_56 hB
        obtain ⟨iv_60, iv_61, po_62, tk_63, nm_64⟩ := hw_56
        try simp only [hk_53] at po_62 tk_63 nm_64
        obtain ⟨hP1, hD1⟩ := hB
        rw [ht] at hP1
        obtain ⟨hP, hD⟩ := va_join (wr := [((am 13), .inl (cA 0, 5000, .inl f_step)), ((am 14), .inl (cA 0, 5000, .inl f_stepA)), ((am 15), .inl (cA 0, 5000, .inl f_stepB)), ((am 16), .inl (cA 0, 5000, .inl f_stepC))]) (w1 := [((am 0), .inr (9, F9 am v_status v_now v_told v_merges v_taped v_size w_57 w_58 v_fault w_59 v_traits v_length v_open v_leaks v_places v_models)), ((am 10), .inl (cA 3, 200, .inl f_tape))]) hP hD [4, 5] [0, 1, 2, 3] hCc rfl (by decide) (by decide) hk1 hFc hP1 hD1
        clear hz1
        generalize H1 = H at hP hS ⊢
        refine lv_istore_n (lv' := [(3, .int r_54), (2, .int r_11), (0, .ref (am 0)), (1, .int cd)]) hx hb dX9_window_49 rfl hl (by decide) rfl (fun ls hl => ?_)
        refine lv_aload_n hx hb dX9_window_50 rfl (lv_at hl 2 rfl) ?_
        obtain ⟨hPc, hDc, hFc, hCc⟩ := va_pre (ws' := [((am 0), .inr (9, F9 am v_status v_now v_told v_merges v_taped v_size w_57 w_58 v_fault w_59 v_traits v_length v_open v_leaks v_places v_models))]) hP hD hS hA [4] (by decide) rfl
        refine va_calli (va_runV (As := []) (rest := []) ⟨hx, hb, hml, hown, hts⟩ (k_X9_good l dC dI cA H.size am v_status v_now v_told v_merges v_taped v_size w_57 w_58 v_fault w_59 v_traits v_length v_open v_leaks v_places v_models i_v_now i_v_told i_v_taped i_v_size iv_60 iv_61 i_v_traits i_v_length i_v_open i_v_places i_v_models) (cwV 0 hts gX9_window_X9_good rfl rfl rfl (by decide +kernel) ⟨Nat.le_of_ble_eq_true rfl, Nat.le_of_ble_eq_true rfl⟩) ⟨fun a U g mk q => by obtain ⟨q0, q1, qP, qK, qD, qN⟩ := q; exact ⟨q0, q1, qP, va_K.moved (u := U) (U := U.calling g mk a) (Vm.Alike.refl U.vm) qK, qD, qN.same rfl⟩, va_recv hK hPc (ci := 9) (q0 := 0) rfl rfl, fun U hU hW => ⟨rfl, by rw [hU], by rw [hU]; exact hPc, va_K.moved hW.alike hK, hDc.weaken (fun _ _ _ _ => trivial), hN.warm hW⟩⟩ rfl rfl hl.1 rfl (lv_room (Nat.le_of_ble_eq_true rfl)) dX9_window_51 ⟨Nat.le_of_ble_eq_true rfl, Nat.le_of_ble_eq_true rfl⟩) hS (fun q _ h => hFc q h) hFc (fun r_65 u_66 t H1 locs ht hvm hw_67 hB hz1 hk1 hS => ?_)
        try dsimp only at hw_67 hB
        have po_68 := hw_67
        clear hw_67
        obtain ⟨hP1, hD1⟩ := hB
        rw [ht] at hP1
        obtain ⟨hP, hD⟩ := va_join (wr := [((am 13), .inl (cA 0, 5000, .inl f_step)), ((am 14), .inl (cA 0, 5000, .inl f_stepA)), ((am 15), .inl (cA 0, 5000, .inl f_stepB)), ((am 16), .inl (cA 0, 5000, .inl f_stepC)), ((am 10), .inl (cA 3, 200, .inl f_tape))]) (w1 := [((am 0), .inr (9, F9 am v_status v_now v_told v_merges v_taped v_size w_57 w_58 v_fault w_59 v_traits v_length v_open v_leaks v_places v_models))]) hP hD [4] [0, 1, 2, 3, 5] hCc rfl (by decide) (by decide) hk1 hFc hP1 hD1
        clear hz1
        generalize H1 = H at hP hS ⊢
        refine lv_if_eq (tgt := 71) hx hb dX9_window_54 (by decide) (fun c_69 => ?_) (fun c_69 => ?_)
        · have dc_69 : r_65.toInt = 0 := jI_eq c_69 rfl (by decide)
          replace po_68 := gd_n po_68 dc_69
          replace po_62 := im5_n po_62
          refine lv_aload_n hx hb dX9_window_71 rfl (lv_at hl 2 rfl) ?_
          obtain ⟨hPc, hDc, hFc, hCc⟩ := va_pre (ws' := [((am 0), .inr (9, F9 am v_status v_now v_told v_merges v_taped v_size w_57 w_58 v_fault w_59 v_traits v_length v_open v_leaks v_places v_models))]) hP hD hS hA [5] (by decide) rfl
          refine va_calli (va_runV (As := []) (rest := []) ⟨hx, hb, hml, hown, hts⟩ (k_X9_good l dC dI cA H.size am v_status v_now v_told v_merges v_taped v_size w_57 w_58 v_fault w_59 v_traits v_length v_open v_leaks v_places v_models i_v_now i_v_told i_v_taped i_v_size iv_60 iv_61 i_v_traits i_v_length i_v_open i_v_places i_v_models) (cwV 0 hts gX9_window_X9_good rfl rfl rfl (by decide +kernel) ⟨Nat.le_of_ble_eq_true rfl, Nat.le_of_ble_eq_true rfl⟩) ⟨fun a U g mk q => by obtain ⟨q0, q1, qP, qK, qD, qN⟩ := q; exact ⟨q0, q1, qP, va_K.moved (u := U) (U := U.calling g mk a) (Vm.Alike.refl U.vm) qK, qD, qN.same rfl⟩, va_recv hK hPc (ci := 9) (q0 := 0) rfl rfl, fun U hU hW => ⟨rfl, by rw [hU], by rw [hU]; exact hPc, va_K.moved hW.alike hK, hDc.weaken (fun _ _ _ _ => trivial), hN.warm hW⟩⟩ rfl rfl hl.1 rfl (lv_room (Nat.le_of_ble_eq_true rfl)) dX9_window_72 ⟨Nat.le_of_ble_eq_true rfl, Nat.le_of_ble_eq_true rfl⟩) hS (fun q _ h => hFc q h) hFc (fun r_70 u_71 t H1 locs ht hvm hw_72 hB hz1 hk1 hS => ?_)
          try dsimp only at hw_72 hB
          have po_73 := hw_72
          clear hw_72
          obtain ⟨hP1, hD1⟩ := hB
          rw [ht] at hP1
          obtain ⟨hP, hD⟩ := va_join (wr := [((am 13), .inl (cA 0, 5000, .inl f_step)), ((am 14), .inl (cA 0, 5000, .inl f_stepA)), ((am 15), .inl (cA 0, 5000, .inl f_stepB)), ((am 16), .inl (cA 0, 5000, .inl f_stepC)), ((am 10), .inl (cA 3, 200, .inl f_tape))]) (w1 := [((am 0), .inr (9, F9 am v_status v_now v_told v_merges v_taped v_size w_57 w_58 v_fault w_59 v_traits v_length v_open v_leaks v_places v_models))]) hP hD [5] [0, 1, 2, 3, 4] hCc rfl (by decide) (by decide) hk1 hFc hP1 hD1
          clear hz1
          generalize H1 = H at hP hS ⊢
          refine lv_if_ne (tgt := 79) hx hb dX9_window_75 (by decide) (fun c_74 => ?_) (fun c_74 => ?_)
          · have dc_74 : ¬ r_70.toInt = 0 := jI_ne c_74 rfl (by decide)
            replace po_73 := gd_y po_73 dc_74
            exfalso; omega
          · have dc_74 : r_70.toInt = 0 := jI_eq c_74 rfl (by decide)
            replace po_73 := gd_n po_73 dc_74
            obtain ⟨hP9, hD9⟩ := va_pd (ws' := [((am 0), .inr (9, F9 am v_status v_now v_told v_merges v_taped v_size w_57 w_58 v_fault w_59 v_traits v_length v_open v_leaks v_places v_models)), ((am 10), .inl (cA 3, 200, .inl f_tape)), ((am 13), .inl (cA 0, 5000, .inl f_step)), ((am 14), .inl (cA 0, 5000, .inl f_stepA)), ((am 15), .inl (cA 0, 5000, .inl f_stepB)), ((am 16), .inl (cA 0, 5000, .inl f_stepC))]) hP hD [5, 4, 0, 1, 2, 3] (by decide) rfl
            subst hQe
            have hpost : (0 ≤ w_57.toInt ∧ w_57.toInt ≤ 200) ∧ (0 ≤ w_58.toInt ∧ w_58.toInt ≤ 200) ∧ (0 ≤ v_length.toInt ∧ v_length.toInt ≤ 200) ∧ (0 ≤ v_open.toInt ∧ v_open.toInt ≤ 8) ∧ (v_from.toInt ≤ w_57.toInt ∧ w_57.toInt ≤ w_58.toInt ∧ w_58.toInt ≤ v_size.toInt ∧ (w_57.toInt < v_size.toInt → w_57.toInt < w_58.toInt) ∧ v_length.toInt - v_length.toInt ≤ w_57.toInt - v_from.toInt ∧ v_length.toInt ≤ v_length.toInt ∧ (w_59.toInt = (-1) → v_open.toInt = v_open.toInt)) ∧ (tokOK f_tape w_57 w_58 v_size) ∧ (prg f_step f_stepA f_step f_stepA (250 * v_traits.toInt.toNat) v_length.toInt.toNat v_length.toInt.toNat (w_59.toInt = (-1))) ∧ (rs w_59 w_57 w_58 v_leaks (orb f_step f_stepA (250 * v_traits.toInt.toNat) v_length.toInt.toNat) = pwin (tpe f_tape v_size) v_size.toInt (sk (tpe f_tape v_size) v_to.toInt) (tke (tpe f_tape v_size) v_size.toInt (sk (tpe f_tape v_size) v_to.toInt)) v_leaks.toInt (orb f_step f_stepA (250 * v_traits.toInt.toNat) v_length.toInt.toNat)) := ⟨iv_60, iv_61, i_v_length, i_v_open, by omega, tk_63, prg_rf hwp (by omega), (by rw [pwin, ← ad_9.2, ← ad_9.1, nm_ok nm_21 (by omega), ptak_ok (tw_37.mp dc_38), ← ad_52.2, ← ad_52.1, nm_no nm_64 (by omega)]; exact rs_inl (by omega) (by omega))⟩
            exact W.vret hx hb hr (fun t ht hW => ⟨⟨(w_57, w_58, w_59, v_length, v_open, v_leaks, f_step, f_stepA, f_stepB, f_stepC), rfl, hpost, by rw [ht]; exact hP9, hD9⟩, hS.F ht⟩) hS.2.2 dX9_window_78
        · have dc_69 : ¬ r_65.toInt = 0 := jI_ne c_69 rfl (by decide)
          replace po_68 := gd_y po_68 dc_69
          replace po_62 := im5_y po_62 po_68
          refine lv_aload_n hx hb dX9_window_57 rfl (lv_at hl 2 rfl) ?_
          refine lv_ldc2 hx hb hown (hts (.constantLong RX9 262 (500)) (by decide +kernel)) dX9_window_58 ?_
          have hk_75 : (500 : Int64).toInt = 500 := by decide
          obtain ⟨hPc, hDc, hFc, hCc⟩ := va_pre (ws' := [((am 0), .inr (9, F9 am v_status v_now v_told v_merges v_taped v_size w_57 w_58 v_fault w_59 v_traits v_length v_open v_leaks v_places v_models)), ((am 10), .inl (cA 3, 200, .inl f_tape))]) hP hD hS hA [5, 4] (by decide) rfl
          refine va_calli (va_runV (As := [.long 500]) (rest := []) ⟨hx, hb, hml, hown, hts⟩ (k_X9_isWord l dC dI cA H.size am v_status v_now v_told v_merges v_taped v_size w_57 w_58 v_fault w_59 v_traits v_length v_open v_leaks v_places v_models f_tape 500 i_v_now i_v_told i_v_taped i_v_size iv_60 iv_61 i_v_traits i_v_length i_v_open i_v_places i_v_models (by omega) (by omega) (by omega)) (cwV 1 hts gX9_window_X9_isWord rfl rfl rfl (by decide +kernel) ⟨Nat.le_of_ble_eq_true rfl, Nat.le_of_ble_eq_true rfl⟩) ⟨fun a U g mk q => by obtain ⟨q0, q1, qP, qK, qD, qN⟩ := q; exact ⟨q0, q1, qP, va_K.moved (u := U) (U := U.calling g mk a) (Vm.Alike.refl U.vm) qK, qD, qN.same rfl⟩, va_recv hK hPc (ci := 9) (q0 := 0) rfl rfl, fun U hU hW => ⟨rfl, by rw [hU], by rw [hU]; exact hPc, va_K.moved hW.alike hK, hDc.weaken (fun _ _ _ _ => trivial), hN.warm hW⟩⟩ rfl rfl hl.1 rfl (lv_room (Nat.le_of_ble_eq_true rfl)) dX9_window_61 ⟨Nat.le_of_ble_eq_true rfl, Nat.le_of_ble_eq_true rfl⟩) hS (fun q _ h => hFc q h) hFc (fun r_76 u_77 t H1 locs ht hvm hw_78 hB hz1 hk1 hS => ?_)
          try dsimp only at hw_78 hB
          obtain ⟨po_79, tw_80⟩ := hw_78
          try simp only [hk_75] at po_79 tw_80
          obtain ⟨hP1, hD1⟩ := hB
          rw [ht] at hP1
          obtain ⟨hP, hD⟩ := va_join (wr := [((am 13), .inl (cA 0, 5000, .inl f_step)), ((am 14), .inl (cA 0, 5000, .inl f_stepA)), ((am 15), .inl (cA 0, 5000, .inl f_stepB)), ((am 16), .inl (cA 0, 5000, .inl f_stepC))]) (w1 := [((am 0), .inr (9, F9 am v_status v_now v_told v_merges v_taped v_size w_57 w_58 v_fault w_59 v_traits v_length v_open v_leaks v_places v_models)), ((am 10), .inl (cA 3, 200, .inl f_tape))]) hP hD [5, 4] [0, 1, 2, 3] hCc rfl (by decide) (by decide) hk1 hFc hP1 hD1
          clear hz1
          rw [twd_To] at tw_80
          generalize H1 = H at hP hS ⊢
          replace hP : va_P (dC, dI) vwCl [((am 13), .inl (cA 0, 5000, .inl f_step)), ((am 14), .inl (cA 0, 5000, .inl f_stepA)), ((am 15), .inl (cA 0, 5000, .inl f_stepB)), ((am 16), .inl (cA 0, 5000, .inl f_stepC)), ((am 0), .inr (9, F9 am v_status v_now v_told v_merges v_taped v_size w_57 w_58 v_fault w_59 v_traits v_length v_open v_leaks v_places v_models)), ((am 10), .inl (cA 3, 200, .inl f_tape))] H := hP
          replace hD : va_D A [((am 13), .inl (cA 0, 5000, .inl f_step)), ((am 14), .inl (cA 0, 5000, .inl f_stepA)), ((am 15), .inl (cA 0, 5000, .inl f_stepB)), ((am 16), .inl (cA 0, 5000, .inl f_stepC)), ((am 0), .inr (9, F9 am v_status v_now v_told v_merges v_taped v_size w_57 w_58 v_fault w_59 v_traits v_length v_open v_leaks v_places v_models)), ((am 10), .inl (cA 3, 200, .inl f_tape))] := hD
          refine lv_if_ne (tgt := 71) hx hb dX9_window_64 (by decide) (fun c_81 => ?_) (fun c_81 => ?_)
          · have dc_81 : ¬ r_76.toInt = 0 := jI_ne c_81 rfl (by decide)
            replace po_79 := sg_y po_79 dc_81
            refine lv_aload_n hx hb dX9_window_71 rfl (lv_at hl 2 rfl) ?_
            obtain ⟨hPc, hDc, hFc, hCc⟩ := va_pre (ws' := [((am 0), .inr (9, F9 am v_status v_now v_told v_merges v_taped v_size w_57 w_58 v_fault w_59 v_traits v_length v_open v_leaks v_places v_models))]) hP hD hS hA [4] (by decide) rfl
            refine va_calli (va_runV (As := []) (rest := []) ⟨hx, hb, hml, hown, hts⟩ (k_X9_good l dC dI cA H.size am v_status v_now v_told v_merges v_taped v_size w_57 w_58 v_fault w_59 v_traits v_length v_open v_leaks v_places v_models i_v_now i_v_told i_v_taped i_v_size iv_60 iv_61 i_v_traits i_v_length i_v_open i_v_places i_v_models) (cwV 0 hts gX9_window_X9_good rfl rfl rfl (by decide +kernel) ⟨Nat.le_of_ble_eq_true rfl, Nat.le_of_ble_eq_true rfl⟩) ⟨fun a U g mk q => by obtain ⟨q0, q1, qP, qK, qD, qN⟩ := q; exact ⟨q0, q1, qP, va_K.moved (u := U) (U := U.calling g mk a) (Vm.Alike.refl U.vm) qK, qD, qN.same rfl⟩, va_recv hK hPc (ci := 9) (q0 := 0) rfl rfl, fun U hU hW => ⟨rfl, by rw [hU], by rw [hU]; exact hPc, va_K.moved hW.alike hK, hDc.weaken (fun _ _ _ _ => trivial), hN.warm hW⟩⟩ rfl rfl hl.1 rfl (lv_room (Nat.le_of_ble_eq_true rfl)) dX9_window_72 ⟨Nat.le_of_ble_eq_true rfl, Nat.le_of_ble_eq_true rfl⟩) hS (fun q _ h => hFc q h) hFc (fun r_82 u_83 t H1 locs ht hvm hw_84 hB hz1 hk1 hS => ?_)
            try dsimp only at hw_84 hB
            have po_85 := hw_84
            clear hw_84
            obtain ⟨hP1, hD1⟩ := hB
            rw [ht] at hP1
            obtain ⟨hP, hD⟩ := va_join (wr := [((am 13), .inl (cA 0, 5000, .inl f_step)), ((am 14), .inl (cA 0, 5000, .inl f_stepA)), ((am 15), .inl (cA 0, 5000, .inl f_stepB)), ((am 16), .inl (cA 0, 5000, .inl f_stepC)), ((am 10), .inl (cA 3, 200, .inl f_tape))]) (w1 := [((am 0), .inr (9, F9 am v_status v_now v_told v_merges v_taped v_size w_57 w_58 v_fault w_59 v_traits v_length v_open v_leaks v_places v_models))]) hP hD [4] [0, 1, 2, 3, 5] hCc rfl (by decide) (by decide) hk1 hFc hP1 hD1
            clear hz1
            generalize H1 = H at hP hS ⊢
            refine lv_if_ne (tgt := 79) hx hb dX9_window_75 (by decide) (fun c_86 => ?_) (fun c_86 => ?_)
            · have dc_86 : ¬ r_82.toInt = 0 := jI_ne c_86 rfl (by decide)
              replace po_85 := gd_y po_85 dc_86
              refine lv_aload_n hx hb dX9_window_79 rfl (lv_at hl 2 rfl) ?_
              obtain ⟨hPc, hDc, hFc, hCc⟩ := va_pre (ws' := [((am 0), .inr (9, F9 am v_status v_now v_told v_merges v_taped v_size w_57 w_58 v_fault w_59 v_traits v_length v_open v_leaks v_places v_models)), ((am 10), .inl (cA 3, 200, .inl f_tape))]) hP hD hS hA [5, 4] (by decide) rfl
              refine va_callv (va_runV (As := []) (rest := []) ⟨hx, hb, hml, hown, hts⟩ (k_X9_next l dC dI cA H.size am v_status v_now v_told v_merges v_taped v_size w_57 w_58 v_fault w_59 v_traits v_length v_open v_leaks v_places v_models f_tape i_v_now i_v_told i_v_taped i_v_size iv_60 iv_61 i_v_traits i_v_length i_v_open i_v_places i_v_models (by omega)) (cwV 0 hts gX9_window_X9_next rfl rfl rfl (by decide +kernel) ⟨Nat.le_of_ble_eq_true rfl, Nat.le_of_ble_eq_true rfl⟩) ⟨fun a U g mk q => by obtain ⟨q0, q1, qP, qK, qD, qN⟩ := q; exact ⟨q0, q1, qP, va_K.moved (u := U) (U := U.calling g mk a) (Vm.Alike.refl U.vm) qK, qD, qN.same rfl⟩, va_recv hK hPc (ci := 9) (q0 := 0) rfl rfl, fun U hU hW => ⟨rfl, by rw [hU], by rw [hU]; exact hPc, va_K.moved hW.alike hK, hDc.weaken (fun _ _ _ _ => trivial), hN.warm hW⟩⟩ rfl rfl hl.1 rfl (lv_room (Nat.le_of_ble_eq_true rfl)) dX9_window_80 ⟨Nat.le_of_ble_eq_true rfl, Nat.le_of_ble_eq_true rfl⟩) hS (fun q _ h => hFc q h) hFc (fun u_87 t H1 locs ht hvm hw_88 hB hz1 hk1 hS => ?_)
              obtain ⟨w_89, w_90⟩ := u_87
              try dsimp only at hw_88 hB
              obtain ⟨iv_91, iv_92, po_93, tk_94, ad_95⟩ := hw_88
              obtain ⟨hP1, hD1⟩ := hB
              rw [ht] at hP1
              obtain ⟨hP, hD⟩ := va_join (wr := [((am 13), .inl (cA 0, 5000, .inl f_step)), ((am 14), .inl (cA 0, 5000, .inl f_stepA)), ((am 15), .inl (cA 0, 5000, .inl f_stepB)), ((am 16), .inl (cA 0, 5000, .inl f_stepC))]) (w1 := [((am 0), .inr (9, F9 am v_status v_now v_told v_merges v_taped v_size w_89 w_90 v_fault w_59 v_traits v_length v_open v_leaks v_places v_models)), ((am 10), .inl (cA 3, 200, .inl f_tape))]) hP hD [5, 4] [0, 1, 2, 3] hCc rfl (by decide) (by decide) hk1 hFc hP1 hD1
              clear hz1
              generalize H1 = H at hP hS ⊢
              refine lv_aload_n hx hb dX9_window_83 rfl (lv_at hl 2 rfl) ?_
              refine va_get (D := (dC, dI)) (ci := 9) (v := .int w_89) (C := RX9) (T := TX9) (N := 51) hx hb hts hIX9 hown hK hP 4 rfl rfl 16 (by decide) (hts (.fieldLink RX9 173 "TraitHouseModel" "from" "I") (by decide +kernel)) (fun _ h9 => h9) rfl dX9_window_84 ?_
              refine lv_istore (lv' := [(4, .int w_89), (3, .int r_54), (2, .int r_11), (0, .ref (am 0)), (1, .int cd)]) hx hb dX9_window_87 hl (by decide) rfl (fun ls hl => ?_)
              refine lv_aload_n hx hb dX9_window_89 rfl (lv_at hl 3 rfl) ?_
              refine lv_ldc hx hb hown (hts (.constant RX9 229 (1000000)) (by decide +kernel)) dX9_window_90 ?_
              have hk_96 : (1000000 : Int32).toInt = 1000000 := by decide
              obtain ⟨hPc, hDc, hFc, hCc⟩ := va_pre (ws' := [((am 0), .inr (9, F9 am v_status v_now v_told v_merges v_taped v_size w_89 w_90 v_fault w_59 v_traits v_length v_open v_leaks v_places v_models)), ((am 10), .inl (cA 3, 200, .inl f_tape))]) hP hD hS hA [4, 5] (by decide) rfl
              refine va_calli (va_runV (As := [.int 1000000]) (rest := []) ⟨hx, hb, hml, hown, hts⟩ (k_X9_number l dC dI cA H.size am v_status v_now v_told v_merges v_taped v_size w_89 w_90 v_fault w_59 v_traits v_length v_open v_leaks v_places v_models f_tape 1000000 i_v_now i_v_told i_v_taped i_v_size iv_91 iv_92 i_v_traits i_v_length i_v_open i_v_places i_v_models (by omega) tk_94 (by omega) (by omega)) (cwV 1 hts gX9_window_X9_number rfl rfl rfl (by decide +kernel) ⟨Nat.le_of_ble_eq_true rfl, Nat.le_of_ble_eq_true rfl⟩) ⟨fun a U g mk q => by obtain ⟨q0, q1, qP, qK, qD, qN⟩ := q; exact ⟨q0, q1, qP, va_K.moved (u := U) (U := U.calling g mk a) (Vm.Alike.refl U.vm) qK, qD, qN.same rfl⟩, va_recv hK hPc (ci := 9) (q0 := 0) rfl rfl, fun U hU hW => ⟨rfl, by rw [hU], by rw [hU]; exact hPc, va_K.moved hW.alike hK, hDc.weaken (fun _ _ _ _ => trivial), hN.warm hW⟩⟩ rfl rfl hl.1 rfl (lv_room (Nat.le_of_ble_eq_true rfl)) dX9_window_92 ⟨Nat.le_of_ble_eq_true rfl, Nat.le_of_ble_eq_true rfl⟩) hS (fun q _ h => hFc q h) hFc (fun r_97 u_98 t H1 locs ht hvm hw_99 hB hz1 hk1 hS => ?_)
              obtain ⟨w_100, w_101, w_102⟩ := u_98
              try dsimp only at hw_99 hB
              obtain ⟨iv_103, iv_104, po_105, tk_106, nm_107⟩ := hw_99
              try simp only [hk_96] at po_105 tk_106 nm_107
              obtain ⟨hP1, hD1⟩ := hB
              rw [ht] at hP1
              obtain ⟨hP, hD⟩ := va_join (wr := [((am 13), .inl (cA 0, 5000, .inl f_step)), ((am 14), .inl (cA 0, 5000, .inl f_stepA)), ((am 15), .inl (cA 0, 5000, .inl f_stepB)), ((am 16), .inl (cA 0, 5000, .inl f_stepC))]) (w1 := [((am 0), .inr (9, F9 am v_status v_now v_told v_merges v_taped v_size w_100 w_101 v_fault w_102 v_traits v_length v_open v_leaks v_places v_models)), ((am 10), .inl (cA 3, 200, .inl f_tape))]) hP hD [4, 5] [0, 1, 2, 3] hCc rfl (by decide) (by decide) hk1 hFc hP1 hD1
              clear hz1
              generalize H1 = H at hP hS ⊢
              refine lv_istore (lv' := [(5, .int r_97), (4, .int w_89), (3, .int r_54), (2, .int r_11), (0, .ref (am 0)), (1, .int cd)]) hx hb dX9_window_95 hl (by decide) rfl (fun ls hl => ?_)
              refine lv_aload_n hx hb dX9_window_97 rfl (lv_at hl 4 rfl) ?_
              obtain ⟨hPc, hDc, hFc, hCc⟩ := va_pre (ws' := [((am 0), .inr (9, F9 am v_status v_now v_told v_merges v_taped v_size w_100 w_101 v_fault w_102 v_traits v_length v_open v_leaks v_places v_models))]) hP hD hS hA [4] (by decide) rfl
              refine va_calli (va_runV (As := []) (rest := []) ⟨hx, hb, hml, hown, hts⟩ (k_X9_good l dC dI cA H.size am v_status v_now v_told v_merges v_taped v_size w_100 w_101 v_fault w_102 v_traits v_length v_open v_leaks v_places v_models i_v_now i_v_told i_v_taped i_v_size iv_103 iv_104 i_v_traits i_v_length i_v_open i_v_places i_v_models) (cwV 0 hts gX9_window_X9_good rfl rfl rfl (by decide +kernel) ⟨Nat.le_of_ble_eq_true rfl, Nat.le_of_ble_eq_true rfl⟩) ⟨fun a U g mk q => by obtain ⟨q0, q1, qP, qK, qD, qN⟩ := q; exact ⟨q0, q1, qP, va_K.moved (u := U) (U := U.calling g mk a) (Vm.Alike.refl U.vm) qK, qD, qN.same rfl⟩, va_recv hK hPc (ci := 9) (q0 := 0) rfl rfl, fun U hU hW => ⟨rfl, by rw [hU], by rw [hU]; exact hPc, va_K.moved hW.alike hK, hDc.weaken (fun _ _ _ _ => trivial), hN.warm hW⟩⟩ rfl rfl hl.1 rfl (lv_room (Nat.le_of_ble_eq_true rfl)) dX9_window_98 ⟨Nat.le_of_ble_eq_true rfl, Nat.le_of_ble_eq_true rfl⟩) hS (fun q _ h => hFc q h) hFc (fun r_108 u_109 t H1 locs ht hvm hw_110 hB hz1 hk1 hS => ?_)
              try dsimp only at hw_110 hB
              have po_111 := hw_110
              clear hw_110
              obtain ⟨hP1, hD1⟩ := hB
              rw [ht] at hP1
              obtain ⟨hP, hD⟩ := va_join (wr := [((am 13), .inl (cA 0, 5000, .inl f_step)), ((am 14), .inl (cA 0, 5000, .inl f_stepA)), ((am 15), .inl (cA 0, 5000, .inl f_stepB)), ((am 16), .inl (cA 0, 5000, .inl f_stepC)), ((am 10), .inl (cA 3, 200, .inl f_tape))]) (w1 := [((am 0), .inr (9, F9 am v_status v_now v_told v_merges v_taped v_size w_100 w_101 v_fault w_102 v_traits v_length v_open v_leaks v_places v_models))]) hP hD [4] [0, 1, 2, 3, 5] hCc rfl (by decide) (by decide) hk1 hFc hP1 hD1
              clear hz1
              generalize H1 = H at hP hS ⊢
              refine lv_if_eq (tgt := 116) hx hb dX9_window_101 (by decide) (fun c_112 => ?_) (fun c_112 => ?_)
              · have dc_112 : r_108.toInt = 0 := jI_eq c_112 rfl (by decide)
                replace po_111 := gd_n po_111 dc_112
                replace po_105 := im5_n po_105
                refine lv_aload_n hx hb dX9_window_116 rfl (lv_at hl 4 rfl) ?_
                obtain ⟨hPc, hDc, hFc, hCc⟩ := va_pre (ws' := [((am 0), .inr (9, F9 am v_status v_now v_told v_merges v_taped v_size w_100 w_101 v_fault w_102 v_traits v_length v_open v_leaks v_places v_models))]) hP hD hS hA [5] (by decide) rfl
                refine va_calli (va_runV (As := []) (rest := []) ⟨hx, hb, hml, hown, hts⟩ (k_X9_good l dC dI cA H.size am v_status v_now v_told v_merges v_taped v_size w_100 w_101 v_fault w_102 v_traits v_length v_open v_leaks v_places v_models i_v_now i_v_told i_v_taped i_v_size iv_103 iv_104 i_v_traits i_v_length i_v_open i_v_places i_v_models) (cwV 0 hts gX9_window_X9_good rfl rfl rfl (by decide +kernel) ⟨Nat.le_of_ble_eq_true rfl, Nat.le_of_ble_eq_true rfl⟩) ⟨fun a U g mk q => by obtain ⟨q0, q1, qP, qK, qD, qN⟩ := q; exact ⟨q0, q1, qP, va_K.moved (u := U) (U := U.calling g mk a) (Vm.Alike.refl U.vm) qK, qD, qN.same rfl⟩, va_recv hK hPc (ci := 9) (q0 := 0) rfl rfl, fun U hU hW => ⟨rfl, by rw [hU], by rw [hU]; exact hPc, va_K.moved hW.alike hK, hDc.weaken (fun _ _ _ _ => trivial), hN.warm hW⟩⟩ rfl rfl hl.1 rfl (lv_room (Nat.le_of_ble_eq_true rfl)) dX9_window_117 ⟨Nat.le_of_ble_eq_true rfl, Nat.le_of_ble_eq_true rfl⟩) hS (fun q _ h => hFc q h) hFc (fun r_113 u_114 t H1 locs ht hvm hw_115 hB hz1 hk1 hS => ?_)
                try dsimp only at hw_115 hB
                have po_116 := hw_115
                clear hw_115
                obtain ⟨hP1, hD1⟩ := hB
                rw [ht] at hP1
                obtain ⟨hP, hD⟩ := va_join (wr := [((am 13), .inl (cA 0, 5000, .inl f_step)), ((am 14), .inl (cA 0, 5000, .inl f_stepA)), ((am 15), .inl (cA 0, 5000, .inl f_stepB)), ((am 16), .inl (cA 0, 5000, .inl f_stepC)), ((am 10), .inl (cA 3, 200, .inl f_tape))]) (w1 := [((am 0), .inr (9, F9 am v_status v_now v_told v_merges v_taped v_size w_100 w_101 v_fault w_102 v_traits v_length v_open v_leaks v_places v_models))]) hP hD [5] [0, 1, 2, 3, 4] hCc rfl (by decide) (by decide) hk1 hFc hP1 hD1
                clear hz1
                generalize H1 = H at hP hS ⊢
                refine lv_if_ne (tgt := 124) hx hb dX9_window_120 (by decide) (fun c_117 => ?_) (fun c_117 => ?_)
                · have dc_117 : ¬ r_113.toInt = 0 := jI_ne c_117 rfl (by decide)
                  replace po_116 := gd_y po_116 dc_117
                  exfalso; omega
                · have dc_117 : r_113.toInt = 0 := jI_eq c_117 rfl (by decide)
                  replace po_116 := gd_n po_116 dc_117
                  obtain ⟨hP9, hD9⟩ := va_pd (ws' := [((am 0), .inr (9, F9 am v_status v_now v_told v_merges v_taped v_size w_100 w_101 v_fault w_102 v_traits v_length v_open v_leaks v_places v_models)), ((am 10), .inl (cA 3, 200, .inl f_tape)), ((am 13), .inl (cA 0, 5000, .inl f_step)), ((am 14), .inl (cA 0, 5000, .inl f_stepA)), ((am 15), .inl (cA 0, 5000, .inl f_stepB)), ((am 16), .inl (cA 0, 5000, .inl f_stepC))]) hP hD [5, 4, 0, 1, 2, 3] (by decide) rfl
                  subst hQe
                  have hpost : (0 ≤ w_100.toInt ∧ w_100.toInt ≤ 200) ∧ (0 ≤ w_101.toInt ∧ w_101.toInt ≤ 200) ∧ (0 ≤ v_length.toInt ∧ v_length.toInt ≤ 200) ∧ (0 ≤ v_open.toInt ∧ v_open.toInt ≤ 8) ∧ (v_from.toInt ≤ w_100.toInt ∧ w_100.toInt ≤ w_101.toInt ∧ w_101.toInt ≤ v_size.toInt ∧ (w_100.toInt < v_size.toInt → w_100.toInt < w_101.toInt) ∧ v_length.toInt - v_length.toInt ≤ w_100.toInt - v_from.toInt ∧ v_length.toInt ≤ v_length.toInt ∧ (w_102.toInt = (-1) → v_open.toInt = v_open.toInt)) ∧ (tokOK f_tape w_100 w_101 v_size) ∧ (prg f_step f_stepA f_step f_stepA (250 * v_traits.toInt.toNat) v_length.toInt.toNat v_length.toInt.toNat (w_102.toInt = (-1))) ∧ (rs w_102 w_100 w_101 v_leaks (orb f_step f_stepA (250 * v_traits.toInt.toNat) v_length.toInt.toNat) = pwin (tpe f_tape v_size) v_size.toInt (sk (tpe f_tape v_size) v_to.toInt) (tke (tpe f_tape v_size) v_size.toInt (sk (tpe f_tape v_size) v_to.toInt)) v_leaks.toInt (orb f_step f_stepA (250 * v_traits.toInt.toNat) v_length.toInt.toNat)) := ⟨iv_103, iv_104, i_v_length, i_v_open, by omega, tk_106, prg_rf hwp (by omega), (by rw [pwin, ← ad_9.2, ← ad_9.1, nm_ok nm_21 (by omega), ptak_ok (tw_37.mp dc_38), ← ad_52.2, ← ad_52.1, nm_ok nm_64 (by omega), ptak_ok (tw_80.mp dc_81), ← ad_95.2, ← ad_95.1, nm_no2 nm_107 (by omega) (by omega)]; exact rs_inl (by omega) (by omega))⟩
                  exact W.vret hx hb hr (fun t ht hW => ⟨⟨(w_100, w_101, w_102, v_length, v_open, v_leaks, f_step, f_stepA, f_stepB, f_stepC), rfl, hpost, by rw [ht]; exact hP9, hD9⟩, hS.F ht⟩) hS.2.2 dX9_window_123
              · have dc_112 : ¬ r_108.toInt = 0 := jI_ne c_112 rfl (by decide)
                replace po_111 := gd_y po_111 dc_112
                replace po_105 := im5_y po_105 po_111
                refine lv_iload hx hb dX9_window_104 (lv_at hl 0 rfl) ?_
                refine lv_iload_n hx hb dX9_window_106 rfl (lv_at hl 2 rfl) ?_
                refine lv_icmp_le (tgt := 116) hx hb dX9_window_107 (by decide) (fun c_118 => ?_) (fun c_118 => ?_)
                · have dc_118 : r_97.toInt ≤ r_54.toInt := jI_le c_118 rfl rfl
                  refine lv_aload_n hx hb dX9_window_116 rfl (lv_at hl 4 rfl) ?_
                  obtain ⟨hPc, hDc, hFc, hCc⟩ := va_pre (ws' := [((am 0), .inr (9, F9 am v_status v_now v_told v_merges v_taped v_size w_100 w_101 v_fault w_102 v_traits v_length v_open v_leaks v_places v_models))]) hP hD hS hA [5] (by decide) rfl
                  refine va_calli (va_runV (As := []) (rest := []) ⟨hx, hb, hml, hown, hts⟩ (k_X9_good l dC dI cA H.size am v_status v_now v_told v_merges v_taped v_size w_100 w_101 v_fault w_102 v_traits v_length v_open v_leaks v_places v_models i_v_now i_v_told i_v_taped i_v_size iv_103 iv_104 i_v_traits i_v_length i_v_open i_v_places i_v_models) (cwV 0 hts gX9_window_X9_good rfl rfl rfl (by decide +kernel) ⟨Nat.le_of_ble_eq_true rfl, Nat.le_of_ble_eq_true rfl⟩) ⟨fun a U g mk q => by obtain ⟨q0, q1, qP, qK, qD, qN⟩ := q; exact ⟨q0, q1, qP, va_K.moved (u := U) (U := U.calling g mk a) (Vm.Alike.refl U.vm) qK, qD, qN.same rfl⟩, va_recv hK hPc (ci := 9) (q0 := 0) rfl rfl, fun U hU hW => ⟨rfl, by rw [hU], by rw [hU]; exact hPc, va_K.moved hW.alike hK, hDc.weaken (fun _ _ _ _ => trivial), hN.warm hW⟩⟩ rfl rfl hl.1 rfl (lv_room (Nat.le_of_ble_eq_true rfl)) dX9_window_117 ⟨Nat.le_of_ble_eq_true rfl, Nat.le_of_ble_eq_true rfl⟩) hS (fun q _ h => hFc q h) hFc (fun r_119 u_120 t H1 locs ht hvm hw_121 hB hz1 hk1 hS => ?_)
                  try dsimp only at hw_121 hB
                  have po_122 := hw_121
                  clear hw_121
                  obtain ⟨hP1, hD1⟩ := hB
                  rw [ht] at hP1
                  obtain ⟨hP, hD⟩ := va_join (wr := [((am 13), .inl (cA 0, 5000, .inl f_step)), ((am 14), .inl (cA 0, 5000, .inl f_stepA)), ((am 15), .inl (cA 0, 5000, .inl f_stepB)), ((am 16), .inl (cA 0, 5000, .inl f_stepC)), ((am 10), .inl (cA 3, 200, .inl f_tape))]) (w1 := [((am 0), .inr (9, F9 am v_status v_now v_told v_merges v_taped v_size w_100 w_101 v_fault w_102 v_traits v_length v_open v_leaks v_places v_models))]) hP hD [5] [0, 1, 2, 3, 4] hCc rfl (by decide) (by decide) hk1 hFc hP1 hD1
                  clear hz1
                  generalize H1 = H at hP hS ⊢
                  refine lv_if_ne (tgt := 124) hx hb dX9_window_120 (by decide) (fun c_123 => ?_) (fun c_123 => ?_)
                  · have dc_123 : ¬ r_119.toInt = 0 := jI_ne c_123 rfl (by decide)
                    replace po_122 := gd_y po_122 dc_123
                    refine lv_aload_n hx hb dX9_window_124 rfl (lv_at hl 4 rfl) ?_
                    refine lv_ldc2 hx hb hown (hts (.constantLong RX9 264 (4232449)) (by decide +kernel)) dX9_window_125 ?_
                    have hk_124 : (4232449 : Int64).toInt = 4232449 := by decide
                    obtain ⟨hPc, hDc, hFc, hCc⟩ := va_pre (ws' := [((am 0), .inr (9, F9 am v_status v_now v_told v_merges v_taped v_size w_100 w_101 v_fault w_102 v_traits v_length v_open v_leaks v_places v_models)), ((am 10), .inl (cA 3, 200, .inl f_tape))]) hP hD hS hA [5, 4] (by decide) rfl
                    refine va_calli (va_runV (As := [.long 4232449]) (rest := []) ⟨hx, hb, hml, hown, hts⟩ (k_X9_isWord l dC dI cA H.size am v_status v_now v_told v_merges v_taped v_size w_100 w_101 v_fault w_102 v_traits v_length v_open v_leaks v_places v_models f_tape 4232449 i_v_now i_v_told i_v_taped i_v_size iv_103 iv_104 i_v_traits i_v_length i_v_open i_v_places i_v_models (by omega) (by omega) (by omega)) (cwV 1 hts gX9_window_X9_isWord rfl rfl rfl (by decide +kernel) ⟨Nat.le_of_ble_eq_true rfl, Nat.le_of_ble_eq_true rfl⟩) ⟨fun a U g mk q => by obtain ⟨q0, q1, qP, qK, qD, qN⟩ := q; exact ⟨q0, q1, qP, va_K.moved (u := U) (U := U.calling g mk a) (Vm.Alike.refl U.vm) qK, qD, qN.same rfl⟩, va_recv hK hPc (ci := 9) (q0 := 0) rfl rfl, fun U hU hW => ⟨rfl, by rw [hU], by rw [hU]; exact hPc, va_K.moved hW.alike hK, hDc.weaken (fun _ _ _ _ => trivial), hN.warm hW⟩⟩ rfl rfl hl.1 rfl (lv_room (Nat.le_of_ble_eq_true rfl)) dX9_window_128 ⟨Nat.le_of_ble_eq_true rfl, Nat.le_of_ble_eq_true rfl⟩) hS (fun q _ h => hFc q h) hFc (fun r_125 u_126 t H1 locs ht hvm hw_127 hB hz1 hk1 hS => ?_)
                    try dsimp only at hw_127 hB
                    obtain ⟨po_128, tw_129⟩ := hw_127
                    try simp only [hk_124] at po_128 tw_129
                    obtain ⟨hP1, hD1⟩ := hB
                    rw [ht] at hP1
                    obtain ⟨hP, hD⟩ := va_join (wr := [((am 13), .inl (cA 0, 5000, .inl f_step)), ((am 14), .inl (cA 0, 5000, .inl f_stepA)), ((am 15), .inl (cA 0, 5000, .inl f_stepB)), ((am 16), .inl (cA 0, 5000, .inl f_stepC))]) (w1 := [((am 0), .inr (9, F9 am v_status v_now v_told v_merges v_taped v_size w_100 w_101 v_fault w_102 v_traits v_length v_open v_leaks v_places v_models)), ((am 10), .inl (cA 3, 200, .inl f_tape))]) hP hD [5, 4] [0, 1, 2, 3] hCc rfl (by decide) (by decide) hk1 hFc hP1 hD1
                    clear hz1
                    rw [twd_Ahead] at tw_129
                    generalize H1 = H at hP hS ⊢
                    replace hP : va_P (dC, dI) vwCl [((am 13), .inl (cA 0, 5000, .inl f_step)), ((am 14), .inl (cA 0, 5000, .inl f_stepA)), ((am 15), .inl (cA 0, 5000, .inl f_stepB)), ((am 16), .inl (cA 0, 5000, .inl f_stepC)), ((am 0), .inr (9, F9 am v_status v_now v_told v_merges v_taped v_size w_100 w_101 v_fault w_102 v_traits v_length v_open v_leaks v_places v_models)), ((am 10), .inl (cA 3, 200, .inl f_tape))] H := hP
                    replace hD : va_D A [((am 13), .inl (cA 0, 5000, .inl f_step)), ((am 14), .inl (cA 0, 5000, .inl f_stepA)), ((am 15), .inl (cA 0, 5000, .inl f_stepB)), ((am 16), .inl (cA 0, 5000, .inl f_stepC)), ((am 0), .inr (9, F9 am v_status v_now v_told v_merges v_taped v_size w_100 w_101 v_fault w_102 v_traits v_length v_open v_leaks v_places v_models)), ((am 10), .inl (cA 3, 200, .inl f_tape))] := hD
                    refine lv_if_eq (tgt := 143) hx hb dX9_window_131 (by decide) (fun c_130 => ?_) (fun c_130 => ?_)
                    · have dc_130 : r_125.toInt = 0 := jI_eq c_130 rfl (by decide)
                      replace po_128 := sg_n po_128
                      refine lv_aload_n hx hb dX9_window_143 rfl (lv_at hl 4 rfl) ?_
                      refine lv_iload_n hx hb dX9_window_144 rfl (lv_at hl 5 rfl) ?_
                      refine lv_iload_n hx hb dX9_window_145 rfl (lv_at hl 3 rfl) ?_
                      refine lv_iload_n hx hb dX9_window_146 rfl (lv_at hl 2 rfl) ?_
                      refine lv_iload hx hb dX9_window_147 (lv_at hl 0 rfl) ?_
                      obtain ⟨hPc, hDc, hFc, hCc⟩ := va_pre (ws' := [((am 0), .inr (9, F9 am v_status v_now v_told v_merges v_taped v_size w_100 w_101 v_fault w_102 v_traits v_length v_open v_leaks v_places v_models)), ((am 13), .inl (cA 0, 5000, .inl f_step)), ((am 14), .inl (cA 0, 5000, .inl f_stepA)), ((am 15), .inl (cA 0, 5000, .inl f_stepB)), ((am 16), .inl (cA 0, 5000, .inl f_stepC))]) hP hD hS hA [4, 0, 1, 2, 3] (by decide) rfl
                      refine va_callv (va_runV (As := [.int cd, .int r_11, .int r_54, .int r_97]) (rest := []) ⟨hx, hb, hml, hown, hts⟩ (k_X9_puts l dC dI cA H.size am v_status v_now v_told v_merges v_taped v_size w_100 w_101 v_fault w_102 v_traits v_length v_open v_leaks v_places v_models f_step f_stepA f_stepB f_stepC cd r_11 r_54 r_97 i_v_now i_v_told i_v_taped i_v_size iv_103 iv_104 i_v_traits i_v_length i_v_open i_v_places i_v_models htr (by omega)) (cwV 4 hts gX9_window_X9_puts rfl rfl rfl (by decide +kernel) ⟨Nat.le_of_ble_eq_true rfl, Nat.le_of_ble_eq_true rfl⟩) ⟨fun a U g mk q => by obtain ⟨q0, q1, qP, qK, qD, qN⟩ := q; exact ⟨q0, q1, qP, va_K.moved (u := U) (U := U.calling g mk a) (Vm.Alike.refl U.vm) qK, qD, qN.same rfl⟩, va_recv hK hPc (ci := 9) (q0 := 0) rfl rfl, fun U hU hW => ⟨rfl, by rw [hU], by rw [hU]; exact hPc, va_K.moved hW.alike hK, hDc.weaken (fun _ _ _ _ => trivial), hN.warm hW⟩⟩ rfl rfl hl.1 rfl (lv_room (Nat.le_of_ble_eq_true rfl)) dX9_window_149 ⟨Nat.le_of_ble_eq_true rfl, Nat.le_of_ble_eq_true rfl⟩) hS (fun q _ h => hFc q h) hFc (fun u_131 t H1 locs ht hvm hw_132 hB hz1 hk1 hS => ?_)
                      obtain ⟨w_133, w_134, w_135, w_136, w_137⟩ := u_131
                      try dsimp only at hw_132 hB
                      obtain ⟨iv_138, po_139, es_140, eA_141⟩ := hw_132
                      obtain ⟨hP1, hD1⟩ := hB
                      rw [ht] at hP1
                      obtain ⟨hP, hD⟩ := va_join (wr := [((am 10), .inl (cA 3, 200, .inl f_tape))]) (w1 := [((am 0), .inr (9, F9 am v_status v_now v_told v_merges v_taped v_size w_100 w_101 v_fault w_102 v_traits w_133 v_open v_leaks v_places v_models)), ((am 13), .inl (cA 0, 5000, .inl w_134)), ((am 14), .inl (cA 0, 5000, .inl w_135)), ((am 15), .inl (cA 0, 5000, .inl w_136)), ((am 16), .inl (cA 0, 5000, .inl w_137))]) hP hD [4, 0, 1, 2, 3] [5] hCc rfl (by decide) (by decide) hk1 hFc hP1 hD1
                      clear hz1
                      generalize H1 = H at hP hS ⊢
                      obtain ⟨hP9, hD9⟩ := va_pd (ws' := [((am 0), .inr (9, F9 am v_status v_now v_told v_merges v_taped v_size w_100 w_101 v_fault w_102 v_traits w_133 v_open v_leaks v_places v_models)), ((am 10), .inl (cA 3, 200, .inl f_tape)), ((am 13), .inl (cA 0, 5000, .inl w_134)), ((am 14), .inl (cA 0, 5000, .inl w_135)), ((am 15), .inl (cA 0, 5000, .inl w_136)), ((am 16), .inl (cA 0, 5000, .inl w_137))]) hP hD [1, 0, 2, 3, 4, 5] (by decide) rfl
                      subst hQe
                      have hpost : (0 ≤ w_100.toInt ∧ w_100.toInt ≤ 200) ∧ (0 ≤ w_101.toInt ∧ w_101.toInt ≤ 200) ∧ (0 ≤ w_133.toInt ∧ w_133.toInt ≤ 200) ∧ (0 ≤ v_open.toInt ∧ v_open.toInt ≤ 8) ∧ (v_from.toInt ≤ w_100.toInt ∧ w_100.toInt ≤ w_101.toInt ∧ w_101.toInt ≤ v_size.toInt ∧ (w_100.toInt < v_size.toInt → w_100.toInt < w_101.toInt) ∧ w_133.toInt - v_length.toInt ≤ w_100.toInt - v_from.toInt ∧ v_length.toInt ≤ w_133.toInt ∧ (w_102.toInt = (-1) → v_open.toInt = v_open.toInt)) ∧ (tokOK f_tape w_100 w_101 v_size) ∧ (prg f_step f_stepA w_134 w_135 (250 * v_traits.toInt.toNat) v_length.toInt.toNat w_133.toInt.toNat (w_102.toInt = (-1))) ∧ (rs w_102 w_100 w_101 v_leaks (orb w_134 w_135 (250 * v_traits.toInt.toNat) w_133.toInt.toNat) = pwin (tpe f_tape v_size) v_size.toInt (sk (tpe f_tape v_size) v_to.toInt) (tke (tpe f_tape v_size) v_size.toInt (sk (tpe f_tape v_size) v_to.toInt)) v_leaks.toInt (orb f_step f_stepA (250 * v_traits.toInt.toNat) v_length.toInt.toNat)) := ⟨iv_103, iv_104, iv_138, i_v_open, by omega, tk_106, prg_push hwp (by omega) (by omega) es_140 eA_141 (by omega), (by rw [pwin, ← ad_9.2, ← ad_9.1, nm_ok nm_21 (by omega), ptak_ok (tw_37.mp dc_38), ← ad_52.2, ← ad_52.1, nm_ok nm_64 (by omega), ptak_ok (tw_80.mp dc_81), ← ad_95.2, ← ad_95.1, nm_le nm_107 (by omega) (by omega), if_neg (fun h => absurd (tw_129.mpr h) (fun q => q dc_130))]; exact rs_inr (by omega) (by omega) (by omega) (by omega) (orb_0 (by first | omega | decide) es_140 eA_141 (by omega)))⟩
                      exact W.vret hx hb hr (fun t ht hW => ⟨⟨(w_100, w_101, w_102, w_133, v_open, v_leaks, w_134, w_135, w_136, w_137), rfl, hpost, by rw [ht]; exact hP9, hD9⟩, hS.F ht⟩) hS.2.2 dX9_window_152
                    · have dc_130 : ¬ r_125.toInt = 0 := jI_ne c_130 rfl (by decide)
                      replace po_128 := sg_y po_128 dc_130
                      refine lv_aload_n hx hb dX9_window_134 rfl (lv_at hl 4 rfl) ?_
                      refine lv_iconst (v := 1) hx hb dX9_window_135 (by decide) ?_
                      refine va_put (D := (dC, dI)) (ci := 9) (v := .int 1) (ty := .boolean) (C := RX9) (T := TX9) (N := 51) hx hb hts hIX9 tyX9 tyX9_ok nmX9 hown hK hP hD hS 4 rfl rfl 24 (by decide) (hts (.fieldLink RX9 266 "TraitHouseModel" "leaks" "Z") (by decide +kernel)) (fun _ h9 => h9) rfl (by decide +kernel) rfl rfl (Nat.le_of_ble_eq_true rfl) dX9_window_136 (fun H locs hP hD hS => ?_)
                      replace hP : va_P (dC, dI) vwCl [((am 13), .inl (cA 0, 5000, .inl f_step)), ((am 14), .inl (cA 0, 5000, .inl f_stepA)), ((am 15), .inl (cA 0, 5000, .inl f_stepB)), ((am 16), .inl (cA 0, 5000, .inl f_stepC)), ((am 0), .inr (9, F9 am v_status v_now v_told v_merges v_taped v_size w_100 w_101 v_fault w_102 v_traits v_length v_open 1 v_places v_models)), ((am 10), .inl (cA 3, 200, .inl f_tape))] H := hP
                      replace hD : va_D A [((am 13), .inl (cA 0, 5000, .inl f_step)), ((am 14), .inl (cA 0, 5000, .inl f_stepA)), ((am 15), .inl (cA 0, 5000, .inl f_stepB)), ((am 16), .inl (cA 0, 5000, .inl f_stepC)), ((am 0), .inr (9, F9 am v_status v_now v_told v_merges v_taped v_size w_100 w_101 v_fault w_102 v_traits v_length v_open 1 v_places v_models)), ((am 10), .inl (cA 3, 200, .inl f_tape))] := hD
                      refine lv_aload_n hx hb dX9_window_139 rfl (lv_at hl 4 rfl) ?_
                      have hk_142 : (1 : Int32).toInt = 1 := by decide
                      obtain ⟨hPc, hDc, hFc, hCc⟩ := va_pre (ws' := [((am 0), .inr (9, F9 am v_status v_now v_told v_merges v_taped v_size w_100 w_101 v_fault w_102 v_traits v_length v_open 1 v_places v_models)), ((am 10), .inl (cA 3, 200, .inl f_tape))]) hP hD hS hA [4, 5] (by decide) rfl
                      refine va_callv (va_runV (As := []) (rest := []) ⟨hx, hb, hml, hown, hts⟩ (k_X9_next l dC dI cA H.size am v_status v_now v_told v_merges v_taped v_size w_100 w_101 v_fault w_102 v_traits v_length v_open 1 v_places v_models f_tape i_v_now i_v_told i_v_taped i_v_size iv_103 iv_104 i_v_traits i_v_length i_v_open i_v_places i_v_models (by omega)) (cwV 0 hts gX9_window_X9_next rfl rfl rfl (by decide +kernel) ⟨Nat.le_of_ble_eq_true rfl, Nat.le_of_ble_eq_true rfl⟩) ⟨fun a U g mk q => by obtain ⟨q0, q1, qP, qK, qD, qN⟩ := q; exact ⟨q0, q1, qP, va_K.moved (u := U) (U := U.calling g mk a) (Vm.Alike.refl U.vm) qK, qD, qN.same rfl⟩, va_recv hK hPc (ci := 9) (q0 := 0) rfl rfl, fun U hU hW => ⟨rfl, by rw [hU], by rw [hU]; exact hPc, va_K.moved hW.alike hK, hDc.weaken (fun _ _ _ _ => trivial), hN.warm hW⟩⟩ rfl rfl hl.1 rfl (lv_room (Nat.le_of_ble_eq_true rfl)) dX9_window_140 ⟨Nat.le_of_ble_eq_true rfl, Nat.le_of_ble_eq_true rfl⟩) hS (fun q _ h => hFc q h) hFc (fun u_143 t H1 locs ht hvm hw_144 hB hz1 hk1 hS => ?_)
                      obtain ⟨w_145, w_146⟩ := u_143
                      try dsimp only at hw_144 hB
                      obtain ⟨iv_147, iv_148, po_149, tk_150, ad_151⟩ := hw_144
                      obtain ⟨hP1, hD1⟩ := hB
                      rw [ht] at hP1
                      obtain ⟨hP, hD⟩ := va_join (wr := [((am 13), .inl (cA 0, 5000, .inl f_step)), ((am 14), .inl (cA 0, 5000, .inl f_stepA)), ((am 15), .inl (cA 0, 5000, .inl f_stepB)), ((am 16), .inl (cA 0, 5000, .inl f_stepC))]) (w1 := [((am 0), .inr (9, F9 am v_status v_now v_told v_merges v_taped v_size w_145 w_146 v_fault w_102 v_traits v_length v_open 1 v_places v_models)), ((am 10), .inl (cA 3, 200, .inl f_tape))]) hP hD [4, 5] [0, 1, 2, 3] hCc rfl (by decide) (by decide) hk1 hFc hP1 hD1
                      clear hz1
                      generalize H1 = H at hP hS ⊢
                      refine lv_aload_n hx hb dX9_window_143 rfl (lv_at hl 4 rfl) ?_
                      refine lv_iload_n hx hb dX9_window_144 rfl (lv_at hl 5 rfl) ?_
                      refine lv_iload_n hx hb dX9_window_145 rfl (lv_at hl 3 rfl) ?_
                      refine lv_iload_n hx hb dX9_window_146 rfl (lv_at hl 2 rfl) ?_
                      refine lv_iload hx hb dX9_window_147 (lv_at hl 0 rfl) ?_
                      have hk_152 : (1 : Int32).toInt = 1 := by decide
                      obtain ⟨hPc, hDc, hFc, hCc⟩ := va_pre (ws' := [((am 0), .inr (9, F9 am v_status v_now v_told v_merges v_taped v_size w_145 w_146 v_fault w_102 v_traits v_length v_open 1 v_places v_models)), ((am 13), .inl (cA 0, 5000, .inl f_step)), ((am 14), .inl (cA 0, 5000, .inl f_stepA)), ((am 15), .inl (cA 0, 5000, .inl f_stepB)), ((am 16), .inl (cA 0, 5000, .inl f_stepC))]) hP hD hS hA [4, 0, 1, 2, 3] (by decide) rfl
                      refine va_callv (va_runV (As := [.int cd, .int r_11, .int r_54, .int r_97]) (rest := []) ⟨hx, hb, hml, hown, hts⟩ (k_X9_puts l dC dI cA H.size am v_status v_now v_told v_merges v_taped v_size w_145 w_146 v_fault w_102 v_traits v_length v_open 1 v_places v_models f_step f_stepA f_stepB f_stepC cd r_11 r_54 r_97 i_v_now i_v_told i_v_taped i_v_size iv_147 iv_148 i_v_traits i_v_length i_v_open i_v_places i_v_models htr (by omega)) (cwV 4 hts gX9_window_X9_puts rfl rfl rfl (by decide +kernel) ⟨Nat.le_of_ble_eq_true rfl, Nat.le_of_ble_eq_true rfl⟩) ⟨fun a U g mk q => by obtain ⟨q0, q1, qP, qK, qD, qN⟩ := q; exact ⟨q0, q1, qP, va_K.moved (u := U) (U := U.calling g mk a) (Vm.Alike.refl U.vm) qK, qD, qN.same rfl⟩, va_recv hK hPc (ci := 9) (q0 := 0) rfl rfl, fun U hU hW => ⟨rfl, by rw [hU], by rw [hU]; exact hPc, va_K.moved hW.alike hK, hDc.weaken (fun _ _ _ _ => trivial), hN.warm hW⟩⟩ rfl rfl hl.1 rfl (lv_room (Nat.le_of_ble_eq_true rfl)) dX9_window_149 ⟨Nat.le_of_ble_eq_true rfl, Nat.le_of_ble_eq_true rfl⟩) hS (fun q _ h => hFc q h) hFc (fun u_153 t H1 locs ht hvm hw_154 hB hz1 hk1 hS => ?_)
                      obtain ⟨w_155, w_156, w_157, w_158, w_159⟩ := u_153
                      try dsimp only at hw_154 hB
                      obtain ⟨iv_160, po_161, es_162, eA_163⟩ := hw_154
                      obtain ⟨hP1, hD1⟩ := hB
                      rw [ht] at hP1
                      obtain ⟨hP, hD⟩ := va_join (wr := [((am 10), .inl (cA 3, 200, .inl f_tape))]) (w1 := [((am 0), .inr (9, F9 am v_status v_now v_told v_merges v_taped v_size w_145 w_146 v_fault w_102 v_traits w_155 v_open 1 v_places v_models)), ((am 13), .inl (cA 0, 5000, .inl w_156)), ((am 14), .inl (cA 0, 5000, .inl w_157)), ((am 15), .inl (cA 0, 5000, .inl w_158)), ((am 16), .inl (cA 0, 5000, .inl w_159))]) hP hD [4, 0, 1, 2, 3] [5] hCc rfl (by decide) (by decide) hk1 hFc hP1 hD1
                      clear hz1
                      generalize H1 = H at hP hS ⊢
                      obtain ⟨hP9, hD9⟩ := va_pd (ws' := [((am 0), .inr (9, F9 am v_status v_now v_told v_merges v_taped v_size w_145 w_146 v_fault w_102 v_traits w_155 v_open 1 v_places v_models)), ((am 10), .inl (cA 3, 200, .inl f_tape)), ((am 13), .inl (cA 0, 5000, .inl w_156)), ((am 14), .inl (cA 0, 5000, .inl w_157)), ((am 15), .inl (cA 0, 5000, .inl w_158)), ((am 16), .inl (cA 0, 5000, .inl w_159))]) hP hD [1, 0, 2, 3, 4, 5] (by decide) rfl
                      subst hQe
                      have hk_164 : (1 : Int32).toInt = 1 := by decide
                      have hpost : (0 ≤ w_145.toInt ∧ w_145.toInt ≤ 200) ∧ (0 ≤ w_146.toInt ∧ w_146.toInt ≤ 200) ∧ (0 ≤ w_155.toInt ∧ w_155.toInt ≤ 200) ∧ (0 ≤ v_open.toInt ∧ v_open.toInt ≤ 8) ∧ (v_from.toInt ≤ w_145.toInt ∧ w_145.toInt ≤ w_146.toInt ∧ w_146.toInt ≤ v_size.toInt ∧ (w_145.toInt < v_size.toInt → w_145.toInt < w_146.toInt) ∧ w_155.toInt - v_length.toInt ≤ w_145.toInt - v_from.toInt ∧ v_length.toInt ≤ w_155.toInt ∧ (w_102.toInt = (-1) → v_open.toInt = v_open.toInt)) ∧ (tokOK f_tape w_145 w_146 v_size) ∧ (prg f_step f_stepA w_156 w_157 (250 * v_traits.toInt.toNat) v_length.toInt.toNat w_155.toInt.toNat (w_102.toInt = (-1))) ∧ (rs w_102 w_145 w_146 (1 : Int32) (orb w_156 w_157 (250 * v_traits.toInt.toNat) w_155.toInt.toNat) = pwin (tpe f_tape v_size) v_size.toInt (sk (tpe f_tape v_size) v_to.toInt) (tke (tpe f_tape v_size) v_size.toInt (sk (tpe f_tape v_size) v_to.toInt)) v_leaks.toInt (orb f_step f_stepA (250 * v_traits.toInt.toNat) v_length.toInt.toNat)) := ⟨iv_147, iv_148, iv_160, i_v_open, by omega, tk_150, prg_push hwp (by omega) (by omega) es_162 eA_163 (by omega), (by rw [pwin, ← ad_9.2, ← ad_9.1, nm_ok nm_21 (by omega), ptak_ok (tw_37.mp dc_38), ← ad_52.2, ← ad_52.1, nm_ok nm_64 (by omega), ptak_ok (tw_80.mp dc_81), ← ad_95.2, ← ad_95.1, nm_le nm_107 (by omega) (by omega), if_pos (tw_129.mp dc_130), ← ad_151.2, ← ad_151.1]; exact rs_inr (by omega) (by omega) (by omega) (by omega) (orb_0 (by first | omega | decide) es_162 eA_163 (by omega)))⟩
                      exact W.vret hx hb hr (fun t ht hW => ⟨⟨(w_145, w_146, w_102, w_155, v_open, 1, w_156, w_157, w_158, w_159), rfl, hpost, by rw [ht]; exact hP9, hD9⟩, hS.F ht⟩) hS.2.2 dX9_window_152
                  · have dc_123 : r_119.toInt = 0 := jI_eq c_123 rfl (by decide)
                    replace po_122 := gd_n po_122 dc_123
                    exfalso; omega
                · have dc_118 : r_54.toInt < r_97.toInt := jI_nle c_118 rfl rfl
                  refine lv_aload_n hx hb dX9_window_110 rfl (lv_at hl 4 rfl) ?_
                  refine lv_iload hx hb dX9_window_111 (lv_at hl 1 rfl) ?_
                  refine va_put (D := (dC, dI)) (ci := 9) (v := .int w_89) (ty := .int) (C := RX9) (T := TX9) (N := 51) hx hb hts hIX9 tyX9 tyX9_ok nmX9 hown hK hP hD hS 5 rfl rfl 19 (by decide) (hts (.fieldLink RX9 184 "TraitHouseModel" "readFault" "I") (by decide +kernel)) (fun _ h9 => h9) rfl (by decide +kernel) rfl rfl (Nat.le_of_ble_eq_true rfl) dX9_window_113 (fun H locs hP hD hS => ?_)
                  replace hP : va_P (dC, dI) vwCl [((am 13), .inl (cA 0, 5000, .inl f_step)), ((am 14), .inl (cA 0, 5000, .inl f_stepA)), ((am 15), .inl (cA 0, 5000, .inl f_stepB)), ((am 16), .inl (cA 0, 5000, .inl f_stepC)), ((am 10), .inl (cA 3, 200, .inl f_tape)), ((am 0), .inr (9, F9 am v_status v_now v_told v_merges v_taped v_size w_100 w_101 v_fault w_89 v_traits v_length v_open v_leaks v_places v_models))] H := hP
                  replace hD : va_D A [((am 13), .inl (cA 0, 5000, .inl f_step)), ((am 14), .inl (cA 0, 5000, .inl f_stepA)), ((am 15), .inl (cA 0, 5000, .inl f_stepB)), ((am 16), .inl (cA 0, 5000, .inl f_stepC)), ((am 10), .inl (cA 3, 200, .inl f_tape)), ((am 0), .inr (9, F9 am v_status v_now v_told v_merges v_taped v_size w_100 w_101 v_fault w_89 v_traits v_length v_open v_leaks v_places v_models))] := hD
                  refine lv_aload_n hx hb dX9_window_116 rfl (lv_at hl 4 rfl) ?_
                  obtain ⟨hPc, hDc, hFc, hCc⟩ := va_pre (ws' := [((am 0), .inr (9, F9 am v_status v_now v_told v_merges v_taped v_size w_100 w_101 v_fault w_89 v_traits v_length v_open v_leaks v_places v_models))]) hP hD hS hA [5] (by decide) rfl
                  refine va_calli (va_runV (As := []) (rest := []) ⟨hx, hb, hml, hown, hts⟩ (k_X9_good l dC dI cA H.size am v_status v_now v_told v_merges v_taped v_size w_100 w_101 v_fault w_89 v_traits v_length v_open v_leaks v_places v_models i_v_now i_v_told i_v_taped i_v_size iv_103 iv_104 i_v_traits i_v_length i_v_open i_v_places i_v_models) (cwV 0 hts gX9_window_X9_good rfl rfl rfl (by decide +kernel) ⟨Nat.le_of_ble_eq_true rfl, Nat.le_of_ble_eq_true rfl⟩) ⟨fun a U g mk q => by obtain ⟨q0, q1, qP, qK, qD, qN⟩ := q; exact ⟨q0, q1, qP, va_K.moved (u := U) (U := U.calling g mk a) (Vm.Alike.refl U.vm) qK, qD, qN.same rfl⟩, va_recv hK hPc (ci := 9) (q0 := 0) rfl rfl, fun U hU hW => ⟨rfl, by rw [hU], by rw [hU]; exact hPc, va_K.moved hW.alike hK, hDc.weaken (fun _ _ _ _ => trivial), hN.warm hW⟩⟩ rfl rfl hl.1 rfl (lv_room (Nat.le_of_ble_eq_true rfl)) dX9_window_117 ⟨Nat.le_of_ble_eq_true rfl, Nat.le_of_ble_eq_true rfl⟩) hS (fun q _ h => hFc q h) hFc (fun r_165 u_166 t H1 locs ht hvm hw_167 hB hz1 hk1 hS => ?_)
                  try dsimp only at hw_167 hB
                  have po_168 := hw_167
                  clear hw_167
                  obtain ⟨hP1, hD1⟩ := hB
                  rw [ht] at hP1
                  obtain ⟨hP, hD⟩ := va_join (wr := [((am 13), .inl (cA 0, 5000, .inl f_step)), ((am 14), .inl (cA 0, 5000, .inl f_stepA)), ((am 15), .inl (cA 0, 5000, .inl f_stepB)), ((am 16), .inl (cA 0, 5000, .inl f_stepC)), ((am 10), .inl (cA 3, 200, .inl f_tape))]) (w1 := [((am 0), .inr (9, F9 am v_status v_now v_told v_merges v_taped v_size w_100 w_101 v_fault w_89 v_traits v_length v_open v_leaks v_places v_models))]) hP hD [5] [0, 1, 2, 3, 4] hCc rfl (by decide) (by decide) hk1 hFc hP1 hD1
                  clear hz1
                  generalize H1 = H at hP hS ⊢
                  refine lv_if_ne (tgt := 124) hx hb dX9_window_120 (by decide) (fun c_169 => ?_) (fun c_169 => ?_)
                  · have dc_169 : ¬ r_165.toInt = 0 := jI_ne c_169 rfl (by decide)
                    replace po_168 := gd_y po_168 dc_169
                    exfalso; omega
                  · have dc_169 : r_165.toInt = 0 := jI_eq c_169 rfl (by decide)
                    replace po_168 := gd_n po_168 dc_169
                    obtain ⟨hP9, hD9⟩ := va_pd (ws' := [((am 0), .inr (9, F9 am v_status v_now v_told v_merges v_taped v_size w_100 w_101 v_fault w_89 v_traits v_length v_open v_leaks v_places v_models)), ((am 10), .inl (cA 3, 200, .inl f_tape)), ((am 13), .inl (cA 0, 5000, .inl f_step)), ((am 14), .inl (cA 0, 5000, .inl f_stepA)), ((am 15), .inl (cA 0, 5000, .inl f_stepB)), ((am 16), .inl (cA 0, 5000, .inl f_stepC))]) hP hD [5, 4, 0, 1, 2, 3] (by decide) rfl
                    subst hQe
                    have hpost : (0 ≤ w_100.toInt ∧ w_100.toInt ≤ 200) ∧ (0 ≤ w_101.toInt ∧ w_101.toInt ≤ 200) ∧ (0 ≤ v_length.toInt ∧ v_length.toInt ≤ 200) ∧ (0 ≤ v_open.toInt ∧ v_open.toInt ≤ 8) ∧ (v_from.toInt ≤ w_100.toInt ∧ w_100.toInt ≤ w_101.toInt ∧ w_101.toInt ≤ v_size.toInt ∧ (w_100.toInt < v_size.toInt → w_100.toInt < w_101.toInt) ∧ v_length.toInt - v_length.toInt ≤ w_100.toInt - v_from.toInt ∧ v_length.toInt ≤ v_length.toInt ∧ (w_89.toInt = (-1) → v_open.toInt = v_open.toInt)) ∧ (tokOK f_tape w_100 w_101 v_size) ∧ (prg f_step f_stepA f_step f_stepA (250 * v_traits.toInt.toNat) v_length.toInt.toNat v_length.toInt.toNat (w_89.toInt = (-1))) ∧ (rs w_89 w_100 w_101 v_leaks (orb f_step f_stepA (250 * v_traits.toInt.toNat) v_length.toInt.toNat) = pwin (tpe f_tape v_size) v_size.toInt (sk (tpe f_tape v_size) v_to.toInt) (tke (tpe f_tape v_size) v_size.toInt (sk (tpe f_tape v_size) v_to.toInt)) v_leaks.toInt (orb f_step f_stepA (250 * v_traits.toInt.toNat) v_length.toInt.toNat)) := ⟨iv_103, iv_104, i_v_length, i_v_open, by omega, tk_106, prg_rf hwp (by omega), (by rw [pwin, ← ad_9.2, ← ad_9.1, nm_ok nm_21 (by omega), ptak_ok (tw_37.mp dc_38), ← ad_52.2, ← ad_52.1, nm_ok nm_64 (by omega), ptak_ok (tw_80.mp dc_81), ← ad_95.2, ← ad_95.1, nm_gt nm_107 (by omega) (by omega)]; exact rs_inl (by omega) (by omega))⟩
                    exact W.vret hx hb hr (fun t ht hW => ⟨⟨(w_100, w_101, w_89, v_length, v_open, v_leaks, f_step, f_stepA, f_stepB, f_stepC), rfl, hpost, by rw [ht]; exact hP9, hD9⟩, hS.F ht⟩) hS.2.2 dX9_window_123
            · have dc_86 : r_82.toInt = 0 := jI_eq c_86 rfl (by decide)
              replace po_85 := gd_n po_85 dc_86
              exfalso; omega
          · have dc_81 : r_76.toInt = 0 := jI_eq c_81 rfl (by decide)
            replace po_79 := sg_n po_79
            refine lv_aload_n hx hb dX9_window_67 rfl (lv_at hl 2 rfl) ?_
            obtain ⟨hPc, hDc, hFc, hCc⟩ := va_pre (ws' := [((am 0), .inr (9, F9 am v_status v_now v_told v_merges v_taped v_size w_57 w_58 v_fault w_59 v_traits v_length v_open v_leaks v_places v_models))]) hP hD hS hA [4] (by decide) rfl
            refine va_callv (va_runV (As := []) (rest := []) ⟨hx, hb, hml, hown, hts⟩ (k_X9_faults l dC dI cA H.size am v_status v_now v_told v_merges v_taped v_size w_57 w_58 v_fault w_59 v_traits v_length v_open v_leaks v_places v_models i_v_now i_v_told i_v_taped i_v_size iv_60 iv_61 i_v_traits i_v_length i_v_open i_v_places i_v_models (by omega)) (cwV 0 hts gX9_window_X9_faults rfl rfl rfl (by decide +kernel) ⟨Nat.le_of_ble_eq_true rfl, Nat.le_of_ble_eq_true rfl⟩) ⟨fun a U g mk q => by obtain ⟨q0, q1, qP, qK, qD, qN⟩ := q; exact ⟨q0, q1, qP, va_K.moved (u := U) (U := U.calling g mk a) (Vm.Alike.refl U.vm) qK, qD, qN.same rfl⟩, va_recv hK hPc (ci := 9) (q0 := 0) rfl rfl, fun U hU hW => ⟨rfl, by rw [hU], by rw [hU]; exact hPc, va_K.moved hW.alike hK, hDc.weaken (fun _ _ _ _ => trivial), hN.warm hW⟩⟩ rfl rfl hl.1 rfl (lv_room (Nat.le_of_ble_eq_true rfl)) dX9_window_68 ⟨Nat.le_of_ble_eq_true rfl, Nat.le_of_ble_eq_true rfl⟩) hS (fun q _ h => hFc q h) hFc (fun u_170 t H1 locs ht hvm hw_171 hB hz1 hk1 hS => ?_)
            obtain ⟨w_172, rfl⟩ : ∃ z, z = u_170 := ⟨_, rfl⟩
            try dsimp only at hw_171 hB
            have po_173 := hw_171
            clear hw_171
            obtain ⟨hP1, hD1⟩ := hB
            rw [ht] at hP1
            obtain ⟨hP, hD⟩ := va_join (wr := [((am 13), .inl (cA 0, 5000, .inl f_step)), ((am 14), .inl (cA 0, 5000, .inl f_stepA)), ((am 15), .inl (cA 0, 5000, .inl f_stepB)), ((am 16), .inl (cA 0, 5000, .inl f_stepC)), ((am 10), .inl (cA 3, 200, .inl f_tape))]) (w1 := [((am 0), .inr (9, F9 am v_status v_now v_told v_merges v_taped v_size w_57 w_58 v_fault w_172 v_traits v_length v_open v_leaks v_places v_models))]) hP hD [4] [0, 1, 2, 3, 5] hCc rfl (by decide) (by decide) hk1 hFc hP1 hD1
            clear hz1
            generalize H1 = H at hP hS ⊢
            refine lv_aload_n hx hb dX9_window_71 rfl (lv_at hl 2 rfl) ?_
            obtain ⟨hPc, hDc, hFc, hCc⟩ := va_pre (ws' := [((am 0), .inr (9, F9 am v_status v_now v_told v_merges v_taped v_size w_57 w_58 v_fault w_172 v_traits v_length v_open v_leaks v_places v_models))]) hP hD hS hA [5] (by decide) rfl
            refine va_calli (va_runV (As := []) (rest := []) ⟨hx, hb, hml, hown, hts⟩ (k_X9_good l dC dI cA H.size am v_status v_now v_told v_merges v_taped v_size w_57 w_58 v_fault w_172 v_traits v_length v_open v_leaks v_places v_models i_v_now i_v_told i_v_taped i_v_size iv_60 iv_61 i_v_traits i_v_length i_v_open i_v_places i_v_models) (cwV 0 hts gX9_window_X9_good rfl rfl rfl (by decide +kernel) ⟨Nat.le_of_ble_eq_true rfl, Nat.le_of_ble_eq_true rfl⟩) ⟨fun a U g mk q => by obtain ⟨q0, q1, qP, qK, qD, qN⟩ := q; exact ⟨q0, q1, qP, va_K.moved (u := U) (U := U.calling g mk a) (Vm.Alike.refl U.vm) qK, qD, qN.same rfl⟩, va_recv hK hPc (ci := 9) (q0 := 0) rfl rfl, fun U hU hW => ⟨rfl, by rw [hU], by rw [hU]; exact hPc, va_K.moved hW.alike hK, hDc.weaken (fun _ _ _ _ => trivial), hN.warm hW⟩⟩ rfl rfl hl.1 rfl (lv_room (Nat.le_of_ble_eq_true rfl)) dX9_window_72 ⟨Nat.le_of_ble_eq_true rfl, Nat.le_of_ble_eq_true rfl⟩) hS (fun q _ h => hFc q h) hFc (fun r_174 u_175 t H1 locs ht hvm hw_176 hB hz1 hk1 hS => ?_)
            try dsimp only at hw_176 hB
            have po_177 := hw_176
            clear hw_176
            obtain ⟨hP1, hD1⟩ := hB
            rw [ht] at hP1
            obtain ⟨hP, hD⟩ := va_join (wr := [((am 13), .inl (cA 0, 5000, .inl f_step)), ((am 14), .inl (cA 0, 5000, .inl f_stepA)), ((am 15), .inl (cA 0, 5000, .inl f_stepB)), ((am 16), .inl (cA 0, 5000, .inl f_stepC)), ((am 10), .inl (cA 3, 200, .inl f_tape))]) (w1 := [((am 0), .inr (9, F9 am v_status v_now v_told v_merges v_taped v_size w_57 w_58 v_fault w_172 v_traits v_length v_open v_leaks v_places v_models))]) hP hD [5] [0, 1, 2, 3, 4] hCc rfl (by decide) (by decide) hk1 hFc hP1 hD1
            clear hz1
            generalize H1 = H at hP hS ⊢
            refine lv_if_ne (tgt := 79) hx hb dX9_window_75 (by decide) (fun c_178 => ?_) (fun c_178 => ?_)
            · have dc_178 : ¬ r_174.toInt = 0 := jI_ne c_178 rfl (by decide)
              replace po_177 := gd_y po_177 dc_178
              exfalso; omega
            · have dc_178 : r_174.toInt = 0 := jI_eq c_178 rfl (by decide)
              replace po_177 := gd_n po_177 dc_178
              obtain ⟨hP9, hD9⟩ := va_pd (ws' := [((am 0), .inr (9, F9 am v_status v_now v_told v_merges v_taped v_size w_57 w_58 v_fault w_172 v_traits v_length v_open v_leaks v_places v_models)), ((am 10), .inl (cA 3, 200, .inl f_tape)), ((am 13), .inl (cA 0, 5000, .inl f_step)), ((am 14), .inl (cA 0, 5000, .inl f_stepA)), ((am 15), .inl (cA 0, 5000, .inl f_stepB)), ((am 16), .inl (cA 0, 5000, .inl f_stepC))]) hP hD [5, 4, 0, 1, 2, 3] (by decide) rfl
              subst hQe
              have hpost : (0 ≤ w_57.toInt ∧ w_57.toInt ≤ 200) ∧ (0 ≤ w_58.toInt ∧ w_58.toInt ≤ 200) ∧ (0 ≤ v_length.toInt ∧ v_length.toInt ≤ 200) ∧ (0 ≤ v_open.toInt ∧ v_open.toInt ≤ 8) ∧ (v_from.toInt ≤ w_57.toInt ∧ w_57.toInt ≤ w_58.toInt ∧ w_58.toInt ≤ v_size.toInt ∧ (w_57.toInt < v_size.toInt → w_57.toInt < w_58.toInt) ∧ v_length.toInt - v_length.toInt ≤ w_57.toInt - v_from.toInt ∧ v_length.toInt ≤ v_length.toInt ∧ (w_172.toInt = (-1) → v_open.toInt = v_open.toInt)) ∧ (tokOK f_tape w_57 w_58 v_size) ∧ (prg f_step f_stepA f_step f_stepA (250 * v_traits.toInt.toNat) v_length.toInt.toNat v_length.toInt.toNat (w_172.toInt = (-1))) ∧ (rs w_172 w_57 w_58 v_leaks (orb f_step f_stepA (250 * v_traits.toInt.toNat) v_length.toInt.toNat) = pwin (tpe f_tape v_size) v_size.toInt (sk (tpe f_tape v_size) v_to.toInt) (tke (tpe f_tape v_size) v_size.toInt (sk (tpe f_tape v_size) v_to.toInt)) v_leaks.toInt (orb f_step f_stepA (250 * v_traits.toInt.toNat) v_length.toInt.toNat)) := ⟨iv_60, iv_61, i_v_length, i_v_open, by omega, tk_63, prg_rf hwp (by omega), (by rw [pwin, ← ad_9.2, ← ad_9.1, nm_ok nm_21 (by omega), ptak_ok (tw_37.mp dc_38), ← ad_52.2, ← ad_52.1, nm_ok nm_64 (by omega), ptak_no (fun h => absurd (tw_80.mpr h) (fun q => q dc_81))]; exact rs_inl (by omega) (by omega))⟩
              exact W.vret hx hb hr (fun t ht hW => ⟨⟨(w_57, w_58, w_172, v_length, v_open, v_leaks, f_step, f_stepA, f_stepB, f_stepC), rfl, hpost, by rw [ht]; exact hP9, hD9⟩, hS.F ht⟩) hS.2.2 dX9_window_78
      · have dc_43 : r_39.toInt = 0 := jI_eq c_43 rfl (by decide)
        replace po_42 := gd_n po_42 dc_43
        exfalso; omega
    · have dc_38 : r_33.toInt = 0 := jI_eq c_38 rfl (by decide)
      replace po_36 := sg_n po_36
      refine lv_aload_n hx hb dX9_window_27 rfl (lv_at hl 1 rfl) ?_
      obtain ⟨hPc, hDc, hFc, hCc⟩ := va_pre (ws' := [((am 0), .inr (9, F9 am v_status v_now v_told v_merges v_taped v_size w_14 w_15 v_fault w_16 v_traits v_length v_open v_leaks v_places v_models))]) hP hD hS hA [4] (by decide) rfl
      refine va_callv (va_runV (As := []) (rest := []) ⟨hx, hb, hml, hown, hts⟩ (k_X9_faults l dC dI cA H.size am v_status v_now v_told v_merges v_taped v_size w_14 w_15 v_fault w_16 v_traits v_length v_open v_leaks v_places v_models i_v_now i_v_told i_v_taped i_v_size iv_17 iv_18 i_v_traits i_v_length i_v_open i_v_places i_v_models (by omega)) (cwV 0 hts gX9_window_X9_faults rfl rfl rfl (by decide +kernel) ⟨Nat.le_of_ble_eq_true rfl, Nat.le_of_ble_eq_true rfl⟩) ⟨fun a U g mk q => by obtain ⟨q0, q1, qP, qK, qD, qN⟩ := q; exact ⟨q0, q1, qP, va_K.moved (u := U) (U := U.calling g mk a) (Vm.Alike.refl U.vm) qK, qD, qN.same rfl⟩, va_recv hK hPc (ci := 9) (q0 := 0) rfl rfl, fun U hU hW => ⟨rfl, by rw [hU], by rw [hU]; exact hPc, va_K.moved hW.alike hK, hDc.weaken (fun _ _ _ _ => trivial), hN.warm hW⟩⟩ rfl rfl hl.1 rfl (lv_room (Nat.le_of_ble_eq_true rfl)) dX9_window_28 ⟨Nat.le_of_ble_eq_true rfl, Nat.le_of_ble_eq_true rfl⟩) hS (fun q _ h => hFc q h) hFc (fun u_179 t H1 locs ht hvm hw_180 hB hz1 hk1 hS => ?_)
      obtain ⟨w_181, rfl⟩ : ∃ z, z = u_179 := ⟨_, rfl⟩
      try dsimp only at hw_180 hB
      have po_182 := hw_180
      clear hw_180
      obtain ⟨hP1, hD1⟩ := hB
      rw [ht] at hP1
      obtain ⟨hP, hD⟩ := va_join (wr := [((am 13), .inl (cA 0, 5000, .inl f_step)), ((am 14), .inl (cA 0, 5000, .inl f_stepA)), ((am 15), .inl (cA 0, 5000, .inl f_stepB)), ((am 16), .inl (cA 0, 5000, .inl f_stepC)), ((am 10), .inl (cA 3, 200, .inl f_tape))]) (w1 := [((am 0), .inr (9, F9 am v_status v_now v_told v_merges v_taped v_size w_14 w_15 v_fault w_181 v_traits v_length v_open v_leaks v_places v_models))]) hP hD [4] [0, 1, 2, 3, 5] hCc rfl (by decide) (by decide) hk1 hFc hP1 hD1
      clear hz1
      generalize H1 = H at hP hS ⊢
      refine lv_aload_n hx hb dX9_window_31 rfl (lv_at hl 1 rfl) ?_
      obtain ⟨hPc, hDc, hFc, hCc⟩ := va_pre (ws' := [((am 0), .inr (9, F9 am v_status v_now v_told v_merges v_taped v_size w_14 w_15 v_fault w_181 v_traits v_length v_open v_leaks v_places v_models))]) hP hD hS hA [5] (by decide) rfl
      refine va_calli (va_runV (As := []) (rest := []) ⟨hx, hb, hml, hown, hts⟩ (k_X9_good l dC dI cA H.size am v_status v_now v_told v_merges v_taped v_size w_14 w_15 v_fault w_181 v_traits v_length v_open v_leaks v_places v_models i_v_now i_v_told i_v_taped i_v_size iv_17 iv_18 i_v_traits i_v_length i_v_open i_v_places i_v_models) (cwV 0 hts gX9_window_X9_good rfl rfl rfl (by decide +kernel) ⟨Nat.le_of_ble_eq_true rfl, Nat.le_of_ble_eq_true rfl⟩) ⟨fun a U g mk q => by obtain ⟨q0, q1, qP, qK, qD, qN⟩ := q; exact ⟨q0, q1, qP, va_K.moved (u := U) (U := U.calling g mk a) (Vm.Alike.refl U.vm) qK, qD, qN.same rfl⟩, va_recv hK hPc (ci := 9) (q0 := 0) rfl rfl, fun U hU hW => ⟨rfl, by rw [hU], by rw [hU]; exact hPc, va_K.moved hW.alike hK, hDc.weaken (fun _ _ _ _ => trivial), hN.warm hW⟩⟩ rfl rfl hl.1 rfl (lv_room (Nat.le_of_ble_eq_true rfl)) dX9_window_32 ⟨Nat.le_of_ble_eq_true rfl, Nat.le_of_ble_eq_true rfl⟩) hS (fun q _ h => hFc q h) hFc (fun r_183 u_184 t H1 locs ht hvm hw_185 hB hz1 hk1 hS => ?_)
      try dsimp only at hw_185 hB
      have po_186 := hw_185
      clear hw_185
      obtain ⟨hP1, hD1⟩ := hB
      rw [ht] at hP1
      obtain ⟨hP, hD⟩ := va_join (wr := [((am 13), .inl (cA 0, 5000, .inl f_step)), ((am 14), .inl (cA 0, 5000, .inl f_stepA)), ((am 15), .inl (cA 0, 5000, .inl f_stepB)), ((am 16), .inl (cA 0, 5000, .inl f_stepC)), ((am 10), .inl (cA 3, 200, .inl f_tape))]) (w1 := [((am 0), .inr (9, F9 am v_status v_now v_told v_merges v_taped v_size w_14 w_15 v_fault w_181 v_traits v_length v_open v_leaks v_places v_models))]) hP hD [5] [0, 1, 2, 3, 4] hCc rfl (by decide) (by decide) hk1 hFc hP1 hD1
      clear hz1
      generalize H1 = H at hP hS ⊢
      refine lv_if_ne (tgt := 39) hx hb dX9_window_35 (by decide) (fun c_187 => ?_) (fun c_187 => ?_)
      · have dc_187 : ¬ r_183.toInt = 0 := jI_ne c_187 rfl (by decide)
        replace po_186 := gd_y po_186 dc_187
        exfalso; omega
      · have dc_187 : r_183.toInt = 0 := jI_eq c_187 rfl (by decide)
        replace po_186 := gd_n po_186 dc_187
        obtain ⟨hP9, hD9⟩ := va_pd (ws' := [((am 0), .inr (9, F9 am v_status v_now v_told v_merges v_taped v_size w_14 w_15 v_fault w_181 v_traits v_length v_open v_leaks v_places v_models)), ((am 10), .inl (cA 3, 200, .inl f_tape)), ((am 13), .inl (cA 0, 5000, .inl f_step)), ((am 14), .inl (cA 0, 5000, .inl f_stepA)), ((am 15), .inl (cA 0, 5000, .inl f_stepB)), ((am 16), .inl (cA 0, 5000, .inl f_stepC))]) hP hD [5, 4, 0, 1, 2, 3] (by decide) rfl
        subst hQe
        have hpost : (0 ≤ w_14.toInt ∧ w_14.toInt ≤ 200) ∧ (0 ≤ w_15.toInt ∧ w_15.toInt ≤ 200) ∧ (0 ≤ v_length.toInt ∧ v_length.toInt ≤ 200) ∧ (0 ≤ v_open.toInt ∧ v_open.toInt ≤ 8) ∧ (v_from.toInt ≤ w_14.toInt ∧ w_14.toInt ≤ w_15.toInt ∧ w_15.toInt ≤ v_size.toInt ∧ (w_14.toInt < v_size.toInt → w_14.toInt < w_15.toInt) ∧ v_length.toInt - v_length.toInt ≤ w_14.toInt - v_from.toInt ∧ v_length.toInt ≤ v_length.toInt ∧ (w_181.toInt = (-1) → v_open.toInt = v_open.toInt)) ∧ (tokOK f_tape w_14 w_15 v_size) ∧ (prg f_step f_stepA f_step f_stepA (250 * v_traits.toInt.toNat) v_length.toInt.toNat v_length.toInt.toNat (w_181.toInt = (-1))) ∧ (rs w_181 w_14 w_15 v_leaks (orb f_step f_stepA (250 * v_traits.toInt.toNat) v_length.toInt.toNat) = pwin (tpe f_tape v_size) v_size.toInt (sk (tpe f_tape v_size) v_to.toInt) (tke (tpe f_tape v_size) v_size.toInt (sk (tpe f_tape v_size) v_to.toInt)) v_leaks.toInt (orb f_step f_stepA (250 * v_traits.toInt.toNat) v_length.toInt.toNat)) := ⟨iv_17, iv_18, i_v_length, i_v_open, by omega, tk_20, prg_rf hwp (by omega), (by rw [pwin, ← ad_9.2, ← ad_9.1, nm_ok nm_21 (by omega), ptak_no (fun h => absurd (tw_37.mpr h) (fun q => q dc_38))]; exact rs_inl (by omega) (by omega))⟩
        exact W.vret hx hb hr (fun t ht hW => ⟨⟨(w_14, w_15, w_181, v_length, v_open, v_leaks, f_step, f_stepA, f_stepB, f_stepC), rfl, hpost, by rw [ht]; exact hP9, hD9⟩, hS.F ht⟩) hS.2.2 dX9_window_38

def SumC (l : Launch) (dC : Nat → ClassId) (dI : Nat → Nat → Nat) (cA : Nat → ClassId) (rl FR LO : Nat) : Prop := ∀ (sz : Nat) (am : Nat → Nat) (v_status : Int32) (v_now : Int32) (v_told : Int32) (v_merges : Int32) (v_taped : Int32) (v_size : Int32) (v_from : Int32) (v_to : Int32) (v_fault : Int32) (v_readFault : Int32) (v_traits : Int32) (v_length : Int32) (v_open : Int32) (v_leaks : Int32) (v_places : Int32) (v_models : Int32) (f_tape : Nat → Int32) (f_step : Nat → Int32) (f_stepA : Nat → Int32) (f_stepB : Nat → Int32) (f_stepC : Nat → Int32) (i_v_now : 0 ≤ v_now.toInt ∧ v_now.toInt ≤ 100000) (i_v_told : 0 ≤ v_told.toInt ∧ v_told.toInt ≤ 400) (i_v_taped : 0 ≤ v_taped.toInt ∧ v_taped.toInt ≤ 200) (i_v_size : 0 ≤ v_size.toInt ∧ v_size.toInt ≤ 200) (i_v_from : 0 ≤ v_from.toInt ∧ v_from.toInt ≤ 200) (i_v_to : 0 ≤ v_to.toInt ∧ v_to.toInt ≤ 200) (i_v_traits : 0 ≤ v_traits.toInt ∧ v_traits.toInt ≤ 20) (i_v_length : 0 ≤ v_length.toInt ∧ v_length.toInt ≤ 200) (i_v_open : 0 ≤ v_open.toInt ∧ v_open.toInt ≤ 8) (i_v_places : 0 ≤ v_places.toInt ∧ v_places.toInt ≤ 2000) (i_v_models : 0 ≤ v_models.toInt ∧ v_models.toInt ≤ 10) (htr : v_traits.toInt ≤ 19) (hfr : v_from.toInt ≤ v_to.toInt ∧ v_to.toInt ≤ v_size.toInt ∧ (v_from.toInt < v_size.toInt → v_from.toInt < v_to.toInt)) (htk : tokOK f_tape v_from v_to v_size) (hfl : v_length.toInt ≤ v_from.toInt) (hgd : v_readFault.toInt = (-1)) (hwp : wfp f_step f_stepA (250 * v_traits.toInt.toNat) v_length.toInt.toNat) (hop : 8 - v_open.toInt ≤ (rl : Int)), Met l yX9_sum wsX9_sum ({ frames := FR, cells := 0, slots := 0, locals := LO }) (va_Pc [.ref (am 0)] (fun U => U.heap.size = sz ∧ va_P (dC, dI) vwCl [((am 0), .inr (9, F9 am v_status v_now v_told v_merges v_taped v_size v_from v_to v_fault v_readFault v_traits v_length v_open v_leaks v_places v_models)), ((am 10), .inl (cA 3, 200, .inl f_tape)), ((am 13), .inl (cA 0, 5000, .inl f_step)), ((am 14), .inl (cA 0, 5000, .inl f_stepA)), ((am 15), .inl (cA 0, 5000, .inl f_stepB)), ((am 16), .inl (cA 0, 5000, .inl f_stepC))] U.heap ∧ va_K (dC, dI) vwCl (tyL cA) U ∧ va_D (fun _ => True) [((am 0), .inr (9, F9 am v_status v_now v_told v_merges v_taped v_size v_from v_to v_fault v_readFault v_traits v_length v_open v_leaks v_places v_models)), ((am 10), .inl (cA 3, 200, .inl f_tape)), ((am 13), .inl (cA 0, 5000, .inl f_step)), ((am 14), .inl (cA 0, 5000, .inl f_stepA)), ((am 15), .inl (cA 0, 5000, .inl f_stepB)), ((am 16), .inl (cA 0, 5000, .inl f_stepC))] ∧ nw_ok U)) (va_Qv (fun (u : Int32 × Int32 × Int32 × Int32 × Int32 × Int32 × (Nat → Int32) × (Nat → Int32) × (Nat → Int32) × (Nat → Int32)) => (0 ≤ u.1.toInt ∧ u.1.toInt ≤ 200) ∧ (0 ≤ u.2.1.toInt ∧ u.2.1.toInt ≤ 200) ∧ (0 ≤ u.2.2.2.1.toInt ∧ u.2.2.2.1.toInt ≤ 200) ∧ (0 ≤ u.2.2.2.2.1.toInt ∧ u.2.2.2.2.1.toInt ≤ 8) ∧ (v_from.toInt ≤ u.1.toInt ∧ u.1.toInt ≤ u.2.1.toInt ∧ u.2.1.toInt ≤ v_size.toInt ∧ (u.1.toInt < v_size.toInt → u.1.toInt < u.2.1.toInt) ∧ u.2.2.2.1.toInt - v_length.toInt ≤ u.1.toInt - v_from.toInt ∧ v_length.toInt ≤ u.2.2.2.1.toInt ∧ (u.2.2.1.toInt = (-1) → u.2.2.2.2.1.toInt = v_open.toInt)) ∧ (tokOK f_tape u.1 u.2.1 v_size) ∧ (prg f_step f_stepA u.2.2.2.2.2.2.1 u.2.2.2.2.2.2.2.1 (250 * v_traits.toInt.toNat) v_length.toInt.toNat u.2.2.2.1.toInt.toNat (u.2.2.1.toInt = (-1))) ∧ (rs u.2.2.1 u.1 u.2.1 u.2.2.2.2.2.1 (orb u.2.2.2.2.2.2.1 u.2.2.2.2.2.2.2.1 (250 * v_traits.toInt.toNat) u.2.2.2.1.toInt.toNat) = psum (tpe f_tape v_size) v_size.toInt v_traits.toInt (pB (tpe f_tape v_size) v_size.toInt v_traits.toInt (8 - v_open.toInt).toNat) v_from.toInt v_to.toInt v_leaks.toInt (orb f_step f_stepA (250 * v_traits.toInt.toNat) v_length.toInt.toNat))) (fun (u : Int32 × Int32 × Int32 × Int32 × Int32 × Int32 × (Nat → Int32) × (Nat → Int32) × (Nat → Int32) × (Nat → Int32)) (t : State) => va_P (dC, dI) vwCl [((am 0), .inr (9, F9 am v_status v_now v_told v_merges v_taped v_size u.1 u.2.1 v_fault u.2.2.1 v_traits u.2.2.2.1 u.2.2.2.2.1 u.2.2.2.2.2.1 v_places v_models)), ((am 10), .inl (cA 3, 200, .inl f_tape)), ((am 13), .inl (cA 0, 5000, .inl u.2.2.2.2.2.2.1)), ((am 14), .inl (cA 0, 5000, .inl u.2.2.2.2.2.2.2.1)), ((am 15), .inl (cA 0, 5000, .inl u.2.2.2.2.2.2.2.2.1)), ((am 16), .inl (cA 0, 5000, .inl u.2.2.2.2.2.2.2.2.2))] t.heap ∧ va_D (va_A [((am 0), .inr (9, F9 am v_status v_now v_told v_merges v_taped v_size v_from v_to v_fault v_readFault v_traits v_length v_open v_leaks v_places v_models)), ((am 10), .inl (cA 3, 200, .inl f_tape)), ((am 13), .inl (cA 0, 5000, .inl f_step)), ((am 14), .inl (cA 0, 5000, .inl f_stepA)), ((am 15), .inl (cA 0, 5000, .inl f_stepB)), ((am 16), .inl (cA 0, 5000, .inl f_stepC))] sz) [((am 0), .inr (9, F9 am v_status v_now v_told v_merges v_taped v_size u.1 u.2.1 v_fault u.2.2.1 v_traits u.2.2.2.1 u.2.2.2.2.1 u.2.2.2.2.2.1 v_places v_models)), ((am 10), .inl (cA 3, 200, .inl f_tape)), ((am 13), .inl (cA 0, 5000, .inl u.2.2.2.2.2.2.1)), ((am 14), .inl (cA 0, 5000, .inl u.2.2.2.2.2.2.2.1)), ((am 15), .inl (cA 0, 5000, .inl u.2.2.2.2.2.2.2.2.1)), ((am 16), .inl (cA 0, 5000, .inl u.2.2.2.2.2.2.2.2.2))]) (va_A [((am 0), .inr (9, F9 am v_status v_now v_told v_merges v_taped v_size v_from v_to v_fault v_readFault v_traits v_length v_open v_leaks v_places v_models)), ((am 10), .inl (cA 3, 200, .inl f_tape)), ((am 13), .inl (cA 0, 5000, .inl f_step)), ((am 14), .inl (cA 0, 5000, .inl f_stepA)), ((am 15), .inl (cA 0, 5000, .inl f_stepB)), ((am 16), .inl (cA 0, 5000, .inl f_stepC))] sz)) 0 0 (va_A [((am 0), .inr (9, F9 am v_status v_now v_told v_merges v_taped v_size v_from v_to v_fault v_readFault v_traits v_length v_open v_leaks v_places v_models)), ((am 10), .inl (cA 3, 200, .inl f_tape)), ((am 13), .inl (cA 0, 5000, .inl f_step)), ((am 14), .inl (cA 0, 5000, .inl f_stepA)), ((am 15), .inl (cA 0, 5000, .inl f_stepB)), ((am 16), .inl (cA 0, 5000, .inl f_stepC))] sz)
