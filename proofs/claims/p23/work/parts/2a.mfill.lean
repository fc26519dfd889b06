theorem dX9_fill_0 : decode cX9_fill 0 = .ok (.iload_n 2, 1) := by decide +kernel
theorem dX9_fill_1 : decode cX9_fill 1 = .ok (.i2l, 1) := by decide +kernel
theorem dX9_fill_2 : decode cX9_fill 2 = .ok (.lconst 0, 1) := by decide +kernel
theorem dX9_fill_3 : decode cX9_fill 3 = .ok (.iload_n 3, 1) := by decide +kernel
theorem dX9_fill_4 : decode cX9_fill 4 = .ok (.i2l, 1) := by decide +kernel
set_option maxRecDepth 20000 in
theorem ggX9_fill_X9_in : GoodIn wsX9_fill wsX9_in := goodIn_r _ [7] (by decide +kernel) (by decide +kernel)
set_option maxRecDepth 20000 in
theorem gX9_fill_X9_in : GoodIn wsX9_fill (va_wsS RX9 127 yX9_in wsX9_in) := goodIn_app (goodIn_of _ (by decide +kernel)) ggX9_fill_X9_in
theorem dX9_fill_5 : decode cX9_fill 5 = .ok (.invokestatic 127, 3) := by decide +kernel
theorem dX9_fill_8 : decode cX9_fill 8 = .ok (.ifCond .eq 28, 3) := by decide +kernel
theorem dX9_fill_36 : decode cX9_fill 36 = .ok (.aload_n 0, 1) := by decide +kernel
theorem dX9_fill_37 : decode cX9_fill 37 = .ok (.iconst (-1), 1) := by decide +kernel
set_option maxRecDepth 20000 in
theorem ggX9_fill_X9_ends : GoodIn wsX9_fill wsX9_ends := goodIn_r _ [11, 12, 80, 81, 82, 83, 84, 85, 86, 87, 88, 89, 90, 91, 92, 93, 94, 95, 96, 97, 98, 99, 100, 101, 102, 103, 104, 105, 106, 107, 108, 109, 110, 111, 112, 113, 114, 115, 116, 117, 118, 119, 120, 121, 122, 123, 124, 125, 126, 127, 128, 129, 130] (by decide +kernel) (by decide +kernel)
set_option maxRecDepth 20000 in
theorem gX9_fill_X9_ends : GoodIn wsX9_fill (wsV RX9 136 RX9 yX9_ends wsX9_ends) := goodIn_app (goodIn_of _ (by decide +kernel)) ggX9_fill_X9_ends
theorem dX9_fill_38 : decode cX9_fill 38 = .ok (.invokevirtual 136, 3) := by decide +kernel
theorem dX9_fill_41 : decode cX9_fill 41 = .ok (.ireturn, 1) := by decide +kernel
theorem dX9_fill_11 : decode cX9_fill 11 = .ok (.iload_n 3, 1) := by decide +kernel
theorem dX9_fill_12 : decode cX9_fill 12 = .ok (.aload_n 0, 1) := by decide +kernel
theorem dX9_fill_13 : decode cX9_fill 13 = .ok (.getfield 133, 3) := by decide +kernel
theorem dX9_fill_16 : decode cX9_fill 16 = .ok (.if_icmp .gt 20, 3) := by decide +kernel
theorem dX9_fill_19 : decode cX9_fill 19 = .ok (.iload 4, 2) := by decide +kernel
theorem dX9_fill_21 : decode cX9_fill 21 = .ok (.iconst 1, 1) := by decide +kernel
theorem dX9_fill_22 : decode cX9_fill 22 = .ok (.if_icmp .lt 14, 3) := by decide +kernel
theorem dX9_fill_25 : decode cX9_fill 25 = .ok (.iload_n 3, 1) := by decide +kernel
theorem dX9_fill_26 : decode cX9_fill 26 = .ok (.iload_n 2, 1) := by decide +kernel
theorem dX9_fill_27 : decode cX9_fill 27 = .ok (.isub, 1) := by decide +kernel
theorem dX9_fill_28 : decode cX9_fill 28 = .ok (.iload 4, 2) := by decide +kernel
theorem dX9_fill_30 : decode cX9_fill 30 = .ok (.idiv, 1) := by decide +kernel
theorem dX9_fill_31 : decode cX9_fill 31 = .ok (.bipush 40, 2) := by decide +kernel
theorem dX9_fill_33 : decode cX9_fill 33 = .ok (.if_icmp .lt 9, 3) := by decide +kernel
theorem dX9_fill_42 : decode cX9_fill 42 = .ok (.aload_n 0, 1) := by decide +kernel
theorem dX9_fill_43 : decode cX9_fill 43 = .ok (.iload_n 1, 1) := by decide +kernel
set_option maxRecDepth 20000 in
theorem ggX9_fill_X9_isTrait : GoodIn wsX9_fill wsX9_isTrait := goodIn_r _ [16, 17, 4, 5, 6, 7, 80, 81, 82, 83, 84, 85, 86, 87, 88, 89, 90, 91, 92, 93, 94, 95, 96, 97, 98, 99, 100, 101, 102, 103, 104, 105, 106, 107, 108, 109, 110, 111, 112, 113, 114, 115, 116, 117, 118, 119, 120, 121, 122, 123, 124, 125, 126, 127, 128, 129, 130] (by decide +kernel) (by decide +kernel)
set_option maxRecDepth 20000 in
theorem gX9_fill_X9_isTrait : GoodIn wsX9_fill (wsV RX9 297 RX9 yX9_isTrait wsX9_isTrait) := goodIn_app (goodIn_of _ (by decide +kernel)) ggX9_fill_X9_isTrait
theorem dX9_fill_44 : decode cX9_fill 44 = .ok (.invokevirtual 297, 3) := by decide +kernel
theorem dX9_fill_47 : decode cX9_fill 47 = .ok (.ifCond .ne 10, 3) := by decide +kernel
theorem dX9_fill_57 : decode cX9_fill 57 = .ok (.iload_n 3, 1) := by decide +kernel
theorem dX9_fill_58 : decode cX9_fill 58 = .ok (.iload_n 2, 1) := by decide +kernel
theorem dX9_fill_59 : decode cX9_fill 59 = .ok (.isub, 1) := by decide +kernel
theorem dX9_fill_60 : decode cX9_fill 60 = .ok (.iload 4, 2) := by decide +kernel
theorem dX9_fill_62 : decode cX9_fill 62 = .ok (.idiv, 1) := by decide +kernel
theorem dX9_fill_63 : decode cX9_fill 63 = .ok (.iconst 1, 1) := by decide +kernel
theorem dX9_fill_64 : decode cX9_fill 64 = .ok (.iadd, 1) := by decide +kernel
theorem dX9_fill_65 : decode cX9_fill 65 = .ok (.aload_n 0, 1) := by decide +kernel
set_option maxRecDepth 20000 in
theorem ggX9_fill_X9_living : GoodIn wsX9_fill wsX9_living := goodIn_r _ [21, 3, 80, 81, 82, 83, 84, 85, 86, 87, 88, 89, 90, 91, 92, 93, 94, 95, 96, 97, 98, 99, 100, 101, 102, 103, 104, 105, 106, 107, 108, 109, 110, 111, 112, 113, 114, 115, 116, 117, 118, 119, 120, 121, 122, 123, 124, 125, 126, 127, 128, 129, 130] (by decide +kernel) (by decide +kernel)
set_option maxRecDepth 20000 in
theorem gX9_fill_X9_living : GoodIn wsX9_fill (wsV RX9 315 RX9 yX9_living wsX9_living) := goodIn_app (goodIn_of _ (by decide +kernel)) ggX9_fill_X9_living
theorem dX9_fill_66 : decode cX9_fill 66 = .ok (.invokevirtual 315, 3) := by decide +kernel
theorem dX9_fill_69 : decode cX9_fill 69 = .ok (.imul, 1) := by decide +kernel
theorem dX9_fill_70 : decode cX9_fill 70 = .ok (.istore 5, 2) := by decide +kernel
theorem dX9_fill_72 : decode cX9_fill 72 = .ok (.aload_n 0, 1) := by decide +kernel
theorem dX9_fill_73 : decode cX9_fill 73 = .ok (.getfield 304, 3) := by decide +kernel
theorem dX9_fill_76 : decode cX9_fill 76 = .ok (.iload 5, 2) := by decide +kernel
theorem dX9_fill_78 : decode cX9_fill 78 = .ok (.iadd, 1) := by decide +kernel
theorem dX9_fill_79 : decode cX9_fill 79 = .ok (.sipush 2000, 3) := by decide +kernel
theorem dX9_fill_82 : decode cX9_fill 82 = .ok (.if_icmp .le 10, 3) := by decide +kernel
theorem dX9_fill_92 : decode cX9_fill 92 = .ok (.iconst 0, 1) := by decide +kernel
theorem dX9_fill_93 : decode cX9_fill 93 = .ok (.istore 6, 2) := by decide +kernel
theorem dX9_fill_95 : decode cX9_fill 95 = .ok (.iload 6, 2) := by decide +kernel
theorem dX9_fill_97 : decode cX9_fill 97 = .ok (.iload_n 3, 1) := by decide +kernel
theorem dX9_fill_98 : decode cX9_fill 98 = .ok (.iload_n 2, 1) := by decide +kernel
theorem dX9_fill_99 : decode cX9_fill 99 = .ok (.isub, 1) := by decide +kernel
theorem dX9_fill_100 : decode cX9_fill 100 = .ok (.iload 4, 2) := by decide +kernel
theorem dX9_fill_102 : decode cX9_fill 102 = .ok (.idiv, 1) := by decide +kernel
theorem dX9_fill_103 : decode cX9_fill 103 = .ok (.if_icmp .gt 71, 3) := by decide +kernel
theorem dX9_fill_174 : decode cX9_fill 174 = .ok (.aload_n 0, 1) := by decide +kernel
theorem dX9_fill_175 : decode cX9_fill 175 = .ok (.iload 5, 2) := by decide +kernel
theorem dX9_fill_177 : decode cX9_fill 177 = .ok (.invokevirtual 136, 3) := by decide +kernel
theorem dX9_fill_180 : decode cX9_fill 180 = .ok (.ireturn, 1) := by decide +kernel
theorem dX9_fill_106 : decode cX9_fill 106 = .ok (.iconst 0, 1) := by decide +kernel
theorem dX9_fill_107 : decode cX9_fill 107 = .ok (.istore 7, 2) := by decide +kernel
theorem dX9_fill_109 : decode cX9_fill 109 = .ok (.iload 7, 2) := by decide +kernel
theorem dX9_fill_111 : decode cX9_fill 111 = .ok (.bipush 20, 2) := by decide +kernel
theorem dX9_fill_113 : decode cX9_fill 113 = .ok (.if_icmp .ge 55, 3) := by decide +kernel
theorem dX9_fill_168 : decode cX9_fill 168 = .ok (.iinc 6 1, 3) := by decide +kernel
theorem dX9_fill_171 : decode cX9_fill 171 = .ok (.goto (-76), 3) := by decide +kernel
theorem dX9_fill_116 : decode cX9_fill 116 = .ok (.aload_n 0, 1) := by decide +kernel
theorem dX9_fill_117 : decode cX9_fill 117 = .ok (.getfield 35, 3) := by decide +kernel
theorem dX9_fill_120 : decode cX9_fill 120 = .ok (.iload 7, 2) := by decide +kernel
theorem dX9_fill_122 : decode cX9_fill 122 = .ok (.baload, 1) := by decide +kernel
theorem dX9_fill_123 : decode cX9_fill 123 = .ok (.ifCond .ne 39, 3) := by decide +kernel
theorem dX9_fill_162 : decode cX9_fill 162 = .ok (.iinc 7 1, 3) := by decide +kernel
theorem dX9_fill_165 : decode cX9_fill 165 = .ok (.goto (-56), 3) := by decide +kernel
theorem dX9_fill_126 : decode cX9_fill 126 = .ok (.aload_n 0, 1) := by decide +kernel
theorem dX9_fill_127 : decode cX9_fill 127 = .ok (.iload_n 1, 1) := by decide +kernel
theorem dX9_fill_128 : decode cX9_fill 128 = .ok (.iload 7, 2) := by decide +kernel
theorem dX9_fill_130 : decode cX9_fill 130 = .ok (.iload_n 2, 1) := by decide +kernel
theorem dX9_fill_131 : decode cX9_fill 131 = .ok (.iload 6, 2) := by decide +kernel
theorem dX9_fill_133 : decode cX9_fill 133 = .ok (.iload 4, 2) := by decide +kernel
theorem dX9_fill_135 : decode cX9_fill 135 = .ok (.imul, 1) := by decide +kernel
theorem dX9_fill_136 : decode cX9_fill 136 = .ok (.iadd, 1) := by decide +kernel
theorem dX9_fill_137 : decode cX9_fill 137 = .ok (.aload_n 0, 1) := by decide +kernel
theorem dX9_fill_138 : decode cX9_fill 138 = .ok (.iload_n 1, 1) := by decide +kernel
theorem dX9_fill_139 : decode cX9_fill 139 = .ok (.iload 7, 2) := by decide +kernel
theorem dX9_fill_141 : decode cX9_fill 141 = .ok (.iload_n 2, 1) := by decide +kernel
theorem dX9_fill_142 : decode cX9_fill 142 = .ok (.iload 6, 2) := by decide +kernel
theorem dX9_fill_144 : decode cX9_fill 144 = .ok (.iload 4, 2) := by decide +kernel
theorem dX9_fill_146 : decode cX9_fill 146 = .ok (.imul, 1) := by decide +kernel
theorem dX9_fill_147 : decode cX9_fill 147 = .ok (.iadd, 1) := by decide +kernel
theorem dX9_fill_148 : decode cX9_fill 148 = .ok (.iload_n 2, 1) := by decide +kernel
theorem dX9_fill_149 : decode cX9_fill 149 = .ok (.iload 6, 2) := by decide +kernel
theorem dX9_fill_151 : decode cX9_fill 151 = .ok (.iload 4, 2) := by decide +kernel
theorem dX9_fill_153 : decode cX9_fill 153 = .ok (.imul, 1) := by decide +kernel
theorem dX9_fill_154 : decode cX9_fill 154 = .ok (.iadd, 1) := by decide +kernel
set_option maxRecDepth 20000 in
theorem ggX9_fill_X9_valueOf : GoodIn wsX9_fill wsX9_valueOf := goodIn_r _ [25, 26, 27, 28, 29, 30, 6, 31, 32, 33, 34, 35, 36, 37, 38, 39, 40, 41, 42, 43, 44, 45, 46, 47, 48, 49, 50, 51, 52, 53, 54, 55, 56, 57, 58, 59, 60, 61, 62, 63, 64, 65, 66, 67, 68, 69, 70, 80, 81, 82, 83, 84, 85, 86, 87, 88, 89, 90, 91, 92, 93, 94, 95, 96, 97, 98, 99, 100, 101, 102, 103, 104, 105, 106, 107, 108, 109, 110, 111, 112, 113, 114, 115, 116, 117, 118, 119, 120, 121, 122, 123, 124, 125, 126, 127, 128, 129, 130] (by decide +kernel) (by decide +kernel)
set_option maxRecDepth 20000 in
theorem gX9_fill_X9_valueOf : GoodIn wsX9_fill (wsV RX9 300 RX9 yX9_valueOf wsX9_valueOf) := goodIn_app (goodIn_of _ (by decide +kernel)) ggX9_fill_X9_valueOf
theorem dX9_fill_155 : decode cX9_fill 155 = .ok (.invokevirtual 300, 3) := by decide +kernel
theorem dX9_fill_158 : decode cX9_fill 158 = .ok (.iconst 1, 1) := by decide +kernel
set_option maxRecDepth 20000 in
theorem ggX9_fill_X9_lays : GoodIn wsX9_fill wsX9_lays := goodIn_r _ [74, 75, 2, 76, 77, 78, 79, 80, 81, 82, 83, 84, 85, 86, 87, 88, 89, 90, 91, 92, 93, 94, 95, 96, 97, 98, 99, 100, 101, 102, 103, 104, 105, 106, 107, 108, 109, 110, 111, 112, 113, 114, 115, 116, 117, 118, 119, 120, 121, 122, 123, 124, 125, 126, 127, 128, 129, 130] (by decide +kernel) (by decide +kernel)
set_option maxRecDepth 20000 in
theorem gX9_fill_X9_lays : GoodIn wsX9_fill (wsV RX9 307 RX9 yX9_lays wsX9_lays) := goodIn_app (goodIn_of _ (by decide +kernel)) ggX9_fill_X9_lays
theorem dX9_fill_159 : decode cX9_fill 159 = .ok (.invokevirtual 307, 3) := by decide +kernel
theorem dX9_fill_85 : decode cX9_fill 85 = .ok (.aload_n 0, 1) := by decide +kernel
theorem dX9_fill_86 : decode cX9_fill 86 = .ok (.bipush (-5), 2) := by decide +kernel
theorem dX9_fill_88 : decode cX9_fill 88 = .ok (.invokevirtual 136, 3) := by decide +kernel
theorem dX9_fill_91 : decode cX9_fill 91 = .ok (.ireturn, 1) := by decide +kernel
theorem dX9_fill_50 : decode cX9_fill 50 = .ok (.aload_n 0, 1) := by decide +kernel
theorem dX9_fill_51 : decode cX9_fill 51 = .ok (.bipush (-2), 2) := by decide +kernel
theorem dX9_fill_53 : decode cX9_fill 53 = .ok (.invokevirtual 136, 3) := by decide +kernel
theorem dX9_fill_56 : decode cX9_fill 56 = .ok (.ireturn, 1) := by decide +kernel
theorem fill_room {i q L : Int} (h : i ≤ q) (hL : 0 ≤ L) : i * L + L ≤ (q + 1) * L := by
  have := Int.mul_le_mul_of_nonneg_right (show i + 1 ≤ q + 1 by omega) hL
  rw [Int.add_mul, Int.one_mul] at this
  exact this
theorem fill_next (i L : Int) : (i + 1) * L = i * L + L := by rw [Int.add_mul, Int.one_mul]
theorem liv_mono (f : Nat → Int32) {a b : Nat} (h : a ≤ b) : liv f a ≤ liv f b := by
  induction b with
  | zero => rw [show a = 0 by omega]; exact Nat.le_refl _
  | succ b ih =>
    rcases Nat.lt_or_ge a (b + 1) with q | q
    · exact Nat.le_trans (ih (by omega)) (Nat.le_add_right _ _)
    · rw [show a = b + 1 by omega]; exact Nat.le_refl _
theorem liv_in {f : Nat → Int32} {i x : Int32} (h0 : 0 ≤ i.toInt) (h1 : i.toInt < 20) (e : x = f i.toNatClampNeg) (hx : x.toInt = 0) : (liv f i.toInt.toNat : Int) + 1 ≤ liv f 20 := by
  have e2 : i.toNatClampNeg = i.toInt.toNat := rfl
  rw [e2] at e
  have h3 : liv f (i.toInt.toNat + 1) = liv f i.toInt.toNat + 1 := by
    show liv f i.toInt.toNat + _ = _
    rw [← e, if_pos hx]
  have := liv_mono f (show i.toInt.toNat + 1 ≤ 20 by omega)
  omega
theorem liv_up {f : Nat → Int32} {i j x : Int32} {P p2 : Int} (h : P = liv f i.toInt.toNat) (h0 : 0 ≤ i.toInt) (e : x = f i.toNatClampNeg) (hj : j.toInt = i.toInt + 1) (hx : (x.toInt = 0 ∧ p2 = P + 1) ∨ (¬ x.toInt = 0 ∧ p2 = P)) : p2 = liv f j.toInt.toNat := by
  have e1 : j.toInt.toNat = i.toInt.toNat + 1 := by omega
  have e2 : i.toNatClampNeg = i.toInt.toNat := rfl
  rw [e2] at e
  rw [e1]
  show p2 = ((liv f i.toInt.toNat + (if (f i.toInt.toNat).toInt = 0 then 1 else 0) : Nat) : Int)
  rw [← e]
  rcases hx with ⟨h1, h2⟩ | ⟨h1, h2⟩
  · rw [if_pos h1, h2, h]; rfl
  · rw [if_neg h1, h2, h]; rfl

set_option maxHeartbeats 8000000 in
set_option maxRecDepth 100000 in
theorem k_X9_fill (l : Launch) (dC : Nat → ClassId) (dI : Nat → Nat → Nat) (cA : Nat → ClassId) (sz : Nat) (am : Nat → Nat) (v_status : Int32) (v_now : Int32) (v_told : Int32) (v_merges : Int32) (v_taped : Int32) (v_size : Int32) (v_from : Int32) (v_to : Int32) (v_fault : Int32) (v_readFault : Int32) (v_traits : Int32) (v_length : Int32) (v_open : Int32) (v_leaks : Int32) (v_places : Int32) (v_models : Int32) (f_isGone : Nat → Int32) (f_rowStream : Nat → Int32) (f_isOne : Nat → Int32) (f_rowPerson : Nat → Int32) (f_rowMoment : Nat → Int32) (f_rowKnown : Nat → Int32) (f_rowValue : Nat → Int32) (f_size0 : Nat → Int32) (f_step : Nat → Int32) (f_stepA : Nat → Int32) (f_stepB : Nat → Int32) (f_stepC : Nat → Int32) (f_heap : Nat → Int64) (f_values : Nat → Int64) (f_mergeTo : Nat → Int32) (f_mergeKnown : Nat → Int32) (f_placeTrait : Nat → Int32) (f_placePerson : Nat → Int32) (f_placeMoment : Nat → Int32) (f_placeValue : Nat → Int64) (f_isFilled : Nat → Int32) (f_isErased : Nat → Int32) (tt : Int32) (a : Int32) (b : Int32) (d : Int32) (i_v_now : 0 ≤ v_now.toInt ∧ v_now.toInt ≤ 100000) (i_v_told : 0 ≤ v_told.toInt ∧ v_told.toInt ≤ 400) (i_v_taped : 0 ≤ v_taped.toInt ∧ v_taped.toInt ≤ 200) (i_v_size : 0 ≤ v_size.toInt ∧ v_size.toInt ≤ 200) (i_v_from : 0 ≤ v_from.toInt ∧ v_from.toInt ≤ 200) (i_v_to : 0 ≤ v_to.toInt ∧ v_to.toInt ≤ 200) (i_v_traits : 0 ≤ v_traits.toInt ∧ v_traits.toInt ≤ 20) (i_v_length : 0 ≤ v_length.toInt ∧ v_length.toInt ≤ 200) (i_v_open : 0 ≤ v_open.toInt ∧ v_open.toInt ≤ 8) (i_v_places : 0 ≤ v_places.toInt ∧ v_places.toInt ≤ 2000) (i_v_models : 0 ≤ v_models.toInt ∧ v_models.toInt ≤ 10) (i_f_rowPerson : inB 0 19 400 f_rowPerson) (i_f_size0 : inB 0 200 20 f_size0) (i_f_mergeTo : inB (-1) 19 20 f_mergeTo) (i_f_mergeKnown : inB 0 100000 20 f_mergeKnown) (hac : Acyc f_mergeTo) (hpr : progOK f_step f_stepA f_size0 v_traits) : Met l yX9_fill wsX9_fill ({ frames := 4, cells := 0, slots := 0, locals := 107 }) (va_Pc [.ref (am 0), .int tt, .int a, .int b, .int d] (fun U => U.heap.size = sz ∧ va_P (dC, dI) vwCl [((am 0), .inr (9, F9 am v_status v_now v_told v_merges v_taped v_size v_from v_to v_fault v_readFault v_traits v_length v_open v_leaks v_places v_models)), ((am 6), .inl (cA 2, 400, .inl f_isGone)), ((am 2), .inl (cA 0, 400, .inl f_rowStream)), ((am 19), .inl (cA 2, 20, .inl f_isOne)), ((am 1), .inl (cA 0, 400, .inl f_rowPerson)), ((am 3), .inl (cA 0, 400, .inl f_rowMoment)), ((am 4), .inl (cA 0, 400, .inl f_rowKnown)), ((am 5), .inl (cA 0, 400, .inl f_rowValue)), ((am 12), .inl (cA 0, 20, .inl f_size0)), ((am 13), .inl (cA 0, 5000, .inl f_step)), ((am 14), .inl (cA 0, 5000, .inl f_stepA)), ((am 15), .inl (cA 0, 5000, .inl f_stepB)), ((am 16), .inl (cA 0, 5000, .inl f_stepC)), ((am 18), .inl (cA 1, 250, .inr (.inl f_heap))), ((am 17), .inl (cA 1, 20, .inr (.inl f_values))), ((am 7), .inl (cA 0, 20, .inl f_mergeTo)), ((am 8), .inl (cA 0, 20, .inl f_mergeKnown)), ((am 28), .inl (cA 0, 2000, .inl f_placeTrait)), ((am 29), .inl (cA 0, 2000, .inl f_placePerson)), ((am 30), .inl (cA 0, 2000, .inl f_placeMoment)), ((am 31), .inl (cA 1, 2000, .inr (.inl f_placeValue))), ((am 32), .inl (cA 2, 2000, .inl f_isFilled)), ((am 9), .inl (cA 2, 20, .inl f_isErased))] U.heap ∧ va_K (dC, dI) vwCl (tyL cA) U ∧ va_D (fun _ => True) [((am 0), .inr (9, F9 am v_status v_now v_told v_merges v_taped v_size v_from v_to v_fault v_readFault v_traits v_length v_open v_leaks v_places v_models)), ((am 6), .inl (cA 2, 400, .inl f_isGone)), ((am 2), .inl (cA 0, 400, .inl f_rowStream)), ((am 19), .inl (cA 2, 20, .inl f_isOne)), ((am 1), .inl (cA 0, 400, .inl f_rowPerson)), ((am 3), .inl (cA 0, 400, .inl f_rowMoment)), ((am 4), .inl (cA 0, 400, .inl f_rowKnown)), ((am 5), .inl (cA 0, 400, .inl f_rowValue)), ((am 12), .inl (cA 0, 20, .inl f_size0)), ((am 13), .inl (cA 0, 5000, .inl f_step)), ((am 14), .inl (cA 0, 5000, .inl f_stepA)), ((am 15), .inl (cA 0, 5000, .inl f_stepB)), ((am 16), .inl (cA 0, 5000, .inl f_stepC)), ((am 18), .inl (cA 1, 250, .inr (.inl f_heap))), ((am 17), .inl (cA 1, 20, .inr (.inl f_values))), ((am 7), .inl (cA 0, 20, .inl f_mergeTo)), ((am 8), .inl (cA 0, 20, .inl f_mergeKnown)), ((am 28), .inl (cA 0, 2000, .inl f_placeTrait)), ((am 29), .inl (cA 0, 2000, .inl f_placePerson)), ((am 30), .inl (cA 0, 2000, .inl f_placeMoment)), ((am 31), .inl (cA 1, 2000, .inr (.inl f_placeValue))), ((am 32), .inl (cA 2, 2000, .inl f_isFilled)), ((am 9), .inl (cA 2, 20, .inl f_isErased))] ∧ nw_ok U)) (va_Qi (fun (r : Int32) (u : (Nat → Int64) × (Nat → Int64) × (Nat → Int32) × Int32 × (Nat → Int32) × (Nat → Int32) × (Nat → Int32) × (Nat → Int64) × (Nat → Int32) × Int32) => (0 ≤ u.2.2.2.1.toInt ∧ u.2.2.2.1.toInt ≤ 2000)) (fun (u : (Nat → Int64) × (Nat → Int64) × (Nat → Int32) × Int32 × (Nat → Int32) × (Nat → Int32) × (Nat → Int32) × (Nat → Int64) × (Nat → Int32) × Int32) (t : State) => va_P (dC, dI) vwCl [((am 0), .inr (9, F9 am u.2.2.2.2.2.2.2.2.2 v_now v_told v_merges v_taped v_size v_from v_to v_fault v_readFault v_traits v_length v_open v_leaks u.2.2.2.1 v_models)), ((am 6), .inl (cA 2, 400, .inl f_isGone)), ((am 2), .inl (cA 0, 400, .inl f_rowStream)), ((am 19), .inl (cA 2, 20, .inl u.2.2.1)), ((am 1), .inl (cA 0, 400, .inl f_rowPerson)), ((am 3), .inl (cA 0, 400, .inl f_rowMoment)), ((am 4), .inl (cA 0, 400, .inl f_rowKnown)), ((am 5), .inl (cA 0, 400, .inl f_rowValue)), ((am 12), .inl (cA 0, 20, .inl f_size0)), ((am 13), .inl (cA 0, 5000, .inl f_step)), ((am 14), .inl (cA 0, 5000, .inl f_stepA)), ((am 15), .inl (cA 0, 5000, .inl f_stepB)), ((am 16), .inl (cA 0, 5000, .inl f_stepC)), ((am 18), .inl (cA 1, 250, .inr (.inl u.1))), ((am 17), .inl (cA 1, 20, .inr (.inl u.2.1))), ((am 7), .inl (cA 0, 20, .inl f_mergeTo)), ((am 8), .inl (cA 0, 20, .inl f_mergeKnown)), ((am 28), .inl (cA 0, 2000, .inl u.2.2.2.2.1)), ((am 29), .inl (cA 0, 2000, .inl u.2.2.2.2.2.1)), ((am 30), .inl (cA 0, 2000, .inl u.2.2.2.2.2.2.1)), ((am 31), .inl (cA 1, 2000, .inr (.inl u.2.2.2.2.2.2.2.1))), ((am 32), .inl (cA 2, 2000, .inl u.2.2.2.2.2.2.2.2.1)), ((am 9), .inl (cA 2, 20, .inl f_isErased))] t.heap ∧ va_D (va_A [((am 0), .inr (9, F9 am v_status v_now v_told v_merges v_taped v_size v_from v_to v_fault v_readFault v_traits v_length v_open v_leaks v_places v_models)), ((am 6), .inl (cA 2, 400, .inl f_isGone)), ((am 2), .inl (cA 0, 400, .inl f_rowStream)), ((am 19), .inl (cA 2, 20, .inl f_isOne)), ((am 1), .inl (cA 0, 400, .inl f_rowPerson)), ((am 3), .inl (cA 0, 400, .inl f_rowMoment)), ((am 4), .inl (cA 0, 400, .inl f_rowKnown)), ((am 5), .inl (cA 0, 400, .inl f_rowValue)), ((am 12), .inl (cA 0, 20, .inl f_size0)), ((am 13), .inl (cA 0, 5000, .inl f_step)), ((am 14), .inl (cA 0, 5000, .inl f_stepA)), ((am 15), .inl (cA 0, 5000, .inl f_stepB)), ((am 16), .inl (cA 0, 5000, .inl f_stepC)), ((am 18), .inl (cA 1, 250, .inr (.inl f_heap))), ((am 17), .inl (cA 1, 20, .inr (.inl f_values))), ((am 7), .inl (cA 0, 20, .inl f_mergeTo)), ((am 8), .inl (cA 0, 20, .inl f_mergeKnown)), ((am 28), .inl (cA 0, 2000, .inl f_placeTrait)), ((am 29), .inl (cA 0, 2000, .inl f_placePerson)), ((am 30), .inl (cA 0, 2000, .inl f_placeMoment)), ((am 31), .inl (cA 1, 2000, .inr (.inl f_placeValue))), ((am 32), .inl (cA 2, 2000, .inl f_isFilled)), ((am 9), .inl (cA 2, 20, .inl f_isErased))] sz) [((am 0), .inr (9, F9 am u.2.2.2.2.2.2.2.2.2 v_now v_told v_merges v_taped v_size v_from v_to v_fault v_readFault v_traits v_length v_open v_leaks u.2.2.2.1 v_models)), ((am 6), .inl (cA 2, 400, .inl f_isGone)), ((am 2), .inl (cA 0, 400, .inl f_rowStream)), ((am 19), .inl (cA 2, 20, .inl u.2.2.1)), ((am 1), .inl (cA 0, 400, .inl f_rowPerson)), ((am 3), .inl (cA 0, 400, .inl f_rowMoment)), ((am 4), .inl (cA 0, 400, .inl f_rowKnown)), ((am 5), .inl (cA 0, 400, .inl f_rowValue)), ((am 12), .inl (cA 0, 20, .inl f_size0)), ((am 13), .inl (cA 0, 5000, .inl f_step)), ((am 14), .inl (cA 0, 5000, .inl f_stepA)), ((am 15), .inl (cA 0, 5000, .inl f_stepB)), ((am 16), .inl (cA 0, 5000, .inl f_stepC)), ((am 18), .inl (cA 1, 250, .inr (.inl u.1))), ((am 17), .inl (cA 1, 20, .inr (.inl u.2.1))), ((am 7), .inl (cA 0, 20, .inl f_mergeTo)), ((am 8), .inl (cA 0, 20, .inl f_mergeKnown)), ((am 28), .inl (cA 0, 2000, .inl u.2.2.2.2.1)), ((am 29), .inl (cA 0, 2000, .inl u.2.2.2.2.2.1)), ((am 30), .inl (cA 0, 2000, .inl u.2.2.2.2.2.2.1)), ((am 31), .inl (cA 1, 2000, .inr (.inl u.2.2.2.2.2.2.2.1))), ((am 32), .inl (cA 2, 2000, .inl u.2.2.2.2.2.2.2.2.1)), ((am 9), .inl (cA 2, 20, .inl f_isErased))]) (va_A [((am 0), .inr (9, F9 am v_status v_now v_told v_merges v_taped v_size v_from v_to v_fault v_readFault v_traits v_length v_open v_leaks v_places v_models)), ((am 6), .inl (cA 2, 400, .inl f_isGone)), ((am 2), .inl (cA 0, 400, .inl f_rowStream)), ((am 19), .inl (cA 2, 20, .inl f_isOne)), ((am 1), .inl (cA 0, 400, .inl f_rowPerson)), ((am 3), .inl (cA 0, 400, .inl f_rowMoment)), ((am 4), .inl (cA 0, 400, .inl f_rowKnown)), ((am 5), .inl (cA 0, 400, .inl f_rowValue)), ((am 12), .inl (cA 0, 20, .inl f_size0)), ((am 13), .inl (cA 0, 5000, .inl f_step)), ((am 14), .inl (cA 0, 5000, .inl f_stepA)), ((am 15), .inl (cA 0, 5000, .inl f_stepB)), ((am 16), .inl (cA 0, 5000, .inl f_stepC)), ((am 18), .inl (cA 1, 250, .inr (.inl f_heap))), ((am 17), .inl (cA 1, 20, .inr (.inl f_values))), ((am 7), .inl (cA 0, 20, .inl f_mergeTo)), ((am 8), .inl (cA 0, 20, .inl f_mergeKnown)), ((am 28), .inl (cA 0, 2000, .inl f_placeTrait)), ((am 29), .inl (cA 0, 2000, .inl f_placePerson)), ((am 30), .inl (cA 0, 2000, .inl f_placeMoment)), ((am 31), .inl (cA 1, 2000, .inr (.inl f_placeValue))), ((am 32), .inl (cA 2, 2000, .inl f_isFilled)), ((am 9), .inl (cA 2, 20, .inl f_isErased))] sz)) 0 0 (va_A [((am 0), .inr (9, F9 am v_status v_now v_told v_merges v_taped v_size v_from v_to v_fault v_readFault v_traits v_length v_open v_leaks v_places v_models)), ((am 6), .inl (cA 2, 400, .inl f_isGone)), ((am 2), .inl (cA 0, 400, .inl f_rowStream)), ((am 19), .inl (cA 2, 20, .inl f_isOne)), ((am 1), .inl (cA 0, 400, .inl f_rowPerson)), ((am 3), .inl (cA 0, 400, .inl f_rowMoment)), ((am 4), .inl (cA 0, 400, .inl f_rowKnown)), ((am 5), .inl (cA 0, 400, .inl f_rowValue)), ((am 12), .inl (cA 0, 20, .inl f_size0)), ((am 13), .inl (cA 0, 5000, .inl f_step)), ((am 14), .inl (cA 0, 5000, .inl f_stepA)), ((am 15), .inl (cA 0, 5000, .inl f_stepB)), ((am 16), .inl (cA 0, 5000, .inl f_stepC)), ((am 18), .inl (cA 1, 250, .inr (.inl f_heap))), ((am 17), .inl (cA 1, 20, .inr (.inl f_values))), ((am 7), .inl (cA 0, 20, .inl f_mergeTo)), ((am 8), .inl (cA 0, 20, .inl f_mergeKnown)), ((am 28), .inl (cA 0, 2000, .inl f_placeTrait)), ((am 29), .inl (cA 0, 2000, .inl f_placePerson)), ((am 30), .inl (cA 0, 2000, .inl f_placeMoment)), ((am 31), .inl (cA 1, 2000, .inr (.inl f_placeValue))), ((am 32), .inl (cA 2, 2000, .inl f_isFilled)), ((am 9), .inl (cA 2, 20, .inl f_isErased))] sz) := by
  refine Met.ofW (cc := cX9_fill) (maxL := 8) (ret := (some .int)) (by decide) rfl ?_
  intro p e s m args below meth c s₁ B hml hv
  obtain ⟨rfl, hsz, hP, hK, hD0, hN⟩ := hv
  have hx := B.exec
  have hb := B.bytes
  have hr := B.returns
  have hts := atoms_spec (ws := wsX9_fill) B.pre
  have hown : s.vm.findClass RX9 = some m.cls := findClass_of_methodNamed B.named
  have hlocks := B.notSynchronized
  subst hsz
  have hD := hD0.self (sz := s.heap.size)
  generalize hAe : va_A [((am 0), .inr (9, F9 am v_status v_now v_told v_merges v_taped v_size v_from v_to v_fault v_readFault v_traits v_length v_open v_leaks v_places v_models)), ((am 6), .inl (cA 2, 400, .inl f_isGone)), ((am 2), .inl (cA 0, 400, .inl f_rowStream)), ((am 19), .inl (cA 2, 20, .inl f_isOne)), ((am 1), .inl (cA 0, 400, .inl f_rowPerson)), ((am 3), .inl (cA 0, 400, .inl f_rowMoment)), ((am 4), .inl (cA 0, 400, .inl f_rowKnown)), ((am 5), .inl (cA 0, 400, .inl f_rowValue)), ((am 12), .inl (cA 0, 20, .inl f_size0)), ((am 13), .inl (cA 0, 5000, .inl f_step)), ((am 14), .inl (cA 0, 5000, .inl f_stepA)), ((am 15), .inl (cA 0, 5000, .inl f_stepB)), ((am 16), .inl (cA 0, 5000, .inl f_stepC)), ((am 18), .inl (cA 1, 250, .inr (.inl f_heap))), ((am 17), .inl (cA 1, 20, .inr (.inl f_values))), ((am 7), .inl (cA 0, 20, .inl f_mergeTo)), ((am 8), .inl (cA 0, 20, .inl f_mergeKnown)), ((am 28), .inl (cA 0, 2000, .inl f_placeTrait)), ((am 29), .inl (cA 0, 2000, .inl f_placePerson)), ((am 30), .inl (cA 0, 2000, .inl f_placeMoment)), ((am 31), .inl (cA 1, 2000, .inr (.inl f_placeValue))), ((am 32), .inl (cA 2, 2000, .inl f_isFilled)), ((am 9), .inl (cA 2, 20, .inl f_isErased))] s.heap.size = A at hD ⊢
  have hA : ∀ q : Nat, s.heap.size ≤ q → A q := fun q h => by rw [← hAe]; exact Or.inr h
  have hS : va_S A s.heap s.heap [] := va_S.rf
  have hIX9 : ∀ w ∈ u_ws RX9 TX9 51, w ∈ wsX9_fill := by decide +kernel
  have hl := lv_entry ([.ref (am 0), .int tt, .int a, .int b, .int d]) (n := 8) (Nat.le_of_ble_eq_true rfl)
  rw [lg_entry_eq]
  generalize (lg_sl ([.ref (am 0), .int tt, .int a, .int b, .int d]) ++ List.replicate (8 - (lg_sl ([.ref (am 0), .int tt, .int a, .int b, .int d])).length) Slot.unset).toArray = ls at hl ⊢
  have hl : lv_has ls 8 [(0, .ref (am 0)), (1, .int tt), (2, .int a), (3, .int b), (4, .int d)] := hl
  generalize hQe : MQ below _ _ _ _ _ _ = QQ
  refine lv_iload_n hx hb dX9_fill_0 rfl (lv_at hl 2 rfl) ?_
  obtain ⟨y_1, ey_1⟩ : ∃ y : Int64, y = a.toInt64 := ⟨_, rfl⟩
  have dy_1 : y_1.toInt = a.toInt := by rw [ey_1]; exact Int32.toInt_toInt64 _
  refine lv_i2l (v := y_1) hx hb dX9_fill_1 ey_1.symm ?_
  refine lv_lconst (v := 0) hx hb dX9_fill_2 (by decide) ?_
  refine lv_iload_n hx hb dX9_fill_3 rfl (lv_at hl 3 rfl) ?_
  obtain ⟨y_2, ey_2⟩ : ∃ y : Int64, y = b.toInt64 := ⟨_, rfl⟩
  have dy_2 : y_2.toInt = b.toInt := by rw [ey_2]; exact Int32.toInt_toInt64 _
  refine lv_i2l (v := y_2) hx hb dX9_fill_4 ey_2.symm ?_
  have hk_3 : (0 : Int64).toInt = 0 := by decide
  obtain ⟨hPc, hDc, hFc, hCc⟩ := va_pre (ws' := []) hP hD hS hA [] (by decide) rfl
  refine va_calli (va_runS (As := [.long y_1, .long 0, .long y_2]) (rest := []) ⟨hx, hb, hml, hown, hts⟩ (k_X9_in l dC dI cA s.heap.size y_1 0 y_2 ) (va_cwS 3 hts gX9_fill_X9_in rfl rfl rfl (by decide +kernel) ⟨Nat.le_of_ble_eq_true rfl, Nat.le_of_ble_eq_true rfl⟩) ⟨fun a U g mk q => by obtain ⟨q0, q1, qP, qK, qD, qN⟩ := q; exact ⟨q0, q1, qP, va_K.moved (u := U) (U := U.calling g mk a) (Vm.Alike.refl U.vm) qK, qD, qN.same rfl⟩, fun U hU hW => ⟨rfl, by rw [hU], by rw [hU]; exact hPc, va_K.moved hW.alike hK, hDc.weaken (fun _ _ _ _ => trivial), hN.warm hW⟩⟩ rfl rfl hl.1 rfl (lv_room (Nat.le_of_ble_eq_true rfl)) dX9_fill_5 ⟨Nat.le_of_ble_eq_true rfl, Nat.le_of_ble_eq_true rfl⟩) hS (fun q _ h => hFc q h) hFc (fun r_4 u_5 t H1 locs ht hvm hw_6 hB hz1 hk1 hS => ?_)
  try dsimp only at hw_6 hB
  have po_7 := hw_6
  clear hw_6
  try simp only [hk_3] at po_7
  obtain ⟨hP1, hD1⟩ := hB
  rw [ht] at hP1
  obtain ⟨hP, hD⟩ := va_join (wr := [((am 0), .inr (9, F9 am v_status v_now v_told v_merges v_taped v_size v_from v_to v_fault v_readFault v_traits v_length v_open v_leaks v_places v_models)), ((am 6), .inl (cA 2, 400, .inl f_isGone)), ((am 2), .inl (cA 0, 400, .inl f_rowStream)), ((am 19), .inl (cA 2, 20, .inl f_isOne)), ((am 1), .inl (cA 0, 400, .inl f_rowPerson)), ((am 3), .inl (cA 0, 400, .inl f_rowMoment)), ((am 4), .inl (cA 0, 400, .inl f_rowKnown)), ((am 5), .inl (cA 0, 400, .inl f_rowValue)), ((am 12), .inl (cA 0, 20, .inl f_size0)), ((am 13), .inl (cA 0, 5000, .inl f_step)), ((am 14), .inl (cA 0, 5000, .inl f_stepA)), ((am 15), .inl (cA 0, 5000, .inl f_stepB)), ((am 16), .inl (cA 0, 5000, .inl f_stepC)), ((am 18), .inl (cA 1, 250, .inr (.inl f_heap))), ((am 17), .inl (cA 1, 20, .inr (.inl f_values))), ((am 7), .inl (cA 0, 20, .inl f_mergeTo)), ((am 8), .inl (cA 0, 20, .inl f_mergeKnown)), ((am 28), .inl (cA 0, 2000, .inl f_placeTrait)), ((am 29), .inl (cA 0, 2000, .inl f_placePerson)), ((am 30), .inl (cA 0, 2000, .inl f_placeMoment)), ((am 31), .inl (cA 1, 2000, .inr (.inl f_placeValue))), ((am 32), .inl (cA 2, 2000, .inl f_isFilled)), ((am 9), .inl (cA 2, 20, .inl f_isErased))]) (w1 := []) hP hD [] [0, 1, 2, 3, 4, 5, 6, 7, 8, 9, 10, 11, 12, 13, 14, 15, 16, 17, 18, 19, 20, 21, 22] hCc rfl (by decide) (by decide) hk1 hFc hP1 hD1
  clear hz1
  generalize H1 = H at hP hS ⊢
  refine lv_if_eq (tgt := 36) hx hb dX9_fill_8 (by decide) (fun c_8 => ?_) (fun c_8 => ?_)
  · have dc_8 : r_4.toInt = 0 := jI_eq c_8 rfl (by decide)
    refine lv_aload_n hx hb dX9_fill_36 rfl (lv_at hl 0 rfl) ?_
    refine lv_iconst (v := (-1)) hx hb dX9_fill_37 (by decide) ?_
    have hk_9 : ((-1) : Int32).toInt = (-1) := by decide
    obtain ⟨hPc, hDc, hFc, hCc⟩ := va_pre (ws' := [((am 0), .inr (9, F9 am v_status v_now v_told v_merges v_taped v_size v_from v_to v_fault v_readFault v_traits v_length v_open v_leaks v_places v_models))]) hP hD hS hA [0] (by decide) rfl
    refine va_calli (va_runV (As := [.int (-1)]) (rest := []) ⟨hx, hb, hml, hown, hts⟩ (k_X9_ends l dC dI cA H.size am v_status v_now v_told v_merges v_taped v_size v_from v_to v_fault v_readFault v_traits v_length v_open v_leaks v_places v_models (-1) i_v_now i_v_told i_v_taped i_v_size i_v_from i_v_to i_v_traits i_v_length i_v_open i_v_places i_v_models) (cwV 1 hts gX9_fill_X9_ends rfl rfl rfl (by decide +kernel) ⟨Nat.le_of_ble_eq_true rfl, Nat.le_of_ble_eq_true rfl⟩) ⟨fun a U g mk q => by obtain ⟨q0, q1, qP, qK, qD, qN⟩ := q; exact ⟨q0, q1, qP, va_K.moved (u := U) (U := U.calling g mk a) (Vm.Alike.refl U.vm) qK, qD, qN.same rfl⟩, va_recv hK hPc (ci := 9) (q0 := 0) rfl rfl, fun U hU hW => ⟨rfl, by rw [hU], by rw [hU]; exact hPc, va_K.moved hW.alike hK, hDc.weaken (fun _ _ _ _ => trivial), hN.warm hW⟩⟩ rfl rfl hl.1 rfl (lv_room (Nat.le_of_ble_eq_true rfl)) dX9_fill_38 ⟨Nat.le_of_ble_eq_true rfl, Nat.le_of_ble_eq_true rfl⟩) hS (fun q _ h => hFc q h) hFc (fun r_10 u_11 t H1 locs ht hvm hw_12 hB hz1 hk1 hS => ?_)
    obtain ⟨w_13, rfl⟩ : ∃ z, z = u_11 := ⟨_, rfl⟩
    try dsimp only at hw_12 hB
    have hr9 := hw_12
    clear hw_12
    obtain ⟨hP1, hD1⟩ := hB
    rw [ht] at hP1
    obtain ⟨hP, hD⟩ := va_join (wr := [((am 6), .inl (cA 2, 400, .inl f_isGone)), ((am 2), .inl (cA 0, 400, .inl f_rowStream)), ((am 19), .inl (cA 2, 20, .inl f_isOne)), ((am 1), .inl (cA 0, 400, .inl f_rowPerson)), ((am 3), .inl (cA 0, 400, .inl f_rowMoment)), ((am 4), .inl (cA 0, 400, .inl f_rowKnown)), ((am 5), .inl (cA 0, 400, .inl f_rowValue)), ((am 12), .inl (cA 0, 20, .inl f_size0)), ((am 13), .inl (cA 0, 5000, .inl f_step)), ((am 14), .inl (cA 0, 5000, .inl f_stepA)), ((am 15), .inl (cA 0, 5000, .inl f_stepB)), ((am 16), .inl (cA 0, 5000, .inl f_stepC)), ((am 18), .inl (cA 1, 250, .inr (.inl f_heap))), ((am 17), .inl (cA 1, 20, .inr (.inl f_values))), ((am 7), .inl (cA 0, 20, .inl f_mergeTo)), ((am 8), .inl (cA 0, 20, .inl f_mergeKnown)), ((am 28), .inl (cA 0, 2000, .inl f_placeTrait)), ((am 29), .inl (cA 0, 2000, .inl f_placePerson)), ((am 30), .inl (cA 0, 2000, .inl f_placeMoment)), ((am 31), .inl (cA 1, 2000, .inr (.inl f_placeValue))), ((am 32), .inl (cA 2, 2000, .inl f_isFilled)), ((am 9), .inl (cA 2, 20, .inl f_isErased))]) (w1 := [((am 0), .inr (9, F9 am w_13 v_now v_told v_merges v_taped v_size v_from v_to v_fault v_readFault v_traits v_length v_open v_leaks v_places v_models))]) hP hD [0] [1, 2, 3, 4, 5, 6, 7, 8, 9, 10, 11, 12, 13, 14, 15, 16, 17, 18, 19, 20, 21, 22] hCc rfl (by decide) (by decide) hk1 hFc hP1 hD1
    clear hz1
    generalize H1 = H at hP hS ⊢
    obtain rfl : (-1) = r_10 := hr9.symm
    obtain ⟨hP9, hD9⟩ := va_pd (ws' := [((am 0), .inr (9, F9 am w_13 v_now v_told v_merges v_taped v_size v_from v_to v_fault v_readFault v_traits v_length v_open v_leaks v_places v_models)), ((am 6), .inl (cA 2, 400, .inl f_isGone)), ((am 2), .inl (cA 0, 400, .inl f_rowStream)), ((am 19), .inl (cA 2, 20, .inl f_isOne)), ((am 1), .inl (cA 0, 400, .inl f_rowPerson)), ((am 3), .inl (cA 0, 400, .inl f_rowMoment)), ((am 4), .inl (cA 0, 400, .inl f_rowKnown)), ((am 5), .inl (cA 0, 400, .inl f_rowValue)), ((am 12), .inl (cA 0, 20, .inl f_size0)), ((am 13), .inl (cA 0, 5000, .inl f_step)), ((am 14), .inl (cA 0, 5000, .inl f_stepA)), ((am 15), .inl (cA 0, 5000, .inl f_stepB)), ((am 16), .inl (cA 0, 5000, .inl f_stepC)), ((am 18), .inl (cA 1, 250, .inr (.inl f_heap))), ((am 17), .inl (cA 1, 20, .inr (.inl f_values))), ((am 7), .inl (cA 0, 20, .inl f_mergeTo)), ((am 8), .inl (cA 0, 20, .inl f_mergeKnown)), ((am 28), .inl (cA 0, 2000, .inl f_placeTrait)), ((am 29), .inl (cA 0, 2000, .inl f_placePerson)), ((am 30), .inl (cA 0, 2000, .inl f_placeMoment)), ((am 31), .inl (cA 1, 2000, .inr (.inl f_placeValue))), ((am 32), .inl (cA 2, 2000, .inl f_isFilled)), ((am 9), .inl (cA 2, 20, .inl f_isErased))]) hP hD [22, 0, 1, 2, 3, 4, 5, 6, 7, 8, 9, 10, 11, 12, 13, 14, 15, 16, 17, 18, 19, 20, 21] (by decide) rfl
    subst hQe
    have hans : ((-1) : Int32).toInt = (-1) := (by decide)
    have hpost : (0 ≤ v_places.toInt ∧ v_places.toInt ≤ 2000) := i_v_places
    exact W.iret (v := (-1)) hx hb hr (fun t ht hW => ⟨⟨(-1), (f_heap, f_values, f_isOne, v_places, f_placeTrait, f_placePerson, f_placeMoment, f_placeValue, f_isFilled, w_13), rfl, hpost, by rw [ht]; exact hP9, hD9⟩, hS.F ht⟩) hS.2.2 dX9_fill_41
  · have dc_8 : ¬ r_4.toInt = 0 := jI_ne c_8 rfl (by decide)
    refine lv_iload_n hx hb dX9_fill_11 rfl (lv_at hl 3 rfl) ?_
    refine lv_aload_n hx hb dX9_fill_12 rfl (lv_at hl 0 rfl) ?_
    refine va_get (D := (dC, dI)) (ci := 9) (v := .int v_now) (C := RX9) (T := TX9) (N := 51) hx hb hts hIX9 hown hK hP 0 rfl rfl 1 (by decide) (hts (.fieldLink RX9 133 "TraitHouseModel" "now" "I") (by decide +kernel)) (fun _ h9 => h9) rfl dX9_fill_13 ?_
    refine lv_icmp_gt (tgt := 36) hx hb dX9_fill_16 (by decide) (fun c_14 => ?_) (fun c_14 => ?_)
    · have dc_14 : v_now.toInt < b.toInt := jI_lt c_14 rfl rfl
      refine lv_aload_n hx hb dX9_fill_36 rfl (lv_at hl 0 rfl) ?_
      refine lv_iconst (v := (-1)) hx hb dX9_fill_37 (by decide) ?_
      have hk_15 : ((-1) : Int32).toInt = (-1) := by decide
      obtain ⟨hPc, hDc, hFc, hCc⟩ := va_pre (ws' := [((am 0), .inr (9, F9 am v_status v_now v_told v_merges v_taped v_size v_from v_to v_fault v_readFault v_traits v_length v_open v_leaks v_places v_models))]) hP hD hS hA [0] (by decide) rfl
      refine va_calli (va_runV (As := [.int (-1)]) (rest := []) ⟨hx, hb, hml, hown, hts⟩ (k_X9_ends l dC dI cA H.size am v_status v_now v_told v_merges v_taped v_size v_from v_to v_fault v_readFault v_traits v_length v_open v_leaks v_places v_models (-1) i_v_now i_v_told i_v_taped i_v_size i_v_from i_v_to i_v_traits i_v_length i_v_open i_v_places i_v_models) (cwV 1 hts gX9_fill_X9_ends rfl rfl rfl (by decide +kernel) ⟨Nat.le_of_ble_eq_true rfl, Nat.le_of_ble_eq_true rfl⟩) ⟨fun a U g mk q => by obtain ⟨q0, q1, qP, qK, qD, qN⟩ := q; exact ⟨q0, q1, qP, va_K.moved (u := U) (U := U.calling g mk a) (Vm.Alike.refl U.vm) qK, qD, qN.same rfl⟩, va_recv hK hPc (ci := 9) (q0 := 0) rfl rfl, fun U hU hW => ⟨rfl, by rw [hU], by rw [hU]; exact hPc, va_K.moved hW.alike hK, hDc.weaken (fun _ _ _ _ => trivial), hN.warm hW⟩⟩ rfl rfl hl.1 rfl (lv_room (Nat.le_of_ble_eq_true rfl)) dX9_fill_38 ⟨Nat.le_of_ble_eq_true rfl, Nat.le_of_ble_eq_true rfl⟩) hS (fun q _ h => hFc q h) hFc (fun r_16 u_17 t H1 locs ht hvm hw_18 hB hz1 hk1 hS => ?_)
      obtain ⟨w_19, rfl⟩ : ∃ z, z = u_17 := ⟨_, rfl⟩
      try dsimp only at hw_18 hB
      have hr9 := hw_18
      clear hw_18
      obtain ⟨hP1, hD1⟩ := hB
      rw [ht] at hP1
      obtain ⟨hP, hD⟩ := va_join (wr := [((am 6), .inl (cA 2, 400, .inl f_isGone)), ((am 2), .inl (cA 0, 400, .inl f_rowStream)), ((am 19), .inl (cA 2, 20, .inl f_isOne)), ((am 1), .inl (cA 0, 400, .inl f_rowPerson)), ((am 3), .inl (cA 0, 400, .inl f_rowMoment)), ((am 4), .inl (cA 0, 400, .inl f_rowKnown)), ((am 5), .inl (cA 0, 400, .inl f_rowValue)), ((am 12), .inl (cA 0, 20, .inl f_size0)), ((am 13), .inl (cA 0, 5000, .inl f_step)), ((am 14), .inl (cA 0, 5000, .inl f_stepA)), ((am 15), .inl (cA 0, 5000, .inl f_stepB)), ((am 16), .inl (cA 0, 5000, .inl f_stepC)), ((am 18), .inl (cA 1, 250, .inr (.inl f_heap))), ((am 17), .inl (cA 1, 20, .inr (.inl f_values))), ((am 7), .inl (cA 0, 20, .inl f_mergeTo)), ((am 8), .inl (cA 0, 20, .inl f_mergeKnown)), ((am 28), .inl (cA 0, 2000, .inl f_placeTrait)), ((am 29), .inl (cA 0, 2000, .inl f_placePerson)), ((am 30), .inl (cA 0, 2000, .inl f_placeMoment)), ((am 31), .inl (cA 1, 2000, .inr (.inl f_placeValue))), ((am 32), .inl (cA 2, 2000, .inl f_isFilled)), ((am 9), .inl (cA 2, 20, .inl f_isErased))]) (w1 := [((am 0), .inr (9, F9 am w_19 v_now v_told v_merges v_taped v_size v_from v_to v_fault v_readFault v_traits v_length v_open v_leaks v_places v_models))]) hP hD [0] [1, 2, 3, 4, 5, 6, 7, 8, 9, 10, 11, 12, 13, 14, 15, 16, 17, 18, 19, 20, 21, 22] hCc rfl (by decide) (by decide) hk1 hFc hP1 hD1
      clear hz1
      generalize H1 = H at hP hS ⊢
      obtain rfl : (-1) = r_16 := hr9.symm
      obtain ⟨hP9, hD9⟩ := va_pd (ws' := [((am 0), .inr (9, F9 am w_19 v_now v_told v_merges v_taped v_size v_from v_to v_fault v_readFault v_traits v_length v_open v_leaks v_places v_models)), ((am 6), .inl (cA 2, 400, .inl f_isGone)), ((am 2), .inl (cA 0, 400, .inl f_rowStream)), ((am 19), .inl (cA 2, 20, .inl f_isOne)), ((am 1), .inl (cA 0, 400, .inl f_rowPerson)), ((am 3), .inl (cA 0, 400, .inl f_rowMoment)), ((am 4), .inl (cA 0, 400, .inl f_rowKnown)), ((am 5), .inl (cA 0, 400, .inl f_rowValue)), ((am 12), .inl (cA 0, 20, .inl f_size0)), ((am 13), .inl (cA 0, 5000, .inl f_step)), ((am 14), .inl (cA 0, 5000, .inl f_stepA)), ((am 15), .inl (cA 0, 5000, .inl f_stepB)), ((am 16), .inl (cA 0, 5000, .inl f_stepC)), ((am 18), .inl (cA 1, 250, .inr (.inl f_heap))), ((am 17), .inl (cA 1, 20, .inr (.inl f_values))), ((am 7), .inl (cA 0, 20, .inl f_mergeTo)), ((am 8), .inl (cA 0, 20, .inl f_mergeKnown)), ((am 28), .inl (cA 0, 2000, .inl f_placeTrait)), ((am 29), .inl (cA 0, 2000, .inl f_placePerson)), ((am 30), .inl (cA 0, 2000, .inl f_placeMoment)), ((am 31), .inl (cA 1, 2000, .inr (.inl f_placeValue))), ((am 32), .inl (cA 2, 2000, .inl f_isFilled)), ((am 9), .inl (cA 2, 20, .inl f_isErased))]) hP hD [22, 0, 1, 2, 3, 4, 5, 6, 7, 8, 9, 10, 11, 12, 13, 14, 15, 16, 17, 18, 19, 20, 21] (by decide) rfl
      subst hQe
      have hans : ((-1) : Int32).toInt = (-1) := (by decide)
      have hpost : (0 ≤ v_places.toInt ∧ v_places.toInt ≤ 2000) := i_v_places
      exact W.iret (v := (-1)) hx hb hr (fun t ht hW => ⟨⟨(-1), (f_heap, f_values, f_isOne, v_places, f_placeTrait, f_placePerson, f_placeMoment, f_placeValue, f_isFilled, w_19), rfl, hpost, by rw [ht]; exact hP9, hD9⟩, hS.F ht⟩) hS.2.2 dX9_fill_41
    · have dc_14 : b.toInt ≤ v_now.toInt := jI_nlt c_14 rfl rfl
      refine lv_iload hx hb dX9_fill_19 (lv_at hl 4 rfl) ?_
      refine lv_iconst (v := 1) hx hb dX9_fill_21 (by decide) ?_
      refine lv_icmp_lt (tgt := 36) hx hb dX9_fill_22 (by decide) (fun c_20 => ?_) (fun c_20 => ?_)
      · have dc_20 : d.toInt < 1 := jI_lt c_20 rfl (by decide)
        refine lv_aload_n hx hb dX9_fill_36 rfl (lv_at hl 0 rfl) ?_
        refine lv_iconst (v := (-1)) hx hb dX9_fill_37 (by decide) ?_
        have hk_21 : ((-1) : Int32).toInt = (-1) := by decide
        obtain ⟨hPc, hDc, hFc, hCc⟩ := va_pre (ws' := [((am 0), .inr (9, F9 am v_status v_now v_told v_merges v_taped v_size v_from v_to v_fault v_readFault v_traits v_length v_open v_leaks v_places v_models))]) hP hD hS hA [0] (by decide) rfl
        refine va_calli (va_runV (As := [.int (-1)]) (rest := []) ⟨hx, hb, hml, hown, hts⟩ (k_X9_ends l dC dI cA H.size am v_status v_now v_told v_merges v_taped v_size v_from v_to v_fault v_readFault v_traits v_length v_open v_leaks v_places v_models (-1) i_v_now i_v_told i_v_taped i_v_size i_v_from i_v_to i_v_traits i_v_length i_v_open i_v_places i_v_models) (cwV 1 hts gX9_fill_X9_ends rfl rfl rfl (by decide +kernel) ⟨Nat.le_of_ble_eq_true rfl, Nat.le_of_ble_eq_true rfl⟩) ⟨fun a U g mk q => by obtain ⟨q0, q1, qP, qK, qD, qN⟩ := q; exact ⟨q0, q1, qP, va_K.moved (u := U) (U := U.calling g mk a) (Vm.Alike.refl U.vm) qK, qD, qN.same rfl⟩, va_recv hK hPc (ci := 9) (q0 := 0) rfl rfl, fun U hU hW => ⟨rfl, by rw [hU], by rw [hU]; exact hPc, va_K.moved hW.alike hK, hDc.weaken (fun _ _ _ _ => trivial), hN.warm hW⟩⟩ rfl rfl hl.1 rfl (lv_room (Nat.le_of_ble_eq_true rfl)) dX9_fill_38 ⟨Nat.le_of_ble_eq_true rfl, Nat.le_of_ble_eq_true rfl⟩) hS (fun q _ h => hFc q h) hFc (fun r_22 u_23 t H1 locs ht hvm hw_24 hB hz1 hk1 hS => ?_)
        obtain ⟨w_25, rfl⟩ : ∃ z, z = u_23 := ⟨_, rfl⟩
        try dsimp only at hw_24 hB
        have hr9 := hw_24
        clear hw_24
        obtain ⟨hP1, hD1⟩ := hB
        rw [ht] at hP1
        obtain ⟨hP, hD⟩ := va_join (wr := [((am 6), .inl (cA 2, 400, .inl f_isGone)), ((am 2), .inl (cA 0, 400, .inl f_rowStream)), ((am 19), .inl (cA 2, 20, .inl f_isOne)), ((am 1), .inl (cA 0, 400, .inl f_rowPerson)), ((am 3), .inl (cA 0, 400, .inl f_rowMoment)), ((am 4), .inl (cA 0, 400, .inl f_rowKnown)), ((am 5), .inl (cA 0, 400, .inl f_rowValue)), ((am 12), .inl (cA 0, 20, .inl f_size0)), ((am 13), .inl (cA 0, 5000, .inl f_step)), ((am 14), .inl (cA 0, 5000, .inl f_stepA)), ((am 15), .inl (cA 0, 5000, .inl f_stepB)), ((am 16), .inl (cA 0, 5000, .inl f_stepC)), ((am 18), .inl (cA 1, 250, .inr (.inl f_heap))), ((am 17), .inl (cA 1, 20, .inr (.inl f_values))), ((am 7), .inl (cA 0, 20, .inl f_mergeTo)), ((am 8), .inl (cA 0, 20, .inl f_mergeKnown)), ((am 28), .inl (cA 0, 2000, .inl f_placeTrait)), ((am 29), .inl (cA 0, 2000, .inl f_placePerson)), ((am 30), .inl (cA 0, 2000, .inl f_placeMoment)), ((am 31), .inl (cA 1, 2000, .inr (.inl f_placeValue))), ((am 32), .inl (cA 2, 2000, .inl f_isFilled)), ((am 9), .inl (cA 2, 20, .inl f_isErased))]) (w1 := [((am 0), .inr (9, F9 am w_25 v_now v_told v_merges v_taped v_size v_from v_to v_fault v_readFault v_traits v_length v_open v_leaks v_places v_models))]) hP hD [0] [1, 2, 3, 4, 5, 6, 7, 8, 9, 10, 11, 12, 13, 14, 15, 16, 17, 18, 19, 20, 21, 22] hCc rfl (by decide) (by decide) hk1 hFc hP1 hD1
        clear hz1
        generalize H1 = H at hP hS ⊢
        obtain rfl : (-1) = r_22 := hr9.symm
        obtain ⟨hP9, hD9⟩ := va_pd (ws' := [((am 0), .inr (9, F9 am w_25 v_now v_told v_merges v_taped v_size v_from v_to v_fault v_readFault v_traits v_length v_open v_leaks v_places v_models)), ((am 6), .inl (cA 2, 400, .inl f_isGone)), ((am 2), .inl (cA 0, 400, .inl f_rowStream)), ((am 19), .inl (cA 2, 20, .inl f_isOne)), ((am 1), .inl (cA 0, 400, .inl f_rowPerson)), ((am 3), .inl (cA 0, 400, .inl f_rowMoment)), ((am 4), .inl (cA 0, 400, .inl f_rowKnown)), ((am 5), .inl (cA 0, 400, .inl f_rowValue)), ((am 12), .inl (cA 0, 20, .inl f_size0)), ((am 13), .inl (cA 0, 5000, .inl f_step)), ((am 14), .inl (cA 0, 5000, .inl f_stepA)), ((am 15), .inl (cA 0, 5000, .inl f_stepB)), ((am 16), .inl (cA 0, 5000, .inl f_stepC)), ((am 18), .inl (cA 1, 250, .inr (.inl f_heap))), ((am 17), .inl (cA 1, 20, .inr (.inl f_values))), ((am 7), .inl (cA 0, 20, .inl f_mergeTo)), ((am 8), .inl (cA 0, 20, .inl f_mergeKnown)), ((am 28), .inl (cA 0, 2000, .inl f_placeTrait)), ((am 29), .inl (cA 0, 2000, .inl f_placePerson)), ((am 30), .inl (cA 0, 2000, .inl f_placeMoment)), ((am 31), .inl (cA 1, 2000, .inr (.inl f_placeValue))), ((am 32), .inl (cA 2, 2000, .inl f_isFilled)), ((am 9), .inl (cA 2, 20, .inl f_isErased))]) hP hD [22, 0, 1, 2, 3, 4, 5, 6, 7, 8, 9, 10, 11, 12, 13, 14, 15, 16, 17, 18, 19, 20, 21] (by decide) rfl
        subst hQe
        have hans : ((-1) : Int32).toInt = (-1) := (by decide)
        have hpost : (0 ≤ v_places.toInt ∧ v_places.toInt ≤ 2000) := i_v_places
        exact W.iret (v := (-1)) hx hb hr (fun t ht hW => ⟨⟨(-1), (f_heap, f_values, f_isOne, v_places, f_placeTrait, f_placePerson, f_placeMoment, f_placeValue, f_isFilled, w_25), rfl, hpost, by rw [ht]; exact hP9, hD9⟩, hS.F ht⟩) hS.2.2 dX9_fill_41
      · have dc_20 : 1 ≤ d.toInt := jI_nlt c_20 rfl (by decide)
        refine lv_iload_n hx hb dX9_fill_25 rfl (lv_at hl 3 rfl) ?_
        refine lv_iload_n hx hb dX9_fill_26 rfl (lv_at hl 2 rfl) ?_
        refine lv_isub hx hb dX9_fill_27 ?_
        refine lv_topi (fun x_26 ex_26 => ?_)
        have dx_26 : x_26.toInt = b.toInt - a.toInt := by rw [ex_26]; exact jI_sub rfl rfl (by omega) (by omega)
        refine lv_iload hx hb dX9_fill_28 (lv_at hl 4 rfl) ?_
        refine lv_idiv hx hb dX9_fill_30 (jI_ne0 (by omega)) ?_
        refine lv_topi (fun x_27 ex_27 => ?_)
        have dx_27 : 0 ≤ x_27.toInt ∧ x_27.toInt ≤ x_26.toInt := by rw [ex_27]; exact jI_divle rfl rfl (by omega) (by omega)
        have hq_28 : x_27.toInt = ((b - a) / d : Int32).toInt := by rw [ex_27]; congr 2
        refine lv_bipush (v := 40) hx hb dX9_fill_31 (by decide) ?_
        refine lv_icmp_lt (tgt := 42) hx hb dX9_fill_33 (by decide) (fun c_29 => ?_) (fun c_29 => ?_)
        · have dc_29 : x_27.toInt < 40 := jI_lt c_29 rfl (by decide)
          refine lv_aload_n hx hb dX9_fill_42 rfl (lv_at hl 0 rfl) ?_
          refine lv_iload_n hx hb dX9_fill_43 rfl (lv_at hl 1 rfl) ?_
          obtain ⟨hPc, hDc, hFc, hCc⟩ := va_pre (ws' := [((am 0), .inr (9, F9 am v_status v_now v_told v_merges v_taped v_size v_from v_to v_fault v_readFault v_traits v_length v_open v_leaks v_places v_models))]) hP hD hS hA [0] (by decide) rfl
          refine va_calli (va_runV (As := [.int tt]) (rest := []) ⟨hx, hb, hml, hown, hts⟩ (k_X9_isTrait l dC dI cA H.size am v_status v_now v_told v_merges v_taped v_size v_from v_to v_fault v_readFault v_traits v_length v_open v_leaks v_places v_models tt i_v_now i_v_told i_v_taped i_v_size i_v_from i_v_to i_v_traits i_v_length i_v_open i_v_places i_v_models) (cwV 1 hts gX9_fill_X9_isTrait rfl rfl rfl (by decide +kernel) ⟨Nat.le_of_ble_eq_true rfl, Nat.le_of_ble_eq_true rfl⟩) ⟨fun a U g mk q => by obtain ⟨q0, q1, qP, qK, qD, qN⟩ := q; exact ⟨q0, q1, qP, va_K.moved (u := U) (U := U.calling g mk a) (Vm.Alike.refl U.vm) qK, qD, qN.same rfl⟩, va_recv hK hPc (ci := 9) (q0 := 0) rfl rfl, fun U hU hW => ⟨rfl, by rw [hU], by rw [hU]; exact hPc, va_K.moved hW.alike hK, hDc.weaken (fun _ _ _ _ => trivial), hN.warm hW⟩⟩ rfl rfl hl.1 rfl (lv_room (Nat.le_of_ble_eq_true rfl)) dX9_fill_44 ⟨Nat.le_of_ble_eq_true rfl, Nat.le_of_ble_eq_true rfl⟩) hS (fun q _ h => hFc q h) hFc (fun r_30 u_31 t H1 locs ht hvm hw_32 hB hz1 hk1 hS => ?_)
          try dsimp only at hw_32 hB
          have po_33 := hw_32
          clear hw_32
          obtain ⟨hP1, hD1⟩ := hB
          rw [ht] at hP1
          obtain ⟨hP, hD⟩ := va_join (wr := [((am 6), .inl (cA 2, 400, .inl f_isGone)), ((am 2), .inl (cA 0, 400, .inl f_rowStream)), ((am 19), .inl (cA 2, 20, .inl f_isOne)), ((am 1), .inl (cA 0, 400, .inl f_rowPerson)), ((am 3), .inl (cA 0, 400, .inl f_rowMoment)), ((am 4), .inl (cA 0, 400, .inl f_rowKnown)), ((am 5), .inl (cA 0, 400, .inl f_rowValue)), ((am 12), .inl (cA 0, 20, .inl f_size0)), ((am 13), .inl (cA 0, 5000, .inl f_step)), ((am 14), .inl (cA 0, 5000, .inl f_stepA)), ((am 15), .inl (cA 0, 5000, .inl f_stepB)), ((am 16), .inl (cA 0, 5000, .inl f_stepC)), ((am 18), .inl (cA 1, 250, .inr (.inl f_heap))), ((am 17), .inl (cA 1, 20, .inr (.inl f_values))), ((am 7), .inl (cA 0, 20, .inl f_mergeTo)), ((am 8), .inl (cA 0, 20, .inl f_mergeKnown)), ((am 28), .inl (cA 0, 2000, .inl f_placeTrait)), ((am 29), .inl (cA 0, 2000, .inl f_placePerson)), ((am 30), .inl (cA 0, 2000, .inl f_placeMoment)), ((am 31), .inl (cA 1, 2000, .inr (.inl f_placeValue))), ((am 32), .inl (cA 2, 2000, .inl f_isFilled)), ((am 9), .inl (cA 2, 20, .inl f_isErased))]) (w1 := [((am 0), .inr (9, F9 am v_status v_now v_told v_merges v_taped v_size v_from v_to v_fault v_readFault v_traits v_length v_open v_leaks v_places v_models))]) hP hD [0] [1, 2, 3, 4, 5, 6, 7, 8, 9, 10, 11, 12, 13, 14, 15, 16, 17, 18, 19, 20, 21, 22] hCc rfl (by decide) (by decide) hk1 hFc hP1 hD1
          clear hz1
          generalize H1 = H at hP hS ⊢
          refine lv_if_ne (tgt := 57) hx hb dX9_fill_47 (by decide) (fun c_34 => ?_) (fun c_34 => ?_)
          · have dc_34 : ¬ r_30.toInt = 0 := jI_ne c_34 rfl (by decide)
            refine lv_iload_n hx hb dX9_fill_57 rfl (lv_at hl 3 rfl) ?_
            refine lv_iload_n hx hb dX9_fill_58 rfl (lv_at hl 2 rfl) ?_
            refine lv_isub hx hb dX9_fill_59 ?_
            refine lv_topi (fun x_35 ex_35 => ?_)
            have dx_35 : x_35.toInt = b.toInt - a.toInt := by rw [ex_35]; exact jI_sub rfl rfl (by omega) (by omega)
            refine lv_iload hx hb dX9_fill_60 (lv_at hl 4 rfl) ?_
            refine lv_idiv hx hb dX9_fill_62 (jI_ne0 (by omega)) ?_
            refine lv_topi (fun x_36 ex_36 => ?_)
            have dx_36 : 0 ≤ x_36.toInt ∧ x_36.toInt ≤ x_35.toInt := by rw [ex_36]; exact jI_divle rfl rfl (by omega) (by omega)
            have hq_37 : x_36.toInt = ((b - a) / d : Int32).toInt := by rw [ex_36]; congr 2
            refine lv_iconst (v := 1) hx hb dX9_fill_63 (by decide) ?_
            refine lv_iadd hx hb dX9_fill_64 ?_
            refine lv_topi (fun x_38 ex_38 => ?_)
            have dx_38 : x_38.toInt = x_36.toInt + 1 := by rw [ex_38]; exact jI_add rfl (by decide) (by omega) (by omega)
            refine lv_aload_n hx hb dX9_fill_65 rfl (lv_at hl 0 rfl) ?_
            obtain ⟨hPc, hDc, hFc, hCc⟩ := va_pre (ws' := [((am 0), .inr (9, F9 am v_status v_now v_told v_merges v_taped v_size v_from v_to v_fault v_readFault v_traits v_length v_open v_leaks v_places v_models)), ((am 9), .inl (cA 2, 20, .inl f_isErased))]) hP hD hS hA [22, 21] (by decide) rfl
            refine va_calli (va_runV (As := []) (rest := [.int x_38]) ⟨hx, hb, hml, hown, hts⟩ (k_X9_living l dC dI cA H.size am v_status v_now v_told v_merges v_taped v_size v_from v_to v_fault v_readFault v_traits v_length v_open v_leaks v_places v_models f_isErased i_v_now i_v_told i_v_taped i_v_size i_v_from i_v_to i_v_traits i_v_length i_v_open i_v_places i_v_models) (cwV 0 hts gX9_fill_X9_living rfl rfl rfl (by decide +kernel) ⟨Nat.le_of_ble_eq_true rfl, Nat.le_of_ble_eq_true rfl⟩) ⟨fun a U g mk q => by obtain ⟨q0, q1, qP, qK, qD, qN⟩ := q; exact ⟨q0, q1, qP, va_K.moved (u := U) (U := U.calling g mk a) (Vm.Alike.refl U.vm) qK, qD, qN.same rfl⟩, va_recv hK hPc (ci := 9) (q0 := 0) rfl rfl, fun U hU hW => ⟨rfl, by rw [hU], by rw [hU]; exact hPc, va_K.moved hW.alike hK, hDc.weaken (fun _ _ _ _ => trivial), hN.warm hW⟩⟩ rfl rfl hl.1 rfl (lv_room (Nat.le_of_ble_eq_true rfl)) dX9_fill_66 ⟨Nat.le_of_ble_eq_true rfl, Nat.le_of_ble_eq_true rfl⟩) hS (fun q _ h => hFc q h) hFc (fun r_39 u_40 t H1 locs ht hvm hw_41 hB hz1 hk1 hS => ?_)
            try dsimp only at hw_41 hB
            have po_42 := hw_41
            clear hw_41
            obtain ⟨hP1, hD1⟩ := hB
            rw [ht] at hP1
            obtain ⟨hP, hD⟩ := va_join (wr := [((am 6), .inl (cA 2, 400, .inl f_isGone)), ((am 2), .inl (cA 0, 400, .inl f_rowStream)), ((am 19), .inl (cA 2, 20, .inl f_isOne)), ((am 1), .inl (cA 0, 400, .inl f_rowPerson)), ((am 3), .inl (cA 0, 400, .inl f_rowMoment)), ((am 4), .inl (cA 0, 400, .inl f_rowKnown)), ((am 5), .inl (cA 0, 400, .inl f_rowValue)), ((am 12), .inl (cA 0, 20, .inl f_size0)), ((am 13), .inl (cA 0, 5000, .inl f_step)), ((am 14), .inl (cA 0, 5000, .inl f_stepA)), ((am 15), .inl (cA 0, 5000, .inl f_stepB)), ((am 16), .inl (cA 0, 5000, .inl f_stepC)), ((am 18), .inl (cA 1, 250, .inr (.inl f_heap))), ((am 17), .inl (cA 1, 20, .inr (.inl f_values))), ((am 7), .inl (cA 0, 20, .inl f_mergeTo)), ((am 8), .inl (cA 0, 20, .inl f_mergeKnown)), ((am 28), .inl (cA 0, 2000, .inl f_placeTrait)), ((am 29), .inl (cA 0, 2000, .inl f_placePerson)), ((am 30), .inl (cA 0, 2000, .inl f_placeMoment)), ((am 31), .inl (cA 1, 2000, .inr (.inl f_placeValue))), ((am 32), .inl (cA 2, 2000, .inl f_isFilled))]) (w1 := [((am 0), .inr (9, F9 am v_status v_now v_told v_merges v_taped v_size v_from v_to v_fault v_readFault v_traits v_length v_open v_leaks v_places v_models)), ((am 9), .inl (cA 2, 20, .inl f_isErased))]) hP hD [22, 21] [0, 1, 2, 3, 4, 5, 6, 7, 8, 9, 10, 11, 12, 13, 14, 15, 16, 17, 18, 19, 20] hCc rfl (by decide) (by decide) hk1 hFc hP1 hD1
            clear hz1
            generalize H1 = H at hP hS ⊢
            refine lv_imul hx hb dX9_fill_69 ?_
            refine lv_topi (fun x_43 ex_43 => ?_)
            have dx_43 : x_43.toInt = x_38.toInt * r_39.toInt ∧ 1 * 0 ≤ x_43.toInt ∧ x_43.toInt ≤ 100001 * 20 := by rw [ex_43]; exact jI_mulb rfl rfl (by omega) (by omega) (by omega) (by omega) (by decide) (by decide)
            have hm9 : x_43.toInt = (((b - a) / d : Int32).toInt + 1) * r_39.toInt := by rw [← show x_38.toInt = ((b - a) / d : Int32).toInt + 1 by omega]; exact dx_43.1
            refine lv_istore (lv' := [(5, .int x_43), (0, .ref (am 0)), (1, .int tt), (2, .int a), (3, .int b), (4, .int d)]) hx hb dX9_fill_70 hl (by decide) rfl (fun ls hl => ?_)
            refine lv_aload_n hx hb dX9_fill_72 rfl (lv_at hl 1 rfl) ?_
            refine va_get (D := (dC, dI)) (ci := 9) (v := .int v_places) (C := RX9) (T := TX9) (N := 51) hx hb hts hIX9 hown hK hP 21 rfl rfl 41 (by decide) (hts (.fieldLink RX9 304 "TraitHouseModel" "places" "I") (by decide +kernel)) (fun _ h9 => h9) rfl dX9_fill_73 ?_
            refine lv_iload hx hb dX9_fill_76 (lv_at hl 0 rfl) ?_
            refine lv_iadd hx hb dX9_fill_78 ?_
            refine lv_topi (fun x_44 ex_44 => ?_)
            have dx_44 : x_44.toInt = v_places.toInt + x_43.toInt := by rw [ex_44]; exact jI_add rfl rfl (by omega) (by omega)
            refine lv_sipush (v := 2000) hx hb dX9_fill_79 (by decide) ?_
            refine lv_icmp_le (tgt := 92) hx hb dX9_fill_82 (by decide) (fun c_45 => ?_) (fun c_45 => ?_)
            · have dc_45 : x_44.toInt ≤ 2000 := jI_le c_45 rfl (by decide)
              refine lv_iconst (v := 0) hx hb dX9_fill_92 (by decide) ?_
              refine lv_istore (lv' := [(6, .int 0), (5, .int x_43), (0, .ref (am 0)), (1, .int tt), (2, .int a), (3, .int b), (4, .int d)]) hx hb dX9_fill_93 hl (by decide) rfl (fun ls hl => ?_)
              have loop95_46 : ∀ (n : Nat) (i6 : Int32) (w_f_heap_95 : Nat → Int64) (w_f_values_95 : Nat → Int64) (w_f_isOne_95 : Nat → Int32) (w_v_places_95 : Int32) (w_f_placeTrait_95 : Nat → Int32) (w_f_placePerson_95 : Nat → Int32) (w_f_placeMoment_95 : Nat → Int32) (w_f_placeValue_95 : Nat → Int64) (w_f_isFilled_95 : Nat → Int32) (H : Heap) (locs : List Loc) (ls : Array Slot), 41 - i6.toInt < (n : Int) → (0 ≤ i6.toInt ∧ i6.toInt ≤ 41) → (0 ≤ w_v_places_95.toInt ∧ w_v_places_95.toInt ≤ 2000) → (i6.toInt ≤ ((b - a) / d : Int32).toInt + 1) → (w_v_places_95.toInt = v_places.toInt + i6.toInt * r_39.toInt) → va_P (dC, dI) vwCl [((am 6), .inl (cA 2, 400, .inl f_isGone)), ((am 2), .inl (cA 0, 400, .inl f_rowStream)), ((am 19), .inl (cA 2, 20, .inl w_f_isOne_95)), ((am 1), .inl (cA 0, 400, .inl f_rowPerson)), ((am 3), .inl (cA 0, 400, .inl f_rowMoment)), ((am 4), .inl (cA 0, 400, .inl f_rowKnown)), ((am 5), .inl (cA 0, 400, .inl f_rowValue)), ((am 12), .inl (cA 0, 20, .inl f_size0)), ((am 13), .inl (cA 0, 5000, .inl f_step)), ((am 14), .inl (cA 0, 5000, .inl f_stepA)), ((am 15), .inl (cA 0, 5000, .inl f_stepB)), ((am 16), .inl (cA 0, 5000, .inl f_stepC)), ((am 18), .inl (cA 1, 250, .inr (.inl w_f_heap_95))), ((am 17), .inl (cA 1, 20, .inr (.inl w_f_values_95))), ((am 7), .inl (cA 0, 20, .inl f_mergeTo)), ((am 8), .inl (cA 0, 20, .inl f_mergeKnown)), ((am 28), .inl (cA 0, 2000, .inl w_f_placeTrait_95)), ((am 29), .inl (cA 0, 2000, .inl w_f_placePerson_95)), ((am 30), .inl (cA 0, 2000, .inl w_f_placeMoment_95)), ((am 31), .inl (cA 1, 2000, .inr (.inl w_f_placeValue_95))), ((am 32), .inl (cA 2, 2000, .inl w_f_isFilled_95)), ((am 0), .inr (9, F9 am v_status v_now v_told v_merges v_taped v_size v_from v_to v_fault v_readFault v_traits v_length v_open v_leaks w_v_places_95 v_models)), ((am 9), .inl (cA 2, 20, .inl f_isErased))] H → va_D A [((am 6), .inl (cA 2, 400, .inl f_isGone)), ((am 2), .inl (cA 0, 400, .inl f_rowStream)), ((am 19), .inl (cA 2, 20, .inl w_f_isOne_95)), ((am 1), .inl (cA 0, 400, .inl f_rowPerson)), ((am 3), .inl (cA 0, 400, .inl f_rowMoment)), ((am 4), .inl (cA 0, 400, .inl f_rowKnown)), ((am 5), .inl (cA 0, 400, .inl f_rowValue)), ((am 12), .inl (cA 0, 20, .inl f_size0)), ((am 13), .inl (cA 0, 5000, .inl f_step)), ((am 14), .inl (cA 0, 5000, .inl f_stepA)), ((am 15), .inl (cA 0, 5000, .inl f_stepB)), ((am 16), .inl (cA 0, 5000, .inl f_stepC)), ((am 18), .inl (cA 1, 250, .inr (.inl w_f_heap_95))), ((am 17), .inl (cA 1, 20, .inr (.inl w_f_values_95))), ((am 7), .inl (cA 0, 20, .inl f_mergeTo)), ((am 8), .inl (cA 0, 20, .inl f_mergeKnown)), ((am 28), .inl (cA 0, 2000, .inl w_f_placeTrait_95)), ((am 29), .inl (cA 0, 2000, .inl w_f_placePerson_95)), ((am 30), .inl (cA 0, 2000, .inl w_f_placeMoment_95)), ((am 31), .inl (cA 1, 2000, .inr (.inl w_f_placeValue_95))), ((am 32), .inl (cA 2, 2000, .inl w_f_isFilled_95)), ((am 0), .inr (9, F9 am v_status v_now v_told v_merges v_taped v_size v_from v_to v_fault v_readFault v_traits v_length v_open v_leaks w_v_places_95 v_models)), ((am 9), .inl (cA 2, 20, .inl f_isErased))] → va_S A s.heap H locs → lv_has ls 8 [(6, .int i6), (5, .int x_43), (0, .ref (am 0)), (1, .int tt), (2, .int a), (3, .int b), (4, .int d)] → W p l e ({ frames := 4, cells := 0, slots := 0, locals := 107 }) s m ([.ref (am 0), .int tt, .int a, .int b, .int d] : List Value).toArray below meth c H locs 0 0 QQ (F0 m 95 ls []) := by
                intro n
                induction n with
                | zero => intro i6 w_f_heap_95 w_f_values_95 w_f_isOne_95 w_v_places_95 w_f_placeTrait_95 w_f_placePerson_95 w_f_placeMoment_95 w_f_placeValue_95 w_f_isFilled_95 H locs ls hme hv0_95 hv1_95 hv2_95 hv3_95; exfalso; omega
                | succ n ih_95 =>
                  intro i6 w_f_heap_95 w_f_values_95 w_f_isOne_95 w_v_places_95 w_f_placeTrait_95 w_f_placePerson_95 w_f_placeMoment_95 w_f_placeValue_95 w_f_isFilled_95 H locs ls hme_95 hv0_95 hv1_95 hv2_95 hv3_95 hP hD hS hl
                  refine lv_iload hx hb dX9_fill_95 (lv_at hl 0 rfl) ?_
                  refine lv_iload_n hx hb dX9_fill_97 rfl (lv_at hl 5 rfl) ?_
                  refine lv_iload_n hx hb dX9_fill_98 rfl (lv_at hl 4 rfl) ?_
                  refine lv_isub hx hb dX9_fill_99 ?_
                  refine lv_topi (fun x_47 ex_47 => ?_)
                  have dx_47 : x_47.toInt = b.toInt - a.toInt := by rw [ex_47]; exact jI_sub rfl rfl (by omega) (by omega)
                  refine lv_iload hx hb dX9_fill_100 (lv_at hl 6 rfl) ?_
                  refine lv_idiv hx hb dX9_fill_102 (jI_ne0 (by omega)) ?_
                  refine lv_topi (fun x_48 ex_48 => ?_)
                  have dx_48 : 0 ≤ x_48.toInt ∧ x_48.toInt ≤ x_47.toInt := by rw [ex_48]; exact jI_divle rfl rfl (by omega) (by omega)
                  have hq_49 : x_48.toInt = ((b - a) / d : Int32).toInt := by rw [ex_48]; congr 2
                  refine lv_icmp_gt (tgt := 174) hx hb dX9_fill_103 (by decide) (fun c_50 => ?_) (fun c_50 => ?_)
                  · have dc_50 : x_48.toInt < i6.toInt := jI_lt c_50 rfl rfl
                    refine lv_aload_n hx hb dX9_fill_174 rfl (lv_at hl 2 rfl) ?_
                    refine lv_iload hx hb dX9_fill_175 (lv_at hl 1 rfl) ?_
                    obtain ⟨hPc, hDc, hFc, hCc⟩ := va_pre (ws' := [((am 0), .inr (9, F9 am v_status v_now v_told v_merges v_taped v_size v_from v_to v_fault v_readFault v_traits v_length v_open v_leaks w_v_places_95 v_models))]) hP hD hS hA [21] (by decide) rfl
                    refine va_calli (va_runV (As := [.int x_43]) (rest := []) ⟨hx, hb, hml, hown, hts⟩ (k_X9_ends l dC dI cA H.size am v_status v_now v_told v_merges v_taped v_size v_from v_to v_fault v_readFault v_traits v_length v_open v_leaks w_v_places_95 v_models x_43 i_v_now i_v_told i_v_taped i_v_size i_v_from i_v_to i_v_traits i_v_length i_v_open hv1_95 i_v_models) (cwV 1 hts gX9_fill_X9_ends rfl rfl rfl (by decide +kernel) ⟨Nat.le_of_ble_eq_true rfl, Nat.le_of_ble_eq_true rfl⟩) ⟨fun a U g mk q => by obtain ⟨q0, q1, qP, qK, qD, qN⟩ := q; exact ⟨q0, q1, qP, va_K.moved (u := U) (U := U.calling g mk a) (Vm.Alike.refl U.vm) qK, qD, qN.same rfl⟩, va_recv hK hPc (ci := 9) (q0 := 0) rfl rfl, fun U hU hW => ⟨rfl, by rw [hU], by rw [hU]; exact hPc, va_K.moved hW.alike hK, hDc.weaken (fun _ _ _ _ => trivial), hN.warm hW⟩⟩ rfl rfl hl.1 rfl (lv_room (Nat.le_of_ble_eq_true rfl)) dX9_fill_177 ⟨Nat.le_of_ble_eq_true rfl, Nat.le_of_ble_eq_true rfl⟩) hS (fun q _ h => hFc q h) hFc (fun r_51 u_52 t H1 locs ht hvm hw_53 hB hz1 hk1 hS => ?_)
                    obtain ⟨w_54, rfl⟩ : ∃ z, z = u_52 := ⟨_, rfl⟩
                    try dsimp only at hw_53 hB
                    have hr9 := hw_53
                    clear hw_53
                    obtain ⟨hP1, hD1⟩ := hB
                    rw [ht] at hP1
                    obtain ⟨hP, hD⟩ := va_join (wr := [((am 6), .inl (cA 2, 400, .inl f_isGone)), ((am 2), .inl (cA 0, 400, .inl f_rowStream)), ((am 19), .inl (cA 2, 20, .inl w_f_isOne_95)), ((am 1), .inl (cA 0, 400, .inl f_rowPerson)), ((am 3), .inl (cA 0, 400, .inl f_rowMoment)), ((am 4), .inl (cA 0, 400, .inl f_rowKnown)), ((am 5), .inl (cA 0, 400, .inl f_rowValue)), ((am 12), .inl (cA 0, 20, .inl f_size0)), ((am 13), .inl (cA 0, 5000, .inl f_step)), ((am 14), .inl (cA 0, 5000, .inl f_stepA)), ((am 15), .inl (cA 0, 5000, .inl f_stepB)), ((am 16), .inl (cA 0, 5000, .inl f_stepC)), ((am 18), .inl (cA 1, 250, .inr (.inl w_f_heap_95))), ((am 17), .inl (cA 1, 20, .inr (.inl w_f_values_95))), ((am 7), .inl (cA 0, 20, .inl f_mergeTo)), ((am 8), .inl (cA 0, 20, .inl f_mergeKnown)), ((am 28), .inl (cA 0, 2000, .inl w_f_placeTrait_95)), ((am 29), .inl (cA 0, 2000, .inl w_f_placePerson_95)), ((am 30), .inl (cA 0, 2000, .inl w_f_placeMoment_95)), ((am 31), .inl (cA 1, 2000, .inr (.inl w_f_placeValue_95))), ((am 32), .inl (cA 2, 2000, .inl w_f_isFilled_95)), ((am 9), .inl (cA 2, 20, .inl f_isErased))]) (w1 := [((am 0), .inr (9, F9 am w_54 v_now v_told v_merges v_taped v_size v_from v_to v_fault v_readFault v_traits v_length v_open v_leaks w_v_places_95 v_models))]) hP hD [21] [0, 1, 2, 3, 4, 5, 6, 7, 8, 9, 10, 11, 12, 13, 14, 15, 16, 17, 18, 19, 20, 22] hCc rfl (by decide) (by decide) hk1 hFc hP1 hD1
                    clear hz1
                    generalize H1 = H at hP hS ⊢
                    obtain rfl : x_43 = r_51 := hr9.symm
                    obtain ⟨hP9, hD9⟩ := va_pd (ws' := [((am 0), .inr (9, F9 am w_54 v_now v_told v_merges v_taped v_size v_from v_to v_fault v_readFault v_traits v_length v_open v_leaks w_v_places_95 v_models)), ((am 6), .inl (cA 2, 400, .inl f_isGone)), ((am 2), .inl (cA 0, 400, .inl f_rowStream)), ((am 19), .inl (cA 2, 20, .inl w_f_isOne_95)), ((am 1), .inl (cA 0, 400, .inl f_rowPerson)), ((am 3), .inl (cA 0, 400, .inl f_rowMoment)), ((am 4), .inl (cA 0, 400, .inl f_rowKnown)), ((am 5), .inl (cA 0, 400, .inl f_rowValue)), ((am 12), .inl (cA 0, 20, .inl f_size0)), ((am 13), .inl (cA 0, 5000, .inl f_step)), ((am 14), .inl (cA 0, 5000, .inl f_stepA)), ((am 15), .inl (cA 0, 5000, .inl f_stepB)), ((am 16), .inl (cA 0, 5000, .inl f_stepC)), ((am 18), .inl (cA 1, 250, .inr (.inl w_f_heap_95))), ((am 17), .inl (cA 1, 20, .inr (.inl w_f_values_95))), ((am 7), .inl (cA 0, 20, .inl f_mergeTo)), ((am 8), .inl (cA 0, 20, .inl f_mergeKnown)), ((am 28), .inl (cA 0, 2000, .inl w_f_placeTrait_95)), ((am 29), .inl (cA 0, 2000, .inl w_f_placePerson_95)), ((am 30), .inl (cA 0, 2000, .inl w_f_placeMoment_95)), ((am 31), .inl (cA 1, 2000, .inr (.inl w_f_placeValue_95))), ((am 32), .inl (cA 2, 2000, .inl w_f_isFilled_95)), ((am 9), .inl (cA 2, 20, .inl f_isErased))]) hP hD [22, 0, 1, 2, 3, 4, 5, 6, 7, 8, 9, 10, 11, 12, 13, 14, 15, 16, 17, 18, 19, 20, 21] (by decide) rfl
                    subst hQe
                    have hans : (x_43 : Int32).toInt = x_43.toInt := rfl
                    have hpost : (0 ≤ w_v_places_95.toInt ∧ w_v_places_95.toInt ≤ 2000) := hv1_95
                    exact W.iret (v := x_43) hx hb hr (fun t ht hW => ⟨⟨x_43, (w_f_heap_95, w_f_values_95, w_f_isOne_95, w_v_places_95, w_f_placeTrait_95, w_f_placePerson_95, w_f_placeMoment_95, w_f_placeValue_95, w_f_isFilled_95, w_54), rfl, hpost, by rw [ht]; exact hP9, hD9⟩, hS.F ht⟩) hS.2.2 dX9_fill_180
                  · have dc_50 : i6.toInt ≤ x_48.toInt := jI_nlt c_50 rfl rfl
                    refine lv_iconst (v := 0) hx hb dX9_fill_106 (by decide) ?_
                    refine lv_istore (lv' := [(7, .int 0), (6, .int i6), (5, .int x_43), (0, .ref (am 0)), (1, .int tt), (2, .int a), (3, .int b), (4, .int d)]) hx hb dX9_fill_107 hl (by decide) rfl (fun ls hl => ?_)
                    have loop109_55 : ∀ (n : Nat) (i7 : Int32) (w_f_heap_109 : Nat → Int64) (w_f_values_109 : Nat → Int64) (w_f_isOne_109 : Nat → Int32) (w_v_places_109 : Int32) (w_f_placeTrait_109 : Nat → Int32) (w_f_placePerson_109 : Nat → Int32) (w_f_placeMoment_109 : Nat → Int32) (w_f_placeValue_109 : Nat → Int64) (w_f_isFilled_109 : Nat → Int32) (H : Heap) (locs : List Loc) (ls : Array Slot), 20 - i7.toInt < (n : Int) → (0 ≤ i7.toInt ∧ i7.toInt ≤ 20) → (0 ≤ w_v_places_109.toInt ∧ w_v_places_109.toInt ≤ 2000) → (w_v_places_109.toInt = v_places.toInt + i6.toInt * r_39.toInt + (liv f_isErased i7.toInt.toNat : Int)) → va_P (dC, dI) vwCl [((am 6), .inl (cA 2, 400, .inl f_isGone)), ((am 2), .inl (cA 0, 400, .inl f_rowStream)), ((am 19), .inl (cA 2, 20, .inl w_f_isOne_109)), ((am 1), .inl (cA 0, 400, .inl f_rowPerson)), ((am 3), .inl (cA 0, 400, .inl f_rowMoment)), ((am 4), .inl (cA 0, 400, .inl f_rowKnown)), ((am 5), .inl (cA 0, 400, .inl f_rowValue)), ((am 12), .inl (cA 0, 20, .inl f_size0)), ((am 13), .inl (cA 0, 5000, .inl f_step)), ((am 14), .inl (cA 0, 5000, .inl f_stepA)), ((am 15), .inl (cA 0, 5000, .inl f_stepB)), ((am 16), .inl (cA 0, 5000, .inl f_stepC)), ((am 18), .inl (cA 1, 250, .inr (.inl w_f_heap_109))), ((am 17), .inl (cA 1, 20, .inr (.inl w_f_values_109))), ((am 7), .inl (cA 0, 20, .inl f_mergeTo)), ((am 8), .inl (cA 0, 20, .inl f_mergeKnown)), ((am 28), .inl (cA 0, 2000, .inl w_f_placeTrait_109)), ((am 29), .inl (cA 0, 2000, .inl w_f_placePerson_109)), ((am 30), .inl (cA 0, 2000, .inl w_f_placeMoment_109)), ((am 31), .inl (cA 1, 2000, .inr (.inl w_f_placeValue_109))), ((am 32), .inl (cA 2, 2000, .inl w_f_isFilled_109)), ((am 0), .inr (9, F9 am v_status v_now v_told v_merges v_taped v_size v_from v_to v_fault v_readFault v_traits v_length v_open v_leaks w_v_places_109 v_models)), ((am 9), .inl (cA 2, 20, .inl f_isErased))] H → va_D A [((am 6), .inl (cA 2, 400, .inl f_isGone)), ((am 2), .inl (cA 0, 400, .inl f_rowStream)), ((am 19), .inl (cA 2, 20, .inl w_f_isOne_109)), ((am 1), .inl (cA 0, 400, .inl f_rowPerson)), ((am 3), .inl (cA 0, 400, .inl f_rowMoment)), ((am 4), .inl (cA 0, 400, .inl f_rowKnown)), ((am 5), .inl (cA 0, 400, .inl f_rowValue)), ((am 12), .inl (cA 0, 20, .inl f_size0)), ((am 13), .inl (cA 0, 5000, .inl f_step)), ((am 14), .inl (cA 0, 5000, .inl f_stepA)), ((am 15), .inl (cA 0, 5000, .inl f_stepB)), ((am 16), .inl (cA 0, 5000, .inl f_stepC)), ((am 18), .inl (cA 1, 250, .inr (.inl w_f_heap_109))), ((am 17), .inl (cA 1, 20, .inr (.inl w_f_values_109))), ((am 7), .inl (cA 0, 20, .inl f_mergeTo)), ((am 8), .inl (cA 0, 20, .inl f_mergeKnown)), ((am 28), .inl (cA 0, 2000, .inl w_f_placeTrait_109)), ((am 29), .inl (cA 0, 2000, .inl w_f_placePerson_109)), ((am 30), .inl (cA 0, 2000, .inl w_f_placeMoment_109)), ((am 31), .inl (cA 1, 2000, .inr (.inl w_f_placeValue_109))), ((am 32), .inl (cA 2, 2000, .inl w_f_isFilled_109)), ((am 0), .inr (9, F9 am v_status v_now v_told v_merges v_taped v_size v_from v_to v_fault v_readFault v_traits v_length v_open v_leaks w_v_places_109 v_models)), ((am 9), .inl (cA 2, 20, .inl f_isErased))] → va_S A s.heap H locs → lv_has ls 8 [(7, .int i7), (6, .int i6), (5, .int x_43), (0, .ref (am 0)), (1, .int tt), (2, .int a), (3, .int b), (4, .int d)] → W p l e ({ frames := 4, cells := 0, slots := 0, locals := 107 }) s m ([.ref (am 0), .int tt, .int a, .int b, .int d] : List Value).toArray below meth c H locs 0 0 QQ (F0 m 109 ls []) := by
                      intro n
                      induction n with
                      | zero => intro i7 w_f_heap_109 w_f_values_109 w_f_isOne_109 w_v_places_109 w_f_placeTrait_109 w_f_placePerson_109 w_f_placeMoment_109 w_f_placeValue_109 w_f_isFilled_109 H locs ls hme hv0_109 hv1_109 hv2_109; exfalso; omega
                      | succ n ih_109 =>
                        intro i7 w_f_heap_109 w_f_values_109 w_f_isOne_109 w_v_places_109 w_f_placeTrait_109 w_f_placePerson_109 w_f_placeMoment_109 w_f_placeValue_109 w_f_isFilled_109 H locs ls hme_109 hv0_109 hv1_109 hv2_109 hP hD hS hl
                        refine lv_iload hx hb dX9_fill_109 (lv_at hl 0 rfl) ?_
                        refine lv_bipush (v := 20) hx hb dX9_fill_111 (by decide) ?_
                        refine lv_icmp_ge (tgt := 168) hx hb dX9_fill_113 (by decide) (fun c_56 => ?_) (fun c_56 => ?_)
                        · have dc_56 : 20 ≤ i7.toInt := jI_le c_56 (by decide) rfl
                          obtain ⟨x_57, ex_57⟩ : ∃ y : Int32, y = i6 + 1 := ⟨_, rfl⟩
                          have dx_57 : x_57.toInt = i6.toInt + 1 := by rw [ex_57]; exact jI_add rfl (by decide) (by omega) (by omega)
                          refine lv_iinc (v := x_57) (lv' := [(6, .int x_57), (7, .int i7), (5, .int x_43), (0, .ref (am 0)), (1, .int tt), (2, .int a), (3, .int b), (4, .int d)]) hx hb dX9_fill_168 hl (k := 1) rfl (by rw [ex_57]; rfl) (by decide) rfl (fun ls hl => ?_)
                          refine lv_goto (tgt := 95) hx hb dX9_fill_171 (by decide) ?_
                          exact ih_95 x_57 w_f_heap_109 w_f_values_109 w_f_isOne_109 w_v_places_109 w_f_placeTrait_109 w_f_placePerson_109 w_f_placeMoment_109 w_f_placeValue_109 w_f_isFilled_109 _ _ ls (by omega) (by omega) hv1_109 (by omega) (by have e9 := fill_next i6.toInt r_39.toInt; have e8 : x_57.toInt = i6.toInt + 1 := (by omega); have e7 : i7.toInt.toNat = 20 := (by omega); rw [e8]; rw [e7] at hv2_109; omega) (hP.sub [0, 1, 2, 3, 4, 5, 6, 7, 8, 9, 10, 11, 12, 13, 14, 15, 16, 17, 18, 19, 20, 21, 22] rfl) (hD.sub [0, 1, 2, 3, 4, 5, 6, 7, 8, 9, 10, 11, 12, 13, 14, 15, 16, 17, 18, 19, 20, 21, 22] (by decide) rfl) hS (lv_sub hl [0, 2, 3, 4, 5, 6, 7] rfl)
                        · have dc_56 : i7.toInt < 20 := jI_nle c_56 (by decide) rfl
                          refine lv_aload_n hx hb dX9_fill_116 rfl (lv_at hl 3 rfl) ?_
                          refine va_get (D := (dC, dI)) (ci := 9) (v := .ref (am 9)) (C := RX9) (T := TX9) (N := 51) hx hb hts hIX9 hown hK hP 21 rfl rfl 12 (by decide) (hts (.fieldLink RX9 35 "TraitHouseModel" "isErased" "[Z") (by decide +kernel)) (fun _ h9 => h9) rfl dX9_fill_117 ?_
                          refine lv_iload hx hb dX9_fill_120 (lv_at hl 0 rfl) ?_
                          have h_58 : vp_in i7 20 := (vp_in_iff.mpr ⟨by omega, by omega⟩)
                          refine va_zald hx hb hK hP 22 2 rfl rfl h_58 dX9_fill_122 ?_
                          refine lv_topi (fun x_59 ex_59 => ?_)
                          refine lv_if_ne (tgt := 162) hx hb dX9_fill_123 (by decide) (fun c_60 => ?_) (fun c_60 => ?_)
                          · have dc_60 : ¬ x_59.toInt = 0 := jI_ne c_60 rfl (by decide)
                            obtain ⟨x_61, ex_61⟩ : ∃ y : Int32, y = i7 + 1 := ⟨_, rfl⟩
                            have dx_61 : x_61.toInt = i7.toInt + 1 := by rw [ex_61]; exact jI_add rfl (by decide) (by omega) (by omega)
                            refine lv_iinc (v := x_61) (lv' := [(7, .int x_61), (6, .int i6), (5, .int x_43), (0, .ref (am 0)), (1, .int tt), (2, .int a), (3, .int b), (4, .int d)]) hx hb dX9_fill_162 hl (k := 0) rfl (by rw [ex_61]; rfl) (by decide) rfl (fun ls hl => ?_)
                            refine lv_goto (tgt := 109) hx hb dX9_fill_165 (by decide) ?_
                            exact ih_109 x_61 w_f_heap_109 w_f_values_109 w_f_isOne_109 w_v_places_109 w_f_placeTrait_109 w_f_placePerson_109 w_f_placeMoment_109 w_f_placeValue_109 w_f_isFilled_109 _ _ ls (by omega) (by omega) hv1_109 (by have e9 := liv_up (p2 := w_v_places_109.toInt - v_places.toInt - i6.toInt * r_39.toInt) (P := w_v_places_109.toInt - v_places.toInt - i6.toInt * r_39.toInt) (f := f_isErased) (i := i7) (j := x_61) (by omega) (by omega) ex_59 (by omega) (by omega); omega) (hP.sub [0, 1, 2, 3, 4, 5, 6, 7, 8, 9, 10, 11, 12, 13, 14, 15, 16, 17, 18, 19, 20, 21, 22] rfl) (hD.sub [0, 1, 2, 3, 4, 5, 6, 7, 8, 9, 10, 11, 12, 13, 14, 15, 16, 17, 18, 19, 20, 21, 22] (by decide) rfl) hS (lv_sub hl [0, 1, 2, 3, 4, 5, 6, 7] rfl)
                          · have dc_60 : x_59.toInt = 0 := jI_eq c_60 rfl (by decide)
                            refine lv_aload_n hx hb dX9_fill_126 rfl (lv_at hl 3 rfl) ?_
                            refine lv_iload_n hx hb dX9_fill_127 rfl (lv_at hl 4 rfl) ?_
                            refine lv_iload hx hb dX9_fill_128 (lv_at hl 0 rfl) ?_
                            refine lv_iload_n hx hb dX9_fill_130 rfl (lv_at hl 5 rfl) ?_
                            refine lv_iload hx hb dX9_fill_131 (lv_at hl 1 rfl) ?_
                            refine lv_iload hx hb dX9_fill_133 (lv_at hl 7 rfl) ?_
                            refine lv_imul hx hb dX9_fill_135 ?_
                            refine lv_topi (fun x_62 ex_62 => ?_)
                            refine lv_iadd hx hb dX9_fill_136 ?_
                            refine lv_topi (fun x_63 ex_63 => ?_)
                            refine lv_aload_n hx hb dX9_fill_137 rfl (lv_at hl 3 rfl) ?_
                            refine lv_iload_n hx hb dX9_fill_138 rfl (lv_at hl 4 rfl) ?_
                            refine lv_iload hx hb dX9_fill_139 (lv_at hl 0 rfl) ?_
                            refine lv_iload_n hx hb dX9_fill_141 rfl (lv_at hl 5 rfl) ?_
                            refine lv_iload hx hb dX9_fill_142 (lv_at hl 1 rfl) ?_
                            refine lv_iload hx hb dX9_fill_144 (lv_at hl 7 rfl) ?_
                            refine lv_imul hx hb dX9_fill_146 ?_
                            refine lv_topi (fun x_64 ex_64 => ?_)
                            refine lv_iadd hx hb dX9_fill_147 ?_
                            refine lv_topi (fun x_65 ex_65 => ?_)
                            refine lv_iload_n hx hb dX9_fill_148 rfl (lv_at hl 5 rfl) ?_
                            refine lv_iload hx hb dX9_fill_149 (lv_at hl 1 rfl) ?_
                            refine lv_iload hx hb dX9_fill_151 (lv_at hl 7 rfl) ?_
                            refine lv_imul hx hb dX9_fill_153 ?_
                            refine lv_topi (fun x_66 ex_66 => ?_)
                            refine lv_iadd hx hb dX9_fill_154 ?_
                            refine lv_topi (fun x_67 ex_67 => ?_)
                            obtain ⟨hPc, hDc, hFc, hCc⟩ := va_pre (ws' := [((am 0), .inr (9, F9 am v_status v_now v_told v_merges v_taped v_size v_from v_to v_fault v_readFault v_traits v_length v_open v_leaks w_v_places_109 v_models)), ((am 6), .inl (cA 2, 400, .inl f_isGone)), ((am 2), .inl (cA 0, 400, .inl f_rowStream)), ((am 19), .inl (cA 2, 20, .inl w_f_isOne_109)), ((am 1), .inl (cA 0, 400, .inl f_rowPerson)), ((am 3), .inl (cA 0, 400, .inl f_rowMoment)), ((am 4), .inl (cA 0, 400, .inl f_rowKnown)), ((am 5), .inl (cA 0, 400, .inl f_rowValue)), ((am 12), .inl (cA 0, 20, .inl f_size0)), ((am 13), .inl (cA 0, 5000, .inl f_step)), ((am 14), .inl (cA 0, 5000, .inl f_stepA)), ((am 15), .inl (cA 0, 5000, .inl f_stepB)), ((am 16), .inl (cA 0, 5000, .inl f_stepC)), ((am 18), .inl (cA 1, 250, .inr (.inl w_f_heap_109))), ((am 17), .inl (cA 1, 20, .inr (.inl w_f_values_109))), ((am 7), .inl (cA 0, 20, .inl f_mergeTo)), ((am 8), .inl (cA 0, 20, .inl f_mergeKnown))]) hP hD hS hA [21, 0, 1, 2, 3, 4, 5, 6, 7, 8, 9, 10, 11, 12, 13, 14, 15] (by decide) rfl
                            refine va_calll (va_runV (As := [.int tt, .int i7, .int x_65, .int x_67]) (rest := [.int x_63, .int i7, .int tt, .ref (am 0)]) ⟨hx, hb, hml, hown, hts⟩ (k_X9_valueOf l dC dI cA H.size am v_status v_now v_told v_merges v_taped v_size v_from v_to v_fault v_readFault v_traits v_length v_open v_leaks w_v_places_109 v_models f_isGone f_rowStream w_f_isOne_109 f_rowPerson f_rowMoment f_rowKnown f_rowValue f_size0 f_step f_stepA f_stepB f_stepC w_f_heap_109 w_f_values_109 f_mergeTo f_mergeKnown tt i7 x_65 x_67 i_v_now i_v_told i_v_taped i_v_size i_v_from i_v_to i_v_traits i_v_length i_v_open hv1_109 i_v_models i_f_rowPerson i_f_size0 i_f_mergeTo i_f_mergeKnown hac hpr (by omega) (by omega)) (cwV 4 hts gX9_fill_X9_valueOf rfl rfl rfl (by decide +kernel) ⟨Nat.le_of_ble_eq_true rfl, Nat.le_of_ble_eq_true rfl⟩) ⟨fun a U g mk q => by obtain ⟨q0, q1, qP, qK, qD, qN⟩ := q; exact ⟨q0, q1, qP, va_K.moved (u := U) (U := U.calling g mk a) (Vm.Alike.refl U.vm) qK, qD, qN.same rfl⟩, va_recv hK hPc (ci := 9) (q0 := 0) rfl rfl, fun U hU hW => ⟨rfl, by rw [hU], by rw [hU]; exact hPc, va_K.moved hW.alike hK, hDc.weaken (fun _ _ _ _ => trivial), hN.warm hW⟩⟩ rfl rfl hl.1 rfl (lv_room (Nat.le_of_ble_eq_true rfl)) dX9_fill_155 ⟨Nat.le_of_ble_eq_true rfl, Nat.le_of_ble_eq_true rfl⟩) hS (fun q _ h => hFc q h) hFc (fun r_68 u_69 t H1 locs ht hvm hw_70 hB hz1 hk1 hS => ?_)
                            obtain ⟨w_71, w_72, w_73⟩ := u_69
                            try dsimp only at hw_70 hB
                            obtain ⟨hP1, hD1⟩ := hB
                            rw [ht] at hP1
                            obtain ⟨hP, hD⟩ := va_join (wr := [((am 28), .inl (cA 0, 2000, .inl w_f_placeTrait_109)), ((am 29), .inl (cA 0, 2000, .inl w_f_placePerson_109)), ((am 30), .inl (cA 0, 2000, .inl w_f_placeMoment_109)), ((am 31), .inl (cA 1, 2000, .inr (.inl w_f_placeValue_109))), ((am 32), .inl (cA 2, 2000, .inl w_f_isFilled_109)), ((am 9), .inl (cA 2, 20, .inl f_isErased))]) (w1 := [((am 0), .inr (9, F9 am v_status v_now v_told v_merges v_taped v_size v_from v_to v_fault v_readFault v_traits v_length v_open v_leaks w_v_places_109 v_models)), ((am 6), .inl (cA 2, 400, .inl f_isGone)), ((am 2), .inl (cA 0, 400, .inl f_rowStream)), ((am 19), .inl (cA 2, 20, .inl w_73)), ((am 1), .inl (cA 0, 400, .inl f_rowPerson)), ((am 3), .inl (cA 0, 400, .inl f_rowMoment)), ((am 4), .inl (cA 0, 400, .inl f_rowKnown)), ((am 5), .inl (cA 0, 400, .inl f_rowValue)), ((am 12), .inl (cA 0, 20, .inl f_size0)), ((am 13), .inl (cA 0, 5000, .inl f_step)), ((am 14), .inl (cA 0, 5000, .inl f_stepA)), ((am 15), .inl (cA 0, 5000, .inl f_stepB)), ((am 16), .inl (cA 0, 5000, .inl f_stepC)), ((am 18), .inl (cA 1, 250, .inr (.inl w_71))), ((am 17), .inl (cA 1, 20, .inr (.inl w_72))), ((am 7), .inl (cA 0, 20, .inl f_mergeTo)), ((am 8), .inl (cA 0, 20, .inl f_mergeKnown))]) hP hD [21, 0, 1, 2, 3, 4, 5, 6, 7, 8, 9, 10, 11, 12, 13, 14, 15] [16, 17, 18, 19, 20, 22] hCc rfl (by decide) (by decide) hk1 hFc hP1 hD1
                            clear hz1
                            generalize H1 = H at hP hS ⊢
                            refine lv_iconst (v := 1) hx hb dX9_fill_158 (by decide) ?_
                            have hl9 := liv_in (f := f_isErased) (by omega) (by omega) ex_59 (by omega)
                            have hr9 := fill_room (L := r_39.toInt) (show i6.toInt ≤ ((b - a) / d : Int32).toInt by omega) (by omega)
                            have hk_74 : (1 : Int32).toInt = 1 := by decide
                            obtain ⟨hPc, hDc, hFc, hCc⟩ := va_pre (ws' := [((am 0), .inr (9, F9 am v_status v_now v_told v_merges v_taped v_size v_from v_to v_fault v_readFault v_traits v_length v_open v_leaks w_v_places_109 v_models)), ((am 28), .inl (cA 0, 2000, .inl w_f_placeTrait_109)), ((am 29), .inl (cA 0, 2000, .inl w_f_placePerson_109)), ((am 30), .inl (cA 0, 2000, .inl w_f_placeMoment_109)), ((am 31), .inl (cA 1, 2000, .inr (.inl w_f_placeValue_109))), ((am 32), .inl (cA 2, 2000, .inl w_f_isFilled_109))]) hP hD hS hA [6, 0, 1, 2, 3, 4] (by decide) rfl
                            refine va_callv (va_runV (As := [.int tt, .int i7, .int x_63, .long r_68, .int 1]) (rest := []) ⟨hx, hb, hml, hown, hts⟩ (k_X9_lays l dC dI cA H.size am v_status v_now v_told v_merges v_taped v_size v_from v_to v_fault v_readFault v_traits v_length v_open v_leaks w_v_places_109 v_models w_f_placeTrait_109 w_f_placePerson_109 w_f_placeMoment_109 w_f_placeValue_109 w_f_isFilled_109 tt i7 x_63 r_68 1 i_v_now i_v_told i_v_taped i_v_size i_v_from i_v_to i_v_traits i_v_length i_v_open hv1_109 i_v_models (by omega)) (cwV 5 hts gX9_fill_X9_lays rfl rfl rfl (by decide +kernel) ⟨Nat.le_of_ble_eq_true rfl, Nat.le_of_ble_eq_true rfl⟩) ⟨fun a U g mk q => by obtain ⟨q0, q1, qP, qK, qD, qN⟩ := q; exact ⟨q0, q1, qP, va_K.moved (u := U) (U := U.calling g mk a) (Vm.Alike.refl U.vm) qK, qD, qN.same rfl⟩, va_recv hK hPc (ci := 9) (q0 := 0) rfl rfl, fun U hU hW => ⟨rfl, by rw [hU], by rw [hU]; exact hPc, va_K.moved hW.alike hK, hDc.weaken (fun _ _ _ _ => trivial), hN.warm hW⟩⟩ rfl rfl hl.1 rfl (lv_room (Nat.le_of_ble_eq_true rfl)) dX9_fill_159 ⟨Nat.le_of_ble_eq_true rfl, Nat.le_of_ble_eq_true rfl⟩) hS (fun q _ h => hFc q h) hFc (fun u_75 t H1 locs ht hvm hw_76 hB hz1 hk1 hS => ?_)
                            obtain ⟨w_77, w_78, w_79, w_80, w_81, w_82⟩ := u_75
                            try dsimp only at hw_76 hB
                            obtain ⟨iv_83, po_84⟩ := hw_76
                            try simp only [hk_74] at po_84
                            obtain ⟨hP1, hD1⟩ := hB
                            rw [ht] at hP1
                            obtain ⟨hP, hD⟩ := va_join (wr := [((am 9), .inl (cA 2, 20, .inl f_isErased)), ((am 6), .inl (cA 2, 400, .inl f_isGone)), ((am 2), .inl (cA 0, 400, .inl f_rowStream)), ((am 19), .inl (cA 2, 20, .inl w_73)), ((am 1), .inl (cA 0, 400, .inl f_rowPerson)), ((am 3), .inl (cA 0, 400, .inl f_rowMoment)), ((am 4), .inl (cA 0, 400, .inl f_rowKnown)), ((am 5), .inl (cA 0, 400, .inl f_rowValue)), ((am 12), .inl (cA 0, 20, .inl f_size0)), ((am 13), .inl (cA 0, 5000, .inl f_step)), ((am 14), .inl (cA 0, 5000, .inl f_stepA)), ((am 15), .inl (cA 0, 5000, .inl f_stepB)), ((am 16), .inl (cA 0, 5000, .inl f_stepC)), ((am 18), .inl (cA 1, 250, .inr (.inl w_71))), ((am 17), .inl (cA 1, 20, .inr (.inl w_72))), ((am 7), .inl (cA 0, 20, .inl f_mergeTo)), ((am 8), .inl (cA 0, 20, .inl f_mergeKnown))]) (w1 := [((am 0), .inr (9, F9 am v_status v_now v_told v_merges v_taped v_size v_from v_to v_fault v_readFault v_traits v_length v_open v_leaks w_77 v_models)), ((am 28), .inl (cA 0, 2000, .inl w_78)), ((am 29), .inl (cA 0, 2000, .inl w_79)), ((am 30), .inl (cA 0, 2000, .inl w_80)), ((am 31), .inl (cA 1, 2000, .inr (.inl w_81))), ((am 32), .inl (cA 2, 2000, .inl w_82))]) hP hD [6, 0, 1, 2, 3, 4] [5, 7, 8, 9, 10, 11, 12, 13, 14, 15, 16, 17, 18, 19, 20, 21, 22] hCc rfl (by decide) (by decide) hk1 hFc hP1 hD1
                            clear hz1
                            generalize H1 = H at hP hS ⊢
                            obtain ⟨x_85, ex_85⟩ : ∃ y : Int32, y = i7 + 1 := ⟨_, rfl⟩
                            have dx_85 : x_85.toInt = i7.toInt + 1 := by rw [ex_85]; exact jI_add rfl (by decide) (by omega) (by omega)
                            refine lv_iinc (v := x_85) (lv' := [(7, .int x_85), (6, .int i6), (5, .int x_43), (0, .ref (am 0)), (1, .int tt), (2, .int a), (3, .int b), (4, .int d)]) hx hb dX9_fill_162 hl (k := 0) rfl (by rw [ex_85]; rfl) (by decide) rfl (fun ls hl => ?_)
                            refine lv_goto (tgt := 109) hx hb dX9_fill_165 (by decide) ?_
                            exact ih_109 x_85 w_71 w_72 w_73 w_77 w_78 w_79 w_80 w_81 w_82 _ _ ls (by omega) (by omega) iv_83 (by have e9 := liv_up (p2 := w_77.toInt - v_places.toInt - i6.toInt * r_39.toInt) (P := w_v_places_109.toInt - v_places.toInt - i6.toInt * r_39.toInt) (f := f_isErased) (i := i7) (j := x_85) (by omega) (by omega) ex_59 (by omega) (by omega); omega) (hP.sub [1, 2, 3, 4, 5, 6, 7, 8, 9, 10, 11, 12, 13, 14, 15, 16, 18, 19, 20, 21, 22, 17, 0] rfl) (hD.sub [1, 2, 3, 4, 5, 6, 7, 8, 9, 10, 11, 12, 13, 14, 15, 16, 18, 19, 20, 21, 22, 17, 0] (by decide) rfl) hS (lv_sub hl [0, 1, 2, 3, 4, 5, 6, 7] rfl)
                    have hk_86 : (0 : Int32).toInt = 0 := by decide
                    exact loop109_55 (Int.toNat (20 - (0 : Int32).toInt) + 1) 0 w_f_heap_95 w_f_values_95 w_f_isOne_95 w_v_places_95 w_f_placeTrait_95 w_f_placePerson_95 w_f_placeMoment_95 w_f_placeValue_95 w_f_isFilled_95 _ _ ls (by omega) (by omega) hv1_95 (by have e0 : (0 : Int32).toInt.toNat = 0 := rfl; rw [e0]; show _ = _ + ((0 : Nat) : Int); omega) hP hD hS (lv_sub hl [0, 1, 2, 3, 4, 5, 6, 7] rfl)
              have hk_87 : (0 : Int32).toInt = 0 := by decide
              exact loop95_46 (Int.toNat (41 - (0 : Int32).toInt) + 1) 0 f_heap f_values f_isOne v_places f_placeTrait f_placePerson f_placeMoment f_placeValue f_isFilled _ _ ls (by omega) (by omega) i_v_places (by omega) (by rw [show (0 : Int32).toInt = 0 from rfl, Int.zero_mul]; omega) hP hD hS (lv_sub hl [0, 1, 2, 3, 4, 5, 6] rfl)
            · have dc_45 : 2000 < x_44.toInt := jI_nle c_45 rfl (by decide)
              refine lv_aload_n hx hb dX9_fill_85 rfl (lv_at hl 1 rfl) ?_
              refine lv_bipush (v := (-5)) hx hb dX9_fill_86 (by decide) ?_
              have hk_88 : ((-5) : Int32).toInt = (-5) := by decide
              obtain ⟨hPc, hDc, hFc, hCc⟩ := va_pre (ws' := [((am 0), .inr (9, F9 am v_status v_now v_told v_merges v_taped v_size v_from v_to v_fault v_readFault v_traits v_length v_open v_leaks v_places v_models))]) hP hD hS hA [21] (by decide) rfl
              refine va_calli (va_runV (As := [.int (-5)]) (rest := []) ⟨hx, hb, hml, hown, hts⟩ (k_X9_ends l dC dI cA H.size am v_status v_now v_told v_merges v_taped v_size v_from v_to v_fault v_readFault v_traits v_length v_open v_leaks v_places v_models (-5) i_v_now i_v_told i_v_taped i_v_size i_v_from i_v_to i_v_traits i_v_length i_v_open i_v_places i_v_models) (cwV 1 hts gX9_fill_X9_ends rfl rfl rfl (by decide +kernel) ⟨Nat.le_of_ble_eq_true rfl, Nat.le_of_ble_eq_true rfl⟩) ⟨fun a U g mk q => by obtain ⟨q0, q1, qP, qK, qD, qN⟩ := q; exact ⟨q0, q1, qP, va_K.moved (u := U) (U := U.calling g mk a) (Vm.Alike.refl U.vm) qK, qD, qN.same rfl⟩, va_recv hK hPc (ci := 9) (q0 := 0) rfl rfl, fun U hU hW => ⟨rfl, by rw [hU], by rw [hU]; exact hPc, va_K.moved hW.alike hK, hDc.weaken (fun _ _ _ _ => trivial), hN.warm hW⟩⟩ rfl rfl hl.1 rfl (lv_room (Nat.le_of_ble_eq_true rfl)) dX9_fill_88 ⟨Nat.le_of_ble_eq_true rfl, Nat.le_of_ble_eq_true rfl⟩) hS (fun q _ h => hFc q h) hFc (fun r_89 u_90 t H1 locs ht hvm hw_91 hB hz1 hk1 hS => ?_)
              obtain ⟨w_92, rfl⟩ : ∃ z, z = u_90 := ⟨_, rfl⟩
              try dsimp only at hw_91 hB
              have hr9 := hw_91
              clear hw_91
              obtain ⟨hP1, hD1⟩ := hB
              rw [ht] at hP1
              obtain ⟨hP, hD⟩ := va_join (wr := [((am 6), .inl (cA 2, 400, .inl f_isGone)), ((am 2), .inl (cA 0, 400, .inl f_rowStream)), ((am 19), .inl (cA 2, 20, .inl f_isOne)), ((am 1), .inl (cA 0, 400, .inl f_rowPerson)), ((am 3), .inl (cA 0, 400, .inl f_rowMoment)), ((am 4), .inl (cA 0, 400, .inl f_rowKnown)), ((am 5), .inl (cA 0, 400, .inl f_rowValue)), ((am 12), .inl (cA 0, 20, .inl f_size0)), ((am 13), .inl (cA 0, 5000, .inl f_step)), ((am 14), .inl (cA 0, 5000, .inl f_stepA)), ((am 15), .inl (cA 0, 5000, .inl f_stepB)), ((am 16), .inl (cA 0, 5000, .inl f_stepC)), ((am 18), .inl (cA 1, 250, .inr (.inl f_heap))), ((am 17), .inl (cA 1, 20, .inr (.inl f_values))), ((am 7), .inl (cA 0, 20, .inl f_mergeTo)), ((am 8), .inl (cA 0, 20, .inl f_mergeKnown)), ((am 28), .inl (cA 0, 2000, .inl f_placeTrait)), ((am 29), .inl (cA 0, 2000, .inl f_placePerson)), ((am 30), .inl (cA 0, 2000, .inl f_placeMoment)), ((am 31), .inl (cA 1, 2000, .inr (.inl f_placeValue))), ((am 32), .inl (cA 2, 2000, .inl f_isFilled)), ((am 9), .inl (cA 2, 20, .inl f_isErased))]) (w1 := [((am 0), .inr (9, F9 am w_92 v_now v_told v_merges v_taped v_size v_from v_to v_fault v_readFault v_traits v_length v_open v_leaks v_places v_models))]) hP hD [21] [0, 1, 2, 3, 4, 5, 6, 7, 8, 9, 10, 11, 12, 13, 14, 15, 16, 17, 18, 19, 20, 22] hCc rfl (by decide) (by decide) hk1 hFc hP1 hD1
              clear hz1
              generalize H1 = H at hP hS ⊢
              obtain rfl : (-5) = r_89 := hr9.symm
              obtain ⟨hP9, hD9⟩ := va_pd (ws' := [((am 0), .inr (9, F9 am w_92 v_now v_told v_merges v_taped v_size v_from v_to v_fault v_readFault v_traits v_length v_open v_leaks v_places v_models)), ((am 6), .inl (cA 2, 400, .inl f_isGone)), ((am 2), .inl (cA 0, 400, .inl f_rowStream)), ((am 19), .inl (cA 2, 20, .inl f_isOne)), ((am 1), .inl (cA 0, 400, .inl f_rowPerson)), ((am 3), .inl (cA 0, 400, .inl f_rowMoment)), ((am 4), .inl (cA 0, 400, .inl f_rowKnown)), ((am 5), .inl (cA 0, 400, .inl f_rowValue)), ((am 12), .inl (cA 0, 20, .inl f_size0)), ((am 13), .inl (cA 0, 5000, .inl f_step)), ((am 14), .inl (cA 0, 5000, .inl f_stepA)), ((am 15), .inl (cA 0, 5000, .inl f_stepB)), ((am 16), .inl (cA 0, 5000, .inl f_stepC)), ((am 18), .inl (cA 1, 250, .inr (.inl f_heap))), ((am 17), .inl (cA 1, 20, .inr (.inl f_values))), ((am 7), .inl (cA 0, 20, .inl f_mergeTo)), ((am 8), .inl (cA 0, 20, .inl f_mergeKnown)), ((am 28), .inl (cA 0, 2000, .inl f_placeTrait)), ((am 29), .inl (cA 0, 2000, .inl f_placePerson)), ((am 30), .inl (cA 0, 2000, .inl f_placeMoment)), ((am 31), .inl (cA 1, 2000, .inr (.inl f_placeValue))), ((am 32), .inl (cA 2, 2000, .inl f_isFilled)), ((am 9), .inl (cA 2, 20, .inl f_isErased))]) hP hD [22, 0, 1, 2, 3, 4, 5, 6, 7, 8, 9, 10, 11, 12, 13, 14, 15, 16, 17, 18, 19, 20, 21] (by decide) rfl
              subst hQe
              have hans : ((-5) : Int32).toInt = (-5) := (by decide)
              have hpost : (0 ≤ v_places.toInt ∧ v_places.toInt ≤ 2000) := i_v_places
              exact W.iret (v := (-5)) hx hb hr (fun t ht hW => ⟨⟨(-5), (f_heap, f_values, f_isOne, v_places, f_placeTrait, f_placePerson, f_placeMoment, f_placeValue, f_isFilled, w_92), rfl, hpost, by rw [ht]; exact hP9, hD9⟩, hS.F ht⟩) hS.2.2 dX9_fill_91
          · have dc_34 : r_30.toInt = 0 := jI_eq c_34 rfl (by decide)
            refine lv_aload_n hx hb dX9_fill_50 rfl (lv_at hl 0 rfl) ?_
            refine lv_bipush (v := (-2)) hx hb dX9_fill_51 (by decide) ?_
            have hk_93 : ((-2) : Int32).toInt = (-2) := by decide
            obtain ⟨hPc, hDc, hFc, hCc⟩ := va_pre (ws' := [((am 0), .inr (9, F9 am v_status v_now v_told v_merges v_taped v_size v_from v_to v_fault v_readFault v_traits v_length v_open v_leaks v_places v_models))]) hP hD hS hA [22] (by decide) rfl
            refine va_calli (va_runV (As := [.int (-2)]) (rest := []) ⟨hx, hb, hml, hown, hts⟩ (k_X9_ends l dC dI cA H.size am v_status v_now v_told v_merges v_taped v_size v_from v_to v_fault v_readFault v_traits v_length v_open v_leaks v_places v_models (-2) i_v_now i_v_told i_v_taped i_v_size i_v_from i_v_to i_v_traits i_v_length i_v_open i_v_places i_v_models) (cwV 1 hts gX9_fill_X9_ends rfl rfl rfl (by decide +kernel) ⟨Nat.le_of_ble_eq_true rfl, Nat.le_of_ble_eq_true rfl⟩) ⟨fun a U g mk q => by obtain ⟨q0, q1, qP, qK, qD, qN⟩ := q; exact ⟨q0, q1, qP, va_K.moved (u := U) (U := U.calling g mk a) (Vm.Alike.refl U.vm) qK, qD, qN.same rfl⟩, va_recv hK hPc (ci := 9) (q0 := 0) rfl rfl, fun U hU hW => ⟨rfl, by rw [hU], by rw [hU]; exact hPc, va_K.moved hW.alike hK, hDc.weaken (fun _ _ _ _ => trivial), hN.warm hW⟩⟩ rfl rfl hl.1 rfl (lv_room (Nat.le_of_ble_eq_true rfl)) dX9_fill_53 ⟨Nat.le_of_ble_eq_true rfl, Nat.le_of_ble_eq_true rfl⟩) hS (fun q _ h => hFc q h) hFc (fun r_94 u_95 t H1 locs ht hvm hw_96 hB hz1 hk1 hS => ?_)
            obtain ⟨w_97, rfl⟩ : ∃ z, z = u_95 := ⟨_, rfl⟩
            try dsimp only at hw_96 hB
            have hr9 := hw_96
            clear hw_96
            obtain ⟨hP1, hD1⟩ := hB
            rw [ht] at hP1
            obtain ⟨hP, hD⟩ := va_join (wr := [((am 6), .inl (cA 2, 400, .inl f_isGone)), ((am 2), .inl (cA 0, 400, .inl f_rowStream)), ((am 19), .inl (cA 2, 20, .inl f_isOne)), ((am 1), .inl (cA 0, 400, .inl f_rowPerson)), ((am 3), .inl (cA 0, 400, .inl f_rowMoment)), ((am 4), .inl (cA 0, 400, .inl f_rowKnown)), ((am 5), .inl (cA 0, 400, .inl f_rowValue)), ((am 12), .inl (cA 0, 20, .inl f_size0)), ((am 13), .inl (cA 0, 5000, .inl f_step)), ((am 14), .inl (cA 0, 5000, .inl f_stepA)), ((am 15), .inl (cA 0, 5000, .inl f_stepB)), ((am 16), .inl (cA 0, 5000, .inl f_stepC)), ((am 18), .inl (cA 1, 250, .inr (.inl f_heap))), ((am 17), .inl (cA 1, 20, .inr (.inl f_values))), ((am 7), .inl (cA 0, 20, .inl f_mergeTo)), ((am 8), .inl (cA 0, 20, .inl f_mergeKnown)), ((am 28), .inl (cA 0, 2000, .inl f_placeTrait)), ((am 29), .inl (cA 0, 2000, .inl f_placePerson)), ((am 30), .inl (cA 0, 2000, .inl f_placeMoment)), ((am 31), .inl (cA 1, 2000, .inr (.inl f_placeValue))), ((am 32), .inl (cA 2, 2000, .inl f_isFilled)), ((am 9), .inl (cA 2, 20, .inl f_isErased))]) (w1 := [((am 0), .inr (9, F9 am w_97 v_now v_told v_merges v_taped v_size v_from v_to v_fault v_readFault v_traits v_length v_open v_leaks v_places v_models))]) hP hD [22] [0, 1, 2, 3, 4, 5, 6, 7, 8, 9, 10, 11, 12, 13, 14, 15, 16, 17, 18, 19, 20, 21] hCc rfl (by decide) (by decide) hk1 hFc hP1 hD1
            clear hz1
            generalize H1 = H at hP hS ⊢
            obtain rfl : (-2) = r_94 := hr9.symm
            obtain ⟨hP9, hD9⟩ := va_pd (ws' := [((am 0), .inr (9, F9 am w_97 v_now v_told v_merges v_taped v_size v_from v_to v_fault v_readFault v_traits v_length v_open v_leaks v_places v_models)), ((am 6), .inl (cA 2, 400, .inl f_isGone)), ((am 2), .inl (cA 0, 400, .inl f_rowStream)), ((am 19), .inl (cA 2, 20, .inl f_isOne)), ((am 1), .inl (cA 0, 400, .inl f_rowPerson)), ((am 3), .inl (cA 0, 400, .inl f_rowMoment)), ((am 4), .inl (cA 0, 400, .inl f_rowKnown)), ((am 5), .inl (cA 0, 400, .inl f_rowValue)), ((am 12), .inl (cA 0, 20, .inl f_size0)), ((am 13), .inl (cA 0, 5000, .inl f_step)), ((am 14), .inl (cA 0, 5000, .inl f_stepA)), ((am 15), .inl (cA 0, 5000, .inl f_stepB)), ((am 16), .inl (cA 0, 5000, .inl f_stepC)), ((am 18), .inl (cA 1, 250, .inr (.inl f_heap))), ((am 17), .inl (cA 1, 20, .inr (.inl f_values))), ((am 7), .inl (cA 0, 20, .inl f_mergeTo)), ((am 8), .inl (cA 0, 20, .inl f_mergeKnown)), ((am 28), .inl (cA 0, 2000, .inl f_placeTrait)), ((am 29), .inl (cA 0, 2000, .inl f_placePerson)), ((am 30), .inl (cA 0, 2000, .inl f_placeMoment)), ((am 31), .inl (cA 1, 2000, .inr (.inl f_placeValue))), ((am 32), .inl (cA 2, 2000, .inl f_isFilled)), ((am 9), .inl (cA 2, 20, .inl f_isErased))]) hP hD [22, 0, 1, 2, 3, 4, 5, 6, 7, 8, 9, 10, 11, 12, 13, 14, 15, 16, 17, 18, 19, 20, 21] (by decide) rfl
            subst hQe
            have hans : ((-2) : Int32).toInt = (-2) := (by decide)
            have hpost : (0 ≤ v_places.toInt ∧ v_places.toInt ≤ 2000) := i_v_places
            exact W.iret (v := (-2)) hx hb hr (fun t ht hW => ⟨⟨(-2), (f_heap, f_values, f_isOne, v_places, f_placeTrait, f_placePerson, f_placeMoment, f_placeValue, f_isFilled, w_97), rfl, hpost, by rw [ht]; exact hP9, hD9⟩, hS.F ht⟩) hS.2.2 dX9_fill_56
        · have dc_29 : 40 ≤ x_27.toInt := jI_nlt c_29 rfl (by decide)
          refine lv_aload_n hx hb dX9_fill_36 rfl (lv_at hl 0 rfl) ?_
          refine lv_iconst (v := (-1)) hx hb dX9_fill_37 (by decide) ?_
          have hk_98 : ((-1) : Int32).toInt = (-1) := by decide
          obtain ⟨hPc, hDc, hFc, hCc⟩ := va_pre (ws' := [((am 0), .inr (9, F9 am v_status v_now v_told v_merges v_taped v_size v_from v_to v_fault v_readFault v_traits v_length v_open v_leaks v_places v_models))]) hP hD hS hA [0] (by decide) rfl
          refine va_calli (va_runV (As := [.int (-1)]) (rest := []) ⟨hx, hb, hml, hown, hts⟩ (k_X9_ends l dC dI cA H.size am v_status v_now v_told v_merges v_taped v_size v_from v_to v_fault v_readFault v_traits v_length v_open v_leaks v_places v_models (-1) i_v_now i_v_told i_v_taped i_v_size i_v_from i_v_to i_v_traits i_v_length i_v_open i_v_places i_v_models) (cwV 1 hts gX9_fill_X9_ends rfl rfl rfl (by decide +kernel) ⟨Nat.le_of_ble_eq_true rfl, Nat.le_of_ble_eq_true rfl⟩) ⟨fun a U g mk q => by obtain ⟨q0, q1, qP, qK, qD, qN⟩ := q; exact ⟨q0, q1, qP, va_K.moved (u := U) (U := U.calling g mk a) (Vm.Alike.refl U.vm) qK, qD, qN.same rfl⟩, va_recv hK hPc (ci := 9) (q0 := 0) rfl rfl, fun U hU hW => ⟨rfl, by rw [hU], by rw [hU]; exact hPc, va_K.moved hW.alike hK, hDc.weaken (fun _ _ _ _ => trivial), hN.warm hW⟩⟩ rfl rfl hl.1 rfl (lv_room (Nat.le_of_ble_eq_true rfl)) dX9_fill_38 ⟨Nat.le_of_ble_eq_true rfl, Nat.le_of_ble_eq_true rfl⟩) hS (fun q _ h => hFc q h) hFc (fun r_99 u_100 t H1 locs ht hvm hw_101 hB hz1 hk1 hS => ?_)
          obtain ⟨w_102, rfl⟩ : ∃ z, z = u_100 := ⟨_, rfl⟩
          try dsimp only at hw_101 hB
          have hr9 := hw_101
          clear hw_101
          obtain ⟨hP1, hD1⟩ := hB
          rw [ht] at hP1
          obtain ⟨hP, hD⟩ := va_join (wr := [((am 6), .inl (cA 2, 400, .inl f_isGone)), ((am 2), .inl (cA 0, 400, .inl f_rowStream)), ((am 19), .inl (cA 2, 20, .inl f_isOne)), ((am 1), .inl (cA 0, 400, .inl f_rowPerson)), ((am 3), .inl (cA 0, 400, .inl f_rowMoment)), ((am 4), .inl (cA 0, 400, .inl f_rowKnown)), ((am 5), .inl (cA 0, 400, .inl f_rowValue)), ((am 12), .inl (cA 0, 20, .inl f_size0)), ((am 13), .inl (cA 0, 5000, .inl f_step)), ((am 14), .inl (cA 0, 5000, .inl f_stepA)), ((am 15), .inl (cA 0, 5000, .inl f_stepB)), ((am 16), .inl (cA 0, 5000, .inl f_stepC)), ((am 18), .inl (cA 1, 250, .inr (.inl f_heap))), ((am 17), .inl (cA 1, 20, .inr (.inl f_values))), ((am 7), .inl (cA 0, 20, .inl f_mergeTo)), ((am 8), .inl (cA 0, 20, .inl f_mergeKnown)), ((am 28), .inl (cA 0, 2000, .inl f_placeTrait)), ((am 29), .inl (cA 0, 2000, .inl f_placePerson)), ((am 30), .inl (cA 0, 2000, .inl f_placeMoment)), ((am 31), .inl (cA 1, 2000, .inr (.inl f_placeValue))), ((am 32), .inl (cA 2, 2000, .inl f_isFilled)), ((am 9), .inl (cA 2, 20, .inl f_isErased))]) (w1 := [((am 0), .inr (9, F9 am w_102 v_now v_told v_merges v_taped v_size v_from v_to v_fault v_readFault v_traits v_length v_open v_leaks v_places v_models))]) hP hD [0] [1, 2, 3, 4, 5, 6, 7, 8, 9, 10, 11, 12, 13, 14, 15, 16, 17, 18, 19, 20, 21, 22] hCc rfl (by decide) (by decide) hk1 hFc hP1 hD1
          clear hz1
          generalize H1 = H at hP hS ⊢
          obtain rfl : (-1) = r_99 := hr9.symm
          obtain ⟨hP9, hD9⟩ := va_pd (ws' := [((am 0), .inr (9, F9 am w_102 v_now v_told v_merges v_taped v_size v_from v_to v_fault v_readFault v_traits v_length v_open v_leaks v_places v_models)), ((am 6), .inl (cA 2, 400, .inl f_isGone)), ((am 2), .inl (cA 0, 400, .inl f_rowStream)), ((am 19), .inl (cA 2, 20, .inl f_isOne)), ((am 1), .inl (cA 0, 400, .inl f_rowPerson)), ((am 3), .inl (cA 0, 400, .inl f_rowMoment)), ((am 4), .inl (cA 0, 400, .inl f_rowKnown)), ((am 5), .inl (cA 0, 400, .inl f_rowValue)), ((am 12), .inl (cA 0, 20, .inl f_size0)), ((am 13), .inl (cA 0, 5000, .inl f_step)), ((am 14), .inl (cA 0, 5000, .inl f_stepA)), ((am 15), .inl (cA 0, 5000, .inl f_stepB)), ((am 16), .inl (cA 0, 5000, .inl f_stepC)), ((am 18), .inl (cA 1, 250, .inr (.inl f_heap))), ((am 17), .inl (cA 1, 20, .inr (.inl f_values))), ((am 7), .inl (cA 0, 20, .inl f_mergeTo)), ((am 8), .inl (cA 0, 20, .inl f_mergeKnown)), ((am 28), .inl (cA 0, 2000, .inl f_placeTrait)), ((am 29), .inl (cA 0, 2000, .inl f_placePerson)), ((am 30), .inl (cA 0, 2000, .inl f_placeMoment)), ((am 31), .inl (cA 1, 2000, .inr (.inl f_placeValue))), ((am 32), .inl (cA 2, 2000, .inl f_isFilled)), ((am 9), .inl (cA 2, 20, .inl f_isErased))]) hP hD [22, 0, 1, 2, 3, 4, 5, 6, 7, 8, 9, 10, 11, 12, 13, 14, 15, 16, 17, 18, 19, 20, 21] (by decide) rfl
          subst hQe
          have hans : ((-1) : Int32).toInt = (-1) := (by decide)
          have hpost : (0 ≤ v_places.toInt ∧ v_places.toInt ≤ 2000) := i_v_places
          exact W.iret (v := (-1)) hx hb hr (fun t ht hW => ⟨⟨(-1), (f_heap, f_values, f_isOne, v_places, f_placeTrait, f_placePerson, f_placeMoment, f_placeValue, f_isFilled, w_102), rfl, hpost, by rw [ht]; exact hP9, hD9⟩, hS.F ht⟩) hS.2.2 dX9_fill_41
