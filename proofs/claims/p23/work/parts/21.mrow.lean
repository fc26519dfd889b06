theorem dX9_row_0 : decode cX9_row 0 = .ok (.iload_n 2, 1) := by decide +kernel
theorem dX9_row_1 : decode cX9_row 1 = .ok (.i2l, 1) := by decide +kernel
theorem dX9_row_2 : decode cX9_row 2 = .ok (.lconst 0, 1) := by decide +kernel
theorem dX9_row_3 : decode cX9_row 3 = .ok (.ldc2_w 140, 3) := by decide +kernel
set_option maxRecDepth 20000 in
theorem ggX9_row_X9_in : GoodIn wsX9_row wsX9_in := goodIn_r _ [15] (by decide +kernel) (by decide +kernel)
set_option maxRecDepth 20000 in
theorem gX9_row_X9_in : GoodIn wsX9_row (va_wsS RX9 127 yX9_in wsX9_in) := goodIn_app (goodIn_of _ (by decide +kernel)) ggX9_row_X9_in
theorem dX9_row_6 : decode cX9_row 6 = .ok (.invokestatic 127, 3) := by decide +kernel
theorem dX9_row_9 : decode cX9_row 9 = .ok (.ifCond .eq 39, 3) := by decide +kernel
theorem dX9_row_48 : decode cX9_row 48 = .ok (.aload_n 0, 1) := by decide +kernel
theorem dX9_row_49 : decode cX9_row 49 = .ok (.iconst (-1), 1) := by decide +kernel
set_option maxRecDepth 20000 in
theorem ggX9_row_X9_ends : GoodIn wsX9_row wsX9_ends := goodIn_r _ [22, 23, 28, 29, 30, 31, 32, 33, 34, 35, 36, 37, 38, 39, 40, 41, 42, 43, 44, 45, 46, 47, 48, 49, 50, 51, 52, 53, 54, 55, 56, 57, 58, 59, 60, 61, 62, 63, 64, 65, 66, 67, 68, 69, 70, 71, 72, 73, 74, 75, 76, 77, 78] (by decide +kernel) (by decide +kernel)
set_option maxRecDepth 20000 in
theorem gX9_row_X9_ends : GoodIn wsX9_row (wsV RX9 136 RX9 yX9_ends wsX9_ends) := goodIn_app (goodIn_of _ (by decide +kernel)) ggX9_row_X9_ends
theorem dX9_row_50 : decode cX9_row 50 = .ok (.invokevirtual 136, 3) := by decide +kernel
theorem dX9_row_53 : decode cX9_row 53 = .ok (.ireturn, 1) := by decide +kernel
theorem dX9_row_12 : decode cX9_row 12 = .ok (.iload_n 3, 1) := by decide +kernel
set_option maxRecDepth 20000 in
theorem ggX9_row_X9_isMoment : GoodIn wsX9_row wsX9_isMoment := goodIn_r _ [18, 2, 12, 13, 14, 15] (by decide +kernel) (by decide +kernel)
set_option maxRecDepth 20000 in
theorem gX9_row_X9_isMoment : GoodIn wsX9_row (va_wsS RX9 142 yX9_isMoment wsX9_isMoment) := goodIn_app (goodIn_of _ (by decide +kernel)) ggX9_row_X9_isMoment
theorem dX9_row_13 : decode cX9_row 13 = .ok (.invokestatic 142, 3) := by decide +kernel
theorem dX9_row_16 : decode cX9_row 16 = .ok (.ifCond .eq 32, 3) := by decide +kernel
theorem dX9_row_19 : decode cX9_row 19 = .ok (.iload 4, 2) := by decide +kernel
theorem dX9_row_21 : decode cX9_row 21 = .ok (.i2l, 1) := by decide +kernel
theorem dX9_row_22 : decode cX9_row 22 = .ok (.iload_n 3, 1) := by decide +kernel
theorem dX9_row_23 : decode cX9_row 23 = .ok (.i2l, 1) := by decide +kernel
theorem dX9_row_24 : decode cX9_row 24 = .ok (.ldc2_w 125, 3) := by decide +kernel
theorem dX9_row_27 : decode cX9_row 27 = .ok (.invokestatic 127, 3) := by decide +kernel
theorem dX9_row_30 : decode cX9_row 30 = .ok (.ifCond .eq 18, 3) := by decide +kernel
theorem dX9_row_33 : decode cX9_row 33 = .ok (.iload 5, 2) := by decide +kernel
theorem dX9_row_35 : decode cX9_row 35 = .ok (.i2l, 1) := by decide +kernel
theorem dX9_row_36 : decode cX9_row 36 = .ok (.ldc2_w 146, 3) := by decide +kernel
theorem dX9_row_39 : decode cX9_row 39 = .ok (.ldc2_w 148, 3) := by decide +kernel
theorem dX9_row_42 : decode cX9_row 42 = .ok (.invokestatic 127, 3) := by decide +kernel
theorem dX9_row_45 : decode cX9_row 45 = .ok (.ifCond .ne 9, 3) := by decide +kernel
theorem dX9_row_54 : decode cX9_row 54 = .ok (.iload_n 1, 1) := by decide +kernel
set_option maxRecDepth 20000 in
theorem ggX9_row_X9_isPerson : GoodIn wsX9_row wsX9_isPerson := goodIn_r _ [26, 27, 12, 13, 14, 15] (by decide +kernel) (by decide +kernel)
set_option maxRecDepth 20000 in
theorem gX9_row_X9_isPerson : GoodIn wsX9_row (va_wsS RX9 150 yX9_isPerson wsX9_isPerson) := goodIn_app (goodIn_of _ (by decide +kernel)) ggX9_row_X9_isPerson
theorem dX9_row_55 : decode cX9_row 55 = .ok (.invokestatic 150, 3) := by decide +kernel
theorem dX9_row_58 : decode cX9_row 58 = .ok (.ifCond .ne 10, 3) := by decide +kernel
theorem dX9_row_68 : decode cX9_row 68 = .ok (.aload_n 0, 1) := by decide +kernel
theorem dX9_row_69 : decode cX9_row 69 = .ok (.getfield 153, 3) := by decide +kernel
theorem dX9_row_72 : decode cX9_row 72 = .ok (.sipush 400, 3) := by decide +kernel
theorem dX9_row_75 : decode cX9_row 75 = .ok (.if_icmp .ne 10, 3) := by decide +kernel
theorem dX9_row_85 : decode cX9_row 85 = .ok (.aload_n 0, 1) := by decide +kernel
theorem dX9_row_86 : decode cX9_row 86 = .ok (.getfield 35, 3) := by decide +kernel
theorem dX9_row_89 : decode cX9_row 89 = .ok (.iload_n 1, 1) := by decide +kernel
theorem dX9_row_90 : decode cX9_row 90 = .ok (.baload, 1) := by decide +kernel
theorem dX9_row_91 : decode cX9_row 91 = .ok (.ifCond .eq 10, 3) := by decide +kernel
theorem dX9_row_101 : decode cX9_row 101 = .ok (.aload_n 0, 1) := by decide +kernel
theorem dX9_row_102 : decode cX9_row 102 = .ok (.getfield 7, 3) := by decide +kernel
theorem dX9_row_105 : decode cX9_row 105 = .ok (.aload_n 0, 1) := by decide +kernel
theorem dX9_row_106 : decode cX9_row 106 = .ok (.getfield 153, 3) := by decide +kernel
theorem dX9_row_109 : decode cX9_row 109 = .ok (.iload_n 1, 1) := by decide +kernel
theorem dX9_row_110 : decode cX9_row 110 = .ok (.iastore, 1) := by decide +kernel
theorem dX9_row_111 : decode cX9_row 111 = .ok (.aload_n 0, 1) := by decide +kernel
theorem dX9_row_112 : decode cX9_row 112 = .ok (.getfield 13, 3) := by decide +kernel
theorem dX9_row_115 : decode cX9_row 115 = .ok (.aload_n 0, 1) := by decide +kernel
theorem dX9_row_116 : decode cX9_row 116 = .ok (.getfield 153, 3) := by decide +kernel
theorem dX9_row_119 : decode cX9_row 119 = .ok (.iload_n 2, 1) := by decide +kernel
theorem dX9_row_120 : decode cX9_row 120 = .ok (.iastore, 1) := by decide +kernel
theorem dX9_row_121 : decode cX9_row 121 = .ok (.aload_n 0, 1) := by decide +kernel
theorem dX9_row_122 : decode cX9_row 122 = .ok (.getfield 16, 3) := by decide +kernel
theorem dX9_row_125 : decode cX9_row 125 = .ok (.aload_n 0, 1) := by decide +kernel
theorem dX9_row_126 : decode cX9_row 126 = .ok (.getfield 153, 3) := by decide +kernel
theorem dX9_row_129 : decode cX9_row 129 = .ok (.iload_n 3, 1) := by decide +kernel
theorem dX9_row_130 : decode cX9_row 130 = .ok (.iastore, 1) := by decide +kernel
theorem dX9_row_131 : decode cX9_row 131 = .ok (.aload_n 0, 1) := by decide +kernel
theorem dX9_row_132 : decode cX9_row 132 = .ok (.getfield 19, 3) := by decide +kernel
theorem dX9_row_135 : decode cX9_row 135 = .ok (.aload_n 0, 1) := by decide +kernel
theorem dX9_row_136 : decode cX9_row 136 = .ok (.getfield 153, 3) := by decide +kernel
theorem dX9_row_139 : decode cX9_row 139 = .ok (.iload 4, 2) := by decide +kernel
theorem dX9_row_141 : decode cX9_row 141 = .ok (.iastore, 1) := by decide +kernel
theorem dX9_row_142 : decode cX9_row 142 = .ok (.aload_n 0, 1) := by decide +kernel
theorem dX9_row_143 : decode cX9_row 143 = .ok (.getfield 22, 3) := by decide +kernel
theorem dX9_row_146 : decode cX9_row 146 = .ok (.aload_n 0, 1) := by decide +kernel
theorem dX9_row_147 : decode cX9_row 147 = .ok (.getfield 153, 3) := by decide +kernel
theorem dX9_row_150 : decode cX9_row 150 = .ok (.iload 5, 2) := by decide +kernel
theorem dX9_row_152 : decode cX9_row 152 = .ok (.iastore, 1) := by decide +kernel
theorem dX9_row_153 : decode cX9_row 153 = .ok (.aload_n 0, 1) := by decide +kernel
theorem dX9_row_154 : decode cX9_row 154 = .ok (.dup, 1) := by decide +kernel
theorem dX9_row_155 : decode cX9_row 155 = .ok (.getfield 153, 3) := by decide +kernel
theorem dX9_row_158 : decode cX9_row 158 = .ok (.iconst 1, 1) := by decide +kernel
theorem dX9_row_159 : decode cX9_row 159 = .ok (.iadd, 1) := by decide +kernel
theorem dX9_row_160 : decode cX9_row 160 = .ok (.putfield 153, 3) := by decide +kernel
theorem dX9_row_163 : decode cX9_row 163 = .ok (.aload_n 0, 1) := by decide +kernel
theorem dX9_row_164 : decode cX9_row 164 = .ok (.aload_n 0, 1) := by decide +kernel
theorem dX9_row_165 : decode cX9_row 165 = .ok (.getfield 153, 3) := by decide +kernel
theorem dX9_row_168 : decode cX9_row 168 = .ok (.iconst 1, 1) := by decide +kernel
theorem dX9_row_169 : decode cX9_row 169 = .ok (.isub, 1) := by decide +kernel
theorem dX9_row_170 : decode cX9_row 170 = .ok (.invokevirtual 136, 3) := by decide +kernel
theorem dX9_row_173 : decode cX9_row 173 = .ok (.ireturn, 1) := by decide +kernel
theorem dX9_row_94 : decode cX9_row 94 = .ok (.aload_n 0, 1) := by decide +kernel
theorem dX9_row_95 : decode cX9_row 95 = .ok (.bipush (-6), 2) := by decide +kernel
theorem dX9_row_97 : decode cX9_row 97 = .ok (.invokevirtual 136, 3) := by decide +kernel
theorem dX9_row_100 : decode cX9_row 100 = .ok (.ireturn, 1) := by decide +kernel
theorem dX9_row_78 : decode cX9_row 78 = .ok (.aload_n 0, 1) := by decide +kernel
theorem dX9_row_79 : decode cX9_row 79 = .ok (.bipush (-5), 2) := by decide +kernel
theorem dX9_row_81 : decode cX9_row 81 = .ok (.invokevirtual 136, 3) := by decide +kernel
theorem dX9_row_84 : decode cX9_row 84 = .ok (.ireturn, 1) := by decide +kernel
theorem dX9_row_61 : decode cX9_row 61 = .ok (.aload_n 0, 1) := by decide +kernel
theorem dX9_row_62 : decode cX9_row 62 = .ok (.bipush (-2), 2) := by decide +kernel
theorem dX9_row_64 : decode cX9_row 64 = .ok (.invokevirtual 136, 3) := by decide +kernel
theorem dX9_row_67 : decode cX9_row 67 = .ok (.ireturn, 1) := by decide +kernel
set_option maxHeartbeats 8000000 in
set_option maxRecDepth 100000 in
theorem k_X9_row (l : Launch) (dC : Nat → ClassId) (dI : Nat → Nat → Nat) (cA : Nat → ClassId) (sz : Nat) (am : Nat → Nat) (v_status : Int32) (v_now : Int32) (v_told : Int32) (v_merges : Int32) (v_taped : Int32) (v_size : Int32) (v_from : Int32) (v_to : Int32) (v_fault : Int32) (v_readFault : Int32) (v_traits : Int32) (v_length : Int32) (v_open : Int32) (v_leaks : Int32) (v_places : Int32) (v_models : Int32) (f_rowPerson : Nat → Int32) (f_rowStream : Nat → Int32) (f_rowMoment : Nat → Int32) (f_rowKnown : Nat → Int32) (f_rowValue : Nat → Int32) (f_isErased : Nat → Int32) (pp : Int32) (st : Int32) (mo : Int32) (kn : Int32) (va : Int32) (i_v_now : 0 ≤ v_now.toInt ∧ v_now.toInt ≤ 100000) (i_v_told : 0 ≤ v_told.toInt ∧ v_told.toInt ≤ 400) (i_v_taped : 0 ≤ v_taped.toInt ∧ v_taped.toInt ≤ 200) (i_v_size : 0 ≤ v_size.toInt ∧ v_size.toInt ≤ 200) (i_v_from : 0 ≤ v_from.toInt ∧ v_from.toInt ≤ 200) (i_v_to : 0 ≤ v_to.toInt ∧ v_to.toInt ≤ 200) (i_v_traits : 0 ≤ v_traits.toInt ∧ v_traits.toInt ≤ 20) (i_v_length : 0 ≤ v_length.toInt ∧ v_length.toInt ≤ 200) (i_v_open : 0 ≤ v_open.toInt ∧ v_open.toInt ≤ 8) (i_v_places : 0 ≤ v_places.toInt ∧ v_places.toInt ≤ 2000) (i_v_models : 0 ≤ v_models.toInt ∧ v_models.toInt ≤ 10) (i_f_rowPerson : inB 0 19 400 f_rowPerson)  : Met l yX9_row wsX9_row ({ frames := 2, cells := 0, slots := 0, locals := 45 }) (va_Pc [.ref (am 0), .int pp, .int st, .int mo, .int kn, .int va] (fun U => U.heap.size = sz ∧ va_P (dC, dI) vwCl [((am 0), .inr (9, F9 am v_status v_now v_told v_merges v_taped v_size v_from v_to v_fault v_readFault v_traits v_length v_open v_leaks v_places v_models)), ((am 1), .inl (cA 0, 400, .inl f_rowPerson)), ((am 2), .inl (cA 0, 400, .inl f_rowStream)), ((am 3), .inl (cA 0, 400, .inl f_rowMoment)), ((am 4), .inl (cA 0, 400, .inl f_rowKnown)), ((am 5), .inl (cA 0, 400, .inl f_rowValue)), ((am 9), .inl (cA 2, 20, .inl f_isErased))] U.heap ∧ va_K (dC, dI) vwCl (tyL cA) U ∧ va_D (fun _ => True) [((am 0), .inr (9, F9 am v_status v_now v_told v_merges v_taped v_size v_from v_to v_fault v_readFault v_traits v_length v_open v_leaks v_places v_models)), ((am 1), .inl (cA 0, 400, .inl f_rowPerson)), ((am 2), .inl (cA 0, 400, .inl f_rowStream)), ((am 3), .inl (cA 0, 400, .inl f_rowMoment)), ((am 4), .inl (cA 0, 400, .inl f_rowKnown)), ((am 5), .inl (cA 0, 400, .inl f_rowValue)), ((am 9), .inl (cA 2, 20, .inl f_isErased))] ∧ nw_ok U)) (va_Qi (fun (r : Int32) (u : Int32 × Int32 × (Nat → Int32) × (Nat → Int32) × (Nat → Int32) × (Nat → Int32) × (Nat → Int32)) => (0 ≤ u.2.1.toInt ∧ u.2.1.toInt ≤ 400) ∧ (inB 0 19 400 u.2.2.1)) (fun (u : Int32 × Int32 × (Nat → Int32) × (Nat → Int32) × (Nat → Int32) × (Nat → Int32) × (Nat → Int32)) (t : State) => va_P (dC, dI) vwCl [((am 0), .inr (9, F9 am u.1 v_now u.2.1 v_merges v_taped v_size v_from v_to v_fault v_readFault v_traits v_length v_open v_leaks v_places v_models)), ((am 1), .inl (cA 0, 400, .inl u.2.2.1)), ((am 2), .inl (cA 0, 400, .inl u.2.2.2.1)), ((am 3), .inl (cA 0, 400, .inl u.2.2.2.2.1)), ((am 4), .inl (cA 0, 400, .inl u.2.2.2.2.2.1)), ((am 5), .inl (cA 0, 400, .inl u.2.2.2.2.2.2)), ((am 9), .inl (cA 2, 20, .inl f_isErased))] t.heap ∧ va_D (va_A [((am 0), .inr (9, F9 am v_status v_now v_told v_merges v_taped v_size v_from v_to v_fault v_readFault v_traits v_length v_open v_leaks v_places v_models)), ((am 1), .inl (cA 0, 400, .inl f_rowPerson)), ((am 2), .inl (cA 0, 400, .inl f_rowStream)), ((am 3), .inl (cA 0, 400, .inl f_rowMoment)), ((am 4), .inl (cA 0, 400, .inl f_rowKnown)), ((am 5), .inl (cA 0, 400, .inl f_rowValue)), ((am 9), .inl (cA 2, 20, .inl f_isErased))] sz) [((am 0), .inr (9, F9 am u.1 v_now u.2.1 v_merges v_taped v_size v_from v_to v_fault v_readFault v_traits v_length v_open v_leaks v_places v_models)), ((am 1), .inl (cA 0, 400, .inl u.2.2.1)), ((am 2), .inl (cA 0, 400, .inl u.2.2.2.1)), ((am 3), .inl (cA 0, 400, .inl u.2.2.2.2.1)), ((am 4), .inl (cA 0, 400, .inl u.2.2.2.2.2.1)), ((am 5), .inl (cA 0, 400, .inl u.2.2.2.2.2.2)), ((am 9), .inl (cA 2, 20, .inl f_isErased))]) (va_A [((am 0), .inr (9, F9 am v_status v_now v_told v_merges v_taped v_size v_from v_to v_fault v_readFault v_traits v_length v_open v_leaks v_places v_models)), ((am 1), .inl (cA 0, 400, .inl f_rowPerson)), ((am 2), .inl (cA 0, 400, .inl f_rowStream)), ((am 3), .inl (cA 0, 400, .inl f_rowMoment)), ((am 4), .inl (cA 0, 400, .inl f_rowKnown)), ((am 5), .inl (cA 0, 400, .inl f_rowValue)), ((am 9), .inl (cA 2, 20, .inl f_isErased))] sz)) 0 0 (va_A [((am 0), .inr (9, F9 am v_status v_now v_told v_merges v_taped v_size v_from v_to v_fault v_readFault v_traits v_length v_open v_leaks v_places v_models)), ((am 1), .inl (cA 0, 400, .inl f_rowPerson)), ((am 2), .inl (cA 0, 400, .inl f_rowStream)), ((am 3), .inl (cA 0, 400, .inl f_rowMoment)), ((am 4), .inl (cA 0, 400, .inl f_rowKnown)), ((am 5), .inl (cA 0, 400, .inl f_rowValue)), ((am 9), .inl (cA 2, 20, .inl f_isErased))] sz) := by
  refine Met.ofW (cc := cX9_row) (maxL := 6) (ret := (some .int)) (by decide) rfl ?_
  intro p e s m args below meth c s₁ B hml hv
  obtain ⟨rfl, hsz, hP, hK, hD0, hN⟩ := hv
  have hx := B.exec
  have hb := B.bytes
  have hr := B.returns
  have hts := atoms_spec (ws := wsX9_row) B.pre
  have hown : s.vm.findClass RX9 = some m.cls := findClass_of_methodNamed B.named
  have hlocks := B.notSynchronized
  subst hsz
  have hD := hD0.self (sz := s.heap.size)
  generalize hAe : va_A [((am 0), .inr (9, F9 am v_status v_now v_told v_merges v_taped v_size v_from v_to v_fault v_readFault v_traits v_length v_open v_leaks v_places v_models)), ((am 1), .inl (cA 0, 400, .inl f_rowPerson)), ((am 2), .inl (cA 0, 400, .inl f_rowStream)), ((am 3), .inl (cA 0, 400, .inl f_rowMoment)), ((am 4), .inl (cA 0, 400, .inl f_rowKnown)), ((am 5), .inl (cA 0, 400, .inl f_rowValue)), ((am 9), .inl (cA 2, 20, .inl f_isErased))] s.heap.size = A at hD ⊢
  have hA : ∀ q : Nat, s.heap.size ≤ q → A q := fun q h => by rw [← hAe]; exact Or.inr h
  have hS : va_S A s.heap s.heap [] := va_S.rf
  have hIX9 : ∀ w ∈ u_ws RX9 TX9 51, w ∈ wsX9_row := by decide +kernel
  have hl := lv_entry ([.ref (am 0), .int pp, .int st, .int mo, .int kn, .int va]) (n := 6) (Nat.le_of_ble_eq_true rfl)
  rw [lg_entry_eq]
  generalize (lg_sl ([.ref (am 0), .int pp, .int st, .int mo, .int kn, .int va]) ++ List.replicate (6 - (lg_sl ([.ref (am 0), .int pp, .int st, .int mo, .int kn, .int va])).length) Slot.unset).toArray = ls at hl ⊢
  have hl : lv_has ls 6 [(0, .ref (am 0)), (1, .int pp), (2, .int st), (3, .int mo), (4, .int kn), (5, .int va)] := hl
  generalize hQe : MQ below _ _ _ _ _ _ = QQ
  refine lv_iload_n hx hb dX9_row_0 rfl (lv_at hl 2 rfl) ?_
  obtain ⟨y_1, ey_1⟩ : ∃ y : Int64, y = st.toInt64 := ⟨_, rfl⟩
  have dy_1 : y_1.toInt = st.toInt := by rw [ey_1]; exact Int32.toInt_toInt64 _
  refine lv_i2l (v := y_1) hx hb dX9_row_1 ey_1.symm ?_
  refine lv_lconst (v := 0) hx hb dX9_row_2 (by decide) ?_
  refine lv_ldc2 hx hb hown (hts (.constantLong RX9 140 (5)) (by decide +kernel)) dX9_row_3 ?_
  have hk_2 : (0 : Int64).toInt = 0 := by decide
  have hk_3 : (5 : Int64).toInt = 5 := by decide
  obtain ⟨hPc, hDc, hFc, hCc⟩ := va_pre (ws' := []) hP hD hS hA [] (by decide) rfl
  refine va_calli (va_runS (As := [.long y_1, .long 0, .long 5]) (rest := []) ⟨hx, hb, hml, hown, hts⟩ (k_X9_in l dC dI cA s.heap.size y_1 0 5 ) (va_cwS 3 hts gX9_row_X9_in rfl rfl rfl (by decide +kernel) ⟨Nat.le_of_ble_eq_true rfl, Nat.le_of_ble_eq_true rfl⟩) ⟨fun a U g mk q => by obtain ⟨q0, q1, qP, qK, qD, qN⟩ := q; exact ⟨q0, q1, qP, va_K.moved (u := U) (U := U.calling g mk a) (Vm.Alike.refl U.vm) qK, qD, qN.same rfl⟩, fun U hU hW => ⟨rfl, by rw [hU], by rw [hU]; exact hPc, va_K.moved hW.alike hK, hDc.weaken (fun _ _ _ _ => trivial), hN.warm hW⟩⟩ rfl rfl hl.1 rfl (lv_room (Nat.le_of_ble_eq_true rfl)) dX9_row_6 ⟨Nat.le_of_ble_eq_true rfl, Nat.le_of_ble_eq_true rfl⟩) hS (fun q _ h => hFc q h) hFc (fun r_4 u_5 t H1 locs ht hvm hw_6 hB hz1 hk1 hS => ?_)
  try dsimp only at hw_6 hB
  have po_7 := hw_6
  clear hw_6
  try simp only [hk_2, hk_3] at po_7
  obtain ⟨hP1, hD1⟩ := hB
  rw [ht] at hP1
  obtain ⟨hP, hD⟩ := va_join (wr := [((am 0), .inr (9, F9 am v_status v_now v_told v_merges v_taped v_size v_from v_to v_fault v_readFault v_traits v_length v_open v_leaks v_places v_models)), ((am 1), .inl (cA 0, 400, .inl f_rowPerson)), ((am 2), .inl (cA 0, 400, .inl f_rowStream)), ((am 3), .inl (cA 0, 400, .inl f_rowMoment)), ((am 4), .inl (cA 0, 400, .inl f_rowKnown)), ((am 5), .inl (cA 0, 400, .inl f_rowValue)), ((am 9), .inl (cA 2, 20, .inl f_isErased))]) (w1 := []) hP hD [] [0, 1, 2, 3, 4, 5, 6] hCc rfl (by decide) (by decide) hk1 hFc hP1 hD1
  clear hz1
  generalize H1 = H at hP hS ⊢
  refine lv_if_eq (tgt := 48) hx hb dX9_row_9 (by decide) (fun c_8 => ?_) (fun c_8 => ?_)
  · have dc_8 : r_4.toInt = 0 := jI_eq c_8 rfl (by decide)
    refine lv_aload_n hx hb dX9_row_48 rfl (lv_at hl 0 rfl) ?_
    refine lv_iconst (v := (-1)) hx hb dX9_row_49 (by decide) ?_
    have hk_9 : ((-1) : Int32).toInt = (-1) := by decide
    obtain ⟨hPc, hDc, hFc, hCc⟩ := va_pre (ws' := [((am 0), .inr (9, F9 am v_status v_now v_told v_merges v_taped v_size v_from v_to v_fault v_readFault v_traits v_length v_open v_leaks v_places v_models))]) hP hD hS hA [0] (by decide) rfl
    refine va_calli (va_runV (As := [.int (-1)]) (rest := []) ⟨hx, hb, hml, hown, hts⟩ (k_X9_ends l dC dI cA H.size am v_status v_now v_told v_merges v_taped v_size v_from v_to v_fault v_readFault v_traits v_length v_open v_leaks v_places v_models (-1) i_v_now i_v_told i_v_taped i_v_size i_v_from i_v_to i_v_traits i_v_length i_v_open i_v_places i_v_models) (cwV 1 hts gX9_row_X9_ends rfl rfl rfl (by decide +kernel) ⟨Nat.le_of_ble_eq_true rfl, Nat.le_of_ble_eq_true rfl⟩) ⟨fun a U g mk q => by obtain ⟨q0, q1, qP, qK, qD, qN⟩ := q; exact ⟨q0, q1, qP, va_K.moved (u := U) (U := U.calling g mk a) (Vm.Alike.refl U.vm) qK, qD, qN.same rfl⟩, va_recv hK hPc (ci := 9) (q0 := 0) rfl rfl, fun U hU hW => ⟨rfl, by rw [hU], by rw [hU]; exact hPc, va_K.moved hW.alike hK, hDc.weaken (fun _ _ _ _ => trivial), hN.warm hW⟩⟩ rfl rfl hl.1 rfl (lv_room (Nat.le_of_ble_eq_true rfl)) dX9_row_50 ⟨Nat.le_of_ble_eq_true rfl, Nat.le_of_ble_eq_true rfl⟩) hS (fun q _ h => hFc q h) hFc (fun r_10 u_11 t H1 locs ht hvm hw_12 hB hz1 hk1 hS => ?_)
    obtain ⟨w_13, rfl⟩ : ∃ z, z = u_11 := ⟨_, rfl⟩
    try dsimp only at hw_12 hB
    have hr9 := hw_12
    clear hw_12
    obtain ⟨hP1, hD1⟩ := hB
    rw [ht] at hP1
    obtain ⟨hP, hD⟩ := va_join (wr := [((am 1), .inl (cA 0, 400, .inl f_rowPerson)), ((am 2), .inl (cA 0, 400, .inl f_rowStream)), ((am 3), .inl (cA 0, 400, .inl f_rowMoment)), ((am 4), .inl (cA 0, 400, .inl f_rowKnown)), ((am 5), .inl (cA 0, 400, .inl f_rowValue)), ((am 9), .inl (cA 2, 20, .inl f_isErased))]) (w1 := [((am 0), .inr (9, F9 am w_13 v_now v_told v_merges v_taped v_size v_from v_to v_fault v_readFault v_traits v_length v_open v_leaks v_places v_models))]) hP hD [0] [1, 2, 3, 4, 5, 6] hCc rfl (by decide) (by decide) hk1 hFc hP1 hD1
    clear hz1
    generalize H1 = H at hP hS ⊢
    obtain rfl : (-1) = r_10 := hr9.symm
    obtain ⟨hP9, hD9⟩ := va_pd (ws' := [((am 0), .inr (9, F9 am w_13 v_now v_told v_merges v_taped v_size v_from v_to v_fault v_readFault v_traits v_length v_open v_leaks v_places v_models)), ((am 1), .inl (cA 0, 400, .inl f_rowPerson)), ((am 2), .inl (cA 0, 400, .inl f_rowStream)), ((am 3), .inl (cA 0, 400, .inl f_rowMoment)), ((am 4), .inl (cA 0, 400, .inl f_rowKnown)), ((am 5), .inl (cA 0, 400, .inl f_rowValue)), ((am 9), .inl (cA 2, 20, .inl f_isErased))]) hP hD [6, 0, 1, 2, 3, 4, 5] (by decide) rfl
    subst hQe
    have hans : ((-1) : Int32).toInt = (-1) := (by decide)
    have hpost : (0 ≤ v_told.toInt ∧ v_told.toInt ≤ 400) ∧ (inB 0 19 400 f_rowPerson) := ⟨i_v_told, i_f_rowPerson⟩
    exact W.iret (v := (-1)) hx hb hr (fun t ht hW => ⟨⟨(-1), (w_13, v_told, f_rowPerson, f_rowStream, f_rowMoment, f_rowKnown, f_rowValue), rfl, hpost, by rw [ht]; exact hP9, hD9⟩, hS.F ht⟩) hS.2.2 dX9_row_53
  · have dc_8 : ¬ r_4.toInt = 0 := jI_ne c_8 rfl (by decide)
    refine lv_iload_n hx hb dX9_row_12 rfl (lv_at hl 3 rfl) ?_
    obtain ⟨hPc, hDc, hFc, hCc⟩ := va_pre (ws' := []) hP hD hS hA [] (by decide) rfl
    refine va_calli (va_runS (As := [.int mo]) (rest := []) ⟨hx, hb, hml, hown, hts⟩ (k_X9_isMoment l dC dI cA H.size mo ) (va_cwS 1 hts gX9_row_X9_isMoment rfl rfl rfl (by decide +kernel) ⟨Nat.le_of_ble_eq_true rfl, Nat.le_of_ble_eq_true rfl⟩) ⟨fun a U g mk q => by obtain ⟨q0, q1, qP, qK, qD, qN⟩ := q; exact ⟨q0, q1, qP, va_K.moved (u := U) (U := U.calling g mk a) (Vm.Alike.refl U.vm) qK, qD, qN.same rfl⟩, fun U hU hW => ⟨rfl, by rw [hU], by rw [hU]; exact hPc, va_K.moved hW.alike hK, hDc.weaken (fun _ _ _ _ => trivial), hN.warm hW⟩⟩ rfl rfl hl.1 rfl (lv_room (Nat.le_of_ble_eq_true rfl)) dX9_row_13 ⟨Nat.le_of_ble_eq_true rfl, Nat.le_of_ble_eq_true rfl⟩) hS (fun q _ h => hFc q h) hFc (fun r_14 u_15 t H1 locs ht hvm hw_16 hB hz1 hk1 hS => ?_)
    try dsimp only at hw_16 hB
    have po_17 := hw_16
    clear hw_16
    obtain ⟨hP1, hD1⟩ := hB
    rw [ht] at hP1
    obtain ⟨hP, hD⟩ := va_join (wr := [((am 0), .inr (9, F9 am v_status v_now v_told v_merges v_taped v_size v_from v_to v_fault v_readFault v_traits v_length v_open v_leaks v_places v_models)), ((am 1), .inl (cA 0, 400, .inl f_rowPerson)), ((am 2), .inl (cA 0, 400, .inl f_rowStream)), ((am 3), .inl (cA 0, 400, .inl f_rowMoment)), ((am 4), .inl (cA 0, 400, .inl f_rowKnown)), ((am 5), .inl (cA 0, 400, .inl f_rowValue)), ((am 9), .inl (cA 2, 20, .inl f_isErased))]) (w1 := []) hP hD [] [0, 1, 2, 3, 4, 5, 6] hCc rfl (by decide) (by decide) hk1 hFc hP1 hD1
    clear hz1
    generalize H1 = H at hP hS ⊢
    refine lv_if_eq (tgt := 48) hx hb dX9_row_16 (by decide) (fun c_18 => ?_) (fun c_18 => ?_)
    · have dc_18 : r_14.toInt = 0 := jI_eq c_18 rfl (by decide)
      refine lv_aload_n hx hb dX9_row_48 rfl (lv_at hl 0 rfl) ?_
      refine lv_iconst (v := (-1)) hx hb dX9_row_49 (by decide) ?_
      have hk_19 : ((-1) : Int32).toInt = (-1) := by decide
      obtain ⟨hPc, hDc, hFc, hCc⟩ := va_pre (ws' := [((am 0), .inr (9, F9 am v_status v_now v_told v_merges v_taped v_size v_from v_to v_fault v_readFault v_traits v_length v_open v_leaks v_places v_models))]) hP hD hS hA [0] (by decide) rfl
      refine va_calli (va_runV (As := [.int (-1)]) (rest := []) ⟨hx, hb, hml, hown, hts⟩ (k_X9_ends l dC dI cA H.size am v_status v_now v_told v_merges v_taped v_size v_from v_to v_fault v_readFault v_traits v_length v_open v_leaks v_places v_models (-1) i_v_now i_v_told i_v_taped i_v_size i_v_from i_v_to i_v_traits i_v_length i_v_open i_v_places i_v_models) (cwV 1 hts gX9_row_X9_ends rfl rfl rfl (by decide +kernel) ⟨Nat.le_of_ble_eq_true rfl, Nat.le_of_ble_eq_true rfl⟩) ⟨fun a U g mk q => by obtain ⟨q0, q1, qP, qK, qD, qN⟩ := q; exact ⟨q0, q1, qP, va_K.moved (u := U) (U := U.calling g mk a) (Vm.Alike.refl U.vm) qK, qD, qN.same rfl⟩, va_recv hK hPc (ci := 9) (q0 := 0) rfl rfl, fun U hU hW => ⟨rfl, by rw [hU], by rw [hU]; exact hPc, va_K.moved hW.alike hK, hDc.weaken (fun _ _ _ _ => trivial), hN.warm hW⟩⟩ rfl rfl hl.1 rfl (lv_room (Nat.le_of_ble_eq_true rfl)) dX9_row_50 ⟨Nat.le_of_ble_eq_true rfl, Nat.le_of_ble_eq_true rfl⟩) hS (fun q _ h => hFc q h) hFc (fun r_20 u_21 t H1 locs ht hvm hw_22 hB hz1 hk1 hS => ?_)
      obtain ⟨w_23, rfl⟩ : ∃ z, z = u_21 := ⟨_, rfl⟩
      try dsimp only at hw_22 hB
      have hr9 := hw_22
      clear hw_22
      obtain ⟨hP1, hD1⟩ := hB
      rw [ht] at hP1
      obtain ⟨hP, hD⟩ := va_join (wr := [((am 1), .inl (cA 0, 400, .inl f_rowPerson)), ((am 2), .inl (cA 0, 400, .inl f_rowStream)), ((am 3), .inl (cA 0, 400, .inl f_rowMoment)), ((am 4), .inl (cA 0, 400, .inl f_rowKnown)), ((am 5), .inl (cA 0, 400, .inl f_rowValue)), ((am 9), .inl (cA 2, 20, .inl f_isErased))]) (w1 := [((am 0), .inr (9, F9 am w_23 v_now v_told v_merges v_taped v_size v_from v_to v_fault v_readFault v_traits v_length v_open v_leaks v_places v_models))]) hP hD [0] [1, 2, 3, 4, 5, 6] hCc rfl (by decide) (by decide) hk1 hFc hP1 hD1
      clear hz1
      generalize H1 = H at hP hS ⊢
      obtain rfl : (-1) = r_20 := hr9.symm
      obtain ⟨hP9, hD9⟩ := va_pd (ws' := [((am 0), .inr (9, F9 am w_23 v_now v_told v_merges v_taped v_size v_from v_to v_fault v_readFault v_traits v_length v_open v_leaks v_places v_models)), ((am 1), .inl (cA 0, 400, .inl f_rowPerson)), ((am 2), .inl (cA 0, 400, .inl f_rowStream)), ((am 3), .inl (cA 0, 400, .inl f_rowMoment)), ((am 4), .inl (cA 0, 400, .inl f_rowKnown)), ((am 5), .inl (cA 0, 400, .inl f_rowValue)), ((am 9), .inl (cA 2, 20, .inl f_isErased))]) hP hD [6, 0, 1, 2, 3, 4, 5] (by decide) rfl
      subst hQe
      have hans : ((-1) : Int32).toInt = (-1) := (by decide)
      have hpost : (0 ≤ v_told.toInt ∧ v_told.toInt ≤ 400) ∧ (inB 0 19 400 f_rowPerson) := ⟨i_v_told, i_f_rowPerson⟩
      exact W.iret (v := (-1)) hx hb hr (fun t ht hW => ⟨⟨(-1), (w_23, v_told, f_rowPerson, f_rowStream, f_rowMoment, f_rowKnown, f_rowValue), rfl, hpost, by rw [ht]; exact hP9, hD9⟩, hS.F ht⟩) hS.2.2 dX9_row_53
    · have dc_18 : ¬ r_14.toInt = 0 := jI_ne c_18 rfl (by decide)
      refine lv_iload hx hb dX9_row_19 (lv_at hl 4 rfl) ?_
      obtain ⟨y_24, ey_24⟩ : ∃ y : Int64, y = kn.toInt64 := ⟨_, rfl⟩
      have dy_24 : y_24.toInt = kn.toInt := by rw [ey_24]; exact Int32.toInt_toInt64 _
      refine lv_i2l (v := y_24) hx hb dX9_row_21 ey_24.symm ?_
      refine lv_iload_n hx hb dX9_row_22 rfl (lv_at hl 3 rfl) ?_
      obtain ⟨y_25, ey_25⟩ : ∃ y : Int64, y = mo.toInt64 := ⟨_, rfl⟩
      have dy_25 : y_25.toInt = mo.toInt := by rw [ey_25]; exact Int32.toInt_toInt64 _
      refine lv_i2l (v := y_25) hx hb dX9_row_23 ey_25.symm ?_
      refine lv_ldc2 hx hb hown (hts (.constantLong RX9 125 (100000)) (by decide +kernel)) dX9_row_24 ?_
      have hk_26 : (100000 : Int64).toInt = 100000 := by decide
      obtain ⟨hPc, hDc, hFc, hCc⟩ := va_pre (ws' := []) hP hD hS hA [] (by decide) rfl
      refine va_calli (va_runS (As := [.long y_24, .long y_25, .long 100000]) (rest := []) ⟨hx, hb, hml, hown, hts⟩ (k_X9_in l dC dI cA H.size y_24 y_25 100000 ) (va_cwS 3 hts gX9_row_X9_in rfl rfl rfl (by decide +kernel) ⟨Nat.le_of_ble_eq_true rfl, Nat.le_of_ble_eq_true rfl⟩) ⟨fun a U g mk q => by obtain ⟨q0, q1, qP, qK, qD, qN⟩ := q; exact ⟨q0, q1, qP, va_K.moved (u := U) (U := U.calling g mk a) (Vm.Alike.refl U.vm) qK, qD, qN.same rfl⟩, fun U hU hW => ⟨rfl, by rw [hU], by rw [hU]; exact hPc, va_K.moved hW.alike hK, hDc.weaken (fun _ _ _ _ => trivial), hN.warm hW⟩⟩ rfl rfl hl.1 rfl (lv_room (Nat.le_of_ble_eq_true rfl)) dX9_row_27 ⟨Nat.le_of_ble_eq_true rfl, Nat.le_of_ble_eq_true rfl⟩) hS (fun q _ h => hFc q h) hFc (fun r_27 u_28 t H1 locs ht hvm hw_29 hB hz1 hk1 hS => ?_)
      try dsimp only at hw_29 hB
      have po_30 := hw_29
      clear hw_29
      try simp only [hk_26] at po_30
      obtain ⟨hP1, hD1⟩ := hB
      rw [ht] at hP1
      obtain ⟨hP, hD⟩ := va_join (wr := [((am 0), .inr (9, F9 am v_status v_now v_told v_merges v_taped v_size v_from v_to v_fault v_readFault v_traits v_length v_open v_leaks v_places v_models)), ((am 1), .inl (cA 0, 400, .inl f_rowPerson)), ((am 2), .inl (cA 0, 400, .inl f_rowStream)), ((am 3), .inl (cA 0, 400, .inl f_rowMoment)), ((am 4), .inl (cA 0, 400, .inl f_rowKnown)), ((am 5), .inl (cA 0, 400, .inl f_rowValue)), ((am 9), .inl (cA 2, 20, .inl f_isErased))]) (w1 := []) hP hD [] [0, 1, 2, 3, 4, 5, 6] hCc rfl (by decide) (by decide) hk1 hFc hP1 hD1
      clear hz1
      generalize H1 = H at hP hS ⊢
      refine lv_if_eq (tgt := 48) hx hb dX9_row_30 (by decide) (fun c_31 => ?_) (fun c_31 => ?_)
      · have dc_31 : r_27.toInt = 0 := jI_eq c_31 rfl (by decide)
        refine lv_aload_n hx hb dX9_row_48 rfl (lv_at hl 0 rfl) ?_
        refine lv_iconst (v := (-1)) hx hb dX9_row_49 (by decide) ?_
        have hk_32 : ((-1) : Int32).toInt = (-1) := by decide
        obtain ⟨hPc, hDc, hFc, hCc⟩ := va_pre (ws' := [((am 0), .inr (9, F9 am v_status v_now v_told v_merges v_taped v_size v_from v_to v_fault v_readFault v_traits v_length v_open v_leaks v_places v_models))]) hP hD hS hA [0] (by decide) rfl
        refine va_calli (va_runV (As := [.int (-1)]) (rest := []) ⟨hx, hb, hml, hown, hts⟩ (k_X9_ends l dC dI cA H.size am v_status v_now v_told v_merges v_taped v_size v_from v_to v_fault v_readFault v_traits v_length v_open v_leaks v_places v_models (-1) i_v_now i_v_told i_v_taped i_v_size i_v_from i_v_to i_v_traits i_v_length i_v_open i_v_places i_v_models) (cwV 1 hts gX9_row_X9_ends rfl rfl rfl (by decide +kernel) ⟨Nat.le_of_ble_eq_true rfl, Nat.le_of_ble_eq_true rfl⟩) ⟨fun a U g mk q => by obtain ⟨q0, q1, qP, qK, qD, qN⟩ := q; exact ⟨q0, q1, qP, va_K.moved (u := U) (U := U.calling g mk a) (Vm.Alike.refl U.vm) qK, qD, qN.same rfl⟩, va_recv hK hPc (ci := 9) (q0 := 0) rfl rfl, fun U hU hW => ⟨rfl, by rw [hU], by rw [hU]; exact hPc, va_K.moved hW.alike hK, hDc.weaken (fun _ _ _ _ => trivial), hN.warm hW⟩⟩ rfl rfl hl.1 rfl (lv_room (Nat.le_of_ble_eq_true rfl)) dX9_row_50 ⟨Nat.le_of_ble_eq_true rfl, Nat.le_of_ble_eq_true rfl⟩) hS (fun q _ h => hFc q h) hFc (fun r_33 u_34 t H1 locs ht hvm hw_35 hB hz1 hk1 hS => ?_)
        obtain ⟨w_36, rfl⟩ : ∃ z, z = u_34 := ⟨_, rfl⟩
        try dsimp only at hw_35 hB
        have hr9 := hw_35
        clear hw_35
        obtain ⟨hP1, hD1⟩ := hB
        rw [ht] at hP1
        obtain ⟨hP, hD⟩ := va_join (wr := [((am 1), .inl (cA 0, 400, .inl f_rowPerson)), ((am 2), .inl (cA 0, 400, .inl f_rowStream)), ((am 3), .inl (cA 0, 400, .inl f_rowMoment)), ((am 4), .inl (cA 0, 400, .inl f_rowKnown)), ((am 5), .inl (cA 0, 400, .inl f_rowValue)), ((am 9), .inl (cA 2, 20, .inl f_isErased))]) (w1 := [((am 0), .inr (9, F9 am w_36 v_now v_told v_merges v_taped v_size v_from v_to v_fault v_readFault v_traits v_length v_open v_leaks v_places v_models))]) hP hD [0] [1, 2, 3, 4, 5, 6] hCc rfl (by decide) (by decide) hk1 hFc hP1 hD1
        clear hz1
        generalize H1 = H at hP hS ⊢
        obtain rfl : (-1) = r_33 := hr9.symm
        obtain ⟨hP9, hD9⟩ := va_pd (ws' := [((am 0), .inr (9, F9 am w_36 v_now v_told v_merges v_taped v_size v_from v_to v_fault v_readFault v_traits v_length v_open v_leaks v_places v_models)), ((am 1), .inl (cA 0, 400, .inl f_rowPerson)), ((am 2), .inl (cA 0, 400, .inl f_rowStream)), ((am 3), .inl (cA 0, 400, .inl f_rowMoment)), ((am 4), .inl (cA 0, 400, .inl f_rowKnown)), ((am 5), .inl (cA 0, 400, .inl f_rowValue)), ((am 9), .inl (cA 2, 20, .inl f_isErased))]) hP hD [6, 0, 1, 2, 3, 4, 5] (by decide) rfl
        subst hQe
        have hans : ((-1) : Int32).toInt = (-1) := (by decide)
        have hpost : (0 ≤ v_told.toInt ∧ v_told.toInt ≤ 400) ∧ (inB 0 19 400 f_rowPerson) := ⟨i_v_told, i_f_rowPerson⟩
        exact W.iret (v := (-1)) hx hb hr (fun t ht hW => ⟨⟨(-1), (w_36, v_told, f_rowPerson, f_rowStream, f_rowMoment, f_rowKnown, f_rowValue), rfl, hpost, by rw [ht]; exact hP9, hD9⟩, hS.F ht⟩) hS.2.2 dX9_row_53
      · have dc_31 : ¬ r_27.toInt = 0 := jI_ne c_31 rfl (by decide)
        refine lv_iload hx hb dX9_row_33 (lv_at hl 5 rfl) ?_
        obtain ⟨y_37, ey_37⟩ : ∃ y : Int64, y = va.toInt64 := ⟨_, rfl⟩
        have dy_37 : y_37.toInt = va.toInt := by rw [ey_37]; exact Int32.toInt_toInt64 _
        refine lv_i2l (v := y_37) hx hb dX9_row_35 ey_37.symm ?_
        refine lv_ldc2 hx hb hown (hts (.constantLong RX9 146 (-1000000)) (by decide +kernel)) dX9_row_36 ?_
        refine lv_ldc2 hx hb hown (hts (.constantLong RX9 148 (1000000)) (by decide +kernel)) dX9_row_39 ?_
        have hk_38 : ((-1000000) : Int64).toInt = (-1000000) := by decide
        have hk_39 : (1000000 : Int64).toInt = 1000000 := by decide
        obtain ⟨hPc, hDc, hFc, hCc⟩ := va_pre (ws' := []) hP hD hS hA [] (by decide) rfl
        refine va_calli (va_runS (As := [.long y_37, .long (-1000000), .long 1000000]) (rest := []) ⟨hx, hb, hml, hown, hts⟩ (k_X9_in l dC dI cA H.size y_37 (-1000000) 1000000 ) (va_cwS 3 hts gX9_row_X9_in rfl rfl rfl (by decide +kernel) ⟨Nat.le_of_ble_eq_true rfl, Nat.le_of_ble_eq_true rfl⟩) ⟨fun a U g mk q => by obtain ⟨q0, q1, qP, qK, qD, qN⟩ := q; exact ⟨q0, q1, qP, va_K.moved (u := U) (U := U.calling g mk a) (Vm.Alike.refl U.vm) qK, qD, qN.same rfl⟩, fun U hU hW => ⟨rfl, by rw [hU], by rw [hU]; exact hPc, va_K.moved hW.alike hK, hDc.weaken (fun _ _ _ _ => trivial), hN.warm hW⟩⟩ rfl rfl hl.1 rfl (lv_room (Nat.le_of_ble_eq_true rfl)) dX9_row_42 ⟨Nat.le_of_ble_eq_true rfl, Nat.le_of_ble_eq_true rfl⟩) hS (fun q _ h => hFc q h) hFc (fun r_40 u_41 t H1 locs ht hvm hw_42 hB hz1 hk1 hS => ?_)
        try dsimp only at hw_42 hB
        have po_43 := hw_42
        clear hw_42
        try simp only [hk_38, hk_39] at po_43
        obtain ⟨hP1, hD1⟩ := hB
        rw [ht] at hP1
        obtain ⟨hP, hD⟩ := va_join (wr := [((am 0), .inr (9, F9 am v_status v_now v_told v_merges v_taped v_size v_from v_to v_fault v_readFault v_traits v_length v_open v_leaks v_places v_models)), ((am 1), .inl (cA 0, 400, .inl f_rowPerson)), ((am 2), .inl (cA 0, 400, .inl f_rowStream)), ((am 3), .inl (cA 0, 400, .inl f_rowMoment)), ((am 4), .inl (cA 0, 400, .inl f_rowKnown)), ((am 5), .inl (cA 0, 400, .inl f_rowValue)), ((am 9), .inl (cA 2, 20, .inl f_isErased))]) (w1 := []) hP hD [] [0, 1, 2, 3, 4, 5, 6] hCc rfl (by decide) (by decide) hk1 hFc hP1 hD1
        clear hz1
        generalize H1 = H at hP hS ⊢
        refine lv_if_ne (tgt := 54) hx hb dX9_row_45 (by decide) (fun c_44 => ?_) (fun c_44 => ?_)
        · have dc_44 : ¬ r_40.toInt = 0 := jI_ne c_44 rfl (by decide)
          refine lv_iload_n hx hb dX9_row_54 rfl (lv_at hl 1 rfl) ?_
          obtain ⟨hPc, hDc, hFc, hCc⟩ := va_pre (ws' := []) hP hD hS hA [] (by decide) rfl
          refine va_calli (va_runS (As := [.int pp]) (rest := []) ⟨hx, hb, hml, hown, hts⟩ (k_X9_isPerson l dC dI cA H.size pp ) (va_cwS 1 hts gX9_row_X9_isPerson rfl rfl rfl (by decide +kernel) ⟨Nat.le_of_ble_eq_true rfl, Nat.le_of_ble_eq_true rfl⟩) ⟨fun a U g mk q => by obtain ⟨q0, q1, qP, qK, qD, qN⟩ := q; exact ⟨q0, q1, qP, va_K.moved (u := U) (U := U.calling g mk a) (Vm.Alike.refl U.vm) qK, qD, qN.same rfl⟩, fun U hU hW => ⟨rfl, by rw [hU], by rw [hU]; exact hPc, va_K.moved hW.alike hK, hDc.weaken (fun _ _ _ _ => trivial), hN.warm hW⟩⟩ rfl rfl hl.1 rfl (lv_room (Nat.le_of_ble_eq_true rfl)) dX9_row_55 ⟨Nat.le_of_ble_eq_true rfl, Nat.le_of_ble_eq_true rfl⟩) hS (fun q _ h => hFc q h) hFc (fun r_45 u_46 t H1 locs ht hvm hw_47 hB hz1 hk1 hS => ?_)
          try dsimp only at hw_47 hB
          have po_48 := hw_47
          clear hw_47
          obtain ⟨hP1, hD1⟩ := hB
          rw [ht] at hP1
          obtain ⟨hP, hD⟩ := va_join (wr := [((am 0), .inr (9, F9 am v_status v_now v_told v_merges v_taped v_size v_from v_to v_fault v_readFault v_traits v_length v_open v_leaks v_places v_models)), ((am 1), .inl (cA 0, 400, .inl f_rowPerson)), ((am 2), .inl (cA 0, 400, .inl f_rowStream)), ((am 3), .inl (cA 0, 400, .inl f_rowMoment)), ((am 4), .inl (cA 0, 400, .inl f_rowKnown)), ((am 5), .inl (cA 0, 400, .inl f_rowValue)), ((am 9), .inl (cA 2, 20, .inl f_isErased))]) (w1 := []) hP hD [] [0, 1, 2, 3, 4, 5, 6] hCc rfl (by decide) (by decide) hk1 hFc hP1 hD1
          clear hz1
          generalize H1 = H at hP hS ⊢
          refine lv_if_ne (tgt := 68) hx hb dX9_row_58 (by decide) (fun c_49 => ?_) (fun c_49 => ?_)
          · have dc_49 : ¬ r_45.toInt = 0 := jI_ne c_49 rfl (by decide)
            refine lv_aload_n hx hb dX9_row_68 rfl (lv_at hl 0 rfl) ?_
            refine va_get (D := (dC, dI)) (ci := 9) (v := .int v_told) (C := RX9) (T := TX9) (N := 51) hx hb hts hIX9 hown hK hP 0 rfl rfl 2 (by decide) (hts (.fieldLink RX9 153 "TraitHouseModel" "told" "I") (by decide +kernel)) (fun _ h9 => h9) rfl dX9_row_69 ?_
            refine lv_sipush (v := 400) hx hb dX9_row_72 (by decide) ?_
            refine lv_icmp_ne (tgt := 85) hx hb dX9_row_75 (by decide) (fun c_50 => ?_) (fun c_50 => ?_)
            · have dc_50 : ¬ v_told.toInt = 400 := jI_ne c_50 rfl (by decide)
              refine lv_aload_n hx hb dX9_row_85 rfl (lv_at hl 0 rfl) ?_
              refine va_get (D := (dC, dI)) (ci := 9) (v := .ref (am 9)) (C := RX9) (T := TX9) (N := 51) hx hb hts hIX9 hown hK hP 0 rfl rfl 12 (by decide) (hts (.fieldLink RX9 35 "TraitHouseModel" "isErased" "[Z") (by decide +kernel)) (fun _ h9 => h9) rfl dX9_row_86 ?_
              refine lv_iload_n hx hb dX9_row_89 rfl (lv_at hl 1 rfl) ?_
              have h_51 : vp_in pp 20 := (vp_in_iff.mpr ⟨by omega, by omega⟩)
              refine va_zald hx hb hK hP 6 2 rfl rfl h_51 dX9_row_90 ?_
              refine lv_topi (fun x_52 ex_52 => ?_)
              refine lv_if_eq (tgt := 101) hx hb dX9_row_91 (by decide) (fun c_53 => ?_) (fun c_53 => ?_)
              · have dc_53 : x_52.toInt = 0 := jI_eq c_53 rfl (by decide)
                refine lv_aload_n hx hb dX9_row_101 rfl (lv_at hl 0 rfl) ?_
                refine va_get (D := (dC, dI)) (ci := 9) (v := .ref (am 1)) (C := RX9) (T := TX9) (N := 51) hx hb hts hIX9 hown hK hP 0 rfl rfl 3 (by decide) (hts (.fieldLink RX9 7 "TraitHouseModel" "rowPerson" "[I") (by decide +kernel)) (fun _ h9 => h9) rfl dX9_row_102 ?_
                refine lv_aload_n hx hb dX9_row_105 rfl (lv_at hl 0 rfl) ?_
                refine va_get (D := (dC, dI)) (ci := 9) (v := .int v_told) (C := RX9) (T := TX9) (N := 51) hx hb hts hIX9 hown hK hP 0 rfl rfl 2 (by decide) (hts (.fieldLink RX9 153 "TraitHouseModel" "told" "I") (by decide +kernel)) (fun _ h9 => h9) rfl dX9_row_106 ?_
                refine lv_iload_n hx hb dX9_row_109 rfl (lv_at hl 1 rfl) ?_
                have h_54 : vp_in v_told 400 := (vp_in_iff.mpr ⟨by omega, by omega⟩)
                refine va_iast hx hb hK hP hD hS 1 0 rfl rfl h_54 dX9_row_110 (fun H locs hP hD hS => ?_)
                replace hP : va_P (dC, dI) vwCl [((am 0), .inr (9, F9 am v_status v_now v_told v_merges v_taped v_size v_from v_to v_fault v_readFault v_traits v_length v_open v_leaks v_places v_models)), ((am 1), .inl (cA 0, 400, .inl (upd f_rowPerson v_told.toNatClampNeg pp))), ((am 2), .inl (cA 0, 400, .inl f_rowStream)), ((am 3), .inl (cA 0, 400, .inl f_rowMoment)), ((am 4), .inl (cA 0, 400, .inl f_rowKnown)), ((am 5), .inl (cA 0, 400, .inl f_rowValue)), ((am 9), .inl (cA 2, 20, .inl f_isErased))] H := hP
                replace hD : va_D A [((am 0), .inr (9, F9 am v_status v_now v_told v_merges v_taped v_size v_from v_to v_fault v_readFault v_traits v_length v_open v_leaks v_places v_models)), ((am 1), .inl (cA 0, 400, .inl (upd f_rowPerson v_told.toNatClampNeg pp))), ((am 2), .inl (cA 0, 400, .inl f_rowStream)), ((am 3), .inl (cA 0, 400, .inl f_rowMoment)), ((am 4), .inl (cA 0, 400, .inl f_rowKnown)), ((am 5), .inl (cA 0, 400, .inl f_rowValue)), ((am 9), .inl (cA 2, 20, .inl f_isErased))] := hD
                obtain ⟨g_55, eg_55⟩ : ∃ g : Nat → Int32, g = upd f_rowPerson v_told.toNatClampNeg pp := ⟨_, rfl⟩
                rw [← eg_55] at hP hD
                have ig_55 : inB 0 19 400 g_55 := by rw [eg_55]; exact inB_upd i_f_rowPerson (by omega) (by omega)
                refine lv_aload_n hx hb dX9_row_111 rfl (lv_at hl 0 rfl) ?_
                refine va_get (D := (dC, dI)) (ci := 9) (v := .ref (am 2)) (C := RX9) (T := TX9) (N := 51) hx hb hts hIX9 hown hK hP 0 rfl rfl 4 (by decide) (hts (.fieldLink RX9 13 "TraitHouseModel" "rowStream" "[I") (by decide +kernel)) (fun _ h9 => h9) rfl dX9_row_112 ?_
                refine lv_aload_n hx hb dX9_row_115 rfl (lv_at hl 0 rfl) ?_
                refine va_get (D := (dC, dI)) (ci := 9) (v := .int v_told) (C := RX9) (T := TX9) (N := 51) hx hb hts hIX9 hown hK hP 0 rfl rfl 2 (by decide) (hts (.fieldLink RX9 153 "TraitHouseModel" "told" "I") (by decide +kernel)) (fun _ h9 => h9) rfl dX9_row_116 ?_
                refine lv_iload_n hx hb dX9_row_119 rfl (lv_at hl 2 rfl) ?_
                have h_56 : vp_in v_told 400 := (vp_in_iff.mpr ⟨by omega, by omega⟩)
                refine va_iast hx hb hK hP hD hS 2 0 rfl rfl h_56 dX9_row_120 (fun H locs hP hD hS => ?_)
                replace hP : va_P (dC, dI) vwCl [((am 0), .inr (9, F9 am v_status v_now v_told v_merges v_taped v_size v_from v_to v_fault v_readFault v_traits v_length v_open v_leaks v_places v_models)), ((am 1), .inl (cA 0, 400, .inl g_55)), ((am 2), .inl (cA 0, 400, .inl (upd f_rowStream v_told.toNatClampNeg st))), ((am 3), .inl (cA 0, 400, .inl f_rowMoment)), ((am 4), .inl (cA 0, 400, .inl f_rowKnown)), ((am 5), .inl (cA 0, 400, .inl f_rowValue)), ((am 9), .inl (cA 2, 20, .inl f_isErased))] H := hP
                replace hD : va_D A [((am 0), .inr (9, F9 am v_status v_now v_told v_merges v_taped v_size v_from v_to v_fault v_readFault v_traits v_length v_open v_leaks v_places v_models)), ((am 1), .inl (cA 0, 400, .inl g_55)), ((am 2), .inl (cA 0, 400, .inl (upd f_rowStream v_told.toNatClampNeg st))), ((am 3), .inl (cA 0, 400, .inl f_rowMoment)), ((am 4), .inl (cA 0, 400, .inl f_rowKnown)), ((am 5), .inl (cA 0, 400, .inl f_rowValue)), ((am 9), .inl (cA 2, 20, .inl f_isErased))] := hD
                obtain ⟨g_57, eg_57⟩ : ∃ g : Nat → Int32, g = upd f_rowStream v_told.toNatClampNeg st := ⟨_, rfl⟩
                rw [← eg_57] at hP hD
                refine lv_aload_n hx hb dX9_row_121 rfl (lv_at hl 0 rfl) ?_
                refine va_get (D := (dC, dI)) (ci := 9) (v := .ref (am 3)) (C := RX9) (T := TX9) (N := 51) hx hb hts hIX9 hown hK hP 0 rfl rfl 5 (by decide) (hts (.fieldLink RX9 16 "TraitHouseModel" "rowMoment" "[I") (by decide +kernel)) (fun _ h9 => h9) rfl dX9_row_122 ?_
                refine lv_aload_n hx hb dX9_row_125 rfl (lv_at hl 0 rfl) ?_
                refine va_get (D := (dC, dI)) (ci := 9) (v := .int v_told) (C := RX9) (T := TX9) (N := 51) hx hb hts hIX9 hown hK hP 0 rfl rfl 2 (by decide) (hts (.fieldLink RX9 153 "TraitHouseModel" "told" "I") (by decide +kernel)) (fun _ h9 => h9) rfl dX9_row_126 ?_
                refine lv_iload_n hx hb dX9_row_129 rfl (lv_at hl 3 rfl) ?_
                have h_58 : vp_in v_told 400 := (vp_in_iff.mpr ⟨by omega, by omega⟩)
                refine va_iast hx hb hK hP hD hS 3 0 rfl rfl h_58 dX9_row_130 (fun H locs hP hD hS => ?_)
                replace hP : va_P (dC, dI) vwCl [((am 0), .inr (9, F9 am v_status v_now v_told v_merges v_taped v_size v_from v_to v_fault v_readFault v_traits v_length v_open v_leaks v_places v_models)), ((am 1), .inl (cA 0, 400, .inl g_55)), ((am 2), .inl (cA 0, 400, .inl g_57)), ((am 3), .inl (cA 0, 400, .inl (upd f_rowMoment v_told.toNatClampNeg mo))), ((am 4), .inl (cA 0, 400, .inl f_rowKnown)), ((am 5), .inl (cA 0, 400, .inl f_rowValue)), ((am 9), .inl (cA 2, 20, .inl f_isErased))] H := hP
                replace hD : va_D A [((am 0), .inr (9, F9 am v_status v_now v_told v_merges v_taped v_size v_from v_to v_fault v_readFault v_traits v_length v_open v_leaks v_places v_models)), ((am 1), .inl (cA 0, 400, .inl g_55)), ((am 2), .inl (cA 0, 400, .inl g_57)), ((am 3), .inl (cA 0, 400, .inl (upd f_rowMoment v_told.toNatClampNeg mo))), ((am 4), .inl (cA 0, 400, .inl f_rowKnown)), ((am 5), .inl (cA 0, 400, .inl f_rowValue)), ((am 9), .inl (cA 2, 20, .inl f_isErased))] := hD
                obtain ⟨g_59, eg_59⟩ : ∃ g : Nat → Int32, g = upd f_rowMoment v_told.toNatClampNeg mo := ⟨_, rfl⟩
                rw [← eg_59] at hP hD
                refine lv_aload_n hx hb dX9_row_131 rfl (lv_at hl 0 rfl) ?_
                refine va_get (D := (dC, dI)) (ci := 9) (v := .ref (am 4)) (C := RX9) (T := TX9) (N := 51) hx hb hts hIX9 hown hK hP 0 rfl rfl 6 (by decide) (hts (.fieldLink RX9 19 "TraitHouseModel" "rowKnown" "[I") (by decide +kernel)) (fun _ h9 => h9) rfl dX9_row_132 ?_
                refine lv_aload_n hx hb dX9_row_135 rfl (lv_at hl 0 rfl) ?_
                refine va_get (D := (dC, dI)) (ci := 9) (v := .int v_told) (C := RX9) (T := TX9) (N := 51) hx hb hts hIX9 hown hK hP 0 rfl rfl 2 (by decide) (hts (.fieldLink RX9 153 "TraitHouseModel" "told" "I") (by decide +kernel)) (fun _ h9 => h9) rfl dX9_row_136 ?_
                refine lv_iload hx hb dX9_row_139 (lv_at hl 4 rfl) ?_
                have h_60 : vp_in v_told 400 := (vp_in_iff.mpr ⟨by omega, by omega⟩)
                refine va_iast hx hb hK hP hD hS 4 0 rfl rfl h_60 dX9_row_141 (fun H locs hP hD hS => ?_)
                replace hP : va_P (dC, dI) vwCl [((am 0), .inr (9, F9 am v_status v_now v_told v_merges v_taped v_size v_from v_to v_fault v_readFault v_traits v_length v_open v_leaks v_places v_models)), ((am 1), .inl (cA 0, 400, .inl g_55)), ((am 2), .inl (cA 0, 400, .inl g_57)), ((am 3), .inl (cA 0, 400, .inl g_59)), ((am 4), .inl (cA 0, 400, .inl (upd f_rowKnown v_told.toNatClampNeg kn))), ((am 5), .inl (cA 0, 400, .inl f_rowValue)), ((am 9), .inl (cA 2, 20, .inl f_isErased))] H := hP
                replace hD : va_D A [((am 0), .inr (9, F9 am v_status v_now v_told v_merges v_taped v_size v_from v_to v_fault v_readFault v_traits v_length v_open v_leaks v_places v_models)), ((am 1), .inl (cA 0, 400, .inl g_55)), ((am 2), .inl (cA 0, 400, .inl g_57)), ((am 3), .inl (cA 0, 400, .inl g_59)), ((am 4), .inl (cA 0, 400, .inl (upd f_rowKnown v_told.toNatClampNeg kn))), ((am 5), .inl (cA 0, 400, .inl f_rowValue)), ((am 9), .inl (cA 2, 20, .inl f_isErased))] := hD
                obtain ⟨g_61, eg_61⟩ : ∃ g : Nat → Int32, g = upd f_rowKnown v_told.toNatClampNeg kn := ⟨_, rfl⟩
                rw [← eg_61] at hP hD
                refine lv_aload_n hx hb dX9_row_142 rfl (lv_at hl 0 rfl) ?_
                refine va_get (D := (dC, dI)) (ci := 9) (v := .ref (am 5)) (C := RX9) (T := TX9) (N := 51) hx hb hts hIX9 hown hK hP 0 rfl rfl 7 (by decide) (hts (.fieldLink RX9 22 "TraitHouseModel" "rowValue" "[I") (by decide +kernel)) (fun _ h9 => h9) rfl dX9_row_143 ?_
                refine lv_aload_n hx hb dX9_row_146 rfl (lv_at hl 0 rfl) ?_
                refine va_get (D := (dC, dI)) (ci := 9) (v := .int v_told) (C := RX9) (T := TX9) (N := 51) hx hb hts hIX9 hown hK hP 0 rfl rfl 2 (by decide) (hts (.fieldLink RX9 153 "TraitHouseModel" "told" "I") (by decide +kernel)) (fun _ h9 => h9) rfl dX9_row_147 ?_
                refine lv_iload hx hb dX9_row_150 (lv_at hl 5 rfl) ?_
                have h_62 : vp_in v_told 400 := (vp_in_iff.mpr ⟨by omega, by omega⟩)
                refine va_iast hx hb hK hP hD hS 5 0 rfl rfl h_62 dX9_row_152 (fun H locs hP hD hS => ?_)
                replace hP : va_P (dC, dI) vwCl [((am 0), .inr (9, F9 am v_status v_now v_told v_merges v_taped v_size v_from v_to v_fault v_readFault v_traits v_length v_open v_leaks v_places v_models)), ((am 1), .inl (cA 0, 400, .inl g_55)), ((am 2), .inl (cA 0, 400, .inl g_57)), ((am 3), .inl (cA 0, 400, .inl g_59)), ((am 4), .inl (cA 0, 400, .inl g_61)), ((am 5), .inl (cA 0, 400, .inl (upd f_rowValue v_told.toNatClampNeg va))), ((am 9), .inl (cA 2, 20, .inl f_isErased))] H := hP
                replace hD : va_D A [((am 0), .inr (9, F9 am v_status v_now v_told v_merges v_taped v_size v_from v_to v_fault v_readFault v_traits v_length v_open v_leaks v_places v_models)), ((am 1), .inl (cA 0, 400, .inl g_55)), ((am 2), .inl (cA 0, 400, .inl g_57)), ((am 3), .inl (cA 0, 400, .inl g_59)), ((am 4), .inl (cA 0, 400, .inl g_61)), ((am 5), .inl (cA 0, 400, .inl (upd f_rowValue v_told.toNatClampNeg va))), ((am 9), .inl (cA 2, 20, .inl f_isErased))] := hD
                obtain ⟨g_63, eg_63⟩ : ∃ g : Nat → Int32, g = upd f_rowValue v_told.toNatClampNeg va := ⟨_, rfl⟩
                rw [← eg_63] at hP hD
                refine lv_aload_n hx hb dX9_row_153 rfl (lv_at hl 0 rfl) ?_
                refine lv_dup hx hb dX9_row_154 rfl ?_
                refine va_get (D := (dC, dI)) (ci := 9) (v := .int v_told) (C := RX9) (T := TX9) (N := 51) hx hb hts hIX9 hown hK hP 0 rfl rfl 2 (by decide) (hts (.fieldLink RX9 153 "TraitHouseModel" "told" "I") (by decide +kernel)) (fun _ h9 => h9) rfl dX9_row_155 ?_
                refine lv_iconst (v := 1) hx hb dX9_row_158 (by decide) ?_
                refine lv_iadd hx hb dX9_row_159 ?_
                refine lv_topi (fun x_64 ex_64 => ?_)
                have dx_64 : x_64.toInt = v_told.toInt + 1 := by rw [ex_64]; exact jI_add rfl (by decide) (by omega) (by omega)
                refine va_put (D := (dC, dI)) (ci := 9) (v := .int x_64) (ty := .int) (C := RX9) (T := TX9) (N := 51) hx hb hts hIX9 tyX9 tyX9_ok nmX9 hown hK hP hD hS 0 rfl rfl 2 (by decide) (hts (.fieldLink RX9 153 "TraitHouseModel" "told" "I") (by decide +kernel)) (fun _ h9 => h9) rfl (by decide +kernel) rfl rfl (Nat.le_of_ble_eq_true rfl) dX9_row_160 (fun H locs hP hD hS => ?_)
                replace hP : va_P (dC, dI) vwCl [((am 0), .inr (9, F9 am v_status v_now x_64 v_merges v_taped v_size v_from v_to v_fault v_readFault v_traits v_length v_open v_leaks v_places v_models)), ((am 1), .inl (cA 0, 400, .inl g_55)), ((am 2), .inl (cA 0, 400, .inl g_57)), ((am 3), .inl (cA 0, 400, .inl g_59)), ((am 4), .inl (cA 0, 400, .inl g_61)), ((am 5), .inl (cA 0, 400, .inl g_63)), ((am 9), .inl (cA 2, 20, .inl f_isErased))] H := hP
                replace hD : va_D A [((am 0), .inr (9, F9 am v_status v_now x_64 v_merges v_taped v_size v_from v_to v_fault v_readFault v_traits v_length v_open v_leaks v_places v_models)), ((am 1), .inl (cA 0, 400, .inl g_55)), ((am 2), .inl (cA 0, 400, .inl g_57)), ((am 3), .inl (cA 0, 400, .inl g_59)), ((am 4), .inl (cA 0, 400, .inl g_61)), ((am 5), .inl (cA 0, 400, .inl g_63)), ((am 9), .inl (cA 2, 20, .inl f_isErased))] := hD
                refine lv_aload_n hx hb dX9_row_163 rfl (lv_at hl 0 rfl) ?_
                refine lv_aload_n hx hb dX9_row_164 rfl (lv_at hl 0 rfl) ?_
                refine va_get (D := (dC, dI)) (ci := 9) (v := .int x_64) (C := RX9) (T := TX9) (N := 51) hx hb hts hIX9 hown hK hP 0 rfl rfl 2 (by decide) (hts (.fieldLink RX9 153 "TraitHouseModel" "told" "I") (by decide +kernel)) (fun _ h9 => h9) rfl dX9_row_165 ?_
                refine lv_iconst (v := 1) hx hb dX9_row_168 (by decide) ?_
                refine lv_isub hx hb dX9_row_169 ?_
                refine lv_topi (fun x_65 ex_65 => ?_)
                have dx_65 : x_65.toInt = x_64.toInt - 1 := by rw [ex_65]; exact jI_sub rfl (by decide) (by omega) (by omega)
                obtain ⟨hPc, hDc, hFc, hCc⟩ := va_pre (ws' := [((am 0), .inr (9, F9 am v_status v_now x_64 v_merges v_taped v_size v_from v_to v_fault v_readFault v_traits v_length v_open v_leaks v_places v_models))]) hP hD hS hA [0] (by decide) rfl
                refine va_calli (va_runV (As := [.int x_65]) (rest := []) ⟨hx, hb, hml, hown, hts⟩ (k_X9_ends l dC dI cA H.size am v_status v_now x_64 v_merges v_taped v_size v_from v_to v_fault v_readFault v_traits v_length v_open v_leaks v_places v_models x_65 i_v_now (by omega) i_v_taped i_v_size i_v_from i_v_to i_v_traits i_v_length i_v_open i_v_places i_v_models) (cwV 1 hts gX9_row_X9_ends rfl rfl rfl (by decide +kernel) ⟨Nat.le_of_ble_eq_true rfl, Nat.le_of_ble_eq_true rfl⟩) ⟨fun a U g mk q => by obtain ⟨q0, q1, qP, qK, qD, qN⟩ := q; exact ⟨q0, q1, qP, va_K.moved (u := U) (U := U.calling g mk a) (Vm.Alike.refl U.vm) qK, qD, qN.same rfl⟩, va_recv hK hPc (ci := 9) (q0 := 0) rfl rfl, fun U hU hW => ⟨rfl, by rw [hU], by rw [hU]; exact hPc, va_K.moved hW.alike hK, hDc.weaken (fun _ _ _ _ => trivial), hN.warm hW⟩⟩ rfl rfl hl.1 rfl (lv_room (Nat.le_of_ble_eq_true rfl)) dX9_row_170 ⟨Nat.le_of_ble_eq_true rfl, Nat.le_of_ble_eq_true rfl⟩) hS (fun q _ h => hFc q h) hFc (fun r_66 u_67 t H1 locs ht hvm hw_68 hB hz1 hk1 hS => ?_)
                obtain ⟨w_69, rfl⟩ : ∃ z, z = u_67 := ⟨_, rfl⟩
                try dsimp only at hw_68 hB
                have hr9 := hw_68
                clear hw_68
                obtain ⟨hP1, hD1⟩ := hB
                rw [ht] at hP1
                obtain ⟨hP, hD⟩ := va_join (wr := [((am 1), .inl (cA 0, 400, .inl g_55)), ((am 2), .inl (cA 0, 400, .inl g_57)), ((am 3), .inl (cA 0, 400, .inl g_59)), ((am 4), .inl (cA 0, 400, .inl g_61)), ((am 5), .inl (cA 0, 400, .inl g_63)), ((am 9), .inl (cA 2, 20, .inl f_isErased))]) (w1 := [((am 0), .inr (9, F9 am w_69 v_now x_64 v_merges v_taped v_size v_from v_to v_fault v_readFault v_traits v_length v_open v_leaks v_places v_models))]) hP hD [0] [1, 2, 3, 4, 5, 6] hCc rfl (by decide) (by decide) hk1 hFc hP1 hD1
                clear hz1
                generalize H1 = H at hP hS ⊢
                obtain rfl : x_65 = r_66 := hr9.symm
                obtain ⟨hP9, hD9⟩ := va_pd (ws' := [((am 0), .inr (9, F9 am w_69 v_now x_64 v_merges v_taped v_size v_from v_to v_fault v_readFault v_traits v_length v_open v_leaks v_places v_models)), ((am 1), .inl (cA 0, 400, .inl g_55)), ((am 2), .inl (cA 0, 400, .inl g_57)), ((am 3), .inl (cA 0, 400, .inl g_59)), ((am 4), .inl (cA 0, 400, .inl g_61)), ((am 5), .inl (cA 0, 400, .inl g_63)), ((am 9), .inl (cA 2, 20, .inl f_isErased))]) hP hD [6, 0, 1, 2, 3, 4, 5] (by decide) rfl
                subst hQe
                have hans : (x_65 : Int32).toInt = x_65.toInt := rfl
                have hpost : (0 ≤ x_64.toInt ∧ x_64.toInt ≤ 400) ∧ (inB 0 19 400 g_55) := ⟨by omega, ig_55⟩
                exact W.iret (v := x_65) hx hb hr (fun t ht hW => ⟨⟨x_65, (w_69, x_64, g_55, g_57, g_59, g_61, g_63), rfl, hpost, by rw [ht]; exact hP9, hD9⟩, hS.F ht⟩) hS.2.2 dX9_row_173
              · have dc_53 : ¬ x_52.toInt = 0 := jI_ne c_53 rfl (by decide)
                refine lv_aload_n hx hb dX9_row_94 rfl (lv_at hl 0 rfl) ?_
                refine lv_bipush (v := (-6)) hx hb dX9_row_95 (by decide) ?_
                have hk_70 : ((-6) : Int32).toInt = (-6) := by decide
                obtain ⟨hPc, hDc, hFc, hCc⟩ := va_pre (ws' := [((am 0), .inr (9, F9 am v_status v_now v_told v_merges v_taped v_size v_from v_to v_fault v_readFault v_traits v_length v_open v_leaks v_places v_models))]) hP hD hS hA [0] (by decide) rfl
                refine va_calli (va_runV (As := [.int (-6)]) (rest := []) ⟨hx, hb, hml, hown, hts⟩ (k_X9_ends l dC dI cA H.size am v_status v_now v_told v_merges v_taped v_size v_from v_to v_fault v_readFault v_traits v_length v_open v_leaks v_places v_models (-6) i_v_now i_v_told i_v_taped i_v_size i_v_from i_v_to i_v_traits i_v_length i_v_open i_v_places i_v_models) (cwV 1 hts gX9_row_X9_ends rfl rfl rfl (by decide +kernel) ⟨Nat.le_of_ble_eq_true rfl, Nat.le_of_ble_eq_true rfl⟩) ⟨fun a U g mk q => by obtain ⟨q0, q1, qP, qK, qD, qN⟩ := q; exact ⟨q0, q1, qP, va_K.moved (u := U) (U := U.calling g mk a) (Vm.Alike.refl U.vm) qK, qD, qN.same rfl⟩, va_recv hK hPc (ci := 9) (q0 := 0) rfl rfl, fun U hU hW => ⟨rfl, by rw [hU], by rw [hU]; exact hPc, va_K.moved hW.alike hK, hDc.weaken (fun _ _ _ _ => trivial), hN.warm hW⟩⟩ rfl rfl hl.1 rfl (lv_room (Nat.le_of_ble_eq_true rfl)) dX9_row_97 ⟨Nat.le_of_ble_eq_true rfl, Nat.le_of_ble_eq_true rfl⟩) hS (fun q _ h => hFc q h) hFc (fun r_71 u_72 t H1 locs ht hvm hw_73 hB hz1 hk1 hS => ?_)
                obtain ⟨w_74, rfl⟩ : ∃ z, z = u_72 := ⟨_, rfl⟩
                try dsimp only at hw_73 hB
                have hr9 := hw_73
                clear hw_73
                obtain ⟨hP1, hD1⟩ := hB
                rw [ht] at hP1
                obtain ⟨hP, hD⟩ := va_join (wr := [((am 1), .inl (cA 0, 400, .inl f_rowPerson)), ((am 2), .inl (cA 0, 400, .inl f_rowStream)), ((am 3), .inl (cA 0, 400, .inl f_rowMoment)), ((am 4), .inl (cA 0, 400, .inl f_rowKnown)), ((am 5), .inl (cA 0, 400, .inl f_rowValue)), ((am 9), .inl (cA 2, 20, .inl f_isErased))]) (w1 := [((am 0), .inr (9, F9 am w_74 v_now v_told v_merges v_taped v_size v_from v_to v_fault v_readFault v_traits v_length v_open v_leaks v_places v_models))]) hP hD [0] [1, 2, 3, 4, 5, 6] hCc rfl (by decide) (by decide) hk1 hFc hP1 hD1
                clear hz1
                generalize H1 = H at hP hS ⊢
                obtain rfl : (-6) = r_71 := hr9.symm
                obtain ⟨hP9, hD9⟩ := va_pd (ws' := [((am 0), .inr (9, F9 am w_74 v_now v_told v_merges v_taped v_size v_from v_to v_fault v_readFault v_traits v_length v_open v_leaks v_places v_models)), ((am 1), .inl (cA 0, 400, .inl f_rowPerson)), ((am 2), .inl (cA 0, 400, .inl f_rowStream)), ((am 3), .inl (cA 0, 400, .inl f_rowMoment)), ((am 4), .inl (cA 0, 400, .inl f_rowKnown)), ((am 5), .inl (cA 0, 400, .inl f_rowValue)), ((am 9), .inl (cA 2, 20, .inl f_isErased))]) hP hD [6, 0, 1, 2, 3, 4, 5] (by decide) rfl
                subst hQe
                have hans : ((-6) : Int32).toInt = (-6) := (by decide)
                have hpost : (0 ≤ v_told.toInt ∧ v_told.toInt ≤ 400) ∧ (inB 0 19 400 f_rowPerson) := ⟨i_v_told, i_f_rowPerson⟩
                exact W.iret (v := (-6)) hx hb hr (fun t ht hW => ⟨⟨(-6), (w_74, v_told, f_rowPerson, f_rowStream, f_rowMoment, f_rowKnown, f_rowValue), rfl, hpost, by rw [ht]; exact hP9, hD9⟩, hS.F ht⟩) hS.2.2 dX9_row_100
            · have dc_50 : v_told.toInt = 400 := jI_eq c_50 rfl (by decide)
              refine lv_aload_n hx hb dX9_row_78 rfl (lv_at hl 0 rfl) ?_
              refine lv_bipush (v := (-5)) hx hb dX9_row_79 (by decide) ?_
              have hk_75 : ((-5) : Int32).toInt = (-5) := by decide
              obtain ⟨hPc, hDc, hFc, hCc⟩ := va_pre (ws' := [((am 0), .inr (9, F9 am v_status v_now v_told v_merges v_taped v_size v_from v_to v_fault v_readFault v_traits v_length v_open v_leaks v_places v_models))]) hP hD hS hA [0] (by decide) rfl
              refine va_calli (va_runV (As := [.int (-5)]) (rest := []) ⟨hx, hb, hml, hown, hts⟩ (k_X9_ends l dC dI cA H.size am v_status v_now v_told v_merges v_taped v_size v_from v_to v_fault v_readFault v_traits v_length v_open v_leaks v_places v_models (-5) i_v_now i_v_told i_v_taped i_v_size i_v_from i_v_to i_v_traits i_v_length i_v_open i_v_places i_v_models) (cwV 1 hts gX9_row_X9_ends rfl rfl rfl (by decide +kernel) ⟨Nat.le_of_ble_eq_true rfl, Nat.le_of_ble_eq_true rfl⟩) ⟨fun a U g mk q => by obtain ⟨q0, q1, qP, qK, qD, qN⟩ := q; exact ⟨q0, q1, qP, va_K.moved (u := U) (U := U.calling g mk a) (Vm.Alike.refl U.vm) qK, qD, qN.same rfl⟩, va_recv hK hPc (ci := 9) (q0 := 0) rfl rfl, fun U hU hW => ⟨rfl, by rw [hU], by rw [hU]; exact hPc, va_K.moved hW.alike hK, hDc.weaken (fun _ _ _ _ => trivial), hN.warm hW⟩⟩ rfl rfl hl.1 rfl (lv_room (Nat.le_of_ble_eq_true rfl)) dX9_row_81 ⟨Nat.le_of_ble_eq_true rfl, Nat.le_of_ble_eq_true rfl⟩) hS (fun q _ h => hFc q h) hFc (fun r_76 u_77 t H1 locs ht hvm hw_78 hB hz1 hk1 hS => ?_)
              obtain ⟨w_79, rfl⟩ : ∃ z, z = u_77 := ⟨_, rfl⟩
              try dsimp only at hw_78 hB
              have hr9 := hw_78
              clear hw_78
              obtain ⟨hP1, hD1⟩ := hB
              rw [ht] at hP1
              obtain ⟨hP, hD⟩ := va_join (wr := [((am 1), .inl (cA 0, 400, .inl f_rowPerson)), ((am 2), .inl (cA 0, 400, .inl f_rowStream)), ((am 3), .inl (cA 0, 400, .inl f_rowMoment)), ((am 4), .inl (cA 0, 400, .inl f_rowKnown)), ((am 5), .inl (cA 0, 400, .inl f_rowValue)), ((am 9), .inl (cA 2, 20, .inl f_isErased))]) (w1 := [((am 0), .inr (9, F9 am w_79 v_now v_told v_merges v_taped v_size v_from v_to v_fault v_readFault v_traits v_length v_open v_leaks v_places v_models))]) hP hD [0] [1, 2, 3, 4, 5, 6] hCc rfl (by decide) (by decide) hk1 hFc hP1 hD1
              clear hz1
              generalize H1 = H at hP hS ⊢
              obtain rfl : (-5) = r_76 := hr9.symm
              obtain ⟨hP9, hD9⟩ := va_pd (ws' := [((am 0), .inr (9, F9 am w_79 v_now v_told v_merges v_taped v_size v_from v_to v_fault v_readFault v_traits v_length v_open v_leaks v_places v_models)), ((am 1), .inl (cA 0, 400, .inl f_rowPerson)), ((am 2), .inl (cA 0, 400, .inl f_rowStream)), ((am 3), .inl (cA 0, 400, .inl f_rowMoment)), ((am 4), .inl (cA 0, 400, .inl f_rowKnown)), ((am 5), .inl (cA 0, 400, .inl f_rowValue)), ((am 9), .inl (cA 2, 20, .inl f_isErased))]) hP hD [6, 0, 1, 2, 3, 4, 5] (by decide) rfl
              subst hQe
              have hans : ((-5) : Int32).toInt = (-5) := (by decide)
              have hpost : (0 ≤ v_told.toInt ∧ v_told.toInt ≤ 400) ∧ (inB 0 19 400 f_rowPerson) := ⟨i_v_told, i_f_rowPerson⟩
              exact W.iret (v := (-5)) hx hb hr (fun t ht hW => ⟨⟨(-5), (w_79, v_told, f_rowPerson, f_rowStream, f_rowMoment, f_rowKnown, f_rowValue), rfl, hpost, by rw [ht]; exact hP9, hD9⟩, hS.F ht⟩) hS.2.2 dX9_row_84
          · have dc_49 : r_45.toInt = 0 := jI_eq c_49 rfl (by decide)
            refine lv_aload_n hx hb dX9_row_61 rfl (lv_at hl 0 rfl) ?_
            refine lv_bipush (v := (-2)) hx hb dX9_row_62 (by decide) ?_
            have hk_80 : ((-2) : Int32).toInt = (-2) := by decide
            obtain ⟨hPc, hDc, hFc, hCc⟩ := va_pre (ws' := [((am 0), .inr (9, F9 am v_status v_now v_told v_merges v_taped v_size v_from v_to v_fault v_readFault v_traits v_length v_open v_leaks v_places v_models))]) hP hD hS hA [0] (by decide) rfl
            refine va_calli (va_runV (As := [.int (-2)]) (rest := []) ⟨hx, hb, hml, hown, hts⟩ (k_X9_ends l dC dI cA H.size am v_status v_now v_told v_merges v_taped v_size v_from v_to v_fault v_readFault v_traits v_length v_open v_leaks v_places v_models (-2) i_v_now i_v_told i_v_taped i_v_size i_v_from i_v_to i_v_traits i_v_length i_v_open i_v_places i_v_models) (cwV 1 hts gX9_row_X9_ends rfl rfl rfl (by decide +kernel) ⟨Nat.le_of_ble_eq_true rfl, Nat.le_of_ble_eq_true rfl⟩) ⟨fun a U g mk q => by obtain ⟨q0, q1, qP, qK, qD, qN⟩ := q; exact ⟨q0, q1, qP, va_K.moved (u := U) (U := U.calling g mk a) (Vm.Alike.refl U.vm) qK, qD, qN.same rfl⟩, va_recv hK hPc (ci := 9) (q0 := 0) rfl rfl, fun U hU hW => ⟨rfl, by rw [hU], by rw [hU]; exact hPc, va_K.moved hW.alike hK, hDc.weaken (fun _ _ _ _ => trivial), hN.warm hW⟩⟩ rfl rfl hl.1 rfl (lv_room (Nat.le_of_ble_eq_true rfl)) dX9_row_64 ⟨Nat.le_of_ble_eq_true rfl, Nat.le_of_ble_eq_true rfl⟩) hS (fun q _ h => hFc q h) hFc (fun r_81 u_82 t H1 locs ht hvm hw_83 hB hz1 hk1 hS => ?_)
            obtain ⟨w_84, rfl⟩ : ∃ z, z = u_82 := ⟨_, rfl⟩
            try dsimp only at hw_83 hB
            have hr9 := hw_83
            clear hw_83
            obtain ⟨hP1, hD1⟩ := hB
            rw [ht] at hP1
            obtain ⟨hP, hD⟩ := va_join (wr := [((am 1), .inl (cA 0, 400, .inl f_rowPerson)), ((am 2), .inl (cA 0, 400, .inl f_rowStream)), ((am 3), .inl (cA 0, 400, .inl f_rowMoment)), ((am 4), .inl (cA 0, 400, .inl f_rowKnown)), ((am 5), .inl (cA 0, 400, .inl f_rowValue)), ((am 9), .inl (cA 2, 20, .inl f_isErased))]) (w1 := [((am 0), .inr (9, F9 am w_84 v_now v_told v_merges v_taped v_size v_from v_to v_fault v_readFault v_traits v_length v_open v_leaks v_places v_models))]) hP hD [0] [1, 2, 3, 4, 5, 6] hCc rfl (by decide) (by decide) hk1 hFc hP1 hD1
            clear hz1
            generalize H1 = H at hP hS ⊢
            obtain rfl : (-2) = r_81 := hr9.symm
            obtain ⟨hP9, hD9⟩ := va_pd (ws' := [((am 0), .inr (9, F9 am w_84 v_now v_told v_merges v_taped v_size v_from v_to v_fault v_readFault v_traits v_length v_open v_leaks v_places v_models)), ((am 1), .inl (cA 0, 400, .inl f_rowPerson)), ((am 2), .inl (cA 0, 400, .inl f_rowStream)), ((am 3), .inl (cA 0, 400, .inl f_rowMoment)), ((am 4), .inl (cA 0, 400, .inl f_rowKnown)), ((am 5), .inl (cA 0, 400, .inl f_rowValue)), ((am 9), .inl (cA 2, 20, .inl f_isErased))]) hP hD [6, 0, 1, 2, 3, 4, 5] (by decide) rfl
            subst hQe
            have hans : ((-2) : Int32).toInt = (-2) := (by decide)
            have hpost : (0 ≤ v_told.toInt ∧ v_told.toInt ≤ 400) ∧ (inB 0 19 400 f_rowPerson) := ⟨i_v_told, i_f_rowPerson⟩
            exact W.iret (v := (-2)) hx hb hr (fun t ht hW => ⟨⟨(-2), (w_84, v_told, f_rowPerson, f_rowStream, f_rowMoment, f_rowKnown, f_rowValue), rfl, hpost, by rw [ht]; exact hP9, hD9⟩, hS.F ht⟩) hS.2.2 dX9_row_67
        · have dc_44 : r_40.toInt = 0 := jI_eq c_44 rfl (by decide)
          refine lv_aload_n hx hb dX9_row_48 rfl (lv_at hl 0 rfl) ?_
          refine lv_iconst (v := (-1)) hx hb dX9_row_49 (by decide) ?_
          have hk_85 : ((-1) : Int32).toInt = (-1) := by decide
          obtain ⟨hPc, hDc, hFc, hCc⟩ := va_pre (ws' := [((am 0), .inr (9, F9 am v_status v_now v_told v_merges v_taped v_size v_from v_to v_fault v_readFault v_traits v_length v_open v_leaks v_places v_models))]) hP hD hS hA [0] (by decide) rfl
          refine va_calli (va_runV (As := [.int (-1)]) (rest := []) ⟨hx, hb, hml, hown, hts⟩ (k_X9_ends l dC dI cA H.size am v_status v_now v_told v_merges v_taped v_size v_from v_to v_fault v_readFault v_traits v_length v_open v_leaks v_places v_models (-1) i_v_now i_v_told i_v_taped i_v_size i_v_from i_v_to i_v_traits i_v_length i_v_open i_v_places i_v_models) (cwV 1 hts gX9_row_X9_ends rfl rfl rfl (by decide +kernel) ⟨Nat.le_of_ble_eq_true rfl, Nat.le_of_ble_eq_true rfl⟩) ⟨fun a U g mk q => by obtain ⟨q0, q1, qP, qK, qD, qN⟩ := q; exact ⟨q0, q1, qP, va_K.moved (u := U) (U := U.calling g mk a) (Vm.Alike.refl U.vm) qK, qD, qN.same rfl⟩, va_recv hK hPc (ci := 9) (q0 := 0) rfl rfl, fun U hU hW => ⟨rfl, by rw [hU], by rw [hU]; exact hPc, va_K.moved hW.alike hK, hDc.weaken (fun _ _ _ _ => trivial), hN.warm hW⟩⟩ rfl rfl hl.1 rfl (lv_room (Nat.le_of_ble_eq_true rfl)) dX9_row_50 ⟨Nat.le_of_ble_eq_true rfl, Nat.le_of_ble_eq_true rfl⟩) hS (fun q _ h => hFc q h) hFc (fun r_86 u_87 t H1 locs ht hvm hw_88 hB hz1 hk1 hS => ?_)
          obtain ⟨w_89, rfl⟩ : ∃ z, z = u_87 := ⟨_, rfl⟩
          try dsimp only at hw_88 hB
          have hr9 := hw_88
          clear hw_88
          obtain ⟨hP1, hD1⟩ := hB
          rw [ht] at hP1
          obtain ⟨hP, hD⟩ := va_join (wr := [((am 1), .inl (cA 0, 400, .inl f_rowPerson)), ((am 2), .inl (cA 0, 400, .inl f_rowStream)), ((am 3), .inl (cA 0, 400, .inl f_rowMoment)), ((am 4), .inl (cA 0, 400, .inl f_rowKnown)), ((am 5), .inl (cA 0, 400, .inl f_rowValue)), ((am 9), .inl (cA 2, 20, .inl f_isErased))]) (w1 := [((am 0), .inr (9, F9 am w_89 v_now v_told v_merges v_taped v_size v_from v_to v_fault v_readFault v_traits v_length v_open v_leaks v_places v_models))]) hP hD [0] [1, 2, 3, 4, 5, 6] hCc rfl (by decide) (by decide) hk1 hFc hP1 hD1
          clear hz1
          generalize H1 = H at hP hS ⊢
          obtain rfl : (-1) = r_86 := hr9.symm
          obtain ⟨hP9, hD9⟩ := va_pd (ws' := [((am 0), .inr (9, F9 am w_89 v_now v_told v_merges v_taped v_size v_from v_to v_fault v_readFault v_traits v_length v_open v_leaks v_places v_models)), ((am 1), .inl (cA 0, 400, .inl f_rowPerson)), ((am 2), .inl (cA 0, 400, .inl f_rowStream)), ((am 3), .inl (cA 0, 400, .inl f_rowMoment)), ((am 4), .inl (cA 0, 400, .inl f_rowKnown)), ((am 5), .inl (cA 0, 400, .inl f_rowValue)), ((am 9), .inl (cA 2, 20, .inl f_isErased))]) hP hD [6, 0, 1, 2, 3, 4, 5] (by decide) rfl
          subst hQe
          have hans : ((-1) : Int32).toInt = (-1) := (by decide)
          have hpost : (0 ≤ v_told.toInt ∧ v_told.toInt ≤ 400) ∧ (inB 0 19 400 f_rowPerson) := ⟨i_v_told, i_f_rowPerson⟩
          exact W.iret (v := (-1)) hx hb hr (fun t ht hW => ⟨⟨(-1), (w_89, v_told, f_rowPerson, f_rowStream, f_rowMoment, f_rowKnown, f_rowValue), rfl, hpost, by rw [ht]; exact hP9, hD9⟩, hS.F ht⟩) hS.2.2 dX9_row_53
