theorem dX3_isFull_0 : decode cX3_isFull 0 = .ok (.aload_n 0, 1) := by decide +kernel
theorem dX3_isFull_1 : decode cX3_isFull 1 = .ok (.getfield 27, 3) := by decide +kernel
theorem dX3_isFull_4 : decode cX3_isFull 4 = .ok (.sipush 400, 3) := by decide +kernel
theorem dX3_isFull_7 : decode cX3_isFull 7 = .ok (.if_icmp .lt 7, 3) := by decide +kernel
theorem dX3_isFull_14 : decode cX3_isFull 14 = .ok (.iconst 0, 1) := by decide +kernel
theorem dX3_isFull_15 : decode cX3_isFull 15 = .ok (.ireturn, 1) := by decide +kernel
theorem dX3_add_0 : decode cX3_add 0 = .ok (.aload_n 0, 1) := by decide +kernel
set_option maxRecDepth 20000 in
theorem ggX3_add_X3_isFull : GoodIn wsX3_add wsX3_isFull := goodIn_r _ [12, 2, 13, 14, 15, 16, 17, 18, 19] (by decide +kernel) (by decide +kernel)
set_option maxRecDepth 20000 in
theorem gX3_add_X3_isFull : GoodIn wsX3_add (wsV RX3 31 RX3 yX3_isFull wsX3_isFull) := goodIn_app (goodIn_of _ (by decide +kernel)) ggX3_add_X3_isFull
theorem dX3_add_1 : decode cX3_add 1 = .ok (.invokevirtual 31, 3) := by decide +kernel
theorem dX3_add_4 : decode cX3_add 4 = .ok (.ifCond .eq 6, 3) := by decide +kernel
theorem dX3_add_10 : decode cX3_add 10 = .ok (.aload_n 0, 1) := by decide +kernel
theorem dX3_add_11 : decode cX3_add 11 = .ok (.getfield 9, 3) := by decide +kernel
theorem dX3_add_14 : decode cX3_add 14 = .ok (.aload_n 0, 1) := by decide +kernel
theorem dX3_add_15 : decode cX3_add 15 = .ok (.getfield 27, 3) := by decide +kernel
theorem dX3_add_18 : decode cX3_add 18 = .ok (.iload_n 1, 1) := by decide +kernel
theorem dX3_add_19 : decode cX3_add 19 = .ok (.iastore, 1) := by decide +kernel
theorem dX3_add_20 : decode cX3_add 20 = .ok (.aload_n 0, 1) := by decide +kernel
theorem dX3_add_21 : decode cX3_add 21 = .ok (.getfield 15, 3) := by decide +kernel
theorem dX3_add_24 : decode cX3_add 24 = .ok (.aload_n 0, 1) := by decide +kernel
theorem dX3_add_25 : decode cX3_add 25 = .ok (.getfield 27, 3) := by decide +kernel
theorem dX3_add_28 : decode cX3_add 28 = .ok (.iload_n 2, 1) := by decide +kernel
theorem dX3_add_29 : decode cX3_add 29 = .ok (.iastore, 1) := by decide +kernel
theorem dX3_add_30 : decode cX3_add 30 = .ok (.aload_n 0, 1) := by decide +kernel
theorem dX3_add_31 : decode cX3_add 31 = .ok (.getfield 18, 3) := by decide +kernel
theorem dX3_add_34 : decode cX3_add 34 = .ok (.aload_n 0, 1) := by decide +kernel
theorem dX3_add_35 : decode cX3_add 35 = .ok (.getfield 27, 3) := by decide +kernel
theorem dX3_add_38 : decode cX3_add 38 = .ok (.iload_n 3, 1) := by decide +kernel
theorem dX3_add_39 : decode cX3_add 39 = .ok (.iastore, 1) := by decide +kernel
theorem dX3_add_40 : decode cX3_add 40 = .ok (.aload_n 0, 1) := by decide +kernel
theorem dX3_add_41 : decode cX3_add 41 = .ok (.getfield 21, 3) := by decide +kernel
theorem dX3_add_44 : decode cX3_add 44 = .ok (.aload_n 0, 1) := by decide +kernel
theorem dX3_add_45 : decode cX3_add 45 = .ok (.getfield 27, 3) := by decide +kernel
theorem dX3_add_48 : decode cX3_add 48 = .ok (.iload 4, 2) := by decide +kernel
theorem dX3_add_50 : decode cX3_add 50 = .ok (.iastore, 1) := by decide +kernel
theorem dX3_add_51 : decode cX3_add 51 = .ok (.aload_n 0, 1) := by decide +kernel
theorem dX3_add_52 : decode cX3_add 52 = .ok (.getfield 24, 3) := by decide +kernel
theorem dX3_add_55 : decode cX3_add 55 = .ok (.aload_n 0, 1) := by decide +kernel
theorem dX3_add_56 : decode cX3_add 56 = .ok (.getfield 27, 3) := by decide +kernel
theorem dX3_add_59 : decode cX3_add 59 = .ok (.iload 5, 2) := by decide +kernel
theorem dX3_add_61 : decode cX3_add 61 = .ok (.iastore, 1) := by decide +kernel
theorem dX3_add_62 : decode cX3_add 62 = .ok (.aload_n 0, 1) := by decide +kernel
theorem dX3_add_63 : decode cX3_add 63 = .ok (.dup, 1) := by decide +kernel
theorem dX3_add_64 : decode cX3_add 64 = .ok (.getfield 27, 3) := by decide +kernel
theorem dX3_add_67 : decode cX3_add 67 = .ok (.iconst 1, 1) := by decide +kernel
theorem dX3_add_68 : decode cX3_add 68 = .ok (.iadd, 1) := by decide +kernel
theorem dX3_add_69 : decode cX3_add 69 = .ok (.putfield 27, 3) := by decide +kernel
theorem dX3_add_72 : decode cX3_add 72 = .ok (.aload_n 0, 1) := by decide +kernel
theorem dX3_add_73 : decode cX3_add 73 = .ok (.dup, 1) := by decide +kernel
theorem dX3_add_74 : decode cX3_add 74 = .ok (.getfield 35, 3) := by decide +kernel
theorem dX3_add_77 : decode cX3_add 77 = .ok (.iconst 1, 1) := by decide +kernel
theorem dX3_add_78 : decode cX3_add 78 = .ok (.iadd, 1) := by decide +kernel
theorem dX3_add_79 : decode cX3_add 79 = .ok (.putfield 35, 3) := by decide +kernel
theorem dX3_add_82 : decode cX3_add 82 = .ok (.aload_n 0, 1) := by decide +kernel
theorem dX3_add_83 : decode cX3_add 83 = .ok (.getfield 35, 3) := by decide +kernel
theorem dX3_add_86 : decode cX3_add 86 = .ok (.iconst 1, 1) := by decide +kernel
theorem dX3_add_87 : decode cX3_add 87 = .ok (.isub, 1) := by decide +kernel
theorem dX3_add_88 : decode cX3_add 88 = .ok (.ireturn, 1) := by decide +kernel
theorem dX8_addRow_0 : decode cX8_addRow 0 = .ok (.iload_n 2, 1) := by decide +kernel
set_option maxRecDepth 20000 in
theorem ggX8_addRow_X8_isStream : GoodIn wsX8_addRow wsX8_isStream := goodIn_r _ [6] (by decide +kernel) (by decide +kernel)
set_option maxRecDepth 20000 in
theorem gX8_addRow_X8_isStream : GoodIn wsX8_addRow (va_wsS RX8 94 yX8_isStream wsX8_isStream) := goodIn_app (goodIn_of _ (by decide +kernel)) ggX8_addRow_X8_isStream
theorem dX8_addRow_1 : decode cX8_addRow 1 = .ok (.invokestatic 94, 3) := by decide +kernel
theorem dX8_addRow_4 : decode cX8_addRow 4 = .ok (.ifCond .eq 32, 3) := by decide +kernel
theorem dX8_addRow_36 : decode cX8_addRow 36 = .ok (.iconst (-1), 1) := by decide +kernel
theorem dX8_addRow_37 : decode cX8_addRow 37 = .ok (.ireturn, 1) := by decide +kernel
theorem dX8_addRow_7 : decode cX8_addRow 7 = .ok (.iload_n 3, 1) := by decide +kernel
set_option maxRecDepth 20000 in
theorem ggX8_addRow_X8_isMoment : GoodIn wsX8_addRow wsX8_isMoment := goodIn_r _ [9, 10] (by decide +kernel) (by decide +kernel)
set_option maxRecDepth 20000 in
theorem gX8_addRow_X8_isMoment : GoodIn wsX8_addRow (va_wsS RX8 79 yX8_isMoment wsX8_isMoment) := goodIn_app (goodIn_of _ (by decide +kernel)) ggX8_addRow_X8_isMoment
theorem dX8_addRow_8 : decode cX8_addRow 8 = .ok (.invokestatic 79, 3) := by decide +kernel
theorem dX8_addRow_11 : decode cX8_addRow 11 = .ok (.ifCond .eq 25, 3) := by decide +kernel
theorem dX8_addRow_14 : decode cX8_addRow 14 = .ok (.iload 4, 2) := by decide +kernel
theorem dX8_addRow_16 : decode cX8_addRow 16 = .ok (.invokestatic 79, 3) := by decide +kernel
theorem dX8_addRow_19 : decode cX8_addRow 19 = .ok (.ifCond .eq 17, 3) := by decide +kernel
theorem dX8_addRow_22 : decode cX8_addRow 22 = .ok (.iload 4, 2) := by decide +kernel
theorem dX8_addRow_24 : decode cX8_addRow 24 = .ok (.iload_n 3, 1) := by decide +kernel
theorem dX8_addRow_25 : decode cX8_addRow 25 = .ok (.if_icmp .lt 11, 3) := by decide +kernel
theorem dX8_addRow_28 : decode cX8_addRow 28 = .ok (.iload 5, 2) := by decide +kernel
set_option maxRecDepth 20000 in
theorem ggX8_addRow_X8_isRowValue : GoodIn wsX8_addRow wsX8_isRowValue := goodIn_r _ [13, 14, 15] (by decide +kernel) (by decide +kernel)
set_option maxRecDepth 20000 in
theorem gX8_addRow_X8_isRowValue : GoodIn wsX8_addRow (va_wsS RX8 97 yX8_isRowValue wsX8_isRowValue) := goodIn_app (goodIn_of _ (by decide +kernel)) ggX8_addRow_X8_isRowValue
theorem dX8_addRow_30 : decode cX8_addRow 30 = .ok (.invokestatic 97, 3) := by decide +kernel
theorem dX8_addRow_33 : decode cX8_addRow 33 = .ok (.ifCond .ne 5, 3) := by decide +kernel
theorem dX8_addRow_38 : decode cX8_addRow 38 = .ok (.iload_n 1, 1) := by decide +kernel
set_option maxRecDepth 20000 in
theorem ggX8_addRow_X8_isPerson : GoodIn wsX8_addRow wsX8_isPerson := goodIn_r _ [18] (by decide +kernel) (by decide +kernel)
set_option maxRecDepth 20000 in
theorem gX8_addRow_X8_isPerson : GoodIn wsX8_addRow (va_wsS RX8 100 yX8_isPerson wsX8_isPerson) := goodIn_app (goodIn_of _ (by decide +kernel)) ggX8_addRow_X8_isPerson
theorem dX8_addRow_39 : decode cX8_addRow 39 = .ok (.invokestatic 100, 3) := by decide +kernel
theorem dX8_addRow_42 : decode cX8_addRow 42 = .ok (.ifCond .ne 6, 3) := by decide +kernel
theorem dX8_addRow_48 : decode cX8_addRow 48 = .ok (.aload_n 0, 1) := by decide +kernel
theorem dX8_addRow_49 : decode cX8_addRow 49 = .ok (.getfield 10, 3) := by decide +kernel
set_option maxRecDepth 20000 in
theorem ggX8_addRow_X3_isFull : GoodIn wsX8_addRow wsX3_isFull := goodIn_r _ [22, 23, 51, 52, 53, 54, 55, 56, 57] (by decide +kernel) (by decide +kernel)
set_option maxRecDepth 20000 in
theorem gX8_addRow_X3_isFull_n103 : GoodIn wsX8_addRow (wsX3_isFull) := ggX8_addRow_X3_isFull
theorem dX8_addRow_52 : decode cX8_addRow 52 = .ok (.invokevirtual 103, 3) := by decide +kernel
theorem dX8_addRow_55 : decode cX8_addRow 55 = .ok (.ifCond .eq 6, 3) := by decide +kernel
theorem dX8_addRow_61 : decode cX8_addRow 61 = .ok (.aload_n 0, 1) := by decide +kernel
theorem dX8_addRow_62 : decode cX8_addRow 62 = .ok (.getfield 23, 3) := by decide +kernel
theorem dX8_addRow_65 : decode cX8_addRow 65 = .ok (.iload_n 1, 1) := by decide +kernel
theorem dX8_addRow_66 : decode cX8_addRow 66 = .ok (.baload, 1) := by decide +kernel
theorem dX8_addRow_67 : decode cX8_addRow 67 = .ok (.ifCond .eq 6, 3) := by decide +kernel
theorem dX8_addRow_73 : decode cX8_addRow 73 = .ok (.aload_n 0, 1) := by decide +kernel
theorem dX8_addRow_74 : decode cX8_addRow 74 = .ok (.getfield 10, 3) := by decide +kernel
theorem dX8_addRow_77 : decode cX8_addRow 77 = .ok (.iload_n 1, 1) := by decide +kernel
theorem dX8_addRow_78 : decode cX8_addRow 78 = .ok (.iload_n 2, 1) := by decide +kernel
theorem dX8_addRow_79 : decode cX8_addRow 79 = .ok (.iload_n 3, 1) := by decide +kernel
theorem dX8_addRow_80 : decode cX8_addRow 80 = .ok (.iload 4, 2) := by decide +kernel
theorem dX8_addRow_82 : decode cX8_addRow 82 = .ok (.iload 5, 2) := by decide +kernel
set_option maxRecDepth 20000 in
theorem ggX8_addRow_X3_add : GoodIn wsX8_addRow wsX3_add := goodIn_r _ [26, 27, 23, 28, 29, 30, 31, 32, 33, 19, 21, 20, 22, 51, 52, 53, 54, 55, 56, 57] (by decide +kernel) (by decide +kernel)
set_option maxRecDepth 20000 in
theorem gX8_addRow_X3_add_n107 : GoodIn wsX8_addRow (wsX3_add) := ggX8_addRow_X3_add
theorem dX8_addRow_84 : decode cX8_addRow 84 = .ok (.invokevirtual 107, 3) := by decide +kernel
theorem dX8_addRow_87 : decode cX8_addRow 87 = .ok (.ireturn, 1) := by decide +kernel
theorem dX8_addRow_45 : decode cX8_addRow 45 = .ok (.bipush (-2), 2) := by decide +kernel
theorem dX8_addRow_47 : decode cX8_addRow 47 = .ok (.ireturn, 1) := by decide +kernel
theorem dX8_row_0 : decode cX8_row 0 = .ok (.aload_n 0, 1) := by decide +kernel
theorem dX8_row_1 : decode cX8_row 1 = .ok (.aload_n 0, 1) := by decide +kernel
theorem dX8_row_2 : decode cX8_row 2 = .ok (.iload_n 1, 1) := by decide +kernel
theorem dX8_row_3 : decode cX8_row 3 = .ok (.iload_n 2, 1) := by decide +kernel
theorem dX8_row_4 : decode cX8_row 4 = .ok (.iload_n 3, 1) := by decide +kernel
theorem dX8_row_5 : decode cX8_row 5 = .ok (.iload 4, 2) := by decide +kernel
theorem dX8_row_7 : decode cX8_row 7 = .ok (.iload 5, 2) := by decide +kernel
set_option maxRecDepth 20000 in
theorem ggX8_row_X8_addRow : GoodIn wsX8_row wsX8_addRow := goodIn_r _ [5, 6, 7, 8, 9, 4, 10, 11, 12, 13, 14, 15, 16, 17, 18, 19, 20, 21, 22, 23, 24, 25, 26, 27, 28, 29, 30, 31, 32, 33, 34, 35, 36, 37, 47, 48, 49, 50, 51, 52, 53, 54, 55, 56, 57, 58, 59, 60, 61, 62, 63, 64, 65, 66, 67, 68, 69, 70] (by decide +kernel) (by decide +kernel)
set_option maxRecDepth 20000 in
theorem gX8_row_X8_addRow : GoodIn wsX8_row (wsV RX8 90 RX8 yX8_addRow wsX8_addRow) := goodIn_app (goodIn_of _ (by decide +kernel)) ggX8_row_X8_addRow
theorem dX8_row_9 : decode cX8_row 9 = .ok (.invokevirtual 90, 3) := by decide +kernel
set_option maxRecDepth 20000 in
theorem ggX8_row_X8_settle : GoodIn wsX8_row wsX8_settle := goodIn_r _ [41, 42, 43, 44, 45, 46, 47, 48, 49, 50, 51, 52, 53, 54, 55, 56, 57, 58, 59, 60, 61, 62, 63] (by decide +kernel) (by decide +kernel)
set_option maxRecDepth 20000 in
theorem gX8_row_X8_settle : GoodIn wsX8_row (wsV RX8 86 RX8 yX8_settle wsX8_settle) := goodIn_app (goodIn_of _ (by decide +kernel)) ggX8_row_X8_settle
theorem dX8_row_12 : decode cX8_row 12 = .ok (.invokevirtual 86, 3) := by decide +kernel
theorem dX8_row_15 : decode cX8_row 15 = .ok (.ireturn, 1) := by decide +kernel
set_option maxHeartbeats 4000000 in
set_option maxRecDepth 100000 in
theorem c_X3_isFull (l : Launch) (dC : Nat → ClassId) (dI : Nat → Nat → Nat) (sz : Nat) (hRows : Nat) (aP : Nat) (aS : Nat) (aM : Nat) (aK : Nat) (aV : Nat)  : Met l yX3_isFull wsX3_isFull ({ frames := 0, cells := 0, slots := 0, locals := 0 }) (va_Pc [.ref hRows] (fun U => U.heap.size = sz ∧ va_P (dC, dI) vwCl [(hRows, .inr (3, [.ref aP, .ref aS, .ref aM, .ref aK, .ref aV, .int 0, .int 0]))] U.heap ∧ va_K (dC, dI) vwCl [] U ∧ va_D (fun _ => True) [(hRows, .inr (3, [.ref aP, .ref aS, .ref aM, .ref aK, .ref aV, .int 0, .int 0]))] ∧ nw_ok U)) (va_Qi (fun (r : Int32) (_ : Unit) => r = 0) (fun (_ : Unit) (t : State) => va_P (dC, dI) vwCl [(hRows, .inr (3, [.ref aP, .ref aS, .ref aM, .ref aK, .ref aV, .int 0, .int 0]))] t.heap ∧ va_K (dC, dI) vwCl [] t ∧ va_D (va_A [(hRows, .inr (3, [.ref aP, .ref aS, .ref aM, .ref aK, .ref aV, .int 0, .int 0]))] sz) [(hRows, .inr (3, [.ref aP, .ref aS, .ref aM, .ref aK, .ref aV, .int 0, .int 0]))]) (va_A [(hRows, .inr (3, [.ref aP, .ref aS, .ref aM, .ref aK, .ref aV, .int 0, .int 0]))] sz)) 0 0 (va_A [(hRows, .inr (3, [.ref aP, .ref aS, .ref aM, .ref aK, .ref aV, .int 0, .int 0]))] sz) := by
  refine Met.ofW (cc := cX3_isFull) (maxL := 1) (ret := (some .boolean)) (by decide) rfl ?_
  intro p e s m args below meth c s₁ B hml hv
  obtain ⟨rfl, hsz, hP, hK, hD0, hN⟩ := hv
  have hx := B.exec
  have hb := B.bytes
  have hr := B.returns
  have hts := atoms_spec (ws := wsX3_isFull) B.pre
  have hown : s.vm.findClass RX3 = some m.cls := findClass_of_methodNamed B.named
  have hlocks := B.notSynchronized
  subst hsz
  have hD := hD0.self (sz := s.heap.size)
  generalize hAe : va_A [(hRows, .inr (3, [.ref aP, .ref aS, .ref aM, .ref aK, .ref aV, .int 0, .int 0]))] s.heap.size = A at hD ⊢
  have hA : ∀ q : Nat, s.heap.size ≤ q → A q := fun q h => by rw [← hAe]; exact Or.inr h
  have hS : va_S A s.heap s.heap [] := va_S.rf
  have hP : va_P (dC, dI) vwCl [(hRows, .inr (3, [.ref aP, .ref aS, .ref aM, .ref aK, .ref aV, .int 0, .int 0]))] s.heap := hP
  have hIX3 : ∀ w ∈ u_ws RX3 TX3 7, w ∈ wsX3_isFull := by decide +kernel
  have hl := lv_entry ([.ref hRows]) (n := 1) (Nat.le_of_ble_eq_true rfl)
  rw [lg_entry_eq]
  generalize (lg_sl ([.ref hRows]) ++ List.replicate (1 - (lg_sl ([.ref hRows])).length) Slot.unset).toArray = ls at hl ⊢
  have hl : lv_has ls 1 [(0, .ref hRows)] := hl
  refine lv_aload_n hx hb dX3_isFull_0 rfl (lv_at hl 0 rfl) ?_
  refine va_get (D := (dC, dI)) (ci := 3) (v := .int 0) (C := RX3) (T := TX3) (N := 7) hx hb hts hIX3 hown hK hP 0 rfl rfl 5 (by decide) (hts (.fieldLink RX3 27 "TraitHouse$Rows" "size" "I") (by decide +kernel)) (fun _ h9 => h9) rfl dX3_isFull_1 ?_
  refine lv_sipush (v := 400) hx hb dX3_isFull_4 (by decide) ?_
  refine lv_icmp_lt (tgt := 14) hx hb dX3_isFull_7 (by decide) (fun c_1 => ?_) (fun c_1 => absurd (by decide) c_1)
  refine lv_iconst (v := 0) hx hb dX3_isFull_14 (by decide) ?_
  have hP9 := hP.sub (ws' := [(hRows, .inr (3, [.ref aP, .ref aS, .ref aM, .ref aK, .ref aV, .int 0, .int 0]))]) [0] rfl
  have hD9 := hD.sub (ws' := [(hRows, .inr (3, [.ref aP, .ref aS, .ref aM, .ref aK, .ref aV, .int 0, .int 0]))]) [0] (by decide) rfl
  have hK9 := hK.sub (tys' := []) [] rfl
  exact W.zret (v := 0) hx hb hr (by decide) (fun t ht hW => ⟨⟨0, (), rfl, rfl, by rw [ht]; exact hP9, va_K.moved hW.alike hK9, hD9⟩, hS.F ht⟩) hS.2.2 dX3_isFull_15

set_option maxHeartbeats 4000000 in
set_option maxRecDepth 100000 in
theorem c_X3_add (l : Launch) (dC : Nat → ClassId) (dI : Nat → Nat → Nat) (sz : Nat) (hRows : Nat) (aP : Nat) (aS : Nat) (aM : Nat) (aK : Nat) (aV : Nat) (cP : ClassId) (cS : ClassId) (cM : ClassId) (cK : ClassId) (cV : ClassId) (pp : Int32) (st : Int32) (mo : Int32) (kn : Int32) (va : Int32)  : Met l yX3_add wsX3_add ({ frames := 1, cells := 0, slots := 0, locals := 20 }) (va_Pc [.ref hRows, .int pp, .int st, .int mo, .int kn, .int va] (fun U => U.heap.size = sz ∧ va_P (dC, dI) vwCl [(hRows, .inr (3, [.ref aP, .ref aS, .ref aM, .ref aK, .ref aV, .int 0, .int 0])), (aP, .inl (cP, 400, .inl (fun _ => 0))), (aS, .inl (cS, 400, .inl (fun _ => 0))), (aM, .inl (cM, 400, .inl (fun _ => 0))), (aK, .inl (cK, 400, .inl (fun _ => 0))), (aV, .inl (cV, 400, .inl (fun _ => 0)))] U.heap ∧ va_K (dC, dI) vwCl [(cP, .int), (cS, .int), (cM, .int), (cK, .int), (cV, .int)] U ∧ va_D (fun _ => True) [(hRows, .inr (3, [.ref aP, .ref aS, .ref aM, .ref aK, .ref aV, .int 0, .int 0])), (aP, .inl (cP, 400, .inl (fun _ => 0))), (aS, .inl (cS, 400, .inl (fun _ => 0))), (aM, .inl (cM, 400, .inl (fun _ => 0))), (aK, .inl (cK, 400, .inl (fun _ => 0))), (aV, .inl (cV, 400, .inl (fun _ => 0)))] ∧ nw_ok U)) (va_Qi (fun (r : Int32) (_ : Unit) => r = 0) (fun (_ : Unit) (t : State) => True) (va_A [(hRows, .inr (3, [.ref aP, .ref aS, .ref aM, .ref aK, .ref aV, .int 0, .int 0])), (aP, .inl (cP, 400, .inl (fun _ => 0))), (aS, .inl (cS, 400, .inl (fun _ => 0))), (aM, .inl (cM, 400, .inl (fun _ => 0))), (aK, .inl (cK, 400, .inl (fun _ => 0))), (aV, .inl (cV, 400, .inl (fun _ => 0)))] sz)) 0 0 (va_A [(hRows, .inr (3, [.ref aP, .ref aS, .ref aM, .ref aK, .ref aV, .int 0, .int 0])), (aP, .inl (cP, 400, .inl (fun _ => 0))), (aS, .inl (cS, 400, .inl (fun _ => 0))), (aM, .inl (cM, 400, .inl (fun _ => 0))), (aK, .inl (cK, 400, .inl (fun _ => 0))), (aV, .inl (cV, 400, .inl (fun _ => 0)))] sz) := by
  refine Met.ofW (cc := cX3_add) (maxL := 6) (ret := (some .int)) (by decide) rfl ?_
  intro p e s m args below meth c s₁ B hml hv
  obtain ⟨rfl, hsz, hP, hK, hD0, hN⟩ := hv
  have hx := B.exec
  have hb := B.bytes
  have hr := B.returns
  have hts := atoms_spec (ws := wsX3_add) B.pre
  have hown : s.vm.findClass RX3 = some m.cls := findClass_of_methodNamed B.named
  have hlocks := B.notSynchronized
  subst hsz
  have hD := hD0.self (sz := s.heap.size)
  generalize hAe : va_A [(hRows, .inr (3, [.ref aP, .ref aS, .ref aM, .ref aK, .ref aV, .int 0, .int 0])), (aP, .inl (cP, 400, .inl (fun _ => 0))), (aS, .inl (cS, 400, .inl (fun _ => 0))), (aM, .inl (cM, 400, .inl (fun _ => 0))), (aK, .inl (cK, 400, .inl (fun _ => 0))), (aV, .inl (cV, 400, .inl (fun _ => 0)))] s.heap.size = A at hD ⊢
  have hA : ∀ q : Nat, s.heap.size ≤ q → A q := fun q h => by rw [← hAe]; exact Or.inr h
  have hS : va_S A s.heap s.heap [] := va_S.rf
  have hP : va_P (dC, dI) vwCl [(hRows, .inr (3, [.ref aP, .ref aS, .ref aM, .ref aK, .ref aV, .int 0, .int 0])), (aP, .inl (cP, 400, .inl (fun _ => 0))), (aS, .inl (cS, 400, .inl (fun _ => 0))), (aM, .inl (cM, 400, .inl (fun _ => 0))), (aK, .inl (cK, 400, .inl (fun _ => 0))), (aV, .inl (cV, 400, .inl (fun _ => 0)))] s.heap := hP
  have hIX3 : ∀ w ∈ u_ws RX3 TX3 7, w ∈ wsX3_add := by decide +kernel
  have hl := lv_entry ([.ref hRows, .int pp, .int st, .int mo, .int kn, .int va]) (n := 6) (Nat.le_of_ble_eq_true rfl)
  rw [lg_entry_eq]
  generalize (lg_sl ([.ref hRows, .int pp, .int st, .int mo, .int kn, .int va]) ++ List.replicate (6 - (lg_sl ([.ref hRows, .int pp, .int st, .int mo, .int kn, .int va])).length) Slot.unset).toArray = ls at hl ⊢
  have hl : lv_has ls 6 [(0, .ref hRows), (1, .int pp), (2, .int st), (3, .int mo), (4, .int kn), (5, .int va)] := hl
  refine lv_aload_n hx hb dX3_add_0 rfl (lv_at hl 0 rfl) ?_
  have hPc := hP.sub (ws' := [(hRows, .inr (3, [.ref aP, .ref aS, .ref aM, .ref aK, .ref aV, .int 0, .int 0]))]) [0] rfl
  have hDc := hD.sub (ws' := [(hRows, .inr (3, [.ref aP, .ref aS, .ref aM, .ref aK, .ref aV, .int 0, .int 0]))]) [0] (by decide) rfl
  have hKc := hK.sub (tys' := []) [] rfl
  have hFc := va_free (wc := [(hRows, .inr (3, [.ref aP, .ref aS, .ref aM, .ref aK, .ref aV, .int 0, .int 0]))]) hD hS hA [0] rfl
  refine va_calli (va_runV (As := []) (rest := []) ⟨hx, hb, hml, hown, hts⟩ (c_X3_isFull l dC dI s.heap.size hRows aP aS aM aK aV ) (cwV 0 hts gX3_add_X3_isFull rfl rfl rfl (by decide +kernel) ⟨Nat.le_of_ble_eq_true rfl, Nat.le_of_ble_eq_true rfl⟩) ⟨fun a U g mk q => by obtain ⟨q0, q1, qP, qK, qD, qN⟩ := q; exact ⟨q0, q1, qP, va_K.moved (u := U) (U := U.calling g mk a) (Vm.Alike.refl U.vm) qK, qD, qN.same rfl⟩, va_recv hKc hPc (ci := 3) (q0 := 0) rfl rfl, fun U hU hW => ⟨rfl, by rw [hU], by rw [hU]; exact hPc, va_K.moved hW.alike hKc, hDc.weaken (fun _ _ _ _ => trivial), hN.warm hW⟩⟩ rfl rfl hl.1 rfl (lv_room (Nat.le_of_ble_eq_true rfl)) dX3_add_1 ⟨Nat.le_of_ble_eq_true rfl, Nat.le_of_ble_eq_true rfl⟩) hS (fun q _ h => hFc q h) hFc (fun r_1 u_2 t H1 locs ht hvm hw_3 hB hz1 hk1 hS => ?_)
  try dsimp only at hw_3
  obtain ⟨hP1, hK1, hD1⟩ := hB
  rw [ht] at hP1
  have hK1 := va_K.moved hvm.symm hK1
  obtain ⟨hP, hD⟩ := va_join (wr := [(aP, .inl (cP, 400, .inl (fun _ => 0))), (aS, .inl (cS, 400, .inl (fun _ => 0))), (aM, .inl (cM, 400, .inl (fun _ => 0))), (aK, .inl (cK, 400, .inl (fun _ => 0))), (aV, .inl (cV, 400, .inl (fun _ => 0)))]) (w1 := [(hRows, .inr (3, [.ref aP, .ref aS, .ref aM, .ref aK, .ref aV, .int 0, .int 0]))]) hP hD [0] [1, 2, 3, 4, 5] rfl rfl (by decide) (by decide) hk1 hFc hP1 hD1
  have hK := (hK.sub (tys' := [(cP, .int), (cS, .int), (cM, .int), (cK, .int), (cV, .int)]) [0, 1, 2, 3, 4] rfl).app hK1
  generalize H1 = H at hP hS ⊢
  have hP : va_P (dC, dI) vwCl [(aP, .inl (cP, 400, .inl (fun _ => 0))), (aS, .inl (cS, 400, .inl (fun _ => 0))), (aM, .inl (cM, 400, .inl (fun _ => 0))), (aK, .inl (cK, 400, .inl (fun _ => 0))), (aV, .inl (cV, 400, .inl (fun _ => 0))), (hRows, .inr (3, [.ref aP, .ref aS, .ref aM, .ref aK, .ref aV, .int 0, .int 0]))] H := hP
  have hD : va_D A [(aP, .inl (cP, 400, .inl (fun _ => 0))), (aS, .inl (cS, 400, .inl (fun _ => 0))), (aM, .inl (cM, 400, .inl (fun _ => 0))), (aK, .inl (cK, 400, .inl (fun _ => 0))), (aV, .inl (cV, 400, .inl (fun _ => 0))), (hRows, .inr (3, [.ref aP, .ref aS, .ref aM, .ref aK, .ref aV, .int 0, .int 0]))] := hD
  have hK : va_K (dC, dI) vwCl [(cP, .int), (cS, .int), (cM, .int), (cK, .int), (cV, .int)] s := hK
  obtain rfl : 0 = r_1 := hw_3.symm
  refine lv_if_eq (tgt := 10) hx hb dX3_add_4 (by decide) (fun c_4 => ?_) (fun c_4 => absurd (by decide) c_4)
  refine lv_aload_n hx hb dX3_add_10 rfl (lv_at hl 0 rfl) ?_
  refine va_get (D := (dC, dI)) (ci := 3) (v := .ref aP) (C := RX3) (T := TX3) (N := 7) hx hb hts hIX3 hown hK hP 5 rfl rfl 0 (by decide) (hts (.fieldLink RX3 9 "TraitHouse$Rows" "people" "[I") (by decide +kernel)) (fun _ h9 => h9) rfl dX3_add_11 ?_
  refine lv_aload_n hx hb dX3_add_14 rfl (lv_at hl 0 rfl) ?_
  refine va_get (D := (dC, dI)) (ci := 3) (v := .int 0) (C := RX3) (T := TX3) (N := 7) hx hb hts hIX3 hown hK hP 5 rfl rfl 5 (by decide) (hts (.fieldLink RX3 27 "TraitHouse$Rows" "size" "I") (by decide +kernel)) (fun _ h9 => h9) rfl dX3_add_15 ?_
  refine lv_iload_n hx hb dX3_add_18 rfl (lv_at hl 1 rfl) ?_
  have h_5 : vp_in 0 400 := (vp_in_iff.mpr ⟨by decide, by decide⟩)
  refine va_iast hx hb hK hP hD hS 0 0 rfl rfl h_5 dX3_add_19 (fun H locs hP hD hS => ?_)
  have hP : va_P (dC, dI) vwCl [(aP, .inl (cP, 400, .inl (upd (fun _ => 0) (0 : Int32).toNatClampNeg pp))), (aS, .inl (cS, 400, .inl (fun _ => 0))), (aM, .inl (cM, 400, .inl (fun _ => 0))), (aK, .inl (cK, 400, .inl (fun _ => 0))), (aV, .inl (cV, 400, .inl (fun _ => 0))), (hRows, .inr (3, [.ref aP, .ref aS, .ref aM, .ref aK, .ref aV, .int 0, .int 0]))] H := hP
  have hD : va_D A [(aP, .inl (cP, 400, .inl (upd (fun _ => 0) (0 : Int32).toNatClampNeg pp))), (aS, .inl (cS, 400, .inl (fun _ => 0))), (aM, .inl (cM, 400, .inl (fun _ => 0))), (aK, .inl (cK, 400, .inl (fun _ => 0))), (aV, .inl (cV, 400, .inl (fun _ => 0))), (hRows, .inr (3, [.ref aP, .ref aS, .ref aM, .ref aK, .ref aV, .int 0, .int 0]))] := hD
  obtain ⟨g_6, eg_6⟩ : ∃ g : Nat → Int32, g = upd (fun _ => 0) (0 : Int32).toNatClampNeg pp := ⟨_, rfl⟩
  rw [← eg_6] at hP hD
  refine lv_aload_n hx hb dX3_add_20 rfl (lv_at hl 0 rfl) ?_
  refine va_get (D := (dC, dI)) (ci := 3) (v := .ref aS) (C := RX3) (T := TX3) (N := 7) hx hb hts hIX3 hown hK hP 5 rfl rfl 1 (by decide) (hts (.fieldLink RX3 15 "TraitHouse$Rows" "streams" "[I") (by decide +kernel)) (fun _ h9 => h9) rfl dX3_add_21 ?_
  refine lv_aload_n hx hb dX3_add_24 rfl (lv_at hl 0 rfl) ?_
  refine va_get (D := (dC, dI)) (ci := 3) (v := .int 0) (C := RX3) (T := TX3) (N := 7) hx hb hts hIX3 hown hK hP 5 rfl rfl 5 (by decide) (hts (.fieldLink RX3 27 "TraitHouse$Rows" "size" "I") (by decide +kernel)) (fun _ h9 => h9) rfl dX3_add_25 ?_
  refine lv_iload_n hx hb dX3_add_28 rfl (lv_at hl 2 rfl) ?_
  have h_7 : vp_in 0 400 := (vp_in_iff.mpr ⟨by decide, by decide⟩)
  refine va_iast hx hb hK hP hD hS 1 1 rfl rfl h_7 dX3_add_29 (fun H locs hP hD hS => ?_)
  have hP : va_P (dC, dI) vwCl [(aP, .inl (cP, 400, .inl g_6)), (aS, .inl (cS, 400, .inl (upd (fun _ => 0) (0 : Int32).toNatClampNeg st))), (aM, .inl (cM, 400, .inl (fun _ => 0))), (aK, .inl (cK, 400, .inl (fun _ => 0))), (aV, .inl (cV, 400, .inl (fun _ => 0))), (hRows, .inr (3, [.ref aP, .ref aS, .ref aM, .ref aK, .ref aV, .int 0, .int 0]))] H := hP
  have hD : va_D A [(aP, .inl (cP, 400, .inl g_6)), (aS, .inl (cS, 400, .inl (upd (fun _ => 0) (0 : Int32).toNatClampNeg st))), (aM, .inl (cM, 400, .inl (fun _ => 0))), (aK, .inl (cK, 400, .inl (fun _ => 0))), (aV, .inl (cV, 400, .inl (fun _ => 0))), (hRows, .inr (3, [.ref aP, .ref aS, .ref aM, .ref aK, .ref aV, .int 0, .int 0]))] := hD
  obtain ⟨g_8, eg_8⟩ : ∃ g : Nat → Int32, g = upd (fun _ => 0) (0 : Int32).toNatClampNeg st := ⟨_, rfl⟩
  rw [← eg_8] at hP hD
  refine lv_aload_n hx hb dX3_add_30 rfl (lv_at hl 0 rfl) ?_
  refine va_get (D := (dC, dI)) (ci := 3) (v := .ref aM) (C := RX3) (T := TX3) (N := 7) hx hb hts hIX3 hown hK hP 5 rfl rfl 2 (by decide) (hts (.fieldLink RX3 18 "TraitHouse$Rows" "moments" "[I") (by decide +kernel)) (fun _ h9 => h9) rfl dX3_add_31 ?_
  refine lv_aload_n hx hb dX3_add_34 rfl (lv_at hl 0 rfl) ?_
  refine va_get (D := (dC, dI)) (ci := 3) (v := .int 0) (C := RX3) (T := TX3) (N := 7) hx hb hts hIX3 hown hK hP 5 rfl rfl 5 (by decide) (hts (.fieldLink RX3 27 "TraitHouse$Rows" "size" "I") (by decide +kernel)) (fun _ h9 => h9) rfl dX3_add_35 ?_
  refine lv_iload_n hx hb dX3_add_38 rfl (lv_at hl 3 rfl) ?_
  have h_9 : vp_in 0 400 := (vp_in_iff.mpr ⟨by decide, by decide⟩)
  refine va_iast hx hb hK hP hD hS 2 2 rfl rfl h_9 dX3_add_39 (fun H locs hP hD hS => ?_)
  have hP : va_P (dC, dI) vwCl [(aP, .inl (cP, 400, .inl g_6)), (aS, .inl (cS, 400, .inl g_8)), (aM, .inl (cM, 400, .inl (upd (fun _ => 0) (0 : Int32).toNatClampNeg mo))), (aK, .inl (cK, 400, .inl (fun _ => 0))), (aV, .inl (cV, 400, .inl (fun _ => 0))), (hRows, .inr (3, [.ref aP, .ref aS, .ref aM, .ref aK, .ref aV, .int 0, .int 0]))] H := hP
  have hD : va_D A [(aP, .inl (cP, 400, .inl g_6)), (aS, .inl (cS, 400, .inl g_8)), (aM, .inl (cM, 400, .inl (upd (fun _ => 0) (0 : Int32).toNatClampNeg mo))), (aK, .inl (cK, 400, .inl (fun _ => 0))), (aV, .inl (cV, 400, .inl (fun _ => 0))), (hRows, .inr (3, [.ref aP, .ref aS, .ref aM, .ref aK, .ref aV, .int 0, .int 0]))] := hD
  obtain ⟨g_10, eg_10⟩ : ∃ g : Nat → Int32, g = upd (fun _ => 0) (0 : Int32).toNatClampNeg mo := ⟨_, rfl⟩
  rw [← eg_10] at hP hD
  refine lv_aload_n hx hb dX3_add_40 rfl (lv_at hl 0 rfl) ?_
  refine va_get (D := (dC, dI)) (ci := 3) (v := .ref aK) (C := RX3) (T := TX3) (N := 7) hx hb hts hIX3 hown hK hP 5 rfl rfl 3 (by decide) (hts (.fieldLink RX3 21 "TraitHouse$Rows" "knowns" "[I") (by decide +kernel)) (fun _ h9 => h9) rfl dX3_add_41 ?_
  refine lv_aload_n hx hb dX3_add_44 rfl (lv_at hl 0 rfl) ?_
  refine va_get (D := (dC, dI)) (ci := 3) (v := .int 0) (C := RX3) (T := TX3) (N := 7) hx hb hts hIX3 hown hK hP 5 rfl rfl 5 (by decide) (hts (.fieldLink RX3 27 "TraitHouse$Rows" "size" "I") (by decide +kernel)) (fun _ h9 => h9) rfl dX3_add_45 ?_
  refine lv_iload hx hb dX3_add_48 (lv_at hl 4 rfl) ?_
  have h_11 : vp_in 0 400 := (vp_in_iff.mpr ⟨by decide, by decide⟩)
  refine va_iast hx hb hK hP hD hS 3 3 rfl rfl h_11 dX3_add_50 (fun H locs hP hD hS => ?_)
  have hP : va_P (dC, dI) vwCl [(aP, .inl (cP, 400, .inl g_6)), (aS, .inl (cS, 400, .inl g_8)), (aM, .inl (cM, 400, .inl g_10)), (aK, .inl (cK, 400, .inl (upd (fun _ => 0) (0 : Int32).toNatClampNeg kn))), (aV, .inl (cV, 400, .inl (fun _ => 0))), (hRows, .inr (3, [.ref aP, .ref aS, .ref aM, .ref aK, .ref aV, .int 0, .int 0]))] H := hP
  have hD : va_D A [(aP, .inl (cP, 400, .inl g_6)), (aS, .inl (cS, 400, .inl g_8)), (aM, .inl (cM, 400, .inl g_10)), (aK, .inl (cK, 400, .inl (upd (fun _ => 0) (0 : Int32).toNatClampNeg kn))), (aV, .inl (cV, 400, .inl (fun _ => 0))), (hRows, .inr (3, [.ref aP, .ref aS, .ref aM, .ref aK, .ref aV, .int 0, .int 0]))] := hD
  obtain ⟨g_12, eg_12⟩ : ∃ g : Nat → Int32, g = upd (fun _ => 0) (0 : Int32).toNatClampNeg kn := ⟨_, rfl⟩
  rw [← eg_12] at hP hD
  refine lv_aload_n hx hb dX3_add_51 rfl (lv_at hl 0 rfl) ?_
  refine va_get (D := (dC, dI)) (ci := 3) (v := .ref aV) (C := RX3) (T := TX3) (N := 7) hx hb hts hIX3 hown hK hP 5 rfl rfl 4 (by decide) (hts (.fieldLink RX3 24 "TraitHouse$Rows" "values" "[I") (by decide +kernel)) (fun _ h9 => h9) rfl dX3_add_52 ?_
  refine lv_aload_n hx hb dX3_add_55 rfl (lv_at hl 0 rfl) ?_
  refine va_get (D := (dC, dI)) (ci := 3) (v := .int 0) (C := RX3) (T := TX3) (N := 7) hx hb hts hIX3 hown hK hP 5 rfl rfl 5 (by decide) (hts (.fieldLink RX3 27 "TraitHouse$Rows" "size" "I") (by decide +kernel)) (fun _ h9 => h9) rfl dX3_add_56 ?_
  refine lv_iload hx hb dX3_add_59 (lv_at hl 5 rfl) ?_
  have h_13 : vp_in 0 400 := (vp_in_iff.mpr ⟨by decide, by decide⟩)
  refine va_iast hx hb hK hP hD hS 4 4 rfl rfl h_13 dX3_add_61 (fun H locs hP hD hS => ?_)
  have hP : va_P (dC, dI) vwCl [(aP, .inl (cP, 400, .inl g_6)), (aS, .inl (cS, 400, .inl g_8)), (aM, .inl (cM, 400, .inl g_10)), (aK, .inl (cK, 400, .inl g_12)), (aV, .inl (cV, 400, .inl (upd (fun _ => 0) (0 : Int32).toNatClampNeg va))), (hRows, .inr (3, [.ref aP, .ref aS, .ref aM, .ref aK, .ref aV, .int 0, .int 0]))] H := hP
  have hD : va_D A [(aP, .inl (cP, 400, .inl g_6)), (aS, .inl (cS, 400, .inl g_8)), (aM, .inl (cM, 400, .inl g_10)), (aK, .inl (cK, 400, .inl g_12)), (aV, .inl (cV, 400, .inl (upd (fun _ => 0) (0 : Int32).toNatClampNeg va))), (hRows, .inr (3, [.ref aP, .ref aS, .ref aM, .ref aK, .ref aV, .int 0, .int 0]))] := hD
  obtain ⟨g_14, eg_14⟩ : ∃ g : Nat → Int32, g = upd (fun _ => 0) (0 : Int32).toNatClampNeg va := ⟨_, rfl⟩
  rw [← eg_14] at hP hD
  refine lv_aload_n hx hb dX3_add_62 rfl (lv_at hl 0 rfl) ?_
  refine lv_dup hx hb dX3_add_63 rfl ?_
  refine va_get (D := (dC, dI)) (ci := 3) (v := .int 0) (C := RX3) (T := TX3) (N := 7) hx hb hts hIX3 hown hK hP 5 rfl rfl 5 (by decide) (hts (.fieldLink RX3 27 "TraitHouse$Rows" "size" "I") (by decide +kernel)) (fun _ h9 => h9) rfl dX3_add_64 ?_
  refine lv_iconst (v := 1) hx hb dX3_add_67 (by decide) ?_
  refine lv_iadd hx hb dX3_add_68 ?_
  refine lv_topi (fun x_15 ex_15 => ?_)
  obtain rfl : x_15 = 1 := ex_15.trans (by decide)
  refine va_put (D := (dC, dI)) (ci := 3) (v := .int 1) (ty := .int) (C := RX3) (T := TX3) (N := 7) hx hb hts hIX3 tyX3 tyX3_ok nmX3 hown hK hP hD hS 5 rfl rfl 5 (by decide) (hts (.fieldLink RX3 27 "TraitHouse$Rows" "size" "I") (by decide +kernel)) (fun _ h9 => h9) rfl (by decide +kernel) rfl rfl (Nat.le_of_ble_eq_true rfl) dX3_add_69 (fun H locs hP hD hS => ?_)
  have hP : va_P (dC, dI) vwCl [(aP, .inl (cP, 400, .inl g_6)), (aS, .inl (cS, 400, .inl g_8)), (aM, .inl (cM, 400, .inl g_10)), (aK, .inl (cK, 400, .inl g_12)), (aV, .inl (cV, 400, .inl g_14)), (hRows, .inr (3, [.ref aP, .ref aS, .ref aM, .ref aK, .ref aV, .int 1, .int 0]))] H := hP
  have hD : va_D A [(aP, .inl (cP, 400, .inl g_6)), (aS, .inl (cS, 400, .inl g_8)), (aM, .inl (cM, 400, .inl g_10)), (aK, .inl (cK, 400, .inl g_12)), (aV, .inl (cV, 400, .inl g_14)), (hRows, .inr (3, [.ref aP, .ref aS, .ref aM, .ref aK, .ref aV, .int 1, .int 0]))] := hD
  refine lv_aload_n hx hb dX3_add_72 rfl (lv_at hl 0 rfl) ?_
  refine lv_dup hx hb dX3_add_73 rfl ?_
  refine va_get (D := (dC, dI)) (ci := 3) (v := .int 0) (C := RX3) (T := TX3) (N := 7) hx hb hts hIX3 hown hK hP 5 rfl rfl 6 (by decide) (hts (.fieldLink RX3 35 "TraitHouse$Rows" "nextNumber" "I") (by decide +kernel)) (fun _ h9 => h9) rfl dX3_add_74 ?_
  refine lv_iconst (v := 1) hx hb dX3_add_77 (by decide) ?_
  refine lv_iadd hx hb dX3_add_78 ?_
  refine lv_topi (fun x_16 ex_16 => ?_)
  obtain rfl : x_16 = 1 := ex_16.trans (by decide)
  refine va_put (D := (dC, dI)) (ci := 3) (v := .int 1) (ty := .int) (C := RX3) (T := TX3) (N := 7) hx hb hts hIX3 tyX3 tyX3_ok nmX3 hown hK hP hD hS 5 rfl rfl 6 (by decide) (hts (.fieldLink RX3 35 "TraitHouse$Rows" "nextNumber" "I") (by decide +kernel)) (fun _ h9 => h9) rfl (by decide +kernel) rfl rfl (Nat.le_of_ble_eq_true rfl) dX3_add_79 (fun H locs hP hD hS => ?_)
  have hP : va_P (dC, dI) vwCl [(aP, .inl (cP, 400, .inl g_6)), (aS, .inl (cS, 400, .inl g_8)), (aM, .inl (cM, 400, .inl g_10)), (aK, .inl (cK, 400, .inl g_12)), (aV, .inl (cV, 400, .inl g_14)), (hRows, .inr (3, [.ref aP, .ref aS, .ref aM, .ref aK, .ref aV, .int 1, .int 1]))] H := hP
  have hD : va_D A [(aP, .inl (cP, 400, .inl g_6)), (aS, .inl (cS, 400, .inl g_8)), (aM, .inl (cM, 400, .inl g_10)), (aK, .inl (cK, 400, .inl g_12)), (aV, .inl (cV, 400, .inl g_14)), (hRows, .inr (3, [.ref aP, .ref aS, .ref aM, .ref aK, .ref aV, .int 1, .int 1]))] := hD
  refine lv_aload_n hx hb dX3_add_82 rfl (lv_at hl 0 rfl) ?_
  refine va_get (D := (dC, dI)) (ci := 3) (v := .int 1) (C := RX3) (T := TX3) (N := 7) hx hb hts hIX3 hown hK hP 5 rfl rfl 6 (by decide) (hts (.fieldLink RX3 35 "TraitHouse$Rows" "nextNumber" "I") (by decide +kernel)) (fun _ h9 => h9) rfl dX3_add_83 ?_
  refine lv_iconst (v := 1) hx hb dX3_add_86 (by decide) ?_
  refine lv_isub hx hb dX3_add_87 ?_
  refine lv_topi (fun x_17 ex_17 => ?_)
  obtain rfl : x_17 = 0 := ex_17.trans (by decide)
  exact W.iret (v := 0) hx hb hr (fun t ht hW => ⟨⟨0, (), rfl, rfl, trivial⟩, hS.F ht⟩) hS.2.2 dX3_add_88

set_option maxHeartbeats 4000000 in
set_option maxRecDepth 100000 in
theorem c_X8_addRow (l : Launch) (dC : Nat → ClassId) (dI : Nat → Nat → Nat) (sz : Nat) (h0 : Nat) (hRows : Nat) (hMer : Nat) (hEra : Nat) (hTape : Nat) (hRea : Nat) (hTra : Nat) (hWor : Nat) (hPla : Nat) (hMod : Nat) (hHe1 : Nat) (hHe2 : Nat) (aP : Nat) (aS : Nat) (aM : Nat) (aK : Nat) (aV : Nat) (cP : ClassId) (cS : ClassId) (cM : ClassId) (cK : ClassId) (cV : ClassId) (cE : ClassId) (pp : Int32) (st : Int32) (mo : Int32) (kn : Int32) (va : Int32)  : Met l yX8_addRow wsX8_addRow ({ frames := 2, cells := 0, slots := 0, locals := 45 }) (va_Pc [.ref h0, .int pp, .int st, .int mo, .int kn, .int va] (fun U => U.heap.size = sz ∧ va_P (dC, dI) vwCl [(h0, .inr (8, [.ref hRows, .ref hMer, .ref hEra, .ref hTape, .ref hRea, .ref hTra, .ref hWor, .ref hPla, .ref hMod, .ref hHe1, .ref hHe2, .int 0, .int 0, .int 0, .int 0, .int (-1), .int 0])), (hRows, .inr (3, [.ref aP, .ref aS, .ref aM, .ref aK, .ref aV, .int 0, .int 0])), (aP, .inl (cP, 400, .inl (fun _ => 0))), (aS, .inl (cS, 400, .inl (fun _ => 0))), (aM, .inl (cM, 400, .inl (fun _ => 0))), (aK, .inl (cK, 400, .inl (fun _ => 0))), (aV, .inl (cV, 400, .inl (fun _ => 0))), (hEra, .inl (cE, 20, .inl (fun _ => 0)))] U.heap ∧ va_K (dC, dI) vwCl [(cP, .int), (cS, .int), (cM, .int), (cK, .int), (cV, .int), (cE, .boolean)] U ∧ va_D (fun _ => True) [(h0, .inr (8, [.ref hRows, .ref hMer, .ref hEra, .ref hTape, .ref hRea, .ref hTra, .ref hWor, .ref hPla, .ref hMod, .ref hHe1, .ref hHe2, .int 0, .int 0, .int 0, .int 0, .int (-1), .int 0])), (hRows, .inr (3, [.ref aP, .ref aS, .ref aM, .ref aK, .ref aV, .int 0, .int 0])), (aP, .inl (cP, 400, .inl (fun _ => 0))), (aS, .inl (cS, 400, .inl (fun _ => 0))), (aM, .inl (cM, 400, .inl (fun _ => 0))), (aK, .inl (cK, 400, .inl (fun _ => 0))), (aV, .inl (cV, 400, .inl (fun _ => 0))), (hEra, .inl (cE, 20, .inl (fun _ => 0)))] ∧ nw_ok U)) (va_Qi (fun (r : Int32) (_ : Unit) => (¬ (0 ≤ st.toInt ∧ st.toInt ≤ 5 ∧ 0 ≤ mo.toInt ∧ mo.toInt ≤ kn.toInt ∧ kn.toInt ≤ 100000 ∧ (-1000000) ≤ va.toInt ∧ va.toInt ≤ 1000000) → r.toInt = (-1)) ∧ ((0 ≤ st.toInt ∧ st.toInt ≤ 5 ∧ 0 ≤ mo.toInt ∧ mo.toInt ≤ kn.toInt ∧ kn.toInt ≤ 100000 ∧ (-1000000) ≤ va.toInt ∧ va.toInt ≤ 1000000) ∧ ¬ (0 ≤ pp.toInt ∧ pp.toInt ≤ 19) → r.toInt = (-2)) ∧ ((0 ≤ st.toInt ∧ st.toInt ≤ 5 ∧ 0 ≤ mo.toInt ∧ mo.toInt ≤ kn.toInt ∧ kn.toInt ≤ 100000 ∧ (-1000000) ≤ va.toInt ∧ va.toInt ≤ 1000000) ∧ 0 ≤ pp.toInt ∧ pp.toInt ≤ 19 → r.toInt = 0)) (fun (_ : Unit) (t : State) => va_P (dC, dI) vwCl [(h0, .inr (8, [.ref hRows, .ref hMer, .ref hEra, .ref hTape, .ref hRea, .ref hTra, .ref hWor, .ref hPla, .ref hMod, .ref hHe1, .ref hHe2, .int 0, .int 0, .int 0, .int 0, .int (-1), .int 0]))] t.heap ∧ va_K (dC, dI) vwCl [] t ∧ va_D (va_A [(h0, .inr (8, [.ref hRows, .ref hMer, .ref hEra, .ref hTape, .ref hRea, .ref hTra, .ref hWor, .ref hPla, .ref hMod, .ref hHe1, .ref hHe2, .int 0, .int 0, .int 0, .int 0, .int (-1), .int 0])), (hRows, .inr (3, [.ref aP, .ref aS, .ref aM, .ref aK, .ref aV, .int 0, .int 0])), (aP, .inl (cP, 400, .inl (fun _ => 0))), (aS, .inl (cS, 400, .inl (fun _ => 0))), (aM, .inl (cM, 400, .inl (fun _ => 0))), (aK, .inl (cK, 400, .inl (fun _ => 0))), (aV, .inl (cV, 400, .inl (fun _ => 0))), (hEra, .inl (cE, 20, .inl (fun _ => 0)))] sz) [(h0, .inr (8, [.ref hRows, .ref hMer, .ref hEra, .ref hTape, .ref hRea, .ref hTra, .ref hWor, .ref hPla, .ref hMod, .ref hHe1, .ref hHe2, .int 0, .int 0, .int 0, .int 0, .int (-1), .int 0]))]) (va_A [(h0, .inr (8, [.ref hRows, .ref hMer, .ref hEra, .ref hTape, .ref hRea, .ref hTra, .ref hWor, .ref hPla, .ref hMod, .ref hHe1, .ref hHe2, .int 0, .int 0, .int 0, .int 0, .int (-1), .int 0])), (hRows, .inr (3, [.ref aP, .ref aS, .ref aM, .ref aK, .ref aV, .int 0, .int 0])), (aP, .inl (cP, 400, .inl (fun _ => 0))), (aS, .inl (cS, 400, .inl (fun _ => 0))), (aM, .inl (cM, 400, .inl (fun _ => 0))), (aK, .inl (cK, 400, .inl (fun _ => 0))), (aV, .inl (cV, 400, .inl (fun _ => 0))), (hEra, .inl (cE, 20, .inl (fun _ => 0)))] sz)) 0 0 (va_A [(h0, .inr (8, [.ref hRows, .ref hMer, .ref hEra, .ref hTape, .ref hRea, .ref hTra, .ref hWor, .ref hPla, .ref hMod, .ref hHe1, .ref hHe2, .int 0, .int 0, .int 0, .int 0, .int (-1), .int 0])), (hRows, .inr (3, [.ref aP, .ref aS, .ref aM, .ref aK, .ref aV, .int 0, .int 0])), (aP, .inl (cP, 400, .inl (fun _ => 0))), (aS, .inl (cS, 400, .inl (fun _ => 0))), (aM, .inl (cM, 400, .inl (fun _ => 0))), (aK, .inl (cK, 400, .inl (fun _ => 0))), (aV, .inl (cV, 400, .inl (fun _ => 0))), (hEra, .inl (cE, 20, .inl (fun _ => 0)))] sz) := by
  refine Met.ofW (cc := cX8_addRow) (maxL := 6) (ret := (some .int)) (by decide) rfl ?_
  intro p e s m args below meth c s₁ B hml hv
  obtain ⟨rfl, hsz, hP, hK, hD0, hN⟩ := hv
  have hx := B.exec
  have hb := B.bytes
  have hr := B.returns
  have hts := atoms_spec (ws := wsX8_addRow) B.pre
  have hown : s.vm.findClass RX8 = some m.cls := findClass_of_methodNamed B.named
  have hlocks := B.notSynchronized
  subst hsz
  have hD := hD0.self (sz := s.heap.size)
  generalize hAe : va_A [(h0, .inr (8, [.ref hRows, .ref hMer, .ref hEra, .ref hTape, .ref hRea, .ref hTra, .ref hWor, .ref hPla, .ref hMod, .ref hHe1, .ref hHe2, .int 0, .int 0, .int 0, .int 0, .int (-1), .int 0])), (hRows, .inr (3, [.ref aP, .ref aS, .ref aM, .ref aK, .ref aV, .int 0, .int 0])), (aP, .inl (cP, 400, .inl (fun _ => 0))), (aS, .inl (cS, 400, .inl (fun _ => 0))), (aM, .inl (cM, 400, .inl (fun _ => 0))), (aK, .inl (cK, 400, .inl (fun _ => 0))), (aV, .inl (cV, 400, .inl (fun _ => 0))), (hEra, .inl (cE, 20, .inl (fun _ => 0)))] s.heap.size = A at hD ⊢
  have hA : ∀ q : Nat, s.heap.size ≤ q → A q := fun q h => by rw [← hAe]; exact Or.inr h
  have hS : va_S A s.heap s.heap [] := va_S.rf
  have hP : va_P (dC, dI) vwCl [(h0, .inr (8, [.ref hRows, .ref hMer, .ref hEra, .ref hTape, .ref hRea, .ref hTra, .ref hWor, .ref hPla, .ref hMod, .ref hHe1, .ref hHe2, .int 0, .int 0, .int 0, .int 0, .int (-1), .int 0])), (hRows, .inr (3, [.ref aP, .ref aS, .ref aM, .ref aK, .ref aV, .int 0, .int 0])), (aP, .inl (cP, 400, .inl (fun _ => 0))), (aS, .inl (cS, 400, .inl (fun _ => 0))), (aM, .inl (cM, 400, .inl (fun _ => 0))), (aK, .inl (cK, 400, .inl (fun _ => 0))), (aV, .inl (cV, 400, .inl (fun _ => 0))), (hEra, .inl (cE, 20, .inl (fun _ => 0)))] s.heap := hP
  have hIX8 : ∀ w ∈ u_ws RX8 TX8 17, w ∈ wsX8_addRow := by decide +kernel
  have hl := lv_entry ([.ref h0, .int pp, .int st, .int mo, .int kn, .int va]) (n := 6) (Nat.le_of_ble_eq_true rfl)
  rw [lg_entry_eq]
  generalize (lg_sl ([.ref h0, .int pp, .int st, .int mo, .int kn, .int va]) ++ List.replicate (6 - (lg_sl ([.ref h0, .int pp, .int st, .int mo, .int kn, .int va])).length) Slot.unset).toArray = ls at hl ⊢
  have hl : lv_has ls 6 [(0, .ref h0), (1, .int pp), (2, .int st), (3, .int mo), (4, .int kn), (5, .int va)] := hl
  refine lv_iload_n hx hb dX8_addRow_0 rfl (lv_at hl 2 rfl) ?_
  have hPc := hP.sub (ws' := []) [] rfl
  have hDc := hD.sub (ws' := []) [] (by decide) rfl
  have hKc := hK.sub (tys' := []) [] rfl
  have hFc := va_free (wc := []) hD hS hA [] rfl
  refine va_calli (va_runS (As := [.int st]) (rest := []) ⟨hx, hb, hml, hown, hts⟩ (c_X8_isStream l dC dI s.heap.size st ) (va_cwS 1 hts gX8_addRow_X8_isStream rfl rfl rfl (by decide +kernel) ⟨Nat.le_of_ble_eq_true rfl, Nat.le_of_ble_eq_true rfl⟩) ⟨fun a U g mk q => by obtain ⟨q0, q1, qP, qK, qD, qN⟩ := q; exact ⟨q0, q1, qP, va_K.moved (u := U) (U := U.calling g mk a) (Vm.Alike.refl U.vm) qK, qD, qN.same rfl⟩, fun U hU hW => ⟨rfl, by rw [hU], by rw [hU]; exact hPc, va_K.moved hW.alike hKc, hDc.weaken (fun _ _ _ _ => trivial), hN.warm hW⟩⟩ rfl rfl hl.1 rfl (lv_room (Nat.le_of_ble_eq_true rfl)) dX8_addRow_1 ⟨Nat.le_of_ble_eq_true rfl, Nat.le_of_ble_eq_true rfl⟩) hS (fun q _ h => hFc q h) hFc (fun r_1 u_2 t H1 locs ht hvm hw_3 hB hz1 hk1 hS => ?_)
  try dsimp only at hw_3
  obtain ⟨hP1, hK1, hD1⟩ := hB
  rw [ht] at hP1
  have hK1 := va_K.moved hvm.symm hK1
  obtain ⟨hP, hD⟩ := va_join (wr := [(h0, .inr (8, [.ref hRows, .ref hMer, .ref hEra, .ref hTape, .ref hRea, .ref hTra, .ref hWor, .ref hPla, .ref hMod, .ref hHe1, .ref hHe2, .int 0, .int 0, .int 0, .int 0, .int (-1), .int 0])), (hRows, .inr (3, [.ref aP, .ref aS, .ref aM, .ref aK, .ref aV, .int 0, .int 0])), (aP, .inl (cP, 400, .inl (fun _ => 0))), (aS, .inl (cS, 400, .inl (fun _ => 0))), (aM, .inl (cM, 400, .inl (fun _ => 0))), (aK, .inl (cK, 400, .inl (fun _ => 0))), (aV, .inl (cV, 400, .inl (fun _ => 0))), (hEra, .inl (cE, 20, .inl (fun _ => 0)))]) (w1 := []) hP hD [] [0, 1, 2, 3, 4, 5, 6, 7] rfl rfl (by decide) (by decide) hk1 hFc hP1 hD1
  have hK := (hK.sub (tys' := [(cP, .int), (cS, .int), (cM, .int), (cK, .int), (cV, .int), (cE, .boolean)]) [0, 1, 2, 3, 4, 5] rfl).app hK1
  generalize H1 = H at hP hS ⊢
  have hP : va_P (dC, dI) vwCl [(h0, .inr (8, [.ref hRows, .ref hMer, .ref hEra, .ref hTape, .ref hRea, .ref hTra, .ref hWor, .ref hPla, .ref hMod, .ref hHe1, .ref hHe2, .int 0, .int 0, .int 0, .int 0, .int (-1), .int 0])), (hRows, .inr (3, [.ref aP, .ref aS, .ref aM, .ref aK, .ref aV, .int 0, .int 0])), (aP, .inl (cP, 400, .inl (fun _ => 0))), (aS, .inl (cS, 400, .inl (fun _ => 0))), (aM, .inl (cM, 400, .inl (fun _ => 0))), (aK, .inl (cK, 400, .inl (fun _ => 0))), (aV, .inl (cV, 400, .inl (fun _ => 0))), (hEra, .inl (cE, 20, .inl (fun _ => 0)))] H := hP
  have hD : va_D A [(h0, .inr (8, [.ref hRows, .ref hMer, .ref hEra, .ref hTape, .ref hRea, .ref hTra, .ref hWor, .ref hPla, .ref hMod, .ref hHe1, .ref hHe2, .int 0, .int 0, .int 0, .int 0, .int (-1), .int 0])), (hRows, .inr (3, [.ref aP, .ref aS, .ref aM, .ref aK, .ref aV, .int 0, .int 0])), (aP, .inl (cP, 400, .inl (fun _ => 0))), (aS, .inl (cS, 400, .inl (fun _ => 0))), (aM, .inl (cM, 400, .inl (fun _ => 0))), (aK, .inl (cK, 400, .inl (fun _ => 0))), (aV, .inl (cV, 400, .inl (fun _ => 0))), (hEra, .inl (cE, 20, .inl (fun _ => 0)))] := hD
  have hK : va_K (dC, dI) vwCl [(cP, .int), (cS, .int), (cM, .int), (cK, .int), (cV, .int), (cE, .boolean)] s := hK
  refine lv_if_eq (tgt := 36) hx hb dX8_addRow_4 (by decide) (fun c_4 => ?_) (fun c_4 => ?_)
  · have dc_4 : r_1.toInt = 0 := jI_eq c_4 rfl (by decide)
    refine lv_iconst (v := (-1)) hx hb dX8_addRow_36 (by decide) ?_
    have hP9 := hP.sub (ws' := [(h0, .inr (8, [.ref hRows, .ref hMer, .ref hEra, .ref hTape, .ref hRea, .ref hTra, .ref hWor, .ref hPla, .ref hMod, .ref hHe1, .ref hHe2, .int 0, .int 0, .int 0, .int 0, .int (-1), .int 0]))]) [0] rfl
    have hD9 := hD.sub (ws' := [(h0, .inr (8, [.ref hRows, .ref hMer, .ref hEra, .ref hTape, .ref hRea, .ref hTra, .ref hWor, .ref hPla, .ref hMod, .ref hHe1, .ref hHe2, .int 0, .int 0, .int 0, .int 0, .int (-1), .int 0]))]) [0] (by decide) rfl
    have hK9 := hK.sub (tys' := []) [] rfl
    have hans : ((-1) : Int32).toInt = (-1) := (by decide)
    exact W.iret (v := (-1)) hx hb hr (fun t ht hW => ⟨⟨(-1), (), rfl, by first | omega | (dsimp only; omega), by rw [ht]; exact hP9, va_K.moved hW.alike hK9, hD9⟩, hS.F ht⟩) hS.2.2 dX8_addRow_37
  · have dc_4 : ¬ r_1.toInt = 0 := jI_ne c_4 rfl (by decide)
    refine lv_iload_n hx hb dX8_addRow_7 rfl (lv_at hl 3 rfl) ?_
    have hPc := hP.sub (ws' := []) [] rfl
    have hDc := hD.sub (ws' := []) [] (by decide) rfl
    have hKc := hK.sub (tys' := []) [] rfl
    have hFc := va_free (wc := []) hD hS hA [] rfl
    refine va_calli (va_runS (As := [.int mo]) (rest := []) ⟨hx, hb, hml, hown, hts⟩ (c_X8_isMoment l dC dI H.size mo ) (va_cwS 1 hts gX8_addRow_X8_isMoment rfl rfl rfl (by decide +kernel) ⟨Nat.le_of_ble_eq_true rfl, Nat.le_of_ble_eq_true rfl⟩) ⟨fun a U g mk q => by obtain ⟨q0, q1, qP, qK, qD, qN⟩ := q; exact ⟨q0, q1, qP, va_K.moved (u := U) (U := U.calling g mk a) (Vm.Alike.refl U.vm) qK, qD, qN.same rfl⟩, fun U hU hW => ⟨rfl, by rw [hU], by rw [hU]; exact hPc, va_K.moved hW.alike hKc, hDc.weaken (fun _ _ _ _ => trivial), hN.warm hW⟩⟩ rfl rfl hl.1 rfl (lv_room (Nat.le_of_ble_eq_true rfl)) dX8_addRow_8 ⟨Nat.le_of_ble_eq_true rfl, Nat.le_of_ble_eq_true rfl⟩) hS (fun q _ h => hFc q h) hFc (fun r_5 u_6 t H1 locs ht hvm hw_7 hB hz1 hk1 hS => ?_)
    try dsimp only at hw_7
    obtain ⟨hP1, hK1, hD1⟩ := hB
    rw [ht] at hP1
    have hK1 := va_K.moved hvm.symm hK1
    obtain ⟨hP, hD⟩ := va_join (wr := [(h0, .inr (8, [.ref hRows, .ref hMer, .ref hEra, .ref hTape, .ref hRea, .ref hTra, .ref hWor, .ref hPla, .ref hMod, .ref hHe1, .ref hHe2, .int 0, .int 0, .int 0, .int 0, .int (-1), .int 0])), (hRows, .inr (3, [.ref aP, .ref aS, .ref aM, .ref aK, .ref aV, .int 0, .int 0])), (aP, .inl (cP, 400, .inl (fun _ => 0))), (aS, .inl (cS, 400, .inl (fun _ => 0))), (aM, .inl (cM, 400, .inl (fun _ => 0))), (aK, .inl (cK, 400, .inl (fun _ => 0))), (aV, .inl (cV, 400, .inl (fun _ => 0))), (hEra, .inl (cE, 20, .inl (fun _ => 0)))]) (w1 := []) hP hD [] [0, 1, 2, 3, 4, 5, 6, 7] rfl rfl (by decide) (by decide) hk1 hFc hP1 hD1
    have hK := (hK.sub (tys' := [(cP, .int), (cS, .int), (cM, .int), (cK, .int), (cV, .int), (cE, .boolean)]) [0, 1, 2, 3, 4, 5] rfl).app hK1
    generalize H1 = H at hP hS ⊢
    have hP : va_P (dC, dI) vwCl [(h0, .inr (8, [.ref hRows, .ref hMer, .ref hEra, .ref hTape, .ref hRea, .ref hTra, .ref hWor, .ref hPla, .ref hMod, .ref hHe1, .ref hHe2, .int 0, .int 0, .int 0, .int 0, .int (-1), .int 0])), (hRows, .inr (3, [.ref aP, .ref aS, .ref aM, .ref aK, .ref aV, .int 0, .int 0])), (aP, .inl (cP, 400, .inl (fun _ => 0))), (aS, .inl (cS, 400, .inl (fun _ => 0))), (aM, .inl (cM, 400, .inl (fun _ => 0))), (aK, .inl (cK, 400, .inl (fun _ => 0))), (aV, .inl (cV, 400, .inl (fun _ => 0))), (hEra, .inl (cE, 20, .inl (fun _ => 0)))] H := hP
    have hD : va_D A [(h0, .inr (8, [.ref hRows, .ref hMer, .ref hEra, .ref hTape, .ref hRea, .ref hTra, .ref hWor, .ref hPla, .ref hMod, .ref hHe1, .ref hHe2, .int 0, .int 0, .int 0, .int 0, .int (-1), .int 0])), (hRows, .inr (3, [.ref aP, .ref aS, .ref aM, .ref aK, .ref aV, .int 0, .int 0])), (aP, .inl (cP, 400, .inl (fun _ => 0))), (aS, .inl (cS, 400, .inl (fun _ => 0))), (aM, .inl (cM, 400, .inl (fun _ => 0))), (aK, .inl (cK, 400, .inl (fun _ => 0))), (aV, .inl (cV, 400, .inl (fun _ => 0))), (hEra, .inl (cE, 20, .inl (fun _ => 0)))] := hD
    have hK : va_K (dC, dI) vwCl [(cP, .int), (cS, .int), (cM, .int), (cK, .int), (cV, .int), (cE, .boolean)] s := hK
    refine lv_if_eq (tgt := 36) hx hb dX8_addRow_11 (by decide) (fun c_8 => ?_) (fun c_8 => ?_)
    · have dc_8 : r_5.toInt = 0 := jI_eq c_8 rfl (by decide)
      refine lv_iconst (v := (-1)) hx hb dX8_addRow_36 (by decide) ?_
      have hP9 := hP.sub (ws' := [(h0, .inr (8, [.ref hRows, .ref hMer, .ref hEra, .ref hTape, .ref hRea, .ref hTra, .ref hWor, .ref hPla, .ref hMod, .ref hHe1, .ref hHe2, .int 0, .int 0, .int 0, .int 0, .int (-1), .int 0]))]) [0] rfl
      have hD9 := hD.sub (ws' := [(h0, .inr (8, [.ref hRows, .ref hMer, .ref hEra, .ref hTape, .ref hRea, .ref hTra, .ref hWor, .ref hPla, .ref hMod, .ref hHe1, .ref hHe2, .int 0, .int 0, .int 0, .int 0, .int (-1), .int 0]))]) [0] (by decide) rfl
      have hK9 := hK.sub (tys' := []) [] rfl
      have hans : ((-1) : Int32).toInt = (-1) := (by decide)
      exact W.iret (v := (-1)) hx hb hr (fun t ht hW => ⟨⟨(-1), (), rfl, by first | omega | (dsimp only; omega), by rw [ht]; exact hP9, va_K.moved hW.alike hK9, hD9⟩, hS.F ht⟩) hS.2.2 dX8_addRow_37
    · have dc_8 : ¬ r_5.toInt = 0 := jI_ne c_8 rfl (by decide)
      refine lv_iload hx hb dX8_addRow_14 (lv_at hl 4 rfl) ?_
      have hPc := hP.sub (ws' := []) [] rfl
      have hDc := hD.sub (ws' := []) [] (by decide) rfl
      have hKc := hK.sub (tys' := []) [] rfl
      have hFc := va_free (wc := []) hD hS hA [] rfl
      refine va_calli (va_runS (As := [.int kn]) (rest := []) ⟨hx, hb, hml, hown, hts⟩ (c_X8_isMoment l dC dI H.size kn ) (va_cwS 1 hts gX8_addRow_X8_isMoment rfl rfl rfl (by decide +kernel) ⟨Nat.le_of_ble_eq_true rfl, Nat.le_of_ble_eq_true rfl⟩) ⟨fun a U g mk q => by obtain ⟨q0, q1, qP, qK, qD, qN⟩ := q; exact ⟨q0, q1, qP, va_K.moved (u := U) (U := U.calling g mk a) (Vm.Alike.refl U.vm) qK, qD, qN.same rfl⟩, fun U hU hW => ⟨rfl, by rw [hU], by rw [hU]; exact hPc, va_K.moved hW.alike hKc, hDc.weaken (fun _ _ _ _ => trivial), hN.warm hW⟩⟩ rfl rfl hl.1 rfl (lv_room (Nat.le_of_ble_eq_true rfl)) dX8_addRow_16 ⟨Nat.le_of_ble_eq_true rfl, Nat.le_of_ble_eq_true rfl⟩) hS (fun q _ h => hFc q h) hFc (fun r_9 u_10 t H1 locs ht hvm hw_11 hB hz1 hk1 hS => ?_)
      try dsimp only at hw_11
      obtain ⟨hP1, hK1, hD1⟩ := hB
      rw [ht] at hP1
      have hK1 := va_K.moved hvm.symm hK1
      obtain ⟨hP, hD⟩ := va_join (wr := [(h0, .inr (8, [.ref hRows, .ref hMer, .ref hEra, .ref hTape, .ref hRea, .ref hTra, .ref hWor, .ref hPla, .ref hMod, .ref hHe1, .ref hHe2, .int 0, .int 0, .int 0, .int 0, .int (-1), .int 0])), (hRows, .inr (3, [.ref aP, .ref aS, .ref aM, .ref aK, .ref aV, .int 0, .int 0])), (aP, .inl (cP, 400, .inl (fun _ => 0))), (aS, .inl (cS, 400, .inl (fun _ => 0))), (aM, .inl (cM, 400, .inl (fun _ => 0))), (aK, .inl (cK, 400, .inl (fun _ => 0))), (aV, .inl (cV, 400, .inl (fun _ => 0))), (hEra, .inl (cE, 20, .inl (fun _ => 0)))]) (w1 := []) hP hD [] [0, 1, 2, 3, 4, 5, 6, 7] rfl rfl (by decide) (by decide) hk1 hFc hP1 hD1
      have hK := (hK.sub (tys' := [(cP, .int), (cS, .int), (cM, .int), (cK, .int), (cV, .int), (cE, .boolean)]) [0, 1, 2, 3, 4, 5] rfl).app hK1
      generalize H1 = H at hP hS ⊢
      have hP : va_P (dC, dI) vwCl [(h0, .inr (8, [.ref hRows, .ref hMer, .ref hEra, .ref hTape, .ref hRea, .ref hTra, .ref hWor, .ref hPla, .ref hMod, .ref hHe1, .ref hHe2, .int 0, .int 0, .int 0, .int 0, .int (-1), .int 0])), (hRows, .inr (3, [.ref aP, .ref aS, .ref aM, .ref aK, .ref aV, .int 0, .int 0])), (aP, .inl (cP, 400, .inl (fun _ => 0))), (aS, .inl (cS, 400, .inl (fun _ => 0))), (aM, .inl (cM, 400, .inl (fun _ => 0))), (aK, .inl (cK, 400, .inl (fun _ => 0))), (aV, .inl (cV, 400, .inl (fun _ => 0))), (hEra, .inl (cE, 20, .inl (fun _ => 0)))] H := hP
      have hD : va_D A [(h0, .inr (8, [.ref hRows, .ref hMer, .ref hEra, .ref hTape, .ref hRea, .ref hTra, .ref hWor, .ref hPla, .ref hMod, .ref hHe1, .ref hHe2, .int 0, .int 0, .int 0, .int 0, .int (-1), .int 0])), (hRows, .inr (3, [.ref aP, .ref aS, .ref aM, .ref aK, .ref aV, .int 0, .int 0])), (aP, .inl (cP, 400, .inl (fun _ => 0))), (aS, .inl (cS, 400, .inl (fun _ => 0))), (aM, .inl (cM, 400, .inl (fun _ => 0))), (aK, .inl (cK, 400, .inl (fun _ => 0))), (aV, .inl (cV, 400, .inl (fun _ => 0))), (hEra, .inl (cE, 20, .inl (fun _ => 0)))] := hD
      have hK : va_K (dC, dI) vwCl [(cP, .int), (cS, .int), (cM, .int), (cK, .int), (cV, .int), (cE, .boolean)] s := hK
      refine lv_if_eq (tgt := 36) hx hb dX8_addRow_19 (by decide) (fun c_12 => ?_) (fun c_12 => ?_)
      · have dc_12 : r_9.toInt = 0 := jI_eq c_12 rfl (by decide)
        refine lv_iconst (v := (-1)) hx hb dX8_addRow_36 (by decide) ?_
        have hP9 := hP.sub (ws' := [(h0, .inr (8, [.ref hRows, .ref hMer, .ref hEra, .ref hTape, .ref hRea, .ref hTra, .ref hWor, .ref hPla, .ref hMod, .ref hHe1, .ref hHe2, .int 0, .int 0, .int 0, .int 0, .int (-1), .int 0]))]) [0] rfl
        have hD9 := hD.sub (ws' := [(h0, .inr (8, [.ref hRows, .ref hMer, .ref hEra, .ref hTape, .ref hRea, .ref hTra, .ref hWor, .ref hPla, .ref hMod, .ref hHe1, .ref hHe2, .int 0, .int 0, .int 0, .int 0, .int (-1), .int 0]))]) [0] (by decide) rfl
        have hK9 := hK.sub (tys' := []) [] rfl
        have hans : ((-1) : Int32).toInt = (-1) := (by decide)
        exact W.iret (v := (-1)) hx hb hr (fun t ht hW => ⟨⟨(-1), (), rfl, by first | omega | (dsimp only; omega), by rw [ht]; exact hP9, va_K.moved hW.alike hK9, hD9⟩, hS.F ht⟩) hS.2.2 dX8_addRow_37
      · have dc_12 : ¬ r_9.toInt = 0 := jI_ne c_12 rfl (by decide)
        refine lv_iload hx hb dX8_addRow_22 (lv_at hl 4 rfl) ?_
        refine lv_iload_n hx hb dX8_addRow_24 rfl (lv_at hl 3 rfl) ?_
        refine lv_icmp_lt (tgt := 36) hx hb dX8_addRow_25 (by decide) (fun c_13 => ?_) (fun c_13 => ?_)
        · have dc_13 : kn.toInt < mo.toInt := jI_lt c_13 rfl rfl
          refine lv_iconst (v := (-1)) hx hb dX8_addRow_36 (by decide) ?_
          have hP9 := hP.sub (ws' := [(h0, .inr (8, [.ref hRows, .ref hMer, .ref hEra, .ref hTape, .ref hRea, .ref hTra, .ref hWor, .ref hPla, .ref hMod, .ref hHe1, .ref hHe2, .int 0, .int 0, .int 0, .int 0, .int (-1), .int 0]))]) [0] rfl
          have hD9 := hD.sub (ws' := [(h0, .inr (8, [.ref hRows, .ref hMer, .ref hEra, .ref hTape, .ref hRea, .ref hTra, .ref hWor, .ref hPla, .ref hMod, .ref hHe1, .ref hHe2, .int 0, .int 0, .int 0, .int 0, .int (-1), .int 0]))]) [0] (by decide) rfl
          have hK9 := hK.sub (tys' := []) [] rfl
          have hans : ((-1) : Int32).toInt = (-1) := (by decide)
          exact W.iret (v := (-1)) hx hb hr (fun t ht hW => ⟨⟨(-1), (), rfl, by first | omega | (dsimp only; omega), by rw [ht]; exact hP9, va_K.moved hW.alike hK9, hD9⟩, hS.F ht⟩) hS.2.2 dX8_addRow_37
        · have dc_13 : mo.toInt ≤ kn.toInt := jI_nlt c_13 rfl rfl
          refine lv_iload hx hb dX8_addRow_28 (lv_at hl 5 rfl) ?_
          have hPc := hP.sub (ws' := []) [] rfl
          have hDc := hD.sub (ws' := []) [] (by decide) rfl
          have hKc := hK.sub (tys' := []) [] rfl
          have hFc := va_free (wc := []) hD hS hA [] rfl
          refine va_calli (va_runS (As := [.int va]) (rest := []) ⟨hx, hb, hml, hown, hts⟩ (c_X8_isRowValue l dC dI H.size va ) (va_cwS 1 hts gX8_addRow_X8_isRowValue rfl rfl rfl (by decide +kernel) ⟨Nat.le_of_ble_eq_true rfl, Nat.le_of_ble_eq_true rfl⟩) ⟨fun a U g mk q => by obtain ⟨q0, q1, qP, qK, qD, qN⟩ := q; exact ⟨q0, q1, qP, va_K.moved (u := U) (U := U.calling g mk a) (Vm.Alike.refl U.vm) qK, qD, qN.same rfl⟩, fun U hU hW => ⟨rfl, by rw [hU], by rw [hU]; exact hPc, va_K.moved hW.alike hKc, hDc.weaken (fun _ _ _ _ => trivial), hN.warm hW⟩⟩ rfl rfl hl.1 rfl (lv_room (Nat.le_of_ble_eq_true rfl)) dX8_addRow_30 ⟨Nat.le_of_ble_eq_true rfl, Nat.le_of_ble_eq_true rfl⟩) hS (fun q _ h => hFc q h) hFc (fun r_14 u_15 t H1 locs ht hvm hw_16 hB hz1 hk1 hS => ?_)
          try dsimp only at hw_16
          obtain ⟨hP1, hK1, hD1⟩ := hB
          rw [ht] at hP1
          have hK1 := va_K.moved hvm.symm hK1
          obtain ⟨hP, hD⟩ := va_join (wr := [(h0, .inr (8, [.ref hRows, .ref hMer, .ref hEra, .ref hTape, .ref hRea, .ref hTra, .ref hWor, .ref hPla, .ref hMod, .ref hHe1, .ref hHe2, .int 0, .int 0, .int 0, .int 0, .int (-1), .int 0])), (hRows, .inr (3, [.ref aP, .ref aS, .ref aM, .ref aK, .ref aV, .int 0, .int 0])), (aP, .inl (cP, 400, .inl (fun _ => 0))), (aS, .inl (cS, 400, .inl (fun _ => 0))), (aM, .inl (cM, 400, .inl (fun _ => 0))), (aK, .inl (cK, 400, .inl (fun _ => 0))), (aV, .inl (cV, 400, .inl (fun _ => 0))), (hEra, .inl (cE, 20, .inl (fun _ => 0)))]) (w1 := []) hP hD [] [0, 1, 2, 3, 4, 5, 6, 7] rfl rfl (by decide) (by decide) hk1 hFc hP1 hD1
          have hK := (hK.sub (tys' := [(cP, .int), (cS, .int), (cM, .int), (cK, .int), (cV, .int), (cE, .boolean)]) [0, 1, 2, 3, 4, 5] rfl).app hK1
          generalize H1 = H at hP hS ⊢
          have hP : va_P (dC, dI) vwCl [(h0, .inr (8, [.ref hRows, .ref hMer, .ref hEra, .ref hTape, .ref hRea, .ref hTra, .ref hWor, .ref hPla, .ref hMod, .ref hHe1, .ref hHe2, .int 0, .int 0, .int 0, .int 0, .int (-1), .int 0])), (hRows, .inr (3, [.ref aP, .ref aS, .ref aM, .ref aK, .ref aV, .int 0, .int 0])), (aP, .inl (cP, 400, .inl (fun _ => 0))), (aS, .inl (cS, 400, .inl (fun _ => 0))), (aM, .inl (cM, 400, .inl (fun _ => 0))), (aK, .inl (cK, 400, .inl (fun _ => 0))), (aV, .inl (cV, 400, .inl (fun _ => 0))), (hEra, .inl (cE, 20, .inl (fun _ => 0)))] H := hP
          have hD : va_D A [(h0, .inr (8, [.ref hRows, .ref hMer, .ref hEra, .ref hTape, .ref hRea, .ref hTra, .ref hWor, .ref hPla, .ref hMod, .ref hHe1, .ref hHe2, .int 0, .int 0, .int 0, .int 0, .int (-1), .int 0])), (hRows, .inr (3, [.ref aP, .ref aS, .ref aM, .ref aK, .ref aV, .int 0, .int 0])), (aP, .inl (cP, 400, .inl (fun _ => 0))), (aS, .inl (cS, 400, .inl (fun _ => 0))), (aM, .inl (cM, 400, .inl (fun _ => 0))), (aK, .inl (cK, 400, .inl (fun _ => 0))), (aV, .inl (cV, 400, .inl (fun _ => 0))), (hEra, .inl (cE, 20, .inl (fun _ => 0)))] := hD
          have hK : va_K (dC, dI) vwCl [(cP, .int), (cS, .int), (cM, .int), (cK, .int), (cV, .int), (cE, .boolean)] s := hK
          refine lv_if_ne (tgt := 38) hx hb dX8_addRow_33 (by decide) (fun c_17 => ?_) (fun c_17 => ?_)
          · have dc_17 : ¬ r_14.toInt = 0 := jI_ne c_17 rfl (by decide)
            refine lv_iload_n hx hb dX8_addRow_38 rfl (lv_at hl 1 rfl) ?_
            have hPc := hP.sub (ws' := []) [] rfl
            have hDc := hD.sub (ws' := []) [] (by decide) rfl
            have hKc := hK.sub (tys' := []) [] rfl
            have hFc := va_free (wc := []) hD hS hA [] rfl
            refine va_calli (va_runS (As := [.int pp]) (rest := []) ⟨hx, hb, hml, hown, hts⟩ (c_X8_isPerson l dC dI H.size pp ) (va_cwS 1 hts gX8_addRow_X8_isPerson rfl rfl rfl (by decide +kernel) ⟨Nat.le_of_ble_eq_true rfl, Nat.le_of_ble_eq_true rfl⟩) ⟨fun a U g mk q => by obtain ⟨q0, q1, qP, qK, qD, qN⟩ := q; exact ⟨q0, q1, qP, va_K.moved (u := U) (U := U.calling g mk a) (Vm.Alike.refl U.vm) qK, qD, qN.same rfl⟩, fun U hU hW => ⟨rfl, by rw [hU], by rw [hU]; exact hPc, va_K.moved hW.alike hKc, hDc.weaken (fun _ _ _ _ => trivial), hN.warm hW⟩⟩ rfl rfl hl.1 rfl (lv_room (Nat.le_of_ble_eq_true rfl)) dX8_addRow_39 ⟨Nat.le_of_ble_eq_true rfl, Nat.le_of_ble_eq_true rfl⟩) hS (fun q _ h => hFc q h) hFc (fun r_18 u_19 t H1 locs ht hvm hw_20 hB hz1 hk1 hS => ?_)
            try dsimp only at hw_20
            obtain ⟨hP1, hK1, hD1⟩ := hB
            rw [ht] at hP1
            have hK1 := va_K.moved hvm.symm hK1
            obtain ⟨hP, hD⟩ := va_join (wr := [(h0, .inr (8, [.ref hRows, .ref hMer, .ref hEra, .ref hTape, .ref hRea, .ref hTra, .ref hWor, .ref hPla, .ref hMod, .ref hHe1, .ref hHe2, .int 0, .int 0, .int 0, .int 0, .int (-1), .int 0])), (hRows, .inr (3, [.ref aP, .ref aS, .ref aM, .ref aK, .ref aV, .int 0, .int 0])), (aP, .inl (cP, 400, .inl (fun _ => 0))), (aS, .inl (cS, 400, .inl (fun _ => 0))), (aM, .inl (cM, 400, .inl (fun _ => 0))), (aK, .inl (cK, 400, .inl (fun _ => 0))), (aV, .inl (cV, 400, .inl (fun _ => 0))), (hEra, .inl (cE, 20, .inl (fun _ => 0)))]) (w1 := []) hP hD [] [0, 1, 2, 3, 4, 5, 6, 7] rfl rfl (by decide) (by decide) hk1 hFc hP1 hD1
            have hK := (hK.sub (tys' := [(cP, .int), (cS, .int), (cM, .int), (cK, .int), (cV, .int), (cE, .boolean)]) [0, 1, 2, 3, 4, 5] rfl).app hK1
            generalize H1 = H at hP hS ⊢
            have hP : va_P (dC, dI) vwCl [(h0, .inr (8, [.ref hRows, .ref hMer, .ref hEra, .ref hTape, .ref hRea, .ref hTra, .ref hWor, .ref hPla, .ref hMod, .ref hHe1, .ref hHe2, .int 0, .int 0, .int 0, .int 0, .int (-1), .int 0])), (hRows, .inr (3, [.ref aP, .ref aS, .ref aM, .ref aK, .ref aV, .int 0, .int 0])), (aP, .inl (cP, 400, .inl (fun _ => 0))), (aS, .inl (cS, 400, .inl (fun _ => 0))), (aM, .inl (cM, 400, .inl (fun _ => 0))), (aK, .inl (cK, 400, .inl (fun _ => 0))), (aV, .inl (cV, 400, .inl (fun _ => 0))), (hEra, .inl (cE, 20, .inl (fun _ => 0)))] H := hP
            have hD : va_D A [(h0, .inr (8, [.ref hRows, .ref hMer, .ref hEra, .ref hTape, .ref hRea, .ref hTra, .ref hWor, .ref hPla, .ref hMod, .ref hHe1, .ref hHe2, .int 0, .int 0, .int 0, .int 0, .int (-1), .int 0])), (hRows, .inr (3, [.ref aP, .ref aS, .ref aM, .ref aK, .ref aV, .int 0, .int 0])), (aP, .inl (cP, 400, .inl (fun _ => 0))), (aS, .inl (cS, 400, .inl (fun _ => 0))), (aM, .inl (cM, 400, .inl (fun _ => 0))), (aK, .inl (cK, 400, .inl (fun _ => 0))), (aV, .inl (cV, 400, .inl (fun _ => 0))), (hEra, .inl (cE, 20, .inl (fun _ => 0)))] := hD
            have hK : va_K (dC, dI) vwCl [(cP, .int), (cS, .int), (cM, .int), (cK, .int), (cV, .int), (cE, .boolean)] s := hK
            refine lv_if_ne (tgt := 48) hx hb dX8_addRow_42 (by decide) (fun c_21 => ?_) (fun c_21 => ?_)
            · have dc_21 : ¬ r_18.toInt = 0 := jI_ne c_21 rfl (by decide)
              refine lv_aload_n hx hb dX8_addRow_48 rfl (lv_at hl 0 rfl) ?_
              refine va_get (D := (dC, dI)) (ci := 8) (v := .ref hRows) (C := RX8) (T := TX8) (N := 17) hx hb hts hIX8 hown hK hP 0 rfl rfl 0 (by decide) (hts (.fieldLink RX8 10 "TraitHouse" "rows" "LTraitHouse$Rows;") (by decide +kernel)) (fun _ h9 => h9) rfl dX8_addRow_49 ?_
              have hPc := hP.sub (ws' := [(hRows, .inr (3, [.ref aP, .ref aS, .ref aM, .ref aK, .ref aV, .int 0, .int 0]))]) [1] rfl
              have hDc := hD.sub (ws' := [(hRows, .inr (3, [.ref aP, .ref aS, .ref aM, .ref aK, .ref aV, .int 0, .int 0]))]) [1] (by decide) rfl
              have hKc := hK.sub (tys' := []) [] rfl
              have hFc := va_free (wc := [(hRows, .inr (3, [.ref aP, .ref aS, .ref aM, .ref aK, .ref aV, .int 0, .int 0]))]) hD hS hA [1] rfl
              refine va_calli (va_runVN (As := []) (rest := []) ⟨hx, hb, hml, hown, hts⟩ (c_X3_isFull l dC dI H.size hRows aP aS aM aK aV ) ⟨(va_cnB 0 hts gX8_addRow_X3_isFull_n103 rfl rfl rfl (nw_at hN 36 rfl) (hts (.initialized RX3) (by decide +kernel)) (by decide +kernel) ⟨Nat.le_of_ble_eq_true rfl, Nat.le_of_ble_eq_true rfl⟩), (hts (.instanceMethod yX3_isFull) (by decide +kernel)), (hts (.selects RX3 yX3_isFull yX3_isFull) (by decide +kernel))⟩ ⟨fun a U g mk q => by obtain ⟨q0, q1, qP, qK, qD, qN⟩ := q; exact ⟨q0, q1, qP, va_K.moved (u := U) (U := U.calling g mk a) (Vm.Alike.refl U.vm) qK, qD, qN.same rfl⟩, va_recv hKc hPc (ci := 3) (q0 := 0) rfl rfl, fun U hU hW => ⟨rfl, by rw [hU], by rw [hU]; exact hPc, va_K.moved hW.alike hKc, hDc.weaken (fun _ _ _ _ => trivial), hN.warm hW⟩⟩ rfl rfl hl.1 rfl (lv_room (Nat.le_of_ble_eq_true rfl)) dX8_addRow_52 ⟨Nat.le_of_ble_eq_true rfl, Nat.le_of_ble_eq_true rfl⟩) hS (fun q _ h => hFc q h) hFc (fun r_22 u_23 t H1 locs ht hvm hw_24 hB hz1 hk1 hS => ?_)
              try dsimp only at hw_24
              obtain ⟨hP1, hK1, hD1⟩ := hB
              rw [ht] at hP1
              have hK1 := va_K.moved hvm.symm hK1
              obtain ⟨hP, hD⟩ := va_join (wr := [(h0, .inr (8, [.ref hRows, .ref hMer, .ref hEra, .ref hTape, .ref hRea, .ref hTra, .ref hWor, .ref hPla, .ref hMod, .ref hHe1, .ref hHe2, .int 0, .int 0, .int 0, .int 0, .int (-1), .int 0])), (aP, .inl (cP, 400, .inl (fun _ => 0))), (aS, .inl (cS, 400, .inl (fun _ => 0))), (aM, .inl (cM, 400, .inl (fun _ => 0))), (aK, .inl (cK, 400, .inl (fun _ => 0))), (aV, .inl (cV, 400, .inl (fun _ => 0))), (hEra, .inl (cE, 20, .inl (fun _ => 0)))]) (w1 := [(hRows, .inr (3, [.ref aP, .ref aS, .ref aM, .ref aK, .ref aV, .int 0, .int 0]))]) hP hD [1] [0, 2, 3, 4, 5, 6, 7] rfl rfl (by decide) (by decide) hk1 hFc hP1 hD1
              have hK := (hK.sub (tys' := [(cP, .int), (cS, .int), (cM, .int), (cK, .int), (cV, .int), (cE, .boolean)]) [0, 1, 2, 3, 4, 5] rfl).app hK1
              generalize H1 = H at hP hS ⊢
              have hP : va_P (dC, dI) vwCl [(h0, .inr (8, [.ref hRows, .ref hMer, .ref hEra, .ref hTape, .ref hRea, .ref hTra, .ref hWor, .ref hPla, .ref hMod, .ref hHe1, .ref hHe2, .int 0, .int 0, .int 0, .int 0, .int (-1), .int 0])), (aP, .inl (cP, 400, .inl (fun _ => 0))), (aS, .inl (cS, 400, .inl (fun _ => 0))), (aM, .inl (cM, 400, .inl (fun _ => 0))), (aK, .inl (cK, 400, .inl (fun _ => 0))), (aV, .inl (cV, 400, .inl (fun _ => 0))), (hEra, .inl (cE, 20, .inl (fun _ => 0))), (hRows, .inr (3, [.ref aP, .ref aS, .ref aM, .ref aK, .ref aV, .int 0, .int 0]))] H := hP
              have hD : va_D A [(h0, .inr (8, [.ref hRows, .ref hMer, .ref hEra, .ref hTape, .ref hRea, .ref hTra, .ref hWor, .ref hPla, .ref hMod, .ref hHe1, .ref hHe2, .int 0, .int 0, .int 0, .int 0, .int (-1), .int 0])), (aP, .inl (cP, 400, .inl (fun _ => 0))), (aS, .inl (cS, 400, .inl (fun _ => 0))), (aM, .inl (cM, 400, .inl (fun _ => 0))), (aK, .inl (cK, 400, .inl (fun _ => 0))), (aV, .inl (cV, 400, .inl (fun _ => 0))), (hEra, .inl (cE, 20, .inl (fun _ => 0))), (hRows, .inr (3, [.ref aP, .ref aS, .ref aM, .ref aK, .ref aV, .int 0, .int 0]))] := hD
              have hK : va_K (dC, dI) vwCl [(cP, .int), (cS, .int), (cM, .int), (cK, .int), (cV, .int), (cE, .boolean)] s := hK
              obtain rfl : 0 = r_22 := hw_24.symm
              refine lv_if_eq (tgt := 61) hx hb dX8_addRow_55 (by decide) (fun c_25 => ?_) (fun c_25 => absurd (by decide) c_25)
              refine lv_aload_n hx hb dX8_addRow_61 rfl (lv_at hl 0 rfl) ?_
              refine va_get (D := (dC, dI)) (ci := 8) (v := .ref hEra) (C := RX8) (T := TX8) (N := 17) hx hb hts hIX8 hown hK hP 0 rfl rfl 2 (by decide) (hts (.fieldLink RX8 23 "TraitHouse" "erased" "[Z") (by decide +kernel)) (fun _ h9 => h9) rfl dX8_addRow_62 ?_
              refine lv_iload_n hx hb dX8_addRow_65 rfl (lv_at hl 1 rfl) ?_
              have h_26 : vp_in pp 20 := (vp_in_iff.mpr ⟨by omega, by omega⟩)
              refine va_zald hx hb hK hP 6 5 rfl rfl h_26 dX8_addRow_66 ?_
              refine lv_topi (fun x_27 ex_27 => ?_)
              obtain rfl : x_27 = 0 := ex_27
              refine lv_if_eq (tgt := 73) hx hb dX8_addRow_67 (by decide) (fun c_28 => ?_) (fun c_28 => absurd (by decide) c_28)
              refine lv_aload_n hx hb dX8_addRow_73 rfl (lv_at hl 0 rfl) ?_
              refine va_get (D := (dC, dI)) (ci := 8) (v := .ref hRows) (C := RX8) (T := TX8) (N := 17) hx hb hts hIX8 hown hK hP 0 rfl rfl 0 (by decide) (hts (.fieldLink RX8 10 "TraitHouse" "rows" "LTraitHouse$Rows;") (by decide +kernel)) (fun _ h9 => h9) rfl dX8_addRow_74 ?_
              refine lv_iload_n hx hb dX8_addRow_77 rfl (lv_at hl 1 rfl) ?_
              refine lv_iload_n hx hb dX8_addRow_78 rfl (lv_at hl 2 rfl) ?_
              refine lv_iload_n hx hb dX8_addRow_79 rfl (lv_at hl 3 rfl) ?_
              refine lv_iload hx hb dX8_addRow_80 (lv_at hl 4 rfl) ?_
              refine lv_iload hx hb dX8_addRow_82 (lv_at hl 5 rfl) ?_
              have hPc := hP.sub (ws' := [(hRows, .inr (3, [.ref aP, .ref aS, .ref aM, .ref aK, .ref aV, .int 0, .int 0])), (aP, .inl (cP, 400, .inl (fun _ => 0))), (aS, .inl (cS, 400, .inl (fun _ => 0))), (aM, .inl (cM, 400, .inl (fun _ => 0))), (aK, .inl (cK, 400, .inl (fun _ => 0))), (aV, .inl (cV, 400, .inl (fun _ => 0)))]) [7, 1, 2, 3, 4, 5] rfl
              have hDc := hD.sub (ws' := [(hRows, .inr (3, [.ref aP, .ref aS, .ref aM, .ref aK, .ref aV, .int 0, .int 0])), (aP, .inl (cP, 400, .inl (fun _ => 0))), (aS, .inl (cS, 400, .inl (fun _ => 0))), (aM, .inl (cM, 400, .inl (fun _ => 0))), (aK, .inl (cK, 400, .inl (fun _ => 0))), (aV, .inl (cV, 400, .inl (fun _ => 0)))]) [7, 1, 2, 3, 4, 5] (by decide) rfl
              have hKc := hK.sub (tys' := [(cP, .int), (cS, .int), (cM, .int), (cK, .int), (cV, .int)]) [0, 1, 2, 3, 4] rfl
              have hFc := va_free (wc := [(hRows, .inr (3, [.ref aP, .ref aS, .ref aM, .ref aK, .ref aV, .int 0, .int 0])), (aP, .inl (cP, 400, .inl (fun _ => 0))), (aS, .inl (cS, 400, .inl (fun _ => 0))), (aM, .inl (cM, 400, .inl (fun _ => 0))), (aK, .inl (cK, 400, .inl (fun _ => 0))), (aV, .inl (cV, 400, .inl (fun _ => 0)))]) hD hS hA [7, 1, 2, 3, 4, 5] rfl
              refine va_calli (va_runVN (As := [.int pp, .int st, .int mo, .int kn, .int va]) (rest := []) ⟨hx, hb, hml, hown, hts⟩ (c_X3_add l dC dI H.size hRows aP aS aM aK aV cP cS cM cK cV pp st mo kn va ) ⟨(va_cnB 5 hts gX8_addRow_X3_add_n107 rfl rfl rfl (nw_at hN 37 rfl) (hts (.initialized RX3) (by decide +kernel)) (by decide +kernel) ⟨Nat.le_of_ble_eq_true rfl, Nat.le_of_ble_eq_true rfl⟩), (hts (.instanceMethod yX3_add) (by decide +kernel)), (hts (.selects RX3 yX3_add yX3_add) (by decide +kernel))⟩ ⟨fun a U g mk q => by obtain ⟨q0, q1, qP, qK, qD, qN⟩ := q; exact ⟨q0, q1, qP, va_K.moved (u := U) (U := U.calling g mk a) (Vm.Alike.refl U.vm) qK, qD, qN.same rfl⟩, va_recv hKc hPc (ci := 3) (q0 := 0) rfl rfl, fun U hU hW => ⟨rfl, by rw [hU], by rw [hU]; exact hPc, va_K.moved hW.alike hKc, hDc.weaken (fun _ _ _ _ => trivial), hN.warm hW⟩⟩ rfl rfl hl.1 rfl (lv_room (Nat.le_of_ble_eq_true rfl)) dX8_addRow_84 ⟨Nat.le_of_ble_eq_true rfl, Nat.le_of_ble_eq_true rfl⟩) hS (fun q _ h => hFc q h) hFc (fun r_29 u_30 t H1 locs ht hvm hw_31 hB hz1 hk1 hS => ?_)
              try dsimp only at hw_31
              have hP1 : va_P (dC, dI) vwCl [] H1 := fun k q h => by simp at h
              have hD1 : va_D (va_A [(hRows, .inr (3, [.ref aP, .ref aS, .ref aM, .ref aK, .ref aV, .int 0, .int 0])), (aP, .inl (cP, 400, .inl (fun _ => 0))), (aS, .inl (cS, 400, .inl (fun _ => 0))), (aM, .inl (cM, 400, .inl (fun _ => 0))), (aK, .inl (cK, 400, .inl (fun _ => 0))), (aV, .inl (cV, 400, .inl (fun _ => 0)))] H.size) [] := ⟨fun i j p q h => by simp at h, fun k q h => by simp at h⟩
              have hK1 : va_K (dC, dI) vwCl [] s := hK.sub [] rfl
              obtain ⟨hP, hD⟩ := va_join (wr := [(h0, .inr (8, [.ref hRows, .ref hMer, .ref hEra, .ref hTape, .ref hRea, .ref hTra, .ref hWor, .ref hPla, .ref hMod, .ref hHe1, .ref hHe2, .int 0, .int 0, .int 0, .int 0, .int (-1), .int 0])), (hEra, .inl (cE, 20, .inl (fun _ => 0)))]) (w1 := []) hP hD [7, 1, 2, 3, 4, 5] [0, 6] rfl rfl (by decide) (by decide) hk1 hFc hP1 hD1
              have hK := (hK.sub (tys' := [(cP, .int), (cS, .int), (cM, .int), (cK, .int), (cV, .int), (cE, .boolean)]) [0, 1, 2, 3, 4, 5] rfl).app hK1
              generalize H1 = H at hP hS ⊢
              have hP : va_P (dC, dI) vwCl [(h0, .inr (8, [.ref hRows, .ref hMer, .ref hEra, .ref hTape, .ref hRea, .ref hTra, .ref hWor, .ref hPla, .ref hMod, .ref hHe1, .ref hHe2, .int 0, .int 0, .int 0, .int 0, .int (-1), .int 0])), (hEra, .inl (cE, 20, .inl (fun _ => 0)))] H := hP
              have hD : va_D A [(h0, .inr (8, [.ref hRows, .ref hMer, .ref hEra, .ref hTape, .ref hRea, .ref hTra, .ref hWor, .ref hPla, .ref hMod, .ref hHe1, .ref hHe2, .int 0, .int 0, .int 0, .int 0, .int (-1), .int 0])), (hEra, .inl (cE, 20, .inl (fun _ => 0)))] := hD
              have hK : va_K (dC, dI) vwCl [(cP, .int), (cS, .int), (cM, .int), (cK, .int), (cV, .int), (cE, .boolean)] s := hK
              obtain rfl : 0 = r_29 := hw_31.symm
              have hP9 := hP.sub (ws' := [(h0, .inr (8, [.ref hRows, .ref hMer, .ref hEra, .ref hTape, .ref hRea, .ref hTra, .ref hWor, .ref hPla, .ref hMod, .ref hHe1, .ref hHe2, .int 0, .int 0, .int 0, .int 0, .int (-1), .int 0]))]) [0] rfl
              have hD9 := hD.sub (ws' := [(h0, .inr (8, [.ref hRows, .ref hMer, .ref hEra, .ref hTape, .ref hRea, .ref hTra, .ref hWor, .ref hPla, .ref hMod, .ref hHe1, .ref hHe2, .int 0, .int 0, .int 0, .int 0, .int (-1), .int 0]))]) [0] (by decide) rfl
              have hK9 := hK.sub (tys' := []) [] rfl
              have hans : (0 : Int32).toInt = 0 := (by decide)
              exact W.iret (v := 0) hx hb hr (fun t ht hW => ⟨⟨0, (), rfl, by first | omega | (dsimp only; omega), by rw [ht]; exact hP9, va_K.moved hW.alike hK9, hD9⟩, hS.F ht⟩) hS.2.2 dX8_addRow_87
            · have dc_21 : r_18.toInt = 0 := jI_eq c_21 rfl (by decide)
              refine lv_bipush (v := (-2)) hx hb dX8_addRow_45 (by decide) ?_
              have hP9 := hP.sub (ws' := [(h0, .inr (8, [.ref hRows, .ref hMer, .ref hEra, .ref hTape, .ref hRea, .ref hTra, .ref hWor, .ref hPla, .ref hMod, .ref hHe1, .ref hHe2, .int 0, .int 0, .int 0, .int 0, .int (-1), .int 0]))]) [0] rfl
              have hD9 := hD.sub (ws' := [(h0, .inr (8, [.ref hRows, .ref hMer, .ref hEra, .ref hTape, .ref hRea, .ref hTra, .ref hWor, .ref hPla, .ref hMod, .ref hHe1, .ref hHe2, .int 0, .int 0, .int 0, .int 0, .int (-1), .int 0]))]) [0] (by decide) rfl
              have hK9 := hK.sub (tys' := []) [] rfl
              have hans : ((-2) : Int32).toInt = (-2) := (by decide)
              exact W.iret (v := (-2)) hx hb hr (fun t ht hW => ⟨⟨(-2), (), rfl, by first | omega | (dsimp only; omega), by rw [ht]; exact hP9, va_K.moved hW.alike hK9, hD9⟩, hS.F ht⟩) hS.2.2 dX8_addRow_47
          · have dc_17 : r_14.toInt = 0 := jI_eq c_17 rfl (by decide)
            refine lv_iconst (v := (-1)) hx hb dX8_addRow_36 (by decide) ?_
            have hP9 := hP.sub (ws' := [(h0, .inr (8, [.ref hRows, .ref hMer, .ref hEra, .ref hTape, .ref hRea, .ref hTra, .ref hWor, .ref hPla, .ref hMod, .ref hHe1, .ref hHe2, .int 0, .int 0, .int 0, .int 0, .int (-1), .int 0]))]) [0] rfl
            have hD9 := hD.sub (ws' := [(h0, .inr (8, [.ref hRows, .ref hMer, .ref hEra, .ref hTape, .ref hRea, .ref hTra, .ref hWor, .ref hPla, .ref hMod, .ref hHe1, .ref hHe2, .int 0, .int 0, .int 0, .int 0, .int (-1), .int 0]))]) [0] (by decide) rfl
            have hK9 := hK.sub (tys' := []) [] rfl
            have hans : ((-1) : Int32).toInt = (-1) := (by decide)
            exact W.iret (v := (-1)) hx hb hr (fun t ht hW => ⟨⟨(-1), (), rfl, by first | omega | (dsimp only; omega), by rw [ht]; exact hP9, va_K.moved hW.alike hK9, hD9⟩, hS.F ht⟩) hS.2.2 dX8_addRow_37

set_option maxHeartbeats 4000000 in
set_option maxRecDepth 100000 in
theorem c_X8_row (l : Launch) (dC : Nat → ClassId) (dI : Nat → Nat → Nat) (sz : Nat) (h0 : Nat) (hRows : Nat) (hMer : Nat) (hEra : Nat) (hTape : Nat) (hRea : Nat) (hTra : Nat) (hWor : Nat) (hPla : Nat) (hMod : Nat) (hHe1 : Nat) (hHe2 : Nat) (aP : Nat) (aS : Nat) (aM : Nat) (aK : Nat) (aV : Nat) (cP : ClassId) (cS : ClassId) (cM : ClassId) (cK : ClassId) (cV : ClassId) (cE : ClassId) (pp : Int32) (st : Int32) (mo : Int32) (kn : Int32) (va : Int32)  : Met l yX8_row wsX8_row ({ frames := 3, cells := 0, slots := 0, locals := 70 }) (va_Pc [.ref h0, .int pp, .int st, .int mo, .int kn, .int va] (fun U => U.heap.size = sz ∧ va_P (dC, dI) vwCl [(h0, .inr (8, [.ref hRows, .ref hMer, .ref hEra, .ref hTape, .ref hRea, .ref hTra, .ref hWor, .ref hPla, .ref hMod, .ref hHe1, .ref hHe2, .int 0, .int 0, .int 0, .int 0, .int (-1), .int 0])), (hRows, .inr (3, [.ref aP, .ref aS, .ref aM, .ref aK, .ref aV, .int 0, .int 0])), (aP, .inl (cP, 400, .inl (fun _ => 0))), (aS, .inl (cS, 400, .inl (fun _ => 0))), (aM, .inl (cM, 400, .inl (fun _ => 0))), (aK, .inl (cK, 400, .inl (fun _ => 0))), (aV, .inl (cV, 400, .inl (fun _ => 0))), (hEra, .inl (cE, 20, .inl (fun _ => 0)))] U.heap ∧ va_K (dC, dI) vwCl [(cP, .int), (cS, .int), (cM, .int), (cK, .int), (cV, .int), (cE, .boolean)] U ∧ va_D (fun _ => True) [(h0, .inr (8, [.ref hRows, .ref hMer, .ref hEra, .ref hTape, .ref hRea, .ref hTra, .ref hWor, .ref hPla, .ref hMod, .ref hHe1, .ref hHe2, .int 0, .int 0, .int 0, .int 0, .int (-1), .int 0])), (hRows, .inr (3, [.ref aP, .ref aS, .ref aM, .ref aK, .ref aV, .int 0, .int 0])), (aP, .inl (cP, 400, .inl (fun _ => 0))), (aS, .inl (cS, 400, .inl (fun _ => 0))), (aM, .inl (cM, 400, .inl (fun _ => 0))), (aK, .inl (cK, 400, .inl (fun _ => 0))), (aV, .inl (cV, 400, .inl (fun _ => 0))), (hEra, .inl (cE, 20, .inl (fun _ => 0)))] ∧ nw_ok U)) (va_Qi (fun (r : Int32) (_ : Unit) => (¬ (0 ≤ st.toInt ∧ st.toInt ≤ 5 ∧ 0 ≤ mo.toInt ∧ mo.toInt ≤ kn.toInt ∧ kn.toInt ≤ 100000 ∧ (-1000000) ≤ va.toInt ∧ va.toInt ≤ 1000000) → r.toInt = (-1)) ∧ ((0 ≤ st.toInt ∧ st.toInt ≤ 5 ∧ 0 ≤ mo.toInt ∧ mo.toInt ≤ kn.toInt ∧ kn.toInt ≤ 100000 ∧ (-1000000) ≤ va.toInt ∧ va.toInt ≤ 1000000) ∧ ¬ (0 ≤ pp.toInt ∧ pp.toInt ≤ 19) → r.toInt = (-2)) ∧ ((0 ≤ st.toInt ∧ st.toInt ≤ 5 ∧ 0 ≤ mo.toInt ∧ mo.toInt ≤ kn.toInt ∧ kn.toInt ≤ 100000 ∧ (-1000000) ≤ va.toInt ∧ va.toInt ≤ 1000000) ∧ 0 ≤ pp.toInt ∧ pp.toInt ≤ 19 → r.toInt = 0)) (fun (_ : Unit) (t : State) => True) (va_A [(h0, .inr (8, [.ref hRows, .ref hMer, .ref hEra, .ref hTape, .ref hRea, .ref hTra, .ref hWor, .ref hPla, .ref hMod, .ref hHe1, .ref hHe2, .int 0, .int 0, .int 0, .int 0, .int (-1), .int 0])), (hRows, .inr (3, [.ref aP, .ref aS, .ref aM, .ref aK, .ref aV, .int 0, .int 0])), (aP, .inl (cP, 400, .inl (fun _ => 0))), (aS, .inl (cS, 400, .inl (fun _ => 0))), (aM, .inl (cM, 400, .inl (fun _ => 0))), (aK, .inl (cK, 400, .inl (fun _ => 0))), (aV, .inl (cV, 400, .inl (fun _ => 0))), (hEra, .inl (cE, 20, .inl (fun _ => 0)))] sz)) 0 0 (va_A [(h0, .inr (8, [.ref hRows, .ref hMer, .ref hEra, .ref hTape, .ref hRea, .ref hTra, .ref hWor, .ref hPla, .ref hMod, .ref hHe1, .ref hHe2, .int 0, .int 0, .int 0, .int 0, .int (-1), .int 0])), (hRows, .inr (3, [.ref aP, .ref aS, .ref aM, .ref aK, .ref aV, .int 0, .int 0])), (aP, .inl (cP, 400, .inl (fun _ => 0))), (aS, .inl (cS, 400, .inl (fun _ => 0))), (aM, .inl (cM, 400, .inl (fun _ => 0))), (aK, .inl (cK, 400, .inl (fun _ => 0))), (aV, .inl (cV, 400, .inl (fun _ => 0))), (hEra, .inl (cE, 20, .inl (fun _ => 0)))] sz) := by
  refine Met.ofW (cc := cX8_row) (maxL := 6) (ret := (some .int)) (by decide) rfl ?_
  intro p e s m args below meth c s₁ B hml hv
  obtain ⟨rfl, hsz, hP, hK, hD0, hN⟩ := hv
  have hx := B.exec
  have hb := B.bytes
  have hr := B.returns
  have hts := atoms_spec (ws := wsX8_row) B.pre
  have hown : s.vm.findClass RX8 = some m.cls := findClass_of_methodNamed B.named
  have hlocks := B.notSynchronized
  subst hsz
  have hD := hD0.self (sz := s.heap.size)
  generalize hAe : va_A [(h0, .inr (8, [.ref hRows, .ref hMer, .ref hEra, .ref hTape, .ref hRea, .ref hTra, .ref hWor, .ref hPla, .ref hMod, .ref hHe1, .ref hHe2, .int 0, .int 0, .int 0, .int 0, .int (-1), .int 0])), (hRows, .inr (3, [.ref aP, .ref aS, .ref aM, .ref aK, .ref aV, .int 0, .int 0])), (aP, .inl (cP, 400, .inl (fun _ => 0))), (aS, .inl (cS, 400, .inl (fun _ => 0))), (aM, .inl (cM, 400, .inl (fun _ => 0))), (aK, .inl (cK, 400, .inl (fun _ => 0))), (aV, .inl (cV, 400, .inl (fun _ => 0))), (hEra, .inl (cE, 20, .inl (fun _ => 0)))] s.heap.size = A at hD ⊢
  have hA : ∀ q : Nat, s.heap.size ≤ q → A q := fun q h => by rw [← hAe]; exact Or.inr h
  have hS : va_S A s.heap s.heap [] := va_S.rf
  have hP : va_P (dC, dI) vwCl [(h0, .inr (8, [.ref hRows, .ref hMer, .ref hEra, .ref hTape, .ref hRea, .ref hTra, .ref hWor, .ref hPla, .ref hMod, .ref hHe1, .ref hHe2, .int 0, .int 0, .int 0, .int 0, .int (-1), .int 0])), (hRows, .inr (3, [.ref aP, .ref aS, .ref aM, .ref aK, .ref aV, .int 0, .int 0])), (aP, .inl (cP, 400, .inl (fun _ => 0))), (aS, .inl (cS, 400, .inl (fun _ => 0))), (aM, .inl (cM, 400, .inl (fun _ => 0))), (aK, .inl (cK, 400, .inl (fun _ => 0))), (aV, .inl (cV, 400, .inl (fun _ => 0))), (hEra, .inl (cE, 20, .inl (fun _ => 0)))] s.heap := hP
  have hl := lv_entry ([.ref h0, .int pp, .int st, .int mo, .int kn, .int va]) (n := 6) (Nat.le_of_ble_eq_true rfl)
  rw [lg_entry_eq]
  generalize (lg_sl ([.ref h0, .int pp, .int st, .int mo, .int kn, .int va]) ++ List.replicate (6 - (lg_sl ([.ref h0, .int pp, .int st, .int mo, .int kn, .int va])).length) Slot.unset).toArray = ls at hl ⊢
  have hl : lv_has ls 6 [(0, .ref h0), (1, .int pp), (2, .int st), (3, .int mo), (4, .int kn), (5, .int va)] := hl
  refine lv_aload_n hx hb dX8_row_0 rfl (lv_at hl 0 rfl) ?_
  refine lv_aload_n hx hb dX8_row_1 rfl (lv_at hl 0 rfl) ?_
  refine lv_iload_n hx hb dX8_row_2 rfl (lv_at hl 1 rfl) ?_
  refine lv_iload_n hx hb dX8_row_3 rfl (lv_at hl 2 rfl) ?_
  refine lv_iload_n hx hb dX8_row_4 rfl (lv_at hl 3 rfl) ?_
  refine lv_iload hx hb dX8_row_5 (lv_at hl 4 rfl) ?_
  refine lv_iload hx hb dX8_row_7 (lv_at hl 5 rfl) ?_
  have hPc := hP.sub (ws' := [(h0, .inr (8, [.ref hRows, .ref hMer, .ref hEra, .ref hTape, .ref hRea, .ref hTra, .ref hWor, .ref hPla, .ref hMod, .ref hHe1, .ref hHe2, .int 0, .int 0, .int 0, .int 0, .int (-1), .int 0])), (hRows, .inr (3, [.ref aP, .ref aS, .ref aM, .ref aK, .ref aV, .int 0, .int 0])), (aP, .inl (cP, 400, .inl (fun _ => 0))), (aS, .inl (cS, 400, .inl (fun _ => 0))), (aM, .inl (cM, 400, .inl (fun _ => 0))), (aK, .inl (cK, 400, .inl (fun _ => 0))), (aV, .inl (cV, 400, .inl (fun _ => 0))), (hEra, .inl (cE, 20, .inl (fun _ => 0)))]) [0, 1, 2, 3, 4, 5, 6, 7] rfl
  have hDc := hD.sub (ws' := [(h0, .inr (8, [.ref hRows, .ref hMer, .ref hEra, .ref hTape, .ref hRea, .ref hTra, .ref hWor, .ref hPla, .ref hMod, .ref hHe1, .ref hHe2, .int 0, .int 0, .int 0, .int 0, .int (-1), .int 0])), (hRows, .inr (3, [.ref aP, .ref aS, .ref aM, .ref aK, .ref aV, .int 0, .int 0])), (aP, .inl (cP, 400, .inl (fun _ => 0))), (aS, .inl (cS, 400, .inl (fun _ => 0))), (aM, .inl (cM, 400, .inl (fun _ => 0))), (aK, .inl (cK, 400, .inl (fun _ => 0))), (aV, .inl (cV, 400, .inl (fun _ => 0))), (hEra, .inl (cE, 20, .inl (fun _ => 0)))]) [0, 1, 2, 3, 4, 5, 6, 7] (by decide) rfl
  have hKc := hK.sub (tys' := [(cP, .int), (cS, .int), (cM, .int), (cK, .int), (cV, .int), (cE, .boolean)]) [0, 1, 2, 3, 4, 5] rfl
  have hFc := va_free (wc := [(h0, .inr (8, [.ref hRows, .ref hMer, .ref hEra, .ref hTape, .ref hRea, .ref hTra, .ref hWor, .ref hPla, .ref hMod, .ref hHe1, .ref hHe2, .int 0, .int 0, .int 0, .int 0, .int (-1), .int 0])), (hRows, .inr (3, [.ref aP, .ref aS, .ref aM, .ref aK, .ref aV, .int 0, .int 0])), (aP, .inl (cP, 400, .inl (fun _ => 0))), (aS, .inl (cS, 400, .inl (fun _ => 0))), (aM, .inl (cM, 400, .inl (fun _ => 0))), (aK, .inl (cK, 400, .inl (fun _ => 0))), (aV, .inl (cV, 400, .inl (fun _ => 0))), (hEra, .inl (cE, 20, .inl (fun _ => 0)))]) hD hS hA [0, 1, 2, 3, 4, 5, 6, 7] rfl
  refine va_calli (va_runV (As := [.int pp, .int st, .int mo, .int kn, .int va]) (rest := [.ref h0]) ⟨hx, hb, hml, hown, hts⟩ (c_X8_addRow l dC dI s.heap.size h0 hRows hMer hEra hTape hRea hTra hWor hPla hMod hHe1 hHe2 aP aS aM aK aV cP cS cM cK cV cE pp st mo kn va ) (cwV 5 hts gX8_row_X8_addRow rfl rfl rfl (by decide +kernel) ⟨Nat.le_of_ble_eq_true rfl, Nat.le_of_ble_eq_true rfl⟩) ⟨fun a U g mk q => by obtain ⟨q0, q1, qP, qK, qD, qN⟩ := q; exact ⟨q0, q1, qP, va_K.moved (u := U) (U := U.calling g mk a) (Vm.Alike.refl U.vm) qK, qD, qN.same rfl⟩, va_recv hKc hPc (ci := 8) (q0 := 0) rfl rfl, fun U hU hW => ⟨rfl, by rw [hU], by rw [hU]; exact hPc, va_K.moved hW.alike hKc, hDc.weaken (fun _ _ _ _ => trivial), hN.warm hW⟩⟩ rfl rfl hl.1 rfl (lv_room (Nat.le_of_ble_eq_true rfl)) dX8_row_9 ⟨Nat.le_of_ble_eq_true rfl, Nat.le_of_ble_eq_true rfl⟩) hS (fun q _ h => hFc q h) hFc (fun r_1 u_2 t H1 locs ht hvm hw_3 hB hz1 hk1 hS => ?_)
  try dsimp only at hw_3
  obtain ⟨hP1, hK1, hD1⟩ := hB
  rw [ht] at hP1
  have hK1 := va_K.moved hvm.symm hK1
  obtain ⟨hP, hD⟩ := va_join (wr := []) (w1 := [(h0, .inr (8, [.ref hRows, .ref hMer, .ref hEra, .ref hTape, .ref hRea, .ref hTra, .ref hWor, .ref hPla, .ref hMod, .ref hHe1, .ref hHe2, .int 0, .int 0, .int 0, .int 0, .int (-1), .int 0]))]) hP hD [0, 1, 2, 3, 4, 5, 6, 7] [] rfl rfl (by decide) (by decide) hk1 hFc hP1 hD1
  have hK := (hK.sub (tys' := [(cP, .int), (cS, .int), (cM, .int), (cK, .int), (cV, .int), (cE, .boolean)]) [0, 1, 2, 3, 4, 5] rfl).app hK1
  generalize H1 = H at hP hS ⊢
  have hP : va_P (dC, dI) vwCl [(h0, .inr (8, [.ref hRows, .ref hMer, .ref hEra, .ref hTape, .ref hRea, .ref hTra, .ref hWor, .ref hPla, .ref hMod, .ref hHe1, .ref hHe2, .int 0, .int 0, .int 0, .int 0, .int (-1), .int 0]))] H := hP
  have hD : va_D A [(h0, .inr (8, [.ref hRows, .ref hMer, .ref hEra, .ref hTape, .ref hRea, .ref hTra, .ref hWor, .ref hPla, .ref hMod, .ref hHe1, .ref hHe2, .int 0, .int 0, .int 0, .int 0, .int (-1), .int 0]))] := hD
  have hK : va_K (dC, dI) vwCl [(cP, .int), (cS, .int), (cM, .int), (cK, .int), (cV, .int), (cE, .boolean)] s := hK
  have hk_4 : (0 : Int32).toInt = 0 := by decide
  have hk_5 : ((-1) : Int32).toInt = (-1) := by decide
  have hPc := hP.sub (ws' := [(h0, .inr (8, [.ref hRows, .ref hMer, .ref hEra, .ref hTape, .ref hRea, .ref hTra, .ref hWor, .ref hPla, .ref hMod, .ref hHe1, .ref hHe2, .int 0, .int 0, .int 0, .int 0, .int (-1), .int 0]))]) [0] rfl
  have hDc := hD.sub (ws' := [(h0, .inr (8, [.ref hRows, .ref hMer, .ref hEra, .ref hTape, .ref hRea, .ref hTra, .ref hWor, .ref hPla, .ref hMod, .ref hHe1, .ref hHe2, .int 0, .int 0, .int 0, .int 0, .int (-1), .int 0]))]) [0] (by decide) rfl
  have hKc := hK.sub (tys' := []) [] rfl
  have hFc := va_free (wc := [(h0, .inr (8, [.ref hRows, .ref hMer, .ref hEra, .ref hTape, .ref hRea, .ref hTra, .ref hWor, .ref hPla, .ref hMod, .ref hHe1, .ref hHe2, .int 0, .int 0, .int 0, .int 0, .int (-1), .int 0]))]) hD hS hA [0] rfl
  refine va_calli (va_runV (As := [.int r_1]) (rest := []) ⟨hx, hb, hml, hown, hts⟩ (c_X8_settle l dC dI H.size h0 hRows hMer hEra hTape hRea hTra hWor hPla hMod hHe1 hHe2 0 0 0 0 (-1) 0 r_1 ) (cwV 1 hts gX8_row_X8_settle rfl rfl rfl (by decide +kernel) ⟨Nat.le_of_ble_eq_true rfl, Nat.le_of_ble_eq_true rfl⟩) ⟨fun a U g mk q => by obtain ⟨q0, q1, qP, qK, qD, qN⟩ := q; exact ⟨q0, q1, qP, va_K.moved (u := U) (U := U.calling g mk a) (Vm.Alike.refl U.vm) qK, qD, qN.same rfl⟩, va_recv hKc hPc (ci := 8) (q0 := 0) rfl rfl, fun U hU hW => ⟨rfl, by rw [hU], by rw [hU]; exact hPc, va_K.moved hW.alike hKc, hDc.weaken (fun _ _ _ _ => trivial), hN.warm hW⟩⟩ rfl rfl hl.1 rfl (lv_room (Nat.le_of_ble_eq_true rfl)) dX8_row_12 ⟨Nat.le_of_ble_eq_true rfl, Nat.le_of_ble_eq_true rfl⟩) hS (fun q _ h => hFc q h) hFc (fun r_6 u_7 t H1 locs ht hvm hw_8 hB hz1 hk1 hS => ?_)
  obtain ⟨w_9, rfl⟩ : ∃ z, z = u_7 := ⟨_, rfl⟩
  try dsimp only at hw_8
  obtain ⟨hP1, hK1, hD1⟩ := hB
  rw [ht] at hP1
  have hK1 := va_K.moved hvm.symm hK1
  obtain ⟨hP, hD⟩ := va_join (wr := []) (w1 := [(h0, .inr (8, [.ref hRows, .ref hMer, .ref hEra, .ref hTape, .ref hRea, .ref hTra, .ref hWor, .ref hPla, .ref hMod, .ref hHe1, .ref hHe2, .int 0, .int 0, .int 0, .int 0, .int (-1), .int w_9]))]) hP hD [0] [] rfl rfl (by decide) (by decide) hk1 hFc hP1 hD1
  have hK := (hK.sub (tys' := [(cP, .int), (cS, .int), (cM, .int), (cK, .int), (cV, .int), (cE, .boolean)]) [0, 1, 2, 3, 4, 5] rfl).app hK1
  generalize H1 = H at hP hS ⊢
  have hP : va_P (dC, dI) vwCl [(h0, .inr (8, [.ref hRows, .ref hMer, .ref hEra, .ref hTape, .ref hRea, .ref hTra, .ref hWor, .ref hPla, .ref hMod, .ref hHe1, .ref hHe2, .int 0, .int 0, .int 0, .int 0, .int (-1), .int w_9]))] H := hP
  have hD : va_D A [(h0, .inr (8, [.ref hRows, .ref hMer, .ref hEra, .ref hTape, .ref hRea, .ref hTra, .ref hWor, .ref hPla, .ref hMod, .ref hHe1, .ref hHe2, .int 0, .int 0, .int 0, .int 0, .int (-1), .int w_9]))] := hD
  have hK : va_K (dC, dI) vwCl [(cP, .int), (cS, .int), (cM, .int), (cK, .int), (cV, .int), (cE, .boolean)] s := hK
  obtain rfl : r_1 = r_6 := hw_8.symm
  have hans : (r_1 : Int32).toInt = r_1.toInt := rfl
  exact W.iret (v := r_1) hx hb hr (fun t ht hW => ⟨⟨r_1, (), rfl, by first | omega | (dsimp only; omega), trivial⟩, hS.F ht⟩) hS.2.2 dX8_row_15
