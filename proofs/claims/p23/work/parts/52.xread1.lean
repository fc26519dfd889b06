theorem dX4_init_0 : decode cX4_init 0 = .ok (.aload_n 0, 1) := by decide +kernel
theorem dX4_init_1 : decode cX4_init 1 = .ok (.invokespecial 1, 3) := by decide +kernel
theorem dX4_init_4 : decode cX4_init 4 = .ok (.aload_n 0, 1) := by decide +kernel
theorem dX4_init_5 : decode cX4_init 5 = .ok (.iload_n 1, 1) := by decide +kernel
theorem dX4_init_6 : decode cX4_init 6 = .ok (.putfield 7, 3) := by decide +kernel
theorem dX4_init_9 : decode cX4_init 9 = .ok (.aload_n 0, 1) := by decide +kernel
theorem dX4_init_10 : decode cX4_init 10 = .ok (.iload_n 2, 1) := by decide +kernel
theorem dX4_init_11 : decode cX4_init 11 = .ok (.putfield 13, 3) := by decide +kernel
theorem dX4_init_14 : decode cX4_init 14 = .ok (.aload_n 0, 1) := by decide +kernel
theorem dX4_init_15 : decode cX4_init 15 = .ok (.iload_n 3, 1) := by decide +kernel
theorem dX4_init_16 : decode cX4_init 16 = .ok (.putfield 16, 3) := by decide +kernel
theorem dX4_init_19 : decode cX4_init 19 = .ok (.aload_n 0, 1) := by decide +kernel
theorem dX4_init_20 : decode cX4_init 20 = .ok (.iload 4, 2) := by decide +kernel
theorem dX4_init_22 : decode cX4_init 22 = .ok (.putfield 19, 3) := by decide +kernel
theorem dX4_init_25 : decode cX4_init 25 = .ok (.return_, 1) := by decide +kernel
theorem dX2_emit_0 : decode cX2_emit 0 = .ok (.aload_n 0, 1) := by decide +kernel
theorem dX2_emit_1 : decode cX2_emit 1 = .ok (.getfield 21, 3) := by decide +kernel
theorem dX2_emit_4 : decode cX2_emit 4 = .ok (.sipush 200, 3) := by decide +kernel
theorem dX2_emit_7 : decode cX2_emit 7 = .ok (.if_icmp .ge 34, 3) := by decide +kernel
theorem dX2_emit_41 : decode cX2_emit 41 = .ok (.return_, 1) := by decide +kernel
theorem dX2_emit_10 : decode cX2_emit 10 = .ok (.aload_n 0, 1) := by decide +kernel
theorem dX2_emit_11 : decode cX2_emit 11 = .ok (.getfield 11, 3) := by decide +kernel
theorem dX2_emit_14 : decode cX2_emit 14 = .ok (.aload_n 0, 1) := by decide +kernel
theorem dX2_emit_15 : decode cX2_emit 15 = .ok (.getfield 21, 3) := by decide +kernel
theorem dX2_emit_18 : decode cX2_emit 18 = .ok (.new 9, 3) := by decide +kernel
theorem dX2_emit_21 : decode cX2_emit 21 = .ok (.dup, 1) := by decide +kernel
theorem dX2_emit_22 : decode cX2_emit 22 = .ok (.iload_n 1, 1) := by decide +kernel
theorem dX2_emit_23 : decode cX2_emit 23 = .ok (.iload_n 2, 1) := by decide +kernel
theorem dX2_emit_24 : decode cX2_emit 24 = .ok (.iload_n 3, 1) := by decide +kernel
theorem dX2_emit_25 : decode cX2_emit 25 = .ok (.iload 4, 2) := by decide +kernel
set_option maxRecDepth 20000 in
theorem ggX2_emit_X4_init : GoodIn wsX2_emit wsX4_init := goodIn_r _ [7, 8, 9, 10, 11, 12, 13, 14, 24, 25, 26, 27] (by decide +kernel) (by decide +kernel)
set_option maxRecDepth 20000 in
theorem gX2_emit_X4_init_n139 : GoodIn wsX2_emit (wsX4_init) := ggX2_emit_X4_init
theorem dX2_emit_27 : decode cX2_emit 27 = .ok (.invokespecial 139, 3) := by decide +kernel
theorem dX2_emit_30 : decode cX2_emit 30 = .ok (.aastore, 1) := by decide +kernel
theorem dX2_emit_31 : decode cX2_emit 31 = .ok (.aload_n 0, 1) := by decide +kernel
theorem dX2_emit_32 : decode cX2_emit 32 = .ok (.dup, 1) := by decide +kernel
theorem dX2_emit_33 : decode cX2_emit 33 = .ok (.getfield 21, 3) := by decide +kernel
theorem dX2_emit_36 : decode cX2_emit 36 = .ok (.iconst 1, 1) := by decide +kernel
theorem dX2_emit_37 : decode cX2_emit 37 = .ok (.iadd, 1) := by decide +kernel
theorem dX2_emit_38 : decode cX2_emit 38 = .ok (.putfield 21, 3) := by decide +kernel
theorem dX2_readNumbered_0 : decode cX2_readNumbered 0 = .ok (.aload_n 0, 1) := by decide +kernel
theorem dX2_readNumbered_1 : decode cX2_readNumbered 1 = .ok (.iload_n 2, 1) := by decide +kernel
set_option maxRecDepth 20000 in
theorem ggX2_readNumbered_X2_takeNumber : GoodIn wsX2_readNumbered wsX2_takeNumber := goodIn_r _ [6, 7, 8, 9, 10, 11, 12, 13, 5, 14, 15, 16, 17, 18, 19, 20, 21, 22, 23, 24, 25, 26, 27, 28, 29, 30, 31, 50, 51, 52, 53, 54, 55, 56, 57, 58, 59, 60] (by decide +kernel) (by decide +kernel)
set_option maxRecDepth 20000 in
theorem gX2_readNumbered_X2_takeNumber : GoodIn wsX2_readNumbered (wsV RX2 110 RX2 yX2_takeNumber wsX2_takeNumber) := goodIn_app (goodIn_of _ (by decide +kernel)) ggX2_readNumbered_X2_takeNumber
theorem dX2_readNumbered_2 : decode cX2_readNumbered 2 = .ok (.invokevirtual 110, 3) := by decide +kernel
theorem dX2_readNumbered_5 : decode cX2_readNumbered 5 = .ok (.istore_n 3, 1) := by decide +kernel
theorem dX2_readNumbered_6 : decode cX2_readNumbered 6 = .ok (.iload_n 3, 1) := by decide +kernel
theorem dX2_readNumbered_7 : decode cX2_readNumbered 7 = .ok (.iconst (-1), 1) := by decide +kernel
theorem dX2_readNumbered_8 : decode cX2_readNumbered 8 = .ok (.if_icmp .ne 5, 3) := by decide +kernel
theorem dX2_readNumbered_13 : decode cX2_readNumbered 13 = .ok (.iload_n 1, 1) := by decide +kernel
theorem dX2_readNumbered_14 : decode cX2_readNumbered 14 = .ok (.iconst 1, 1) := by decide +kernel
theorem dX2_readNumbered_15 : decode cX2_readNumbered 15 = .ok (.if_icmp .ne 15, 3) := by decide +kernel
theorem dX2_readNumbered_30 : decode cX2_readNumbered 30 = .ok (.aload_n 0, 1) := by decide +kernel
theorem dX2_readNumbered_31 : decode cX2_readNumbered 31 = .ok (.iload_n 1, 1) := by decide +kernel
theorem dX2_readNumbered_32 : decode cX2_readNumbered 32 = .ok (.iload_n 3, 1) := by decide +kernel
theorem dX2_readNumbered_33 : decode cX2_readNumbered 33 = .ok (.iconst (-1), 1) := by decide +kernel
theorem dX2_readNumbered_34 : decode cX2_readNumbered 34 = .ok (.iconst (-1), 1) := by decide +kernel
set_option maxRecDepth 20000 in
theorem ggX2_readNumbered_X2_emit : GoodIn wsX2_readNumbered wsX2_emit := goodIn_r _ [35, 36, 37, 38, 39, 40, 41, 42, 43, 44, 45, 46, 47, 48, 49, 50, 51, 52, 53, 54, 55, 56, 57, 58, 61, 62, 63, 64] (by decide +kernel) (by decide +kernel)
set_option maxRecDepth 20000 in
theorem gX2_readNumbered_X2_emit : GoodIn wsX2_readNumbered (wsV RX2 69 RX2 yX2_emit wsX2_emit) := goodIn_app (goodIn_of _ (by decide +kernel)) ggX2_readNumbered_X2_emit
theorem dX2_readNumbered_35 : decode cX2_readNumbered 35 = .ok (.invokevirtual 69, 3) := by decide +kernel
theorem dX2_readNumbered_38 : decode cX2_readNumbered 38 = .ok (.iconst 1, 1) := by decide +kernel
theorem dX2_readNumbered_39 : decode cX2_readNumbered 39 = .ok (.ireturn, 1) := by decide +kernel
theorem dX2_readNumbered_18 : decode cX2_readNumbered 18 = .ok (.aload_n 0, 1) := by decide +kernel
theorem dX2_readNumbered_19 : decode cX2_readNumbered 19 = .ok (.dup, 1) := by decide +kernel
theorem dX2_readNumbered_20 : decode cX2_readNumbered 20 = .ok (.getfield 34, 3) := by decide +kernel
theorem dX2_readNumbered_23 : decode cX2_readNumbered 23 = .ok (.iconst 1, 1) := by decide +kernel
theorem dX2_readNumbered_24 : decode cX2_readNumbered 24 = .ok (.iload_n 3, 1) := by decide +kernel
theorem dX2_readNumbered_25 : decode cX2_readNumbered 25 = .ok (.ishl, 1) := by decide +kernel
theorem dX2_readNumbered_26 : decode cX2_readNumbered 26 = .ok (.ior, 1) := by decide +kernel
theorem dX2_readNumbered_27 : decode cX2_readNumbered 27 = .ok (.putfield 34, 3) := by decide +kernel
theorem dX2_readNumbered_11 : decode cX2_readNumbered 11 = .ok (.iconst 0, 1) := by decide +kernel
theorem dX2_readNumbered_12 : decode cX2_readNumbered 12 = .ok (.ireturn, 1) := by decide +kernel
theorem dX2_readWindow_0 : decode cX2_readWindow 0 = .ok (.aload_n 0, 1) := by decide +kernel
theorem dX2_readWindow_1 : decode cX2_readWindow 1 = .ok (.iconst 5, 1) := by decide +kernel
set_option maxRecDepth 20000 in
theorem ggX2_readWindow_X2_takeNumber : GoodIn wsX2_readWindow wsX2_takeNumber := goodIn_r _ [7, 8, 9, 10, 11, 12, 13, 14, 6, 15, 16, 17, 18, 19, 20, 21, 22, 23, 24, 25, 26, 27, 28, 29, 30, 31, 32, 108, 109, 110, 111, 112, 113, 114, 115, 116, 117, 118] (by decide +kernel) (by decide +kernel)
set_option maxRecDepth 20000 in
theorem gX2_readWindow_X2_takeNumber : GoodIn wsX2_readWindow (wsV RX2 110 RX2 yX2_takeNumber wsX2_takeNumber) := goodIn_app (goodIn_of _ (by decide +kernel)) ggX2_readWindow_X2_takeNumber
theorem dX2_readWindow_2 : decode cX2_readWindow 2 = .ok (.invokevirtual 110, 3) := by decide +kernel
theorem dX2_readWindow_5 : decode cX2_readWindow 5 = .ok (.istore_n 2, 1) := by decide +kernel
theorem dX2_readWindow_6 : decode cX2_readWindow 6 = .ok (.iload_n 2, 1) := by decide +kernel
theorem dX2_readWindow_7 : decode cX2_readWindow 7 = .ok (.iconst (-1), 1) := by decide +kernel
theorem dX2_readWindow_8 : decode cX2_readWindow 8 = .ok (.if_icmp .eq 12, 3) := by decide +kernel
theorem dX2_readWindow_20 : decode cX2_readWindow 20 = .ok (.iconst 0, 1) := by decide +kernel
theorem dX2_readWindow_21 : decode cX2_readWindow 21 = .ok (.ireturn, 1) := by decide +kernel
theorem dX2_readWindow_11 : decode cX2_readWindow 11 = .ok (.aload_n 0, 1) := by decide +kernel
theorem dX2_readWindow_12 : decode cX2_readWindow 12 = .ok (.ldc 114, 2) := by decide +kernel
set_option maxRecDepth 20000 in
theorem ggX2_readWindow_X2_take : GoodIn wsX2_readWindow wsX2_take := goodIn_r _ [36, 37, 38, 39, 6, 40, 10, 8, 11, 41, 42, 43, 44, 45, 46, 47, 48, 49, 50, 51, 52, 53, 54, 55, 56, 57, 58, 59, 60, 61, 62, 63, 64, 65, 66, 67, 68, 69, 70, 71, 72, 73, 74, 75, 76, 77, 78, 79, 80, 81, 82, 83, 84, 85, 86, 87, 88, 89, 16, 17, 18, 19, 20, 21, 22, 23, 24, 25, 26, 27, 28, 29, 30, 31, 32, 12, 13, 14, 15, 108, 109, 110, 111, 112, 113, 114, 115, 116, 117, 118] (by decide +kernel) (by decide +kernel)
set_option maxRecDepth 20000 in
theorem gX2_readWindow_X2_take : GoodIn wsX2_readWindow (wsV RX2 107 RX2 yX2_take wsX2_take) := goodIn_app (goodIn_of _ (by decide +kernel)) ggX2_readWindow_X2_take
theorem dX2_readWindow_14 : decode cX2_readWindow 14 = .ok (.invokevirtual 107, 3) := by decide +kernel
theorem dX2_readWindow_17 : decode cX2_readWindow 17 = .ok (.ifCond .ne 5, 3) := by decide +kernel
theorem dX2_readWindow_22 : decode cX2_readWindow 22 = .ok (.aload_n 0, 1) := by decide +kernel
theorem dX2_readWindow_23 : decode cX2_readWindow 23 = .ok (.ldc 85, 2) := by decide +kernel
theorem dX2_readWindow_25 : decode cX2_readWindow 25 = .ok (.invokevirtual 110, 3) := by decide +kernel
theorem dX2_readWindow_28 : decode cX2_readWindow 28 = .ok (.istore_n 3, 1) := by decide +kernel
theorem dX2_readWindow_29 : decode cX2_readWindow 29 = .ok (.iload_n 3, 1) := by decide +kernel
theorem dX2_readWindow_30 : decode cX2_readWindow 30 = .ok (.iconst (-1), 1) := by decide +kernel
theorem dX2_readWindow_31 : decode cX2_readWindow 31 = .ok (.if_icmp .eq 12, 3) := by decide +kernel
theorem dX2_readWindow_43 : decode cX2_readWindow 43 = .ok (.iconst 0, 1) := by decide +kernel
theorem dX2_readWindow_44 : decode cX2_readWindow 44 = .ok (.ireturn, 1) := by decide +kernel
theorem dX2_readWindow_34 : decode cX2_readWindow 34 = .ok (.aload_n 0, 1) := by decide +kernel
theorem dX2_readWindow_35 : decode cX2_readWindow 35 = .ok (.ldc 116, 2) := by decide +kernel
theorem dX2_readWindow_37 : decode cX2_readWindow 37 = .ok (.invokevirtual 107, 3) := by decide +kernel
theorem dX2_readWindow_40 : decode cX2_readWindow 40 = .ok (.ifCond .ne 5, 3) := by decide +kernel
theorem dX2_readWindow_45 : decode cX2_readWindow 45 = .ok (.aload_n 0, 1) := by decide +kernel
theorem dX2_readWindow_46 : decode cX2_readWindow 46 = .ok (.iload_n 3, 1) := by decide +kernel
theorem dX2_readWindow_47 : decode cX2_readWindow 47 = .ok (.invokevirtual 110, 3) := by decide +kernel
theorem dX2_readWindow_50 : decode cX2_readWindow 50 = .ok (.istore 4, 2) := by decide +kernel
theorem dX2_readWindow_52 : decode cX2_readWindow 52 = .ok (.iload 4, 2) := by decide +kernel
theorem dX2_readWindow_54 : decode cX2_readWindow 54 = .ok (.iconst (-1), 1) := by decide +kernel
theorem dX2_readWindow_55 : decode cX2_readWindow 55 = .ok (.if_icmp .ne 5, 3) := by decide +kernel
theorem dX2_readWindow_60 : decode cX2_readWindow 60 = .ok (.aload_n 0, 1) := by decide +kernel
theorem dX2_readWindow_61 : decode cX2_readWindow 61 = .ok (.iload_n 1, 1) := by decide +kernel
theorem dX2_readWindow_62 : decode cX2_readWindow 62 = .ok (.iload_n 2, 1) := by decide +kernel
theorem dX2_readWindow_63 : decode cX2_readWindow 63 = .ok (.iload_n 3, 1) := by decide +kernel
theorem dX2_readWindow_64 : decode cX2_readWindow 64 = .ok (.iload 4, 2) := by decide +kernel
set_option maxRecDepth 20000 in
theorem ggX2_readWindow_X2_emit : GoodIn wsX2_readWindow wsX2_emit := goodIn_r _ [93, 94, 95, 96, 97, 98, 99, 100, 101, 102, 103, 104, 105, 106, 107, 108, 109, 110, 111, 112, 113, 114, 115, 116, 119, 120, 121, 122] (by decide +kernel) (by decide +kernel)
set_option maxRecDepth 20000 in
theorem gX2_readWindow_X2_emit : GoodIn wsX2_readWindow (wsV RX2 69 RX2 yX2_emit wsX2_emit) := goodIn_app (goodIn_of _ (by decide +kernel)) ggX2_readWindow_X2_emit
theorem dX2_readWindow_66 : decode cX2_readWindow 66 = .ok (.invokevirtual 69, 3) := by decide +kernel
theorem dX2_readWindow_69 : decode cX2_readWindow 69 = .ok (.aload_n 0, 1) := by decide +kernel
theorem dX2_readWindow_70 : decode cX2_readWindow 70 = .ok (.ldc 118, 2) := by decide +kernel
set_option maxRecDepth 20000 in
theorem ggX2_readWindow_X2_isAt : GoodIn wsX2_readWindow wsX2_isAt := goodIn_r _ [40, 10, 8, 11, 41, 42, 43, 44, 45, 46, 47, 48, 49, 50, 51, 52, 53, 54, 55, 56, 57, 58, 59, 60, 61, 62, 63, 64, 65, 66, 67, 68, 69, 70, 71, 72, 73, 74, 75, 76, 77, 78, 79, 80, 81, 82, 83, 84, 85, 86, 87, 88, 89, 108, 109, 110, 111, 112, 113, 114, 115, 116, 117, 118] (by decide +kernel) (by decide +kernel)
set_option maxRecDepth 20000 in
theorem gX2_readWindow_X2_isAt : GoodIn wsX2_readWindow (wsV RX2 63 RX2 yX2_isAt wsX2_isAt) := goodIn_app (goodIn_of _ (by decide +kernel)) ggX2_readWindow_X2_isAt
theorem dX2_readWindow_72 : decode cX2_readWindow 72 = .ok (.invokevirtual 63, 3) := by decide +kernel
theorem dX2_readWindow_75 : decode cX2_readWindow 75 = .ok (.ifCond .eq 12, 3) := by decide +kernel
theorem dX2_readWindow_87 : decode cX2_readWindow 87 = .ok (.iconst 1, 1) := by decide +kernel
theorem dX2_readWindow_88 : decode cX2_readWindow 88 = .ok (.ireturn, 1) := by decide +kernel
theorem dX2_readWindow_78 : decode cX2_readWindow 78 = .ok (.aload_n 0, 1) := by decide +kernel
theorem dX2_readWindow_79 : decode cX2_readWindow 79 = .ok (.iconst 1, 1) := by decide +kernel
theorem dX2_readWindow_80 : decode cX2_readWindow 80 = .ok (.putfield 37, 3) := by decide +kernel
theorem dX2_readWindow_83 : decode cX2_readWindow 83 = .ok (.aload_n 0, 1) := by decide +kernel
set_option maxRecDepth 20000 in
theorem ggX2_readWindow_X2_advance : GoodIn wsX2_readWindow wsX2_advance := goodIn_r _ [24, 10, 8, 11, 25, 26, 27, 28, 29, 30, 31, 6, 32, 12, 13, 14, 15, 108, 109, 110, 111, 112, 113, 114, 115, 116, 117, 118] (by decide +kernel) (by decide +kernel)
set_option maxRecDepth 20000 in
theorem gX2_readWindow_X2_advance : GoodIn wsX2_readWindow (wsV RX2 41 RX2 yX2_advance wsX2_advance) := goodIn_app (goodIn_of _ (by decide +kernel)) ggX2_readWindow_X2_advance
theorem dX2_readWindow_84 : decode cX2_readWindow 84 = .ok (.invokevirtual 41, 3) := by decide +kernel
theorem dX2_readWindow_58 : decode cX2_readWindow 58 = .ok (.iconst 0, 1) := by decide +kernel
theorem dX2_readWindow_59 : decode cX2_readWindow 59 = .ok (.ireturn, 1) := by decide +kernel
set_option maxHeartbeats 8000000 in
set_option maxRecDepth 100000 in
theorem k_X4_init (l : Launch) (dC : Nat → ClassId) (dI : Nat → Nat → Nat) (cA : Nat → ClassId) (sz : Nat) (k0 : Int32) (k1 : Int32) (k2 : Int32) (k3 : Int32) (so : Nat) (kd : Int32) (nb : Int32) (fr : Int32) (to : Int32)   : Met l yX4_init wsX4_init ({ frames := 1, cells := 0, slots := 0, locals := 20 }) (va_Pc [.ref so, .int kd, .int nb, .int fr, .int to] (fun U => U.heap.size = sz ∧ va_P (dC, dI) vwCl [(so, .inr (4, [.int k0, .int k1, .int k2, .int k3]))] U.heap ∧ va_K (dC, dI) vwCl (tyL cA) U ∧ va_D (fun _ => True) [(so, .inr (4, [.int k0, .int k1, .int k2, .int k3]))] ∧ nw_ok U)) (va_Qv (fun (u : Int32 × Int32 × Int32 × Int32) => (kd = u.1 ∧ nb = u.2.1 ∧ fr = u.2.2.1 ∧ to = u.2.2.2)) (fun (u : Int32 × Int32 × Int32 × Int32) (t : State) => va_P (dC, dI) vwCl [(so, .inr (4, [.int u.1, .int u.2.1, .int u.2.2.1, .int u.2.2.2]))] t.heap ∧ va_D (va_A [(so, .inr (4, [.int k0, .int k1, .int k2, .int k3]))] sz) [(so, .inr (4, [.int u.1, .int u.2.1, .int u.2.2.1, .int u.2.2.2]))]) (va_A [(so, .inr (4, [.int k0, .int k1, .int k2, .int k3]))] sz)) 0 0 (va_A [(so, .inr (4, [.int k0, .int k1, .int k2, .int k3]))] sz) := by
  refine Met.ofW (cc := cX4_init) (maxL := 5) (ret := none) (by decide) rfl ?_
  intro p e s m args below meth c s₁ B hml hv
  obtain ⟨rfl, hsz, hP, hK, hD0, hN⟩ := hv
  have hx := B.exec
  have hb := B.bytes
  have hr := B.returns
  have hts := atoms_spec (ws := wsX4_init) B.pre
  have hown : s.vm.findClass RX4 = some m.cls := findClass_of_methodNamed B.named
  have hlocks := B.notSynchronized
  have hin : meth.name = "<init>" := (name_of_methodNamed B.named B.method).1
  subst hsz
  have hD := hD0.self (sz := s.heap.size)
  generalize hAe : va_A [(so, .inr (4, [.int k0, .int k1, .int k2, .int k3]))] s.heap.size = A at hD ⊢
  have hA : ∀ q : Nat, s.heap.size ≤ q → A q := fun q h => by rw [← hAe]; exact Or.inr h
  have hS : va_S A s.heap s.heap [] := va_S.rf
  have hIX4 : ∀ w ∈ u_ws RX4 TX4 4, w ∈ wsX4_init := by decide +kernel
  have hl := lv_entry ([.ref so, .int kd, .int nb, .int fr, .int to]) (n := 5) (Nat.le_of_ble_eq_true rfl)
  rw [lg_entry_eq]
  generalize (lg_sl ([.ref so, .int kd, .int nb, .int fr, .int to]) ++ List.replicate (5 - (lg_sl ([.ref so, .int kd, .int nb, .int fr, .int to])).length) Slot.unset).toArray = ls at hl ⊢
  have hl : lv_has ls 5 [(0, .ref so), (1, .int kd), (2, .int nb), (3, .int fr), (4, .int to)] := hl
  generalize hQe : MQ below _ _ _ _ _ _ = QQ
  refine lv_aload_n hx hb dX4_init_0 rfl (lv_at hl 0 rfl) ?_
  refine W.objInit hx hb hown (hts (.methodLink RX4 1 objectInit) (by decide +kernel)) (hts (.instanceMethod objectInit) (by decide +kernel)) (hts (.code objectInit ⟨#[0xb1]⟩ 1 none) (by decide +kernel)) rfl (by rw [hml]; exact hl.1) rfl dX4_init_1 (Nat.le_of_ble_eq_true rfl) (Nat.le_of_ble_eq_true rfl) ?_
  refine W.eq (g2 := F0 m 4 ls []) rfl ?_
  refine lv_aload_n hx hb dX4_init_4 rfl (lv_at hl 0 rfl) ?_
  refine lv_iload_n hx hb dX4_init_5 rfl (lv_at hl 1 rfl) ?_
  refine va_putF (D := (dC, dI)) (ci := 4) (v := .int kd) (ty := .int) (C := RX4) (T := TX4) (N := 4) hx hb hts hIX4 tyX4 tyX4_ok nmX4 hown hK hP hD hS 0 rfl rfl 0 (by decide) (hts (.fieldLink RX4 7 "TraitHouse$Step" "kind" "I") (by decide +kernel)) (fun _ h9 => h9) rfl hin rfl (by decide +kernel) rfl rfl (Nat.le_of_ble_eq_true rfl) dX4_init_6 (fun H locs hP hD hS => ?_)
  replace hP : va_P (dC, dI) vwCl [(so, .inr (4, [.int kd, .int k1, .int k2, .int k3]))] H := hP
  replace hD : va_D A [(so, .inr (4, [.int kd, .int k1, .int k2, .int k3]))] := hD
  refine lv_aload_n hx hb dX4_init_9 rfl (lv_at hl 0 rfl) ?_
  refine lv_iload_n hx hb dX4_init_10 rfl (lv_at hl 2 rfl) ?_
  refine va_putF (D := (dC, dI)) (ci := 4) (v := .int nb) (ty := .int) (C := RX4) (T := TX4) (N := 4) hx hb hts hIX4 tyX4 tyX4_ok nmX4 hown hK hP hD hS 0 rfl rfl 1 (by decide) (hts (.fieldLink RX4 13 "TraitHouse$Step" "number" "I") (by decide +kernel)) (fun _ h9 => h9) rfl hin rfl (by decide +kernel) rfl rfl (Nat.le_of_ble_eq_true rfl) dX4_init_11 (fun H locs hP hD hS => ?_)
  replace hP : va_P (dC, dI) vwCl [(so, .inr (4, [.int kd, .int nb, .int k2, .int k3]))] H := hP
  replace hD : va_D A [(so, .inr (4, [.int kd, .int nb, .int k2, .int k3]))] := hD
  refine lv_aload_n hx hb dX4_init_14 rfl (lv_at hl 0 rfl) ?_
  refine lv_iload_n hx hb dX4_init_15 rfl (lv_at hl 3 rfl) ?_
  refine va_putF (D := (dC, dI)) (ci := 4) (v := .int fr) (ty := .int) (C := RX4) (T := TX4) (N := 4) hx hb hts hIX4 tyX4 tyX4_ok nmX4 hown hK hP hD hS 0 rfl rfl 2 (by decide) (hts (.fieldLink RX4 16 "TraitHouse$Step" "from" "I") (by decide +kernel)) (fun _ h9 => h9) rfl hin rfl (by decide +kernel) rfl rfl (Nat.le_of_ble_eq_true rfl) dX4_init_16 (fun H locs hP hD hS => ?_)
  replace hP : va_P (dC, dI) vwCl [(so, .inr (4, [.int kd, .int nb, .int fr, .int k3]))] H := hP
  replace hD : va_D A [(so, .inr (4, [.int kd, .int nb, .int fr, .int k3]))] := hD
  refine lv_aload_n hx hb dX4_init_19 rfl (lv_at hl 0 rfl) ?_
  refine lv_iload hx hb dX4_init_20 (lv_at hl 4 rfl) ?_
  refine va_putF (D := (dC, dI)) (ci := 4) (v := .int to) (ty := .int) (C := RX4) (T := TX4) (N := 4) hx hb hts hIX4 tyX4 tyX4_ok nmX4 hown hK hP hD hS 0 rfl rfl 3 (by decide) (hts (.fieldLink RX4 19 "TraitHouse$Step" "to" "I") (by decide +kernel)) (fun _ h9 => h9) rfl hin rfl (by decide +kernel) rfl rfl (Nat.le_of_ble_eq_true rfl) dX4_init_22 (fun H locs hP hD hS => ?_)
  replace hP : va_P (dC, dI) vwCl [(so, .inr (4, [.int kd, .int nb, .int fr, .int to]))] H := hP
  replace hD : va_D A [(so, .inr (4, [.int kd, .int nb, .int fr, .int to]))] := hD
  obtain ⟨hP9, hD9⟩ := va_pd (ws' := [(so, .inr (4, [.int kd, .int nb, .int fr, .int to]))]) hP hD [0] (by decide) rfl
  subst hQe
  have hpost : (kd = kd ∧ nb = nb ∧ fr = fr ∧ to = to) := ⟨rfl, rfl, rfl, rfl⟩
  exact W.vret hx hb hr (fun t ht hW => ⟨⟨(kd, nb, fr, to), rfl, hpost, by rw [ht]; exact hP9, hD9⟩, hS.F ht⟩) hS.2.2 dX4_init_25

set_option maxHeartbeats 8000000 in
set_option maxRecDepth 100000 in
theorem k_X2_emit (l : Launch) (dC : Nat → ClassId) (dI : Nat → Nat → Nat) (cA : Nat → ClassId) (sz : Nat) (ax : Nat → Nat) (xSz : Int32) (xPl : Int32) (xBe : Int32) (xRt : Int32) (xRf : Int32) (xRd : Int32) (xLk : Int32) (xTz : Int32) (gB : Nat → Int32) (gSt : Nat → Option Nat) (kd : Int32) (nb : Int32) (fr : Int32) (to : Int32) (i_xSz : 0 ≤ xSz.toInt ∧ xSz.toInt ≤ 200) (i_xPl : 0 ≤ xPl.toInt ∧ xPl.toInt ≤ 200) (i_xBe : 0 ≤ xBe.toInt ∧ xBe.toInt ≤ 200) (i_xRt : 0 ≤ xRt.toInt ∧ xRt.toInt ≤ 20) (i_xTz : 0 ≤ xTz.toInt ∧ xTz.toInt ≤ 200) (i_gB : inB 0 255 200 gB) (hsk : kd.toInt = 1 → 0 ≤ nb.toInt ∧ nb.toInt ≤ 19) : Met l yX2_emit wsX2_emit ({ frames := 2, cells := (200 - xSz.toInt).toNat, slots := (4 * (200 - xSz.toInt).toNat), locals := 44 }) (va_Pc [.ref (ax 13), .int kd, .int nb, .int fr, .int to] (fun U => U.heap.size = sz ∧ va_P (dC, dI) vwCl [((ax 13), .inr (2, [.ref (ax 11), .ref (ax 14), .int xSz, .int xPl, .int xBe, .int xRt, .int xRf, .int xRd, .int xLk])), ((ax 11), .inr (5, [.ref (ax 12), .int xTz])), ((ax 12), .inl (cA 0, 200, .inl gB)), ((ax 14), .inl (cA 4, 200, .inr (.inr (.inr (.inr gSt)))))] U.heap ∧ va_K (dC, dI) vwCl (tyL cA) U ∧ va_D (fun _ => True) [((ax 13), .inr (2, [.ref (ax 11), .ref (ax 14), .int xSz, .int xPl, .int xBe, .int xRt, .int xRf, .int xRd, .int xLk])), ((ax 11), .inr (5, [.ref (ax 12), .int xTz])), ((ax 12), .inl (cA 0, 200, .inl gB)), ((ax 14), .inl (cA 4, 200, .inr (.inr (.inr (.inr gSt)))))] ∧ nw_ok U)) (va_Qv (fun (u : Int32 × (Nat → Option Nat) × (List Nat) × (Nat → va_E)) => (0 ≤ u.1.toInt ∧ u.1.toInt ≤ 200) ∧ (stq xSz.toInt u.1.toInt gSt u.2.1 u.2.2.1 u.2.2.2)) (fun (u : Int32 × (Nat → Option Nat) × (List Nat) × (Nat → va_E)) (t : State) => va_P (dC, dI) vwCl (([((ax 13), .inr (2, [.ref (ax 11), .ref (ax 14), .int u.1, .int xPl, .int xBe, .int xRt, .int xRf, .int xRd, .int xLk])), ((ax 11), .inr (5, [.ref (ax 12), .int xTz])), ((ax 12), .inl (cA 0, 200, .inl gB)), ((ax 14), .inl (cA 4, 200, .inr (.inr (.inr (.inr u.2.1)))))] : va_W) ++ va_pl u.2.2.1 u.2.2.2) t.heap ∧ va_D (va_A [((ax 13), .inr (2, [.ref (ax 11), .ref (ax 14), .int xSz, .int xPl, .int xBe, .int xRt, .int xRf, .int xRd, .int xLk])), ((ax 11), .inr (5, [.ref (ax 12), .int xTz])), ((ax 12), .inl (cA 0, 200, .inl gB)), ((ax 14), .inl (cA 4, 200, .inr (.inr (.inr (.inr gSt)))))] sz) (([((ax 13), .inr (2, [.ref (ax 11), .ref (ax 14), .int u.1, .int xPl, .int xBe, .int xRt, .int xRf, .int xRd, .int xLk])), ((ax 11), .inr (5, [.ref (ax 12), .int xTz])), ((ax 12), .inl (cA 0, 200, .inl gB)), ((ax 14), .inl (cA 4, 200, .inr (.inr (.inr (.inr u.2.1)))))] : va_W) ++ va_pl u.2.2.1 u.2.2.2) ∧ (t.heap.size ≤ sz + (u.1.toInt - xSz.toInt).toNat ∧ ssum sz t.heap ≤ 4 * (u.1.toInt - xSz.toInt).toNat)) (va_A [((ax 13), .inr (2, [.ref (ax 11), .ref (ax 14), .int xSz, .int xPl, .int xBe, .int xRt, .int xRf, .int xRd, .int xLk])), ((ax 11), .inr (5, [.ref (ax 12), .int xTz])), ((ax 12), .inl (cA 0, 200, .inl gB)), ((ax 14), .inl (cA 4, 200, .inr (.inr (.inr (.inr gSt)))))] sz)) ((200 - xSz.toInt).toNat) (4 * (200 - xSz.toInt).toNat) (va_A [((ax 13), .inr (2, [.ref (ax 11), .ref (ax 14), .int xSz, .int xPl, .int xBe, .int xRt, .int xRf, .int xRd, .int xLk])), ((ax 11), .inr (5, [.ref (ax 12), .int xTz])), ((ax 12), .inl (cA 0, 200, .inl gB)), ((ax 14), .inl (cA 4, 200, .inr (.inr (.inr (.inr gSt)))))] sz) := by
  refine Met.ofW (cc := cX2_emit) (maxL := 5) (ret := none) (by decide) rfl ?_
  intro p e s m args below meth c s₁ B hml hv
  obtain ⟨rfl, hsz, hP, hK, hD0, hN⟩ := hv
  have hx := B.exec
  have hb := B.bytes
  have hr := B.returns
  have hts := atoms_spec (ws := wsX2_emit) B.pre
  have hown : s.vm.findClass RX2 = some m.cls := findClass_of_methodNamed B.named
  have hlocks := B.notSynchronized
  subst hsz
  have hD := hD0.self (sz := s.heap.size)
  generalize hAe : va_A [((ax 13), .inr (2, [.ref (ax 11), .ref (ax 14), .int xSz, .int xPl, .int xBe, .int xRt, .int xRf, .int xRd, .int xLk])), ((ax 11), .inr (5, [.ref (ax 12), .int xTz])), ((ax 12), .inl (cA 0, 200, .inl gB)), ((ax 14), .inl (cA 4, 200, .inr (.inr (.inr (.inr gSt)))))] s.heap.size = A at hD ⊢
  have hA : ∀ q : Nat, s.heap.size ≤ q → A q := fun q h => by rw [← hAe]; exact Or.inr h
  have hS : va_S A s.heap s.heap [] := va_S.rf
  have hlt0 : (ax 13) < s.heap.size := (hP 0 _ rfl).lt
  have hlt1 : (ax 11) < s.heap.size := (hP 1 _ rfl).lt
  have hlt2 : (ax 12) < s.heap.size := (hP 2 _ rfl).lt
  have hlt3 : (ax 14) < s.heap.size := (hP 3 _ rfl).lt
  obtain ⟨pfz, hpfz⟩ : ∃ f : Nat → va_E, f = fun _ => .inr (0, []) := ⟨_, rfl⟩
  replace hP : va_P (dC, dI) vwCl (([((ax 13), .inr (2, [.ref (ax 11), .ref (ax 14), .int xSz, .int xPl, .int xBe, .int xRt, .int xRf, .int xRd, .int xLk])), ((ax 11), .inr (5, [.ref (ax 12), .int xTz])), ((ax 12), .inl (cA 0, 200, .inl gB)), ((ax 14), .inl (cA 4, 200, .inr (.inr (.inr (.inr gSt)))))] : va_W) ++ va_pl ([]) pfz) s.heap := hP
  replace hD : va_D A (([((ax 13), .inr (2, [.ref (ax 11), .ref (ax 14), .int xSz, .int xPl, .int xBe, .int xRt, .int xRf, .int xRd, .int xLk])), ((ax 11), .inr (5, [.ref (ax 12), .int xTz])), ((ax 12), .inl (cA 0, 200, .inl gB)), ((ax 14), .inl (cA 4, 200, .inr (.inr (.inr (.inr gSt)))))] : va_W) ++ va_pl ([]) pfz) := hD
  have hIX2 : ∀ w ∈ u_ws RX2 TX2 9, w ∈ wsX2_emit := by decide +kernel
  have hIX4 : ∀ w ∈ u_ws RX4 TX4 4, w ∈ wsX2_emit := by decide +kernel
  have hl := lv_entry ([.ref (ax 13), .int kd, .int nb, .int fr, .int to]) (n := 5) (Nat.le_of_ble_eq_true rfl)
  rw [lg_entry_eq]
  generalize (lg_sl ([.ref (ax 13), .int kd, .int nb, .int fr, .int to]) ++ List.replicate (5 - (lg_sl ([.ref (ax 13), .int kd, .int nb, .int fr, .int to])).length) Slot.unset).toArray = ls at hl ⊢
  have hl : lv_has ls 5 [(0, .ref (ax 13)), (1, .int kd), (2, .int nb), (3, .int fr), (4, .int to)] := hl
  generalize hQe : MQ below _ _ _ _ _ _ = QQ
  refine lv_aload_n hx hb dX2_emit_0 rfl (lv_at hl 0 rfl) ?_
  refine va_get (D := (dC, dI)) (ci := 2) (v := .int xSz) (C := RX2) (T := TX2) (N := 9) hx hb hts hIX2 hown hK hP 0 rfl rfl 2 (by decide) (hts (.fieldLink RX2 21 "TraitHouse$Reader" "size" "I") (by decide +kernel)) (fun _ h9 => h9) rfl dX2_emit_1 ?_
  refine lv_sipush (v := 200) hx hb dX2_emit_4 (by decide) ?_
  refine lv_icmp_ge (tgt := 41) hx hb dX2_emit_7 (by decide) (fun c_1 => ?_) (fun c_1 => ?_)
  · have dc_1 : 200 ≤ xSz.toInt := jI_le c_1 (by decide) rfl
    have hP9 := hP.part (cx := [((ax 13), .inr (2, [.ref (ax 11), .ref (ax 14), .int xSz, .int xPl, .int xBe, .int xRt, .int xRf, .int xRd, .int xLk])), ((ax 11), .inr (5, [.ref (ax 12), .int xTz])), ((ax 12), .inl (cA 0, 200, .inl gB)), ((ax 14), .inl (cA 4, 200, .inr (.inr (.inr (.inr gSt)))))]) [0, 1, 2, 3] rfl
    have hD9 := hD.part (cx := [((ax 13), .inr (2, [.ref (ax 11), .ref (ax 14), .int xSz, .int xPl, .int xBe, .int xRt, .int xRf, .int xRd, .int xLk])), ((ax 11), .inr (5, [.ref (ax 12), .int xTz])), ((ax 12), .inl (cA 0, 200, .inl gB)), ((ax 14), .inl (cA 4, 200, .inr (.inr (.inr (.inr gSt)))))]) [0, 1, 2, 3] (by decide) rfl
    refine W.know (fun hkn1 hkn2 => ?_)
    have hBx : s.heap.size ≤ s.heap.size + (xSz.toInt - xSz.toInt).toNat ∧ ssum s.heap.size s.heap ≤ 4 * (xSz.toInt - xSz.toInt).toNat := ⟨by omega, by omega⟩
    subst hQe
    refine W.widen (k := (200 - xSz.toInt).toNat) (n := (4 * (200 - xSz.toInt).toNat)) (by omega) (by omega) ?_
    have hpost : (0 ≤ xSz.toInt ∧ xSz.toInt ≤ 200) ∧ (stq xSz.toInt xSz.toInt gSt gSt ([]) pfz) := ⟨i_xSz, stq_0⟩
    exact W.vret hx hb hr (fun t ht hW => ⟨⟨(xSz, gSt, [], pfz), rfl, hpost, by rw [ht]; exact hP9, hD9, by rw [ht]; exact hBx⟩, hS.F ht⟩) hS.2.2 dX2_emit_41
  · have dc_1 : xSz.toInt < 200 := jI_nle c_1 (by decide) rfl
    refine lv_aload_n hx hb dX2_emit_10 rfl (lv_at hl 0 rfl) ?_
    refine va_get (D := (dC, dI)) (ci := 2) (v := .ref (ax 14)) (C := RX2) (T := TX2) (N := 9) hx hb hts hIX2 hown hK hP 0 rfl rfl 1 (by decide) (hts (.fieldLink RX2 11 "TraitHouse$Reader" "steps" "[LTraitHouse$Step;") (by decide +kernel)) (fun _ h9 => h9) rfl dX2_emit_11 ?_
    refine lv_aload_n hx hb dX2_emit_14 rfl (lv_at hl 0 rfl) ?_
    refine va_get (D := (dC, dI)) (ci := 2) (v := .int xSz) (C := RX2) (T := TX2) (N := 9) hx hb hts hIX2 hown hK hP 0 rfl rfl 2 (by decide) (hts (.fieldLink RX2 21 "TraitHouse$Reader" "size" "I") (by decide +kernel)) (fun _ h9 => h9) rfl dX2_emit_15 ?_
    refine va_new (ci := 4) (fs := [.int 0, .int 0, .int 0, .int 0]) (C := RX4) (T := TX4) (N := 4) hx hb hts hIX4 tyX4 tyX4_ok hown (hts (.classLink RX2 9 RX4) (by decide +kernel)) (hts (.instantiable RX4 4) (by decide +kernel)) (hts (.initialized RX4) (by decide +kernel)) hK hP hD hS hA rfl (fun j hj => by rcases (show j = 0 ∨ j = 1 ∨ j = 2 ∨ j = 3 by omega) with rfl | rfl | rfl | rfl <;> rfl) (show 0 + 1 ≤ (200 - xSz.toInt).toNat by omega) (show 0 + 4 ≤ (4 * (200 - xSz.toInt).toNat) by omega) dX2_emit_18 (fun q_2 H hP hD hS => ?_)
    replace hP : va_P (dC, dI) vwCl (([((ax 13), .inr (2, [.ref (ax 11), .ref (ax 14), .int xSz, .int xPl, .int xBe, .int xRt, .int xRf, .int xRd, .int xLk])), ((ax 11), .inr (5, [.ref (ax 12), .int xTz])), ((ax 12), .inl (cA 0, 200, .inl gB)), ((ax 14), .inl (cA 4, 200, .inr (.inr (.inr (.inr gSt))))), (q_2, .inr (4, [.int 0, .int 0, .int 0, .int 0]))] : va_W) ++ va_pl ([]) pfz) H := hP
    replace hD : va_D A (([((ax 13), .inr (2, [.ref (ax 11), .ref (ax 14), .int xSz, .int xPl, .int xBe, .int xRt, .int xRf, .int xRd, .int xLk])), ((ax 11), .inr (5, [.ref (ax 12), .int xTz])), ((ax 12), .inl (cA 0, 200, .inl gB)), ((ax 14), .inl (cA 4, 200, .inr (.inr (.inr (.inr gSt))))), (q_2, .inr (4, [.int 0, .int 0, .int 0, .int 0]))] : va_W) ++ va_pl ([]) pfz) := hD
    refine W.widen (k := 1) (n := 4) (Nat.le_of_ble_eq_true rfl) (Nat.le_of_ble_eq_true rfl) ?_
    refine lv_dup hx hb dX2_emit_21 rfl ?_
    refine lv_iload_n hx hb dX2_emit_22 rfl (lv_at hl 1 rfl) ?_
    refine lv_iload_n hx hb dX2_emit_23 rfl (lv_at hl 2 rfl) ?_
    refine lv_iload_n hx hb dX2_emit_24 rfl (lv_at hl 3 rfl) ?_
    refine lv_iload hx hb dX2_emit_25 (lv_at hl 4 rfl) ?_
    have hk_3 : (0 : Int32).toInt = 0 := by decide
    obtain ⟨hPc, hDc, hFc, hCc⟩ := va_pre (ws' := [(q_2, .inr (4, [.int 0, .int 0, .int 0, .int 0]))]) hP hD hS hA [4] (by decide) rfl
    refine va_callv (va_runIN (As := [.int kd, .int nb, .int fr, .int to]) (rest := [.ref q_2, .int xSz, .ref (ax 14)]) ⟨hx, hb, hml, hown, hts⟩ (k_X4_init l dC dI cA H.size 0 0 0 0 q_2 kd nb fr to ) ⟨(va_cnB 4 hts gX2_emit_X4_init_n139 rfl rfl rfl (nw_at hN 46 rfl) (hts (.initialized RX4) (by decide +kernel)) (by decide +kernel) ⟨(show 1 + 1 ≤ 2 by omega), (show 8 + (5 + 11) + 20 ≤ 44 by omega)⟩), rfl, (hts (.instanceMethod yX4_init) (by decide +kernel))⟩ ⟨fun a U g mk q => by obtain ⟨q0, q1, qP, qK, qD, qN⟩ := q; exact ⟨q0, q1, qP, va_K.moved (u := U) (U := U.calling g mk a) (Vm.Alike.refl U.vm) qK, qD, qN.same rfl⟩, fun U hU hW => ⟨rfl, by rw [hU], by rw [hU]; exact hPc, va_K.moved hW.alike hK, hDc.weaken (fun _ _ _ _ => trivial), hN.warm hW⟩⟩ rfl rfl hl.1 rfl (lv_room (Nat.le_of_ble_eq_true rfl)) dX2_emit_27 ⟨(show 1 + 0 ≤ (200 - xSz.toInt).toNat by omega), (show 4 + 0 ≤ (4 * (200 - xSz.toInt).toNat) by omega)⟩) hS (fun q _ h => hFc q h) hFc (fun u_4 t H1 locs ht hvm hw_5 hB hz1 hk1 hS => ?_)
    obtain ⟨w_6, w_7, w_8, w_9⟩ := u_4
    try dsimp only at hw_5 hB
    have po_10 := hw_5
    clear hw_5
    obtain ⟨hP1, hD1⟩ := hB
    rw [ht] at hP1
    obtain ⟨hP, hD⟩ := va_joinQ (wr := [((ax 13), .inr (2, [.ref (ax 11), .ref (ax 14), .int xSz, .int xPl, .int xBe, .int xRt, .int xRf, .int xRd, .int xLk])), ((ax 11), .inr (5, [.ref (ax 12), .int xTz])), ((ax 12), .inl (cA 0, 200, .inl gB)), ((ax 14), .inl (cA 4, 200, .inr (.inr (.inr (.inr gSt)))))]) (w1 := [(q_2, .inr (4, [.int w_6, .int w_7, .int w_8, .int w_9]))]) hP hD [4] [0, 1, 2, 3] rfl rfl (by decide) (by decide) hk1 hFc hP1 hD1
    clear hz1
    obtain ⟨rfl, rfl, rfl, rfl⟩ := po_10
    generalize H1 = H at hP hS ⊢
    replace hP : va_P (dC, dI) vwCl (([((ax 13), .inr (2, [.ref (ax 11), .ref (ax 14), .int xSz, .int xPl, .int xBe, .int xRt, .int xRf, .int xRd, .int xLk])), ((ax 11), .inr (5, [.ref (ax 12), .int xTz])), ((ax 12), .inl (cA 0, 200, .inl gB)), ((ax 14), .inl (cA 4, 200, .inr (.inr (.inr (.inr gSt))))), (q_2, .inr (4, [.int kd, .int nb, .int fr, .int to]))] : va_W) ++ va_pl ([]) pfz) H := hP
    replace hD : va_D A (([((ax 13), .inr (2, [.ref (ax 11), .ref (ax 14), .int xSz, .int xPl, .int xBe, .int xRt, .int xRf, .int xRd, .int xLk])), ((ax 11), .inr (5, [.ref (ax 12), .int xTz])), ((ax 12), .inl (cA 0, 200, .inl gB)), ((ax 14), .inl (cA 4, 200, .inr (.inr (.inr (.inr gSt))))), (q_2, .inr (4, [.int kd, .int nb, .int fr, .int to]))] : va_W) ++ va_pl ([]) pfz) := hD
    have h_11 : vp_in xSz 200 := (vp_in_iff.mpr ⟨by omega, by omega⟩)
    refine va_astq (r := (RX4, TX4, 4)) hx hb hK hP hD hS 3 4 4 4 rfl rfl rfl rfl h_11 dX2_emit_30 (fun H locs hP hD hS => ?_)
    replace hP : va_P (dC, dI) vwCl (([((ax 13), .inr (2, [.ref (ax 11), .ref (ax 14), .int xSz, .int xPl, .int xBe, .int xRt, .int xRf, .int xRd, .int xLk])), ((ax 11), .inr (5, [.ref (ax 12), .int xTz])), ((ax 12), .inl (cA 0, 200, .inl gB)), ((ax 14), .inl (cA 4, 200, .inr (.inr (.inr (.inr (va_up gSt xSz.toNatClampNeg (some q_2))))))), (q_2, .inr (4, [.int kd, .int nb, .int fr, .int to]))] : va_W) ++ va_pl ([]) pfz) H := hP
    replace hD : va_D A (([((ax 13), .inr (2, [.ref (ax 11), .ref (ax 14), .int xSz, .int xPl, .int xBe, .int xRt, .int xRf, .int xRd, .int xLk])), ((ax 11), .inr (5, [.ref (ax 12), .int xTz])), ((ax 12), .inl (cA 0, 200, .inl gB)), ((ax 14), .inl (cA 4, 200, .inr (.inr (.inr (.inr (va_up gSt xSz.toNatClampNeg (some q_2))))))), (q_2, .inr (4, [.int kd, .int nb, .int fr, .int to]))] : va_W) ++ va_pl ([]) pfz) := hD
    obtain ⟨g_12, eg_12⟩ : ∃ g : Nat → Option Nat, g = va_up gSt xSz.toNatClampNeg (some q_2) := ⟨_, rfl⟩
    rw [← eg_12] at hP hD
    refine lv_aload_n hx hb dX2_emit_31 rfl (lv_at hl 0 rfl) ?_
    refine lv_dup hx hb dX2_emit_32 rfl ?_
    refine va_get (D := (dC, dI)) (ci := 2) (v := .int xSz) (C := RX2) (T := TX2) (N := 9) hx hb hts hIX2 hown hK hP 0 rfl rfl 2 (by decide) (hts (.fieldLink RX2 21 "TraitHouse$Reader" "size" "I") (by decide +kernel)) (fun _ h9 => h9) rfl dX2_emit_33 ?_
    refine lv_iconst (v := 1) hx hb dX2_emit_36 (by decide) ?_
    refine lv_iadd hx hb dX2_emit_37 ?_
    refine lv_topi (fun x_13 ex_13 => ?_)
    have dx_13 : x_13.toInt = xSz.toInt + 1 := by rw [ex_13]; exact jI_add rfl (by decide) (by omega) (by omega)
    refine va_put (D := (dC, dI)) (ci := 2) (v := .int x_13) (ty := .int) (C := RX2) (T := TX2) (N := 9) hx hb hts hIX2 tyX2 tyX2_ok nmX2 hown hK hP hD hS 0 rfl rfl 2 (by decide) (hts (.fieldLink RX2 21 "TraitHouse$Reader" "size" "I") (by decide +kernel)) (fun _ h9 => h9) rfl (by decide +kernel) rfl rfl (Nat.le_of_ble_eq_true rfl) dX2_emit_38 (fun H locs hP hD hS => ?_)
    replace hP : va_P (dC, dI) vwCl (([((ax 13), .inr (2, [.ref (ax 11), .ref (ax 14), .int x_13, .int xPl, .int xBe, .int xRt, .int xRf, .int xRd, .int xLk])), ((ax 11), .inr (5, [.ref (ax 12), .int xTz])), ((ax 12), .inl (cA 0, 200, .inl gB)), ((ax 14), .inl (cA 4, 200, .inr (.inr (.inr (.inr g_12))))), (q_2, .inr (4, [.int kd, .int nb, .int fr, .int to]))] : va_W) ++ va_pl ([]) pfz) H := hP
    replace hD : va_D A (([((ax 13), .inr (2, [.ref (ax 11), .ref (ax 14), .int x_13, .int xPl, .int xBe, .int xRt, .int xRf, .int xRd, .int xLk])), ((ax 11), .inr (5, [.ref (ax 12), .int xTz])), ((ax 12), .inl (cA 0, 200, .inl gB)), ((ax 14), .inl (cA 4, 200, .inr (.inr (.inr (.inr g_12))))), (q_2, .inr (4, [.int kd, .int nb, .int fr, .int to]))] : va_W) ++ va_pl ([]) pfz) := hD
    replace hP : va_P (dC, dI) vwCl (([((ax 13), .inr (2, [.ref (ax 11), .ref (ax 14), .int x_13, .int xPl, .int xBe, .int xRt, .int xRf, .int xRd, .int xLk])), ((ax 11), .inr (5, [.ref (ax 12), .int xTz])), ((ax 12), .inl (cA 0, 200, .inl gB)), ((ax 14), .inl (cA 4, 200, .inr (.inr (.inr (.inr g_12)))))] : va_W) ++ va_pl ([q_2]) (fun _ => .inr (4, [.int kd, .int nb, .int fr, .int to]))) H := hP.sub [0, 1, 2, 3, 4] rfl
    replace hD : va_D A (([((ax 13), .inr (2, [.ref (ax 11), .ref (ax 14), .int x_13, .int xPl, .int xBe, .int xRt, .int xRf, .int xRd, .int xLk])), ((ax 11), .inr (5, [.ref (ax 12), .int xTz])), ((ax 12), .inl (cA 0, 200, .inl gB)), ((ax 14), .inl (cA 4, 200, .inr (.inr (.inr (.inr g_12)))))] : va_W) ++ va_pl ([q_2]) (fun _ => .inr (4, [.int kd, .int nb, .int fr, .int to]))) := hD.sub [0, 1, 2, 3, 4] (by decide) rfl
    have hP9 := hP.part (cx := [((ax 13), .inr (2, [.ref (ax 11), .ref (ax 14), .int x_13, .int xPl, .int xBe, .int xRt, .int xRf, .int xRd, .int xLk])), ((ax 11), .inr (5, [.ref (ax 12), .int xTz])), ((ax 12), .inl (cA 0, 200, .inl gB)), ((ax 14), .inl (cA 4, 200, .inr (.inr (.inr (.inr g_12)))))]) [0, 1, 2, 3] rfl
    have hD9 := hD.part (cx := [((ax 13), .inr (2, [.ref (ax 11), .ref (ax 14), .int x_13, .int xPl, .int xBe, .int xRt, .int xRf, .int xRd, .int xLk])), ((ax 11), .inr (5, [.ref (ax 12), .int xTz])), ((ax 12), .inl (cA 0, 200, .inl gB)), ((ax 14), .inl (cA 4, 200, .inr (.inr (.inr (.inr g_12)))))]) [0, 1, 2, 3] (by decide) rfl
    refine W.know (fun hkn1 hkn2 => ?_)
    have hBx : H.size ≤ s.heap.size + (x_13.toInt - xSz.toInt).toNat ∧ ssum s.heap.size H ≤ 4 * (x_13.toInt - xSz.toInt).toNat := ⟨by omega, by omega⟩
    subst hQe
    refine W.widen (k := (200 - xSz.toInt).toNat) (n := (4 * (200 - xSz.toInt).toNat)) (by omega) (by omega) ?_
    have hpost : (0 ≤ x_13.toInt ∧ x_13.toInt ≤ 200) ∧ (stq xSz.toInt x_13.toInt gSt g_12 ([q_2]) (fun _ => .inr (4, [.int kd, .int nb, .int fr, .int to]))) := ⟨by omega, stq_1 (by omega) rfl (by omega) eg_12 hsk⟩
    exact W.vret hx hb hr (fun t ht hW => ⟨⟨(x_13, g_12, [q_2], (fun _ => .inr (4, [.int kd, .int nb, .int fr, .int to]))), rfl, hpost, by rw [ht]; exact hP9, hD9, by rw [ht]; exact hBx⟩, hS.F ht⟩) hS.2.2 dX2_emit_41

theorem xrn_0 {g : Int → Int} {z mx p e lk : Int} {rd : Int32} {P : Prop} {d : Decidable P} {X : RS} (hk : ¬ P) (h : X = pnum g z mx p e (fun v p e => .inr (p, e, lk, @ite Int32 P d (rd ||| bti v) rd))) : X = pnum g z mx p e (fun _ p e => .inr (p, e, lk, rd)) := by
  rw [h]
  simp only [if_neg hk]
theorem xrn_1 {g : Int → Int} {z mx p e lk : Int} {rd : Int32} {P : Prop} {d : Decidable P} {X : RS} (hk : P) (h : X = pnum g z mx p e (fun v p e => .inr (p, e, lk, @ite Int32 P d (rd ||| bti v) rd))) : X = pnum g z mx p e (fun v p e => .inr (p, e, lk, rd ||| bti v)) := by
  rw [h]
  simp only [if_pos hk]

set_option maxHeartbeats 8000000 in
set_option maxRecDepth 100000 in
theorem k_X2_readNumbered (l : Launch) (dC : Nat → ClassId) (dI : Nat → Nat → Nat) (cA : Nat → ClassId) (sz : Nat) (ax : Nat → Nat) (xSz : Int32) (xPl : Int32) (xBe : Int32) (xRt : Int32) (xRf : Int32) (xRd : Int32) (xLk : Int32) (xTz : Int32) (gB : Nat → Int32) (gSt : Nat → Option Nat) (kd : Int32) (mx : Int32) (adK : Nat → Nat) (adV : Nat → Nat) (i_xSz : 0 ≤ xSz.toInt ∧ xSz.toInt ≤ 200) (i_xPl : 0 ≤ xPl.toInt ∧ xPl.toInt ≤ 200) (i_xBe : 0 ≤ xBe.toInt ∧ xBe.toInt ≤ 200) (i_xRt : 0 ≤ xRt.toInt ∧ xRt.toInt ≤ 20) (i_xTz : 0 ≤ xTz.toInt ∧ xTz.toInt ≤ 200) (i_gB : inB 0 255 200 gB) (hbe : xPl.toInt ≤ xBe.toInt ∧ xBe.toInt ≤ xTz.toInt) (htk : tokOK gB xPl xBe xTz) (hgx : xRf.toInt = (-1)) (hmx : (-1) ≤ mx.toInt ∧ mx.toInt ≤ 1000000) (hk1 : kd.toInt = 1 → mx.toInt ≤ 19) : Met l yX2_readNumbered wsX2_readNumbered ({ frames := 3, cells := (200 - xSz.toInt).toNat, slots := (4 * (200 - xSz.toInt).toNat), locals := 68 }) (va_Pc [.ref (ax 13), .int kd, .int mx] (fun U => U.heap.size = sz ∧ va_P (dC, dI) vwCl [((ax 13), .inr (2, [.ref (ax 11), .ref (ax 14), .int xSz, .int xPl, .int xBe, .int xRt, .int xRf, .int xRd, .int xLk])), ((ax 11), .inr (5, [.ref (ax 12), .int xTz])), ((ax 12), .inl (cA 0, 200, .inl gB)), ((ax 14), .inl (cA 4, 200, .inr (.inr (.inr (.inr gSt)))))] U.heap ∧ va_K (dC, dI) vwCl (tyL cA) U ∧ va_D (fun _ => True) [((ax 13), .inr (2, [.ref (ax 11), .ref (ax 14), .int xSz, .int xPl, .int xBe, .int xRt, .int xRf, .int xRd, .int xLk])), ((ax 11), .inr (5, [.ref (ax 12), .int xTz])), ((ax 12), .inl (cA 0, 200, .inl gB)), ((ax 14), .inl (cA 4, 200, .inr (.inr (.inr (.inr gSt)))))] ∧ st_ok adK adV (va_A [((ax 13), .inr (2, [.ref (ax 11), .ref (ax 14), .int xSz, .int xPl, .int xBe, .int xRt, .int xRf, .int xRd, .int xLk])), ((ax 11), .inr (5, [.ref (ax 12), .int xTz])), ((ax 12), .inl (cA 0, 200, .inl gB)), ((ax 14), .inl (cA 4, 200, .inr (.inr (.inr (.inr gSt)))))] sz) U)) (va_Qi (fun (r : Int32) (u : Int32 × Int32 × Int32 × Int32 × Int32 × Int32 × (Nat → Option Nat) × (List Nat) × (Nat → va_E)) => (0 ≤ u.1.toInt ∧ u.1.toInt ≤ 200) ∧ (0 ≤ u.2.1.toInt ∧ u.2.1.toInt ≤ 200) ∧ (0 ≤ u.2.2.1.toInt ∧ u.2.2.1.toInt ≤ 200) ∧ (u.2.1.toInt ≤ u.2.2.1.toInt ∧ u.2.2.1.toInt ≤ xTz.toInt ∧ (0 ≤ r.toInt ∧ r.toInt ≤ 1)) ∧ (tokOK gB u.2.1 u.2.2.1 xTz) ∧ (stq xSz.toInt u.1.toInt gSt u.2.2.2.2.2.2.1 u.2.2.2.2.2.2.2.1 u.2.2.2.2.2.2.2.2) ∧ (rs u.2.2.2.1 u.2.1 u.2.2.1 u.2.2.2.2.2.1 u.2.2.2.2.1 = pnum (tpe gB xTz) xTz.toInt mx.toInt xPl.toInt xBe.toInt (fun v p e => .inr (p, e, xLk.toInt, if kd.toInt = 1 then xRd ||| bti v else xRd))) ∧ ((¬ r.toInt = 0 → u.2.2.2.1.toInt = (-1)) ∧ (r.toInt = 0 → 0 ≤ u.2.2.2.1.toInt))) (fun (u : Int32 × Int32 × Int32 × Int32 × Int32 × Int32 × (Nat → Option Nat) × (List Nat) × (Nat → va_E)) (t : State) => va_P (dC, dI) vwCl (([((ax 13), .inr (2, [.ref (ax 11), .ref (ax 14), .int u.1, .int u.2.1, .int u.2.2.1, .int xRt, .int u.2.2.2.1, .int u.2.2.2.2.1, .int u.2.2.2.2.2.1])), ((ax 11), .inr (5, [.ref (ax 12), .int xTz])), ((ax 12), .inl (cA 0, 200, .inl gB)), ((ax 14), .inl (cA 4, 200, .inr (.inr (.inr (.inr u.2.2.2.2.2.2.1)))))] : va_W) ++ va_pl u.2.2.2.2.2.2.2.1 u.2.2.2.2.2.2.2.2) t.heap ∧ va_D (va_A [((ax 13), .inr (2, [.ref (ax 11), .ref (ax 14), .int xSz, .int xPl, .int xBe, .int xRt, .int xRf, .int xRd, .int xLk])), ((ax 11), .inr (5, [.ref (ax 12), .int xTz])), ((ax 12), .inl (cA 0, 200, .inl gB)), ((ax 14), .inl (cA 4, 200, .inr (.inr (.inr (.inr gSt)))))] sz) (([((ax 13), .inr (2, [.ref (ax 11), .ref (ax 14), .int u.1, .int u.2.1, .int u.2.2.1, .int xRt, .int u.2.2.2.1, .int u.2.2.2.2.1, .int u.2.2.2.2.2.1])), ((ax 11), .inr (5, [.ref (ax 12), .int xTz])), ((ax 12), .inl (cA 0, 200, .inl gB)), ((ax 14), .inl (cA 4, 200, .inr (.inr (.inr (.inr u.2.2.2.2.2.2.1)))))] : va_W) ++ va_pl u.2.2.2.2.2.2.2.1 u.2.2.2.2.2.2.2.2) ∧ (t.heap.size ≤ sz + (u.1.toInt - xSz.toInt).toNat ∧ ssum sz t.heap ≤ 4 * (u.1.toInt - xSz.toInt).toNat)) (va_A [((ax 13), .inr (2, [.ref (ax 11), .ref (ax 14), .int xSz, .int xPl, .int xBe, .int xRt, .int xRf, .int xRd, .int xLk])), ((ax 11), .inr (5, [.ref (ax 12), .int xTz])), ((ax 12), .inl (cA 0, 200, .inl gB)), ((ax 14), .inl (cA 4, 200, .inr (.inr (.inr (.inr gSt)))))] sz)) ((200 - xSz.toInt).toNat) (4 * (200 - xSz.toInt).toNat) (va_A [((ax 13), .inr (2, [.ref (ax 11), .ref (ax 14), .int xSz, .int xPl, .int xBe, .int xRt, .int xRf, .int xRd, .int xLk])), ((ax 11), .inr (5, [.ref (ax 12), .int xTz])), ((ax 12), .inl (cA 0, 200, .inl gB)), ((ax 14), .inl (cA 4, 200, .inr (.inr (.inr (.inr gSt)))))] sz) := by
  refine Met.ofW (cc := cX2_readNumbered) (maxL := 4) (ret := (some .boolean)) (by decide) rfl ?_
  intro p e s m args below meth c s₁ B hml hv
  obtain ⟨rfl, hsz, hP, hK, hD0, hN⟩ := hv
  have hx := B.exec
  have hb := B.bytes
  have hr := B.returns
  have hts := atoms_spec (ws := wsX2_readNumbered) B.pre
  have hown : s.vm.findClass RX2 = some m.cls := findClass_of_methodNamed B.named
  have hlocks := B.notSynchronized
  subst hsz
  have hD := hD0.self (sz := s.heap.size)
  generalize hAe : va_A [((ax 13), .inr (2, [.ref (ax 11), .ref (ax 14), .int xSz, .int xPl, .int xBe, .int xRt, .int xRf, .int xRd, .int xLk])), ((ax 11), .inr (5, [.ref (ax 12), .int xTz])), ((ax 12), .inl (cA 0, 200, .inl gB)), ((ax 14), .inl (cA 4, 200, .inr (.inr (.inr (.inr gSt)))))] s.heap.size = A at hD hN ⊢
  have hSt := hN
  have hN := hSt.1
  have hA : ∀ q : Nat, s.heap.size ≤ q → A q := fun q h => by rw [← hAe]; exact Or.inr h
  have hS : va_S A s.heap s.heap [] := va_S.rf
  have hlt0 : (ax 13) < s.heap.size := (hP 0 _ rfl).lt
  have hlt1 : (ax 11) < s.heap.size := (hP 1 _ rfl).lt
  have hlt2 : (ax 12) < s.heap.size := (hP 2 _ rfl).lt
  have hlt3 : (ax 14) < s.heap.size := (hP 3 _ rfl).lt
  obtain ⟨pfz, hpfz⟩ : ∃ f : Nat → va_E, f = fun _ => .inr (0, []) := ⟨_, rfl⟩
  replace hP : va_P (dC, dI) vwCl (([((ax 13), .inr (2, [.ref (ax 11), .ref (ax 14), .int xSz, .int xPl, .int xBe, .int xRt, .int xRf, .int xRd, .int xLk])), ((ax 11), .inr (5, [.ref (ax 12), .int xTz])), ((ax 12), .inl (cA 0, 200, .inl gB)), ((ax 14), .inl (cA 4, 200, .inr (.inr (.inr (.inr gSt)))))] : va_W) ++ va_pl ([]) pfz) s.heap := hP
  replace hD : va_D A (([((ax 13), .inr (2, [.ref (ax 11), .ref (ax 14), .int xSz, .int xPl, .int xBe, .int xRt, .int xRf, .int xRd, .int xLk])), ((ax 11), .inr (5, [.ref (ax 12), .int xTz])), ((ax 12), .inl (cA 0, 200, .inl gB)), ((ax 14), .inl (cA 4, 200, .inr (.inr (.inr (.inr gSt)))))] : va_W) ++ va_pl ([]) pfz) := hD
  have hIX2 : ∀ w ∈ u_ws RX2 TX2 9, w ∈ wsX2_readNumbered := by decide +kernel
  have hl := lv_entry ([.ref (ax 13), .int kd, .int mx]) (n := 4) (Nat.le_of_ble_eq_true rfl)
  rw [lg_entry_eq]
  generalize (lg_sl ([.ref (ax 13), .int kd, .int mx]) ++ List.replicate (4 - (lg_sl ([.ref (ax 13), .int kd, .int mx])).length) Slot.unset).toArray = ls at hl ⊢
  have hl : lv_has ls 4 [(0, .ref (ax 13)), (1, .int kd), (2, .int mx)] := hl
  generalize hQe : MQ below _ _ _ _ _ _ = QQ
  refine lv_aload_n hx hb dX2_readNumbered_0 rfl (lv_at hl 0 rfl) ?_
  refine lv_iload_n hx hb dX2_readNumbered_1 rfl (lv_at hl 2 rfl) ?_
  obtain ⟨hPc, hDc, hFc, hCc⟩ := va_pre (ws' := [((ax 13), .inr (2, [.ref (ax 11), .ref (ax 14), .int xSz, .int xPl, .int xBe, .int xRt, .int xRf, .int xRd, .int xLk])), ((ax 11), .inr (5, [.ref (ax 12), .int xTz])), ((ax 12), .inl (cA 0, 200, .inl gB))]) hP hD hS hA [0, 1, 2] (by decide) rfl
  refine va_calli (va_runV (As := [.int mx]) (rest := []) ⟨hx, hb, hml, hown, hts⟩ (k_X2_takeNumber l dC dI cA s.heap.size ax xSz xPl xBe xRt xRf xRd xLk xTz gB mx i_xSz i_xPl i_xBe i_xRt i_xTz i_gB hbe htk hmx) (cwV 1 hts gX2_readNumbered_X2_takeNumber rfl rfl rfl (by decide +kernel) ⟨(show 2 + 1 ≤ 3 by omega), (show 8 + (4 + 11) + 45 ≤ 68 by omega)⟩) ⟨fun a U g mk q => by obtain ⟨q0, q1, qP, qK, qD, qN⟩ := q; exact ⟨q0, q1, qP, va_K.moved (u := U) (U := U.calling g mk a) (Vm.Alike.refl U.vm) qK, qD, qN.same rfl⟩, va_recv hK hPc (ci := 2) (q0 := 0) rfl rfl, fun U hU hW => ⟨rfl, by rw [hU], by rw [hU]; exact hPc, va_K.moved hW.alike hK, hDc.weaken (fun _ _ _ _ => trivial), hN.warm hW⟩⟩ rfl rfl hl.1 rfl (lv_room (Nat.le_of_ble_eq_true rfl)) dX2_readNumbered_2 ⟨(show 0 + 0 ≤ (200 - xSz.toInt).toNat by omega), (show 0 + 0 ≤ (4 * (200 - xSz.toInt).toNat) by omega)⟩) hS (fun q _ h => hFc q h) hFc (fun r_1 u_2 t H1 locs ht hvm hw_3 hB hz1 hk1 hS => ?_)
  obtain ⟨w_4, w_5, w_6⟩ := u_2
  try dsimp only at hw_3 hB
  obtain ⟨iv_7, iv_8, po_9, tk_10, nm_11, rf_12⟩ := hw_3
  obtain ⟨hP1, hD1⟩ := hB
  rw [ht] at hP1
  obtain ⟨hP, hD⟩ := va_joinQ (wr := [((ax 14), .inl (cA 4, 200, .inr (.inr (.inr (.inr gSt)))))]) (w1 := [((ax 13), .inr (2, [.ref (ax 11), .ref (ax 14), .int xSz, .int w_4, .int w_5, .int xRt, .int w_6, .int xRd, .int xLk])), ((ax 11), .inr (5, [.ref (ax 12), .int xTz])), ((ax 12), .inl (cA 0, 200, .inl gB))]) hP hD [0, 1, 2] [3] rfl rfl (by decide) (by decide) hk1 hFc hP1 hD1
  clear hz1
  generalize H1 = H at hP hS ⊢
  replace hP : va_P (dC, dI) vwCl (([((ax 14), .inl (cA 4, 200, .inr (.inr (.inr (.inr gSt))))), ((ax 13), .inr (2, [.ref (ax 11), .ref (ax 14), .int xSz, .int w_4, .int w_5, .int xRt, .int w_6, .int xRd, .int xLk])), ((ax 11), .inr (5, [.ref (ax 12), .int xTz])), ((ax 12), .inl (cA 0, 200, .inl gB))] : va_W) ++ va_pl ([]) pfz) H := hP
  replace hD : va_D A (([((ax 14), .inl (cA 4, 200, .inr (.inr (.inr (.inr gSt))))), ((ax 13), .inr (2, [.ref (ax 11), .ref (ax 14), .int xSz, .int w_4, .int w_5, .int xRt, .int w_6, .int xRd, .int xLk])), ((ax 11), .inr (5, [.ref (ax 12), .int xTz])), ((ax 12), .inl (cA 0, 200, .inl gB))] : va_W) ++ va_pl ([]) pfz) := hD
  refine lv_istore_n (lv' := [(3, .int r_1), (0, .ref (ax 13)), (1, .int kd), (2, .int mx)]) hx hb dX2_readNumbered_5 rfl hl (by decide) rfl (fun ls hl => ?_)
  refine lv_iload_n hx hb dX2_readNumbered_6 rfl (lv_at hl 0 rfl) ?_
  refine lv_iconst (v := (-1)) hx hb dX2_readNumbered_7 (by decide) ?_
  refine lv_icmp_ne (tgt := 13) hx hb dX2_readNumbered_8 (by decide) (fun c_13 => ?_) (fun c_13 => ?_)
  · have dc_13 : ¬ r_1.toInt = (-1) := jI_ne c_13 rfl (by decide)
    refine lv_iload_n hx hb dX2_readNumbered_13 rfl (lv_at hl 2 rfl) ?_
    refine lv_iconst (v := 1) hx hb dX2_readNumbered_14 (by decide) ?_
    refine lv_icmp_ne (tgt := 30) hx hb dX2_readNumbered_15 (by decide) (fun c_14 => ?_) (fun c_14 => ?_)
    · have dc_14 : ¬ kd.toInt = 1 := jI_ne c_14 rfl (by decide)
      refine lv_aload_n hx hb dX2_readNumbered_30 rfl (lv_at hl 1 rfl) ?_
      refine lv_iload_n hx hb dX2_readNumbered_31 rfl (lv_at hl 2 rfl) ?_
      refine lv_iload_n hx hb dX2_readNumbered_32 rfl (lv_at hl 0 rfl) ?_
      refine lv_iconst (v := (-1)) hx hb dX2_readNumbered_33 (by decide) ?_
      refine lv_iconst (v := (-1)) hx hb dX2_readNumbered_34 (by decide) ?_
      have hk_15 : ((-1) : Int32).toInt = (-1) := by decide
      obtain ⟨hPc, hDc, hFc, hCc⟩ := va_pre (ws' := [((ax 13), .inr (2, [.ref (ax 11), .ref (ax 14), .int xSz, .int w_4, .int w_5, .int xRt, .int w_6, .int xRd, .int xLk])), ((ax 11), .inr (5, [.ref (ax 12), .int xTz])), ((ax 12), .inl (cA 0, 200, .inl gB)), ((ax 14), .inl (cA 4, 200, .inr (.inr (.inr (.inr gSt)))))]) hP hD hS hA [1, 2, 3, 0] (by decide) rfl
      refine W.know (fun hkn1 hkn2 => ?_)
      have hS0 := hS.1
      refine va_callv (va_runV (As := [.int kd, .int r_1, .int (-1), .int (-1)]) (rest := []) ⟨hx, hb, hml, hown, hts⟩ (k_X2_emit l dC dI cA H.size ax xSz w_4 w_5 xRt w_6 xRd xLk xTz gB gSt kd r_1 (-1) (-1) i_xSz iv_7 iv_8 i_xRt i_xTz i_gB (by omega)) (cwV 4 hts gX2_readNumbered_X2_emit rfl rfl rfl (by decide +kernel) ⟨(show 2 + 1 ≤ 3 by omega), (show 8 + (5 + 11) + 44 ≤ 68 by omega)⟩) ⟨fun a U g mk q => by obtain ⟨q0, q1, qP, qK, qD, qN⟩ := q; exact ⟨q0, q1, qP, va_K.moved (u := U) (U := U.calling g mk a) (Vm.Alike.refl U.vm) qK, qD, qN.same rfl⟩, va_recv hK hPc (ci := 2) (q0 := 0) rfl rfl, fun U hU hW => ⟨rfl, by rw [hU], by rw [hU]; exact hPc, va_K.moved hW.alike hK, hDc.weaken (fun _ _ _ _ => trivial), hN.warm hW⟩⟩ rfl rfl hl.1 rfl (lv_room (Nat.le_of_ble_eq_true rfl)) dX2_readNumbered_35 ⟨(show 0 + ((200 - xSz.toInt).toNat) ≤ (200 - xSz.toInt).toNat by omega), (show 0 + (4 * (200 - xSz.toInt).toNat) ≤ (4 * (200 - xSz.toInt).toNat) by omega)⟩) hS (fun q _ h => hFc q h) hFc (fun u_16 t H1 locs ht hvm hw_17 hB hz1 hk1 hS => ?_)
      obtain ⟨w_18, w_19, w_20, w_21⟩ := u_16
      try dsimp only at hw_17 hB
      obtain ⟨iv_22, st_23⟩ := hw_17
      try simp only [hk_15] at st_23
      obtain ⟨hP1, hD1, hX1⟩ := hB
      rw [ht] at hP1 hX1
      obtain ⟨hP, hD⟩ := va_joinQ (wr := []) (w1 := ([((ax 13), .inr (2, [.ref (ax 11), .ref (ax 14), .int w_18, .int w_4, .int w_5, .int xRt, .int w_6, .int xRd, .int xLk])), ((ax 11), .inr (5, [.ref (ax 12), .int xTz])), ((ax 12), .inl (cA 0, 200, .inl gB)), ((ax 14), .inl (cA 4, 200, .inr (.inr (.inr (.inr w_19)))))] : va_W) ++ va_pl w_20 w_21) hP hD [1, 2, 3, 0] [] rfl rfl (by decide) (by decide) hk1 hFc hP1 hD1
      obtain ⟨fm_24, hma_fm_24, hmb_fm_24, hP, hD⟩ := pl_merge hP hD
      have sq_fm_24 := stq_tr stq_0 st_23 hma_fm_24 hmb_fm_24
      have hle_fm_24 := sq_fm_24.1
      have hlf_fm_24 := st_23.1
      refine W.tight (cells' := (w_18.toInt - xSz.toInt).toNat) (slots' := 4 * (w_18.toInt - xSz.toInt).toNat) (by omega) (by have hch := ssum_chain hS0 hz1 (fun q h1 h2 => hk1 q h2 (na_of (fun k e hk => by rcases mem4 hk with h | h | h | h <;> omega) h1 h2)); omega) ?_
      clear hz1
      generalize H1 = H at hP hS ⊢
      replace hP : va_P (dC, dI) vwCl (([((ax 13), .inr (2, [.ref (ax 11), .ref (ax 14), .int w_18, .int w_4, .int w_5, .int xRt, .int w_6, .int xRd, .int xLk])), ((ax 11), .inr (5, [.ref (ax 12), .int xTz])), ((ax 12), .inl (cA 0, 200, .inl gB)), ((ax 14), .inl (cA 4, 200, .inr (.inr (.inr (.inr w_19)))))] : va_W) ++ va_pl ([] ++ w_20) fm_24) H := hP
      replace hD : va_D A (([((ax 13), .inr (2, [.ref (ax 11), .ref (ax 14), .int w_18, .int w_4, .int w_5, .int xRt, .int w_6, .int xRd, .int xLk])), ((ax 11), .inr (5, [.ref (ax 12), .int xTz])), ((ax 12), .inl (cA 0, 200, .inl gB)), ((ax 14), .inl (cA 4, 200, .inr (.inr (.inr (.inr w_19)))))] : va_W) ++ va_pl ([] ++ w_20) fm_24) := hD
      refine lv_iconst (v := 1) hx hb dX2_readNumbered_38 (by decide) ?_
      have hP9 := hP.part (cx := [((ax 13), .inr (2, [.ref (ax 11), .ref (ax 14), .int w_18, .int w_4, .int w_5, .int xRt, .int w_6, .int xRd, .int xLk])), ((ax 11), .inr (5, [.ref (ax 12), .int xTz])), ((ax 12), .inl (cA 0, 200, .inl gB)), ((ax 14), .inl (cA 4, 200, .inr (.inr (.inr (.inr w_19)))))]) [0, 1, 2, 3] rfl
      have hD9 := hD.part (cx := [((ax 13), .inr (2, [.ref (ax 11), .ref (ax 14), .int w_18, .int w_4, .int w_5, .int xRt, .int w_6, .int xRd, .int xLk])), ((ax 11), .inr (5, [.ref (ax 12), .int xTz])), ((ax 12), .inl (cA 0, 200, .inl gB)), ((ax 14), .inl (cA 4, 200, .inr (.inr (.inr (.inr w_19)))))]) [0, 1, 2, 3] (by decide) rfl
      refine W.know (fun hkn1 hkn2 => ?_)
      have hBx : H.size ≤ s.heap.size + (w_18.toInt - xSz.toInt).toNat ∧ ssum s.heap.size H ≤ 4 * (w_18.toInt - xSz.toInt).toNat := ⟨by omega, by omega⟩
      subst hQe
      refine W.widen (k := (200 - xSz.toInt).toNat) (n := (4 * (200 - xSz.toInt).toNat)) (by omega) (by omega) ?_
      have hans : (1 : Int32).toInt = 1 := (by decide)
      have hpost : (0 ≤ w_18.toInt ∧ w_18.toInt ≤ 200) ∧ (0 ≤ w_4.toInt ∧ w_4.toInt ≤ 200) ∧ (0 ≤ w_5.toInt ∧ w_5.toInt ≤ 200) ∧ (w_4.toInt ≤ w_5.toInt ∧ w_5.toInt ≤ xTz.toInt ∧ (0 ≤ (1 : Int32).toInt ∧ (1 : Int32).toInt ≤ 1)) ∧ (tokOK gB w_4 w_5 xTz) ∧ (stq xSz.toInt w_18.toInt gSt w_19 ([] ++ w_20) fm_24) ∧ (rs w_6 w_4 w_5 xLk xRd = pnum (tpe gB xTz) xTz.toInt mx.toInt xPl.toInt xBe.toInt (fun v p e => .inr (p, e, xLk.toInt, if kd.toInt = 1 then xRd ||| bti v else xRd))) ∧ ((¬ (1 : Int32).toInt = 0 → w_6.toInt = (-1)) ∧ ((1 : Int32).toInt = 0 → 0 ≤ w_6.toInt)) := ⟨iv_22, iv_7, iv_8, by omega, tk_10, sq_fm_24, (by rw [nm_ok nm_11 (by omega)]; exact rs_inr (by omega) rfl rfl rfl (by rw [if_neg (show ¬ kd.toInt = 1 by omega)])), by omega⟩
      exact W.zret (v := 1) hx hb hr (by decide) (fun t ht hW => ⟨⟨1, (w_18, w_4, w_5, w_6, xRd, xLk, w_19, ([] ++ w_20), fm_24), rfl, hpost, by rw [ht]; exact hP9, hD9, by rw [ht]; exact hBx⟩, hS.F ht⟩) hS.2.2 dX2_readNumbered_39
    · have dc_14 : kd.toInt = 1 := jI_eq c_14 rfl (by decide)
      refine lv_aload_n hx hb dX2_readNumbered_18 rfl (lv_at hl 1 rfl) ?_
      refine lv_dup hx hb dX2_readNumbered_19 rfl ?_
      refine va_get (D := (dC, dI)) (ci := 2) (v := .int xRd) (C := RX2) (T := TX2) (N := 9) hx hb hts hIX2 hown hK hP 1 rfl rfl 7 (by decide) (hts (.fieldLink RX2 34 "TraitHouse$Reader" "reads" "I") (by decide +kernel)) (fun _ h9 => h9) rfl dX2_readNumbered_20 ?_
      refine lv_iconst (v := 1) hx hb dX2_readNumbered_23 (by decide) ?_
      refine lv_iload_n hx hb dX2_readNumbered_24 rfl (lv_at hl 0 rfl) ?_
      refine lv_ishl hx hb dX2_readNumbered_25 ?_
      refine lv_topi (fun x_25 ex_25 => ?_)
      refine lv_ior hx hb dX2_readNumbered_26 ?_
      refine lv_topi (fun x_26 ex_26 => ?_)
      refine va_put (D := (dC, dI)) (ci := 2) (v := .int x_26) (ty := .int) (C := RX2) (T := TX2) (N := 9) hx hb hts hIX2 tyX2 tyX2_ok nmX2 hown hK hP hD hS 1 rfl rfl 7 (by decide) (hts (.fieldLink RX2 34 "TraitHouse$Reader" "reads" "I") (by decide +kernel)) (fun _ h9 => h9) rfl (by decide +kernel) rfl rfl (Nat.le_of_ble_eq_true rfl) dX2_readNumbered_27 (fun H locs hP hD hS => ?_)
      replace hP : va_P (dC, dI) vwCl (([((ax 14), .inl (cA 4, 200, .inr (.inr (.inr (.inr gSt))))), ((ax 13), .inr (2, [.ref (ax 11), .ref (ax 14), .int xSz, .int w_4, .int w_5, .int xRt, .int w_6, .int x_26, .int xLk])), ((ax 11), .inr (5, [.ref (ax 12), .int xTz])), ((ax 12), .inl (cA 0, 200, .inl gB))] : va_W) ++ va_pl ([]) pfz) H := hP
      replace hD : va_D A (([((ax 14), .inl (cA 4, 200, .inr (.inr (.inr (.inr gSt))))), ((ax 13), .inr (2, [.ref (ax 11), .ref (ax 14), .int xSz, .int w_4, .int w_5, .int xRt, .int w_6, .int x_26, .int xLk])), ((ax 11), .inr (5, [.ref (ax 12), .int xTz])), ((ax 12), .inl (cA 0, 200, .inl gB))] : va_W) ++ va_pl ([]) pfz) := hD
      refine lv_aload_n hx hb dX2_readNumbered_30 rfl (lv_at hl 1 rfl) ?_
      refine lv_iload_n hx hb dX2_readNumbered_31 rfl (lv_at hl 2 rfl) ?_
      refine lv_iload_n hx hb dX2_readNumbered_32 rfl (lv_at hl 0 rfl) ?_
      refine lv_iconst (v := (-1)) hx hb dX2_readNumbered_33 (by decide) ?_
      refine lv_iconst (v := (-1)) hx hb dX2_readNumbered_34 (by decide) ?_
      have hk_27 : ((-1) : Int32).toInt = (-1) := by decide
      obtain ⟨hPc, hDc, hFc, hCc⟩ := va_pre (ws' := [((ax 13), .inr (2, [.ref (ax 11), .ref (ax 14), .int xSz, .int w_4, .int w_5, .int xRt, .int w_6, .int x_26, .int xLk])), ((ax 11), .inr (5, [.ref (ax 12), .int xTz])), ((ax 12), .inl (cA 0, 200, .inl gB)), ((ax 14), .inl (cA 4, 200, .inr (.inr (.inr (.inr gSt)))))]) hP hD hS hA [1, 2, 3, 0] (by decide) rfl
      refine W.know (fun hkn1 hkn2 => ?_)
      have hS0 := hS.1
      refine va_callv (va_runV (As := [.int kd, .int r_1, .int (-1), .int (-1)]) (rest := []) ⟨hx, hb, hml, hown, hts⟩ (k_X2_emit l dC dI cA H.size ax xSz w_4 w_5 xRt w_6 x_26 xLk xTz gB gSt kd r_1 (-1) (-1) i_xSz iv_7 iv_8 i_xRt i_xTz i_gB (by omega)) (cwV 4 hts gX2_readNumbered_X2_emit rfl rfl rfl (by decide +kernel) ⟨(show 2 + 1 ≤ 3 by omega), (show 8 + (5 + 11) + 44 ≤ 68 by omega)⟩) ⟨fun a U g mk q => by obtain ⟨q0, q1, qP, qK, qD, qN⟩ := q; exact ⟨q0, q1, qP, va_K.moved (u := U) (U := U.calling g mk a) (Vm.Alike.refl U.vm) qK, qD, qN.same rfl⟩, va_recv hK hPc (ci := 2) (q0 := 0) rfl rfl, fun U hU hW => ⟨rfl, by rw [hU], by rw [hU]; exact hPc, va_K.moved hW.alike hK, hDc.weaken (fun _ _ _ _ => trivial), hN.warm hW⟩⟩ rfl rfl hl.1 rfl (lv_room (Nat.le_of_ble_eq_true rfl)) dX2_readNumbered_35 ⟨(show 0 + ((200 - xSz.toInt).toNat) ≤ (200 - xSz.toInt).toNat by omega), (show 0 + (4 * (200 - xSz.toInt).toNat) ≤ (4 * (200 - xSz.toInt).toNat) by omega)⟩) hS (fun q _ h => hFc q h) hFc (fun u_28 t H1 locs ht hvm hw_29 hB hz1 hk1 hS => ?_)
      obtain ⟨w_30, w_31, w_32, w_33⟩ := u_28
      try dsimp only at hw_29 hB
      obtain ⟨iv_34, st_35⟩ := hw_29
      try simp only [hk_27] at st_35
      obtain ⟨hP1, hD1, hX1⟩ := hB
      rw [ht] at hP1 hX1
      obtain ⟨hP, hD⟩ := va_joinQ (wr := []) (w1 := ([((ax 13), .inr (2, [.ref (ax 11), .ref (ax 14), .int w_30, .int w_4, .int w_5, .int xRt, .int w_6, .int x_26, .int xLk])), ((ax 11), .inr (5, [.ref (ax 12), .int xTz])), ((ax 12), .inl (cA 0, 200, .inl gB)), ((ax 14), .inl (cA 4, 200, .inr (.inr (.inr (.inr w_31)))))] : va_W) ++ va_pl w_32 w_33) hP hD [1, 2, 3, 0] [] rfl rfl (by decide) (by decide) hk1 hFc hP1 hD1
      obtain ⟨fm_36, hma_fm_36, hmb_fm_36, hP, hD⟩ := pl_merge hP hD
      have sq_fm_36 := stq_tr stq_0 st_35 hma_fm_36 hmb_fm_36
      have hle_fm_36 := sq_fm_36.1
      have hlf_fm_36 := st_35.1
      refine W.tight (cells' := (w_30.toInt - xSz.toInt).toNat) (slots' := 4 * (w_30.toInt - xSz.toInt).toNat) (by omega) (by have hch := ssum_chain hS0 hz1 (fun q h1 h2 => hk1 q h2 (na_of (fun k e hk => by rcases mem4 hk with h | h | h | h <;> omega) h1 h2)); omega) ?_
      clear hz1
      generalize H1 = H at hP hS ⊢
      replace hP : va_P (dC, dI) vwCl (([((ax 13), .inr (2, [.ref (ax 11), .ref (ax 14), .int w_30, .int w_4, .int w_5, .int xRt, .int w_6, .int x_26, .int xLk])), ((ax 11), .inr (5, [.ref (ax 12), .int xTz])), ((ax 12), .inl (cA 0, 200, .inl gB)), ((ax 14), .inl (cA 4, 200, .inr (.inr (.inr (.inr w_31)))))] : va_W) ++ va_pl ([] ++ w_32) fm_36) H := hP
      replace hD : va_D A (([((ax 13), .inr (2, [.ref (ax 11), .ref (ax 14), .int w_30, .int w_4, .int w_5, .int xRt, .int w_6, .int x_26, .int xLk])), ((ax 11), .inr (5, [.ref (ax 12), .int xTz])), ((ax 12), .inl (cA 0, 200, .inl gB)), ((ax 14), .inl (cA 4, 200, .inr (.inr (.inr (.inr w_31)))))] : va_W) ++ va_pl ([] ++ w_32) fm_36) := hD
      refine lv_iconst (v := 1) hx hb dX2_readNumbered_38 (by decide) ?_
      have hP9 := hP.part (cx := [((ax 13), .inr (2, [.ref (ax 11), .ref (ax 14), .int w_30, .int w_4, .int w_5, .int xRt, .int w_6, .int x_26, .int xLk])), ((ax 11), .inr (5, [.ref (ax 12), .int xTz])), ((ax 12), .inl (cA 0, 200, .inl gB)), ((ax 14), .inl (cA 4, 200, .inr (.inr (.inr (.inr w_31)))))]) [0, 1, 2, 3] rfl
      have hD9 := hD.part (cx := [((ax 13), .inr (2, [.ref (ax 11), .ref (ax 14), .int w_30, .int w_4, .int w_5, .int xRt, .int w_6, .int x_26, .int xLk])), ((ax 11), .inr (5, [.ref (ax 12), .int xTz])), ((ax 12), .inl (cA 0, 200, .inl gB)), ((ax 14), .inl (cA 4, 200, .inr (.inr (.inr (.inr w_31)))))]) [0, 1, 2, 3] (by decide) rfl
      refine W.know (fun hkn1 hkn2 => ?_)
      have hBx : H.size ≤ s.heap.size + (w_30.toInt - xSz.toInt).toNat ∧ ssum s.heap.size H ≤ 4 * (w_30.toInt - xSz.toInt).toNat := ⟨by omega, by omega⟩
      subst hQe
      refine W.widen (k := (200 - xSz.toInt).toNat) (n := (4 * (200 - xSz.toInt).toNat)) (by omega) (by omega) ?_
      have hans : (1 : Int32).toInt = 1 := (by decide)
      have hpost : (0 ≤ w_30.toInt ∧ w_30.toInt ≤ 200) ∧ (0 ≤ w_4.toInt ∧ w_4.toInt ≤ 200) ∧ (0 ≤ w_5.toInt ∧ w_5.toInt ≤ 200) ∧ (w_4.toInt ≤ w_5.toInt ∧ w_5.toInt ≤ xTz.toInt ∧ (0 ≤ (1 : Int32).toInt ∧ (1 : Int32).toInt ≤ 1)) ∧ (tokOK gB w_4 w_5 xTz) ∧ (stq xSz.toInt w_30.toInt gSt w_31 ([] ++ w_32) fm_36) ∧ (rs w_6 w_4 w_5 xLk x_26 = pnum (tpe gB xTz) xTz.toInt mx.toInt xPl.toInt xBe.toInt (fun v p e => .inr (p, e, xLk.toInt, if kd.toInt = 1 then xRd ||| bti v else xRd))) ∧ ((¬ (1 : Int32).toInt = 0 → w_6.toInt = (-1)) ∧ ((1 : Int32).toInt = 0 → 0 ≤ w_6.toInt)) := ⟨iv_34, iv_7, iv_8, by omega, tk_10, sq_fm_36, (by rw [nm_ok nm_11 (by omega)]; exact rs_inr (by omega) rfl rfl rfl (by rw [if_pos (show kd.toInt = 1 by omega), bti_eq, ← ex_25]; exact ex_26)), by omega⟩
      exact W.zret (v := 1) hx hb hr (by decide) (fun t ht hW => ⟨⟨1, (w_30, w_4, w_5, w_6, x_26, xLk, w_31, ([] ++ w_32), fm_36), rfl, hpost, by rw [ht]; exact hP9, hD9, by rw [ht]; exact hBx⟩, hS.F ht⟩) hS.2.2 dX2_readNumbered_39
  · have dc_13 : r_1.toInt = (-1) := jI_eq c_13 rfl (by decide)
    refine lv_iconst (v := 0) hx hb dX2_readNumbered_11 (by decide) ?_
    have hP9 := hP.part (cx := [((ax 13), .inr (2, [.ref (ax 11), .ref (ax 14), .int xSz, .int w_4, .int w_5, .int xRt, .int w_6, .int xRd, .int xLk])), ((ax 11), .inr (5, [.ref (ax 12), .int xTz])), ((ax 12), .inl (cA 0, 200, .inl gB)), ((ax 14), .inl (cA 4, 200, .inr (.inr (.inr (.inr gSt)))))]) [1, 2, 3, 0] rfl
    have hD9 := hD.part (cx := [((ax 13), .inr (2, [.ref (ax 11), .ref (ax 14), .int xSz, .int w_4, .int w_5, .int xRt, .int w_6, .int xRd, .int xLk])), ((ax 11), .inr (5, [.ref (ax 12), .int xTz])), ((ax 12), .inl (cA 0, 200, .inl gB)), ((ax 14), .inl (cA 4, 200, .inr (.inr (.inr (.inr gSt)))))]) [1, 2, 3, 0] (by decide) rfl
    refine W.know (fun hkn1 hkn2 => ?_)
    have hBx : H.size ≤ s.heap.size + (xSz.toInt - xSz.toInt).toNat ∧ ssum s.heap.size H ≤ 4 * (xSz.toInt - xSz.toInt).toNat := ⟨by omega, by omega⟩
    subst hQe
    refine W.widen (k := (200 - xSz.toInt).toNat) (n := (4 * (200 - xSz.toInt).toNat)) (by omega) (by omega) ?_
    have hans : (0 : Int32).toInt = 0 := (by decide)
    have hpost : (0 ≤ xSz.toInt ∧ xSz.toInt ≤ 200) ∧ (0 ≤ w_4.toInt ∧ w_4.toInt ≤ 200) ∧ (0 ≤ w_5.toInt ∧ w_5.toInt ≤ 200) ∧ (w_4.toInt ≤ w_5.toInt ∧ w_5.toInt ≤ xTz.toInt ∧ (0 ≤ (0 : Int32).toInt ∧ (0 : Int32).toInt ≤ 1)) ∧ (tokOK gB w_4 w_5 xTz) ∧ (stq xSz.toInt xSz.toInt gSt gSt ([]) pfz) ∧ (rs w_6 w_4 w_5 xLk xRd = pnum (tpe gB xTz) xTz.toInt mx.toInt xPl.toInt xBe.toInt (fun v p e => .inr (p, e, xLk.toInt, if kd.toInt = 1 then xRd ||| bti v else xRd))) ∧ ((¬ (0 : Int32).toInt = 0 → w_6.toInt = (-1)) ∧ ((0 : Int32).toInt = 0 → 0 ≤ w_6.toInt)) := ⟨i_xSz, iv_7, iv_8, by omega, tk_10, stq_0, (by rw [nm_no nm_11 (by omega)]; exact rs_inl (by omega) (by omega)), by omega⟩
    exact W.zret (v := 0) hx hb hr (by decide) (fun t ht hW => ⟨⟨0, (xSz, w_4, w_5, w_6, xRd, xLk, gSt, [], pfz), rfl, hpost, by rw [ht]; exact hP9, hD9, by rw [ht]; exact hBx⟩, hS.F ht⟩) hS.2.2 dX2_readNumbered_12

set_option maxHeartbeats 8000000 in
set_option maxRecDepth 100000 in
theorem k_X2_readWindow (l : Launch) (dC : Nat → ClassId) (dI : Nat → Nat → Nat) (cA : Nat → ClassId) (sz : Nat) (ax : Nat → Nat) (xSz : Int32) (xPl : Int32) (xBe : Int32) (xRt : Int32) (xRf : Int32) (xRd : Int32) (xLk : Int32) (xTz : Int32) (gB : Nat → Int32) (gSt : Nat → Option Nat) (kd : Int32) (adK : Nat → Nat) (adV : Nat → Nat) (i_xSz : 0 ≤ xSz.toInt ∧ xSz.toInt ≤ 200) (i_xPl : 0 ≤ xPl.toInt ∧ xPl.toInt ≤ 200) (i_xBe : 0 ≤ xBe.toInt ∧ xBe.toInt ≤ 200) (i_xRt : 0 ≤ xRt.toInt ∧ xRt.toInt ≤ 20) (i_xTz : 0 ≤ xTz.toInt ∧ xTz.toInt ≤ 200) (i_gB : inB 0 255 200 gB) (hbe : xPl.toInt ≤ xBe.toInt ∧ xBe.toInt ≤ xTz.toInt) (htk : tokOK gB xPl xBe xTz) (hgx : xRf.toInt = (-1)) (hkw : 4 ≤ kd.toInt ∧ kd.toInt ≤ 7) : Met l yX2_readWindow wsX2_readWindow ({ frames := 6, cells := (200 - xSz.toInt).toNat, slots := (4 * (200 - xSz.toInt).toNat), locals := 129 }) (va_Pc [.ref (ax 13), .int kd] (fun U => U.heap.size = sz ∧ va_P (dC, dI) vwCl [((ax 13), .inr (2, [.ref (ax 11), .ref (ax 14), .int xSz, .int xPl, .int xBe, .int xRt, .int xRf, .int xRd, .int xLk])), ((ax 11), .inr (5, [.ref (ax 12), .int xTz])), ((ax 12), .inl (cA 0, 200, .inl gB)), ((ax 14), .inl (cA 4, 200, .inr (.inr (.inr (.inr gSt)))))] U.heap ∧ va_K (dC, dI) vwCl (tyL cA) U ∧ va_D (fun _ => True) [((ax 13), .inr (2, [.ref (ax 11), .ref (ax 14), .int xSz, .int xPl, .int xBe, .int xRt, .int xRf, .int xRd, .int xLk])), ((ax 11), .inr (5, [.ref (ax 12), .int xTz])), ((ax 12), .inl (cA 0, 200, .inl gB)), ((ax 14), .inl (cA 4, 200, .inr (.inr (.inr (.inr gSt)))))] ∧ st_ok adK adV (va_A [((ax 13), .inr (2, [.ref (ax 11), .ref (ax 14), .int xSz, .int xPl, .int xBe, .int xRt, .int xRf, .int xRd, .int xLk])), ((ax 11), .inr (5, [.ref (ax 12), .int xTz])), ((ax 12), .inl (cA 0, 200, .inl gB)), ((ax 14), .inl (cA 4, 200, .inr (.inr (.inr (.inr gSt)))))] sz) U)) (va_Qi (fun (r : Int32) (u : Int32 × Int32 × Int32 × Int32 × Int32 × Int32 × (Nat → Option Nat) × (List Nat) × (Nat → va_E)) => (0 ≤ u.1.toInt ∧ u.1.toInt ≤ 200) ∧ (0 ≤ u.2.1.toInt ∧ u.2.1.toInt ≤ 200) ∧ (0 ≤ u.2.2.1.toInt ∧ u.2.2.1.toInt ≤ 200) ∧ (u.2.1.toInt ≤ u.2.2.1.toInt ∧ u.2.2.1.toInt ≤ xTz.toInt ∧ (0 ≤ r.toInt ∧ r.toInt ≤ 1)) ∧ (tokOK gB u.2.1 u.2.2.1 xTz) ∧ (stq xSz.toInt u.1.toInt gSt u.2.2.2.2.2.2.1 u.2.2.2.2.2.2.2.1 u.2.2.2.2.2.2.2.2) ∧ (rs u.2.2.2.1 u.2.1 u.2.2.1 u.2.2.2.2.2.1 u.2.2.2.2.1 = pwin (tpe gB xTz) xTz.toInt xPl.toInt xBe.toInt xLk.toInt xRd) ∧ ((¬ r.toInt = 0 → u.2.2.2.1.toInt = (-1)) ∧ (r.toInt = 0 → 0 ≤ u.2.2.2.1.toInt))) (fun (u : Int32 × Int32 × Int32 × Int32 × Int32 × Int32 × (Nat → Option Nat) × (List Nat) × (Nat → va_E)) (t : State) => va_P (dC, dI) vwCl (([((ax 13), .inr (2, [.ref (ax 11), .ref (ax 14), .int u.1, .int u.2.1, .int u.2.2.1, .int xRt, .int u.2.2.2.1, .int u.2.2.2.2.1, .int u.2.2.2.2.2.1])), ((ax 11), .inr (5, [.ref (ax 12), .int xTz])), ((ax 12), .inl (cA 0, 200, .inl gB)), ((ax 14), .inl (cA 4, 200, .inr (.inr (.inr (.inr u.2.2.2.2.2.2.1)))))] : va_W) ++ va_pl u.2.2.2.2.2.2.2.1 u.2.2.2.2.2.2.2.2) t.heap ∧ va_D (va_A [((ax 13), .inr (2, [.ref (ax 11), .ref (ax 14), .int xSz, .int xPl, .int xBe, .int xRt, .int xRf, .int xRd, .int xLk])), ((ax 11), .inr (5, [.ref (ax 12), .int xTz])), ((ax 12), .inl (cA 0, 200, .inl gB)), ((ax 14), .inl (cA 4, 200, .inr (.inr (.inr (.inr gSt)))))] sz) (([((ax 13), .inr (2, [.ref (ax 11), .ref (ax 14), .int u.1, .int u.2.1, .int u.2.2.1, .int xRt, .int u.2.2.2.1, .int u.2.2.2.2.1, .int u.2.2.2.2.2.1])), ((ax 11), .inr (5, [.ref (ax 12), .int xTz])), ((ax 12), .inl (cA 0, 200, .inl gB)), ((ax 14), .inl (cA 4, 200, .inr (.inr (.inr (.inr u.2.2.2.2.2.2.1)))))] : va_W) ++ va_pl u.2.2.2.2.2.2.2.1 u.2.2.2.2.2.2.2.2) ∧ (t.heap.size ≤ sz + (u.1.toInt - xSz.toInt).toNat ∧ ssum sz t.heap ≤ 4 * (u.1.toInt - xSz.toInt).toNat)) (va_A [((ax 13), .inr (2, [.ref (ax 11), .ref (ax 14), .int xSz, .int xPl, .int xBe, .int xRt, .int xRf, .int xRd, .int xLk])), ((ax 11), .inr (5, [.ref (ax 12), .int xTz])), ((ax 12), .inl (cA 0, 200, .inl gB)), ((ax 14), .inl (cA 4, 200, .inr (.inr (.inr (.inr gSt)))))] sz)) ((200 - xSz.toInt).toNat) (4 * (200 - xSz.toInt).toNat) (va_A [((ax 13), .inr (2, [.ref (ax 11), .ref (ax 14), .int xSz, .int xPl, .int xBe, .int xRt, .int xRf, .int xRd, .int xLk])), ((ax 11), .inr (5, [.ref (ax 12), .int xTz])), ((ax 12), .inl (cA 0, 200, .inl gB)), ((ax 14), .inl (cA 4, 200, .inr (.inr (.inr (.inr gSt)))))] sz) := by
  refine Met.ofW (cc := cX2_readWindow) (maxL := 5) (ret := (some .boolean)) (by decide) rfl ?_
  intro p e s m args below meth c s₁ B hml hv
  obtain ⟨rfl, hsz, hP, hK, hD0, hN⟩ := hv
  have hx := B.exec
  have hb := B.bytes
  have hr := B.returns
  have hts := atoms_spec (ws := wsX2_readWindow) B.pre
  have hown : s.vm.findClass RX2 = some m.cls := findClass_of_methodNamed B.named
  have hlocks := B.notSynchronized
  subst hsz
  have hD := hD0.self (sz := s.heap.size)
  generalize hAe : va_A [((ax 13), .inr (2, [.ref (ax 11), .ref (ax 14), .int xSz, .int xPl, .int xBe, .int xRt, .int xRf, .int xRd, .int xLk])), ((ax 11), .inr (5, [.ref (ax 12), .int xTz])), ((ax 12), .inl (cA 0, 200, .inl gB)), ((ax 14), .inl (cA 4, 200, .inr (.inr (.inr (.inr gSt)))))] s.heap.size = A at hD hN ⊢
  have hSt := hN
  have hN := hSt.1
  have hA : ∀ q : Nat, s.heap.size ≤ q → A q := fun q h => by rw [← hAe]; exact Or.inr h
  have hS : va_S A s.heap s.heap [] := va_S.rf
  have hlt0 : (ax 13) < s.heap.size := (hP 0 _ rfl).lt
  have hlt1 : (ax 11) < s.heap.size := (hP 1 _ rfl).lt
  have hlt2 : (ax 12) < s.heap.size := (hP 2 _ rfl).lt
  have hlt3 : (ax 14) < s.heap.size := (hP 3 _ rfl).lt
  obtain ⟨pfz, hpfz⟩ : ∃ f : Nat → va_E, f = fun _ => .inr (0, []) := ⟨_, rfl⟩
  replace hP : va_P (dC, dI) vwCl (([((ax 13), .inr (2, [.ref (ax 11), .ref (ax 14), .int xSz, .int xPl, .int xBe, .int xRt, .int xRf, .int xRd, .int xLk])), ((ax 11), .inr (5, [.ref (ax 12), .int xTz])), ((ax 12), .inl (cA 0, 200, .inl gB)), ((ax 14), .inl (cA 4, 200, .inr (.inr (.inr (.inr gSt)))))] : va_W) ++ va_pl ([]) pfz) s.heap := hP
  replace hD : va_D A (([((ax 13), .inr (2, [.ref (ax 11), .ref (ax 14), .int xSz, .int xPl, .int xBe, .int xRt, .int xRf, .int xRd, .int xLk])), ((ax 11), .inr (5, [.ref (ax 12), .int xTz])), ((ax 12), .inl (cA 0, 200, .inl gB)), ((ax 14), .inl (cA 4, 200, .inr (.inr (.inr (.inr gSt)))))] : va_W) ++ va_pl ([]) pfz) := hD
  have hIX2 : ∀ w ∈ u_ws RX2 TX2 9, w ∈ wsX2_readWindow := by decide +kernel
  have hl := lv_entry ([.ref (ax 13), .int kd]) (n := 5) (Nat.le_of_ble_eq_true rfl)
  rw [lg_entry_eq]
  generalize (lg_sl ([.ref (ax 13), .int kd]) ++ List.replicate (5 - (lg_sl ([.ref (ax 13), .int kd])).length) Slot.unset).toArray = ls at hl ⊢
  have hl : lv_has ls 5 [(0, .ref (ax 13)), (1, .int kd)] := hl
  generalize hQe : MQ below _ _ _ _ _ _ = QQ
  refine lv_aload_n hx hb dX2_readWindow_0 rfl (lv_at hl 0 rfl) ?_
  refine lv_iconst (v := 5) hx hb dX2_readWindow_1 (by decide) ?_
  have hk_1 : (5 : Int32).toInt = 5 := by decide
  obtain ⟨hPc, hDc, hFc, hCc⟩ := va_pre (ws' := [((ax 13), .inr (2, [.ref (ax 11), .ref (ax 14), .int xSz, .int xPl, .int xBe, .int xRt, .int xRf, .int xRd, .int xLk])), ((ax 11), .inr (5, [.ref (ax 12), .int xTz])), ((ax 12), .inl (cA 0, 200, .inl gB))]) hP hD hS hA [0, 1, 2] (by decide) rfl
  refine va_calli (va_runV (As := [.int 5]) (rest := []) ⟨hx, hb, hml, hown, hts⟩ (k_X2_takeNumber l dC dI cA s.heap.size ax xSz xPl xBe xRt xRf xRd xLk xTz gB 5 i_xSz i_xPl i_xBe i_xRt i_xTz i_gB hbe htk (by omega)) (cwV 1 hts gX2_readWindow_X2_takeNumber rfl rfl rfl (by decide +kernel) ⟨(show 2 + 1 ≤ 6 by omega), (show 8 + (4 + 11) + 45 ≤ 129 by omega)⟩) ⟨fun a U g mk q => by obtain ⟨q0, q1, qP, qK, qD, qN⟩ := q; exact ⟨q0, q1, qP, va_K.moved (u := U) (U := U.calling g mk a) (Vm.Alike.refl U.vm) qK, qD, qN.same rfl⟩, va_recv hK hPc (ci := 2) (q0 := 0) rfl rfl, fun U hU hW => ⟨rfl, by rw [hU], by rw [hU]; exact hPc, va_K.moved hW.alike hK, hDc.weaken (fun _ _ _ _ => trivial), hN.warm hW⟩⟩ rfl rfl hl.1 rfl (lv_room (Nat.le_of_ble_eq_true rfl)) dX2_readWindow_2 ⟨(show 0 + 0 ≤ (200 - xSz.toInt).toNat by omega), (show 0 + 0 ≤ (4 * (200 - xSz.toInt).toNat) by omega)⟩) hS (fun q _ h => hFc q h) hFc (fun r_2 u_3 t H1 locs ht hvm hw_4 hB hz1 hk1 hS => ?_)
  obtain ⟨w_5, w_6, w_7⟩ := u_3
  try dsimp only at hw_4 hB
  obtain ⟨iv_8, iv_9, po_10, tk_11, nm_12, rf_13⟩ := hw_4
  try simp only [hk_1] at po_10 tk_11 nm_12 rf_13
  obtain ⟨hP1, hD1⟩ := hB
  rw [ht] at hP1
  obtain ⟨hP, hD⟩ := va_joinQ (wr := [((ax 14), .inl (cA 4, 200, .inr (.inr (.inr (.inr gSt)))))]) (w1 := [((ax 13), .inr (2, [.ref (ax 11), .ref (ax 14), .int xSz, .int w_5, .int w_6, .int xRt, .int w_7, .int xRd, .int xLk])), ((ax 11), .inr (5, [.ref (ax 12), .int xTz])), ((ax 12), .inl (cA 0, 200, .inl gB))]) hP hD [0, 1, 2] [3] rfl rfl (by decide) (by decide) hk1 hFc hP1 hD1
  clear hz1
  generalize H1 = H at hP hS ⊢
  replace hP : va_P (dC, dI) vwCl (([((ax 14), .inl (cA 4, 200, .inr (.inr (.inr (.inr gSt))))), ((ax 13), .inr (2, [.ref (ax 11), .ref (ax 14), .int xSz, .int w_5, .int w_6, .int xRt, .int w_7, .int xRd, .int xLk])), ((ax 11), .inr (5, [.ref (ax 12), .int xTz])), ((ax 12), .inl (cA 0, 200, .inl gB))] : va_W) ++ va_pl ([]) pfz) H := hP
  replace hD : va_D A (([((ax 14), .inl (cA 4, 200, .inr (.inr (.inr (.inr gSt))))), ((ax 13), .inr (2, [.ref (ax 11), .ref (ax 14), .int xSz, .int w_5, .int w_6, .int xRt, .int w_7, .int xRd, .int xLk])), ((ax 11), .inr (5, [.ref (ax 12), .int xTz])), ((ax 12), .inl (cA 0, 200, .inl gB))] : va_W) ++ va_pl ([]) pfz) := hD
  refine lv_istore_n (lv' := [(2, .int r_2), (0, .ref (ax 13)), (1, .int kd)]) hx hb dX2_readWindow_5 rfl hl (by decide) rfl (fun ls hl => ?_)
  refine lv_iload_n hx hb dX2_readWindow_6 rfl (lv_at hl 0 rfl) ?_
  refine lv_iconst (v := (-1)) hx hb dX2_readWindow_7 (by decide) ?_
  refine lv_icmp_eq (tgt := 20) hx hb dX2_readWindow_8 (by decide) (fun c_14 => ?_) (fun c_14 => ?_)
  · have dc_14 : r_2.toInt = (-1) := jI_eq c_14 rfl (by decide)
    refine lv_iconst (v := 0) hx hb dX2_readWindow_20 (by decide) ?_
    have hP9 := hP.part (cx := [((ax 13), .inr (2, [.ref (ax 11), .ref (ax 14), .int xSz, .int w_5, .int w_6, .int xRt, .int w_7, .int xRd, .int xLk])), ((ax 11), .inr (5, [.ref (ax 12), .int xTz])), ((ax 12), .inl (cA 0, 200, .inl gB)), ((ax 14), .inl (cA 4, 200, .inr (.inr (.inr (.inr gSt)))))]) [1, 2, 3, 0] rfl
    have hD9 := hD.part (cx := [((ax 13), .inr (2, [.ref (ax 11), .ref (ax 14), .int xSz, .int w_5, .int w_6, .int xRt, .int w_7, .int xRd, .int xLk])), ((ax 11), .inr (5, [.ref (ax 12), .int xTz])), ((ax 12), .inl (cA 0, 200, .inl gB)), ((ax 14), .inl (cA 4, 200, .inr (.inr (.inr (.inr gSt)))))]) [1, 2, 3, 0] (by decide) rfl
    refine W.know (fun hkn1 hkn2 => ?_)
    have hBx : H.size ≤ s.heap.size + (xSz.toInt - xSz.toInt).toNat ∧ ssum s.heap.size H ≤ 4 * (xSz.toInt - xSz.toInt).toNat := ⟨by omega, by omega⟩
    subst hQe
    refine W.widen (k := (200 - xSz.toInt).toNat) (n := (4 * (200 - xSz.toInt).toNat)) (by omega) (by omega) ?_
    have hans : (0 : Int32).toInt = 0 := (by decide)
    have hpost : (0 ≤ xSz.toInt ∧ xSz.toInt ≤ 200) ∧ (0 ≤ w_5.toInt ∧ w_5.toInt ≤ 200) ∧ (0 ≤ w_6.toInt ∧ w_6.toInt ≤ 200) ∧ (w_5.toInt ≤ w_6.toInt ∧ w_6.toInt ≤ xTz.toInt ∧ (0 ≤ (0 : Int32).toInt ∧ (0 : Int32).toInt ≤ 1)) ∧ (tokOK gB w_5 w_6 xTz) ∧ (stq xSz.toInt xSz.toInt gSt gSt ([]) pfz) ∧ (rs w_7 w_5 w_6 xLk xRd = pwin (tpe gB xTz) xTz.toInt xPl.toInt xBe.toInt xLk.toInt xRd) ∧ ((¬ (0 : Int32).toInt = 0 → w_7.toInt = (-1)) ∧ ((0 : Int32).toInt = 0 → 0 ≤ w_7.toInt)) := ⟨i_xSz, iv_8, iv_9, by omega, tk_11, stq_0, (by rw [pwin, nm_no nm_12 (by omega)]; exact rs_inl (by omega) (by omega)), by omega⟩
    exact W.zret (v := 0) hx hb hr (by decide) (fun t ht hW => ⟨⟨0, (xSz, w_5, w_6, w_7, xRd, xLk, gSt, [], pfz), rfl, hpost, by rw [ht]; exact hP9, hD9, by rw [ht]; exact hBx⟩, hS.F ht⟩) hS.2.2 dX2_readWindow_21
  · have dc_14 : ¬ r_2.toInt = (-1) := jI_ne c_14 rfl (by decide)
    refine lv_aload_n hx hb dX2_readWindow_11 rfl (lv_at hl 1 rfl) ?_
    refine va_ldcS hx hb hown (show vk_R RX2 114 "from" (adK 7) s from hSt.2.1 7 (by decide)) dX2_readWindow_12 ?_
    obtain ⟨hPc, hDc, hFc, hCc⟩ := va_pre (ws' := [((ax 13), .inr (2, [.ref (ax 11), .ref (ax 14), .int xSz, .int w_5, .int w_6, .int xRt, .int w_7, .int xRd, .int xLk])), ((ax 11), .inr (5, [.ref (ax 12), .int xTz])), ((ax 12), .inl (cA 0, 200, .inl gB))]) hP hD hS hA [1, 2, 3] (by decide) rfl
    refine va_calli (va_runV (As := [.ref (adK 7)]) (rest := []) ⟨hx, hb, hml, hown, hts⟩ (k_X2_take l dC dI cA H.size ax xSz w_5 w_6 xRt w_7 xRd xLk xTz gB adK adV 7 i_xSz iv_8 iv_9 i_xRt i_xTz i_gB (by omega) (by omega) tk_11) (cwV 1 hts gX2_readWindow_X2_take rfl rfl rfl (by decide +kernel) ⟨(show 5 + 1 ≤ 6 by omega), (show 8 + (2 + 11) + 108 ≤ 129 by omega)⟩) ⟨fun a U g mk q => by obtain ⟨q0, q1, qP, qK, qD, qN⟩ := q; exact ⟨q0, q1, qP, va_K.moved (u := U) (U := U.calling g mk a) (Vm.Alike.refl U.vm) qK, qD, qN.same rfl rfl⟩, va_recv hK hPc (ci := 2) (q0 := 0) rfl rfl, fun U hU hW => ⟨rfl, by rw [hU], by rw [hU]; exact hPc, va_K.moved hW.alike hK, hDc.weaken (fun _ _ _ _ => trivial), hSt.call hS hU hW hFc⟩⟩ rfl rfl hl.1 rfl (lv_room (Nat.le_of_ble_eq_true rfl)) dX2_readWindow_14 ⟨(show 0 + 0 ≤ (200 - xSz.toInt).toNat by omega), (show 0 + 0 ≤ (4 * (200 - xSz.toInt).toNat) by omega)⟩) hS (fun q _ h => hFc q h) hFc (fun r_15 u_16 t H1 locs ht hvm hw_17 hB hz1 hk1 hS => ?_)
    obtain ⟨w_18, w_19, w_20⟩ := u_16
    try dsimp only at hw_17 hB
    obtain ⟨iv_21, iv_22, po_23, tk_24, pt_25, rf_26⟩ := hw_17
    obtain ⟨hP1, hD1⟩ := hB
    rw [ht] at hP1
    obtain ⟨hP, hD⟩ := va_joinQ (wr := [((ax 14), .inl (cA 4, 200, .inr (.inr (.inr (.inr gSt)))))]) (w1 := [((ax 13), .inr (2, [.ref (ax 11), .ref (ax 14), .int xSz, .int w_18, .int w_19, .int xRt, .int w_20, .int xRd, .int xLk])), ((ax 11), .inr (5, [.ref (ax 12), .int xTz])), ((ax 12), .inl (cA 0, 200, .inl gB))]) hP hD [1, 2, 3] [0] rfl rfl (by decide) (by decide) hk1 hFc hP1 hD1
    clear hz1
    rw [scs_7] at pt_25
    generalize H1 = H at hP hS ⊢
    replace hP : va_P (dC, dI) vwCl (([((ax 14), .inl (cA 4, 200, .inr (.inr (.inr (.inr gSt))))), ((ax 13), .inr (2, [.ref (ax 11), .ref (ax 14), .int xSz, .int w_18, .int w_19, .int xRt, .int w_20, .int xRd, .int xLk])), ((ax 11), .inr (5, [.ref (ax 12), .int xTz])), ((ax 12), .inl (cA 0, 200, .inl gB))] : va_W) ++ va_pl ([]) pfz) H := hP
    replace hD : va_D A (([((ax 14), .inl (cA 4, 200, .inr (.inr (.inr (.inr gSt))))), ((ax 13), .inr (2, [.ref (ax 11), .ref (ax 14), .int xSz, .int w_18, .int w_19, .int xRt, .int w_20, .int xRd, .int xLk])), ((ax 11), .inr (5, [.ref (ax 12), .int xTz])), ((ax 12), .inl (cA 0, 200, .inl gB))] : va_W) ++ va_pl ([]) pfz) := hD
    refine lv_if_ne (tgt := 22) hx hb dX2_readWindow_17 (by decide) (fun c_27 => ?_) (fun c_27 => ?_)
    · have dc_27 : ¬ r_15.toInt = 0 := jI_ne c_27 rfl (by decide)
      refine lv_aload_n hx hb dX2_readWindow_22 rfl (lv_at hl 1 rfl) ?_
      refine lv_ldc hx hb hown (hts (.constant RX2 85 (1000000)) (by decide +kernel)) dX2_readWindow_23 ?_
      have hk_28 : (1000000 : Int32).toInt = 1000000 := by decide
      obtain ⟨hPc, hDc, hFc, hCc⟩ := va_pre (ws' := [((ax 13), .inr (2, [.ref (ax 11), .ref (ax 14), .int xSz, .int w_18, .int w_19, .int xRt, .int w_20, .int xRd, .int xLk])), ((ax 11), .inr (5, [.ref (ax 12), .int xTz])), ((ax 12), .inl (cA 0, 200, .inl gB))]) hP hD hS hA [1, 2, 3] (by decide) rfl
      refine va_calli (va_runV (As := [.int 1000000]) (rest := []) ⟨hx, hb, hml, hown, hts⟩ (k_X2_takeNumber l dC dI cA H.size ax xSz w_18 w_19 xRt w_20 xRd xLk xTz gB 1000000 i_xSz iv_21 iv_22 i_xRt i_xTz i_gB (by omega) tk_24 (by omega)) (cwV 1 hts gX2_readWindow_X2_takeNumber rfl rfl rfl (by decide +kernel) ⟨(show 2 + 1 ≤ 6 by omega), (show 8 + (4 + 11) + 45 ≤ 129 by omega)⟩) ⟨fun a U g mk q => by obtain ⟨q0, q1, qP, qK, qD, qN⟩ := q; exact ⟨q0, q1, qP, va_K.moved (u := U) (U := U.calling g mk a) (Vm.Alike.refl U.vm) qK, qD, qN.same rfl⟩, va_recv hK hPc (ci := 2) (q0 := 0) rfl rfl, fun U hU hW => ⟨rfl, by rw [hU], by rw [hU]; exact hPc, va_K.moved hW.alike hK, hDc.weaken (fun _ _ _ _ => trivial), hN.warm hW⟩⟩ rfl rfl hl.1 rfl (lv_room (Nat.le_of_ble_eq_true rfl)) dX2_readWindow_25 ⟨(show 0 + 0 ≤ (200 - xSz.toInt).toNat by omega), (show 0 + 0 ≤ (4 * (200 - xSz.toInt).toNat) by omega)⟩) hS (fun q _ h => hFc q h) hFc (fun r_29 u_30 t H1 locs ht hvm hw_31 hB hz1 hk1 hS => ?_)
      obtain ⟨w_32, w_33, w_34⟩ := u_30
      try dsimp only at hw_31 hB
      obtain ⟨iv_35, iv_36, po_37, tk_38, nm_39, rf_40⟩ := hw_31
      try simp only [hk_28] at po_37 tk_38 nm_39 rf_40
      obtain ⟨hP1, hD1⟩ := hB
      rw [ht] at hP1
      obtain ⟨hP, hD⟩ := va_joinQ (wr := [((ax 14), .inl (cA 4, 200, .inr (.inr (.inr (.inr gSt)))))]) (w1 := [((ax 13), .inr (2, [.ref (ax 11), .ref (ax 14), .int xSz, .int w_32, .int w_33, .int xRt, .int w_34, .int xRd, .int xLk])), ((ax 11), .inr (5, [.ref (ax 12), .int xTz])), ((ax 12), .inl (cA 0, 200, .inl gB))]) hP hD [1, 2, 3] [0] rfl rfl (by decide) (by decide) hk1 hFc hP1 hD1
      clear hz1
      generalize H1 = H at hP hS ⊢
      replace hP : va_P (dC, dI) vwCl (([((ax 14), .inl (cA 4, 200, .inr (.inr (.inr (.inr gSt))))), ((ax 13), .inr (2, [.ref (ax 11), .ref (ax 14), .int xSz, .int w_32, .int w_33, .int xRt, .int w_34, .int xRd, .int xLk])), ((ax 11), .inr (5, [.ref (ax 12), .int xTz])), ((ax 12), .inl (cA 0, 200, .inl gB))] : va_W) ++ va_pl ([]) pfz) H := hP
      replace hD : va_D A (([((ax 14), .inl (cA 4, 200, .inr (.inr (.inr (.inr gSt))))), ((ax 13), .inr (2, [.ref (ax 11), .ref (ax 14), .int xSz, .int w_32, .int w_33, .int xRt, .int w_34, .int xRd, .int xLk])), ((ax 11), .inr (5, [.ref (ax 12), .int xTz])), ((ax 12), .inl (cA 0, 200, .inl gB))] : va_W) ++ va_pl ([]) pfz) := hD
      refine lv_istore_n (lv' := [(3, .int r_29), (2, .int r_2), (0, .ref (ax 13)), (1, .int kd)]) hx hb dX2_readWindow_28 rfl hl (by decide) rfl (fun ls hl => ?_)
      refine lv_iload_n hx hb dX2_readWindow_29 rfl (lv_at hl 0 rfl) ?_
      refine lv_iconst (v := (-1)) hx hb dX2_readWindow_30 (by decide) ?_
      refine lv_icmp_eq (tgt := 43) hx hb dX2_readWindow_31 (by decide) (fun c_41 => ?_) (fun c_41 => ?_)
      · have dc_41 : r_29.toInt = (-1) := jI_eq c_41 rfl (by decide)
        refine lv_iconst (v := 0) hx hb dX2_readWindow_43 (by decide) ?_
        have hP9 := hP.part (cx := [((ax 13), .inr (2, [.ref (ax 11), .ref (ax 14), .int xSz, .int w_32, .int w_33, .int xRt, .int w_34, .int xRd, .int xLk])), ((ax 11), .inr (5, [.ref (ax 12), .int xTz])), ((ax 12), .inl (cA 0, 200, .inl gB)), ((ax 14), .inl (cA 4, 200, .inr (.inr (.inr (.inr gSt)))))]) [1, 2, 3, 0] rfl
        have hD9 := hD.part (cx := [((ax 13), .inr (2, [.ref (ax 11), .ref (ax 14), .int xSz, .int w_32, .int w_33, .int xRt, .int w_34, .int xRd, .int xLk])), ((ax 11), .inr (5, [.ref (ax 12), .int xTz])), ((ax 12), .inl (cA 0, 200, .inl gB)), ((ax 14), .inl (cA 4, 200, .inr (.inr (.inr (.inr gSt)))))]) [1, 2, 3, 0] (by decide) rfl
        refine W.know (fun hkn1 hkn2 => ?_)
        have hBx : H.size ≤ s.heap.size + (xSz.toInt - xSz.toInt).toNat ∧ ssum s.heap.size H ≤ 4 * (xSz.toInt - xSz.toInt).toNat := ⟨by omega, by omega⟩
        subst hQe
        refine W.widen (k := (200 - xSz.toInt).toNat) (n := (4 * (200 - xSz.toInt).toNat)) (by omega) (by omega) ?_
        have hans : (0 : Int32).toInt = 0 := (by decide)
        have hpost : (0 ≤ xSz.toInt ∧ xSz.toInt ≤ 200) ∧ (0 ≤ w_32.toInt ∧ w_32.toInt ≤ 200) ∧ (0 ≤ w_33.toInt ∧ w_33.toInt ≤ 200) ∧ (w_32.toInt ≤ w_33.toInt ∧ w_33.toInt ≤ xTz.toInt ∧ (0 ≤ (0 : Int32).toInt ∧ (0 : Int32).toInt ≤ 1)) ∧ (tokOK gB w_32 w_33 xTz) ∧ (stq xSz.toInt xSz.toInt gSt gSt ([]) pfz) ∧ (rs w_34 w_32 w_33 xLk xRd = pwin (tpe gB xTz) xTz.toInt xPl.toInt xBe.toInt xLk.toInt xRd) ∧ ((¬ (0 : Int32).toInt = 0 → w_34.toInt = (-1)) ∧ ((0 : Int32).toInt = 0 → 0 ≤ w_34.toInt)) := ⟨i_xSz, iv_35, iv_36, by omega, tk_38, stq_0, (by rw [pwin, nm_ok nm_12 (by omega), tk_ok pt_25 (by omega), nm_no nm_39 (by omega)]; exact rs_inl (by omega) (by omega)), by omega⟩
        exact W.zret (v := 0) hx hb hr (by decide) (fun t ht hW => ⟨⟨0, (xSz, w_32, w_33, w_34, xRd, xLk, gSt, [], pfz), rfl, hpost, by rw [ht]; exact hP9, hD9, by rw [ht]; exact hBx⟩, hS.F ht⟩) hS.2.2 dX2_readWindow_44
      · have dc_41 : ¬ r_29.toInt = (-1) := jI_ne c_41 rfl (by decide)
        refine lv_aload_n hx hb dX2_readWindow_34 rfl (lv_at hl 2 rfl) ?_
        refine va_ldcS hx hb hown (show vk_R RX2 116 "to" (adK 8) s from hSt.2.1 8 (by decide)) dX2_readWindow_35 ?_
        obtain ⟨hPc, hDc, hFc, hCc⟩ := va_pre (ws' := [((ax 13), .inr (2, [.ref (ax 11), .ref (ax 14), .int xSz, .int w_32, .int w_33, .int xRt, .int w_34, .int xRd, .int xLk])), ((ax 11), .inr (5, [.ref (ax 12), .int xTz])), ((ax 12), .inl (cA 0, 200, .inl gB))]) hP hD hS hA [1, 2, 3] (by decide) rfl
        refine va_calli (va_runV (As := [.ref (adK 8)]) (rest := []) ⟨hx, hb, hml, hown, hts⟩ (k_X2_take l dC dI cA H.size ax xSz w_32 w_33 xRt w_34 xRd xLk xTz gB adK adV 8 i_xSz iv_35 iv_36 i_xRt i_xTz i_gB (by omega) (by omega) tk_38) (cwV 1 hts gX2_readWindow_X2_take rfl rfl rfl (by decide +kernel) ⟨(show 5 + 1 ≤ 6 by omega), (show 8 + (2 + 11) + 108 ≤ 129 by omega)⟩) ⟨fun a U g mk q => by obtain ⟨q0, q1, qP, qK, qD, qN⟩ := q; exact ⟨q0, q1, qP, va_K.moved (u := U) (U := U.calling g mk a) (Vm.Alike.refl U.vm) qK, qD, qN.same rfl rfl⟩, va_recv hK hPc (ci := 2) (q0 := 0) rfl rfl, fun U hU hW => ⟨rfl, by rw [hU], by rw [hU]; exact hPc, va_K.moved hW.alike hK, hDc.weaken (fun _ _ _ _ => trivial), hSt.call hS hU hW hFc⟩⟩ rfl rfl hl.1 rfl (lv_room (Nat.le_of_ble_eq_true rfl)) dX2_readWindow_37 ⟨(show 0 + 0 ≤ (200 - xSz.toInt).toNat by omega), (show 0 + 0 ≤ (4 * (200 - xSz.toInt).toNat) by omega)⟩) hS (fun q _ h => hFc q h) hFc (fun r_42 u_43 t H1 locs ht hvm hw_44 hB hz1 hk1 hS => ?_)
        obtain ⟨w_45, w_46, w_47⟩ := u_43
        try dsimp only at hw_44 hB
        obtain ⟨iv_48, iv_49, po_50, tk_51, pt_52, rf_53⟩ := hw_44
        obtain ⟨hP1, hD1⟩ := hB
        rw [ht] at hP1
        obtain ⟨hP, hD⟩ := va_joinQ (wr := [((ax 14), .inl (cA 4, 200, .inr (.inr (.inr (.inr gSt)))))]) (w1 := [((ax 13), .inr (2, [.ref (ax 11), .ref (ax 14), .int xSz, .int w_45, .int w_46, .int xRt, .int w_47, .int xRd, .int xLk])), ((ax 11), .inr (5, [.ref (ax 12), .int xTz])), ((ax 12), .inl (cA 0, 200, .inl gB))]) hP hD [1, 2, 3] [0] rfl rfl (by decide) (by decide) hk1 hFc hP1 hD1
        clear hz1
        rw [scs_8] at pt_52
        generalize H1 = H at hP hS ⊢
        replace hP : va_P (dC, dI) vwCl (([((ax 14), .inl (cA 4, 200, .inr (.inr (.inr (.inr gSt))))), ((ax 13), .inr (2, [.ref (ax 11), .ref (ax 14), .int xSz, .int w_45, .int w_46, .int xRt, .int w_47, .int xRd, .int xLk])), ((ax 11), .inr (5, [.ref (ax 12), .int xTz])), ((ax 12), .inl (cA 0, 200, .inl gB))] : va_W) ++ va_pl ([]) pfz) H := hP
        replace hD : va_D A (([((ax 14), .inl (cA 4, 200, .inr (.inr (.inr (.inr gSt))))), ((ax 13), .inr (2, [.ref (ax 11), .ref (ax 14), .int xSz, .int w_45, .int w_46, .int xRt, .int w_47, .int xRd, .int xLk])), ((ax 11), .inr (5, [.ref (ax 12), .int xTz])), ((ax 12), .inl (cA 0, 200, .inl gB))] : va_W) ++ va_pl ([]) pfz) := hD
        refine lv_if_ne (tgt := 45) hx hb dX2_readWindow_40 (by decide) (fun c_54 => ?_) (fun c_54 => ?_)
        · have dc_54 : ¬ r_42.toInt = 0 := jI_ne c_54 rfl (by decide)
          refine lv_aload_n hx hb dX2_readWindow_45 rfl (lv_at hl 2 rfl) ?_
          refine lv_iload_n hx hb dX2_readWindow_46 rfl (lv_at hl 0 rfl) ?_
          obtain ⟨hPc, hDc, hFc, hCc⟩ := va_pre (ws' := [((ax 13), .inr (2, [.ref (ax 11), .ref (ax 14), .int xSz, .int w_45, .int w_46, .int xRt, .int w_47, .int xRd, .int xLk])), ((ax 11), .inr (5, [.ref (ax 12), .int xTz])), ((ax 12), .inl (cA 0, 200, .inl gB))]) hP hD hS hA [1, 2, 3] (by decide) rfl
          refine va_calli (va_runV (As := [.int r_29]) (rest := []) ⟨hx, hb, hml, hown, hts⟩ (k_X2_takeNumber l dC dI cA H.size ax xSz w_45 w_46 xRt w_47 xRd xLk xTz gB r_29 i_xSz iv_48 iv_49 i_xRt i_xTz i_gB (by omega) tk_51 (by omega)) (cwV 1 hts gX2_readWindow_X2_takeNumber rfl rfl rfl (by decide +kernel) ⟨(show 2 + 1 ≤ 6 by omega), (show 8 + (4 + 11) + 45 ≤ 129 by omega)⟩) ⟨fun a U g mk q => by obtain ⟨q0, q1, qP, qK, qD, qN⟩ := q; exact ⟨q0, q1, qP, va_K.moved (u := U) (U := U.calling g mk a) (Vm.Alike.refl U.vm) qK, qD, qN.same rfl⟩, va_recv hK hPc (ci := 2) (q0 := 0) rfl rfl, fun U hU hW => ⟨rfl, by rw [hU], by rw [hU]; exact hPc, va_K.moved hW.alike hK, hDc.weaken (fun _ _ _ _ => trivial), hN.warm hW⟩⟩ rfl rfl hl.1 rfl (lv_room (Nat.le_of_ble_eq_true rfl)) dX2_readWindow_47 ⟨(show 0 + 0 ≤ (200 - xSz.toInt).toNat by omega), (show 0 + 0 ≤ (4 * (200 - xSz.toInt).toNat) by omega)⟩) hS (fun q _ h => hFc q h) hFc (fun r_55 u_56 t H1 locs ht hvm hw_57 hB hz1 hk1 hS => ?_)
          obtain ⟨w_58, w_59, w_60⟩ := u_56
          try dsimp only at hw_57 hB
          obtain ⟨iv_61, iv_62, po_63, tk_64, nm_65, rf_66⟩ := hw_57
          obtain ⟨hP1, hD1⟩ := hB
          rw [ht] at hP1
          obtain ⟨hP, hD⟩ := va_joinQ (wr := [((ax 14), .inl (cA 4, 200, .inr (.inr (.inr (.inr gSt)))))]) (w1 := [((ax 13), .inr (2, [.ref (ax 11), .ref (ax 14), .int xSz, .int w_58, .int w_59, .int xRt, .int w_60, .int xRd, .int xLk])), ((ax 11), .inr (5, [.ref (ax 12), .int xTz])), ((ax 12), .inl (cA 0, 200, .inl gB))]) hP hD [1, 2, 3] [0] rfl rfl (by decide) (by decide) hk1 hFc hP1 hD1
          clear hz1
          generalize H1 = H at hP hS ⊢
          replace hP : va_P (dC, dI) vwCl (([((ax 14), .inl (cA 4, 200, .inr (.inr (.inr (.inr gSt))))), ((ax 13), .inr (2, [.ref (ax 11), .ref (ax 14), .int xSz, .int w_58, .int w_59, .int xRt, .int w_60, .int xRd, .int xLk])), ((ax 11), .inr (5, [.ref (ax 12), .int xTz])), ((ax 12), .inl (cA 0, 200, .inl gB))] : va_W) ++ va_pl ([]) pfz) H := hP
          replace hD : va_D A (([((ax 14), .inl (cA 4, 200, .inr (.inr (.inr (.inr gSt))))), ((ax 13), .inr (2, [.ref (ax 11), .ref (ax 14), .int xSz, .int w_58, .int w_59, .int xRt, .int w_60, .int xRd, .int xLk])), ((ax 11), .inr (5, [.ref (ax 12), .int xTz])), ((ax 12), .inl (cA 0, 200, .inl gB))] : va_W) ++ va_pl ([]) pfz) := hD
          refine lv_istore (lv' := [(4, .int r_55), (3, .int r_29), (2, .int r_2), (0, .ref (ax 13)), (1, .int kd)]) hx hb dX2_readWindow_50 hl (by decide) rfl (fun ls hl => ?_)
          refine lv_iload hx hb dX2_readWindow_52 (lv_at hl 0 rfl) ?_
          refine lv_iconst (v := (-1)) hx hb dX2_readWindow_54 (by decide) ?_
          refine lv_icmp_ne (tgt := 60) hx hb dX2_readWindow_55 (by decide) (fun c_67 => ?_) (fun c_67 => ?_)
          · have dc_67 : ¬ r_55.toInt = (-1) := jI_ne c_67 rfl (by decide)
            refine lv_aload_n hx hb dX2_readWindow_60 rfl (lv_at hl 3 rfl) ?_
            refine lv_iload_n hx hb dX2_readWindow_61 rfl (lv_at hl 4 rfl) ?_
            refine lv_iload_n hx hb dX2_readWindow_62 rfl (lv_at hl 2 rfl) ?_
            refine lv_iload_n hx hb dX2_readWindow_63 rfl (lv_at hl 1 rfl) ?_
            refine lv_iload hx hb dX2_readWindow_64 (lv_at hl 0 rfl) ?_
            obtain ⟨hPc, hDc, hFc, hCc⟩ := va_pre (ws' := [((ax 13), .inr (2, [.ref (ax 11), .ref (ax 14), .int xSz, .int w_58, .int w_59, .int xRt, .int w_60, .int xRd, .int xLk])), ((ax 11), .inr (5, [.ref (ax 12), .int xTz])), ((ax 12), .inl (cA 0, 200, .inl gB)), ((ax 14), .inl (cA 4, 200, .inr (.inr (.inr (.inr gSt)))))]) hP hD hS hA [1, 2, 3, 0] (by decide) rfl
            refine W.know (fun hkn1 hkn2 => ?_)
            have hS0 := hS.1
            refine va_callv (va_runV (As := [.int kd, .int r_2, .int r_29, .int r_55]) (rest := []) ⟨hx, hb, hml, hown, hts⟩ (k_X2_emit l dC dI cA H.size ax xSz w_58 w_59 xRt w_60 xRd xLk xTz gB gSt kd r_2 r_29 r_55 i_xSz iv_61 iv_62 i_xRt i_xTz i_gB (by omega)) (cwV 4 hts gX2_readWindow_X2_emit rfl rfl rfl (by decide +kernel) ⟨(show 2 + 1 ≤ 6 by omega), (show 8 + (5 + 11) + 44 ≤ 129 by omega)⟩) ⟨fun a U g mk q => by obtain ⟨q0, q1, qP, qK, qD, qN⟩ := q; exact ⟨q0, q1, qP, va_K.moved (u := U) (U := U.calling g mk a) (Vm.Alike.refl U.vm) qK, qD, qN.same rfl⟩, va_recv hK hPc (ci := 2) (q0 := 0) rfl rfl, fun U hU hW => ⟨rfl, by rw [hU], by rw [hU]; exact hPc, va_K.moved hW.alike hK, hDc.weaken (fun _ _ _ _ => trivial), hN.warm hW⟩⟩ rfl rfl hl.1 rfl (lv_room (Nat.le_of_ble_eq_true rfl)) dX2_readWindow_66 ⟨(show 0 + ((200 - xSz.toInt).toNat) ≤ (200 - xSz.toInt).toNat by omega), (show 0 + (4 * (200 - xSz.toInt).toNat) ≤ (4 * (200 - xSz.toInt).toNat) by omega)⟩) hS (fun q _ h => hFc q h) hFc (fun u_68 t H1 locs ht hvm hw_69 hB hz1 hk1 hS => ?_)
            obtain ⟨w_70, w_71, w_72, w_73⟩ := u_68
            try dsimp only at hw_69 hB
            obtain ⟨iv_74, st_75⟩ := hw_69
            obtain ⟨hP1, hD1, hX1⟩ := hB
            rw [ht] at hP1 hX1
            obtain ⟨hP, hD⟩ := va_joinQ (wr := []) (w1 := ([((ax 13), .inr (2, [.ref (ax 11), .ref (ax 14), .int w_70, .int w_58, .int w_59, .int xRt, .int w_60, .int xRd, .int xLk])), ((ax 11), .inr (5, [.ref (ax 12), .int xTz])), ((ax 12), .inl (cA 0, 200, .inl gB)), ((ax 14), .inl (cA 4, 200, .inr (.inr (.inr (.inr w_71)))))] : va_W) ++ va_pl w_72 w_73) hP hD [1, 2, 3, 0] [] rfl rfl (by decide) (by decide) hk1 hFc hP1 hD1
            obtain ⟨fm_76, hma_fm_76, hmb_fm_76, hP, hD⟩ := pl_merge hP hD
            have sq_fm_76 := stq_tr stq_0 st_75 hma_fm_76 hmb_fm_76
            have hle_fm_76 := sq_fm_76.1
            have hlf_fm_76 := st_75.1
            refine W.tight (cells' := (w_70.toInt - xSz.toInt).toNat) (slots' := 4 * (w_70.toInt - xSz.toInt).toNat) (by omega) (by have hch := ssum_chain hS0 hz1 (fun q h1 h2 => hk1 q h2 (na_of (fun k e hk => by rcases mem4 hk with h | h | h | h <;> omega) h1 h2)); omega) ?_
            clear hz1
            generalize H1 = H at hP hS ⊢
            replace hP : va_P (dC, dI) vwCl (([((ax 13), .inr (2, [.ref (ax 11), .ref (ax 14), .int w_70, .int w_58, .int w_59, .int xRt, .int w_60, .int xRd, .int xLk])), ((ax 11), .inr (5, [.ref (ax 12), .int xTz])), ((ax 12), .inl (cA 0, 200, .inl gB)), ((ax 14), .inl (cA 4, 200, .inr (.inr (.inr (.inr w_71)))))] : va_W) ++ va_pl ([] ++ w_72) fm_76) H := hP
            replace hD : va_D A (([((ax 13), .inr (2, [.ref (ax 11), .ref (ax 14), .int w_70, .int w_58, .int w_59, .int xRt, .int w_60, .int xRd, .int xLk])), ((ax 11), .inr (5, [.ref (ax 12), .int xTz])), ((ax 12), .inl (cA 0, 200, .inl gB)), ((ax 14), .inl (cA 4, 200, .inr (.inr (.inr (.inr w_71)))))] : va_W) ++ va_pl ([] ++ w_72) fm_76) := hD
            refine lv_aload_n hx hb dX2_readWindow_69 rfl (lv_at hl 3 rfl) ?_
            refine va_ldcS hx hb hown (show vk_R RX2 118 "ahead" (adK 9) s from hSt.2.1 9 (by decide)) dX2_readWindow_70 ?_
            obtain ⟨hPc, hDc, hFc, hCc⟩ := va_pre (ws' := [((ax 13), .inr (2, [.ref (ax 11), .ref (ax 14), .int w_70, .int w_58, .int w_59, .int xRt, .int w_60, .int xRd, .int xLk])), ((ax 11), .inr (5, [.ref (ax 12), .int xTz])), ((ax 12), .inl (cA 0, 200, .inl gB))]) hP hD hS hA [0, 1, 2] (by decide) rfl
            refine va_calli (va_runV (As := [.ref (adK 9)]) (rest := []) ⟨hx, hb, hml, hown, hts⟩ (k_X2_isAt l dC dI cA H.size ax w_70 w_58 w_59 xRt w_60 xRd xLk xTz gB adK adV 9 iv_74 iv_61 iv_62 i_xRt i_xTz i_gB (by omega) (by omega)) (cwV 1 hts gX2_readWindow_X2_isAt rfl rfl rfl (by decide +kernel) ⟨(show 4 + 1 ≤ 6 by omega), (show 8 + (4 + 11) + 85 ≤ 129 by omega)⟩) ⟨fun a U g mk q => by obtain ⟨q0, q1, qP, qK, qD, qN⟩ := q; exact ⟨q0, q1, qP, va_K.moved (u := U) (U := U.calling g mk a) (Vm.Alike.refl U.vm) qK, qD, qN.same rfl rfl⟩, va_recv hK hPc (ci := 2) (q0 := 0) rfl rfl, fun U hU hW => ⟨rfl, by rw [hU], by rw [hU]; exact hPc, va_K.moved hW.alike hK, hDc.weaken (fun _ _ _ _ => trivial), hSt.call hS hU hW hFc⟩⟩ rfl rfl hl.1 rfl (lv_room (Nat.le_of_ble_eq_true rfl)) dX2_readWindow_72 ⟨(show (w_70.toInt - xSz.toInt).toNat + 0 ≤ (200 - xSz.toInt).toNat by omega), (show (4 * (w_70.toInt - xSz.toInt).toNat) + 0 ≤ (4 * (200 - xSz.toInt).toNat) by omega)⟩) hS (fun q _ h => hFc q h) hFc (fun r_77 u_78 t H1 locs ht hvm hw_79 hB hz1 hk1 hS => ?_)
            try dsimp only at hw_79 hB
            obtain ⟨po_80, tw_81⟩ := hw_79
            obtain ⟨hP1, hD1⟩ := hB
            rw [ht] at hP1
            obtain ⟨hP, hD⟩ := va_joinQ (wr := [((ax 14), .inl (cA 4, 200, .inr (.inr (.inr (.inr w_71)))))]) (w1 := [((ax 13), .inr (2, [.ref (ax 11), .ref (ax 14), .int w_70, .int w_58, .int w_59, .int xRt, .int w_60, .int xRd, .int xLk])), ((ax 11), .inr (5, [.ref (ax 12), .int xTz])), ((ax 12), .inl (cA 0, 200, .inl gB))]) hP hD [0, 1, 2] [3] rfl rfl (by decide) (by decide) hk1 hFc hP1 hD1
            clear hz1
            rw [scs_9] at tw_81
            generalize H1 = H at hP hS ⊢
            replace hP : va_P (dC, dI) vwCl (([((ax 14), .inl (cA 4, 200, .inr (.inr (.inr (.inr w_71))))), ((ax 13), .inr (2, [.ref (ax 11), .ref (ax 14), .int w_70, .int w_58, .int w_59, .int xRt, .int w_60, .int xRd, .int xLk])), ((ax 11), .inr (5, [.ref (ax 12), .int xTz])), ((ax 12), .inl (cA 0, 200, .inl gB))] : va_W) ++ va_pl ([] ++ w_72) fm_76) H := hP
            replace hD : va_D A (([((ax 14), .inl (cA 4, 200, .inr (.inr (.inr (.inr w_71))))), ((ax 13), .inr (2, [.ref (ax 11), .ref (ax 14), .int w_70, .int w_58, .int w_59, .int xRt, .int w_60, .int xRd, .int xLk])), ((ax 11), .inr (5, [.ref (ax 12), .int xTz])), ((ax 12), .inl (cA 0, 200, .inl gB))] : va_W) ++ va_pl ([] ++ w_72) fm_76) := hD
            refine lv_if_eq (tgt := 87) hx hb dX2_readWindow_75 (by decide) (fun c_82 => ?_) (fun c_82 => ?_)
            · have dc_82 : r_77.toInt = 0 := jI_eq c_82 rfl (by decide)
              refine lv_iconst (v := 1) hx hb dX2_readWindow_87 (by decide) ?_
              have hP9 := hP.part (cx := [((ax 13), .inr (2, [.ref (ax 11), .ref (ax 14), .int w_70, .int w_58, .int w_59, .int xRt, .int w_60, .int xRd, .int xLk])), ((ax 11), .inr (5, [.ref (ax 12), .int xTz])), ((ax 12), .inl (cA 0, 200, .inl gB)), ((ax 14), .inl (cA 4, 200, .inr (.inr (.inr (.inr w_71)))))]) [1, 2, 3, 0] rfl
              have hD9 := hD.part (cx := [((ax 13), .inr (2, [.ref (ax 11), .ref (ax 14), .int w_70, .int w_58, .int w_59, .int xRt, .int w_60, .int xRd, .int xLk])), ((ax 11), .inr (5, [.ref (ax 12), .int xTz])), ((ax 12), .inl (cA 0, 200, .inl gB)), ((ax 14), .inl (cA 4, 200, .inr (.inr (.inr (.inr w_71)))))]) [1, 2, 3, 0] (by decide) rfl
              refine W.know (fun hkn1 hkn2 => ?_)
              have hBx : H.size ≤ s.heap.size + (w_70.toInt - xSz.toInt).toNat ∧ ssum s.heap.size H ≤ 4 * (w_70.toInt - xSz.toInt).toNat := ⟨by omega, by omega⟩
              subst hQe
              refine W.widen (k := (200 - xSz.toInt).toNat) (n := (4 * (200 - xSz.toInt).toNat)) (by omega) (by omega) ?_
              have hans : (1 : Int32).toInt = 1 := (by decide)
              have hpost : (0 ≤ w_70.toInt ∧ w_70.toInt ≤ 200) ∧ (0 ≤ w_58.toInt ∧ w_58.toInt ≤ 200) ∧ (0 ≤ w_59.toInt ∧ w_59.toInt ≤ 200) ∧ (w_58.toInt ≤ w_59.toInt ∧ w_59.toInt ≤ xTz.toInt ∧ (0 ≤ (1 : Int32).toInt ∧ (1 : Int32).toInt ≤ 1)) ∧ (tokOK gB w_58 w_59 xTz) ∧ (stq xSz.toInt w_70.toInt gSt w_71 ([] ++ w_72) fm_76) ∧ (rs w_60 w_58 w_59 xLk xRd = pwin (tpe gB xTz) xTz.toInt xPl.toInt xBe.toInt xLk.toInt xRd) ∧ ((¬ (1 : Int32).toInt = 0 → w_60.toInt = (-1)) ∧ ((1 : Int32).toInt = 0 → 0 ≤ w_60.toInt)) := ⟨iv_74, iv_61, iv_62, by omega, tk_64, sq_fm_76, (by rw [pwin, nm_ok nm_12 (by omega), tk_ok pt_25 (by omega), nm_ok nm_39 (by omega), tk_ok pt_52 (by omega), nm_ok nm_65 (by omega), if_neg (fun h => absurd (tw_81.mpr h) (fun q => q dc_82))]; exact rs_inr (by omega) rfl rfl (by omega) rfl), by omega⟩
              exact W.zret (v := 1) hx hb hr (by decide) (fun t ht hW => ⟨⟨1, (w_70, w_58, w_59, w_60, xRd, xLk, w_71, ([] ++ w_72), fm_76), rfl, hpost, by rw [ht]; exact hP9, hD9, by rw [ht]; exact hBx⟩, hS.F ht⟩) hS.2.2 dX2_readWindow_88
            · have dc_82 : ¬ r_77.toInt = 0 := jI_ne c_82 rfl (by decide)
              refine lv_aload_n hx hb dX2_readWindow_78 rfl (lv_at hl 3 rfl) ?_
              refine lv_iconst (v := 1) hx hb dX2_readWindow_79 (by decide) ?_
              refine va_put (D := (dC, dI)) (ci := 2) (v := .int 1) (ty := .boolean) (C := RX2) (T := TX2) (N := 9) hx hb hts hIX2 tyX2 tyX2_ok nmX2 hown hK hP hD hS 1 rfl rfl 8 (by decide) (hts (.fieldLink RX2 37 "TraitHouse$Reader" "leaks" "Z") (by decide +kernel)) (fun _ h9 => h9) rfl (by decide +kernel) rfl rfl (Nat.le_of_ble_eq_true rfl) dX2_readWindow_80 (fun H locs hP hD hS => ?_)
              replace hP : va_P (dC, dI) vwCl (([((ax 14), .inl (cA 4, 200, .inr (.inr (.inr (.inr w_71))))), ((ax 13), .inr (2, [.ref (ax 11), .ref (ax 14), .int w_70, .int w_58, .int w_59, .int xRt, .int w_60, .int xRd, .int 1])), ((ax 11), .inr (5, [.ref (ax 12), .int xTz])), ((ax 12), .inl (cA 0, 200, .inl gB))] : va_W) ++ va_pl ([] ++ w_72) fm_76) H := hP
              replace hD : va_D A (([((ax 14), .inl (cA 4, 200, .inr (.inr (.inr (.inr w_71))))), ((ax 13), .inr (2, [.ref (ax 11), .ref (ax 14), .int w_70, .int w_58, .int w_59, .int xRt, .int w_60, .int xRd, .int 1])), ((ax 11), .inr (5, [.ref (ax 12), .int xTz])), ((ax 12), .inl (cA 0, 200, .inl gB))] : va_W) ++ va_pl ([] ++ w_72) fm_76) := hD
              refine lv_aload_n hx hb dX2_readWindow_83 rfl (lv_at hl 3 rfl) ?_
              have hk_83 : (1 : Int32).toInt = 1 := by decide
              obtain ⟨hPc, hDc, hFc, hCc⟩ := va_pre (ws' := [((ax 13), .inr (2, [.ref (ax 11), .ref (ax 14), .int w_70, .int w_58, .int w_59, .int xRt, .int w_60, .int xRd, .int 1])), ((ax 11), .inr (5, [.ref (ax 12), .int xTz])), ((ax 12), .inl (cA 0, 200, .inl gB))]) hP hD hS hA [1, 2, 3] (by decide) rfl
              refine va_callv (va_runV (As := []) (rest := []) ⟨hx, hb, hml, hown, hts⟩ (k_X2_advance l dC dI cA H.size ax w_70 w_58 w_59 xRt w_60 xRd 1 xTz gB iv_74 iv_61 iv_62 i_xRt i_xTz i_gB (by omega)) (cwV 0 hts gX2_readWindow_X2_advance rfl rfl rfl (by decide +kernel) ⟨(show 1 + 1 ≤ 6 by omega), (show 8 + (3 + 11) + 23 ≤ 129 by omega)⟩) ⟨fun a U g mk q => by obtain ⟨q0, q1, qP, qK, qD, qN⟩ := q; exact ⟨q0, q1, qP, va_K.moved (u := U) (U := U.calling g mk a) (Vm.Alike.refl U.vm) qK, qD, qN.same rfl⟩, va_recv hK hPc (ci := 2) (q0 := 0) rfl rfl, fun U hU hW => ⟨rfl, by rw [hU], by rw [hU]; exact hPc, va_K.moved hW.alike hK, hDc.weaken (fun _ _ _ _ => trivial), hN.warm hW⟩⟩ rfl rfl hl.1 rfl (lv_room (Nat.le_of_ble_eq_true rfl)) dX2_readWindow_84 ⟨(show (w_70.toInt - xSz.toInt).toNat + 0 ≤ (200 - xSz.toInt).toNat by omega), (show (4 * (w_70.toInt - xSz.toInt).toNat) + 0 ≤ (4 * (200 - xSz.toInt).toNat) by omega)⟩) hS (fun q _ h => hFc q h) hFc (fun u_84 t H1 locs ht hvm hw_85 hB hz1 hk1 hS => ?_)
              obtain ⟨w_86, w_87⟩ := u_84
              try dsimp only at hw_85 hB
              obtain ⟨iv_88, iv_89, po_90, tk_91, ad_92⟩ := hw_85
              obtain ⟨hP1, hD1⟩ := hB
              rw [ht] at hP1
              obtain ⟨hP, hD⟩ := va_joinQ (wr := [((ax 14), .inl (cA 4, 200, .inr (.inr (.inr (.inr w_71)))))]) (w1 := [((ax 13), .inr (2, [.ref (ax 11), .ref (ax 14), .int w_70, .int w_86, .int w_87, .int xRt, .int w_60, .int xRd, .int 1])), ((ax 11), .inr (5, [.ref (ax 12), .int xTz])), ((ax 12), .inl (cA 0, 200, .inl gB))]) hP hD [1, 2, 3] [0] rfl rfl (by decide) (by decide) hk1 hFc hP1 hD1
              clear hz1
              generalize H1 = H at hP hS ⊢
              replace hP : va_P (dC, dI) vwCl (([((ax 14), .inl (cA 4, 200, .inr (.inr (.inr (.inr w_71))))), ((ax 13), .inr (2, [.ref (ax 11), .ref (ax 14), .int w_70, .int w_86, .int w_87, .int xRt, .int w_60, .int xRd, .int 1])), ((ax 11), .inr (5, [.ref (ax 12), .int xTz])), ((ax 12), .inl (cA 0, 200, .inl gB))] : va_W) ++ va_pl ([] ++ w_72) fm_76) H := hP
              replace hD : va_D A (([((ax 14), .inl (cA 4, 200, .inr (.inr (.inr (.inr w_71))))), ((ax 13), .inr (2, [.ref (ax 11), .ref (ax 14), .int w_70, .int w_86, .int w_87, .int xRt, .int w_60, .int xRd, .int 1])), ((ax 11), .inr (5, [.ref (ax 12), .int xTz])), ((ax 12), .inl (cA 0, 200, .inl gB))] : va_W) ++ va_pl ([] ++ w_72) fm_76) := hD
              refine lv_iconst (v := 1) hx hb dX2_readWindow_87 (by decide) ?_
              have hP9 := hP.part (cx := [((ax 13), .inr (2, [.ref (ax 11), .ref (ax 14), .int w_70, .int w_86, .int w_87, .int xRt, .int w_60, .int xRd, .int 1])), ((ax 11), .inr (5, [.ref (ax 12), .int xTz])), ((ax 12), .inl (cA 0, 200, .inl gB)), ((ax 14), .inl (cA 4, 200, .inr (.inr (.inr (.inr w_71)))))]) [1, 2, 3, 0] rfl
              have hD9 := hD.part (cx := [((ax 13), .inr (2, [.ref (ax 11), .ref (ax 14), .int w_70, .int w_86, .int w_87, .int xRt, .int w_60, .int xRd, .int 1])), ((ax 11), .inr (5, [.ref (ax 12), .int xTz])), ((ax 12), .inl (cA 0, 200, .inl gB)), ((ax 14), .inl (cA 4, 200, .inr (.inr (.inr (.inr w_71)))))]) [1, 2, 3, 0] (by decide) rfl
              refine W.know (fun hkn1 hkn2 => ?_)
              have hBx : H.size ≤ s.heap.size + (w_70.toInt - xSz.toInt).toNat ∧ ssum s.heap.size H ≤ 4 * (w_70.toInt - xSz.toInt).toNat := ⟨by omega, by omega⟩
              subst hQe
              refine W.widen (k := (200 - xSz.toInt).toNat) (n := (4 * (200 - xSz.toInt).toNat)) (by omega) (by omega) ?_
              have hans : (1 : Int32).toInt = 1 := (by decide)
              have hk_93 : (1 : Int32).toInt = 1 := by decide
              have hpost : (0 ≤ w_70.toInt ∧ w_70.toInt ≤ 200) ∧ (0 ≤ w_86.toInt ∧ w_86.toInt ≤ 200) ∧ (0 ≤ w_87.toInt ∧ w_87.toInt ≤ 200) ∧ (w_86.toInt ≤ w_87.toInt ∧ w_87.toInt ≤ xTz.toInt ∧ (0 ≤ (1 : Int32).toInt ∧ (1 : Int32).toInt ≤ 1)) ∧ (tokOK gB w_86 w_87 xTz) ∧ (stq xSz.toInt w_70.toInt gSt w_71 ([] ++ w_72) fm_76) ∧ (rs w_60 w_86 w_87 (1 : Int32) xRd = pwin (tpe gB xTz) xTz.toInt xPl.toInt xBe.toInt xLk.toInt xRd) ∧ ((¬ (1 : Int32).toInt = 0 → w_60.toInt = (-1)) ∧ ((1 : Int32).toInt = 0 → 0 ≤ w_60.toInt)) := ⟨iv_74, iv_88, iv_89, by omega, tk_91, sq_fm_76, (by rw [pwin, nm_ok nm_12 (by omega), tk_ok pt_25 (by omega), nm_ok nm_39 (by omega), tk_ok pt_52 (by omega), nm_ok nm_65 (by omega), if_pos (tw_81.mp dc_82), ← ad_92.2, ← ad_92.1]; exact rs_inr (by omega) rfl rfl (by omega) rfl), by omega⟩
              exact W.zret (v := 1) hx hb hr (by decide) (fun t ht hW => ⟨⟨1, (w_70, w_86, w_87, w_60, xRd, 1, w_71, ([] ++ w_72), fm_76), rfl, hpost, by rw [ht]; exact hP9, hD9, by rw [ht]; exact hBx⟩, hS.F ht⟩) hS.2.2 dX2_readWindow_88
          · have dc_67 : r_55.toInt = (-1) := jI_eq c_67 rfl (by decide)
            refine lv_iconst (v := 0) hx hb dX2_readWindow_58 (by decide) ?_
            have hP9 := hP.part (cx := [((ax 13), .inr (2, [.ref (ax 11), .ref (ax 14), .int xSz, .int w_58, .int w_59, .int xRt, .int w_60, .int xRd, .int xLk])), ((ax 11), .inr (5, [.ref (ax 12), .int xTz])), ((ax 12), .inl (cA 0, 200, .inl gB)), ((ax 14), .inl (cA 4, 200, .inr (.inr (.inr (.inr gSt)))))]) [1, 2, 3, 0] rfl
            have hD9 := hD.part (cx := [((ax 13), .inr (2, [.ref (ax 11), .ref (ax 14), .int xSz, .int w_58, .int w_59, .int xRt, .int w_60, .int xRd, .int xLk])), ((ax 11), .inr (5, [.ref (ax 12), .int xTz])), ((ax 12), .inl (cA 0, 200, .inl gB)), ((ax 14), .inl (cA 4, 200, .inr (.inr (.inr (.inr gSt)))))]) [1, 2, 3, 0] (by decide) rfl
            refine W.know (fun hkn1 hkn2 => ?_)
            have hBx : H.size ≤ s.heap.size + (xSz.toInt - xSz.toInt).toNat ∧ ssum s.heap.size H ≤ 4 * (xSz.toInt - xSz.toInt).toNat := ⟨by omega, by omega⟩
            subst hQe
            refine W.widen (k := (200 - xSz.toInt).toNat) (n := (4 * (200 - xSz.toInt).toNat)) (by omega) (by omega) ?_
            have hans : (0 : Int32).toInt = 0 := (by decide)
            have hpost : (0 ≤ xSz.toInt ∧ xSz.toInt ≤ 200) ∧ (0 ≤ w_58.toInt ∧ w_58.toInt ≤ 200) ∧ (0 ≤ w_59.toInt ∧ w_59.toInt ≤ 200) ∧ (w_58.toInt ≤ w_59.toInt ∧ w_59.toInt ≤ xTz.toInt ∧ (0 ≤ (0 : Int32).toInt ∧ (0 : Int32).toInt ≤ 1)) ∧ (tokOK gB w_58 w_59 xTz) ∧ (stq xSz.toInt xSz.toInt gSt gSt ([]) pfz) ∧ (rs w_60 w_58 w_59 xLk xRd = pwin (tpe gB xTz) xTz.toInt xPl.toInt xBe.toInt xLk.toInt xRd) ∧ ((¬ (0 : Int32).toInt = 0 → w_60.toInt = (-1)) ∧ ((0 : Int32).toInt = 0 → 0 ≤ w_60.toInt)) := ⟨i_xSz, iv_61, iv_62, by omega, tk_64, stq_0, (by rw [pwin, nm_ok nm_12 (by omega), tk_ok pt_25 (by omega), nm_ok nm_39 (by omega), tk_ok pt_52 (by omega), nm_no nm_65 (by omega)]; exact rs_inl (by omega) (by omega)), by omega⟩
            exact W.zret (v := 0) hx hb hr (by decide) (fun t ht hW => ⟨⟨0, (xSz, w_58, w_59, w_60, xRd, xLk, gSt, [], pfz), rfl, hpost, by rw [ht]; exact hP9, hD9, by rw [ht]; exact hBx⟩, hS.F ht⟩) hS.2.2 dX2_readWindow_59
        · have dc_54 : r_42.toInt = 0 := jI_eq c_54 rfl (by decide)
          refine lv_iconst (v := 0) hx hb dX2_readWindow_43 (by decide) ?_
          have hP9 := hP.part (cx := [((ax 13), .inr (2, [.ref (ax 11), .ref (ax 14), .int xSz, .int w_45, .int w_46, .int xRt, .int w_47, .int xRd, .int xLk])), ((ax 11), .inr (5, [.ref (ax 12), .int xTz])), ((ax 12), .inl (cA 0, 200, .inl gB)), ((ax 14), .inl (cA 4, 200, .inr (.inr (.inr (.inr gSt)))))]) [1, 2, 3, 0] rfl
          have hD9 := hD.part (cx := [((ax 13), .inr (2, [.ref (ax 11), .ref (ax 14), .int xSz, .int w_45, .int w_46, .int xRt, .int w_47, .int xRd, .int xLk])), ((ax 11), .inr (5, [.ref (ax 12), .int xTz])), ((ax 12), .inl (cA 0, 200, .inl gB)), ((ax 14), .inl (cA 4, 200, .inr (.inr (.inr (.inr gSt)))))]) [1, 2, 3, 0] (by decide) rfl
          refine W.know (fun hkn1 hkn2 => ?_)
          have hBx : H.size ≤ s.heap.size + (xSz.toInt - xSz.toInt).toNat ∧ ssum s.heap.size H ≤ 4 * (xSz.toInt - xSz.toInt).toNat := ⟨by omega, by omega⟩
          subst hQe
          refine W.widen (k := (200 - xSz.toInt).toNat) (n := (4 * (200 - xSz.toInt).toNat)) (by omega) (by omega) ?_
          have hans : (0 : Int32).toInt = 0 := (by decide)
          have hpost : (0 ≤ xSz.toInt ∧ xSz.toInt ≤ 200) ∧ (0 ≤ w_45.toInt ∧ w_45.toInt ≤ 200) ∧ (0 ≤ w_46.toInt ∧ w_46.toInt ≤ 200) ∧ (w_45.toInt ≤ w_46.toInt ∧ w_46.toInt ≤ xTz.toInt ∧ (0 ≤ (0 : Int32).toInt ∧ (0 : Int32).toInt ≤ 1)) ∧ (tokOK gB w_45 w_46 xTz) ∧ (stq xSz.toInt xSz.toInt gSt gSt ([]) pfz) ∧ (rs w_47 w_45 w_46 xLk xRd = pwin (tpe gB xTz) xTz.toInt xPl.toInt xBe.toInt xLk.toInt xRd) ∧ ((¬ (0 : Int32).toInt = 0 → w_47.toInt = (-1)) ∧ ((0 : Int32).toInt = 0 → 0 ≤ w_47.toInt)) := ⟨i_xSz, iv_48, iv_49, by omega, tk_51, stq_0, (by rw [pwin, nm_ok nm_12 (by omega), tk_ok pt_25 (by omega), nm_ok nm_39 (by omega), tk_no pt_52 (by omega)]; exact rs_inl (by omega) (by omega)), by omega⟩
          exact W.zret (v := 0) hx hb hr (by decide) (fun t ht hW => ⟨⟨0, (xSz, w_45, w_46, w_47, xRd, xLk, gSt, [], pfz), rfl, hpost, by rw [ht]; exact hP9, hD9, by rw [ht]; exact hBx⟩, hS.F ht⟩) hS.2.2 dX2_readWindow_44
    · have dc_27 : r_15.toInt = 0 := jI_eq c_27 rfl (by decide)
      refine lv_iconst (v := 0) hx hb dX2_readWindow_20 (by decide) ?_
      have hP9 := hP.part (cx := [((ax 13), .inr (2, [.ref (ax 11), .ref (ax 14), .int xSz, .int w_18, .int w_19, .int xRt, .int w_20, .int xRd, .int xLk])), ((ax 11), .inr (5, [.ref (ax 12), .int xTz])), ((ax 12), .inl (cA 0, 200, .inl gB)), ((ax 14), .inl (cA 4, 200, .inr (.inr (.inr (.inr gSt)))))]) [1, 2, 3, 0] rfl
      have hD9 := hD.part (cx := [((ax 13), .inr (2, [.ref (ax 11), .ref (ax 14), .int xSz, .int w_18, .int w_19, .int xRt, .int w_20, .int xRd, .int xLk])), ((ax 11), .inr (5, [.ref (ax 12), .int xTz])), ((ax 12), .inl (cA 0, 200, .inl gB)), ((ax 14), .inl (cA 4, 200, .inr (.inr (.inr (.inr gSt)))))]) [1, 2, 3, 0] (by decide) rfl
      refine W.know (fun hkn1 hkn2 => ?_)
      have hBx : H.size ≤ s.heap.size + (xSz.toInt - xSz.toInt).toNat ∧ ssum s.heap.size H ≤ 4 * (xSz.toInt - xSz.toInt).toNat := ⟨by omega, by omega⟩
      subst hQe
      refine W.widen (k := (200 - xSz.toInt).toNat) (n := (4 * (200 - xSz.toInt).toNat)) (by omega) (by omega) ?_
      have hans : (0 : Int32).toInt = 0 := (by decide)
      have hpost : (0 ≤ xSz.toInt ∧ xSz.toInt ≤ 200) ∧ (0 ≤ w_18.toInt ∧ w_18.toInt ≤ 200) ∧ (0 ≤ w_19.toInt ∧ w_19.toInt ≤ 200) ∧ (w_18.toInt ≤ w_19.toInt ∧ w_19.toInt ≤ xTz.toInt ∧ (0 ≤ (0 : Int32).toInt ∧ (0 : Int32).toInt ≤ 1)) ∧ (tokOK gB w_18 w_19 xTz) ∧ (stq xSz.toInt xSz.toInt gSt gSt ([]) pfz) ∧ (rs w_20 w_18 w_19 xLk xRd = pwin (tpe gB xTz) xTz.toInt xPl.toInt xBe.toInt xLk.toInt xRd) ∧ ((¬ (0 : Int32).toInt = 0 → w_20.toInt = (-1)) ∧ ((0 : Int32).toInt = 0 → 0 ≤ w_20.toInt)) := ⟨i_xSz, iv_21, iv_22, by omega, tk_24, stq_0, (by rw [pwin, nm_ok nm_12 (by omega), tk_no pt_25 (by omega)]; exact rs_inl (by omega) (by omega)), by omega⟩
      exact W.zret (v := 0) hx hb hr (by decide) (fun t ht hW => ⟨⟨0, (xSz, w_18, w_19, w_20, xRd, xLk, gSt, [], pfz), rfl, hpost, by rw [ht]; exact hP9, hD9, by rw [ht]; exact hBx⟩, hS.F ht⟩) hS.2.2 dX2_readWindow_21
