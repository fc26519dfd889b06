theorem dX8_traitAt_0 : decode cX8_traitAt 0 = .ok (.iload_n 1, 1) := by decide +kernel
theorem dX8_traitAt_1 : decode cX8_traitAt 1 = .ok (.ifCond .lt 20, 3) := by decide +kernel
theorem dX8_traitAt_21 : decode cX8_traitAt 21 = .ok (.aconst_null, 1) := by decide +kernel
theorem dX8_traitAt_22 : decode cX8_traitAt 22 = .ok (.areturn, 1) := by decide +kernel
theorem dX8_traitAt_4 : decode cX8_traitAt 4 = .ok (.iload_n 1, 1) := by decide +kernel
theorem dX8_traitAt_5 : decode cX8_traitAt 5 = .ok (.aload_n 0, 1) := by decide +kernel
theorem dX8_traitAt_6 : decode cX8_traitAt 6 = .ok (.getfield 148, 3) := by decide +kernel
theorem dX8_traitAt_9 : decode cX8_traitAt 9 = .ok (.if_icmp .ge 12, 3) := by decide +kernel
theorem dX8_traitAt_12 : decode cX8_traitAt 12 = .ok (.aload_n 0, 1) := by decide +kernel
theorem dX8_traitAt_13 : decode cX8_traitAt 13 = .ok (.getfield 45, 3) := by decide +kernel
theorem dX8_traitAt_16 : decode cX8_traitAt 16 = .ok (.iload_n 1, 1) := by decide +kernel
theorem dX8_traitAt_17 : decode cX8_traitAt 17 = .ok (.aaload, 1) := by decide +kernel
theorem dX8_traitAt_18 : decode cX8_traitAt 18 = .ok (.goto 4, 3) := by decide +kernel
theorem dX8_needsOf_0 : decode cX8_needsOf 0 = .ok (.iconst 0, 1) := by decide +kernel
theorem dX8_needsOf_1 : decode cX8_needsOf 1 = .ok (.istore_n 2, 1) := by decide +kernel
theorem dX8_needsOf_2 : decode cX8_needsOf 2 = .ok (.iconst 0, 1) := by decide +kernel
theorem dX8_needsOf_3 : decode cX8_needsOf 3 = .ok (.istore_n 3, 1) := by decide +kernel
theorem dX8_needsOf_4 : decode cX8_needsOf 4 = .ok (.iload_n 3, 1) := by decide +kernel
theorem dX8_needsOf_5 : decode cX8_needsOf 5 = .ok (.aload_n 0, 1) := by decide +kernel
theorem dX8_needsOf_6 : decode cX8_needsOf 6 = .ok (.getfield 148, 3) := by decide +kernel
theorem dX8_needsOf_9 : decode cX8_needsOf 9 = .ok (.if_icmp .ge 37, 3) := by decide +kernel
theorem dX8_needsOf_46 : decode cX8_needsOf 46 = .ok (.iload_n 2, 1) := by decide +kernel
theorem dX8_needsOf_47 : decode cX8_needsOf 47 = .ok (.ireturn, 1) := by decide +kernel
theorem dX8_needsOf_12 : decode cX8_needsOf 12 = .ok (.aload_n 0, 1) := by decide +kernel
theorem dX8_needsOf_13 : decode cX8_needsOf 13 = .ok (.iload_n 3, 1) := by decide +kernel
set_option maxRecDepth 20000 in
theorem ggX8_needsOf_X8_traitAt : GoodIn wsX8_needsOf wsX8_traitAt := goodIn_r _ [6, 1, 7, 11, 12, 13, 14, 15, 16, 17, 18, 19, 20, 21, 22, 23, 24, 25, 26, 27] (by decide +kernel) (by decide +kernel)
set_option maxRecDepth 20000 in
theorem gX8_needsOf_X8_traitAt : GoodIn wsX8_needsOf (wsV RX8 130 RX8 yX8_traitAt wsX8_traitAt) := goodIn_app (goodIn_of _ (by decide +kernel)) ggX8_needsOf_X8_traitAt
theorem dX8_needsOf_14 : decode cX8_needsOf 14 = .ok (.invokevirtual 130, 3) := by decide +kernel
theorem dX8_needsOf_17 : decode cX8_needsOf 17 = .ok (.astore 4, 2) := by decide +kernel
theorem dX8_needsOf_19 : decode cX8_needsOf 19 = .ok (.aload 4, 2) := by decide +kernel
theorem dX8_needsOf_21 : decode cX8_needsOf 21 = .ok (.ifnull 19, 3) := by decide +kernel
theorem dX8_needsOf_24 : decode cX8_needsOf 24 = .ok (.iload_n 1, 1) := by decide +kernel
theorem dX8_needsOf_25 : decode cX8_needsOf 25 = .ok (.iload_n 3, 1) := by decide +kernel
set_option maxRecDepth 20000 in
theorem ggX8_needsOf_X8_hasBit : GoodIn wsX8_needsOf wsX8_hasBit := goodIn_r _ [10] (by decide +kernel) (by decide +kernel)
set_option maxRecDepth 20000 in
theorem gX8_needsOf_X8_hasBit : GoodIn wsX8_needsOf (va_wsS RX8 256 yX8_hasBit wsX8_hasBit) := goodIn_app (goodIn_of _ (by decide +kernel)) ggX8_needsOf_X8_hasBit
theorem dX8_needsOf_26 : decode cX8_needsOf 26 = .ok (.invokestatic 256, 3) := by decide +kernel
theorem dX8_needsOf_29 : decode cX8_needsOf 29 = .ok (.ifCond .eq 11, 3) := by decide +kernel
theorem dX8_needsOf_40 : decode cX8_needsOf 40 = .ok (.iinc 3 1, 3) := by decide +kernel
theorem dX8_needsOf_43 : decode cX8_needsOf 43 = .ok (.goto (-39), 3) := by decide +kernel
theorem dX8_needsOf_32 : decode cX8_needsOf 32 = .ok (.iload_n 2, 1) := by decide +kernel
theorem dX8_needsOf_33 : decode cX8_needsOf 33 = .ok (.aload 4, 2) := by decide +kernel
theorem dX8_needsOf_35 : decode cX8_needsOf 35 = .ok (.getfield 297, 3) := by decide +kernel
theorem dX8_needsOf_38 : decode cX8_needsOf 38 = .ok (.ior, 1) := by decide +kernel
theorem dX8_needsOf_39 : decode cX8_needsOf 39 = .ok (.istore_n 2, 1) := by decide +kernel
theorem dX8_value_0 : decode cX8_value 0 = .ok (.aload_n 0, 1) := by decide +kernel
theorem dX8_value_1 : decode cX8_value 1 = .ok (.iload_n 1, 1) := by decide +kernel
set_option maxRecDepth 20000 in
theorem ggX8_value_X8_traitAt : GoodIn wsX8_value wsX8_traitAt := goodIn_r _ [7, 8, 9, 95, 96, 97, 98, 99, 100, 101, 102, 103, 104, 105, 106, 107, 108, 109, 110, 111] (by decide +kernel) (by decide +kernel)
set_option maxRecDepth 20000 in
theorem gX8_value_X8_traitAt : GoodIn wsX8_value (wsV RX8 130 RX8 yX8_traitAt wsX8_traitAt) := goodIn_app (goodIn_of _ (by decide +kernel)) ggX8_value_X8_traitAt
theorem dX8_value_2 : decode cX8_value 2 = .ok (.invokevirtual 130, 3) := by decide +kernel
theorem dX8_value_5 : decode cX8_value 5 = .ok (.ifnull 25, 3) := by decide +kernel
theorem dX8_value_8 : decode cX8_value 8 = .ok (.iload_n 2, 1) := by decide +kernel
set_option maxRecDepth 20000 in
theorem ggX8_value_X8_isPerson : GoodIn wsX8_value wsX8_isPerson := goodIn_r _ [12] (by decide +kernel) (by decide +kernel)
set_option maxRecDepth 20000 in
theorem gX8_value_X8_isPerson : GoodIn wsX8_value (va_wsS RX8 100 yX8_isPerson wsX8_isPerson) := goodIn_app (goodIn_of _ (by decide +kernel)) ggX8_value_X8_isPerson
theorem dX8_value_9 : decode cX8_value 9 = .ok (.invokestatic 100, 3) := by decide +kernel
theorem dX8_value_12 : decode cX8_value 12 = .ok (.ifCond .eq 18, 3) := by decide +kernel
theorem dX8_value_30 : decode cX8_value 30 = .ok (.ldc2_w 175, 3) := by decide +kernel
theorem dX8_value_33 : decode cX8_value 33 = .ok (.lreturn, 1) := by decide +kernel
theorem dX8_value_15 : decode cX8_value 15 = .ok (.iload_n 3, 1) := by decide +kernel
set_option maxRecDepth 20000 in
theorem ggX8_value_X8_isMoment : GoodIn wsX8_value wsX8_isMoment := goodIn_r _ [15, 16] (by decide +kernel) (by decide +kernel)
set_option maxRecDepth 20000 in
theorem gX8_value_X8_isMoment : GoodIn wsX8_value (va_wsS RX8 79 yX8_isMoment wsX8_isMoment) := goodIn_app (goodIn_of _ (by decide +kernel)) ggX8_value_X8_isMoment
theorem dX8_value_16 : decode cX8_value 16 = .ok (.invokestatic 79, 3) := by decide +kernel
theorem dX8_value_19 : decode cX8_value 19 = .ok (.ifCond .eq 11, 3) := by decide +kernel
theorem dX8_value_22 : decode cX8_value 22 = .ok (.iload 4, 2) := by decide +kernel
theorem dX8_value_24 : decode cX8_value 24 = .ok (.invokestatic 79, 3) := by decide +kernel
theorem dX8_value_27 : decode cX8_value 27 = .ok (.ifCond .ne 7, 3) := by decide +kernel
theorem dX8_value_34 : decode cX8_value 34 = .ok (.aload_n 0, 1) := by decide +kernel
theorem dX8_value_35 : decode cX8_value 35 = .ok (.getfield 54, 3) := by decide +kernel
theorem dX8_value_38 : decode cX8_value 38 = .ok (.iload_n 1, 1) := by decide +kernel
theorem dX8_value_39 : decode cX8_value 39 = .ok (.iload_n 2, 1) := by decide +kernel
theorem dX8_value_40 : decode cX8_value 40 = .ok (.iload_n 3, 1) := by decide +kernel
theorem dX8_value_41 : decode cX8_value 41 = .ok (.iload 4, 2) := by decide +kernel
set_option maxRecDepth 20000 in
theorem ggX8_value_X7_make : GoodIn wsX8_value wsX7_make := goodIn_r _ [20, 21, 22, 23, 24, 25, 26, 18, 27, 28, 29, 30, 31, 32, 33, 34, 35, 36, 37, 38, 39, 40, 41, 42, 43, 44, 6, 45, 46, 47, 48, 49, 50, 51, 52, 53, 54, 55, 56, 57, 58, 59, 60, 61, 62, 63, 64, 65, 66, 67, 68, 69, 70, 71, 72, 73, 74, 75, 76, 77, 78, 79, 80, 81, 82, 83, 84, 85, 86, 87, 88, 89, 90, 91, 92, 93, 94, 112, 113, 114, 115, 116, 117, 118, 119, 120, 121, 122, 123, 124, 125, 126, 127, 128, 129, 130, 131, 132, 133, 134, 135, 136, 137, 138, 139, 140, 141, 142, 143] (by decide +kernel) (by decide +kernel)
set_option maxRecDepth 20000 in
theorem gX8_value_X7_make_n177 : GoodIn wsX8_value (wsX7_make) := ggX8_value_X7_make
theorem dX8_value_43 : decode cX8_value 43 = .ok (.invokevirtual 177, 3) := by decide +kernel
theorem dX8_value_46 : decode cX8_value 46 = .ok (.lreturn, 1) := by decide +kernel
theorem dX8_law_0 : decode cX8_law 0 = .ok (.lload_n 2, 1) := by decide +kernel
theorem dX8_law_1 : decode cX8_law 1 = .ok (.lload 4, 2) := by decide +kernel
theorem dX8_law_3 : decode cX8_law 3 = .ok (.lcmp, 1) := by decide +kernel
theorem dX8_law_4 : decode cX8_law 4 = .ok (.ifCond .le 9, 3) := by decide +kernel
theorem dX8_law_13 : decode cX8_law 13 = .ok (.aload_n 0, 1) := by decide +kernel
theorem dX8_law_14 : decode cX8_law 14 = .ok (.iload_n 1, 1) := by decide +kernel
set_option maxRecDepth 20000 in
theorem ggX8_law_X8_traitAt : GoodIn wsX8_law wsX8_traitAt := goodIn_r _ [14, 15, 16, 25, 26, 27, 28, 29, 30, 31, 32, 33, 34, 35, 36, 37, 38, 39, 40, 41] (by decide +kernel) (by decide +kernel)
set_option maxRecDepth 20000 in
theorem gX8_law_X8_traitAt : GoodIn wsX8_law (wsV RX8 130 RX8 yX8_traitAt wsX8_traitAt) := goodIn_app (goodIn_of _ (by decide +kernel)) ggX8_law_X8_traitAt
theorem dX8_law_15 : decode cX8_law 15 = .ok (.invokevirtual 130, 3) := by decide +kernel
theorem dX8_law_18 : decode cX8_law 18 = .ok (.astore 6, 2) := by decide +kernel
theorem dX8_law_20 : decode cX8_law 20 = .ok (.aload 6, 2) := by decide +kernel
theorem dX8_law_22 : decode cX8_law 22 = .ok (.ifnonnull 10, 3) := by decide +kernel
theorem dX8_law_32 : decode cX8_law 32 = .ok (.aload 6, 2) := by decide +kernel
theorem dX8_law_34 : decode cX8_law 34 = .ok (.lload_n 2, 1) := by decide +kernel
theorem dX8_law_35 : decode cX8_law 35 = .ok (.putfield 181, 3) := by decide +kernel
theorem dX8_law_38 : decode cX8_law 38 = .ok (.aload 6, 2) := by decide +kernel
theorem dX8_law_40 : decode cX8_law 40 = .ok (.lload 4, 2) := by decide +kernel
theorem dX8_law_42 : decode cX8_law 42 = .ok (.putfield 185, 3) := by decide +kernel
theorem dX8_law_45 : decode cX8_law 45 = .ok (.aload_n 0, 1) := by decide +kernel
theorem dX8_law_46 : decode cX8_law 46 = .ok (.iconst 0, 1) := by decide +kernel
set_option maxRecDepth 20000 in
theorem ggX8_law_X8_settle : GoodIn wsX8_law wsX8_settle := goodIn_r _ [5, 6, 7, 8, 9, 10, 25, 26, 27, 28, 29, 30, 31, 32, 33, 34, 35, 36, 37, 38, 39, 40, 41] (by decide +kernel) (by decide +kernel)
set_option maxRecDepth 20000 in
theorem gX8_law_X8_settle : GoodIn wsX8_law (wsV RX8 86 RX8 yX8_settle wsX8_settle) := goodIn_app (goodIn_of _ (by decide +kernel)) ggX8_law_X8_settle
theorem dX8_law_47 : decode cX8_law 47 = .ok (.invokevirtual 86, 3) := by decide +kernel
theorem dX8_law_50 : decode cX8_law 50 = .ok (.ireturn, 1) := by decide +kernel
theorem dX8_law_25 : decode cX8_law 25 = .ok (.aload_n 0, 1) := by decide +kernel
theorem dX8_law_26 : decode cX8_law 26 = .ok (.bipush (-2), 2) := by decide +kernel
theorem dX8_law_28 : decode cX8_law 28 = .ok (.invokevirtual 86, 3) := by decide +kernel
theorem dX8_law_31 : decode cX8_law 31 = .ok (.ireturn, 1) := by decide +kernel
theorem dX8_law_7 : decode cX8_law 7 = .ok (.aload_n 0, 1) := by decide +kernel
theorem dX8_law_8 : decode cX8_law 8 = .ok (.iconst (-1), 1) := by decide +kernel
theorem dX8_law_9 : decode cX8_law 9 = .ok (.invokevirtual 86, 3) := by decide +kernel
theorem dX8_law_12 : decode cX8_law 12 = .ok (.ireturn, 1) := by decide +kernel
set_option maxHeartbeats 8000000 in
set_option maxRecDepth 100000 in
theorem k_X8_traitAt (l : Launch) (dC : Nat → ClassId) (dI : Nat → Nat → Nat) (cA : Nat → ClassId) (sz : Nat) (ax : Nat → Nat) (xNow : Int32) (xEr : Int32) (xTr : Int32) (xMo : Int32) (xFa : Int32) (xRe : Int32) (gTr : Nat → Option Nat) (a : Int32) (i_xNow : 0 ≤ xNow.toInt ∧ xNow.toInt ≤ 100000) (i_xTr : 0 ≤ xTr.toInt ∧ xTr.toInt ≤ 20) (i_xMo : 0 ≤ xMo.toInt ∧ xMo.toInt ≤ 10)  : Met l yX8_traitAt wsX8_traitAt ({ frames := 0, cells := 0, slots := 0, locals := 0 }) (va_Pc [.ref (ax 0), .int a] (fun U => U.heap.size = sz ∧ va_P (dC, dI) vwCl [((ax 0), .inr (8, [.ref (ax 1), .ref (ax 7), .ref (ax 10), .ref (ax 11), .ref (ax 13), .ref (ax 15), .ref (ax 16), .ref (ax 21), .ref (ax 26), .ref (ax 27), .ref (ax 28), .int xNow, .int xEr, .int xTr, .int xMo, .int xFa, .int xRe])), ((ax 15), .inl (cA 5, 20, .inr (.inr (.inr (.inr gTr)))))] U.heap ∧ va_K (dC, dI) vwCl (tyL cA) U ∧ va_D (fun _ => True) [((ax 0), .inr (8, [.ref (ax 1), .ref (ax 7), .ref (ax 10), .ref (ax 11), .ref (ax 13), .ref (ax 15), .ref (ax 16), .ref (ax 21), .ref (ax 26), .ref (ax 27), .ref (ax 28), .int xNow, .int xEr, .int xTr, .int xMo, .int xFa, .int xRe])), ((ax 15), .inl (cA 5, 20, .inr (.inr (.inr (.inr gTr)))))] ∧ nw_ok U)) (va_Qq (fun (r : Option Nat) (_ : Unit) => ((0 ≤ a.toInt ∧ a.toInt < xTr.toInt → r = gTr a.toNatClampNeg) ∧ (¬ (0 ≤ a.toInt ∧ a.toInt < xTr.toInt) → r = none))) (fun (_ : Unit) (t : State) => va_P (dC, dI) vwCl [((ax 0), .inr (8, [.ref (ax 1), .ref (ax 7), .ref (ax 10), .ref (ax 11), .ref (ax 13), .ref (ax 15), .ref (ax 16), .ref (ax 21), .ref (ax 26), .ref (ax 27), .ref (ax 28), .int xNow, .int xEr, .int xTr, .int xMo, .int xFa, .int xRe])), ((ax 15), .inl (cA 5, 20, .inr (.inr (.inr (.inr gTr)))))] t.heap ∧ va_D (va_A [((ax 0), .inr (8, [.ref (ax 1), .ref (ax 7), .ref (ax 10), .ref (ax 11), .ref (ax 13), .ref (ax 15), .ref (ax 16), .ref (ax 21), .ref (ax 26), .ref (ax 27), .ref (ax 28), .int xNow, .int xEr, .int xTr, .int xMo, .int xFa, .int xRe])), ((ax 15), .inl (cA 5, 20, .inr (.inr (.inr (.inr gTr)))))] sz) [((ax 0), .inr (8, [.ref (ax 1), .ref (ax 7), .ref (ax 10), .ref (ax 11), .ref (ax 13), .ref (ax 15), .ref (ax 16), .ref (ax 21), .ref (ax 26), .ref (ax 27), .ref (ax 28), .int xNow, .int xEr, .int xTr, .int xMo, .int xFa, .int xRe])), ((ax 15), .inl (cA 5, 20, .inr (.inr (.inr (.inr gTr)))))]) (va_A [((ax 0), .inr (8, [.ref (ax 1), .ref (ax 7), .ref (ax 10), .ref (ax 11), .ref (ax 13), .ref (ax 15), .ref (ax 16), .ref (ax 21), .ref (ax 26), .ref (ax 27), .ref (ax 28), .int xNow, .int xEr, .int xTr, .int xMo, .int xFa, .int xRe])), ((ax 15), .inl (cA 5, 20, .inr (.inr (.inr (.inr gTr)))))] sz)) 0 0 (va_A [((ax 0), .inr (8, [.ref (ax 1), .ref (ax 7), .ref (ax 10), .ref (ax 11), .ref (ax 13), .ref (ax 15), .ref (ax 16), .ref (ax 21), .ref (ax 26), .ref (ax 27), .ref (ax 28), .int xNow, .int xEr, .int xTr, .int xMo, .int xFa, .int xRe])), ((ax 15), .inl (cA 5, 20, .inr (.inr (.inr (.inr gTr)))))] sz) := by
  refine Met.ofW (cc := cX8_traitAt) (maxL := 2) (ret := (some (.object "TraitHouse$Trait"))) (by decide) rfl ?_
  intro p e s m args below meth c s₁ B hml hv
  obtain ⟨rfl, hsz, hP, hK, hD0, hN⟩ := hv
  have hx := B.exec
  have hb := B.bytes
  have hr := B.returns
  have hts := atoms_spec (ws := wsX8_traitAt) B.pre
  have hown : s.vm.findClass RX8 = some m.cls := findClass_of_methodNamed B.named
  have hlocks := B.notSynchronized
  subst hsz
  have hD := hD0.self (sz := s.heap.size)
  generalize hAe : va_A [((ax 0), .inr (8, [.ref (ax 1), .ref (ax 7), .ref (ax 10), .ref (ax 11), .ref (ax 13), .ref (ax 15), .ref (ax 16), .ref (ax 21), .ref (ax 26), .ref (ax 27), .ref (ax 28), .int xNow, .int xEr, .int xTr, .int xMo, .int xFa, .int xRe])), ((ax 15), .inl (cA 5, 20, .inr (.inr (.inr (.inr gTr)))))] s.heap.size = A at hD ⊢
  have hA : ∀ q : Nat, s.heap.size ≤ q → A q := fun q h => by rw [← hAe]; exact Or.inr h
  have hS : va_S A s.heap s.heap [] := va_S.rf
  have hIX8 : ∀ w ∈ u_ws RX8 TX8 17, w ∈ wsX8_traitAt := by decide +kernel
  have hl := lv_entry ([.ref (ax 0), .int a]) (n := 2) (Nat.le_of_ble_eq_true rfl)
  rw [lg_entry_eq]
  generalize (lg_sl ([.ref (ax 0), .int a]) ++ List.replicate (2 - (lg_sl ([.ref (ax 0), .int a])).length) Slot.unset).toArray = ls at hl ⊢
  have hl : lv_has ls 2 [(0, .ref (ax 0)), (1, .int a)] := hl
  generalize hQe : MQ below _ _ _ _ _ _ = QQ
  refine lv_iload_n hx hb dX8_traitAt_0 rfl (lv_at hl 1 rfl) ?_
  refine lv_if_lt (tgt := 21) hx hb dX8_traitAt_1 (by decide) (fun c_1 => ?_) (fun c_1 => ?_)
  · have dc_1 : a.toInt < 0 := jI_lt c_1 rfl (by decide)
    refine lv_null hx hb dX8_traitAt_21 ?_
    obtain ⟨hP9, hD9⟩ := va_pd (ws' := [((ax 0), .inr (8, [.ref (ax 1), .ref (ax 7), .ref (ax 10), .ref (ax 11), .ref (ax 13), .ref (ax 15), .ref (ax 16), .ref (ax 21), .ref (ax 26), .ref (ax 27), .ref (ax 28), .int xNow, .int xEr, .int xTr, .int xMo, .int xFa, .int xRe])), ((ax 15), .inl (cA 5, 20, .inr (.inr (.inr (.inr gTr)))))]) hP hD [0, 1] (by decide) rfl
    subst hQe
    have hpost : ((0 ≤ a.toInt ∧ a.toInt < xTr.toInt → (none : Option Nat) = gTr a.toNatClampNeg) ∧ (¬ (0 ≤ a.toInt ∧ a.toInt < xTr.toInt) → (none : Option Nat) = none)) := ⟨fun h => by exfalso; omega, fun _ => rfl⟩
    exact W.aret hx hb hr (Or.inl ⟨_, rfl⟩) (Or.inl rfl) (fun t ht hW => ⟨⟨none, (), rfl, hpost, by rw [ht]; exact hP9, hD9⟩, hS.F ht⟩) hS.2.2 dX8_traitAt_22
  · have dc_1 : 0 ≤ a.toInt := jI_nlt c_1 rfl (by decide)
    refine lv_iload_n hx hb dX8_traitAt_4 rfl (lv_at hl 1 rfl) ?_
    refine lv_aload_n hx hb dX8_traitAt_5 rfl (lv_at hl 0 rfl) ?_
    refine va_get (D := (dC, dI)) (ci := 8) (v := .int xTr) (C := RX8) (T := TX8) (N := 17) hx hb hts hIX8 hown hK hP 0 rfl rfl 13 (by decide) (hts (.fieldLink RX8 148 "TraitHouse" "traitsThere" "I") (by decide +kernel)) (fun _ h9 => h9) rfl dX8_traitAt_6 ?_
    refine lv_icmp_ge (tgt := 21) hx hb dX8_traitAt_9 (by decide) (fun c_2 => ?_) (fun c_2 => ?_)
    · have dc_2 : xTr.toInt ≤ a.toInt := jI_le c_2 rfl rfl
      refine lv_null hx hb dX8_traitAt_21 ?_
      obtain ⟨hP9, hD9⟩ := va_pd (ws' := [((ax 0), .inr (8, [.ref (ax 1), .ref (ax 7), .ref (ax 10), .ref (ax 11), .ref (ax 13), .ref (ax 15), .ref (ax 16), .ref (ax 21), .ref (ax 26), .ref (ax 27), .ref (ax 28), .int xNow, .int xEr, .int xTr, .int xMo, .int xFa, .int xRe])), ((ax 15), .inl (cA 5, 20, .inr (.inr (.inr (.inr gTr)))))]) hP hD [0, 1] (by decide) rfl
      subst hQe
      have hpost : ((0 ≤ a.toInt ∧ a.toInt < xTr.toInt → (none : Option Nat) = gTr a.toNatClampNeg) ∧ (¬ (0 ≤ a.toInt ∧ a.toInt < xTr.toInt) → (none : Option Nat) = none)) := ⟨fun h => by exfalso; omega, fun _ => rfl⟩
      exact W.aret hx hb hr (Or.inl ⟨_, rfl⟩) (Or.inl rfl) (fun t ht hW => ⟨⟨none, (), rfl, hpost, by rw [ht]; exact hP9, hD9⟩, hS.F ht⟩) hS.2.2 dX8_traitAt_22
    · have dc_2 : a.toInt < xTr.toInt := jI_nle c_2 rfl rfl
      refine lv_aload_n hx hb dX8_traitAt_12 rfl (lv_at hl 0 rfl) ?_
      refine va_get (D := (dC, dI)) (ci := 8) (v := .ref (ax 15)) (C := RX8) (T := TX8) (N := 17) hx hb hts hIX8 hown hK hP 0 rfl rfl 5 (by decide) (hts (.fieldLink RX8 45 "TraitHouse" "traits" "[LTraitHouse$Trait;") (by decide +kernel)) (fun _ h9 => h9) rfl dX8_traitAt_13 ?_
      refine lv_iload_n hx hb dX8_traitAt_16 rfl (lv_at hl 1 rfl) ?_
      have h_3 : vp_in a 20 := (vp_in_iff.mpr ⟨by omega, by omega⟩)
      refine va_aldq hx hb hK hP 1 5 rfl rfl h_3 dX8_traitAt_17 ?_
      refine lv_goto (tgt := 22) hx hb dX8_traitAt_18 (by decide) ?_
      obtain ⟨hP9, hD9⟩ := va_pd (ws' := [((ax 0), .inr (8, [.ref (ax 1), .ref (ax 7), .ref (ax 10), .ref (ax 11), .ref (ax 13), .ref (ax 15), .ref (ax 16), .ref (ax 21), .ref (ax 26), .ref (ax 27), .ref (ax 28), .int xNow, .int xEr, .int xTr, .int xMo, .int xFa, .int xRe])), ((ax 15), .inl (cA 5, 20, .inr (.inr (.inr (.inr gTr)))))]) hP hD [0, 1] (by decide) rfl
      subst hQe
      have hpost : ((0 ≤ a.toInt ∧ a.toInt < xTr.toInt → (gTr a.toNatClampNeg) = gTr a.toNatClampNeg) ∧ (¬ (0 ≤ a.toInt ∧ a.toInt < xTr.toInt) → (gTr a.toNatClampNeg) = none)) := ⟨fun _ => rfl, fun h => by exfalso; omega⟩
      exact W.aret hx hb hr (Or.inl ⟨_, rfl⟩) (va_rf_or _) (fun t ht hW => ⟨⟨(gTr a.toNatClampNeg), (), rfl, hpost, by rw [ht]; exact hP9, hD9⟩, hS.F ht⟩) hS.2.2 dX8_traitAt_22

set_option maxHeartbeats 8000000 in
set_option maxRecDepth 100000 in
theorem k_X8_needsOf (l : Launch) (dC : Nat → ClassId) (dI : Nat → Nat → Nat) (cA : Nat → ClassId) (sz : Nat) (ax : Nat → Nat) (xNow : Int32) (xEr : Int32) (xTr : Int32) (xMo : Int32) (xFa : Int32) (xRe : Int32) (gTr : Nat → Option Nat) (L : List Nat) (pf : Nat → va_E) (a : Int32) (nd : Nat → Int32) (sl : Nat → Int32) (i_xNow : 0 ≤ xNow.toInt ∧ xNow.toInt ≤ 100000) (i_xTr : 0 ≤ xTr.toInt ∧ xTr.toInt ≤ 20) (i_xMo : 0 ≤ xMo.toInt ∧ xMo.toInt ≤ 10) (hTP : TP cA xTr gTr L pf nd sl) : Met l yX8_needsOf wsX8_needsOf ({ frames := 1, cells := 0, slots := 0, locals := 21 }) (va_Pc [.ref (ax 0), .int a] (fun U => U.heap.size = sz ∧ va_P (dC, dI) vwCl (([((ax 0), .inr (8, [.ref (ax 1), .ref (ax 7), .ref (ax 10), .ref (ax 11), .ref (ax 13), .ref (ax 15), .ref (ax 16), .ref (ax 21), .ref (ax 26), .ref (ax 27), .ref (ax 28), .int xNow, .int xEr, .int xTr, .int xMo, .int xFa, .int xRe])), ((ax 15), .inl (cA 5, 20, .inr (.inr (.inr (.inr gTr)))))] : va_W) ++ va_pl L pf) U.heap ∧ va_K (dC, dI) vwCl (tyL cA) U ∧ va_D (fun _ => True) (([((ax 0), .inr (8, [.ref (ax 1), .ref (ax 7), .ref (ax 10), .ref (ax 11), .ref (ax 13), .ref (ax 15), .ref (ax 16), .ref (ax 21), .ref (ax 26), .ref (ax 27), .ref (ax 28), .int xNow, .int xEr, .int xTr, .int xMo, .int xFa, .int xRe])), ((ax 15), .inl (cA 5, 20, .inr (.inr (.inr (.inr gTr)))))] : va_W) ++ va_pl L pf) ∧ nw_ok U)) (va_Qi (fun (r : Int32) (_ : Unit) => (r = nds nd a xTr.toInt.toNat)) (fun (_ : Unit) (t : State) => va_P (dC, dI) vwCl (([((ax 0), .inr (8, [.ref (ax 1), .ref (ax 7), .ref (ax 10), .ref (ax 11), .ref (ax 13), .ref (ax 15), .ref (ax 16), .ref (ax 21), .ref (ax 26), .ref (ax 27), .ref (ax 28), .int xNow, .int xEr, .int xTr, .int xMo, .int xFa, .int xRe])), ((ax 15), .inl (cA 5, 20, .inr (.inr (.inr (.inr gTr)))))] : va_W) ++ va_pl L pf) t.heap ∧ va_D (va_A (([((ax 0), .inr (8, [.ref (ax 1), .ref (ax 7), .ref (ax 10), .ref (ax 11), .ref (ax 13), .ref (ax 15), .ref (ax 16), .ref (ax 21), .ref (ax 26), .ref (ax 27), .ref (ax 28), .int xNow, .int xEr, .int xTr, .int xMo, .int xFa, .int xRe])), ((ax 15), .inl (cA 5, 20, .inr (.inr (.inr (.inr gTr)))))] : va_W) ++ va_pl L pf) sz) (([((ax 0), .inr (8, [.ref (ax 1), .ref (ax 7), .ref (ax 10), .ref (ax 11), .ref (ax 13), .ref (ax 15), .ref (ax 16), .ref (ax 21), .ref (ax 26), .ref (ax 27), .ref (ax 28), .int xNow, .int xEr, .int xTr, .int xMo, .int xFa, .int xRe])), ((ax 15), .inl (cA 5, 20, .inr (.inr (.inr (.inr gTr)))))] : va_W) ++ va_pl L pf)) (va_A (([((ax 0), .inr (8, [.ref (ax 1), .ref (ax 7), .ref (ax 10), .ref (ax 11), .ref (ax 13), .ref (ax 15), .ref (ax 16), .ref (ax 21), .ref (ax 26), .ref (ax 27), .ref (ax 28), .int xNow, .int xEr, .int xTr, .int xMo, .int xFa, .int xRe])), ((ax 15), .inl (cA 5, 20, .inr (.inr (.inr (.inr gTr)))))] : va_W) ++ va_pl L pf) sz)) 0 0 (va_A (([((ax 0), .inr (8, [.ref (ax 1), .ref (ax 7), .ref (ax 10), .ref (ax 11), .ref (ax 13), .ref (ax 15), .ref (ax 16), .ref (ax 21), .ref (ax 26), .ref (ax 27), .ref (ax 28), .int xNow, .int xEr, .int xTr, .int xMo, .int xFa, .int xRe])), ((ax 15), .inl (cA 5, 20, .inr (.inr (.inr (.inr gTr)))))] : va_W) ++ va_pl L pf) sz) := by
  refine Met.ofW (cc := cX8_needsOf) (maxL := 5) (ret := (some .int)) (by decide) rfl ?_
  intro p e s m args below meth c s₁ B hml hv
  obtain ⟨rfl, hsz, hP, hK, hD0, hN⟩ := hv
  have hx := B.exec
  have hb := B.bytes
  have hr := B.returns
  have hts := atoms_spec (ws := wsX8_needsOf) B.pre
  have hown : s.vm.findClass RX8 = some m.cls := findClass_of_methodNamed B.named
  have hlocks := B.notSynchronized
  subst hsz
  have hD := hD0.self (sz := s.heap.size)
  generalize hAe : va_A (([((ax 0), .inr (8, [.ref (ax 1), .ref (ax 7), .ref (ax 10), .ref (ax 11), .ref (ax 13), .ref (ax 15), .ref (ax 16), .ref (ax 21), .ref (ax 26), .ref (ax 27), .ref (ax 28), .int xNow, .int xEr, .int xTr, .int xMo, .int xFa, .int xRe])), ((ax 15), .inl (cA 5, 20, .inr (.inr (.inr (.inr gTr)))))] : va_W) ++ va_pl L pf) s.heap.size = A at hD ⊢
  have hA : ∀ q : Nat, s.heap.size ≤ q → A q := fun q h => by rw [← hAe]; exact Or.inr h
  have hS : va_S A s.heap s.heap [] := va_S.rf
  have hIX6 : ∀ w ∈ u_ws RX6 TX6 8, w ∈ wsX8_needsOf := by decide +kernel
  have hIX8 : ∀ w ∈ u_ws RX8 TX8 17, w ∈ wsX8_needsOf := by decide +kernel
  have hl := lv_entry ([.ref (ax 0), .int a]) (n := 5) (Nat.le_of_ble_eq_true rfl)
  rw [lg_entry_eq]
  generalize (lg_sl ([.ref (ax 0), .int a]) ++ List.replicate (5 - (lg_sl ([.ref (ax 0), .int a])).length) Slot.unset).toArray = ls at hl ⊢
  have hl : lv_has ls 5 [(0, .ref (ax 0)), (1, .int a)] := hl
  generalize hQe : MQ below _ _ _ _ _ _ = QQ
  refine lv_iconst (v := 0) hx hb dX8_needsOf_0 (by decide) ?_
  refine lv_istore_n (lv' := [(2, .int 0), (0, .ref (ax 0)), (1, .int a)]) hx hb dX8_needsOf_1 rfl hl (by decide) rfl (fun ls hl => ?_)
  refine lv_iconst (v := 0) hx hb dX8_needsOf_2 (by decide) ?_
  refine lv_istore_n (lv' := [(3, .int 0), (2, .int 0), (0, .ref (ax 0)), (1, .int a)]) hx hb dX8_needsOf_3 rfl hl (by decide) rfl (fun ls hl => ?_)
  have loop4_1 : ∀ (n : Nat) (i3 : Int32) (n2 : Int32) (H : Heap) (locs : List Loc) (ls : Array Slot), 20 - i3.toInt < (n : Int) → (0 ≤ i3.toInt ∧ i3.toInt ≤ 20) → (i3.toInt ≤ xTr.toInt) → (n2 = nds nd a i3.toInt.toNat) → va_P (dC, dI) vwCl (([((ax 0), .inr (8, [.ref (ax 1), .ref (ax 7), .ref (ax 10), .ref (ax 11), .ref (ax 13), .ref (ax 15), .ref (ax 16), .ref (ax 21), .ref (ax 26), .ref (ax 27), .ref (ax 28), .int xNow, .int xEr, .int xTr, .int xMo, .int xFa, .int xRe])), ((ax 15), .inl (cA 5, 20, .inr (.inr (.inr (.inr gTr)))))] : va_W) ++ va_pl L pf) H → va_D A (([((ax 0), .inr (8, [.ref (ax 1), .ref (ax 7), .ref (ax 10), .ref (ax 11), .ref (ax 13), .ref (ax 15), .ref (ax 16), .ref (ax 21), .ref (ax 26), .ref (ax 27), .ref (ax 28), .int xNow, .int xEr, .int xTr, .int xMo, .int xFa, .int xRe])), ((ax 15), .inl (cA 5, 20, .inr (.inr (.inr (.inr gTr)))))] : va_W) ++ va_pl L pf) → va_S A s.heap H locs → lv_has ls 5 [(3, .int i3), (2, .int n2), (0, .ref (ax 0)), (1, .int a)] → W p l e ({ frames := 1, cells := 0, slots := 0, locals := 21 }) s m ([.ref (ax 0), .int a] : List Value).toArray below meth c H locs 0 0 QQ (F0 m 4 ls []) := by
    intro n
    induction n with
    | zero => intro i3 n2 H locs ls hme hv0_4 hv1_4 hv2_4; exfalso; omega
    | succ n ih_4 =>
      intro i3 n2 H locs ls hme_4 hv0_4 hv1_4 hv2_4 hP hD hS hl
      refine lv_iload_n hx hb dX8_needsOf_4 rfl (lv_at hl 0 rfl) ?_
      refine lv_aload_n hx hb dX8_needsOf_5 rfl (lv_at hl 2 rfl) ?_
      refine va_get (D := (dC, dI)) (ci := 8) (v := .int xTr) (C := RX8) (T := TX8) (N := 17) hx hb hts hIX8 hown hK hP 0 rfl rfl 13 (by decide) (hts (.fieldLink RX8 148 "TraitHouse" "traitsThere" "I") (by decide +kernel)) (fun _ h9 => h9) rfl dX8_needsOf_6 ?_
      refine lv_icmp_ge (tgt := 46) hx hb dX8_needsOf_9 (by decide) (fun c_2 => ?_) (fun c_2 => ?_)
      · have dc_2 : xTr.toInt ≤ i3.toInt := jI_le c_2 rfl rfl
        refine lv_iload_n hx hb dX8_needsOf_46 rfl (lv_at hl 1 rfl) ?_
        have hP9 := hP.part (cx := [((ax 0), .inr (8, [.ref (ax 1), .ref (ax 7), .ref (ax 10), .ref (ax 11), .ref (ax 13), .ref (ax 15), .ref (ax 16), .ref (ax 21), .ref (ax 26), .ref (ax 27), .ref (ax 28), .int xNow, .int xEr, .int xTr, .int xMo, .int xFa, .int xRe])), ((ax 15), .inl (cA 5, 20, .inr (.inr (.inr (.inr gTr)))))]) [0, 1] rfl
        have hD9 := hD.part (cx := [((ax 0), .inr (8, [.ref (ax 1), .ref (ax 7), .ref (ax 10), .ref (ax 11), .ref (ax 13), .ref (ax 15), .ref (ax 16), .ref (ax 21), .ref (ax 26), .ref (ax 27), .ref (ax 28), .int xNow, .int xEr, .int xTr, .int xMo, .int xFa, .int xRe])), ((ax 15), .inl (cA 5, 20, .inr (.inr (.inr (.inr gTr)))))]) [0, 1] (by decide) rfl
        subst hQe
        have hans : (n2 : Int32).toInt = n2.toInt := rfl
        have hpost : ((n2 : Int32) = nds nd a xTr.toInt.toNat) := (by rw [← show i3.toInt.toNat = xTr.toInt.toNat by omega]; exact hv2_4)
        exact W.iret (v := n2) hx hb hr (fun t ht hW => ⟨⟨n2, (), rfl, hpost, by rw [ht]; exact hP9, hD9⟩, hS.F ht⟩) hS.2.2 dX8_needsOf_47
      · have dc_2 : i3.toInt < xTr.toInt := jI_nle c_2 rfl rfl
        refine lv_aload_n hx hb dX8_needsOf_12 rfl (lv_at hl 2 rfl) ?_
        refine lv_iload_n hx hb dX8_needsOf_13 rfl (lv_at hl 0 rfl) ?_
        obtain ⟨hPc, hDc, hFc, hCc⟩ := va_pre (ws' := [((ax 0), .inr (8, [.ref (ax 1), .ref (ax 7), .ref (ax 10), .ref (ax 11), .ref (ax 13), .ref (ax 15), .ref (ax 16), .ref (ax 21), .ref (ax 26), .ref (ax 27), .ref (ax 28), .int xNow, .int xEr, .int xTr, .int xMo, .int xFa, .int xRe])), ((ax 15), .inl (cA 5, 20, .inr (.inr (.inr (.inr gTr)))))]) hP hD hS hA [0, 1] (by decide) rfl
        refine va_callq (va_runV (As := [.int i3]) (rest := []) ⟨hx, hb, hml, hown, hts⟩ (k_X8_traitAt l dC dI cA H.size ax xNow xEr xTr xMo xFa xRe gTr i3 i_xNow i_xTr i_xMo) (cwV 1 hts gX8_needsOf_X8_traitAt rfl rfl rfl (by decide +kernel) ⟨Nat.le_of_ble_eq_true rfl, Nat.le_of_ble_eq_true rfl⟩) ⟨fun a U g mk q => by obtain ⟨q0, q1, qP, qK, qD, qN⟩ := q; exact ⟨q0, q1, qP, va_K.moved (u := U) (U := U.calling g mk a) (Vm.Alike.refl U.vm) qK, qD, qN.same rfl⟩, va_recv hK hPc (ci := 8) (q0 := 0) rfl rfl, fun U hU hW => ⟨rfl, by rw [hU], by rw [hU]; exact hPc, va_K.moved hW.alike hK, hDc.weaken (fun _ _ _ _ => trivial), hN.warm hW⟩⟩ rfl rfl hl.1 rfl (lv_room (Nat.le_of_ble_eq_true rfl)) dX8_needsOf_14 ⟨Nat.le_of_ble_eq_true rfl, Nat.le_of_ble_eq_true rfl⟩) hS (fun q _ h => hFc q h) hFc (fun r_3 u_4 t H1 locs ht hvm hw_5 hB hz1 hk1 hS => ?_)
        try dsimp only at hw_5 hB
        have po_6 := hw_5
        clear hw_5
        obtain ⟨hP1, hD1⟩ := hB
        rw [ht] at hP1
        obtain ⟨hP, hD⟩ := va_joinQ (wr := []) (w1 := [((ax 0), .inr (8, [.ref (ax 1), .ref (ax 7), .ref (ax 10), .ref (ax 11), .ref (ax 13), .ref (ax 15), .ref (ax 16), .ref (ax 21), .ref (ax 26), .ref (ax 27), .ref (ax 28), .int xNow, .int xEr, .int xTr, .int xMo, .int xFa, .int xRe])), ((ax 15), .inl (cA 5, 20, .inr (.inr (.inr (.inr gTr)))))]) hP hD [0, 1] [] rfl rfl (by decide) (by decide) hk1 hFc hP1 hD1
        clear hz1
        generalize H1 = H at hP hS ⊢
        replace hP : va_P (dC, dI) vwCl (([((ax 0), .inr (8, [.ref (ax 1), .ref (ax 7), .ref (ax 10), .ref (ax 11), .ref (ax 13), .ref (ax 15), .ref (ax 16), .ref (ax 21), .ref (ax 26), .ref (ax 27), .ref (ax 28), .int xNow, .int xEr, .int xTr, .int xMo, .int xFa, .int xRe])), ((ax 15), .inl (cA 5, 20, .inr (.inr (.inr (.inr gTr)))))] : va_W) ++ va_pl L pf) H := hP
        replace hD : va_D A (([((ax 0), .inr (8, [.ref (ax 1), .ref (ax 7), .ref (ax 10), .ref (ax 11), .ref (ax 13), .ref (ax 15), .ref (ax 16), .ref (ax 21), .ref (ax 26), .ref (ax 27), .ref (ax 28), .int xNow, .int xEr, .int xTr, .int xMo, .int xFa, .int xRe])), ((ax 15), .inl (cA 5, 20, .inr (.inr (.inr (.inr gTr)))))] : va_W) ++ va_pl L pf) := hD
        by_cases hT_7 : 0 ≤ i3.toInt ∧ i3.toInt < xTr.toInt
        · have hrq := po_6.1 hT_7
          obtain ⟨ndv_7, hnd_7⟩ : ∃ z : Int32, z = nd i3.toNatClampNeg := ⟨_, rfl⟩
          obtain ⟨slv_7, hsl_7⟩ : ∃ z : Int32, z = sl i3.toNatClampNeg := ⟨_, rfl⟩
          obtain ⟨t_7, hte_7, hok_7⟩ := TP_at (i := i3) hTP (by omega) (by omega)
          rw [← hnd_7, ← hsl_7] at hok_7
          have hok9 := hok_7
          obtain ⟨htm_7, s_7, v_7, m_7, lf_7, lt_7, he_7, htf_7, hso_7, hvm_7, ⟨kv_7, hvf_7⟩, hmm_7, km_7, hmf_7⟩ := hok9
          rw [hte_7] at hrq
          obtain rfl : r_3 = some t_7 := hrq
          refine W.eq (g2 := F0 m 17 ls [.ref t_7]) rfl ?_
          refine lv_astore (lv' := [(4, .ref t_7), (3, .int i3), (2, .int n2), (0, .ref (ax 0)), (1, .int a)]) hx hb dX8_needsOf_17 hl (by decide) rfl (fun ls hl => ?_)
          refine lv_aload hx hb dX8_needsOf_19 (lv_at hl 0 rfl) ?_
          refine lv_ifnull hx hb dX8_needsOf_21 ?_
          refine lv_iload_n hx hb dX8_needsOf_24 rfl (lv_at hl 4 rfl) ?_
          refine lv_iload_n hx hb dX8_needsOf_25 rfl (lv_at hl 1 rfl) ?_
          obtain ⟨hPc, hDc, hFc, hCc⟩ := va_pre (ws' := []) hP hD hS hA [] (by decide) rfl
          refine va_calli (va_runS (As := [.int a, .int i3]) (rest := []) ⟨hx, hb, hml, hown, hts⟩ (k_X8_hasBit l dC dI cA H.size a i3 (by omega)) (va_cwS 2 hts gX8_needsOf_X8_hasBit rfl rfl rfl (by decide +kernel) ⟨Nat.le_of_ble_eq_true rfl, Nat.le_of_ble_eq_true rfl⟩) ⟨fun a U g mk q => by obtain ⟨q0, q1, qP, qK, qD, qN⟩ := q; exact ⟨q0, q1, qP, va_K.moved (u := U) (U := U.calling g mk a) (Vm.Alike.refl U.vm) qK, qD, qN.same rfl⟩, fun U hU hW => ⟨rfl, by rw [hU], by rw [hU]; exact hPc, va_K.moved hW.alike hK, hDc.weaken (fun _ _ _ _ => trivial), hN.warm hW⟩⟩ rfl rfl hl.1 rfl (lv_room (Nat.le_of_ble_eq_true rfl)) dX8_needsOf_26 ⟨Nat.le_of_ble_eq_true rfl, Nat.le_of_ble_eq_true rfl⟩) hS (fun q _ h => hFc q h) hFc (fun r_8 u_9 t H1 locs ht hvm hw_10 hB hz1 hk1 hS => ?_)
          try dsimp only at hw_10 hB
          obtain ⟨po_11, tb_12⟩ := hw_10
          obtain ⟨hP1, hD1⟩ := hB
          rw [ht] at hP1
          obtain ⟨hP, hD⟩ := va_joinQ (wr := [((ax 0), .inr (8, [.ref (ax 1), .ref (ax 7), .ref (ax 10), .ref (ax 11), .ref (ax 13), .ref (ax 15), .ref (ax 16), .ref (ax 21), .ref (ax 26), .ref (ax 27), .ref (ax 28), .int xNow, .int xEr, .int xTr, .int xMo, .int xFa, .int xRe])), ((ax 15), .inl (cA 5, 20, .inr (.inr (.inr (.inr gTr)))))]) (w1 := []) hP hD [] [0, 1] rfl rfl (by decide) (by decide) hk1 hFc hP1 hD1
          clear hz1
          generalize H1 = H at hP hS ⊢
          replace hP : va_P (dC, dI) vwCl (([((ax 0), .inr (8, [.ref (ax 1), .ref (ax 7), .ref (ax 10), .ref (ax 11), .ref (ax 13), .ref (ax 15), .ref (ax 16), .ref (ax 21), .ref (ax 26), .ref (ax 27), .ref (ax 28), .int xNow, .int xEr, .int xTr, .int xMo, .int xFa, .int xRe])), ((ax 15), .inl (cA 5, 20, .inr (.inr (.inr (.inr gTr)))))] : va_W) ++ va_pl L pf) H := hP
          replace hD : va_D A (([((ax 0), .inr (8, [.ref (ax 1), .ref (ax 7), .ref (ax 10), .ref (ax 11), .ref (ax 13), .ref (ax 15), .ref (ax 16), .ref (ax 21), .ref (ax 26), .ref (ax 27), .ref (ax 28), .int xNow, .int xEr, .int xTr, .int xMo, .int xFa, .int xRe])), ((ax 15), .inl (cA 5, 20, .inr (.inr (.inr (.inr gTr)))))] : va_W) ++ va_pl L pf) := hD
          refine lv_if_eq (tgt := 40) hx hb dX8_needsOf_29 (by decide) (fun c_13 => ?_) (fun c_13 => ?_)
          · have dc_13 : r_8.toInt = 0 := jI_eq c_13 rfl (by decide)
            obtain ⟨x_14, ex_14⟩ : ∃ y : Int32, y = i3 + 1 := ⟨_, rfl⟩
            have dx_14 : x_14.toInt = i3.toInt + 1 := by rw [ex_14]; exact jI_add rfl (by decide) (by omega) (by omega)
            refine lv_iinc (v := x_14) (lv' := [(3, .int x_14), (4, .ref t_7), (2, .int n2), (0, .ref (ax 0)), (1, .int a)]) hx hb dX8_needsOf_40 hl (k := 1) rfl (by rw [ex_14]; rfl) (by decide) rfl (fun ls hl => ?_)
            refine lv_goto (tgt := 4) hx hb dX8_needsOf_43 (by decide) ?_
            exact ih_4 x_14 n2 _ _ ls (by omega) (by omega) (by omega) (nds_s0 hv2_4 (by omega) (fun h => absurd (tb_12.mpr h) (by omega)) (by omega)) (hP.part (cx := [((ax 0), .inr (8, [.ref (ax 1), .ref (ax 7), .ref (ax 10), .ref (ax 11), .ref (ax 13), .ref (ax 15), .ref (ax 16), .ref (ax 21), .ref (ax 26), .ref (ax 27), .ref (ax 28), .int xNow, .int xEr, .int xTr, .int xMo, .int xFa, .int xRe])), ((ax 15), .inl (cA 5, 20, .inr (.inr (.inr (.inr gTr)))))]) [0, 1] rfl) (hD.part (cx := [((ax 0), .inr (8, [.ref (ax 1), .ref (ax 7), .ref (ax 10), .ref (ax 11), .ref (ax 13), .ref (ax 15), .ref (ax 16), .ref (ax 21), .ref (ax 26), .ref (ax 27), .ref (ax 28), .int xNow, .int xEr, .int xTr, .int xMo, .int xFa, .int xRe])), ((ax 15), .inl (cA 5, 20, .inr (.inr (.inr (.inr gTr)))))]) [0, 1] (by decide) rfl) hS (lv_sub hl [0, 2, 3, 4] rfl)
          · have dc_13 : ¬ r_8.toInt = 0 := jI_ne c_13 rfl (by decide)
            refine lv_iload_n hx hb dX8_needsOf_32 rfl (lv_at hl 2 rfl) ?_
            refine lv_aload hx hb dX8_needsOf_33 (lv_at hl 0 rfl) ?_
            obtain ⟨pk_15, hpk_15⟩ := va_pl_get (X := [((ax 0), .inr (8, [.ref (ax 1), .ref (ax 7), .ref (ax 10), .ref (ax 11), .ref (ax 13), .ref (ax 15), .ref (ax 16), .ref (ax 21), .ref (ax 26), .ref (ax 27), .ref (ax 28), .int xNow, .int xEr, .int xTr, .int xMo, .int xFa, .int xRe])), ((ax 15), .inl (cA 5, 20, .inr (.inr (.inr (.inr gTr)))))]) (f := pf) htm_7
            have gpk_15 := hpk_15
            rw [htf_7] at hpk_15
            refine va_getN (D := (dC, dI)) (ci := 6) (v := .int ndv_7) (C := RX6) (T := TX6) (N := 8) hx hb hts hIX6 hown hK hP pk_15 hpk_15 rfl 1 (by decide) (va_Nw.use rfl (nw_at hN 23 rfl)) (fun _ h9 => h9) rfl dX8_needsOf_35 ?_
            refine lv_ior hx hb dX8_needsOf_38 ?_
            refine lv_topi (fun x_16 ex_16 => ?_)
            refine lv_istore_n (lv' := [(2, .int x_16), (4, .ref t_7), (3, .int i3), (0, .ref (ax 0)), (1, .int a)]) hx hb dX8_needsOf_39 rfl hl (by decide) rfl (fun ls hl => ?_)
            obtain ⟨x_17, ex_17⟩ : ∃ y : Int32, y = i3 + 1 := ⟨_, rfl⟩
            have dx_17 : x_17.toInt = i3.toInt + 1 := by rw [ex_17]; exact jI_add rfl (by decide) (by omega) (by omega)
            refine lv_iinc (v := x_17) (lv' := [(3, .int x_17), (2, .int x_16), (4, .ref t_7), (0, .ref (ax 0)), (1, .int a)]) hx hb dX8_needsOf_40 hl (k := 2) rfl (by rw [ex_17]; rfl) (by decide) rfl (fun ls hl => ?_)
            refine lv_goto (tgt := 4) hx hb dX8_needsOf_43 (by decide) ?_
            exact ih_4 x_17 x_16 _ _ ls (by omega) (by omega) (by omega) (nds_s1 hv2_4 (by omega) (tb_12.mp (by omega)) ex_16 hnd_7 (by omega)) (hP.part (cx := [((ax 0), .inr (8, [.ref (ax 1), .ref (ax 7), .ref (ax 10), .ref (ax 11), .ref (ax 13), .ref (ax 15), .ref (ax 16), .ref (ax 21), .ref (ax 26), .ref (ax 27), .ref (ax 28), .int xNow, .int xEr, .int xTr, .int xMo, .int xFa, .int xRe])), ((ax 15), .inl (cA 5, 20, .inr (.inr (.inr (.inr gTr)))))]) [0, 1] rfl) (hD.part (cx := [((ax 0), .inr (8, [.ref (ax 1), .ref (ax 7), .ref (ax 10), .ref (ax 11), .ref (ax 13), .ref (ax 15), .ref (ax 16), .ref (ax 21), .ref (ax 26), .ref (ax 27), .ref (ax 28), .int xNow, .int xEr, .int xTr, .int xMo, .int xFa, .int xRe])), ((ax 15), .inl (cA 5, 20, .inr (.inr (.inr (.inr gTr)))))]) [0, 1] (by decide) rfl) hS (lv_sub hl [0, 1, 3, 4] rfl)
        · have hrq := po_6.2 hT_7
          obtain rfl : r_3 = none := hrq
          refine W.eq (g2 := F0 m 17 ls [.null]) rfl ?_
          refine lv_astoreN (lv' := [(4, .null), (3, .int i3), (2, .int n2), (0, .ref (ax 0)), (1, .int a)]) hx hb dX8_needsOf_17 hl (by decide) rfl (fun ls hl => ?_)
          refine lv_aloadN hx hb dX8_needsOf_19 (lv_at hl 0 rfl) ?_
          refine lv_ifnullN (tgt := 40) hx hb dX8_needsOf_21 (by decide) ?_
          obtain ⟨x_18, ex_18⟩ : ∃ y : Int32, y = i3 + 1 := ⟨_, rfl⟩
          have dx_18 : x_18.toInt = i3.toInt + 1 := by rw [ex_18]; exact jI_add rfl (by decide) (by omega) (by omega)
          refine lv_iinc (v := x_18) (lv' := [(3, .int x_18), (4, .null), (2, .int n2), (0, .ref (ax 0)), (1, .int a)]) hx hb dX8_needsOf_40 hl (k := 1) rfl (by rw [ex_18]; rfl) (by decide) rfl (fun ls hl => ?_)
          refine lv_goto (tgt := 4) hx hb dX8_needsOf_43 (by decide) ?_
          exact ih_4 x_18 n2 _ _ ls (by omega) (by omega) (by omega) (by exfalso; omega) (hP.part (cx := [((ax 0), .inr (8, [.ref (ax 1), .ref (ax 7), .ref (ax 10), .ref (ax 11), .ref (ax 13), .ref (ax 15), .ref (ax 16), .ref (ax 21), .ref (ax 26), .ref (ax 27), .ref (ax 28), .int xNow, .int xEr, .int xTr, .int xMo, .int xFa, .int xRe])), ((ax 15), .inl (cA 5, 20, .inr (.inr (.inr (.inr gTr)))))]) [0, 1] rfl) (hD.part (cx := [((ax 0), .inr (8, [.ref (ax 1), .ref (ax 7), .ref (ax 10), .ref (ax 11), .ref (ax 13), .ref (ax 15), .ref (ax 16), .ref (ax 21), .ref (ax 26), .ref (ax 27), .ref (ax 28), .int xNow, .int xEr, .int xTr, .int xMo, .int xFa, .int xRe])), ((ax 15), .inl (cA 5, 20, .inr (.inr (.inr (.inr gTr)))))]) [0, 1] (by decide) rfl) hS (lv_sub hl [0, 2, 3, 4] rfl)
  have hk_19 : (0 : Int32).toInt = 0 := by decide
  have hk_20 : (0 : Int32).toInt = 0 := by decide
  exact loop4_1 (Int.toNat (20 - (0 : Int32).toInt) + 1) 0 0 _ _ ls (by omega) (by omega) (by omega) (by rw [show (0 : Int32).toInt.toNat = 0 from rfl]; rfl) hP hD hS (lv_sub hl [0, 1, 2, 3] rfl)

set_option maxHeartbeats 8000000 in
set_option maxRecDepth 100000 in
theorem k_X8_value (l : Launch) (dC : Nat → ClassId) (dI : Nat → Nat → Nat) (cA : Nat → ClassId) (sz : Nat) (ax : Nat → Nat) (xNow : Int32) (xEr : Int32) (xTr : Int32) (xMo : Int32) (xFa : Int32) (xRe : Int32) (gTr : Nat → Option Nat) (xSr : Int32) (xWm : Int32) (xTp : Int32) (xRz : Int32) (xRn : Int32) (xMz : Int32) (gT : Nat → Int32) (gN : Nat → Int32) (gP : Nat → Int32) (gS : Nat → Int32) (gM : Nat → Int32) (gK : Nat → Int32) (gV : Nat → Int32) (gO : Nat → Int32) (gW : Nat → Int32) (gKk : Nat → Int64) (gVs : Nat → Int64) (L : List Nat) (pf : Nat → va_E) (tt : Int32) (pp : Int32) (mo : Int32) (kn : Int32) (nd : Nat → Int32) (sl : Nat → Int32) (i_xNow : 0 ≤ xNow.toInt ∧ xNow.toInt ≤ 100000) (i_xTr : 0 ≤ xTr.toInt ∧ xTr.toInt ≤ 20) (i_xMo : 0 ≤ xMo.toInt ∧ xMo.toInt ≤ 10) (i_xSr : 0 ≤ xSr.toInt ∧ xSr.toInt ≤ 400) (i_xTp : 0 ≤ xTp.toInt ∧ xTp.toInt ≤ 200) (i_xRz : 0 ≤ xRz.toInt ∧ xRz.toInt ≤ 400) (i_gT : inB (-1) 19 20 gT) (i_gN : inB 0 100000 20 gN) (i_gP : inB 0 19 400 gP) (i_gW : inB 0 399 400 gW) (hTP : TP cA xTr gTr L pf nd sl) : Met l yX8_value wsX8_value ({ frames := 6, cells := 0, slots := 0, locals := 143 }) (va_Pc [.ref (ax 0), .int tt, .int pp, .int mo, .int kn] (fun U => U.heap.size = sz ∧ va_P (dC, dI) vwCl (([((ax 0), .inr (8, [.ref (ax 1), .ref (ax 7), .ref (ax 10), .ref (ax 11), .ref (ax 13), .ref (ax 15), .ref (ax 16), .ref (ax 21), .ref (ax 26), .ref (ax 27), .ref (ax 28), .int xNow, .int xEr, .int xTr, .int xMo, .int xFa, .int xRe])), ((ax 15), .inl (cA 5, 20, .inr (.inr (.inr (.inr gTr))))), ((ax 16), .inr (7, [.ref (ax 1), .ref (ax 7), .ref (ax 15), .ref (ax 17), .ref (ax 18), .ref (ax 19), .ref (ax 20), .int xSr, .int xWm, .int xTp])), ((ax 1), .inr (3, [.ref (ax 2), .ref (ax 3), .ref (ax 4), .ref (ax 5), .ref (ax 6), .int xRz, .int xRn])), ((ax 7), .inr (0, [.ref (ax 8), .ref (ax 9), .int xMz])), ((ax 8), .inl (cA 0, 20, .inl gT)), ((ax 9), .inl (cA 0, 20, .inl gN)), ((ax 2), .inl (cA 0, 400, .inl gP)), ((ax 3), .inl (cA 0, 400, .inl gS)), ((ax 4), .inl (cA 0, 400, .inl gM)), ((ax 5), .inl (cA 0, 400, .inl gK)), ((ax 6), .inl (cA 0, 400, .inl gV)), ((ax 17), .inl (cA 2, 20, .inl gO)), ((ax 18), .inl (cA 0, 400, .inl gW)), ((ax 19), .inl (cA 1, 200, .inr (.inl gKk))), ((ax 20), .inl (cA 1, 20, .inr (.inl gVs)))] : va_W) ++ va_pl L pf) U.heap ∧ va_K (dC, dI) vwCl (tyL cA) U ∧ va_D (fun _ => True) (([((ax 0), .inr (8, [.ref (ax 1), .ref (ax 7), .ref (ax 10), .ref (ax 11), .ref (ax 13), .ref (ax 15), .ref (ax 16), .ref (ax 21), .ref (ax 26), .ref (ax 27), .ref (ax 28), .int xNow, .int xEr, .int xTr, .int xMo, .int xFa, .int xRe])), ((ax 15), .inl (cA 5, 20, .inr (.inr (.inr (.inr gTr))))), ((ax 16), .inr (7, [.ref (ax 1), .ref (ax 7), .ref (ax 15), .ref (ax 17), .ref (ax 18), .ref (ax 19), .ref (ax 20), .int xSr, .int xWm, .int xTp])), ((ax 1), .inr (3, [.ref (ax 2), .ref (ax 3), .ref (ax 4), .ref (ax 5), .ref (ax 6), .int xRz, .int xRn])), ((ax 7), .inr (0, [.ref (ax 8), .ref (ax 9), .int xMz])), ((ax 8), .inl (cA 0, 20, .inl gT)), ((ax 9), .inl (cA 0, 20, .inl gN)), ((ax 2), .inl (cA 0, 400, .inl gP)), ((ax 3), .inl (cA 0, 400, .inl gS)), ((ax 4), .inl (cA 0, 400, .inl gM)), ((ax 5), .inl (cA 0, 400, .inl gK)), ((ax 6), .inl (cA 0, 400, .inl gV)), ((ax 17), .inl (cA 2, 20, .inl gO)), ((ax 18), .inl (cA 0, 400, .inl gW)), ((ax 19), .inl (cA 1, 200, .inr (.inl gKk))), ((ax 20), .inl (cA 1, 20, .inr (.inl gVs)))] : va_W) ++ va_pl L pf) ∧ nw_ok U)) (va_Ql (fun (r : Int64) (u : (Nat → Int32) × (Nat → Int32) × Int32 × Int32 × (Nat → Int64) × Int32 × (Nat → Int64)) => (inB 0 399 400 u.2.1) ∧ (0 ≤ u.2.2.1.toInt ∧ u.2.2.1.toInt ≤ 400) ∧ (0 ≤ u.2.2.2.2.2.1.toInt ∧ u.2.2.2.2.2.1.toInt ≤ 200)) (fun (u : (Nat → Int32) × (Nat → Int32) × Int32 × Int32 × (Nat → Int64) × Int32 × (Nat → Int64)) (t : State) => va_P (dC, dI) vwCl (([((ax 0), .inr (8, [.ref (ax 1), .ref (ax 7), .ref (ax 10), .ref (ax 11), .ref (ax 13), .ref (ax 15), .ref (ax 16), .ref (ax 21), .ref (ax 26), .ref (ax 27), .ref (ax 28), .int xNow, .int xEr, .int xTr, .int xMo, .int xFa, .int xRe])), ((ax 15), .inl (cA 5, 20, .inr (.inr (.inr (.inr gTr))))), ((ax 16), .inr (7, [.ref (ax 1), .ref (ax 7), .ref (ax 15), .ref (ax 17), .ref (ax 18), .ref (ax 19), .ref (ax 20), .int u.2.2.1, .int u.2.2.2.1, .int u.2.2.2.2.2.1])), ((ax 1), .inr (3, [.ref (ax 2), .ref (ax 3), .ref (ax 4), .ref (ax 5), .ref (ax 6), .int xRz, .int xRn])), ((ax 7), .inr (0, [.ref (ax 8), .ref (ax 9), .int xMz])), ((ax 8), .inl (cA 0, 20, .inl gT)), ((ax 9), .inl (cA 0, 20, .inl gN)), ((ax 2), .inl (cA 0, 400, .inl gP)), ((ax 3), .inl (cA 0, 400, .inl gS)), ((ax 4), .inl (cA 0, 400, .inl gM)), ((ax 5), .inl (cA 0, 400, .inl gK)), ((ax 6), .inl (cA 0, 400, .inl gV)), ((ax 17), .inl (cA 2, 20, .inl u.1)), ((ax 18), .inl (cA 0, 400, .inl u.2.1)), ((ax 19), .inl (cA 1, 200, .inr (.inl u.2.2.2.2.1))), ((ax 20), .inl (cA 1, 20, .inr (.inl u.2.2.2.2.2.2)))] : va_W) ++ va_pl L pf) t.heap ∧ va_D (va_A (([((ax 0), .inr (8, [.ref (ax 1), .ref (ax 7), .ref (ax 10), .ref (ax 11), .ref (ax 13), .ref (ax 15), .ref (ax 16), .ref (ax 21), .ref (ax 26), .ref (ax 27), .ref (ax 28), .int xNow, .int xEr, .int xTr, .int xMo, .int xFa, .int xRe])), ((ax 15), .inl (cA 5, 20, .inr (.inr (.inr (.inr gTr))))), ((ax 16), .inr (7, [.ref (ax 1), .ref (ax 7), .ref (ax 15), .ref (ax 17), .ref (ax 18), .ref (ax 19), .ref (ax 20), .int xSr, .int xWm, .int xTp])), ((ax 1), .inr (3, [.ref (ax 2), .ref (ax 3), .ref (ax 4), .ref (ax 5), .ref (ax 6), .int xRz, .int xRn])), ((ax 7), .inr (0, [.ref (ax 8), .ref (ax 9), .int xMz])), ((ax 8), .inl (cA 0, 20, .inl gT)), ((ax 9), .inl (cA 0, 20, .inl gN)), ((ax 2), .inl (cA 0, 400, .inl gP)), ((ax 3), .inl (cA 0, 400, .inl gS)), ((ax 4), .inl (cA 0, 400, .inl gM)), ((ax 5), .inl (cA 0, 400, .inl gK)), ((ax 6), .inl (cA 0, 400, .inl gV)), ((ax 17), .inl (cA 2, 20, .inl gO)), ((ax 18), .inl (cA 0, 400, .inl gW)), ((ax 19), .inl (cA 1, 200, .inr (.inl gKk))), ((ax 20), .inl (cA 1, 20, .inr (.inl gVs)))] : va_W) ++ va_pl L pf) sz) (([((ax 0), .inr (8, [.ref (ax 1), .ref (ax 7), .ref (ax 10), .ref (ax 11), .ref (ax 13), .ref (ax 15), .ref (ax 16), .ref (ax 21), .ref (ax 26), .ref (ax 27), .ref (ax 28), .int xNow, .int xEr, .int xTr, .int xMo, .int xFa, .int xRe])), ((ax 15), .inl (cA 5, 20, .inr (.inr (.inr (.inr gTr))))), ((ax 16), .inr (7, [.ref (ax 1), .ref (ax 7), .ref (ax 15), .ref (ax 17), .ref (ax 18), .ref (ax 19), .ref (ax 20), .int u.2.2.1, .int u.2.2.2.1, .int u.2.2.2.2.2.1])), ((ax 1), .inr (3, [.ref (ax 2), .ref (ax 3), .ref (ax 4), .ref (ax 5), .ref (ax 6), .int xRz, .int xRn])), ((ax 7), .inr (0, [.ref (ax 8), .ref (ax 9), .int xMz])), ((ax 8), .inl (cA 0, 20, .inl gT)), ((ax 9), .inl (cA 0, 20, .inl gN)), ((ax 2), .inl (cA 0, 400, .inl gP)), ((ax 3), .inl (cA 0, 400, .inl gS)), ((ax 4), .inl (cA 0, 400, .inl gM)), ((ax 5), .inl (cA 0, 400, .inl gK)), ((ax 6), .inl (cA 0, 400, .inl gV)), ((ax 17), .inl (cA 2, 20, .inl u.1)), ((ax 18), .inl (cA 0, 400, .inl u.2.1)), ((ax 19), .inl (cA 1, 200, .inr (.inl u.2.2.2.2.1))), ((ax 20), .inl (cA 1, 20, .inr (.inl u.2.2.2.2.2.2)))] : va_W) ++ va_pl L pf)) (va_A (([((ax 0), .inr (8, [.ref (ax 1), .ref (ax 7), .ref (ax 10), .ref (ax 11), .ref (ax 13), .ref (ax 15), .ref (ax 16), .ref (ax 21), .ref (ax 26), .ref (ax 27), .ref (ax 28), .int xNow, .int xEr, .int xTr, .int xMo, .int xFa, .int xRe])), ((ax 15), .inl (cA 5, 20, .inr (.inr (.inr (.inr gTr))))), ((ax 16), .inr (7, [.ref (ax 1), .ref (ax 7), .ref (ax 15), .ref (ax 17), .ref (ax 18), .ref (ax 19), .ref (ax 20), .int xSr, .int xWm, .int xTp])), ((ax 1), .inr (3, [.ref (ax 2), .ref (ax 3), .ref (ax 4), .ref (ax 5), .ref (ax 6), .int xRz, .int xRn])), ((ax 7), .inr (0, [.ref (ax 8), .ref (ax 9), .int xMz])), ((ax 8), .inl (cA 0, 20, .inl gT)), ((ax 9), .inl (cA 0, 20, .inl gN)), ((ax 2), .inl (cA 0, 400, .inl gP)), ((ax 3), .inl (cA 0, 400, .inl gS)), ((ax 4), .inl (cA 0, 400, .inl gM)), ((ax 5), .inl (cA 0, 400, .inl gK)), ((ax 6), .inl (cA 0, 400, .inl gV)), ((ax 17), .inl (cA 2, 20, .inl gO)), ((ax 18), .inl (cA 0, 400, .inl gW)), ((ax 19), .inl (cA 1, 200, .inr (.inl gKk))), ((ax 20), .inl (cA 1, 20, .inr (.inl gVs)))] : va_W) ++ va_pl L pf) sz)) 0 0 (va_A (([((ax 0), .inr (8, [.ref (ax 1), .ref (ax 7), .ref (ax 10), .ref (ax 11), .ref (ax 13), .ref (ax 15), .ref (ax 16), .ref (ax 21), .ref (ax 26), .ref (ax 27), .ref (ax 28), .int xNow, .int xEr, .int xTr, .int xMo, .int xFa, .int xRe])), ((ax 15), .inl (cA 5, 20, .inr (.inr (.inr (.inr gTr))))), ((ax 16), .inr (7, [.ref (ax 1), .ref (ax 7), .ref (ax 15), .ref (ax 17), .ref (ax 18), .ref (ax 19), .ref (ax 20), .int xSr, .int xWm, .int xTp])), ((ax 1), .inr (3, [.ref (ax 2), .ref (ax 3), .ref (ax 4), .ref (ax 5), .ref (ax 6), .int xRz, .int xRn])), ((ax 7), .inr (0, [.ref (ax 8), .ref (ax 9), .int xMz])), ((ax 8), .inl (cA 0, 20, .inl gT)), ((ax 9), .inl (cA 0, 20, .inl gN)), ((ax 2), .inl (cA 0, 400, .inl gP)), ((ax 3), .inl (cA 0, 400, .inl gS)), ((ax 4), .inl (cA 0, 400, .inl gM)), ((ax 5), .inl (cA 0, 400, .inl gK)), ((ax 6), .inl (cA 0, 400, .inl gV)), ((ax 17), .inl (cA 2, 20, .inl gO)), ((ax 18), .inl (cA 0, 400, .inl gW)), ((ax 19), .inl (cA 1, 200, .inr (.inl gKk))), ((ax 20), .inl (cA 1, 20, .inr (.inl gVs)))] : va_W) ++ va_pl L pf) sz) := by
  refine Met.ofW (cc := cX8_value) (maxL := 5) (ret := (some .long)) (by decide) rfl ?_
  intro p e s m args below meth c s₁ B hml hv
  obtain ⟨rfl, hsz, hP, hK, hD0, hN⟩ := hv
  have hx := B.exec
  have hb := B.bytes
  have hr := B.returns
  have hts := atoms_spec (ws := wsX8_value) B.pre
  have hown : s.vm.findClass RX8 = some m.cls := findClass_of_methodNamed B.named
  have hlocks := B.notSynchronized
  subst hsz
  have hD := hD0.self (sz := s.heap.size)
  generalize hAe : va_A (([((ax 0), .inr (8, [.ref (ax 1), .ref (ax 7), .ref (ax 10), .ref (ax 11), .ref (ax 13), .ref (ax 15), .ref (ax 16), .ref (ax 21), .ref (ax 26), .ref (ax 27), .ref (ax 28), .int xNow, .int xEr, .int xTr, .int xMo, .int xFa, .int xRe])), ((ax 15), .inl (cA 5, 20, .inr (.inr (.inr (.inr gTr))))), ((ax 16), .inr (7, [.ref (ax 1), .ref (ax 7), .ref (ax 15), .ref (ax 17), .ref (ax 18), .ref (ax 19), .ref (ax 20), .int xSr, .int xWm, .int xTp])), ((ax 1), .inr (3, [.ref (ax 2), .ref (ax 3), .ref (ax 4), .ref (ax 5), .ref (ax 6), .int xRz, .int xRn])), ((ax 7), .inr (0, [.ref (ax 8), .ref (ax 9), .int xMz])), ((ax 8), .inl (cA 0, 20, .inl gT)), ((ax 9), .inl (cA 0, 20, .inl gN)), ((ax 2), .inl (cA 0, 400, .inl gP)), ((ax 3), .inl (cA 0, 400, .inl gS)), ((ax 4), .inl (cA 0, 400, .inl gM)), ((ax 5), .inl (cA 0, 400, .inl gK)), ((ax 6), .inl (cA 0, 400, .inl gV)), ((ax 17), .inl (cA 2, 20, .inl gO)), ((ax 18), .inl (cA 0, 400, .inl gW)), ((ax 19), .inl (cA 1, 200, .inr (.inl gKk))), ((ax 20), .inl (cA 1, 20, .inr (.inl gVs)))] : va_W) ++ va_pl L pf) s.heap.size = A at hD ⊢
  have hA : ∀ q : Nat, s.heap.size ≤ q → A q := fun q h => by rw [← hAe]; exact Or.inr h
  have hS : va_S A s.heap s.heap [] := va_S.rf
  have hIX8 : ∀ w ∈ u_ws RX8 TX8 17, w ∈ wsX8_value := by decide +kernel
  have hl := lv_entry ([.ref (ax 0), .int tt, .int pp, .int mo, .int kn]) (n := 5) (Nat.le_of_ble_eq_true rfl)
  rw [lg_entry_eq]
  generalize (lg_sl ([.ref (ax 0), .int tt, .int pp, .int mo, .int kn]) ++ List.replicate (5 - (lg_sl ([.ref (ax 0), .int tt, .int pp, .int mo, .int kn])).length) Slot.unset).toArray = ls at hl ⊢
  have hl : lv_has ls 5 [(0, .ref (ax 0)), (1, .int tt), (2, .int pp), (3, .int mo), (4, .int kn)] := hl
  generalize hQe : MQ below _ _ _ _ _ _ = QQ
  refine lv_aload_n hx hb dX8_value_0 rfl (lv_at hl 0 rfl) ?_
  refine lv_iload_n hx hb dX8_value_1 rfl (lv_at hl 1 rfl) ?_
  obtain ⟨hPc, hDc, hFc, hCc⟩ := va_pre (ws' := [((ax 0), .inr (8, [.ref (ax 1), .ref (ax 7), .ref (ax 10), .ref (ax 11), .ref (ax 13), .ref (ax 15), .ref (ax 16), .ref (ax 21), .ref (ax 26), .ref (ax 27), .ref (ax 28), .int xNow, .int xEr, .int xTr, .int xMo, .int xFa, .int xRe])), ((ax 15), .inl (cA 5, 20, .inr (.inr (.inr (.inr gTr)))))]) hP hD hS hA [0, 1] (by decide) rfl
  refine va_callq (va_runV (As := [.int tt]) (rest := []) ⟨hx, hb, hml, hown, hts⟩ (k_X8_traitAt l dC dI cA s.heap.size ax xNow xEr xTr xMo xFa xRe gTr tt i_xNow i_xTr i_xMo) (cwV 1 hts gX8_value_X8_traitAt rfl rfl rfl (by decide +kernel) ⟨Nat.le_of_ble_eq_true rfl, Nat.le_of_ble_eq_true rfl⟩) ⟨fun a U g mk q => by obtain ⟨q0, q1, qP, qK, qD, qN⟩ := q; exact ⟨q0, q1, qP, va_K.moved (u := U) (U := U.calling g mk a) (Vm.Alike.refl U.vm) qK, qD, qN.same rfl⟩, va_recv hK hPc (ci := 8) (q0 := 0) rfl rfl, fun U hU hW => ⟨rfl, by rw [hU], by rw [hU]; exact hPc, va_K.moved hW.alike hK, hDc.weaken (fun _ _ _ _ => trivial), hN.warm hW⟩⟩ rfl rfl hl.1 rfl (lv_room (Nat.le_of_ble_eq_true rfl)) dX8_value_2 ⟨Nat.le_of_ble_eq_true rfl, Nat.le_of_ble_eq_true rfl⟩) hS (fun q _ h => hFc q h) hFc (fun r_1 u_2 t H1 locs ht hvm hw_3 hB hz1 hk1 hS => ?_)
  try dsimp only at hw_3 hB
  have po_4 := hw_3
  clear hw_3
  obtain ⟨hP1, hD1⟩ := hB
  rw [ht] at hP1
  obtain ⟨hP, hD⟩ := va_joinQ (wr := [((ax 16), .inr (7, [.ref (ax 1), .ref (ax 7), .ref (ax 15), .ref (ax 17), .ref (ax 18), .ref (ax 19), .ref (ax 20), .int xSr, .int xWm, .int xTp])), ((ax 1), .inr (3, [.ref (ax 2), .ref (ax 3), .ref (ax 4), .ref (ax 5), .ref (ax 6), .int xRz, .int xRn])), ((ax 7), .inr (0, [.ref (ax 8), .ref (ax 9), .int xMz])), ((ax 8), .inl (cA 0, 20, .inl gT)), ((ax 9), .inl (cA 0, 20, .inl gN)), ((ax 2), .inl (cA 0, 400, .inl gP)), ((ax 3), .inl (cA 0, 400, .inl gS)), ((ax 4), .inl (cA 0, 400, .inl gM)), ((ax 5), .inl (cA 0, 400, .inl gK)), ((ax 6), .inl (cA 0, 400, .inl gV)), ((ax 17), .inl (cA 2, 20, .inl gO)), ((ax 18), .inl (cA 0, 400, .inl gW)), ((ax 19), .inl (cA 1, 200, .inr (.inl gKk))), ((ax 20), .inl (cA 1, 20, .inr (.inl gVs)))]) (w1 := [((ax 0), .inr (8, [.ref (ax 1), .ref (ax 7), .ref (ax 10), .ref (ax 11), .ref (ax 13), .ref (ax 15), .ref (ax 16), .ref (ax 21), .ref (ax 26), .ref (ax 27), .ref (ax 28), .int xNow, .int xEr, .int xTr, .int xMo, .int xFa, .int xRe])), ((ax 15), .inl (cA 5, 20, .inr (.inr (.inr (.inr gTr)))))]) hP hD [0, 1] [2, 3, 4, 5, 6, 7, 8, 9, 10, 11, 12, 13, 14, 15] rfl rfl (by decide) (by decide) hk1 hFc hP1 hD1
  clear hz1
  generalize H1 = H at hP hS ⊢
  replace hP : va_P (dC, dI) vwCl (([((ax 16), .inr (7, [.ref (ax 1), .ref (ax 7), .ref (ax 15), .ref (ax 17), .ref (ax 18), .ref (ax 19), .ref (ax 20), .int xSr, .int xWm, .int xTp])), ((ax 1), .inr (3, [.ref (ax 2), .ref (ax 3), .ref (ax 4), .ref (ax 5), .ref (ax 6), .int xRz, .int xRn])), ((ax 7), .inr (0, [.ref (ax 8), .ref (ax 9), .int xMz])), ((ax 8), .inl (cA 0, 20, .inl gT)), ((ax 9), .inl (cA 0, 20, .inl gN)), ((ax 2), .inl (cA 0, 400, .inl gP)), ((ax 3), .inl (cA 0, 400, .inl gS)), ((ax 4), .inl (cA 0, 400, .inl gM)), ((ax 5), .inl (cA 0, 400, .inl gK)), ((ax 6), .inl (cA 0, 400, .inl gV)), ((ax 17), .inl (cA 2, 20, .inl gO)), ((ax 18), .inl (cA 0, 400, .inl gW)), ((ax 19), .inl (cA 1, 200, .inr (.inl gKk))), ((ax 20), .inl (cA 1, 20, .inr (.inl gVs))), ((ax 0), .inr (8, [.ref (ax 1), .ref (ax 7), .ref (ax 10), .ref (ax 11), .ref (ax 13), .ref (ax 15), .ref (ax 16), .ref (ax 21), .ref (ax 26), .ref (ax 27), .ref (ax 28), .int xNow, .int xEr, .int xTr, .int xMo, .int xFa, .int xRe])), ((ax 15), .inl (cA 5, 20, .inr (.inr (.inr (.inr gTr)))))] : va_W) ++ va_pl L pf) H := hP
  replace hD : va_D A (([((ax 16), .inr (7, [.ref (ax 1), .ref (ax 7), .ref (ax 15), .ref (ax 17), .ref (ax 18), .ref (ax 19), .ref (ax 20), .int xSr, .int xWm, .int xTp])), ((ax 1), .inr (3, [.ref (ax 2), .ref (ax 3), .ref (ax 4), .ref (ax 5), .ref (ax 6), .int xRz, .int xRn])), ((ax 7), .inr (0, [.ref (ax 8), .ref (ax 9), .int xMz])), ((ax 8), .inl (cA 0, 20, .inl gT)), ((ax 9), .inl (cA 0, 20, .inl gN)), ((ax 2), .inl (cA 0, 400, .inl gP)), ((ax 3), .inl (cA 0, 400, .inl gS)), ((ax 4), .inl (cA 0, 400, .inl gM)), ((ax 5), .inl (cA 0, 400, .inl gK)), ((ax 6), .inl (cA 0, 400, .inl gV)), ((ax 17), .inl (cA 2, 20, .inl gO)), ((ax 18), .inl (cA 0, 400, .inl gW)), ((ax 19), .inl (cA 1, 200, .inr (.inl gKk))), ((ax 20), .inl (cA 1, 20, .inr (.inl gVs))), ((ax 0), .inr (8, [.ref (ax 1), .ref (ax 7), .ref (ax 10), .ref (ax 11), .ref (ax 13), .ref (ax 15), .ref (ax 16), .ref (ax 21), .ref (ax 26), .ref (ax 27), .ref (ax 28), .int xNow, .int xEr, .int xTr, .int xMo, .int xFa, .int xRe])), ((ax 15), .inl (cA 5, 20, .inr (.inr (.inr (.inr gTr)))))] : va_W) ++ va_pl L pf) := hD
  by_cases hT_5 : 0 ≤ tt.toInt ∧ tt.toInt < xTr.toInt
  · have hrq := po_4.1 hT_5
    obtain ⟨ndv_5, hnd_5⟩ : ∃ z : Int32, z = nd tt.toNatClampNeg := ⟨_, rfl⟩
    obtain ⟨slv_5, hsl_5⟩ : ∃ z : Int32, z = sl tt.toNatClampNeg := ⟨_, rfl⟩
    obtain ⟨t_5, hte_5, hok_5⟩ := TP_at (i := tt) hTP (by omega) (by omega)
    rw [← hnd_5, ← hsl_5] at hok_5
    have hok9 := hok_5
    obtain ⟨htm_5, s_5, v_5, m_5, lf_5, lt_5, he_5, htf_5, hso_5, hvm_5, ⟨kv_5, hvf_5⟩, hmm_5, km_5, hmf_5⟩ := hok9
    rw [hte_5] at hrq
    obtain rfl : r_1 = some t_5 := hrq
    refine W.eq (g2 := F0 m 5 ls [.ref t_5]) rfl ?_
    refine lv_ifnull hx hb dX8_value_5 ?_
    refine lv_iload_n hx hb dX8_value_8 rfl (lv_at hl 2 rfl) ?_
    obtain ⟨hPc, hDc, hFc, hCc⟩ := va_pre (ws' := []) hP hD hS hA [] (by decide) rfl
    refine va_calli (va_runS (As := [.int pp]) (rest := []) ⟨hx, hb, hml, hown, hts⟩ (k_X8_isPerson l dC dI cA H.size pp ) (va_cwS 1 hts gX8_value_X8_isPerson rfl rfl rfl (by decide +kernel) ⟨Nat.le_of_ble_eq_true rfl, Nat.le_of_ble_eq_true rfl⟩) ⟨fun a U g mk q => by obtain ⟨q0, q1, qP, qK, qD, qN⟩ := q; exact ⟨q0, q1, qP, va_K.moved (u := U) (U := U.calling g mk a) (Vm.Alike.refl U.vm) qK, qD, qN.same rfl⟩, fun U hU hW => ⟨rfl, by rw [hU], by rw [hU]; exact hPc, va_K.moved hW.alike hK, hDc.weaken (fun _ _ _ _ => trivial), hN.warm hW⟩⟩ rfl rfl hl.1 rfl (lv_room (Nat.le_of_ble_eq_true rfl)) dX8_value_9 ⟨Nat.le_of_ble_eq_true rfl, Nat.le_of_ble_eq_true rfl⟩) hS (fun q _ h => hFc q h) hFc (fun r_6 u_7 t H1 locs ht hvm hw_8 hB hz1 hk1 hS => ?_)
    try dsimp only at hw_8 hB
    have po_9 := hw_8
    clear hw_8
    obtain ⟨hP1, hD1⟩ := hB
    rw [ht] at hP1
    obtain ⟨hP, hD⟩ := va_joinQ (wr := [((ax 16), .inr (7, [.ref (ax 1), .ref (ax 7), .ref (ax 15), .ref (ax 17), .ref (ax 18), .ref (ax 19), .ref (ax 20), .int xSr, .int xWm, .int xTp])), ((ax 1), .inr (3, [.ref (ax 2), .ref (ax 3), .ref (ax 4), .ref (ax 5), .ref (ax 6), .int xRz, .int xRn])), ((ax 7), .inr (0, [.ref (ax 8), .ref (ax 9), .int xMz])), ((ax 8), .inl (cA 0, 20, .inl gT)), ((ax 9), .inl (cA 0, 20, .inl gN)), ((ax 2), .inl (cA 0, 400, .inl gP)), ((ax 3), .inl (cA 0, 400, .inl gS)), ((ax 4), .inl (cA 0, 400, .inl gM)), ((ax 5), .inl (cA 0, 400, .inl gK)), ((ax 6), .inl (cA 0, 400, .inl gV)), ((ax 17), .inl (cA 2, 20, .inl gO)), ((ax 18), .inl (cA 0, 400, .inl gW)), ((ax 19), .inl (cA 1, 200, .inr (.inl gKk))), ((ax 20), .inl (cA 1, 20, .inr (.inl gVs))), ((ax 0), .inr (8, [.ref (ax 1), .ref (ax 7), .ref (ax 10), .ref (ax 11), .ref (ax 13), .ref (ax 15), .ref (ax 16), .ref (ax 21), .ref (ax 26), .ref (ax 27), .ref (ax 28), .int xNow, .int xEr, .int xTr, .int xMo, .int xFa, .int xRe])), ((ax 15), .inl (cA 5, 20, .inr (.inr (.inr (.inr gTr)))))]) (w1 := []) hP hD [] [0, 1, 2, 3, 4, 5, 6, 7, 8, 9, 10, 11, 12, 13, 14, 15] rfl rfl (by decide) (by decide) hk1 hFc hP1 hD1
    clear hz1
    generalize H1 = H at hP hS ⊢
    replace hP : va_P (dC, dI) vwCl (([((ax 16), .inr (7, [.ref (ax 1), .ref (ax 7), .ref (ax 15), .ref (ax 17), .ref (ax 18), .ref (ax 19), .ref (ax 20), .int xSr, .int xWm, .int xTp])), ((ax 1), .inr (3, [.ref (ax 2), .ref (ax 3), .ref (ax 4), .ref (ax 5), .ref (ax 6), .int xRz, .int xRn])), ((ax 7), .inr (0, [.ref (ax 8), .ref (ax 9), .int xMz])), ((ax 8), .inl (cA 0, 20, .inl gT)), ((ax 9), .inl (cA 0, 20, .inl gN)), ((ax 2), .inl (cA 0, 400, .inl gP)), ((ax 3), .inl (cA 0, 400, .inl gS)), ((ax 4), .inl (cA 0, 400, .inl gM)), ((ax 5), .inl (cA 0, 400, .inl gK)), ((ax 6), .inl (cA 0, 400, .inl gV)), ((ax 17), .inl (cA 2, 20, .inl gO)), ((ax 18), .inl (cA 0, 400, .inl gW)), ((ax 19), .inl (cA 1, 200, .inr (.inl gKk))), ((ax 20), .inl (cA 1, 20, .inr (.inl gVs))), ((ax 0), .inr (8, [.ref (ax 1), .ref (ax 7), .ref (ax 10), .ref (ax 11), .ref (ax 13), .ref (ax 15), .ref (ax 16), .ref (ax 21), .ref (ax 26), .ref (ax 27), .ref (ax 28), .int xNow, .int xEr, .int xTr, .int xMo, .int xFa, .int xRe])), ((ax 15), .inl (cA 5, 20, .inr (.inr (.inr (.inr gTr)))))] : va_W) ++ va_pl L pf) H := hP
    replace hD : va_D A (([((ax 16), .inr (7, [.ref (ax 1), .ref (ax 7), .ref (ax 15), .ref (ax 17), .ref (ax 18), .ref (ax 19), .ref (ax 20), .int xSr, .int xWm, .int xTp])), ((ax 1), .inr (3, [.ref (ax 2), .ref (ax 3), .ref (ax 4), .ref (ax 5), .ref (ax 6), .int xRz, .int xRn])), ((ax 7), .inr (0, [.ref (ax 8), .ref (ax 9), .int xMz])), ((ax 8), .inl (cA 0, 20, .inl gT)), ((ax 9), .inl (cA 0, 20, .inl gN)), ((ax 2), .inl (cA 0, 400, .inl gP)), ((ax 3), .inl (cA 0, 400, .inl gS)), ((ax 4), .inl (cA 0, 400, .inl gM)), ((ax 5), .inl (cA 0, 400, .inl gK)), ((ax 6), .inl (cA 0, 400, .inl gV)), ((ax 17), .inl (cA 2, 20, .inl gO)), ((ax 18), .inl (cA 0, 400, .inl gW)), ((ax 19), .inl (cA 1, 200, .inr (.inl gKk))), ((ax 20), .inl (cA 1, 20, .inr (.inl gVs))), ((ax 0), .inr (8, [.ref (ax 1), .ref (ax 7), .ref (ax 10), .ref (ax 11), .ref (ax 13), .ref (ax 15), .ref (ax 16), .ref (ax 21), .ref (ax 26), .ref (ax 27), .ref (ax 28), .int xNow, .int xEr, .int xTr, .int xMo, .int xFa, .int xRe])), ((ax 15), .inl (cA 5, 20, .inr (.inr (.inr (.inr gTr)))))] : va_W) ++ va_pl L pf) := hD
    refine lv_if_eq (tgt := 30) hx hb dX8_value_12 (by decide) (fun c_10 => ?_) (fun c_10 => ?_)
    · have dc_10 : r_6.toInt = 0 := jI_eq c_10 rfl (by decide)
      refine lv_ldc2 hx hb hown (hts (.constantLong RX8 175 (-9000000000000000000)) (by decide +kernel)) dX8_value_30 ?_
      have hP9 := hP.part (cx := [((ax 0), .inr (8, [.ref (ax 1), .ref (ax 7), .ref (ax 10), .ref (ax 11), .ref (ax 13), .ref (ax 15), .ref (ax 16), .ref (ax 21), .ref (ax 26), .ref (ax 27), .ref (ax 28), .int xNow, .int xEr, .int xTr, .int xMo, .int xFa, .int xRe])), ((ax 15), .inl (cA 5, 20, .inr (.inr (.inr (.inr gTr))))), ((ax 16), .inr (7, [.ref (ax 1), .ref (ax 7), .ref (ax 15), .ref (ax 17), .ref (ax 18), .ref (ax 19), .ref (ax 20), .int xSr, .int xWm, .int xTp])), ((ax 1), .inr (3, [.ref (ax 2), .ref (ax 3), .ref (ax 4), .ref (ax 5), .ref (ax 6), .int xRz, .int xRn])), ((ax 7), .inr (0, [.ref (ax 8), .ref (ax 9), .int xMz])), ((ax 8), .inl (cA 0, 20, .inl gT)), ((ax 9), .inl (cA 0, 20, .inl gN)), ((ax 2), .inl (cA 0, 400, .inl gP)), ((ax 3), .inl (cA 0, 400, .inl gS)), ((ax 4), .inl (cA 0, 400, .inl gM)), ((ax 5), .inl (cA 0, 400, .inl gK)), ((ax 6), .inl (cA 0, 400, .inl gV)), ((ax 17), .inl (cA 2, 20, .inl gO)), ((ax 18), .inl (cA 0, 400, .inl gW)), ((ax 19), .inl (cA 1, 200, .inr (.inl gKk))), ((ax 20), .inl (cA 1, 20, .inr (.inl gVs)))]) [14, 15, 0, 1, 2, 3, 4, 5, 6, 7, 8, 9, 10, 11, 12, 13] rfl
      have hD9 := hD.part (cx := [((ax 0), .inr (8, [.ref (ax 1), .ref (ax 7), .ref (ax 10), .ref (ax 11), .ref (ax 13), .ref (ax 15), .ref (ax 16), .ref (ax 21), .ref (ax 26), .ref (ax 27), .ref (ax 28), .int xNow, .int xEr, .int xTr, .int xMo, .int xFa, .int xRe])), ((ax 15), .inl (cA 5, 20, .inr (.inr (.inr (.inr gTr))))), ((ax 16), .inr (7, [.ref (ax 1), .ref (ax 7), .ref (ax 15), .ref (ax 17), .ref (ax 18), .ref (ax 19), .ref (ax 20), .int xSr, .int xWm, .int xTp])), ((ax 1), .inr (3, [.ref (ax 2), .ref (ax 3), .ref (ax 4), .ref (ax 5), .ref (ax 6), .int xRz, .int xRn])), ((ax 7), .inr (0, [.ref (ax 8), .ref (ax 9), .int xMz])), ((ax 8), .inl (cA 0, 20, .inl gT)), ((ax 9), .inl (cA 0, 20, .inl gN)), ((ax 2), .inl (cA 0, 400, .inl gP)), ((ax 3), .inl (cA 0, 400, .inl gS)), ((ax 4), .inl (cA 0, 400, .inl gM)), ((ax 5), .inl (cA 0, 400, .inl gK)), ((ax 6), .inl (cA 0, 400, .inl gV)), ((ax 17), .inl (cA 2, 20, .inl gO)), ((ax 18), .inl (cA 0, 400, .inl gW)), ((ax 19), .inl (cA 1, 200, .inr (.inl gKk))), ((ax 20), .inl (cA 1, 20, .inr (.inl gVs)))]) [14, 15, 0, 1, 2, 3, 4, 5, 6, 7, 8, 9, 10, 11, 12, 13] (by decide) rfl
      subst hQe
      have hans : ((-9000000000000000000) : Int64).toInt = (-9000000000000000000) := (by decide)
      have hpost : (inB 0 399 400 gW) ∧ (0 ≤ xSr.toInt ∧ xSr.toInt ≤ 400) ∧ (0 ≤ xTp.toInt ∧ xTp.toInt ≤ 200) := ⟨i_gW, i_xSr, i_xTp⟩
      exact W.lret (v := (-9000000000000000000)) hx hb hr (fun t ht hW => ⟨⟨(-9000000000000000000), (gO, gW, xSr, xWm, gKk, xTp, gVs), rfl, hpost, by rw [ht]; exact hP9, hD9⟩, hS.F ht⟩) hS.2.2 dX8_value_33
    · have dc_10 : ¬ r_6.toInt = 0 := jI_ne c_10 rfl (by decide)
      refine lv_iload_n hx hb dX8_value_15 rfl (lv_at hl 3 rfl) ?_
      obtain ⟨hPc, hDc, hFc, hCc⟩ := va_pre (ws' := []) hP hD hS hA [] (by decide) rfl
      refine va_calli (va_runS (As := [.int mo]) (rest := []) ⟨hx, hb, hml, hown, hts⟩ (k_X8_isMoment l dC dI cA H.size mo ) (va_cwS 1 hts gX8_value_X8_isMoment rfl rfl rfl (by decide +kernel) ⟨Nat.le_of_ble_eq_true rfl, Nat.le_of_ble_eq_true rfl⟩) ⟨fun a U g mk q => by obtain ⟨q0, q1, qP, qK, qD, qN⟩ := q; exact ⟨q0, q1, qP, va_K.moved (u := U) (U := U.calling g mk a) (Vm.Alike.refl U.vm) qK, qD, qN.same rfl⟩, fun U hU hW => ⟨rfl, by rw [hU], by rw [hU]; exact hPc, va_K.moved hW.alike hK, hDc.weaken (fun _ _ _ _ => trivial), hN.warm hW⟩⟩ rfl rfl hl.1 rfl (lv_room (Nat.le_of_ble_eq_true rfl)) dX8_value_16 ⟨Nat.le_of_ble_eq_true rfl, Nat.le_of_ble_eq_true rfl⟩) hS (fun q _ h => hFc q h) hFc (fun r_11 u_12 t H1 locs ht hvm hw_13 hB hz1 hk1 hS => ?_)
      try dsimp only at hw_13 hB
      have po_14 := hw_13
      clear hw_13
      obtain ⟨hP1, hD1⟩ := hB
      rw [ht] at hP1
      obtain ⟨hP, hD⟩ := va_joinQ (wr := [((ax 16), .inr (7, [.ref (ax 1), .ref (ax 7), .ref (ax 15), .ref (ax 17), .ref (ax 18), .ref (ax 19), .ref (ax 20), .int xSr, .int xWm, .int xTp])), ((ax 1), .inr (3, [.ref (ax 2), .ref (ax 3), .ref (ax 4), .ref (ax 5), .ref (ax 6), .int xRz, .int xRn])), ((ax 7), .inr (0, [.ref (ax 8), .ref (ax 9), .int xMz])), ((ax 8), .inl (cA 0, 20, .inl gT)), ((ax 9), .inl (cA 0, 20, .inl gN)), ((ax 2), .inl (cA 0, 400, .inl gP)), ((ax 3), .inl (cA 0, 400, .inl gS)), ((ax 4), .inl (cA 0, 400, .inl gM)), ((ax 5), .inl (cA 0, 400, .inl gK)), ((ax 6), .inl (cA 0, 400, .inl gV)), ((ax 17), .inl (cA 2, 20, .inl gO)), ((ax 18), .inl (cA 0, 400, .inl gW)), ((ax 19), .inl (cA 1, 200, .inr (.inl gKk))), ((ax 20), .inl (cA 1, 20, .inr (.inl gVs))), ((ax 0), .inr (8, [.ref (ax 1), .ref (ax 7), .ref (ax 10), .ref (ax 11), .ref (ax 13), .ref (ax 15), .ref (ax 16), .ref (ax 21), .ref (ax 26), .ref (ax 27), .ref (ax 28), .int xNow, .int xEr, .int xTr, .int xMo, .int xFa, .int xRe])), ((ax 15), .inl (cA 5, 20, .inr (.inr (.inr (.inr gTr)))))]) (w1 := []) hP hD [] [0, 1, 2, 3, 4, 5, 6, 7, 8, 9, 10, 11, 12, 13, 14, 15] rfl rfl (by decide) (by decide) hk1 hFc hP1 hD1
      clear hz1
      generalize H1 = H at hP hS ⊢
      replace hP : va_P (dC, dI) vwCl (([((ax 16), .inr (7, [.ref (ax 1), .ref (ax 7), .ref (ax 15), .ref (ax 17), .ref (ax 18), .ref (ax 19), .ref (ax 20), .int xSr, .int xWm, .int xTp])), ((ax 1), .inr (3, [.ref (ax 2), .ref (ax 3), .ref (ax 4), .ref (ax 5), .ref (ax 6), .int xRz, .int xRn])), ((ax 7), .inr (0, [.ref (ax 8), .ref (ax 9), .int xMz])), ((ax 8), .inl (cA 0, 20, .inl gT)), ((ax 9), .inl (cA 0, 20, .inl gN)), ((ax 2), .inl (cA 0, 400, .inl gP)), ((ax 3), .inl (cA 0, 400, .inl gS)), ((ax 4), .inl (cA 0, 400, .inl gM)), ((ax 5), .inl (cA 0, 400, .inl gK)), ((ax 6), .inl (cA 0, 400, .inl gV)), ((ax 17), .inl (cA 2, 20, .inl gO)), ((ax 18), .inl (cA 0, 400, .inl gW)), ((ax 19), .inl (cA 1, 200, .inr (.inl gKk))), ((ax 20), .inl (cA 1, 20, .inr (.inl gVs))), ((ax 0), .inr (8, [.ref (ax 1), .ref (ax 7), .ref (ax 10), .ref (ax 11), .ref (ax 13), .ref (ax 15), .ref (ax 16), .ref (ax 21), .ref (ax 26), .ref (ax 27), .ref (ax 28), .int xNow, .int xEr, .int xTr, .int xMo, .int xFa, .int xRe])), ((ax 15), .inl (cA 5, 20, .inr (.inr (.inr (.inr gTr)))))] : va_W) ++ va_pl L pf) H := hP
      replace hD : va_D A (([((ax 16), .inr (7, [.ref (ax 1), .ref (ax 7), .ref (ax 15), .ref (ax 17), .ref (ax 18), .ref (ax 19), .ref (ax 20), .int xSr, .int xWm, .int xTp])), ((ax 1), .inr (3, [.ref (ax 2), .ref (ax 3), .ref (ax 4), .ref (ax 5), .ref (ax 6), .int xRz, .int xRn])), ((ax 7), .inr (0, [.ref (ax 8), .ref (ax 9), .int xMz])), ((ax 8), .inl (cA 0, 20, .inl gT)), ((ax 9), .inl (cA 0, 20, .inl gN)), ((ax 2), .inl (cA 0, 400, .inl gP)), ((ax 3), .inl (cA 0, 400, .inl gS)), ((ax 4), .inl (cA 0, 400, .inl gM)), ((ax 5), .inl (cA 0, 400, .inl gK)), ((ax 6), .inl (cA 0, 400, .inl gV)), ((ax 17), .inl (cA 2, 20, .inl gO)), ((ax 18), .inl (cA 0, 400, .inl gW)), ((ax 19), .inl (cA 1, 200, .inr (.inl gKk))), ((ax 20), .inl (cA 1, 20, .inr (.inl gVs))), ((ax 0), .inr (8, [.ref (ax 1), .ref (ax 7), .ref (ax 10), .ref (ax 11), .ref (ax 13), .ref (ax 15), .ref (ax 16), .ref (ax 21), .ref (ax 26), .ref (ax 27), .ref (ax 28), .int xNow, .int xEr, .int xTr, .int xMo, .int xFa, .int xRe])), ((ax 15), .inl (cA 5, 20, .inr (.inr (.inr (.inr gTr)))))] : va_W) ++ va_pl L pf) := hD
      refine lv_if_eq (tgt := 30) hx hb dX8_value_19 (by decide) (fun c_15 => ?_) (fun c_15 => ?_)
      · have dc_15 : r_11.toInt = 0 := jI_eq c_15 rfl (by decide)
        refine lv_ldc2 hx hb hown (hts (.constantLong RX8 175 (-9000000000000000000)) (by decide +kernel)) dX8_value_30 ?_
        have hP9 := hP.part (cx := [((ax 0), .inr (8, [.ref (ax 1), .ref (ax 7), .ref (ax 10), .ref (ax 11), .ref (ax 13), .ref (ax 15), .ref (ax 16), .ref (ax 21), .ref (ax 26), .ref (ax 27), .ref (ax 28), .int xNow, .int xEr, .int xTr, .int xMo, .int xFa, .int xRe])), ((ax 15), .inl (cA 5, 20, .inr (.inr (.inr (.inr gTr))))), ((ax 16), .inr (7, [.ref (ax 1), .ref (ax 7), .ref (ax 15), .ref (ax 17), .ref (ax 18), .ref (ax 19), .ref (ax 20), .int xSr, .int xWm, .int xTp])), ((ax 1), .inr (3, [.ref (ax 2), .ref (ax 3), .ref (ax 4), .ref (ax 5), .ref (ax 6), .int xRz, .int xRn])), ((ax 7), .inr (0, [.ref (ax 8), .ref (ax 9), .int xMz])), ((ax 8), .inl (cA 0, 20, .inl gT)), ((ax 9), .inl (cA 0, 20, .inl gN)), ((ax 2), .inl (cA 0, 400, .inl gP)), ((ax 3), .inl (cA 0, 400, .inl gS)), ((ax 4), .inl (cA 0, 400, .inl gM)), ((ax 5), .inl (cA 0, 400, .inl gK)), ((ax 6), .inl (cA 0, 400, .inl gV)), ((ax 17), .inl (cA 2, 20, .inl gO)), ((ax 18), .inl (cA 0, 400, .inl gW)), ((ax 19), .inl (cA 1, 200, .inr (.inl gKk))), ((ax 20), .inl (cA 1, 20, .inr (.inl gVs)))]) [14, 15, 0, 1, 2, 3, 4, 5, 6, 7, 8, 9, 10, 11, 12, 13] rfl
        have hD9 := hD.part (cx := [((ax 0), .inr (8, [.ref (ax 1), .ref (ax 7), .ref (ax 10), .ref (ax 11), .ref (ax 13), .ref (ax 15), .ref (ax 16), .ref (ax 21), .ref (ax 26), .ref (ax 27), .ref (ax 28), .int xNow, .int xEr, .int xTr, .int xMo, .int xFa, .int xRe])), ((ax 15), .inl (cA 5, 20, .inr (.inr (.inr (.inr gTr))))), ((ax 16), .inr (7, [.ref (ax 1), .ref (ax 7), .ref (ax 15), .ref (ax 17), .ref (ax 18), .ref (ax 19), .ref (ax 20), .int xSr, .int xWm, .int xTp])), ((ax 1), .inr (3, [.ref (ax 2), .ref (ax 3), .ref (ax 4), .ref (ax 5), .ref (ax 6), .int xRz, .int xRn])), ((ax 7), .inr (0, [.ref (ax 8), .ref (ax 9), .int xMz])), ((ax 8), .inl (cA 0, 20, .inl gT)), ((ax 9), .inl (cA 0, 20, .inl gN)), ((ax 2), .inl (cA 0, 400, .inl gP)), ((ax 3), .inl (cA 0, 400, .inl gS)), ((ax 4), .inl (cA 0, 400, .inl gM)), ((ax 5), .inl (cA 0, 400, .inl gK)), ((ax 6), .inl (cA 0, 400, .inl gV)), ((ax 17), .inl (cA 2, 20, .inl gO)), ((ax 18), .inl (cA 0, 400, .inl gW)), ((ax 19), .inl (cA 1, 200, .inr (.inl gKk))), ((ax 20), .inl (cA 1, 20, .inr (.inl gVs)))]) [14, 15, 0, 1, 2, 3, 4, 5, 6, 7, 8, 9, 10, 11, 12, 13] (by decide) rfl
        subst hQe
        have hans : ((-9000000000000000000) : Int64).toInt = (-9000000000000000000) := (by decide)
        have hpost : (inB 0 399 400 gW) ∧ (0 ≤ xSr.toInt ∧ xSr.toInt ≤ 400) ∧ (0 ≤ xTp.toInt ∧ xTp.toInt ≤ 200) := ⟨i_gW, i_xSr, i_xTp⟩
        exact W.lret (v := (-9000000000000000000)) hx hb hr (fun t ht hW => ⟨⟨(-9000000000000000000), (gO, gW, xSr, xWm, gKk, xTp, gVs), rfl, hpost, by rw [ht]; exact hP9, hD9⟩, hS.F ht⟩) hS.2.2 dX8_value_33
      · have dc_15 : ¬ r_11.toInt = 0 := jI_ne c_15 rfl (by decide)
        refine lv_iload hx hb dX8_value_22 (lv_at hl 4 rfl) ?_
        obtain ⟨hPc, hDc, hFc, hCc⟩ := va_pre (ws' := []) hP hD hS hA [] (by decide) rfl
        refine va_calli (va_runS (As := [.int kn]) (rest := []) ⟨hx, hb, hml, hown, hts⟩ (k_X8_isMoment l dC dI cA H.size kn ) (va_cwS 1 hts gX8_value_X8_isMoment rfl rfl rfl (by decide +kernel) ⟨Nat.le_of_ble_eq_true rfl, Nat.le_of_ble_eq_true rfl⟩) ⟨fun a U g mk q => by obtain ⟨q0, q1, qP, qK, qD, qN⟩ := q; exact ⟨q0, q1, qP, va_K.moved (u := U) (U := U.calling g mk a) (Vm.Alike.refl U.vm) qK, qD, qN.same rfl⟩, fun U hU hW => ⟨rfl, by rw [hU], by rw [hU]; exact hPc, va_K.moved hW.alike hK, hDc.weaken (fun _ _ _ _ => trivial), hN.warm hW⟩⟩ rfl rfl hl.1 rfl (lv_room (Nat.le_of_ble_eq_true rfl)) dX8_value_24 ⟨Nat.le_of_ble_eq_true rfl, Nat.le_of_ble_eq_true rfl⟩) hS (fun q _ h => hFc q h) hFc (fun r_16 u_17 t H1 locs ht hvm hw_18 hB hz1 hk1 hS => ?_)
        try dsimp only at hw_18 hB
        have po_19 := hw_18
        clear hw_18
        obtain ⟨hP1, hD1⟩ := hB
        rw [ht] at hP1
        obtain ⟨hP, hD⟩ := va_joinQ (wr := [((ax 16), .inr (7, [.ref (ax 1), .ref (ax 7), .ref (ax 15), .ref (ax 17), .ref (ax 18), .ref (ax 19), .ref (ax 20), .int xSr, .int xWm, .int xTp])), ((ax 1), .inr (3, [.ref (ax 2), .ref (ax 3), .ref (ax 4), .ref (ax 5), .ref (ax 6), .int xRz, .int xRn])), ((ax 7), .inr (0, [.ref (ax 8), .ref (ax 9), .int xMz])), ((ax 8), .inl (cA 0, 20, .inl gT)), ((ax 9), .inl (cA 0, 20, .inl gN)), ((ax 2), .inl (cA 0, 400, .inl gP)), ((ax 3), .inl (cA 0, 400, .inl gS)), ((ax 4), .inl (cA 0, 400, .inl gM)), ((ax 5), .inl (cA 0, 400, .inl gK)), ((ax 6), .inl (cA 0, 400, .inl gV)), ((ax 17), .inl (cA 2, 20, .inl gO)), ((ax 18), .inl (cA 0, 400, .inl gW)), ((ax 19), .inl (cA 1, 200, .inr (.inl gKk))), ((ax 20), .inl (cA 1, 20, .inr (.inl gVs))), ((ax 0), .inr (8, [.ref (ax 1), .ref (ax 7), .ref (ax 10), .ref (ax 11), .ref (ax 13), .ref (ax 15), .ref (ax 16), .ref (ax 21), .ref (ax 26), .ref (ax 27), .ref (ax 28), .int xNow, .int xEr, .int xTr, .int xMo, .int xFa, .int xRe])), ((ax 15), .inl (cA 5, 20, .inr (.inr (.inr (.inr gTr)))))]) (w1 := []) hP hD [] [0, 1, 2, 3, 4, 5, 6, 7, 8, 9, 10, 11, 12, 13, 14, 15] rfl rfl (by decide) (by decide) hk1 hFc hP1 hD1
        clear hz1
        generalize H1 = H at hP hS ⊢
        replace hP : va_P (dC, dI) vwCl (([((ax 16), .inr (7, [.ref (ax 1), .ref (ax 7), .ref (ax 15), .ref (ax 17), .ref (ax 18), .ref (ax 19), .ref (ax 20), .int xSr, .int xWm, .int xTp])), ((ax 1), .inr (3, [.ref (ax 2), .ref (ax 3), .ref (ax 4), .ref (ax 5), .ref (ax 6), .int xRz, .int xRn])), ((ax 7), .inr (0, [.ref (ax 8), .ref (ax 9), .int xMz])), ((ax 8), .inl (cA 0, 20, .inl gT)), ((ax 9), .inl (cA 0, 20, .inl gN)), ((ax 2), .inl (cA 0, 400, .inl gP)), ((ax 3), .inl (cA 0, 400, .inl gS)), ((ax 4), .inl (cA 0, 400, .inl gM)), ((ax 5), .inl (cA 0, 400, .inl gK)), ((ax 6), .inl (cA 0, 400, .inl gV)), ((ax 17), .inl (cA 2, 20, .inl gO)), ((ax 18), .inl (cA 0, 400, .inl gW)), ((ax 19), .inl (cA 1, 200, .inr (.inl gKk))), ((ax 20), .inl (cA 1, 20, .inr (.inl gVs))), ((ax 0), .inr (8, [.ref (ax 1), .ref (ax 7), .ref (ax 10), .ref (ax 11), .ref (ax 13), .ref (ax 15), .ref (ax 16), .ref (ax 21), .ref (ax 26), .ref (ax 27), .ref (ax 28), .int xNow, .int xEr, .int xTr, .int xMo, .int xFa, .int xRe])), ((ax 15), .inl (cA 5, 20, .inr (.inr (.inr (.inr gTr)))))] : va_W) ++ va_pl L pf) H := hP
        replace hD : va_D A (([((ax 16), .inr (7, [.ref (ax 1), .ref (ax 7), .ref (ax 15), .ref (ax 17), .ref (ax 18), .ref (ax 19), .ref (ax 20), .int xSr, .int xWm, .int xTp])), ((ax 1), .inr (3, [.ref (ax 2), .ref (ax 3), .ref (ax 4), .ref (ax 5), .ref (ax 6), .int xRz, .int xRn])), ((ax 7), .inr (0, [.ref (ax 8), .ref (ax 9), .int xMz])), ((ax 8), .inl (cA 0, 20, .inl gT)), ((ax 9), .inl (cA 0, 20, .inl gN)), ((ax 2), .inl (cA 0, 400, .inl gP)), ((ax 3), .inl (cA 0, 400, .inl gS)), ((ax 4), .inl (cA 0, 400, .inl gM)), ((ax 5), .inl (cA 0, 400, .inl gK)), ((ax 6), .inl (cA 0, 400, .inl gV)), ((ax 17), .inl (cA 2, 20, .inl gO)), ((ax 18), .inl (cA 0, 400, .inl gW)), ((ax 19), .inl (cA 1, 200, .inr (.inl gKk))), ((ax 20), .inl (cA 1, 20, .inr (.inl gVs))), ((ax 0), .inr (8, [.ref (ax 1), .ref (ax 7), .ref (ax 10), .ref (ax 11), .ref (ax 13), .ref (ax 15), .ref (ax 16), .ref (ax 21), .ref (ax 26), .ref (ax 27), .ref (ax 28), .int xNow, .int xEr, .int xTr, .int xMo, .int xFa, .int xRe])), ((ax 15), .inl (cA 5, 20, .inr (.inr (.inr (.inr gTr)))))] : va_W) ++ va_pl L pf) := hD
        refine lv_if_ne (tgt := 34) hx hb dX8_value_27 (by decide) (fun c_20 => ?_) (fun c_20 => ?_)
        · have dc_20 : ¬ r_16.toInt = 0 := jI_ne c_20 rfl (by decide)
          refine lv_aload_n hx hb dX8_value_34 rfl (lv_at hl 0 rfl) ?_
          refine va_get (D := (dC, dI)) (ci := 8) (v := .ref (ax 16)) (C := RX8) (T := TX8) (N := 17) hx hb hts hIX8 hown hK hP 14 rfl rfl 6 (by decide) (hts (.fieldLink RX8 54 "TraitHouse" "worker" "LTraitHouse$Worker;") (by decide +kernel)) (fun _ h9 => h9) rfl dX8_value_35 ?_
          refine lv_iload_n hx hb dX8_value_38 rfl (lv_at hl 1 rfl) ?_
          refine lv_iload_n hx hb dX8_value_39 rfl (lv_at hl 2 rfl) ?_
          refine lv_iload_n hx hb dX8_value_40 rfl (lv_at hl 3 rfl) ?_
          refine lv_iload hx hb dX8_value_41 (lv_at hl 4 rfl) ?_
          have hPc := hP.part (cx := [((ax 16), .inr (7, [.ref (ax 1), .ref (ax 7), .ref (ax 15), .ref (ax 17), .ref (ax 18), .ref (ax 19), .ref (ax 20), .int xSr, .int xWm, .int xTp])), ((ax 1), .inr (3, [.ref (ax 2), .ref (ax 3), .ref (ax 4), .ref (ax 5), .ref (ax 6), .int xRz, .int xRn])), ((ax 7), .inr (0, [.ref (ax 8), .ref (ax 9), .int xMz])), ((ax 15), .inl (cA 5, 20, .inr (.inr (.inr (.inr gTr))))), ((ax 8), .inl (cA 0, 20, .inl gT)), ((ax 9), .inl (cA 0, 20, .inl gN)), ((ax 2), .inl (cA 0, 400, .inl gP)), ((ax 3), .inl (cA 0, 400, .inl gS)), ((ax 4), .inl (cA 0, 400, .inl gM)), ((ax 5), .inl (cA 0, 400, .inl gK)), ((ax 6), .inl (cA 0, 400, .inl gV)), ((ax 17), .inl (cA 2, 20, .inl gO)), ((ax 18), .inl (cA 0, 400, .inl gW)), ((ax 19), .inl (cA 1, 200, .inr (.inl gKk))), ((ax 20), .inl (cA 1, 20, .inr (.inl gVs)))]) [0, 1, 2, 15, 3, 4, 5, 6, 7, 8, 9, 10, 11, 12, 13] rfl
          have hDc := hD.part (cx := [((ax 16), .inr (7, [.ref (ax 1), .ref (ax 7), .ref (ax 15), .ref (ax 17), .ref (ax 18), .ref (ax 19), .ref (ax 20), .int xSr, .int xWm, .int xTp])), ((ax 1), .inr (3, [.ref (ax 2), .ref (ax 3), .ref (ax 4), .ref (ax 5), .ref (ax 6), .int xRz, .int xRn])), ((ax 7), .inr (0, [.ref (ax 8), .ref (ax 9), .int xMz])), ((ax 15), .inl (cA 5, 20, .inr (.inr (.inr (.inr gTr))))), ((ax 8), .inl (cA 0, 20, .inl gT)), ((ax 9), .inl (cA 0, 20, .inl gN)), ((ax 2), .inl (cA 0, 400, .inl gP)), ((ax 3), .inl (cA 0, 400, .inl gS)), ((ax 4), .inl (cA 0, 400, .inl gM)), ((ax 5), .inl (cA 0, 400, .inl gK)), ((ax 6), .inl (cA 0, 400, .inl gV)), ((ax 17), .inl (cA 2, 20, .inl gO)), ((ax 18), .inl (cA 0, 400, .inl gW)), ((ax 19), .inl (cA 1, 200, .inr (.inl gKk))), ((ax 20), .inl (cA 1, 20, .inr (.inl gVs)))]) [0, 1, 2, 15, 3, 4, 5, 6, 7, 8, 9, 10, 11, 12, 13] (by decide) rfl
          have hFc := va_freeP (cx := [((ax 16), .inr (7, [.ref (ax 1), .ref (ax 7), .ref (ax 15), .ref (ax 17), .ref (ax 18), .ref (ax 19), .ref (ax 20), .int xSr, .int xWm, .int xTp])), ((ax 1), .inr (3, [.ref (ax 2), .ref (ax 3), .ref (ax 4), .ref (ax 5), .ref (ax 6), .int xRz, .int xRn])), ((ax 7), .inr (0, [.ref (ax 8), .ref (ax 9), .int xMz])), ((ax 15), .inl (cA 5, 20, .inr (.inr (.inr (.inr gTr))))), ((ax 8), .inl (cA 0, 20, .inl gT)), ((ax 9), .inl (cA 0, 20, .inl gN)), ((ax 2), .inl (cA 0, 400, .inl gP)), ((ax 3), .inl (cA 0, 400, .inl gS)), ((ax 4), .inl (cA 0, 400, .inl gM)), ((ax 5), .inl (cA 0, 400, .inl gK)), ((ax 6), .inl (cA 0, 400, .inl gV)), ((ax 17), .inl (cA 2, 20, .inl gO)), ((ax 18), .inl (cA 0, 400, .inl gW)), ((ax 19), .inl (cA 1, 200, .inr (.inl gKk))), ((ax 20), .inl (cA 1, 20, .inr (.inl gVs)))]) hD hS hA [0, 1, 2, 15, 3, 4, 5, 6, 7, 8, 9, 10, 11, 12, 13] rfl
          refine va_calll (va_runVN (As := [.int tt, .int pp, .int mo, .int kn]) (rest := []) ⟨hx, hb, hml, hown, hts⟩ (k_X7_make l dC dI cA H.size ax xSr xWm xTp xRz xRn xMz gTr gT gN gP gS gM gK gV gO gW gKk gVs L pf tt pp mo kn xTr nd sl i_xSr i_xTp i_xRz i_gT i_gN i_gP i_gW hTP (by omega) (by omega) (by omega)) ⟨(va_cnB 4 hts gX8_value_X7_make_n177 rfl rfl rfl (nw_at hN 49 rfl) (hts (.initialized RX7) (by decide +kernel)) (by decide +kernel) ⟨Nat.le_of_ble_eq_true rfl, Nat.le_of_ble_eq_true rfl⟩), (hts (.instanceMethod yX7_make) (by decide +kernel)), (hts (.selects RX7 yX7_make yX7_make) (by decide +kernel))⟩ ⟨fun a U g mk q => by obtain ⟨q0, q1, qP, qK, qD, qN⟩ := q; exact ⟨q0, q1, qP, va_K.moved (u := U) (U := U.calling g mk a) (Vm.Alike.refl U.vm) qK, qD, qN.same rfl⟩, va_recv hK hPc (ci := 7) (q0 := 0) rfl rfl, fun U hU hW => ⟨rfl, by rw [hU], by rw [hU]; exact hPc, va_K.moved hW.alike hK, hDc.weaken (fun _ _ _ _ => trivial), hN.warm hW⟩⟩ rfl rfl hl.1 rfl (lv_room (Nat.le_of_ble_eq_true rfl)) dX8_value_43 ⟨Nat.le_of_ble_eq_true rfl, Nat.le_of_ble_eq_true rfl⟩) hS (fun q _ h => hFc q h) hFc (fun r_21 u_22 t H1 locs ht hvm hw_23 hB hz1 hk1 hS => ?_)
          obtain ⟨w_24, w_25, w_26, w_27, w_28, w_29, w_30⟩ := u_22
          try dsimp only at hw_23 hB
          obtain ⟨iv_31, iv_32, iv_33⟩ := hw_23
          obtain ⟨hP1, hD1⟩ := hB
          rw [ht] at hP1
          obtain ⟨hP, hD⟩ := va_joinP (wr := [((ax 0), .inr (8, [.ref (ax 1), .ref (ax 7), .ref (ax 10), .ref (ax 11), .ref (ax 13), .ref (ax 15), .ref (ax 16), .ref (ax 21), .ref (ax 26), .ref (ax 27), .ref (ax 28), .int xNow, .int xEr, .int xTr, .int xMo, .int xFa, .int xRe]))]) (rx := [((ax 16), .inr (7, [.ref (ax 1), .ref (ax 7), .ref (ax 15), .ref (ax 17), .ref (ax 18), .ref (ax 19), .ref (ax 20), .int w_26, .int w_27, .int w_29])), ((ax 1), .inr (3, [.ref (ax 2), .ref (ax 3), .ref (ax 4), .ref (ax 5), .ref (ax 6), .int xRz, .int xRn])), ((ax 7), .inr (0, [.ref (ax 8), .ref (ax 9), .int xMz])), ((ax 15), .inl (cA 5, 20, .inr (.inr (.inr (.inr gTr))))), ((ax 8), .inl (cA 0, 20, .inl gT)), ((ax 9), .inl (cA 0, 20, .inl gN)), ((ax 2), .inl (cA 0, 400, .inl gP)), ((ax 3), .inl (cA 0, 400, .inl gS)), ((ax 4), .inl (cA 0, 400, .inl gM)), ((ax 5), .inl (cA 0, 400, .inl gK)), ((ax 6), .inl (cA 0, 400, .inl gV)), ((ax 17), .inl (cA 2, 20, .inl w_24)), ((ax 18), .inl (cA 0, 400, .inl w_25)), ((ax 19), .inl (cA 1, 200, .inr (.inl w_28))), ((ax 20), .inl (cA 1, 20, .inr (.inl w_30)))]) (pl1 := va_pl L pf) hP hD [0, 1, 2, 15, 3, 4, 5, 6, 7, 8, 9, 10, 11, 12, 13] [14] rfl rfl (by decide) (by decide) hk1 hFc hP1 hD1
          clear hz1
          generalize H1 = H at hP hS ⊢
          replace hP : va_P (dC, dI) vwCl (([((ax 0), .inr (8, [.ref (ax 1), .ref (ax 7), .ref (ax 10), .ref (ax 11), .ref (ax 13), .ref (ax 15), .ref (ax 16), .ref (ax 21), .ref (ax 26), .ref (ax 27), .ref (ax 28), .int xNow, .int xEr, .int xTr, .int xMo, .int xFa, .int xRe])), ((ax 16), .inr (7, [.ref (ax 1), .ref (ax 7), .ref (ax 15), .ref (ax 17), .ref (ax 18), .ref (ax 19), .ref (ax 20), .int w_26, .int w_27, .int w_29])), ((ax 1), .inr (3, [.ref (ax 2), .ref (ax 3), .ref (ax 4), .ref (ax 5), .ref (ax 6), .int xRz, .int xRn])), ((ax 7), .inr (0, [.ref (ax 8), .ref (ax 9), .int xMz])), ((ax 15), .inl (cA 5, 20, .inr (.inr (.inr (.inr gTr))))), ((ax 8), .inl (cA 0, 20, .inl gT)), ((ax 9), .inl (cA 0, 20, .inl gN)), ((ax 2), .inl (cA 0, 400, .inl gP)), ((ax 3), .inl (cA 0, 400, .inl gS)), ((ax 4), .inl (cA 0, 400, .inl gM)), ((ax 5), .inl (cA 0, 400, .inl gK)), ((ax 6), .inl (cA 0, 400, .inl gV)), ((ax 17), .inl (cA 2, 20, .inl w_24)), ((ax 18), .inl (cA 0, 400, .inl w_25)), ((ax 19), .inl (cA 1, 200, .inr (.inl w_28))), ((ax 20), .inl (cA 1, 20, .inr (.inl w_30)))] : va_W) ++ va_pl L pf) H := hP
          replace hD : va_D A (([((ax 0), .inr (8, [.ref (ax 1), .ref (ax 7), .ref (ax 10), .ref (ax 11), .ref (ax 13), .ref (ax 15), .ref (ax 16), .ref (ax 21), .ref (ax 26), .ref (ax 27), .ref (ax 28), .int xNow, .int xEr, .int xTr, .int xMo, .int xFa, .int xRe])), ((ax 16), .inr (7, [.ref (ax 1), .ref (ax 7), .ref (ax 15), .ref (ax 17), .ref (ax 18), .ref (ax 19), .ref (ax 20), .int w_26, .int w_27, .int w_29])), ((ax 1), .inr (3, [.ref (ax 2), .ref (ax 3), .ref (ax 4), .ref (ax 5), .ref (ax 6), .int xRz, .int xRn])), ((ax 7), .inr (0, [.ref (ax 8), .ref (ax 9), .int xMz])), ((ax 15), .inl (cA 5, 20, .inr (.inr (.inr (.inr gTr))))), ((ax 8), .inl (cA 0, 20, .inl gT)), ((ax 9), .inl (cA 0, 20, .inl gN)), ((ax 2), .inl (cA 0, 400, .inl gP)), ((ax 3), .inl (cA 0, 400, .inl gS)), ((ax 4), .inl (cA 0, 400, .inl gM)), ((ax 5), .inl (cA 0, 400, .inl gK)), ((ax 6), .inl (cA 0, 400, .inl gV)), ((ax 17), .inl (cA 2, 20, .inl w_24)), ((ax 18), .inl (cA 0, 400, .inl w_25)), ((ax 19), .inl (cA 1, 200, .inr (.inl w_28))), ((ax 20), .inl (cA 1, 20, .inr (.inl w_30)))] : va_W) ++ va_pl L pf) := hD
          have hP9 := hP.part (cx := [((ax 0), .inr (8, [.ref (ax 1), .ref (ax 7), .ref (ax 10), .ref (ax 11), .ref (ax 13), .ref (ax 15), .ref (ax 16), .ref (ax 21), .ref (ax 26), .ref (ax 27), .ref (ax 28), .int xNow, .int xEr, .int xTr, .int xMo, .int xFa, .int xRe])), ((ax 15), .inl (cA 5, 20, .inr (.inr (.inr (.inr gTr))))), ((ax 16), .inr (7, [.ref (ax 1), .ref (ax 7), .ref (ax 15), .ref (ax 17), .ref (ax 18), .ref (ax 19), .ref (ax 20), .int w_26, .int w_27, .int w_29])), ((ax 1), .inr (3, [.ref (ax 2), .ref (ax 3), .ref (ax 4), .ref (ax 5), .ref (ax 6), .int xRz, .int xRn])), ((ax 7), .inr (0, [.ref (ax 8), .ref (ax 9), .int xMz])), ((ax 8), .inl (cA 0, 20, .inl gT)), ((ax 9), .inl (cA 0, 20, .inl gN)), ((ax 2), .inl (cA 0, 400, .inl gP)), ((ax 3), .inl (cA 0, 400, .inl gS)), ((ax 4), .inl (cA 0, 400, .inl gM)), ((ax 5), .inl (cA 0, 400, .inl gK)), ((ax 6), .inl (cA 0, 400, .inl gV)), ((ax 17), .inl (cA 2, 20, .inl w_24)), ((ax 18), .inl (cA 0, 400, .inl w_25)), ((ax 19), .inl (cA 1, 200, .inr (.inl w_28))), ((ax 20), .inl (cA 1, 20, .inr (.inl w_30)))]) [0, 4, 1, 2, 3, 5, 6, 7, 8, 9, 10, 11, 12, 13, 14, 15] rfl
          have hD9 := hD.part (cx := [((ax 0), .inr (8, [.ref (ax 1), .ref (ax 7), .ref (ax 10), .ref (ax 11), .ref (ax 13), .ref (ax 15), .ref (ax 16), .ref (ax 21), .ref (ax 26), .ref (ax 27), .ref (ax 28), .int xNow, .int xEr, .int xTr, .int xMo, .int xFa, .int xRe])), ((ax 15), .inl (cA 5, 20, .inr (.inr (.inr (.inr gTr))))), ((ax 16), .inr (7, [.ref (ax 1), .ref (ax 7), .ref (ax 15), .ref (ax 17), .ref (ax 18), .ref (ax 19), .ref (ax 20), .int w_26, .int w_27, .int w_29])), ((ax 1), .inr (3, [.ref (ax 2), .ref (ax 3), .ref (ax 4), .ref (ax 5), .ref (ax 6), .int xRz, .int xRn])), ((ax 7), .inr (0, [.ref (ax 8), .ref (ax 9), .int xMz])), ((ax 8), .inl (cA 0, 20, .inl gT)), ((ax 9), .inl (cA 0, 20, .inl gN)), ((ax 2), .inl (cA 0, 400, .inl gP)), ((ax 3), .inl (cA 0, 400, .inl gS)), ((ax 4), .inl (cA 0, 400, .inl gM)), ((ax 5), .inl (cA 0, 400, .inl gK)), ((ax 6), .inl (cA 0, 400, .inl gV)), ((ax 17), .inl (cA 2, 20, .inl w_24)), ((ax 18), .inl (cA 0, 400, .inl w_25)), ((ax 19), .inl (cA 1, 200, .inr (.inl w_28))), ((ax 20), .inl (cA 1, 20, .inr (.inl w_30)))]) [0, 4, 1, 2, 3, 5, 6, 7, 8, 9, 10, 11, 12, 13, 14, 15] (by decide) rfl
          subst hQe
          have hans : (r_21 : Int64).toInt = r_21.toInt := rfl
          have hpost : (inB 0 399 400 w_25) ∧ (0 ≤ w_26.toInt ∧ w_26.toInt ≤ 400) ∧ (0 ≤ w_29.toInt ∧ w_29.toInt ≤ 200) := ⟨iv_31, iv_32, iv_33⟩
          exact W.lret (v := r_21) hx hb hr (fun t ht hW => ⟨⟨r_21, (w_24, w_25, w_26, w_27, w_28, w_29, w_30), rfl, hpost, by rw [ht]; exact hP9, hD9⟩, hS.F ht⟩) hS.2.2 dX8_value_46
        · have dc_20 : r_16.toInt = 0 := jI_eq c_20 rfl (by decide)
          refine lv_ldc2 hx hb hown (hts (.constantLong RX8 175 (-9000000000000000000)) (by decide +kernel)) dX8_value_30 ?_
          have hP9 := hP.part (cx := [((ax 0), .inr (8, [.ref (ax 1), .ref (ax 7), .ref (ax 10), .ref (ax 11), .ref (ax 13), .ref (ax 15), .ref (ax 16), .ref (ax 21), .ref (ax 26), .ref (ax 27), .ref (ax 28), .int xNow, .int xEr, .int xTr, .int xMo, .int xFa, .int xRe])), ((ax 15), .inl (cA 5, 20, .inr (.inr (.inr (.inr gTr))))), ((ax 16), .inr (7, [.ref (ax 1), .ref (ax 7), .ref (ax 15), .ref (ax 17), .ref (ax 18), .ref (ax 19), .ref (ax 20), .int xSr, .int xWm, .int xTp])), ((ax 1), .inr (3, [.ref (ax 2), .ref (ax 3), .ref (ax 4), .ref (ax 5), .ref (ax 6), .int xRz, .int xRn])), ((ax 7), .inr (0, [.ref (ax 8), .ref (ax 9), .int xMz])), ((ax 8), .inl (cA 0, 20, .inl gT)), ((ax 9), .inl (cA 0, 20, .inl gN)), ((ax 2), .inl (cA 0, 400, .inl gP)), ((ax 3), .inl (cA 0, 400, .inl gS)), ((ax 4), .inl (cA 0, 400, .inl gM)), ((ax 5), .inl (cA 0, 400, .inl gK)), ((ax 6), .inl (cA 0, 400, .inl gV)), ((ax 17), .inl (cA 2, 20, .inl gO)), ((ax 18), .inl (cA 0, 400, .inl gW)), ((ax 19), .inl (cA 1, 200, .inr (.inl gKk))), ((ax 20), .inl (cA 1, 20, .inr (.inl gVs)))]) [14, 15, 0, 1, 2, 3, 4, 5, 6, 7, 8, 9, 10, 11, 12, 13] rfl
          have hD9 := hD.part (cx := [((ax 0), .inr (8, [.ref (ax 1), .ref (ax 7), .ref (ax 10), .ref (ax 11), .ref (ax 13), .ref (ax 15), .ref (ax 16), .ref (ax 21), .ref (ax 26), .ref (ax 27), .ref (ax 28), .int xNow, .int xEr, .int xTr, .int xMo, .int xFa, .int xRe])), ((ax 15), .inl (cA 5, 20, .inr (.inr (.inr (.inr gTr))))), ((ax 16), .inr (7, [.ref (ax 1), .ref (ax 7), .ref (ax 15), .ref (ax 17), .ref (ax 18), .ref (ax 19), .ref (ax 20), .int xSr, .int xWm, .int xTp])), ((ax 1), .inr (3, [.ref (ax 2), .ref (ax 3), .ref (ax 4), .ref (ax 5), .ref (ax 6), .int xRz, .int xRn])), ((ax 7), .inr (0, [.ref (ax 8), .ref (ax 9), .int xMz])), ((ax 8), .inl (cA 0, 20, .inl gT)), ((ax 9), .inl (cA 0, 20, .inl gN)), ((ax 2), .inl (cA 0, 400, .inl gP)), ((ax 3), .inl (cA 0, 400, .inl gS)), ((ax 4), .inl (cA 0, 400, .inl gM)), ((ax 5), .inl (cA 0, 400, .inl gK)), ((ax 6), .inl (cA 0, 400, .inl gV)), ((ax 17), .inl (cA 2, 20, .inl gO)), ((ax 18), .inl (cA 0, 400, .inl gW)), ((ax 19), .inl (cA 1, 200, .inr (.inl gKk))), ((ax 20), .inl (cA 1, 20, .inr (.inl gVs)))]) [14, 15, 0, 1, 2, 3, 4, 5, 6, 7, 8, 9, 10, 11, 12, 13] (by decide) rfl
          subst hQe
          have hans : ((-9000000000000000000) : Int64).toInt = (-9000000000000000000) := (by decide)
          have hpost : (inB 0 399 400 gW) ∧ (0 ≤ xSr.toInt ∧ xSr.toInt ≤ 400) ∧ (0 ≤ xTp.toInt ∧ xTp.toInt ≤ 200) := ⟨i_gW, i_xSr, i_xTp⟩
          exact W.lret (v := (-9000000000000000000)) hx hb hr (fun t ht hW => ⟨⟨(-9000000000000000000), (gO, gW, xSr, xWm, gKk, xTp, gVs), rfl, hpost, by rw [ht]; exact hP9, hD9⟩, hS.F ht⟩) hS.2.2 dX8_value_33
  · have hrq := po_4.2 hT_5
    obtain rfl : r_1 = none := hrq
    refine W.eq (g2 := F0 m 5 ls [.null]) rfl ?_
    refine lv_ifnullN (tgt := 30) hx hb dX8_value_5 (by decide) ?_
    refine lv_ldc2 hx hb hown (hts (.constantLong RX8 175 (-9000000000000000000)) (by decide +kernel)) dX8_value_30 ?_
    have hP9 := hP.part (cx := [((ax 0), .inr (8, [.ref (ax 1), .ref (ax 7), .ref (ax 10), .ref (ax 11), .ref (ax 13), .ref (ax 15), .ref (ax 16), .ref (ax 21), .ref (ax 26), .ref (ax 27), .ref (ax 28), .int xNow, .int xEr, .int xTr, .int xMo, .int xFa, .int xRe])), ((ax 15), .inl (cA 5, 20, .inr (.inr (.inr (.inr gTr))))), ((ax 16), .inr (7, [.ref (ax 1), .ref (ax 7), .ref (ax 15), .ref (ax 17), .ref (ax 18), .ref (ax 19), .ref (ax 20), .int xSr, .int xWm, .int xTp])), ((ax 1), .inr (3, [.ref (ax 2), .ref (ax 3), .ref (ax 4), .ref (ax 5), .ref (ax 6), .int xRz, .int xRn])), ((ax 7), .inr (0, [.ref (ax 8), .ref (ax 9), .int xMz])), ((ax 8), .inl (cA 0, 20, .inl gT)), ((ax 9), .inl (cA 0, 20, .inl gN)), ((ax 2), .inl (cA 0, 400, .inl gP)), ((ax 3), .inl (cA 0, 400, .inl gS)), ((ax 4), .inl (cA 0, 400, .inl gM)), ((ax 5), .inl (cA 0, 400, .inl gK)), ((ax 6), .inl (cA 0, 400, .inl gV)), ((ax 17), .inl (cA 2, 20, .inl gO)), ((ax 18), .inl (cA 0, 400, .inl gW)), ((ax 19), .inl (cA 1, 200, .inr (.inl gKk))), ((ax 20), .inl (cA 1, 20, .inr (.inl gVs)))]) [14, 15, 0, 1, 2, 3, 4, 5, 6, 7, 8, 9, 10, 11, 12, 13] rfl
    have hD9 := hD.part (cx := [((ax 0), .inr (8, [.ref (ax 1), .ref (ax 7), .ref (ax 10), .ref (ax 11), .ref (ax 13), .ref (ax 15), .ref (ax 16), .ref (ax 21), .ref (ax 26), .ref (ax 27), .ref (ax 28), .int xNow, .int xEr, .int xTr, .int xMo, .int xFa, .int xRe])), ((ax 15), .inl (cA 5, 20, .inr (.inr (.inr (.inr gTr))))), ((ax 16), .inr (7, [.ref (ax 1), .ref (ax 7), .ref (ax 15), .ref (ax 17), .ref (ax 18), .ref (ax 19), .ref (ax 20), .int xSr, .int xWm, .int xTp])), ((ax 1), .inr (3, [.ref (ax 2), .ref (ax 3), .ref (ax 4), .ref (ax 5), .ref (ax 6), .int xRz, .int xRn])), ((ax 7), .inr (0, [.ref (ax 8), .ref (ax 9), .int xMz])), ((ax 8), .inl (cA 0, 20, .inl gT)), ((ax 9), .inl (cA 0, 20, .inl gN)), ((ax 2), .inl (cA 0, 400, .inl gP)), ((ax 3), .inl (cA 0, 400, .inl gS)), ((ax 4), .inl (cA 0, 400, .inl gM)), ((ax 5), .inl (cA 0, 400, .inl gK)), ((ax 6), .inl (cA 0, 400, .inl gV)), ((ax 17), .inl (cA 2, 20, .inl gO)), ((ax 18), .inl (cA 0, 400, .inl gW)), ((ax 19), .inl (cA 1, 200, .inr (.inl gKk))), ((ax 20), .inl (cA 1, 20, .inr (.inl gVs)))]) [14, 15, 0, 1, 2, 3, 4, 5, 6, 7, 8, 9, 10, 11, 12, 13] (by decide) rfl
    subst hQe
    have hans : ((-9000000000000000000) : Int64).toInt = (-9000000000000000000) := (by decide)
    have hpost : (inB 0 399 400 gW) ∧ (0 ≤ xSr.toInt ∧ xSr.toInt ≤ 400) ∧ (0 ≤ xTp.toInt ∧ xTp.toInt ≤ 200) := ⟨i_gW, i_xSr, i_xTp⟩
    exact W.lret (v := (-9000000000000000000)) hx hb hr (fun t ht hW => ⟨⟨(-9000000000000000000), (gO, gW, xSr, xWm, gKk, xTp, gVs), rfl, hpost, by rw [ht]; exact hP9, hD9⟩, hS.F ht⟩) hS.2.2 dX8_value_33

set_option maxHeartbeats 8000000 in
set_option maxRecDepth 100000 in
theorem k_X8_law (l : Launch) (dC : Nat → ClassId) (dI : Nat → Nat → Nat) (cA : Nat → ClassId) (sz : Nat) (ax : Nat → Nat) (xNow : Int32) (xEr : Int32) (xTr : Int32) (xMo : Int32) (xFa : Int32) (xRe : Int32) (gTr : Nat → Option Nat) (L : List Nat) (pf : Nat → va_E) (tt : Int32) (a : Int64) (b : Int64) (nd : Nat → Int32) (sl : Nat → Int32) (i_xNow : 0 ≤ xNow.toInt ∧ xNow.toInt ≤ 100000) (i_xTr : 0 ≤ xTr.toInt ∧ xTr.toInt ≤ 20) (i_xMo : 0 ≤ xMo.toInt ∧ xMo.toInt ≤ 10) (hTP : TP cA xTr gTr L pf nd sl) : Met l yX8_law wsX8_law ({ frames := 2, cells := 0, slots := 0, locals := 44 }) (va_Pc [.ref (ax 0), .int tt, .long a, .long b] (fun U => U.heap.size = sz ∧ va_P (dC, dI) vwCl (([((ax 0), .inr (8, [.ref (ax 1), .ref (ax 7), .ref (ax 10), .ref (ax 11), .ref (ax 13), .ref (ax 15), .ref (ax 16), .ref (ax 21), .ref (ax 26), .ref (ax 27), .ref (ax 28), .int xNow, .int xEr, .int xTr, .int xMo, .int xFa, .int xRe])), ((ax 15), .inl (cA 5, 20, .inr (.inr (.inr (.inr gTr)))))] : va_W) ++ va_pl L pf) U.heap ∧ va_K (dC, dI) vwCl (tyL cA) U ∧ va_D (fun _ => True) (([((ax 0), .inr (8, [.ref (ax 1), .ref (ax 7), .ref (ax 10), .ref (ax 11), .ref (ax 13), .ref (ax 15), .ref (ax 16), .ref (ax 21), .ref (ax 26), .ref (ax 27), .ref (ax 28), .int xNow, .int xEr, .int xTr, .int xMo, .int xFa, .int xRe])), ((ax 15), .inl (cA 5, 20, .inr (.inr (.inr (.inr gTr)))))] : va_W) ++ va_pl L pf) ∧ nw_ok U)) (va_Qi (fun (r : Int32) (u : (Nat → va_E) × Int32) => ((b.toInt < a.toInt → r.toInt = (-1)) ∧ (a.toInt ≤ b.toInt ∧ ¬ (0 ≤ tt.toInt ∧ tt.toInt < xTr.toInt) → r.toInt = (-2)) ∧ (a.toInt ≤ b.toInt ∧ 0 ≤ tt.toInt ∧ tt.toInt < xTr.toInt → r.toInt = 0)) ∧ (shp pf u.1)) (fun (u : (Nat → va_E) × Int32) (t : State) => va_P (dC, dI) vwCl (([((ax 0), .inr (8, [.ref (ax 1), .ref (ax 7), .ref (ax 10), .ref (ax 11), .ref (ax 13), .ref (ax 15), .ref (ax 16), .ref (ax 21), .ref (ax 26), .ref (ax 27), .ref (ax 28), .int xNow, .int xEr, .int xTr, .int xMo, .int xFa, .int u.2])), ((ax 15), .inl (cA 5, 20, .inr (.inr (.inr (.inr gTr)))))] : va_W) ++ va_pl L u.1) t.heap ∧ va_D (va_A (([((ax 0), .inr (8, [.ref (ax 1), .ref (ax 7), .ref (ax 10), .ref (ax 11), .ref (ax 13), .ref (ax 15), .ref (ax 16), .ref (ax 21), .ref (ax 26), .ref (ax 27), .ref (ax 28), .int xNow, .int xEr, .int xTr, .int xMo, .int xFa, .int xRe])), ((ax 15), .inl (cA 5, 20, .inr (.inr (.inr (.inr gTr)))))] : va_W) ++ va_pl L pf) sz) (([((ax 0), .inr (8, [.ref (ax 1), .ref (ax 7), .ref (ax 10), .ref (ax 11), .ref (ax 13), .ref (ax 15), .ref (ax 16), .ref (ax 21), .ref (ax 26), .ref (ax 27), .ref (ax 28), .int xNow, .int xEr, .int xTr, .int xMo, .int xFa, .int u.2])), ((ax 15), .inl (cA 5, 20, .inr (.inr (.inr (.inr gTr)))))] : va_W) ++ va_pl L u.1)) (va_A (([((ax 0), .inr (8, [.ref (ax 1), .ref (ax 7), .ref (ax 10), .ref (ax 11), .ref (ax 13), .ref (ax 15), .ref (ax 16), .ref (ax 21), .ref (ax 26), .ref (ax 27), .ref (ax 28), .int xNow, .int xEr, .int xTr, .int xMo, .int xFa, .int xRe])), ((ax 15), .inl (cA 5, 20, .inr (.inr (.inr (.inr gTr)))))] : va_W) ++ va_pl L pf) sz)) 0 0 (va_A (([((ax 0), .inr (8, [.ref (ax 1), .ref (ax 7), .ref (ax 10), .ref (ax 11), .ref (ax 13), .ref (ax 15), .ref (ax 16), .ref (ax 21), .ref (ax 26), .ref (ax 27), .ref (ax 28), .int xNow, .int xEr, .int xTr, .int xMo, .int xFa, .int xRe])), ((ax 15), .inl (cA 5, 20, .inr (.inr (.inr (.inr gTr)))))] : va_W) ++ va_pl L pf) sz) := by
  refine Met.ofW (cc := cX8_law) (maxL := 7) (ret := (some .int)) (by decide) rfl ?_
  intro p e s m args below meth c s₁ B hml hv
  obtain ⟨rfl, hsz, hP, hK, hD0, hN⟩ := hv
  have hx := B.exec
  have hb := B.bytes
  have hr := B.returns
  have hts := atoms_spec (ws := wsX8_law) B.pre
  have hown : s.vm.findClass RX8 = some m.cls := findClass_of_methodNamed B.named
  have hlocks := B.notSynchronized
  subst hsz
  have hD := hD0.self (sz := s.heap.size)
  generalize hAe : va_A (([((ax 0), .inr (8, [.ref (ax 1), .ref (ax 7), .ref (ax 10), .ref (ax 11), .ref (ax 13), .ref (ax 15), .ref (ax 16), .ref (ax 21), .ref (ax 26), .ref (ax 27), .ref (ax 28), .int xNow, .int xEr, .int xTr, .int xMo, .int xFa, .int xRe])), ((ax 15), .inl (cA 5, 20, .inr (.inr (.inr (.inr gTr)))))] : va_W) ++ va_pl L pf) s.heap.size = A at hD ⊢
  have hA : ∀ q : Nat, s.heap.size ≤ q → A q := fun q h => by rw [← hAe]; exact Or.inr h
  have hS : va_S A s.heap s.heap [] := va_S.rf
  have hIX6 : ∀ w ∈ u_ws RX6 TX6 8, w ∈ wsX8_law := by decide +kernel
  have hl := lv_entry ([.ref (ax 0), .int tt, .long a, .long b]) (n := 7) (Nat.le_of_ble_eq_true rfl)
  rw [lg_entry_eq]
  generalize (lg_sl ([.ref (ax 0), .int tt, .long a, .long b]) ++ List.replicate (7 - (lg_sl ([.ref (ax 0), .int tt, .long a, .long b])).length) Slot.unset).toArray = ls at hl ⊢
  have hl : lv_has ls 7 [(0, .ref (ax 0)), (1, .int tt), (2, .long a), (4, .long b)] := hl
  generalize hQe : MQ below _ _ _ _ _ _ = QQ
  refine lv_lload_n hx hb dX8_law_0 rfl (lv_at hl 2 rfl) ?_
  refine lv_lload hx hb dX8_law_1 (lv_at hl 3 rfl) ?_
  refine W.lcmp hx hb dX8_law_3 ?_
  refine lv_topi (fun k_1 ek_1 => ?_)
  have dk_1 : (k_1.toInt < 0 ↔ a.toInt < b.toInt) ∧ (k_1.toInt = 0 ↔ a.toInt = b.toInt) ∧ (0 < k_1.toInt ↔ b.toInt < a.toInt) := jI_cmp ek_1 rfl rfl
  refine lv_if_le (tgt := 13) hx hb dX8_law_4 (by decide) (fun c_2 => ?_) (fun c_2 => ?_)
  · have dc_2 : k_1.toInt ≤ 0 := jI_le c_2 rfl (by decide)
    refine lv_aload_n hx hb dX8_law_13 rfl (lv_at hl 0 rfl) ?_
    refine lv_iload_n hx hb dX8_law_14 rfl (lv_at hl 1 rfl) ?_
    obtain ⟨hPc, hDc, hFc, hCc⟩ := va_pre (ws' := [((ax 0), .inr (8, [.ref (ax 1), .ref (ax 7), .ref (ax 10), .ref (ax 11), .ref (ax 13), .ref (ax 15), .ref (ax 16), .ref (ax 21), .ref (ax 26), .ref (ax 27), .ref (ax 28), .int xNow, .int xEr, .int xTr, .int xMo, .int xFa, .int xRe])), ((ax 15), .inl (cA 5, 20, .inr (.inr (.inr (.inr gTr)))))]) hP hD hS hA [0, 1] (by decide) rfl
    refine va_callq (va_runV (As := [.int tt]) (rest := []) ⟨hx, hb, hml, hown, hts⟩ (k_X8_traitAt l dC dI cA s.heap.size ax xNow xEr xTr xMo xFa xRe gTr tt i_xNow i_xTr i_xMo) (cwV 1 hts gX8_law_X8_traitAt rfl rfl rfl (by decide +kernel) ⟨Nat.le_of_ble_eq_true rfl, Nat.le_of_ble_eq_true rfl⟩) ⟨fun a U g mk q => by obtain ⟨q0, q1, qP, qK, qD, qN⟩ := q; exact ⟨q0, q1, qP, va_K.moved (u := U) (U := U.calling g mk a) (Vm.Alike.refl U.vm) qK, qD, qN.same rfl⟩, va_recv hK hPc (ci := 8) (q0 := 0) rfl rfl, fun U hU hW => ⟨rfl, by rw [hU], by rw [hU]; exact hPc, va_K.moved hW.alike hK, hDc.weaken (fun _ _ _ _ => trivial), hN.warm hW⟩⟩ rfl rfl hl.1 rfl (lv_room (Nat.le_of_ble_eq_true rfl)) dX8_law_15 ⟨Nat.le_of_ble_eq_true rfl, Nat.le_of_ble_eq_true rfl⟩) hS (fun q _ h => hFc q h) hFc (fun r_3 u_4 t H1 locs ht hvm hw_5 hB hz1 hk1 hS => ?_)
    try dsimp only at hw_5 hB
    have po_6 := hw_5
    clear hw_5
    obtain ⟨hP1, hD1⟩ := hB
    rw [ht] at hP1
    obtain ⟨hP, hD⟩ := va_joinQ (wr := []) (w1 := [((ax 0), .inr (8, [.ref (ax 1), .ref (ax 7), .ref (ax 10), .ref (ax 11), .ref (ax 13), .ref (ax 15), .ref (ax 16), .ref (ax 21), .ref (ax 26), .ref (ax 27), .ref (ax 28), .int xNow, .int xEr, .int xTr, .int xMo, .int xFa, .int xRe])), ((ax 15), .inl (cA 5, 20, .inr (.inr (.inr (.inr gTr)))))]) hP hD [0, 1] [] rfl rfl (by decide) (by decide) hk1 hFc hP1 hD1
    clear hz1
    generalize H1 = H at hP hS ⊢
    replace hP : va_P (dC, dI) vwCl (([((ax 0), .inr (8, [.ref (ax 1), .ref (ax 7), .ref (ax 10), .ref (ax 11), .ref (ax 13), .ref (ax 15), .ref (ax 16), .ref (ax 21), .ref (ax 26), .ref (ax 27), .ref (ax 28), .int xNow, .int xEr, .int xTr, .int xMo, .int xFa, .int xRe])), ((ax 15), .inl (cA 5, 20, .inr (.inr (.inr (.inr gTr)))))] : va_W) ++ va_pl L pf) H := hP
    replace hD : va_D A (([((ax 0), .inr (8, [.ref (ax 1), .ref (ax 7), .ref (ax 10), .ref (ax 11), .ref (ax 13), .ref (ax 15), .ref (ax 16), .ref (ax 21), .ref (ax 26), .ref (ax 27), .ref (ax 28), .int xNow, .int xEr, .int xTr, .int xMo, .int xFa, .int xRe])), ((ax 15), .inl (cA 5, 20, .inr (.inr (.inr (.inr gTr)))))] : va_W) ++ va_pl L pf) := hD
    by_cases hT_7 : 0 ≤ tt.toInt ∧ tt.toInt < xTr.toInt
    · have hrq := po_6.1 hT_7
      obtain ⟨ndv_7, hnd_7⟩ : ∃ z : Int32, z = nd tt.toNatClampNeg := ⟨_, rfl⟩
      obtain ⟨slv_7, hsl_7⟩ : ∃ z : Int32, z = sl tt.toNatClampNeg := ⟨_, rfl⟩
      obtain ⟨t_7, hte_7, hok_7⟩ := TP_at (i := tt) hTP (by omega) (by omega)
      rw [← hnd_7, ← hsl_7] at hok_7
      have hok9 := hok_7
      obtain ⟨htm_7, s_7, v_7, m_7, lf_7, lt_7, he_7, htf_7, hso_7, hvm_7, ⟨kv_7, hvf_7⟩, hmm_7, km_7, hmf_7⟩ := hok9
      rw [hte_7] at hrq
      obtain rfl : r_3 = some t_7 := hrq
      refine W.eq (g2 := F0 m 18 ls [.ref t_7]) rfl ?_
      refine lv_astore (lv' := [(6, .ref t_7), (0, .ref (ax 0)), (1, .int tt), (2, .long a), (4, .long b)]) hx hb dX8_law_18 hl (by decide) rfl (fun ls hl => ?_)
      refine lv_aload hx hb dX8_law_20 (lv_at hl 0 rfl) ?_
      refine lv_ifnonnull (tgt := 32) hx hb dX8_law_22 (by decide) ?_
      refine lv_aload hx hb dX8_law_32 (lv_at hl 0 rfl) ?_
      refine lv_lload_n hx hb dX8_law_34 rfl (lv_at hl 3 rfl) ?_
      obtain ⟨pk_8, hpk_8⟩ := va_pl_get (X := [((ax 0), .inr (8, [.ref (ax 1), .ref (ax 7), .ref (ax 10), .ref (ax 11), .ref (ax 13), .ref (ax 15), .ref (ax 16), .ref (ax 21), .ref (ax 26), .ref (ax 27), .ref (ax 28), .int xNow, .int xEr, .int xTr, .int xMo, .int xFa, .int xRe])), ((ax 15), .inl (cA 5, 20, .inr (.inr (.inr (.inr gTr)))))]) (f := pf) htm_7
      have gpk_8 := hpk_8
      rw [htf_7] at hpk_8
      have hD8 := hD
      refine va_putN (D := (dC, dI)) (ci := 6) (v := .long a) (ty := .long) (C := RX6) (T := TX6) (N := 8) hx hb hts hIX6 tyX6 tyX6_ok nmX6 hown hK hP hD hS pk_8 hpk_8 rfl 4 (by decide) (va_Nw.use rfl (nw_at hN 26 rfl)) (fun _ h9 => h9) rfl (by decide +kernel) rfl rfl (Nat.le_of_ble_eq_true rfl) dX8_law_35 (fun H locs hP hD hS => ?_)
      obtain ⟨pf_9, epf_9⟩ : ∃ g : Nat → va_E, g = va_up pf t_7 (.inr (6, [.ref s_7, .int ndv_7, .ref v_7, .ref m_7, .long a, .long lt_7, .int slv_7, .int he_7])) := ⟨_, rfl⟩
      replace hP : va_P (dC, dI) vwCl ((([((ax 0), .inr (8, [.ref (ax 1), .ref (ax 7), .ref (ax 10), .ref (ax 11), .ref (ax 13), .ref (ax 15), .ref (ax 16), .ref (ax 21), .ref (ax 26), .ref (ax 27), .ref (ax 28), .int xNow, .int xEr, .int xTr, .int xMo, .int xFa, .int xRe])), ((ax 15), .inl (cA 5, 20, .inr (.inr (.inr (.inr gTr)))))] : va_W) ++ va_pl L pf).set pk_8 (t_7, .inr (6, [.ref s_7, .int ndv_7, .ref v_7, .ref m_7, .long a, .long lt_7, .int slv_7, .int he_7]))) H := hP
      replace hD : va_D A ((([((ax 0), .inr (8, [.ref (ax 1), .ref (ax 7), .ref (ax 10), .ref (ax 11), .ref (ax 13), .ref (ax 15), .ref (ax 16), .ref (ax 21), .ref (ax 26), .ref (ax 27), .ref (ax 28), .int xNow, .int xEr, .int xTr, .int xMo, .int xFa, .int xRe])), ((ax 15), .inl (cA 5, 20, .inr (.inr (.inr (.inr gTr)))))] : va_W) ++ va_pl L pf).set pk_8 (t_7, .inr (6, [.ref s_7, .int ndv_7, .ref v_7, .ref m_7, .long a, .long lt_7, .int slv_7, .int he_7]))) := hD
      rw [va_pl_set hD8 htm_7 gpk_8, ← epf_9] at hP hD
      have pe_10 : pf_9 t_7 = .inr (6, [.ref s_7, .int ndv_7, .ref v_7, .ref m_7, .long a, .long lt_7, .int slv_7, .int he_7]) := by rw [epf_9]; exact va_up_self _ _ _
      have pe_11 : pf_9 v_7 = .inl (cA 1, 20, .inr (.inl kv_7)) := by rw [epf_9, va_up_ne _ _ (fun q9 => by have z9 := hvf_7; rw [q9, htf_7] at z9; simp at z9)]; exact hvf_7
      have pe_12 : pf_9 m_7 = .inl (cA 0, 20, .inl km_7) := by rw [epf_9, va_up_ne _ _ (fun q9 => by have z9 := hmf_7; rw [q9, htf_7] at z9; simp at z9)]; exact hmf_7
      have sh_13 : shp pf pf_9 := shp_up epf_9 htf_7 shpE_t
      refine lv_aload hx hb dX8_law_38 (lv_at hl 0 rfl) ?_
      refine lv_lload hx hb dX8_law_40 (lv_at hl 4 rfl) ?_
      obtain ⟨pk_14, hpk_14⟩ := va_pl_get (X := [((ax 0), .inr (8, [.ref (ax 1), .ref (ax 7), .ref (ax 10), .ref (ax 11), .ref (ax 13), .ref (ax 15), .ref (ax 16), .ref (ax 21), .ref (ax 26), .ref (ax 27), .ref (ax 28), .int xNow, .int xEr, .int xTr, .int xMo, .int xFa, .int xRe])), ((ax 15), .inl (cA 5, 20, .inr (.inr (.inr (.inr gTr)))))]) (f := pf_9) htm_7
      have gpk_14 := hpk_14
      rw [pe_10] at hpk_14
      have hD8 := hD
      refine va_putN (D := (dC, dI)) (ci := 6) (v := .long b) (ty := .long) (C := RX6) (T := TX6) (N := 8) hx hb hts hIX6 tyX6 tyX6_ok nmX6 hown hK hP hD hS pk_14 hpk_14 rfl 5 (by decide) (va_Nw.use rfl (nw_at hN 27 rfl)) (fun _ h9 => h9) rfl (by decide +kernel) rfl rfl (Nat.le_of_ble_eq_true rfl) dX8_law_42 (fun H locs hP hD hS => ?_)
      obtain ⟨pf_15, epf_15⟩ : ∃ g : Nat → va_E, g = va_up pf_9 t_7 (.inr (6, [.ref s_7, .int ndv_7, .ref v_7, .ref m_7, .long a, .long b, .int slv_7, .int he_7])) := ⟨_, rfl⟩
      replace hP : va_P (dC, dI) vwCl ((([((ax 0), .inr (8, [.ref (ax 1), .ref (ax 7), .ref (ax 10), .ref (ax 11), .ref (ax 13), .ref (ax 15), .ref (ax 16), .ref (ax 21), .ref (ax 26), .ref (ax 27), .ref (ax 28), .int xNow, .int xEr, .int xTr, .int xMo, .int xFa, .int xRe])), ((ax 15), .inl (cA 5, 20, .inr (.inr (.inr (.inr gTr)))))] : va_W) ++ va_pl L pf_9).set pk_14 (t_7, .inr (6, [.ref s_7, .int ndv_7, .ref v_7, .ref m_7, .long a, .long b, .int slv_7, .int he_7]))) H := hP
      replace hD : va_D A ((([((ax 0), .inr (8, [.ref (ax 1), .ref (ax 7), .ref (ax 10), .ref (ax 11), .ref (ax 13), .ref (ax 15), .ref (ax 16), .ref (ax 21), .ref (ax 26), .ref (ax 27), .ref (ax 28), .int xNow, .int xEr, .int xTr, .int xMo, .int xFa, .int xRe])), ((ax 15), .inl (cA 5, 20, .inr (.inr (.inr (.inr gTr)))))] : va_W) ++ va_pl L pf_9).set pk_14 (t_7, .inr (6, [.ref s_7, .int ndv_7, .ref v_7, .ref m_7, .long a, .long b, .int slv_7, .int he_7]))) := hD
      rw [va_pl_set hD8 htm_7 gpk_14, ← epf_15] at hP hD
      have pe_16 : pf_15 t_7 = .inr (6, [.ref s_7, .int ndv_7, .ref v_7, .ref m_7, .long a, .long b, .int slv_7, .int he_7]) := by rw [epf_15]; exact va_up_self _ _ _
      have pe_17 : pf_15 v_7 = .inl (cA 1, 20, .inr (.inl kv_7)) := by rw [epf_15, va_up_ne _ _ (fun q9 => by have z9 := pe_11; rw [q9, pe_10] at z9; simp at z9)]; exact pe_11
      have pe_18 : pf_15 m_7 = .inl (cA 0, 20, .inl km_7) := by rw [epf_15, va_up_ne _ _ (fun q9 => by have z9 := pe_12; rw [q9, pe_10] at z9; simp at z9)]; exact pe_12
      have sh_19 : shp pf_9 pf_15 := shp_up epf_15 pe_10 shpE_t
      refine lv_aload_n hx hb dX8_law_45 rfl (lv_at hl 1 rfl) ?_
      refine lv_iconst (v := 0) hx hb dX8_law_46 (by decide) ?_
      have hk_20 : (0 : Int32).toInt = 0 := by decide
      obtain ⟨hPc, hDc, hFc, hCc⟩ := va_pre (ws' := [((ax 0), .inr (8, [.ref (ax 1), .ref (ax 7), .ref (ax 10), .ref (ax 11), .ref (ax 13), .ref (ax 15), .ref (ax 16), .ref (ax 21), .ref (ax 26), .ref (ax 27), .ref (ax 28), .int xNow, .int xEr, .int xTr, .int xMo, .int xFa, .int xRe]))]) hP hD hS hA [0] (by decide) rfl
      refine va_calli (va_runV (As := [.int 0]) (rest := []) ⟨hx, hb, hml, hown, hts⟩ (k_X8_settle l dC dI cA H.size ax xNow xEr xTr xMo xFa xRe 0 i_xNow i_xTr i_xMo) (cwV 1 hts gX8_law_X8_settle rfl rfl rfl (by decide +kernel) ⟨Nat.le_of_ble_eq_true rfl, Nat.le_of_ble_eq_true rfl⟩) ⟨fun a U g mk q => by obtain ⟨q0, q1, qP, qK, qD, qN⟩ := q; exact ⟨q0, q1, qP, va_K.moved (u := U) (U := U.calling g mk a) (Vm.Alike.refl U.vm) qK, qD, qN.same rfl⟩, va_recv hK hPc (ci := 8) (q0 := 0) rfl rfl, fun U hU hW => ⟨rfl, by rw [hU], by rw [hU]; exact hPc, va_K.moved hW.alike hK, hDc.weaken (fun _ _ _ _ => trivial), hN.warm hW⟩⟩ rfl rfl hl.1 rfl (lv_room (Nat.le_of_ble_eq_true rfl)) dX8_law_47 ⟨Nat.le_of_ble_eq_true rfl, Nat.le_of_ble_eq_true rfl⟩) hS (fun q _ h => hFc q h) hFc (fun r_21 u_22 t H1 locs ht hvm hw_23 hB hz1 hk1 hS => ?_)
      obtain ⟨w_24, rfl⟩ : ∃ z, z = u_22 := ⟨_, rfl⟩
      try dsimp only at hw_23 hB
      have hr9 := hw_23
      clear hw_23
      obtain ⟨hP1, hD1⟩ := hB
      rw [ht] at hP1
      obtain ⟨hP, hD⟩ := va_joinQ (wr := [((ax 15), .inl (cA 5, 20, .inr (.inr (.inr (.inr gTr)))))]) (w1 := [((ax 0), .inr (8, [.ref (ax 1), .ref (ax 7), .ref (ax 10), .ref (ax 11), .ref (ax 13), .ref (ax 15), .ref (ax 16), .ref (ax 21), .ref (ax 26), .ref (ax 27), .ref (ax 28), .int xNow, .int xEr, .int xTr, .int xMo, .int xFa, .int w_24]))]) hP hD [0] [1] rfl rfl (by decide) (by decide) hk1 hFc hP1 hD1
      clear hz1
      generalize H1 = H at hP hS ⊢
      replace hP : va_P (dC, dI) vwCl (([((ax 15), .inl (cA 5, 20, .inr (.inr (.inr (.inr gTr))))), ((ax 0), .inr (8, [.ref (ax 1), .ref (ax 7), .ref (ax 10), .ref (ax 11), .ref (ax 13), .ref (ax 15), .ref (ax 16), .ref (ax 21), .ref (ax 26), .ref (ax 27), .ref (ax 28), .int xNow, .int xEr, .int xTr, .int xMo, .int xFa, .int w_24]))] : va_W) ++ va_pl L pf_15) H := hP
      replace hD : va_D A (([((ax 15), .inl (cA 5, 20, .inr (.inr (.inr (.inr gTr))))), ((ax 0), .inr (8, [.ref (ax 1), .ref (ax 7), .ref (ax 10), .ref (ax 11), .ref (ax 13), .ref (ax 15), .ref (ax 16), .ref (ax 21), .ref (ax 26), .ref (ax 27), .ref (ax 28), .int xNow, .int xEr, .int xTr, .int xMo, .int xFa, .int w_24]))] : va_W) ++ va_pl L pf_15) := hD
      obtain rfl : 0 = r_21 := hr9.symm
      have hP9 := hP.part (cx := [((ax 0), .inr (8, [.ref (ax 1), .ref (ax 7), .ref (ax 10), .ref (ax 11), .ref (ax 13), .ref (ax 15), .ref (ax 16), .ref (ax 21), .ref (ax 26), .ref (ax 27), .ref (ax 28), .int xNow, .int xEr, .int xTr, .int xMo, .int xFa, .int w_24])), ((ax 15), .inl (cA 5, 20, .inr (.inr (.inr (.inr gTr)))))]) [1, 0] rfl
      have hD9 := hD.part (cx := [((ax 0), .inr (8, [.ref (ax 1), .ref (ax 7), .ref (ax 10), .ref (ax 11), .ref (ax 13), .ref (ax 15), .ref (ax 16), .ref (ax 21), .ref (ax 26), .ref (ax 27), .ref (ax 28), .int xNow, .int xEr, .int xTr, .int xMo, .int xFa, .int w_24])), ((ax 15), .inl (cA 5, 20, .inr (.inr (.inr (.inr gTr)))))]) [1, 0] (by decide) rfl
      subst hQe
      have hans : (0 : Int32).toInt = 0 := (by decide)
      have hpost : ((b.toInt < a.toInt → (0 : Int32).toInt = (-1)) ∧ (a.toInt ≤ b.toInt ∧ ¬ (0 ≤ tt.toInt ∧ tt.toInt < xTr.toInt) → (0 : Int32).toInt = (-2)) ∧ (a.toInt ≤ b.toInt ∧ 0 ≤ tt.toInt ∧ tt.toInt < xTr.toInt → (0 : Int32).toInt = 0)) ∧ (shp pf pf_15) := ⟨by omega, (shp_tr sh_13 sh_19)⟩
      exact W.iret (v := 0) hx hb hr (fun t ht hW => ⟨⟨0, (pf_15, w_24), rfl, hpost, by rw [ht]; exact hP9, hD9⟩, hS.F ht⟩) hS.2.2 dX8_law_50
    · have hrq := po_6.2 hT_7
      obtain rfl : r_3 = none := hrq
      refine W.eq (g2 := F0 m 18 ls [.null]) rfl ?_
      refine lv_astoreN (lv' := [(6, .null), (0, .ref (ax 0)), (1, .int tt), (2, .long a), (4, .long b)]) hx hb dX8_law_18 hl (by decide) rfl (fun ls hl => ?_)
      refine lv_aloadN hx hb dX8_law_20 (lv_at hl 0 rfl) ?_
      refine lv_ifnonnullN hx hb dX8_law_22 ?_
      refine lv_aload_n hx hb dX8_law_25 rfl (lv_at hl 1 rfl) ?_
      refine lv_bipush (v := (-2)) hx hb dX8_law_26 (by decide) ?_
      have hk_25 : ((-2) : Int32).toInt = (-2) := by decide
      obtain ⟨hPc, hDc, hFc, hCc⟩ := va_pre (ws' := [((ax 0), .inr (8, [.ref (ax 1), .ref (ax 7), .ref (ax 10), .ref (ax 11), .ref (ax 13), .ref (ax 15), .ref (ax 16), .ref (ax 21), .ref (ax 26), .ref (ax 27), .ref (ax 28), .int xNow, .int xEr, .int xTr, .int xMo, .int xFa, .int xRe]))]) hP hD hS hA [0] (by decide) rfl
      refine va_calli (va_runV (As := [.int (-2)]) (rest := []) ⟨hx, hb, hml, hown, hts⟩ (k_X8_settle l dC dI cA H.size ax xNow xEr xTr xMo xFa xRe (-2) i_xNow i_xTr i_xMo) (cwV 1 hts gX8_law_X8_settle rfl rfl rfl (by decide +kernel) ⟨Nat.le_of_ble_eq_true rfl, Nat.le_of_ble_eq_true rfl⟩) ⟨fun a U g mk q => by obtain ⟨q0, q1, qP, qK, qD, qN⟩ := q; exact ⟨q0, q1, qP, va_K.moved (u := U) (U := U.calling g mk a) (Vm.Alike.refl U.vm) qK, qD, qN.same rfl⟩, va_recv hK hPc (ci := 8) (q0 := 0) rfl rfl, fun U hU hW => ⟨rfl, by rw [hU], by rw [hU]; exact hPc, va_K.moved hW.alike hK, hDc.weaken (fun _ _ _ _ => trivial), hN.warm hW⟩⟩ rfl rfl hl.1 rfl (lv_room (Nat.le_of_ble_eq_true rfl)) dX8_law_28 ⟨Nat.le_of_ble_eq_true rfl, Nat.le_of_ble_eq_true rfl⟩) hS (fun q _ h => hFc q h) hFc (fun r_26 u_27 t H1 locs ht hvm hw_28 hB hz1 hk1 hS => ?_)
      obtain ⟨w_29, rfl⟩ : ∃ z, z = u_27 := ⟨_, rfl⟩
      try dsimp only at hw_28 hB
      have hr9 := hw_28
      clear hw_28
      obtain ⟨hP1, hD1⟩ := hB
      rw [ht] at hP1
      obtain ⟨hP, hD⟩ := va_joinQ (wr := [((ax 15), .inl (cA 5, 20, .inr (.inr (.inr (.inr gTr)))))]) (w1 := [((ax 0), .inr (8, [.ref (ax 1), .ref (ax 7), .ref (ax 10), .ref (ax 11), .ref (ax 13), .ref (ax 15), .ref (ax 16), .ref (ax 21), .ref (ax 26), .ref (ax 27), .ref (ax 28), .int xNow, .int xEr, .int xTr, .int xMo, .int xFa, .int w_29]))]) hP hD [0] [1] rfl rfl (by decide) (by decide) hk1 hFc hP1 hD1
      clear hz1
      generalize H1 = H at hP hS ⊢
      replace hP : va_P (dC, dI) vwCl (([((ax 15), .inl (cA 5, 20, .inr (.inr (.inr (.inr gTr))))), ((ax 0), .inr (8, [.ref (ax 1), .ref (ax 7), .ref (ax 10), .ref (ax 11), .ref (ax 13), .ref (ax 15), .ref (ax 16), .ref (ax 21), .ref (ax 26), .ref (ax 27), .ref (ax 28), .int xNow, .int xEr, .int xTr, .int xMo, .int xFa, .int w_29]))] : va_W) ++ va_pl L pf) H := hP
      replace hD : va_D A (([((ax 15), .inl (cA 5, 20, .inr (.inr (.inr (.inr gTr))))), ((ax 0), .inr (8, [.ref (ax 1), .ref (ax 7), .ref (ax 10), .ref (ax 11), .ref (ax 13), .ref (ax 15), .ref (ax 16), .ref (ax 21), .ref (ax 26), .ref (ax 27), .ref (ax 28), .int xNow, .int xEr, .int xTr, .int xMo, .int xFa, .int w_29]))] : va_W) ++ va_pl L pf) := hD
      obtain rfl : (-2) = r_26 := hr9.symm
      have hP9 := hP.part (cx := [((ax 0), .inr (8, [.ref (ax 1), .ref (ax 7), .ref (ax 10), .ref (ax 11), .ref (ax 13), .ref (ax 15), .ref (ax 16), .ref (ax 21), .ref (ax 26), .ref (ax 27), .ref (ax 28), .int xNow, .int xEr, .int xTr, .int xMo, .int xFa, .int w_29])), ((ax 15), .inl (cA 5, 20, .inr (.inr (.inr (.inr gTr)))))]) [1, 0] rfl
      have hD9 := hD.part (cx := [((ax 0), .inr (8, [.ref (ax 1), .ref (ax 7), .ref (ax 10), .ref (ax 11), .ref (ax 13), .ref (ax 15), .ref (ax 16), .ref (ax 21), .ref (ax 26), .ref (ax 27), .ref (ax 28), .int xNow, .int xEr, .int xTr, .int xMo, .int xFa, .int w_29])), ((ax 15), .inl (cA 5, 20, .inr (.inr (.inr (.inr gTr)))))]) [1, 0] (by decide) rfl
      subst hQe
      have hans : ((-2) : Int32).toInt = (-2) := (by decide)
      have hpost : ((b.toInt < a.toInt → ((-2) : Int32).toInt = (-1)) ∧ (a.toInt ≤ b.toInt ∧ ¬ (0 ≤ tt.toInt ∧ tt.toInt < xTr.toInt) → ((-2) : Int32).toInt = (-2)) ∧ (a.toInt ≤ b.toInt ∧ 0 ≤ tt.toInt ∧ tt.toInt < xTr.toInt → ((-2) : Int32).toInt = 0)) ∧ (shp pf pf) := ⟨by omega, (shp_rf _)⟩
      exact W.iret (v := (-2)) hx hb hr (fun t ht hW => ⟨⟨(-2), (pf, w_29), rfl, hpost, by rw [ht]; exact hP9, hD9⟩, hS.F ht⟩) hS.2.2 dX8_law_31
  · have dc_2 : 0 < k_1.toInt := jI_nle c_2 rfl (by decide)
    refine lv_aload_n hx hb dX8_law_7 rfl (lv_at hl 0 rfl) ?_
    refine lv_iconst (v := (-1)) hx hb dX8_law_8 (by decide) ?_
    have hk_30 : ((-1) : Int32).toInt = (-1) := by decide
    obtain ⟨hPc, hDc, hFc, hCc⟩ := va_pre (ws' := [((ax 0), .inr (8, [.ref (ax 1), .ref (ax 7), .ref (ax 10), .ref (ax 11), .ref (ax 13), .ref (ax 15), .ref (ax 16), .ref (ax 21), .ref (ax 26), .ref (ax 27), .ref (ax 28), .int xNow, .int xEr, .int xTr, .int xMo, .int xFa, .int xRe]))]) hP hD hS hA [0] (by decide) rfl
    refine va_calli (va_runV (As := [.int (-1)]) (rest := []) ⟨hx, hb, hml, hown, hts⟩ (k_X8_settle l dC dI cA s.heap.size ax xNow xEr xTr xMo xFa xRe (-1) i_xNow i_xTr i_xMo) (cwV 1 hts gX8_law_X8_settle rfl rfl rfl (by decide +kernel) ⟨Nat.le_of_ble_eq_true rfl, Nat.le_of_ble_eq_true rfl⟩) ⟨fun a U g mk q => by obtain ⟨q0, q1, qP, qK, qD, qN⟩ := q; exact ⟨q0, q1, qP, va_K.moved (u := U) (U := U.calling g mk a) (Vm.Alike.refl U.vm) qK, qD, qN.same rfl⟩, va_recv hK hPc (ci := 8) (q0 := 0) rfl rfl, fun U hU hW => ⟨rfl, by rw [hU], by rw [hU]; exact hPc, va_K.moved hW.alike hK, hDc.weaken (fun _ _ _ _ => trivial), hN.warm hW⟩⟩ rfl rfl hl.1 rfl (lv_room (Nat.le_of_ble_eq_true rfl)) dX8_law_9 ⟨Nat.le_of_ble_eq_true rfl, Nat.le_of_ble_eq_true rfl⟩) hS (fun q _ h => hFc q h) hFc (fun r_31 u_32 t H1 locs ht hvm hw_33 hB hz1 hk1 hS => ?_)
    obtain ⟨w_34, rfl⟩ : ∃ z, z = u_32 := ⟨_, rfl⟩
    try dsimp only at hw_33 hB
    have hr9 := hw_33
    clear hw_33
    obtain ⟨hP1, hD1⟩ := hB
    rw [ht] at hP1
    obtain ⟨hP, hD⟩ := va_joinQ (wr := [((ax 15), .inl (cA 5, 20, .inr (.inr (.inr (.inr gTr)))))]) (w1 := [((ax 0), .inr (8, [.ref (ax 1), .ref (ax 7), .ref (ax 10), .ref (ax 11), .ref (ax 13), .ref (ax 15), .ref (ax 16), .ref (ax 21), .ref (ax 26), .ref (ax 27), .ref (ax 28), .int xNow, .int xEr, .int xTr, .int xMo, .int xFa, .int w_34]))]) hP hD [0] [1] rfl rfl (by decide) (by decide) hk1 hFc hP1 hD1
    clear hz1
    generalize H1 = H at hP hS ⊢
    replace hP : va_P (dC, dI) vwCl (([((ax 15), .inl (cA 5, 20, .inr (.inr (.inr (.inr gTr))))), ((ax 0), .inr (8, [.ref (ax 1), .ref (ax 7), .ref (ax 10), .ref (ax 11), .ref (ax 13), .ref (ax 15), .ref (ax 16), .ref (ax 21), .ref (ax 26), .ref (ax 27), .ref (ax 28), .int xNow, .int xEr, .int xTr, .int xMo, .int xFa, .int w_34]))] : va_W) ++ va_pl L pf) H := hP
    replace hD : va_D A (([((ax 15), .inl (cA 5, 20, .inr (.inr (.inr (.inr gTr))))), ((ax 0), .inr (8, [.ref (ax 1), .ref (ax 7), .ref (ax 10), .ref (ax 11), .ref (ax 13), .ref (ax 15), .ref (ax 16), .ref (ax 21), .ref (ax 26), .ref (ax 27), .ref (ax 28), .int xNow, .int xEr, .int xTr, .int xMo, .int xFa, .int w_34]))] : va_W) ++ va_pl L pf) := hD
    obtain rfl : (-1) = r_31 := hr9.symm
    have hP9 := hP.part (cx := [((ax 0), .inr (8, [.ref (ax 1), .ref (ax 7), .ref (ax 10), .ref (ax 11), .ref (ax 13), .ref (ax 15), .ref (ax 16), .ref (ax 21), .ref (ax 26), .ref (ax 27), .ref (ax 28), .int xNow, .int xEr, .int xTr, .int xMo, .int xFa, .int w_34])), ((ax 15), .inl (cA 5, 20, .inr (.inr (.inr (.inr gTr)))))]) [1, 0] rfl
    have hD9 := hD.part (cx := [((ax 0), .inr (8, [.ref (ax 1), .ref (ax 7), .ref (ax 10), .ref (ax 11), .ref (ax 13), .ref (ax 15), .ref (ax 16), .ref (ax 21), .ref (ax 26), .ref (ax 27), .ref (ax 28), .int xNow, .int xEr, .int xTr, .int xMo, .int xFa, .int w_34])), ((ax 15), .inl (cA 5, 20, .inr (.inr (.inr (.inr gTr)))))]) [1, 0] (by decide) rfl
    subst hQe
    have hans : ((-1) : Int32).toInt = (-1) := (by decide)
    have hpost : ((b.toInt < a.toInt → ((-1) : Int32).toInt = (-1)) ∧ (a.toInt ≤ b.toInt ∧ ¬ (0 ≤ tt.toInt ∧ tt.toInt < xTr.toInt) → ((-1) : Int32).toInt = (-2)) ∧ (a.toInt ≤ b.toInt ∧ 0 ≤ tt.toInt ∧ tt.toInt < xTr.toInt → ((-1) : Int32).toInt = 0)) ∧ (shp pf pf) := ⟨by omega, (shp_rf _)⟩
    exact W.iret (v := (-1)) hx hb hr (fun t ht hW => ⟨⟨(-1), (pf, w_34), rfl, hpost, by rw [ht]; exact hP9, hD9⟩, hS.F ht⟩) hS.2.2 dX8_law_12
