theorem dX0_isTold_0 : decode cX0_isTold 0 = .ok (.aload_n 0, 1) := by decide +kernel
theorem dX0_isTold_1 : decode cX0_isTold 1 = .ok (.getfield 9, 3) := by decide +kernel
theorem dX0_isTold_4 : decode cX0_isTold 4 = .ok (.iload_n 1, 1) := by decide +kernel
theorem dX0_isTold_5 : decode cX0_isTold 5 = .ok (.iaload, 1) := by decide +kernel
theorem dX0_isTold_6 : decode cX0_isTold 6 = .ok (.iconst (-1), 1) := by decide +kernel
theorem dX0_isTold_7 : decode cX0_isTold 7 = .ok (.if_icmp .eq 7, 3) := by decide +kernel
theorem dX0_isTold_14 : decode cX0_isTold 14 = .ok (.iconst 0, 1) := by decide +kernel
theorem dX0_isTold_15 : decode cX0_isTold 15 = .ok (.ireturn, 1) := by decide +kernel
theorem dX0_isTold_10 : decode cX0_isTold 10 = .ok (.iconst 1, 1) := by decide +kernel
theorem dX0_isTold_11 : decode cX0_isTold 11 = .ok (.goto 4, 3) := by decide +kernel
theorem dX0_lastOf_0 : decode cX0_lastOf 0 = .ok (.iload_n 1, 1) := by decide +kernel
theorem dX0_lastOf_1 : decode cX0_lastOf 1 = .ok (.istore_n 3, 1) := by decide +kernel
theorem dX0_lastOf_2 : decode cX0_lastOf 2 = .ok (.iconst 0, 1) := by decide +kernel
theorem dX0_lastOf_3 : decode cX0_lastOf 3 = .ok (.istore 4, 2) := by decide +kernel
theorem dX0_lastOf_5 : decode cX0_lastOf 5 = .ok (.iload 4, 2) := by decide +kernel
theorem dX0_lastOf_7 : decode cX0_lastOf 7 = .ok (.bipush 20, 2) := by decide +kernel
theorem dX0_lastOf_9 : decode cX0_lastOf 9 = .ok (.if_icmp .ge 34, 3) := by decide +kernel
theorem dX0_lastOf_43 : decode cX0_lastOf 43 = .ok (.iload_n 3, 1) := by decide +kernel
theorem dX0_lastOf_44 : decode cX0_lastOf 44 = .ok (.ireturn, 1) := by decide +kernel
theorem dX0_lastOf_12 : decode cX0_lastOf 12 = .ok (.aload_n 0, 1) := by decide +kernel
theorem dX0_lastOf_13 : decode cX0_lastOf 13 = .ok (.iload_n 3, 1) := by decide +kernel
set_option maxRecDepth 20000 in
theorem ggX0_lastOf_X0_isTold : GoodIn wsX0_lastOf wsX0_isTold := goodIn_r _ [7, 2, 8, 9, 10] (by decide +kernel) (by decide +kernel)
set_option maxRecDepth 20000 in
theorem gX0_lastOf_X0_isTold : GoodIn wsX0_lastOf (wsV RX0 28 RX0 yX0_isTold wsX0_isTold) := goodIn_app (goodIn_of _ (by decide +kernel)) ggX0_lastOf_X0_isTold
theorem dX0_lastOf_14 : decode cX0_lastOf 14 = .ok (.invokevirtual 28, 3) := by decide +kernel
theorem dX0_lastOf_17 : decode cX0_lastOf 17 = .ok (.ifCond .eq 26, 3) := by decide +kernel
theorem dX0_lastOf_20 : decode cX0_lastOf 20 = .ok (.aload_n 0, 1) := by decide +kernel
theorem dX0_lastOf_21 : decode cX0_lastOf 21 = .ok (.getfield 15, 3) := by decide +kernel
theorem dX0_lastOf_24 : decode cX0_lastOf 24 = .ok (.iload_n 3, 1) := by decide +kernel
theorem dX0_lastOf_25 : decode cX0_lastOf 25 = .ok (.iaload, 1) := by decide +kernel
theorem dX0_lastOf_26 : decode cX0_lastOf 26 = .ok (.iload_n 2, 1) := by decide +kernel
theorem dX0_lastOf_27 : decode cX0_lastOf 27 = .ok (.if_icmp .gt 16, 3) := by decide +kernel
theorem dX0_lastOf_30 : decode cX0_lastOf 30 = .ok (.aload_n 0, 1) := by decide +kernel
theorem dX0_lastOf_31 : decode cX0_lastOf 31 = .ok (.getfield 9, 3) := by decide +kernel
theorem dX0_lastOf_34 : decode cX0_lastOf 34 = .ok (.iload_n 3, 1) := by decide +kernel
theorem dX0_lastOf_35 : decode cX0_lastOf 35 = .ok (.iaload, 1) := by decide +kernel
theorem dX0_lastOf_36 : decode cX0_lastOf 36 = .ok (.istore_n 3, 1) := by decide +kernel
theorem dX0_lastOf_37 : decode cX0_lastOf 37 = .ok (.iinc 4 1, 3) := by decide +kernel
theorem dX0_lastOf_40 : decode cX0_lastOf 40 = .ok (.goto (-35), 3) := by decide +kernel
theorem dX0_add_0 : decode cX0_add 0 = .ok (.aload_n 0, 1) := by decide +kernel
theorem dX0_add_1 : decode cX0_add 1 = .ok (.getfield 9, 3) := by decide +kernel
theorem dX0_add_4 : decode cX0_add 4 = .ok (.iload_n 1, 1) := by decide +kernel
theorem dX0_add_5 : decode cX0_add 5 = .ok (.iload_n 2, 1) := by decide +kernel
theorem dX0_add_6 : decode cX0_add 6 = .ok (.iastore, 1) := by decide +kernel
theorem dX0_add_7 : decode cX0_add 7 = .ok (.aload_n 0, 1) := by decide +kernel
theorem dX0_add_8 : decode cX0_add 8 = .ok (.getfield 15, 3) := by decide +kernel
theorem dX0_add_11 : decode cX0_add 11 = .ok (.iload_n 1, 1) := by decide +kernel
theorem dX0_add_12 : decode cX0_add 12 = .ok (.iload_n 3, 1) := by decide +kernel
theorem dX0_add_13 : decode cX0_add 13 = .ok (.iastore, 1) := by decide +kernel
theorem dX0_add_14 : decode cX0_add 14 = .ok (.aload_n 0, 1) := by decide +kernel
theorem dX0_add_15 : decode cX0_add 15 = .ok (.dup, 1) := by decide +kernel
theorem dX0_add_16 : decode cX0_add 16 = .ok (.getfield 24, 3) := by decide +kernel
theorem dX0_add_19 : decode cX0_add 19 = .ok (.iconst 1, 1) := by decide +kernel
theorem dX0_add_20 : decode cX0_add 20 = .ok (.iadd, 1) := by decide +kernel
theorem dX0_add_21 : decode cX0_add 21 = .ok (.putfield 24, 3) := by decide +kernel
theorem dX0_add_24 : decode cX0_add 24 = .ok (.aload_n 0, 1) := by decide +kernel
theorem dX0_add_25 : decode cX0_add 25 = .ok (.getfield 24, 3) := by decide +kernel
theorem dX0_add_28 : decode cX0_add 28 = .ok (.ireturn, 1) := by decide +kernel
theorem dX8_addMerge_0 : decode cX8_addMerge 0 = .ok (.iload_n 3, 1) := by decide +kernel
set_option maxRecDepth 20000 in
theorem ggX8_addMerge_X8_isMoment : GoodIn wsX8_addMerge wsX8_isMoment := goodIn_r _ [6, 2] (by decide +kernel) (by decide +kernel)
set_option maxRecDepth 20000 in
theorem gX8_addMerge_X8_isMoment : GoodIn wsX8_addMerge (va_wsS RX8 79 yX8_isMoment wsX8_isMoment) := goodIn_app (goodIn_of _ (by decide +kernel)) ggX8_addMerge_X8_isMoment
theorem dX8_addMerge_1 : decode cX8_addMerge 1 = .ok (.invokestatic 79, 3) := by decide +kernel
theorem dX8_addMerge_4 : decode cX8_addMerge 4 = .ok (.ifCond .ne 5, 3) := by decide +kernel
theorem dX8_addMerge_9 : decode cX8_addMerge 9 = .ok (.iload_n 1, 1) := by decide +kernel
set_option maxRecDepth 20000 in
theorem ggX8_addMerge_X8_isPerson : GoodIn wsX8_addMerge wsX8_isPerson := goodIn_r _ [9] (by decide +kernel) (by decide +kernel)
set_option maxRecDepth 20000 in
theorem gX8_addMerge_X8_isPerson : GoodIn wsX8_addMerge (va_wsS RX8 100 yX8_isPerson wsX8_isPerson) := goodIn_app (goodIn_of _ (by decide +kernel)) ggX8_addMerge_X8_isPerson
theorem dX8_addMerge_10 : decode cX8_addMerge 10 = .ok (.invokestatic 100, 3) := by decide +kernel
theorem dX8_addMerge_13 : decode cX8_addMerge 13 = .ok (.ifCond .eq 10, 3) := by decide +kernel
theorem dX8_addMerge_23 : decode cX8_addMerge 23 = .ok (.bipush (-2), 2) := by decide +kernel
theorem dX8_addMerge_25 : decode cX8_addMerge 25 = .ok (.ireturn, 1) := by decide +kernel
theorem dX8_addMerge_16 : decode cX8_addMerge 16 = .ok (.iload_n 2, 1) := by decide +kernel
theorem dX8_addMerge_17 : decode cX8_addMerge 17 = .ok (.invokestatic 100, 3) := by decide +kernel
theorem dX8_addMerge_20 : decode cX8_addMerge 20 = .ok (.ifCond .ne 6, 3) := by decide +kernel
theorem dX8_addMerge_26 : decode cX8_addMerge 26 = .ok (.aload_n 0, 1) := by decide +kernel
theorem dX8_addMerge_27 : decode cX8_addMerge 27 = .ok (.getfield 19, 3) := by decide +kernel
theorem dX8_addMerge_30 : decode cX8_addMerge 30 = .ok (.iload_n 1, 1) := by decide +kernel
set_option maxRecDepth 20000 in
theorem ggX8_addMerge_X0_isTold : GoodIn wsX8_addMerge wsX0_isTold := goodIn_r _ [13, 14, 41, 42, 43] (by decide +kernel) (by decide +kernel)
set_option maxRecDepth 20000 in
theorem gX8_addMerge_X0_isTold_n114 : GoodIn wsX8_addMerge (wsX0_isTold) := ggX8_addMerge_X0_isTold
theorem dX8_addMerge_31 : decode cX8_addMerge 31 = .ok (.invokevirtual 114, 3) := by decide +kernel
theorem dX8_addMerge_34 : decode cX8_addMerge 34 = .ok (.ifCond .ne 17, 3) := by decide +kernel
theorem dX8_addMerge_51 : decode cX8_addMerge 51 = .ok (.bipush (-4), 2) := by decide +kernel
theorem dX8_addMerge_53 : decode cX8_addMerge 53 = .ok (.ireturn, 1) := by decide +kernel
theorem dX8_addMerge_37 : decode cX8_addMerge 37 = .ok (.aload_n 0, 1) := by decide +kernel
theorem dX8_addMerge_38 : decode cX8_addMerge 38 = .ok (.getfield 19, 3) := by decide +kernel
theorem dX8_addMerge_41 : decode cX8_addMerge 41 = .ok (.iload_n 2, 1) := by decide +kernel
theorem dX8_addMerge_42 : decode cX8_addMerge 42 = .ok (.ldc 117, 2) := by decide +kernel
set_option maxRecDepth 20000 in
theorem ggX8_addMerge_X0_lastOf : GoodIn wsX8_addMerge wsX0_lastOf := goodIn_r _ [17, 18, 14, 19, 10, 12, 11, 13, 41, 42, 43] (by decide +kernel) (by decide +kernel)
set_option maxRecDepth 20000 in
theorem gX8_addMerge_X0_lastOf_n118 : GoodIn wsX8_addMerge (wsX0_lastOf) := ggX8_addMerge_X0_lastOf
theorem dX8_addMerge_44 : decode cX8_addMerge 44 = .ok (.invokevirtual 118, 3) := by decide +kernel
theorem dX8_addMerge_47 : decode cX8_addMerge 47 = .ok (.iload_n 1, 1) := by decide +kernel
theorem dX8_addMerge_48 : decode cX8_addMerge 48 = .ok (.if_icmp .ne 6, 3) := by decide +kernel
theorem dX8_addMerge_54 : decode cX8_addMerge 54 = .ok (.aload_n 0, 1) := by decide +kernel
theorem dX8_addMerge_55 : decode cX8_addMerge 55 = .ok (.getfield 19, 3) := by decide +kernel
theorem dX8_addMerge_58 : decode cX8_addMerge 58 = .ok (.iload_n 1, 1) := by decide +kernel
theorem dX8_addMerge_59 : decode cX8_addMerge 59 = .ok (.iload_n 2, 1) := by decide +kernel
theorem dX8_addMerge_60 : decode cX8_addMerge 60 = .ok (.iload_n 3, 1) := by decide +kernel
set_option maxRecDepth 20000 in
theorem ggX8_addMerge_X0_add : GoodIn wsX8_addMerge wsX0_add := goodIn_r _ [22, 14, 18, 23, 41, 42, 43] (by decide +kernel) (by decide +kernel)
set_option maxRecDepth 20000 in
theorem gX8_addMerge_X0_add_n122 : GoodIn wsX8_addMerge (wsX0_add) := ggX8_addMerge_X0_add
theorem dX8_addMerge_61 : decode cX8_addMerge 61 = .ok (.invokevirtual 122, 3) := by decide +kernel
theorem dX8_addMerge_64 : decode cX8_addMerge 64 = .ok (.ireturn, 1) := by decide +kernel
theorem dX8_addMerge_7 : decode cX8_addMerge 7 = .ok (.iconst (-1), 1) := by decide +kernel
theorem dX8_addMerge_8 : decode cX8_addMerge 8 = .ok (.ireturn, 1) := by decide +kernel
theorem dX8_merge_0 : decode cX8_merge 0 = .ok (.aload_n 0, 1) := by decide +kernel
theorem dX8_merge_1 : decode cX8_merge 1 = .ok (.aload_n 0, 1) := by decide +kernel
theorem dX8_merge_2 : decode cX8_merge 2 = .ok (.iload_n 1, 1) := by decide +kernel
theorem dX8_merge_3 : decode cX8_merge 3 = .ok (.iload_n 2, 1) := by decide +kernel
theorem dX8_merge_4 : decode cX8_merge 4 = .ok (.iload_n 3, 1) := by decide +kernel
set_option maxRecDepth 20000 in
theorem ggX8_merge_X8_addMerge : GoodIn wsX8_merge wsX8_addMerge := goodIn_r _ [5, 6, 7, 8, 9, 4, 10, 11, 12, 13, 14, 15, 16, 17, 18, 19, 20, 21, 22, 23, 24, 25, 26, 27, 37, 38, 39, 40, 41, 42, 43, 44, 45, 46, 47, 48, 49, 50, 51, 52, 53, 54, 55, 56] (by decide +kernel) (by decide +kernel)
set_option maxRecDepth 20000 in
theorem gX8_merge_X8_addMerge : GoodIn wsX8_merge (wsV RX8 110 RX8 yX8_addMerge wsX8_addMerge) := goodIn_app (goodIn_of _ (by decide +kernel)) ggX8_merge_X8_addMerge
theorem dX8_merge_5 : decode cX8_merge 5 = .ok (.invokevirtual 110, 3) := by decide +kernel
set_option maxRecDepth 20000 in
theorem ggX8_merge_X8_settle : GoodIn wsX8_merge wsX8_settle := goodIn_r _ [31, 32, 33, 34, 35, 36, 37, 38, 39, 40, 41, 42, 43, 44, 45, 46, 47, 48, 49, 50, 51, 52, 53] (by decide +kernel) (by decide +kernel)
set_option maxRecDepth 20000 in
theorem gX8_merge_X8_settle : GoodIn wsX8_merge (wsV RX8 86 RX8 yX8_settle wsX8_settle) := goodIn_app (goodIn_of _ (by decide +kernel)) ggX8_merge_X8_settle
theorem dX8_merge_8 : decode cX8_merge 8 = .ok (.invokevirtual 86, 3) := by decide +kernel
theorem dX8_merge_11 : decode cX8_merge 11 = .ok (.ireturn, 1) := by decide +kernel
theorem dX8_leads_0 : decode cX8_leads 0 = .ok (.iload_n 1, 1) := by decide +kernel
set_option maxRecDepth 20000 in
theorem ggX8_leads_X8_isPerson : GoodIn wsX8_leads wsX8_isPerson := goodIn_r _ [5] (by decide +kernel) (by decide +kernel)
set_option maxRecDepth 20000 in
theorem gX8_leads_X8_isPerson : GoodIn wsX8_leads (va_wsS RX8 100 yX8_isPerson wsX8_isPerson) := goodIn_app (goodIn_of _ (by decide +kernel)) ggX8_leads_X8_isPerson
theorem dX8_leads_1 : decode cX8_leads 1 = .ok (.invokestatic 100, 3) := by decide +kernel
theorem dX8_leads_4 : decode cX8_leads 4 = .ok (.ifCond .eq 10, 3) := by decide +kernel
theorem dX8_leads_14 : decode cX8_leads 14 = .ok (.iconst (-1), 1) := by decide +kernel
theorem dX8_leads_15 : decode cX8_leads 15 = .ok (.ireturn, 1) := by decide +kernel
theorem dX8_leads_7 : decode cX8_leads 7 = .ok (.iload_n 2, 1) := by decide +kernel
set_option maxRecDepth 20000 in
theorem ggX8_leads_X8_isMoment : GoodIn wsX8_leads wsX8_isMoment := goodIn_r _ [8, 9] (by decide +kernel) (by decide +kernel)
set_option maxRecDepth 20000 in
theorem gX8_leads_X8_isMoment : GoodIn wsX8_leads (va_wsS RX8 79 yX8_isMoment wsX8_isMoment) := goodIn_app (goodIn_of _ (by decide +kernel)) ggX8_leads_X8_isMoment
theorem dX8_leads_8 : decode cX8_leads 8 = .ok (.invokestatic 79, 3) := by decide +kernel
theorem dX8_leads_11 : decode cX8_leads 11 = .ok (.ifCond .ne 5, 3) := by decide +kernel
theorem dX8_leads_16 : decode cX8_leads 16 = .ok (.aload_n 0, 1) := by decide +kernel
theorem dX8_leads_17 : decode cX8_leads 17 = .ok (.getfield 19, 3) := by decide +kernel
theorem dX8_leads_20 : decode cX8_leads 20 = .ok (.iload_n 1, 1) := by decide +kernel
theorem dX8_leads_21 : decode cX8_leads 21 = .ok (.iload_n 2, 1) := by decide +kernel
set_option maxRecDepth 20000 in
theorem ggX8_leads_X0_lastOf : GoodIn wsX8_leads wsX0_lastOf := goodIn_r _ [13, 14, 15, 16, 17, 18, 11, 19, 37, 38, 39] (by decide +kernel) (by decide +kernel)
set_option maxRecDepth 20000 in
theorem gX8_leads_X0_lastOf_n118 : GoodIn wsX8_leads (wsX0_lastOf) := ggX8_leads_X0_lastOf
theorem dX8_leads_22 : decode cX8_leads 22 = .ok (.invokevirtual 118, 3) := by decide +kernel
theorem dX8_leads_25 : decode cX8_leads 25 = .ok (.ireturn, 1) := by decide +kernel
set_option maxHeartbeats 8000000 in
set_option maxRecDepth 100000 in
theorem k_X0_isTold (l : Launch) (dC : Nat → ClassId) (dI : Nat → Nat → Nat) (cA : Nat → ClassId) (sz : Nat) (ax : Nat → Nat) (xMz : Int32) (gT : Nat → Int32) (a : Int32) (i_gT : inB (-1) 19 20 gT) (ha : 0 ≤ a.toInt ∧ a.toInt ≤ 19) : Met l yX0_isTold wsX0_isTold ({ frames := 0, cells := 0, slots := 0, locals := 0 }) (va_Pc [.ref (ax 7), .int a] (fun U => U.heap.size = sz ∧ va_P (dC, dI) vwCl [((ax 7), .inr (0, [.ref (ax 8), .ref (ax 9), .int xMz])), ((ax 8), .inl (cA 0, 20, .inl gT))] U.heap ∧ va_K (dC, dI) vwCl (tyL cA) U ∧ va_D (fun _ => True) [((ax 7), .inr (0, [.ref (ax 8), .ref (ax 9), .int xMz])), ((ax 8), .inl (cA 0, 20, .inl gT))] ∧ nw_ok U)) (va_Qi (fun (r : Int32) (_ : Unit) => (((gT a.toNatClampNeg).toInt = (-1) → r.toInt = 0) ∧ (¬ (gT a.toNatClampNeg).toInt = (-1) → r.toInt = 1))) (fun (_ : Unit) (t : State) => va_P (dC, dI) vwCl [((ax 7), .inr (0, [.ref (ax 8), .ref (ax 9), .int xMz])), ((ax 8), .inl (cA 0, 20, .inl gT))] t.heap ∧ va_D (va_A [((ax 7), .inr (0, [.ref (ax 8), .ref (ax 9), .int xMz])), ((ax 8), .inl (cA 0, 20, .inl gT))] sz) [((ax 7), .inr (0, [.ref (ax 8), .ref (ax 9), .int xMz])), ((ax 8), .inl (cA 0, 20, .inl gT))]) (va_A [((ax 7), .inr (0, [.ref (ax 8), .ref (ax 9), .int xMz])), ((ax 8), .inl (cA 0, 20, .inl gT))] sz)) 0 0 (va_A [((ax 7), .inr (0, [.ref (ax 8), .ref (ax 9), .int xMz])), ((ax 8), .inl (cA 0, 20, .inl gT))] sz) := by
  refine Met.ofW (cc := cX0_isTold) (maxL := 2) (ret := (some .boolean)) (by decide) rfl ?_
  intro p e s m args below meth c s₁ B hml hv
  obtain ⟨rfl, hsz, hP, hK, hD0, hN⟩ := hv
  have hx := B.exec
  have hb := B.bytes
  have hr := B.returns
  have hts := atoms_spec (ws := wsX0_isTold) B.pre
  have hown : s.vm.findClass RX0 = some m.cls := findClass_of_methodNamed B.named
  have hlocks := B.notSynchronized
  subst hsz
  have hD := hD0.self (sz := s.heap.size)
  generalize hAe : va_A [((ax 7), .inr (0, [.ref (ax 8), .ref (ax 9), .int xMz])), ((ax 8), .inl (cA 0, 20, .inl gT))] s.heap.size = A at hD ⊢
  have hA : ∀ q : Nat, s.heap.size ≤ q → A q := fun q h => by rw [← hAe]; exact Or.inr h
  have hS : va_S A s.heap s.heap [] := va_S.rf
  have hIX0 : ∀ w ∈ u_ws RX0 TX0 3, w ∈ wsX0_isTold := by decide +kernel
  have hl := lv_entry ([.ref (ax 7), .int a]) (n := 2) (Nat.le_of_ble_eq_true rfl)
  rw [lg_entry_eq]
  generalize (lg_sl ([.ref (ax 7), .int a]) ++ List.replicate (2 - (lg_sl ([.ref (ax 7), .int a])).length) Slot.unset).toArray = ls at hl ⊢
  have hl : lv_has ls 2 [(0, .ref (ax 7)), (1, .int a)] := hl
  generalize hQe : MQ below _ _ _ _ _ _ = QQ
  refine lv_aload_n hx hb dX0_isTold_0 rfl (lv_at hl 0 rfl) ?_
  refine va_get (D := (dC, dI)) (ci := 0) (v := .ref (ax 8)) (C := RX0) (T := TX0) (N := 3) hx hb hts hIX0 hown hK hP 0 rfl rfl 0 (by decide) (hts (.fieldLink RX0 9 "TraitHouse$Merges" "targets" "[I") (by decide +kernel)) (fun _ h9 => h9) rfl dX0_isTold_1 ?_
  refine lv_iload_n hx hb dX0_isTold_4 rfl (lv_at hl 1 rfl) ?_
  have h_1 : vp_in a 20 := (vp_in_iff.mpr ⟨by omega, by omega⟩)
  refine va_iald hx hb hK hP 1 0 rfl rfl h_1 dX0_isTold_5 ?_
  refine lv_topi (fun x_2 ex_2 => ?_)
  have bx_2 := i_gT _ (jix h_1)
  rw [← ex_2] at bx_2
  refine lv_iconst (v := (-1)) hx hb dX0_isTold_6 (by decide) ?_
  refine lv_icmp_eq (tgt := 14) hx hb dX0_isTold_7 (by decide) (fun c_3 => ?_) (fun c_3 => ?_)
  · have dc_3 : x_2.toInt = (-1) := jI_eq c_3 rfl (by decide)
    refine lv_iconst (v := 0) hx hb dX0_isTold_14 (by decide) ?_
    obtain ⟨hP9, hD9⟩ := va_pd (ws' := [((ax 7), .inr (0, [.ref (ax 8), .ref (ax 9), .int xMz])), ((ax 8), .inl (cA 0, 20, .inl gT))]) hP hD [0, 1] (by decide) rfl
    subst hQe
    have hans : (0 : Int32).toInt = 0 := (by decide)
    have hpost : (((gT a.toNatClampNeg).toInt = (-1) → (0 : Int32).toInt = 0) ∧ (¬ (gT a.toNatClampNeg).toInt = (-1) → (0 : Int32).toInt = 1)) := by have z9 := congrArg Int32.toInt ex_2; omega
    exact W.zret (v := 0) hx hb hr (by decide) (fun t ht hW => ⟨⟨0, (), rfl, hpost, by rw [ht]; exact hP9, hD9⟩, hS.F ht⟩) hS.2.2 dX0_isTold_15
  · have dc_3 : ¬ x_2.toInt = (-1) := jI_ne c_3 rfl (by decide)
    refine lv_iconst (v := 1) hx hb dX0_isTold_10 (by decide) ?_
    refine lv_goto (tgt := 15) hx hb dX0_isTold_11 (by decide) ?_
    obtain ⟨hP9, hD9⟩ := va_pd (ws' := [((ax 7), .inr (0, [.ref (ax 8), .ref (ax 9), .int xMz])), ((ax 8), .inl (cA 0, 20, .inl gT))]) hP hD [0, 1] (by decide) rfl
    subst hQe
    have hans : (1 : Int32).toInt = 1 := (by decide)
    have hpost : (((gT a.toNatClampNeg).toInt = (-1) → (1 : Int32).toInt = 0) ∧ (¬ (gT a.toNatClampNeg).toInt = (-1) → (1 : Int32).toInt = 1)) := by have z9 := congrArg Int32.toInt ex_2; omega
    exact W.zret (v := 1) hx hb hr (by decide) (fun t ht hW => ⟨⟨1, (), rfl, hpost, by rw [ht]; exact hP9, hD9⟩, hS.F ht⟩) hS.2.2 dX0_isTold_15

theorem xk_step {fT fK : Nat → Int32} {k : Int} {p0 : Nat} {p y z i j : Int32} (h : p.toInt = ((itk fT fK k i.toInt.toNat p0 : Nat) : Int)) (h0 : 0 ≤ i.toInt) (hp0 : 0 ≤ p.toInt) (hj : j.toInt = i.toInt + 1) (hx : ¬ (fT p.toNatClampNeg).toInt = (-1)) (ey : y = fK p.toNatClampNeg) (hy : y.toInt ≤ k) (ez : z = fT p.toNatClampNeg) (h1 : (-1) ≤ z.toInt) : z.toInt = ((itk fT fK k j.toInt.toNat p0 : Nat) : Int) := by
  have e1 : j.toInt.toNat = i.toInt.toNat + 1 := by omega
  have hp : p.toNatClampNeg = itk fT fK k i.toInt.toNat p0 := by
    have : p.toNatClampNeg = p.toInt.toNat := rfl
    omega
  rw [hp] at hx ey ez
  rw [e1]
  show z.toInt = ((nxk fT fK k (itk fT fK k i.toInt.toNat p0) : Nat) : Int)
  unfold nxk
  rw [← ez] at hx ⊢
  rw [← ey, if_neg (by omega)]
  omega
theorem xk_done {fT fK : Nat → Int32} {k : Int} {p0 : Nat} {p i : Int32} (h : p.toInt = ((itk fT fK k i.toInt.toNat p0 : Nat) : Int)) (hi : 0 ≤ i.toInt ∧ i.toInt ≤ 20) (hx : i.toInt = 20 ∨ (fT p.toNatClampNeg).toInt = (-1) ∨ k < (fK p.toNatClampNeg).toInt) : p.toInt = ((itk fT fK k 20 p0 : Nat) : Int) := by
  have hp : p.toNatClampNeg = itk fT fK k i.toInt.toNat p0 := by
    have : p.toNatClampNeg = p.toInt.toNat := rfl
    omega
  rcases hx with hx | hx
  · rw [h, hx]; rfl
  · rw [hp] at hx
    have hs : nxk fT fK k (itk fT fK k i.toInt.toNat p0) = itk fT fK k i.toInt.toNat p0 := by
      unfold nxk
      exact if_pos hx
    have e := itk_stop hs (20 - i.toInt.toNat)
    rw [show i.toInt.toNat + (20 - i.toInt.toNat) = 20 by omega] at e
    rw [e]; exact h

set_option maxHeartbeats 8000000 in
set_option maxRecDepth 100000 in
theorem k_X0_lastOf (l : Launch) (dC : Nat → ClassId) (dI : Nat → Nat → Nat) (cA : Nat → ClassId) (sz : Nat) (ax : Nat → Nat) (xMz : Int32) (gT : Nat → Int32) (gN : Nat → Int32) (a : Int32) (kn : Int32) (i_gT : inB (-1) 19 20 gT) (i_gN : inB 0 100000 20 gN) (ha : 0 ≤ a.toInt ∧ a.toInt ≤ 19) : Met l yX0_lastOf wsX0_lastOf ({ frames := 1, cells := 0, slots := 0, locals := 21 }) (va_Pc [.ref (ax 7), .int a, .int kn] (fun U => U.heap.size = sz ∧ va_P (dC, dI) vwCl [((ax 7), .inr (0, [.ref (ax 8), .ref (ax 9), .int xMz])), ((ax 8), .inl (cA 0, 20, .inl gT)), ((ax 9), .inl (cA 0, 20, .inl gN))] U.heap ∧ va_K (dC, dI) vwCl (tyL cA) U ∧ va_D (fun _ => True) [((ax 7), .inr (0, [.ref (ax 8), .ref (ax 9), .int xMz])), ((ax 8), .inl (cA 0, 20, .inl gT)), ((ax 9), .inl (cA 0, 20, .inl gN))] ∧ nw_ok U)) (va_Qi (fun (r : Int32) (_ : Unit) => (0 ≤ r.toInt ∧ r.toInt ≤ 19 ∧ r.toInt = ((itk gT gN kn.toInt 20 a.toInt.toNat : Nat) : Int))) (fun (_ : Unit) (t : State) => va_P (dC, dI) vwCl [((ax 7), .inr (0, [.ref (ax 8), .ref (ax 9), .int xMz])), ((ax 8), .inl (cA 0, 20, .inl gT)), ((ax 9), .inl (cA 0, 20, .inl gN))] t.heap ∧ va_D (va_A [((ax 7), .inr (0, [.ref (ax 8), .ref (ax 9), .int xMz])), ((ax 8), .inl (cA 0, 20, .inl gT)), ((ax 9), .inl (cA 0, 20, .inl gN))] sz) [((ax 7), .inr (0, [.ref (ax 8), .ref (ax 9), .int xMz])), ((ax 8), .inl (cA 0, 20, .inl gT)), ((ax 9), .inl (cA 0, 20, .inl gN))]) (va_A [((ax 7), .inr (0, [.ref (ax 8), .ref (ax 9), .int xMz])), ((ax 8), .inl (cA 0, 20, .inl gT)), ((ax 9), .inl (cA 0, 20, .inl gN))] sz)) 0 0 (va_A [((ax 7), .inr (0, [.ref (ax 8), .ref (ax 9), .int xMz])), ((ax 8), .inl (cA 0, 20, .inl gT)), ((ax 9), .inl (cA 0, 20, .inl gN))] sz) := by
  refine Met.ofW (cc := cX0_lastOf) (maxL := 5) (ret := (some .int)) (by decide) rfl ?_
  intro p e s m args below meth c s₁ B hml hv
  obtain ⟨rfl, hsz, hP, hK, hD0, hN⟩ := hv
  have hx := B.exec
  have hb := B.bytes
  have hr := B.returns
  have hts := atoms_spec (ws := wsX0_lastOf) B.pre
  have hown : s.vm.findClass RX0 = some m.cls := findClass_of_methodNamed B.named
  have hlocks := B.notSynchronized
  subst hsz
  have hD := hD0.self (sz := s.heap.size)
  generalize hAe : va_A [((ax 7), .inr (0, [.ref (ax 8), .ref (ax 9), .int xMz])), ((ax 8), .inl (cA 0, 20, .inl gT)), ((ax 9), .inl (cA 0, 20, .inl gN))] s.heap.size = A at hD ⊢
  have hA : ∀ q : Nat, s.heap.size ≤ q → A q := fun q h => by rw [← hAe]; exact Or.inr h
  have hS : va_S A s.heap s.heap [] := va_S.rf
  have hIX0 : ∀ w ∈ u_ws RX0 TX0 3, w ∈ wsX0_lastOf := by decide +kernel
  have hl := lv_entry ([.ref (ax 7), .int a, .int kn]) (n := 5) (Nat.le_of_ble_eq_true rfl)
  rw [lg_entry_eq]
  generalize (lg_sl ([.ref (ax 7), .int a, .int kn]) ++ List.replicate (5 - (lg_sl ([.ref (ax 7), .int a, .int kn])).length) Slot.unset).toArray = ls at hl ⊢
  have hl : lv_has ls 5 [(0, .ref (ax 7)), (1, .int a), (2, .int kn)] := hl
  generalize hQe : MQ below _ _ _ _ _ _ = QQ
  refine lv_iload_n hx hb dX0_lastOf_0 rfl (lv_at hl 1 rfl) ?_
  refine lv_istore_n (lv' := [(3, .int a), (0, .ref (ax 7)), (1, .int a), (2, .int kn)]) hx hb dX0_lastOf_1 rfl hl (by decide) rfl (fun ls hl => ?_)
  refine lv_iconst (v := 0) hx hb dX0_lastOf_2 (by decide) ?_
  refine lv_istore (lv' := [(4, .int 0), (3, .int a), (0, .ref (ax 7)), (1, .int a), (2, .int kn)]) hx hb dX0_lastOf_3 hl (by decide) rfl (fun ls hl => ?_)
  have loop5_1 : ∀ (n : Nat) (i4 : Int32) (p3 : Int32) (H : Heap) (locs : List Loc) (ls : Array Slot), 20 - i4.toInt < (n : Int) → (0 ≤ i4.toInt ∧ i4.toInt ≤ 20) → (0 ≤ p3.toInt ∧ p3.toInt ≤ 19) → (p3.toInt = ((itk gT gN kn.toInt i4.toInt.toNat a.toInt.toNat : Nat) : Int)) → va_P (dC, dI) vwCl [((ax 7), .inr (0, [.ref (ax 8), .ref (ax 9), .int xMz])), ((ax 8), .inl (cA 0, 20, .inl gT)), ((ax 9), .inl (cA 0, 20, .inl gN))] H → va_D A [((ax 7), .inr (0, [.ref (ax 8), .ref (ax 9), .int xMz])), ((ax 8), .inl (cA 0, 20, .inl gT)), ((ax 9), .inl (cA 0, 20, .inl gN))] → va_S A s.heap H locs → lv_has ls 5 [(4, .int i4), (3, .int p3), (0, .ref (ax 7)), (1, .int a), (2, .int kn)] → W p l e ({ frames := 1, cells := 0, slots := 0, locals := 21 }) s m ([.ref (ax 7), .int a, .int kn] : List Value).toArray below meth c H locs 0 0 QQ (F0 m 5 ls []) := by
    intro n
    induction n with
    | zero => intro i4 p3 H locs ls hme hv0_5 hv1_5 hv2_5; exfalso; omega
    | succ n ih_5 =>
      intro i4 p3 H locs ls hme_5 hv0_5 hv1_5 hv2_5 hP hD hS hl
      refine lv_iload hx hb dX0_lastOf_5 (lv_at hl 0 rfl) ?_
      refine lv_bipush (v := 20) hx hb dX0_lastOf_7 (by decide) ?_
      refine lv_icmp_ge (tgt := 43) hx hb dX0_lastOf_9 (by decide) (fun c_2 => ?_) (fun c_2 => ?_)
      · have dc_2 : 20 ≤ i4.toInt := jI_le c_2 (by decide) rfl
        refine lv_iload_n hx hb dX0_lastOf_43 rfl (lv_at hl 1 rfl) ?_
        obtain ⟨hP9, hD9⟩ := va_pd (ws' := [((ax 7), .inr (0, [.ref (ax 8), .ref (ax 9), .int xMz])), ((ax 8), .inl (cA 0, 20, .inl gT)), ((ax 9), .inl (cA 0, 20, .inl gN))]) hP hD [0, 1, 2] (by decide) rfl
        subst hQe
        have hans : (p3 : Int32).toInt = p3.toInt := rfl
        have hpost : (0 ≤ (p3 : Int32).toInt ∧ (p3 : Int32).toInt ≤ 19 ∧ (p3 : Int32).toInt = ((itk gT gN kn.toInt 20 a.toInt.toNat : Nat) : Int)) := ⟨by omega, by omega, xk_done hv2_5 (by omega) (by omega)⟩
        exact W.iret (v := p3) hx hb hr (fun t ht hW => ⟨⟨p3, (), rfl, hpost, by rw [ht]; exact hP9, hD9⟩, hS.F ht⟩) hS.2.2 dX0_lastOf_44
      · have dc_2 : i4.toInt < 20 := jI_nle c_2 (by decide) rfl
        refine lv_aload_n hx hb dX0_lastOf_12 rfl (lv_at hl 2 rfl) ?_
        refine lv_iload_n hx hb dX0_lastOf_13 rfl (lv_at hl 1 rfl) ?_
        obtain ⟨hPc, hDc, hFc, hCc⟩ := va_pre (ws' := [((ax 7), .inr (0, [.ref (ax 8), .ref (ax 9), .int xMz])), ((ax 8), .inl (cA 0, 20, .inl gT))]) hP hD hS hA [0, 1] (by decide) rfl
        refine va_calli (va_runV (As := [.int p3]) (rest := []) ⟨hx, hb, hml, hown, hts⟩ (k_X0_isTold l dC dI cA H.size ax xMz gT p3 i_gT hv1_5) (cwV 1 hts gX0_lastOf_X0_isTold rfl rfl rfl (by decide +kernel) ⟨Nat.le_of_ble_eq_true rfl, Nat.le_of_ble_eq_true rfl⟩) ⟨fun a U g mk q => by obtain ⟨q0, q1, qP, qK, qD, qN⟩ := q; exact ⟨q0, q1, qP, va_K.moved (u := U) (U := U.calling g mk a) (Vm.Alike.refl U.vm) qK, qD, qN.same rfl⟩, va_recv hK hPc (ci := 0) (q0 := 0) rfl rfl, fun U hU hW => ⟨rfl, by rw [hU], by rw [hU]; exact hPc, va_K.moved hW.alike hK, hDc.weaken (fun _ _ _ _ => trivial), hN.warm hW⟩⟩ rfl rfl hl.1 rfl (lv_room (Nat.le_of_ble_eq_true rfl)) dX0_lastOf_14 ⟨Nat.le_of_ble_eq_true rfl, Nat.le_of_ble_eq_true rfl⟩) hS (fun q _ h => hFc q h) hFc (fun r_3 u_4 t H1 locs ht hvm hw_5 hB hz1 hk1 hS => ?_)
        try dsimp only at hw_5 hB
        have po_6 := hw_5
        clear hw_5
        obtain ⟨hP1, hD1⟩ := hB
        rw [ht] at hP1
        obtain ⟨hP, hD⟩ := va_join (wr := [((ax 9), .inl (cA 0, 20, .inl gN))]) (w1 := [((ax 7), .inr (0, [.ref (ax 8), .ref (ax 9), .int xMz])), ((ax 8), .inl (cA 0, 20, .inl gT))]) hP hD [0, 1] [2] hCc rfl (by decide) (by decide) hk1 hFc hP1 hD1
        clear hz1
        generalize H1 = H at hP hS ⊢
        refine lv_if_eq (tgt := 43) hx hb dX0_lastOf_17 (by decide) (fun c_7 => ?_) (fun c_7 => ?_)
        · have dc_7 : r_3.toInt = 0 := jI_eq c_7 rfl (by decide)
          refine lv_iload_n hx hb dX0_lastOf_43 rfl (lv_at hl 1 rfl) ?_
          obtain ⟨hP9, hD9⟩ := va_pd (ws' := [((ax 7), .inr (0, [.ref (ax 8), .ref (ax 9), .int xMz])), ((ax 8), .inl (cA 0, 20, .inl gT)), ((ax 9), .inl (cA 0, 20, .inl gN))]) hP hD [1, 2, 0] (by decide) rfl
          subst hQe
          have hans : (p3 : Int32).toInt = p3.toInt := rfl
          have hpost : (0 ≤ (p3 : Int32).toInt ∧ (p3 : Int32).toInt ≤ 19 ∧ (p3 : Int32).toInt = ((itk gT gN kn.toInt 20 a.toInt.toNat : Nat) : Int)) := ⟨by omega, by omega, xk_done hv2_5 (by omega) (by have := po_6; omega)⟩
          exact W.iret (v := p3) hx hb hr (fun t ht hW => ⟨⟨p3, (), rfl, hpost, by rw [ht]; exact hP9, hD9⟩, hS.F ht⟩) hS.2.2 dX0_lastOf_44
        · have dc_7 : ¬ r_3.toInt = 0 := jI_ne c_7 rfl (by decide)
          refine lv_aload_n hx hb dX0_lastOf_20 rfl (lv_at hl 2 rfl) ?_
          refine va_get (D := (dC, dI)) (ci := 0) (v := .ref (ax 9)) (C := RX0) (T := TX0) (N := 3) hx hb hts hIX0 hown hK hP 1 rfl rfl 1 (by decide) (hts (.fieldLink RX0 15 "TraitHouse$Merges" "knowns" "[I") (by decide +kernel)) (fun _ h9 => h9) rfl dX0_lastOf_21 ?_
          refine lv_iload_n hx hb dX0_lastOf_24 rfl (lv_at hl 1 rfl) ?_
          have h_8 : vp_in p3 20 := (vp_in_iff.mpr ⟨by omega, by omega⟩)
          refine va_iald hx hb hK hP 0 0 rfl rfl h_8 dX0_lastOf_25 ?_
          refine lv_topi (fun x_9 ex_9 => ?_)
          have bx_9 := i_gN _ (jix h_8)
          rw [← ex_9] at bx_9
          refine lv_iload_n hx hb dX0_lastOf_26 rfl (lv_at hl 4 rfl) ?_
          refine lv_icmp_gt (tgt := 43) hx hb dX0_lastOf_27 (by decide) (fun c_10 => ?_) (fun c_10 => ?_)
          · have dc_10 : kn.toInt < x_9.toInt := jI_lt c_10 rfl rfl
            refine lv_iload_n hx hb dX0_lastOf_43 rfl (lv_at hl 1 rfl) ?_
            obtain ⟨hP9, hD9⟩ := va_pd (ws' := [((ax 7), .inr (0, [.ref (ax 8), .ref (ax 9), .int xMz])), ((ax 8), .inl (cA 0, 20, .inl gT)), ((ax 9), .inl (cA 0, 20, .inl gN))]) hP hD [1, 2, 0] (by decide) rfl
            subst hQe
            have hans : (p3 : Int32).toInt = p3.toInt := rfl
            have hpost : (0 ≤ (p3 : Int32).toInt ∧ (p3 : Int32).toInt ≤ 19 ∧ (p3 : Int32).toInt = ((itk gT gN kn.toInt 20 a.toInt.toNat : Nat) : Int)) := ⟨by omega, by omega, xk_done hv2_5 (by omega) (Or.inr (Or.inr (by rw [← ex_9]; omega)))⟩
            exact W.iret (v := p3) hx hb hr (fun t ht hW => ⟨⟨p3, (), rfl, hpost, by rw [ht]; exact hP9, hD9⟩, hS.F ht⟩) hS.2.2 dX0_lastOf_44
          · have dc_10 : x_9.toInt ≤ kn.toInt := jI_nlt c_10 rfl rfl
            refine lv_aload_n hx hb dX0_lastOf_30 rfl (lv_at hl 2 rfl) ?_
            refine va_get (D := (dC, dI)) (ci := 0) (v := .ref (ax 8)) (C := RX0) (T := TX0) (N := 3) hx hb hts hIX0 hown hK hP 1 rfl rfl 0 (by decide) (hts (.fieldLink RX0 9 "TraitHouse$Merges" "targets" "[I") (by decide +kernel)) (fun _ h9 => h9) rfl dX0_lastOf_31 ?_
            refine lv_iload_n hx hb dX0_lastOf_34 rfl (lv_at hl 1 rfl) ?_
            have h_11 : vp_in p3 20 := (vp_in_iff.mpr ⟨by omega, by omega⟩)
            refine va_iald hx hb hK hP 2 0 rfl rfl h_11 dX0_lastOf_35 ?_
            refine lv_topi (fun x_12 ex_12 => ?_)
            have bx_12 := i_gT _ (jix h_11)
            rw [← ex_12] at bx_12
            refine lv_istore_n (lv' := [(3, .int x_12), (4, .int i4), (0, .ref (ax 7)), (1, .int a), (2, .int kn)]) hx hb dX0_lastOf_36 rfl hl (by decide) rfl (fun ls hl => ?_)
            obtain ⟨x_13, ex_13⟩ : ∃ y : Int32, y = i4 + 1 := ⟨_, rfl⟩
            have dx_13 : x_13.toInt = i4.toInt + 1 := by rw [ex_13]; exact jI_add rfl (by decide) (by omega) (by omega)
            refine lv_iinc (v := x_13) (lv' := [(4, .int x_13), (3, .int x_12), (0, .ref (ax 7)), (1, .int a), (2, .int kn)]) hx hb dX0_lastOf_37 hl (k := 1) rfl (by rw [ex_13]; rfl) (by decide) rfl (fun ls hl => ?_)
            refine lv_goto (tgt := 5) hx hb dX0_lastOf_40 (by decide) ?_
            have hnn9 : 0 ≤ x_12.toInt := by have z9 := congrArg Int32.toInt ex_12; have := po_6; omega
            exact ih_5 x_13 x_12 _ _ ls (by omega) (by omega) (by omega) (xk_step hv2_5 (by omega) (by omega) (by omega) (by have := po_6; omega) ex_9 (by omega) ex_12 (by omega)) (hP.sub [1, 2, 0] rfl) (hD.sub [1, 2, 0] (by decide) rfl) hS (lv_sub hl [0, 1, 2, 3, 4] rfl)
  have hk_14 : (0 : Int32).toInt = 0 := by decide
  exact loop5_1 (Int.toNat (20 - (0 : Int32).toInt) + 1) 0 a _ _ ls (by omega) (by omega) ha (by show a.toInt = ((a.toInt.toNat : Nat) : Int); omega) hP hD hS (lv_sub hl [0, 1, 2, 3, 4] rfl)

set_option maxHeartbeats 8000000 in
set_option maxRecDepth 100000 in
theorem k_X0_add (l : Launch) (dC : Nat → ClassId) (dI : Nat → Nat → Nat) (cA : Nat → ClassId) (sz : Nat) (ax : Nat → Nat) (xMz : Int32) (gT : Nat → Int32) (gN : Nat → Int32) (a : Int32) (b : Int32) (kn : Int32) (i_gT : inB (-1) 19 20 gT) (i_gN : inB 0 100000 20 gN) (ha : 0 ≤ a.toInt ∧ a.toInt ≤ 19) (hb_ : 0 ≤ b.toInt ∧ b.toInt ≤ 19) (hkn : 0 ≤ kn.toInt ∧ kn.toInt ≤ 100000) : Met l yX0_add wsX0_add ({ frames := 0, cells := 0, slots := 0, locals := 0 }) (va_Pc [.ref (ax 7), .int a, .int b, .int kn] (fun U => U.heap.size = sz ∧ va_P (dC, dI) vwCl [((ax 7), .inr (0, [.ref (ax 8), .ref (ax 9), .int xMz])), ((ax 8), .inl (cA 0, 20, .inl gT)), ((ax 9), .inl (cA 0, 20, .inl gN))] U.heap ∧ va_K (dC, dI) vwCl (tyL cA) U ∧ va_D (fun _ => True) [((ax 7), .inr (0, [.ref (ax 8), .ref (ax 9), .int xMz])), ((ax 8), .inl (cA 0, 20, .inl gT)), ((ax 9), .inl (cA 0, 20, .inl gN))] ∧ nw_ok U)) (va_Qi (fun (r : Int32) (u : Int32 × (Nat → Int32) × (Nat → Int32)) => (inB (-1) 19 20 u.2.1) ∧ (inB 0 100000 20 u.2.2) ∧ (r = xMz + 1 ∧ u.1 = xMz + 1 ∧ u.2.1 = upd gT a.toNatClampNeg b ∧ u.2.2 = upd gN a.toNatClampNeg kn)) (fun (u : Int32 × (Nat → Int32) × (Nat → Int32)) (t : State) => va_P (dC, dI) vwCl [((ax 7), .inr (0, [.ref (ax 8), .ref (ax 9), .int u.1])), ((ax 8), .inl (cA 0, 20, .inl u.2.1)), ((ax 9), .inl (cA 0, 20, .inl u.2.2))] t.heap ∧ va_D (va_A [((ax 7), .inr (0, [.ref (ax 8), .ref (ax 9), .int xMz])), ((ax 8), .inl (cA 0, 20, .inl gT)), ((ax 9), .inl (cA 0, 20, .inl gN))] sz) [((ax 7), .inr (0, [.ref (ax 8), .ref (ax 9), .int u.1])), ((ax 8), .inl (cA 0, 20, .inl u.2.1)), ((ax 9), .inl (cA 0, 20, .inl u.2.2))]) (va_A [((ax 7), .inr (0, [.ref (ax 8), .ref (ax 9), .int xMz])), ((ax 8), .inl (cA 0, 20, .inl gT)), ((ax 9), .inl (cA 0, 20, .inl gN))] sz)) 0 0 (va_A [((ax 7), .inr (0, [.ref (ax 8), .ref (ax 9), .int xMz])), ((ax 8), .inl (cA 0, 20, .inl gT)), ((ax 9), .inl (cA 0, 20, .inl gN))] sz) := by
  refine Met.ofW (cc := cX0_add) (maxL := 4) (ret := (some .int)) (by decide) rfl ?_
  intro p e s m args below meth c s₁ B hml hv
  obtain ⟨rfl, hsz, hP, hK, hD0, hN⟩ := hv
  have hx := B.exec
  have hb := B.bytes
  have hr := B.returns
  have hts := atoms_spec (ws := wsX0_add) B.pre
  have hown : s.vm.findClass RX0 = some m.cls := findClass_of_methodNamed B.named
  have hlocks := B.notSynchronized
  subst hsz
  have hD := hD0.self (sz := s.heap.size)
  generalize hAe : va_A [((ax 7), .inr (0, [.ref (ax 8), .ref (ax 9), .int xMz])), ((ax 8), .inl (cA 0, 20, .inl gT)), ((ax 9), .inl (cA 0, 20, .inl gN))] s.heap.size = A at hD ⊢
  have hA : ∀ q : Nat, s.heap.size ≤ q → A q := fun q h => by rw [← hAe]; exact Or.inr h
  have hS : va_S A s.heap s.heap [] := va_S.rf
  have hIX0 : ∀ w ∈ u_ws RX0 TX0 3, w ∈ wsX0_add := by decide +kernel
  have hl := lv_entry ([.ref (ax 7), .int a, .int b, .int kn]) (n := 4) (Nat.le_of_ble_eq_true rfl)
  rw [lg_entry_eq]
  generalize (lg_sl ([.ref (ax 7), .int a, .int b, .int kn]) ++ List.replicate (4 - (lg_sl ([.ref (ax 7), .int a, .int b, .int kn])).length) Slot.unset).toArray = ls at hl ⊢
  have hl : lv_has ls 4 [(0, .ref (ax 7)), (1, .int a), (2, .int b), (3, .int kn)] := hl
  generalize hQe : MQ below _ _ _ _ _ _ = QQ
  refine lv_aload_n hx hb dX0_add_0 rfl (lv_at hl 0 rfl) ?_
  refine va_get (D := (dC, dI)) (ci := 0) (v := .ref (ax 8)) (C := RX0) (T := TX0) (N := 3) hx hb hts hIX0 hown hK hP 0 rfl rfl 0 (by decide) (hts (.fieldLink RX0 9 "TraitHouse$Merges" "targets" "[I") (by decide +kernel)) (fun _ h9 => h9) rfl dX0_add_1 ?_
  refine lv_iload_n hx hb dX0_add_4 rfl (lv_at hl 1 rfl) ?_
  refine lv_iload_n hx hb dX0_add_5 rfl (lv_at hl 2 rfl) ?_
  have h_1 : vp_in a 20 := (vp_in_iff.mpr ⟨by omega, by omega⟩)
  refine va_iast hx hb hK hP hD hS 1 0 rfl rfl h_1 dX0_add_6 (fun H locs hP hD hS => ?_)
  replace hP : va_P (dC, dI) vwCl [((ax 7), .inr (0, [.ref (ax 8), .ref (ax 9), .int xMz])), ((ax 8), .inl (cA 0, 20, .inl (upd gT a.toNatClampNeg b))), ((ax 9), .inl (cA 0, 20, .inl gN))] H := hP
  replace hD : va_D A [((ax 7), .inr (0, [.ref (ax 8), .ref (ax 9), .int xMz])), ((ax 8), .inl (cA 0, 20, .inl (upd gT a.toNatClampNeg b))), ((ax 9), .inl (cA 0, 20, .inl gN))] := hD
  obtain ⟨g_2, eg_2⟩ : ∃ g : Nat → Int32, g = upd gT a.toNatClampNeg b := ⟨_, rfl⟩
  rw [← eg_2] at hP hD
  have ig_2 : inB (-1) 19 20 g_2 := by rw [eg_2]; exact inB_upd i_gT (by omega) (by omega)
  refine lv_aload_n hx hb dX0_add_7 rfl (lv_at hl 0 rfl) ?_
  refine va_get (D := (dC, dI)) (ci := 0) (v := .ref (ax 9)) (C := RX0) (T := TX0) (N := 3) hx hb hts hIX0 hown hK hP 0 rfl rfl 1 (by decide) (hts (.fieldLink RX0 15 "TraitHouse$Merges" "knowns" "[I") (by decide +kernel)) (fun _ h9 => h9) rfl dX0_add_8 ?_
  refine lv_iload_n hx hb dX0_add_11 rfl (lv_at hl 1 rfl) ?_
  refine lv_iload_n hx hb dX0_add_12 rfl (lv_at hl 3 rfl) ?_
  have h_3 : vp_in a 20 := (vp_in_iff.mpr ⟨by omega, by omega⟩)
  refine va_iast hx hb hK hP hD hS 2 0 rfl rfl h_3 dX0_add_13 (fun H locs hP hD hS => ?_)
  replace hP : va_P (dC, dI) vwCl [((ax 7), .inr (0, [.ref (ax 8), .ref (ax 9), .int xMz])), ((ax 8), .inl (cA 0, 20, .inl g_2)), ((ax 9), .inl (cA 0, 20, .inl (upd gN a.toNatClampNeg kn)))] H := hP
  replace hD : va_D A [((ax 7), .inr (0, [.ref (ax 8), .ref (ax 9), .int xMz])), ((ax 8), .inl (cA 0, 20, .inl g_2)), ((ax 9), .inl (cA 0, 20, .inl (upd gN a.toNatClampNeg kn)))] := hD
  obtain ⟨g_4, eg_4⟩ : ∃ g : Nat → Int32, g = upd gN a.toNatClampNeg kn := ⟨_, rfl⟩
  rw [← eg_4] at hP hD
  have ig_4 : inB 0 100000 20 g_4 := by rw [eg_4]; exact inB_upd i_gN (by omega) (by omega)
  refine lv_aload_n hx hb dX0_add_14 rfl (lv_at hl 0 rfl) ?_
  refine lv_dup hx hb dX0_add_15 rfl ?_
  refine va_get (D := (dC, dI)) (ci := 0) (v := .int xMz) (C := RX0) (T := TX0) (N := 3) hx hb hts hIX0 hown hK hP 0 rfl rfl 2 (by decide) (hts (.fieldLink RX0 24 "TraitHouse$Merges" "size" "I") (by decide +kernel)) (fun _ h9 => h9) rfl dX0_add_16 ?_
  refine lv_iconst (v := 1) hx hb dX0_add_19 (by decide) ?_
  refine lv_iadd hx hb dX0_add_20 ?_
  refine lv_topi (fun x_5 ex_5 => ?_)
  refine va_put (D := (dC, dI)) (ci := 0) (v := .int x_5) (ty := .int) (C := RX0) (T := TX0) (N := 3) hx hb hts hIX0 tyX0 tyX0_ok nmX0 hown hK hP hD hS 0 rfl rfl 2 (by decide) (hts (.fieldLink RX0 24 "TraitHouse$Merges" "size" "I") (by decide +kernel)) (fun _ h9 => h9) rfl (by decide +kernel) rfl rfl (Nat.le_of_ble_eq_true rfl) dX0_add_21 (fun H locs hP hD hS => ?_)
  replace hP : va_P (dC, dI) vwCl [((ax 7), .inr (0, [.ref (ax 8), .ref (ax 9), .int x_5])), ((ax 8), .inl (cA 0, 20, .inl g_2)), ((ax 9), .inl (cA 0, 20, .inl g_4))] H := hP
  replace hD : va_D A [((ax 7), .inr (0, [.ref (ax 8), .ref (ax 9), .int x_5])), ((ax 8), .inl (cA 0, 20, .inl g_2)), ((ax 9), .inl (cA 0, 20, .inl g_4))] := hD
  refine lv_aload_n hx hb dX0_add_24 rfl (lv_at hl 0 rfl) ?_
  refine va_get (D := (dC, dI)) (ci := 0) (v := .int x_5) (C := RX0) (T := TX0) (N := 3) hx hb hts hIX0 hown hK hP 0 rfl rfl 2 (by decide) (hts (.fieldLink RX0 24 "TraitHouse$Merges" "size" "I") (by decide +kernel)) (fun _ h9 => h9) rfl dX0_add_25 ?_
  obtain ⟨hP9, hD9⟩ := va_pd (ws' := [((ax 7), .inr (0, [.ref (ax 8), .ref (ax 9), .int x_5])), ((ax 8), .inl (cA 0, 20, .inl g_2)), ((ax 9), .inl (cA 0, 20, .inl g_4))]) hP hD [0, 1, 2] (by decide) rfl
  subst hQe
  have hans : (x_5 : Int32).toInt = x_5.toInt := rfl
  have hpost : (inB (-1) 19 20 g_2) ∧ (inB 0 100000 20 g_4) ∧ ((x_5 : Int32) = xMz + 1 ∧ x_5 = xMz + 1 ∧ g_2 = upd gT a.toNatClampNeg b ∧ g_4 = upd gN a.toNatClampNeg kn) := ⟨ig_2, ig_4, ⟨ex_5, ex_5, eg_2, eg_4⟩⟩
  exact W.iret (v := x_5) hx hb hr (fun t ht hW => ⟨⟨x_5, (x_5, g_2, g_4), rfl, hpost, by rw [ht]; exact hP9, hD9⟩, hS.F ht⟩) hS.2.2 dX0_add_28

set_option maxHeartbeats 8000000 in
set_option maxRecDepth 100000 in
theorem k_X8_addMerge (l : Launch) (dC : Nat → ClassId) (dI : Nat → Nat → Nat) (cA : Nat → ClassId) (sz : Nat) (ax : Nat → Nat) (xNow : Int32) (xEr : Int32) (xTr : Int32) (xMo : Int32) (xFa : Int32) (xRe : Int32) (xMz : Int32) (gT : Nat → Int32) (gN : Nat → Int32) (a : Int32) (b : Int32) (kn : Int32) (i_xNow : 0 ≤ xNow.toInt ∧ xNow.toInt ≤ 100000) (i_xTr : 0 ≤ xTr.toInt ∧ xTr.toInt ≤ 20) (i_xMo : 0 ≤ xMo.toInt ∧ xMo.toInt ≤ 10) (i_gT : inB (-1) 19 20 gT) (i_gN : inB 0 100000 20 gN)  : Met l yX8_addMerge wsX8_addMerge ({ frames := 2, cells := 0, slots := 0, locals := 45 }) (va_Pc [.ref (ax 0), .int a, .int b, .int kn] (fun U => U.heap.size = sz ∧ va_P (dC, dI) vwCl [((ax 0), .inr (8, [.ref (ax 1), .ref (ax 7), .ref (ax 10), .ref (ax 11), .ref (ax 13), .ref (ax 15), .ref (ax 16), .ref (ax 21), .ref (ax 26), .ref (ax 27), .ref (ax 28), .int xNow, .int xEr, .int xTr, .int xMo, .int xFa, .int xRe])), ((ax 7), .inr (0, [.ref (ax 8), .ref (ax 9), .int xMz])), ((ax 8), .inl (cA 0, 20, .inl gT)), ((ax 9), .inl (cA 0, 20, .inl gN))] U.heap ∧ va_K (dC, dI) vwCl (tyL cA) U ∧ va_D (fun _ => True) [((ax 0), .inr (8, [.ref (ax 1), .ref (ax 7), .ref (ax 10), .ref (ax 11), .ref (ax 13), .ref (ax 15), .ref (ax 16), .ref (ax 21), .ref (ax 26), .ref (ax 27), .ref (ax 28), .int xNow, .int xEr, .int xTr, .int xMo, .int xFa, .int xRe])), ((ax 7), .inr (0, [.ref (ax 8), .ref (ax 9), .int xMz])), ((ax 8), .inl (cA 0, 20, .inl gT)), ((ax 9), .inl (cA 0, 20, .inl gN))] ∧ nw_ok U)) (va_Qi (fun (r : Int32) (u : Int32 × (Nat → Int32) × (Nat → Int32)) => (inB (-1) 19 20 u.2.1) ∧ (inB 0 100000 20 u.2.2) ∧ (mgRes gT gN xMz a b kn r u.1 u.2.1 u.2.2)) (fun (u : Int32 × (Nat → Int32) × (Nat → Int32)) (t : State) => va_P (dC, dI) vwCl [((ax 0), .inr (8, [.ref (ax 1), .ref (ax 7), .ref (ax 10), .ref (ax 11), .ref (ax 13), .ref (ax 15), .ref (ax 16), .ref (ax 21), .ref (ax 26), .ref (ax 27), .ref (ax 28), .int xNow, .int xEr, .int xTr, .int xMo, .int xFa, .int xRe])), ((ax 7), .inr (0, [.ref (ax 8), .ref (ax 9), .int u.1])), ((ax 8), .inl (cA 0, 20, .inl u.2.1)), ((ax 9), .inl (cA 0, 20, .inl u.2.2))] t.heap ∧ va_D (va_A [((ax 0), .inr (8, [.ref (ax 1), .ref (ax 7), .ref (ax 10), .ref (ax 11), .ref (ax 13), .ref (ax 15), .ref (ax 16), .ref (ax 21), .ref (ax 26), .ref (ax 27), .ref (ax 28), .int xNow, .int xEr, .int xTr, .int xMo, .int xFa, .int xRe])), ((ax 7), .inr (0, [.ref (ax 8), .ref (ax 9), .int xMz])), ((ax 8), .inl (cA 0, 20, .inl gT)), ((ax 9), .inl (cA 0, 20, .inl gN))] sz) [((ax 0), .inr (8, [.ref (ax 1), .ref (ax 7), .ref (ax 10), .ref (ax 11), .ref (ax 13), .ref (ax 15), .ref (ax 16), .ref (ax 21), .ref (ax 26), .ref (ax 27), .ref (ax 28), .int xNow, .int xEr, .int xTr, .int xMo, .int xFa, .int xRe])), ((ax 7), .inr (0, [.ref (ax 8), .ref (ax 9), .int u.1])), ((ax 8), .inl (cA 0, 20, .inl u.2.1)), ((ax 9), .inl (cA 0, 20, .inl u.2.2))]) (va_A [((ax 0), .inr (8, [.ref (ax 1), .ref (ax 7), .ref (ax 10), .ref (ax 11), .ref (ax 13), .ref (ax 15), .ref (ax 16), .ref (ax 21), .ref (ax 26), .ref (ax 27), .ref (ax 28), .int xNow, .int xEr, .int xTr, .int xMo, .int xFa, .int xRe])), ((ax 7), .inr (0, [.ref (ax 8), .ref (ax 9), .int xMz])), ((ax 8), .inl (cA 0, 20, .inl gT)), ((ax 9), .inl (cA 0, 20, .inl gN))] sz)) 0 0 (va_A [((ax 0), .inr (8, [.ref (ax 1), .ref (ax 7), .ref (ax 10), .ref (ax 11), .ref (ax 13), .ref (ax 15), .ref (ax 16), .ref (ax 21), .ref (ax 26), .ref (ax 27), .ref (ax 28), .int xNow, .int xEr, .int xTr, .int xMo, .int xFa, .int xRe])), ((ax 7), .inr (0, [.ref (ax 8), .ref (ax 9), .int xMz])), ((ax 8), .inl (cA 0, 20, .inl gT)), ((ax 9), .inl (cA 0, 20, .inl gN))] sz) := by
  refine Met.ofW (cc := cX8_addMerge) (maxL := 4) (ret := (some .int)) (by decide) rfl ?_
  intro p e s m args below meth c s₁ B hml hv
  obtain ⟨rfl, hsz, hP, hK, hD0, hN⟩ := hv
  have hx := B.exec
  have hb := B.bytes
  have hr := B.returns
  have hts := atoms_spec (ws := wsX8_addMerge) B.pre
  have hown : s.vm.findClass RX8 = some m.cls := findClass_of_methodNamed B.named
  have hlocks := B.notSynchronized
  subst hsz
  have hD := hD0.self (sz := s.heap.size)
  generalize hAe : va_A [((ax 0), .inr (8, [.ref (ax 1), .ref (ax 7), .ref (ax 10), .ref (ax 11), .ref (ax 13), .ref (ax 15), .ref (ax 16), .ref (ax 21), .ref (ax 26), .ref (ax 27), .ref (ax 28), .int xNow, .int xEr, .int xTr, .int xMo, .int xFa, .int xRe])), ((ax 7), .inr (0, [.ref (ax 8), .ref (ax 9), .int xMz])), ((ax 8), .inl (cA 0, 20, .inl gT)), ((ax 9), .inl (cA 0, 20, .inl gN))] s.heap.size = A at hD ⊢
  have hA : ∀ q : Nat, s.heap.size ≤ q → A q := fun q h => by rw [← hAe]; exact Or.inr h
  have hS : va_S A s.heap s.heap [] := va_S.rf
  have hIX8 : ∀ w ∈ u_ws RX8 TX8 17, w ∈ wsX8_addMerge := by decide +kernel
  have hl := lv_entry ([.ref (ax 0), .int a, .int b, .int kn]) (n := 4) (Nat.le_of_ble_eq_true rfl)
  rw [lg_entry_eq]
  generalize (lg_sl ([.ref (ax 0), .int a, .int b, .int kn]) ++ List.replicate (4 - (lg_sl ([.ref (ax 0), .int a, .int b, .int kn])).length) Slot.unset).toArray = ls at hl ⊢
  have hl : lv_has ls 4 [(0, .ref (ax 0)), (1, .int a), (2, .int b), (3, .int kn)] := hl
  generalize hQe : MQ below _ _ _ _ _ _ = QQ
  refine lv_iload_n hx hb dX8_addMerge_0 rfl (lv_at hl 3 rfl) ?_
  obtain ⟨hPc, hDc, hFc, hCc⟩ := va_pre (ws' := []) hP hD hS hA [] (by decide) rfl
  refine va_calli (va_runS (As := [.int kn]) (rest := []) ⟨hx, hb, hml, hown, hts⟩ (k_X8_isMoment l dC dI cA s.heap.size kn ) (va_cwS 1 hts gX8_addMerge_X8_isMoment rfl rfl rfl (by decide +kernel) ⟨Nat.le_of_ble_eq_true rfl, Nat.le_of_ble_eq_true rfl⟩) ⟨fun a U g mk q => by obtain ⟨q0, q1, qP, qK, qD, qN⟩ := q; exact ⟨q0, q1, qP, va_K.moved (u := U) (U := U.calling g mk a) (Vm.Alike.refl U.vm) qK, qD, qN.same rfl⟩, fun U hU hW => ⟨rfl, by rw [hU], by rw [hU]; exact hPc, va_K.moved hW.alike hK, hDc.weaken (fun _ _ _ _ => trivial), hN.warm hW⟩⟩ rfl rfl hl.1 rfl (lv_room (Nat.le_of_ble_eq_true rfl)) dX8_addMerge_1 ⟨Nat.le_of_ble_eq_true rfl, Nat.le_of_ble_eq_true rfl⟩) hS (fun q _ h => hFc q h) hFc (fun r_1 u_2 t H1 locs ht hvm hw_3 hB hz1 hk1 hS => ?_)
  try dsimp only at hw_3 hB
  have po_4 := hw_3
  clear hw_3
  obtain ⟨hP1, hD1⟩ := hB
  rw [ht] at hP1
  obtain ⟨hP, hD⟩ := va_join (wr := [((ax 0), .inr (8, [.ref (ax 1), .ref (ax 7), .ref (ax 10), .ref (ax 11), .ref (ax 13), .ref (ax 15), .ref (ax 16), .ref (ax 21), .ref (ax 26), .ref (ax 27), .ref (ax 28), .int xNow, .int xEr, .int xTr, .int xMo, .int xFa, .int xRe])), ((ax 7), .inr (0, [.ref (ax 8), .ref (ax 9), .int xMz])), ((ax 8), .inl (cA 0, 20, .inl gT)), ((ax 9), .inl (cA 0, 20, .inl gN))]) (w1 := []) hP hD [] [0, 1, 2, 3] hCc rfl (by decide) (by decide) hk1 hFc hP1 hD1
  clear hz1
  generalize H1 = H at hP hS ⊢
  refine lv_if_ne (tgt := 9) hx hb dX8_addMerge_4 (by decide) (fun c_5 => ?_) (fun c_5 => ?_)
  · have dc_5 : ¬ r_1.toInt = 0 := jI_ne c_5 rfl (by decide)
    refine lv_iload_n hx hb dX8_addMerge_9 rfl (lv_at hl 1 rfl) ?_
    obtain ⟨hPc, hDc, hFc, hCc⟩ := va_pre (ws' := []) hP hD hS hA [] (by decide) rfl
    refine va_calli (va_runS (As := [.int a]) (rest := []) ⟨hx, hb, hml, hown, hts⟩ (k_X8_isPerson l dC dI cA H.size a ) (va_cwS 1 hts gX8_addMerge_X8_isPerson rfl rfl rfl (by decide +kernel) ⟨Nat.le_of_ble_eq_true rfl, Nat.le_of_ble_eq_true rfl⟩) ⟨fun a U g mk q => by obtain ⟨q0, q1, qP, qK, qD, qN⟩ := q; exact ⟨q0, q1, qP, va_K.moved (u := U) (U := U.calling g mk a) (Vm.Alike.refl U.vm) qK, qD, qN.same rfl⟩, fun U hU hW => ⟨rfl, by rw [hU], by rw [hU]; exact hPc, va_K.moved hW.alike hK, hDc.weaken (fun _ _ _ _ => trivial), hN.warm hW⟩⟩ rfl rfl hl.1 rfl (lv_room (Nat.le_of_ble_eq_true rfl)) dX8_addMerge_10 ⟨Nat.le_of_ble_eq_true rfl, Nat.le_of_ble_eq_true rfl⟩) hS (fun q _ h => hFc q h) hFc (fun r_6 u_7 t H1 locs ht hvm hw_8 hB hz1 hk1 hS => ?_)
    try dsimp only at hw_8 hB
    have po_9 := hw_8
    clear hw_8
    obtain ⟨hP1, hD1⟩ := hB
    rw [ht] at hP1
    obtain ⟨hP, hD⟩ := va_join (wr := [((ax 0), .inr (8, [.ref (ax 1), .ref (ax 7), .ref (ax 10), .ref (ax 11), .ref (ax 13), .ref (ax 15), .ref (ax 16), .ref (ax 21), .ref (ax 26), .ref (ax 27), .ref (ax 28), .int xNow, .int xEr, .int xTr, .int xMo, .int xFa, .int xRe])), ((ax 7), .inr (0, [.ref (ax 8), .ref (ax 9), .int xMz])), ((ax 8), .inl (cA 0, 20, .inl gT)), ((ax 9), .inl (cA 0, 20, .inl gN))]) (w1 := []) hP hD [] [0, 1, 2, 3] hCc rfl (by decide) (by decide) hk1 hFc hP1 hD1
    clear hz1
    generalize H1 = H at hP hS ⊢
    refine lv_if_eq (tgt := 23) hx hb dX8_addMerge_13 (by decide) (fun c_10 => ?_) (fun c_10 => ?_)
    · have dc_10 : r_6.toInt = 0 := jI_eq c_10 rfl (by decide)
      refine lv_bipush (v := (-2)) hx hb dX8_addMerge_23 (by decide) ?_
      obtain ⟨hP9, hD9⟩ := va_pd (ws' := [((ax 0), .inr (8, [.ref (ax 1), .ref (ax 7), .ref (ax 10), .ref (ax 11), .ref (ax 13), .ref (ax 15), .ref (ax 16), .ref (ax 21), .ref (ax 26), .ref (ax 27), .ref (ax 28), .int xNow, .int xEr, .int xTr, .int xMo, .int xFa, .int xRe])), ((ax 7), .inr (0, [.ref (ax 8), .ref (ax 9), .int xMz])), ((ax 8), .inl (cA 0, 20, .inl gT)), ((ax 9), .inl (cA 0, 20, .inl gN))]) hP hD [0, 1, 2, 3] (by decide) rfl
      subst hQe
      have hans : ((-2) : Int32).toInt = (-2) := (by decide)
      have hpost : (inB (-1) 19 20 gT) ∧ (inB 0 100000 20 gN) ∧ (mgRes gT gN xMz a b kn ((-2) : Int32) xMz gT gN) := ⟨i_gT, i_gN, Or.inr (Or.inl ⟨by omega, by omega, by omega, rfl, rfl, rfl⟩)⟩
      exact W.iret (v := (-2)) hx hb hr (fun t ht hW => ⟨⟨(-2), (xMz, gT, gN), rfl, hpost, by rw [ht]; exact hP9, hD9⟩, hS.F ht⟩) hS.2.2 dX8_addMerge_25
    · have dc_10 : ¬ r_6.toInt = 0 := jI_ne c_10 rfl (by decide)
      refine lv_iload_n hx hb dX8_addMerge_16 rfl (lv_at hl 2 rfl) ?_
      obtain ⟨hPc, hDc, hFc, hCc⟩ := va_pre (ws' := []) hP hD hS hA [] (by decide) rfl
      refine va_calli (va_runS (As := [.int b]) (rest := []) ⟨hx, hb, hml, hown, hts⟩ (k_X8_isPerson l dC dI cA H.size b ) (va_cwS 1 hts gX8_addMerge_X8_isPerson rfl rfl rfl (by decide +kernel) ⟨Nat.le_of_ble_eq_true rfl, Nat.le_of_ble_eq_true rfl⟩) ⟨fun a U g mk q => by obtain ⟨q0, q1, qP, qK, qD, qN⟩ := q; exact ⟨q0, q1, qP, va_K.moved (u := U) (U := U.calling g mk a) (Vm.Alike.refl U.vm) qK, qD, qN.same rfl⟩, fun U hU hW => ⟨rfl, by rw [hU], by rw [hU]; exact hPc, va_K.moved hW.alike hK, hDc.weaken (fun _ _ _ _ => trivial), hN.warm hW⟩⟩ rfl rfl hl.1 rfl (lv_room (Nat.le_of_ble_eq_true rfl)) dX8_addMerge_17 ⟨Nat.le_of_ble_eq_true rfl, Nat.le_of_ble_eq_true rfl⟩) hS (fun q _ h => hFc q h) hFc (fun r_11 u_12 t H1 locs ht hvm hw_13 hB hz1 hk1 hS => ?_)
      try dsimp only at hw_13 hB
      have po_14 := hw_13
      clear hw_13
      obtain ⟨hP1, hD1⟩ := hB
      rw [ht] at hP1
      obtain ⟨hP, hD⟩ := va_join (wr := [((ax 0), .inr (8, [.ref (ax 1), .ref (ax 7), .ref (ax 10), .ref (ax 11), .ref (ax 13), .ref (ax 15), .ref (ax 16), .ref (ax 21), .ref (ax 26), .ref (ax 27), .ref (ax 28), .int xNow, .int xEr, .int xTr, .int xMo, .int xFa, .int xRe])), ((ax 7), .inr (0, [.ref (ax 8), .ref (ax 9), .int xMz])), ((ax 8), .inl (cA 0, 20, .inl gT)), ((ax 9), .inl (cA 0, 20, .inl gN))]) (w1 := []) hP hD [] [0, 1, 2, 3] hCc rfl (by decide) (by decide) hk1 hFc hP1 hD1
      clear hz1
      generalize H1 = H at hP hS ⊢
      refine lv_if_ne (tgt := 26) hx hb dX8_addMerge_20 (by decide) (fun c_15 => ?_) (fun c_15 => ?_)
      · have dc_15 : ¬ r_11.toInt = 0 := jI_ne c_15 rfl (by decide)
        refine lv_aload_n hx hb dX8_addMerge_26 rfl (lv_at hl 0 rfl) ?_
        refine va_get (D := (dC, dI)) (ci := 8) (v := .ref (ax 7)) (C := RX8) (T := TX8) (N := 17) hx hb hts hIX8 hown hK hP 0 rfl rfl 1 (by decide) (hts (.fieldLink RX8 19 "TraitHouse" "merges" "LTraitHouse$Merges;") (by decide +kernel)) (fun _ h9 => h9) rfl dX8_addMerge_27 ?_
        refine lv_iload_n hx hb dX8_addMerge_30 rfl (lv_at hl 1 rfl) ?_
        obtain ⟨hPc, hDc, hFc, hCc⟩ := va_pre (ws' := [((ax 7), .inr (0, [.ref (ax 8), .ref (ax 9), .int xMz])), ((ax 8), .inl (cA 0, 20, .inl gT))]) hP hD hS hA [1, 2] (by decide) rfl
        refine va_calli (va_runVN (As := [.int a]) (rest := []) ⟨hx, hb, hml, hown, hts⟩ (k_X0_isTold l dC dI cA H.size ax xMz gT a i_gT (by omega)) ⟨(va_cnB 1 hts gX8_addMerge_X0_isTold_n114 rfl rfl rfl (nw_at hN 38 rfl) (hts (.initialized RX0) (by decide +kernel)) (by decide +kernel) ⟨Nat.le_of_ble_eq_true rfl, Nat.le_of_ble_eq_true rfl⟩), (hts (.instanceMethod yX0_isTold) (by decide +kernel)), (hts (.selects RX0 yX0_isTold yX0_isTold) (by decide +kernel))⟩ ⟨fun a U g mk q => by obtain ⟨q0, q1, qP, qK, qD, qN⟩ := q; exact ⟨q0, q1, qP, va_K.moved (u := U) (U := U.calling g mk a) (Vm.Alike.refl U.vm) qK, qD, qN.same rfl⟩, va_recv hK hPc (ci := 0) (q0 := 0) rfl rfl, fun U hU hW => ⟨rfl, by rw [hU], by rw [hU]; exact hPc, va_K.moved hW.alike hK, hDc.weaken (fun _ _ _ _ => trivial), hN.warm hW⟩⟩ rfl rfl hl.1 rfl (lv_room (Nat.le_of_ble_eq_true rfl)) dX8_addMerge_31 ⟨Nat.le_of_ble_eq_true rfl, Nat.le_of_ble_eq_true rfl⟩) hS (fun q _ h => hFc q h) hFc (fun r_16 u_17 t H1 locs ht hvm hw_18 hB hz1 hk1 hS => ?_)
        try dsimp only at hw_18 hB
        have po_19 := hw_18
        clear hw_18
        obtain ⟨hP1, hD1⟩ := hB
        rw [ht] at hP1
        obtain ⟨hP, hD⟩ := va_join (wr := [((ax 0), .inr (8, [.ref (ax 1), .ref (ax 7), .ref (ax 10), .ref (ax 11), .ref (ax 13), .ref (ax 15), .ref (ax 16), .ref (ax 21), .ref (ax 26), .ref (ax 27), .ref (ax 28), .int xNow, .int xEr, .int xTr, .int xMo, .int xFa, .int xRe])), ((ax 9), .inl (cA 0, 20, .inl gN))]) (w1 := [((ax 7), .inr (0, [.ref (ax 8), .ref (ax 9), .int xMz])), ((ax 8), .inl (cA 0, 20, .inl gT))]) hP hD [1, 2] [0, 3] hCc rfl (by decide) (by decide) hk1 hFc hP1 hD1
        clear hz1
        generalize H1 = H at hP hS ⊢
        refine lv_if_ne (tgt := 51) hx hb dX8_addMerge_34 (by decide) (fun c_20 => ?_) (fun c_20 => ?_)
        · have dc_20 : ¬ r_16.toInt = 0 := jI_ne c_20 rfl (by decide)
          refine lv_bipush (v := (-4)) hx hb dX8_addMerge_51 (by decide) ?_
          obtain ⟨hP9, hD9⟩ := va_pd (ws' := [((ax 0), .inr (8, [.ref (ax 1), .ref (ax 7), .ref (ax 10), .ref (ax 11), .ref (ax 13), .ref (ax 15), .ref (ax 16), .ref (ax 21), .ref (ax 26), .ref (ax 27), .ref (ax 28), .int xNow, .int xEr, .int xTr, .int xMo, .int xFa, .int xRe])), ((ax 7), .inr (0, [.ref (ax 8), .ref (ax 9), .int xMz])), ((ax 8), .inl (cA 0, 20, .inl gT)), ((ax 9), .inl (cA 0, 20, .inl gN))]) hP hD [0, 2, 3, 1] (by decide) rfl
          subst hQe
          have hans : ((-4) : Int32).toInt = (-4) := (by decide)
          have hpost : (inB (-1) 19 20 gT) ∧ (inB 0 100000 20 gN) ∧ (mgRes gT gN xMz a b kn ((-4) : Int32) xMz gT gN) := ⟨i_gT, i_gN, Or.inr (Or.inr (Or.inl ⟨by omega, by omega, Or.inl (by have := po_19; omega), by omega, rfl, rfl, rfl⟩))⟩
          exact W.iret (v := (-4)) hx hb hr (fun t ht hW => ⟨⟨(-4), (xMz, gT, gN), rfl, hpost, by rw [ht]; exact hP9, hD9⟩, hS.F ht⟩) hS.2.2 dX8_addMerge_53
        · have dc_20 : r_16.toInt = 0 := jI_eq c_20 rfl (by decide)
          refine lv_aload_n hx hb dX8_addMerge_37 rfl (lv_at hl 0 rfl) ?_
          refine va_get (D := (dC, dI)) (ci := 8) (v := .ref (ax 7)) (C := RX8) (T := TX8) (N := 17) hx hb hts hIX8 hown hK hP 0 rfl rfl 1 (by decide) (hts (.fieldLink RX8 19 "TraitHouse" "merges" "LTraitHouse$Merges;") (by decide +kernel)) (fun _ h9 => h9) rfl dX8_addMerge_38 ?_
          refine lv_iload_n hx hb dX8_addMerge_41 rfl (lv_at hl 2 rfl) ?_
          refine lv_ldc hx hb hown (hts (.constant RX8 117 (100000)) (by decide +kernel)) dX8_addMerge_42 ?_
          have hk_21 : (100000 : Int32).toInt = 100000 := by decide
          obtain ⟨hPc, hDc, hFc, hCc⟩ := va_pre (ws' := [((ax 7), .inr (0, [.ref (ax 8), .ref (ax 9), .int xMz])), ((ax 8), .inl (cA 0, 20, .inl gT)), ((ax 9), .inl (cA 0, 20, .inl gN))]) hP hD hS hA [2, 3, 1] (by decide) rfl
          refine va_calli (va_runVN (As := [.int b, .int 100000]) (rest := []) ⟨hx, hb, hml, hown, hts⟩ (k_X0_lastOf l dC dI cA H.size ax xMz gT gN b 100000 i_gT i_gN (by omega)) ⟨(va_cnB 2 hts gX8_addMerge_X0_lastOf_n118 rfl rfl rfl (nw_at hN 39 rfl) (hts (.initialized RX0) (by decide +kernel)) (by decide +kernel) ⟨Nat.le_of_ble_eq_true rfl, Nat.le_of_ble_eq_true rfl⟩), (hts (.instanceMethod yX0_lastOf) (by decide +kernel)), (hts (.selects RX0 yX0_lastOf yX0_lastOf) (by decide +kernel))⟩ ⟨fun a U g mk q => by obtain ⟨q0, q1, qP, qK, qD, qN⟩ := q; exact ⟨q0, q1, qP, va_K.moved (u := U) (U := U.calling g mk a) (Vm.Alike.refl U.vm) qK, qD, qN.same rfl⟩, va_recv hK hPc (ci := 0) (q0 := 0) rfl rfl, fun U hU hW => ⟨rfl, by rw [hU], by rw [hU]; exact hPc, va_K.moved hW.alike hK, hDc.weaken (fun _ _ _ _ => trivial), hN.warm hW⟩⟩ rfl rfl hl.1 rfl (lv_room (Nat.le_of_ble_eq_true rfl)) dX8_addMerge_44 ⟨Nat.le_of_ble_eq_true rfl, Nat.le_of_ble_eq_true rfl⟩) hS (fun q _ h => hFc q h) hFc (fun r_22 u_23 t H1 locs ht hvm hw_24 hB hz1 hk1 hS => ?_)
          try dsimp only at hw_24 hB
          have po_25 := hw_24
          clear hw_24
          try simp only [hk_21] at po_25
          obtain ⟨hP1, hD1⟩ := hB
          rw [ht] at hP1
          obtain ⟨hP, hD⟩ := va_join (wr := [((ax 0), .inr (8, [.ref (ax 1), .ref (ax 7), .ref (ax 10), .ref (ax 11), .ref (ax 13), .ref (ax 15), .ref (ax 16), .ref (ax 21), .ref (ax 26), .ref (ax 27), .ref (ax 28), .int xNow, .int xEr, .int xTr, .int xMo, .int xFa, .int xRe]))]) (w1 := [((ax 7), .inr (0, [.ref (ax 8), .ref (ax 9), .int xMz])), ((ax 8), .inl (cA 0, 20, .inl gT)), ((ax 9), .inl (cA 0, 20, .inl gN))]) hP hD [2, 3, 1] [0] hCc rfl (by decide) (by decide) hk1 hFc hP1 hD1
          clear hz1
          generalize H1 = H at hP hS ⊢
          refine lv_iload_n hx hb dX8_addMerge_47 rfl (lv_at hl 1 rfl) ?_
          refine lv_icmp_ne (tgt := 54) hx hb dX8_addMerge_48 (by decide) (fun c_26 => ?_) (fun c_26 => ?_)
          · have dc_26 : ¬ r_22.toInt = a.toInt := jI_ne c_26 rfl rfl
            refine lv_aload_n hx hb dX8_addMerge_54 rfl (lv_at hl 0 rfl) ?_
            refine va_get (D := (dC, dI)) (ci := 8) (v := .ref (ax 7)) (C := RX8) (T := TX8) (N := 17) hx hb hts hIX8 hown hK hP 0 rfl rfl 1 (by decide) (hts (.fieldLink RX8 19 "TraitHouse" "merges" "LTraitHouse$Merges;") (by decide +kernel)) (fun _ h9 => h9) rfl dX8_addMerge_55 ?_
            refine lv_iload_n hx hb dX8_addMerge_58 rfl (lv_at hl 1 rfl) ?_
            refine lv_iload_n hx hb dX8_addMerge_59 rfl (lv_at hl 2 rfl) ?_
            refine lv_iload_n hx hb dX8_addMerge_60 rfl (lv_at hl 3 rfl) ?_
            obtain ⟨hPc, hDc, hFc, hCc⟩ := va_pre (ws' := [((ax 7), .inr (0, [.ref (ax 8), .ref (ax 9), .int xMz])), ((ax 8), .inl (cA 0, 20, .inl gT)), ((ax 9), .inl (cA 0, 20, .inl gN))]) hP hD hS hA [1, 2, 3] (by decide) rfl
            refine va_calli (va_runVN (As := [.int a, .int b, .int kn]) (rest := []) ⟨hx, hb, hml, hown, hts⟩ (k_X0_add l dC dI cA H.size ax xMz gT gN a b kn i_gT i_gN (by omega) (by omega) (by omega)) ⟨(va_cnB 3 hts gX8_addMerge_X0_add_n122 rfl rfl rfl (nw_at hN 40 rfl) (hts (.initialized RX0) (by decide +kernel)) (by decide +kernel) ⟨Nat.le_of_ble_eq_true rfl, Nat.le_of_ble_eq_true rfl⟩), (hts (.instanceMethod yX0_add) (by decide +kernel)), (hts (.selects RX0 yX0_add yX0_add) (by decide +kernel))⟩ ⟨fun a U g mk q => by obtain ⟨q0, q1, qP, qK, qD, qN⟩ := q; exact ⟨q0, q1, qP, va_K.moved (u := U) (U := U.calling g mk a) (Vm.Alike.refl U.vm) qK, qD, qN.same rfl⟩, va_recv hK hPc (ci := 0) (q0 := 0) rfl rfl, fun U hU hW => ⟨rfl, by rw [hU], by rw [hU]; exact hPc, va_K.moved hW.alike hK, hDc.weaken (fun _ _ _ _ => trivial), hN.warm hW⟩⟩ rfl rfl hl.1 rfl (lv_room (Nat.le_of_ble_eq_true rfl)) dX8_addMerge_61 ⟨Nat.le_of_ble_eq_true rfl, Nat.le_of_ble_eq_true rfl⟩) hS (fun q _ h => hFc q h) hFc (fun r_27 u_28 t H1 locs ht hvm hw_29 hB hz1 hk1 hS => ?_)
            obtain ⟨w_30, w_31, w_32⟩ := u_28
            try dsimp only at hw_29 hB
            obtain ⟨iv_33, iv_34, po_35⟩ := hw_29
            obtain ⟨hP1, hD1⟩ := hB
            rw [ht] at hP1
            obtain ⟨hP, hD⟩ := va_join (wr := [((ax 0), .inr (8, [.ref (ax 1), .ref (ax 7), .ref (ax 10), .ref (ax 11), .ref (ax 13), .ref (ax 15), .ref (ax 16), .ref (ax 21), .ref (ax 26), .ref (ax 27), .ref (ax 28), .int xNow, .int xEr, .int xTr, .int xMo, .int xFa, .int xRe]))]) (w1 := [((ax 7), .inr (0, [.ref (ax 8), .ref (ax 9), .int w_30])), ((ax 8), .inl (cA 0, 20, .inl w_31)), ((ax 9), .inl (cA 0, 20, .inl w_32))]) hP hD [1, 2, 3] [0] hCc rfl (by decide) (by decide) hk1 hFc hP1 hD1
            clear hz1
            generalize H1 = H at hP hS ⊢
            obtain ⟨hP9, hD9⟩ := va_pd (ws' := [((ax 0), .inr (8, [.ref (ax 1), .ref (ax 7), .ref (ax 10), .ref (ax 11), .ref (ax 13), .ref (ax 15), .ref (ax 16), .ref (ax 21), .ref (ax 26), .ref (ax 27), .ref (ax 28), .int xNow, .int xEr, .int xTr, .int xMo, .int xFa, .int xRe])), ((ax 7), .inr (0, [.ref (ax 8), .ref (ax 9), .int w_30])), ((ax 8), .inl (cA 0, 20, .inl w_31)), ((ax 9), .inl (cA 0, 20, .inl w_32))]) hP hD [0, 1, 2, 3] (by decide) rfl
            subst hQe
            have hans : (r_27 : Int32).toInt = r_27.toInt := rfl
            have hpost : (inB (-1) 19 20 w_31) ∧ (inB 0 100000 20 w_32) ∧ (mgRes gT gN xMz a b kn (r_27 : Int32) w_30 w_31 w_32) := ⟨iv_33, iv_34, Or.inr (Or.inr (Or.inr ⟨by omega, by omega, by have := po_19; omega, by have := po_25; omega, po_35⟩))⟩
            exact W.iret (v := r_27) hx hb hr (fun t ht hW => ⟨⟨r_27, (w_30, w_31, w_32), rfl, hpost, by rw [ht]; exact hP9, hD9⟩, hS.F ht⟩) hS.2.2 dX8_addMerge_64
          · have dc_26 : r_22.toInt = a.toInt := jI_eq c_26 rfl rfl
            refine lv_bipush (v := (-4)) hx hb dX8_addMerge_51 (by decide) ?_
            obtain ⟨hP9, hD9⟩ := va_pd (ws' := [((ax 0), .inr (8, [.ref (ax 1), .ref (ax 7), .ref (ax 10), .ref (ax 11), .ref (ax 13), .ref (ax 15), .ref (ax 16), .ref (ax 21), .ref (ax 26), .ref (ax 27), .ref (ax 28), .int xNow, .int xEr, .int xTr, .int xMo, .int xFa, .int xRe])), ((ax 7), .inr (0, [.ref (ax 8), .ref (ax 9), .int xMz])), ((ax 8), .inl (cA 0, 20, .inl gT)), ((ax 9), .inl (cA 0, 20, .inl gN))]) hP hD [0, 1, 2, 3] (by decide) rfl
            subst hQe
            have hans : ((-4) : Int32).toInt = (-4) := (by decide)
            have hpost : (inB (-1) 19 20 gT) ∧ (inB 0 100000 20 gN) ∧ (mgRes gT gN xMz a b kn ((-4) : Int32) xMz gT gN) := ⟨i_gT, i_gN, Or.inr (Or.inr (Or.inl ⟨by omega, by omega, Or.inr (by have := po_25; omega), by omega, rfl, rfl, rfl⟩))⟩
            exact W.iret (v := (-4)) hx hb hr (fun t ht hW => ⟨⟨(-4), (xMz, gT, gN), rfl, hpost, by rw [ht]; exact hP9, hD9⟩, hS.F ht⟩) hS.2.2 dX8_addMerge_53
      · have dc_15 : r_11.toInt = 0 := jI_eq c_15 rfl (by decide)
        refine lv_bipush (v := (-2)) hx hb dX8_addMerge_23 (by decide) ?_
        obtain ⟨hP9, hD9⟩ := va_pd (ws' := [((ax 0), .inr (8, [.ref (ax 1), .ref (ax 7), .ref (ax 10), .ref (ax 11), .ref (ax 13), .ref (ax 15), .ref (ax 16), .ref (ax 21), .ref (ax 26), .ref (ax 27), .ref (ax 28), .int xNow, .int xEr, .int xTr, .int xMo, .int xFa, .int xRe])), ((ax 7), .inr (0, [.ref (ax 8), .ref (ax 9), .int xMz])), ((ax 8), .inl (cA 0, 20, .inl gT)), ((ax 9), .inl (cA 0, 20, .inl gN))]) hP hD [0, 1, 2, 3] (by decide) rfl
        subst hQe
        have hans : ((-2) : Int32).toInt = (-2) := (by decide)
        have hpost : (inB (-1) 19 20 gT) ∧ (inB 0 100000 20 gN) ∧ (mgRes gT gN xMz a b kn ((-2) : Int32) xMz gT gN) := ⟨i_gT, i_gN, Or.inr (Or.inl ⟨by omega, by omega, by omega, rfl, rfl, rfl⟩)⟩
        exact W.iret (v := (-2)) hx hb hr (fun t ht hW => ⟨⟨(-2), (xMz, gT, gN), rfl, hpost, by rw [ht]; exact hP9, hD9⟩, hS.F ht⟩) hS.2.2 dX8_addMerge_25
  · have dc_5 : r_1.toInt = 0 := jI_eq c_5 rfl (by decide)
    refine lv_iconst (v := (-1)) hx hb dX8_addMerge_7 (by decide) ?_
    obtain ⟨hP9, hD9⟩ := va_pd (ws' := [((ax 0), .inr (8, [.ref (ax 1), .ref (ax 7), .ref (ax 10), .ref (ax 11), .ref (ax 13), .ref (ax 15), .ref (ax 16), .ref (ax 21), .ref (ax 26), .ref (ax 27), .ref (ax 28), .int xNow, .int xEr, .int xTr, .int xMo, .int xFa, .int xRe])), ((ax 7), .inr (0, [.ref (ax 8), .ref (ax 9), .int xMz])), ((ax 8), .inl (cA 0, 20, .inl gT)), ((ax 9), .inl (cA 0, 20, .inl gN))]) hP hD [0, 1, 2, 3] (by decide) rfl
    subst hQe
    have hans : ((-1) : Int32).toInt = (-1) := (by decide)
    have hpost : (inB (-1) 19 20 gT) ∧ (inB 0 100000 20 gN) ∧ (mgRes gT gN xMz a b kn ((-1) : Int32) xMz gT gN) := ⟨i_gT, i_gN, Or.inl ⟨by omega, by omega, rfl, rfl, rfl⟩⟩
    exact W.iret (v := (-1)) hx hb hr (fun t ht hW => ⟨⟨(-1), (xMz, gT, gN), rfl, hpost, by rw [ht]; exact hP9, hD9⟩, hS.F ht⟩) hS.2.2 dX8_addMerge_8

set_option maxHeartbeats 8000000 in
set_option maxRecDepth 100000 in
theorem k_X8_merge (l : Launch) (dC : Nat → ClassId) (dI : Nat → Nat → Nat) (cA : Nat → ClassId) (sz : Nat) (ax : Nat → Nat) (xNow : Int32) (xEr : Int32) (xTr : Int32) (xMo : Int32) (xFa : Int32) (xRe : Int32) (xMz : Int32) (gT : Nat → Int32) (gN : Nat → Int32) (a : Int32) (b : Int32) (kn : Int32) (i_xNow : 0 ≤ xNow.toInt ∧ xNow.toInt ≤ 100000) (i_xTr : 0 ≤ xTr.toInt ∧ xTr.toInt ≤ 20) (i_xMo : 0 ≤ xMo.toInt ∧ xMo.toInt ≤ 10) (i_gT : inB (-1) 19 20 gT) (i_gN : inB 0 100000 20 gN)  : Met l yX8_merge wsX8_merge ({ frames := 3, cells := 0, slots := 0, locals := 68 }) (va_Pc [.ref (ax 0), .int a, .int b, .int kn] (fun U => U.heap.size = sz ∧ va_P (dC, dI) vwCl [((ax 0), .inr (8, [.ref (ax 1), .ref (ax 7), .ref (ax 10), .ref (ax 11), .ref (ax 13), .ref (ax 15), .ref (ax 16), .ref (ax 21), .ref (ax 26), .ref (ax 27), .ref (ax 28), .int xNow, .int xEr, .int xTr, .int xMo, .int xFa, .int xRe])), ((ax 7), .inr (0, [.ref (ax 8), .ref (ax 9), .int xMz])), ((ax 8), .inl (cA 0, 20, .inl gT)), ((ax 9), .inl (cA 0, 20, .inl gN))] U.heap ∧ va_K (dC, dI) vwCl (tyL cA) U ∧ va_D (fun _ => True) [((ax 0), .inr (8, [.ref (ax 1), .ref (ax 7), .ref (ax 10), .ref (ax 11), .ref (ax 13), .ref (ax 15), .ref (ax 16), .ref (ax 21), .ref (ax 26), .ref (ax 27), .ref (ax 28), .int xNow, .int xEr, .int xTr, .int xMo, .int xFa, .int xRe])), ((ax 7), .inr (0, [.ref (ax 8), .ref (ax 9), .int xMz])), ((ax 8), .inl (cA 0, 20, .inl gT)), ((ax 9), .inl (cA 0, 20, .inl gN))] ∧ nw_ok U)) (va_Qi (fun (r : Int32) (u : Int32 × Int32 × (Nat → Int32) × (Nat → Int32)) => (inB (-1) 19 20 u.2.2.1) ∧ (inB 0 100000 20 u.2.2.2) ∧ (mgRes gT gN xMz a b kn r u.2.1 u.2.2.1 u.2.2.2)) (fun (u : Int32 × Int32 × (Nat → Int32) × (Nat → Int32)) (t : State) => va_P (dC, dI) vwCl [((ax 0), .inr (8, [.ref (ax 1), .ref (ax 7), .ref (ax 10), .ref (ax 11), .ref (ax 13), .ref (ax 15), .ref (ax 16), .ref (ax 21), .ref (ax 26), .ref (ax 27), .ref (ax 28), .int xNow, .int xEr, .int xTr, .int xMo, .int xFa, .int u.1])), ((ax 7), .inr (0, [.ref (ax 8), .ref (ax 9), .int u.2.1])), ((ax 8), .inl (cA 0, 20, .inl u.2.2.1)), ((ax 9), .inl (cA 0, 20, .inl u.2.2.2))] t.heap ∧ va_D (va_A [((ax 0), .inr (8, [.ref (ax 1), .ref (ax 7), .ref (ax 10), .ref (ax 11), .ref (ax 13), .ref (ax 15), .ref (ax 16), .ref (ax 21), .ref (ax 26), .ref (ax 27), .ref (ax 28), .int xNow, .int xEr, .int xTr, .int xMo, .int xFa, .int xRe])), ((ax 7), .inr (0, [.ref (ax 8), .ref (ax 9), .int xMz])), ((ax 8), .inl (cA 0, 20, .inl gT)), ((ax 9), .inl (cA 0, 20, .inl gN))] sz) [((ax 0), .inr (8, [.ref (ax 1), .ref (ax 7), .ref (ax 10), .ref (ax 11), .ref (ax 13), .ref (ax 15), .ref (ax 16), .ref (ax 21), .ref (ax 26), .ref (ax 27), .ref (ax 28), .int xNow, .int xEr, .int xTr, .int xMo, .int xFa, .int u.1])), ((ax 7), .inr (0, [.ref (ax 8), .ref (ax 9), .int u.2.1])), ((ax 8), .inl (cA 0, 20, .inl u.2.2.1)), ((ax 9), .inl (cA 0, 20, .inl u.2.2.2))]) (va_A [((ax 0), .inr (8, [.ref (ax 1), .ref (ax 7), .ref (ax 10), .ref (ax 11), .ref (ax 13), .ref (ax 15), .ref (ax 16), .ref (ax 21), .ref (ax 26), .ref (ax 27), .ref (ax 28), .int xNow, .int xEr, .int xTr, .int xMo, .int xFa, .int xRe])), ((ax 7), .inr (0, [.ref (ax 8), .ref (ax 9), .int xMz])), ((ax 8), .inl (cA 0, 20, .inl gT)), ((ax 9), .inl (cA 0, 20, .inl gN))] sz)) 0 0 (va_A [((ax 0), .inr (8, [.ref (ax 1), .ref (ax 7), .ref (ax 10), .ref (ax 11), .ref (ax 13), .ref (ax 15), .ref (ax 16), .ref (ax 21), .ref (ax 26), .ref (ax 27), .ref (ax 28), .int xNow, .int xEr, .int xTr, .int xMo, .int xFa, .int xRe])), ((ax 7), .inr (0, [.ref (ax 8), .ref (ax 9), .int xMz])), ((ax 8), .inl (cA 0, 20, .inl gT)), ((ax 9), .inl (cA 0, 20, .inl gN))] sz) := by
  refine Met.ofW (cc := cX8_merge) (maxL := 4) (ret := (some .int)) (by decide) rfl ?_
  intro p e s m args below meth c s₁ B hml hv
  obtain ⟨rfl, hsz, hP, hK, hD0, hN⟩ := hv
  have hx := B.exec
  have hb := B.bytes
  have hr := B.returns
  have hts := atoms_spec (ws := wsX8_merge) B.pre
  have hown : s.vm.findClass RX8 = some m.cls := findClass_of_methodNamed B.named
  have hlocks := B.notSynchronized
  subst hsz
  have hD := hD0.self (sz := s.heap.size)
  generalize hAe : va_A [((ax 0), .inr (8, [.ref (ax 1), .ref (ax 7), .ref (ax 10), .ref (ax 11), .ref (ax 13), .ref (ax 15), .ref (ax 16), .ref (ax 21), .ref (ax 26), .ref (ax 27), .ref (ax 28), .int xNow, .int xEr, .int xTr, .int xMo, .int xFa, .int xRe])), ((ax 7), .inr (0, [.ref (ax 8), .ref (ax 9), .int xMz])), ((ax 8), .inl (cA 0, 20, .inl gT)), ((ax 9), .inl (cA 0, 20, .inl gN))] s.heap.size = A at hD ⊢
  have hA : ∀ q : Nat, s.heap.size ≤ q → A q := fun q h => by rw [← hAe]; exact Or.inr h
  have hS : va_S A s.heap s.heap [] := va_S.rf
  have hl := lv_entry ([.ref (ax 0), .int a, .int b, .int kn]) (n := 4) (Nat.le_of_ble_eq_true rfl)
  rw [lg_entry_eq]
  generalize (lg_sl ([.ref (ax 0), .int a, .int b, .int kn]) ++ List.replicate (4 - (lg_sl ([.ref (ax 0), .int a, .int b, .int kn])).length) Slot.unset).toArray = ls at hl ⊢
  have hl : lv_has ls 4 [(0, .ref (ax 0)), (1, .int a), (2, .int b), (3, .int kn)] := hl
  generalize hQe : MQ below _ _ _ _ _ _ = QQ
  refine lv_aload_n hx hb dX8_merge_0 rfl (lv_at hl 0 rfl) ?_
  refine lv_aload_n hx hb dX8_merge_1 rfl (lv_at hl 0 rfl) ?_
  refine lv_iload_n hx hb dX8_merge_2 rfl (lv_at hl 1 rfl) ?_
  refine lv_iload_n hx hb dX8_merge_3 rfl (lv_at hl 2 rfl) ?_
  refine lv_iload_n hx hb dX8_merge_4 rfl (lv_at hl 3 rfl) ?_
  obtain ⟨hPc, hDc, hFc, hCc⟩ := va_pre (ws' := [((ax 0), .inr (8, [.ref (ax 1), .ref (ax 7), .ref (ax 10), .ref (ax 11), .ref (ax 13), .ref (ax 15), .ref (ax 16), .ref (ax 21), .ref (ax 26), .ref (ax 27), .ref (ax 28), .int xNow, .int xEr, .int xTr, .int xMo, .int xFa, .int xRe])), ((ax 7), .inr (0, [.ref (ax 8), .ref (ax 9), .int xMz])), ((ax 8), .inl (cA 0, 20, .inl gT)), ((ax 9), .inl (cA 0, 20, .inl gN))]) hP hD hS hA [0, 1, 2, 3] (by decide) rfl
  refine va_calli (va_runV (As := [.int a, .int b, .int kn]) (rest := [.ref (ax 0)]) ⟨hx, hb, hml, hown, hts⟩ (k_X8_addMerge l dC dI cA s.heap.size ax xNow xEr xTr xMo xFa xRe xMz gT gN a b kn i_xNow i_xTr i_xMo i_gT i_gN) (cwV 3 hts gX8_merge_X8_addMerge rfl rfl rfl (by decide +kernel) ⟨Nat.le_of_ble_eq_true rfl, Nat.le_of_ble_eq_true rfl⟩) ⟨fun a U g mk q => by obtain ⟨q0, q1, qP, qK, qD, qN⟩ := q; exact ⟨q0, q1, qP, va_K.moved (u := U) (U := U.calling g mk a) (Vm.Alike.refl U.vm) qK, qD, qN.same rfl⟩, va_recv hK hPc (ci := 8) (q0 := 0) rfl rfl, fun U hU hW => ⟨rfl, by rw [hU], by rw [hU]; exact hPc, va_K.moved hW.alike hK, hDc.weaken (fun _ _ _ _ => trivial), hN.warm hW⟩⟩ rfl rfl hl.1 rfl (lv_room (Nat.le_of_ble_eq_true rfl)) dX8_merge_5 ⟨Nat.le_of_ble_eq_true rfl, Nat.le_of_ble_eq_true rfl⟩) hS (fun q _ h => hFc q h) hFc (fun r_1 u_2 t H1 locs ht hvm hw_3 hB hz1 hk1 hS => ?_)
  obtain ⟨w_4, w_5, w_6⟩ := u_2
  try dsimp only at hw_3 hB
  obtain ⟨iv_7, iv_8, po_9⟩ := hw_3
  obtain ⟨hP1, hD1⟩ := hB
  rw [ht] at hP1
  obtain ⟨hP, hD⟩ := va_join (wr := []) (w1 := [((ax 0), .inr (8, [.ref (ax 1), .ref (ax 7), .ref (ax 10), .ref (ax 11), .ref (ax 13), .ref (ax 15), .ref (ax 16), .ref (ax 21), .ref (ax 26), .ref (ax 27), .ref (ax 28), .int xNow, .int xEr, .int xTr, .int xMo, .int xFa, .int xRe])), ((ax 7), .inr (0, [.ref (ax 8), .ref (ax 9), .int w_4])), ((ax 8), .inl (cA 0, 20, .inl w_5)), ((ax 9), .inl (cA 0, 20, .inl w_6))]) hP hD [0, 1, 2, 3] [] hCc rfl (by decide) (by decide) hk1 hFc hP1 hD1
  clear hz1
  generalize H1 = H at hP hS ⊢
  obtain ⟨hPc, hDc, hFc, hCc⟩ := va_pre (ws' := [((ax 0), .inr (8, [.ref (ax 1), .ref (ax 7), .ref (ax 10), .ref (ax 11), .ref (ax 13), .ref (ax 15), .ref (ax 16), .ref (ax 21), .ref (ax 26), .ref (ax 27), .ref (ax 28), .int xNow, .int xEr, .int xTr, .int xMo, .int xFa, .int xRe]))]) hP hD hS hA [0] (by decide) rfl
  refine va_calli (va_runV (As := [.int r_1]) (rest := []) ⟨hx, hb, hml, hown, hts⟩ (k_X8_settle l dC dI cA H.size ax xNow xEr xTr xMo xFa xRe r_1 i_xNow i_xTr i_xMo) (cwV 1 hts gX8_merge_X8_settle rfl rfl rfl (by decide +kernel) ⟨Nat.le_of_ble_eq_true rfl, Nat.le_of_ble_eq_true rfl⟩) ⟨fun a U g mk q => by obtain ⟨q0, q1, qP, qK, qD, qN⟩ := q; exact ⟨q0, q1, qP, va_K.moved (u := U) (U := U.calling g mk a) (Vm.Alike.refl U.vm) qK, qD, qN.same rfl⟩, va_recv hK hPc (ci := 8) (q0 := 0) rfl rfl, fun U hU hW => ⟨rfl, by rw [hU], by rw [hU]; exact hPc, va_K.moved hW.alike hK, hDc.weaken (fun _ _ _ _ => trivial), hN.warm hW⟩⟩ rfl rfl hl.1 rfl (lv_room (Nat.le_of_ble_eq_true rfl)) dX8_merge_8 ⟨Nat.le_of_ble_eq_true rfl, Nat.le_of_ble_eq_true rfl⟩) hS (fun q _ h => hFc q h) hFc (fun r_10 u_11 t H1 locs ht hvm hw_12 hB hz1 hk1 hS => ?_)
  obtain ⟨w_13, rfl⟩ : ∃ z, z = u_11 := ⟨_, rfl⟩
  try dsimp only at hw_12 hB
  have hr9 := hw_12
  clear hw_12
  obtain ⟨hP1, hD1⟩ := hB
  rw [ht] at hP1
  obtain ⟨hP, hD⟩ := va_join (wr := [((ax 7), .inr (0, [.ref (ax 8), .ref (ax 9), .int w_4])), ((ax 8), .inl (cA 0, 20, .inl w_5)), ((ax 9), .inl (cA 0, 20, .inl w_6))]) (w1 := [((ax 0), .inr (8, [.ref (ax 1), .ref (ax 7), .ref (ax 10), .ref (ax 11), .ref (ax 13), .ref (ax 15), .ref (ax 16), .ref (ax 21), .ref (ax 26), .ref (ax 27), .ref (ax 28), .int xNow, .int xEr, .int xTr, .int xMo, .int xFa, .int w_13]))]) hP hD [0] [1, 2, 3] hCc rfl (by decide) (by decide) hk1 hFc hP1 hD1
  clear hz1
  generalize H1 = H at hP hS ⊢
  obtain rfl : r_1 = r_10 := hr9.symm
  obtain ⟨hP9, hD9⟩ := va_pd (ws' := [((ax 0), .inr (8, [.ref (ax 1), .ref (ax 7), .ref (ax 10), .ref (ax 11), .ref (ax 13), .ref (ax 15), .ref (ax 16), .ref (ax 21), .ref (ax 26), .ref (ax 27), .ref (ax 28), .int xNow, .int xEr, .int xTr, .int xMo, .int xFa, .int w_13])), ((ax 7), .inr (0, [.ref (ax 8), .ref (ax 9), .int w_4])), ((ax 8), .inl (cA 0, 20, .inl w_5)), ((ax 9), .inl (cA 0, 20, .inl w_6))]) hP hD [3, 0, 1, 2] (by decide) rfl
  subst hQe
  have hans : (r_1 : Int32).toInt = r_1.toInt := rfl
  have hpost : (inB (-1) 19 20 w_5) ∧ (inB 0 100000 20 w_6) ∧ (mgRes gT gN xMz a b kn (r_1 : Int32) w_4 w_5 w_6) := ⟨iv_7, iv_8, po_9⟩
  exact W.iret (v := r_1) hx hb hr (fun t ht hW => ⟨⟨r_1, (w_13, w_4, w_5, w_6), rfl, hpost, by rw [ht]; exact hP9, hD9⟩, hS.F ht⟩) hS.2.2 dX8_merge_11

set_option maxHeartbeats 8000000 in
set_option maxRecDepth 100000 in
theorem k_X8_leads (l : Launch) (dC : Nat → ClassId) (dI : Nat → Nat → Nat) (cA : Nat → ClassId) (sz : Nat) (ax : Nat → Nat) (xNow : Int32) (xEr : Int32) (xTr : Int32) (xMo : Int32) (xFa : Int32) (xRe : Int32) (xMz : Int32) (gT : Nat → Int32) (gN : Nat → Int32) (a : Int32) (kn : Int32) (i_xNow : 0 ≤ xNow.toInt ∧ xNow.toInt ≤ 100000) (i_xTr : 0 ≤ xTr.toInt ∧ xTr.toInt ≤ 20) (i_xMo : 0 ≤ xMo.toInt ∧ xMo.toInt ≤ 10) (i_gT : inB (-1) 19 20 gT) (i_gN : inB 0 100000 20 gN)  : Met l yX8_leads wsX8_leads ({ frames := 2, cells := 0, slots := 0, locals := 45 }) (va_Pc [.ref (ax 0), .int a, .int kn] (fun U => U.heap.size = sz ∧ va_P (dC, dI) vwCl [((ax 0), .inr (8, [.ref (ax 1), .ref (ax 7), .ref (ax 10), .ref (ax 11), .ref (ax 13), .ref (ax 15), .ref (ax 16), .ref (ax 21), .ref (ax 26), .ref (ax 27), .ref (ax 28), .int xNow, .int xEr, .int xTr, .int xMo, .int xFa, .int xRe])), ((ax 7), .inr (0, [.ref (ax 8), .ref (ax 9), .int xMz])), ((ax 8), .inl (cA 0, 20, .inl gT)), ((ax 9), .inl (cA 0, 20, .inl gN))] U.heap ∧ va_K (dC, dI) vwCl (tyL cA) U ∧ va_D (fun _ => True) [((ax 0), .inr (8, [.ref (ax 1), .ref (ax 7), .ref (ax 10), .ref (ax 11), .ref (ax 13), .ref (ax 15), .ref (ax 16), .ref (ax 21), .ref (ax 26), .ref (ax 27), .ref (ax 28), .int xNow, .int xEr, .int xTr, .int xMo, .int xFa, .int xRe])), ((ax 7), .inr (0, [.ref (ax 8), .ref (ax 9), .int xMz])), ((ax 8), .inl (cA 0, 20, .inl gT)), ((ax 9), .inl (cA 0, 20, .inl gN))] ∧ nw_ok U)) (va_Qi (fun (r : Int32) (_ : Unit) => (ldRes gT gN a kn r)) (fun (_ : Unit) (t : State) => va_P (dC, dI) vwCl [((ax 0), .inr (8, [.ref (ax 1), .ref (ax 7), .ref (ax 10), .ref (ax 11), .ref (ax 13), .ref (ax 15), .ref (ax 16), .ref (ax 21), .ref (ax 26), .ref (ax 27), .ref (ax 28), .int xNow, .int xEr, .int xTr, .int xMo, .int xFa, .int xRe])), ((ax 7), .inr (0, [.ref (ax 8), .ref (ax 9), .int xMz])), ((ax 8), .inl (cA 0, 20, .inl gT)), ((ax 9), .inl (cA 0, 20, .inl gN))] t.heap ∧ va_D (va_A [((ax 0), .inr (8, [.ref (ax 1), .ref (ax 7), .ref (ax 10), .ref (ax 11), .ref (ax 13), .ref (ax 15), .ref (ax 16), .ref (ax 21), .ref (ax 26), .ref (ax 27), .ref (ax 28), .int xNow, .int xEr, .int xTr, .int xMo, .int xFa, .int xRe])), ((ax 7), .inr (0, [.ref (ax 8), .ref (ax 9), .int xMz])), ((ax 8), .inl (cA 0, 20, .inl gT)), ((ax 9), .inl (cA 0, 20, .inl gN))] sz) [((ax 0), .inr (8, [.ref (ax 1), .ref (ax 7), .ref (ax 10), .ref (ax 11), .ref (ax 13), .ref (ax 15), .ref (ax 16), .ref (ax 21), .ref (ax 26), .ref (ax 27), .ref (ax 28), .int xNow, .int xEr, .int xTr, .int xMo, .int xFa, .int xRe])), ((ax 7), .inr (0, [.ref (ax 8), .ref (ax 9), .int xMz])), ((ax 8), .inl (cA 0, 20, .inl gT)), ((ax 9), .inl (cA 0, 20, .inl gN))]) (va_A [((ax 0), .inr (8, [.ref (ax 1), .ref (ax 7), .ref (ax 10), .ref (ax 11), .ref (ax 13), .ref (ax 15), .ref (ax 16), .ref (ax 21), .ref (ax 26), .ref (ax 27), .ref (ax 28), .int xNow, .int xEr, .int xTr, .int xMo, .int xFa, .int xRe])), ((ax 7), .inr (0, [.ref (ax 8), .ref (ax 9), .int xMz])), ((ax 8), .inl (cA 0, 20, .inl gT)), ((ax 9), .inl (cA 0, 20, .inl gN))] sz)) 0 0 (va_A [((ax 0), .inr (8, [.ref (ax 1), .ref (ax 7), .ref (ax 10), .ref (ax 11), .ref (ax 13), .ref (ax 15), .ref (ax 16), .ref (ax 21), .ref (ax 26), .ref (ax 27), .ref (ax 28), .int xNow, .int xEr, .int xTr, .int xMo, .int xFa, .int xRe])), ((ax 7), .inr (0, [.ref (ax 8), .ref (ax 9), .int xMz])), ((ax 8), .inl (cA 0, 20, .inl gT)), ((ax 9), .inl (cA 0, 20, .inl gN))] sz) := by
  refine Met.ofW (cc := cX8_leads) (maxL := 3) (ret := (some .int)) (by decide) rfl ?_
  intro p e s m args below meth c s₁ B hml hv
  obtain ⟨rfl, hsz, hP, hK, hD0, hN⟩ := hv
  have hx := B.exec
  have hb := B.bytes
  have hr := B.returns
  have hts := atoms_spec (ws := wsX8_leads) B.pre
  have hown : s.vm.findClass RX8 = some m.cls := findClass_of_methodNamed B.named
  have hlocks := B.notSynchronized
  subst hsz
  have hD := hD0.self (sz := s.heap.size)
  generalize hAe : va_A [((ax 0), .inr (8, [.ref (ax 1), .ref (ax 7), .ref (ax 10), .ref (ax 11), .ref (ax 13), .ref (ax 15), .ref (ax 16), .ref (ax 21), .ref (ax 26), .ref (ax 27), .ref (ax 28), .int xNow, .int xEr, .int xTr, .int xMo, .int xFa, .int xRe])), ((ax 7), .inr (0, [.ref (ax 8), .ref (ax 9), .int xMz])), ((ax 8), .inl (cA 0, 20, .inl gT)), ((ax 9), .inl (cA 0, 20, .inl gN))] s.heap.size = A at hD ⊢
  have hA : ∀ q : Nat, s.heap.size ≤ q → A q := fun q h => by rw [← hAe]; exact Or.inr h
  have hS : va_S A s.heap s.heap [] := va_S.rf
  have hIX8 : ∀ w ∈ u_ws RX8 TX8 17, w ∈ wsX8_leads := by decide +kernel
  have hl := lv_entry ([.ref (ax 0), .int a, .int kn]) (n := 3) (Nat.le_of_ble_eq_true rfl)
  rw [lg_entry_eq]
  generalize (lg_sl ([.ref (ax 0), .int a, .int kn]) ++ List.replicate (3 - (lg_sl ([.ref (ax 0), .int a, .int kn])).length) Slot.unset).toArray = ls at hl ⊢
  have hl : lv_has ls 3 [(0, .ref (ax 0)), (1, .int a), (2, .int kn)] := hl
  generalize hQe : MQ below _ _ _ _ _ _ = QQ
  refine lv_iload_n hx hb dX8_leads_0 rfl (lv_at hl 1 rfl) ?_
  obtain ⟨hPc, hDc, hFc, hCc⟩ := va_pre (ws' := []) hP hD hS hA [] (by decide) rfl
  refine va_calli (va_runS (As := [.int a]) (rest := []) ⟨hx, hb, hml, hown, hts⟩ (k_X8_isPerson l dC dI cA s.heap.size a ) (va_cwS 1 hts gX8_leads_X8_isPerson rfl rfl rfl (by decide +kernel) ⟨Nat.le_of_ble_eq_true rfl, Nat.le_of_ble_eq_true rfl⟩) ⟨fun a U g mk q => by obtain ⟨q0, q1, qP, qK, qD, qN⟩ := q; exact ⟨q0, q1, qP, va_K.moved (u := U) (U := U.calling g mk a) (Vm.Alike.refl U.vm) qK, qD, qN.same rfl⟩, fun U hU hW => ⟨rfl, by rw [hU], by rw [hU]; exact hPc, va_K.moved hW.alike hK, hDc.weaken (fun _ _ _ _ => trivial), hN.warm hW⟩⟩ rfl rfl hl.1 rfl (lv_room (Nat.le_of_ble_eq_true rfl)) dX8_leads_1 ⟨Nat.le_of_ble_eq_true rfl, Nat.le_of_ble_eq_true rfl⟩) hS (fun q _ h => hFc q h) hFc (fun r_1 u_2 t H1 locs ht hvm hw_3 hB hz1 hk1 hS => ?_)
  try dsimp only at hw_3 hB
  have po_4 := hw_3
  clear hw_3
  obtain ⟨hP1, hD1⟩ := hB
  rw [ht] at hP1
  obtain ⟨hP, hD⟩ := va_join (wr := [((ax 0), .inr (8, [.ref (ax 1), .ref (ax 7), .ref (ax 10), .ref (ax 11), .ref (ax 13), .ref (ax 15), .ref (ax 16), .ref (ax 21), .ref (ax 26), .ref (ax 27), .ref (ax 28), .int xNow, .int xEr, .int xTr, .int xMo, .int xFa, .int xRe])), ((ax 7), .inr (0, [.ref (ax 8), .ref (ax 9), .int xMz])), ((ax 8), .inl (cA 0, 20, .inl gT)), ((ax 9), .inl (cA 0, 20, .inl gN))]) (w1 := []) hP hD [] [0, 1, 2, 3] hCc rfl (by decide) (by decide) hk1 hFc hP1 hD1
  clear hz1
  generalize H1 = H at hP hS ⊢
  refine lv_if_eq (tgt := 14) hx hb dX8_leads_4 (by decide) (fun c_5 => ?_) (fun c_5 => ?_)
  · have dc_5 : r_1.toInt = 0 := jI_eq c_5 rfl (by decide)
    refine lv_iconst (v := (-1)) hx hb dX8_leads_14 (by decide) ?_
    obtain ⟨hP9, hD9⟩ := va_pd (ws' := [((ax 0), .inr (8, [.ref (ax 1), .ref (ax 7), .ref (ax 10), .ref (ax 11), .ref (ax 13), .ref (ax 15), .ref (ax 16), .ref (ax 21), .ref (ax 26), .ref (ax 27), .ref (ax 28), .int xNow, .int xEr, .int xTr, .int xMo, .int xFa, .int xRe])), ((ax 7), .inr (0, [.ref (ax 8), .ref (ax 9), .int xMz])), ((ax 8), .inl (cA 0, 20, .inl gT)), ((ax 9), .inl (cA 0, 20, .inl gN))]) hP hD [0, 1, 2, 3] (by decide) rfl
    subst hQe
    have hans : ((-1) : Int32).toInt = (-1) := (by decide)
    have hpost : (ldRes gT gN a kn ((-1) : Int32)) := ⟨fun h => by exfalso; omega, fun _ => by omega⟩
    exact W.iret (v := (-1)) hx hb hr (fun t ht hW => ⟨⟨(-1), (), rfl, hpost, by rw [ht]; exact hP9, hD9⟩, hS.F ht⟩) hS.2.2 dX8_leads_15
  · have dc_5 : ¬ r_1.toInt = 0 := jI_ne c_5 rfl (by decide)
    refine lv_iload_n hx hb dX8_leads_7 rfl (lv_at hl 2 rfl) ?_
    obtain ⟨hPc, hDc, hFc, hCc⟩ := va_pre (ws' := []) hP hD hS hA [] (by decide) rfl
    refine va_calli (va_runS (As := [.int kn]) (rest := []) ⟨hx, hb, hml, hown, hts⟩ (k_X8_isMoment l dC dI cA H.size kn ) (va_cwS 1 hts gX8_leads_X8_isMoment rfl rfl rfl (by decide +kernel) ⟨Nat.le_of_ble_eq_true rfl, Nat.le_of_ble_eq_true rfl⟩) ⟨fun a U g mk q => by obtain ⟨q0, q1, qP, qK, qD, qN⟩ := q; exact ⟨q0, q1, qP, va_K.moved (u := U) (U := U.calling g mk a) (Vm.Alike.refl U.vm) qK, qD, qN.same rfl⟩, fun U hU hW => ⟨rfl, by rw [hU], by rw [hU]; exact hPc, va_K.moved hW.alike hK, hDc.weaken (fun _ _ _ _ => trivial), hN.warm hW⟩⟩ rfl rfl hl.1 rfl (lv_room (Nat.le_of_ble_eq_true rfl)) dX8_leads_8 ⟨Nat.le_of_ble_eq_true rfl, Nat.le_of_ble_eq_true rfl⟩) hS (fun q _ h => hFc q h) hFc (fun r_6 u_7 t H1 locs ht hvm hw_8 hB hz1 hk1 hS => ?_)
    try dsimp only at hw_8 hB
    have po_9 := hw_8
    clear hw_8
    obtain ⟨hP1, hD1⟩ := hB
    rw [ht] at hP1
    obtain ⟨hP, hD⟩ := va_join (wr := [((ax 0), .inr (8, [.ref (ax 1), .ref (ax 7), .ref (ax 10), .ref (ax 11), .ref (ax 13), .ref (ax 15), .ref (ax 16), .ref (ax 21), .ref (ax 26), .ref (ax 27), .ref (ax 28), .int xNow, .int xEr, .int xTr, .int xMo, .int xFa, .int xRe])), ((ax 7), .inr (0, [.ref (ax 8), .ref (ax 9), .int xMz])), ((ax 8), .inl (cA 0, 20, .inl gT)), ((ax 9), .inl (cA 0, 20, .inl gN))]) (w1 := []) hP hD [] [0, 1, 2, 3] hCc rfl (by decide) (by decide) hk1 hFc hP1 hD1
    clear hz1
    generalize H1 = H at hP hS ⊢
    refine lv_if_ne (tgt := 16) hx hb dX8_leads_11 (by decide) (fun c_10 => ?_) (fun c_10 => ?_)
    · have dc_10 : ¬ r_6.toInt = 0 := jI_ne c_10 rfl (by decide)
      refine lv_aload_n hx hb dX8_leads_16 rfl (lv_at hl 0 rfl) ?_
      refine va_get (D := (dC, dI)) (ci := 8) (v := .ref (ax 7)) (C := RX8) (T := TX8) (N := 17) hx hb hts hIX8 hown hK hP 0 rfl rfl 1 (by decide) (hts (.fieldLink RX8 19 "TraitHouse" "merges" "LTraitHouse$Merges;") (by decide +kernel)) (fun _ h9 => h9) rfl dX8_leads_17 ?_
      refine lv_iload_n hx hb dX8_leads_20 rfl (lv_at hl 1 rfl) ?_
      refine lv_iload_n hx hb dX8_leads_21 rfl (lv_at hl 2 rfl) ?_
      obtain ⟨hPc, hDc, hFc, hCc⟩ := va_pre (ws' := [((ax 7), .inr (0, [.ref (ax 8), .ref (ax 9), .int xMz])), ((ax 8), .inl (cA 0, 20, .inl gT)), ((ax 9), .inl (cA 0, 20, .inl gN))]) hP hD hS hA [1, 2, 3] (by decide) rfl
      refine va_calli (va_runVN (As := [.int a, .int kn]) (rest := []) ⟨hx, hb, hml, hown, hts⟩ (k_X0_lastOf l dC dI cA H.size ax xMz gT gN a kn i_gT i_gN (by omega)) ⟨(va_cnB 2 hts gX8_leads_X0_lastOf_n118 rfl rfl rfl (nw_at hN 39 rfl) (hts (.initialized RX0) (by decide +kernel)) (by decide +kernel) ⟨Nat.le_of_ble_eq_true rfl, Nat.le_of_ble_eq_true rfl⟩), (hts (.instanceMethod yX0_lastOf) (by decide +kernel)), (hts (.selects RX0 yX0_lastOf yX0_lastOf) (by decide +kernel))⟩ ⟨fun a U g mk q => by obtain ⟨q0, q1, qP, qK, qD, qN⟩ := q; exact ⟨q0, q1, qP, va_K.moved (u := U) (U := U.calling g mk a) (Vm.Alike.refl U.vm) qK, qD, qN.same rfl⟩, va_recv hK hPc (ci := 0) (q0 := 0) rfl rfl, fun U hU hW => ⟨rfl, by rw [hU], by rw [hU]; exact hPc, va_K.moved hW.alike hK, hDc.weaken (fun _ _ _ _ => trivial), hN.warm hW⟩⟩ rfl rfl hl.1 rfl (lv_room (Nat.le_of_ble_eq_true rfl)) dX8_leads_22 ⟨Nat.le_of_ble_eq_true rfl, Nat.le_of_ble_eq_true rfl⟩) hS (fun q _ h => hFc q h) hFc (fun r_11 u_12 t H1 locs ht hvm hw_13 hB hz1 hk1 hS => ?_)
      try dsimp only at hw_13 hB
      have po_14 := hw_13
      clear hw_13
      obtain ⟨hP1, hD1⟩ := hB
      rw [ht] at hP1
      obtain ⟨hP, hD⟩ := va_join (wr := [((ax 0), .inr (8, [.ref (ax 1), .ref (ax 7), .ref (ax 10), .ref (ax 11), .ref (ax 13), .ref (ax 15), .ref (ax 16), .ref (ax 21), .ref (ax 26), .ref (ax 27), .ref (ax 28), .int xNow, .int xEr, .int xTr, .int xMo, .int xFa, .int xRe]))]) (w1 := [((ax 7), .inr (0, [.ref (ax 8), .ref (ax 9), .int xMz])), ((ax 8), .inl (cA 0, 20, .inl gT)), ((ax 9), .inl (cA 0, 20, .inl gN))]) hP hD [1, 2, 3] [0] hCc rfl (by decide) (by decide) hk1 hFc hP1 hD1
      clear hz1
      generalize H1 = H at hP hS ⊢
      obtain ⟨hP9, hD9⟩ := va_pd (ws' := [((ax 0), .inr (8, [.ref (ax 1), .ref (ax 7), .ref (ax 10), .ref (ax 11), .ref (ax 13), .ref (ax 15), .ref (ax 16), .ref (ax 21), .ref (ax 26), .ref (ax 27), .ref (ax 28), .int xNow, .int xEr, .int xTr, .int xMo, .int xFa, .int xRe])), ((ax 7), .inr (0, [.ref (ax 8), .ref (ax 9), .int xMz])), ((ax 8), .inl (cA 0, 20, .inl gT)), ((ax 9), .inl (cA 0, 20, .inl gN))]) hP hD [0, 1, 2, 3] (by decide) rfl
      subst hQe
      have hans : (r_11 : Int32).toInt = r_11.toInt := rfl
      have hpost : (ldRes gT gN a kn (r_11 : Int32)) := ⟨fun _ => po_14.2.2, fun h => by exfalso; omega⟩
      exact W.iret (v := r_11) hx hb hr (fun t ht hW => ⟨⟨r_11, (), rfl, hpost, by rw [ht]; exact hP9, hD9⟩, hS.F ht⟩) hS.2.2 dX8_leads_25
    · have dc_10 : r_6.toInt = 0 := jI_eq c_10 rfl (by decide)
      refine lv_iconst (v := (-1)) hx hb dX8_leads_14 (by decide) ?_
      obtain ⟨hP9, hD9⟩ := va_pd (ws' := [((ax 0), .inr (8, [.ref (ax 1), .ref (ax 7), .ref (ax 10), .ref (ax 11), .ref (ax 13), .ref (ax 15), .ref (ax 16), .ref (ax 21), .ref (ax 26), .ref (ax 27), .ref (ax 28), .int xNow, .int xEr, .int xTr, .int xMo, .int xFa, .int xRe])), ((ax 7), .inr (0, [.ref (ax 8), .ref (ax 9), .int xMz])), ((ax 8), .inl (cA 0, 20, .inl gT)), ((ax 9), .inl (cA 0, 20, .inl gN))]) hP hD [0, 1, 2, 3] (by decide) rfl
      subst hQe
      have hans : ((-1) : Int32).toInt = (-1) := (by decide)
      have hpost : (ldRes gT gN a kn ((-1) : Int32)) := ⟨fun h => by exfalso; omega, fun _ => by omega⟩
      exact W.iret (v := (-1)) hx hb hr (fun t ht hW => ⟨⟨(-1), (), rfl, hpost, by rw [ht]; exact hP9, hD9⟩, hS.F ht⟩) hS.2.2 dX8_leads_15
