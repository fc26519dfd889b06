theorem dX0_isTold_0 : decode cX0_isTold 0 = .ok (.aload_n 0, 1) := by decide +kernel
theorem dX0_isTold_1 : decode cX0_isTold 1 = .ok (.getfield 9, 3) := by decide +kernel
theorem dX0_isTold_4 : decode cX0_isTold 4 = .ok (.iload_n 1, 1) := by decide +kernel
theorem dX0_isTold_5 : decode cX0_isTold 5 = .ok (.iaload, 1) := by decide +kernel
theorem dX0_isTold_6 : decode cX0_isTold 6 = .ok (.iconst (-1), 1) := by decide +kernel
theorem dX0_isTold_7 : decode cX0_isTold 7 = .ok (.if_icmp .eq 7, 3) := by decide +kernel
theorem dX0_isTold_14 : decode cX0_isTold 14 = .ok (.iconst 0, 1) := by decide +kernel
theorem dX0_isTold_15 : decode cX0_isTold 15 = .ok (.ireturn, 1) := by decide +kernel
theorem dX0_lastOf_0 : decode cX0_lastOf 0 = .ok (.iload_n 1, 1) := by decide +kernel
theorem dX0_lastOf_1 : decode cX0_lastOf 1 = .ok (.istore_n 3, 1) := by decide +kernel
theorem dX0_lastOf_2 : decode cX0_lastOf 2 = .ok (.iconst 0, 1) := by decide +kernel
theorem dX0_lastOf_3 : decode cX0_lastOf 3 = .ok (.istore 4, 2) := by decide +kernel
theorem dX0_lastOf_5 : decode cX0_lastOf 5 = .ok (.iload 4, 2) := by decide +kernel
theorem dX0_lastOf_7 : decode cX0_lastOf 7 = .ok (.bipush 20, 2) := by decide +kernel
theorem dX0_lastOf_9 : decode cX0_lastOf 9 = .ok (.if_icmp .ge 34, 3) := by decide +kernel
theorem dX0_lastOf_12 : decode cX0_lastOf 12 = .ok (.aload_n 0, 1) := by decide +kernel
theorem dX0_lastOf_13 : decode cX0_lastOf 13 = .ok (.iload_n 3, 1) := by decide +kernel
set_option maxRecDepth 20000 in
theorem ggX0_lastOf_X0_isTold : GoodIn wsX0_lastOf wsX0_isTold := goodIn_r _ [7, 2, 8, 9, 10] (by decide +kernel) (by decide +kernel)
set_option maxRecDepth 20000 in
theorem gX0_lastOf_X0_isTold : GoodIn wsX0_lastOf (wsV RX0 28 RX0 yX0_isTold wsX0_isTold) := goodIn_app (goodIn_of _ (by decide +kernel)) ggX0_lastOf_X0_isTold
theorem dX0_lastOf_14 : decode cX0_lastOf 14 = .ok (.invokevirtual 28, 3) := by decide +kernel
theorem dX0_lastOf_17 : decode cX0_lastOf 17 = .ok (.ifCond .eq 26, 3) := by decide +kernel
theorem dX0_lastOf_43 : decode cX0_lastOf 43 = .ok (.iload_n 3, 1) := by decide +kernel
theorem dX0_lastOf_44 : decode cX0_lastOf 44 = .ok (.ireturn, 1) := by decide +kernel
theorem dX0_add_0 : decode cX0_add 0 = .ok (.aload_n 0, 1) := by decide +kernel
theorem dX0_add_1 : decode cX0_add 1 = .ok (.getfield 9, 3) := by decide +kernel
theorem dX0_add_4 : decode cX0_add 4 = .ok (.iload_n 1, 1) := by decide +kernel
theorem dX0_add_5 : decode cX0_add 5 = .ok (.iload_n 2, 1) := by decide +kernel
theorem dX0_add_6 : decode cX0_add 6 = .ok (.iastore, 1) := by decide +kernel
theorem dX0_add_7 : decode cX0_add 7 = .ok (.aload_n 0, 1) := by decide +kernel
theorem dX0_add_8 : decode cX0_add 8 = .ok (.getfield 15, 3) := by decide +kernel
theorem dX0_add_11 : decode cX0_add 11 = .ok (.iload_n 1, 1) := by decide +kernel
theorem dX0_add_12 : decode cX0_add 12 = .ok (.iload_n 3, 1) := by decide +kernel
theorem dX0_add_13 : decode cX0_add 13 = .ok (.iastore, 1) := by decide +kernel
theorem dX0_add_14 : decode cX0_add 14 = .ok (.aload_n 0, 1) := by decide +kernel
theorem dX0_add_15 : decode cX0_add 15 = .ok (.dup, 1) := by decide +kernel
theorem dX0_add_16 : decode cX0_add 16 = .ok (.getfield 24, 3) := by decide +kernel
theorem dX0_add_19 : decode cX0_add 19 = .ok (.iconst 1, 1) := by decide +kernel
theorem dX0_add_20 : decode cX0_add 20 = .ok (.iadd, 1) := by decide +kernel
theorem dX0_add_21 : decode cX0_add 21 = .ok (.putfield 24, 3) := by decide +kernel
theorem dX0_add_24 : decode cX0_add 24 = .ok (.aload_n 0, 1) := by decide +kernel
theorem dX0_add_25 : decode cX0_add 25 = .ok (.getfield 24, 3) := by decide +kernel
theorem dX0_add_28 : decode cX0_add 28 = .ok (.ireturn, 1) := by decide +kernel
theorem dX8_addMerge_0 : decode cX8_addMerge 0 = .ok (.iload_n 3, 1) := by decide +kernel
set_option maxRecDepth 20000 in
theorem ggX8_addMerge_X8_isMoment : GoodIn wsX8_addMerge wsX8_isMoment := goodIn_r _ [6, 2] (by decide +kernel) (by decide +kernel)
set_option maxRecDepth 20000 in
theorem gX8_addMerge_X8_isMoment : GoodIn wsX8_addMerge (va_wsS RX8 79 yX8_isMoment wsX8_isMoment) := goodIn_app (goodIn_of _ (by decide +kernel)) ggX8_addMerge_X8_isMoment
theorem dX8_addMerge_1 : decode cX8_addMerge 1 = .ok (.invokestatic 79, 3) := by decide +kernel
theorem dX8_addMerge_4 : decode cX8_addMerge 4 = .ok (.ifCond .ne 5, 3) := by decide +kernel
theorem dX8_addMerge_9 : decode cX8_addMerge 9 = .ok (.iload_n 1, 1) := by decide +kernel
set_option maxRecDepth 20000 in
theorem ggX8_addMerge_X8_isPerson : GoodIn wsX8_addMerge wsX8_isPerson := goodIn_r _ [9] (by decide +kernel) (by decide +kernel)
set_option maxRecDepth 20000 in
theorem gX8_addMerge_X8_isPerson : GoodIn wsX8_addMerge (va_wsS RX8 100 yX8_isPerson wsX8_isPerson) := goodIn_app (goodIn_of _ (by decide +kernel)) ggX8_addMerge_X8_isPerson
theorem dX8_addMerge_10 : decode cX8_addMerge 10 = .ok (.invokestatic 100, 3) := by decide +kernel
theorem dX8_addMerge_13 : decode cX8_addMerge 13 = .ok (.ifCond .eq 10, 3) := by decide +kernel
theorem dX8_addMerge_23 : decode cX8_addMerge 23 = .ok (.bipush (-2), 2) := by decide +kernel
theorem dX8_addMerge_25 : decode cX8_addMerge 25 = .ok (.ireturn, 1) := by decide +kernel
theorem dX8_addMerge_16 : decode cX8_addMerge 16 = .ok (.iload_n 2, 1) := by decide +kernel
theorem dX8_addMerge_17 : decode cX8_addMerge 17 = .ok (.invokestatic 100, 3) := by decide +kernel
theorem dX8_addMerge_20 : decode cX8_addMerge 20 = .ok (.ifCond .ne 6, 3) := by decide +kernel
theorem dX8_addMerge_26 : decode cX8_addMerge 26 = .ok (.aload_n 0, 1) := by decide +kernel
theorem dX8_addMerge_27 : decode cX8_addMerge 27 = .ok (.getfield 19, 3) := by decide +kernel
theorem dX8_addMerge_30 : decode cX8_addMerge 30 = .ok (.iload_n 1, 1) := by decide +kernel
set_option maxRecDepth 20000 in
theorem ggX8_addMerge_X0_isTold : GoodIn wsX8_addMerge wsX0_isTold := goodIn_r _ [13, 14, 41, 42, 43] (by decide +kernel) (by decide +kernel)
set_option maxRecDepth 20000 in
theorem gX8_addMerge_X0_isTold_n114 : GoodIn wsX8_addMerge (wsX0_isTold) := ggX8_addMerge_X0_isTold
theorem dX8_addMerge_31 : decode cX8_addMerge 31 = .ok (.invokevirtual 114, 3) := by decide +kernel
theorem dX8_addMerge_34 : decode cX8_addMerge 34 = .ok (.ifCond .ne 17, 3) := by decide +kernel
theorem dX8_addMerge_37 : decode cX8_addMerge 37 = .ok (.aload_n 0, 1) := by decide +kernel
theorem dX8_addMerge_38 : decode cX8_addMerge 38 = .ok (.getfield 19, 3) := by decide +kernel
theorem dX8_addMerge_41 : decode cX8_addMerge 41 = .ok (.iload_n 2, 1) := by decide +kernel
theorem dX8_addMerge_42 : decode cX8_addMerge 42 = .ok (.ldc 117, 2) := by decide +kernel
set_option maxRecDepth 20000 in
theorem ggX8_addMerge_X0_lastOf : GoodIn wsX8_addMerge wsX0_lastOf := goodIn_r _ [17, 18, 14, 19, 10, 12, 11, 13, 41, 42, 43] (by decide +kernel) (by decide +kernel)
set_option maxRecDepth 20000 in
theorem gX8_addMerge_X0_lastOf_n118 : GoodIn wsX8_addMerge (wsX0_lastOf) := ggX8_addMerge_X0_lastOf
theorem dX8_addMerge_44 : decode cX8_addMerge 44 = .ok (.invokevirtual 118, 3) := by decide +kernel
theorem dX8_addMerge_47 : decode cX8_addMerge 47 = .ok (.iload_n 1, 1) := by decide +kernel
theorem dX8_addMerge_48 : decode cX8_addMerge 48 = .ok (.if_icmp .ne 6, 3) := by decide +kernel
theorem dX8_addMerge_54 : decode cX8_addMerge 54 = .ok (.aload_n 0, 1) := by decide +kernel
theorem dX8_addMerge_55 : decode cX8_addMerge 55 = .ok (.getfield 19, 3) := by decide +kernel
theorem dX8_addMerge_58 : decode cX8_addMerge 58 = .ok (.iload_n 1, 1) := by decide +kernel
theorem dX8_addMerge_59 : decode cX8_addMerge 59 = .ok (.iload_n 2, 1) := by decide +kernel
theorem dX8_addMerge_60 : decode cX8_addMerge 60 = .ok (.iload_n 3, 1) := by decide +kernel
set_option maxRecDepth 20000 in
theorem ggX8_addMerge_X0_add : GoodIn wsX8_addMerge wsX0_add := goodIn_r _ [22, 14, 18, 23, 41, 42, 43] (by decide +kernel) (by decide +kernel)
set_option maxRecDepth 20000 in
theorem gX8_addMerge_X0_add_n122 : GoodIn wsX8_addMerge (wsX0_add) := ggX8_addMerge_X0_add
theorem dX8_addMerge_61 : decode cX8_addMerge 61 = .ok (.invokevirtual 122, 3) := by decide +kernel
theorem dX8_addMerge_64 : decode cX8_addMerge 64 = .ok (.ireturn, 1) := by decide +kernel
theorem dX8_addMerge_51 : decode cX8_addMerge 51 = .ok (.bipush (-4), 2) := by decide +kernel
theorem dX8_addMerge_53 : decode cX8_addMerge 53 = .ok (.ireturn, 1) := by decide +kernel
theorem dX8_addMerge_7 : decode cX8_addMerge 7 = .ok (.iconst (-1), 1) := by decide +kernel
theorem dX8_addMerge_8 : decode cX8_addMerge 8 = .ok (.ireturn, 1) := by decide +kernel
theorem dX8_merge_0 : decode cX8_merge 0 = .ok (.aload_n 0, 1) := by decide +kernel
theorem dX8_merge_1 : decode cX8_merge 1 = .ok (.aload_n 0, 1) := by decide +kernel
theorem dX8_merge_2 : decode cX8_merge 2 = .ok (.iload_n 1, 1) := by decide +kernel
theorem dX8_merge_3 : decode cX8_merge 3 = .ok (.iload_n 2, 1) := by decide +kernel
theorem dX8_merge_4 : decode cX8_merge 4 = .ok (.iload_n 3, 1) := by decide +kernel
set_option maxRecDepth 20000 in
theorem ggX8_merge_X8_addMerge : GoodIn wsX8_merge wsX8_addMerge := goodIn_r _ [5, 6, 7, 8, 9, 4, 10, 11, 12, 13, 14, 15, 16, 17, 18, 19, 20, 21, 22, 23, 24, 25, 26, 27, 37, 38, 39, 40, 41, 42, 43, 44, 45, 46, 47, 48, 49, 50, 51, 52, 53, 54, 55, 56] (by decide +kernel) (by decide +kernel)
set_option maxRecDepth 20000 in
theorem gX8_merge_X8_addMerge : GoodIn wsX8_merge (wsV RX8 110 RX8 yX8_addMerge wsX8_addMerge) := goodIn_app (goodIn_of _ (by decide +kernel)) ggX8_merge_X8_addMerge
theorem dX8_merge_5 : decode cX8_merge 5 = .ok (.invokevirtual 110, 3) := by decide +kernel
set_option maxRecDepth 20000 in
theorem ggX8_merge_X8_settle : GoodIn wsX8_merge wsX8_settle := goodIn_r _ [31, 32, 33, 34, 35, 36, 37, 38, 39, 40, 41, 42, 43, 44, 45, 46, 47, 48, 49, 50, 51, 52, 53] (by decide +kernel) (by decide +kernel)
set_option maxRecDepth 20000 in
theorem gX8_merge_X8_settle : GoodIn wsX8_merge (wsV RX8 86 RX8 yX8_settle wsX8_settle) := goodIn_app (goodIn_of _ (by decide +kernel)) ggX8_merge_X8_settle
theorem dX8_merge_8 : decode cX8_merge 8 = .ok (.invokevirtual 86, 3) := by decide +kernel
theorem dX8_merge_11 : decode cX8_merge 11 = .ok (.ireturn, 1) := by decide +kernel
theorem dX8_leads_0 : decode cX8_leads 0 = .ok (.iload_n 1, 1) := by decide +kernel
set_option maxRecDepth 20000 in
theorem ggX8_leads_X8_isPerson : GoodIn wsX8_leads wsX8_isPerson := goodIn_r _ [5] (by decide +kernel) (by decide +kernel)
set_option maxRecDepth 20000 in
theorem gX8_leads_X8_isPerson : GoodIn wsX8_leads (va_wsS RX8 100 yX8_isPerson wsX8_isPerson) := goodIn_app (goodIn_of _ (by decide +kernel)) ggX8_leads_X8_isPerson
theorem dX8_leads_1 : decode cX8_leads 1 = .ok (.invokestatic 100, 3) := by decide +kernel
theorem dX8_leads_4 : decode cX8_leads 4 = .ok (.ifCond .eq 10, 3) := by decide +kernel
theorem dX8_leads_14 : decode cX8_leads 14 = .ok (.iconst (-1), 1) := by decide +kernel
theorem dX8_leads_15 : decode cX8_leads 15 = .ok (.ireturn, 1) := by decide +kernel
theorem dX8_leads_7 : decode cX8_leads 7 = .ok (.iload_n 2, 1) := by decide +kernel
set_option maxRecDepth 20000 in
theorem ggX8_leads_X8_isMoment : GoodIn wsX8_leads wsX8_isMoment := goodIn_r _ [8, 9] (by decide +kernel) (by decide +kernel)
set_option maxRecDepth 20000 in
theorem gX8_leads_X8_isMoment : GoodIn wsX8_leads (va_wsS RX8 79 yX8_isMoment wsX8_isMoment) := goodIn_app (goodIn_of _ (by decide +kernel)) ggX8_leads_X8_isMoment
theorem dX8_leads_8 : decode cX8_leads 8 = .ok (.invokestatic 79, 3) := by decide +kernel
theorem dX8_leads_11 : decode cX8_leads 11 = .ok (.ifCond .ne 5, 3) := by decide +kernel
theorem dX8_leads_16 : decode cX8_leads 16 = .ok (.aload_n 0, 1) := by decide +kernel
theorem dX8_leads_17 : decode cX8_leads 17 = .ok (.getfield 19, 3) := by decide +kernel
theorem dX8_leads_20 : decode cX8_leads 20 = .ok (.iload_n 1, 1) := by decide +kernel
theorem dX8_leads_21 : decode cX8_leads 21 = .ok (.iload_n 2, 1) := by decide +kernel
set_option maxRecDepth 20000 in
theorem ggX8_leads_X0_lastOf : GoodIn wsX8_leads wsX0_lastOf := goodIn_r _ [13, 14, 15, 16, 17, 18, 11, 19, 37, 38, 39] (by decide +kernel) (by decide +kernel)
set_option maxRecDepth 20000 in
theorem gX8_leads_X0_lastOf_n118 : GoodIn wsX8_leads (wsX0_lastOf) := ggX8_leads_X0_lastOf
theorem dX8_leads_22 : decode cX8_leads 22 = .ok (.invokevirtual 118, 3) := by decide +kernel
theorem dX8_leads_25 : decode cX8_leads 25 = .ok (.ireturn, 1) := by decide +kernel
set_option maxHeartbeats 4000000 in
set_option maxRecDepth 100000 in
theorem c_X0_isTold (l : Launch) (dC : Nat → ClassId) (dI : Nat → Nat → Nat) (sz : Nat) (hMer : Nat) (aT : Nat) (aN : Nat) (cT : ClassId) (fT : Nat → Int32) (a : Int32) (hT : ∀ k : Nat, k < 20 → fT k = (-1)) (ha0 : 0 ≤ a.toInt) (ha1 : a.toInt ≤ 19) : Met l yX0_isTold wsX0_isTold ({ frames := 0, cells := 0, slots := 0, locals := 0 }) (va_Pc [.ref hMer, .int a] (fun U => U.heap.size = sz ∧ va_P (dC, dI) vwCl [(hMer, .inr (0, [.ref aT, .ref aN, .int 0])), (aT, .inl (cT, 20, .inl fT))] U.heap ∧ va_K (dC, dI) vwCl [(cT, .int)] U ∧ va_D (fun _ => True) [(hMer, .inr (0, [.ref aT, .ref aN, .int 0])), (aT, .inl (cT, 20, .inl fT))] ∧ nw_ok U)) (va_Qi (fun (r : Int32) (_ : Unit) => r = 0) (fun (_ : Unit) (t : State) => va_P (dC, dI) vwCl [(hMer, .inr (0, [.ref aT, .ref aN, .int 0])), (aT, .inl (cT, 20, .inl fT))] t.heap ∧ va_K (dC, dI) vwCl [(cT, .int)] t ∧ va_D (va_A [(hMer, .inr (0, [.ref aT, .ref aN, .int 0])), (aT, .inl (cT, 20, .inl fT))] sz) [(hMer, .inr (0, [.ref aT, .ref aN, .int 0])), (aT, .inl (cT, 20, .inl fT))]) (va_A [(hMer, .inr (0, [.ref aT, .ref aN, .int 0])), (aT, .inl (cT, 20, .inl fT))] sz)) 0 0 (va_A [(hMer, .inr (0, [.ref aT, .ref aN, .int 0])), (aT, .inl (cT, 20, .inl fT))] sz) := by
  refine Met.ofW (cc := cX0_isTold) (maxL := 2) (ret := (some .boolean)) (by decide) rfl ?_
  intro p e s m args below meth c s₁ B hml hv
  obtain ⟨rfl, hsz, hP, hK, hD0, hN⟩ := hv
  have hx := B.exec
  have hb := B.bytes
  have hr := B.returns
  have hts := atoms_spec (ws := wsX0_isTold) B.pre
  have hown : s.vm.findClass RX0 = some m.cls := findClass_of_methodNamed B.named
  have hlocks := B.notSynchronized
  subst hsz
  have hD := hD0.self (sz := s.heap.size)
  generalize hAe : va_A [(hMer, .inr (0, [.ref aT, .ref aN, .int 0])), (aT, .inl (cT, 20, .inl fT))] s.heap.size = A at hD ⊢
  have hA : ∀ q : Nat, s.heap.size ≤ q → A q := fun q h => by rw [← hAe]; exact Or.inr h
  have hS : va_S A s.heap s.heap [] := va_S.rf
  have hP : va_P (dC, dI) vwCl [(hMer, .inr (0, [.ref aT, .ref aN, .int 0])), (aT, .inl (cT, 20, .inl fT))] s.heap := hP
  have hIX0 : ∀ w ∈ u_ws RX0 TX0 3, w ∈ wsX0_isTold := by decide +kernel
  have hl := lv_entry ([.ref hMer, .int a]) (n := 2) (Nat.le_of_ble_eq_true rfl)
  rw [lg_entry_eq]
  generalize (lg_sl ([.ref hMer, .int a]) ++ List.replicate (2 - (lg_sl ([.ref hMer, .int a])).length) Slot.unset).toArray = ls at hl ⊢
  have hl : lv_has ls 2 [(0, .ref hMer), (1, .int a)] := hl
  refine lv_aload_n hx hb dX0_isTold_0 rfl (lv_at hl 0 rfl) ?_
  refine va_get (D := (dC, dI)) (ci := 0) (v := .ref aT) (C := RX0) (T := TX0) (N := 3) hx hb hts hIX0 hown hK hP 0 rfl rfl 0 (by decide) (hts (.fieldLink RX0 9 "TraitHouse$Merges" "targets" "[I") (by decide +kernel)) (fun _ h9 => h9) rfl dX0_isTold_1 ?_
  refine lv_iload_n hx hb dX0_isTold_4 rfl (lv_at hl 1 rfl) ?_
  have h_1 : vp_in a 20 := (vp_in_iff.mpr ⟨by omega, by omega⟩)
  refine va_iald hx hb hK hP 1 0 rfl rfl h_1 dX0_isTold_5 ?_
  refine lv_topi (fun x_2 ex_2 => ?_)
  obtain rfl : x_2 = (-1) := ex_2.trans (hT _ (jix h_1))
  refine lv_iconst (v := (-1)) hx hb dX0_isTold_6 (by decide) ?_
  refine lv_icmp_eq (tgt := 14) hx hb dX0_isTold_7 (by decide) (fun c_3 => ?_) (fun c_3 => absurd (by decide) c_3)
  refine lv_iconst (v := 0) hx hb dX0_isTold_14 (by decide) ?_
  have hP9 := hP.sub (ws' := [(hMer, .inr (0, [.ref aT, .ref aN, .int 0])), (aT, .inl (cT, 20, .inl fT))]) [0, 1] rfl
  have hD9 := hD.sub (ws' := [(hMer, .inr (0, [.ref aT, .ref aN, .int 0])), (aT, .inl (cT, 20, .inl fT))]) [0, 1] (by decide) rfl
  have hK9 := hK.sub (tys' := [(cT, .int)]) [0] rfl
  exact W.zret (v := 0) hx hb hr (by decide) (fun t ht hW => ⟨⟨0, (), rfl, rfl, by rw [ht]; exact hP9, va_K.moved hW.alike hK9, hD9⟩, hS.F ht⟩) hS.2.2 dX0_isTold_15

set_option maxHeartbeats 4000000 in
set_option maxRecDepth 100000 in
theorem c_X0_lastOf (l : Launch) (dC : Nat → ClassId) (dI : Nat → Nat → Nat) (sz : Nat) (hMer : Nat) (aT : Nat) (aN : Nat) (cT : ClassId) (cN : ClassId) (fT : Nat → Int32) (a : Int32) (kn : Int32) (hT : ∀ k : Nat, k < 20 → fT k = (-1)) (ha0 : 0 ≤ a.toInt) (ha1 : a.toInt ≤ 19) : Met l yX0_lastOf wsX0_lastOf ({ frames := 1, cells := 0, slots := 0, locals := 21 }) (va_Pc [.ref hMer, .int a, .int kn] (fun U => U.heap.size = sz ∧ va_P (dC, dI) vwCl [(hMer, .inr (0, [.ref aT, .ref aN, .int 0])), (aT, .inl (cT, 20, .inl fT)), (aN, .inl (cN, 20, .inl (fun _ => 0)))] U.heap ∧ va_K (dC, dI) vwCl [(cT, .int), (cN, .int)] U ∧ va_D (fun _ => True) [(hMer, .inr (0, [.ref aT, .ref aN, .int 0])), (aT, .inl (cT, 20, .inl fT)), (aN, .inl (cN, 20, .inl (fun _ => 0)))] ∧ nw_ok U)) (va_Qi (fun (r : Int32) (_ : Unit) => r = a) (fun (_ : Unit) (t : State) => va_P (dC, dI) vwCl [(hMer, .inr (0, [.ref aT, .ref aN, .int 0])), (aT, .inl (cT, 20, .inl fT)), (aN, .inl (cN, 20, .inl (fun _ => 0)))] t.heap ∧ va_K (dC, dI) vwCl [(cT, .int), (cN, .int)] t ∧ va_D (va_A [(hMer, .inr (0, [.ref aT, .ref aN, .int 0])), (aT, .inl (cT, 20, .inl fT)), (aN, .inl (cN, 20, .inl (fun _ => 0)))] sz) [(hMer, .inr (0, [.ref aT, .ref aN, .int 0])), (aT, .inl (cT, 20, .inl fT)), (aN, .inl (cN, 20, .inl (fun _ => 0)))]) (va_A [(hMer, .inr (0, [.ref aT, .ref aN, .int 0])), (aT, .inl (cT, 20, .inl fT)), (aN, .inl (cN, 20, .inl (fun _ => 0)))] sz)) 0 0 (va_A [(hMer, .inr (0, [.ref aT, .ref aN, .int 0])), (aT, .inl (cT, 20, .inl fT)), (aN, .inl (cN, 20, .inl (fun _ => 0)))] sz) := by
  refine Met.ofW (cc := cX0_lastOf) (maxL := 5) (ret := (some .int)) (by decide) rfl ?_
  intro p e s m args below meth c s₁ B hml hv
  obtain ⟨rfl, hsz, hP, hK, hD0, hN⟩ := hv
  have hx := B.exec
  have hb := B.bytes
  have hr := B.returns
  have hts := atoms_spec (ws := wsX0_lastOf) B.pre
  have hown : s.vm.findClass RX0 = some m.cls := findClass_of_methodNamed B.named
  have hlocks := B.notSynchronized
  subst hsz
  have hD := hD0.self (sz := s.heap.size)
  generalize hAe : va_A [(hMer, .inr (0, [.ref aT, .ref aN, .int 0])), (aT, .inl (cT, 20, .inl fT)), (aN, .inl (cN, 20, .inl (fun _ => 0)))] s.heap.size = A at hD ⊢
  have hA : ∀ q : Nat, s.heap.size ≤ q → A q := fun q h => by rw [← hAe]; exact Or.inr h
  have hS : va_S A s.heap s.heap [] := va_S.rf
  have hP : va_P (dC, dI) vwCl [(hMer, .inr (0, [.ref aT, .ref aN, .int 0])), (aT, .inl (cT, 20, .inl fT)), (aN, .inl (cN, 20, .inl (fun _ => 0)))] s.heap := hP
  have hl := lv_entry ([.ref hMer, .int a, .int kn]) (n := 5) (Nat.le_of_ble_eq_true rfl)
  rw [lg_entry_eq]
  generalize (lg_sl ([.ref hMer, .int a, .int kn]) ++ List.replicate (5 - (lg_sl ([.ref hMer, .int a, .int kn])).length) Slot.unset).toArray = ls at hl ⊢
  have hl : lv_has ls 5 [(0, .ref hMer), (1, .int a), (2, .int kn)] := hl
  refine lv_iload_n hx hb dX0_lastOf_0 rfl (lv_at hl 1 rfl) ?_
  refine lv_istore_n (lv' := [(3, .int a), (0, .ref hMer), (1, .int a), (2, .int kn)]) hx hb dX0_lastOf_1 rfl hl (by decide) rfl (fun ls hl => ?_)
  refine lv_iconst (v := 0) hx hb dX0_lastOf_2 (by decide) ?_
  refine lv_istore (lv' := [(4, .int 0), (3, .int a), (0, .ref hMer), (1, .int a), (2, .int kn)]) hx hb dX0_lastOf_3 hl (by decide) rfl (fun ls hl => ?_)
  refine lv_iload hx hb dX0_lastOf_5 (lv_at hl 0 rfl) ?_
  refine lv_bipush (v := 20) hx hb dX0_lastOf_7 (by decide) ?_
  refine lv_icmp_ge (tgt := 43) hx hb dX0_lastOf_9 (by decide) (fun c_1 => absurd c_1 (by decide)) (fun c_1 => ?_)
  refine lv_aload_n hx hb dX0_lastOf_12 rfl (lv_at hl 2 rfl) ?_
  refine lv_iload_n hx hb dX0_lastOf_13 rfl (lv_at hl 1 rfl) ?_
  have hk_2 : (0 : Int32).toInt = 0 := by decide
  have hPc := hP.sub (ws' := [(hMer, .inr (0, [.ref aT, .ref aN, .int 0])), (aT, .inl (cT, 20, .inl fT))]) [0, 1] rfl
  have hDc := hD.sub (ws' := [(hMer, .inr (0, [.ref aT, .ref aN, .int 0])), (aT, .inl (cT, 20, .inl fT))]) [0, 1] (by decide) rfl
  have hKc := hK.sub (tys' := [(cT, .int)]) [0] rfl
  have hFc := va_free (wc := [(hMer, .inr (0, [.ref aT, .ref aN, .int 0])), (aT, .inl (cT, 20, .inl fT))]) hD hS hA [0, 1] rfl
  refine va_calli (va_runV (As := [.int a]) (rest := []) ⟨hx, hb, hml, hown, hts⟩ (c_X0_isTold l dC dI s.heap.size hMer aT aN cT fT a hT ha0 ha1) (cwV 1 hts gX0_lastOf_X0_isTold rfl rfl rfl (by decide +kernel) ⟨Nat.le_of_ble_eq_true rfl, Nat.le_of_ble_eq_true rfl⟩) ⟨fun a U g mk q => by obtain ⟨q0, q1, qP, qK, qD, qN⟩ := q; exact ⟨q0, q1, qP, va_K.moved (u := U) (U := U.calling g mk a) (Vm.Alike.refl U.vm) qK, qD, qN.same rfl⟩, va_recv hKc hPc (ci := 0) (q0 := 0) rfl rfl, fun U hU hW => ⟨rfl, by rw [hU], by rw [hU]; exact hPc, va_K.moved hW.alike hKc, hDc.weaken (fun _ _ _ _ => trivial), hN.warm hW⟩⟩ rfl rfl hl.1 rfl (lv_room (Nat.le_of_ble_eq_true rfl)) dX0_lastOf_14 ⟨Nat.le_of_ble_eq_true rfl, Nat.le_of_ble_eq_true rfl⟩) hS (fun q _ h => hFc q h) hFc (fun r_3 u_4 t H1 locs ht hvm hw_5 hB hz1 hk1 hS => ?_)
  try dsimp only at hw_5
  obtain ⟨hP1, hK1, hD1⟩ := hB
  rw [ht] at hP1
  have hK1 := va_K.moved hvm.symm hK1
  obtain ⟨hP, hD⟩ := va_join (wr := [(aN, .inl (cN, 20, .inl (fun _ => 0)))]) (w1 := [(hMer, .inr (0, [.ref aT, .ref aN, .int 0])), (aT, .inl (cT, 20, .inl fT))]) hP hD [0, 1] [2] rfl rfl (by decide) (by decide) hk1 hFc hP1 hD1
  have hK := (hK.sub (tys' := [(cT, .int), (cN, .int)]) [0, 1] rfl).app hK1
  generalize H1 = H at hP hS ⊢
  have hP : va_P (dC, dI) vwCl [(aN, .inl (cN, 20, .inl (fun _ => 0))), (hMer, .inr (0, [.ref aT, .ref aN, .int 0])), (aT, .inl (cT, 20, .inl fT))] H := hP
  have hD : va_D A [(aN, .inl (cN, 20, .inl (fun _ => 0))), (hMer, .inr (0, [.ref aT, .ref aN, .int 0])), (aT, .inl (cT, 20, .inl fT))] := hD
  have hK : va_K (dC, dI) vwCl [(cT, .int), (cN, .int), (cT, .int)] s := hK
  obtain rfl : 0 = r_3 := hw_5.symm
  refine lv_if_eq (tgt := 43) hx hb dX0_lastOf_17 (by decide) (fun c_6 => ?_) (fun c_6 => absurd (by decide) c_6)
  refine lv_iload_n hx hb dX0_lastOf_43 rfl (lv_at hl 1 rfl) ?_
  have hP9 := hP.sub (ws' := [(hMer, .inr (0, [.ref aT, .ref aN, .int 0])), (aT, .inl (cT, 20, .inl fT)), (aN, .inl (cN, 20, .inl (fun _ => 0)))]) [1, 2, 0] rfl
  have hD9 := hD.sub (ws' := [(hMer, .inr (0, [.ref aT, .ref aN, .int 0])), (aT, .inl (cT, 20, .inl fT)), (aN, .inl (cN, 20, .inl (fun _ => 0)))]) [1, 2, 0] (by decide) rfl
  have hK9 := hK.sub (tys' := [(cT, .int), (cN, .int)]) [0, 1] rfl
  exact W.iret (v := a) hx hb hr (fun t ht hW => ⟨⟨a, (), rfl, rfl, by rw [ht]; exact hP9, va_K.moved hW.alike hK9, hD9⟩, hS.F ht⟩) hS.2.2 dX0_lastOf_44

set_option maxHeartbeats 4000000 in
set_option maxRecDepth 100000 in
theorem c_X0_add (l : Launch) (dC : Nat → ClassId) (dI : Nat → Nat → Nat) (sz : Nat) (hMer : Nat) (aT : Nat) (aN : Nat) (cT : ClassId) (cN : ClassId) (fT : Nat → Int32) (a : Int32) (b : Int32) (kn : Int32) (ha0 : 0 ≤ a.toInt) (ha1 : a.toInt ≤ 19) : Met l yX0_add wsX0_add ({ frames := 0, cells := 0, slots := 0, locals := 0 }) (va_Pc [.ref hMer, .int a, .int b, .int kn] (fun U => U.heap.size = sz ∧ va_P (dC, dI) vwCl [(hMer, .inr (0, [.ref aT, .ref aN, .int 0])), (aT, .inl (cT, 20, .inl fT)), (aN, .inl (cN, 20, .inl (fun _ => 0)))] U.heap ∧ va_K (dC, dI) vwCl [(cT, .int), (cN, .int)] U ∧ va_D (fun _ => True) [(hMer, .inr (0, [.ref aT, .ref aN, .int 0])), (aT, .inl (cT, 20, .inl fT)), (aN, .inl (cN, 20, .inl (fun _ => 0)))] ∧ nw_ok U)) (va_Qi (fun (r : Int32) (_ : Unit) => r = 1) (fun (_ : Unit) (t : State) => True) (va_A [(hMer, .inr (0, [.ref aT, .ref aN, .int 0])), (aT, .inl (cT, 20, .inl fT)), (aN, .inl (cN, 20, .inl (fun _ => 0)))] sz)) 0 0 (va_A [(hMer, .inr (0, [.ref aT, .ref aN, .int 0])), (aT, .inl (cT, 20, .inl fT)), (aN, .inl (cN, 20, .inl (fun _ => 0)))] sz) := by
  refine Met.ofW (cc := cX0_add) (maxL := 4) (ret := (some .int)) (by decide) rfl ?_
  intro p e s m args below meth c s₁ B hml hv
  obtain ⟨rfl, hsz, hP, hK, hD0, hN⟩ := hv
  have hx := B.exec
  have hb := B.bytes
  have hr := B.returns
  have hts := atoms_spec (ws := wsX0_add) B.pre
  have hown : s.vm.findClass RX0 = some m.cls := findClass_of_methodNamed B.named
  have hlocks := B.notSynchronized
  subst hsz
  have hD := hD0.self (sz := s.heap.size)
  generalize hAe : va_A [(hMer, .inr (0, [.ref aT, .ref aN, .int 0])), (aT, .inl (cT, 20, .inl fT)), (aN, .inl (cN, 20, .inl (fun _ => 0)))] s.heap.size = A at hD ⊢
  have hA : ∀ q : Nat, s.heap.size ≤ q → A q := fun q h => by rw [← hAe]; exact Or.inr h
  have hS : va_S A s.heap s.heap [] := va_S.rf
  have hP : va_P (dC, dI) vwCl [(hMer, .inr (0, [.ref aT, .ref aN, .int 0])), (aT, .inl (cT, 20, .inl fT)), (aN, .inl (cN, 20, .inl (fun _ => 0)))] s.heap := hP
  have hIX0 : ∀ w ∈ u_ws RX0 TX0 3, w ∈ wsX0_add := by decide +kernel
  have hl := lv_entry ([.ref hMer, .int a, .int b, .int kn]) (n := 4) (Nat.le_of_ble_eq_true rfl)
  rw [lg_entry_eq]
  generalize (lg_sl ([.ref hMer, .int a, .int b, .int kn]) ++ List.replicate (4 - (lg_sl ([.ref hMer, .int a, .int b, .int kn])).length) Slot.unset).toArray = ls at hl ⊢
  have hl : lv_has ls 4 [(0, .ref hMer), (1, .int a), (2, .int b), (3, .int kn)] := hl
  refine lv_aload_n hx hb dX0_add_0 rfl (lv_at hl 0 rfl) ?_
  refine va_get (D := (dC, dI)) (ci := 0) (v := .ref aT) (C := RX0) (T := TX0) (N := 3) hx hb hts hIX0 hown hK hP 0 rfl rfl 0 (by decide) (hts (.fieldLink RX0 9 "TraitHouse$Merges" "targets" "[I") (by decide +kernel)) (fun _ h9 => h9) rfl dX0_add_1 ?_
  refine lv_iload_n hx hb dX0_add_4 rfl (lv_at hl 1 rfl) ?_
  refine lv_iload_n hx hb dX0_add_5 rfl (lv_at hl 2 rfl) ?_
  have h_1 : vp_in a 20 := (vp_in_iff.mpr ⟨by omega, by omega⟩)
  refine va_iast hx hb hK hP hD hS 1 0 rfl rfl h_1 dX0_add_6 (fun H locs hP hD hS => ?_)
  have hP : va_P (dC, dI) vwCl [(hMer, .inr (0, [.ref aT, .ref aN, .int 0])), (aT, .inl (cT, 20, .inl (upd fT a.toNatClampNeg b))), (aN, .inl (cN, 20, .inl (fun _ => 0)))] H := hP
  have hD : va_D A [(hMer, .inr (0, [.ref aT, .ref aN, .int 0])), (aT, .inl (cT, 20, .inl (upd fT a.toNatClampNeg b))), (aN, .inl (cN, 20, .inl (fun _ => 0)))] := hD
  obtain ⟨g_2, eg_2⟩ : ∃ g : Nat → Int32, g = upd fT a.toNatClampNeg b := ⟨_, rfl⟩
  rw [← eg_2] at hP hD
  refine lv_aload_n hx hb dX0_add_7 rfl (lv_at hl 0 rfl) ?_
  refine va_get (D := (dC, dI)) (ci := 0) (v := .ref aN) (C := RX0) (T := TX0) (N := 3) hx hb hts hIX0 hown hK hP 0 rfl rfl 1 (by decide) (hts (.fieldLink RX0 15 "TraitHouse$Merges" "knowns" "[I") (by decide +kernel)) (fun _ h9 => h9) rfl dX0_add_8 ?_
  refine lv_iload_n hx hb dX0_add_11 rfl (lv_at hl 1 rfl) ?_
  refine lv_iload_n hx hb dX0_add_12 rfl (lv_at hl 3 rfl) ?_
  have h_3 : vp_in a 20 := (vp_in_iff.mpr ⟨by omega, by omega⟩)
  refine va_iast hx hb hK hP hD hS 2 1 rfl rfl h_3 dX0_add_13 (fun H locs hP hD hS => ?_)
  have hP : va_P (dC, dI) vwCl [(hMer, .inr (0, [.ref aT, .ref aN, .int 0])), (aT, .inl (cT, 20, .inl g_2)), (aN, .inl (cN, 20, .inl (upd (fun _ => 0) a.toNatClampNeg kn)))] H := hP
  have hD : va_D A [(hMer, .inr (0, [.ref aT, .ref aN, .int 0])), (aT, .inl (cT, 20, .inl g_2)), (aN, .inl (cN, 20, .inl (upd (fun _ => 0) a.toNatClampNeg kn)))] := hD
  obtain ⟨g_4, eg_4⟩ : ∃ g : Nat → Int32, g = upd (fun _ => 0) a.toNatClampNeg kn := ⟨_, rfl⟩
  rw [← eg_4] at hP hD
  refine lv_aload_n hx hb dX0_add_14 rfl (lv_at hl 0 rfl) ?_
  refine lv_dup hx hb dX0_add_15 rfl ?_
  refine va_get (D := (dC, dI)) (ci := 0) (v := .int 0) (C := RX0) (T := TX0) (N := 3) hx hb hts hIX0 hown hK hP 0 rfl rfl 2 (by decide) (hts (.fieldLink RX0 24 "TraitHouse$Merges" "size" "I") (by decide +kernel)) (fun _ h9 => h9) rfl dX0_add_16 ?_
  refine lv_iconst (v := 1) hx hb dX0_add_19 (by decide) ?_
  refine lv_iadd hx hb dX0_add_20 ?_
  refine lv_topi (fun x_5 ex_5 => ?_)
  obtain rfl : x_5 = 1 := ex_5.trans (by decide)
  refine va_put (D := (dC, dI)) (ci := 0) (v := .int 1) (ty := .int) (C := RX0) (T := TX0) (N := 3) hx hb hts hIX0 tyX0 tyX0_ok nmX0 hown hK hP hD hS 0 rfl rfl 2 (by decide) (hts (.fieldLink RX0 24 "TraitHouse$Merges" "size" "I") (by decide +kernel)) (fun _ h9 => h9) rfl (by decide +kernel) rfl rfl (Nat.le_of_ble_eq_true rfl) dX0_add_21 (fun H locs hP hD hS => ?_)
  have hP : va_P (dC, dI) vwCl [(hMer, .inr (0, [.ref aT, .ref aN, .int 1])), (aT, .inl (cT, 20, .inl g_2)), (aN, .inl (cN, 20, .inl g_4))] H := hP
  have hD : va_D A [(hMer, .inr (0, [.ref aT, .ref aN, .int 1])), (aT, .inl (cT, 20, .inl g_2)), (aN, .inl (cN, 20, .inl g_4))] := hD
  refine lv_aload_n hx hb dX0_add_24 rfl (lv_at hl 0 rfl) ?_
  refine va_get (D := (dC, dI)) (ci := 0) (v := .int 1) (C := RX0) (T := TX0) (N := 3) hx hb hts hIX0 hown hK hP 0 rfl rfl 2 (by decide) (hts (.fieldLink RX0 24 "TraitHouse$Merges" "size" "I") (by decide +kernel)) (fun _ h9 => h9) rfl dX0_add_25 ?_
  exact W.iret (v := 1) hx hb hr (fun t ht hW => ⟨⟨1, (), rfl, rfl, trivial⟩, hS.F ht⟩) hS.2.2 dX0_add_28

set_option maxHeartbeats 4000000 in
set_option maxRecDepth 100000 in
theorem c_X8_addMerge (l : Launch) (dC : Nat → ClassId) (dI : Nat → Nat → Nat) (sz : Nat) (h0 : Nat) (hRows : Nat) (hMer : Nat) (hEra : Nat) (hTape : Nat) (hRea : Nat) (hTra : Nat) (hWor : Nat) (hPla : Nat) (hMod : Nat) (hHe1 : Nat) (hHe2 : Nat) (aT : Nat) (aN : Nat) (cT : ClassId) (cN : ClassId) (fT : Nat → Int32) (a : Int32) (b : Int32) (kn : Int32) (hT : ∀ k : Nat, k < 20 → fT k = (-1)) : Met l yX8_addMerge wsX8_addMerge ({ frames := 2, cells := 0, slots := 0, locals := 45 }) (va_Pc [.ref h0, .int a, .int b, .int kn] (fun U => U.heap.size = sz ∧ va_P (dC, dI) vwCl [(h0, .inr (8, [.ref hRows, .ref hMer, .ref hEra, .ref hTape, .ref hRea, .ref hTra, .ref hWor, .ref hPla, .ref hMod, .ref hHe1, .ref hHe2, .int 0, .int 0, .int 0, .int 0, .int (-1), .int 0])), (hMer, .inr (0, [.ref aT, .ref aN, .int 0])), (aT, .inl (cT, 20, .inl fT)), (aN, .inl (cN, 20, .inl (fun _ => 0)))] U.heap ∧ va_K (dC, dI) vwCl [(cT, .int), (cN, .int)] U ∧ va_D (fun _ => True) [(h0, .inr (8, [.ref hRows, .ref hMer, .ref hEra, .ref hTape, .ref hRea, .ref hTra, .ref hWor, .ref hPla, .ref hMod, .ref hHe1, .ref hHe2, .int 0, .int 0, .int 0, .int 0, .int (-1), .int 0])), (hMer, .inr (0, [.ref aT, .ref aN, .int 0])), (aT, .inl (cT, 20, .inl fT)), (aN, .inl (cN, 20, .inl (fun _ => 0)))] ∧ nw_ok U)) (va_Qi (fun (r : Int32) (_ : Unit) => (¬ (0 ≤ kn.toInt ∧ kn.toInt ≤ 100000) → r.toInt = (-1)) ∧ ((0 ≤ kn.toInt ∧ kn.toInt ≤ 100000) ∧ ¬ (0 ≤ a.toInt ∧ a.toInt ≤ 19 ∧ 0 ≤ b.toInt ∧ b.toInt ≤ 19) → r.toInt = (-2)) ∧ ((0 ≤ kn.toInt ∧ kn.toInt ≤ 100000) ∧ (0 ≤ a.toInt ∧ a.toInt ≤ 19 ∧ 0 ≤ b.toInt ∧ b.toInt ≤ 19) ∧ a.toInt = b.toInt → r.toInt = (-4)) ∧ ((0 ≤ kn.toInt ∧ kn.toInt ≤ 100000) ∧ (0 ≤ a.toInt ∧ a.toInt ≤ 19 ∧ 0 ≤ b.toInt ∧ b.toInt ≤ 19) ∧ ¬ a.toInt = b.toInt → r.toInt = 1)) (fun (_ : Unit) (t : State) => va_P (dC, dI) vwCl [(h0, .inr (8, [.ref hRows, .ref hMer, .ref hEra, .ref hTape, .ref hRea, .ref hTra, .ref hWor, .ref hPla, .ref hMod, .ref hHe1, .ref hHe2, .int 0, .int 0, .int 0, .int 0, .int (-1), .int 0]))] t.heap ∧ va_K (dC, dI) vwCl [] t ∧ va_D (va_A [(h0, .inr (8, [.ref hRows, .ref hMer, .ref hEra, .ref hTape, .ref hRea, .ref hTra, .ref hWor, .ref hPla, .ref hMod, .ref hHe1, .ref hHe2, .int 0, .int 0, .int 0, .int 0, .int (-1), .int 0])), (hMer, .inr (0, [.ref aT, .ref aN, .int 0])), (aT, .inl (cT, 20, .inl fT)), (aN, .inl (cN, 20, .inl (fun _ => 0)))] sz) [(h0, .inr (8, [.ref hRows, .ref hMer, .ref hEra, .ref hTape, .ref hRea, .ref hTra, .ref hWor, .ref hPla, .ref hMod, .ref hHe1, .ref hHe2, .int 0, .int 0, .int 0, .int 0, .int (-1), .int 0]))]) (va_A [(h0, .inr (8, [.ref hRows, .ref hMer, .ref hEra, .ref hTape, .ref hRea, .ref hTra, .ref hWor, .ref hPla, .ref hMod, .ref hHe1, .ref hHe2, .int 0, .int 0, .int 0, .int 0, .int (-1), .int 0])), (hMer, .inr (0, [.ref aT, .ref aN, .int 0])), (aT, .inl (cT, 20, .inl fT)), (aN, .inl (cN, 20, .inl (fun _ => 0)))] sz)) 0 0 (va_A [(h0, .inr (8, [.ref hRows, .ref hMer, .ref hEra, .ref hTape, .ref hRea, .ref hTra, .ref hWor, .ref hPla, .ref hMod, .ref hHe1, .ref hHe2, .int 0, .int 0, .int 0, .int 0, .int (-1), .int 0])), (hMer, .inr (0, [.ref aT, .ref aN, .int 0])), (aT, .inl (cT, 20, .inl fT)), (aN, .inl (cN, 20, .inl (fun _ => 0)))] sz) := by
  refine Met.ofW (cc := cX8_addMerge) (maxL := 4) (ret := (some .int)) (by decide) rfl ?_
  intro p e s m args below meth c s₁ B hml hv
  obtain ⟨rfl, hsz, hP, hK, hD0, hN⟩ := hv
  have hx := B.exec
  have hb := B.bytes
  have hr := B.returns
  have hts := atoms_spec (ws := wsX8_addMerge) B.pre
  have hown : s.vm.findClass RX8 = some m.cls := findClass_of_methodNamed B.named
  have hlocks := B.notSynchronized
  subst hsz
  have hD := hD0.self (sz := s.heap.size)
  generalize hAe : va_A [(h0, .inr (8, [.ref hRows, .ref hMer, .ref hEra, .ref hTape, .ref hRea, .ref hTra, .ref hWor, .ref hPla, .ref hMod, .ref hHe1, .ref hHe2, .int 0, .int 0, .int 0, .int 0, .int (-1), .int 0])), (hMer, .inr (0, [.ref aT, .ref aN, .int 0])), (aT, .inl (cT, 20, .inl fT)), (aN, .inl (cN, 20, .inl (fun _ => 0)))] s.heap.size = A at hD ⊢
  have hA : ∀ q : Nat, s.heap.size ≤ q → A q := fun q h => by rw [← hAe]; exact Or.inr h
  have hS : va_S A s.heap s.heap [] := va_S.rf
  have hP : va_P (dC, dI) vwCl [(h0, .inr (8, [.ref hRows, .ref hMer, .ref hEra, .ref hTape, .ref hRea, .ref hTra, .ref hWor, .ref hPla, .ref hMod, .ref hHe1, .ref hHe2, .int 0, .int 0, .int 0, .int 0, .int (-1), .int 0])), (hMer, .inr (0, [.ref aT, .ref aN, .int 0])), (aT, .inl (cT, 20, .inl fT)), (aN, .inl (cN, 20, .inl (fun _ => 0)))] s.heap := hP
  have hIX8 : ∀ w ∈ u_ws RX8 TX8 17, w ∈ wsX8_addMerge := by decide +kernel
  have hl := lv_entry ([.ref h0, .int a, .int b, .int kn]) (n := 4) (Nat.le_of_ble_eq_true rfl)
  rw [lg_entry_eq]
  generalize (lg_sl ([.ref h0, .int a, .int b, .int kn]) ++ List.replicate (4 - (lg_sl ([.ref h0, .int a, .int b, .int kn])).length) Slot.unset).toArray = ls at hl ⊢
  have hl : lv_has ls 4 [(0, .ref h0), (1, .int a), (2, .int b), (3, .int kn)] := hl
  refine lv_iload_n hx hb dX8_addMerge_0 rfl (lv_at hl 3 rfl) ?_
  have hPc := hP.sub (ws' := []) [] rfl
  have hDc := hD.sub (ws' := []) [] (by decide) rfl
  have hKc := hK.sub (tys' := []) [] rfl
  have hFc := va_free (wc := []) hD hS hA [] rfl
  refine va_calli (va_runS (As := [.int kn]) (rest := []) ⟨hx, hb, hml, hown, hts⟩ (c_X8_isMoment l dC dI s.heap.size kn ) (va_cwS 1 hts gX8_addMerge_X8_isMoment rfl rfl rfl (by decide +kernel) ⟨Nat.le_of_ble_eq_true rfl, Nat.le_of_ble_eq_true rfl⟩) ⟨fun a U g mk q => by obtain ⟨q0, q1, qP, qK, qD, qN⟩ := q; exact ⟨q0, q1, qP, va_K.moved (u := U) (U := U.calling g mk a) (Vm.Alike.refl U.vm) qK, qD, qN.same rfl⟩, fun U hU hW => ⟨rfl, by rw [hU], by rw [hU]; exact hPc, va_K.moved hW.alike hKc, hDc.weaken (fun _ _ _ _ => trivial), hN.warm hW⟩⟩ rfl rfl hl.1 rfl (lv_room (Nat.le_of_ble_eq_true rfl)) dX8_addMerge_1 ⟨Nat.le_of_ble_eq_true rfl, Nat.le_of_ble_eq_true rfl⟩) hS (fun q _ h => hFc q h) hFc (fun r_1 u_2 t H1 locs ht hvm hw_3 hB hz1 hk1 hS => ?_)
  try dsimp only at hw_3
  obtain ⟨hP1, hK1, hD1⟩ := hB
  rw [ht] at hP1
  have hK1 := va_K.moved hvm.symm hK1
  obtain ⟨hP, hD⟩ := va_join (wr := [(h0, .inr (8, [.ref hRows, .ref hMer, .ref hEra, .ref hTape, .ref hRea, .ref hTra, .ref hWor, .ref hPla, .ref hMod, .ref hHe1, .ref hHe2, .int 0, .int 0, .int 0, .int 0, .int (-1), .int 0])), (hMer, .inr (0, [.ref aT, .ref aN, .int 0])), (aT, .inl (cT, 20, .inl fT)), (aN, .inl (cN, 20, .inl (fun _ => 0)))]) (w1 := []) hP hD [] [0, 1, 2, 3] rfl rfl (by decide) (by decide) hk1 hFc hP1 hD1
  have hK := (hK.sub (tys' := [(cT, .int), (cN, .int)]) [0, 1] rfl).app hK1
  generalize H1 = H at hP hS ⊢
  have hP : va_P (dC, dI) vwCl [(h0, .inr (8, [.ref hRows, .ref hMer, .ref hEra, .ref hTape, .ref hRea, .ref hTra, .ref hWor, .ref hPla, .ref hMod, .ref hHe1, .ref hHe2, .int 0, .int 0, .int 0, .int 0, .int (-1), .int 0])), (hMer, .inr (0, [.ref aT, .ref aN, .int 0])), (aT, .inl (cT, 20, .inl fT)), (aN, .inl (cN, 20, .inl (fun _ => 0)))] H := hP
  have hD : va_D A [(h0, .inr (8, [.ref hRows, .ref hMer, .ref hEra, .ref hTape, .ref hRea, .ref hTra, .ref hWor, .ref hPla, .ref hMod, .ref hHe1, .ref hHe2, .int 0, .int 0, .int 0, .int 0, .int (-1), .int 0])), (hMer, .inr (0, [.ref aT, .ref aN, .int 0])), (aT, .inl (cT, 20, .inl fT)), (aN, .inl (cN, 20, .inl (fun _ => 0)))] := hD
  have hK : va_K (dC, dI) vwCl [(cT, .int), (cN, .int)] s := hK
  refine lv_if_ne (tgt := 9) hx hb dX8_addMerge_4 (by decide) (fun c_4 => ?_) (fun c_4 => ?_)
  · have dc_4 : ¬ r_1.toInt = 0 := jI_ne c_4 rfl (by decide)
    refine lv_iload_n hx hb dX8_addMerge_9 rfl (lv_at hl 1 rfl) ?_
    have hPc := hP.sub (ws' := []) [] rfl
    have hDc := hD.sub (ws' := []) [] (by decide) rfl
    have hKc := hK.sub (tys' := []) [] rfl
    have hFc := va_free (wc := []) hD hS hA [] rfl
    refine va_calli (va_runS (As := [.int a]) (rest := []) ⟨hx, hb, hml, hown, hts⟩ (c_X8_isPerson l dC dI H.size a ) (va_cwS 1 hts gX8_addMerge_X8_isPerson rfl rfl rfl (by decide +kernel) ⟨Nat.le_of_ble_eq_true rfl, Nat.le_of_ble_eq_true rfl⟩) ⟨fun a U g mk q => by obtain ⟨q0, q1, qP, qK, qD, qN⟩ := q; exact ⟨q0, q1, qP, va_K.moved (u := U) (U := U.calling g mk a) (Vm.Alike.refl U.vm) qK, qD, qN.same rfl⟩, fun U hU hW => ⟨rfl, by rw [hU], by rw [hU]; exact hPc, va_K.moved hW.alike hKc, hDc.weaken (fun _ _ _ _ => trivial), hN.warm hW⟩⟩ rfl rfl hl.1 rfl (lv_room (Nat.le_of_ble_eq_true rfl)) dX8_addMerge_10 ⟨Nat.le_of_ble_eq_true rfl, Nat.le_of_ble_eq_true rfl⟩) hS (fun q _ h => hFc q h) hFc (fun r_5 u_6 t H1 locs ht hvm hw_7 hB hz1 hk1 hS => ?_)
    try dsimp only at hw_7
    obtain ⟨hP1, hK1, hD1⟩ := hB
    rw [ht] at hP1
    have hK1 := va_K.moved hvm.symm hK1
    obtain ⟨hP, hD⟩ := va_join (wr := [(h0, .inr (8, [.ref hRows, .ref hMer, .ref hEra, .ref hTape, .ref hRea, .ref hTra, .ref hWor, .ref hPla, .ref hMod, .ref hHe1, .ref hHe2, .int 0, .int 0, .int 0, .int 0, .int (-1), .int 0])), (hMer, .inr (0, [.ref aT, .ref aN, .int 0])), (aT, .inl (cT, 20, .inl fT)), (aN, .inl (cN, 20, .inl (fun _ => 0)))]) (w1 := []) hP hD [] [0, 1, 2, 3] rfl rfl (by decide) (by decide) hk1 hFc hP1 hD1
    have hK := (hK.sub (tys' := [(cT, .int), (cN, .int)]) [0, 1] rfl).app hK1
    generalize H1 = H at hP hS ⊢
    have hP : va_P (dC, dI) vwCl [(h0, .inr (8, [.ref hRows, .ref hMer, .ref hEra, .ref hTape, .ref hRea, .ref hTra, .ref hWor, .ref hPla, .ref hMod, .ref hHe1, .ref hHe2, .int 0, .int 0, .int 0, .int 0, .int (-1), .int 0])), (hMer, .inr (0, [.ref aT, .ref aN, .int 0])), (aT, .inl (cT, 20, .inl fT)), (aN, .inl (cN, 20, .inl (fun _ => 0)))] H := hP
    have hD : va_D A [(h0, .inr (8, [.ref hRows, .ref hMer, .ref hEra, .ref hTape, .ref hRea, .ref hTra, .ref hWor, .ref hPla, .ref hMod, .ref hHe1, .ref hHe2, .int 0, .int 0, .int 0, .int 0, .int (-1), .int 0])), (hMer, .inr (0, [.ref aT, .ref aN, .int 0])), (aT, .inl (cT, 20, .inl fT)), (aN, .inl (cN, 20, .inl (fun _ => 0)))] := hD
    have hK : va_K (dC, dI) vwCl [(cT, .int), (cN, .int)] s := hK
    refine lv_if_eq (tgt := 23) hx hb dX8_addMerge_13 (by decide) (fun c_8 => ?_) (fun c_8 => ?_)
    · have dc_8 : r_5.toInt = 0 := jI_eq c_8 rfl (by decide)
      refine lv_bipush (v := (-2)) hx hb dX8_addMerge_23 (by decide) ?_
      have hP9 := hP.sub (ws' := [(h0, .inr (8, [.ref hRows, .ref hMer, .ref hEra, .ref hTape, .ref hRea, .ref hTra, .ref hWor, .ref hPla, .ref hMod, .ref hHe1, .ref hHe2, .int 0, .int 0, .int 0, .int 0, .int (-1), .int 0]))]) [0] rfl
      have hD9 := hD.sub (ws' := [(h0, .inr (8, [.ref hRows, .ref hMer, .ref hEra, .ref hTape, .ref hRea, .ref hTra, .ref hWor, .ref hPla, .ref hMod, .ref hHe1, .ref hHe2, .int 0, .int 0, .int 0, .int 0, .int (-1), .int 0]))]) [0] (by decide) rfl
      have hK9 := hK.sub (tys' := []) [] rfl
      have hans : ((-2) : Int32).toInt = (-2) := (by decide)
      exact W.iret (v := (-2)) hx hb hr (fun t ht hW => ⟨⟨(-2), (), rfl, by first | omega | (dsimp only; omega), by rw [ht]; exact hP9, va_K.moved hW.alike hK9, hD9⟩, hS.F ht⟩) hS.2.2 dX8_addMerge_25
    · have dc_8 : ¬ r_5.toInt = 0 := jI_ne c_8 rfl (by decide)
      refine lv_iload_n hx hb dX8_addMerge_16 rfl (lv_at hl 2 rfl) ?_
      have hPc := hP.sub (ws' := []) [] rfl
      have hDc := hD.sub (ws' := []) [] (by decide) rfl
      have hKc := hK.sub (tys' := []) [] rfl
      have hFc := va_free (wc := []) hD hS hA [] rfl
      refine va_calli (va_runS (As := [.int b]) (rest := []) ⟨hx, hb, hml, hown, hts⟩ (c_X8_isPerson l dC dI H.size b ) (va_cwS 1 hts gX8_addMerge_X8_isPerson rfl rfl rfl (by decide +kernel) ⟨Nat.le_of_ble_eq_true rfl, Nat.le_of_ble_eq_true rfl⟩) ⟨fun a U g mk q => by obtain ⟨q0, q1, qP, qK, qD, qN⟩ := q; exact ⟨q0, q1, qP, va_K.moved (u := U) (U := U.calling g mk a) (Vm.Alike.refl U.vm) qK, qD, qN.same rfl⟩, fun U hU hW => ⟨rfl, by rw [hU], by rw [hU]; exact hPc, va_K.moved hW.alike hKc, hDc.weaken (fun _ _ _ _ => trivial), hN.warm hW⟩⟩ rfl rfl hl.1 rfl (lv_room (Nat.le_of_ble_eq_true rfl)) dX8_addMerge_17 ⟨Nat.le_of_ble_eq_true rfl, Nat.le_of_ble_eq_true rfl⟩) hS (fun q _ h => hFc q h) hFc (fun r_9 u_10 t H1 locs ht hvm hw_11 hB hz1 hk1 hS => ?_)
      try dsimp only at hw_11
      obtain ⟨hP1, hK1, hD1⟩ := hB
      rw [ht] at hP1
      have hK1 := va_K.moved hvm.symm hK1
      obtain ⟨hP, hD⟩ := va_join (wr := [(h0, .inr (8, [.ref hRows, .ref hMer, .ref hEra, .ref hTape, .ref hRea, .ref hTra, .ref hWor, .ref hPla, .ref hMod, .ref hHe1, .ref hHe2, .int 0, .int 0, .int 0, .int 0, .int (-1), .int 0])), (hMer, .inr (0, [.ref aT, .ref aN, .int 0])), (aT, .inl (cT, 20, .inl fT)), (aN, .inl (cN, 20, .inl (fun _ => 0)))]) (w1 := []) hP hD [] [0, 1, 2, 3] rfl rfl (by decide) (by decide) hk1 hFc hP1 hD1
      have hK := (hK.sub (tys' := [(cT, .int), (cN, .int)]) [0, 1] rfl).app hK1
      generalize H1 = H at hP hS ⊢
      have hP : va_P (dC, dI) vwCl [(h0, .inr (8, [.ref hRows, .ref hMer, .ref hEra, .ref hTape, .ref hRea, .ref hTra, .ref hWor, .ref hPla, .ref hMod, .ref hHe1, .ref hHe2, .int 0, .int 0, .int 0, .int 0, .int (-1), .int 0])), (hMer, .inr (0, [.ref aT, .ref aN, .int 0])), (aT, .inl (cT, 20, .inl fT)), (aN, .inl (cN, 20, .inl (fun _ => 0)))] H := hP
      have hD : va_D A [(h0, .inr (8, [.ref hRows, .ref hMer, .ref hEra, .ref hTape, .ref hRea, .ref hTra, .ref hWor, .ref hPla, .ref hMod, .ref hHe1, .ref hHe2, .int 0, .int 0, .int 0, .int 0, .int (-1), .int 0])), (hMer, .inr (0, [.ref aT, .ref aN, .int 0])), (aT, .inl (cT, 20, .inl fT)), (aN, .inl (cN, 20, .inl (fun _ => 0)))] := hD
      have hK : va_K (dC, dI) vwCl [(cT, .int), (cN, .int)] s := hK
      refine lv_if_ne (tgt := 26) hx hb dX8_addMerge_20 (by decide) (fun c_12 => ?_) (fun c_12 => ?_)
      · have dc_12 : ¬ r_9.toInt = 0 := jI_ne c_12 rfl (by decide)
        refine lv_aload_n hx hb dX8_addMerge_26 rfl (lv_at hl 0 rfl) ?_
        refine va_get (D := (dC, dI)) (ci := 8) (v := .ref hMer) (C := RX8) (T := TX8) (N := 17) hx hb hts hIX8 hown hK hP 0 rfl rfl 1 (by decide) (hts (.fieldLink RX8 19 "TraitHouse" "merges" "LTraitHouse$Merges;") (by decide +kernel)) (fun _ h9 => h9) rfl dX8_addMerge_27 ?_
        refine lv_iload_n hx hb dX8_addMerge_30 rfl (lv_at hl 1 rfl) ?_
        have hk_13 : (0 : Int32).toInt = 0 := by decide
        have hPc := hP.sub (ws' := [(hMer, .inr (0, [.ref aT, .ref aN, .int 0])), (aT, .inl (cT, 20, .inl fT))]) [1, 2] rfl
        have hDc := hD.sub (ws' := [(hMer, .inr (0, [.ref aT, .ref aN, .int 0])), (aT, .inl (cT, 20, .inl fT))]) [1, 2] (by decide) rfl
        have hKc := hK.sub (tys' := [(cT, .int)]) [0] rfl
        have hFc := va_free (wc := [(hMer, .inr (0, [.ref aT, .ref aN, .int 0])), (aT, .inl (cT, 20, .inl fT))]) hD hS hA [1, 2] rfl
        refine va_calli (va_runVN (As := [.int a]) (rest := []) ⟨hx, hb, hml, hown, hts⟩ (c_X0_isTold l dC dI H.size hMer aT aN cT fT a hT (by omega) (by omega)) ⟨(va_cnB 1 hts gX8_addMerge_X0_isTold_n114 rfl rfl rfl (nw_at hN 38 rfl) (hts (.initialized RX0) (by decide +kernel)) (by decide +kernel) ⟨Nat.le_of_ble_eq_true rfl, Nat.le_of_ble_eq_true rfl⟩), (hts (.instanceMethod yX0_isTold) (by decide +kernel)), (hts (.selects RX0 yX0_isTold yX0_isTold) (by decide +kernel))⟩ ⟨fun a U g mk q => by obtain ⟨q0, q1, qP, qK, qD, qN⟩ := q; exact ⟨q0, q1, qP, va_K.moved (u := U) (U := U.calling g mk a) (Vm.Alike.refl U.vm) qK, qD, qN.same rfl⟩, va_recv hKc hPc (ci := 0) (q0 := 0) rfl rfl, fun U hU hW => ⟨rfl, by rw [hU], by rw [hU]; exact hPc, va_K.moved hW.alike hKc, hDc.weaken (fun _ _ _ _ => trivial), hN.warm hW⟩⟩ rfl rfl hl.1 rfl (lv_room (Nat.le_of_ble_eq_true rfl)) dX8_addMerge_31 ⟨Nat.le_of_ble_eq_true rfl, Nat.le_of_ble_eq_true rfl⟩) hS (fun q _ h => hFc q h) hFc (fun r_14 u_15 t H1 locs ht hvm hw_16 hB hz1 hk1 hS => ?_)
        try dsimp only at hw_16
        obtain ⟨hP1, hK1, hD1⟩ := hB
        rw [ht] at hP1
        have hK1 := va_K.moved hvm.symm hK1
        obtain ⟨hP, hD⟩ := va_join (wr := [(h0, .inr (8, [.ref hRows, .ref hMer, .ref hEra, .ref hTape, .ref hRea, .ref hTra, .ref hWor, .ref hPla, .ref hMod, .ref hHe1, .ref hHe2, .int 0, .int 0, .int 0, .int 0, .int (-1), .int 0])), (aN, .inl (cN, 20, .inl (fun _ => 0)))]) (w1 := [(hMer, .inr (0, [.ref aT, .ref aN, .int 0])), (aT, .inl (cT, 20, .inl fT))]) hP hD [1, 2] [0, 3] rfl rfl (by decide) (by decide) hk1 hFc hP1 hD1
        have hK := (hK.sub (tys' := [(cT, .int), (cN, .int)]) [0, 1] rfl).app hK1
        generalize H1 = H at hP hS ⊢
        have hP : va_P (dC, dI) vwCl [(h0, .inr (8, [.ref hRows, .ref hMer, .ref hEra, .ref hTape, .ref hRea, .ref hTra, .ref hWor, .ref hPla, .ref hMod, .ref hHe1, .ref hHe2, .int 0, .int 0, .int 0, .int 0, .int (-1), .int 0])), (aN, .inl (cN, 20, .inl (fun _ => 0))), (hMer, .inr (0, [.ref aT, .ref aN, .int 0])), (aT, .inl (cT, 20, .inl fT))] H := hP
        have hD : va_D A [(h0, .inr (8, [.ref hRows, .ref hMer, .ref hEra, .ref hTape, .ref hRea, .ref hTra, .ref hWor, .ref hPla, .ref hMod, .ref hHe1, .ref hHe2, .int 0, .int 0, .int 0, .int 0, .int (-1), .int 0])), (aN, .inl (cN, 20, .inl (fun _ => 0))), (hMer, .inr (0, [.ref aT, .ref aN, .int 0])), (aT, .inl (cT, 20, .inl fT))] := hD
        have hK : va_K (dC, dI) vwCl [(cT, .int), (cN, .int), (cT, .int)] s := hK
        obtain rfl : 0 = r_14 := hw_16.symm
        refine lv_if_ne (tgt := 51) hx hb dX8_addMerge_34 (by decide) (fun c_17 => absurd c_17 (by decide)) (fun c_17 => ?_)
        refine lv_aload_n hx hb dX8_addMerge_37 rfl (lv_at hl 0 rfl) ?_
        refine va_get (D := (dC, dI)) (ci := 8) (v := .ref hMer) (C := RX8) (T := TX8) (N := 17) hx hb hts hIX8 hown hK hP 0 rfl rfl 1 (by decide) (hts (.fieldLink RX8 19 "TraitHouse" "merges" "LTraitHouse$Merges;") (by decide +kernel)) (fun _ h9 => h9) rfl dX8_addMerge_38 ?_
        refine lv_iload_n hx hb dX8_addMerge_41 rfl (lv_at hl 2 rfl) ?_
        refine lv_ldc hx hb hown (hts (.constant RX8 117 (100000)) (by decide +kernel)) dX8_addMerge_42 ?_
        have hk_18 : (100000 : Int32).toInt = 100000 := by decide
        have hk_19 : (0 : Int32).toInt = 0 := by decide
        have hPc := hP.sub (ws' := [(hMer, .inr (0, [.ref aT, .ref aN, .int 0])), (aT, .inl (cT, 20, .inl fT)), (aN, .inl (cN, 20, .inl (fun _ => 0)))]) [2, 3, 1] rfl
        have hDc := hD.sub (ws' := [(hMer, .inr (0, [.ref aT, .ref aN, .int 0])), (aT, .inl (cT, 20, .inl fT)), (aN, .inl (cN, 20, .inl (fun _ => 0)))]) [2, 3, 1] (by decide) rfl
        have hKc := hK.sub (tys' := [(cT, .int), (cN, .int)]) [0, 1] rfl
        have hFc := va_free (wc := [(hMer, .inr (0, [.ref aT, .ref aN, .int 0])), (aT, .inl (cT, 20, .inl fT)), (aN, .inl (cN, 20, .inl (fun _ => 0)))]) hD hS hA [2, 3, 1] rfl
        refine va_calli (va_runVN (As := [.int b, .int 100000]) (rest := []) ⟨hx, hb, hml, hown, hts⟩ (c_X0_lastOf l dC dI H.size hMer aT aN cT cN fT b 100000 hT (by omega) (by omega)) ⟨(va_cnB 2 hts gX8_addMerge_X0_lastOf_n118 rfl rfl rfl (nw_at hN 39 rfl) (hts (.initialized RX0) (by decide +kernel)) (by decide +kernel) ⟨Nat.le_of_ble_eq_true rfl, Nat.le_of_ble_eq_true rfl⟩), (hts (.instanceMethod yX0_lastOf) (by decide +kernel)), (hts (.selects RX0 yX0_lastOf yX0_lastOf) (by decide +kernel))⟩ ⟨fun a U g mk q => by obtain ⟨q0, q1, qP, qK, qD, qN⟩ := q; exact ⟨q0, q1, qP, va_K.moved (u := U) (U := U.calling g mk a) (Vm.Alike.refl U.vm) qK, qD, qN.same rfl⟩, va_recv hKc hPc (ci := 0) (q0 := 0) rfl rfl, fun U hU hW => ⟨rfl, by rw [hU], by rw [hU]; exact hPc, va_K.moved hW.alike hKc, hDc.weaken (fun _ _ _ _ => trivial), hN.warm hW⟩⟩ rfl rfl hl.1 rfl (lv_room (Nat.le_of_ble_eq_true rfl)) dX8_addMerge_44 ⟨Nat.le_of_ble_eq_true rfl, Nat.le_of_ble_eq_true rfl⟩) hS (fun q _ h => hFc q h) hFc (fun r_20 u_21 t H1 locs ht hvm hw_22 hB hz1 hk1 hS => ?_)
        try dsimp only at hw_22
        obtain ⟨hP1, hK1, hD1⟩ := hB
        rw [ht] at hP1
        have hK1 := va_K.moved hvm.symm hK1
        obtain ⟨hP, hD⟩ := va_join (wr := [(h0, .inr (8, [.ref hRows, .ref hMer, .ref hEra, .ref hTape, .ref hRea, .ref hTra, .ref hWor, .ref hPla, .ref hMod, .ref hHe1, .ref hHe2, .int 0, .int 0, .int 0, .int 0, .int (-1), .int 0]))]) (w1 := [(hMer, .inr (0, [.ref aT, .ref aN, .int 0])), (aT, .inl (cT, 20, .inl fT)), (aN, .inl (cN, 20, .inl (fun _ => 0)))]) hP hD [2, 3, 1] [0] rfl rfl (by decide) (by decide) hk1 hFc hP1 hD1
        have hK := (hK.sub (tys' := [(cT, .int), (cN, .int), (cT, .int)]) [0, 1, 2] rfl).app hK1
        generalize H1 = H at hP hS ⊢
        have hP : va_P (dC, dI) vwCl [(h0, .inr (8, [.ref hRows, .ref hMer, .ref hEra, .ref hTape, .ref hRea, .ref hTra, .ref hWor, .ref hPla, .ref hMod, .ref hHe1, .ref hHe2, .int 0, .int 0, .int 0, .int 0, .int (-1), .int 0])), (hMer, .inr (0, [.ref aT, .ref aN, .int 0])), (aT, .inl (cT, 20, .inl fT)), (aN, .inl (cN, 20, .inl (fun _ => 0)))] H := hP
        have hD : va_D A [(h0, .inr (8, [.ref hRows, .ref hMer, .ref hEra, .ref hTape, .ref hRea, .ref hTra, .ref hWor, .ref hPla, .ref hMod, .ref hHe1, .ref hHe2, .int 0, .int 0, .int 0, .int 0, .int (-1), .int 0])), (hMer, .inr (0, [.ref aT, .ref aN, .int 0])), (aT, .inl (cT, 20, .inl fT)), (aN, .inl (cN, 20, .inl (fun _ => 0)))] := hD
        have hK : va_K (dC, dI) vwCl [(cT, .int), (cN, .int), (cT, .int), (cT, .int), (cN, .int)] s := hK
        obtain rfl : b = r_20 := hw_22.symm
        refine lv_iload_n hx hb dX8_addMerge_47 rfl (lv_at hl 1 rfl) ?_
        refine lv_icmp_ne (tgt := 54) hx hb dX8_addMerge_48 (by decide) (fun c_23 => ?_) (fun c_23 => ?_)
        · have dc_23 : ¬ b.toInt = a.toInt := jI_ne c_23 rfl rfl
          refine lv_aload_n hx hb dX8_addMerge_54 rfl (lv_at hl 0 rfl) ?_
          refine va_get (D := (dC, dI)) (ci := 8) (v := .ref hMer) (C := RX8) (T := TX8) (N := 17) hx hb hts hIX8 hown hK hP 0 rfl rfl 1 (by decide) (hts (.fieldLink RX8 19 "TraitHouse" "merges" "LTraitHouse$Merges;") (by decide +kernel)) (fun _ h9 => h9) rfl dX8_addMerge_55 ?_
          refine lv_iload_n hx hb dX8_addMerge_58 rfl (lv_at hl 1 rfl) ?_
          refine lv_iload_n hx hb dX8_addMerge_59 rfl (lv_at hl 2 rfl) ?_
          refine lv_iload_n hx hb dX8_addMerge_60 rfl (lv_at hl 3 rfl) ?_
          have hk_24 : (0 : Int32).toInt = 0 := by decide
          have hPc := hP.sub (ws' := [(hMer, .inr (0, [.ref aT, .ref aN, .int 0])), (aT, .inl (cT, 20, .inl fT)), (aN, .inl (cN, 20, .inl (fun _ => 0)))]) [1, 2, 3] rfl
          have hDc := hD.sub (ws' := [(hMer, .inr (0, [.ref aT, .ref aN, .int 0])), (aT, .inl (cT, 20, .inl fT)), (aN, .inl (cN, 20, .inl (fun _ => 0)))]) [1, 2, 3] (by decide) rfl
          have hKc := hK.sub (tys' := [(cT, .int), (cN, .int)]) [0, 1] rfl
          have hFc := va_free (wc := [(hMer, .inr (0, [.ref aT, .ref aN, .int 0])), (aT, .inl (cT, 20, .inl fT)), (aN, .inl (cN, 20, .inl (fun _ => 0)))]) hD hS hA [1, 2, 3] rfl
          refine va_calli (va_runVN (As := [.int a, .int b, .int kn]) (rest := []) ⟨hx, hb, hml, hown, hts⟩ (c_X0_add l dC dI H.size hMer aT aN cT cN fT a b kn (by omega) (by omega)) ⟨(va_cnB 3 hts gX8_addMerge_X0_add_n122 rfl rfl rfl (nw_at hN 40 rfl) (hts (.initialized RX0) (by decide +kernel)) (by decide +kernel) ⟨Nat.le_of_ble_eq_true rfl, Nat.le_of_ble_eq_true rfl⟩), (hts (.instanceMethod yX0_add) (by decide +kernel)), (hts (.selects RX0 yX0_add yX0_add) (by decide +kernel))⟩ ⟨fun a U g mk q => by obtain ⟨q0, q1, qP, qK, qD, qN⟩ := q; exact ⟨q0, q1, qP, va_K.moved (u := U) (U := U.calling g mk a) (Vm.Alike.refl U.vm) qK, qD, qN.same rfl⟩, va_recv hKc hPc (ci := 0) (q0 := 0) rfl rfl, fun U hU hW => ⟨rfl, by rw [hU], by rw [hU]; exact hPc, va_K.moved hW.alike hKc, hDc.weaken (fun _ _ _ _ => trivial), hN.warm hW⟩⟩ rfl rfl hl.1 rfl (lv_room (Nat.le_of_ble_eq_true rfl)) dX8_addMerge_61 ⟨Nat.le_of_ble_eq_true rfl, Nat.le_of_ble_eq_true rfl⟩) hS (fun q _ h => hFc q h) hFc (fun r_25 u_26 t H1 locs ht hvm hw_27 hB hz1 hk1 hS => ?_)
          try dsimp only at hw_27
          have hP1 : va_P (dC, dI) vwCl [] H1 := fun k q h => by simp at h
          have hD1 : va_D (va_A [(hMer, .inr (0, [.ref aT, .ref aN, .int 0])), (aT, .inl (cT, 20, .inl fT)), (aN, .inl (cN, 20, .inl (fun _ => 0)))] H.size) [] := ⟨fun i j p q h => by simp at h, fun k q h => by simp at h⟩
          have hK1 : va_K (dC, dI) vwCl [] s := hK.sub [] rfl
          obtain ⟨hP, hD⟩ := va_join (wr := [(h0, .inr (8, [.ref hRows, .ref hMer, .ref hEra, .ref hTape, .ref hRea, .ref hTra, .ref hWor, .ref hPla, .ref hMod, .ref hHe1, .ref hHe2, .int 0, .int 0, .int 0, .int 0, .int (-1), .int 0]))]) (w1 := []) hP hD [1, 2, 3] [0] rfl rfl (by decide) (by decide) hk1 hFc hP1 hD1
          have hK := (hK.sub (tys' := [(cT, .int), (cN, .int), (cT, .int), (cT, .int), (cN, .int)]) [0, 1, 2, 3, 4] rfl).app hK1
          generalize H1 = H at hP hS ⊢
          have hP : va_P (dC, dI) vwCl [(h0, .inr (8, [.ref hRows, .ref hMer, .ref hEra, .ref hTape, .ref hRea, .ref hTra, .ref hWor, .ref hPla, .ref hMod, .ref hHe1, .ref hHe2, .int 0, .int 0, .int 0, .int 0, .int (-1), .int 0]))] H := hP
          have hD : va_D A [(h0, .inr (8, [.ref hRows, .ref hMer, .ref hEra, .ref hTape, .ref hRea, .ref hTra, .ref hWor, .ref hPla, .ref hMod, .ref hHe1, .ref hHe2, .int 0, .int 0, .int 0, .int 0, .int (-1), .int 0]))] := hD
          have hK : va_K (dC, dI) vwCl [(cT, .int), (cN, .int), (cT, .int), (cT, .int), (cN, .int)] s := hK
          obtain rfl : 1 = r_25 := hw_27.symm
          have hP9 := hP.sub (ws' := [(h0, .inr (8, [.ref hRows, .ref hMer, .ref hEra, .ref hTape, .ref hRea, .ref hTra, .ref hWor, .ref hPla, .ref hMod, .ref hHe1, .ref hHe2, .int 0, .int 0, .int 0, .int 0, .int (-1), .int 0]))]) [0] rfl
          have hD9 := hD.sub (ws' := [(h0, .inr (8, [.ref hRows, .ref hMer, .ref hEra, .ref hTape, .ref hRea, .ref hTra, .ref hWor, .ref hPla, .ref hMod, .ref hHe1, .ref hHe2, .int 0, .int 0, .int 0, .int 0, .int (-1), .int 0]))]) [0] (by decide) rfl
          have hK9 := hK.sub (tys' := []) [] rfl
          have hans : (1 : Int32).toInt = 1 := (by decide)
          exact W.iret (v := 1) hx hb hr (fun t ht hW => ⟨⟨1, (), rfl, by first | omega | (dsimp only; omega), by rw [ht]; exact hP9, va_K.moved hW.alike hK9, hD9⟩, hS.F ht⟩) hS.2.2 dX8_addMerge_64
        · have dc_23 : b.toInt = a.toInt := jI_eq c_23 rfl rfl
          refine lv_bipush (v := (-4)) hx hb dX8_addMerge_51 (by decide) ?_
          have hP9 := hP.sub (ws' := [(h0, .inr (8, [.ref hRows, .ref hMer, .ref hEra, .ref hTape, .ref hRea, .ref hTra, .ref hWor, .ref hPla, .ref hMod, .ref hHe1, .ref hHe2, .int 0, .int 0, .int 0, .int 0, .int (-1), .int 0]))]) [0] rfl
          have hD9 := hD.sub (ws' := [(h0, .inr (8, [.ref hRows, .ref hMer, .ref hEra, .ref hTape, .ref hRea, .ref hTra, .ref hWor, .ref hPla, .ref hMod, .ref hHe1, .ref hHe2, .int 0, .int 0, .int 0, .int 0, .int (-1), .int 0]))]) [0] (by decide) rfl
          have hK9 := hK.sub (tys' := []) [] rfl
          have hans : ((-4) : Int32).toInt = (-4) := (by decide)
          exact W.iret (v := (-4)) hx hb hr (fun t ht hW => ⟨⟨(-4), (), rfl, by first | omega | (dsimp only; omega), by rw [ht]; exact hP9, va_K.moved hW.alike hK9, hD9⟩, hS.F ht⟩) hS.2.2 dX8_addMerge_53
      · have dc_12 : r_9.toInt = 0 := jI_eq c_12 rfl (by decide)
        refine lv_bipush (v := (-2)) hx hb dX8_addMerge_23 (by decide) ?_
        have hP9 := hP.sub (ws' := [(h0, .inr (8, [.ref hRows, .ref hMer, .ref hEra, .ref hTape, .ref hRea, .ref hTra, .ref hWor, .ref hPla, .ref hMod, .ref hHe1, .ref hHe2, .int 0, .int 0, .int 0, .int 0, .int (-1), .int 0]))]) [0] rfl
        have hD9 := hD.sub (ws' := [(h0, .inr (8, [.ref hRows, .ref hMer, .ref hEra, .ref hTape, .ref hRea, .ref hTra, .ref hWor, .ref hPla, .ref hMod, .ref hHe1, .ref hHe2, .int 0, .int 0, .int 0, .int 0, .int (-1), .int 0]))]) [0] (by decide) rfl
        have hK9 := hK.sub (tys' := []) [] rfl
        have hans : ((-2) : Int32).toInt = (-2) := (by decide)
        exact W.iret (v := (-2)) hx hb hr (fun t ht hW => ⟨⟨(-2), (), rfl, by first | omega | (dsimp only; omega), by rw [ht]; exact hP9, va_K.moved hW.alike hK9, hD9⟩, hS.F ht⟩) hS.2.2 dX8_addMerge_25
  · have dc_4 : r_1.toInt = 0 := jI_eq c_4 rfl (by decide)
    refine lv_iconst (v := (-1)) hx hb dX8_addMerge_7 (by decide) ?_
    have hP9 := hP.sub (ws' := [(h0, .inr (8, [.ref hRows, .ref hMer, .ref hEra, .ref hTape, .ref hRea, .ref hTra, .ref hWor, .ref hPla, .ref hMod, .ref hHe1, .ref hHe2, .int 0, .int 0, .int 0, .int 0, .int (-1), .int 0]))]) [0] rfl
    have hD9 := hD.sub (ws' := [(h0, .inr (8, [.ref hRows, .ref hMer, .ref hEra, .ref hTape, .ref hRea, .ref hTra, .ref hWor, .ref hPla, .ref hMod, .ref hHe1, .ref hHe2, .int 0, .int 0, .int 0, .int 0, .int (-1), .int 0]))]) [0] (by decide) rfl
    have hK9 := hK.sub (tys' := []) [] rfl
    have hans : ((-1) : Int32).toInt = (-1) := (by decide)
    exact W.iret (v := (-1)) hx hb hr (fun t ht hW => ⟨⟨(-1), (), rfl, by first | omega | (dsimp only; omega), by rw [ht]; exact hP9, va_K.moved hW.alike hK9, hD9⟩, hS.F ht⟩) hS.2.2 dX8_addMerge_8

set_option maxHeartbeats 4000000 in
set_option maxRecDepth 100000 in
theorem c_X8_merge (l : Launch) (dC : Nat → ClassId) (dI : Nat → Nat → Nat) (sz : Nat) (h0 : Nat) (hRows : Nat) (hMer : Nat) (hEra : Nat) (hTape : Nat) (hRea : Nat) (hTra : Nat) (hWor : Nat) (hPla : Nat) (hMod : Nat) (hHe1 : Nat) (hHe2 : Nat) (aT : Nat) (aN : Nat) (cT : ClassId) (cN : ClassId) (fT : Nat → Int32) (a : Int32) (b : Int32) (kn : Int32) (hT : ∀ k : Nat, k < 20 → fT k = (-1)) : Met l yX8_merge wsX8_merge ({ frames := 3, cells := 0, slots := 0, locals := 68 }) (va_Pc [.ref h0, .int a, .int b, .int kn] (fun U => U.heap.size = sz ∧ va_P (dC, dI) vwCl [(h0, .inr (8, [.ref hRows, .ref hMer, .ref hEra, .ref hTape, .ref hRea, .ref hTra, .ref hWor, .ref hPla, .ref hMod, .ref hHe1, .ref hHe2, .int 0, .int 0, .int 0, .int 0, .int (-1), .int 0])), (hMer, .inr (0, [.ref aT, .ref aN, .int 0])), (aT, .inl (cT, 20, .inl fT)), (aN, .inl (cN, 20, .inl (fun _ => 0)))] U.heap ∧ va_K (dC, dI) vwCl [(cT, .int), (cN, .int)] U ∧ va_D (fun _ => True) [(h0, .inr (8, [.ref hRows, .ref hMer, .ref hEra, .ref hTape, .ref hRea, .ref hTra, .ref hWor, .ref hPla, .ref hMod, .ref hHe1, .ref hHe2, .int 0, .int 0, .int 0, .int 0, .int (-1), .int 0])), (hMer, .inr (0, [.ref aT, .ref aN, .int 0])), (aT, .inl (cT, 20, .inl fT)), (aN, .inl (cN, 20, .inl (fun _ => 0)))] ∧ nw_ok U)) (va_Qi (fun (r : Int32) (_ : Unit) => (¬ (0 ≤ kn.toInt ∧ kn.toInt ≤ 100000) → r.toInt = (-1)) ∧ ((0 ≤ kn.toInt ∧ kn.toInt ≤ 100000) ∧ ¬ (0 ≤ a.toInt ∧ a.toInt ≤ 19 ∧ 0 ≤ b.toInt ∧ b.toInt ≤ 19) → r.toInt = (-2)) ∧ ((0 ≤ kn.toInt ∧ kn.toInt ≤ 100000) ∧ (0 ≤ a.toInt ∧ a.toInt ≤ 19 ∧ 0 ≤ b.toInt ∧ b.toInt ≤ 19) ∧ a.toInt = b.toInt → r.toInt = (-4)) ∧ ((0 ≤ kn.toInt ∧ kn.toInt ≤ 100000) ∧ (0 ≤ a.toInt ∧ a.toInt ≤ 19 ∧ 0 ≤ b.toInt ∧ b.toInt ≤ 19) ∧ ¬ a.toInt = b.toInt → r.toInt = 1)) (fun (_ : Unit) (t : State) => True) (va_A [(h0, .inr (8, [.ref hRows, .ref hMer, .ref hEra, .ref hTape, .ref hRea, .ref hTra, .ref hWor, .ref hPla, .ref hMod, .ref hHe1, .ref hHe2, .int 0, .int 0, .int 0, .int 0, .int (-1), .int 0])), (hMer, .inr (0, [.ref aT, .ref aN, .int 0])), (aT, .inl (cT, 20, .inl fT)), (aN, .inl (cN, 20, .inl (fun _ => 0)))] sz)) 0 0 (va_A [(h0, .inr (8, [.ref hRows, .ref hMer, .ref hEra, .ref hTape, .ref hRea, .ref hTra, .ref hWor, .ref hPla, .ref hMod, .ref hHe1, .ref hHe2, .int 0, .int 0, .int 0, .int 0, .int (-1), .int 0])), (hMer, .inr (0, [.ref aT, .ref aN, .int 0])), (aT, .inl (cT, 20, .inl fT)), (aN, .inl (cN, 20, .inl (fun _ => 0)))] sz) := by
  refine Met.ofW (cc := cX8_merge) (maxL := 4) (ret := (some .int)) (by decide) rfl ?_
  intro p e s m args below meth c s₁ B hml hv
  obtain ⟨rfl, hsz, hP, hK, hD0, hN⟩ := hv
  have hx := B.exec
  have hb := B.bytes
  have hr := B.returns
  have hts := atoms_spec (ws := wsX8_merge) B.pre
  have hown : s.vm.findClass RX8 = some m.cls := findClass_of_methodNamed B.named
  have hlocks := B.notSynchronized
  subst hsz
  have hD := hD0.self (sz := s.heap.size)
  generalize hAe : va_A [(h0, .inr (8, [.ref hRows, .ref hMer, .ref hEra, .ref hTape, .ref hRea, .ref hTra, .ref hWor, .ref hPla, .ref hMod, .ref hHe1, .ref hHe2, .int 0, .int 0, .int 0, .int 0, .int (-1), .int 0])), (hMer, .inr (0, [.ref aT, .ref aN, .int 0])), (aT, .inl (cT, 20, .inl fT)), (aN, .inl (cN, 20, .inl (fun _ => 0)))] s.heap.size = A at hD ⊢
  have hA : ∀ q : Nat, s.heap.size ≤ q → A q := fun q h => by rw [← hAe]; exact Or.inr h
  have hS : va_S A s.heap s.heap [] := va_S.rf
  have hP : va_P (dC, dI) vwCl [(h0, .inr (8, [.ref hRows, .ref hMer, .ref hEra, .ref hTape, .ref hRea, .ref hTra, .ref hWor, .ref hPla, .ref hMod, .ref hHe1, .ref hHe2, .int 0, .int 0, .int 0, .int 0, .int (-1), .int 0])), (hMer, .inr (0, [.ref aT, .ref aN, .int 0])), (aT, .inl (cT, 20, .inl fT)), (aN, .inl (cN, 20, .inl (fun _ => 0)))] s.heap := hP
  have hl := lv_entry ([.ref h0, .int a, .int b, .int kn]) (n := 4) (Nat.le_of_ble_eq_true rfl)
  rw [lg_entry_eq]
  generalize (lg_sl ([.ref h0, .int a, .int b, .int kn]) ++ List.replicate (4 - (lg_sl ([.ref h0, .int a, .int b, .int kn])).length) Slot.unset).toArray = ls at hl ⊢
  have hl : lv_has ls 4 [(0, .ref h0), (1, .int a), (2, .int b), (3, .int kn)] := hl
  refine lv_aload_n hx hb dX8_merge_0 rfl (lv_at hl 0 rfl) ?_
  refine lv_aload_n hx hb dX8_merge_1 rfl (lv_at hl 0 rfl) ?_
  refine lv_iload_n hx hb dX8_merge_2 rfl (lv_at hl 1 rfl) ?_
  refine lv_iload_n hx hb dX8_merge_3 rfl (lv_at hl 2 rfl) ?_
  refine lv_iload_n hx hb dX8_merge_4 rfl (lv_at hl 3 rfl) ?_
  have hk_1 : (0 : Int32).toInt = 0 := by decide
  have hk_2 : ((-1) : Int32).toInt = (-1) := by decide
  have hPc := hP.sub (ws' := [(h0, .inr (8, [.ref hRows, .ref hMer, .ref hEra, .ref hTape, .ref hRea, .ref hTra, .ref hWor, .ref hPla, .ref hMod, .ref hHe1, .ref hHe2, .int 0, .int 0, .int 0, .int 0, .int (-1), .int 0])), (hMer, .inr (0, [.ref aT, .ref aN, .int 0])), (aT, .inl (cT, 20, .inl fT)), (aN, .inl (cN, 20, .inl (fun _ => 0)))]) [0, 1, 2, 3] rfl
  have hDc := hD.sub (ws' := [(h0, .inr (8, [.ref hRows, .ref hMer, .ref hEra, .ref hTape, .ref hRea, .ref hTra, .ref hWor, .ref hPla, .ref hMod, .ref hHe1, .ref hHe2, .int 0, .int 0, .int 0, .int 0, .int (-1), .int 0])), (hMer, .inr (0, [.ref aT, .ref aN, .int 0])), (aT, .inl (cT, 20, .inl fT)), (aN, .inl (cN, 20, .inl (fun _ => 0)))]) [0, 1, 2, 3] (by decide) rfl
  have hKc := hK.sub (tys' := [(cT, .int), (cN, .int)]) [0, 1] rfl
  have hFc := va_free (wc := [(h0, .inr (8, [.ref hRows, .ref hMer, .ref hEra, .ref hTape, .ref hRea, .ref hTra, .ref hWor, .ref hPla, .ref hMod, .ref hHe1, .ref hHe2, .int 0, .int 0, .int 0, .int 0, .int (-1), .int 0])), (hMer, .inr (0, [.ref aT, .ref aN, .int 0])), (aT, .inl (cT, 20, .inl fT)), (aN, .inl (cN, 20, .inl (fun _ => 0)))]) hD hS hA [0, 1, 2, 3] rfl
  refine va_calli (va_runV (As := [.int a, .int b, .int kn]) (rest := [.ref h0]) ⟨hx, hb, hml, hown, hts⟩ (c_X8_addMerge l dC dI s.heap.size h0 hRows hMer hEra hTape hRea hTra hWor hPla hMod hHe1 hHe2 aT aN cT cN fT a b kn hT) (cwV 3 hts gX8_merge_X8_addMerge rfl rfl rfl (by decide +kernel) ⟨Nat.le_of_ble_eq_true rfl, Nat.le_of_ble_eq_true rfl⟩) ⟨fun a U g mk q => by obtain ⟨q0, q1, qP, qK, qD, qN⟩ := q; exact ⟨q0, q1, qP, va_K.moved (u := U) (U := U.calling g mk a) (Vm.Alike.refl U.vm) qK, qD, qN.same rfl⟩, va_recv hKc hPc (ci := 8) (q0 := 0) rfl rfl, fun U hU hW => ⟨rfl, by rw [hU], by rw [hU]; exact hPc, va_K.moved hW.alike hKc, hDc.weaken (fun _ _ _ _ => trivial), hN.warm hW⟩⟩ rfl rfl hl.1 rfl (lv_room (Nat.le_of_ble_eq_true rfl)) dX8_merge_5 ⟨Nat.le_of_ble_eq_true rfl, Nat.le_of_ble_eq_true rfl⟩) hS (fun q _ h => hFc q h) hFc (fun r_3 u_4 t H1 locs ht hvm hw_5 hB hz1 hk1 hS => ?_)
  try dsimp only at hw_5
  obtain ⟨hP1, hK1, hD1⟩ := hB
  rw [ht] at hP1
  have hK1 := va_K.moved hvm.symm hK1
  obtain ⟨hP, hD⟩ := va_join (wr := []) (w1 := [(h0, .inr (8, [.ref hRows, .ref hMer, .ref hEra, .ref hTape, .ref hRea, .ref hTra, .ref hWor, .ref hPla, .ref hMod, .ref hHe1, .ref hHe2, .int 0, .int 0, .int 0, .int 0, .int (-1), .int 0]))]) hP hD [0, 1, 2, 3] [] rfl rfl (by decide) (by decide) hk1 hFc hP1 hD1
  have hK := (hK.sub (tys' := [(cT, .int), (cN, .int)]) [0, 1] rfl).app hK1
  generalize H1 = H at hP hS ⊢
  have hP : va_P (dC, dI) vwCl [(h0, .inr (8, [.ref hRows, .ref hMer, .ref hEra, .ref hTape, .ref hRea, .ref hTra, .ref hWor, .ref hPla, .ref hMod, .ref hHe1, .ref hHe2, .int 0, .int 0, .int 0, .int 0, .int (-1), .int 0]))] H := hP
  have hD : va_D A [(h0, .inr (8, [.ref hRows, .ref hMer, .ref hEra, .ref hTape, .ref hRea, .ref hTra, .ref hWor, .ref hPla, .ref hMod, .ref hHe1, .ref hHe2, .int 0, .int 0, .int 0, .int 0, .int (-1), .int 0]))] := hD
  have hK : va_K (dC, dI) vwCl [(cT, .int), (cN, .int)] s := hK
  have hk_6 : (0 : Int32).toInt = 0 := by decide
  have hk_7 : ((-1) : Int32).toInt = (-1) := by decide
  have hPc := hP.sub (ws' := [(h0, .inr (8, [.ref hRows, .ref hMer, .ref hEra, .ref hTape, .ref hRea, .ref hTra, .ref hWor, .ref hPla, .ref hMod, .ref hHe1, .ref hHe2, .int 0, .int 0, .int 0, .int 0, .int (-1), .int 0]))]) [0] rfl
  have hDc := hD.sub (ws' := [(h0, .inr (8, [.ref hRows, .ref hMer, .ref hEra, .ref hTape, .ref hRea, .ref hTra, .ref hWor, .ref hPla, .ref hMod, .ref hHe1, .ref hHe2, .int 0, .int 0, .int 0, .int 0, .int (-1), .int 0]))]) [0] (by decide) rfl
  have hKc := hK.sub (tys' := []) [] rfl
  have hFc := va_free (wc := [(h0, .inr (8, [.ref hRows, .ref hMer, .ref hEra, .ref hTape, .ref hRea, .ref hTra, .ref hWor, .ref hPla, .ref hMod, .ref hHe1, .ref hHe2, .int 0, .int 0, .int 0, .int 0, .int (-1), .int 0]))]) hD hS hA [0] rfl
  refine va_calli (va_runV (As := [.int r_3]) (rest := []) ⟨hx, hb, hml, hown, hts⟩ (c_X8_settle l dC dI H.size h0 hRows hMer hEra hTape hRea hTra hWor hPla hMod hHe1 hHe2 0 0 0 0 (-1) 0 r_3 ) (cwV 1 hts gX8_merge_X8_settle rfl rfl rfl (by decide +kernel) ⟨Nat.le_of_ble_eq_true rfl, Nat.le_of_ble_eq_true rfl⟩) ⟨fun a U g mk q => by obtain ⟨q0, q1, qP, qK, qD, qN⟩ := q; exact ⟨q0, q1, qP, va_K.moved (u := U) (U := U.calling g mk a) (Vm.Alike.refl U.vm) qK, qD, qN.same rfl⟩, va_recv hKc hPc (ci := 8) (q0 := 0) rfl rfl, fun U hU hW => ⟨rfl, by rw [hU], by rw [hU]; exact hPc, va_K.moved hW.alike hKc, hDc.weaken (fun _ _ _ _ => trivial), hN.warm hW⟩⟩ rfl rfl hl.1 rfl (lv_room (Nat.le_of_ble_eq_true rfl)) dX8_merge_8 ⟨Nat.le_of_ble_eq_true rfl, Nat.le_of_ble_eq_true rfl⟩) hS (fun q _ h => hFc q h) hFc (fun r_8 u_9 t H1 locs ht hvm hw_10 hB hz1 hk1 hS => ?_)
  obtain ⟨w_11, rfl⟩ : ∃ z, z = u_9 := ⟨_, rfl⟩
  try dsimp only at hw_10
  obtain ⟨hP1, hK1, hD1⟩ := hB
  rw [ht] at hP1
  have hK1 := va_K.moved hvm.symm hK1
  obtain ⟨hP, hD⟩ := va_join (wr := []) (w1 := [(h0, .inr (8, [.ref hRows, .ref hMer, .ref hEra, .ref hTape, .ref hRea, .ref hTra, .ref hWor, .ref hPla, .ref hMod, .ref hHe1, .ref hHe2, .int 0, .int 0, .int 0, .int 0, .int (-1), .int w_11]))]) hP hD [0] [] rfl rfl (by decide) (by decide) hk1 hFc hP1 hD1
  have hK := (hK.sub (tys' := [(cT, .int), (cN, .int)]) [0, 1] rfl).app hK1
  generalize H1 = H at hP hS ⊢
  have hP : va_P (dC, dI) vwCl [(h0, .inr (8, [.ref hRows, .ref hMer, .ref hEra, .ref hTape, .ref hRea, .ref hTra, .ref hWor, .ref hPla, .ref hMod, .ref hHe1, .ref hHe2, .int 0, .int 0, .int 0, .int 0, .int (-1), .int w_11]))] H := hP
  have hD : va_D A [(h0, .inr (8, [.ref hRows, .ref hMer, .ref hEra, .ref hTape, .ref hRea, .ref hTra, .ref hWor, .ref hPla, .ref hMod, .ref hHe1, .ref hHe2, .int 0, .int 0, .int 0, .int 0, .int (-1), .int w_11]))] := hD
  have hK : va_K (dC, dI) vwCl [(cT, .int), (cN, .int)] s := hK
  obtain rfl : r_3 = r_8 := hw_10.symm
  have hans : (r_3 : Int32).toInt = r_3.toInt := rfl
  exact W.iret (v := r_3) hx hb hr (fun t ht hW => ⟨⟨r_3, (), rfl, by first | omega | (dsimp only; omega), trivial⟩, hS.F ht⟩) hS.2.2 dX8_merge_11

set_option maxHeartbeats 4000000 in
set_option maxRecDepth 100000 in
theorem c_X8_leads (l : Launch) (dC : Nat → ClassId) (dI : Nat → Nat → Nat) (sz : Nat) (h0 : Nat) (hRows : Nat) (hMer : Nat) (hEra : Nat) (hTape : Nat) (hRea : Nat) (hTra : Nat) (hWor : Nat) (hPla : Nat) (hMod : Nat) (hHe1 : Nat) (hHe2 : Nat) (aT : Nat) (aN : Nat) (cT : ClassId) (cN : ClassId) (fT : Nat → Int32) (a : Int32) (kn : Int32) (hT : ∀ k : Nat, k < 20 → fT k = (-1)) : Met l yX8_leads wsX8_leads ({ frames := 2, cells := 0, slots := 0, locals := 45 }) (va_Pc [.ref h0, .int a, .int kn] (fun U => U.heap.size = sz ∧ va_P (dC, dI) vwCl [(h0, .inr (8, [.ref hRows, .ref hMer, .ref hEra, .ref hTape, .ref hRea, .ref hTra, .ref hWor, .ref hPla, .ref hMod, .ref hHe1, .ref hHe2, .int 0, .int 0, .int 0, .int 0, .int (-1), .int 0])), (hMer, .inr (0, [.ref aT, .ref aN, .int 0])), (aT, .inl (cT, 20, .inl fT)), (aN, .inl (cN, 20, .inl (fun _ => 0)))] U.heap ∧ va_K (dC, dI) vwCl [(cT, .int), (cN, .int)] U ∧ va_D (fun _ => True) [(h0, .inr (8, [.ref hRows, .ref hMer, .ref hEra, .ref hTape, .ref hRea, .ref hTra, .ref hWor, .ref hPla, .ref hMod, .ref hHe1, .ref hHe2, .int 0, .int 0, .int 0, .int 0, .int (-1), .int 0])), (hMer, .inr (0, [.ref aT, .ref aN, .int 0])), (aT, .inl (cT, 20, .inl fT)), (aN, .inl (cN, 20, .inl (fun _ => 0)))] ∧ nw_ok U)) (va_Qi (fun (r : Int32) (_ : Unit) => (0 ≤ a.toInt ∧ a.toInt ≤ 19 ∧ 0 ≤ kn.toInt ∧ kn.toInt ≤ 100000 → r.toInt = a.toInt) ∧ (¬ (0 ≤ a.toInt ∧ a.toInt ≤ 19 ∧ 0 ≤ kn.toInt ∧ kn.toInt ≤ 100000) → r.toInt = (-1))) (fun (_ : Unit) (t : State) => True) (va_A [(h0, .inr (8, [.ref hRows, .ref hMer, .ref hEra, .ref hTape, .ref hRea, .ref hTra, .ref hWor, .ref hPla, .ref hMod, .ref hHe1, .ref hHe2, .int 0, .int 0, .int 0, .int 0, .int (-1), .int 0])), (hMer, .inr (0, [.ref aT, .ref aN, .int 0])), (aT, .inl (cT, 20, .inl fT)), (aN, .inl (cN, 20, .inl (fun _ => 0)))] sz)) 0 0 (va_A [(h0, .inr (8, [.ref hRows, .ref hMer, .ref hEra, .ref hTape, .ref hRea, .ref hTra, .ref hWor, .ref hPla, .ref hMod, .ref hHe1, .ref hHe2, .int 0, .int 0, .int 0, .int 0, .int (-1), .int 0])), (hMer, .inr (0, [.ref aT, .ref aN, .int 0])), (aT, .inl (cT, 20, .inl fT)), (aN, .inl (cN, 20, .inl (fun _ => 0)))] sz) := by
  refine Met.ofW (cc := cX8_leads) (maxL := 3) (ret := (some .int)) (by decide) rfl ?_
  intro p e s m args below meth c s₁ B hml hv
  obtain ⟨rfl, hsz, hP, hK, hD0, hN⟩ := hv
  have hx := B.exec
  have hb := B.bytes
  have hr := B.returns
  have hts := atoms_spec (ws := wsX8_leads) B.pre
  have hown : s.vm.findClass RX8 = some m.cls := findClass_of_methodNamed B.named
  have hlocks := B.notSynchronized
  subst hsz
  have hD := hD0.self (sz := s.heap.size)
  generalize hAe : va_A [(h0, .inr (8, [.ref hRows, .ref hMer, .ref hEra, .ref hTape, .ref hRea, .ref hTra, .ref hWor, .ref hPla, .ref hMod, .ref hHe1, .ref hHe2, .int 0, .int 0, .int 0, .int 0, .int (-1), .int 0])), (hMer, .inr (0, [.ref aT, .ref aN, .int 0])), (aT, .inl (cT, 20, .inl fT)), (aN, .inl (cN, 20, .inl (fun _ => 0)))] s.heap.size = A at hD ⊢
  have hA : ∀ q : Nat, s.heap.size ≤ q → A q := fun q h => by rw [← hAe]; exact Or.inr h
  have hS : va_S A s.heap s.heap [] := va_S.rf
  have hP : va_P (dC, dI) vwCl [(h0, .inr (8, [.ref hRows, .ref hMer, .ref hEra, .ref hTape, .ref hRea, .ref hTra, .ref hWor, .ref hPla, .ref hMod, .ref hHe1, .ref hHe2, .int 0, .int 0, .int 0, .int 0, .int (-1), .int 0])), (hMer, .inr (0, [.ref aT, .ref aN, .int 0])), (aT, .inl (cT, 20, .inl fT)), (aN, .inl (cN, 20, .inl (fun _ => 0)))] s.heap := hP
  have hIX8 : ∀ w ∈ u_ws RX8 TX8 17, w ∈ wsX8_leads := by decide +kernel
  have hl := lv_entry ([.ref h0, .int a, .int kn]) (n := 3) (Nat.le_of_ble_eq_true rfl)
  rw [lg_entry_eq]
  generalize (lg_sl ([.ref h0, .int a, .int kn]) ++ List.replicate (3 - (lg_sl ([.ref h0, .int a, .int kn])).length) Slot.unset).toArray = ls at hl ⊢
  have hl : lv_has ls 3 [(0, .ref h0), (1, .int a), (2, .int kn)] := hl
  refine lv_iload_n hx hb dX8_leads_0 rfl (lv_at hl 1 rfl) ?_
  have hPc := hP.sub (ws' := []) [] rfl
  have hDc := hD.sub (ws' := []) [] (by decide) rfl
  have hKc := hK.sub (tys' := []) [] rfl
  have hFc := va_free (wc := []) hD hS hA [] rfl
  refine va_calli (va_runS (As := [.int a]) (rest := []) ⟨hx, hb, hml, hown, hts⟩ (c_X8_isPerson l dC dI s.heap.size a ) (va_cwS 1 hts gX8_leads_X8_isPerson rfl rfl rfl (by decide +kernel) ⟨Nat.le_of_ble_eq_true rfl, Nat.le_of_ble_eq_true rfl⟩) ⟨fun a U g mk q => by obtain ⟨q0, q1, qP, qK, qD, qN⟩ := q; exact ⟨q0, q1, qP, va_K.moved (u := U) (U := U.calling g mk a) (Vm.Alike.refl U.vm) qK, qD, qN.same rfl⟩, fun U hU hW => ⟨rfl, by rw [hU], by rw [hU]; exact hPc, va_K.moved hW.alike hKc, hDc.weaken (fun _ _ _ _ => trivial), hN.warm hW⟩⟩ rfl rfl hl.1 rfl (lv_room (Nat.le_of_ble_eq_true rfl)) dX8_leads_1 ⟨Nat.le_of_ble_eq_true rfl, Nat.le_of_ble_eq_true rfl⟩) hS (fun q _ h => hFc q h) hFc (fun r_1 u_2 t H1 locs ht hvm hw_3 hB hz1 hk1 hS => ?_)
  try dsimp only at hw_3
  obtain ⟨hP1, hK1, hD1⟩ := hB
  rw [ht] at hP1
  have hK1 := va_K.moved hvm.symm hK1
  obtain ⟨hP, hD⟩ := va_join (wr := [(h0, .inr (8, [.ref hRows, .ref hMer, .ref hEra, .ref hTape, .ref hRea, .ref hTra, .ref hWor, .ref hPla, .ref hMod, .ref hHe1, .ref hHe2, .int 0, .int 0, .int 0, .int 0, .int (-1), .int 0])), (hMer, .inr (0, [.ref aT, .ref aN, .int 0])), (aT, .inl (cT, 20, .inl fT)), (aN, .inl (cN, 20, .inl (fun _ => 0)))]) (w1 := []) hP hD [] [0, 1, 2, 3] rfl rfl (by decide) (by decide) hk1 hFc hP1 hD1
  have hK := (hK.sub (tys' := [(cT, .int), (cN, .int)]) [0, 1] rfl).app hK1
  generalize H1 = H at hP hS ⊢
  have hP : va_P (dC, dI) vwCl [(h0, .inr (8, [.ref hRows, .ref hMer, .ref hEra, .ref hTape, .ref hRea, .ref hTra, .ref hWor, .ref hPla, .ref hMod, .ref hHe1, .ref hHe2, .int 0, .int 0, .int 0, .int 0, .int (-1), .int 0])), (hMer, .inr (0, [.ref aT, .ref aN, .int 0])), (aT, .inl (cT, 20, .inl fT)), (aN, .inl (cN, 20, .inl (fun _ => 0)))] H := hP
  have hD : va_D A [(h0, .inr (8, [.ref hRows, .ref hMer, .ref hEra, .ref hTape, .ref hRea, .ref hTra, .ref hWor, .ref hPla, .ref hMod, .ref hHe1, .ref hHe2, .int 0, .int 0, .int 0, .int 0, .int (-1), .int 0])), (hMer, .inr (0, [.ref aT, .ref aN, .int 0])), (aT, .inl (cT, 20, .inl fT)), (aN, .inl (cN, 20, .inl (fun _ => 0)))] := hD
  have hK : va_K (dC, dI) vwCl [(cT, .int), (cN, .int)] s := hK
  refine lv_if_eq (tgt := 14) hx hb dX8_leads_4 (by decide) (fun c_4 => ?_) (fun c_4 => ?_)
  · have dc_4 : r_1.toInt = 0 := jI_eq c_4 rfl (by decide)
    refine lv_iconst (v := (-1)) hx hb dX8_leads_14 (by decide) ?_
    have hans : ((-1) : Int32).toInt = (-1) := (by decide)
    exact W.iret (v := (-1)) hx hb hr (fun t ht hW => ⟨⟨(-1), (), rfl, by first | omega | (dsimp only; omega), trivial⟩, hS.F ht⟩) hS.2.2 dX8_leads_15
  · have dc_4 : ¬ r_1.toInt = 0 := jI_ne c_4 rfl (by decide)
    refine lv_iload_n hx hb dX8_leads_7 rfl (lv_at hl 2 rfl) ?_
    have hPc := hP.sub (ws' := []) [] rfl
    have hDc := hD.sub (ws' := []) [] (by decide) rfl
    have hKc := hK.sub (tys' := []) [] rfl
    have hFc := va_free (wc := []) hD hS hA [] rfl
    refine va_calli (va_runS (As := [.int kn]) (rest := []) ⟨hx, hb, hml, hown, hts⟩ (c_X8_isMoment l dC dI H.size kn ) (va_cwS 1 hts gX8_leads_X8_isMoment rfl rfl rfl (by decide +kernel) ⟨Nat.le_of_ble_eq_true rfl, Nat.le_of_ble_eq_true rfl⟩) ⟨fun a U g mk q => by obtain ⟨q0, q1, qP, qK, qD, qN⟩ := q; exact ⟨q0, q1, qP, va_K.moved (u := U) (U := U.calling g mk a) (Vm.Alike.refl U.vm) qK, qD, qN.same rfl⟩, fun U hU hW => ⟨rfl, by rw [hU], by rw [hU]; exact hPc, va_K.moved hW.alike hKc, hDc.weaken (fun _ _ _ _ => trivial), hN.warm hW⟩⟩ rfl rfl hl.1 rfl (lv_room (Nat.le_of_ble_eq_true rfl)) dX8_leads_8 ⟨Nat.le_of_ble_eq_true rfl, Nat.le_of_ble_eq_true rfl⟩) hS (fun q _ h => hFc q h) hFc (fun r_5 u_6 t H1 locs ht hvm hw_7 hB hz1 hk1 hS => ?_)
    try dsimp only at hw_7
    obtain ⟨hP1, hK1, hD1⟩ := hB
    rw [ht] at hP1
    have hK1 := va_K.moved hvm.symm hK1
    obtain ⟨hP, hD⟩ := va_join (wr := [(h0, .inr (8, [.ref hRows, .ref hMer, .ref hEra, .ref hTape, .ref hRea, .ref hTra, .ref hWor, .ref hPla, .ref hMod, .ref hHe1, .ref hHe2, .int 0, .int 0, .int 0, .int 0, .int (-1), .int 0])), (hMer, .inr (0, [.ref aT, .ref aN, .int 0])), (aT, .inl (cT, 20, .inl fT)), (aN, .inl (cN, 20, .inl (fun _ => 0)))]) (w1 := []) hP hD [] [0, 1, 2, 3] rfl rfl (by decide) (by decide) hk1 hFc hP1 hD1
    have hK := (hK.sub (tys' := [(cT, .int), (cN, .int)]) [0, 1] rfl).app hK1
    generalize H1 = H at hP hS ⊢
    have hP : va_P (dC, dI) vwCl [(h0, .inr (8, [.ref hRows, .ref hMer, .ref hEra, .ref hTape, .ref hRea, .ref hTra, .ref hWor, .ref hPla, .ref hMod, .ref hHe1, .ref hHe2, .int 0, .int 0, .int 0, .int 0, .int (-1), .int 0])), (hMer, .inr (0, [.ref aT, .ref aN, .int 0])), (aT, .inl (cT, 20, .inl fT)), (aN, .inl (cN, 20, .inl (fun _ => 0)))] H := hP
    have hD : va_D A [(h0, .inr (8, [.ref hRows, .ref hMer, .ref hEra, .ref hTape, .ref hRea, .ref hTra, .ref hWor, .ref hPla, .ref hMod, .ref hHe1, .ref hHe2, .int 0, .int 0, .int 0, .int 0, .int (-1), .int 0])), (hMer, .inr (0, [.ref aT, .ref aN, .int 0])), (aT, .inl (cT, 20, .inl fT)), (aN, .inl (cN, 20, .inl (fun _ => 0)))] := hD
    have hK : va_K (dC, dI) vwCl [(cT, .int), (cN, .int)] s := hK
    refine lv_if_ne (tgt := 16) hx hb dX8_leads_11 (by decide) (fun c_8 => ?_) (fun c_8 => ?_)
    · have dc_8 : ¬ r_5.toInt = 0 := jI_ne c_8 rfl (by decide)
      refine lv_aload_n hx hb dX8_leads_16 rfl (lv_at hl 0 rfl) ?_
      refine va_get (D := (dC, dI)) (ci := 8) (v := .ref hMer) (C := RX8) (T := TX8) (N := 17) hx hb hts hIX8 hown hK hP 0 rfl rfl 1 (by decide) (hts (.fieldLink RX8 19 "TraitHouse" "merges" "LTraitHouse$Merges;") (by decide +kernel)) (fun _ h9 => h9) rfl dX8_leads_17 ?_
      refine lv_iload_n hx hb dX8_leads_20 rfl (lv_at hl 1 rfl) ?_
      refine lv_iload_n hx hb dX8_leads_21 rfl (lv_at hl 2 rfl) ?_
      have hk_9 : (0 : Int32).toInt = 0 := by decide
      have hPc := hP.sub (ws' := [(hMer, .inr (0, [.ref aT, .ref aN, .int 0])), (aT, .inl (cT, 20, .inl fT)), (aN, .inl (cN, 20, .inl (fun _ => 0)))]) [1, 2, 3] rfl
      have hDc := hD.sub (ws' := [(hMer, .inr (0, [.ref aT, .ref aN, .int 0])), (aT, .inl (cT, 20, .inl fT)), (aN, .inl (cN, 20, .inl (fun _ => 0)))]) [1, 2, 3] (by decide) rfl
      have hKc := hK.sub (tys' := [(cT, .int), (cN, .int)]) [0, 1] rfl
      have hFc := va_free (wc := [(hMer, .inr (0, [.ref aT, .ref aN, .int 0])), (aT, .inl (cT, 20, .inl fT)), (aN, .inl (cN, 20, .inl (fun _ => 0)))]) hD hS hA [1, 2, 3] rfl
      refine va_calli (va_runVN (As := [.int a, .int kn]) (rest := []) ⟨hx, hb, hml, hown, hts⟩ (c_X0_lastOf l dC dI H.size hMer aT aN cT cN fT a kn hT (by omega) (by omega)) ⟨(va_cnB 2 hts gX8_leads_X0_lastOf_n118 rfl rfl rfl (nw_at hN 39 rfl) (hts (.initialized RX0) (by decide +kernel)) (by decide +kernel) ⟨Nat.le_of_ble_eq_true rfl, Nat.le_of_ble_eq_true rfl⟩), (hts (.instanceMethod yX0_lastOf) (by decide +kernel)), (hts (.selects RX0 yX0_lastOf yX0_lastOf) (by decide +kernel))⟩ ⟨fun a U g mk q => by obtain ⟨q0, q1, qP, qK, qD, qN⟩ := q; exact ⟨q0, q1, qP, va_K.moved (u := U) (U := U.calling g mk a) (Vm.Alike.refl U.vm) qK, qD, qN.same rfl⟩, va_recv hKc hPc (ci := 0) (q0 := 0) rfl rfl, fun U hU hW => ⟨rfl, by rw [hU], by rw [hU]; exact hPc, va_K.moved hW.alike hKc, hDc.weaken (fun _ _ _ _ => trivial), hN.warm hW⟩⟩ rfl rfl hl.1 rfl (lv_room (Nat.le_of_ble_eq_true rfl)) dX8_leads_22 ⟨Nat.le_of_ble_eq_true rfl, Nat.le_of_ble_eq_true rfl⟩) hS (fun q _ h => hFc q h) hFc (fun r_10 u_11 t H1 locs ht hvm hw_12 hB hz1 hk1 hS => ?_)
      try dsimp only at hw_12
      obtain ⟨hP1, hK1, hD1⟩ := hB
      rw [ht] at hP1
      have hK1 := va_K.moved hvm.symm hK1
      obtain ⟨hP, hD⟩ := va_join (wr := [(h0, .inr (8, [.ref hRows, .ref hMer, .ref hEra, .ref hTape, .ref hRea, .ref hTra, .ref hWor, .ref hPla, .ref hMod, .ref hHe1, .ref hHe2, .int 0, .int 0, .int 0, .int 0, .int (-1), .int 0]))]) (w1 := [(hMer, .inr (0, [.ref aT, .ref aN, .int 0])), (aT, .inl (cT, 20, .inl fT)), (aN, .inl (cN, 20, .inl (fun _ => 0)))]) hP hD [1, 2, 3] [0] rfl rfl (by decide) (by decide) hk1 hFc hP1 hD1
      have hK := (hK.sub (tys' := [(cT, .int), (cN, .int)]) [0, 1] rfl).app hK1
      generalize H1 = H at hP hS ⊢
      have hP : va_P (dC, dI) vwCl [(h0, .inr (8, [.ref hRows, .ref hMer, .ref hEra, .ref hTape, .ref hRea, .ref hTra, .ref hWor, .ref hPla, .ref hMod, .ref hHe1, .ref hHe2, .int 0, .int 0, .int 0, .int 0, .int (-1), .int 0])), (hMer, .inr (0, [.ref aT, .ref aN, .int 0])), (aT, .inl (cT, 20, .inl fT)), (aN, .inl (cN, 20, .inl (fun _ => 0)))] H := hP
      have hD : va_D A [(h0, .inr (8, [.ref hRows, .ref hMer, .ref hEra, .ref hTape, .ref hRea, .ref hTra, .ref hWor, .ref hPla, .ref hMod, .ref hHe1, .ref hHe2, .int 0, .int 0, .int 0, .int 0, .int (-1), .int 0])), (hMer, .inr (0, [.ref aT, .ref aN, .int 0])), (aT, .inl (cT, 20, .inl fT)), (aN, .inl (cN, 20, .inl (fun _ => 0)))] := hD
      have hK : va_K (dC, dI) vwCl [(cT, .int), (cN, .int), (cT, .int), (cN, .int)] s := hK
      obtain rfl : a = r_10 := hw_12.symm
      have hans : (a : Int32).toInt = a.toInt := rfl
      exact W.iret (v := a) hx hb hr (fun t ht hW => ⟨⟨a, (), rfl, by first | omega | (dsimp only; omega), trivial⟩, hS.F ht⟩) hS.2.2 dX8_leads_25
    · have dc_8 : r_5.toInt = 0 := jI_eq c_8 rfl (by decide)
      refine lv_iconst (v := (-1)) hx hb dX8_leads_14 (by decide) ?_
      have hans : ((-1) : Int32).toInt = (-1) := (by decide)
      exact W.iret (v := (-1)) hx hb hr (fun t ht hW => ⟨⟨(-1), (), rfl, by first | omega | (dsimp only; omega), trivial⟩, hS.F ht⟩) hS.2.2 dX8_leads_15
