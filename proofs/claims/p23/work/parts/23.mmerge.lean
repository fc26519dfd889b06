theorem dX9_last_0 : decode cX9_last 0 = .ok (.iload_n 1, 1) := by decide +kernel
theorem dX9_last_1 : decode cX9_last 1 = .ok (.istore_n 3, 1) := by decide +kernel
theorem dX9_last_2 : decode cX9_last 2 = .ok (.aload_n 0, 1) := by decide +kernel
theorem dX9_last_3 : decode cX9_last 3 = .ok (.getfield 29, 3) := by decide +kernel
theorem dX9_last_6 : decode cX9_last 6 = .ok (.iload_n 3, 1) := by decide +kernel
theorem dX9_last_7 : decode cX9_last 7 = .ok (.iaload, 1) := by decide +kernel
theorem dX9_last_8 : decode cX9_last 8 = .ok (.iconst (-1), 1) := by decide +kernel
theorem dX9_last_9 : decode cX9_last 9 = .ok (.if_icmp .eq 23, 3) := by decide +kernel
theorem dX9_last_32 : decode cX9_last 32 = .ok (.iload_n 3, 1) := by decide +kernel
theorem dX9_last_33 : decode cX9_last 33 = .ok (.ireturn, 1) := by decide +kernel
theorem dX9_last_12 : decode cX9_last 12 = .ok (.aload_n 0, 1) := by decide +kernel
theorem dX9_last_13 : decode cX9_last 13 = .ok (.getfield 32, 3) := by decide +kernel
theorem dX9_last_16 : decode cX9_last 16 = .ok (.iload_n 3, 1) := by decide +kernel
theorem dX9_last_17 : decode cX9_last 17 = .ok (.iaload, 1) := by decide +kernel
theorem dX9_last_18 : decode cX9_last 18 = .ok (.iload_n 2, 1) := by decide +kernel
theorem dX9_last_19 : decode cX9_last 19 = .ok (.if_icmp .gt 13, 3) := by decide +kernel
theorem dX9_last_22 : decode cX9_last 22 = .ok (.aload_n 0, 1) := by decide +kernel
theorem dX9_last_23 : decode cX9_last 23 = .ok (.getfield 29, 3) := by decide +kernel
theorem dX9_last_26 : decode cX9_last 26 = .ok (.iload_n 3, 1) := by decide +kernel
theorem dX9_last_27 : decode cX9_last 27 = .ok (.iaload, 1) := by decide +kernel
theorem dX9_last_28 : decode cX9_last 28 = .ok (.istore_n 3, 1) := by decide +kernel
theorem dX9_last_29 : decode cX9_last 29 = .ok (.goto (-27), 3) := by decide +kernel
theorem dX9_merge_0 : decode cX9_merge 0 = .ok (.iload_n 3, 1) := by decide +kernel
set_option maxRecDepth 20000 in
theorem ggX9_merge_X9_isMoment : GoodIn wsX9_merge wsX9_isMoment := goodIn_r _ [8, 9, 10, 11, 7, 12] (by decide +kernel) (by decide +kernel)
set_option maxRecDepth 20000 in
theorem gX9_merge_X9_isMoment : GoodIn wsX9_merge (va_wsS RX9 142 yX9_isMoment wsX9_isMoment) := goodIn_app (goodIn_of _ (by decide +kernel)) ggX9_merge_X9_isMoment
theorem dX9_merge_1 : decode cX9_merge 1 = .ok (.invokestatic 142, 3) := by decide +kernel
theorem dX9_merge_4 : decode cX9_merge 4 = .ok (.ifCond .ne 9, 3) := by decide +kernel
theorem dX9_merge_13 : decode cX9_merge 13 = .ok (.iload_n 1, 1) := by decide +kernel
set_option maxRecDepth 20000 in
theorem ggX9_merge_X9_isPerson : GoodIn wsX9_merge wsX9_isPerson := goodIn_r _ [20, 21, 10, 11, 7, 12] (by decide +kernel) (by decide +kernel)
set_option maxRecDepth 20000 in
theorem gX9_merge_X9_isPerson : GoodIn wsX9_merge (va_wsS RX9 150 yX9_isPerson wsX9_isPerson) := goodIn_app (goodIn_of _ (by decide +kernel)) ggX9_merge_X9_isPerson
theorem dX9_merge_14 : decode cX9_merge 14 = .ok (.invokestatic 150, 3) := by decide +kernel
theorem dX9_merge_17 : decode cX9_merge 17 = .ok (.ifCond .eq 10, 3) := by decide +kernel
theorem dX9_merge_27 : decode cX9_merge 27 = .ok (.aload_n 0, 1) := by decide +kernel
theorem dX9_merge_28 : decode cX9_merge 28 = .ok (.bipush (-2), 2) := by decide +kernel
set_option maxRecDepth 20000 in
theorem ggX9_merge_X9_ends : GoodIn wsX9_merge wsX9_ends := goodIn_r _ [16, 17, 26, 27, 28, 29, 30, 31, 32, 33, 34, 35, 36, 37, 38, 39, 40, 41, 42, 43, 44, 45, 46, 47, 48, 49, 50, 51, 52, 53, 54, 55, 56, 57, 58, 59, 60, 61, 62, 63, 64, 65, 66, 67, 68, 69, 70, 71, 72, 73, 74, 75, 76] (by decide +kernel) (by decide +kernel)
set_option maxRecDepth 20000 in
theorem gX9_merge_X9_ends : GoodIn wsX9_merge (wsV RX9 136 RX9 yX9_ends wsX9_ends) := goodIn_app (goodIn_of _ (by decide +kernel)) ggX9_merge_X9_ends
theorem dX9_merge_30 : decode cX9_merge 30 = .ok (.invokevirtual 136, 3) := by decide +kernel
theorem dX9_merge_33 : decode cX9_merge 33 = .ok (.ireturn, 1) := by decide +kernel
theorem dX9_merge_20 : decode cX9_merge 20 = .ok (.iload_n 2, 1) := by decide +kernel
theorem dX9_merge_21 : decode cX9_merge 21 = .ok (.invokestatic 150, 3) := by decide +kernel
theorem dX9_merge_24 : decode cX9_merge 24 = .ok (.ifCond .ne 10, 3) := by decide +kernel
theorem dX9_merge_34 : decode cX9_merge 34 = .ok (.aload_n 0, 1) := by decide +kernel
theorem dX9_merge_35 : decode cX9_merge 35 = .ok (.getfield 29, 3) := by decide +kernel
theorem dX9_merge_38 : decode cX9_merge 38 = .ok (.iload_n 1, 1) := by decide +kernel
theorem dX9_merge_39 : decode cX9_merge 39 = .ok (.iaload, 1) := by decide +kernel
theorem dX9_merge_40 : decode cX9_merge 40 = .ok (.iconst (-1), 1) := by decide +kernel
theorem dX9_merge_41 : decode cX9_merge 41 = .ok (.if_icmp .ne 14, 3) := by decide +kernel
theorem dX9_merge_55 : decode cX9_merge 55 = .ok (.aload_n 0, 1) := by decide +kernel
theorem dX9_merge_56 : decode cX9_merge 56 = .ok (.bipush (-4), 2) := by decide +kernel
theorem dX9_merge_58 : decode cX9_merge 58 = .ok (.invokevirtual 136, 3) := by decide +kernel
theorem dX9_merge_61 : decode cX9_merge 61 = .ok (.ireturn, 1) := by decide +kernel
theorem dX9_merge_44 : decode cX9_merge 44 = .ok (.aload_n 0, 1) := by decide +kernel
theorem dX9_merge_45 : decode cX9_merge 45 = .ok (.iload_n 2, 1) := by decide +kernel
theorem dX9_merge_46 : decode cX9_merge 46 = .ok (.ldc 156, 2) := by decide +kernel
set_option maxRecDepth 20000 in
theorem ggX9_merge_X9_last : GoodIn wsX9_merge wsX9_last := goodIn_r _ [25, 1, 3, 26, 27, 28, 29, 30, 31, 32, 33, 34, 35, 36, 37, 38, 39, 40, 41, 42, 43, 44, 45, 46, 47, 48, 49, 50, 51, 52, 53, 54, 55, 56, 57, 58, 59, 60, 61, 62, 63, 64, 65, 66, 67, 68, 69, 70, 71, 72, 73, 74, 75, 76] (by decide +kernel) (by decide +kernel)
set_option maxRecDepth 20000 in
theorem gX9_merge_X9_last : GoodIn wsX9_merge (wsV RX9 157 RX9 yX9_last wsX9_last) := goodIn_app (goodIn_of _ (by decide +kernel)) ggX9_merge_X9_last
theorem dX9_merge_48 : decode cX9_merge 48 = .ok (.invokevirtual 157, 3) := by decide +kernel
theorem dX9_merge_51 : decode cX9_merge 51 = .ok (.iload_n 1, 1) := by decide +kernel
theorem dX9_merge_52 : decode cX9_merge 52 = .ok (.if_icmp .ne 10, 3) := by decide +kernel
theorem dX9_merge_62 : decode cX9_merge 62 = .ok (.aload_n 0, 1) := by decide +kernel
theorem dX9_merge_63 : decode cX9_merge 63 = .ok (.getfield 29, 3) := by decide +kernel
theorem dX9_merge_66 : decode cX9_merge 66 = .ok (.iload_n 1, 1) := by decide +kernel
theorem dX9_merge_67 : decode cX9_merge 67 = .ok (.iload_n 2, 1) := by decide +kernel
theorem dX9_merge_68 : decode cX9_merge 68 = .ok (.iastore, 1) := by decide +kernel
theorem dX9_merge_69 : decode cX9_merge 69 = .ok (.aload_n 0, 1) := by decide +kernel
theorem dX9_merge_70 : decode cX9_merge 70 = .ok (.getfield 32, 3) := by decide +kernel
theorem dX9_merge_73 : decode cX9_merge 73 = .ok (.iload_n 1, 1) := by decide +kernel
theorem dX9_merge_74 : decode cX9_merge 74 = .ok (.iload_n 3, 1) := by decide +kernel
theorem dX9_merge_75 : decode cX9_merge 75 = .ok (.iastore, 1) := by decide +kernel
theorem dX9_merge_76 : decode cX9_merge 76 = .ok (.aload_n 0, 1) := by decide +kernel
theorem dX9_merge_77 : decode cX9_merge 77 = .ok (.dup, 1) := by decide +kernel
theorem dX9_merge_78 : decode cX9_merge 78 = .ok (.getfield 161, 3) := by decide +kernel
theorem dX9_merge_81 : decode cX9_merge 81 = .ok (.iconst 1, 1) := by decide +kernel
theorem dX9_merge_82 : decode cX9_merge 82 = .ok (.iadd, 1) := by decide +kernel
theorem dX9_merge_83 : decode cX9_merge 83 = .ok (.putfield 161, 3) := by decide +kernel
theorem dX9_merge_86 : decode cX9_merge 86 = .ok (.aload_n 0, 1) := by decide +kernel
theorem dX9_merge_87 : decode cX9_merge 87 = .ok (.aload_n 0, 1) := by decide +kernel
theorem dX9_merge_88 : decode cX9_merge 88 = .ok (.getfield 161, 3) := by decide +kernel
theorem dX9_merge_91 : decode cX9_merge 91 = .ok (.invokevirtual 136, 3) := by decide +kernel
theorem dX9_merge_94 : decode cX9_merge 94 = .ok (.ireturn, 1) := by decide +kernel
theorem dX9_merge_7 : decode cX9_merge 7 = .ok (.aload_n 0, 1) := by decide +kernel
theorem dX9_merge_8 : decode cX9_merge 8 = .ok (.iconst (-1), 1) := by decide +kernel
theorem dX9_merge_9 : decode cX9_merge 9 = .ok (.invokevirtual 136, 3) := by decide +kernel
theorem dX9_merge_12 : decode cX9_merge 12 = .ok (.ireturn, 1) := by decide +kernel
theorem dX9_leads_0 : decode cX9_leads 0 = .ok (.iload_n 1, 1) := by decide +kernel
set_option maxRecDepth 20000 in
theorem ggX9_leads_X9_isPerson : GoodIn wsX9_leads wsX9_isPerson := goodIn_r _ [4, 5, 6, 7, 3, 8] (by decide +kernel) (by decide +kernel)
set_option maxRecDepth 20000 in
theorem gX9_leads_X9_isPerson : GoodIn wsX9_leads (va_wsS RX9 150 yX9_isPerson wsX9_isPerson) := goodIn_app (goodIn_of _ (by decide +kernel)) ggX9_leads_X9_isPerson
theorem dX9_leads_1 : decode cX9_leads 1 = .ok (.invokestatic 150, 3) := by decide +kernel
theorem dX9_leads_4 : decode cX9_leads 4 = .ok (.ifCond .eq 19, 3) := by decide +kernel
theorem dX9_leads_23 : decode cX9_leads 23 = .ok (.iconst (-1), 1) := by decide +kernel
theorem dX9_leads_24 : decode cX9_leads 24 = .ok (.ireturn, 1) := by decide +kernel
theorem dX9_leads_7 : decode cX9_leads 7 = .ok (.iload_n 2, 1) := by decide +kernel
set_option maxRecDepth 20000 in
theorem ggX9_leads_X9_isMoment : GoodIn wsX9_leads wsX9_isMoment := goodIn_r _ [11, 12, 6, 7, 3, 8] (by decide +kernel) (by decide +kernel)
set_option maxRecDepth 20000 in
theorem gX9_leads_X9_isMoment : GoodIn wsX9_leads (va_wsS RX9 142 yX9_isMoment wsX9_isMoment) := goodIn_app (goodIn_of _ (by decide +kernel)) ggX9_leads_X9_isMoment
theorem dX9_leads_8 : decode cX9_leads 8 = .ok (.invokestatic 142, 3) := by decide +kernel
theorem dX9_leads_11 : decode cX9_leads 11 = .ok (.ifCond .eq 12, 3) := by decide +kernel
theorem dX9_leads_14 : decode cX9_leads 14 = .ok (.aload_n 0, 1) := by decide +kernel
theorem dX9_leads_15 : decode cX9_leads 15 = .ok (.iload_n 1, 1) := by decide +kernel
theorem dX9_leads_16 : decode cX9_leads 16 = .ok (.iload_n 2, 1) := by decide +kernel
set_option maxRecDepth 20000 in
theorem ggX9_leads_X9_last : GoodIn wsX9_leads wsX9_last := goodIn_r _ [16, 17, 18, 19, 20, 21, 22, 23, 24, 25, 26, 27, 28, 29, 30, 31, 32, 33, 34, 35, 36, 37, 38, 39, 40, 41, 42, 43, 44, 45, 46, 47, 48, 49, 50, 51, 52, 53, 54, 55, 56, 57, 58, 59, 60, 61, 62, 63, 64, 65, 66, 67, 68, 69] (by decide +kernel) (by decide +kernel)
set_option maxRecDepth 20000 in
theorem gX9_leads_X9_last : GoodIn wsX9_leads (wsV RX9 157 RX9 yX9_last wsX9_last) := goodIn_app (goodIn_of _ (by decide +kernel)) ggX9_leads_X9_last
theorem dX9_leads_17 : decode cX9_leads 17 = .ok (.invokevirtual 157, 3) := by decide +kernel
theorem dX9_leads_20 : decode cX9_leads 20 = .ok (.goto 4, 3) := by decide +kernel
set_option maxHeartbeats 8000000 in
set_option maxRecDepth 100000 in
theorem k_X9_last (l : Launch) (dC : Nat → ClassId) (dI : Nat → Nat → Nat) (cA : Nat → ClassId) (sz : Nat) (am : Nat → Nat) (v_status : Int32) (v_now : Int32) (v_told : Int32) (v_merges : Int32) (v_taped : Int32) (v_size : Int32) (v_from : Int32) (v_to : Int32) (v_fault : Int32) (v_readFault : Int32) (v_traits : Int32) (v_length : Int32) (v_open : Int32) (v_leaks : Int32) (v_places : Int32) (v_models : Int32) (f_mergeTo : Nat → Int32) (f_mergeKnown : Nat → Int32) (a : Int32) (kn : Int32) (i_v_now : 0 ≤ v_now.toInt ∧ v_now.toInt ≤ 100000) (i_v_told : 0 ≤ v_told.toInt ∧ v_told.toInt ≤ 400) (i_v_taped : 0 ≤ v_taped.toInt ∧ v_taped.toInt ≤ 200) (i_v_size : 0 ≤ v_size.toInt ∧ v_size.toInt ≤ 200) (i_v_from : 0 ≤ v_from.toInt ∧ v_from.toInt ≤ 200) (i_v_to : 0 ≤ v_to.toInt ∧ v_to.toInt ≤ 200) (i_v_traits : 0 ≤ v_traits.toInt ∧ v_traits.toInt ≤ 20) (i_v_length : 0 ≤ v_length.toInt ∧ v_length.toInt ≤ 200) (i_v_open : 0 ≤ v_open.toInt ∧ v_open.toInt ≤ 8) (i_v_places : 0 ≤ v_places.toInt ∧ v_places.toInt ≤ 2000) (i_v_models : 0 ≤ v_models.toInt ∧ v_models.toInt ≤ 10) (i_f_mergeTo : inB (-1) 19 20 f_mergeTo) (i_f_mergeKnown : inB 0 100000 20 f_mergeKnown) (hac : Acyc f_mergeTo) (ha : 0 ≤ a.toInt ∧ a.toInt ≤ 19) : Met l yX9_last wsX9_last ({ frames := 0, cells := 0, slots := 0, locals := 0 }) (va_Pc [.ref (am 0), .int a, .int kn] (fun U => U.heap.size = sz ∧ va_P (dC, dI) vwCl [((am 0), .inr (9, F9 am v_status v_now v_told v_merges v_taped v_size v_from v_to v_fault v_readFault v_traits v_length v_open v_leaks v_places v_models)), ((am 7), .inl (cA 0, 20, .inl f_mergeTo)), ((am 8), .inl (cA 0, 20, .inl f_mergeKnown))] U.heap ∧ va_K (dC, dI) vwCl (tyL cA) U ∧ va_D (fun _ => True) [((am 0), .inr (9, F9 am v_status v_now v_told v_merges v_taped v_size v_from v_to v_fault v_readFault v_traits v_length v_open v_leaks v_places v_models)), ((am 7), .inl (cA 0, 20, .inl f_mergeTo)), ((am 8), .inl (cA 0, 20, .inl f_mergeKnown))] ∧ nw_ok U)) (va_Qi (fun (r : Int32) (_ : Unit) => (0 ≤ r.toInt ∧ r.toInt ≤ 19 ∧ r.toInt = ((itk f_mergeTo f_mergeKnown kn.toInt 20 a.toInt.toNat : Nat) : Int))) (fun (_ : Unit) (t : State) => va_P (dC, dI) vwCl [((am 0), .inr (9, F9 am v_status v_now v_told v_merges v_taped v_size v_from v_to v_fault v_readFault v_traits v_length v_open v_leaks v_places v_models)), ((am 7), .inl (cA 0, 20, .inl f_mergeTo)), ((am 8), .inl (cA 0, 20, .inl f_mergeKnown))] t.heap ∧ va_D (va_A [((am 0), .inr (9, F9 am v_status v_now v_told v_merges v_taped v_size v_from v_to v_fault v_readFault v_traits v_length v_open v_leaks v_places v_models)), ((am 7), .inl (cA 0, 20, .inl f_mergeTo)), ((am 8), .inl (cA 0, 20, .inl f_mergeKnown))] sz) [((am 0), .inr (9, F9 am v_status v_now v_told v_merges v_taped v_size v_from v_to v_fault v_readFault v_traits v_length v_open v_leaks v_places v_models)), ((am 7), .inl (cA 0, 20, .inl f_mergeTo)), ((am 8), .inl (cA 0, 20, .inl f_mergeKnown))]) (va_A [((am 0), .inr (9, F9 am v_status v_now v_told v_merges v_taped v_size v_from v_to v_fault v_readFault v_traits v_length v_open v_leaks v_places v_models)), ((am 7), .inl (cA 0, 20, .inl f_mergeTo)), ((am 8), .inl (cA 0, 20, .inl f_mergeKnown))] sz)) 0 0 (va_A [((am 0), .inr (9, F9 am v_status v_now v_told v_merges v_taped v_size v_from v_to v_fault v_readFault v_traits v_length v_open v_leaks v_places v_models)), ((am 7), .inl (cA 0, 20, .inl f_mergeTo)), ((am 8), .inl (cA 0, 20, .inl f_mergeKnown))] sz) := by
  refine Met.ofW (cc := cX9_last) (maxL := 4) (ret := (some .int)) (by decide) rfl ?_
  intro p e s m args below meth c s₁ B hml hv
  obtain ⟨rfl, hsz, hP, hK, hD0, hN⟩ := hv
  have hx := B.exec
  have hb := B.bytes
  have hr := B.returns
  have hts := atoms_spec (ws := wsX9_last) B.pre
  have hown : s.vm.findClass RX9 = some m.cls := findClass_of_methodNamed B.named
  have hlocks := B.notSynchronized
  subst hsz
  have hD := hD0.self (sz := s.heap.size)
  generalize hAe : va_A [((am 0), .inr (9, F9 am v_status v_now v_told v_merges v_taped v_size v_from v_to v_fault v_readFault v_traits v_length v_open v_leaks v_places v_models)), ((am 7), .inl (cA 0, 20, .inl f_mergeTo)), ((am 8), .inl (cA 0, 20, .inl f_mergeKnown))] s.heap.size = A at hD ⊢
  have hA : ∀ q : Nat, s.heap.size ≤ q → A q := fun q h => by rw [← hAe]; exact Or.inr h
  have hS : va_S A s.heap s.heap [] := va_S.rf
  have hac9 := hac
  obtain ⟨rk, hrk⟩ := hac9
  have hIX9 : ∀ w ∈ u_ws RX9 TX9 51, w ∈ wsX9_last := by decide +kernel
  have hl := lv_entry ([.ref (am 0), .int a, .int kn]) (n := 4) (Nat.le_of_ble_eq_true rfl)
  rw [lg_entry_eq]
  generalize (lg_sl ([.ref (am 0), .int a, .int kn]) ++ List.replicate (4 - (lg_sl ([.ref (am 0), .int a, .int kn])).length) Slot.unset).toArray = ls at hl ⊢
  have hl : lv_has ls 4 [(0, .ref (am 0)), (1, .int a), (2, .int kn)] := hl
  generalize hQe : MQ below _ _ _ _ _ _ = QQ
  refine lv_iload_n hx hb dX9_last_0 rfl (lv_at hl 1 rfl) ?_
  refine lv_istore_n (lv' := [(3, .int a), (0, .ref (am 0)), (1, .int a), (2, .int kn)]) hx hb dX9_last_1 rfl hl (by decide) rfl (fun ls hl => ?_)
  have loop2_1 : ∀ (n : Nat) (p3 : Int32) (H : Heap) (locs : List Loc) (ls : Array Slot), (rk p3.toInt.toNat : Int) < (n : Int) → (0 ≤ p3.toInt ∧ p3.toInt ≤ 19) → (∃ n : Nat, p3.toInt = ((itk f_mergeTo f_mergeKnown kn.toInt n a.toInt.toNat : Nat) : Int)) → va_P (dC, dI) vwCl [((am 0), .inr (9, F9 am v_status v_now v_told v_merges v_taped v_size v_from v_to v_fault v_readFault v_traits v_length v_open v_leaks v_places v_models)), ((am 7), .inl (cA 0, 20, .inl f_mergeTo)), ((am 8), .inl (cA 0, 20, .inl f_mergeKnown))] H → va_D A [((am 0), .inr (9, F9 am v_status v_now v_told v_merges v_taped v_size v_from v_to v_fault v_readFault v_traits v_length v_open v_leaks v_places v_models)), ((am 7), .inl (cA 0, 20, .inl f_mergeTo)), ((am 8), .inl (cA 0, 20, .inl f_mergeKnown))] → va_S A s.heap H locs → lv_has ls 4 [(3, .int p3), (0, .ref (am 0)), (1, .int a), (2, .int kn)] → W p l e ({ frames := 0, cells := 0, slots := 0, locals := 0 }) s m ([.ref (am 0), .int a, .int kn] : List Value).toArray below meth c H locs 0 0 QQ (F0 m 2 ls []) := by
    intro n
    induction n with
    | zero => intro p3 H locs ls hme hv0_2 hv1_2; exfalso; omega
    | succ n ih_2 =>
      intro p3 H locs ls hme_2 hv0_2 hv1_2 hP hD hS hl
      refine lv_aload_n hx hb dX9_last_2 rfl (lv_at hl 1 rfl) ?_
      refine va_get (D := (dC, dI)) (ci := 9) (v := .ref (am 7)) (C := RX9) (T := TX9) (N := 51) hx hb hts hIX9 hown hK hP 0 rfl rfl 9 (by decide) (hts (.fieldLink RX9 29 "TraitHouseModel" "mergeTo" "[I") (by decide +kernel)) (fun _ h9 => h9) rfl dX9_last_3 ?_
      refine lv_iload_n hx hb dX9_last_6 rfl (lv_at hl 0 rfl) ?_
      have h_2 : vp_in p3 20 := (vp_in_iff.mpr ⟨by omega, by omega⟩)
      refine va_iald hx hb hK hP 1 0 rfl rfl h_2 dX9_last_7 ?_
      refine lv_topi (fun x_3 ex_3 => ?_)
      have bx_3 := i_f_mergeTo _ (jix h_2)
      rw [← ex_3] at bx_3
      refine lv_iconst (v := (-1)) hx hb dX9_last_8 (by decide) ?_
      refine lv_icmp_eq (tgt := 32) hx hb dX9_last_9 (by decide) (fun c_4 => ?_) (fun c_4 => ?_)
      · have dc_4 : x_3.toInt = (-1) := jI_eq c_4 rfl (by decide)
        refine lv_iload_n hx hb dX9_last_32 rfl (lv_at hl 0 rfl) ?_
        obtain ⟨hP9, hD9⟩ := va_pd (ws' := [((am 0), .inr (9, F9 am v_status v_now v_told v_merges v_taped v_size v_from v_to v_fault v_readFault v_traits v_length v_open v_leaks v_places v_models)), ((am 7), .inl (cA 0, 20, .inl f_mergeTo)), ((am 8), .inl (cA 0, 20, .inl f_mergeKnown))]) hP hD [0, 1, 2] (by decide) rfl
        subst hQe
        have hans : (p3 : Int32).toInt = p3.toInt := rfl
        have hpost : (0 ≤ (p3 : Int32).toInt ∧ (p3 : Int32).toInt ≤ 19 ∧ (p3 : Int32).toInt = ((itk f_mergeTo f_mergeKnown kn.toInt 20 a.toInt.toNat : Nat) : Int)) := ⟨by omega, by omega, ik_done i_f_mergeTo hac (by omega) hv1_2 (Or.inl ⟨ex_3, by omega⟩)⟩
        exact W.iret (v := p3) hx hb hr (fun t ht hW => ⟨⟨p3, (), rfl, hpost, by rw [ht]; exact hP9, hD9⟩, hS.F ht⟩) hS.2.2 dX9_last_33
      · have dc_4 : ¬ x_3.toInt = (-1) := jI_ne c_4 rfl (by decide)
        refine lv_aload_n hx hb dX9_last_12 rfl (lv_at hl 1 rfl) ?_
        refine va_get (D := (dC, dI)) (ci := 9) (v := .ref (am 8)) (C := RX9) (T := TX9) (N := 51) hx hb hts hIX9 hown hK hP 0 rfl rfl 10 (by decide) (hts (.fieldLink RX9 32 "TraitHouseModel" "mergeKnown" "[I") (by decide +kernel)) (fun _ h9 => h9) rfl dX9_last_13 ?_
        refine lv_iload_n hx hb dX9_last_16 rfl (lv_at hl 0 rfl) ?_
        have h_5 : vp_in p3 20 := (vp_in_iff.mpr ⟨by omega, by omega⟩)
        refine va_iald hx hb hK hP 2 0 rfl rfl h_5 dX9_last_17 ?_
        refine lv_topi (fun x_6 ex_6 => ?_)
        have bx_6 := i_f_mergeKnown _ (jix h_5)
        rw [← ex_6] at bx_6
        refine lv_iload_n hx hb dX9_last_18 rfl (lv_at hl 3 rfl) ?_
        refine lv_icmp_gt (tgt := 32) hx hb dX9_last_19 (by decide) (fun c_7 => ?_) (fun c_7 => ?_)
        · have dc_7 : kn.toInt < x_6.toInt := jI_lt c_7 rfl rfl
          refine lv_iload_n hx hb dX9_last_32 rfl (lv_at hl 0 rfl) ?_
          obtain ⟨hP9, hD9⟩ := va_pd (ws' := [((am 0), .inr (9, F9 am v_status v_now v_told v_merges v_taped v_size v_from v_to v_fault v_readFault v_traits v_length v_open v_leaks v_places v_models)), ((am 7), .inl (cA 0, 20, .inl f_mergeTo)), ((am 8), .inl (cA 0, 20, .inl f_mergeKnown))]) hP hD [0, 1, 2] (by decide) rfl
          subst hQe
          have hans : (p3 : Int32).toInt = p3.toInt := rfl
          have hpost : (0 ≤ (p3 : Int32).toInt ∧ (p3 : Int32).toInt ≤ 19 ∧ (p3 : Int32).toInt = ((itk f_mergeTo f_mergeKnown kn.toInt 20 a.toInt.toNat : Nat) : Int)) := ⟨by omega, by omega, ik_done i_f_mergeTo hac (by omega) hv1_2 (Or.inr ⟨ex_6, by omega⟩)⟩
          exact W.iret (v := p3) hx hb hr (fun t ht hW => ⟨⟨p3, (), rfl, hpost, by rw [ht]; exact hP9, hD9⟩, hS.F ht⟩) hS.2.2 dX9_last_33
        · have dc_7 : x_6.toInt ≤ kn.toInt := jI_nlt c_7 rfl rfl
          refine lv_aload_n hx hb dX9_last_22 rfl (lv_at hl 1 rfl) ?_
          refine va_get (D := (dC, dI)) (ci := 9) (v := .ref (am 7)) (C := RX9) (T := TX9) (N := 51) hx hb hts hIX9 hown hK hP 0 rfl rfl 9 (by decide) (hts (.fieldLink RX9 29 "TraitHouseModel" "mergeTo" "[I") (by decide +kernel)) (fun _ h9 => h9) rfl dX9_last_23 ?_
          refine lv_iload_n hx hb dX9_last_26 rfl (lv_at hl 0 rfl) ?_
          have h_8 : vp_in p3 20 := (vp_in_iff.mpr ⟨by omega, by omega⟩)
          refine va_iald hx hb hK hP 1 0 rfl rfl h_8 dX9_last_27 ?_
          refine lv_topi (fun x_9 ex_9 => ?_)
          have bx_9 := i_f_mergeTo _ (jix h_8)
          rw [← ex_9] at bx_9
          refine lv_istore_n (lv' := [(3, .int x_9), (0, .ref (am 0)), (1, .int a), (2, .int kn)]) hx hb dX9_last_28 rfl hl (by decide) rfl (fun ls hl => ?_)
          refine lv_goto (tgt := 2) hx hb dX9_last_29 (by decide) ?_
          have e9 : x_9 = x_3 := ex_9.trans ex_3.symm
          have hrk9 := ik_rank hrk (by omega) (by omega) ex_9 (by rw [e9]; assumption)
          have hz9 : 0 ≤ x_9.toInt := by rw [e9]; omega
          exact ih_2 x_9 _ _ ls (by omega) (by omega) (ik_step hv1_2 ex_3 (by assumption) ex_6 (by omega) ex_9 (by omega)) (hP.sub [0, 1, 2] rfl) (hD.sub [0, 1, 2] (by decide) rfl) hS (lv_sub hl [0, 1, 2, 3] rfl)
  exact loop2_1 (Int.toNat ((rk (a : Int32).toInt.toNat : Int)) + 1) a _ _ ls (by omega) ha (⟨0, by show a.toInt = ((a.toInt.toNat : Nat) : Int); omega⟩) hP hD hS (lv_sub hl [0, 1, 2, 3] rfl)

def mgRes (fT fK : Nat → Int32) (n a b kn r n' : Int32) (fT' fK' : Nat → Int32) : Prop :=
  (¬ (0 ≤ kn.toInt ∧ kn.toInt ≤ 100000) ∧ r.toInt = (-1) ∧ n' = n ∧ fT' = fT ∧ fK' = fK) ∨
  ((0 ≤ kn.toInt ∧ kn.toInt ≤ 100000) ∧ ¬ (0 ≤ a.toInt ∧ a.toInt ≤ 19 ∧ 0 ≤ b.toInt ∧ b.toInt ≤ 19) ∧ r.toInt = (-2) ∧ n' = n ∧ fT' = fT ∧ fK' = fK) ∨
  ((0 ≤ kn.toInt ∧ kn.toInt ≤ 100000) ∧ (0 ≤ a.toInt ∧ a.toInt ≤ 19 ∧ 0 ≤ b.toInt ∧ b.toInt ≤ 19) ∧ (¬ (fT a.toNatClampNeg).toInt = (-1) ∨ ((itk fT fK 100000 20 b.toInt.toNat : Nat) : Int) = a.toInt) ∧ r.toInt = (-4) ∧ n' = n ∧ fT' = fT ∧ fK' = fK) ∨
  ((0 ≤ kn.toInt ∧ kn.toInt ≤ 100000) ∧ (0 ≤ a.toInt ∧ a.toInt ≤ 19 ∧ 0 ≤ b.toInt ∧ b.toInt ≤ 19) ∧ (fT a.toNatClampNeg).toInt = (-1) ∧ (¬ ((itk fT fK 100000 20 b.toInt.toNat : Nat) : Int) = a.toInt) ∧ r = n + 1 ∧ n' = n + 1 ∧ fT' = upd fT a.toNatClampNeg b ∧ fK' = upd fK a.toNatClampNeg kn)
def ldRes (fT fK : Nat → Int32) (a kn r : Int32) : Prop := (0 ≤ a.toInt ∧ a.toInt ≤ 19 ∧ 0 ≤ kn.toInt ∧ kn.toInt ≤ 100000 → r.toInt = ((itk fT fK kn.toInt 20 a.toInt.toNat : Nat) : Int)) ∧ (¬ (0 ≤ a.toInt ∧ a.toInt ≤ 19 ∧ 0 ≤ kn.toInt ∧ kn.toInt ≤ 100000) → r.toInt = (-1))

set_option maxHeartbeats 8000000 in
set_option maxRecDepth 100000 in
theorem k_X9_merge (l : Launch) (dC : Nat → ClassId) (dI : Nat → Nat → Nat) (cA : Nat → ClassId) (sz : Nat) (am : Nat → Nat) (v_status : Int32) (v_now : Int32) (v_told : Int32) (v_merges : Int32) (v_taped : Int32) (v_size : Int32) (v_from : Int32) (v_to : Int32) (v_fault : Int32) (v_readFault : Int32) (v_traits : Int32) (v_length : Int32) (v_open : Int32) (v_leaks : Int32) (v_places : Int32) (v_models : Int32) (f_mergeTo : Nat → Int32) (f_mergeKnown : Nat → Int32) (a : Int32) (b : Int32) (kn : Int32) (i_v_now : 0 ≤ v_now.toInt ∧ v_now.toInt ≤ 100000) (i_v_told : 0 ≤ v_told.toInt ∧ v_told.toInt ≤ 400) (i_v_taped : 0 ≤ v_taped.toInt ∧ v_taped.toInt ≤ 200) (i_v_size : 0 ≤ v_size.toInt ∧ v_size.toInt ≤ 200) (i_v_from : 0 ≤ v_from.toInt ∧ v_from.toInt ≤ 200) (i_v_to : 0 ≤ v_to.toInt ∧ v_to.toInt ≤ 200) (i_v_traits : 0 ≤ v_traits.toInt ∧ v_traits.toInt ≤ 20) (i_v_length : 0 ≤ v_length.toInt ∧ v_length.toInt ≤ 200) (i_v_open : 0 ≤ v_open.toInt ∧ v_open.toInt ≤ 8) (i_v_places : 0 ≤ v_places.toInt ∧ v_places.toInt ≤ 2000) (i_v_models : 0 ≤ v_models.toInt ∧ v_models.toInt ≤ 10) (i_f_mergeTo : inB (-1) 19 20 f_mergeTo) (i_f_mergeKnown : inB 0 100000 20 f_mergeKnown) (hac : Acyc f_mergeTo) : Met l yX9_merge wsX9_merge ({ frames := 2, cells := 0, slots := 0, locals := 45 }) (va_Pc [.ref (am 0), .int a, .int b, .int kn] (fun U => U.heap.size = sz ∧ va_P (dC, dI) vwCl [((am 0), .inr (9, F9 am v_status v_now v_told v_merges v_taped v_size v_from v_to v_fault v_readFault v_traits v_length v_open v_leaks v_places v_models)), ((am 7), .inl (cA 0, 20, .inl f_mergeTo)), ((am 8), .inl (cA 0, 20, .inl f_mergeKnown))] U.heap ∧ va_K (dC, dI) vwCl (tyL cA) U ∧ va_D (fun _ => True) [((am 0), .inr (9, F9 am v_status v_now v_told v_merges v_taped v_size v_from v_to v_fault v_readFault v_traits v_length v_open v_leaks v_places v_models)), ((am 7), .inl (cA 0, 20, .inl f_mergeTo)), ((am 8), .inl (cA 0, 20, .inl f_mergeKnown))] ∧ nw_ok U)) (va_Qi (fun (r : Int32) (u : Int32 × Int32 × (Nat → Int32) × (Nat → Int32)) => (inB (-1) 19 20 u.2.2.1) ∧ (inB 0 100000 20 u.2.2.2) ∧ (Acyc u.2.2.1 ∧ mgRes f_mergeTo f_mergeKnown v_merges a b kn r u.2.1 u.2.2.1 u.2.2.2)) (fun (u : Int32 × Int32 × (Nat → Int32) × (Nat → Int32)) (t : State) => va_P (dC, dI) vwCl [((am 0), .inr (9, F9 am u.1 v_now v_told u.2.1 v_taped v_size v_from v_to v_fault v_readFault v_traits v_length v_open v_leaks v_places v_models)), ((am 7), .inl (cA 0, 20, .inl u.2.2.1)), ((am 8), .inl (cA 0, 20, .inl u.2.2.2))] t.heap ∧ va_D (va_A [((am 0), .inr (9, F9 am v_status v_now v_told v_merges v_taped v_size v_from v_to v_fault v_readFault v_traits v_length v_open v_leaks v_places v_models)), ((am 7), .inl (cA 0, 20, .inl f_mergeTo)), ((am 8), .inl (cA 0, 20, .inl f_mergeKnown))] sz) [((am 0), .inr (9, F9 am u.1 v_now v_told u.2.1 v_taped v_size v_from v_to v_fault v_readFault v_traits v_length v_open v_leaks v_places v_models)), ((am 7), .inl (cA 0, 20, .inl u.2.2.1)), ((am 8), .inl (cA 0, 20, .inl u.2.2.2))]) (va_A [((am 0), .inr (9, F9 am v_status v_now v_told v_merges v_taped v_size v_from v_to v_fault v_readFault v_traits v_length v_open v_leaks v_places v_models)), ((am 7), .inl (cA 0, 20, .inl f_mergeTo)), ((am 8), .inl (cA 0, 20, .inl f_mergeKnown))] sz)) 0 0 (va_A [((am 0), .inr (9, F9 am v_status v_now v_told v_merges v_taped v_size v_from v_to v_fault v_readFault v_traits v_length v_open v_leaks v_places v_models)), ((am 7), .inl (cA 0, 20, .inl f_mergeTo)), ((am 8), .inl (cA 0, 20, .inl f_mergeKnown))] sz) := by
  refine Met.ofW (cc := cX9_merge) (maxL := 4) (ret := (some .int)) (by decide) rfl ?_
  intro p e s m args below meth c s₁ B hml hv
  obtain ⟨rfl, hsz, hP, hK, hD0, hN⟩ := hv
  have hx := B.exec
  have hb := B.bytes
  have hr := B.returns
  have hts := atoms_spec (ws := wsX9_merge) B.pre
  have hown : s.vm.findClass RX9 = some m.cls := findClass_of_methodNamed B.named
  have hlocks := B.notSynchronized
  subst hsz
  have hD := hD0.self (sz := s.heap.size)
  generalize hAe : va_A [((am 0), .inr (9, F9 am v_status v_now v_told v_merges v_taped v_size v_from v_to v_fault v_readFault v_traits v_length v_open v_leaks v_places v_models)), ((am 7), .inl (cA 0, 20, .inl f_mergeTo)), ((am 8), .inl (cA 0, 20, .inl f_mergeKnown))] s.heap.size = A at hD ⊢
  have hA : ∀ q : Nat, s.heap.size ≤ q → A q := fun q h => by rw [← hAe]; exact Or.inr h
  have hS : va_S A s.heap s.heap [] := va_S.rf
  have hIX9 : ∀ w ∈ u_ws RX9 TX9 51, w ∈ wsX9_merge := by decide +kernel
  have hl := lv_entry ([.ref (am 0), .int a, .int b, .int kn]) (n := 4) (Nat.le_of_ble_eq_true rfl)
  rw [lg_entry_eq]
  generalize (lg_sl ([.ref (am 0), .int a, .int b, .int kn]) ++ List.replicate (4 - (lg_sl ([.ref (am 0), .int a, .int b, .int kn])).length) Slot.unset).toArray = ls at hl ⊢
  have hl : lv_has ls 4 [(0, .ref (am 0)), (1, .int a), (2, .int b), (3, .int kn)] := hl
  generalize hQe : MQ below _ _ _ _ _ _ = QQ
  refine lv_iload_n hx hb dX9_merge_0 rfl (lv_at hl 3 rfl) ?_
  obtain ⟨hPc, hDc, hFc, hCc⟩ := va_pre (ws' := []) hP hD hS hA [] (by decide) rfl
  refine va_calli (va_runS (As := [.int kn]) (rest := []) ⟨hx, hb, hml, hown, hts⟩ (k_X9_isMoment l dC dI cA s.heap.size kn ) (va_cwS 1 hts gX9_merge_X9_isMoment rfl rfl rfl (by decide +kernel) ⟨Nat.le_of_ble_eq_true rfl, Nat.le_of_ble_eq_true rfl⟩) ⟨fun a U g mk q => by obtain ⟨q0, q1, qP, qK, qD, qN⟩ := q; exact ⟨q0, q1, qP, va_K.moved (u := U) (U := U.calling g mk a) (Vm.Alike.refl U.vm) qK, qD, qN.same rfl⟩, fun U hU hW => ⟨rfl, by rw [hU], by rw [hU]; exact hPc, va_K.moved hW.alike hK, hDc.weaken (fun _ _ _ _ => trivial), hN.warm hW⟩⟩ rfl rfl hl.1 rfl (lv_room (Nat.le_of_ble_eq_true rfl)) dX9_merge_1 ⟨Nat.le_of_ble_eq_true rfl, Nat.le_of_ble_eq_true rfl⟩) hS (fun q _ h => hFc q h) hFc (fun r_1 u_2 t H1 locs ht hvm hw_3 hB hz1 hk1 hS => ?_)
  try dsimp only at hw_3 hB
  have po_4 := hw_3
  clear hw_3
  obtain ⟨hP1, hD1⟩ := hB
  rw [ht] at hP1
  obtain ⟨hP, hD⟩ := va_join (wr := [((am 0), .inr (9, F9 am v_status v_now v_told v_merges v_taped v_size v_from v_to v_fault v_readFault v_traits v_length v_open v_leaks v_places v_models)), ((am 7), .inl (cA 0, 20, .inl f_mergeTo)), ((am 8), .inl (cA 0, 20, .inl f_mergeKnown))]) (w1 := []) hP hD [] [0, 1, 2] hCc rfl (by decide) (by decide) hk1 hFc hP1 hD1
  clear hz1
  generalize H1 = H at hP hS ⊢
  refine lv_if_ne (tgt := 13) hx hb dX9_merge_4 (by decide) (fun c_5 => ?_) (fun c_5 => ?_)
  · have dc_5 : ¬ r_1.toInt = 0 := jI_ne c_5 rfl (by decide)
    refine lv_iload_n hx hb dX9_merge_13 rfl (lv_at hl 1 rfl) ?_
    obtain ⟨hPc, hDc, hFc, hCc⟩ := va_pre (ws' := []) hP hD hS hA [] (by decide) rfl
    refine va_calli (va_runS (As := [.int a]) (rest := []) ⟨hx, hb, hml, hown, hts⟩ (k_X9_isPerson l dC dI cA H.size a ) (va_cwS 1 hts gX9_merge_X9_isPerson rfl rfl rfl (by decide +kernel) ⟨Nat.le_of_ble_eq_true rfl, Nat.le_of_ble_eq_true rfl⟩) ⟨fun a U g mk q => by obtain ⟨q0, q1, qP, qK, qD, qN⟩ := q; exact ⟨q0, q1, qP, va_K.moved (u := U) (U := U.calling g mk a) (Vm.Alike.refl U.vm) qK, qD, qN.same rfl⟩, fun U hU hW => ⟨rfl, by rw [hU], by rw [hU]; exact hPc, va_K.moved hW.alike hK, hDc.weaken (fun _ _ _ _ => trivial), hN.warm hW⟩⟩ rfl rfl hl.1 rfl (lv_room (Nat.le_of_ble_eq_true rfl)) dX9_merge_14 ⟨Nat.le_of_ble_eq_true rfl, Nat.le_of_ble_eq_true rfl⟩) hS (fun q _ h => hFc q h) hFc (fun r_6 u_7 t H1 locs ht hvm hw_8 hB hz1 hk1 hS => ?_)
    try dsimp only at hw_8 hB
    have po_9 := hw_8
    clear hw_8
    obtain ⟨hP1, hD1⟩ := hB
    rw [ht] at hP1
    obtain ⟨hP, hD⟩ := va_join (wr := [((am 0), .inr (9, F9 am v_status v_now v_told v_merges v_taped v_size v_from v_to v_fault v_readFault v_traits v_length v_open v_leaks v_places v_models)), ((am 7), .inl (cA 0, 20, .inl f_mergeTo)), ((am 8), .inl (cA 0, 20, .inl f_mergeKnown))]) (w1 := []) hP hD [] [0, 1, 2] hCc rfl (by decide) (by decide) hk1 hFc hP1 hD1
    clear hz1
    generalize H1 = H at hP hS ⊢
    refine lv_if_eq (tgt := 27) hx hb dX9_merge_17 (by decide) (fun c_10 => ?_) (fun c_10 => ?_)
    · have dc_10 : r_6.toInt = 0 := jI_eq c_10 rfl (by decide)
      refine lv_aload_n hx hb dX9_merge_27 rfl (lv_at hl 0 rfl) ?_
      refine lv_bipush (v := (-2)) hx hb dX9_merge_28 (by decide) ?_
      have hk_11 : ((-2) : Int32).toInt = (-2) := by decide
      obtain ⟨hPc, hDc, hFc, hCc⟩ := va_pre (ws' := [((am 0), .inr (9, F9 am v_status v_now v_told v_merges v_taped v_size v_from v_to v_fault v_readFault v_traits v_length v_open v_leaks v_places v_models))]) hP hD hS hA [0] (by decide) rfl
      refine va_calli (va_runV (As := [.int (-2)]) (rest := []) ⟨hx, hb, hml, hown, hts⟩ (k_X9_ends l dC dI cA H.size am v_status v_now v_told v_merges v_taped v_size v_from v_to v_fault v_readFault v_traits v_length v_open v_leaks v_places v_models (-2) i_v_now i_v_told i_v_taped i_v_size i_v_from i_v_to i_v_traits i_v_length i_v_open i_v_places i_v_models) (cwV 1 hts gX9_merge_X9_ends rfl rfl rfl (by decide +kernel) ⟨Nat.le_of_ble_eq_true rfl, Nat.le_of_ble_eq_true rfl⟩) ⟨fun a U g mk q => by obtain ⟨q0, q1, qP, qK, qD, qN⟩ := q; exact ⟨q0, q1, qP, va_K.moved (u := U) (U := U.calling g mk a) (Vm.Alike.refl U.vm) qK, qD, qN.same rfl⟩, va_recv hK hPc (ci := 9) (q0 := 0) rfl rfl, fun U hU hW => ⟨rfl, by rw [hU], by rw [hU]; exact hPc, va_K.moved hW.alike hK, hDc.weaken (fun _ _ _ _ => trivial), hN.warm hW⟩⟩ rfl rfl hl.1 rfl (lv_room (Nat.le_of_ble_eq_true rfl)) dX9_merge_30 ⟨Nat.le_of_ble_eq_true rfl, Nat.le_of_ble_eq_true rfl⟩) hS (fun q _ h => hFc q h) hFc (fun r_12 u_13 t H1 locs ht hvm hw_14 hB hz1 hk1 hS => ?_)
      obtain ⟨w_15, rfl⟩ : ∃ z, z = u_13 := ⟨_, rfl⟩
      try dsimp only at hw_14 hB
      have hr9 := hw_14
      clear hw_14
      obtain ⟨hP1, hD1⟩ := hB
      rw [ht] at hP1
      obtain ⟨hP, hD⟩ := va_join (wr := [((am 7), .inl (cA 0, 20, .inl f_mergeTo)), ((am 8), .inl (cA 0, 20, .inl f_mergeKnown))]) (w1 := [((am 0), .inr (9, F9 am w_15 v_now v_told v_merges v_taped v_size v_from v_to v_fault v_readFault v_traits v_length v_open v_leaks v_places v_models))]) hP hD [0] [1, 2] hCc rfl (by decide) (by decide) hk1 hFc hP1 hD1
      clear hz1
      generalize H1 = H at hP hS ⊢
      obtain rfl : (-2) = r_12 := hr9.symm
      obtain ⟨hP9, hD9⟩ := va_pd (ws' := [((am 0), .inr (9, F9 am w_15 v_now v_told v_merges v_taped v_size v_from v_to v_fault v_readFault v_traits v_length v_open v_leaks v_places v_models)), ((am 7), .inl (cA 0, 20, .inl f_mergeTo)), ((am 8), .inl (cA 0, 20, .inl f_mergeKnown))]) hP hD [2, 0, 1] (by decide) rfl
      subst hQe
      have hans : ((-2) : Int32).toInt = (-2) := (by decide)
      have hpost : (inB (-1) 19 20 f_mergeTo) ∧ (inB 0 100000 20 f_mergeKnown) ∧ (Acyc f_mergeTo ∧ mgRes f_mergeTo f_mergeKnown v_merges a b kn ((-2) : Int32) v_merges f_mergeTo f_mergeKnown) := ⟨i_f_mergeTo, i_f_mergeKnown, ⟨hac, Or.inr (Or.inl ⟨by omega, by omega, by omega, rfl, rfl, rfl⟩)⟩⟩
      exact W.iret (v := (-2)) hx hb hr (fun t ht hW => ⟨⟨(-2), (w_15, v_merges, f_mergeTo, f_mergeKnown), rfl, hpost, by rw [ht]; exact hP9, hD9⟩, hS.F ht⟩) hS.2.2 dX9_merge_33
    · have dc_10 : ¬ r_6.toInt = 0 := jI_ne c_10 rfl (by decide)
      refine lv_iload_n hx hb dX9_merge_20 rfl (lv_at hl 2 rfl) ?_
      obtain ⟨hPc, hDc, hFc, hCc⟩ := va_pre (ws' := []) hP hD hS hA [] (by decide) rfl
      refine va_calli (va_runS (As := [.int b]) (rest := []) ⟨hx, hb, hml, hown, hts⟩ (k_X9_isPerson l dC dI cA H.size b ) (va_cwS 1 hts gX9_merge_X9_isPerson rfl rfl rfl (by decide +kernel) ⟨Nat.le_of_ble_eq_true rfl, Nat.le_of_ble_eq_true rfl⟩) ⟨fun a U g mk q => by obtain ⟨q0, q1, qP, qK, qD, qN⟩ := q; exact ⟨q0, q1, qP, va_K.moved (u := U) (U := U.calling g mk a) (Vm.Alike.refl U.vm) qK, qD, qN.same rfl⟩, fun U hU hW => ⟨rfl, by rw [hU], by rw [hU]; exact hPc, va_K.moved hW.alike hK, hDc.weaken (fun _ _ _ _ => trivial), hN.warm hW⟩⟩ rfl rfl hl.1 rfl (lv_room (Nat.le_of_ble_eq_true rfl)) dX9_merge_21 ⟨Nat.le_of_ble_eq_true rfl, Nat.le_of_ble_eq_true rfl⟩) hS (fun q _ h => hFc q h) hFc (fun r_16 u_17 t H1 locs ht hvm hw_18 hB hz1 hk1 hS => ?_)
      try dsimp only at hw_18 hB
      have po_19 := hw_18
      clear hw_18
      obtain ⟨hP1, hD1⟩ := hB
      rw [ht] at hP1
      obtain ⟨hP, hD⟩ := va_join (wr := [((am 0), .inr (9, F9 am v_status v_now v_told v_merges v_taped v_size v_from v_to v_fault v_readFault v_traits v_length v_open v_leaks v_places v_models)), ((am 7), .inl (cA 0, 20, .inl f_mergeTo)), ((am 8), .inl (cA 0, 20, .inl f_mergeKnown))]) (w1 := []) hP hD [] [0, 1, 2] hCc rfl (by decide) (by decide) hk1 hFc hP1 hD1
      clear hz1
      generalize H1 = H at hP hS ⊢
      refine lv_if_ne (tgt := 34) hx hb dX9_merge_24 (by decide) (fun c_20 => ?_) (fun c_20 => ?_)
      · have dc_20 : ¬ r_16.toInt = 0 := jI_ne c_20 rfl (by decide)
        refine lv_aload_n hx hb dX9_merge_34 rfl (lv_at hl 0 rfl) ?_
        refine va_get (D := (dC, dI)) (ci := 9) (v := .ref (am 7)) (C := RX9) (T := TX9) (N := 51) hx hb hts hIX9 hown hK hP 0 rfl rfl 9 (by decide) (hts (.fieldLink RX9 29 "TraitHouseModel" "mergeTo" "[I") (by decide +kernel)) (fun _ h9 => h9) rfl dX9_merge_35 ?_
        refine lv_iload_n hx hb dX9_merge_38 rfl (lv_at hl 1 rfl) ?_
        have h_21 : vp_in a 20 := (vp_in_iff.mpr ⟨by omega, by omega⟩)
        refine va_iald hx hb hK hP 1 0 rfl rfl h_21 dX9_merge_39 ?_
        refine lv_topi (fun x_22 ex_22 => ?_)
        have bx_22 := i_f_mergeTo _ (jix h_21)
        rw [← ex_22] at bx_22
        refine lv_iconst (v := (-1)) hx hb dX9_merge_40 (by decide) ?_
        refine lv_icmp_ne (tgt := 55) hx hb dX9_merge_41 (by decide) (fun c_23 => ?_) (fun c_23 => ?_)
        · have dc_23 : ¬ x_22.toInt = (-1) := jI_ne c_23 rfl (by decide)
          refine lv_aload_n hx hb dX9_merge_55 rfl (lv_at hl 0 rfl) ?_
          refine lv_bipush (v := (-4)) hx hb dX9_merge_56 (by decide) ?_
          have hk_24 : ((-4) : Int32).toInt = (-4) := by decide
          obtain ⟨hPc, hDc, hFc, hCc⟩ := va_pre (ws' := [((am 0), .inr (9, F9 am v_status v_now v_told v_merges v_taped v_size v_from v_to v_fault v_readFault v_traits v_length v_open v_leaks v_places v_models))]) hP hD hS hA [0] (by decide) rfl
          refine va_calli (va_runV (As := [.int (-4)]) (rest := []) ⟨hx, hb, hml, hown, hts⟩ (k_X9_ends l dC dI cA H.size am v_status v_now v_told v_merges v_taped v_size v_from v_to v_fault v_readFault v_traits v_length v_open v_leaks v_places v_models (-4) i_v_now i_v_told i_v_taped i_v_size i_v_from i_v_to i_v_traits i_v_length i_v_open i_v_places i_v_models) (cwV 1 hts gX9_merge_X9_ends rfl rfl rfl (by decide +kernel) ⟨Nat.le_of_ble_eq_true rfl, Nat.le_of_ble_eq_true rfl⟩) ⟨fun a U g mk q => by obtain ⟨q0, q1, qP, qK, qD, qN⟩ := q; exact ⟨q0, q1, qP, va_K.moved (u := U) (U := U.calling g mk a) (Vm.Alike.refl U.vm) qK, qD, qN.same rfl⟩, va_recv hK hPc (ci := 9) (q0 := 0) rfl rfl, fun U hU hW => ⟨rfl, by rw [hU], by rw [hU]; exact hPc, va_K.moved hW.alike hK, hDc.weaken (fun _ _ _ _ => trivial), hN.warm hW⟩⟩ rfl rfl hl.1 rfl (lv_room (Nat.le_of_ble_eq_true rfl)) dX9_merge_58 ⟨Nat.le_of_ble_eq_true rfl, Nat.le_of_ble_eq_true rfl⟩) hS (fun q _ h => hFc q h) hFc (fun r_25 u_26 t H1 locs ht hvm hw_27 hB hz1 hk1 hS => ?_)
          obtain ⟨w_28, rfl⟩ : ∃ z, z = u_26 := ⟨_, rfl⟩
          try dsimp only at hw_27 hB
          have hr9 := hw_27
          clear hw_27
          obtain ⟨hP1, hD1⟩ := hB
          rw [ht] at hP1
          obtain ⟨hP, hD⟩ := va_join (wr := [((am 7), .inl (cA 0, 20, .inl f_mergeTo)), ((am 8), .inl (cA 0, 20, .inl f_mergeKnown))]) (w1 := [((am 0), .inr (9, F9 am w_28 v_now v_told v_merges v_taped v_size v_from v_to v_fault v_readFault v_traits v_length v_open v_leaks v_places v_models))]) hP hD [0] [1, 2] hCc rfl (by decide) (by decide) hk1 hFc hP1 hD1
          clear hz1
          generalize H1 = H at hP hS ⊢
          obtain rfl : (-4) = r_25 := hr9.symm
          obtain ⟨hP9, hD9⟩ := va_pd (ws' := [((am 0), .inr (9, F9 am w_28 v_now v_told v_merges v_taped v_size v_from v_to v_fault v_readFault v_traits v_length v_open v_leaks v_places v_models)), ((am 7), .inl (cA 0, 20, .inl f_mergeTo)), ((am 8), .inl (cA 0, 20, .inl f_mergeKnown))]) hP hD [2, 0, 1] (by decide) rfl
          subst hQe
          have hans : ((-4) : Int32).toInt = (-4) := (by decide)
          have hpost : (inB (-1) 19 20 f_mergeTo) ∧ (inB 0 100000 20 f_mergeKnown) ∧ (Acyc f_mergeTo ∧ mgRes f_mergeTo f_mergeKnown v_merges a b kn ((-4) : Int32) v_merges f_mergeTo f_mergeKnown) := ⟨i_f_mergeTo, i_f_mergeKnown, ⟨hac, Or.inr (Or.inr (Or.inl ⟨by omega, by omega, Or.inl (by rw [← ex_22]; omega), by omega, rfl, rfl, rfl⟩))⟩⟩
          exact W.iret (v := (-4)) hx hb hr (fun t ht hW => ⟨⟨(-4), (w_28, v_merges, f_mergeTo, f_mergeKnown), rfl, hpost, by rw [ht]; exact hP9, hD9⟩, hS.F ht⟩) hS.2.2 dX9_merge_61
        · have dc_23 : x_22.toInt = (-1) := jI_eq c_23 rfl (by decide)
          refine lv_aload_n hx hb dX9_merge_44 rfl (lv_at hl 0 rfl) ?_
          refine lv_iload_n hx hb dX9_merge_45 rfl (lv_at hl 2 rfl) ?_
          refine lv_ldc hx hb hown (hts (.constant RX9 156 (100000)) (by decide +kernel)) dX9_merge_46 ?_
          have hk_29 : (100000 : Int32).toInt = 100000 := by decide
          obtain ⟨hPc, hDc, hFc, hCc⟩ := va_pre (ws' := [((am 0), .inr (9, F9 am v_status v_now v_told v_merges v_taped v_size v_from v_to v_fault v_readFault v_traits v_length v_open v_leaks v_places v_models)), ((am 7), .inl (cA 0, 20, .inl f_mergeTo)), ((am 8), .inl (cA 0, 20, .inl f_mergeKnown))]) hP hD hS hA [0, 1, 2] (by decide) rfl
          refine va_calli (va_runV (As := [.int b, .int 100000]) (rest := []) ⟨hx, hb, hml, hown, hts⟩ (k_X9_last l dC dI cA H.size am v_status v_now v_told v_merges v_taped v_size v_from v_to v_fault v_readFault v_traits v_length v_open v_leaks v_places v_models f_mergeTo f_mergeKnown b 100000 i_v_now i_v_told i_v_taped i_v_size i_v_from i_v_to i_v_traits i_v_length i_v_open i_v_places i_v_models i_f_mergeTo i_f_mergeKnown hac (by omega)) (cwV 2 hts gX9_merge_X9_last rfl rfl rfl (by decide +kernel) ⟨Nat.le_of_ble_eq_true rfl, Nat.le_of_ble_eq_true rfl⟩) ⟨fun a U g mk q => by obtain ⟨q0, q1, qP, qK, qD, qN⟩ := q; exact ⟨q0, q1, qP, va_K.moved (u := U) (U := U.calling g mk a) (Vm.Alike.refl U.vm) qK, qD, qN.same rfl⟩, va_recv hK hPc (ci := 9) (q0 := 0) rfl rfl, fun U hU hW => ⟨rfl, by rw [hU], by rw [hU]; exact hPc, va_K.moved hW.alike hK, hDc.weaken (fun _ _ _ _ => trivial), hN.warm hW⟩⟩ rfl rfl hl.1 rfl (lv_room (Nat.le_of_ble_eq_true rfl)) dX9_merge_48 ⟨Nat.le_of_ble_eq_true rfl, Nat.le_of_ble_eq_true rfl⟩) hS (fun q _ h => hFc q h) hFc (fun r_30 u_31 t H1 locs ht hvm hw_32 hB hz1 hk1 hS => ?_)
          try dsimp only at hw_32 hB
          have po_33 := hw_32
          clear hw_32
          try simp only [hk_29] at po_33
          obtain ⟨hP1, hD1⟩ := hB
          rw [ht] at hP1
          obtain ⟨hP, hD⟩ := va_join (wr := []) (w1 := [((am 0), .inr (9, F9 am v_status v_now v_told v_merges v_taped v_size v_from v_to v_fault v_readFault v_traits v_length v_open v_leaks v_places v_models)), ((am 7), .inl (cA 0, 20, .inl f_mergeTo)), ((am 8), .inl (cA 0, 20, .inl f_mergeKnown))]) hP hD [0, 1, 2] [] hCc rfl (by decide) (by decide) hk1 hFc hP1 hD1
          clear hz1
          generalize H1 = H at hP hS ⊢
          refine lv_iload_n hx hb dX9_merge_51 rfl (lv_at hl 1 rfl) ?_
          refine lv_icmp_ne (tgt := 62) hx hb dX9_merge_52 (by decide) (fun c_34 => ?_) (fun c_34 => ?_)
          · have dc_34 : ¬ r_30.toInt = a.toInt := jI_ne c_34 rfl rfl
            refine lv_aload_n hx hb dX9_merge_62 rfl (lv_at hl 0 rfl) ?_
            refine va_get (D := (dC, dI)) (ci := 9) (v := .ref (am 7)) (C := RX9) (T := TX9) (N := 51) hx hb hts hIX9 hown hK hP 0 rfl rfl 9 (by decide) (hts (.fieldLink RX9 29 "TraitHouseModel" "mergeTo" "[I") (by decide +kernel)) (fun _ h9 => h9) rfl dX9_merge_63 ?_
            refine lv_iload_n hx hb dX9_merge_66 rfl (lv_at hl 1 rfl) ?_
            refine lv_iload_n hx hb dX9_merge_67 rfl (lv_at hl 2 rfl) ?_
            have h_35 : vp_in a 20 := (vp_in_iff.mpr ⟨by omega, by omega⟩)
            refine va_iast hx hb hK hP hD hS 1 0 rfl rfl h_35 dX9_merge_68 (fun H locs hP hD hS => ?_)
            replace hP : va_P (dC, dI) vwCl [((am 0), .inr (9, F9 am v_status v_now v_told v_merges v_taped v_size v_from v_to v_fault v_readFault v_traits v_length v_open v_leaks v_places v_models)), ((am 7), .inl (cA 0, 20, .inl (upd f_mergeTo a.toNatClampNeg b))), ((am 8), .inl (cA 0, 20, .inl f_mergeKnown))] H := hP
            replace hD : va_D A [((am 0), .inr (9, F9 am v_status v_now v_told v_merges v_taped v_size v_from v_to v_fault v_readFault v_traits v_length v_open v_leaks v_places v_models)), ((am 7), .inl (cA 0, 20, .inl (upd f_mergeTo a.toNatClampNeg b))), ((am 8), .inl (cA 0, 20, .inl f_mergeKnown))] := hD
            obtain ⟨g_36, eg_36⟩ : ∃ g : Nat → Int32, g = upd f_mergeTo a.toNatClampNeg b := ⟨_, rfl⟩
            rw [← eg_36] at hP hD
            have ig_36 : inB (-1) 19 20 g_36 := by rw [eg_36]; exact inB_upd i_f_mergeTo (by omega) (by omega)
            refine lv_aload_n hx hb dX9_merge_69 rfl (lv_at hl 0 rfl) ?_
            refine va_get (D := (dC, dI)) (ci := 9) (v := .ref (am 8)) (C := RX9) (T := TX9) (N := 51) hx hb hts hIX9 hown hK hP 0 rfl rfl 10 (by decide) (hts (.fieldLink RX9 32 "TraitHouseModel" "mergeKnown" "[I") (by decide +kernel)) (fun _ h9 => h9) rfl dX9_merge_70 ?_
            refine lv_iload_n hx hb dX9_merge_73 rfl (lv_at hl 1 rfl) ?_
            refine lv_iload_n hx hb dX9_merge_74 rfl (lv_at hl 3 rfl) ?_
            have h_37 : vp_in a 20 := (vp_in_iff.mpr ⟨by omega, by omega⟩)
            refine va_iast hx hb hK hP hD hS 2 0 rfl rfl h_37 dX9_merge_75 (fun H locs hP hD hS => ?_)
            replace hP : va_P (dC, dI) vwCl [((am 0), .inr (9, F9 am v_status v_now v_told v_merges v_taped v_size v_from v_to v_fault v_readFault v_traits v_length v_open v_leaks v_places v_models)), ((am 7), .inl (cA 0, 20, .inl g_36)), ((am 8), .inl (cA 0, 20, .inl (upd f_mergeKnown a.toNatClampNeg kn)))] H := hP
            replace hD : va_D A [((am 0), .inr (9, F9 am v_status v_now v_told v_merges v_taped v_size v_from v_to v_fault v_readFault v_traits v_length v_open v_leaks v_places v_models)), ((am 7), .inl (cA 0, 20, .inl g_36)), ((am 8), .inl (cA 0, 20, .inl (upd f_mergeKnown a.toNatClampNeg kn)))] := hD
            obtain ⟨g_38, eg_38⟩ : ∃ g : Nat → Int32, g = upd f_mergeKnown a.toNatClampNeg kn := ⟨_, rfl⟩
            rw [← eg_38] at hP hD
            have ig_38 : inB 0 100000 20 g_38 := by rw [eg_38]; exact inB_upd i_f_mergeKnown (by omega) (by omega)
            refine lv_aload_n hx hb dX9_merge_76 rfl (lv_at hl 0 rfl) ?_
            refine lv_dup hx hb dX9_merge_77 rfl ?_
            refine va_get (D := (dC, dI)) (ci := 9) (v := .int v_merges) (C := RX9) (T := TX9) (N := 51) hx hb hts hIX9 hown hK hP 0 rfl rfl 11 (by decide) (hts (.fieldLink RX9 161 "TraitHouseModel" "merges" "I") (by decide +kernel)) (fun _ h9 => h9) rfl dX9_merge_78 ?_
            refine lv_iconst (v := 1) hx hb dX9_merge_81 (by decide) ?_
            refine lv_iadd hx hb dX9_merge_82 ?_
            refine lv_topi (fun x_39 ex_39 => ?_)
            refine va_put (D := (dC, dI)) (ci := 9) (v := .int x_39) (ty := .int) (C := RX9) (T := TX9) (N := 51) hx hb hts hIX9 tyX9 tyX9_ok nmX9 hown hK hP hD hS 0 rfl rfl 11 (by decide) (hts (.fieldLink RX9 161 "TraitHouseModel" "merges" "I") (by decide +kernel)) (fun _ h9 => h9) rfl (by decide +kernel) rfl rfl (Nat.le_of_ble_eq_true rfl) dX9_merge_83 (fun H locs hP hD hS => ?_)
            replace hP : va_P (dC, dI) vwCl [((am 0), .inr (9, F9 am v_status v_now v_told x_39 v_taped v_size v_from v_to v_fault v_readFault v_traits v_length v_open v_leaks v_places v_models)), ((am 7), .inl (cA 0, 20, .inl g_36)), ((am 8), .inl (cA 0, 20, .inl g_38))] H := hP
            replace hD : va_D A [((am 0), .inr (9, F9 am v_status v_now v_told x_39 v_taped v_size v_from v_to v_fault v_readFault v_traits v_length v_open v_leaks v_places v_models)), ((am 7), .inl (cA 0, 20, .inl g_36)), ((am 8), .inl (cA 0, 20, .inl g_38))] := hD
            refine lv_aload_n hx hb dX9_merge_86 rfl (lv_at hl 0 rfl) ?_
            refine lv_aload_n hx hb dX9_merge_87 rfl (lv_at hl 0 rfl) ?_
            refine va_get (D := (dC, dI)) (ci := 9) (v := .int x_39) (C := RX9) (T := TX9) (N := 51) hx hb hts hIX9 hown hK hP 0 rfl rfl 11 (by decide) (hts (.fieldLink RX9 161 "TraitHouseModel" "merges" "I") (by decide +kernel)) (fun _ h9 => h9) rfl dX9_merge_88 ?_
            obtain ⟨hPc, hDc, hFc, hCc⟩ := va_pre (ws' := [((am 0), .inr (9, F9 am v_status v_now v_told x_39 v_taped v_size v_from v_to v_fault v_readFault v_traits v_length v_open v_leaks v_places v_models))]) hP hD hS hA [0] (by decide) rfl
            refine va_calli (va_runV (As := [.int x_39]) (rest := []) ⟨hx, hb, hml, hown, hts⟩ (k_X9_ends l dC dI cA H.size am v_status v_now v_told x_39 v_taped v_size v_from v_to v_fault v_readFault v_traits v_length v_open v_leaks v_places v_models x_39 i_v_now i_v_told i_v_taped i_v_size i_v_from i_v_to i_v_traits i_v_length i_v_open i_v_places i_v_models) (cwV 1 hts gX9_merge_X9_ends rfl rfl rfl (by decide +kernel) ⟨Nat.le_of_ble_eq_true rfl, Nat.le_of_ble_eq_true rfl⟩) ⟨fun a U g mk q => by obtain ⟨q0, q1, qP, qK, qD, qN⟩ := q; exact ⟨q0, q1, qP, va_K.moved (u := U) (U := U.calling g mk a) (Vm.Alike.refl U.vm) qK, qD, qN.same rfl⟩, va_recv hK hPc (ci := 9) (q0 := 0) rfl rfl, fun U hU hW => ⟨rfl, by rw [hU], by rw [hU]; exact hPc, va_K.moved hW.alike hK, hDc.weaken (fun _ _ _ _ => trivial), hN.warm hW⟩⟩ rfl rfl hl.1 rfl (lv_room (Nat.le_of_ble_eq_true rfl)) dX9_merge_91 ⟨Nat.le_of_ble_eq_true rfl, Nat.le_of_ble_eq_true rfl⟩) hS (fun q _ h => hFc q h) hFc (fun r_40 u_41 t H1 locs ht hvm hw_42 hB hz1 hk1 hS => ?_)
            obtain ⟨w_43, rfl⟩ : ∃ z, z = u_41 := ⟨_, rfl⟩
            try dsimp only at hw_42 hB
            have hr9 := hw_42
            clear hw_42
            obtain ⟨hP1, hD1⟩ := hB
            rw [ht] at hP1
            obtain ⟨hP, hD⟩ := va_join (wr := [((am 7), .inl (cA 0, 20, .inl g_36)), ((am 8), .inl (cA 0, 20, .inl g_38))]) (w1 := [((am 0), .inr (9, F9 am w_43 v_now v_told x_39 v_taped v_size v_from v_to v_fault v_readFault v_traits v_length v_open v_leaks v_places v_models))]) hP hD [0] [1, 2] hCc rfl (by decide) (by decide) hk1 hFc hP1 hD1
            clear hz1
            generalize H1 = H at hP hS ⊢
            obtain rfl : x_39 = r_40 := hr9.symm
            obtain ⟨hP9, hD9⟩ := va_pd (ws' := [((am 0), .inr (9, F9 am w_43 v_now v_told x_39 v_taped v_size v_from v_to v_fault v_readFault v_traits v_length v_open v_leaks v_places v_models)), ((am 7), .inl (cA 0, 20, .inl g_36)), ((am 8), .inl (cA 0, 20, .inl g_38))]) hP hD [2, 0, 1] (by decide) rfl
            subst hQe
            have hans : (x_39 : Int32).toInt = x_39.toInt := rfl
            have hpost : (inB (-1) 19 20 g_36) ∧ (inB 0 100000 20 g_38) ∧ (Acyc g_36 ∧ mgRes f_mergeTo f_mergeKnown v_merges a b kn (x_39 : Int32) x_39 g_36 g_38) := ⟨ig_36, ig_38, ⟨acyc_add i_f_mergeTo i_f_mergeKnown hac (by omega) (by omega) (by omega) (by omega) rfl ex_22 (by omega) (by have := po_33; omega) eg_36, Or.inr (Or.inr (Or.inr ⟨by omega, by omega, by rw [← ex_22]; omega, (by have := po_33; omega), ex_39, ex_39, eg_36, eg_38⟩))⟩⟩
            exact W.iret (v := x_39) hx hb hr (fun t ht hW => ⟨⟨x_39, (w_43, x_39, g_36, g_38), rfl, hpost, by rw [ht]; exact hP9, hD9⟩, hS.F ht⟩) hS.2.2 dX9_merge_94
          · have dc_34 : r_30.toInt = a.toInt := jI_eq c_34 rfl rfl
            refine lv_aload_n hx hb dX9_merge_55 rfl (lv_at hl 0 rfl) ?_
            refine lv_bipush (v := (-4)) hx hb dX9_merge_56 (by decide) ?_
            have hk_44 : ((-4) : Int32).toInt = (-4) := by decide
            obtain ⟨hPc, hDc, hFc, hCc⟩ := va_pre (ws' := [((am 0), .inr (9, F9 am v_status v_now v_told v_merges v_taped v_size v_from v_to v_fault v_readFault v_traits v_length v_open v_leaks v_places v_models))]) hP hD hS hA [0] (by decide) rfl
            refine va_calli (va_runV (As := [.int (-4)]) (rest := []) ⟨hx, hb, hml, hown, hts⟩ (k_X9_ends l dC dI cA H.size am v_status v_now v_told v_merges v_taped v_size v_from v_to v_fault v_readFault v_traits v_length v_open v_leaks v_places v_models (-4) i_v_now i_v_told i_v_taped i_v_size i_v_from i_v_to i_v_traits i_v_length i_v_open i_v_places i_v_models) (cwV 1 hts gX9_merge_X9_ends rfl rfl rfl (by decide +kernel) ⟨Nat.le_of_ble_eq_true rfl, Nat.le_of_ble_eq_true rfl⟩) ⟨fun a U g mk q => by obtain ⟨q0, q1, qP, qK, qD, qN⟩ := q; exact ⟨q0, q1, qP, va_K.moved (u := U) (U := U.calling g mk a) (Vm.Alike.refl U.vm) qK, qD, qN.same rfl⟩, va_recv hK hPc (ci := 9) (q0 := 0) rfl rfl, fun U hU hW => ⟨rfl, by rw [hU], by rw [hU]; exact hPc, va_K.moved hW.alike hK, hDc.weaken (fun _ _ _ _ => trivial), hN.warm hW⟩⟩ rfl rfl hl.1 rfl (lv_room (Nat.le_of_ble_eq_true rfl)) dX9_merge_58 ⟨Nat.le_of_ble_eq_true rfl, Nat.le_of_ble_eq_true rfl⟩) hS (fun q _ h => hFc q h) hFc (fun r_45 u_46 t H1 locs ht hvm hw_47 hB hz1 hk1 hS => ?_)
            obtain ⟨w_48, rfl⟩ : ∃ z, z = u_46 := ⟨_, rfl⟩
            try dsimp only at hw_47 hB
            have hr9 := hw_47
            clear hw_47
            obtain ⟨hP1, hD1⟩ := hB
            rw [ht] at hP1
            obtain ⟨hP, hD⟩ := va_join (wr := [((am 7), .inl (cA 0, 20, .inl f_mergeTo)), ((am 8), .inl (cA 0, 20, .inl f_mergeKnown))]) (w1 := [((am 0), .inr (9, F9 am w_48 v_now v_told v_merges v_taped v_size v_from v_to v_fault v_readFault v_traits v_length v_open v_leaks v_places v_models))]) hP hD [0] [1, 2] hCc rfl (by decide) (by decide) hk1 hFc hP1 hD1
            clear hz1
            generalize H1 = H at hP hS ⊢
            obtain rfl : (-4) = r_45 := hr9.symm
            obtain ⟨hP9, hD9⟩ := va_pd (ws' := [((am 0), .inr (9, F9 am w_48 v_now v_told v_merges v_taped v_size v_from v_to v_fault v_readFault v_traits v_length v_open v_leaks v_places v_models)), ((am 7), .inl (cA 0, 20, .inl f_mergeTo)), ((am 8), .inl (cA 0, 20, .inl f_mergeKnown))]) hP hD [2, 0, 1] (by decide) rfl
            subst hQe
            have hans : ((-4) : Int32).toInt = (-4) := (by decide)
            have hpost : (inB (-1) 19 20 f_mergeTo) ∧ (inB 0 100000 20 f_mergeKnown) ∧ (Acyc f_mergeTo ∧ mgRes f_mergeTo f_mergeKnown v_merges a b kn ((-4) : Int32) v_merges f_mergeTo f_mergeKnown) := ⟨i_f_mergeTo, i_f_mergeKnown, ⟨hac, Or.inr (Or.inr (Or.inl ⟨by omega, by omega, Or.inr (by have := po_33; omega), by omega, rfl, rfl, rfl⟩))⟩⟩
            exact W.iret (v := (-4)) hx hb hr (fun t ht hW => ⟨⟨(-4), (w_48, v_merges, f_mergeTo, f_mergeKnown), rfl, hpost, by rw [ht]; exact hP9, hD9⟩, hS.F ht⟩) hS.2.2 dX9_merge_61
      · have dc_20 : r_16.toInt = 0 := jI_eq c_20 rfl (by decide)
        refine lv_aload_n hx hb dX9_merge_27 rfl (lv_at hl 0 rfl) ?_
        refine lv_bipush (v := (-2)) hx hb dX9_merge_28 (by decide) ?_
        have hk_49 : ((-2) : Int32).toInt = (-2) := by decide
        obtain ⟨hPc, hDc, hFc, hCc⟩ := va_pre (ws' := [((am 0), .inr (9, F9 am v_status v_now v_told v_merges v_taped v_size v_from v_to v_fault v_readFault v_traits v_length v_open v_leaks v_places v_models))]) hP hD hS hA [0] (by decide) rfl
        refine va_calli (va_runV (As := [.int (-2)]) (rest := []) ⟨hx, hb, hml, hown, hts⟩ (k_X9_ends l dC dI cA H.size am v_status v_now v_told v_merges v_taped v_size v_from v_to v_fault v_readFault v_traits v_length v_open v_leaks v_places v_models (-2) i_v_now i_v_told i_v_taped i_v_size i_v_from i_v_to i_v_traits i_v_length i_v_open i_v_places i_v_models) (cwV 1 hts gX9_merge_X9_ends rfl rfl rfl (by decide +kernel) ⟨Nat.le_of_ble_eq_true rfl, Nat.le_of_ble_eq_true rfl⟩) ⟨fun a U g mk q => by obtain ⟨q0, q1, qP, qK, qD, qN⟩ := q; exact ⟨q0, q1, qP, va_K.moved (u := U) (U := U.calling g mk a) (Vm.Alike.refl U.vm) qK, qD, qN.same rfl⟩, va_recv hK hPc (ci := 9) (q0 := 0) rfl rfl, fun U hU hW => ⟨rfl, by rw [hU], by rw [hU]; exact hPc, va_K.moved hW.alike hK, hDc.weaken (fun _ _ _ _ => trivial), hN.warm hW⟩⟩ rfl rfl hl.1 rfl (lv_room (Nat.le_of_ble_eq_true rfl)) dX9_merge_30 ⟨Nat.le_of_ble_eq_true rfl, Nat.le_of_ble_eq_true rfl⟩) hS (fun q _ h => hFc q h) hFc (fun r_50 u_51 t H1 locs ht hvm hw_52 hB hz1 hk1 hS => ?_)
        obtain ⟨w_53, rfl⟩ : ∃ z, z = u_51 := ⟨_, rfl⟩
        try dsimp only at hw_52 hB
        have hr9 := hw_52
        clear hw_52
        obtain ⟨hP1, hD1⟩ := hB
        rw [ht] at hP1
        obtain ⟨hP, hD⟩ := va_join (wr := [((am 7), .inl (cA 0, 20, .inl f_mergeTo)), ((am 8), .inl (cA 0, 20, .inl f_mergeKnown))]) (w1 := [((am 0), .inr (9, F9 am w_53 v_now v_told v_merges v_taped v_size v_from v_to v_fault v_readFault v_traits v_length v_open v_leaks v_places v_models))]) hP hD [0] [1, 2] hCc rfl (by decide) (by decide) hk1 hFc hP1 hD1
        clear hz1
        generalize H1 = H at hP hS ⊢
        obtain rfl : (-2) = r_50 := hr9.symm
        obtain ⟨hP9, hD9⟩ := va_pd (ws' := [((am 0), .inr (9, F9 am w_53 v_now v_told v_merges v_taped v_size v_from v_to v_fault v_readFault v_traits v_length v_open v_leaks v_places v_models)), ((am 7), .inl (cA 0, 20, .inl f_mergeTo)), ((am 8), .inl (cA 0, 20, .inl f_mergeKnown))]) hP hD [2, 0, 1] (by decide) rfl
        subst hQe
        have hans : ((-2) : Int32).toInt = (-2) := (by decide)
        have hpost : (inB (-1) 19 20 f_mergeTo) ∧ (inB 0 100000 20 f_mergeKnown) ∧ (Acyc f_mergeTo ∧ mgRes f_mergeTo f_mergeKnown v_merges a b kn ((-2) : Int32) v_merges f_mergeTo f_mergeKnown) := ⟨i_f_mergeTo, i_f_mergeKnown, ⟨hac, Or.inr (Or.inl ⟨by omega, by omega, by omega, rfl, rfl, rfl⟩)⟩⟩
        exact W.iret (v := (-2)) hx hb hr (fun t ht hW => ⟨⟨(-2), (w_53, v_merges, f_mergeTo, f_mergeKnown), rfl, hpost, by rw [ht]; exact hP9, hD9⟩, hS.F ht⟩) hS.2.2 dX9_merge_33
  · have dc_5 : r_1.toInt = 0 := jI_eq c_5 rfl (by decide)
    refine lv_aload_n hx hb dX9_merge_7 rfl (lv_at hl 0 rfl) ?_
    refine lv_iconst (v := (-1)) hx hb dX9_merge_8 (by decide) ?_
    have hk_54 : ((-1) : Int32).toInt = (-1) := by decide
    obtain ⟨hPc, hDc, hFc, hCc⟩ := va_pre (ws' := [((am 0), .inr (9, F9 am v_status v_now v_told v_merges v_taped v_size v_from v_to v_fault v_readFault v_traits v_length v_open v_leaks v_places v_models))]) hP hD hS hA [0] (by decide) rfl
    refine va_calli (va_runV (As := [.int (-1)]) (rest := []) ⟨hx, hb, hml, hown, hts⟩ (k_X9_ends l dC dI cA H.size am v_status v_now v_told v_merges v_taped v_size v_from v_to v_fault v_readFault v_traits v_length v_open v_leaks v_places v_models (-1) i_v_now i_v_told i_v_taped i_v_size i_v_from i_v_to i_v_traits i_v_length i_v_open i_v_places i_v_models) (cwV 1 hts gX9_merge_X9_ends rfl rfl rfl (by decide +kernel) ⟨Nat.le_of_ble_eq_true rfl, Nat.le_of_ble_eq_true rfl⟩) ⟨fun a U g mk q => by obtain ⟨q0, q1, qP, qK, qD, qN⟩ := q; exact ⟨q0, q1, qP, va_K.moved (u := U) (U := U.calling g mk a) (Vm.Alike.refl U.vm) qK, qD, qN.same rfl⟩, va_recv hK hPc (ci := 9) (q0 := 0) rfl rfl, fun U hU hW => ⟨rfl, by rw [hU], by rw [hU]; exact hPc, va_K.moved hW.alike hK, hDc.weaken (fun _ _ _ _ => trivial), hN.warm hW⟩⟩ rfl rfl hl.1 rfl (lv_room (Nat.le_of_ble_eq_true rfl)) dX9_merge_9 ⟨Nat.le_of_ble_eq_true rfl, Nat.le_of_ble_eq_true rfl⟩) hS (fun q _ h => hFc q h) hFc (fun r_55 u_56 t H1 locs ht hvm hw_57 hB hz1 hk1 hS => ?_)
    obtain ⟨w_58, rfl⟩ : ∃ z, z = u_56 := ⟨_, rfl⟩
    try dsimp only at hw_57 hB
    have hr9 := hw_57
    clear hw_57
    obtain ⟨hP1, hD1⟩ := hB
    rw [ht] at hP1
    obtain ⟨hP, hD⟩ := va_join (wr := [((am 7), .inl (cA 0, 20, .inl f_mergeTo)), ((am 8), .inl (cA 0, 20, .inl f_mergeKnown))]) (w1 := [((am 0), .inr (9, F9 am w_58 v_now v_told v_merges v_taped v_size v_from v_to v_fault v_readFault v_traits v_length v_open v_leaks v_places v_models))]) hP hD [0] [1, 2] hCc rfl (by decide) (by decide) hk1 hFc hP1 hD1
    clear hz1
    generalize H1 = H at hP hS ⊢
    obtain rfl : (-1) = r_55 := hr9.symm
    obtain ⟨hP9, hD9⟩ := va_pd (ws' := [((am 0), .inr (9, F9 am w_58 v_now v_told v_merges v_taped v_size v_from v_to v_fault v_readFault v_traits v_length v_open v_leaks v_places v_models)), ((am 7), .inl (cA 0, 20, .inl f_mergeTo)), ((am 8), .inl (cA 0, 20, .inl f_mergeKnown))]) hP hD [2, 0, 1] (by decide) rfl
    subst hQe
    have hans : ((-1) : Int32).toInt = (-1) := (by decide)
    have hpost : (inB (-1) 19 20 f_mergeTo) ∧ (inB 0 100000 20 f_mergeKnown) ∧ (Acyc f_mergeTo ∧ mgRes f_mergeTo f_mergeKnown v_merges a b kn ((-1) : Int32) v_merges f_mergeTo f_mergeKnown) := ⟨i_f_mergeTo, i_f_mergeKnown, ⟨hac, Or.inl ⟨by omega, by omega, rfl, rfl, rfl⟩⟩⟩
    exact W.iret (v := (-1)) hx hb hr (fun t ht hW => ⟨⟨(-1), (w_58, v_merges, f_mergeTo, f_mergeKnown), rfl, hpost, by rw [ht]; exact hP9, hD9⟩, hS.F ht⟩) hS.2.2 dX9_merge_12

set_option maxHeartbeats 8000000 in
set_option maxRecDepth 100000 in
theorem k_X9_leads (l : Launch) (dC : Nat → ClassId) (dI : Nat → Nat → Nat) (cA : Nat → ClassId) (sz : Nat) (am : Nat → Nat) (v_status : Int32) (v_now : Int32) (v_told : Int32) (v_merges : Int32) (v_taped : Int32) (v_size : Int32) (v_from : Int32) (v_to : Int32) (v_fault : Int32) (v_readFault : Int32) (v_traits : Int32) (v_length : Int32) (v_open : Int32) (v_leaks : Int32) (v_places : Int32) (v_models : Int32) (f_mergeTo : Nat → Int32) (f_mergeKnown : Nat → Int32) (a : Int32) (kn : Int32) (i_v_now : 0 ≤ v_now.toInt ∧ v_now.toInt ≤ 100000) (i_v_told : 0 ≤ v_told.toInt ∧ v_told.toInt ≤ 400) (i_v_taped : 0 ≤ v_taped.toInt ∧ v_taped.toInt ≤ 200) (i_v_size : 0 ≤ v_size.toInt ∧ v_size.toInt ≤ 200) (i_v_from : 0 ≤ v_from.toInt ∧ v_from.toInt ≤ 200) (i_v_to : 0 ≤ v_to.toInt ∧ v_to.toInt ≤ 200) (i_v_traits : 0 ≤ v_traits.toInt ∧ v_traits.toInt ≤ 20) (i_v_length : 0 ≤ v_length.toInt ∧ v_length.toInt ≤ 200) (i_v_open : 0 ≤ v_open.toInt ∧ v_open.toInt ≤ 8) (i_v_places : 0 ≤ v_places.toInt ∧ v_places.toInt ≤ 2000) (i_v_models : 0 ≤ v_models.toInt ∧ v_models.toInt ≤ 10) (i_f_mergeTo : inB (-1) 19 20 f_mergeTo) (i_f_mergeKnown : inB 0 100000 20 f_mergeKnown) (hac : Acyc f_mergeTo) : Met l yX9_leads wsX9_leads ({ frames := 2, cells := 0, slots := 0, locals := 45 }) (va_Pc [.ref (am 0), .int a, .int kn] (fun U => U.heap.size = sz ∧ va_P (dC, dI) vwCl [((am 0), .inr (9, F9 am v_status v_now v_told v_merges v_taped v_size v_from v_to v_fault v_readFault v_traits v_length v_open v_leaks v_places v_models)), ((am 7), .inl (cA 0, 20, .inl f_mergeTo)), ((am 8), .inl (cA 0, 20, .inl f_mergeKnown))] U.heap ∧ va_K (dC, dI) vwCl (tyL cA) U ∧ va_D (fun _ => True) [((am 0), .inr (9, F9 am v_status v_now v_told v_merges v_taped v_size v_from v_to v_fault v_readFault v_traits v_length v_open v_leaks v_places v_models)), ((am 7), .inl (cA 0, 20, .inl f_mergeTo)), ((am 8), .inl (cA 0, 20, .inl f_mergeKnown))] ∧ nw_ok U)) (va_Qi (fun (r : Int32) (_ : Unit) => (ldRes f_mergeTo f_mergeKnown a kn r)) (fun (_ : Unit) (t : State) => va_P (dC, dI) vwCl [((am 0), .inr (9, F9 am v_status v_now v_told v_merges v_taped v_size v_from v_to v_fault v_readFault v_traits v_length v_open v_leaks v_places v_models)), ((am 7), .inl (cA 0, 20, .inl f_mergeTo)), ((am 8), .inl (cA 0, 20, .inl f_mergeKnown))] t.heap ∧ va_D (va_A [((am 0), .inr (9, F9 am v_status v_now v_told v_merges v_taped v_size v_from v_to v_fault v_readFault v_traits v_length v_open v_leaks v_places v_models)), ((am 7), .inl (cA 0, 20, .inl f_mergeTo)), ((am 8), .inl (cA 0, 20, .inl f_mergeKnown))] sz) [((am 0), .inr (9, F9 am v_status v_now v_told v_merges v_taped v_size v_from v_to v_fault v_readFault v_traits v_length v_open v_leaks v_places v_models)), ((am 7), .inl (cA 0, 20, .inl f_mergeTo)), ((am 8), .inl (cA 0, 20, .inl f_mergeKnown))]) (va_A [((am 0), .inr (9, F9 am v_status v_now v_told v_merges v_taped v_size v_from v_to v_fault v_readFault v_traits v_length v_open v_leaks v_places v_models)), ((am 7), .inl (cA 0, 20, .inl f_mergeTo)), ((am 8), .inl (cA 0, 20, .inl f_mergeKnown))] sz)) 0 0 (va_A [((am 0), .inr (9, F9 am v_status v_now v_told v_merges v_taped v_size v_from v_to v_fault v_readFault v_traits v_length v_open v_leaks v_places v_models)), ((am 7), .inl (cA 0, 20, .inl f_mergeTo)), ((am 8), .inl (cA 0, 20, .inl f_mergeKnown))] sz) := by
  refine Met.ofW (cc := cX9_leads) (maxL := 3) (ret := (some .int)) (by decide) rfl ?_
  intro p e s m args below meth c s₁ B hml hv
  obtain ⟨rfl, hsz, hP, hK, hD0, hN⟩ := hv
  have hx := B.exec
  have hb := B.bytes
  have hr := B.returns
  have hts := atoms_spec (ws := wsX9_leads) B.pre
  have hown : s.vm.findClass RX9 = some m.cls := findClass_of_methodNamed B.named
  have hlocks := B.notSynchronized
  subst hsz
  have hD := hD0.self (sz := s.heap.size)
  generalize hAe : va_A [((am 0), .inr (9, F9 am v_status v_now v_told v_merges v_taped v_size v_from v_to v_fault v_readFault v_traits v_length v_open v_leaks v_places v_models)), ((am 7), .inl (cA 0, 20, .inl f_mergeTo)), ((am 8), .inl (cA 0, 20, .inl f_mergeKnown))] s.heap.size = A at hD ⊢
  have hA : ∀ q : Nat, s.heap.size ≤ q → A q := fun q h => by rw [← hAe]; exact Or.inr h
  have hS : va_S A s.heap s.heap [] := va_S.rf
  have hl := lv_entry ([.ref (am 0), .int a, .int kn]) (n := 3) (Nat.le_of_ble_eq_true rfl)
  rw [lg_entry_eq]
  generalize (lg_sl ([.ref (am 0), .int a, .int kn]) ++ List.replicate (3 - (lg_sl ([.ref (am 0), .int a, .int kn])).length) Slot.unset).toArray = ls at hl ⊢
  have hl : lv_has ls 3 [(0, .ref (am 0)), (1, .int a), (2, .int kn)] := hl
  generalize hQe : MQ below _ _ _ _ _ _ = QQ
  refine lv_iload_n hx hb dX9_leads_0 rfl (lv_at hl 1 rfl) ?_
  obtain ⟨hPc, hDc, hFc, hCc⟩ := va_pre (ws' := []) hP hD hS hA [] (by decide) rfl
  refine va_calli (va_runS (As := [.int a]) (rest := []) ⟨hx, hb, hml, hown, hts⟩ (k_X9_isPerson l dC dI cA s.heap.size a ) (va_cwS 1 hts gX9_leads_X9_isPerson rfl rfl rfl (by decide +kernel) ⟨Nat.le_of_ble_eq_true rfl, Nat.le_of_ble_eq_true rfl⟩) ⟨fun a U g mk q => by obtain ⟨q0, q1, qP, qK, qD, qN⟩ := q; exact ⟨q0, q1, qP, va_K.moved (u := U) (U := U.calling g mk a) (Vm.Alike.refl U.vm) qK, qD, qN.same rfl⟩, fun U hU hW => ⟨rfl, by rw [hU], by rw [hU]; exact hPc, va_K.moved hW.alike hK, hDc.weaken (fun _ _ _ _ => trivial), hN.warm hW⟩⟩ rfl rfl hl.1 rfl (lv_room (Nat.le_of_ble_eq_true rfl)) dX9_leads_1 ⟨Nat.le_of_ble_eq_true rfl, Nat.le_of_ble_eq_true rfl⟩) hS (fun q _ h => hFc q h) hFc (fun r_1 u_2 t H1 locs ht hvm hw_3 hB hz1 hk1 hS => ?_)
  try dsimp only at hw_3 hB
  have po_4 := hw_3
  clear hw_3
  obtain ⟨hP1, hD1⟩ := hB
  rw [ht] at hP1
  obtain ⟨hP, hD⟩ := va_join (wr := [((am 0), .inr (9, F9 am v_status v_now v_told v_merges v_taped v_size v_from v_to v_fault v_readFault v_traits v_length v_open v_leaks v_places v_models)), ((am 7), .inl (cA 0, 20, .inl f_mergeTo)), ((am 8), .inl (cA 0, 20, .inl f_mergeKnown))]) (w1 := []) hP hD [] [0, 1, 2] hCc rfl (by decide) (by decide) hk1 hFc hP1 hD1
  clear hz1
  generalize H1 = H at hP hS ⊢
  refine lv_if_eq (tgt := 23) hx hb dX9_leads_4 (by decide) (fun c_5 => ?_) (fun c_5 => ?_)
  · have dc_5 : r_1.toInt = 0 := jI_eq c_5 rfl (by decide)
    refine lv_iconst (v := (-1)) hx hb dX9_leads_23 (by decide) ?_
    obtain ⟨hP9, hD9⟩ := va_pd (ws' := [((am 0), .inr (9, F9 am v_status v_now v_told v_merges v_taped v_size v_from v_to v_fault v_readFault v_traits v_length v_open v_leaks v_places v_models)), ((am 7), .inl (cA 0, 20, .inl f_mergeTo)), ((am 8), .inl (cA 0, 20, .inl f_mergeKnown))]) hP hD [0, 1, 2] (by decide) rfl
    subst hQe
    have hans : ((-1) : Int32).toInt = (-1) := (by decide)
    have hpost : (ldRes f_mergeTo f_mergeKnown a kn ((-1) : Int32)) := ⟨fun h => by exfalso; omega, fun _ => by omega⟩
    exact W.iret (v := (-1)) hx hb hr (fun t ht hW => ⟨⟨(-1), (), rfl, hpost, by rw [ht]; exact hP9, hD9⟩, hS.F ht⟩) hS.2.2 dX9_leads_24
  · have dc_5 : ¬ r_1.toInt = 0 := jI_ne c_5 rfl (by decide)
    refine lv_iload_n hx hb dX9_leads_7 rfl (lv_at hl 2 rfl) ?_
    obtain ⟨hPc, hDc, hFc, hCc⟩ := va_pre (ws' := []) hP hD hS hA [] (by decide) rfl
    refine va_calli (va_runS (As := [.int kn]) (rest := []) ⟨hx, hb, hml, hown, hts⟩ (k_X9_isMoment l dC dI cA H.size kn ) (va_cwS 1 hts gX9_leads_X9_isMoment rfl rfl rfl (by decide +kernel) ⟨Nat.le_of_ble_eq_true rfl, Nat.le_of_ble_eq_true rfl⟩) ⟨fun a U g mk q => by obtain ⟨q0, q1, qP, qK, qD, qN⟩ := q; exact ⟨q0, q1, qP, va_K.moved (u := U) (U := U.calling g mk a) (Vm.Alike.refl U.vm) qK, qD, qN.same rfl⟩, fun U hU hW => ⟨rfl, by rw [hU], by rw [hU]; exact hPc, va_K.moved hW.alike hK, hDc.weaken (fun _ _ _ _ => trivial), hN.warm hW⟩⟩ rfl rfl hl.1 rfl (lv_room (Nat.le_of_ble_eq_true rfl)) dX9_leads_8 ⟨Nat.le_of_ble_eq_true rfl, Nat.le_of_ble_eq_true rfl⟩) hS (fun q _ h => hFc q h) hFc (fun r_6 u_7 t H1 locs ht hvm hw_8 hB hz1 hk1 hS => ?_)
    try dsimp only at hw_8 hB
    have po_9 := hw_8
    clear hw_8
    obtain ⟨hP1, hD1⟩ := hB
    rw [ht] at hP1
    obtain ⟨hP, hD⟩ := va_join (wr := [((am 0), .inr (9, F9 am v_status v_now v_told v_merges v_taped v_size v_from v_to v_fault v_readFault v_traits v_length v_open v_leaks v_places v_models)), ((am 7), .inl (cA 0, 20, .inl f_mergeTo)), ((am 8), .inl (cA 0, 20, .inl f_mergeKnown))]) (w1 := []) hP hD [] [0, 1, 2] hCc rfl (by decide) (by decide) hk1 hFc hP1 hD1
    clear hz1
    generalize H1 = H at hP hS ⊢
    refine lv_if_eq (tgt := 23) hx hb dX9_leads_11 (by decide) (fun c_10 => ?_) (fun c_10 => ?_)
    · have dc_10 : r_6.toInt = 0 := jI_eq c_10 rfl (by decide)
      refine lv_iconst (v := (-1)) hx hb dX9_leads_23 (by decide) ?_
      obtain ⟨hP9, hD9⟩ := va_pd (ws' := [((am 0), .inr (9, F9 am v_status v_now v_told v_merges v_taped v_size v_from v_to v_fault v_readFault v_traits v_length v_open v_leaks v_places v_models)), ((am 7), .inl (cA 0, 20, .inl f_mergeTo)), ((am 8), .inl (cA 0, 20, .inl f_mergeKnown))]) hP hD [0, 1, 2] (by decide) rfl
      subst hQe
      have hans : ((-1) : Int32).toInt = (-1) := (by decide)
      have hpost : (ldRes f_mergeTo f_mergeKnown a kn ((-1) : Int32)) := ⟨fun h => by exfalso; omega, fun _ => by omega⟩
      exact W.iret (v := (-1)) hx hb hr (fun t ht hW => ⟨⟨(-1), (), rfl, hpost, by rw [ht]; exact hP9, hD9⟩, hS.F ht⟩) hS.2.2 dX9_leads_24
    · have dc_10 : ¬ r_6.toInt = 0 := jI_ne c_10 rfl (by decide)
      refine lv_aload_n hx hb dX9_leads_14 rfl (lv_at hl 0 rfl) ?_
      refine lv_iload_n hx hb dX9_leads_15 rfl (lv_at hl 1 rfl) ?_
      refine lv_iload_n hx hb dX9_leads_16 rfl (lv_at hl 2 rfl) ?_
      obtain ⟨hPc, hDc, hFc, hCc⟩ := va_pre (ws' := [((am 0), .inr (9, F9 am v_status v_now v_told v_merges v_taped v_size v_from v_to v_fault v_readFault v_traits v_length v_open v_leaks v_places v_models)), ((am 7), .inl (cA 0, 20, .inl f_mergeTo)), ((am 8), .inl (cA 0, 20, .inl f_mergeKnown))]) hP hD hS hA [0, 1, 2] (by decide) rfl
      refine va_calli (va_runV (As := [.int a, .int kn]) (rest := []) ⟨hx, hb, hml, hown, hts⟩ (k_X9_last l dC dI cA H.size am v_status v_now v_told v_merges v_taped v_size v_from v_to v_fault v_readFault v_traits v_length v_open v_leaks v_places v_models f_mergeTo f_mergeKnown a kn i_v_now i_v_told i_v_taped i_v_size i_v_from i_v_to i_v_traits i_v_length i_v_open i_v_places i_v_models i_f_mergeTo i_f_mergeKnown hac (by omega)) (cwV 2 hts gX9_leads_X9_last rfl rfl rfl (by decide +kernel) ⟨Nat.le_of_ble_eq_true rfl, Nat.le_of_ble_eq_true rfl⟩) ⟨fun a U g mk q => by obtain ⟨q0, q1, qP, qK, qD, qN⟩ := q; exact ⟨q0, q1, qP, va_K.moved (u := U) (U := U.calling g mk a) (Vm.Alike.refl U.vm) qK, qD, qN.same rfl⟩, va_recv hK hPc (ci := 9) (q0 := 0) rfl rfl, fun U hU hW => ⟨rfl, by rw [hU], by rw [hU]; exact hPc, va_K.moved hW.alike hK, hDc.weaken (fun _ _ _ _ => trivial), hN.warm hW⟩⟩ rfl rfl hl.1 rfl (lv_room (Nat.le_of_ble_eq_true rfl)) dX9_leads_17 ⟨Nat.le_of_ble_eq_true rfl, Nat.le_of_ble_eq_true rfl⟩) hS (fun q _ h => hFc q h) hFc (fun r_11 u_12 t H1 locs ht hvm hw_13 hB hz1 hk1 hS => ?_)
      try dsimp only at hw_13 hB
      have po_14 := hw_13
      clear hw_13
      obtain ⟨hP1, hD1⟩ := hB
      rw [ht] at hP1
      obtain ⟨hP, hD⟩ := va_join (wr := []) (w1 := [((am 0), .inr (9, F9 am v_status v_now v_told v_merges v_taped v_size v_from v_to v_fault v_readFault v_traits v_length v_open v_leaks v_places v_models)), ((am 7), .inl (cA 0, 20, .inl f_mergeTo)), ((am 8), .inl (cA 0, 20, .inl f_mergeKnown))]) hP hD [0, 1, 2] [] hCc rfl (by decide) (by decide) hk1 hFc hP1 hD1
      clear hz1
      generalize H1 = H at hP hS ⊢
      refine lv_goto (tgt := 24) hx hb dX9_leads_20 (by decide) ?_
      obtain ⟨hP9, hD9⟩ := va_pd (ws' := [((am 0), .inr (9, F9 am v_status v_now v_told v_merges v_taped v_size v_from v_to v_fault v_readFault v_traits v_length v_open v_leaks v_places v_models)), ((am 7), .inl (cA 0, 20, .inl f_mergeTo)), ((am 8), .inl (cA 0, 20, .inl f_mergeKnown))]) hP hD [0, 1, 2] (by decide) rfl
      subst hQe
      have hans : (r_11 : Int32).toInt = r_11.toInt := rfl
      have hpost : (ldRes f_mergeTo f_mergeKnown a kn (r_11 : Int32)) := ⟨fun _ => (by have := po_14; exact this.2.2), fun h => by exfalso; omega⟩
      exact W.iret (v := r_11) hx hb hr (fun t ht hW => ⟨⟨r_11, (), rfl, hpost, by rw [ht]; exact hP9, hD9⟩, hS.F ht⟩) hS.2.2 dX9_leads_24
