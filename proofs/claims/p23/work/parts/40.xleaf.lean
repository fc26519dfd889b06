theorem dX8_isMoment_0 : decode cX8_isMoment 0 = .ok (.iload_n 0, 1) := by decide +kernel
theorem dX8_isMoment_1 : decode cX8_isMoment 1 = .ok (.ifCond .lt 13, 3) := by decide +kernel
theorem dX8_isMoment_14 : decode cX8_isMoment 14 = .ok (.iconst 0, 1) := by decide +kernel
theorem dX8_isMoment_15 : decode cX8_isMoment 15 = .ok (.ireturn, 1) := by decide +kernel
theorem dX8_isMoment_4 : decode cX8_isMoment 4 = .ok (.iload_n 0, 1) := by decide +kernel
theorem dX8_isMoment_5 : decode cX8_isMoment 5 = .ok (.ldc 117, 2) := by decide +kernel
theorem dX8_isMoment_7 : decode cX8_isMoment 7 = .ok (.if_icmp .gt 7, 3) := by decide +kernel
theorem dX8_isMoment_10 : decode cX8_isMoment 10 = .ok (.iconst 1, 1) := by decide +kernel
theorem dX8_isMoment_11 : decode cX8_isMoment 11 = .ok (.goto 4, 3) := by decide +kernel
theorem dX8_isPerson_0 : decode cX8_isPerson 0 = .ok (.iload_n 0, 1) := by decide +kernel
theorem dX8_isPerson_1 : decode cX8_isPerson 1 = .ok (.ifCond .lt 13, 3) := by decide +kernel
theorem dX8_isPerson_14 : decode cX8_isPerson 14 = .ok (.iconst 0, 1) := by decide +kernel
theorem dX8_isPerson_15 : decode cX8_isPerson 15 = .ok (.ireturn, 1) := by decide +kernel
theorem dX8_isPerson_4 : decode cX8_isPerson 4 = .ok (.iload_n 0, 1) := by decide +kernel
theorem dX8_isPerson_5 : decode cX8_isPerson 5 = .ok (.bipush 20, 2) := by decide +kernel
theorem dX8_isPerson_7 : decode cX8_isPerson 7 = .ok (.if_icmp .ge 7, 3) := by decide +kernel
theorem dX8_isPerson_10 : decode cX8_isPerson 10 = .ok (.iconst 1, 1) := by decide +kernel
theorem dX8_isPerson_11 : decode cX8_isPerson 11 = .ok (.goto 4, 3) := by decide +kernel
theorem dX8_isStream_0 : decode cX8_isStream 0 = .ok (.iload_n 0, 1) := by decide +kernel
theorem dX8_isStream_1 : decode cX8_isStream 1 = .ok (.ifCond .lt 13, 3) := by decide +kernel
theorem dX8_isStream_14 : decode cX8_isStream 14 = .ok (.iconst 0, 1) := by decide +kernel
theorem dX8_isStream_15 : decode cX8_isStream 15 = .ok (.ireturn, 1) := by decide +kernel
theorem dX8_isStream_4 : decode cX8_isStream 4 = .ok (.iload_n 0, 1) := by decide +kernel
theorem dX8_isStream_5 : decode cX8_isStream 5 = .ok (.bipush 6, 2) := by decide +kernel
theorem dX8_isStream_7 : decode cX8_isStream 7 = .ok (.if_icmp .ge 7, 3) := by decide +kernel
theorem dX8_isStream_10 : decode cX8_isStream 10 = .ok (.iconst 1, 1) := by decide +kernel
theorem dX8_isStream_11 : decode cX8_isStream 11 = .ok (.goto 4, 3) := by decide +kernel
theorem dX8_isRowValue_0 : decode cX8_isRowValue 0 = .ok (.iload_n 0, 1) := by decide +kernel
theorem dX8_isRowValue_1 : decode cX8_isRowValue 1 = .ok (.ldc_w 295, 3) := by decide +kernel
theorem dX8_isRowValue_4 : decode cX8_isRowValue 4 = .ok (.if_icmp .lt 14, 3) := by decide +kernel
theorem dX8_isRowValue_18 : decode cX8_isRowValue 18 = .ok (.iconst 0, 1) := by decide +kernel
theorem dX8_isRowValue_19 : decode cX8_isRowValue 19 = .ok (.ireturn, 1) := by decide +kernel
theorem dX8_isRowValue_7 : decode cX8_isRowValue 7 = .ok (.iload_n 0, 1) := by decide +kernel
theorem dX8_isRowValue_8 : decode cX8_isRowValue 8 = .ok (.ldc_w 296, 3) := by decide +kernel
theorem dX8_isRowValue_11 : decode cX8_isRowValue 11 = .ok (.if_icmp .gt 7, 3) := by decide +kernel
theorem dX8_isRowValue_14 : decode cX8_isRowValue 14 = .ok (.iconst 1, 1) := by decide +kernel
theorem dX8_isRowValue_15 : decode cX8_isRowValue 15 = .ok (.goto 4, 3) := by decide +kernel
theorem dX8_hasBit_0 : decode cX8_hasBit 0 = .ok (.iload_n 0, 1) := by decide +kernel
theorem dX8_hasBit_1 : decode cX8_hasBit 1 = .ok (.iload_n 1, 1) := by decide +kernel
theorem dX8_hasBit_2 : decode cX8_hasBit 2 = .ok (.iushr, 1) := by decide +kernel
theorem dX8_hasBit_3 : decode cX8_hasBit 3 = .ok (.iconst 1, 1) := by decide +kernel
theorem dX8_hasBit_4 : decode cX8_hasBit 4 = .ok (.iand, 1) := by decide +kernel
theorem dX8_hasBit_5 : decode cX8_hasBit 5 = .ok (.ifCond .eq 7, 3) := by decide +kernel
theorem dX8_hasBit_12 : decode cX8_hasBit 12 = .ok (.iconst 0, 1) := by decide +kernel
theorem dX8_hasBit_13 : decode cX8_hasBit 13 = .ok (.ireturn, 1) := by decide +kernel
theorem dX8_hasBit_8 : decode cX8_hasBit 8 = .ok (.iconst 1, 1) := by decide +kernel
theorem dX8_hasBit_9 : decode cX8_hasBit 9 = .ok (.goto 4, 3) := by decide +kernel
theorem dX8_settle_0 : decode cX8_settle 0 = .ok (.aload_n 0, 1) := by decide +kernel
theorem dX8_settle_1 : decode cX8_settle 1 = .ok (.iload_n 1, 1) := by decide +kernel
theorem dX8_settle_2 : decode cX8_settle 2 = .ok (.iconst 0, 1) := by decide +kernel
theorem dX8_settle_3 : decode cX8_settle 3 = .ok (.invokestatic 292, 3) := by decide +kernel
theorem dX8_settle_6 : decode cX8_settle 6 = .ok (.putfield 289, 3) := by decide +kernel
theorem dX8_settle_9 : decode cX8_settle 9 = .ok (.iload_n 1, 1) := by decide +kernel
theorem dX8_settle_10 : decode cX8_settle 10 = .ok (.ireturn, 1) := by decide +kernel
theorem dX8_isModel_0 : decode cX8_isModel 0 = .ok (.iload_n 1, 1) := by decide +kernel
theorem dX8_isModel_1 : decode cX8_isModel 1 = .ok (.ifCond .lt 15, 3) := by decide +kernel
theorem dX8_isModel_16 : decode cX8_isModel 16 = .ok (.iconst 0, 1) := by decide +kernel
theorem dX8_isModel_17 : decode cX8_isModel 17 = .ok (.ireturn, 1) := by decide +kernel
theorem dX8_isModel_4 : decode cX8_isModel 4 = .ok (.iload_n 1, 1) := by decide +kernel
theorem dX8_isModel_5 : decode cX8_isModel 5 = .ok (.aload_n 0, 1) := by decide +kernel
theorem dX8_isModel_6 : decode cX8_isModel 6 = .ok (.getfield 250, 3) := by decide +kernel
theorem dX8_isModel_9 : decode cX8_isModel 9 = .ok (.if_icmp .ge 7, 3) := by decide +kernel
theorem dX8_isModel_12 : decode cX8_isModel 12 = .ok (.iconst 1, 1) := by decide +kernel
theorem dX8_isModel_13 : decode cX8_isModel 13 = .ok (.goto 4, 3) := by decide +kernel
theorem dX8_now_0 : decode cX8_now 0 = .ok (.iload_n 1, 1) := by decide +kernel
set_option maxRecDepth 20000 in
theorem ggX8_now_X8_isMoment : GoodIn wsX8_now wsX8_isMoment := goodIn_r _ [5, 6] (by decide +kernel) (by decide +kernel)
set_option maxRecDepth 20000 in
theorem gX8_now_X8_isMoment : GoodIn wsX8_now (va_wsS RX8 79 yX8_isMoment wsX8_isMoment) := goodIn_app (goodIn_of _ (by decide +kernel)) ggX8_now_X8_isMoment
theorem dX8_now_1 : decode cX8_now 1 = .ok (.invokestatic 79, 3) := by decide +kernel
theorem dX8_now_4 : decode cX8_now 4 = .ok (.ifCond .eq 11, 3) := by decide +kernel
theorem dX8_now_15 : decode cX8_now 15 = .ok (.aload_n 0, 1) := by decide +kernel
theorem dX8_now_16 : decode cX8_now 16 = .ok (.iconst (-1), 1) := by decide +kernel
set_option maxRecDepth 20000 in
theorem ggX8_now_X8_settle : GoodIn wsX8_now wsX8_settle := goodIn_r _ [10, 11, 12, 13, 14, 15, 16, 17, 18, 19, 20, 21, 22, 23, 24, 25, 26, 27, 28, 29, 30, 31, 32] (by decide +kernel) (by decide +kernel)
set_option maxRecDepth 20000 in
theorem gX8_now_X8_settle : GoodIn wsX8_now (wsV RX8 86 RX8 yX8_settle wsX8_settle) := goodIn_app (goodIn_of _ (by decide +kernel)) ggX8_now_X8_settle
theorem dX8_now_17 : decode cX8_now 17 = .ok (.invokevirtual 86, 3) := by decide +kernel
theorem dX8_now_20 : decode cX8_now 20 = .ok (.ireturn, 1) := by decide +kernel
theorem dX8_now_7 : decode cX8_now 7 = .ok (.iload_n 1, 1) := by decide +kernel
theorem dX8_now_8 : decode cX8_now 8 = .ok (.aload_n 0, 1) := by decide +kernel
theorem dX8_now_9 : decode cX8_now 9 = .ok (.getfield 83, 3) := by decide +kernel
theorem dX8_now_12 : decode cX8_now 12 = .ok (.if_icmp .ge 9, 3) := by decide +kernel
theorem dX8_now_21 : decode cX8_now 21 = .ok (.aload_n 0, 1) := by decide +kernel
theorem dX8_now_22 : decode cX8_now 22 = .ok (.iload_n 1, 1) := by decide +kernel
theorem dX8_now_23 : decode cX8_now 23 = .ok (.putfield 83, 3) := by decide +kernel
theorem dX8_now_26 : decode cX8_now 26 = .ok (.aload_n 0, 1) := by decide +kernel
theorem dX8_now_27 : decode cX8_now 27 = .ok (.iconst 0, 1) := by decide +kernel
theorem dX8_now_28 : decode cX8_now 28 = .ok (.invokevirtual 86, 3) := by decide +kernel
theorem dX8_now_31 : decode cX8_now 31 = .ok (.ireturn, 1) := by decide +kernel
theorem dX8_fault_0 : decode cX8_fault 0 = .ok (.aload_n 0, 1) := by decide +kernel
theorem dX8_fault_1 : decode cX8_fault 1 = .ok (.getfield 75, 3) := by decide +kernel
theorem dX8_fault_4 : decode cX8_fault 4 = .ok (.ireturn, 1) := by decide +kernel
theorem dX8_status_0 : decode cX8_status 0 = .ok (.aload_n 0, 1) := by decide +kernel
theorem dX8_status_1 : decode cX8_status 1 = .ok (.getfield 289, 3) := by decide +kernel
theorem dX8_status_4 : decode cX8_status 4 = .ok (.ireturn, 1) := by decide +kernel
theorem dX8_needed_0 : decode cX8_needed 0 = .ok (.aload_n 0, 1) := by decide +kernel
theorem dX8_needed_1 : decode cX8_needed 1 = .ok (.iload_n 1, 1) := by decide +kernel
set_option maxRecDepth 20000 in
theorem ggX8_needed_X8_isModel : GoodIn wsX8_needed wsX8_isModel := goodIn_r _ [6, 7, 8, 9, 10, 11, 12, 13, 14, 15, 16, 17, 18, 19, 20, 21, 22, 23, 24] (by decide +kernel) (by decide +kernel)
set_option maxRecDepth 20000 in
theorem gX8_needed_X8_isModel : GoodIn wsX8_needed (wsV RX8 253 RX8 yX8_isModel wsX8_isModel) := goodIn_app (goodIn_of _ (by decide +kernel)) ggX8_needed_X8_isModel
theorem dX8_needed_2 : decode cX8_needed 2 = .ok (.invokevirtual 253, 3) := by decide +kernel
theorem dX8_needed_5 : decode cX8_needed 5 = .ok (.ifCond .eq 12, 3) := by decide +kernel
theorem dX8_needed_17 : decode cX8_needed 17 = .ok (.iconst 0, 1) := by decide +kernel
theorem dX8_needed_18 : decode cX8_needed 18 = .ok (.ireturn, 1) := by decide +kernel
theorem dX8_needed_8 : decode cX8_needed 8 = .ok (.aload_n 0, 1) := by decide +kernel
theorem dX8_needed_9 : decode cX8_needed 9 = .ok (.getfield 65, 3) := by decide +kernel
theorem dX8_needed_12 : decode cX8_needed 12 = .ok (.iload_n 1, 1) := by decide +kernel
theorem dX8_needed_13 : decode cX8_needed 13 = .ok (.iaload, 1) := by decide +kernel
theorem dX8_needed_14 : decode cX8_needed 14 = .ok (.goto 4, 3) := by decide +kernel
theorem dX8_end_0 : decode cX8_end 0 = .ok (.iload_n 1, 1) := by decide +kernel
theorem dX8_end_1 : decode cX8_end 1 = .ok (.ifCond .lt 14, 3) := by decide +kernel
theorem dX8_end_15 : decode cX8_end 15 = .ok (.iconst (-1), 1) := by decide +kernel
theorem dX8_end_16 : decode cX8_end 16 = .ok (.ireturn, 1) := by decide +kernel
theorem dX8_end_4 : decode cX8_end 4 = .ok (.iload_n 1, 1) := by decide +kernel
theorem dX8_end_5 : decode cX8_end 5 = .ok (.aload_n 0, 1) := by decide +kernel
theorem dX8_end_6 : decode cX8_end 6 = .ok (.getfield 30, 3) := by decide +kernel
theorem dX8_end_9 : decode cX8_end 9 = .ok (.getfield 142, 3) := by decide +kernel
theorem dX8_end_12 : decode cX8_end 12 = .ok (.if_icmp .le 5, 3) := by decide +kernel
theorem dX8_end_17 : decode cX8_end 17 = .ok (.aload_n 0, 1) := by decide +kernel
theorem dX8_end_18 : decode cX8_end 18 = .ok (.getfield 30, 3) := by decide +kernel
theorem dX8_end_21 : decode cX8_end 21 = .ok (.iload_n 1, 1) := by decide +kernel
theorem dX8_end_22 : decode cX8_end 22 = .ok (.putfield 142, 3) := by decide +kernel
theorem dX8_end_25 : decode cX8_end 25 = .ok (.iload_n 1, 1) := by decide +kernel
theorem dX8_end_26 : decode cX8_end 26 = .ok (.ireturn, 1) := by decide +kernel
theorem dX8_count_0 : decode cX8_count 0 = .ok (.iload_n 1, 1) := by decide +kernel
theorem dX8_count_1 : decode cX8_count 1 = .ok (.tableswitch 99 0 7 #[47, 52, 60, 68, 73, 78, 83, 91], 47) := by decide +kernel
theorem dX8_count_100 : decode cX8_count 100 = .ok (.iconst (-1), 1) := by decide +kernel
theorem dX8_count_101 : decode cX8_count 101 = .ok (.ireturn, 1) := by decide +kernel
theorem dX8_count_48 : decode cX8_count 48 = .ok (.aload_n 0, 1) := by decide +kernel
theorem dX8_count_49 : decode cX8_count 49 = .ok (.getfield 83, 3) := by decide +kernel
theorem dX8_count_52 : decode cX8_count 52 = .ok (.ireturn, 1) := by decide +kernel
theorem dX8_count_53 : decode cX8_count 53 = .ok (.aload_n 0, 1) := by decide +kernel
theorem dX8_count_54 : decode cX8_count 54 = .ok (.getfield 10, 3) := by decide +kernel
theorem dX8_count_57 : decode cX8_count 57 = .ok (.getfield 286, 3) := by decide +kernel
theorem dX8_count_60 : decode cX8_count 60 = .ok (.ireturn, 1) := by decide +kernel
theorem dX8_count_61 : decode cX8_count 61 = .ok (.aload_n 0, 1) := by decide +kernel
theorem dX8_count_62 : decode cX8_count 62 = .ok (.getfield 19, 3) := by decide +kernel
theorem dX8_count_65 : decode cX8_count 65 = .ok (.getfield 287, 3) := by decide +kernel
theorem dX8_count_68 : decode cX8_count 68 = .ok (.ireturn, 1) := by decide +kernel
theorem dX8_count_69 : decode cX8_count 69 = .ok (.aload_n 0, 1) := by decide +kernel
theorem dX8_count_70 : decode cX8_count 70 = .ok (.getfield 127, 3) := by decide +kernel
theorem dX8_count_73 : decode cX8_count 73 = .ok (.ireturn, 1) := by decide +kernel
theorem dX8_count_74 : decode cX8_count 74 = .ok (.aload_n 0, 1) := by decide +kernel
theorem dX8_count_75 : decode cX8_count 75 = .ok (.getfield 148, 3) := by decide +kernel
theorem dX8_count_78 : decode cX8_count 78 = .ok (.ireturn, 1) := by decide +kernel
theorem dX8_count_79 : decode cX8_count 79 = .ok (.aload_n 0, 1) := by decide +kernel
theorem dX8_count_80 : decode cX8_count 80 = .ok (.getfield 250, 3) := by decide +kernel
theorem dX8_count_83 : decode cX8_count 83 = .ok (.ireturn, 1) := by decide +kernel
theorem dX8_count_84 : decode cX8_count 84 = .ok (.aload_n 0, 1) := by decide +kernel
theorem dX8_count_85 : decode cX8_count 85 = .ok (.getfield 61, 3) := by decide +kernel
theorem dX8_count_88 : decode cX8_count 88 = .ok (.getfield 288, 3) := by decide +kernel
theorem dX8_count_91 : decode cX8_count 91 = .ok (.ireturn, 1) := by decide +kernel
theorem dX8_count_92 : decode cX8_count 92 = .ok (.aload_n 0, 1) := by decide +kernel
theorem dX8_count_93 : decode cX8_count 93 = .ok (.getfield 30, 3) := by decide +kernel
theorem dX8_count_96 : decode cX8_count 96 = .ok (.getfield 142, 3) := by decide +kernel
theorem dX8_count_99 : decode cX8_count 99 = .ok (.ireturn, 1) := by decide +kernel
set_option maxHeartbeats 8000000 in
set_option maxRecDepth 100000 in
theorem k_X8_isMoment (l : Launch) (dC : Nat → ClassId) (dI : Nat → Nat → Nat) (cA : Nat → ClassId) (sz : Nat) (a : Int32)   : Met l yX8_isMoment wsX8_isMoment ({ frames := 0, cells := 0, slots := 0, locals := 0 }) (va_Pc [.int a] (fun U => U.heap.size = sz ∧ va_P (dC, dI) vwCl [] U.heap ∧ va_K (dC, dI) vwCl (tyL cA) U ∧ va_D (fun _ => True) [] ∧ nw_ok U)) (va_Qi (fun (r : Int32) (_ : Unit) => ((0 ≤ a.toInt ∧ a.toInt ≤ 100000 → r.toInt = 1) ∧ (¬ (0 ≤ a.toInt ∧ a.toInt ≤ 100000) → r.toInt = 0))) (fun (_ : Unit) (t : State) => va_P (dC, dI) vwCl [] t.heap ∧ va_D (va_A [] sz) []) (va_A [] sz)) 0 0 (va_A [] sz) := by
  refine Met.ofW (cc := cX8_isMoment) (maxL := 1) (ret := (some .boolean)) (by decide) rfl ?_
  intro p e s m args below meth c s₁ B hml hv
  obtain ⟨rfl, hsz, hP, hK, hD0, hN⟩ := hv
  have hx := B.exec
  have hb := B.bytes
  have hr := B.returns
  have hts := atoms_spec (ws := wsX8_isMoment) B.pre
  have hown : s.vm.findClass RX8 = some m.cls := findClass_of_methodNamed B.named
  have hlocks := B.notSynchronized
  subst hsz
  have hD := hD0.self (sz := s.heap.size)
  generalize hAe : va_A [] s.heap.size = A at hD ⊢
  have hA : ∀ q : Nat, s.heap.size ≤ q → A q := fun q h => by rw [← hAe]; exact Or.inr h
  have hS : va_S A s.heap s.heap [] := va_S.rf
  have hl := lv_entry ([.int a]) (n := 1) (Nat.le_of_ble_eq_true rfl)
  rw [lg_entry_eq]
  generalize (lg_sl ([.int a]) ++ List.replicate (1 - (lg_sl ([.int a])).length) Slot.unset).toArray = ls at hl ⊢
  have hl : lv_has ls 1 [(0, .int a)] := hl
  generalize hQe : MQ below _ _ _ _ _ _ = QQ
  refine lv_iload_n hx hb dX8_isMoment_0 rfl (lv_at hl 0 rfl) ?_
  refine lv_if_lt (tgt := 14) hx hb dX8_isMoment_1 (by decide) (fun c_1 => ?_) (fun c_1 => ?_)
  · have dc_1 : a.toInt < 0 := jI_lt c_1 rfl (by decide)
    refine lv_iconst (v := 0) hx hb dX8_isMoment_14 (by decide) ?_
    obtain ⟨hP9, hD9⟩ := va_pd (ws' := []) hP hD [] (by decide) rfl
    subst hQe
    have hans : (0 : Int32).toInt = 0 := (by decide)
    have hpost : ((0 ≤ a.toInt ∧ a.toInt ≤ 100000 → (0 : Int32).toInt = 1) ∧ (¬ (0 ≤ a.toInt ∧ a.toInt ≤ 100000) → (0 : Int32).toInt = 0)) := by omega
    exact W.zret (v := 0) hx hb hr (by decide) (fun t ht hW => ⟨⟨0, (), rfl, hpost, by rw [ht]; exact hP9, hD9⟩, hS.F ht⟩) hS.2.2 dX8_isMoment_15
  · have dc_1 : 0 ≤ a.toInt := jI_nlt c_1 rfl (by decide)
    refine lv_iload_n hx hb dX8_isMoment_4 rfl (lv_at hl 0 rfl) ?_
    refine lv_ldc hx hb hown (hts (.constant RX8 117 (100000)) (by decide +kernel)) dX8_isMoment_5 ?_
    refine lv_icmp_gt (tgt := 14) hx hb dX8_isMoment_7 (by decide) (fun c_2 => ?_) (fun c_2 => ?_)
    · have dc_2 : 100000 < a.toInt := jI_lt c_2 (by decide) rfl
      refine lv_iconst (v := 0) hx hb dX8_isMoment_14 (by decide) ?_
      obtain ⟨hP9, hD9⟩ := va_pd (ws' := []) hP hD [] (by decide) rfl
      subst hQe
      have hans : (0 : Int32).toInt = 0 := (by decide)
      have hpost : ((0 ≤ a.toInt ∧ a.toInt ≤ 100000 → (0 : Int32).toInt = 1) ∧ (¬ (0 ≤ a.toInt ∧ a.toInt ≤ 100000) → (0 : Int32).toInt = 0)) := by omega
      exact W.zret (v := 0) hx hb hr (by decide) (fun t ht hW => ⟨⟨0, (), rfl, hpost, by rw [ht]; exact hP9, hD9⟩, hS.F ht⟩) hS.2.2 dX8_isMoment_15
    · have dc_2 : a.toInt ≤ 100000 := jI_nlt c_2 (by decide) rfl
      refine lv_iconst (v := 1) hx hb dX8_isMoment_10 (by decide) ?_
      refine lv_goto (tgt := 15) hx hb dX8_isMoment_11 (by decide) ?_
      obtain ⟨hP9, hD9⟩ := va_pd (ws' := []) hP hD [] (by decide) rfl
      subst hQe
      have hans : (1 : Int32).toInt = 1 := (by decide)
      have hpost : ((0 ≤ a.toInt ∧ a.toInt ≤ 100000 → (1 : Int32).toInt = 1) ∧ (¬ (0 ≤ a.toInt ∧ a.toInt ≤ 100000) → (1 : Int32).toInt = 0)) := by omega
      exact W.zret (v := 1) hx hb hr (by decide) (fun t ht hW => ⟨⟨1, (), rfl, hpost, by rw [ht]; exact hP9, hD9⟩, hS.F ht⟩) hS.2.2 dX8_isMoment_15

set_option maxHeartbeats 8000000 in
set_option maxRecDepth 100000 in
theorem k_X8_isPerson (l : Launch) (dC : Nat → ClassId) (dI : Nat → Nat → Nat) (cA : Nat → ClassId) (sz : Nat) (a : Int32)   : Met l yX8_isPerson wsX8_isPerson ({ frames := 0, cells := 0, slots := 0, locals := 0 }) (va_Pc [.int a] (fun U => U.heap.size = sz ∧ va_P (dC, dI) vwCl [] U.heap ∧ va_K (dC, dI) vwCl (tyL cA) U ∧ va_D (fun _ => True) [] ∧ nw_ok U)) (va_Qi (fun (r : Int32) (_ : Unit) => ((0 ≤ a.toInt ∧ a.toInt ≤ 19 → r.toInt = 1) ∧ (¬ (0 ≤ a.toInt ∧ a.toInt ≤ 19) → r.toInt = 0))) (fun (_ : Unit) (t : State) => va_P (dC, dI) vwCl [] t.heap ∧ va_D (va_A [] sz) []) (va_A [] sz)) 0 0 (va_A [] sz) := by
  refine Met.ofW (cc := cX8_isPerson) (maxL := 1) (ret := (some .boolean)) (by decide) rfl ?_
  intro p e s m args below meth c s₁ B hml hv
  obtain ⟨rfl, hsz, hP, hK, hD0, hN⟩ := hv
  have hx := B.exec
  have hb := B.bytes
  have hr := B.returns
  have hts := atoms_spec (ws := wsX8_isPerson) B.pre
  have hown : s.vm.findClass RX8 = some m.cls := findClass_of_methodNamed B.named
  have hlocks := B.notSynchronized
  subst hsz
  have hD := hD0.self (sz := s.heap.size)
  generalize hAe : va_A [] s.heap.size = A at hD ⊢
  have hA : ∀ q : Nat, s.heap.size ≤ q → A q := fun q h => by rw [← hAe]; exact Or.inr h
  have hS : va_S A s.heap s.heap [] := va_S.rf
  have hl := lv_entry ([.int a]) (n := 1) (Nat.le_of_ble_eq_true rfl)
  rw [lg_entry_eq]
  generalize (lg_sl ([.int a]) ++ List.replicate (1 - (lg_sl ([.int a])).length) Slot.unset).toArray = ls at hl ⊢
  have hl : lv_has ls 1 [(0, .int a)] := hl
  generalize hQe : MQ below _ _ _ _ _ _ = QQ
  refine lv_iload_n hx hb dX8_isPerson_0 rfl (lv_at hl 0 rfl) ?_
  refine lv_if_lt (tgt := 14) hx hb dX8_isPerson_1 (by decide) (fun c_1 => ?_) (fun c_1 => ?_)
  · have dc_1 : a.toInt < 0 := jI_lt c_1 rfl (by decide)
    refine lv_iconst (v := 0) hx hb dX8_isPerson_14 (by decide) ?_
    obtain ⟨hP9, hD9⟩ := va_pd (ws' := []) hP hD [] (by decide) rfl
    subst hQe
    have hans : (0 : Int32).toInt = 0 := (by decide)
    have hpost : ((0 ≤ a.toInt ∧ a.toInt ≤ 19 → (0 : Int32).toInt = 1) ∧ (¬ (0 ≤ a.toInt ∧ a.toInt ≤ 19) → (0 : Int32).toInt = 0)) := by omega
    exact W.zret (v := 0) hx hb hr (by decide) (fun t ht hW => ⟨⟨0, (), rfl, hpost, by rw [ht]; exact hP9, hD9⟩, hS.F ht⟩) hS.2.2 dX8_isPerson_15
  · have dc_1 : 0 ≤ a.toInt := jI_nlt c_1 rfl (by decide)
    refine lv_iload_n hx hb dX8_isPerson_4 rfl (lv_at hl 0 rfl) ?_
    refine lv_bipush (v := 20) hx hb dX8_isPerson_5 (by decide) ?_
    refine lv_icmp_ge (tgt := 14) hx hb dX8_isPerson_7 (by decide) (fun c_2 => ?_) (fun c_2 => ?_)
    · have dc_2 : 20 ≤ a.toInt := jI_le c_2 (by decide) rfl
      refine lv_iconst (v := 0) hx hb dX8_isPerson_14 (by decide) ?_
      obtain ⟨hP9, hD9⟩ := va_pd (ws' := []) hP hD [] (by decide) rfl
      subst hQe
      have hans : (0 : Int32).toInt = 0 := (by decide)
      have hpost : ((0 ≤ a.toInt ∧ a.toInt ≤ 19 → (0 : Int32).toInt = 1) ∧ (¬ (0 ≤ a.toInt ∧ a.toInt ≤ 19) → (0 : Int32).toInt = 0)) := by omega
      exact W.zret (v := 0) hx hb hr (by decide) (fun t ht hW => ⟨⟨0, (), rfl, hpost, by rw [ht]; exact hP9, hD9⟩, hS.F ht⟩) hS.2.2 dX8_isPerson_15
    · have dc_2 : a.toInt < 20 := jI_nle c_2 (by decide) rfl
      refine lv_iconst (v := 1) hx hb dX8_isPerson_10 (by decide) ?_
      refine lv_goto (tgt := 15) hx hb dX8_isPerson_11 (by decide) ?_
      obtain ⟨hP9, hD9⟩ := va_pd (ws' := []) hP hD [] (by decide) rfl
      subst hQe
      have hans : (1 : Int32).toInt = 1 := (by decide)
      have hpost : ((0 ≤ a.toInt ∧ a.toInt ≤ 19 → (1 : Int32).toInt = 1) ∧ (¬ (0 ≤ a.toInt ∧ a.toInt ≤ 19) → (1 : Int32).toInt = 0)) := by omega
      exact W.zret (v := 1) hx hb hr (by decide) (fun t ht hW => ⟨⟨1, (), rfl, hpost, by rw [ht]; exact hP9, hD9⟩, hS.F ht⟩) hS.2.2 dX8_isPerson_15

set_option maxHeartbeats 8000000 in
set_option maxRecDepth 100000 in
theorem k_X8_isStream (l : Launch) (dC : Nat → ClassId) (dI : Nat → Nat → Nat) (cA : Nat → ClassId) (sz : Nat) (a : Int32)   : Met l yX8_isStream wsX8_isStream ({ frames := 0, cells := 0, slots := 0, locals := 0 }) (va_Pc [.int a] (fun U => U.heap.size = sz ∧ va_P (dC, dI) vwCl [] U.heap ∧ va_K (dC, dI) vwCl (tyL cA) U ∧ va_D (fun _ => True) [] ∧ nw_ok U)) (va_Qi (fun (r : Int32) (_ : Unit) => ((0 ≤ a.toInt ∧ a.toInt ≤ 5 → r.toInt = 1) ∧ (¬ (0 ≤ a.toInt ∧ a.toInt ≤ 5) → r.toInt = 0))) (fun (_ : Unit) (t : State) => va_P (dC, dI) vwCl [] t.heap ∧ va_D (va_A [] sz) []) (va_A [] sz)) 0 0 (va_A [] sz) := by
  refine Met.ofW (cc := cX8_isStream) (maxL := 1) (ret := (some .boolean)) (by decide) rfl ?_
  intro p e s m args below meth c s₁ B hml hv
  obtain ⟨rfl, hsz, hP, hK, hD0, hN⟩ := hv
  have hx := B.exec
  have hb := B.bytes
  have hr := B.returns
  have hts := atoms_spec (ws := wsX8_isStream) B.pre
  have hown : s.vm.findClass RX8 = some m.cls := findClass_of_methodNamed B.named
  have hlocks := B.notSynchronized
  subst hsz
  have hD := hD0.self (sz := s.heap.size)
  generalize hAe : va_A [] s.heap.size = A at hD ⊢
  have hA : ∀ q : Nat, s.heap.size ≤ q → A q := fun q h => by rw [← hAe]; exact Or.inr h
  have hS : va_S A s.heap s.heap [] := va_S.rf
  have hl := lv_entry ([.int a]) (n := 1) (Nat.le_of_ble_eq_true rfl)
  rw [lg_entry_eq]
  generalize (lg_sl ([.int a]) ++ List.replicate (1 - (lg_sl ([.int a])).length) Slot.unset).toArray = ls at hl ⊢
  have hl : lv_has ls 1 [(0, .int a)] := hl
  generalize hQe : MQ below _ _ _ _ _ _ = QQ
  refine lv_iload_n hx hb dX8_isStream_0 rfl (lv_at hl 0 rfl) ?_
  refine lv_if_lt (tgt := 14) hx hb dX8_isStream_1 (by decide) (fun c_1 => ?_) (fun c_1 => ?_)
  · have dc_1 : a.toInt < 0 := jI_lt c_1 rfl (by decide)
    refine lv_iconst (v := 0) hx hb dX8_isStream_14 (by decide) ?_
    obtain ⟨hP9, hD9⟩ := va_pd (ws' := []) hP hD [] (by decide) rfl
    subst hQe
    have hans : (0 : Int32).toInt = 0 := (by decide)
    have hpost : ((0 ≤ a.toInt ∧ a.toInt ≤ 5 → (0 : Int32).toInt = 1) ∧ (¬ (0 ≤ a.toInt ∧ a.toInt ≤ 5) → (0 : Int32).toInt = 0)) := by omega
    exact W.zret (v := 0) hx hb hr (by decide) (fun t ht hW => ⟨⟨0, (), rfl, hpost, by rw [ht]; exact hP9, hD9⟩, hS.F ht⟩) hS.2.2 dX8_isStream_15
  · have dc_1 : 0 ≤ a.toInt := jI_nlt c_1 rfl (by decide)
    refine lv_iload_n hx hb dX8_isStream_4 rfl (lv_at hl 0 rfl) ?_
    refine lv_bipush (v := 6) hx hb dX8_isStream_5 (by decide) ?_
    refine lv_icmp_ge (tgt := 14) hx hb dX8_isStream_7 (by decide) (fun c_2 => ?_) (fun c_2 => ?_)
    · have dc_2 : 6 ≤ a.toInt := jI_le c_2 (by decide) rfl
      refine lv_iconst (v := 0) hx hb dX8_isStream_14 (by decide) ?_
      obtain ⟨hP9, hD9⟩ := va_pd (ws' := []) hP hD [] (by decide) rfl
      subst hQe
      have hans : (0 : Int32).toInt = 0 := (by decide)
      have hpost : ((0 ≤ a.toInt ∧ a.toInt ≤ 5 → (0 : Int32).toInt = 1) ∧ (¬ (0 ≤ a.toInt ∧ a.toInt ≤ 5) → (0 : Int32).toInt = 0)) := by omega
      exact W.zret (v := 0) hx hb hr (by decide) (fun t ht hW => ⟨⟨0, (), rfl, hpost, by rw [ht]; exact hP9, hD9⟩, hS.F ht⟩) hS.2.2 dX8_isStream_15
    · have dc_2 : a.toInt < 6 := jI_nle c_2 (by decide) rfl
      refine lv_iconst (v := 1) hx hb dX8_isStream_10 (by decide) ?_
      refine lv_goto (tgt := 15) hx hb dX8_isStream_11 (by decide) ?_
      obtain ⟨hP9, hD9⟩ := va_pd (ws' := []) hP hD [] (by decide) rfl
      subst hQe
      have hans : (1 : Int32).toInt = 1 := (by decide)
      have hpost : ((0 ≤ a.toInt ∧ a.toInt ≤ 5 → (1 : Int32).toInt = 1) ∧ (¬ (0 ≤ a.toInt ∧ a.toInt ≤ 5) → (1 : Int32).toInt = 0)) := by omega
      exact W.zret (v := 1) hx hb hr (by decide) (fun t ht hW => ⟨⟨1, (), rfl, hpost, by rw [ht]; exact hP9, hD9⟩, hS.F ht⟩) hS.2.2 dX8_isStream_15

set_option maxHeartbeats 8000000 in
set_option maxRecDepth 100000 in
theorem k_X8_isRowValue (l : Launch) (dC : Nat → ClassId) (dI : Nat → Nat → Nat) (cA : Nat → ClassId) (sz : Nat) (a : Int32)   : Met l yX8_isRowValue wsX8_isRowValue ({ frames := 0, cells := 0, slots := 0, locals := 0 }) (va_Pc [.int a] (fun U => U.heap.size = sz ∧ va_P (dC, dI) vwCl [] U.heap ∧ va_K (dC, dI) vwCl (tyL cA) U ∧ va_D (fun _ => True) [] ∧ nw_ok U)) (va_Qi (fun (r : Int32) (_ : Unit) => ((-1000000 ≤ a.toInt ∧ a.toInt ≤ 1000000 → r.toInt = 1) ∧ (¬ (-1000000 ≤ a.toInt ∧ a.toInt ≤ 1000000) → r.toInt = 0))) (fun (_ : Unit) (t : State) => va_P (dC, dI) vwCl [] t.heap ∧ va_D (va_A [] sz) []) (va_A [] sz)) 0 0 (va_A [] sz) := by
  refine Met.ofW (cc := cX8_isRowValue) (maxL := 1) (ret := (some .boolean)) (by decide) rfl ?_
  intro p e s m args below meth c s₁ B hml hv
  obtain ⟨rfl, hsz, hP, hK, hD0, hN⟩ := hv
  have hx := B.exec
  have hb := B.bytes
  have hr := B.returns
  have hts := atoms_spec (ws := wsX8_isRowValue) B.pre
  have hown : s.vm.findClass RX8 = some m.cls := findClass_of_methodNamed B.named
  have hlocks := B.notSynchronized
  subst hsz
  have hD := hD0.self (sz := s.heap.size)
  generalize hAe : va_A [] s.heap.size = A at hD ⊢
  have hA : ∀ q : Nat, s.heap.size ≤ q → A q := fun q h => by rw [← hAe]; exact Or.inr h
  have hS : va_S A s.heap s.heap [] := va_S.rf
  have hl := lv_entry ([.int a]) (n := 1) (Nat.le_of_ble_eq_true rfl)
  rw [lg_entry_eq]
  generalize (lg_sl ([.int a]) ++ List.replicate (1 - (lg_sl ([.int a])).length) Slot.unset).toArray = ls at hl ⊢
  have hl : lv_has ls 1 [(0, .int a)] := hl
  generalize hQe : MQ below _ _ _ _ _ _ = QQ
  refine lv_iload_n hx hb dX8_isRowValue_0 rfl (lv_at hl 0 rfl) ?_
  refine lv_ldcw hx hb hown (hts (.constant RX8 295 (-1000000)) (by decide +kernel)) dX8_isRowValue_1 ?_
  refine lv_icmp_lt (tgt := 18) hx hb dX8_isRowValue_4 (by decide) (fun c_1 => ?_) (fun c_1 => ?_)
  · have dc_1 : a.toInt < (-1000000) := jI_lt c_1 rfl (by decide)
    refine lv_iconst (v := 0) hx hb dX8_isRowValue_18 (by decide) ?_
    obtain ⟨hP9, hD9⟩ := va_pd (ws' := []) hP hD [] (by decide) rfl
    subst hQe
    have hans : (0 : Int32).toInt = 0 := (by decide)
    have hpost : ((-1000000 ≤ a.toInt ∧ a.toInt ≤ 1000000 → (0 : Int32).toInt = 1) ∧ (¬ (-1000000 ≤ a.toInt ∧ a.toInt ≤ 1000000) → (0 : Int32).toInt = 0)) := by omega
    exact W.zret (v := 0) hx hb hr (by decide) (fun t ht hW => ⟨⟨0, (), rfl, hpost, by rw [ht]; exact hP9, hD9⟩, hS.F ht⟩) hS.2.2 dX8_isRowValue_19
  · have dc_1 : (-1000000) ≤ a.toInt := jI_nlt c_1 rfl (by decide)
    refine lv_iload_n hx hb dX8_isRowValue_7 rfl (lv_at hl 0 rfl) ?_
    refine lv_ldcw hx hb hown (hts (.constant RX8 296 (1000000)) (by decide +kernel)) dX8_isRowValue_8 ?_
    refine lv_icmp_gt (tgt := 18) hx hb dX8_isRowValue_11 (by decide) (fun c_2 => ?_) (fun c_2 => ?_)
    · have dc_2 : 1000000 < a.toInt := jI_lt c_2 (by decide) rfl
      refine lv_iconst (v := 0) hx hb dX8_isRowValue_18 (by decide) ?_
      obtain ⟨hP9, hD9⟩ := va_pd (ws' := []) hP hD [] (by decide) rfl
      subst hQe
      have hans : (0 : Int32).toInt = 0 := (by decide)
      have hpost : ((-1000000 ≤ a.toInt ∧ a.toInt ≤ 1000000 → (0 : Int32).toInt = 1) ∧ (¬ (-1000000 ≤ a.toInt ∧ a.toInt ≤ 1000000) → (0 : Int32).toInt = 0)) := by omega
      exact W.zret (v := 0) hx hb hr (by decide) (fun t ht hW => ⟨⟨0, (), rfl, hpost, by rw [ht]; exact hP9, hD9⟩, hS.F ht⟩) hS.2.2 dX8_isRowValue_19
    · have dc_2 : a.toInt ≤ 1000000 := jI_nlt c_2 (by decide) rfl
      refine lv_iconst (v := 1) hx hb dX8_isRowValue_14 (by decide) ?_
      refine lv_goto (tgt := 19) hx hb dX8_isRowValue_15 (by decide) ?_
      obtain ⟨hP9, hD9⟩ := va_pd (ws' := []) hP hD [] (by decide) rfl
      subst hQe
      have hans : (1 : Int32).toInt = 1 := (by decide)
      have hpost : ((-1000000 ≤ a.toInt ∧ a.toInt ≤ 1000000 → (1 : Int32).toInt = 1) ∧ (¬ (-1000000 ≤ a.toInt ∧ a.toInt ≤ 1000000) → (1 : Int32).toInt = 0)) := by omega
      exact W.zret (v := 1) hx hb hr (by decide) (fun t ht hW => ⟨⟨1, (), rfl, hpost, by rw [ht]; exact hP9, hD9⟩, hS.F ht⟩) hS.2.2 dX8_isRowValue_19

set_option maxHeartbeats 8000000 in
set_option maxRecDepth 100000 in
theorem k_X8_hasBit (l : Launch) (dC : Nat → ClassId) (dI : Nat → Nat → Nat) (cA : Nat → ClassId) (sz : Nat) (a : Int32) (b : Int32)  (hbb : 0 ≤ b.toInt ∧ b.toInt ≤ 30) : Met l yX8_hasBit wsX8_hasBit ({ frames := 0, cells := 0, slots := 0, locals := 0 }) (va_Pc [.int a, .int b] (fun U => U.heap.size = sz ∧ va_P (dC, dI) vwCl [] U.heap ∧ va_K (dC, dI) vwCl (tyL cA) U ∧ va_D (fun _ => True) [] ∧ nw_ok U)) (va_Qi (fun (r : Int32) (_ : Unit) => (0 ≤ r.toInt ∧ r.toInt ≤ 1) ∧ ((¬ r.toInt = 0 ↔ tb a b.toInt.toNat = true))) (fun (_ : Unit) (t : State) => va_P (dC, dI) vwCl [] t.heap ∧ va_D (va_A [] sz) []) (va_A [] sz)) 0 0 (va_A [] sz) := by
  refine Met.ofW (cc := cX8_hasBit) (maxL := 2) (ret := (some .boolean)) (by decide) rfl ?_
  intro p e s m args below meth c s₁ B hml hv
  obtain ⟨rfl, hsz, hP, hK, hD0, hN⟩ := hv
  have hx := B.exec
  have hb := B.bytes
  have hr := B.returns
  have hts := atoms_spec (ws := wsX8_hasBit) B.pre
  have hown : s.vm.findClass RX8 = some m.cls := findClass_of_methodNamed B.named
  have hlocks := B.notSynchronized
  subst hsz
  have hD := hD0.self (sz := s.heap.size)
  generalize hAe : va_A [] s.heap.size = A at hD ⊢
  have hA : ∀ q : Nat, s.heap.size ≤ q → A q := fun q h => by rw [← hAe]; exact Or.inr h
  have hS : va_S A s.heap s.heap [] := va_S.rf
  have hl := lv_entry ([.int a, .int b]) (n := 2) (Nat.le_of_ble_eq_true rfl)
  rw [lg_entry_eq]
  generalize (lg_sl ([.int a, .int b]) ++ List.replicate (2 - (lg_sl ([.int a, .int b])).length) Slot.unset).toArray = ls at hl ⊢
  have hl : lv_has ls 2 [(0, .int a), (1, .int b)] := hl
  generalize hQe : MQ below _ _ _ _ _ _ = QQ
  refine lv_iload_n hx hb dX8_hasBit_0 rfl (lv_at hl 0 rfl) ?_
  refine lv_iload_n hx hb dX8_hasBit_1 rfl (lv_at hl 1 rfl) ?_
  obtain ⟨x_1, ex_1⟩ : ∃ y : Int32, y = (a.toUInt32 >>> (b.toUInt32 &&& Int32.toUInt32 31)).toInt32 := ⟨_, rfl⟩
  refine lv_iushr (v := x_1) hx hb dX8_hasBit_2 ex_1.symm ?_
  refine lv_iconst (v := 1) hx hb dX8_hasBit_3 (by decide) ?_
  refine lv_iand hx hb dX8_hasBit_4 ?_
  refine lv_topi (fun x_2 ex_2 => ?_)
  have dx_2 : 0 ≤ x_2.toInt ∧ x_2.toInt ≤ 1 := by rw [ex_2]; exact jI_mask _ 1 (by decide) (by decide)
  refine lv_if_eq (tgt := 12) hx hb dX8_hasBit_5 (by decide) (fun c_3 => ?_) (fun c_3 => ?_)
  · have dc_3 : x_2.toInt = 0 := jI_eq c_3 rfl (by decide)
    refine lv_iconst (v := 0) hx hb dX8_hasBit_12 (by decide) ?_
    obtain ⟨hP9, hD9⟩ := va_pd (ws' := []) hP hD [] (by decide) rfl
    subst hQe
    have hans : (0 : Int32).toInt = 0 := (by decide)
    have hpost : (0 ≤ (0 : Int32).toInt ∧ (0 : Int32).toInt ≤ 1) ∧ ((¬ (0 : Int32).toInt = 0 ↔ tb a b.toInt.toNat = true)) := ⟨by omega, iff_of_false (by omega) (fun h => absurd ((tb_shr ex_1 ex_2 (by omega) (by omega)).mpr h) (by omega))⟩
    exact W.zret (v := 0) hx hb hr (by decide) (fun t ht hW => ⟨⟨0, (), rfl, hpost, by rw [ht]; exact hP9, hD9⟩, hS.F ht⟩) hS.2.2 dX8_hasBit_13
  · have dc_3 : ¬ x_2.toInt = 0 := jI_ne c_3 rfl (by decide)
    refine lv_iconst (v := 1) hx hb dX8_hasBit_8 (by decide) ?_
    refine lv_goto (tgt := 13) hx hb dX8_hasBit_9 (by decide) ?_
    obtain ⟨hP9, hD9⟩ := va_pd (ws' := []) hP hD [] (by decide) rfl
    subst hQe
    have hans : (1 : Int32).toInt = 1 := (by decide)
    have hpost : (0 ≤ (1 : Int32).toInt ∧ (1 : Int32).toInt ≤ 1) ∧ ((¬ (1 : Int32).toInt = 0 ↔ tb a b.toInt.toNat = true)) := ⟨by omega, iff_of_true (by omega) ((tb_shr ex_1 ex_2 (by omega) (by omega)).mp (by omega))⟩
    exact W.zret (v := 1) hx hb hr (by decide) (fun t ht hW => ⟨⟨1, (), rfl, hpost, by rw [ht]; exact hP9, hD9⟩, hS.F ht⟩) hS.2.2 dX8_hasBit_13

set_option maxHeartbeats 8000000 in
set_option maxRecDepth 100000 in
theorem k_X8_settle (l : Launch) (dC : Nat → ClassId) (dI : Nat → Nat → Nat) (cA : Nat → ClassId) (sz : Nat) (ax : Nat → Nat) (xNow : Int32) (xEr : Int32) (xTr : Int32) (xMo : Int32) (xFa : Int32) (xRe : Int32) (a : Int32) (i_xNow : 0 ≤ xNow.toInt ∧ xNow.toInt ≤ 100000) (i_xTr : 0 ≤ xTr.toInt ∧ xTr.toInt ≤ 20) (i_xMo : 0 ≤ xMo.toInt ∧ xMo.toInt ≤ 10)  : Met l yX8_settle wsX8_settle ({ frames := 1, cells := 0, slots := 0, locals := 23 }) (va_Pc [.ref (ax 0), .int a] (fun U => U.heap.size = sz ∧ va_P (dC, dI) vwCl [((ax 0), .inr (8, [.ref (ax 1), .ref (ax 7), .ref (ax 10), .ref (ax 11), .ref (ax 13), .ref (ax 15), .ref (ax 16), .ref (ax 21), .ref (ax 26), .ref (ax 27), .ref (ax 28), .int xNow, .int xEr, .int xTr, .int xMo, .int xFa, .int xRe]))] U.heap ∧ va_K (dC, dI) vwCl (tyL cA) U ∧ va_D (fun _ => True) [((ax 0), .inr (8, [.ref (ax 1), .ref (ax 7), .ref (ax 10), .ref (ax 11), .ref (ax 13), .ref (ax 15), .ref (ax 16), .ref (ax 21), .ref (ax 26), .ref (ax 27), .ref (ax 28), .int xNow, .int xEr, .int xTr, .int xMo, .int xFa, .int xRe]))] ∧ nw_ok U)) (va_Qi (fun (r : Int32) (u : Int32) => (r = a)) (fun (u : Int32) (t : State) => va_P (dC, dI) vwCl [((ax 0), .inr (8, [.ref (ax 1), .ref (ax 7), .ref (ax 10), .ref (ax 11), .ref (ax 13), .ref (ax 15), .ref (ax 16), .ref (ax 21), .ref (ax 26), .ref (ax 27), .ref (ax 28), .int xNow, .int xEr, .int xTr, .int xMo, .int xFa, .int u]))] t.heap ∧ va_D (va_A [((ax 0), .inr (8, [.ref (ax 1), .ref (ax 7), .ref (ax 10), .ref (ax 11), .ref (ax 13), .ref (ax 15), .ref (ax 16), .ref (ax 21), .ref (ax 26), .ref (ax 27), .ref (ax 28), .int xNow, .int xEr, .int xTr, .int xMo, .int xFa, .int xRe]))] sz) [((ax 0), .inr (8, [.ref (ax 1), .ref (ax 7), .ref (ax 10), .ref (ax 11), .ref (ax 13), .ref (ax 15), .ref (ax 16), .ref (ax 21), .ref (ax 26), .ref (ax 27), .ref (ax 28), .int xNow, .int xEr, .int xTr, .int xMo, .int xFa, .int u]))]) (va_A [((ax 0), .inr (8, [.ref (ax 1), .ref (ax 7), .ref (ax 10), .ref (ax 11), .ref (ax 13), .ref (ax 15), .ref (ax 16), .ref (ax 21), .ref (ax 26), .ref (ax 27), .ref (ax 28), .int xNow, .int xEr, .int xTr, .int xMo, .int xFa, .int xRe]))] sz)) 0 0 (va_A [((ax 0), .inr (8, [.ref (ax 1), .ref (ax 7), .ref (ax 10), .ref (ax 11), .ref (ax 13), .ref (ax 15), .ref (ax 16), .ref (ax 21), .ref (ax 26), .ref (ax 27), .ref (ax 28), .int xNow, .int xEr, .int xTr, .int xMo, .int xFa, .int xRe]))] sz) := by
  refine Met.ofW (cc := cX8_settle) (maxL := 2) (ret := (some .int)) (by decide) rfl ?_
  intro p e s m args below meth c s₁ B hml hv
  obtain ⟨rfl, hsz, hP, hK, hD0, hN⟩ := hv
  have hx := B.exec
  have hb := B.bytes
  have hr := B.returns
  have hts := atoms_spec (ws := wsX8_settle) B.pre
  have hown : s.vm.findClass RX8 = some m.cls := findClass_of_methodNamed B.named
  have hlocks := B.notSynchronized
  subst hsz
  have hD := hD0.self (sz := s.heap.size)
  generalize hAe : va_A [((ax 0), .inr (8, [.ref (ax 1), .ref (ax 7), .ref (ax 10), .ref (ax 11), .ref (ax 13), .ref (ax 15), .ref (ax 16), .ref (ax 21), .ref (ax 26), .ref (ax 27), .ref (ax 28), .int xNow, .int xEr, .int xTr, .int xMo, .int xFa, .int xRe]))] s.heap.size = A at hD ⊢
  have hA : ∀ q : Nat, s.heap.size ≤ q → A q := fun q h => by rw [← hAe]; exact Or.inr h
  have hS : va_S A s.heap s.heap [] := va_S.rf
  have hIX8 : ∀ w ∈ u_ws RX8 TX8 17, w ∈ wsX8_settle := by decide +kernel
  have hl := lv_entry ([.ref (ax 0), .int a]) (n := 2) (Nat.le_of_ble_eq_true rfl)
  rw [lg_entry_eq]
  generalize (lg_sl ([.ref (ax 0), .int a]) ++ List.replicate (2 - (lg_sl ([.ref (ax 0), .int a])).length) Slot.unset).toArray = ls at hl ⊢
  have hl : lv_has ls 2 [(0, .ref (ax 0)), (1, .int a)] := hl
  generalize hQe : MQ below _ _ _ _ _ _ = QQ
  refine lv_aload_n hx hb dX8_settle_0 rfl (lv_at hl 0 rfl) ?_
  refine lv_iload_n hx hb dX8_settle_1 rfl (lv_at hl 1 rfl) ?_
  refine lv_iconst (v := 0) hx hb dX8_settle_2 (by decide) ?_
  refine va_mmin hx hb (by rw [hml]; exact hl.1.symm) hown (hts (.methodLink RX8 292 Lib.Math.min.name) (by decide +kernel)) (hts (.static Lib.Math.min.name) (by decide +kernel)) (hts (.initialized "java/lang/Math") (by decide +kernel)) (hts (.code Lib.Math.min.name Lib.Math.min.code 2 (some .int)) (by decide +kernel)) (Nat.le_of_ble_eq_true rfl) (Nat.le_of_ble_eq_true rfl) (Nat.le_of_ble_eq_true rfl) (Nat.le_of_ble_eq_true rfl) dX8_settle_3 ?_
  refine lv_topi (fun x_1 ex_1 => ?_)
  have dx_1 : x_1.toInt = min a.toInt 0 := jI_min ex_1 rfl (by decide)
  refine va_put (D := (dC, dI)) (ci := 8) (v := .int x_1) (ty := .int) (C := RX8) (T := TX8) (N := 17) hx hb hts hIX8 tyX8 tyX8_ok nmX8 hown hK hP hD hS 0 rfl rfl 16 (by decide) (hts (.fieldLink RX8 289 "TraitHouse" "latestRefusal" "I") (by decide +kernel)) (fun _ h9 => h9) rfl (by decide +kernel) rfl rfl (Nat.le_of_ble_eq_true rfl) dX8_settle_6 (fun H locs hP hD hS => ?_)
  replace hP : va_P (dC, dI) vwCl [((ax 0), .inr (8, [.ref (ax 1), .ref (ax 7), .ref (ax 10), .ref (ax 11), .ref (ax 13), .ref (ax 15), .ref (ax 16), .ref (ax 21), .ref (ax 26), .ref (ax 27), .ref (ax 28), .int xNow, .int xEr, .int xTr, .int xMo, .int xFa, .int x_1]))] H := hP
  replace hD : va_D A [((ax 0), .inr (8, [.ref (ax 1), .ref (ax 7), .ref (ax 10), .ref (ax 11), .ref (ax 13), .ref (ax 15), .ref (ax 16), .ref (ax 21), .ref (ax 26), .ref (ax 27), .ref (ax 28), .int xNow, .int xEr, .int xTr, .int xMo, .int xFa, .int x_1]))] := hD
  refine lv_iload_n hx hb dX8_settle_9 rfl (lv_at hl 1 rfl) ?_
  obtain ⟨hP9, hD9⟩ := va_pd (ws' := [((ax 0), .inr (8, [.ref (ax 1), .ref (ax 7), .ref (ax 10), .ref (ax 11), .ref (ax 13), .ref (ax 15), .ref (ax 16), .ref (ax 21), .ref (ax 26), .ref (ax 27), .ref (ax 28), .int xNow, .int xEr, .int xTr, .int xMo, .int xFa, .int x_1]))]) hP hD [0] (by decide) rfl
  subst hQe
  have hans : (a : Int32).toInt = a.toInt := rfl
  have hpost : ((a : Int32) = a) := rfl
  exact W.iret (v := a) hx hb hr (fun t ht hW => ⟨⟨a, x_1, rfl, hpost, by rw [ht]; exact hP9, hD9⟩, hS.F ht⟩) hS.2.2 dX8_settle_10

set_option maxHeartbeats 8000000 in
set_option maxRecDepth 100000 in
theorem k_X8_isModel (l : Launch) (dC : Nat → ClassId) (dI : Nat → Nat → Nat) (cA : Nat → ClassId) (sz : Nat) (ax : Nat → Nat) (xNow : Int32) (xEr : Int32) (xTr : Int32) (xMo : Int32) (xFa : Int32) (xRe : Int32) (a : Int32) (i_xNow : 0 ≤ xNow.toInt ∧ xNow.toInt ≤ 100000) (i_xTr : 0 ≤ xTr.toInt ∧ xTr.toInt ≤ 20) (i_xMo : 0 ≤ xMo.toInt ∧ xMo.toInt ≤ 10)  : Met l yX8_isModel wsX8_isModel ({ frames := 0, cells := 0, slots := 0, locals := 0 }) (va_Pc [.ref (ax 0), .int a] (fun U => U.heap.size = sz ∧ va_P (dC, dI) vwCl [((ax 0), .inr (8, [.ref (ax 1), .ref (ax 7), .ref (ax 10), .ref (ax 11), .ref (ax 13), .ref (ax 15), .ref (ax 16), .ref (ax 21), .ref (ax 26), .ref (ax 27), .ref (ax 28), .int xNow, .int xEr, .int xTr, .int xMo, .int xFa, .int xRe]))] U.heap ∧ va_K (dC, dI) vwCl (tyL cA) U ∧ va_D (fun _ => True) [((ax 0), .inr (8, [.ref (ax 1), .ref (ax 7), .ref (ax 10), .ref (ax 11), .ref (ax 13), .ref (ax 15), .ref (ax 16), .ref (ax 21), .ref (ax 26), .ref (ax 27), .ref (ax 28), .int xNow, .int xEr, .int xTr, .int xMo, .int xFa, .int xRe]))] ∧ nw_ok U)) (va_Qi (fun (r : Int32) (_ : Unit) => ((0 ≤ a.toInt ∧ a.toInt < xMo.toInt → r.toInt = 1) ∧ (¬ (0 ≤ a.toInt ∧ a.toInt < xMo.toInt) → r.toInt = 0))) (fun (_ : Unit) (t : State) => va_P (dC, dI) vwCl [((ax 0), .inr (8, [.ref (ax 1), .ref (ax 7), .ref (ax 10), .ref (ax 11), .ref (ax 13), .ref (ax 15), .ref (ax 16), .ref (ax 21), .ref (ax 26), .ref (ax 27), .ref (ax 28), .int xNow, .int xEr, .int xTr, .int xMo, .int xFa, .int xRe]))] t.heap ∧ va_D (va_A [((ax 0), .inr (8, [.ref (ax 1), .ref (ax 7), .ref (ax 10), .ref (ax 11), .ref (ax 13), .ref (ax 15), .ref (ax 16), .ref (ax 21), .ref (ax 26), .ref (ax 27), .ref (ax 28), .int xNow, .int xEr, .int xTr, .int xMo, .int xFa, .int xRe]))] sz) [((ax 0), .inr (8, [.ref (ax 1), .ref (ax 7), .ref (ax 10), .ref (ax 11), .ref (ax 13), .ref (ax 15), .ref (ax 16), .ref (ax 21), .ref (ax 26), .ref (ax 27), .ref (ax 28), .int xNow, .int xEr, .int xTr, .int xMo, .int xFa, .int xRe]))]) (va_A [((ax 0), .inr (8, [.ref (ax 1), .ref (ax 7), .ref (ax 10), .ref (ax 11), .ref (ax 13), .ref (ax 15), .ref (ax 16), .ref (ax 21), .ref (ax 26), .ref (ax 27), .ref (ax 28), .int xNow, .int xEr, .int xTr, .int xMo, .int xFa, .int xRe]))] sz)) 0 0 (va_A [((ax 0), .inr (8, [.ref (ax 1), .ref (ax 7), .ref (ax 10), .ref (ax 11), .ref (ax 13), .ref (ax 15), .ref (ax 16), .ref (ax 21), .ref (ax 26), .ref (ax 27), .ref (ax 28), .int xNow, .int xEr, .int xTr, .int xMo, .int xFa, .int xRe]))] sz) := by
  refine Met.ofW (cc := cX8_isModel) (maxL := 2) (ret := (some .boolean)) (by decide) rfl ?_
  intro p e s m args below meth c s₁ B hml hv
  obtain ⟨rfl, hsz, hP, hK, hD0, hN⟩ := hv
  have hx := B.exec
  have hb := B.bytes
  have hr := B.returns
  have hts := atoms_spec (ws := wsX8_isModel) B.pre
  have hown : s.vm.findClass RX8 = some m.cls := findClass_of_methodNamed B.named
  have hlocks := B.notSynchronized
  subst hsz
  have hD := hD0.self (sz := s.heap.size)
  generalize hAe : va_A [((ax 0), .inr (8, [.ref (ax 1), .ref (ax 7), .ref (ax 10), .ref (ax 11), .ref (ax 13), .ref (ax 15), .ref (ax 16), .ref (ax 21), .ref (ax 26), .ref (ax 27), .ref (ax 28), .int xNow, .int xEr, .int xTr, .int xMo, .int xFa, .int xRe]))] s.heap.size = A at hD ⊢
  have hA : ∀ q : Nat, s.heap.size ≤ q → A q := fun q h => by rw [← hAe]; exact Or.inr h
  have hS : va_S A s.heap s.heap [] := va_S.rf
  have hIX8 : ∀ w ∈ u_ws RX8 TX8 17, w ∈ wsX8_isModel := by decide +kernel
  have hl := lv_entry ([.ref (ax 0), .int a]) (n := 2) (Nat.le_of_ble_eq_true rfl)
  rw [lg_entry_eq]
  generalize (lg_sl ([.ref (ax 0), .int a]) ++ List.replicate (2 - (lg_sl ([.ref (ax 0), .int a])).length) Slot.unset).toArray = ls at hl ⊢
  have hl : lv_has ls 2 [(0, .ref (ax 0)), (1, .int a)] := hl
  generalize hQe : MQ below _ _ _ _ _ _ = QQ
  refine lv_iload_n hx hb dX8_isModel_0 rfl (lv_at hl 1 rfl) ?_
  refine lv_if_lt (tgt := 16) hx hb dX8_isModel_1 (by decide) (fun c_1 => ?_) (fun c_1 => ?_)
  · have dc_1 : a.toInt < 0 := jI_lt c_1 rfl (by decide)
    refine lv_iconst (v := 0) hx hb dX8_isModel_16 (by decide) ?_
    obtain ⟨hP9, hD9⟩ := va_pd (ws' := [((ax 0), .inr (8, [.ref (ax 1), .ref (ax 7), .ref (ax 10), .ref (ax 11), .ref (ax 13), .ref (ax 15), .ref (ax 16), .ref (ax 21), .ref (ax 26), .ref (ax 27), .ref (ax 28), .int xNow, .int xEr, .int xTr, .int xMo, .int xFa, .int xRe]))]) hP hD [0] (by decide) rfl
    subst hQe
    have hans : (0 : Int32).toInt = 0 := (by decide)
    have hpost : ((0 ≤ a.toInt ∧ a.toInt < xMo.toInt → (0 : Int32).toInt = 1) ∧ (¬ (0 ≤ a.toInt ∧ a.toInt < xMo.toInt) → (0 : Int32).toInt = 0)) := by omega
    exact W.zret (v := 0) hx hb hr (by decide) (fun t ht hW => ⟨⟨0, (), rfl, hpost, by rw [ht]; exact hP9, hD9⟩, hS.F ht⟩) hS.2.2 dX8_isModel_17
  · have dc_1 : 0 ≤ a.toInt := jI_nlt c_1 rfl (by decide)
    refine lv_iload_n hx hb dX8_isModel_4 rfl (lv_at hl 1 rfl) ?_
    refine lv_aload_n hx hb dX8_isModel_5 rfl (lv_at hl 0 rfl) ?_
    refine va_get (D := (dC, dI)) (ci := 8) (v := .int xMo) (C := RX8) (T := TX8) (N := 17) hx hb hts hIX8 hown hK hP 0 rfl rfl 14 (by decide) (hts (.fieldLink RX8 250 "TraitHouse" "modelsThere" "I") (by decide +kernel)) (fun _ h9 => h9) rfl dX8_isModel_6 ?_
    refine lv_icmp_ge (tgt := 16) hx hb dX8_isModel_9 (by decide) (fun c_2 => ?_) (fun c_2 => ?_)
    · have dc_2 : xMo.toInt ≤ a.toInt := jI_le c_2 rfl rfl
      refine lv_iconst (v := 0) hx hb dX8_isModel_16 (by decide) ?_
      obtain ⟨hP9, hD9⟩ := va_pd (ws' := [((ax 0), .inr (8, [.ref (ax 1), .ref (ax 7), .ref (ax 10), .ref (ax 11), .ref (ax 13), .ref (ax 15), .ref (ax 16), .ref (ax 21), .ref (ax 26), .ref (ax 27), .ref (ax 28), .int xNow, .int xEr, .int xTr, .int xMo, .int xFa, .int xRe]))]) hP hD [0] (by decide) rfl
      subst hQe
      have hans : (0 : Int32).toInt = 0 := (by decide)
      have hpost : ((0 ≤ a.toInt ∧ a.toInt < xMo.toInt → (0 : Int32).toInt = 1) ∧ (¬ (0 ≤ a.toInt ∧ a.toInt < xMo.toInt) → (0 : Int32).toInt = 0)) := by omega
      exact W.zret (v := 0) hx hb hr (by decide) (fun t ht hW => ⟨⟨0, (), rfl, hpost, by rw [ht]; exact hP9, hD9⟩, hS.F ht⟩) hS.2.2 dX8_isModel_17
    · have dc_2 : a.toInt < xMo.toInt := jI_nle c_2 rfl rfl
      refine lv_iconst (v := 1) hx hb dX8_isModel_12 (by decide) ?_
      refine lv_goto (tgt := 17) hx hb dX8_isModel_13 (by decide) ?_
      obtain ⟨hP9, hD9⟩ := va_pd (ws' := [((ax 0), .inr (8, [.ref (ax 1), .ref (ax 7), .ref (ax 10), .ref (ax 11), .ref (ax 13), .ref (ax 15), .ref (ax 16), .ref (ax 21), .ref (ax 26), .ref (ax 27), .ref (ax 28), .int xNow, .int xEr, .int xTr, .int xMo, .int xFa, .int xRe]))]) hP hD [0] (by decide) rfl
      subst hQe
      have hans : (1 : Int32).toInt = 1 := (by decide)
      have hpost : ((0 ≤ a.toInt ∧ a.toInt < xMo.toInt → (1 : Int32).toInt = 1) ∧ (¬ (0 ≤ a.toInt ∧ a.toInt < xMo.toInt) → (1 : Int32).toInt = 0)) := by omega
      exact W.zret (v := 1) hx hb hr (by decide) (fun t ht hW => ⟨⟨1, (), rfl, hpost, by rw [ht]; exact hP9, hD9⟩, hS.F ht⟩) hS.2.2 dX8_isModel_17

set_option maxHeartbeats 8000000 in
set_option maxRecDepth 100000 in
theorem k_X8_now (l : Launch) (dC : Nat → ClassId) (dI : Nat → Nat → Nat) (cA : Nat → ClassId) (sz : Nat) (ax : Nat → Nat) (xNow : Int32) (xEr : Int32) (xTr : Int32) (xMo : Int32) (xFa : Int32) (xRe : Int32) (a : Int32) (i_xNow : 0 ≤ xNow.toInt ∧ xNow.toInt ≤ 100000) (i_xTr : 0 ≤ xTr.toInt ∧ xTr.toInt ≤ 20) (i_xMo : 0 ≤ xMo.toInt ∧ xMo.toInt ≤ 10)  : Met l yX8_now wsX8_now ({ frames := 2, cells := 0, slots := 0, locals := 44 }) (va_Pc [.ref (ax 0), .int a] (fun U => U.heap.size = sz ∧ va_P (dC, dI) vwCl [((ax 0), .inr (8, [.ref (ax 1), .ref (ax 7), .ref (ax 10), .ref (ax 11), .ref (ax 13), .ref (ax 15), .ref (ax 16), .ref (ax 21), .ref (ax 26), .ref (ax 27), .ref (ax 28), .int xNow, .int xEr, .int xTr, .int xMo, .int xFa, .int xRe]))] U.heap ∧ va_K (dC, dI) vwCl (tyL cA) U ∧ va_D (fun _ => True) [((ax 0), .inr (8, [.ref (ax 1), .ref (ax 7), .ref (ax 10), .ref (ax 11), .ref (ax 13), .ref (ax 15), .ref (ax 16), .ref (ax 21), .ref (ax 26), .ref (ax 27), .ref (ax 28), .int xNow, .int xEr, .int xTr, .int xMo, .int xFa, .int xRe]))] ∧ nw_ok U)) (va_Qi (fun (r : Int32) (u : Int32 × Int32) => (0 ≤ u.2.toInt ∧ u.2.toInt ≤ 100000) ∧ ((xNow.toInt ≤ a.toInt ∧ a.toInt ≤ 100000 → r.toInt = 0 ∧ u.2.toInt = a.toInt) ∧ (¬ (xNow.toInt ≤ a.toInt ∧ a.toInt ≤ 100000) → r.toInt = (-1) ∧ u.2.toInt = xNow.toInt))) (fun (u : Int32 × Int32) (t : State) => va_P (dC, dI) vwCl [((ax 0), .inr (8, [.ref (ax 1), .ref (ax 7), .ref (ax 10), .ref (ax 11), .ref (ax 13), .ref (ax 15), .ref (ax 16), .ref (ax 21), .ref (ax 26), .ref (ax 27), .ref (ax 28), .int u.2, .int xEr, .int xTr, .int xMo, .int xFa, .int u.1]))] t.heap ∧ va_D (va_A [((ax 0), .inr (8, [.ref (ax 1), .ref (ax 7), .ref (ax 10), .ref (ax 11), .ref (ax 13), .ref (ax 15), .ref (ax 16), .ref (ax 21), .ref (ax 26), .ref (ax 27), .ref (ax 28), .int xNow, .int xEr, .int xTr, .int xMo, .int xFa, .int xRe]))] sz) [((ax 0), .inr (8, [.ref (ax 1), .ref (ax 7), .ref (ax 10), .ref (ax 11), .ref (ax 13), .ref (ax 15), .ref (ax 16), .ref (ax 21), .ref (ax 26), .ref (ax 27), .ref (ax 28), .int u.2, .int xEr, .int xTr, .int xMo, .int xFa, .int u.1]))]) (va_A [((ax 0), .inr (8, [.ref (ax 1), .ref (ax 7), .ref (ax 10), .ref (ax 11), .ref (ax 13), .ref (ax 15), .ref (ax 16), .ref (ax 21), .ref (ax 26), .ref (ax 27), .ref (ax 28), .int xNow, .int xEr, .int xTr, .int xMo, .int xFa, .int xRe]))] sz)) 0 0 (va_A [((ax 0), .inr (8, [.ref (ax 1), .ref (ax 7), .ref (ax 10), .ref (ax 11), .ref (ax 13), .ref (ax 15), .ref (ax 16), .ref (ax 21), .ref (ax 26), .ref (ax 27), .ref (ax 28), .int xNow, .int xEr, .int xTr, .int xMo, .int xFa, .int xRe]))] sz) := by
  refine Met.ofW (cc := cX8_now) (maxL := 2) (ret := (some .int)) (by decide) rfl ?_
  intro p e s m args below meth c s₁ B hml hv
  obtain ⟨rfl, hsz, hP, hK, hD0, hN⟩ := hv
  have hx := B.exec
  have hb := B.bytes
  have hr := B.returns
  have hts := atoms_spec (ws := wsX8_now) B.pre
  have hown : s.vm.findClass RX8 = some m.cls := findClass_of_methodNamed B.named
  have hlocks := B.notSynchronized
  subst hsz
  have hD := hD0.self (sz := s.heap.size)
  generalize hAe : va_A [((ax 0), .inr (8, [.ref (ax 1), .ref (ax 7), .ref (ax 10), .ref (ax 11), .ref (ax 13), .ref (ax 15), .ref (ax 16), .ref (ax 21), .ref (ax 26), .ref (ax 27), .ref (ax 28), .int xNow, .int xEr, .int xTr, .int xMo, .int xFa, .int xRe]))] s.heap.size = A at hD ⊢
  have hA : ∀ q : Nat, s.heap.size ≤ q → A q := fun q h => by rw [← hAe]; exact Or.inr h
  have hS : va_S A s.heap s.heap [] := va_S.rf
  have hIX8 : ∀ w ∈ u_ws RX8 TX8 17, w ∈ wsX8_now := by decide +kernel
  have hl := lv_entry ([.ref (ax 0), .int a]) (n := 2) (Nat.le_of_ble_eq_true rfl)
  rw [lg_entry_eq]
  generalize (lg_sl ([.ref (ax 0), .int a]) ++ List.replicate (2 - (lg_sl ([.ref (ax 0), .int a])).length) Slot.unset).toArray = ls at hl ⊢
  have hl : lv_has ls 2 [(0, .ref (ax 0)), (1, .int a)] := hl
  generalize hQe : MQ below _ _ _ _ _ _ = QQ
  refine lv_iload_n hx hb dX8_now_0 rfl (lv_at hl 1 rfl) ?_
  obtain ⟨hPc, hDc, hFc, hCc⟩ := va_pre (ws' := []) hP hD hS hA [] (by decide) rfl
  refine va_calli (va_runS (As := [.int a]) (rest := []) ⟨hx, hb, hml, hown, hts⟩ (k_X8_isMoment l dC dI cA s.heap.size a ) (va_cwS 1 hts gX8_now_X8_isMoment rfl rfl rfl (by decide +kernel) ⟨Nat.le_of_ble_eq_true rfl, Nat.le_of_ble_eq_true rfl⟩) ⟨fun a U g mk q => by obtain ⟨q0, q1, qP, qK, qD, qN⟩ := q; exact ⟨q0, q1, qP, va_K.moved (u := U) (U := U.calling g mk a) (Vm.Alike.refl U.vm) qK, qD, qN.same rfl⟩, fun U hU hW => ⟨rfl, by rw [hU], by rw [hU]; exact hPc, va_K.moved hW.alike hK, hDc.weaken (fun _ _ _ _ => trivial), hN.warm hW⟩⟩ rfl rfl hl.1 rfl (lv_room (Nat.le_of_ble_eq_true rfl)) dX8_now_1 ⟨Nat.le_of_ble_eq_true rfl, Nat.le_of_ble_eq_true rfl⟩) hS (fun q _ h => hFc q h) hFc (fun r_1 u_2 t H1 locs ht hvm hw_3 hB hz1 hk1 hS => ?_)
  try dsimp only at hw_3 hB
  have po_4 := hw_3
  clear hw_3
  obtain ⟨hP1, hD1⟩ := hB
  rw [ht] at hP1
  obtain ⟨hP, hD⟩ := va_join (wr := [((ax 0), .inr (8, [.ref (ax 1), .ref (ax 7), .ref (ax 10), .ref (ax 11), .ref (ax 13), .ref (ax 15), .ref (ax 16), .ref (ax 21), .ref (ax 26), .ref (ax 27), .ref (ax 28), .int xNow, .int xEr, .int xTr, .int xMo, .int xFa, .int xRe]))]) (w1 := []) hP hD [] [0] hCc rfl (by decide) (by decide) hk1 hFc hP1 hD1
  clear hz1
  generalize H1 = H at hP hS ⊢
  refine lv_if_eq (tgt := 15) hx hb dX8_now_4 (by decide) (fun c_5 => ?_) (fun c_5 => ?_)
  · have dc_5 : r_1.toInt = 0 := jI_eq c_5 rfl (by decide)
    refine lv_aload_n hx hb dX8_now_15 rfl (lv_at hl 0 rfl) ?_
    refine lv_iconst (v := (-1)) hx hb dX8_now_16 (by decide) ?_
    have hk_6 : ((-1) : Int32).toInt = (-1) := by decide
    obtain ⟨hPc, hDc, hFc, hCc⟩ := va_pre (ws' := [((ax 0), .inr (8, [.ref (ax 1), .ref (ax 7), .ref (ax 10), .ref (ax 11), .ref (ax 13), .ref (ax 15), .ref (ax 16), .ref (ax 21), .ref (ax 26), .ref (ax 27), .ref (ax 28), .int xNow, .int xEr, .int xTr, .int xMo, .int xFa, .int xRe]))]) hP hD hS hA [0] (by decide) rfl
    refine va_calli (va_runV (As := [.int (-1)]) (rest := []) ⟨hx, hb, hml, hown, hts⟩ (k_X8_settle l dC dI cA H.size ax xNow xEr xTr xMo xFa xRe (-1) i_xNow i_xTr i_xMo) (cwV 1 hts gX8_now_X8_settle rfl rfl rfl (by decide +kernel) ⟨Nat.le_of_ble_eq_true rfl, Nat.le_of_ble_eq_true rfl⟩) ⟨fun a U g mk q => by obtain ⟨q0, q1, qP, qK, qD, qN⟩ := q; exact ⟨q0, q1, qP, va_K.moved (u := U) (U := U.calling g mk a) (Vm.Alike.refl U.vm) qK, qD, qN.same rfl⟩, va_recv hK hPc (ci := 8) (q0 := 0) rfl rfl, fun U hU hW => ⟨rfl, by rw [hU], by rw [hU]; exact hPc, va_K.moved hW.alike hK, hDc.weaken (fun _ _ _ _ => trivial), hN.warm hW⟩⟩ rfl rfl hl.1 rfl (lv_room (Nat.le_of_ble_eq_true rfl)) dX8_now_17 ⟨Nat.le_of_ble_eq_true rfl, Nat.le_of_ble_eq_true rfl⟩) hS (fun q _ h => hFc q h) hFc (fun r_7 u_8 t H1 locs ht hvm hw_9 hB hz1 hk1 hS => ?_)
    obtain ⟨w_10, rfl⟩ : ∃ z, z = u_8 := ⟨_, rfl⟩
    try dsimp only at hw_9 hB
    have hr9 := hw_9
    clear hw_9
    obtain ⟨hP1, hD1⟩ := hB
    rw [ht] at hP1
    obtain ⟨hP, hD⟩ := va_join (wr := []) (w1 := [((ax 0), .inr (8, [.ref (ax 1), .ref (ax 7), .ref (ax 10), .ref (ax 11), .ref (ax 13), .ref (ax 15), .ref (ax 16), .ref (ax 21), .ref (ax 26), .ref (ax 27), .ref (ax 28), .int xNow, .int xEr, .int xTr, .int xMo, .int xFa, .int w_10]))]) hP hD [0] [] hCc rfl (by decide) (by decide) hk1 hFc hP1 hD1
    clear hz1
    generalize H1 = H at hP hS ⊢
    obtain rfl : (-1) = r_7 := hr9.symm
    obtain ⟨hP9, hD9⟩ := va_pd (ws' := [((ax 0), .inr (8, [.ref (ax 1), .ref (ax 7), .ref (ax 10), .ref (ax 11), .ref (ax 13), .ref (ax 15), .ref (ax 16), .ref (ax 21), .ref (ax 26), .ref (ax 27), .ref (ax 28), .int xNow, .int xEr, .int xTr, .int xMo, .int xFa, .int w_10]))]) hP hD [0] (by decide) rfl
    subst hQe
    have hans : ((-1) : Int32).toInt = (-1) := (by decide)
    have hpost : (0 ≤ xNow.toInt ∧ xNow.toInt ≤ 100000) ∧ ((xNow.toInt ≤ a.toInt ∧ a.toInt ≤ 100000 → ((-1) : Int32).toInt = 0 ∧ xNow.toInt = a.toInt) ∧ (¬ (xNow.toInt ≤ a.toInt ∧ a.toInt ≤ 100000) → ((-1) : Int32).toInt = (-1) ∧ xNow.toInt = xNow.toInt)) := ⟨i_xNow, by omega⟩
    exact W.iret (v := (-1)) hx hb hr (fun t ht hW => ⟨⟨(-1), (w_10, xNow), rfl, hpost, by rw [ht]; exact hP9, hD9⟩, hS.F ht⟩) hS.2.2 dX8_now_20
  · have dc_5 : ¬ r_1.toInt = 0 := jI_ne c_5 rfl (by decide)
    refine lv_iload_n hx hb dX8_now_7 rfl (lv_at hl 1 rfl) ?_
    refine lv_aload_n hx hb dX8_now_8 rfl (lv_at hl 0 rfl) ?_
    refine va_get (D := (dC, dI)) (ci := 8) (v := .int xNow) (C := RX8) (T := TX8) (N := 17) hx hb hts hIX8 hown hK hP 0 rfl rfl 11 (by decide) (hts (.fieldLink RX8 83 "TraitHouse" "now" "I") (by decide +kernel)) (fun _ h9 => h9) rfl dX8_now_9 ?_
    refine lv_icmp_ge (tgt := 21) hx hb dX8_now_12 (by decide) (fun c_11 => ?_) (fun c_11 => ?_)
    · have dc_11 : xNow.toInt ≤ a.toInt := jI_le c_11 rfl rfl
      refine lv_aload_n hx hb dX8_now_21 rfl (lv_at hl 0 rfl) ?_
      refine lv_iload_n hx hb dX8_now_22 rfl (lv_at hl 1 rfl) ?_
      refine va_put (D := (dC, dI)) (ci := 8) (v := .int a) (ty := .int) (C := RX8) (T := TX8) (N := 17) hx hb hts hIX8 tyX8 tyX8_ok nmX8 hown hK hP hD hS 0 rfl rfl 11 (by decide) (hts (.fieldLink RX8 83 "TraitHouse" "now" "I") (by decide +kernel)) (fun _ h9 => h9) rfl (by decide +kernel) rfl rfl (Nat.le_of_ble_eq_true rfl) dX8_now_23 (fun H locs hP hD hS => ?_)
      replace hP : va_P (dC, dI) vwCl [((ax 0), .inr (8, [.ref (ax 1), .ref (ax 7), .ref (ax 10), .ref (ax 11), .ref (ax 13), .ref (ax 15), .ref (ax 16), .ref (ax 21), .ref (ax 26), .ref (ax 27), .ref (ax 28), .int a, .int xEr, .int xTr, .int xMo, .int xFa, .int xRe]))] H := hP
      replace hD : va_D A [((ax 0), .inr (8, [.ref (ax 1), .ref (ax 7), .ref (ax 10), .ref (ax 11), .ref (ax 13), .ref (ax 15), .ref (ax 16), .ref (ax 21), .ref (ax 26), .ref (ax 27), .ref (ax 28), .int a, .int xEr, .int xTr, .int xMo, .int xFa, .int xRe]))] := hD
      refine lv_aload_n hx hb dX8_now_26 rfl (lv_at hl 0 rfl) ?_
      refine lv_iconst (v := 0) hx hb dX8_now_27 (by decide) ?_
      have hk_12 : (0 : Int32).toInt = 0 := by decide
      obtain ⟨hPc, hDc, hFc, hCc⟩ := va_pre (ws' := [((ax 0), .inr (8, [.ref (ax 1), .ref (ax 7), .ref (ax 10), .ref (ax 11), .ref (ax 13), .ref (ax 15), .ref (ax 16), .ref (ax 21), .ref (ax 26), .ref (ax 27), .ref (ax 28), .int a, .int xEr, .int xTr, .int xMo, .int xFa, .int xRe]))]) hP hD hS hA [0] (by decide) rfl
      refine va_calli (va_runV (As := [.int 0]) (rest := []) ⟨hx, hb, hml, hown, hts⟩ (k_X8_settle l dC dI cA H.size ax a xEr xTr xMo xFa xRe 0 (by omega) i_xTr i_xMo) (cwV 1 hts gX8_now_X8_settle rfl rfl rfl (by decide +kernel) ⟨Nat.le_of_ble_eq_true rfl, Nat.le_of_ble_eq_true rfl⟩) ⟨fun a U g mk q => by obtain ⟨q0, q1, qP, qK, qD, qN⟩ := q; exact ⟨q0, q1, qP, va_K.moved (u := U) (U := U.calling g mk a) (Vm.Alike.refl U.vm) qK, qD, qN.same rfl⟩, va_recv hK hPc (ci := 8) (q0 := 0) rfl rfl, fun U hU hW => ⟨rfl, by rw [hU], by rw [hU]; exact hPc, va_K.moved hW.alike hK, hDc.weaken (fun _ _ _ _ => trivial), hN.warm hW⟩⟩ rfl rfl hl.1 rfl (lv_room (Nat.le_of_ble_eq_true rfl)) dX8_now_28 ⟨Nat.le_of_ble_eq_true rfl, Nat.le_of_ble_eq_true rfl⟩) hS (fun q _ h => hFc q h) hFc (fun r_13 u_14 t H1 locs ht hvm hw_15 hB hz1 hk1 hS => ?_)
      obtain ⟨w_16, rfl⟩ : ∃ z, z = u_14 := ⟨_, rfl⟩
      try dsimp only at hw_15 hB
      have hr9 := hw_15
      clear hw_15
      obtain ⟨hP1, hD1⟩ := hB
      rw [ht] at hP1
      obtain ⟨hP, hD⟩ := va_join (wr := []) (w1 := [((ax 0), .inr (8, [.ref (ax 1), .ref (ax 7), .ref (ax 10), .ref (ax 11), .ref (ax 13), .ref (ax 15), .ref (ax 16), .ref (ax 21), .ref (ax 26), .ref (ax 27), .ref (ax 28), .int a, .int xEr, .int xTr, .int xMo, .int xFa, .int w_16]))]) hP hD [0] [] hCc rfl (by decide) (by decide) hk1 hFc hP1 hD1
      clear hz1
      generalize H1 = H at hP hS ⊢
      obtain rfl : 0 = r_13 := hr9.symm
      obtain ⟨hP9, hD9⟩ := va_pd (ws' := [((ax 0), .inr (8, [.ref (ax 1), .ref (ax 7), .ref (ax 10), .ref (ax 11), .ref (ax 13), .ref (ax 15), .ref (ax 16), .ref (ax 21), .ref (ax 26), .ref (ax 27), .ref (ax 28), .int a, .int xEr, .int xTr, .int xMo, .int xFa, .int w_16]))]) hP hD [0] (by decide) rfl
      subst hQe
      have hans : (0 : Int32).toInt = 0 := (by decide)
      have hpost : (0 ≤ a.toInt ∧ a.toInt ≤ 100000) ∧ ((xNow.toInt ≤ a.toInt ∧ a.toInt ≤ 100000 → (0 : Int32).toInt = 0 ∧ a.toInt = a.toInt) ∧ (¬ (xNow.toInt ≤ a.toInt ∧ a.toInt ≤ 100000) → (0 : Int32).toInt = (-1) ∧ a.toInt = xNow.toInt)) := ⟨by omega, by omega⟩
      exact W.iret (v := 0) hx hb hr (fun t ht hW => ⟨⟨0, (w_16, a), rfl, hpost, by rw [ht]; exact hP9, hD9⟩, hS.F ht⟩) hS.2.2 dX8_now_31
    · have dc_11 : a.toInt < xNow.toInt := jI_nle c_11 rfl rfl
      refine lv_aload_n hx hb dX8_now_15 rfl (lv_at hl 0 rfl) ?_
      refine lv_iconst (v := (-1)) hx hb dX8_now_16 (by decide) ?_
      have hk_17 : ((-1) : Int32).toInt = (-1) := by decide
      obtain ⟨hPc, hDc, hFc, hCc⟩ := va_pre (ws' := [((ax 0), .inr (8, [.ref (ax 1), .ref (ax 7), .ref (ax 10), .ref (ax 11), .ref (ax 13), .ref (ax 15), .ref (ax 16), .ref (ax 21), .ref (ax 26), .ref (ax 27), .ref (ax 28), .int xNow, .int xEr, .int xTr, .int xMo, .int xFa, .int xRe]))]) hP hD hS hA [0] (by decide) rfl
      refine va_calli (va_runV (As := [.int (-1)]) (rest := []) ⟨hx, hb, hml, hown, hts⟩ (k_X8_settle l dC dI cA H.size ax xNow xEr xTr xMo xFa xRe (-1) i_xNow i_xTr i_xMo) (cwV 1 hts gX8_now_X8_settle rfl rfl rfl (by decide +kernel) ⟨Nat.le_of_ble_eq_true rfl, Nat.le_of_ble_eq_true rfl⟩) ⟨fun a U g mk q => by obtain ⟨q0, q1, qP, qK, qD, qN⟩ := q; exact ⟨q0, q1, qP, va_K.moved (u := U) (U := U.calling g mk a) (Vm.Alike.refl U.vm) qK, qD, qN.same rfl⟩, va_recv hK hPc (ci := 8) (q0 := 0) rfl rfl, fun U hU hW => ⟨rfl, by rw [hU], by rw [hU]; exact hPc, va_K.moved hW.alike hK, hDc.weaken (fun _ _ _ _ => trivial), hN.warm hW⟩⟩ rfl rfl hl.1 rfl (lv_room (Nat.le_of_ble_eq_true rfl)) dX8_now_17 ⟨Nat.le_of_ble_eq_true rfl, Nat.le_of_ble_eq_true rfl⟩) hS (fun q _ h => hFc q h) hFc (fun r_18 u_19 t H1 locs ht hvm hw_20 hB hz1 hk1 hS => ?_)
      obtain ⟨w_21, rfl⟩ : ∃ z, z = u_19 := ⟨_, rfl⟩
      try dsimp only at hw_20 hB
      have hr9 := hw_20
      clear hw_20
      obtain ⟨hP1, hD1⟩ := hB
      rw [ht] at hP1
      obtain ⟨hP, hD⟩ := va_join (wr := []) (w1 := [((ax 0), .inr (8, [.ref (ax 1), .ref (ax 7), .ref (ax 10), .ref (ax 11), .ref (ax 13), .ref (ax 15), .ref (ax 16), .ref (ax 21), .ref (ax 26), .ref (ax 27), .ref (ax 28), .int xNow, .int xEr, .int xTr, .int xMo, .int xFa, .int w_21]))]) hP hD [0] [] hCc rfl (by decide) (by decide) hk1 hFc hP1 hD1
      clear hz1
      generalize H1 = H at hP hS ⊢
      obtain rfl : (-1) = r_18 := hr9.symm
      obtain ⟨hP9, hD9⟩ := va_pd (ws' := [((ax 0), .inr (8, [.ref (ax 1), .ref (ax 7), .ref (ax 10), .ref (ax 11), .ref (ax 13), .ref (ax 15), .ref (ax 16), .ref (ax 21), .ref (ax 26), .ref (ax 27), .ref (ax 28), .int xNow, .int xEr, .int xTr, .int xMo, .int xFa, .int w_21]))]) hP hD [0] (by decide) rfl
      subst hQe
      have hans : ((-1) : Int32).toInt = (-1) := (by decide)
      have hpost : (0 ≤ xNow.toInt ∧ xNow.toInt ≤ 100000) ∧ ((xNow.toInt ≤ a.toInt ∧ a.toInt ≤ 100000 → ((-1) : Int32).toInt = 0 ∧ xNow.toInt = a.toInt) ∧ (¬ (xNow.toInt ≤ a.toInt ∧ a.toInt ≤ 100000) → ((-1) : Int32).toInt = (-1) ∧ xNow.toInt = xNow.toInt)) := ⟨i_xNow, by omega⟩
      exact W.iret (v := (-1)) hx hb hr (fun t ht hW => ⟨⟨(-1), (w_21, xNow), rfl, hpost, by rw [ht]; exact hP9, hD9⟩, hS.F ht⟩) hS.2.2 dX8_now_20

set_option maxHeartbeats 8000000 in
set_option maxRecDepth 100000 in
theorem k_X8_fault (l : Launch) (dC : Nat → ClassId) (dI : Nat → Nat → Nat) (cA : Nat → ClassId) (sz : Nat) (ax : Nat → Nat) (xNow : Int32) (xEr : Int32) (xTr : Int32) (xMo : Int32) (xFa : Int32) (xRe : Int32) (i_xNow : 0 ≤ xNow.toInt ∧ xNow.toInt ≤ 100000) (i_xTr : 0 ≤ xTr.toInt ∧ xTr.toInt ≤ 20) (i_xMo : 0 ≤ xMo.toInt ∧ xMo.toInt ≤ 10)  : Met l yX8_fault wsX8_fault ({ frames := 0, cells := 0, slots := 0, locals := 0 }) (va_Pc [.ref (ax 0)] (fun U => U.heap.size = sz ∧ va_P (dC, dI) vwCl [((ax 0), .inr (8, [.ref (ax 1), .ref (ax 7), .ref (ax 10), .ref (ax 11), .ref (ax 13), .ref (ax 15), .ref (ax 16), .ref (ax 21), .ref (ax 26), .ref (ax 27), .ref (ax 28), .int xNow, .int xEr, .int xTr, .int xMo, .int xFa, .int xRe]))] U.heap ∧ va_K (dC, dI) vwCl (tyL cA) U ∧ va_D (fun _ => True) [((ax 0), .inr (8, [.ref (ax 1), .ref (ax 7), .ref (ax 10), .ref (ax 11), .ref (ax 13), .ref (ax 15), .ref (ax 16), .ref (ax 21), .ref (ax 26), .ref (ax 27), .ref (ax 28), .int xNow, .int xEr, .int xTr, .int xMo, .int xFa, .int xRe]))] ∧ nw_ok U)) (va_Qi (fun (r : Int32) (_ : Unit) => (r = xFa)) (fun (_ : Unit) (t : State) => va_P (dC, dI) vwCl [((ax 0), .inr (8, [.ref (ax 1), .ref (ax 7), .ref (ax 10), .ref (ax 11), .ref (ax 13), .ref (ax 15), .ref (ax 16), .ref (ax 21), .ref (ax 26), .ref (ax 27), .ref (ax 28), .int xNow, .int xEr, .int xTr, .int xMo, .int xFa, .int xRe]))] t.heap ∧ va_D (va_A [((ax 0), .inr (8, [.ref (ax 1), .ref (ax 7), .ref (ax 10), .ref (ax 11), .ref (ax 13), .ref (ax 15), .ref (ax 16), .ref (ax 21), .ref (ax 26), .ref (ax 27), .ref (ax 28), .int xNow, .int xEr, .int xTr, .int xMo, .int xFa, .int xRe]))] sz) [((ax 0), .inr (8, [.ref (ax 1), .ref (ax 7), .ref (ax 10), .ref (ax 11), .ref (ax 13), .ref (ax 15), .ref (ax 16), .ref (ax 21), .ref (ax 26), .ref (ax 27), .ref (ax 28), .int xNow, .int xEr, .int xTr, .int xMo, .int xFa, .int xRe]))]) (va_A [((ax 0), .inr (8, [.ref (ax 1), .ref (ax 7), .ref (ax 10), .ref (ax 11), .ref (ax 13), .ref (ax 15), .ref (ax 16), .ref (ax 21), .ref (ax 26), .ref (ax 27), .ref (ax 28), .int xNow, .int xEr, .int xTr, .int xMo, .int xFa, .int xRe]))] sz)) 0 0 (va_A [((ax 0), .inr (8, [.ref (ax 1), .ref (ax 7), .ref (ax 10), .ref (ax 11), .ref (ax 13), .ref (ax 15), .ref (ax 16), .ref (ax 21), .ref (ax 26), .ref (ax 27), .ref (ax 28), .int xNow, .int xEr, .int xTr, .int xMo, .int xFa, .int xRe]))] sz) := by
  refine Met.ofW (cc := cX8_fault) (maxL := 1) (ret := (some .int)) (by decide) rfl ?_
  intro p e s m args below meth c s₁ B hml hv
  obtain ⟨rfl, hsz, hP, hK, hD0, hN⟩ := hv
  have hx := B.exec
  have hb := B.bytes
  have hr := B.returns
  have hts := atoms_spec (ws := wsX8_fault) B.pre
  have hown : s.vm.findClass RX8 = some m.cls := findClass_of_methodNamed B.named
  have hlocks := B.notSynchronized
  subst hsz
  have hD := hD0.self (sz := s.heap.size)
  generalize hAe : va_A [((ax 0), .inr (8, [.ref (ax 1), .ref (ax 7), .ref (ax 10), .ref (ax 11), .ref (ax 13), .ref (ax 15), .ref (ax 16), .ref (ax 21), .ref (ax 26), .ref (ax 27), .ref (ax 28), .int xNow, .int xEr, .int xTr, .int xMo, .int xFa, .int xRe]))] s.heap.size = A at hD ⊢
  have hA : ∀ q : Nat, s.heap.size ≤ q → A q := fun q h => by rw [← hAe]; exact Or.inr h
  have hS : va_S A s.heap s.heap [] := va_S.rf
  have hIX8 : ∀ w ∈ u_ws RX8 TX8 17, w ∈ wsX8_fault := by decide +kernel
  have hl := lv_entry ([.ref (ax 0)]) (n := 1) (Nat.le_of_ble_eq_true rfl)
  rw [lg_entry_eq]
  generalize (lg_sl ([.ref (ax 0)]) ++ List.replicate (1 - (lg_sl ([.ref (ax 0)])).length) Slot.unset).toArray = ls at hl ⊢
  have hl : lv_has ls 1 [(0, .ref (ax 0))] := hl
  generalize hQe : MQ below _ _ _ _ _ _ = QQ
  refine lv_aload_n hx hb dX8_fault_0 rfl (lv_at hl 0 rfl) ?_
  refine va_get (D := (dC, dI)) (ci := 8) (v := .int xFa) (C := RX8) (T := TX8) (N := 17) hx hb hts hIX8 hown hK hP 0 rfl rfl 15 (by decide) (hts (.fieldLink RX8 75 "TraitHouse" "latestFault" "I") (by decide +kernel)) (fun _ h9 => h9) rfl dX8_fault_1 ?_
  obtain ⟨hP9, hD9⟩ := va_pd (ws' := [((ax 0), .inr (8, [.ref (ax 1), .ref (ax 7), .ref (ax 10), .ref (ax 11), .ref (ax 13), .ref (ax 15), .ref (ax 16), .ref (ax 21), .ref (ax 26), .ref (ax 27), .ref (ax 28), .int xNow, .int xEr, .int xTr, .int xMo, .int xFa, .int xRe]))]) hP hD [0] (by decide) rfl
  subst hQe
  have hans : (xFa : Int32).toInt = xFa.toInt := rfl
  have hpost : ((xFa : Int32) = xFa) := rfl
  exact W.iret (v := xFa) hx hb hr (fun t ht hW => ⟨⟨xFa, (), rfl, hpost, by rw [ht]; exact hP9, hD9⟩, hS.F ht⟩) hS.2.2 dX8_fault_4

set_option maxHeartbeats 8000000 in
set_option maxRecDepth 100000 in
theorem k_X8_status (l : Launch) (dC : Nat → ClassId) (dI : Nat → Nat → Nat) (cA : Nat → ClassId) (sz : Nat) (ax : Nat → Nat) (xNow : Int32) (xEr : Int32) (xTr : Int32) (xMo : Int32) (xFa : Int32) (xRe : Int32) (i_xNow : 0 ≤ xNow.toInt ∧ xNow.toInt ≤ 100000) (i_xTr : 0 ≤ xTr.toInt ∧ xTr.toInt ≤ 20) (i_xMo : 0 ≤ xMo.toInt ∧ xMo.toInt ≤ 10)  : Met l yX8_status wsX8_status ({ frames := 0, cells := 0, slots := 0, locals := 0 }) (va_Pc [.ref (ax 0)] (fun U => U.heap.size = sz ∧ va_P (dC, dI) vwCl [((ax 0), .inr (8, [.ref (ax 1), .ref (ax 7), .ref (ax 10), .ref (ax 11), .ref (ax 13), .ref (ax 15), .ref (ax 16), .ref (ax 21), .ref (ax 26), .ref (ax 27), .ref (ax 28), .int xNow, .int xEr, .int xTr, .int xMo, .int xFa, .int xRe]))] U.heap ∧ va_K (dC, dI) vwCl (tyL cA) U ∧ va_D (fun _ => True) [((ax 0), .inr (8, [.ref (ax 1), .ref (ax 7), .ref (ax 10), .ref (ax 11), .ref (ax 13), .ref (ax 15), .ref (ax 16), .ref (ax 21), .ref (ax 26), .ref (ax 27), .ref (ax 28), .int xNow, .int xEr, .int xTr, .int xMo, .int xFa, .int xRe]))] ∧ nw_ok U)) (va_Qi (fun (r : Int32) (_ : Unit) => (r = xRe)) (fun (_ : Unit) (t : State) => va_P (dC, dI) vwCl [((ax 0), .inr (8, [.ref (ax 1), .ref (ax 7), .ref (ax 10), .ref (ax 11), .ref (ax 13), .ref (ax 15), .ref (ax 16), .ref (ax 21), .ref (ax 26), .ref (ax 27), .ref (ax 28), .int xNow, .int xEr, .int xTr, .int xMo, .int xFa, .int xRe]))] t.heap ∧ va_D (va_A [((ax 0), .inr (8, [.ref (ax 1), .ref (ax 7), .ref (ax 10), .ref (ax 11), .ref (ax 13), .ref (ax 15), .ref (ax 16), .ref (ax 21), .ref (ax 26), .ref (ax 27), .ref (ax 28), .int xNow, .int xEr, .int xTr, .int xMo, .int xFa, .int xRe]))] sz) [((ax 0), .inr (8, [.ref (ax 1), .ref (ax 7), .ref (ax 10), .ref (ax 11), .ref (ax 13), .ref (ax 15), .ref (ax 16), .ref (ax 21), .ref (ax 26), .ref (ax 27), .ref (ax 28), .int xNow, .int xEr, .int xTr, .int xMo, .int xFa, .int xRe]))]) (va_A [((ax 0), .inr (8, [.ref (ax 1), .ref (ax 7), .ref (ax 10), .ref (ax 11), .ref (ax 13), .ref (ax 15), .ref (ax 16), .ref (ax 21), .ref (ax 26), .ref (ax 27), .ref (ax 28), .int xNow, .int xEr, .int xTr, .int xMo, .int xFa, .int xRe]))] sz)) 0 0 (va_A [((ax 0), .inr (8, [.ref (ax 1), .ref (ax 7), .ref (ax 10), .ref (ax 11), .ref (ax 13), .ref (ax 15), .ref (ax 16), .ref (ax 21), .ref (ax 26), .ref (ax 27), .ref (ax 28), .int xNow, .int xEr, .int xTr, .int xMo, .int xFa, .int xRe]))] sz) := by
  refine Met.ofW (cc := cX8_status) (maxL := 1) (ret := (some .int)) (by decide) rfl ?_
  intro p e s m args below meth c s₁ B hml hv
  obtain ⟨rfl, hsz, hP, hK, hD0, hN⟩ := hv
  have hx := B.exec
  have hb := B.bytes
  have hr := B.returns
  have hts := atoms_spec (ws := wsX8_status) B.pre
  have hown : s.vm.findClass RX8 = some m.cls := findClass_of_methodNamed B.named
  have hlocks := B.notSynchronized
  subst hsz
  have hD := hD0.self (sz := s.heap.size)
  generalize hAe : va_A [((ax 0), .inr (8, [.ref (ax 1), .ref (ax 7), .ref (ax 10), .ref (ax 11), .ref (ax 13), .ref (ax 15), .ref (ax 16), .ref (ax 21), .ref (ax 26), .ref (ax 27), .ref (ax 28), .int xNow, .int xEr, .int xTr, .int xMo, .int xFa, .int xRe]))] s.heap.size = A at hD ⊢
  have hA : ∀ q : Nat, s.heap.size ≤ q → A q := fun q h => by rw [← hAe]; exact Or.inr h
  have hS : va_S A s.heap s.heap [] := va_S.rf
  have hIX8 : ∀ w ∈ u_ws RX8 TX8 17, w ∈ wsX8_status := by decide +kernel
  have hl := lv_entry ([.ref (ax 0)]) (n := 1) (Nat.le_of_ble_eq_true rfl)
  rw [lg_entry_eq]
  generalize (lg_sl ([.ref (ax 0)]) ++ List.replicate (1 - (lg_sl ([.ref (ax 0)])).length) Slot.unset).toArray = ls at hl ⊢
  have hl : lv_has ls 1 [(0, .ref (ax 0))] := hl
  generalize hQe : MQ below _ _ _ _ _ _ = QQ
  refine lv_aload_n hx hb dX8_status_0 rfl (lv_at hl 0 rfl) ?_
  refine va_get (D := (dC, dI)) (ci := 8) (v := .int xRe) (C := RX8) (T := TX8) (N := 17) hx hb hts hIX8 hown hK hP 0 rfl rfl 16 (by decide) (hts (.fieldLink RX8 289 "TraitHouse" "latestRefusal" "I") (by decide +kernel)) (fun _ h9 => h9) rfl dX8_status_1 ?_
  obtain ⟨hP9, hD9⟩ := va_pd (ws' := [((ax 0), .inr (8, [.ref (ax 1), .ref (ax 7), .ref (ax 10), .ref (ax 11), .ref (ax 13), .ref (ax 15), .ref (ax 16), .ref (ax 21), .ref (ax 26), .ref (ax 27), .ref (ax 28), .int xNow, .int xEr, .int xTr, .int xMo, .int xFa, .int xRe]))]) hP hD [0] (by decide) rfl
  subst hQe
  have hans : (xRe : Int32).toInt = xRe.toInt := rfl
  have hpost : ((xRe : Int32) = xRe) := rfl
  exact W.iret (v := xRe) hx hb hr (fun t ht hW => ⟨⟨xRe, (), rfl, hpost, by rw [ht]; exact hP9, hD9⟩, hS.F ht⟩) hS.2.2 dX8_status_4

set_option maxHeartbeats 8000000 in
set_option maxRecDepth 100000 in
theorem k_X8_needed (l : Launch) (dC : Nat → ClassId) (dI : Nat → Nat → Nat) (cA : Nat → ClassId) (sz : Nat) (ax : Nat → Nat) (xNow : Int32) (xEr : Int32) (xTr : Int32) (xMo : Int32) (xFa : Int32) (xRe : Int32) (gMo : Nat → Int32) (a : Int32) (i_xNow : 0 ≤ xNow.toInt ∧ xNow.toInt ≤ 100000) (i_xTr : 0 ≤ xTr.toInt ∧ xTr.toInt ≤ 20) (i_xMo : 0 ≤ xMo.toInt ∧ xMo.toInt ≤ 10)  : Met l yX8_needed wsX8_needed ({ frames := 1, cells := 0, slots := 0, locals := 21 }) (va_Pc [.ref (ax 0), .int a] (fun U => U.heap.size = sz ∧ va_P (dC, dI) vwCl [((ax 0), .inr (8, [.ref (ax 1), .ref (ax 7), .ref (ax 10), .ref (ax 11), .ref (ax 13), .ref (ax 15), .ref (ax 16), .ref (ax 21), .ref (ax 26), .ref (ax 27), .ref (ax 28), .int xNow, .int xEr, .int xTr, .int xMo, .int xFa, .int xRe])), ((ax 26), .inl (cA 0, 10, .inl gMo))] U.heap ∧ va_K (dC, dI) vwCl (tyL cA) U ∧ va_D (fun _ => True) [((ax 0), .inr (8, [.ref (ax 1), .ref (ax 7), .ref (ax 10), .ref (ax 11), .ref (ax 13), .ref (ax 15), .ref (ax 16), .ref (ax 21), .ref (ax 26), .ref (ax 27), .ref (ax 28), .int xNow, .int xEr, .int xTr, .int xMo, .int xFa, .int xRe])), ((ax 26), .inl (cA 0, 10, .inl gMo))] ∧ nw_ok U)) (va_Qi (fun (r : Int32) (_ : Unit) => ((0 ≤ a.toInt ∧ a.toInt < xMo.toInt → r = gMo a.toNatClampNeg) ∧ (¬ (0 ≤ a.toInt ∧ a.toInt < xMo.toInt) → r.toInt = 0))) (fun (_ : Unit) (t : State) => va_P (dC, dI) vwCl [((ax 0), .inr (8, [.ref (ax 1), .ref (ax 7), .ref (ax 10), .ref (ax 11), .ref (ax 13), .ref (ax 15), .ref (ax 16), .ref (ax 21), .ref (ax 26), .ref (ax 27), .ref (ax 28), .int xNow, .int xEr, .int xTr, .int xMo, .int xFa, .int xRe])), ((ax 26), .inl (cA 0, 10, .inl gMo))] t.heap ∧ va_D (va_A [((ax 0), .inr (8, [.ref (ax 1), .ref (ax 7), .ref (ax 10), .ref (ax 11), .ref (ax 13), .ref (ax 15), .ref (ax 16), .ref (ax 21), .ref (ax 26), .ref (ax 27), .ref (ax 28), .int xNow, .int xEr, .int xTr, .int xMo, .int xFa, .int xRe])), ((ax 26), .inl (cA 0, 10, .inl gMo))] sz) [((ax 0), .inr (8, [.ref (ax 1), .ref (ax 7), .ref (ax 10), .ref (ax 11), .ref (ax 13), .ref (ax 15), .ref (ax 16), .ref (ax 21), .ref (ax 26), .ref (ax 27), .ref (ax 28), .int xNow, .int xEr, .int xTr, .int xMo, .int xFa, .int xRe])), ((ax 26), .inl (cA 0, 10, .inl gMo))]) (va_A [((ax 0), .inr (8, [.ref (ax 1), .ref (ax 7), .ref (ax 10), .ref (ax 11), .ref (ax 13), .ref (ax 15), .ref (ax 16), .ref (ax 21), .ref (ax 26), .ref (ax 27), .ref (ax 28), .int xNow, .int xEr, .int xTr, .int xMo, .int xFa, .int xRe])), ((ax 26), .inl (cA 0, 10, .inl gMo))] sz)) 0 0 (va_A [((ax 0), .inr (8, [.ref (ax 1), .ref (ax 7), .ref (ax 10), .ref (ax 11), .ref (ax 13), .ref (ax 15), .ref (ax 16), .ref (ax 21), .ref (ax 26), .ref (ax 27), .ref (ax 28), .int xNow, .int xEr, .int xTr, .int xMo, .int xFa, .int xRe])), ((ax 26), .inl (cA 0, 10, .inl gMo))] sz) := by
  refine Met.ofW (cc := cX8_needed) (maxL := 2) (ret := (some .int)) (by decide) rfl ?_
  intro p e s m args below meth c s₁ B hml hv
  obtain ⟨rfl, hsz, hP, hK, hD0, hN⟩ := hv
  have hx := B.exec
  have hb := B.bytes
  have hr := B.returns
  have hts := atoms_spec (ws := wsX8_needed) B.pre
  have hown : s.vm.findClass RX8 = some m.cls := findClass_of_methodNamed B.named
  have hlocks := B.notSynchronized
  subst hsz
  have hD := hD0.self (sz := s.heap.size)
  generalize hAe : va_A [((ax 0), .inr (8, [.ref (ax 1), .ref (ax 7), .ref (ax 10), .ref (ax 11), .ref (ax 13), .ref (ax 15), .ref (ax 16), .ref (ax 21), .ref (ax 26), .ref (ax 27), .ref (ax 28), .int xNow, .int xEr, .int xTr, .int xMo, .int xFa, .int xRe])), ((ax 26), .inl (cA 0, 10, .inl gMo))] s.heap.size = A at hD ⊢
  have hA : ∀ q : Nat, s.heap.size ≤ q → A q := fun q h => by rw [← hAe]; exact Or.inr h
  have hS : va_S A s.heap s.heap [] := va_S.rf
  have hIX8 : ∀ w ∈ u_ws RX8 TX8 17, w ∈ wsX8_needed := by decide +kernel
  have hl := lv_entry ([.ref (ax 0), .int a]) (n := 2) (Nat.le_of_ble_eq_true rfl)
  rw [lg_entry_eq]
  generalize (lg_sl ([.ref (ax 0), .int a]) ++ List.replicate (2 - (lg_sl ([.ref (ax 0), .int a])).length) Slot.unset).toArray = ls at hl ⊢
  have hl : lv_has ls 2 [(0, .ref (ax 0)), (1, .int a)] := hl
  generalize hQe : MQ below _ _ _ _ _ _ = QQ
  refine lv_aload_n hx hb dX8_needed_0 rfl (lv_at hl 0 rfl) ?_
  refine lv_iload_n hx hb dX8_needed_1 rfl (lv_at hl 1 rfl) ?_
  obtain ⟨hPc, hDc, hFc, hCc⟩ := va_pre (ws' := [((ax 0), .inr (8, [.ref (ax 1), .ref (ax 7), .ref (ax 10), .ref (ax 11), .ref (ax 13), .ref (ax 15), .ref (ax 16), .ref (ax 21), .ref (ax 26), .ref (ax 27), .ref (ax 28), .int xNow, .int xEr, .int xTr, .int xMo, .int xFa, .int xRe]))]) hP hD hS hA [0] (by decide) rfl
  refine va_calli (va_runV (As := [.int a]) (rest := []) ⟨hx, hb, hml, hown, hts⟩ (k_X8_isModel l dC dI cA s.heap.size ax xNow xEr xTr xMo xFa xRe a i_xNow i_xTr i_xMo) (cwV 1 hts gX8_needed_X8_isModel rfl rfl rfl (by decide +kernel) ⟨Nat.le_of_ble_eq_true rfl, Nat.le_of_ble_eq_true rfl⟩) ⟨fun a U g mk q => by obtain ⟨q0, q1, qP, qK, qD, qN⟩ := q; exact ⟨q0, q1, qP, va_K.moved (u := U) (U := U.calling g mk a) (Vm.Alike.refl U.vm) qK, qD, qN.same rfl⟩, va_recv hK hPc (ci := 8) (q0 := 0) rfl rfl, fun U hU hW => ⟨rfl, by rw [hU], by rw [hU]; exact hPc, va_K.moved hW.alike hK, hDc.weaken (fun _ _ _ _ => trivial), hN.warm hW⟩⟩ rfl rfl hl.1 rfl (lv_room (Nat.le_of_ble_eq_true rfl)) dX8_needed_2 ⟨Nat.le_of_ble_eq_true rfl, Nat.le_of_ble_eq_true rfl⟩) hS (fun q _ h => hFc q h) hFc (fun r_1 u_2 t H1 locs ht hvm hw_3 hB hz1 hk1 hS => ?_)
  try dsimp only at hw_3 hB
  have po_4 := hw_3
  clear hw_3
  obtain ⟨hP1, hD1⟩ := hB
  rw [ht] at hP1
  obtain ⟨hP, hD⟩ := va_join (wr := [((ax 26), .inl (cA 0, 10, .inl gMo))]) (w1 := [((ax 0), .inr (8, [.ref (ax 1), .ref (ax 7), .ref (ax 10), .ref (ax 11), .ref (ax 13), .ref (ax 15), .ref (ax 16), .ref (ax 21), .ref (ax 26), .ref (ax 27), .ref (ax 28), .int xNow, .int xEr, .int xTr, .int xMo, .int xFa, .int xRe]))]) hP hD [0] [1] hCc rfl (by decide) (by decide) hk1 hFc hP1 hD1
  clear hz1
  generalize H1 = H at hP hS ⊢
  refine lv_if_eq (tgt := 17) hx hb dX8_needed_5 (by decide) (fun c_5 => ?_) (fun c_5 => ?_)
  · have dc_5 : r_1.toInt = 0 := jI_eq c_5 rfl (by decide)
    refine lv_iconst (v := 0) hx hb dX8_needed_17 (by decide) ?_
    obtain ⟨hP9, hD9⟩ := va_pd (ws' := [((ax 0), .inr (8, [.ref (ax 1), .ref (ax 7), .ref (ax 10), .ref (ax 11), .ref (ax 13), .ref (ax 15), .ref (ax 16), .ref (ax 21), .ref (ax 26), .ref (ax 27), .ref (ax 28), .int xNow, .int xEr, .int xTr, .int xMo, .int xFa, .int xRe])), ((ax 26), .inl (cA 0, 10, .inl gMo))]) hP hD [1, 0] (by decide) rfl
    subst hQe
    have hans : (0 : Int32).toInt = 0 := (by decide)
    have hpost : ((0 ≤ a.toInt ∧ a.toInt < xMo.toInt → (0 : Int32) = gMo a.toNatClampNeg) ∧ (¬ (0 ≤ a.toInt ∧ a.toInt < xMo.toInt) → (0 : Int32).toInt = 0)) := ⟨fun h => by exfalso; omega, fun _ => by omega⟩
    exact W.iret (v := 0) hx hb hr (fun t ht hW => ⟨⟨0, (), rfl, hpost, by rw [ht]; exact hP9, hD9⟩, hS.F ht⟩) hS.2.2 dX8_needed_18
  · have dc_5 : ¬ r_1.toInt = 0 := jI_ne c_5 rfl (by decide)
    refine lv_aload_n hx hb dX8_needed_8 rfl (lv_at hl 0 rfl) ?_
    refine va_get (D := (dC, dI)) (ci := 8) (v := .ref (ax 26)) (C := RX8) (T := TX8) (N := 17) hx hb hts hIX8 hown hK hP 1 rfl rfl 8 (by decide) (hts (.fieldLink RX8 65 "TraitHouse" "models" "[I") (by decide +kernel)) (fun _ h9 => h9) rfl dX8_needed_9 ?_
    refine lv_iload_n hx hb dX8_needed_12 rfl (lv_at hl 1 rfl) ?_
    have h_6 : vp_in a 10 := (vp_in_iff.mpr ⟨by omega, by omega⟩)
    refine va_iald hx hb hK hP 0 0 rfl rfl h_6 dX8_needed_13 ?_
    refine lv_topi (fun x_7 ex_7 => ?_)
    refine lv_goto (tgt := 18) hx hb dX8_needed_14 (by decide) ?_
    obtain ⟨hP9, hD9⟩ := va_pd (ws' := [((ax 0), .inr (8, [.ref (ax 1), .ref (ax 7), .ref (ax 10), .ref (ax 11), .ref (ax 13), .ref (ax 15), .ref (ax 16), .ref (ax 21), .ref (ax 26), .ref (ax 27), .ref (ax 28), .int xNow, .int xEr, .int xTr, .int xMo, .int xFa, .int xRe])), ((ax 26), .inl (cA 0, 10, .inl gMo))]) hP hD [1, 0] (by decide) rfl
    subst hQe
    have hans : (x_7 : Int32).toInt = x_7.toInt := rfl
    have hpost : ((0 ≤ a.toInt ∧ a.toInt < xMo.toInt → (x_7 : Int32) = gMo a.toNatClampNeg) ∧ (¬ (0 ≤ a.toInt ∧ a.toInt < xMo.toInt) → (x_7 : Int32).toInt = 0)) := ⟨fun _ => ex_7, fun h => by exfalso; omega⟩
    exact W.iret (v := x_7) hx hb hr (fun t ht hW => ⟨⟨x_7, (), rfl, hpost, by rw [ht]; exact hP9, hD9⟩, hS.F ht⟩) hS.2.2 dX8_needed_18

set_option maxHeartbeats 8000000 in
set_option maxRecDepth 100000 in
theorem k_X8_end (l : Launch) (dC : Nat → ClassId) (dI : Nat → Nat → Nat) (cA : Nat → ClassId) (sz : Nat) (ax : Nat → Nat) (xNow : Int32) (xEr : Int32) (xTr : Int32) (xMo : Int32) (xFa : Int32) (xRe : Int32) (xTz : Int32) (n : Int32) (i_xNow : 0 ≤ xNow.toInt ∧ xNow.toInt ≤ 100000) (i_xTr : 0 ≤ xTr.toInt ∧ xTr.toInt ≤ 20) (i_xMo : 0 ≤ xMo.toInt ∧ xMo.toInt ≤ 10) (i_xTz : 0 ≤ xTz.toInt ∧ xTz.toInt ≤ 200)  : Met l yX8_end wsX8_end ({ frames := 0, cells := 0, slots := 0, locals := 0 }) (va_Pc [.ref (ax 0), .int n] (fun U => U.heap.size = sz ∧ va_P (dC, dI) vwCl [((ax 0), .inr (8, [.ref (ax 1), .ref (ax 7), .ref (ax 10), .ref (ax 11), .ref (ax 13), .ref (ax 15), .ref (ax 16), .ref (ax 21), .ref (ax 26), .ref (ax 27), .ref (ax 28), .int xNow, .int xEr, .int xTr, .int xMo, .int xFa, .int xRe])), ((ax 11), .inr (5, [.ref (ax 12), .int xTz]))] U.heap ∧ va_K (dC, dI) vwCl (tyL cA) U ∧ va_D (fun _ => True) [((ax 0), .inr (8, [.ref (ax 1), .ref (ax 7), .ref (ax 10), .ref (ax 11), .ref (ax 13), .ref (ax 15), .ref (ax 16), .ref (ax 21), .ref (ax 26), .ref (ax 27), .ref (ax 28), .int xNow, .int xEr, .int xTr, .int xMo, .int xFa, .int xRe])), ((ax 11), .inr (5, [.ref (ax 12), .int xTz]))] ∧ nw_ok U)) (va_Qi (fun (r : Int32) (u : Int32) => (0 ≤ u.toInt ∧ u.toInt ≤ 200) ∧ ((0 ≤ n.toInt ∧ n.toInt ≤ xTz.toInt → r.toInt = n.toInt ∧ u.toInt = n.toInt) ∧ (¬ (0 ≤ n.toInt ∧ n.toInt ≤ xTz.toInt) → r.toInt = (-1) ∧ u.toInt = xTz.toInt))) (fun (u : Int32) (t : State) => va_P (dC, dI) vwCl [((ax 0), .inr (8, [.ref (ax 1), .ref (ax 7), .ref (ax 10), .ref (ax 11), .ref (ax 13), .ref (ax 15), .ref (ax 16), .ref (ax 21), .ref (ax 26), .ref (ax 27), .ref (ax 28), .int xNow, .int xEr, .int xTr, .int xMo, .int xFa, .int xRe])), ((ax 11), .inr (5, [.ref (ax 12), .int u]))] t.heap ∧ va_D (va_A [((ax 0), .inr (8, [.ref (ax 1), .ref (ax 7), .ref (ax 10), .ref (ax 11), .ref (ax 13), .ref (ax 15), .ref (ax 16), .ref (ax 21), .ref (ax 26), .ref (ax 27), .ref (ax 28), .int xNow, .int xEr, .int xTr, .int xMo, .int xFa, .int xRe])), ((ax 11), .inr (5, [.ref (ax 12), .int xTz]))] sz) [((ax 0), .inr (8, [.ref (ax 1), .ref (ax 7), .ref (ax 10), .ref (ax 11), .ref (ax 13), .ref (ax 15), .ref (ax 16), .ref (ax 21), .ref (ax 26), .ref (ax 27), .ref (ax 28), .int xNow, .int xEr, .int xTr, .int xMo, .int xFa, .int xRe])), ((ax 11), .inr (5, [.ref (ax 12), .int u]))]) (va_A [((ax 0), .inr (8, [.ref (ax 1), .ref (ax 7), .ref (ax 10), .ref (ax 11), .ref (ax 13), .ref (ax 15), .ref (ax 16), .ref (ax 21), .ref (ax 26), .ref (ax 27), .ref (ax 28), .int xNow, .int xEr, .int xTr, .int xMo, .int xFa, .int xRe])), ((ax 11), .inr (5, [.ref (ax 12), .int xTz]))] sz)) 0 0 (va_A [((ax 0), .inr (8, [.ref (ax 1), .ref (ax 7), .ref (ax 10), .ref (ax 11), .ref (ax 13), .ref (ax 15), .ref (ax 16), .ref (ax 21), .ref (ax 26), .ref (ax 27), .ref (ax 28), .int xNow, .int xEr, .int xTr, .int xMo, .int xFa, .int xRe])), ((ax 11), .inr (5, [.ref (ax 12), .int xTz]))] sz) := by
  refine Met.ofW (cc := cX8_end) (maxL := 2) (ret := (some .int)) (by decide) rfl ?_
  intro p e s m args below meth c s₁ B hml hv
  obtain ⟨rfl, hsz, hP, hK, hD0, hN⟩ := hv
  have hx := B.exec
  have hb := B.bytes
  have hr := B.returns
  have hts := atoms_spec (ws := wsX8_end) B.pre
  have hown : s.vm.findClass RX8 = some m.cls := findClass_of_methodNamed B.named
  have hlocks := B.notSynchronized
  subst hsz
  have hD := hD0.self (sz := s.heap.size)
  generalize hAe : va_A [((ax 0), .inr (8, [.ref (ax 1), .ref (ax 7), .ref (ax 10), .ref (ax 11), .ref (ax 13), .ref (ax 15), .ref (ax 16), .ref (ax 21), .ref (ax 26), .ref (ax 27), .ref (ax 28), .int xNow, .int xEr, .int xTr, .int xMo, .int xFa, .int xRe])), ((ax 11), .inr (5, [.ref (ax 12), .int xTz]))] s.heap.size = A at hD ⊢
  have hA : ∀ q : Nat, s.heap.size ≤ q → A q := fun q h => by rw [← hAe]; exact Or.inr h
  have hS : va_S A s.heap s.heap [] := va_S.rf
  have hIX5 : ∀ w ∈ u_ws RX5 TX5 2, w ∈ wsX8_end := by decide +kernel
  have hIX8 : ∀ w ∈ u_ws RX8 TX8 17, w ∈ wsX8_end := by decide +kernel
  have hl := lv_entry ([.ref (ax 0), .int n]) (n := 2) (Nat.le_of_ble_eq_true rfl)
  rw [lg_entry_eq]
  generalize (lg_sl ([.ref (ax 0), .int n]) ++ List.replicate (2 - (lg_sl ([.ref (ax 0), .int n])).length) Slot.unset).toArray = ls at hl ⊢
  have hl : lv_has ls 2 [(0, .ref (ax 0)), (1, .int n)] := hl
  generalize hQe : MQ below _ _ _ _ _ _ = QQ
  refine lv_iload_n hx hb dX8_end_0 rfl (lv_at hl 1 rfl) ?_
  refine lv_if_lt (tgt := 15) hx hb dX8_end_1 (by decide) (fun c_1 => ?_) (fun c_1 => ?_)
  · have dc_1 : n.toInt < 0 := jI_lt c_1 rfl (by decide)
    refine lv_iconst (v := (-1)) hx hb dX8_end_15 (by decide) ?_
    obtain ⟨hP9, hD9⟩ := va_pd (ws' := [((ax 0), .inr (8, [.ref (ax 1), .ref (ax 7), .ref (ax 10), .ref (ax 11), .ref (ax 13), .ref (ax 15), .ref (ax 16), .ref (ax 21), .ref (ax 26), .ref (ax 27), .ref (ax 28), .int xNow, .int xEr, .int xTr, .int xMo, .int xFa, .int xRe])), ((ax 11), .inr (5, [.ref (ax 12), .int xTz]))]) hP hD [0, 1] (by decide) rfl
    subst hQe
    have hans : ((-1) : Int32).toInt = (-1) := (by decide)
    have hpost : (0 ≤ xTz.toInt ∧ xTz.toInt ≤ 200) ∧ ((0 ≤ n.toInt ∧ n.toInt ≤ xTz.toInt → ((-1) : Int32).toInt = n.toInt ∧ xTz.toInt = n.toInt) ∧ (¬ (0 ≤ n.toInt ∧ n.toInt ≤ xTz.toInt) → ((-1) : Int32).toInt = (-1) ∧ xTz.toInt = xTz.toInt)) := ⟨i_xTz, by omega⟩
    exact W.iret (v := (-1)) hx hb hr (fun t ht hW => ⟨⟨(-1), xTz, rfl, hpost, by rw [ht]; exact hP9, hD9⟩, hS.F ht⟩) hS.2.2 dX8_end_16
  · have dc_1 : 0 ≤ n.toInt := jI_nlt c_1 rfl (by decide)
    refine lv_iload_n hx hb dX8_end_4 rfl (lv_at hl 1 rfl) ?_
    refine lv_aload_n hx hb dX8_end_5 rfl (lv_at hl 0 rfl) ?_
    refine va_get (D := (dC, dI)) (ci := 8) (v := .ref (ax 11)) (C := RX8) (T := TX8) (N := 17) hx hb hts hIX8 hown hK hP 0 rfl rfl 3 (by decide) (hts (.fieldLink RX8 30 "TraitHouse" "tape" "LTraitHouse$Tape;") (by decide +kernel)) (fun _ h9 => h9) rfl dX8_end_6 ?_
    refine va_getN (D := (dC, dI)) (ci := 5) (v := .int xTz) (C := RX5) (T := TX5) (N := 2) hx hb hts hIX5 hown hK hP 1 rfl rfl 1 (by decide) (va_Nw.use rfl (nw_at hN 10 rfl)) (fun _ h9 => h9) rfl dX8_end_9 ?_
    refine lv_icmp_le (tgt := 17) hx hb dX8_end_12 (by decide) (fun c_2 => ?_) (fun c_2 => ?_)
    · have dc_2 : n.toInt ≤ xTz.toInt := jI_le c_2 rfl rfl
      refine lv_aload_n hx hb dX8_end_17 rfl (lv_at hl 0 rfl) ?_
      refine va_get (D := (dC, dI)) (ci := 8) (v := .ref (ax 11)) (C := RX8) (T := TX8) (N := 17) hx hb hts hIX8 hown hK hP 0 rfl rfl 3 (by decide) (hts (.fieldLink RX8 30 "TraitHouse" "tape" "LTraitHouse$Tape;") (by decide +kernel)) (fun _ h9 => h9) rfl dX8_end_18 ?_
      refine lv_iload_n hx hb dX8_end_21 rfl (lv_at hl 1 rfl) ?_
      refine va_putN (D := (dC, dI)) (ci := 5) (v := .int n) (ty := .int) (C := RX5) (T := TX5) (N := 2) hx hb hts hIX5 tyX5 tyX5_ok nmX5 hown hK hP hD hS 1 rfl rfl 1 (by decide) (va_Nw.use rfl (nw_at hN 10 rfl)) (fun _ h9 => h9) rfl (by decide +kernel) rfl rfl (Nat.le_of_ble_eq_true rfl) dX8_end_22 (fun H locs hP hD hS => ?_)
      replace hP : va_P (dC, dI) vwCl [((ax 0), .inr (8, [.ref (ax 1), .ref (ax 7), .ref (ax 10), .ref (ax 11), .ref (ax 13), .ref (ax 15), .ref (ax 16), .ref (ax 21), .ref (ax 26), .ref (ax 27), .ref (ax 28), .int xNow, .int xEr, .int xTr, .int xMo, .int xFa, .int xRe])), ((ax 11), .inr (5, [.ref (ax 12), .int n]))] H := hP
      replace hD : va_D A [((ax 0), .inr (8, [.ref (ax 1), .ref (ax 7), .ref (ax 10), .ref (ax 11), .ref (ax 13), .ref (ax 15), .ref (ax 16), .ref (ax 21), .ref (ax 26), .ref (ax 27), .ref (ax 28), .int xNow, .int xEr, .int xTr, .int xMo, .int xFa, .int xRe])), ((ax 11), .inr (5, [.ref (ax 12), .int n]))] := hD
      refine lv_iload_n hx hb dX8_end_25 rfl (lv_at hl 1 rfl) ?_
      obtain ⟨hP9, hD9⟩ := va_pd (ws' := [((ax 0), .inr (8, [.ref (ax 1), .ref (ax 7), .ref (ax 10), .ref (ax 11), .ref (ax 13), .ref (ax 15), .ref (ax 16), .ref (ax 21), .ref (ax 26), .ref (ax 27), .ref (ax 28), .int xNow, .int xEr, .int xTr, .int xMo, .int xFa, .int xRe])), ((ax 11), .inr (5, [.ref (ax 12), .int n]))]) hP hD [0, 1] (by decide) rfl
      subst hQe
      have hans : (n : Int32).toInt = n.toInt := rfl
      have hpost : (0 ≤ n.toInt ∧ n.toInt ≤ 200) ∧ ((0 ≤ n.toInt ∧ n.toInt ≤ xTz.toInt → (n : Int32).toInt = n.toInt ∧ n.toInt = n.toInt) ∧ (¬ (0 ≤ n.toInt ∧ n.toInt ≤ xTz.toInt) → (n : Int32).toInt = (-1) ∧ n.toInt = xTz.toInt)) := ⟨by omega, by omega⟩
      exact W.iret (v := n) hx hb hr (fun t ht hW => ⟨⟨n, n, rfl, hpost, by rw [ht]; exact hP9, hD9⟩, hS.F ht⟩) hS.2.2 dX8_end_26
    · have dc_2 : xTz.toInt < n.toInt := jI_nle c_2 rfl rfl
      refine lv_iconst (v := (-1)) hx hb dX8_end_15 (by decide) ?_
      obtain ⟨hP9, hD9⟩ := va_pd (ws' := [((ax 0), .inr (8, [.ref (ax 1), .ref (ax 7), .ref (ax 10), .ref (ax 11), .ref (ax 13), .ref (ax 15), .ref (ax 16), .ref (ax 21), .ref (ax 26), .ref (ax 27), .ref (ax 28), .int xNow, .int xEr, .int xTr, .int xMo, .int xFa, .int xRe])), ((ax 11), .inr (5, [.ref (ax 12), .int xTz]))]) hP hD [0, 1] (by decide) rfl
      subst hQe
      have hans : ((-1) : Int32).toInt = (-1) := (by decide)
      have hpost : (0 ≤ xTz.toInt ∧ xTz.toInt ≤ 200) ∧ ((0 ≤ n.toInt ∧ n.toInt ≤ xTz.toInt → ((-1) : Int32).toInt = n.toInt ∧ xTz.toInt = n.toInt) ∧ (¬ (0 ≤ n.toInt ∧ n.toInt ≤ xTz.toInt) → ((-1) : Int32).toInt = (-1) ∧ xTz.toInt = xTz.toInt)) := ⟨i_xTz, by omega⟩
      exact W.iret (v := (-1)) hx hb hr (fun t ht hW => ⟨⟨(-1), xTz, rfl, hpost, by rw [ht]; exact hP9, hD9⟩, hS.F ht⟩) hS.2.2 dX8_end_16

set_option maxHeartbeats 8000000 in
set_option maxRecDepth 100000 in
theorem k_X8_count (l : Launch) (dC : Nat → ClassId) (dI : Nat → Nat → Nat) (cA : Nat → ClassId) (sz : Nat) (ax : Nat → Nat) (xNow : Int32) (xEr : Int32) (xTr : Int32) (xMo : Int32) (xFa : Int32) (xRe : Int32) (xTz : Int32) (xPz : Int32) (xMz : Int32) (xRz : Int32) (xRn : Int32) (a : Int32) (i_xNow : 0 ≤ xNow.toInt ∧ xNow.toInt ≤ 100000) (i_xTr : 0 ≤ xTr.toInt ∧ xTr.toInt ≤ 20) (i_xMo : 0 ≤ xMo.toInt ∧ xMo.toInt ≤ 10) (i_xTz : 0 ≤ xTz.toInt ∧ xTz.toInt ≤ 200) (i_xPz : 0 ≤ xPz.toInt ∧ xPz.toInt ≤ 2000) (i_xRz : 0 ≤ xRz.toInt ∧ xRz.toInt ≤ 400)  : Met l yX8_count wsX8_count ({ frames := 0, cells := 0, slots := 0, locals := 0 }) (va_Pc [.ref (ax 0), .int a] (fun U => U.heap.size = sz ∧ va_P (dC, dI) vwCl [((ax 0), .inr (8, [.ref (ax 1), .ref (ax 7), .ref (ax 10), .ref (ax 11), .ref (ax 13), .ref (ax 15), .ref (ax 16), .ref (ax 21), .ref (ax 26), .ref (ax 27), .ref (ax 28), .int xNow, .int xEr, .int xTr, .int xMo, .int xFa, .int xRe])), ((ax 11), .inr (5, [.ref (ax 12), .int xTz])), ((ax 21), .inr (1, [.ref (ax 22), .ref (ax 23), .ref (ax 24), .ref (ax 25), .int xPz])), ((ax 7), .inr (0, [.ref (ax 8), .ref (ax 9), .int xMz])), ((ax 1), .inr (3, [.ref (ax 2), .ref (ax 3), .ref (ax 4), .ref (ax 5), .ref (ax 6), .int xRz, .int xRn]))] U.heap ∧ va_K (dC, dI) vwCl (tyL cA) U ∧ va_D (fun _ => True) [((ax 0), .inr (8, [.ref (ax 1), .ref (ax 7), .ref (ax 10), .ref (ax 11), .ref (ax 13), .ref (ax 15), .ref (ax 16), .ref (ax 21), .ref (ax 26), .ref (ax 27), .ref (ax 28), .int xNow, .int xEr, .int xTr, .int xMo, .int xFa, .int xRe])), ((ax 11), .inr (5, [.ref (ax 12), .int xTz])), ((ax 21), .inr (1, [.ref (ax 22), .ref (ax 23), .ref (ax 24), .ref (ax 25), .int xPz])), ((ax 7), .inr (0, [.ref (ax 8), .ref (ax 9), .int xMz])), ((ax 1), .inr (3, [.ref (ax 2), .ref (ax 3), .ref (ax 4), .ref (ax 5), .ref (ax 6), .int xRz, .int xRn]))] ∧ nw_ok U)) (va_Qi (fun (r : Int32) (_ : Unit) => True) (fun (_ : Unit) (t : State) => va_P (dC, dI) vwCl [((ax 0), .inr (8, [.ref (ax 1), .ref (ax 7), .ref (ax 10), .ref (ax 11), .ref (ax 13), .ref (ax 15), .ref (ax 16), .ref (ax 21), .ref (ax 26), .ref (ax 27), .ref (ax 28), .int xNow, .int xEr, .int xTr, .int xMo, .int xFa, .int xRe])), ((ax 11), .inr (5, [.ref (ax 12), .int xTz])), ((ax 21), .inr (1, [.ref (ax 22), .ref (ax 23), .ref (ax 24), .ref (ax 25), .int xPz])), ((ax 7), .inr (0, [.ref (ax 8), .ref (ax 9), .int xMz])), ((ax 1), .inr (3, [.ref (ax 2), .ref (ax 3), .ref (ax 4), .ref (ax 5), .ref (ax 6), .int xRz, .int xRn]))] t.heap ∧ va_D (va_A [((ax 0), .inr (8, [.ref (ax 1), .ref (ax 7), .ref (ax 10), .ref (ax 11), .ref (ax 13), .ref (ax 15), .ref (ax 16), .ref (ax 21), .ref (ax 26), .ref (ax 27), .ref (ax 28), .int xNow, .int xEr, .int xTr, .int xMo, .int xFa, .int xRe])), ((ax 11), .inr (5, [.ref (ax 12), .int xTz])), ((ax 21), .inr (1, [.ref (ax 22), .ref (ax 23), .ref (ax 24), .ref (ax 25), .int xPz])), ((ax 7), .inr (0, [.ref (ax 8), .ref (ax 9), .int xMz])), ((ax 1), .inr (3, [.ref (ax 2), .ref (ax 3), .ref (ax 4), .ref (ax 5), .ref (ax 6), .int xRz, .int xRn]))] sz) [((ax 0), .inr (8, [.ref (ax 1), .ref (ax 7), .ref (ax 10), .ref (ax 11), .ref (ax 13), .ref (ax 15), .ref (ax 16), .ref (ax 21), .ref (ax 26), .ref (ax 27), .ref (ax 28), .int xNow, .int xEr, .int xTr, .int xMo, .int xFa, .int xRe])), ((ax 11), .inr (5, [.ref (ax 12), .int xTz])), ((ax 21), .inr (1, [.ref (ax 22), .ref (ax 23), .ref (ax 24), .ref (ax 25), .int xPz])), ((ax 7), .inr (0, [.ref (ax 8), .ref (ax 9), .int xMz])), ((ax 1), .inr (3, [.ref (ax 2), .ref (ax 3), .ref (ax 4), .ref (ax 5), .ref (ax 6), .int xRz, .int xRn]))]) (va_A [((ax 0), .inr (8, [.ref (ax 1), .ref (ax 7), .ref (ax 10), .ref (ax 11), .ref (ax 13), .ref (ax 15), .ref (ax 16), .ref (ax 21), .ref (ax 26), .ref (ax 27), .ref (ax 28), .int xNow, .int xEr, .int xTr, .int xMo, .int xFa, .int xRe])), ((ax 11), .inr (5, [.ref (ax 12), .int xTz])), ((ax 21), .inr (1, [.ref (ax 22), .ref (ax 23), .ref (ax 24), .ref (ax 25), .int xPz])), ((ax 7), .inr (0, [.ref (ax 8), .ref (ax 9), .int xMz])), ((ax 1), .inr (3, [.ref (ax 2), .ref (ax 3), .ref (ax 4), .ref (ax 5), .ref (ax 6), .int xRz, .int xRn]))] sz)) 0 0 (va_A [((ax 0), .inr (8, [.ref (ax 1), .ref (ax 7), .ref (ax 10), .ref (ax 11), .ref (ax 13), .ref (ax 15), .ref (ax 16), .ref (ax 21), .ref (ax 26), .ref (ax 27), .ref (ax 28), .int xNow, .int xEr, .int xTr, .int xMo, .int xFa, .int xRe])), ((ax 11), .inr (5, [.ref (ax 12), .int xTz])), ((ax 21), .inr (1, [.ref (ax 22), .ref (ax 23), .ref (ax 24), .ref (ax 25), .int xPz])), ((ax 7), .inr (0, [.ref (ax 8), .ref (ax 9), .int xMz])), ((ax 1), .inr (3, [.ref (ax 2), .ref (ax 3), .ref (ax 4), .ref (ax 5), .ref (ax 6), .int xRz, .int xRn]))] sz) := by
  refine Met.ofW (cc := cX8_count) (maxL := 2) (ret := (some .int)) (by decide) rfl ?_
  intro p e s m args below meth c s₁ B hml hv
  obtain ⟨rfl, hsz, hP, hK, hD0, hN⟩ := hv
  have hx := B.exec
  have hb := B.bytes
  have hr := B.returns
  have hts := atoms_spec (ws := wsX8_count) B.pre
  have hown : s.vm.findClass RX8 = some m.cls := findClass_of_methodNamed B.named
  have hlocks := B.notSynchronized
  subst hsz
  have hD := hD0.self (sz := s.heap.size)
  generalize hAe : va_A [((ax 0), .inr (8, [.ref (ax 1), .ref (ax 7), .ref (ax 10), .ref (ax 11), .ref (ax 13), .ref (ax 15), .ref (ax 16), .ref (ax 21), .ref (ax 26), .ref (ax 27), .ref (ax 28), .int xNow, .int xEr, .int xTr, .int xMo, .int xFa, .int xRe])), ((ax 11), .inr (5, [.ref (ax 12), .int xTz])), ((ax 21), .inr (1, [.ref (ax 22), .ref (ax 23), .ref (ax 24), .ref (ax 25), .int xPz])), ((ax 7), .inr (0, [.ref (ax 8), .ref (ax 9), .int xMz])), ((ax 1), .inr (3, [.ref (ax 2), .ref (ax 3), .ref (ax 4), .ref (ax 5), .ref (ax 6), .int xRz, .int xRn]))] s.heap.size = A at hD ⊢
  have hA : ∀ q : Nat, s.heap.size ≤ q → A q := fun q h => by rw [← hAe]; exact Or.inr h
  have hS : va_S A s.heap s.heap [] := va_S.rf
  have hIX0 : ∀ w ∈ u_ws RX0 TX0 3, w ∈ wsX8_count := by decide +kernel
  have hIX1 : ∀ w ∈ u_ws RX1 TX1 5, w ∈ wsX8_count := by decide +kernel
  have hIX3 : ∀ w ∈ u_ws RX3 TX3 7, w ∈ wsX8_count := by decide +kernel
  have hIX5 : ∀ w ∈ u_ws RX5 TX5 2, w ∈ wsX8_count := by decide +kernel
  have hIX8 : ∀ w ∈ u_ws RX8 TX8 17, w ∈ wsX8_count := by decide +kernel
  have hl := lv_entry ([.ref (ax 0), .int a]) (n := 2) (Nat.le_of_ble_eq_true rfl)
  rw [lg_entry_eq]
  generalize (lg_sl ([.ref (ax 0), .int a]) ++ List.replicate (2 - (lg_sl ([.ref (ax 0), .int a])).length) Slot.unset).toArray = ls at hl ⊢
  have hl : lv_has ls 2 [(0, .ref (ax 0)), (1, .int a)] := hl
  generalize hQe : MQ below _ _ _ _ _ _ = QQ
  refine lv_iload_n hx hb dX8_count_0 rfl (lv_at hl 1 rfl) ?_
  rcases (jI_range a 0 7 : (a.toInt < 0 ∨ 7 < a.toInt) ∨ (0 ≤ a.toInt ∧ a.toInt ≤ 7)) with hsw | hsw
  · refine lv_tableOut (tgt := 100) hx hb dX8_count_1 hsw (by decide) ?_
    refine lv_iconst (v := (-1)) hx hb dX8_count_100 (by decide) ?_
    obtain ⟨hP9, hD9⟩ := va_pd (ws' := [((ax 0), .inr (8, [.ref (ax 1), .ref (ax 7), .ref (ax 10), .ref (ax 11), .ref (ax 13), .ref (ax 15), .ref (ax 16), .ref (ax 21), .ref (ax 26), .ref (ax 27), .ref (ax 28), .int xNow, .int xEr, .int xTr, .int xMo, .int xFa, .int xRe])), ((ax 11), .inr (5, [.ref (ax 12), .int xTz])), ((ax 21), .inr (1, [.ref (ax 22), .ref (ax 23), .ref (ax 24), .ref (ax 25), .int xPz])), ((ax 7), .inr (0, [.ref (ax 8), .ref (ax 9), .int xMz])), ((ax 1), .inr (3, [.ref (ax 2), .ref (ax 3), .ref (ax 4), .ref (ax 5), .ref (ax 6), .int xRz, .int xRn]))]) hP hD [0, 1, 2, 3, 4] (by decide) rfl
    subst hQe
    have hans : ((-1) : Int32).toInt = (-1) := (by decide)
    exact W.iret (v := (-1)) hx hb hr (fun t ht hW => ⟨⟨(-1), (), rfl, trivial, by rw [ht]; exact hP9, hD9⟩, hS.F ht⟩) hS.2.2 dX8_count_101
  · rcases (show a.toInt = 0 ∨ a.toInt = 1 ∨ a.toInt = 2 ∨ a.toInt = 3 ∨ a.toInt = 4 ∨ a.toInt = 5 ∨ a.toInt = 6 ∨ a.toInt = 7 by omega) with hsw | hsw | hsw | hsw | hsw | hsw | hsw | hsw
    · refine lv_tableIn (off := 47) (tgt := 48) hx hb dX8_count_1 (by omega) (by omega) (by rw [hsw]; rfl) (by decide) ?_
      refine lv_aload_n hx hb dX8_count_48 rfl (lv_at hl 0 rfl) ?_
      refine va_get (D := (dC, dI)) (ci := 8) (v := .int xNow) (C := RX8) (T := TX8) (N := 17) hx hb hts hIX8 hown hK hP 0 rfl rfl 11 (by decide) (hts (.fieldLink RX8 83 "TraitHouse" "now" "I") (by decide +kernel)) (fun _ h9 => h9) rfl dX8_count_49 ?_
      obtain ⟨hP9, hD9⟩ := va_pd (ws' := [((ax 0), .inr (8, [.ref (ax 1), .ref (ax 7), .ref (ax 10), .ref (ax 11), .ref (ax 13), .ref (ax 15), .ref (ax 16), .ref (ax 21), .ref (ax 26), .ref (ax 27), .ref (ax 28), .int xNow, .int xEr, .int xTr, .int xMo, .int xFa, .int xRe])), ((ax 11), .inr (5, [.ref (ax 12), .int xTz])), ((ax 21), .inr (1, [.ref (ax 22), .ref (ax 23), .ref (ax 24), .ref (ax 25), .int xPz])), ((ax 7), .inr (0, [.ref (ax 8), .ref (ax 9), .int xMz])), ((ax 1), .inr (3, [.ref (ax 2), .ref (ax 3), .ref (ax 4), .ref (ax 5), .ref (ax 6), .int xRz, .int xRn]))]) hP hD [0, 1, 2, 3, 4] (by decide) rfl
      subst hQe
      have hans : (xNow : Int32).toInt = xNow.toInt := rfl
      exact W.iret (v := xNow) hx hb hr (fun t ht hW => ⟨⟨xNow, (), rfl, trivial, by rw [ht]; exact hP9, hD9⟩, hS.F ht⟩) hS.2.2 dX8_count_52
    · refine lv_tableIn (off := 52) (tgt := 53) hx hb dX8_count_1 (by omega) (by omega) (by rw [hsw]; rfl) (by decide) ?_
      refine lv_aload_n hx hb dX8_count_53 rfl (lv_at hl 0 rfl) ?_
      refine va_get (D := (dC, dI)) (ci := 8) (v := .ref (ax 1)) (C := RX8) (T := TX8) (N := 17) hx hb hts hIX8 hown hK hP 0 rfl rfl 0 (by decide) (hts (.fieldLink RX8 10 "TraitHouse" "rows" "LTraitHouse$Rows;") (by decide +kernel)) (fun _ h9 => h9) rfl dX8_count_54 ?_
      refine va_getN (D := (dC, dI)) (ci := 3) (v := .int xRz) (C := RX3) (T := TX3) (N := 7) hx hb hts hIX3 hown hK hP 4 rfl rfl 5 (by decide) (va_Nw.use rfl (nw_at hN 6 rfl)) (fun _ h9 => h9) rfl dX8_count_57 ?_
      obtain ⟨hP9, hD9⟩ := va_pd (ws' := [((ax 0), .inr (8, [.ref (ax 1), .ref (ax 7), .ref (ax 10), .ref (ax 11), .ref (ax 13), .ref (ax 15), .ref (ax 16), .ref (ax 21), .ref (ax 26), .ref (ax 27), .ref (ax 28), .int xNow, .int xEr, .int xTr, .int xMo, .int xFa, .int xRe])), ((ax 11), .inr (5, [.ref (ax 12), .int xTz])), ((ax 21), .inr (1, [.ref (ax 22), .ref (ax 23), .ref (ax 24), .ref (ax 25), .int xPz])), ((ax 7), .inr (0, [.ref (ax 8), .ref (ax 9), .int xMz])), ((ax 1), .inr (3, [.ref (ax 2), .ref (ax 3), .ref (ax 4), .ref (ax 5), .ref (ax 6), .int xRz, .int xRn]))]) hP hD [0, 1, 2, 3, 4] (by decide) rfl
      subst hQe
      have hans : (xRz : Int32).toInt = xRz.toInt := rfl
      exact W.iret (v := xRz) hx hb hr (fun t ht hW => ⟨⟨xRz, (), rfl, trivial, by rw [ht]; exact hP9, hD9⟩, hS.F ht⟩) hS.2.2 dX8_count_60
    · refine lv_tableIn (off := 60) (tgt := 61) hx hb dX8_count_1 (by omega) (by omega) (by rw [hsw]; rfl) (by decide) ?_
      refine lv_aload_n hx hb dX8_count_61 rfl (lv_at hl 0 rfl) ?_
      refine va_get (D := (dC, dI)) (ci := 8) (v := .ref (ax 7)) (C := RX8) (T := TX8) (N := 17) hx hb hts hIX8 hown hK hP 0 rfl rfl 1 (by decide) (hts (.fieldLink RX8 19 "TraitHouse" "merges" "LTraitHouse$Merges;") (by decide +kernel)) (fun _ h9 => h9) rfl dX8_count_62 ?_
      refine va_getN (D := (dC, dI)) (ci := 0) (v := .int xMz) (C := RX0) (T := TX0) (N := 3) hx hb hts hIX0 hown hK hP 3 rfl rfl 2 (by decide) (va_Nw.use rfl (nw_at hN 7 rfl)) (fun _ h9 => h9) rfl dX8_count_65 ?_
      obtain ⟨hP9, hD9⟩ := va_pd (ws' := [((ax 0), .inr (8, [.ref (ax 1), .ref (ax 7), .ref (ax 10), .ref (ax 11), .ref (ax 13), .ref (ax 15), .ref (ax 16), .ref (ax 21), .ref (ax 26), .ref (ax 27), .ref (ax 28), .int xNow, .int xEr, .int xTr, .int xMo, .int xFa, .int xRe])), ((ax 11), .inr (5, [.ref (ax 12), .int xTz])), ((ax 21), .inr (1, [.ref (ax 22), .ref (ax 23), .ref (ax 24), .ref (ax 25), .int xPz])), ((ax 7), .inr (0, [.ref (ax 8), .ref (ax 9), .int xMz])), ((ax 1), .inr (3, [.ref (ax 2), .ref (ax 3), .ref (ax 4), .ref (ax 5), .ref (ax 6), .int xRz, .int xRn]))]) hP hD [0, 1, 2, 3, 4] (by decide) rfl
      subst hQe
      have hans : (xMz : Int32).toInt = xMz.toInt := rfl
      exact W.iret (v := xMz) hx hb hr (fun t ht hW => ⟨⟨xMz, (), rfl, trivial, by rw [ht]; exact hP9, hD9⟩, hS.F ht⟩) hS.2.2 dX8_count_68
    · refine lv_tableIn (off := 68) (tgt := 69) hx hb dX8_count_1 (by omega) (by omega) (by rw [hsw]; rfl) (by decide) ?_
      refine lv_aload_n hx hb dX8_count_69 rfl (lv_at hl 0 rfl) ?_
      refine va_get (D := (dC, dI)) (ci := 8) (v := .int xEr) (C := RX8) (T := TX8) (N := 17) hx hb hts hIX8 hown hK hP 0 rfl rfl 12 (by decide) (hts (.fieldLink RX8 127 "TraitHouse" "erasedPeople" "I") (by decide +kernel)) (fun _ h9 => h9) rfl dX8_count_70 ?_
      obtain ⟨hP9, hD9⟩ := va_pd (ws' := [((ax 0), .inr (8, [.ref (ax 1), .ref (ax 7), .ref (ax 10), .ref (ax 11), .ref (ax 13), .ref (ax 15), .ref (ax 16), .ref (ax 21), .ref (ax 26), .ref (ax 27), .ref (ax 28), .int xNow, .int xEr, .int xTr, .int xMo, .int xFa, .int xRe])), ((ax 11), .inr (5, [.ref (ax 12), .int xTz])), ((ax 21), .inr (1, [.ref (ax 22), .ref (ax 23), .ref (ax 24), .ref (ax 25), .int xPz])), ((ax 7), .inr (0, [.ref (ax 8), .ref (ax 9), .int xMz])), ((ax 1), .inr (3, [.ref (ax 2), .ref (ax 3), .ref (ax 4), .ref (ax 5), .ref (ax 6), .int xRz, .int xRn]))]) hP hD [0, 1, 2, 3, 4] (by decide) rfl
      subst hQe
      have hans : (xEr : Int32).toInt = xEr.toInt := rfl
      exact W.iret (v := xEr) hx hb hr (fun t ht hW => ⟨⟨xEr, (), rfl, trivial, by rw [ht]; exact hP9, hD9⟩, hS.F ht⟩) hS.2.2 dX8_count_73
    · refine lv_tableIn (off := 73) (tgt := 74) hx hb dX8_count_1 (by omega) (by omega) (by rw [hsw]; rfl) (by decide) ?_
      refine lv_aload_n hx hb dX8_count_74 rfl (lv_at hl 0 rfl) ?_
      refine va_get (D := (dC, dI)) (ci := 8) (v := .int xTr) (C := RX8) (T := TX8) (N := 17) hx hb hts hIX8 hown hK hP 0 rfl rfl 13 (by decide) (hts (.fieldLink RX8 148 "TraitHouse" "traitsThere" "I") (by decide +kernel)) (fun _ h9 => h9) rfl dX8_count_75 ?_
      obtain ⟨hP9, hD9⟩ := va_pd (ws' := [((ax 0), .inr (8, [.ref (ax 1), .ref (ax 7), .ref (ax 10), .ref (ax 11), .ref (ax 13), .ref (ax 15), .ref (ax 16), .ref (ax 21), .ref (ax 26), .ref (ax 27), .ref (ax 28), .int xNow, .int xEr, .int xTr, .int xMo, .int xFa, .int xRe])), ((ax 11), .inr (5, [.ref (ax 12), .int xTz])), ((ax 21), .inr (1, [.ref (ax 22), .ref (ax 23), .ref (ax 24), .ref (ax 25), .int xPz])), ((ax 7), .inr (0, [.ref (ax 8), .ref (ax 9), .int xMz])), ((ax 1), .inr (3, [.ref (ax 2), .ref (ax 3), .ref (ax 4), .ref (ax 5), .ref (ax 6), .int xRz, .int xRn]))]) hP hD [0, 1, 2, 3, 4] (by decide) rfl
      subst hQe
      have hans : (xTr : Int32).toInt = xTr.toInt := rfl
      exact W.iret (v := xTr) hx hb hr (fun t ht hW => ⟨⟨xTr, (), rfl, trivial, by rw [ht]; exact hP9, hD9⟩, hS.F ht⟩) hS.2.2 dX8_count_78
    · refine lv_tableIn (off := 78) (tgt := 79) hx hb dX8_count_1 (by omega) (by omega) (by rw [hsw]; rfl) (by decide) ?_
      refine lv_aload_n hx hb dX8_count_79 rfl (lv_at hl 0 rfl) ?_
      refine va_get (D := (dC, dI)) (ci := 8) (v := .int xMo) (C := RX8) (T := TX8) (N := 17) hx hb hts hIX8 hown hK hP 0 rfl rfl 14 (by decide) (hts (.fieldLink RX8 250 "TraitHouse" "modelsThere" "I") (by decide +kernel)) (fun _ h9 => h9) rfl dX8_count_80 ?_
      obtain ⟨hP9, hD9⟩ := va_pd (ws' := [((ax 0), .inr (8, [.ref (ax 1), .ref (ax 7), .ref (ax 10), .ref (ax 11), .ref (ax 13), .ref (ax 15), .ref (ax 16), .ref (ax 21), .ref (ax 26), .ref (ax 27), .ref (ax 28), .int xNow, .int xEr, .int xTr, .int xMo, .int xFa, .int xRe])), ((ax 11), .inr (5, [.ref (ax 12), .int xTz])), ((ax 21), .inr (1, [.ref (ax 22), .ref (ax 23), .ref (ax 24), .ref (ax 25), .int xPz])), ((ax 7), .inr (0, [.ref (ax 8), .ref (ax 9), .int xMz])), ((ax 1), .inr (3, [.ref (ax 2), .ref (ax 3), .ref (ax 4), .ref (ax 5), .ref (ax 6), .int xRz, .int xRn]))]) hP hD [0, 1, 2, 3, 4] (by decide) rfl
      subst hQe
      have hans : (xMo : Int32).toInt = xMo.toInt := rfl
      exact W.iret (v := xMo) hx hb hr (fun t ht hW => ⟨⟨xMo, (), rfl, trivial, by rw [ht]; exact hP9, hD9⟩, hS.F ht⟩) hS.2.2 dX8_count_83
    · refine lv_tableIn (off := 83) (tgt := 84) hx hb dX8_count_1 (by omega) (by omega) (by rw [hsw]; rfl) (by decide) ?_
      refine lv_aload_n hx hb dX8_count_84 rfl (lv_at hl 0 rfl) ?_
      refine va_get (D := (dC, dI)) (ci := 8) (v := .ref (ax 21)) (C := RX8) (T := TX8) (N := 17) hx hb hts hIX8 hown hK hP 0 rfl rfl 7 (by decide) (hts (.fieldLink RX8 61 "TraitHouse" "places" "LTraitHouse$Places;") (by decide +kernel)) (fun _ h9 => h9) rfl dX8_count_85 ?_
      refine va_getN (D := (dC, dI)) (ci := 1) (v := .int xPz) (C := RX1) (T := TX1) (N := 5) hx hb hts hIX1 hown hK hP 2 rfl rfl 4 (by decide) (va_Nw.use rfl (nw_at hN 16 rfl)) (fun _ h9 => h9) rfl dX8_count_88 ?_
      obtain ⟨hP9, hD9⟩ := va_pd (ws' := [((ax 0), .inr (8, [.ref (ax 1), .ref (ax 7), .ref (ax 10), .ref (ax 11), .ref (ax 13), .ref (ax 15), .ref (ax 16), .ref (ax 21), .ref (ax 26), .ref (ax 27), .ref (ax 28), .int xNow, .int xEr, .int xTr, .int xMo, .int xFa, .int xRe])), ((ax 11), .inr (5, [.ref (ax 12), .int xTz])), ((ax 21), .inr (1, [.ref (ax 22), .ref (ax 23), .ref (ax 24), .ref (ax 25), .int xPz])), ((ax 7), .inr (0, [.ref (ax 8), .ref (ax 9), .int xMz])), ((ax 1), .inr (3, [.ref (ax 2), .ref (ax 3), .ref (ax 4), .ref (ax 5), .ref (ax 6), .int xRz, .int xRn]))]) hP hD [0, 1, 2, 3, 4] (by decide) rfl
      subst hQe
      have hans : (xPz : Int32).toInt = xPz.toInt := rfl
      exact W.iret (v := xPz) hx hb hr (fun t ht hW => ⟨⟨xPz, (), rfl, trivial, by rw [ht]; exact hP9, hD9⟩, hS.F ht⟩) hS.2.2 dX8_count_91
    · refine lv_tableIn (off := 91) (tgt := 92) hx hb dX8_count_1 (by omega) (by omega) (by rw [hsw]; rfl) (by decide) ?_
      refine lv_aload_n hx hb dX8_count_92 rfl (lv_at hl 0 rfl) ?_
      refine va_get (D := (dC, dI)) (ci := 8) (v := .ref (ax 11)) (C := RX8) (T := TX8) (N := 17) hx hb hts hIX8 hown hK hP 0 rfl rfl 3 (by decide) (hts (.fieldLink RX8 30 "TraitHouse" "tape" "LTraitHouse$Tape;") (by decide +kernel)) (fun _ h9 => h9) rfl dX8_count_93 ?_
      refine va_getN (D := (dC, dI)) (ci := 5) (v := .int xTz) (C := RX5) (T := TX5) (N := 2) hx hb hts hIX5 hown hK hP 1 rfl rfl 1 (by decide) (va_Nw.use rfl (nw_at hN 10 rfl)) (fun _ h9 => h9) rfl dX8_count_96 ?_
      obtain ⟨hP9, hD9⟩ := va_pd (ws' := [((ax 0), .inr (8, [.ref (ax 1), .ref (ax 7), .ref (ax 10), .ref (ax 11), .ref (ax 13), .ref (ax 15), .ref (ax 16), .ref (ax 21), .ref (ax 26), .ref (ax 27), .ref (ax 28), .int xNow, .int xEr, .int xTr, .int xMo, .int xFa, .int xRe])), ((ax 11), .inr (5, [.ref (ax 12), .int xTz])), ((ax 21), .inr (1, [.ref (ax 22), .ref (ax 23), .ref (ax 24), .ref (ax 25), .int xPz])), ((ax 7), .inr (0, [.ref (ax 8), .ref (ax 9), .int xMz])), ((ax 1), .inr (3, [.ref (ax 2), .ref (ax 3), .ref (ax 4), .ref (ax 5), .ref (ax 6), .int xRz, .int xRn]))]) hP hD [0, 1, 2, 3, 4] (by decide) rfl
      subst hQe
      have hans : (xTz : Int32).toInt = xTz.toInt := rfl
      exact W.iret (v := xTz) hx hb hr (fun t ht hW => ⟨⟨xTz, (), rfl, trivial, by rw [ht]; exact hP9, hD9⟩, hS.F ht⟩) hS.2.2 dX8_count_99
