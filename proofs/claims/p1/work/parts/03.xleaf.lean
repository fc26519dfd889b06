theorem dX8_isMoment_0 : decode cX8_isMoment 0 = .ok (.iload_n 0, 1) := by decide +kernel
theorem dX8_isMoment_1 : decode cX8_isMoment 1 = .ok (.ifCond .lt 13, 3) := by decide +kernel
theorem dX8_isMoment_14 : decode cX8_isMoment 14 = .ok (.iconst 0, 1) := by decide +kernel
theorem dX8_isMoment_15 : decode cX8_isMoment 15 = .ok (.ireturn, 1) := by decide +kernel
theorem dX8_isMoment_4 : decode cX8_isMoment 4 = .ok (.iload_n 0, 1) := by decide +kernel
theorem dX8_isMoment_5 : decode cX8_isMoment 5 = .ok (.ldc 117, 2) := by decide +kernel
theorem dX8_isMoment_7 : decode cX8_isMoment 7 = .ok (.if_icmp .gt 7, 3) := by decide +kernel
theorem dX8_isMoment_10 : decode cX8_isMoment 10 = .ok (.iconst 1, 1) := by decide +kernel
theorem dX8_isMoment_11 : decode cX8_isMoment 11 = .ok (.goto 4, 3) := by decide +kernel
theorem dX8_isPerson_0 : decode cX8_isPerson 0 = .ok (.iload_n 0, 1) := by decide +kernel
theorem dX8_isPerson_1 : decode cX8_isPerson 1 = .ok (.ifCond .lt 13, 3) := by decide +kernel
theorem dX8_isPerson_14 : decode cX8_isPerson 14 = .ok (.iconst 0, 1) := by decide +kernel
theorem dX8_isPerson_15 : decode cX8_isPerson 15 = .ok (.ireturn, 1) := by decide +kernel
theorem dX8_isPerson_4 : decode cX8_isPerson 4 = .ok (.iload_n 0, 1) := by decide +kernel
theorem dX8_isPerson_5 : decode cX8_isPerson 5 = .ok (.bipush 20, 2) := by decide +kernel
theorem dX8_isPerson_7 : decode cX8_isPerson 7 = .ok (.if_icmp .ge 7, 3) := by decide +kernel
theorem dX8_isPerson_10 : decode cX8_isPerson 10 = .ok (.iconst 1, 1) := by decide +kernel
theorem dX8_isPerson_11 : decode cX8_isPerson 11 = .ok (.goto 4, 3) := by decide +kernel
theorem dX8_isStream_0 : decode cX8_isStream 0 = .ok (.iload_n 0, 1) := by decide +kernel
theorem dX8_isStream_1 : decode cX8_isStream 1 = .ok (.ifCond .lt 13, 3) := by decide +kernel
theorem dX8_isStream_14 : decode cX8_isStream 14 = .ok (.iconst 0, 1) := by decide +kernel
theorem dX8_isStream_15 : decode cX8_isStream 15 = .ok (.ireturn, 1) := by decide +kernel
theorem dX8_isStream_4 : decode cX8_isStream 4 = .ok (.iload_n 0, 1) := by decide +kernel
theorem dX8_isStream_5 : decode cX8_isStream 5 = .ok (.bipush 6, 2) := by decide +kernel
theorem dX8_isStream_7 : decode cX8_isStream 7 = .ok (.if_icmp .ge 7, 3) := by decide +kernel
theorem dX8_isStream_10 : decode cX8_isStream 10 = .ok (.iconst 1, 1) := by decide +kernel
theorem dX8_isStream_11 : decode cX8_isStream 11 = .ok (.goto 4, 3) := by decide +kernel
theorem dX8_isRowValue_0 : decode cX8_isRowValue 0 = .ok (.iload_n 0, 1) := by decide +kernel
theorem dX8_isRowValue_1 : decode cX8_isRowValue 1 = .ok (.ldc_w 295, 3) := by decide +kernel
theorem dX8_isRowValue_4 : decode cX8_isRowValue 4 = .ok (.if_icmp .lt 14, 3) := by decide +kernel
theorem dX8_isRowValue_18 : decode cX8_isRowValue 18 = .ok (.iconst 0, 1) := by decide +kernel
theorem dX8_isRowValue_19 : decode cX8_isRowValue 19 = .ok (.ireturn, 1) := by decide +kernel
theorem dX8_isRowValue_7 : decode cX8_isRowValue 7 = .ok (.iload_n 0, 1) := by decide +kernel
theorem dX8_isRowValue_8 : decode cX8_isRowValue 8 = .ok (.ldc_w 296, 3) := by decide +kernel
theorem dX8_isRowValue_11 : decode cX8_isRowValue 11 = .ok (.if_icmp .gt 7, 3) := by decide +kernel
theorem dX8_isRowValue_14 : decode cX8_isRowValue 14 = .ok (.iconst 1, 1) := by decide +kernel
theorem dX8_isRowValue_15 : decode cX8_isRowValue 15 = .ok (.goto 4, 3) := by decide +kernel
theorem dX8_settle_0 : decode cX8_settle 0 = .ok (.aload_n 0, 1) := by decide +kernel
theorem dX8_settle_1 : decode cX8_settle 1 = .ok (.iload_n 1, 1) := by decide +kernel
theorem dX8_settle_2 : decode cX8_settle 2 = .ok (.iconst 0, 1) := by decide +kernel
theorem dX8_settle_3 : decode cX8_settle 3 = .ok (.invokestatic 292, 3) := by decide +kernel
theorem dX8_settle_6 : decode cX8_settle 6 = .ok (.putfield 289, 3) := by decide +kernel
theorem dX8_settle_9 : decode cX8_settle 9 = .ok (.iload_n 1, 1) := by decide +kernel
theorem dX8_settle_10 : decode cX8_settle 10 = .ok (.ireturn, 1) := by decide +kernel
theorem dX8_traitAt_0 : decode cX8_traitAt 0 = .ok (.iload_n 1, 1) := by decide +kernel
theorem dX8_traitAt_1 : decode cX8_traitAt 1 = .ok (.ifCond .lt 20, 3) := by decide +kernel
theorem dX8_traitAt_21 : decode cX8_traitAt 21 = .ok (.aconst_null, 1) := by decide +kernel
theorem dX8_traitAt_22 : decode cX8_traitAt 22 = .ok (.areturn, 1) := by decide +kernel
theorem dX8_traitAt_4 : decode cX8_traitAt 4 = .ok (.iload_n 1, 1) := by decide +kernel
theorem dX8_traitAt_5 : decode cX8_traitAt 5 = .ok (.aload_n 0, 1) := by decide +kernel
theorem dX8_traitAt_6 : decode cX8_traitAt 6 = .ok (.getfield 148, 3) := by decide +kernel
theorem dX8_traitAt_9 : decode cX8_traitAt 9 = .ok (.if_icmp .ge 12, 3) := by decide +kernel
theorem dX8_isModel_0 : decode cX8_isModel 0 = .ok (.iload_n 1, 1) := by decide +kernel
theorem dX8_isModel_1 : decode cX8_isModel 1 = .ok (.ifCond .lt 15, 3) := by decide +kernel
theorem dX8_isModel_16 : decode cX8_isModel 16 = .ok (.iconst 0, 1) := by decide +kernel
theorem dX8_isModel_17 : decode cX8_isModel 17 = .ok (.ireturn, 1) := by decide +kernel
theorem dX8_isModel_4 : decode cX8_isModel 4 = .ok (.iload_n 1, 1) := by decide +kernel
theorem dX8_isModel_5 : decode cX8_isModel 5 = .ok (.aload_n 0, 1) := by decide +kernel
theorem dX8_isModel_6 : decode cX8_isModel 6 = .ok (.getfield 250, 3) := by decide +kernel
theorem dX8_isModel_9 : decode cX8_isModel 9 = .ok (.if_icmp .ge 7, 3) := by decide +kernel
theorem dX8_now_0 : decode cX8_now 0 = .ok (.iload_n 1, 1) := by decide +kernel
set_option maxRecDepth 20000 in
theorem ggX8_now_X8_isMoment : GoodIn wsX8_now wsX8_isMoment := goodIn_r _ [5, 6] (by decide +kernel) (by decide +kernel)
set_option maxRecDepth 20000 in
theorem gX8_now_X8_isMoment : GoodIn wsX8_now (va_wsS RX8 79 yX8_isMoment wsX8_isMoment) := goodIn_app (goodIn_of _ (by decide +kernel)) ggX8_now_X8_isMoment
theorem dX8_now_1 : decode cX8_now 1 = .ok (.invokestatic 79, 3) := by decide +kernel
theorem dX8_now_4 : decode cX8_now 4 = .ok (.ifCond .eq 11, 3) := by decide +kernel
theorem dX8_now_15 : decode cX8_now 15 = .ok (.aload_n 0, 1) := by decide +kernel
theorem dX8_now_16 : decode cX8_now 16 = .ok (.iconst (-1), 1) := by decide +kernel
set_option maxRecDepth 20000 in
theorem ggX8_now_X8_settle : GoodIn wsX8_now wsX8_settle := goodIn_r _ [10, 11, 12, 13, 14, 15, 16, 17, 18, 19, 20, 21, 22, 23, 24, 25, 26, 27, 28, 29, 30, 31, 32] (by decide +kernel) (by decide +kernel)
set_option maxRecDepth 20000 in
theorem gX8_now_X8_settle : GoodIn wsX8_now (wsV RX8 86 RX8 yX8_settle wsX8_settle) := goodIn_app (goodIn_of _ (by decide +kernel)) ggX8_now_X8_settle
theorem dX8_now_17 : decode cX8_now 17 = .ok (.invokevirtual 86, 3) := by decide +kernel
theorem dX8_now_20 : decode cX8_now 20 = .ok (.ireturn, 1) := by decide +kernel
theorem dX8_now_7 : decode cX8_now 7 = .ok (.iload_n 1, 1) := by decide +kernel
theorem dX8_now_8 : decode cX8_now 8 = .ok (.aload_n 0, 1) := by decide +kernel
theorem dX8_now_9 : decode cX8_now 9 = .ok (.getfield 83, 3) := by decide +kernel
theorem dX8_now_12 : decode cX8_now 12 = .ok (.if_icmp .ge 9, 3) := by decide +kernel
theorem dX8_now_21 : decode cX8_now 21 = .ok (.aload_n 0, 1) := by decide +kernel
theorem dX8_now_22 : decode cX8_now 22 = .ok (.iload_n 1, 1) := by decide +kernel
theorem dX8_now_23 : decode cX8_now 23 = .ok (.putfield 83, 3) := by decide +kernel
theorem dX8_now_26 : decode cX8_now 26 = .ok (.aload_n 0, 1) := by decide +kernel
theorem dX8_now_27 : decode cX8_now 27 = .ok (.iconst 0, 1) := by decide +kernel
theorem dX8_now_28 : decode cX8_now 28 = .ok (.invokevirtual 86, 3) := by decide +kernel
theorem dX8_now_31 : decode cX8_now 31 = .ok (.ireturn, 1) := by decide +kernel
set_option maxHeartbeats 4000000 in
set_option maxRecDepth 100000 in
theorem c_X8_isMoment (l : Launch) (dC : Nat → ClassId) (dI : Nat → Nat → Nat) (sz : Nat) (a : Int32)  : Met l yX8_isMoment wsX8_isMoment ({ frames := 0, cells := 0, slots := 0, locals := 0 }) (va_Pc [.int a] (fun U => U.heap.size = sz ∧ va_P (dC, dI) vwCl [] U.heap ∧ va_K (dC, dI) vwCl [] U ∧ va_D (fun _ => True) [] ∧ nw_ok U)) (va_Qi (fun (r : Int32) (_ : Unit) => (0 ≤ a.toInt ∧ a.toInt ≤ 100000 → r.toInt = 1) ∧ (¬ (0 ≤ a.toInt ∧ a.toInt ≤ 100000) → r.toInt = 0)) (fun (_ : Unit) (t : State) => va_P (dC, dI) vwCl [] t.heap ∧ va_K (dC, dI) vwCl [] t ∧ va_D (va_A [] sz) []) (va_A [] sz)) 0 0 (va_A [] sz) := by
  refine Met.ofW (cc := cX8_isMoment) (maxL := 1) (ret := (some .boolean)) (by decide) rfl ?_
  intro p e s m args below meth c s₁ B hml hv
  obtain ⟨rfl, hsz, hP, hK, hD0, hN⟩ := hv
  have hx := B.exec
  have hb := B.bytes
  have hr := B.returns
  have hts := atoms_spec (ws := wsX8_isMoment) B.pre
  have hown : s.vm.findClass RX8 = some m.cls := findClass_of_methodNamed B.named
  have hlocks := B.notSynchronized
  subst hsz
  have hD := hD0.self (sz := s.heap.size)
  generalize hAe : va_A [] s.heap.size = A at hD ⊢
  have hA : ∀ q : Nat, s.heap.size ≤ q → A q := fun q h => by rw [← hAe]; exact Or.inr h
  have hS : va_S A s.heap s.heap [] := va_S.rf
  have hP : va_P (dC, dI) vwCl [] s.heap := hP
  have hl := lv_entry ([.int a]) (n := 1) (Nat.le_of_ble_eq_true rfl)
  rw [lg_entry_eq]
  generalize (lg_sl ([.int a]) ++ List.replicate (1 - (lg_sl ([.int a])).length) Slot.unset).toArray = ls at hl ⊢
  have hl : lv_has ls 1 [(0, .int a)] := hl
  refine lv_iload_n hx hb dX8_isMoment_0 rfl (lv_at hl 0 rfl) ?_
  refine lv_if_lt (tgt := 14) hx hb dX8_isMoment_1 (by decide) (fun c_1 => ?_) (fun c_1 => ?_)
  · have dc_1 : a.toInt < 0 := jI_lt c_1 rfl (by decide)
    refine lv_iconst (v := 0) hx hb dX8_isMoment_14 (by decide) ?_
    have hP9 := hP.sub (ws' := []) [] rfl
    have hD9 := hD.sub (ws' := []) [] (by decide) rfl
    have hK9 := hK.sub (tys' := []) [] rfl
    have hans : (0 : Int32).toInt = 0 := (by decide)
    exact W.zret (v := 0) hx hb hr (by decide) (fun t ht hW => ⟨⟨0, (), rfl, by first | omega | (dsimp only; omega), by rw [ht]; exact hP9, va_K.moved hW.alike hK9, hD9⟩, hS.F ht⟩) hS.2.2 dX8_isMoment_15
  · have dc_1 : 0 ≤ a.toInt := jI_nlt c_1 rfl (by decide)
    refine lv_iload_n hx hb dX8_isMoment_4 rfl (lv_at hl 0 rfl) ?_
    refine lv_ldc hx hb hown (hts (.constant RX8 117 (100000)) (by decide +kernel)) dX8_isMoment_5 ?_
    refine lv_icmp_gt (tgt := 14) hx hb dX8_isMoment_7 (by decide) (fun c_2 => ?_) (fun c_2 => ?_)
    · have dc_2 : 100000 < a.toInt := jI_lt c_2 (by decide) rfl
      refine lv_iconst (v := 0) hx hb dX8_isMoment_14 (by decide) ?_
      have hP9 := hP.sub (ws' := []) [] rfl
      have hD9 := hD.sub (ws' := []) [] (by decide) rfl
      have hK9 := hK.sub (tys' := []) [] rfl
      have hans : (0 : Int32).toInt = 0 := (by decide)
      exact W.zret (v := 0) hx hb hr (by decide) (fun t ht hW => ⟨⟨0, (), rfl, by first | omega | (dsimp only; omega), by rw [ht]; exact hP9, va_K.moved hW.alike hK9, hD9⟩, hS.F ht⟩) hS.2.2 dX8_isMoment_15
    · have dc_2 : a.toInt ≤ 100000 := jI_nlt c_2 (by decide) rfl
      refine lv_iconst (v := 1) hx hb dX8_isMoment_10 (by decide) ?_
      refine lv_goto (tgt := 15) hx hb dX8_isMoment_11 (by decide) ?_
      have hP9 := hP.sub (ws' := []) [] rfl
      have hD9 := hD.sub (ws' := []) [] (by decide) rfl
      have hK9 := hK.sub (tys' := []) [] rfl
      have hans : (1 : Int32).toInt = 1 := (by decide)
      exact W.zret (v := 1) hx hb hr (by decide) (fun t ht hW => ⟨⟨1, (), rfl, by first | omega | (dsimp only; omega), by rw [ht]; exact hP9, va_K.moved hW.alike hK9, hD9⟩, hS.F ht⟩) hS.2.2 dX8_isMoment_15

set_option maxHeartbeats 4000000 in
set_option maxRecDepth 100000 in
theorem c_X8_isPerson (l : Launch) (dC : Nat → ClassId) (dI : Nat → Nat → Nat) (sz : Nat) (a : Int32)  : Met l yX8_isPerson wsX8_isPerson ({ frames := 0, cells := 0, slots := 0, locals := 0 }) (va_Pc [.int a] (fun U => U.heap.size = sz ∧ va_P (dC, dI) vwCl [] U.heap ∧ va_K (dC, dI) vwCl [] U ∧ va_D (fun _ => True) [] ∧ nw_ok U)) (va_Qi (fun (r : Int32) (_ : Unit) => (0 ≤ a.toInt ∧ a.toInt ≤ 19 → r.toInt = 1) ∧ (¬ (0 ≤ a.toInt ∧ a.toInt ≤ 19) → r.toInt = 0)) (fun (_ : Unit) (t : State) => va_P (dC, dI) vwCl [] t.heap ∧ va_K (dC, dI) vwCl [] t ∧ va_D (va_A [] sz) []) (va_A [] sz)) 0 0 (va_A [] sz) := by
  refine Met.ofW (cc := cX8_isPerson) (maxL := 1) (ret := (some .boolean)) (by decide) rfl ?_
  intro p e s m args below meth c s₁ B hml hv
  obtain ⟨rfl, hsz, hP, hK, hD0, hN⟩ := hv
  have hx := B.exec
  have hb := B.bytes
  have hr := B.returns
  have hts := atoms_spec (ws := wsX8_isPerson) B.pre
  have hown : s.vm.findClass RX8 = some m.cls := findClass_of_methodNamed B.named
  have hlocks := B.notSynchronized
  subst hsz
  have hD := hD0.self (sz := s.heap.size)
  generalize hAe : va_A [] s.heap.size = A at hD ⊢
  have hA : ∀ q : Nat, s.heap.size ≤ q → A q := fun q h => by rw [← hAe]; exact Or.inr h
  have hS : va_S A s.heap s.heap [] := va_S.rf
  have hP : va_P (dC, dI) vwCl [] s.heap := hP
  have hl := lv_entry ([.int a]) (n := 1) (Nat.le_of_ble_eq_true rfl)
  rw [lg_entry_eq]
  generalize (lg_sl ([.int a]) ++ List.replicate (1 - (lg_sl ([.int a])).length) Slot.unset).toArray = ls at hl ⊢
  have hl : lv_has ls 1 [(0, .int a)] := hl
  refine lv_iload_n hx hb dX8_isPerson_0 rfl (lv_at hl 0 rfl) ?_
  refine lv_if_lt (tgt := 14) hx hb dX8_isPerson_1 (by decide) (fun c_1 => ?_) (fun c_1 => ?_)
  · have dc_1 : a.toInt < 0 := jI_lt c_1 rfl (by decide)
    refine lv_iconst (v := 0) hx hb dX8_isPerson_14 (by decide) ?_
    have hP9 := hP.sub (ws' := []) [] rfl
    have hD9 := hD.sub (ws' := []) [] (by decide) rfl
    have hK9 := hK.sub (tys' := []) [] rfl
    have hans : (0 : Int32).toInt = 0 := (by decide)
    exact W.zret (v := 0) hx hb hr (by decide) (fun t ht hW => ⟨⟨0, (), rfl, by first | omega | (dsimp only; omega), by rw [ht]; exact hP9, va_K.moved hW.alike hK9, hD9⟩, hS.F ht⟩) hS.2.2 dX8_isPerson_15
  · have dc_1 : 0 ≤ a.toInt := jI_nlt c_1 rfl (by decide)
    refine lv_iload_n hx hb dX8_isPerson_4 rfl (lv_at hl 0 rfl) ?_
    refine lv_bipush (v := 20) hx hb dX8_isPerson_5 (by decide) ?_
    refine lv_icmp_ge (tgt := 14) hx hb dX8_isPerson_7 (by decide) (fun c_2 => ?_) (fun c_2 => ?_)
    · have dc_2 : 20 ≤ a.toInt := jI_le c_2 (by decide) rfl
      refine lv_iconst (v := 0) hx hb dX8_isPerson_14 (by decide) ?_
      have hP9 := hP.sub (ws' := []) [] rfl
      have hD9 := hD.sub (ws' := []) [] (by decide) rfl
      have hK9 := hK.sub (tys' := []) [] rfl
      have hans : (0 : Int32).toInt = 0 := (by decide)
      exact W.zret (v := 0) hx hb hr (by decide) (fun t ht hW => ⟨⟨0, (), rfl, by first | omega | (dsimp only; omega), by rw [ht]; exact hP9, va_K.moved hW.alike hK9, hD9⟩, hS.F ht⟩) hS.2.2 dX8_isPerson_15
    · have dc_2 : a.toInt < 20 := jI_nle c_2 (by decide) rfl
      refine lv_iconst (v := 1) hx hb dX8_isPerson_10 (by decide) ?_
      refine lv_goto (tgt := 15) hx hb dX8_isPerson_11 (by decide) ?_
      have hP9 := hP.sub (ws' := []) [] rfl
      have hD9 := hD.sub (ws' := []) [] (by decide) rfl
      have hK9 := hK.sub (tys' := []) [] rfl
      have hans : (1 : Int32).toInt = 1 := (by decide)
      exact W.zret (v := 1) hx hb hr (by decide) (fun t ht hW => ⟨⟨1, (), rfl, by first | omega | (dsimp only; omega), by rw [ht]; exact hP9, va_K.moved hW.alike hK9, hD9⟩, hS.F ht⟩) hS.2.2 dX8_isPerson_15

set_option maxHeartbeats 4000000 in
set_option maxRecDepth 100000 in
theorem c_X8_isStream (l : Launch) (dC : Nat → ClassId) (dI : Nat → Nat → Nat) (sz : Nat) (a : Int32)  : Met l yX8_isStream wsX8_isStream ({ frames := 0, cells := 0, slots := 0, locals := 0 }) (va_Pc [.int a] (fun U => U.heap.size = sz ∧ va_P (dC, dI) vwCl [] U.heap ∧ va_K (dC, dI) vwCl [] U ∧ va_D (fun _ => True) [] ∧ nw_ok U)) (va_Qi (fun (r : Int32) (_ : Unit) => (0 ≤ a.toInt ∧ a.toInt ≤ 5 → r.toInt = 1) ∧ (¬ (0 ≤ a.toInt ∧ a.toInt ≤ 5) → r.toInt = 0)) (fun (_ : Unit) (t : State) => va_P (dC, dI) vwCl [] t.heap ∧ va_K (dC, dI) vwCl [] t ∧ va_D (va_A [] sz) []) (va_A [] sz)) 0 0 (va_A [] sz) := by
  refine Met.ofW (cc := cX8_isStream) (maxL := 1) (ret := (some .boolean)) (by decide) rfl ?_
  intro p e s m args below meth c s₁ B hml hv
  obtain ⟨rfl, hsz, hP, hK, hD0, hN⟩ := hv
  have hx := B.exec
  have hb := B.bytes
  have hr := B.returns
  have hts := atoms_spec (ws := wsX8_isStream) B.pre
  have hown : s.vm.findClass RX8 = some m.cls := findClass_of_methodNamed B.named
  have hlocks := B.notSynchronized
  subst hsz
  have hD := hD0.self (sz := s.heap.size)
  generalize hAe : va_A [] s.heap.size = A at hD ⊢
  have hA : ∀ q : Nat, s.heap.size ≤ q → A q := fun q h => by rw [← hAe]; exact Or.inr h
  have hS : va_S A s.heap s.heap [] := va_S.rf
  have hP : va_P (dC, dI) vwCl [] s.heap := hP
  have hl := lv_entry ([.int a]) (n := 1) (Nat.le_of_ble_eq_true rfl)
  rw [lg_entry_eq]
  generalize (lg_sl ([.int a]) ++ List.replicate (1 - (lg_sl ([.int a])).length) Slot.unset).toArray = ls at hl ⊢
  have hl : lv_has ls 1 [(0, .int a)] := hl
  refine lv_iload_n hx hb dX8_isStream_0 rfl (lv_at hl 0 rfl) ?_
  refine lv_if_lt (tgt := 14) hx hb dX8_isStream_1 (by decide) (fun c_1 => ?_) (fun c_1 => ?_)
  · have dc_1 : a.toInt < 0 := jI_lt c_1 rfl (by decide)
    refine lv_iconst (v := 0) hx hb dX8_isStream_14 (by decide) ?_
    have hP9 := hP.sub (ws' := []) [] rfl
    have hD9 := hD.sub (ws' := []) [] (by decide) rfl
    have hK9 := hK.sub (tys' := []) [] rfl
    have hans : (0 : Int32).toInt = 0 := (by decide)
    exact W.zret (v := 0) hx hb hr (by decide) (fun t ht hW => ⟨⟨0, (), rfl, by first | omega | (dsimp only; omega), by rw [ht]; exact hP9, va_K.moved hW.alike hK9, hD9⟩, hS.F ht⟩) hS.2.2 dX8_isStream_15
  · have dc_1 : 0 ≤ a.toInt := jI_nlt c_1 rfl (by decide)
    refine lv_iload_n hx hb dX8_isStream_4 rfl (lv_at hl 0 rfl) ?_
    refine lv_bipush (v := 6) hx hb dX8_isStream_5 (by decide) ?_
    refine lv_icmp_ge (tgt := 14) hx hb dX8_isStream_7 (by decide) (fun c_2 => ?_) (fun c_2 => ?_)
    · have dc_2 : 6 ≤ a.toInt := jI_le c_2 (by decide) rfl
      refine lv_iconst (v := 0) hx hb dX8_isStream_14 (by decide) ?_
      have hP9 := hP.sub (ws' := []) [] rfl
      have hD9 := hD.sub (ws' := []) [] (by decide) rfl
      have hK9 := hK.sub (tys' := []) [] rfl
      have hans : (0 : Int32).toInt = 0 := (by decide)
      exact W.zret (v := 0) hx hb hr (by decide) (fun t ht hW => ⟨⟨0, (), rfl, by first | omega | (dsimp only; omega), by rw [ht]; exact hP9, va_K.moved hW.alike hK9, hD9⟩, hS.F ht⟩) hS.2.2 dX8_isStream_15
    · have dc_2 : a.toInt < 6 := jI_nle c_2 (by decide) rfl
      refine lv_iconst (v := 1) hx hb dX8_isStream_10 (by decide) ?_
      refine lv_goto (tgt := 15) hx hb dX8_isStream_11 (by decide) ?_
      have hP9 := hP.sub (ws' := []) [] rfl
      have hD9 := hD.sub (ws' := []) [] (by decide) rfl
      have hK9 := hK.sub (tys' := []) [] rfl
      have hans : (1 : Int32).toInt = 1 := (by decide)
      exact W.zret (v := 1) hx hb hr (by decide) (fun t ht hW => ⟨⟨1, (), rfl, by first | omega | (dsimp only; omega), by rw [ht]; exact hP9, va_K.moved hW.alike hK9, hD9⟩, hS.F ht⟩) hS.2.2 dX8_isStream_15

set_option maxHeartbeats 4000000 in
set_option maxRecDepth 100000 in
theorem c_X8_isRowValue (l : Launch) (dC : Nat → ClassId) (dI : Nat → Nat → Nat) (sz : Nat) (a : Int32)  : Met l yX8_isRowValue wsX8_isRowValue ({ frames := 0, cells := 0, slots := 0, locals := 0 }) (va_Pc [.int a] (fun U => U.heap.size = sz ∧ va_P (dC, dI) vwCl [] U.heap ∧ va_K (dC, dI) vwCl [] U ∧ va_D (fun _ => True) [] ∧ nw_ok U)) (va_Qi (fun (r : Int32) (_ : Unit) => (-1000000 ≤ a.toInt ∧ a.toInt ≤ 1000000 → r.toInt = 1) ∧ (¬ (-1000000 ≤ a.toInt ∧ a.toInt ≤ 1000000) → r.toInt = 0)) (fun (_ : Unit) (t : State) => va_P (dC, dI) vwCl [] t.heap ∧ va_K (dC, dI) vwCl [] t ∧ va_D (va_A [] sz) []) (va_A [] sz)) 0 0 (va_A [] sz) := by
  refine Met.ofW (cc := cX8_isRowValue) (maxL := 1) (ret := (some .boolean)) (by decide) rfl ?_
  intro p e s m args below meth c s₁ B hml hv
  obtain ⟨rfl, hsz, hP, hK, hD0, hN⟩ := hv
  have hx := B.exec
  have hb := B.bytes
  have hr := B.returns
  have hts := atoms_spec (ws := wsX8_isRowValue) B.pre
  have hown : s.vm.findClass RX8 = some m.cls := findClass_of_methodNamed B.named
  have hlocks := B.notSynchronized
  subst hsz
  have hD := hD0.self (sz := s.heap.size)
  generalize hAe : va_A [] s.heap.size = A at hD ⊢
  have hA : ∀ q : Nat, s.heap.size ≤ q → A q := fun q h => by rw [← hAe]; exact Or.inr h
  have hS : va_S A s.heap s.heap [] := va_S.rf
  have hP : va_P (dC, dI) vwCl [] s.heap := hP
  have hl := lv_entry ([.int a]) (n := 1) (Nat.le_of_ble_eq_true rfl)
  rw [lg_entry_eq]
  generalize (lg_sl ([.int a]) ++ List.replicate (1 - (lg_sl ([.int a])).length) Slot.unset).toArray = ls at hl ⊢
  have hl : lv_has ls 1 [(0, .int a)] := hl
  refine lv_iload_n hx hb dX8_isRowValue_0 rfl (lv_at hl 0 rfl) ?_
  refine lv_ldcw hx hb hown (hts (.constant RX8 295 (-1000000)) (by decide +kernel)) dX8_isRowValue_1 ?_
  refine lv_icmp_lt (tgt := 18) hx hb dX8_isRowValue_4 (by decide) (fun c_1 => ?_) (fun c_1 => ?_)
  · have dc_1 : a.toInt < (-1000000) := jI_lt c_1 rfl (by decide)
    refine lv_iconst (v := 0) hx hb dX8_isRowValue_18 (by decide) ?_
    have hP9 := hP.sub (ws' := []) [] rfl
    have hD9 := hD.sub (ws' := []) [] (by decide) rfl
    have hK9 := hK.sub (tys' := []) [] rfl
    have hans : (0 : Int32).toInt = 0 := (by decide)
    exact W.zret (v := 0) hx hb hr (by decide) (fun t ht hW => ⟨⟨0, (), rfl, by first | omega | (dsimp only; omega), by rw [ht]; exact hP9, va_K.moved hW.alike hK9, hD9⟩, hS.F ht⟩) hS.2.2 dX8_isRowValue_19
  · have dc_1 : (-1000000) ≤ a.toInt := jI_nlt c_1 rfl (by decide)
    refine lv_iload_n hx hb dX8_isRowValue_7 rfl (lv_at hl 0 rfl) ?_
    refine lv_ldcw hx hb hown (hts (.constant RX8 296 (1000000)) (by decide +kernel)) dX8_isRowValue_8 ?_
    refine lv_icmp_gt (tgt := 18) hx hb dX8_isRowValue_11 (by decide) (fun c_2 => ?_) (fun c_2 => ?_)
    · have dc_2 : 1000000 < a.toInt := jI_lt c_2 (by decide) rfl
      refine lv_iconst (v := 0) hx hb dX8_isRowValue_18 (by decide) ?_
      have hP9 := hP.sub (ws' := []) [] rfl
      have hD9 := hD.sub (ws' := []) [] (by decide) rfl
      have hK9 := hK.sub (tys' := []) [] rfl
      have hans : (0 : Int32).toInt = 0 := (by decide)
      exact W.zret (v := 0) hx hb hr (by decide) (fun t ht hW => ⟨⟨0, (), rfl, by first | omega | (dsimp only; omega), by rw [ht]; exact hP9, va_K.moved hW.alike hK9, hD9⟩, hS.F ht⟩) hS.2.2 dX8_isRowValue_19
    · have dc_2 : a.toInt ≤ 1000000 := jI_nlt c_2 (by decide) rfl
      refine lv_iconst (v := 1) hx hb dX8_isRowValue_14 (by decide) ?_
      refine lv_goto (tgt := 19) hx hb dX8_isRowValue_15 (by decide) ?_
      have hP9 := hP.sub (ws' := []) [] rfl
      have hD9 := hD.sub (ws' := []) [] (by decide) rfl
      have hK9 := hK.sub (tys' := []) [] rfl
      have hans : (1 : Int32).toInt = 1 := (by decide)
      exact W.zret (v := 1) hx hb hr (by decide) (fun t ht hW => ⟨⟨1, (), rfl, by first | omega | (dsimp only; omega), by rw [ht]; exact hP9, va_K.moved hW.alike hK9, hD9⟩, hS.F ht⟩) hS.2.2 dX8_isRowValue_19

set_option maxHeartbeats 4000000 in
set_option maxRecDepth 100000 in
theorem c_X8_settle (l : Launch) (dC : Nat → ClassId) (dI : Nat → Nat → Nat) (sz : Nat) (h0 : Nat) (hRows : Nat) (hMer : Nat) (hEra : Nat) (hTape : Nat) (hRea : Nat) (hTra : Nat) (hWor : Nat) (hPla : Nat) (hMod : Nat) (hHe1 : Nat) (hHe2 : Nat) (vNow : Int32) (vEr : Int32) (vTr : Int32) (vMo : Int32) (vFa : Int32) (vRe : Int32) (a : Int32)  : Met l yX8_settle wsX8_settle ({ frames := 1, cells := 0, slots := 0, locals := 21 }) (va_Pc [.ref h0, .int a] (fun U => U.heap.size = sz ∧ va_P (dC, dI) vwCl [(h0, .inr (8, [.ref hRows, .ref hMer, .ref hEra, .ref hTape, .ref hRea, .ref hTra, .ref hWor, .ref hPla, .ref hMod, .ref hHe1, .ref hHe2, .int vNow, .int vEr, .int vTr, .int vMo, .int vFa, .int vRe]))] U.heap ∧ va_K (dC, dI) vwCl [] U ∧ va_D (fun _ => True) [(h0, .inr (8, [.ref hRows, .ref hMer, .ref hEra, .ref hTape, .ref hRea, .ref hTra, .ref hWor, .ref hPla, .ref hMod, .ref hHe1, .ref hHe2, .int vNow, .int vEr, .int vTr, .int vMo, .int vFa, .int vRe]))] ∧ nw_ok U)) (va_Qi (fun (r : Int32) (u : Int32) => r = a) (fun (u : Int32) (t : State) => va_P (dC, dI) vwCl [(h0, .inr (8, [.ref hRows, .ref hMer, .ref hEra, .ref hTape, .ref hRea, .ref hTra, .ref hWor, .ref hPla, .ref hMod, .ref hHe1, .ref hHe2, .int vNow, .int vEr, .int vTr, .int vMo, .int vFa, .int u]))] t.heap ∧ va_K (dC, dI) vwCl [] t ∧ va_D (va_A [(h0, .inr (8, [.ref hRows, .ref hMer, .ref hEra, .ref hTape, .ref hRea, .ref hTra, .ref hWor, .ref hPla, .ref hMod, .ref hHe1, .ref hHe2, .int vNow, .int vEr, .int vTr, .int vMo, .int vFa, .int vRe]))] sz) [(h0, .inr (8, [.ref hRows, .ref hMer, .ref hEra, .ref hTape, .ref hRea, .ref hTra, .ref hWor, .ref hPla, .ref hMod, .ref hHe1, .ref hHe2, .int vNow, .int vEr, .int vTr, .int vMo, .int vFa, .int u]))]) (va_A [(h0, .inr (8, [.ref hRows, .ref hMer, .ref hEra, .ref hTape, .ref hRea, .ref hTra, .ref hWor, .ref hPla, .ref hMod, .ref hHe1, .ref hHe2, .int vNow, .int vEr, .int vTr, .int vMo, .int vFa, .int vRe]))] sz)) 0 0 (va_A [(h0, .inr (8, [.ref hRows, .ref hMer, .ref hEra, .ref hTape, .ref hRea, .ref hTra, .ref hWor, .ref hPla, .ref hMod, .ref hHe1, .ref hHe2, .int vNow, .int vEr, .int vTr, .int vMo, .int vFa, .int vRe]))] sz) := by
  refine Met.ofW (cc := cX8_settle) (maxL := 2) (ret := (some .int)) (by decide) rfl ?_
  intro p e s m args below meth c s₁ B hml hv
  obtain ⟨rfl, hsz, hP, hK, hD0, hN⟩ := hv
  have hx := B.exec
  have hb := B.bytes
  have hr := B.returns
  have hts := atoms_spec (ws := wsX8_settle) B.pre
  have hown : s.vm.findClass RX8 = some m.cls := findClass_of_methodNamed B.named
  have hlocks := B.notSynchronized
  subst hsz
  have hD := hD0.self (sz := s.heap.size)
  generalize hAe : va_A [(h0, .inr (8, [.ref hRows, .ref hMer, .ref hEra, .ref hTape, .ref hRea, .ref hTra, .ref hWor, .ref hPla, .ref hMod, .ref hHe1, .ref hHe2, .int vNow, .int vEr, .int vTr, .int vMo, .int vFa, .int vRe]))] s.heap.size = A at hD ⊢
  have hA : ∀ q : Nat, s.heap.size ≤ q → A q := fun q h => by rw [← hAe]; exact Or.inr h
  have hS : va_S A s.heap s.heap [] := va_S.rf
  have hP : va_P (dC, dI) vwCl [(h0, .inr (8, [.ref hRows, .ref hMer, .ref hEra, .ref hTape, .ref hRea, .ref hTra, .ref hWor, .ref hPla, .ref hMod, .ref hHe1, .ref hHe2, .int vNow, .int vEr, .int vTr, .int vMo, .int vFa, .int vRe]))] s.heap := hP
  have hIX8 : ∀ w ∈ u_ws RX8 TX8 17, w ∈ wsX8_settle := by decide +kernel
  have hl := lv_entry ([.ref h0, .int a]) (n := 2) (Nat.le_of_ble_eq_true rfl)
  rw [lg_entry_eq]
  generalize (lg_sl ([.ref h0, .int a]) ++ List.replicate (2 - (lg_sl ([.ref h0, .int a])).length) Slot.unset).toArray = ls at hl ⊢
  have hl : lv_has ls 2 [(0, .ref h0), (1, .int a)] := hl
  refine lv_aload_n hx hb dX8_settle_0 rfl (lv_at hl 0 rfl) ?_
  refine lv_iload_n hx hb dX8_settle_1 rfl (lv_at hl 1 rfl) ?_
  refine lv_iconst (v := 0) hx hb dX8_settle_2 (by decide) ?_
  refine va_mmin hx hb (by rw [hml]; exact hl.1.symm) hown (hts (.methodLink RX8 292 Lib.Math.min.name) (by decide +kernel)) (hts (.static Lib.Math.min.name) (by decide +kernel)) (hts (.initialized "java/lang/Math") (by decide +kernel)) (hts (.code Lib.Math.min.name Lib.Math.min.code 2 (some .int)) (by decide +kernel)) (Nat.le_of_ble_eq_true rfl) (Nat.le_of_ble_eq_true rfl) (Nat.le_of_ble_eq_true rfl) (Nat.le_of_ble_eq_true rfl) dX8_settle_3 ?_
  refine lv_topi (fun x_1 ex_1 => ?_)
  have dx_1 : x_1.toInt = min a.toInt 0 := jI_min ex_1 rfl (by decide)
  refine va_put (D := (dC, dI)) (ci := 8) (v := .int x_1) (ty := .int) (C := RX8) (T := TX8) (N := 17) hx hb hts hIX8 tyX8 tyX8_ok nmX8 hown hK hP hD hS 0 rfl rfl 16 (by decide) (hts (.fieldLink RX8 289 "TraitHouse" "latestRefusal" "I") (by decide +kernel)) (fun _ h9 => h9) rfl (by decide +kernel) rfl rfl (Nat.le_of_ble_eq_true rfl) dX8_settle_6 (fun H locs hP hD hS => ?_)
  have hP : va_P (dC, dI) vwCl [(h0, .inr (8, [.ref hRows, .ref hMer, .ref hEra, .ref hTape, .ref hRea, .ref hTra, .ref hWor, .ref hPla, .ref hMod, .ref hHe1, .ref hHe2, .int vNow, .int vEr, .int vTr, .int vMo, .int vFa, .int x_1]))] H := hP
  have hD : va_D A [(h0, .inr (8, [.ref hRows, .ref hMer, .ref hEra, .ref hTape, .ref hRea, .ref hTra, .ref hWor, .ref hPla, .ref hMod, .ref hHe1, .ref hHe2, .int vNow, .int vEr, .int vTr, .int vMo, .int vFa, .int x_1]))] := hD
  refine lv_iload_n hx hb dX8_settle_9 rfl (lv_at hl 1 rfl) ?_
  have hP9 := hP.sub (ws' := [(h0, .inr (8, [.ref hRows, .ref hMer, .ref hEra, .ref hTape, .ref hRea, .ref hTra, .ref hWor, .ref hPla, .ref hMod, .ref hHe1, .ref hHe2, .int vNow, .int vEr, .int vTr, .int vMo, .int vFa, .int x_1]))]) [0] rfl
  have hD9 := hD.sub (ws' := [(h0, .inr (8, [.ref hRows, .ref hMer, .ref hEra, .ref hTape, .ref hRea, .ref hTra, .ref hWor, .ref hPla, .ref hMod, .ref hHe1, .ref hHe2, .int vNow, .int vEr, .int vTr, .int vMo, .int vFa, .int x_1]))]) [0] (by decide) rfl
  have hK9 := hK.sub (tys' := []) [] rfl
  exact W.iret (v := a) hx hb hr (fun t ht hW => ⟨⟨a, x_1, rfl, rfl, by rw [ht]; exact hP9, va_K.moved hW.alike hK9, hD9⟩, hS.F ht⟩) hS.2.2 dX8_settle_10

set_option maxHeartbeats 4000000 in
set_option maxRecDepth 100000 in
theorem c_X8_traitAt (l : Launch) (dC : Nat → ClassId) (dI : Nat → Nat → Nat) (sz : Nat) (h0 : Nat) (hRows : Nat) (hMer : Nat) (hEra : Nat) (hTape : Nat) (hRea : Nat) (hTra : Nat) (hWor : Nat) (hPla : Nat) (hMod : Nat) (hHe1 : Nat) (hHe2 : Nat) (vNow : Int32) (vEr : Int32) (vMo : Int32) (vFa : Int32) (vRe : Int32) (a : Int32)  : Met l yX8_traitAt wsX8_traitAt ({ frames := 0, cells := 0, slots := 0, locals := 0 }) (va_Pc [.ref h0, .int a] (fun U => U.heap.size = sz ∧ va_P (dC, dI) vwCl [(h0, .inr (8, [.ref hRows, .ref hMer, .ref hEra, .ref hTape, .ref hRea, .ref hTra, .ref hWor, .ref hPla, .ref hMod, .ref hHe1, .ref hHe2, .int vNow, .int vEr, .int 0, .int vMo, .int vFa, .int vRe]))] U.heap ∧ va_K (dC, dI) vwCl [] U ∧ va_D (fun _ => True) [(h0, .inr (8, [.ref hRows, .ref hMer, .ref hEra, .ref hTape, .ref hRea, .ref hTra, .ref hWor, .ref hPla, .ref hMod, .ref hHe1, .ref hHe2, .int vNow, .int vEr, .int 0, .int vMo, .int vFa, .int vRe]))] ∧ nw_ok U)) (va_Qq (fun (r : Option Nat) (_ : Unit) => r = none) (fun (_ : Unit) (t : State) => va_P (dC, dI) vwCl [(h0, .inr (8, [.ref hRows, .ref hMer, .ref hEra, .ref hTape, .ref hRea, .ref hTra, .ref hWor, .ref hPla, .ref hMod, .ref hHe1, .ref hHe2, .int vNow, .int vEr, .int 0, .int vMo, .int vFa, .int vRe]))] t.heap ∧ va_K (dC, dI) vwCl [] t ∧ va_D (va_A [(h0, .inr (8, [.ref hRows, .ref hMer, .ref hEra, .ref hTape, .ref hRea, .ref hTra, .ref hWor, .ref hPla, .ref hMod, .ref hHe1, .ref hHe2, .int vNow, .int vEr, .int 0, .int vMo, .int vFa, .int vRe]))] sz) [(h0, .inr (8, [.ref hRows, .ref hMer, .ref hEra, .ref hTape, .ref hRea, .ref hTra, .ref hWor, .ref hPla, .ref hMod, .ref hHe1, .ref hHe2, .int vNow, .int vEr, .int 0, .int vMo, .int vFa, .int vRe]))]) (va_A [(h0, .inr (8, [.ref hRows, .ref hMer, .ref hEra, .ref hTape, .ref hRea, .ref hTra, .ref hWor, .ref hPla, .ref hMod, .ref hHe1, .ref hHe2, .int vNow, .int vEr, .int 0, .int vMo, .int vFa, .int vRe]))] sz)) 0 0 (va_A [(h0, .inr (8, [.ref hRows, .ref hMer, .ref hEra, .ref hTape, .ref hRea, .ref hTra, .ref hWor, .ref hPla, .ref hMod, .ref hHe1, .ref hHe2, .int vNow, .int vEr, .int 0, .int vMo, .int vFa, .int vRe]))] sz) := by
  refine Met.ofW (cc := cX8_traitAt) (maxL := 2) (ret := (some (.object "TraitHouse$Trait"))) (by decide) rfl ?_
  intro p e s m args below meth c s₁ B hml hv
  obtain ⟨rfl, hsz, hP, hK, hD0, hN⟩ := hv
  have hx := B.exec
  have hb := B.bytes
  have hr := B.returns
  have hts := atoms_spec (ws := wsX8_traitAt) B.pre
  have hown : s.vm.findClass RX8 = some m.cls := findClass_of_methodNamed B.named
  have hlocks := B.notSynchronized
  subst hsz
  have hD := hD0.self (sz := s.heap.size)
  generalize hAe : va_A [(h0, .inr (8, [.ref hRows, .ref hMer, .ref hEra, .ref hTape, .ref hRea, .ref hTra, .ref hWor, .ref hPla, .ref hMod, .ref hHe1, .ref hHe2, .int vNow, .int vEr, .int 0, .int vMo, .int vFa, .int vRe]))] s.heap.size = A at hD ⊢
  have hA : ∀ q : Nat, s.heap.size ≤ q → A q := fun q h => by rw [← hAe]; exact Or.inr h
  have hS : va_S A s.heap s.heap [] := va_S.rf
  have hP : va_P (dC, dI) vwCl [(h0, .inr (8, [.ref hRows, .ref hMer, .ref hEra, .ref hTape, .ref hRea, .ref hTra, .ref hWor, .ref hPla, .ref hMod, .ref hHe1, .ref hHe2, .int vNow, .int vEr, .int 0, .int vMo, .int vFa, .int vRe]))] s.heap := hP
  have hIX8 : ∀ w ∈ u_ws RX8 TX8 17, w ∈ wsX8_traitAt := by decide +kernel
  have hl := lv_entry ([.ref h0, .int a]) (n := 2) (Nat.le_of_ble_eq_true rfl)
  rw [lg_entry_eq]
  generalize (lg_sl ([.ref h0, .int a]) ++ List.replicate (2 - (lg_sl ([.ref h0, .int a])).length) Slot.unset).toArray = ls at hl ⊢
  have hl : lv_has ls 2 [(0, .ref h0), (1, .int a)] := hl
  refine lv_iload_n hx hb dX8_traitAt_0 rfl (lv_at hl 1 rfl) ?_
  refine lv_if_lt (tgt := 21) hx hb dX8_traitAt_1 (by decide) (fun c_1 => ?_) (fun c_1 => ?_)
  · have dc_1 : a.toInt < 0 := jI_lt c_1 rfl (by decide)
    refine lv_null hx hb dX8_traitAt_21 ?_
    have hP9 := hP.sub (ws' := [(h0, .inr (8, [.ref hRows, .ref hMer, .ref hEra, .ref hTape, .ref hRea, .ref hTra, .ref hWor, .ref hPla, .ref hMod, .ref hHe1, .ref hHe2, .int vNow, .int vEr, .int 0, .int vMo, .int vFa, .int vRe]))]) [0] rfl
    have hD9 := hD.sub (ws' := [(h0, .inr (8, [.ref hRows, .ref hMer, .ref hEra, .ref hTape, .ref hRea, .ref hTra, .ref hWor, .ref hPla, .ref hMod, .ref hHe1, .ref hHe2, .int vNow, .int vEr, .int 0, .int vMo, .int vFa, .int vRe]))]) [0] (by decide) rfl
    have hK9 := hK.sub (tys' := []) [] rfl
    exact W.aret hx hb hr (Or.inl ⟨_, rfl⟩) (Or.inl rfl) (fun t ht hW => ⟨⟨none, (), rfl, rfl, by rw [ht]; exact hP9, va_K.moved hW.alike hK9, hD9⟩, hS.F ht⟩) hS.2.2 dX8_traitAt_22
  · have dc_1 : 0 ≤ a.toInt := jI_nlt c_1 rfl (by decide)
    refine lv_iload_n hx hb dX8_traitAt_4 rfl (lv_at hl 1 rfl) ?_
    refine lv_aload_n hx hb dX8_traitAt_5 rfl (lv_at hl 0 rfl) ?_
    refine va_get (D := (dC, dI)) (ci := 8) (v := .int 0) (C := RX8) (T := TX8) (N := 17) hx hb hts hIX8 hown hK hP 0 rfl rfl 13 (by decide) (hts (.fieldLink RX8 148 "TraitHouse" "traitsThere" "I") (by decide +kernel)) (fun _ h9 => h9) rfl dX8_traitAt_6 ?_
    refine lv_icmp_ge (tgt := 21) hx hb dX8_traitAt_9 (by decide) (fun c_2 => ?_) (fun c_2 => ?_)
    · have dc_2 : 0 ≤ a.toInt := jI_le c_2 (by decide) rfl
      refine lv_null hx hb dX8_traitAt_21 ?_
      have hP9 := hP.sub (ws' := [(h0, .inr (8, [.ref hRows, .ref hMer, .ref hEra, .ref hTape, .ref hRea, .ref hTra, .ref hWor, .ref hPla, .ref hMod, .ref hHe1, .ref hHe2, .int vNow, .int vEr, .int 0, .int vMo, .int vFa, .int vRe]))]) [0] rfl
      have hD9 := hD.sub (ws' := [(h0, .inr (8, [.ref hRows, .ref hMer, .ref hEra, .ref hTape, .ref hRea, .ref hTra, .ref hWor, .ref hPla, .ref hMod, .ref hHe1, .ref hHe2, .int vNow, .int vEr, .int 0, .int vMo, .int vFa, .int vRe]))]) [0] (by decide) rfl
      have hK9 := hK.sub (tys' := []) [] rfl
      exact W.aret hx hb hr (Or.inl ⟨_, rfl⟩) (Or.inl rfl) (fun t ht hW => ⟨⟨none, (), rfl, rfl, by rw [ht]; exact hP9, va_K.moved hW.alike hK9, hD9⟩, hS.F ht⟩) hS.2.2 dX8_traitAt_22
    · have dc_2 : a.toInt < 0 := jI_nle c_2 (by decide) rfl
      exfalso; omega

set_option maxHeartbeats 4000000 in
set_option maxRecDepth 100000 in
theorem c_X8_isModel (l : Launch) (dC : Nat → ClassId) (dI : Nat → Nat → Nat) (sz : Nat) (h0 : Nat) (hRows : Nat) (hMer : Nat) (hEra : Nat) (hTape : Nat) (hRea : Nat) (hTra : Nat) (hWor : Nat) (hPla : Nat) (hMod : Nat) (hHe1 : Nat) (hHe2 : Nat) (a : Int32)  : Met l yX8_isModel wsX8_isModel ({ frames := 0, cells := 0, slots := 0, locals := 0 }) (va_Pc [.ref h0, .int a] (fun U => U.heap.size = sz ∧ va_P (dC, dI) vwCl [(h0, .inr (8, [.ref hRows, .ref hMer, .ref hEra, .ref hTape, .ref hRea, .ref hTra, .ref hWor, .ref hPla, .ref hMod, .ref hHe1, .ref hHe2, .int 0, .int 0, .int 0, .int 0, .int (-1), .int 0]))] U.heap ∧ va_K (dC, dI) vwCl [] U ∧ va_D (fun _ => True) [(h0, .inr (8, [.ref hRows, .ref hMer, .ref hEra, .ref hTape, .ref hRea, .ref hTra, .ref hWor, .ref hPla, .ref hMod, .ref hHe1, .ref hHe2, .int 0, .int 0, .int 0, .int 0, .int (-1), .int 0]))] ∧ nw_ok U)) (va_Qi (fun (r : Int32) (_ : Unit) => r = 0) (fun (_ : Unit) (t : State) => va_P (dC, dI) vwCl [(h0, .inr (8, [.ref hRows, .ref hMer, .ref hEra, .ref hTape, .ref hRea, .ref hTra, .ref hWor, .ref hPla, .ref hMod, .ref hHe1, .ref hHe2, .int 0, .int 0, .int 0, .int 0, .int (-1), .int 0]))] t.heap ∧ va_K (dC, dI) vwCl [] t ∧ va_D (va_A [(h0, .inr (8, [.ref hRows, .ref hMer, .ref hEra, .ref hTape, .ref hRea, .ref hTra, .ref hWor, .ref hPla, .ref hMod, .ref hHe1, .ref hHe2, .int 0, .int 0, .int 0, .int 0, .int (-1), .int 0]))] sz) [(h0, .inr (8, [.ref hRows, .ref hMer, .ref hEra, .ref hTape, .ref hRea, .ref hTra, .ref hWor, .ref hPla, .ref hMod, .ref hHe1, .ref hHe2, .int 0, .int 0, .int 0, .int 0, .int (-1), .int 0]))]) (va_A [(h0, .inr (8, [.ref hRows, .ref hMer, .ref hEra, .ref hTape, .ref hRea, .ref hTra, .ref hWor, .ref hPla, .ref hMod, .ref hHe1, .ref hHe2, .int 0, .int 0, .int 0, .int 0, .int (-1), .int 0]))] sz)) 0 0 (va_A [(h0, .inr (8, [.ref hRows, .ref hMer, .ref hEra, .ref hTape, .ref hRea, .ref hTra, .ref hWor, .ref hPla, .ref hMod, .ref hHe1, .ref hHe2, .int 0, .int 0, .int 0, .int 0, .int (-1), .int 0]))] sz) := by
  refine Met.ofW (cc := cX8_isModel) (maxL := 2) (ret := (some .boolean)) (by decide) rfl ?_
  intro p e s m args below meth c s₁ B hml hv
  obtain ⟨rfl, hsz, hP, hK, hD0, hN⟩ := hv
  have hx := B.exec
  have hb := B.bytes
  have hr := B.returns
  have hts := atoms_spec (ws := wsX8_isModel) B.pre
  have hown : s.vm.findClass RX8 = some m.cls := findClass_of_methodNamed B.named
  have hlocks := B.notSynchronized
  subst hsz
  have hD := hD0.self (sz := s.heap.size)
  generalize hAe : va_A [(h0, .inr (8, [.ref hRows, .ref hMer, .ref hEra, .ref hTape, .ref hRea, .ref hTra, .ref hWor, .ref hPla, .ref hMod, .ref hHe1, .ref hHe2, .int 0, .int 0, .int 0, .int 0, .int (-1), .int 0]))] s.heap.size = A at hD ⊢
  have hA : ∀ q : Nat, s.heap.size ≤ q → A q := fun q h => by rw [← hAe]; exact Or.inr h
  have hS : va_S A s.heap s.heap [] := va_S.rf
  have hP : va_P (dC, dI) vwCl [(h0, .inr (8, [.ref hRows, .ref hMer, .ref hEra, .ref hTape, .ref hRea, .ref hTra, .ref hWor, .ref hPla, .ref hMod, .ref hHe1, .ref hHe2, .int 0, .int 0, .int 0, .int 0, .int (-1), .int 0]))] s.heap := hP
  have hIX8 : ∀ w ∈ u_ws RX8 TX8 17, w ∈ wsX8_isModel := by decide +kernel
  have hl := lv_entry ([.ref h0, .int a]) (n := 2) (Nat.le_of_ble_eq_true rfl)
  rw [lg_entry_eq]
  generalize (lg_sl ([.ref h0, .int a]) ++ List.replicate (2 - (lg_sl ([.ref h0, .int a])).length) Slot.unset).toArray = ls at hl ⊢
  have hl : lv_has ls 2 [(0, .ref h0), (1, .int a)] := hl
  refine lv_iload_n hx hb dX8_isModel_0 rfl (lv_at hl 1 rfl) ?_
  refine lv_if_lt (tgt := 16) hx hb dX8_isModel_1 (by decide) (fun c_1 => ?_) (fun c_1 => ?_)
  · have dc_1 : a.toInt < 0 := jI_lt c_1 rfl (by decide)
    refine lv_iconst (v := 0) hx hb dX8_isModel_16 (by decide) ?_
    have hP9 := hP.sub (ws' := [(h0, .inr (8, [.ref hRows, .ref hMer, .ref hEra, .ref hTape, .ref hRea, .ref hTra, .ref hWor, .ref hPla, .ref hMod, .ref hHe1, .ref hHe2, .int 0, .int 0, .int 0, .int 0, .int (-1), .int 0]))]) [0] rfl
    have hD9 := hD.sub (ws' := [(h0, .inr (8, [.ref hRows, .ref hMer, .ref hEra, .ref hTape, .ref hRea, .ref hTra, .ref hWor, .ref hPla, .ref hMod, .ref hHe1, .ref hHe2, .int 0, .int 0, .int 0, .int 0, .int (-1), .int 0]))]) [0] (by decide) rfl
    have hK9 := hK.sub (tys' := []) [] rfl
    exact W.zret (v := 0) hx hb hr (by decide) (fun t ht hW => ⟨⟨0, (), rfl, rfl, by rw [ht]; exact hP9, va_K.moved hW.alike hK9, hD9⟩, hS.F ht⟩) hS.2.2 dX8_isModel_17
  · have dc_1 : 0 ≤ a.toInt := jI_nlt c_1 rfl (by decide)
    refine lv_iload_n hx hb dX8_isModel_4 rfl (lv_at hl 1 rfl) ?_
    refine lv_aload_n hx hb dX8_isModel_5 rfl (lv_at hl 0 rfl) ?_
    refine va_get (D := (dC, dI)) (ci := 8) (v := .int 0) (C := RX8) (T := TX8) (N := 17) hx hb hts hIX8 hown hK hP 0 rfl rfl 14 (by decide) (hts (.fieldLink RX8 250 "TraitHouse" "modelsThere" "I") (by decide +kernel)) (fun _ h9 => h9) rfl dX8_isModel_6 ?_
    refine lv_icmp_ge (tgt := 16) hx hb dX8_isModel_9 (by decide) (fun c_2 => ?_) (fun c_2 => ?_)
    · have dc_2 : 0 ≤ a.toInt := jI_le c_2 (by decide) rfl
      refine lv_iconst (v := 0) hx hb dX8_isModel_16 (by decide) ?_
      have hP9 := hP.sub (ws' := [(h0, .inr (8, [.ref hRows, .ref hMer, .ref hEra, .ref hTape, .ref hRea, .ref hTra, .ref hWor, .ref hPla, .ref hMod, .ref hHe1, .ref hHe2, .int 0, .int 0, .int 0, .int 0, .int (-1), .int 0]))]) [0] rfl
      have hD9 := hD.sub (ws' := [(h0, .inr (8, [.ref hRows, .ref hMer, .ref hEra, .ref hTape, .ref hRea, .ref hTra, .ref hWor, .ref hPla, .ref hMod, .ref hHe1, .ref hHe2, .int 0, .int 0, .int 0, .int 0, .int (-1), .int 0]))]) [0] (by decide) rfl
      have hK9 := hK.sub (tys' := []) [] rfl
      exact W.zret (v := 0) hx hb hr (by decide) (fun t ht hW => ⟨⟨0, (), rfl, rfl, by rw [ht]; exact hP9, va_K.moved hW.alike hK9, hD9⟩, hS.F ht⟩) hS.2.2 dX8_isModel_17
    · have dc_2 : a.toInt < 0 := jI_nle c_2 (by decide) rfl
      exfalso; omega

set_option maxHeartbeats 4000000 in
set_option maxRecDepth 100000 in
theorem c_X8_now (l : Launch) (dC : Nat → ClassId) (dI : Nat → Nat → Nat) (sz : Nat) (h0 : Nat) (hRows : Nat) (hMer : Nat) (hEra : Nat) (hTape : Nat) (hRea : Nat) (hTra : Nat) (hWor : Nat) (hPla : Nat) (hMod : Nat) (hHe1 : Nat) (hHe2 : Nat) (a : Int32)  : Met l yX8_now wsX8_now ({ frames := 2, cells := 0, slots := 0, locals := 42 }) (va_Pc [.ref h0, .int a] (fun U => U.heap.size = sz ∧ va_P (dC, dI) vwCl [(h0, .inr (8, [.ref hRows, .ref hMer, .ref hEra, .ref hTape, .ref hRea, .ref hTra, .ref hWor, .ref hPla, .ref hMod, .ref hHe1, .ref hHe2, .int 0, .int 0, .int 0, .int 0, .int (-1), .int 0]))] U.heap ∧ va_K (dC, dI) vwCl [] U ∧ va_D (fun _ => True) [(h0, .inr (8, [.ref hRows, .ref hMer, .ref hEra, .ref hTape, .ref hRea, .ref hTra, .ref hWor, .ref hPla, .ref hMod, .ref hHe1, .ref hHe2, .int 0, .int 0, .int 0, .int 0, .int (-1), .int 0]))] ∧ nw_ok U)) (va_Qi (fun (r : Int32) (_ : Unit) => (0 ≤ a.toInt ∧ a.toInt ≤ 100000 → r.toInt = 0) ∧ (¬ (0 ≤ a.toInt ∧ a.toInt ≤ 100000) → r.toInt = (-1))) (fun (_ : Unit) (t : State) => True) (va_A [(h0, .inr (8, [.ref hRows, .ref hMer, .ref hEra, .ref hTape, .ref hRea, .ref hTra, .ref hWor, .ref hPla, .ref hMod, .ref hHe1, .ref hHe2, .int 0, .int 0, .int 0, .int 0, .int (-1), .int 0]))] sz)) 0 0 (va_A [(h0, .inr (8, [.ref hRows, .ref hMer, .ref hEra, .ref hTape, .ref hRea, .ref hTra, .ref hWor, .ref hPla, .ref hMod, .ref hHe1, .ref hHe2, .int 0, .int 0, .int 0, .int 0, .int (-1), .int 0]))] sz) := by
  refine Met.ofW (cc := cX8_now) (maxL := 2) (ret := (some .int)) (by decide) rfl ?_
  intro p e s m args below meth c s₁ B hml hv
  obtain ⟨rfl, hsz, hP, hK, hD0, hN⟩ := hv
  have hx := B.exec
  have hb := B.bytes
  have hr := B.returns
  have hts := atoms_spec (ws := wsX8_now) B.pre
  have hown : s.vm.findClass RX8 = some m.cls := findClass_of_methodNamed B.named
  have hlocks := B.notSynchronized
  subst hsz
  have hD := hD0.self (sz := s.heap.size)
  generalize hAe : va_A [(h0, .inr (8, [.ref hRows, .ref hMer, .ref hEra, .ref hTape, .ref hRea, .ref hTra, .ref hWor, .ref hPla, .ref hMod, .ref hHe1, .ref hHe2, .int 0, .int 0, .int 0, .int 0, .int (-1), .int 0]))] s.heap.size = A at hD ⊢
  have hA : ∀ q : Nat, s.heap.size ≤ q → A q := fun q h => by rw [← hAe]; exact Or.inr h
  have hS : va_S A s.heap s.heap [] := va_S.rf
  have hP : va_P (dC, dI) vwCl [(h0, .inr (8, [.ref hRows, .ref hMer, .ref hEra, .ref hTape, .ref hRea, .ref hTra, .ref hWor, .ref hPla, .ref hMod, .ref hHe1, .ref hHe2, .int 0, .int 0, .int 0, .int 0, .int (-1), .int 0]))] s.heap := hP
  have hIX8 : ∀ w ∈ u_ws RX8 TX8 17, w ∈ wsX8_now := by decide +kernel
  have hl := lv_entry ([.ref h0, .int a]) (n := 2) (Nat.le_of_ble_eq_true rfl)
  rw [lg_entry_eq]
  generalize (lg_sl ([.ref h0, .int a]) ++ List.replicate (2 - (lg_sl ([.ref h0, .int a])).length) Slot.unset).toArray = ls at hl ⊢
  have hl : lv_has ls 2 [(0, .ref h0), (1, .int a)] := hl
  refine lv_iload_n hx hb dX8_now_0 rfl (lv_at hl 1 rfl) ?_
  have hPc := hP.sub (ws' := []) [] rfl
  have hDc := hD.sub (ws' := []) [] (by decide) rfl
  have hKc := hK.sub (tys' := []) [] rfl
  have hFc := va_free (wc := []) hD hS hA [] rfl
  refine va_calli (va_runS (As := [.int a]) (rest := []) ⟨hx, hb, hml, hown, hts⟩ (c_X8_isMoment l dC dI s.heap.size a ) (va_cwS 1 hts gX8_now_X8_isMoment rfl rfl rfl (by decide +kernel) ⟨Nat.le_of_ble_eq_true rfl, Nat.le_of_ble_eq_true rfl⟩) ⟨fun a U g mk q => by obtain ⟨q0, q1, qP, qK, qD, qN⟩ := q; exact ⟨q0, q1, qP, va_K.moved (u := U) (U := U.calling g mk a) (Vm.Alike.refl U.vm) qK, qD, qN.same rfl⟩, fun U hU hW => ⟨rfl, by rw [hU], by rw [hU]; exact hPc, va_K.moved hW.alike hKc, hDc.weaken (fun _ _ _ _ => trivial), hN.warm hW⟩⟩ rfl rfl hl.1 rfl (lv_room (Nat.le_of_ble_eq_true rfl)) dX8_now_1 ⟨Nat.le_of_ble_eq_true rfl, Nat.le_of_ble_eq_true rfl⟩) hS (fun q _ h => hFc q h) hFc (fun r_1 u_2 t H1 locs ht hvm hw_3 hB hz1 hk1 hS => ?_)
  try dsimp only at hw_3
  obtain ⟨hP1, hK1, hD1⟩ := hB
  rw [ht] at hP1
  have hK1 := va_K.moved hvm.symm hK1
  obtain ⟨hP, hD⟩ := va_join (wr := [(h0, .inr (8, [.ref hRows, .ref hMer, .ref hEra, .ref hTape, .ref hRea, .ref hTra, .ref hWor, .ref hPla, .ref hMod, .ref hHe1, .ref hHe2, .int 0, .int 0, .int 0, .int 0, .int (-1), .int 0]))]) (w1 := []) hP hD [] [0] rfl rfl (by decide) (by decide) hk1 hFc hP1 hD1
  have hK := (hK.sub (tys' := []) [] rfl).app hK1
  generalize H1 = H at hP hS ⊢
  have hP : va_P (dC, dI) vwCl [(h0, .inr (8, [.ref hRows, .ref hMer, .ref hEra, .ref hTape, .ref hRea, .ref hTra, .ref hWor, .ref hPla, .ref hMod, .ref hHe1, .ref hHe2, .int 0, .int 0, .int 0, .int 0, .int (-1), .int 0]))] H := hP
  have hD : va_D A [(h0, .inr (8, [.ref hRows, .ref hMer, .ref hEra, .ref hTape, .ref hRea, .ref hTra, .ref hWor, .ref hPla, .ref hMod, .ref hHe1, .ref hHe2, .int 0, .int 0, .int 0, .int 0, .int (-1), .int 0]))] := hD
  have hK : va_K (dC, dI) vwCl [] s := hK
  refine lv_if_eq (tgt := 15) hx hb dX8_now_4 (by decide) (fun c_4 => ?_) (fun c_4 => ?_)
  · have dc_4 : r_1.toInt = 0 := jI_eq c_4 rfl (by decide)
    refine lv_aload_n hx hb dX8_now_15 rfl (lv_at hl 0 rfl) ?_
    refine lv_iconst (v := (-1)) hx hb dX8_now_16 (by decide) ?_
    have hk_5 : ((-1) : Int32).toInt = (-1) := by decide
    have hk_6 : (0 : Int32).toInt = 0 := by decide
    have hPc := hP.sub (ws' := [(h0, .inr (8, [.ref hRows, .ref hMer, .ref hEra, .ref hTape, .ref hRea, .ref hTra, .ref hWor, .ref hPla, .ref hMod, .ref hHe1, .ref hHe2, .int 0, .int 0, .int 0, .int 0, .int (-1), .int 0]))]) [0] rfl
    have hDc := hD.sub (ws' := [(h0, .inr (8, [.ref hRows, .ref hMer, .ref hEra, .ref hTape, .ref hRea, .ref hTra, .ref hWor, .ref hPla, .ref hMod, .ref hHe1, .ref hHe2, .int 0, .int 0, .int 0, .int 0, .int (-1), .int 0]))]) [0] (by decide) rfl
    have hKc := hK.sub (tys' := []) [] rfl
    have hFc := va_free (wc := [(h0, .inr (8, [.ref hRows, .ref hMer, .ref hEra, .ref hTape, .ref hRea, .ref hTra, .ref hWor, .ref hPla, .ref hMod, .ref hHe1, .ref hHe2, .int 0, .int 0, .int 0, .int 0, .int (-1), .int 0]))]) hD hS hA [0] rfl
    refine va_calli (va_runV (As := [.int (-1)]) (rest := []) ⟨hx, hb, hml, hown, hts⟩ (c_X8_settle l dC dI H.size h0 hRows hMer hEra hTape hRea hTra hWor hPla hMod hHe1 hHe2 0 0 0 0 (-1) 0 (-1) ) (cwV 1 hts gX8_now_X8_settle rfl rfl rfl (by decide +kernel) ⟨Nat.le_of_ble_eq_true rfl, Nat.le_of_ble_eq_true rfl⟩) ⟨fun a U g mk q => by obtain ⟨q0, q1, qP, qK, qD, qN⟩ := q; exact ⟨q0, q1, qP, va_K.moved (u := U) (U := U.calling g mk a) (Vm.Alike.refl U.vm) qK, qD, qN.same rfl⟩, va_recv hKc hPc (ci := 8) (q0 := 0) rfl rfl, fun U hU hW => ⟨rfl, by rw [hU], by rw [hU]; exact hPc, va_K.moved hW.alike hKc, hDc.weaken (fun _ _ _ _ => trivial), hN.warm hW⟩⟩ rfl rfl hl.1 rfl (lv_room (Nat.le_of_ble_eq_true rfl)) dX8_now_17 ⟨Nat.le_of_ble_eq_true rfl, Nat.le_of_ble_eq_true rfl⟩) hS (fun q _ h => hFc q h) hFc (fun r_7 u_8 t H1 locs ht hvm hw_9 hB hz1 hk1 hS => ?_)
    obtain ⟨w_10, rfl⟩ : ∃ z, z = u_8 := ⟨_, rfl⟩
    try dsimp only at hw_9
    obtain ⟨hP1, hK1, hD1⟩ := hB
    rw [ht] at hP1
    have hK1 := va_K.moved hvm.symm hK1
    obtain ⟨hP, hD⟩ := va_join (wr := []) (w1 := [(h0, .inr (8, [.ref hRows, .ref hMer, .ref hEra, .ref hTape, .ref hRea, .ref hTra, .ref hWor, .ref hPla, .ref hMod, .ref hHe1, .ref hHe2, .int 0, .int 0, .int 0, .int 0, .int (-1), .int w_10]))]) hP hD [0] [] rfl rfl (by decide) (by decide) hk1 hFc hP1 hD1
    have hK := (hK.sub (tys' := []) [] rfl).app hK1
    generalize H1 = H at hP hS ⊢
    have hP : va_P (dC, dI) vwCl [(h0, .inr (8, [.ref hRows, .ref hMer, .ref hEra, .ref hTape, .ref hRea, .ref hTra, .ref hWor, .ref hPla, .ref hMod, .ref hHe1, .ref hHe2, .int 0, .int 0, .int 0, .int 0, .int (-1), .int w_10]))] H := hP
    have hD : va_D A [(h0, .inr (8, [.ref hRows, .ref hMer, .ref hEra, .ref hTape, .ref hRea, .ref hTra, .ref hWor, .ref hPla, .ref hMod, .ref hHe1, .ref hHe2, .int 0, .int 0, .int 0, .int 0, .int (-1), .int w_10]))] := hD
    have hK : va_K (dC, dI) vwCl [] s := hK
    obtain rfl : (-1) = r_7 := hw_9.symm
    have hans : ((-1) : Int32).toInt = (-1) := (by decide)
    exact W.iret (v := (-1)) hx hb hr (fun t ht hW => ⟨⟨(-1), (), rfl, by first | omega | (dsimp only; omega), trivial⟩, hS.F ht⟩) hS.2.2 dX8_now_20
  · have dc_4 : ¬ r_1.toInt = 0 := jI_ne c_4 rfl (by decide)
    refine lv_iload_n hx hb dX8_now_7 rfl (lv_at hl 1 rfl) ?_
    refine lv_aload_n hx hb dX8_now_8 rfl (lv_at hl 0 rfl) ?_
    refine va_get (D := (dC, dI)) (ci := 8) (v := .int 0) (C := RX8) (T := TX8) (N := 17) hx hb hts hIX8 hown hK hP 0 rfl rfl 11 (by decide) (hts (.fieldLink RX8 83 "TraitHouse" "now" "I") (by decide +kernel)) (fun _ h9 => h9) rfl dX8_now_9 ?_
    refine lv_icmp_ge (tgt := 21) hx hb dX8_now_12 (by decide) (fun c_11 => ?_) (fun c_11 => ?_)
    · have dc_11 : 0 ≤ a.toInt := jI_le c_11 (by decide) rfl
      refine lv_aload_n hx hb dX8_now_21 rfl (lv_at hl 0 rfl) ?_
      refine lv_iload_n hx hb dX8_now_22 rfl (lv_at hl 1 rfl) ?_
      refine va_put (D := (dC, dI)) (ci := 8) (v := .int a) (ty := .int) (C := RX8) (T := TX8) (N := 17) hx hb hts hIX8 tyX8 tyX8_ok nmX8 hown hK hP hD hS 0 rfl rfl 11 (by decide) (hts (.fieldLink RX8 83 "TraitHouse" "now" "I") (by decide +kernel)) (fun _ h9 => h9) rfl (by decide +kernel) rfl rfl (Nat.le_of_ble_eq_true rfl) dX8_now_23 (fun H locs hP hD hS => ?_)
      have hP : va_P (dC, dI) vwCl [(h0, .inr (8, [.ref hRows, .ref hMer, .ref hEra, .ref hTape, .ref hRea, .ref hTra, .ref hWor, .ref hPla, .ref hMod, .ref hHe1, .ref hHe2, .int a, .int 0, .int 0, .int 0, .int (-1), .int 0]))] H := hP
      have hD : va_D A [(h0, .inr (8, [.ref hRows, .ref hMer, .ref hEra, .ref hTape, .ref hRea, .ref hTra, .ref hWor, .ref hPla, .ref hMod, .ref hHe1, .ref hHe2, .int a, .int 0, .int 0, .int 0, .int (-1), .int 0]))] := hD
      refine lv_aload_n hx hb dX8_now_26 rfl (lv_at hl 0 rfl) ?_
      refine lv_iconst (v := 0) hx hb dX8_now_27 (by decide) ?_
      have hk_12 : (0 : Int32).toInt = 0 := by decide
      have hk_13 : ((-1) : Int32).toInt = (-1) := by decide
      have hPc := hP.sub (ws' := [(h0, .inr (8, [.ref hRows, .ref hMer, .ref hEra, .ref hTape, .ref hRea, .ref hTra, .ref hWor, .ref hPla, .ref hMod, .ref hHe1, .ref hHe2, .int a, .int 0, .int 0, .int 0, .int (-1), .int 0]))]) [0] rfl
      have hDc := hD.sub (ws' := [(h0, .inr (8, [.ref hRows, .ref hMer, .ref hEra, .ref hTape, .ref hRea, .ref hTra, .ref hWor, .ref hPla, .ref hMod, .ref hHe1, .ref hHe2, .int a, .int 0, .int 0, .int 0, .int (-1), .int 0]))]) [0] (by decide) rfl
      have hKc := hK.sub (tys' := []) [] rfl
      have hFc := va_free (wc := [(h0, .inr (8, [.ref hRows, .ref hMer, .ref hEra, .ref hTape, .ref hRea, .ref hTra, .ref hWor, .ref hPla, .ref hMod, .ref hHe1, .ref hHe2, .int a, .int 0, .int 0, .int 0, .int (-1), .int 0]))]) hD hS hA [0] rfl
      refine va_calli (va_runV (As := [.int 0]) (rest := []) ⟨hx, hb, hml, hown, hts⟩ (c_X8_settle l dC dI H.size h0 hRows hMer hEra hTape hRea hTra hWor hPla hMod hHe1 hHe2 a 0 0 0 (-1) 0 0 ) (cwV 1 hts gX8_now_X8_settle rfl rfl rfl (by decide +kernel) ⟨Nat.le_of_ble_eq_true rfl, Nat.le_of_ble_eq_true rfl⟩) ⟨fun a U g mk q => by obtain ⟨q0, q1, qP, qK, qD, qN⟩ := q; exact ⟨q0, q1, qP, va_K.moved (u := U) (U := U.calling g mk a) (Vm.Alike.refl U.vm) qK, qD, qN.same rfl⟩, va_recv hKc hPc (ci := 8) (q0 := 0) rfl rfl, fun U hU hW => ⟨rfl, by rw [hU], by rw [hU]; exact hPc, va_K.moved hW.alike hKc, hDc.weaken (fun _ _ _ _ => trivial), hN.warm hW⟩⟩ rfl rfl hl.1 rfl (lv_room (Nat.le_of_ble_eq_true rfl)) dX8_now_28 ⟨Nat.le_of_ble_eq_true rfl, Nat.le_of_ble_eq_true rfl⟩) hS (fun q _ h => hFc q h) hFc (fun r_14 u_15 t H1 locs ht hvm hw_16 hB hz1 hk1 hS => ?_)
      obtain ⟨w_17, rfl⟩ : ∃ z, z = u_15 := ⟨_, rfl⟩
      try dsimp only at hw_16
      obtain ⟨hP1, hK1, hD1⟩ := hB
      rw [ht] at hP1
      have hK1 := va_K.moved hvm.symm hK1
      obtain ⟨hP, hD⟩ := va_join (wr := []) (w1 := [(h0, .inr (8, [.ref hRows, .ref hMer, .ref hEra, .ref hTape, .ref hRea, .ref hTra, .ref hWor, .ref hPla, .ref hMod, .ref hHe1, .ref hHe2, .int a, .int 0, .int 0, .int 0, .int (-1), .int w_17]))]) hP hD [0] [] rfl rfl (by decide) (by decide) hk1 hFc hP1 hD1
      have hK := (hK.sub (tys' := []) [] rfl).app hK1
      generalize H1 = H at hP hS ⊢
      have hP : va_P (dC, dI) vwCl [(h0, .inr (8, [.ref hRows, .ref hMer, .ref hEra, .ref hTape, .ref hRea, .ref hTra, .ref hWor, .ref hPla, .ref hMod, .ref hHe1, .ref hHe2, .int a, .int 0, .int 0, .int 0, .int (-1), .int w_17]))] H := hP
      have hD : va_D A [(h0, .inr (8, [.ref hRows, .ref hMer, .ref hEra, .ref hTape, .ref hRea, .ref hTra, .ref hWor, .ref hPla, .ref hMod, .ref hHe1, .ref hHe2, .int a, .int 0, .int 0, .int 0, .int (-1), .int w_17]))] := hD
      have hK : va_K (dC, dI) vwCl [] s := hK
      obtain rfl : 0 = r_14 := hw_16.symm
      have hans : (0 : Int32).toInt = 0 := (by decide)
      exact W.iret (v := 0) hx hb hr (fun t ht hW => ⟨⟨0, (), rfl, by first | omega | (dsimp only; omega), trivial⟩, hS.F ht⟩) hS.2.2 dX8_now_31
    · have dc_11 : a.toInt < 0 := jI_nle c_11 (by decide) rfl
      exfalso; omega
