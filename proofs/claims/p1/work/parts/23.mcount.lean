theorem dX9_living_0 : decode cX9_living 0 = .ok (.iconst 0, 1) := by decide +kernel
theorem dX9_living_1 : decode cX9_living 1 = .ok (.istore_n 1, 1) := by decide +kernel
theorem dX9_living_2 : decode cX9_living 2 = .ok (.iconst 0, 1) := by decide +kernel
theorem dX9_living_3 : decode cX9_living 3 = .ok (.istore_n 2, 1) := by decide +kernel
theorem dX9_living_4 : decode cX9_living 4 = .ok (.iload_n 2, 1) := by decide +kernel
theorem dX9_living_5 : decode cX9_living 5 = .ok (.bipush 20, 2) := by decide +kernel
theorem dX9_living_7 : decode cX9_living 7 = .ok (.if_icmp .ge 26, 3) := by decide +kernel
theorem dX9_living_33 : decode cX9_living 33 = .ok (.iload_n 1, 1) := by decide +kernel
theorem dX9_living_34 : decode cX9_living 34 = .ok (.ireturn, 1) := by decide +kernel
theorem dX9_living_10 : decode cX9_living 10 = .ok (.iload_n 1, 1) := by decide +kernel
theorem dX9_living_11 : decode cX9_living 11 = .ok (.aload_n 0, 1) := by decide +kernel
theorem dX9_living_12 : decode cX9_living 12 = .ok (.getfield 35, 3) := by decide +kernel
theorem dX9_living_15 : decode cX9_living 15 = .ok (.iload_n 2, 1) := by decide +kernel
theorem dX9_living_16 : decode cX9_living 16 = .ok (.baload, 1) := by decide +kernel
theorem dX9_living_17 : decode cX9_living 17 = .ok (.ifCond .eq 7, 3) := by decide +kernel
theorem dX9_living_24 : decode cX9_living 24 = .ok (.iconst 1, 1) := by decide +kernel
theorem dX9_living_25 : decode cX9_living 25 = .ok (.iadd, 1) := by decide +kernel
theorem dX9_living_26 : decode cX9_living 26 = .ok (.istore_n 1, 1) := by decide +kernel
theorem dX9_living_27 : decode cX9_living 27 = .ok (.iinc 2 1, 3) := by decide +kernel
theorem dX9_living_30 : decode cX9_living 30 = .ok (.goto (-26), 3) := by decide +kernel
theorem dX9_count_0 : decode cX9_count 0 = .ok (.iconst 0, 1) := by decide +kernel
theorem dX9_count_1 : decode cX9_count 1 = .ok (.istore_n 2, 1) := by decide +kernel
theorem dX9_count_2 : decode cX9_count 2 = .ok (.iload_n 1, 1) := by decide +kernel
theorem dX9_count_3 : decode cX9_count 3 = .ok (.tableswitch 118 0 7 #[45, 50, 85, 90, 98, 103, 108, 113], 45) := by decide +kernel
theorem dX9_count_121 : decode cX9_count 121 = .ok (.iconst (-1), 1) := by decide +kernel
theorem dX9_count_122 : decode cX9_count 122 = .ok (.ireturn, 1) := by decide +kernel
theorem dX9_count_48 : decode cX9_count 48 = .ok (.aload_n 0, 1) := by decide +kernel
theorem dX9_count_49 : decode cX9_count 49 = .ok (.getfield 133, 3) := by decide +kernel
theorem dX9_count_52 : decode cX9_count 52 = .ok (.ireturn, 1) := by decide +kernel
theorem dX9_count_53 : decode cX9_count 53 = .ok (.iconst 0, 1) := by decide +kernel
theorem dX9_count_54 : decode cX9_count 54 = .ok (.istore_n 3, 1) := by decide +kernel
theorem dX9_count_55 : decode cX9_count 55 = .ok (.iload_n 3, 1) := by decide +kernel
theorem dX9_count_56 : decode cX9_count 56 = .ok (.aload_n 0, 1) := by decide +kernel
theorem dX9_count_57 : decode cX9_count 57 = .ok (.getfield 153, 3) := by decide +kernel
theorem dX9_count_60 : decode cX9_count 60 = .ok (.if_icmp .ge 26, 3) := by decide +kernel
theorem dX9_count_86 : decode cX9_count 86 = .ok (.iload_n 2, 1) := by decide +kernel
theorem dX9_count_87 : decode cX9_count 87 = .ok (.ireturn, 1) := by decide +kernel
theorem dX9_count_88 : decode cX9_count 88 = .ok (.aload_n 0, 1) := by decide +kernel
theorem dX9_count_89 : decode cX9_count 89 = .ok (.getfield 161, 3) := by decide +kernel
theorem dX9_count_92 : decode cX9_count 92 = .ok (.ireturn, 1) := by decide +kernel
theorem dX9_count_93 : decode cX9_count 93 = .ok (.bipush 20, 2) := by decide +kernel
theorem dX9_count_95 : decode cX9_count 95 = .ok (.aload_n 0, 1) := by decide +kernel
set_option maxRecDepth 20000 in
theorem ggX9_count_X9_living : GoodIn wsX9_count wsX9_living := goodIn_r _ [13, 14, 15, 16, 17, 18, 19, 20, 21, 22, 23, 24, 25, 26, 27, 28, 29, 30, 31, 32, 33, 34, 35, 36, 37, 38, 39, 40, 41, 42, 43, 44, 45, 46, 47, 48, 49, 50, 51, 52, 53, 54, 55, 56, 57, 58, 59, 60, 61, 62, 63, 64, 65] (by decide +kernel) (by decide +kernel)
set_option maxRecDepth 20000 in
theorem gX9_count_X9_living : GoodIn wsX9_count (wsV RX9 315 RX9 yX9_living wsX9_living) := goodIn_app (goodIn_of _ (by decide +kernel)) ggX9_count_X9_living
theorem dX9_count_96 : decode cX9_count 96 = .ok (.invokevirtual 315, 3) := by decide +kernel
theorem dX9_count_99 : decode cX9_count 99 = .ok (.isub, 1) := by decide +kernel
theorem dX9_count_100 : decode cX9_count 100 = .ok (.ireturn, 1) := by decide +kernel
theorem dX9_count_101 : decode cX9_count 101 = .ok (.aload_n 0, 1) := by decide +kernel
theorem dX9_count_102 : decode cX9_count 102 = .ok (.getfield 197, 3) := by decide +kernel
theorem dX9_count_105 : decode cX9_count 105 = .ok (.ireturn, 1) := by decide +kernel
theorem dX9_count_106 : decode cX9_count 106 = .ok (.aload_n 0, 1) := by decide +kernel
theorem dX9_count_107 : decode cX9_count 107 = .ok (.getfield 323, 3) := by decide +kernel
theorem dX9_count_110 : decode cX9_count 110 = .ok (.ireturn, 1) := by decide +kernel
theorem dX9_count_111 : decode cX9_count 111 = .ok (.aload_n 0, 1) := by decide +kernel
theorem dX9_count_112 : decode cX9_count 112 = .ok (.getfield 304, 3) := by decide +kernel
theorem dX9_count_115 : decode cX9_count 115 = .ok (.ireturn, 1) := by decide +kernel
theorem dX9_count_116 : decode cX9_count 116 = .ok (.aload_n 0, 1) := by decide +kernel
theorem dX9_count_117 : decode cX9_count 117 = .ok (.getfield 164, 3) := by decide +kernel
theorem dX9_count_120 : decode cX9_count 120 = .ok (.ireturn, 1) := by decide +kernel
set_option maxHeartbeats 4000000 in
set_option maxRecDepth 100000 in
theorem c_X9_living (l : Launch) (dC : Nat → ClassId) (dI : Nat → Nat → Nat) (sz : Nat) (m0 : Nat) (m_rowPerson : Nat) (m_rowStream : Nat) (m_rowMoment : Nat) (m_rowKnown : Nat) (m_rowValue : Nat) (m_isGone : Nat) (m_mergeTo : Nat) (m_mergeKnown : Nat) (m_isErased : Nat) (m_tape : Nat) (m_five : Nat) (m_size0 : Nat) (m_step : Nat) (m_stepA : Nat) (m_stepB : Nat) (m_stepC : Nat) (m_values : Nat) (m_heap : Nat) (m_isOne : Nat) (m_lawFrom : Nat) (m_lawTo : Nat) (m_hasLaw : Nat) (m_limits : Nat) (m_held : Nat) (m_hasKept : Nat) (m_kept : Nat) (m_keptAt : Nat) (m_placeTrait : Nat) (m_placePerson : Nat) (m_placeMoment : Nat) (m_placeValue : Nat) (m_isFilled : Nat) (m_uses : Nat) (m_heapsOne : Nat) (m_heapsOther : Nat) (k_isErased : ClassId)  : Met l yX9_living wsX9_living ({ frames := 0, cells := 0, slots := 0, locals := 0 }) (va_Pc [.ref m0] (fun U => U.heap.size = sz ∧ va_P (dC, dI) vwCl [(m0, .inr (9, [.int 0, .int 0, .int 0, .ref m_rowPerson, .ref m_rowStream, .ref m_rowMoment, .ref m_rowKnown, .ref m_rowValue, .ref m_isGone, .ref m_mergeTo, .ref m_mergeKnown, .int 0, .ref m_isErased, .ref m_tape, .int 0, .int 0, .int 0, .int 0, .int (-1), .int 0, .ref m_five, .int 0, .int 0, .int 0, .int 0, .ref m_size0, .ref m_step, .ref m_stepA, .ref m_stepB, .ref m_stepC, .ref m_values, .ref m_heap, .ref m_isOne, .ref m_lawFrom, .ref m_lawTo, .ref m_hasLaw, .ref m_limits, .ref m_held, .ref m_hasKept, .ref m_kept, .ref m_keptAt, .int 0, .ref m_placeTrait, .ref m_placePerson, .ref m_placeMoment, .ref m_placeValue, .ref m_isFilled, .int 0, .ref m_uses, .ref m_heapsOne, .ref m_heapsOther])), (m_isErased, .inl (k_isErased, 20, .inl (fun _ => 0)))] U.heap ∧ va_K (dC, dI) vwCl [(k_isErased, .boolean)] U ∧ va_D (fun _ => True) [(m0, .inr (9, [.int 0, .int 0, .int 0, .ref m_rowPerson, .ref m_rowStream, .ref m_rowMoment, .ref m_rowKnown, .ref m_rowValue, .ref m_isGone, .ref m_mergeTo, .ref m_mergeKnown, .int 0, .ref m_isErased, .ref m_tape, .int 0, .int 0, .int 0, .int 0, .int (-1), .int 0, .ref m_five, .int 0, .int 0, .int 0, .int 0, .ref m_size0, .ref m_step, .ref m_stepA, .ref m_stepB, .ref m_stepC, .ref m_values, .ref m_heap, .ref m_isOne, .ref m_lawFrom, .ref m_lawTo, .ref m_hasLaw, .ref m_limits, .ref m_held, .ref m_hasKept, .ref m_kept, .ref m_keptAt, .int 0, .ref m_placeTrait, .ref m_placePerson, .ref m_placeMoment, .ref m_placeValue, .ref m_isFilled, .int 0, .ref m_uses, .ref m_heapsOne, .ref m_heapsOther])), (m_isErased, .inl (k_isErased, 20, .inl (fun _ => 0)))] ∧ nw_ok U)) (va_Qi (fun (r : Int32) (_ : Unit) => r.toInt = 20) (fun (_ : Unit) (t : State) => True) (va_A [(m0, .inr (9, [.int 0, .int 0, .int 0, .ref m_rowPerson, .ref m_rowStream, .ref m_rowMoment, .ref m_rowKnown, .ref m_rowValue, .ref m_isGone, .ref m_mergeTo, .ref m_mergeKnown, .int 0, .ref m_isErased, .ref m_tape, .int 0, .int 0, .int 0, .int 0, .int (-1), .int 0, .ref m_five, .int 0, .int 0, .int 0, .int 0, .ref m_size0, .ref m_step, .ref m_stepA, .ref m_stepB, .ref m_stepC, .ref m_values, .ref m_heap, .ref m_isOne, .ref m_lawFrom, .ref m_lawTo, .ref m_hasLaw, .ref m_limits, .ref m_held, .ref m_hasKept, .ref m_kept, .ref m_keptAt, .int 0, .ref m_placeTrait, .ref m_placePerson, .ref m_placeMoment, .ref m_placeValue, .ref m_isFilled, .int 0, .ref m_uses, .ref m_heapsOne, .ref m_heapsOther])), (m_isErased, .inl (k_isErased, 20, .inl (fun _ => 0)))] sz)) 0 0 (va_A [(m0, .inr (9, [.int 0, .int 0, .int 0, .ref m_rowPerson, .ref m_rowStream, .ref m_rowMoment, .ref m_rowKnown, .ref m_rowValue, .ref m_isGone, .ref m_mergeTo, .ref m_mergeKnown, .int 0, .ref m_isErased, .ref m_tape, .int 0, .int 0, .int 0, .int 0, .int (-1), .int 0, .ref m_five, .int 0, .int 0, .int 0, .int 0, .ref m_size0, .ref m_step, .ref m_stepA, .ref m_stepB, .ref m_stepC, .ref m_values, .ref m_heap, .ref m_isOne, .ref m_lawFrom, .ref m_lawTo, .ref m_hasLaw, .ref m_limits, .ref m_held, .ref m_hasKept, .ref m_kept, .ref m_keptAt, .int 0, .ref m_placeTrait, .ref m_placePerson, .ref m_placeMoment, .ref m_placeValue, .ref m_isFilled, .int 0, .ref m_uses, .ref m_heapsOne, .ref m_heapsOther])), (m_isErased, .inl (k_isErased, 20, .inl (fun _ => 0)))] sz) := by
  refine Met.ofW (cc := cX9_living) (maxL := 3) (ret := (some .int)) (by decide) rfl ?_
  intro p e s m args below meth c s₁ B hml hv
  obtain ⟨rfl, hsz, hP, hK, hD0, hN⟩ := hv
  have hx := B.exec
  have hb := B.bytes
  have hr := B.returns
  have hts := atoms_spec (ws := wsX9_living) B.pre
  have hown : s.vm.findClass RX9 = some m.cls := findClass_of_methodNamed B.named
  have hlocks := B.notSynchronized
  subst hsz
  have hD := hD0.self (sz := s.heap.size)
  generalize hAe : va_A [(m0, .inr (9, [.int 0, .int 0, .int 0, .ref m_rowPerson, .ref m_rowStream, .ref m_rowMoment, .ref m_rowKnown, .ref m_rowValue, .ref m_isGone, .ref m_mergeTo, .ref m_mergeKnown, .int 0, .ref m_isErased, .ref m_tape, .int 0, .int 0, .int 0, .int 0, .int (-1), .int 0, .ref m_five, .int 0, .int 0, .int 0, .int 0, .ref m_size0, .ref m_step, .ref m_stepA, .ref m_stepB, .ref m_stepC, .ref m_values, .ref m_heap, .ref m_isOne, .ref m_lawFrom, .ref m_lawTo, .ref m_hasLaw, .ref m_limits, .ref m_held, .ref m_hasKept, .ref m_kept, .ref m_keptAt, .int 0, .ref m_placeTrait, .ref m_placePerson, .ref m_placeMoment, .ref m_placeValue, .ref m_isFilled, .int 0, .ref m_uses, .ref m_heapsOne, .ref m_heapsOther])), (m_isErased, .inl (k_isErased, 20, .inl (fun _ => 0)))] s.heap.size = A at hD ⊢
  have hA : ∀ q : Nat, s.heap.size ≤ q → A q := fun q h => by rw [← hAe]; exact Or.inr h
  have hS : va_S A s.heap s.heap [] := va_S.rf
  have hP : va_P (dC, dI) vwCl [(m0, .inr (9, [.int 0, .int 0, .int 0, .ref m_rowPerson, .ref m_rowStream, .ref m_rowMoment, .ref m_rowKnown, .ref m_rowValue, .ref m_isGone, .ref m_mergeTo, .ref m_mergeKnown, .int 0, .ref m_isErased, .ref m_tape, .int 0, .int 0, .int 0, .int 0, .int (-1), .int 0, .ref m_five, .int 0, .int 0, .int 0, .int 0, .ref m_size0, .ref m_step, .ref m_stepA, .ref m_stepB, .ref m_stepC, .ref m_values, .ref m_heap, .ref m_isOne, .ref m_lawFrom, .ref m_lawTo, .ref m_hasLaw, .ref m_limits, .ref m_held, .ref m_hasKept, .ref m_kept, .ref m_keptAt, .int 0, .ref m_placeTrait, .ref m_placePerson, .ref m_placeMoment, .ref m_placeValue, .ref m_isFilled, .int 0, .ref m_uses, .ref m_heapsOne, .ref m_heapsOther])), (m_isErased, .inl (k_isErased, 20, .inl (fun _ => 0)))] s.heap := hP
  have hIX9 : ∀ w ∈ u_ws RX9 TX9 51, w ∈ wsX9_living := by decide +kernel
  have hl := lv_entry ([.ref m0]) (n := 3) (Nat.le_of_ble_eq_true rfl)
  rw [lg_entry_eq]
  generalize (lg_sl ([.ref m0]) ++ List.replicate (3 - (lg_sl ([.ref m0])).length) Slot.unset).toArray = ls at hl ⊢
  have hl : lv_has ls 3 [(0, .ref m0)] := hl
  generalize hQe : MQ below _ _ _ _ _ _ = QQ
  refine lv_iconst (v := 0) hx hb dX9_living_0 (by decide) ?_
  refine lv_istore_n (lv' := [(1, .int 0), (0, .ref m0)]) hx hb dX9_living_1 rfl hl (by decide) rfl (fun ls hl => ?_)
  refine lv_iconst (v := 0) hx hb dX9_living_2 (by decide) ?_
  refine lv_istore_n (lv' := [(2, .int 0), (1, .int 0), (0, .ref m0)]) hx hb dX9_living_3 rfl hl (by decide) rfl (fun ls hl => ?_)
  have loop : ∀ (n : Nat) (i4 : Int32) (nn : Int32) (H : Heap) (locs : List Loc) (ls : Array Slot), 0 ≤ i4.toInt → i4.toInt ≤ 20 → 20 < i4.toInt + n → (nn.toInt = i4.toInt) → va_P (dC, dI) vwCl [(m0, .inr (9, [.int 0, .int 0, .int 0, .ref m_rowPerson, .ref m_rowStream, .ref m_rowMoment, .ref m_rowKnown, .ref m_rowValue, .ref m_isGone, .ref m_mergeTo, .ref m_mergeKnown, .int 0, .ref m_isErased, .ref m_tape, .int 0, .int 0, .int 0, .int 0, .int (-1), .int 0, .ref m_five, .int 0, .int 0, .int 0, .int 0, .ref m_size0, .ref m_step, .ref m_stepA, .ref m_stepB, .ref m_stepC, .ref m_values, .ref m_heap, .ref m_isOne, .ref m_lawFrom, .ref m_lawTo, .ref m_hasLaw, .ref m_limits, .ref m_held, .ref m_hasKept, .ref m_kept, .ref m_keptAt, .int 0, .ref m_placeTrait, .ref m_placePerson, .ref m_placeMoment, .ref m_placeValue, .ref m_isFilled, .int 0, .ref m_uses, .ref m_heapsOne, .ref m_heapsOther])), (m_isErased, .inl (k_isErased, 20, .inl (fun _ => 0)))] H → va_D A [(m0, .inr (9, [.int 0, .int 0, .int 0, .ref m_rowPerson, .ref m_rowStream, .ref m_rowMoment, .ref m_rowKnown, .ref m_rowValue, .ref m_isGone, .ref m_mergeTo, .ref m_mergeKnown, .int 0, .ref m_isErased, .ref m_tape, .int 0, .int 0, .int 0, .int 0, .int (-1), .int 0, .ref m_five, .int 0, .int 0, .int 0, .int 0, .ref m_size0, .ref m_step, .ref m_stepA, .ref m_stepB, .ref m_stepC, .ref m_values, .ref m_heap, .ref m_isOne, .ref m_lawFrom, .ref m_lawTo, .ref m_hasLaw, .ref m_limits, .ref m_held, .ref m_hasKept, .ref m_kept, .ref m_keptAt, .int 0, .ref m_placeTrait, .ref m_placePerson, .ref m_placeMoment, .ref m_placeValue, .ref m_isFilled, .int 0, .ref m_uses, .ref m_heapsOne, .ref m_heapsOther])), (m_isErased, .inl (k_isErased, 20, .inl (fun _ => 0)))] → va_S A s.heap H locs → lv_has ls 3 [(2, .int i4), (1, .int nn), (0, .ref m0)] → W p l e ({ frames := 0, cells := 0, slots := 0, locals := 0 }) s m ([.ref m0] : List Value).toArray below meth c H locs 0 0 QQ (F0 m 4 ls []) := by
    intro n
    induction n with
    | zero => intro i4 nn H locs ls hi0 hi1 hi2; exfalso; omega
    | succ n ih =>
      intro i4 nn H locs ls hi0 hi1 hi2 hv0 hP hD hS hl
      refine lv_iload_n hx hb dX9_living_4 rfl (lv_at hl 0 rfl) ?_
      refine lv_bipush (v := 20) hx hb dX9_living_5 (by decide) ?_
      refine lv_icmp_ge (tgt := 33) hx hb dX9_living_7 (by decide) (fun c_1 => ?_) (fun c_1 => ?_)
      · have dc_1 : 20 ≤ i4.toInt := jI_le c_1 (by decide) rfl
        refine lv_iload_n hx hb dX9_living_33 rfl (lv_at hl 1 rfl) ?_
        subst hQe
        have hans : (nn : Int32).toInt = nn.toInt := rfl
        exact W.iret (v := nn) hx hb hr (fun t ht hW => ⟨⟨nn, (), rfl, by first | omega | (dsimp only; omega), trivial⟩, hS.F ht⟩) hS.2.2 dX9_living_34
      · have dc_1 : i4.toInt < 20 := jI_nle c_1 (by decide) rfl
        refine lv_iload_n hx hb dX9_living_10 rfl (lv_at hl 1 rfl) ?_
        refine lv_aload_n hx hb dX9_living_11 rfl (lv_at hl 2 rfl) ?_
        refine va_get (D := (dC, dI)) (ci := 9) (v := .ref m_isErased) (C := RX9) (T := TX9) (N := 51) hx hb hts hIX9 hown hK hP 0 rfl rfl 12 (by decide) (hts (.fieldLink RX9 35 "TraitHouseModel" "isErased" "[Z") (by decide +kernel)) (fun _ h9 => h9) rfl dX9_living_12 ?_
        refine lv_iload_n hx hb dX9_living_15 rfl (lv_at hl 0 rfl) ?_
        have h_2 : vp_in i4 20 := (vp_in_iff.mpr ⟨by omega, by omega⟩)
        refine va_zald hx hb hK hP 1 0 rfl rfl h_2 dX9_living_16 ?_
        refine lv_topi (fun x_3 ex_3 => ?_)
        obtain rfl : x_3 = 0 := ex_3
        refine lv_if_eq (tgt := 24) hx hb dX9_living_17 (by decide) (fun c_4 => ?_) (fun c_4 => absurd (by decide) c_4)
        refine lv_iconst (v := 1) hx hb dX9_living_24 (by decide) ?_
        refine lv_iadd hx hb dX9_living_25 ?_
        refine lv_topi (fun x_5 ex_5 => ?_)
        have dx_5 : x_5.toInt = nn.toInt + 1 := by rw [ex_5]; exact jI_add rfl (by decide) (by omega) (by omega)
        refine lv_istore_n (lv' := [(1, .int x_5), (2, .int i4), (0, .ref m0)]) hx hb dX9_living_26 rfl hl (by decide) rfl (fun ls hl => ?_)
        obtain ⟨x_6, ex_6⟩ : ∃ y : Int32, y = i4 + 1 := ⟨_, rfl⟩
        have dx_6 : x_6.toInt = i4.toInt + 1 := by rw [ex_6]; exact jI_add rfl (by decide) (by omega) (by omega)
        refine lv_iinc (v := x_6) (lv' := [(2, .int x_6), (1, .int x_5), (0, .ref m0)]) hx hb dX9_living_27 hl (k := 1) rfl (by rw [ex_6]; rfl) (by decide) rfl (fun ls hl => ?_)
        refine lv_goto (tgt := 4) hx hb dX9_living_30 (by decide) ?_
        exact ih x_6 x_5 _ _ ls (by omega) (by omega) (by omega)  (by omega) (hP.sub [0, 1] rfl) (hD.sub [0, 1] (by decide) rfl) hS (lv_sub hl [0, 1, 2] rfl)
  exact loop 21 0 0 _ _ ls (by decide) (by decide) (by decide)  (by decide) hP hD hS (lv_sub hl [0, 1, 2] rfl)

set_option maxHeartbeats 4000000 in
set_option maxRecDepth 100000 in
theorem c_X9_count (l : Launch) (dC : Nat → ClassId) (dI : Nat → Nat → Nat) (sz : Nat) (m0 : Nat) (m_rowPerson : Nat) (m_rowStream : Nat) (m_rowMoment : Nat) (m_rowKnown : Nat) (m_rowValue : Nat) (m_isGone : Nat) (m_mergeTo : Nat) (m_mergeKnown : Nat) (m_isErased : Nat) (m_tape : Nat) (m_five : Nat) (m_size0 : Nat) (m_step : Nat) (m_stepA : Nat) (m_stepB : Nat) (m_stepC : Nat) (m_values : Nat) (m_heap : Nat) (m_isOne : Nat) (m_lawFrom : Nat) (m_lawTo : Nat) (m_hasLaw : Nat) (m_limits : Nat) (m_held : Nat) (m_hasKept : Nat) (m_kept : Nat) (m_keptAt : Nat) (m_placeTrait : Nat) (m_placePerson : Nat) (m_placeMoment : Nat) (m_placeValue : Nat) (m_isFilled : Nat) (m_uses : Nat) (m_heapsOne : Nat) (m_heapsOther : Nat) (k_isErased : ClassId) (a : Int32)  : Met l yX9_count wsX9_count ({ frames := 1, cells := 0, slots := 0, locals := 22 }) (va_Pc [.ref m0, .int a] (fun U => U.heap.size = sz ∧ va_P (dC, dI) vwCl [(m0, .inr (9, [.int 0, .int 0, .int 0, .ref m_rowPerson, .ref m_rowStream, .ref m_rowMoment, .ref m_rowKnown, .ref m_rowValue, .ref m_isGone, .ref m_mergeTo, .ref m_mergeKnown, .int 0, .ref m_isErased, .ref m_tape, .int 0, .int 0, .int 0, .int 0, .int (-1), .int 0, .ref m_five, .int 0, .int 0, .int 0, .int 0, .ref m_size0, .ref m_step, .ref m_stepA, .ref m_stepB, .ref m_stepC, .ref m_values, .ref m_heap, .ref m_isOne, .ref m_lawFrom, .ref m_lawTo, .ref m_hasLaw, .ref m_limits, .ref m_held, .ref m_hasKept, .ref m_kept, .ref m_keptAt, .int 0, .ref m_placeTrait, .ref m_placePerson, .ref m_placeMoment, .ref m_placeValue, .ref m_isFilled, .int 0, .ref m_uses, .ref m_heapsOne, .ref m_heapsOther])), (m_isErased, .inl (k_isErased, 20, .inl (fun _ => 0)))] U.heap ∧ va_K (dC, dI) vwCl [(k_isErased, .boolean)] U ∧ va_D (fun _ => True) [(m0, .inr (9, [.int 0, .int 0, .int 0, .ref m_rowPerson, .ref m_rowStream, .ref m_rowMoment, .ref m_rowKnown, .ref m_rowValue, .ref m_isGone, .ref m_mergeTo, .ref m_mergeKnown, .int 0, .ref m_isErased, .ref m_tape, .int 0, .int 0, .int 0, .int 0, .int (-1), .int 0, .ref m_five, .int 0, .int 0, .int 0, .int 0, .ref m_size0, .ref m_step, .ref m_stepA, .ref m_stepB, .ref m_stepC, .ref m_values, .ref m_heap, .ref m_isOne, .ref m_lawFrom, .ref m_lawTo, .ref m_hasLaw, .ref m_limits, .ref m_held, .ref m_hasKept, .ref m_kept, .ref m_keptAt, .int 0, .ref m_placeTrait, .ref m_placePerson, .ref m_placeMoment, .ref m_placeValue, .ref m_isFilled, .int 0, .ref m_uses, .ref m_heapsOne, .ref m_heapsOther])), (m_isErased, .inl (k_isErased, 20, .inl (fun _ => 0)))] ∧ nw_ok U)) (va_Qi (fun (r : Int32) (_ : Unit) => (0 ≤ a.toInt ∧ a.toInt ≤ 7 → r.toInt = 0) ∧ (¬ (0 ≤ a.toInt ∧ a.toInt ≤ 7) → r.toInt = (-1))) (fun (_ : Unit) (t : State) => True) (va_A [(m0, .inr (9, [.int 0, .int 0, .int 0, .ref m_rowPerson, .ref m_rowStream, .ref m_rowMoment, .ref m_rowKnown, .ref m_rowValue, .ref m_isGone, .ref m_mergeTo, .ref m_mergeKnown, .int 0, .ref m_isErased, .ref m_tape, .int 0, .int 0, .int 0, .int 0, .int (-1), .int 0, .ref m_five, .int 0, .int 0, .int 0, .int 0, .ref m_size0, .ref m_step, .ref m_stepA, .ref m_stepB, .ref m_stepC, .ref m_values, .ref m_heap, .ref m_isOne, .ref m_lawFrom, .ref m_lawTo, .ref m_hasLaw, .ref m_limits, .ref m_held, .ref m_hasKept, .ref m_kept, .ref m_keptAt, .int 0, .ref m_placeTrait, .ref m_placePerson, .ref m_placeMoment, .ref m_placeValue, .ref m_isFilled, .int 0, .ref m_uses, .ref m_heapsOne, .ref m_heapsOther])), (m_isErased, .inl (k_isErased, 20, .inl (fun _ => 0)))] sz)) 0 0 (va_A [(m0, .inr (9, [.int 0, .int 0, .int 0, .ref m_rowPerson, .ref m_rowStream, .ref m_rowMoment, .ref m_rowKnown, .ref m_rowValue, .ref m_isGone, .ref m_mergeTo, .ref m_mergeKnown, .int 0, .ref m_isErased, .ref m_tape, .int 0, .int 0, .int 0, .int 0, .int (-1), .int 0, .ref m_five, .int 0, .int 0, .int 0, .int 0, .ref m_size0, .ref m_step, .ref m_stepA, .ref m_stepB, .ref m_stepC, .ref m_values, .ref m_heap, .ref m_isOne, .ref m_lawFrom, .ref m_lawTo, .ref m_hasLaw, .ref m_limits, .ref m_held, .ref m_hasKept, .ref m_kept, .ref m_keptAt, .int 0, .ref m_placeTrait, .ref m_placePerson, .ref m_placeMoment, .ref m_placeValue, .ref m_isFilled, .int 0, .ref m_uses, .ref m_heapsOne, .ref m_heapsOther])), (m_isErased, .inl (k_isErased, 20, .inl (fun _ => 0)))] sz) := by
  refine Met.ofW (cc := cX9_count) (maxL := 4) (ret := (some .int)) (by decide) rfl ?_
  intro p e s m args below meth c s₁ B hml hv
  obtain ⟨rfl, hsz, hP, hK, hD0, hN⟩ := hv
  have hx := B.exec
  have hb := B.bytes
  have hr := B.returns
  have hts := atoms_spec (ws := wsX9_count) B.pre
  have hown : s.vm.findClass RX9 = some m.cls := findClass_of_methodNamed B.named
  have hlocks := B.notSynchronized
  subst hsz
  have hD := hD0.self (sz := s.heap.size)
  generalize hAe : va_A [(m0, .inr (9, [.int 0, .int 0, .int 0, .ref m_rowPerson, .ref m_rowStream, .ref m_rowMoment, .ref m_rowKnown, .ref m_rowValue, .ref m_isGone, .ref m_mergeTo, .ref m_mergeKnown, .int 0, .ref m_isErased, .ref m_tape, .int 0, .int 0, .int 0, .int 0, .int (-1), .int 0, .ref m_five, .int 0, .int 0, .int 0, .int 0, .ref m_size0, .ref m_step, .ref m_stepA, .ref m_stepB, .ref m_stepC, .ref m_values, .ref m_heap, .ref m_isOne, .ref m_lawFrom, .ref m_lawTo, .ref m_hasLaw, .ref m_limits, .ref m_held, .ref m_hasKept, .ref m_kept, .ref m_keptAt, .int 0, .ref m_placeTrait, .ref m_placePerson, .ref m_placeMoment, .ref m_placeValue, .ref m_isFilled, .int 0, .ref m_uses, .ref m_heapsOne, .ref m_heapsOther])), (m_isErased, .inl (k_isErased, 20, .inl (fun _ => 0)))] s.heap.size = A at hD ⊢
  have hA : ∀ q : Nat, s.heap.size ≤ q → A q := fun q h => by rw [← hAe]; exact Or.inr h
  have hS : va_S A s.heap s.heap [] := va_S.rf
  have hP : va_P (dC, dI) vwCl [(m0, .inr (9, [.int 0, .int 0, .int 0, .ref m_rowPerson, .ref m_rowStream, .ref m_rowMoment, .ref m_rowKnown, .ref m_rowValue, .ref m_isGone, .ref m_mergeTo, .ref m_mergeKnown, .int 0, .ref m_isErased, .ref m_tape, .int 0, .int 0, .int 0, .int 0, .int (-1), .int 0, .ref m_five, .int 0, .int 0, .int 0, .int 0, .ref m_size0, .ref m_step, .ref m_stepA, .ref m_stepB, .ref m_stepC, .ref m_values, .ref m_heap, .ref m_isOne, .ref m_lawFrom, .ref m_lawTo, .ref m_hasLaw, .ref m_limits, .ref m_held, .ref m_hasKept, .ref m_kept, .ref m_keptAt, .int 0, .ref m_placeTrait, .ref m_placePerson, .ref m_placeMoment, .ref m_placeValue, .ref m_isFilled, .int 0, .ref m_uses, .ref m_heapsOne, .ref m_heapsOther])), (m_isErased, .inl (k_isErased, 20, .inl (fun _ => 0)))] s.heap := hP
  have hIX9 : ∀ w ∈ u_ws RX9 TX9 51, w ∈ wsX9_count := by decide +kernel
  have hl := lv_entry ([.ref m0, .int a]) (n := 4) (Nat.le_of_ble_eq_true rfl)
  rw [lg_entry_eq]
  generalize (lg_sl ([.ref m0, .int a]) ++ List.replicate (4 - (lg_sl ([.ref m0, .int a])).length) Slot.unset).toArray = ls at hl ⊢
  have hl : lv_has ls 4 [(0, .ref m0), (1, .int a)] := hl
  refine lv_iconst (v := 0) hx hb dX9_count_0 (by decide) ?_
  refine lv_istore_n (lv' := [(2, .int 0), (0, .ref m0), (1, .int a)]) hx hb dX9_count_1 rfl hl (by decide) rfl (fun ls hl => ?_)
  refine lv_iload_n hx hb dX9_count_2 rfl (lv_at hl 2 rfl) ?_
  rcases (jI_range a 0 7 : (a.toInt < 0 ∨ 7 < a.toInt) ∨ (0 ≤ a.toInt ∧ a.toInt ≤ 7)) with hsw | hsw
  · refine lv_tableOut (tgt := 121) hx hb dX9_count_3 hsw (by decide) ?_
    refine lv_iconst (v := (-1)) hx hb dX9_count_121 (by decide) ?_
    have hans : ((-1) : Int32).toInt = (-1) := (by decide)
    exact W.iret (v := (-1)) hx hb hr (fun t ht hW => ⟨⟨(-1), (), rfl, by first | omega | (dsimp only; omega), trivial⟩, hS.F ht⟩) hS.2.2 dX9_count_122
  · rcases (show a.toInt = 0 ∨ a.toInt = 1 ∨ a.toInt = 2 ∨ a.toInt = 3 ∨ a.toInt = 4 ∨ a.toInt = 5 ∨ a.toInt = 6 ∨ a.toInt = 7 by omega) with hsw | hsw | hsw | hsw | hsw | hsw | hsw | hsw
    · refine lv_tableIn (off := 45) (tgt := 48) hx hb dX9_count_3 (by omega) (by omega) (by rw [hsw]; rfl) (by decide) ?_
      refine lv_aload_n hx hb dX9_count_48 rfl (lv_at hl 1 rfl) ?_
      refine va_get (D := (dC, dI)) (ci := 9) (v := .int 0) (C := RX9) (T := TX9) (N := 51) hx hb hts hIX9 hown hK hP 0 rfl rfl 1 (by decide) (hts (.fieldLink RX9 133 "TraitHouseModel" "now" "I") (by decide +kernel)) (fun _ h9 => h9) rfl dX9_count_49 ?_
      have hans : (0 : Int32).toInt = 0 := (by decide)
      exact W.iret (v := 0) hx hb hr (fun t ht hW => ⟨⟨0, (), rfl, by first | omega | (dsimp only; omega), trivial⟩, hS.F ht⟩) hS.2.2 dX9_count_52
    · refine lv_tableIn (off := 50) (tgt := 53) hx hb dX9_count_3 (by omega) (by omega) (by rw [hsw]; rfl) (by decide) ?_
      refine lv_iconst (v := 0) hx hb dX9_count_53 (by decide) ?_
      refine lv_istore_n (lv' := [(3, .int 0), (2, .int 0), (0, .ref m0), (1, .int a)]) hx hb dX9_count_54 rfl hl (by decide) rfl (fun ls hl => ?_)
      refine lv_iload_n hx hb dX9_count_55 rfl (lv_at hl 0 rfl) ?_
      refine lv_aload_n hx hb dX9_count_56 rfl (lv_at hl 2 rfl) ?_
      refine va_get (D := (dC, dI)) (ci := 9) (v := .int 0) (C := RX9) (T := TX9) (N := 51) hx hb hts hIX9 hown hK hP 0 rfl rfl 2 (by decide) (hts (.fieldLink RX9 153 "TraitHouseModel" "told" "I") (by decide +kernel)) (fun _ h9 => h9) rfl dX9_count_57 ?_
      refine lv_icmp_ge (tgt := 86) hx hb dX9_count_60 (by decide) (fun c_1 => ?_) (fun c_1 => absurd (by decide) c_1)
      refine lv_iload_n hx hb dX9_count_86 rfl (lv_at hl 1 rfl) ?_
      have hans : (0 : Int32).toInt = 0 := (by decide)
      exact W.iret (v := 0) hx hb hr (fun t ht hW => ⟨⟨0, (), rfl, by first | omega | (dsimp only; omega), trivial⟩, hS.F ht⟩) hS.2.2 dX9_count_87
    · refine lv_tableIn (off := 85) (tgt := 88) hx hb dX9_count_3 (by omega) (by omega) (by rw [hsw]; rfl) (by decide) ?_
      refine lv_aload_n hx hb dX9_count_88 rfl (lv_at hl 1 rfl) ?_
      refine va_get (D := (dC, dI)) (ci := 9) (v := .int 0) (C := RX9) (T := TX9) (N := 51) hx hb hts hIX9 hown hK hP 0 rfl rfl 11 (by decide) (hts (.fieldLink RX9 161 "TraitHouseModel" "merges" "I") (by decide +kernel)) (fun _ h9 => h9) rfl dX9_count_89 ?_
      have hans : (0 : Int32).toInt = 0 := (by decide)
      exact W.iret (v := 0) hx hb hr (fun t ht hW => ⟨⟨0, (), rfl, by first | omega | (dsimp only; omega), trivial⟩, hS.F ht⟩) hS.2.2 dX9_count_92
    · refine lv_tableIn (off := 90) (tgt := 93) hx hb dX9_count_3 (by omega) (by omega) (by rw [hsw]; rfl) (by decide) ?_
      refine lv_bipush (v := 20) hx hb dX9_count_93 (by decide) ?_
      refine lv_aload_n hx hb dX9_count_95 rfl (lv_at hl 1 rfl) ?_
      have hPc := hP.sub (ws' := [(m0, .inr (9, [.int 0, .int 0, .int 0, .ref m_rowPerson, .ref m_rowStream, .ref m_rowMoment, .ref m_rowKnown, .ref m_rowValue, .ref m_isGone, .ref m_mergeTo, .ref m_mergeKnown, .int 0, .ref m_isErased, .ref m_tape, .int 0, .int 0, .int 0, .int 0, .int (-1), .int 0, .ref m_five, .int 0, .int 0, .int 0, .int 0, .ref m_size0, .ref m_step, .ref m_stepA, .ref m_stepB, .ref m_stepC, .ref m_values, .ref m_heap, .ref m_isOne, .ref m_lawFrom, .ref m_lawTo, .ref m_hasLaw, .ref m_limits, .ref m_held, .ref m_hasKept, .ref m_kept, .ref m_keptAt, .int 0, .ref m_placeTrait, .ref m_placePerson, .ref m_placeMoment, .ref m_placeValue, .ref m_isFilled, .int 0, .ref m_uses, .ref m_heapsOne, .ref m_heapsOther])), (m_isErased, .inl (k_isErased, 20, .inl (fun _ => 0)))]) [0, 1] rfl
      have hDc := hD.sub (ws' := [(m0, .inr (9, [.int 0, .int 0, .int 0, .ref m_rowPerson, .ref m_rowStream, .ref m_rowMoment, .ref m_rowKnown, .ref m_rowValue, .ref m_isGone, .ref m_mergeTo, .ref m_mergeKnown, .int 0, .ref m_isErased, .ref m_tape, .int 0, .int 0, .int 0, .int 0, .int (-1), .int 0, .ref m_five, .int 0, .int 0, .int 0, .int 0, .ref m_size0, .ref m_step, .ref m_stepA, .ref m_stepB, .ref m_stepC, .ref m_values, .ref m_heap, .ref m_isOne, .ref m_lawFrom, .ref m_lawTo, .ref m_hasLaw, .ref m_limits, .ref m_held, .ref m_hasKept, .ref m_kept, .ref m_keptAt, .int 0, .ref m_placeTrait, .ref m_placePerson, .ref m_placeMoment, .ref m_placeValue, .ref m_isFilled, .int 0, .ref m_uses, .ref m_heapsOne, .ref m_heapsOther])), (m_isErased, .inl (k_isErased, 20, .inl (fun _ => 0)))]) [0, 1] (by decide) rfl
      have hKc := hK.sub (tys' := [(k_isErased, .boolean)]) [0] rfl
      have hFc := va_free (wc := [(m0, .inr (9, [.int 0, .int 0, .int 0, .ref m_rowPerson, .ref m_rowStream, .ref m_rowMoment, .ref m_rowKnown, .ref m_rowValue, .ref m_isGone, .ref m_mergeTo, .ref m_mergeKnown, .int 0, .ref m_isErased, .ref m_tape, .int 0, .int 0, .int 0, .int 0, .int (-1), .int 0, .ref m_five, .int 0, .int 0, .int 0, .int 0, .ref m_size0, .ref m_step, .ref m_stepA, .ref m_stepB, .ref m_stepC, .ref m_values, .ref m_heap, .ref m_isOne, .ref m_lawFrom, .ref m_lawTo, .ref m_hasLaw, .ref m_limits, .ref m_held, .ref m_hasKept, .ref m_kept, .ref m_keptAt, .int 0, .ref m_placeTrait, .ref m_placePerson, .ref m_placeMoment, .ref m_placeValue, .ref m_isFilled, .int 0, .ref m_uses, .ref m_heapsOne, .ref m_heapsOther])), (m_isErased, .inl (k_isErased, 20, .inl (fun _ => 0)))]) hD hS hA [0, 1] rfl
      refine va_calli (va_runV (As := []) (rest := [.int 20]) ⟨hx, hb, hml, hown, hts⟩ (c_X9_living l dC dI s.heap.size m0 m_rowPerson m_rowStream m_rowMoment m_rowKnown m_rowValue m_isGone m_mergeTo m_mergeKnown m_isErased m_tape m_five m_size0 m_step m_stepA m_stepB m_stepC m_values m_heap m_isOne m_lawFrom m_lawTo m_hasLaw m_limits m_held m_hasKept m_kept m_keptAt m_placeTrait m_placePerson m_placeMoment m_placeValue m_isFilled m_uses m_heapsOne m_heapsOther k_isErased ) (cwV 0 hts gX9_count_X9_living rfl rfl rfl (by decide +kernel) ⟨Nat.le_of_ble_eq_true rfl, Nat.le_of_ble_eq_true rfl⟩) ⟨fun a U g mk q => by obtain ⟨q0, q1, qP, qK, qD, qN⟩ := q; exact ⟨q0, q1, qP, va_K.moved (u := U) (U := U.calling g mk a) (Vm.Alike.refl U.vm) qK, qD, qN.same rfl⟩, va_recv hKc hPc (ci := 9) (q0 := 0) rfl rfl, fun U hU hW => ⟨rfl, by rw [hU], by rw [hU]; exact hPc, va_K.moved hW.alike hKc, hDc.weaken (fun _ _ _ _ => trivial), hN.warm hW⟩⟩ rfl rfl hl.1 rfl (lv_room (Nat.le_of_ble_eq_true rfl)) dX9_count_96 ⟨Nat.le_of_ble_eq_true rfl, Nat.le_of_ble_eq_true rfl⟩) hS (fun q _ h => hFc q h) hFc (fun r_2 u_3 t H1 locs ht hvm hw_4 hB hz1 hk1 hS => ?_)
      try dsimp only at hw_4
      have hP1 : va_P (dC, dI) vwCl [] H1 := fun k q h => by simp at h
      have hD1 : va_D (va_A [(m0, .inr (9, [.int 0, .int 0, .int 0, .ref m_rowPerson, .ref m_rowStream, .ref m_rowMoment, .ref m_rowKnown, .ref m_rowValue, .ref m_isGone, .ref m_mergeTo, .ref m_mergeKnown, .int 0, .ref m_isErased, .ref m_tape, .int 0, .int 0, .int 0, .int 0, .int (-1), .int 0, .ref m_five, .int 0, .int 0, .int 0, .int 0, .ref m_size0, .ref m_step, .ref m_stepA, .ref m_stepB, .ref m_stepC, .ref m_values, .ref m_heap, .ref m_isOne, .ref m_lawFrom, .ref m_lawTo, .ref m_hasLaw, .ref m_limits, .ref m_held, .ref m_hasKept, .ref m_kept, .ref m_keptAt, .int 0, .ref m_placeTrait, .ref m_placePerson, .ref m_placeMoment, .ref m_placeValue, .ref m_isFilled, .int 0, .ref m_uses, .ref m_heapsOne, .ref m_heapsOther])), (m_isErased, .inl (k_isErased, 20, .inl (fun _ => 0)))] s.heap.size) [] := ⟨fun i j p q h => by simp at h, fun k q h => by simp at h⟩
      have hK1 : va_K (dC, dI) vwCl [] s := hK.sub [] rfl
      obtain ⟨hP, hD⟩ := va_join (wr := []) (w1 := []) hP hD [0, 1] [] rfl rfl (by decide) (by decide) hk1 hFc hP1 hD1
      have hK := (hK.sub (tys' := [(k_isErased, .boolean)]) [0] rfl).app hK1
      generalize H1 = H at hP hS ⊢
      have hP : va_P (dC, dI) vwCl [] H := hP
      have hD : va_D A [] := hD
      have hK : va_K (dC, dI) vwCl [(k_isErased, .boolean)] s := hK
      refine lv_isub hx hb dX9_count_99 ?_
      refine lv_topi (fun x_5 ex_5 => ?_)
      have dx_5 : x_5.toInt = 20 - r_2.toInt := by rw [ex_5]; exact jI_sub (by decide) rfl (by omega) (by omega)
      obtain rfl : x_5 = 0 := Int32.toInt_inj.mp ((show x_5.toInt = 0 by omega).trans (by decide))
      have hans : (0 : Int32).toInt = 0 := (by decide)
      exact W.iret (v := 0) hx hb hr (fun t ht hW => ⟨⟨0, (), rfl, by first | omega | (dsimp only; omega), trivial⟩, hS.F ht⟩) hS.2.2 dX9_count_100
    · refine lv_tableIn (off := 98) (tgt := 101) hx hb dX9_count_3 (by omega) (by omega) (by rw [hsw]; rfl) (by decide) ?_
      refine lv_aload_n hx hb dX9_count_101 rfl (lv_at hl 1 rfl) ?_
      refine va_get (D := (dC, dI)) (ci := 9) (v := .int 0) (C := RX9) (T := TX9) (N := 51) hx hb hts hIX9 hown hK hP 0 rfl rfl 21 (by decide) (hts (.fieldLink RX9 197 "TraitHouseModel" "traits" "I") (by decide +kernel)) (fun _ h9 => h9) rfl dX9_count_102 ?_
      have hans : (0 : Int32).toInt = 0 := (by decide)
      exact W.iret (v := 0) hx hb hr (fun t ht hW => ⟨⟨0, (), rfl, by first | omega | (dsimp only; omega), trivial⟩, hS.F ht⟩) hS.2.2 dX9_count_105
    · refine lv_tableIn (off := 103) (tgt := 106) hx hb dX9_count_3 (by omega) (by omega) (by rw [hsw]; rfl) (by decide) ?_
      refine lv_aload_n hx hb dX9_count_106 rfl (lv_at hl 1 rfl) ?_
      refine va_get (D := (dC, dI)) (ci := 9) (v := .int 0) (C := RX9) (T := TX9) (N := 51) hx hb hts hIX9 hown hK hP 0 rfl rfl 47 (by decide) (hts (.fieldLink RX9 323 "TraitHouseModel" "models" "I") (by decide +kernel)) (fun _ h9 => h9) rfl dX9_count_107 ?_
      have hans : (0 : Int32).toInt = 0 := (by decide)
      exact W.iret (v := 0) hx hb hr (fun t ht hW => ⟨⟨0, (), rfl, by first | omega | (dsimp only; omega), trivial⟩, hS.F ht⟩) hS.2.2 dX9_count_110
    · refine lv_tableIn (off := 108) (tgt := 111) hx hb dX9_count_3 (by omega) (by omega) (by rw [hsw]; rfl) (by decide) ?_
      refine lv_aload_n hx hb dX9_count_111 rfl (lv_at hl 1 rfl) ?_
      refine va_get (D := (dC, dI)) (ci := 9) (v := .int 0) (C := RX9) (T := TX9) (N := 51) hx hb hts hIX9 hown hK hP 0 rfl rfl 41 (by decide) (hts (.fieldLink RX9 304 "TraitHouseModel" "places" "I") (by decide +kernel)) (fun _ h9 => h9) rfl dX9_count_112 ?_
      have hans : (0 : Int32).toInt = 0 := (by decide)
      exact W.iret (v := 0) hx hb hr (fun t ht hW => ⟨⟨0, (), rfl, by first | omega | (dsimp only; omega), trivial⟩, hS.F ht⟩) hS.2.2 dX9_count_115
    · refine lv_tableIn (off := 113) (tgt := 116) hx hb dX9_count_3 (by omega) (by omega) (by rw [hsw]; rfl) (by decide) ?_
      refine lv_aload_n hx hb dX9_count_116 rfl (lv_at hl 1 rfl) ?_
      refine va_get (D := (dC, dI)) (ci := 9) (v := .int 0) (C := RX9) (T := TX9) (N := 51) hx hb hts hIX9 hown hK hP 0 rfl rfl 14 (by decide) (hts (.fieldLink RX9 164 "TraitHouseModel" "taped" "I") (by decide +kernel)) (fun _ h9 => h9) rfl dX9_count_117 ?_
      have hans : (0 : Int32).toInt = 0 := (by decide)
      exact W.iret (v := 0) hx hb hr (fun t ht hW => ⟨⟨0, (), rfl, by first | omega | (dsimp only; omega), trivial⟩, hS.F ht⟩) hS.2.2 dX9_count_120
