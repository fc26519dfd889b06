theorem dX1_forget_0 : decode cX1_forget 0 = .ok (.iconst 0, 1) := by decide +kernel
theorem dX1_forget_1 : decode cX1_forget 1 = .ok (.istore_n 2, 1) := by decide +kernel
theorem dX1_forget_2 : decode cX1_forget 2 = .ok (.iload_n 2, 1) := by decide +kernel
theorem dX1_forget_3 : decode cX1_forget 3 = .ok (.aload_n 0, 1) := by decide +kernel
theorem dX1_forget_4 : decode cX1_forget 4 = .ok (.getfield 26, 3) := by decide +kernel
theorem dX1_forget_7 : decode cX1_forget 7 = .ok (.if_icmp .ge 48, 3) := by decide +kernel
theorem dX1_forget_55 : decode cX1_forget 55 = .ok (.return_, 1) := by decide +kernel
theorem dX3_drop_0 : decode cX3_drop 0 = .ok (.iconst 0, 1) := by decide +kernel
theorem dX3_drop_1 : decode cX3_drop 1 = .ok (.istore_n 2, 1) := by decide +kernel
theorem dX3_drop_2 : decode cX3_drop 2 = .ok (.iconst 0, 1) := by decide +kernel
theorem dX3_drop_3 : decode cX3_drop 3 = .ok (.istore_n 3, 1) := by decide +kernel
theorem dX3_drop_4 : decode cX3_drop 4 = .ok (.iload_n 3, 1) := by decide +kernel
theorem dX3_drop_5 : decode cX3_drop 5 = .ok (.aload_n 0, 1) := by decide +kernel
theorem dX3_drop_6 : decode cX3_drop 6 = .ok (.getfield 27, 3) := by decide +kernel
theorem dX3_drop_9 : decode cX3_drop 9 = .ok (.if_icmp .ge 28, 3) := by decide +kernel
theorem dX3_drop_37 : decode cX3_drop 37 = .ok (.aload_n 0, 1) := by decide +kernel
theorem dX3_drop_38 : decode cX3_drop 38 = .ok (.getfield 27, 3) := by decide +kernel
theorem dX3_drop_41 : decode cX3_drop 41 = .ok (.iload_n 2, 1) := by decide +kernel
theorem dX3_drop_42 : decode cX3_drop 42 = .ok (.isub, 1) := by decide +kernel
theorem dX3_drop_43 : decode cX3_drop 43 = .ok (.istore_n 3, 1) := by decide +kernel
theorem dX3_drop_44 : decode cX3_drop 44 = .ok (.aload_n 0, 1) := by decide +kernel
theorem dX3_drop_45 : decode cX3_drop 45 = .ok (.iload_n 2, 1) := by decide +kernel
theorem dX3_drop_46 : decode cX3_drop 46 = .ok (.putfield 27, 3) := by decide +kernel
theorem dX3_drop_49 : decode cX3_drop 49 = .ok (.iload_n 3, 1) := by decide +kernel
theorem dX3_drop_50 : decode cX3_drop 50 = .ok (.ireturn, 1) := by decide +kernel
theorem dX8_dropPerson_0 : decode cX8_dropPerson 0 = .ok (.iload_n 1, 1) := by decide +kernel
set_option maxRecDepth 20000 in
theorem ggX8_dropPerson_X8_isPerson : GoodIn wsX8_dropPerson wsX8_isPerson := goodIn_r _ [8] (by decide +kernel) (by decide +kernel)
set_option maxRecDepth 20000 in
theorem gX8_dropPerson_X8_isPerson : GoodIn wsX8_dropPerson (va_wsS RX8 100 yX8_isPerson wsX8_isPerson) := goodIn_app (goodIn_of _ (by decide +kernel)) ggX8_dropPerson_X8_isPerson
theorem dX8_dropPerson_1 : decode cX8_dropPerson 1 = .ok (.invokestatic 100, 3) := by decide +kernel
theorem dX8_dropPerson_4 : decode cX8_dropPerson 4 = .ok (.ifCond .ne 6, 3) := by decide +kernel
theorem dX8_dropPerson_10 : decode cX8_dropPerson 10 = .ok (.aload_n 0, 1) := by decide +kernel
theorem dX8_dropPerson_11 : decode cX8_dropPerson 11 = .ok (.getfield 23, 3) := by decide +kernel
theorem dX8_dropPerson_14 : decode cX8_dropPerson 14 = .ok (.iload_n 1, 1) := by decide +kernel
theorem dX8_dropPerson_15 : decode cX8_dropPerson 15 = .ok (.baload, 1) := by decide +kernel
theorem dX8_dropPerson_16 : decode cX8_dropPerson 16 = .ok (.ifCond .eq 6, 3) := by decide +kernel
theorem dX8_dropPerson_22 : decode cX8_dropPerson 22 = .ok (.aload_n 0, 1) := by decide +kernel
theorem dX8_dropPerson_23 : decode cX8_dropPerson 23 = .ok (.getfield 23, 3) := by decide +kernel
theorem dX8_dropPerson_26 : decode cX8_dropPerson 26 = .ok (.iload_n 1, 1) := by decide +kernel
theorem dX8_dropPerson_27 : decode cX8_dropPerson 27 = .ok (.iconst 1, 1) := by decide +kernel
theorem dX8_dropPerson_28 : decode cX8_dropPerson 28 = .ok (.bastore, 1) := by decide +kernel
theorem dX8_dropPerson_29 : decode cX8_dropPerson 29 = .ok (.aload_n 0, 1) := by decide +kernel
theorem dX8_dropPerson_30 : decode cX8_dropPerson 30 = .ok (.dup, 1) := by decide +kernel
theorem dX8_dropPerson_31 : decode cX8_dropPerson 31 = .ok (.getfield 127, 3) := by decide +kernel
theorem dX8_dropPerson_34 : decode cX8_dropPerson 34 = .ok (.iconst 1, 1) := by decide +kernel
theorem dX8_dropPerson_35 : decode cX8_dropPerson 35 = .ok (.iadd, 1) := by decide +kernel
theorem dX8_dropPerson_36 : decode cX8_dropPerson 36 = .ok (.putfield 127, 3) := by decide +kernel
theorem dX8_dropPerson_39 : decode cX8_dropPerson 39 = .ok (.iconst 0, 1) := by decide +kernel
theorem dX8_dropPerson_40 : decode cX8_dropPerson 40 = .ok (.istore_n 2, 1) := by decide +kernel
theorem dX8_dropPerson_41 : decode cX8_dropPerson 41 = .ok (.iload_n 2, 1) := by decide +kernel
theorem dX8_dropPerson_42 : decode cX8_dropPerson 42 = .ok (.bipush 20, 2) := by decide +kernel
theorem dX8_dropPerson_44 : decode cX8_dropPerson 44 = .ok (.if_icmp .ge 24, 3) := by decide +kernel
theorem dX8_dropPerson_68 : decode cX8_dropPerson 68 = .ok (.aload_n 0, 1) := by decide +kernel
theorem dX8_dropPerson_69 : decode cX8_dropPerson 69 = .ok (.getfield 61, 3) := by decide +kernel
theorem dX8_dropPerson_72 : decode cX8_dropPerson 72 = .ok (.iload_n 1, 1) := by decide +kernel
set_option maxRecDepth 20000 in
theorem ggX8_dropPerson_X1_forget : GoodIn wsX8_dropPerson wsX1_forget := goodIn_r _ [29, 30, 31, 32, 33, 73, 74, 75, 76, 77] (by decide +kernel) (by decide +kernel)
set_option maxRecDepth 20000 in
theorem gX8_dropPerson_X1_forget_n138 : GoodIn wsX8_dropPerson (wsX1_forget) := ggX8_dropPerson_X1_forget
theorem dX8_dropPerson_73 : decode cX8_dropPerson 73 = .ok (.invokevirtual 138, 3) := by decide +kernel
theorem dX8_dropPerson_76 : decode cX8_dropPerson 76 = .ok (.aload_n 0, 1) := by decide +kernel
theorem dX8_dropPerson_77 : decode cX8_dropPerson 77 = .ok (.getfield 10, 3) := by decide +kernel
theorem dX8_dropPerson_80 : decode cX8_dropPerson 80 = .ok (.iload_n 1, 1) := by decide +kernel
set_option maxRecDepth 20000 in
theorem ggX8_dropPerson_X3_drop : GoodIn wsX8_dropPerson wsX3_drop := goodIn_r _ [37, 38, 39, 40, 41, 42, 35, 43, 44, 45, 46, 47, 78, 79, 80, 81, 82, 83, 84] (by decide +kernel) (by decide +kernel)
set_option maxRecDepth 20000 in
theorem gX8_dropPerson_X3_drop_n139 : GoodIn wsX8_dropPerson (wsX3_drop) := ggX8_dropPerson_X3_drop
theorem dX8_dropPerson_81 : decode cX8_dropPerson 81 = .ok (.invokevirtual 139, 3) := by decide +kernel
theorem dX8_dropPerson_84 : decode cX8_dropPerson 84 = .ok (.ireturn, 1) := by decide +kernel
theorem dX8_dropPerson_47 : decode cX8_dropPerson 47 = .ok (.aload_n 0, 1) := by decide +kernel
theorem dX8_dropPerson_48 : decode cX8_dropPerson 48 = .ok (.iload_n 2, 1) := by decide +kernel
set_option maxRecDepth 20000 in
theorem ggX8_dropPerson_X8_traitAt : GoodIn wsX8_dropPerson wsX8_traitAt := goodIn_r _ [12, 13, 14, 48, 49, 50, 51, 52, 53, 54, 55, 56, 57, 58, 59, 60, 61, 62, 63, 64] (by decide +kernel) (by decide +kernel)
set_option maxRecDepth 20000 in
theorem gX8_dropPerson_X8_traitAt : GoodIn wsX8_dropPerson (wsV RX8 130 RX8 yX8_traitAt wsX8_traitAt) := goodIn_app (goodIn_of _ (by decide +kernel)) ggX8_dropPerson_X8_traitAt
theorem dX8_dropPerson_49 : decode cX8_dropPerson 49 = .ok (.invokevirtual 130, 3) := by decide +kernel
theorem dX8_dropPerson_52 : decode cX8_dropPerson 52 = .ok (.astore_n 3, 1) := by decide +kernel
theorem dX8_dropPerson_53 : decode cX8_dropPerson 53 = .ok (.aload_n 3, 1) := by decide +kernel
theorem dX8_dropPerson_54 : decode cX8_dropPerson 54 = .ok (.ifnull 8, 3) := by decide +kernel
theorem dX8_dropPerson_62 : decode cX8_dropPerson 62 = .ok (.iinc 2 1, 3) := by decide +kernel
theorem dX8_dropPerson_65 : decode cX8_dropPerson 65 = .ok (.goto (-24), 3) := by decide +kernel
theorem dX8_dropPerson_7 : decode cX8_dropPerson 7 = .ok (.bipush (-2), 2) := by decide +kernel
theorem dX8_dropPerson_9 : decode cX8_dropPerson 9 = .ok (.ireturn, 1) := by decide +kernel
theorem dX8_erase_0 : decode cX8_erase 0 = .ok (.aload_n 0, 1) := by decide +kernel
theorem dX8_erase_1 : decode cX8_erase 1 = .ok (.aload_n 0, 1) := by decide +kernel
theorem dX8_erase_2 : decode cX8_erase 2 = .ok (.iload_n 1, 1) := by decide +kernel
set_option maxRecDepth 20000 in
theorem ggX8_erase_X8_dropPerson : GoodIn wsX8_erase wsX8_dropPerson := goodIn_r _ [5, 6, 7, 8, 9, 10, 11, 4, 12, 13, 14, 15, 16, 17, 18, 19, 20, 21, 22, 23, 24, 25, 26, 27, 28, 29, 30, 31, 32, 33, 34, 35, 36, 37, 38, 39, 40, 41, 42, 43, 44, 45, 46, 47, 48, 49, 50, 51, 61, 62, 63, 64, 65, 66, 67, 68, 69, 70, 71, 72, 73, 74, 75, 76, 77, 78, 79, 80, 81, 82, 83, 84, 85, 86, 87, 88, 89, 90, 91, 92, 93, 94, 95, 96, 97] (by decide +kernel) (by decide +kernel)
set_option maxRecDepth 20000 in
theorem gX8_erase_X8_dropPerson : GoodIn wsX8_erase (wsV RX8 124 RX8 yX8_dropPerson wsX8_dropPerson) := goodIn_app (goodIn_of _ (by decide +kernel)) ggX8_erase_X8_dropPerson
theorem dX8_erase_3 : decode cX8_erase 3 = .ok (.invokevirtual 124, 3) := by decide +kernel
set_option maxRecDepth 20000 in
theorem ggX8_erase_X8_settle : GoodIn wsX8_erase wsX8_settle := goodIn_r _ [55, 56, 57, 58, 59, 60, 61, 62, 63, 64, 65, 66, 67, 68, 69, 70, 71, 72, 73, 74, 75, 76, 77] (by decide +kernel) (by decide +kernel)
set_option maxRecDepth 20000 in
theorem gX8_erase_X8_settle : GoodIn wsX8_erase (wsV RX8 86 RX8 yX8_settle wsX8_settle) := goodIn_app (goodIn_of _ (by decide +kernel)) ggX8_erase_X8_settle
theorem dX8_erase_6 : decode cX8_erase 6 = .ok (.invokevirtual 86, 3) := by decide +kernel
theorem dX8_erase_9 : decode cX8_erase 9 = .ok (.ireturn, 1) := by decide +kernel
set_option maxHeartbeats 4000000 in
set_option maxRecDepth 100000 in
theorem c_X1_forget (l : Launch) (dC : Nat → ClassId) (dI : Nat → Nat → Nat) (sz : Nat) (hPla : Nat) (aO : Nat) (aQ : Nat) (aF : Nat) (aW : Nat) (a : Int32)  : Met l yX1_forget wsX1_forget ({ frames := 0, cells := 0, slots := 0, locals := 0 }) (va_Pc [.ref hPla, .int a] (fun U => U.heap.size = sz ∧ va_P (dC, dI) vwCl [(hPla, .inr (1, [.ref aO, .ref aQ, .ref aF, .ref aW, .int 0]))] U.heap ∧ va_K (dC, dI) vwCl [] U ∧ va_D (fun _ => True) [(hPla, .inr (1, [.ref aO, .ref aQ, .ref aF, .ref aW, .int 0]))] ∧ nw_ok U)) (va_Qv (fun (_ : Unit) => True) (fun (_ : Unit) (t : State) => True) (va_A [(hPla, .inr (1, [.ref aO, .ref aQ, .ref aF, .ref aW, .int 0]))] sz)) 0 0 (va_A [(hPla, .inr (1, [.ref aO, .ref aQ, .ref aF, .ref aW, .int 0]))] sz) := by
  refine Met.ofW (cc := cX1_forget) (maxL := 3) (ret := none) (by decide) rfl ?_
  intro p e s m args below meth c s₁ B hml hv
  obtain ⟨rfl, hsz, hP, hK, hD0, hN⟩ := hv
  have hx := B.exec
  have hb := B.bytes
  have hr := B.returns
  have hts := atoms_spec (ws := wsX1_forget) B.pre
  have hown : s.vm.findClass RX1 = some m.cls := findClass_of_methodNamed B.named
  have hlocks := B.notSynchronized
  subst hsz
  have hD := hD0.self (sz := s.heap.size)
  generalize hAe : va_A [(hPla, .inr (1, [.ref aO, .ref aQ, .ref aF, .ref aW, .int 0]))] s.heap.size = A at hD ⊢
  have hA : ∀ q : Nat, s.heap.size ≤ q → A q := fun q h => by rw [← hAe]; exact Or.inr h
  have hS : va_S A s.heap s.heap [] := va_S.rf
  have hP : va_P (dC, dI) vwCl [(hPla, .inr (1, [.ref aO, .ref aQ, .ref aF, .ref aW, .int 0]))] s.heap := hP
  have hIX1 : ∀ w ∈ u_ws RX1 TX1 5, w ∈ wsX1_forget := by decide +kernel
  have hl := lv_entry ([.ref hPla, .int a]) (n := 3) (Nat.le_of_ble_eq_true rfl)
  rw [lg_entry_eq]
  generalize (lg_sl ([.ref hPla, .int a]) ++ List.replicate (3 - (lg_sl ([.ref hPla, .int a])).length) Slot.unset).toArray = ls at hl ⊢
  have hl : lv_has ls 3 [(0, .ref hPla), (1, .int a)] := hl
  refine lv_iconst (v := 0) hx hb dX1_forget_0 (by decide) ?_
  refine lv_istore_n (lv' := [(2, .int 0), (0, .ref hPla), (1, .int a)]) hx hb dX1_forget_1 rfl hl (by decide) rfl (fun ls hl => ?_)
  refine lv_iload_n hx hb dX1_forget_2 rfl (lv_at hl 0 rfl) ?_
  refine lv_aload_n hx hb dX1_forget_3 rfl (lv_at hl 1 rfl) ?_
  refine va_get (D := (dC, dI)) (ci := 1) (v := .int 0) (C := RX1) (T := TX1) (N := 5) hx hb hts hIX1 hown hK hP 0 rfl rfl 4 (by decide) (hts (.fieldLink RX1 26 "TraitHouse$Places" "size" "I") (by decide +kernel)) (fun _ h9 => h9) rfl dX1_forget_4 ?_
  refine lv_icmp_ge (tgt := 55) hx hb dX1_forget_7 (by decide) (fun c_1 => ?_) (fun c_1 => absurd (by decide) c_1)
  exact W.vret hx hb hr (fun t ht hW => ⟨⟨(), rfl, trivial, trivial⟩, hS.F ht⟩) hS.2.2 dX1_forget_55

set_option maxHeartbeats 4000000 in
set_option maxRecDepth 100000 in
theorem c_X3_drop (l : Launch) (dC : Nat → ClassId) (dI : Nat → Nat → Nat) (sz : Nat) (hRows : Nat) (aP : Nat) (aS : Nat) (aM : Nat) (aK : Nat) (aV : Nat) (a : Int32)  : Met l yX3_drop wsX3_drop ({ frames := 0, cells := 0, slots := 0, locals := 0 }) (va_Pc [.ref hRows, .int a] (fun U => U.heap.size = sz ∧ va_P (dC, dI) vwCl [(hRows, .inr (3, [.ref aP, .ref aS, .ref aM, .ref aK, .ref aV, .int 0, .int 0]))] U.heap ∧ va_K (dC, dI) vwCl [] U ∧ va_D (fun _ => True) [(hRows, .inr (3, [.ref aP, .ref aS, .ref aM, .ref aK, .ref aV, .int 0, .int 0]))] ∧ nw_ok U)) (va_Qi (fun (r : Int32) (_ : Unit) => r = 0) (fun (_ : Unit) (t : State) => True) (va_A [(hRows, .inr (3, [.ref aP, .ref aS, .ref aM, .ref aK, .ref aV, .int 0, .int 0]))] sz)) 0 0 (va_A [(hRows, .inr (3, [.ref aP, .ref aS, .ref aM, .ref aK, .ref aV, .int 0, .int 0]))] sz) := by
  refine Met.ofW (cc := cX3_drop) (maxL := 4) (ret := (some .int)) (by decide) rfl ?_
  intro p e s m args below meth c s₁ B hml hv
  obtain ⟨rfl, hsz, hP, hK, hD0, hN⟩ := hv
  have hx := B.exec
  have hb := B.bytes
  have hr := B.returns
  have hts := atoms_spec (ws := wsX3_drop) B.pre
  have hown : s.vm.findClass RX3 = some m.cls := findClass_of_methodNamed B.named
  have hlocks := B.notSynchronized
  subst hsz
  have hD := hD0.self (sz := s.heap.size)
  generalize hAe : va_A [(hRows, .inr (3, [.ref aP, .ref aS, .ref aM, .ref aK, .ref aV, .int 0, .int 0]))] s.heap.size = A at hD ⊢
  have hA : ∀ q : Nat, s.heap.size ≤ q → A q := fun q h => by rw [← hAe]; exact Or.inr h
  have hS : va_S A s.heap s.heap [] := va_S.rf
  have hP : va_P (dC, dI) vwCl [(hRows, .inr (3, [.ref aP, .ref aS, .ref aM, .ref aK, .ref aV, .int 0, .int 0]))] s.heap := hP
  have hIX3 : ∀ w ∈ u_ws RX3 TX3 7, w ∈ wsX3_drop := by decide +kernel
  have hl := lv_entry ([.ref hRows, .int a]) (n := 4) (Nat.le_of_ble_eq_true rfl)
  rw [lg_entry_eq]
  generalize (lg_sl ([.ref hRows, .int a]) ++ List.replicate (4 - (lg_sl ([.ref hRows, .int a])).length) Slot.unset).toArray = ls at hl ⊢
  have hl : lv_has ls 4 [(0, .ref hRows), (1, .int a)] := hl
  refine lv_iconst (v := 0) hx hb dX3_drop_0 (by decide) ?_
  refine lv_istore_n (lv' := [(2, .int 0), (0, .ref hRows), (1, .int a)]) hx hb dX3_drop_1 rfl hl (by decide) rfl (fun ls hl => ?_)
  refine lv_iconst (v := 0) hx hb dX3_drop_2 (by decide) ?_
  refine lv_istore_n (lv' := [(3, .int 0), (2, .int 0), (0, .ref hRows), (1, .int a)]) hx hb dX3_drop_3 rfl hl (by decide) rfl (fun ls hl => ?_)
  refine lv_iload_n hx hb dX3_drop_4 rfl (lv_at hl 0 rfl) ?_
  refine lv_aload_n hx hb dX3_drop_5 rfl (lv_at hl 2 rfl) ?_
  refine va_get (D := (dC, dI)) (ci := 3) (v := .int 0) (C := RX3) (T := TX3) (N := 7) hx hb hts hIX3 hown hK hP 0 rfl rfl 5 (by decide) (hts (.fieldLink RX3 27 "TraitHouse$Rows" "size" "I") (by decide +kernel)) (fun _ h9 => h9) rfl dX3_drop_6 ?_
  refine lv_icmp_ge (tgt := 37) hx hb dX3_drop_9 (by decide) (fun c_1 => ?_) (fun c_1 => absurd (by decide) c_1)
  refine lv_aload_n hx hb dX3_drop_37 rfl (lv_at hl 2 rfl) ?_
  refine va_get (D := (dC, dI)) (ci := 3) (v := .int 0) (C := RX3) (T := TX3) (N := 7) hx hb hts hIX3 hown hK hP 0 rfl rfl 5 (by decide) (hts (.fieldLink RX3 27 "TraitHouse$Rows" "size" "I") (by decide +kernel)) (fun _ h9 => h9) rfl dX3_drop_38 ?_
  refine lv_iload_n hx hb dX3_drop_41 rfl (lv_at hl 1 rfl) ?_
  refine lv_isub hx hb dX3_drop_42 ?_
  refine lv_topi (fun x_2 ex_2 => ?_)
  obtain rfl : x_2 = 0 := ex_2.trans (by decide)
  refine lv_istore_n (lv' := [(3, .int 0), (2, .int 0), (0, .ref hRows), (1, .int a)]) hx hb dX3_drop_43 rfl hl (by decide) rfl (fun ls hl => ?_)
  refine lv_aload_n hx hb dX3_drop_44 rfl (lv_at hl 2 rfl) ?_
  refine lv_iload_n hx hb dX3_drop_45 rfl (lv_at hl 1 rfl) ?_
  refine va_put (D := (dC, dI)) (ci := 3) (v := .int 0) (ty := .int) (C := RX3) (T := TX3) (N := 7) hx hb hts hIX3 tyX3 tyX3_ok nmX3 hown hK hP hD hS 0 rfl rfl 5 (by decide) (hts (.fieldLink RX3 27 "TraitHouse$Rows" "size" "I") (by decide +kernel)) (fun _ h9 => h9) rfl (by decide +kernel) rfl rfl (Nat.le_of_ble_eq_true rfl) dX3_drop_46 (fun H locs hP hD hS => ?_)
  have hP : va_P (dC, dI) vwCl [(hRows, .inr (3, [.ref aP, .ref aS, .ref aM, .ref aK, .ref aV, .int 0, .int 0]))] H := hP
  have hD : va_D A [(hRows, .inr (3, [.ref aP, .ref aS, .ref aM, .ref aK, .ref aV, .int 0, .int 0]))] := hD
  refine lv_iload_n hx hb dX3_drop_49 rfl (lv_at hl 0 rfl) ?_
  exact W.iret (v := 0) hx hb hr (fun t ht hW => ⟨⟨0, (), rfl, rfl, trivial⟩, hS.F ht⟩) hS.2.2 dX3_drop_50

set_option maxHeartbeats 4000000 in
set_option maxRecDepth 100000 in
theorem c_X8_dropPerson (l : Launch) (dC : Nat → ClassId) (dI : Nat → Nat → Nat) (sz : Nat) (h0 : Nat) (hRows : Nat) (hMer : Nat) (hEra : Nat) (hTape : Nat) (hRea : Nat) (hTra : Nat) (hWor : Nat) (hPla : Nat) (hMod : Nat) (hHe1 : Nat) (hHe2 : Nat) (aO : Nat) (aQ : Nat) (aF : Nat) (aW : Nat) (aP : Nat) (aS : Nat) (aM : Nat) (aK : Nat) (aV : Nat) (cE : ClassId) (a : Int32)  : Met l yX8_dropPerson wsX8_dropPerson ({ frames := 1, cells := 0, slots := 0, locals := 23 }) (va_Pc [.ref h0, .int a] (fun U => U.heap.size = sz ∧ va_P (dC, dI) vwCl [(h0, .inr (8, [.ref hRows, .ref hMer, .ref hEra, .ref hTape, .ref hRea, .ref hTra, .ref hWor, .ref hPla, .ref hMod, .ref hHe1, .ref hHe2, .int 0, .int 0, .int 0, .int 0, .int (-1), .int 0])), (hEra, .inl (cE, 20, .inl (fun _ => 0))), (hPla, .inr (1, [.ref aO, .ref aQ, .ref aF, .ref aW, .int 0])), (hRows, .inr (3, [.ref aP, .ref aS, .ref aM, .ref aK, .ref aV, .int 0, .int 0]))] U.heap ∧ va_K (dC, dI) vwCl [(cE, .boolean)] U ∧ va_D (fun _ => True) [(h0, .inr (8, [.ref hRows, .ref hMer, .ref hEra, .ref hTape, .ref hRea, .ref hTra, .ref hWor, .ref hPla, .ref hMod, .ref hHe1, .ref hHe2, .int 0, .int 0, .int 0, .int 0, .int (-1), .int 0])), (hEra, .inl (cE, 20, .inl (fun _ => 0))), (hPla, .inr (1, [.ref aO, .ref aQ, .ref aF, .ref aW, .int 0])), (hRows, .inr (3, [.ref aP, .ref aS, .ref aM, .ref aK, .ref aV, .int 0, .int 0]))] ∧ nw_ok U)) (va_Qi (fun (r : Int32) (u : Int32) => (0 ≤ a.toInt ∧ a.toInt ≤ 19 → r.toInt = 0) ∧ (¬ (0 ≤ a.toInt ∧ a.toInt ≤ 19) → r.toInt = (-2))) (fun (u : Int32) (t : State) => va_P (dC, dI) vwCl [(h0, .inr (8, [.ref hRows, .ref hMer, .ref hEra, .ref hTape, .ref hRea, .ref hTra, .ref hWor, .ref hPla, .ref hMod, .ref hHe1, .ref hHe2, .int 0, .int u, .int 0, .int 0, .int (-1), .int 0]))] t.heap ∧ va_K (dC, dI) vwCl [] t ∧ va_D (va_A [(h0, .inr (8, [.ref hRows, .ref hMer, .ref hEra, .ref hTape, .ref hRea, .ref hTra, .ref hWor, .ref hPla, .ref hMod, .ref hHe1, .ref hHe2, .int 0, .int 0, .int 0, .int 0, .int (-1), .int 0])), (hEra, .inl (cE, 20, .inl (fun _ => 0))), (hPla, .inr (1, [.ref aO, .ref aQ, .ref aF, .ref aW, .int 0])), (hRows, .inr (3, [.ref aP, .ref aS, .ref aM, .ref aK, .ref aV, .int 0, .int 0]))] sz) [(h0, .inr (8, [.ref hRows, .ref hMer, .ref hEra, .ref hTape, .ref hRea, .ref hTra, .ref hWor, .ref hPla, .ref hMod, .ref hHe1, .ref hHe2, .int 0, .int u, .int 0, .int 0, .int (-1), .int 0]))]) (va_A [(h0, .inr (8, [.ref hRows, .ref hMer, .ref hEra, .ref hTape, .ref hRea, .ref hTra, .ref hWor, .ref hPla, .ref hMod, .ref hHe1, .ref hHe2, .int 0, .int 0, .int 0, .int 0, .int (-1), .int 0])), (hEra, .inl (cE, 20, .inl (fun _ => 0))), (hPla, .inr (1, [.ref aO, .ref aQ, .ref aF, .ref aW, .int 0])), (hRows, .inr (3, [.ref aP, .ref aS, .ref aM, .ref aK, .ref aV, .int 0, .int 0]))] sz)) 0 0 (va_A [(h0, .inr (8, [.ref hRows, .ref hMer, .ref hEra, .ref hTape, .ref hRea, .ref hTra, .ref hWor, .ref hPla, .ref hMod, .ref hHe1, .ref hHe2, .int 0, .int 0, .int 0, .int 0, .int (-1), .int 0])), (hEra, .inl (cE, 20, .inl (fun _ => 0))), (hPla, .inr (1, [.ref aO, .ref aQ, .ref aF, .ref aW, .int 0])), (hRows, .inr (3, [.ref aP, .ref aS, .ref aM, .ref aK, .ref aV, .int 0, .int 0]))] sz) := by
  refine Met.ofW (cc := cX8_dropPerson) (maxL := 4) (ret := (some .int)) (by decide) rfl ?_
  intro p e s m args below meth c s₁ B hml hv
  obtain ⟨rfl, hsz, hP, hK, hD0, hN⟩ := hv
  have hx := B.exec
  have hb := B.bytes
  have hr := B.returns
  have hts := atoms_spec (ws := wsX8_dropPerson) B.pre
  have hown : s.vm.findClass RX8 = some m.cls := findClass_of_methodNamed B.named
  have hlocks := B.notSynchronized
  subst hsz
  have hD := hD0.self (sz := s.heap.size)
  generalize hAe : va_A [(h0, .inr (8, [.ref hRows, .ref hMer, .ref hEra, .ref hTape, .ref hRea, .ref hTra, .ref hWor, .ref hPla, .ref hMod, .ref hHe1, .ref hHe2, .int 0, .int 0, .int 0, .int 0, .int (-1), .int 0])), (hEra, .inl (cE, 20, .inl (fun _ => 0))), (hPla, .inr (1, [.ref aO, .ref aQ, .ref aF, .ref aW, .int 0])), (hRows, .inr (3, [.ref aP, .ref aS, .ref aM, .ref aK, .ref aV, .int 0, .int 0]))] s.heap.size = A at hD ⊢
  have hA : ∀ q : Nat, s.heap.size ≤ q → A q := fun q h => by rw [← hAe]; exact Or.inr h
  have hS : va_S A s.heap s.heap [] := va_S.rf
  have hP : va_P (dC, dI) vwCl [(h0, .inr (8, [.ref hRows, .ref hMer, .ref hEra, .ref hTape, .ref hRea, .ref hTra, .ref hWor, .ref hPla, .ref hMod, .ref hHe1, .ref hHe2, .int 0, .int 0, .int 0, .int 0, .int (-1), .int 0])), (hEra, .inl (cE, 20, .inl (fun _ => 0))), (hPla, .inr (1, [.ref aO, .ref aQ, .ref aF, .ref aW, .int 0])), (hRows, .inr (3, [.ref aP, .ref aS, .ref aM, .ref aK, .ref aV, .int 0, .int 0]))] s.heap := hP
  have hIX8 : ∀ w ∈ u_ws RX8 TX8 17, w ∈ wsX8_dropPerson := by decide +kernel
  have hl := lv_entry ([.ref h0, .int a]) (n := 4) (Nat.le_of_ble_eq_true rfl)
  rw [lg_entry_eq]
  generalize (lg_sl ([.ref h0, .int a]) ++ List.replicate (4 - (lg_sl ([.ref h0, .int a])).length) Slot.unset).toArray = ls at hl ⊢
  have hl : lv_has ls 4 [(0, .ref h0), (1, .int a)] := hl
  generalize hQe : MQ below _ _ _ _ _ _ = QQ
  refine lv_iload_n hx hb dX8_dropPerson_0 rfl (lv_at hl 1 rfl) ?_
  have hPc := hP.sub (ws' := []) [] rfl
  have hDc := hD.sub (ws' := []) [] (by decide) rfl
  have hKc := hK.sub (tys' := []) [] rfl
  have hFc := va_free (wc := []) hD hS hA [] rfl
  refine va_calli (va_runS (As := [.int a]) (rest := []) ⟨hx, hb, hml, hown, hts⟩ (c_X8_isPerson l dC dI s.heap.size a ) (va_cwS 1 hts gX8_dropPerson_X8_isPerson rfl rfl rfl (by decide +kernel) ⟨Nat.le_of_ble_eq_true rfl, Nat.le_of_ble_eq_true rfl⟩) ⟨fun a U g mk q => by obtain ⟨q0, q1, qP, qK, qD, qN⟩ := q; exact ⟨q0, q1, qP, va_K.moved (u := U) (U := U.calling g mk a) (Vm.Alike.refl U.vm) qK, qD, qN.same rfl⟩, fun U hU hW => ⟨rfl, by rw [hU], by rw [hU]; exact hPc, va_K.moved hW.alike hKc, hDc.weaken (fun _ _ _ _ => trivial), hN.warm hW⟩⟩ rfl rfl hl.1 rfl (lv_room (Nat.le_of_ble_eq_true rfl)) dX8_dropPerson_1 ⟨Nat.le_of_ble_eq_true rfl, Nat.le_of_ble_eq_true rfl⟩) hS (fun q _ h => hFc q h) hFc (fun r_1 u_2 t H1 locs ht hvm hw_3 hB hz1 hk1 hS => ?_)
  try dsimp only at hw_3
  obtain ⟨hP1, hK1, hD1⟩ := hB
  rw [ht] at hP1
  have hK1 := va_K.moved hvm.symm hK1
  obtain ⟨hP, hD⟩ := va_join (wr := [(h0, .inr (8, [.ref hRows, .ref hMer, .ref hEra, .ref hTape, .ref hRea, .ref hTra, .ref hWor, .ref hPla, .ref hMod, .ref hHe1, .ref hHe2, .int 0, .int 0, .int 0, .int 0, .int (-1), .int 0])), (hEra, .inl (cE, 20, .inl (fun _ => 0))), (hPla, .inr (1, [.ref aO, .ref aQ, .ref aF, .ref aW, .int 0])), (hRows, .inr (3, [.ref aP, .ref aS, .ref aM, .ref aK, .ref aV, .int 0, .int 0]))]) (w1 := []) hP hD [] [0, 1, 2, 3] rfl rfl (by decide) (by decide) hk1 hFc hP1 hD1
  have hK := (hK.sub (tys' := [(cE, .boolean)]) [0] rfl).app hK1
  generalize H1 = H at hP hS ⊢
  have hP : va_P (dC, dI) vwCl [(h0, .inr (8, [.ref hRows, .ref hMer, .ref hEra, .ref hTape, .ref hRea, .ref hTra, .ref hWor, .ref hPla, .ref hMod, .ref hHe1, .ref hHe2, .int 0, .int 0, .int 0, .int 0, .int (-1), .int 0])), (hEra, .inl (cE, 20, .inl (fun _ => 0))), (hPla, .inr (1, [.ref aO, .ref aQ, .ref aF, .ref aW, .int 0])), (hRows, .inr (3, [.ref aP, .ref aS, .ref aM, .ref aK, .ref aV, .int 0, .int 0]))] H := hP
  have hD : va_D A [(h0, .inr (8, [.ref hRows, .ref hMer, .ref hEra, .ref hTape, .ref hRea, .ref hTra, .ref hWor, .ref hPla, .ref hMod, .ref hHe1, .ref hHe2, .int 0, .int 0, .int 0, .int 0, .int (-1), .int 0])), (hEra, .inl (cE, 20, .inl (fun _ => 0))), (hPla, .inr (1, [.ref aO, .ref aQ, .ref aF, .ref aW, .int 0])), (hRows, .inr (3, [.ref aP, .ref aS, .ref aM, .ref aK, .ref aV, .int 0, .int 0]))] := hD
  have hK : va_K (dC, dI) vwCl [(cE, .boolean)] s := hK
  refine lv_if_ne (tgt := 10) hx hb dX8_dropPerson_4 (by decide) (fun c_4 => ?_) (fun c_4 => ?_)
  · have dc_4 : ¬ r_1.toInt = 0 := jI_ne c_4 rfl (by decide)
    refine lv_aload_n hx hb dX8_dropPerson_10 rfl (lv_at hl 0 rfl) ?_
    refine va_get (D := (dC, dI)) (ci := 8) (v := .ref hEra) (C := RX8) (T := TX8) (N := 17) hx hb hts hIX8 hown hK hP 0 rfl rfl 2 (by decide) (hts (.fieldLink RX8 23 "TraitHouse" "erased" "[Z") (by decide +kernel)) (fun _ h9 => h9) rfl dX8_dropPerson_11 ?_
    refine lv_iload_n hx hb dX8_dropPerson_14 rfl (lv_at hl 1 rfl) ?_
    have h_5 : vp_in a 20 := (vp_in_iff.mpr ⟨by omega, by omega⟩)
    refine va_zald hx hb hK hP 1 0 rfl rfl h_5 dX8_dropPerson_15 ?_
    refine lv_topi (fun x_6 ex_6 => ?_)
    obtain rfl : x_6 = 0 := ex_6
    refine lv_if_eq (tgt := 22) hx hb dX8_dropPerson_16 (by decide) (fun c_7 => ?_) (fun c_7 => absurd (by decide) c_7)
    refine lv_aload_n hx hb dX8_dropPerson_22 rfl (lv_at hl 0 rfl) ?_
    refine va_get (D := (dC, dI)) (ci := 8) (v := .ref hEra) (C := RX8) (T := TX8) (N := 17) hx hb hts hIX8 hown hK hP 0 rfl rfl 2 (by decide) (hts (.fieldLink RX8 23 "TraitHouse" "erased" "[Z") (by decide +kernel)) (fun _ h9 => h9) rfl dX8_dropPerson_23 ?_
    refine lv_iload_n hx hb dX8_dropPerson_26 rfl (lv_at hl 1 rfl) ?_
    refine lv_iconst (v := 1) hx hb dX8_dropPerson_27 (by decide) ?_
    have h_8 : vp_in a 20 := (vp_in_iff.mpr ⟨by omega, by omega⟩)
    refine va_zast hx hb hK hP hD hS 1 0 rfl rfl h_8 dX8_dropPerson_28 (fun H locs hP hD hS => ?_)
    have hP : va_P (dC, dI) vwCl [(h0, .inr (8, [.ref hRows, .ref hMer, .ref hEra, .ref hTape, .ref hRea, .ref hTra, .ref hWor, .ref hPla, .ref hMod, .ref hHe1, .ref hHe2, .int 0, .int 0, .int 0, .int 0, .int (-1), .int 0])), (hEra, .inl (cE, 20, .inl (upd (fun _ => 0) a.toNatClampNeg (vp_nar .boolean 1)))), (hPla, .inr (1, [.ref aO, .ref aQ, .ref aF, .ref aW, .int 0])), (hRows, .inr (3, [.ref aP, .ref aS, .ref aM, .ref aK, .ref aV, .int 0, .int 0]))] H := hP
    have hD : va_D A [(h0, .inr (8, [.ref hRows, .ref hMer, .ref hEra, .ref hTape, .ref hRea, .ref hTra, .ref hWor, .ref hPla, .ref hMod, .ref hHe1, .ref hHe2, .int 0, .int 0, .int 0, .int 0, .int (-1), .int 0])), (hEra, .inl (cE, 20, .inl (upd (fun _ => 0) a.toNatClampNeg (vp_nar .boolean 1)))), (hPla, .inr (1, [.ref aO, .ref aQ, .ref aF, .ref aW, .int 0])), (hRows, .inr (3, [.ref aP, .ref aS, .ref aM, .ref aK, .ref aV, .int 0, .int 0]))] := hD
    obtain ⟨g_9, eg_9⟩ : ∃ g : Nat → Int32, g = upd (fun _ => 0) a.toNatClampNeg (vp_nar .boolean 1) := ⟨_, rfl⟩
    rw [← eg_9] at hP hD
    refine lv_aload_n hx hb dX8_dropPerson_29 rfl (lv_at hl 0 rfl) ?_
    refine lv_dup hx hb dX8_dropPerson_30 rfl ?_
    refine va_get (D := (dC, dI)) (ci := 8) (v := .int 0) (C := RX8) (T := TX8) (N := 17) hx hb hts hIX8 hown hK hP 0 rfl rfl 12 (by decide) (hts (.fieldLink RX8 127 "TraitHouse" "erasedPeople" "I") (by decide +kernel)) (fun _ h9 => h9) rfl dX8_dropPerson_31 ?_
    refine lv_iconst (v := 1) hx hb dX8_dropPerson_34 (by decide) ?_
    refine lv_iadd hx hb dX8_dropPerson_35 ?_
    refine lv_topi (fun x_10 ex_10 => ?_)
    obtain rfl : x_10 = 1 := ex_10.trans (by decide)
    refine va_put (D := (dC, dI)) (ci := 8) (v := .int 1) (ty := .int) (C := RX8) (T := TX8) (N := 17) hx hb hts hIX8 tyX8 tyX8_ok nmX8 hown hK hP hD hS 0 rfl rfl 12 (by decide) (hts (.fieldLink RX8 127 "TraitHouse" "erasedPeople" "I") (by decide +kernel)) (fun _ h9 => h9) rfl (by decide +kernel) rfl rfl (Nat.le_of_ble_eq_true rfl) dX8_dropPerson_36 (fun H locs hP hD hS => ?_)
    have hP : va_P (dC, dI) vwCl [(h0, .inr (8, [.ref hRows, .ref hMer, .ref hEra, .ref hTape, .ref hRea, .ref hTra, .ref hWor, .ref hPla, .ref hMod, .ref hHe1, .ref hHe2, .int 0, .int 1, .int 0, .int 0, .int (-1), .int 0])), (hEra, .inl (cE, 20, .inl g_9)), (hPla, .inr (1, [.ref aO, .ref aQ, .ref aF, .ref aW, .int 0])), (hRows, .inr (3, [.ref aP, .ref aS, .ref aM, .ref aK, .ref aV, .int 0, .int 0]))] H := hP
    have hD : va_D A [(h0, .inr (8, [.ref hRows, .ref hMer, .ref hEra, .ref hTape, .ref hRea, .ref hTra, .ref hWor, .ref hPla, .ref hMod, .ref hHe1, .ref hHe2, .int 0, .int 1, .int 0, .int 0, .int (-1), .int 0])), (hEra, .inl (cE, 20, .inl g_9)), (hPla, .inr (1, [.ref aO, .ref aQ, .ref aF, .ref aW, .int 0])), (hRows, .inr (3, [.ref aP, .ref aS, .ref aM, .ref aK, .ref aV, .int 0, .int 0]))] := hD
    refine lv_iconst (v := 0) hx hb dX8_dropPerson_39 (by decide) ?_
    refine lv_istore_n (lv' := [(2, .int 0), (0, .ref h0), (1, .int a)]) hx hb dX8_dropPerson_40 rfl hl (by decide) rfl (fun ls hl => ?_)
    have loop : ∀ (n : Nat) (i41 : Int32) (H : Heap) (locs : List Loc) (ls : Array Slot), 0 ≤ i41.toInt → i41.toInt ≤ 20 → 20 < i41.toInt + n → va_P (dC, dI) vwCl [(h0, .inr (8, [.ref hRows, .ref hMer, .ref hEra, .ref hTape, .ref hRea, .ref hTra, .ref hWor, .ref hPla, .ref hMod, .ref hHe1, .ref hHe2, .int 0, .int 1, .int 0, .int 0, .int (-1), .int 0])), (hEra, .inl (cE, 20, .inl g_9)), (hPla, .inr (1, [.ref aO, .ref aQ, .ref aF, .ref aW, .int 0])), (hRows, .inr (3, [.ref aP, .ref aS, .ref aM, .ref aK, .ref aV, .int 0, .int 0]))] H → va_D A [(h0, .inr (8, [.ref hRows, .ref hMer, .ref hEra, .ref hTape, .ref hRea, .ref hTra, .ref hWor, .ref hPla, .ref hMod, .ref hHe1, .ref hHe2, .int 0, .int 1, .int 0, .int 0, .int (-1), .int 0])), (hEra, .inl (cE, 20, .inl g_9)), (hPla, .inr (1, [.ref aO, .ref aQ, .ref aF, .ref aW, .int 0])), (hRows, .inr (3, [.ref aP, .ref aS, .ref aM, .ref aK, .ref aV, .int 0, .int 0]))] → va_S A s.heap H locs → lv_has ls 4 [(2, .int i41), (0, .ref h0), (1, .int a)] → W p l e ({ frames := 1, cells := 0, slots := 0, locals := 23 }) s m ([.ref h0, .int a] : List Value).toArray below meth c H locs 0 0 QQ (F0 m 41 ls []) := by
      intro n
      induction n with
      | zero => intro i41 H locs ls hi0 hi1 hi2; exfalso; omega
      | succ n ih =>
        intro i41 H locs ls hi0 hi1 hi2  hP hD hS hl
        refine lv_iload_n hx hb dX8_dropPerson_41 rfl (lv_at hl 0 rfl) ?_
        refine lv_bipush (v := 20) hx hb dX8_dropPerson_42 (by decide) ?_
        refine lv_icmp_ge (tgt := 68) hx hb dX8_dropPerson_44 (by decide) (fun c_11 => ?_) (fun c_11 => ?_)
        · have dc_11 : 20 ≤ i41.toInt := jI_le c_11 (by decide) rfl
          refine lv_aload_n hx hb dX8_dropPerson_68 rfl (lv_at hl 1 rfl) ?_
          refine va_get (D := (dC, dI)) (ci := 8) (v := .ref hPla) (C := RX8) (T := TX8) (N := 17) hx hb hts hIX8 hown hK hP 0 rfl rfl 7 (by decide) (hts (.fieldLink RX8 61 "TraitHouse" "places" "LTraitHouse$Places;") (by decide +kernel)) (fun _ h9 => h9) rfl dX8_dropPerson_69 ?_
          refine lv_iload_n hx hb dX8_dropPerson_72 rfl (lv_at hl 2 rfl) ?_
          have hPc := hP.sub (ws' := [(hPla, .inr (1, [.ref aO, .ref aQ, .ref aF, .ref aW, .int 0]))]) [2] rfl
          have hDc := hD.sub (ws' := [(hPla, .inr (1, [.ref aO, .ref aQ, .ref aF, .ref aW, .int 0]))]) [2] (by decide) rfl
          have hKc := hK.sub (tys' := []) [] rfl
          have hFc := va_free (wc := [(hPla, .inr (1, [.ref aO, .ref aQ, .ref aF, .ref aW, .int 0]))]) hD hS hA [2] rfl
          refine va_callv (va_runVN (As := [.int a]) (rest := []) ⟨hx, hb, hml, hown, hts⟩ (c_X1_forget l dC dI H.size hPla aO aQ aF aW a ) ⟨(va_cnB 1 hts gX8_dropPerson_X1_forget_n138 rfl rfl rfl (nw_at hN 42 rfl) (hts (.initialized RX1) (by decide +kernel)) (by decide +kernel) ⟨Nat.le_of_ble_eq_true rfl, Nat.le_of_ble_eq_true rfl⟩), (hts (.instanceMethod yX1_forget) (by decide +kernel)), (hts (.selects RX1 yX1_forget yX1_forget) (by decide +kernel))⟩ ⟨fun a U g mk q => by obtain ⟨q0, q1, qP, qK, qD, qN⟩ := q; exact ⟨q0, q1, qP, va_K.moved (u := U) (U := U.calling g mk a) (Vm.Alike.refl U.vm) qK, qD, qN.same rfl⟩, va_recv hKc hPc (ci := 1) (q0 := 0) rfl rfl, fun U hU hW => ⟨rfl, by rw [hU], by rw [hU]; exact hPc, va_K.moved hW.alike hKc, hDc.weaken (fun _ _ _ _ => trivial), hN.warm hW⟩⟩ rfl rfl hl.1 rfl (lv_room (Nat.le_of_ble_eq_true rfl)) dX8_dropPerson_73 ⟨Nat.le_of_ble_eq_true rfl, Nat.le_of_ble_eq_true rfl⟩) hS (fun q _ h => hFc q h) hFc (fun u_12 t H1 locs ht hvm hw_13 hB hz1 hk1 hS => ?_)
          try dsimp only at hw_13
          have hP1 : va_P (dC, dI) vwCl [] H1 := fun k q h => by simp at h
          have hD1 : va_D (va_A [(hPla, .inr (1, [.ref aO, .ref aQ, .ref aF, .ref aW, .int 0]))] H.size) [] := ⟨fun i j p q h => by simp at h, fun k q h => by simp at h⟩
          have hK1 : va_K (dC, dI) vwCl [] s := hK.sub [] rfl
          obtain ⟨hP, hD⟩ := va_join (wr := [(h0, .inr (8, [.ref hRows, .ref hMer, .ref hEra, .ref hTape, .ref hRea, .ref hTra, .ref hWor, .ref hPla, .ref hMod, .ref hHe1, .ref hHe2, .int 0, .int 1, .int 0, .int 0, .int (-1), .int 0])), (hEra, .inl (cE, 20, .inl g_9)), (hRows, .inr (3, [.ref aP, .ref aS, .ref aM, .ref aK, .ref aV, .int 0, .int 0]))]) (w1 := []) hP hD [2] [0, 1, 3] rfl rfl (by decide) (by decide) hk1 hFc hP1 hD1
          have hK := (hK.sub (tys' := [(cE, .boolean)]) [0] rfl).app hK1
          generalize H1 = H at hP hS ⊢
          have hP : va_P (dC, dI) vwCl [(h0, .inr (8, [.ref hRows, .ref hMer, .ref hEra, .ref hTape, .ref hRea, .ref hTra, .ref hWor, .ref hPla, .ref hMod, .ref hHe1, .ref hHe2, .int 0, .int 1, .int 0, .int 0, .int (-1), .int 0])), (hEra, .inl (cE, 20, .inl g_9)), (hRows, .inr (3, [.ref aP, .ref aS, .ref aM, .ref aK, .ref aV, .int 0, .int 0]))] H := hP
          have hD : va_D A [(h0, .inr (8, [.ref hRows, .ref hMer, .ref hEra, .ref hTape, .ref hRea, .ref hTra, .ref hWor, .ref hPla, .ref hMod, .ref hHe1, .ref hHe2, .int 0, .int 1, .int 0, .int 0, .int (-1), .int 0])), (hEra, .inl (cE, 20, .inl g_9)), (hRows, .inr (3, [.ref aP, .ref aS, .ref aM, .ref aK, .ref aV, .int 0, .int 0]))] := hD
          have hK : va_K (dC, dI) vwCl [(cE, .boolean)] s := hK
          refine lv_aload_n hx hb dX8_dropPerson_76 rfl (lv_at hl 1 rfl) ?_
          refine va_get (D := (dC, dI)) (ci := 8) (v := .ref hRows) (C := RX8) (T := TX8) (N := 17) hx hb hts hIX8 hown hK hP 0 rfl rfl 0 (by decide) (hts (.fieldLink RX8 10 "TraitHouse" "rows" "LTraitHouse$Rows;") (by decide +kernel)) (fun _ h9 => h9) rfl dX8_dropPerson_77 ?_
          refine lv_iload_n hx hb dX8_dropPerson_80 rfl (lv_at hl 2 rfl) ?_
          have hPc := hP.sub (ws' := [(hRows, .inr (3, [.ref aP, .ref aS, .ref aM, .ref aK, .ref aV, .int 0, .int 0]))]) [2] rfl
          have hDc := hD.sub (ws' := [(hRows, .inr (3, [.ref aP, .ref aS, .ref aM, .ref aK, .ref aV, .int 0, .int 0]))]) [2] (by decide) rfl
          have hKc := hK.sub (tys' := []) [] rfl
          have hFc := va_free (wc := [(hRows, .inr (3, [.ref aP, .ref aS, .ref aM, .ref aK, .ref aV, .int 0, .int 0]))]) hD hS hA [2] rfl
          refine va_calli (va_runVN (As := [.int a]) (rest := []) ⟨hx, hb, hml, hown, hts⟩ (c_X3_drop l dC dI H.size hRows aP aS aM aK aV a ) ⟨(va_cnB 1 hts gX8_dropPerson_X3_drop_n139 rfl rfl rfl (nw_at hN 43 rfl) (hts (.initialized RX3) (by decide +kernel)) (by decide +kernel) ⟨Nat.le_of_ble_eq_true rfl, Nat.le_of_ble_eq_true rfl⟩), (hts (.instanceMethod yX3_drop) (by decide +kernel)), (hts (.selects RX3 yX3_drop yX3_drop) (by decide +kernel))⟩ ⟨fun a U g mk q => by obtain ⟨q0, q1, qP, qK, qD, qN⟩ := q; exact ⟨q0, q1, qP, va_K.moved (u := U) (U := U.calling g mk a) (Vm.Alike.refl U.vm) qK, qD, qN.same rfl⟩, va_recv hKc hPc (ci := 3) (q0 := 0) rfl rfl, fun U hU hW => ⟨rfl, by rw [hU], by rw [hU]; exact hPc, va_K.moved hW.alike hKc, hDc.weaken (fun _ _ _ _ => trivial), hN.warm hW⟩⟩ rfl rfl hl.1 rfl (lv_room (Nat.le_of_ble_eq_true rfl)) dX8_dropPerson_81 ⟨Nat.le_of_ble_eq_true rfl, Nat.le_of_ble_eq_true rfl⟩) hS (fun q _ h => hFc q h) hFc (fun r_14 u_15 t H1 locs ht hvm hw_16 hB hz1 hk1 hS => ?_)
          try dsimp only at hw_16
          have hP1 : va_P (dC, dI) vwCl [] H1 := fun k q h => by simp at h
          have hD1 : va_D (va_A [(hRows, .inr (3, [.ref aP, .ref aS, .ref aM, .ref aK, .ref aV, .int 0, .int 0]))] H.size) [] := ⟨fun i j p q h => by simp at h, fun k q h => by simp at h⟩
          have hK1 : va_K (dC, dI) vwCl [] s := hK.sub [] rfl
          obtain ⟨hP, hD⟩ := va_join (wr := [(h0, .inr (8, [.ref hRows, .ref hMer, .ref hEra, .ref hTape, .ref hRea, .ref hTra, .ref hWor, .ref hPla, .ref hMod, .ref hHe1, .ref hHe2, .int 0, .int 1, .int 0, .int 0, .int (-1), .int 0])), (hEra, .inl (cE, 20, .inl g_9))]) (w1 := []) hP hD [2] [0, 1] rfl rfl (by decide) (by decide) hk1 hFc hP1 hD1
          have hK := (hK.sub (tys' := [(cE, .boolean)]) [0] rfl).app hK1
          generalize H1 = H at hP hS ⊢
          have hP : va_P (dC, dI) vwCl [(h0, .inr (8, [.ref hRows, .ref hMer, .ref hEra, .ref hTape, .ref hRea, .ref hTra, .ref hWor, .ref hPla, .ref hMod, .ref hHe1, .ref hHe2, .int 0, .int 1, .int 0, .int 0, .int (-1), .int 0])), (hEra, .inl (cE, 20, .inl g_9))] H := hP
          have hD : va_D A [(h0, .inr (8, [.ref hRows, .ref hMer, .ref hEra, .ref hTape, .ref hRea, .ref hTra, .ref hWor, .ref hPla, .ref hMod, .ref hHe1, .ref hHe2, .int 0, .int 1, .int 0, .int 0, .int (-1), .int 0])), (hEra, .inl (cE, 20, .inl g_9))] := hD
          have hK : va_K (dC, dI) vwCl [(cE, .boolean)] s := hK
          obtain rfl : 0 = r_14 := hw_16.symm
          have hP9 := hP.sub (ws' := [(h0, .inr (8, [.ref hRows, .ref hMer, .ref hEra, .ref hTape, .ref hRea, .ref hTra, .ref hWor, .ref hPla, .ref hMod, .ref hHe1, .ref hHe2, .int 0, .int 1, .int 0, .int 0, .int (-1), .int 0]))]) [0] rfl
          have hD9 := hD.sub (ws' := [(h0, .inr (8, [.ref hRows, .ref hMer, .ref hEra, .ref hTape, .ref hRea, .ref hTra, .ref hWor, .ref hPla, .ref hMod, .ref hHe1, .ref hHe2, .int 0, .int 1, .int 0, .int 0, .int (-1), .int 0]))]) [0] (by decide) rfl
          have hK9 := hK.sub (tys' := []) [] rfl
          subst hQe
          have hans : (0 : Int32).toInt = 0 := (by decide)
          exact W.iret (v := 0) hx hb hr (fun t ht hW => ⟨⟨0, 1, rfl, by first | omega | (dsimp only; omega), by rw [ht]; exact hP9, va_K.moved hW.alike hK9, hD9⟩, hS.F ht⟩) hS.2.2 dX8_dropPerson_84
        · have dc_11 : i41.toInt < 20 := jI_nle c_11 (by decide) rfl
          refine lv_aload_n hx hb dX8_dropPerson_47 rfl (lv_at hl 1 rfl) ?_
          refine lv_iload_n hx hb dX8_dropPerson_48 rfl (lv_at hl 0 rfl) ?_
          have hPc := hP.sub (ws' := [(h0, .inr (8, [.ref hRows, .ref hMer, .ref hEra, .ref hTape, .ref hRea, .ref hTra, .ref hWor, .ref hPla, .ref hMod, .ref hHe1, .ref hHe2, .int 0, .int 1, .int 0, .int 0, .int (-1), .int 0]))]) [0] rfl
          have hDc := hD.sub (ws' := [(h0, .inr (8, [.ref hRows, .ref hMer, .ref hEra, .ref hTape, .ref hRea, .ref hTra, .ref hWor, .ref hPla, .ref hMod, .ref hHe1, .ref hHe2, .int 0, .int 1, .int 0, .int 0, .int (-1), .int 0]))]) [0] (by decide) rfl
          have hKc := hK.sub (tys' := []) [] rfl
          have hFc := va_free (wc := [(h0, .inr (8, [.ref hRows, .ref hMer, .ref hEra, .ref hTape, .ref hRea, .ref hTra, .ref hWor, .ref hPla, .ref hMod, .ref hHe1, .ref hHe2, .int 0, .int 1, .int 0, .int 0, .int (-1), .int 0]))]) hD hS hA [0] rfl
          refine va_callq (va_runV (As := [.int i41]) (rest := []) ⟨hx, hb, hml, hown, hts⟩ (c_X8_traitAt l dC dI H.size h0 hRows hMer hEra hTape hRea hTra hWor hPla hMod hHe1 hHe2 0 1 0 (-1) 0 i41 ) (cwV 1 hts gX8_dropPerson_X8_traitAt rfl rfl rfl (by decide +kernel) ⟨Nat.le_of_ble_eq_true rfl, Nat.le_of_ble_eq_true rfl⟩) ⟨fun a U g mk q => by obtain ⟨q0, q1, qP, qK, qD, qN⟩ := q; exact ⟨q0, q1, qP, va_K.moved (u := U) (U := U.calling g mk a) (Vm.Alike.refl U.vm) qK, qD, qN.same rfl⟩, va_recv hKc hPc (ci := 8) (q0 := 0) rfl rfl, fun U hU hW => ⟨rfl, by rw [hU], by rw [hU]; exact hPc, va_K.moved hW.alike hKc, hDc.weaken (fun _ _ _ _ => trivial), hN.warm hW⟩⟩ rfl rfl hl.1 rfl (lv_room (Nat.le_of_ble_eq_true rfl)) dX8_dropPerson_49 ⟨Nat.le_of_ble_eq_true rfl, Nat.le_of_ble_eq_true rfl⟩) hS (fun q _ h => hFc q h) hFc (fun r_17 u_18 t H1 locs ht hvm hw_19 hB hz1 hk1 hS => ?_)
          try dsimp only at hw_19
          obtain ⟨hP1, hK1, hD1⟩ := hB
          rw [ht] at hP1
          have hK1 := va_K.moved hvm.symm hK1
          obtain ⟨hP, hD⟩ := va_join (wr := [(hEra, .inl (cE, 20, .inl g_9)), (hPla, .inr (1, [.ref aO, .ref aQ, .ref aF, .ref aW, .int 0])), (hRows, .inr (3, [.ref aP, .ref aS, .ref aM, .ref aK, .ref aV, .int 0, .int 0]))]) (w1 := [(h0, .inr (8, [.ref hRows, .ref hMer, .ref hEra, .ref hTape, .ref hRea, .ref hTra, .ref hWor, .ref hPla, .ref hMod, .ref hHe1, .ref hHe2, .int 0, .int 1, .int 0, .int 0, .int (-1), .int 0]))]) hP hD [0] [1, 2, 3] rfl rfl (by decide) (by decide) hk1 hFc hP1 hD1
          have hK := (hK.sub (tys' := [(cE, .boolean)]) [0] rfl).app hK1
          generalize H1 = H at hP hS ⊢
          have hP : va_P (dC, dI) vwCl [(hEra, .inl (cE, 20, .inl g_9)), (hPla, .inr (1, [.ref aO, .ref aQ, .ref aF, .ref aW, .int 0])), (hRows, .inr (3, [.ref aP, .ref aS, .ref aM, .ref aK, .ref aV, .int 0, .int 0])), (h0, .inr (8, [.ref hRows, .ref hMer, .ref hEra, .ref hTape, .ref hRea, .ref hTra, .ref hWor, .ref hPla, .ref hMod, .ref hHe1, .ref hHe2, .int 0, .int 1, .int 0, .int 0, .int (-1), .int 0]))] H := hP
          have hD : va_D A [(hEra, .inl (cE, 20, .inl g_9)), (hPla, .inr (1, [.ref aO, .ref aQ, .ref aF, .ref aW, .int 0])), (hRows, .inr (3, [.ref aP, .ref aS, .ref aM, .ref aK, .ref aV, .int 0, .int 0])), (h0, .inr (8, [.ref hRows, .ref hMer, .ref hEra, .ref hTape, .ref hRea, .ref hTra, .ref hWor, .ref hPla, .ref hMod, .ref hHe1, .ref hHe2, .int 0, .int 1, .int 0, .int 0, .int (-1), .int 0]))] := hD
          have hK : va_K (dC, dI) vwCl [(cE, .boolean)] s := hK
          obtain rfl : none = r_17 := hw_19.symm
          refine W.eq (g2 := F0 m 52 ls [.null]) rfl ?_
          refine lv_astore_nN (lv' := [(3, .null), (2, .int i41), (0, .ref h0), (1, .int a)]) hx hb dX8_dropPerson_52 rfl hl (by decide) rfl (fun ls hl => ?_)
          refine lv_aload_nN hx hb dX8_dropPerson_53 rfl (lv_at hl 0 rfl) ?_
          refine lv_ifnullN (tgt := 62) hx hb dX8_dropPerson_54 (by decide) ?_
          obtain ⟨x_20, ex_20⟩ : ∃ y : Int32, y = i41 + 1 := ⟨_, rfl⟩
          have dx_20 : x_20.toInt = i41.toInt + 1 := by rw [ex_20]; exact jI_add rfl (by decide) (by omega) (by omega)
          refine lv_iinc (v := x_20) (lv' := [(2, .int x_20), (3, .null), (0, .ref h0), (1, .int a)]) hx hb dX8_dropPerson_62 hl (k := 1) rfl (by rw [ex_20]; rfl) (by decide) rfl (fun ls hl => ?_)
          refine lv_goto (tgt := 41) hx hb dX8_dropPerson_65 (by decide) ?_
          exact ih x_20 _ _ ls (by omega) (by omega) (by omega)   (hP.sub [3, 0, 1, 2] rfl) (hD.sub [3, 0, 1, 2] (by decide) rfl) hS (lv_sub hl [0, 2, 3] rfl)
    exact loop 21 0 _ _ ls (by decide) (by decide) (by decide)   hP hD hS (lv_sub hl [0, 1, 2] rfl)
  · have dc_4 : r_1.toInt = 0 := jI_eq c_4 rfl (by decide)
    refine lv_bipush (v := (-2)) hx hb dX8_dropPerson_7 (by decide) ?_
    have hP9 := hP.sub (ws' := [(h0, .inr (8, [.ref hRows, .ref hMer, .ref hEra, .ref hTape, .ref hRea, .ref hTra, .ref hWor, .ref hPla, .ref hMod, .ref hHe1, .ref hHe2, .int 0, .int 0, .int 0, .int 0, .int (-1), .int 0]))]) [0] rfl
    have hD9 := hD.sub (ws' := [(h0, .inr (8, [.ref hRows, .ref hMer, .ref hEra, .ref hTape, .ref hRea, .ref hTra, .ref hWor, .ref hPla, .ref hMod, .ref hHe1, .ref hHe2, .int 0, .int 0, .int 0, .int 0, .int (-1), .int 0]))]) [0] (by decide) rfl
    have hK9 := hK.sub (tys' := []) [] rfl
    subst hQe
    have hans : ((-2) : Int32).toInt = (-2) := (by decide)
    exact W.iret (v := (-2)) hx hb hr (fun t ht hW => ⟨⟨(-2), 0, rfl, by first | omega | (dsimp only; omega), by rw [ht]; exact hP9, va_K.moved hW.alike hK9, hD9⟩, hS.F ht⟩) hS.2.2 dX8_dropPerson_9

set_option maxHeartbeats 4000000 in
set_option maxRecDepth 100000 in
theorem c_X8_erase (l : Launch) (dC : Nat → ClassId) (dI : Nat → Nat → Nat) (sz : Nat) (h0 : Nat) (hRows : Nat) (hMer : Nat) (hEra : Nat) (hTape : Nat) (hRea : Nat) (hTra : Nat) (hWor : Nat) (hPla : Nat) (hMod : Nat) (hHe1 : Nat) (hHe2 : Nat) (aO : Nat) (aQ : Nat) (aF : Nat) (aW : Nat) (aP : Nat) (aS : Nat) (aM : Nat) (aK : Nat) (aV : Nat) (cE : ClassId) (a : Int32)  : Met l yX8_erase wsX8_erase ({ frames := 2, cells := 0, slots := 0, locals := 46 }) (va_Pc [.ref h0, .int a] (fun U => U.heap.size = sz ∧ va_P (dC, dI) vwCl [(h0, .inr (8, [.ref hRows, .ref hMer, .ref hEra, .ref hTape, .ref hRea, .ref hTra, .ref hWor, .ref hPla, .ref hMod, .ref hHe1, .ref hHe2, .int 0, .int 0, .int 0, .int 0, .int (-1), .int 0])), (hEra, .inl (cE, 20, .inl (fun _ => 0))), (hPla, .inr (1, [.ref aO, .ref aQ, .ref aF, .ref aW, .int 0])), (hRows, .inr (3, [.ref aP, .ref aS, .ref aM, .ref aK, .ref aV, .int 0, .int 0]))] U.heap ∧ va_K (dC, dI) vwCl [(cE, .boolean)] U ∧ va_D (fun _ => True) [(h0, .inr (8, [.ref hRows, .ref hMer, .ref hEra, .ref hTape, .ref hRea, .ref hTra, .ref hWor, .ref hPla, .ref hMod, .ref hHe1, .ref hHe2, .int 0, .int 0, .int 0, .int 0, .int (-1), .int 0])), (hEra, .inl (cE, 20, .inl (fun _ => 0))), (hPla, .inr (1, [.ref aO, .ref aQ, .ref aF, .ref aW, .int 0])), (hRows, .inr (3, [.ref aP, .ref aS, .ref aM, .ref aK, .ref aV, .int 0, .int 0]))] ∧ nw_ok U)) (va_Qi (fun (r : Int32) (_ : Unit) => (0 ≤ a.toInt ∧ a.toInt ≤ 19 → r.toInt = 0) ∧ (¬ (0 ≤ a.toInt ∧ a.toInt ≤ 19) → r.toInt = (-2))) (fun (_ : Unit) (t : State) => True) (va_A [(h0, .inr (8, [.ref hRows, .ref hMer, .ref hEra, .ref hTape, .ref hRea, .ref hTra, .ref hWor, .ref hPla, .ref hMod, .ref hHe1, .ref hHe2, .int 0, .int 0, .int 0, .int 0, .int (-1), .int 0])), (hEra, .inl (cE, 20, .inl (fun _ => 0))), (hPla, .inr (1, [.ref aO, .ref aQ, .ref aF, .ref aW, .int 0])), (hRows, .inr (3, [.ref aP, .ref aS, .ref aM, .ref aK, .ref aV, .int 0, .int 0]))] sz)) 0 0 (va_A [(h0, .inr (8, [.ref hRows, .ref hMer, .ref hEra, .ref hTape, .ref hRea, .ref hTra, .ref hWor, .ref hPla, .ref hMod, .ref hHe1, .ref hHe2, .int 0, .int 0, .int 0, .int 0, .int (-1), .int 0])), (hEra, .inl (cE, 20, .inl (fun _ => 0))), (hPla, .inr (1, [.ref aO, .ref aQ, .ref aF, .ref aW, .int 0])), (hRows, .inr (3, [.ref aP, .ref aS, .ref aM, .ref aK, .ref aV, .int 0, .int 0]))] sz) := by
  refine Met.ofW (cc := cX8_erase) (maxL := 2) (ret := (some .int)) (by decide) rfl ?_
  intro p e s m args below meth c s₁ B hml hv
  obtain ⟨rfl, hsz, hP, hK, hD0, hN⟩ := hv
  have hx := B.exec
  have hb := B.bytes
  have hr := B.returns
  have hts := atoms_spec (ws := wsX8_erase) B.pre
  have hown : s.vm.findClass RX8 = some m.cls := findClass_of_methodNamed B.named
  have hlocks := B.notSynchronized
  subst hsz
  have hD := hD0.self (sz := s.heap.size)
  generalize hAe : va_A [(h0, .inr (8, [.ref hRows, .ref hMer, .ref hEra, .ref hTape, .ref hRea, .ref hTra, .ref hWor, .ref hPla, .ref hMod, .ref hHe1, .ref hHe2, .int 0, .int 0, .int 0, .int 0, .int (-1), .int 0])), (hEra, .inl (cE, 20, .inl (fun _ => 0))), (hPla, .inr (1, [.ref aO, .ref aQ, .ref aF, .ref aW, .int 0])), (hRows, .inr (3, [.ref aP, .ref aS, .ref aM, .ref aK, .ref aV, .int 0, .int 0]))] s.heap.size = A at hD ⊢
  have hA : ∀ q : Nat, s.heap.size ≤ q → A q := fun q h => by rw [← hAe]; exact Or.inr h
  have hS : va_S A s.heap s.heap [] := va_S.rf
  have hP : va_P (dC, dI) vwCl [(h0, .inr (8, [.ref hRows, .ref hMer, .ref hEra, .ref hTape, .ref hRea, .ref hTra, .ref hWor, .ref hPla, .ref hMod, .ref hHe1, .ref hHe2, .int 0, .int 0, .int 0, .int 0, .int (-1), .int 0])), (hEra, .inl (cE, 20, .inl (fun _ => 0))), (hPla, .inr (1, [.ref aO, .ref aQ, .ref aF, .ref aW, .int 0])), (hRows, .inr (3, [.ref aP, .ref aS, .ref aM, .ref aK, .ref aV, .int 0, .int 0]))] s.heap := hP
  have hl := lv_entry ([.ref h0, .int a]) (n := 2) (Nat.le_of_ble_eq_true rfl)
  rw [lg_entry_eq]
  generalize (lg_sl ([.ref h0, .int a]) ++ List.replicate (2 - (lg_sl ([.ref h0, .int a])).length) Slot.unset).toArray = ls at hl ⊢
  have hl : lv_has ls 2 [(0, .ref h0), (1, .int a)] := hl
  refine lv_aload_n hx hb dX8_erase_0 rfl (lv_at hl 0 rfl) ?_
  refine lv_aload_n hx hb dX8_erase_1 rfl (lv_at hl 0 rfl) ?_
  refine lv_iload_n hx hb dX8_erase_2 rfl (lv_at hl 1 rfl) ?_
  have hk_1 : (0 : Int32).toInt = 0 := by decide
  have hk_2 : ((-1) : Int32).toInt = (-1) := by decide
  have hPc := hP.sub (ws' := [(h0, .inr (8, [.ref hRows, .ref hMer, .ref hEra, .ref hTape, .ref hRea, .ref hTra, .ref hWor, .ref hPla, .ref hMod, .ref hHe1, .ref hHe2, .int 0, .int 0, .int 0, .int 0, .int (-1), .int 0])), (hEra, .inl (cE, 20, .inl (fun _ => 0))), (hPla, .inr (1, [.ref aO, .ref aQ, .ref aF, .ref aW, .int 0])), (hRows, .inr (3, [.ref aP, .ref aS, .ref aM, .ref aK, .ref aV, .int 0, .int 0]))]) [0, 1, 2, 3] rfl
  have hDc := hD.sub (ws' := [(h0, .inr (8, [.ref hRows, .ref hMer, .ref hEra, .ref hTape, .ref hRea, .ref hTra, .ref hWor, .ref hPla, .ref hMod, .ref hHe1, .ref hHe2, .int 0, .int 0, .int 0, .int 0, .int (-1), .int 0])), (hEra, .inl (cE, 20, .inl (fun _ => 0))), (hPla, .inr (1, [.ref aO, .ref aQ, .ref aF, .ref aW, .int 0])), (hRows, .inr (3, [.ref aP, .ref aS, .ref aM, .ref aK, .ref aV, .int 0, .int 0]))]) [0, 1, 2, 3] (by decide) rfl
  have hKc := hK.sub (tys' := [(cE, .boolean)]) [0] rfl
  have hFc := va_free (wc := [(h0, .inr (8, [.ref hRows, .ref hMer, .ref hEra, .ref hTape, .ref hRea, .ref hTra, .ref hWor, .ref hPla, .ref hMod, .ref hHe1, .ref hHe2, .int 0, .int 0, .int 0, .int 0, .int (-1), .int 0])), (hEra, .inl (cE, 20, .inl (fun _ => 0))), (hPla, .inr (1, [.ref aO, .ref aQ, .ref aF, .ref aW, .int 0])), (hRows, .inr (3, [.ref aP, .ref aS, .ref aM, .ref aK, .ref aV, .int 0, .int 0]))]) hD hS hA [0, 1, 2, 3] rfl
  refine va_calli (va_runV (As := [.int a]) (rest := [.ref h0]) ⟨hx, hb, hml, hown, hts⟩ (c_X8_dropPerson l dC dI s.heap.size h0 hRows hMer hEra hTape hRea hTra hWor hPla hMod hHe1 hHe2 aO aQ aF aW aP aS aM aK aV cE a ) (cwV 1 hts gX8_erase_X8_dropPerson rfl rfl rfl (by decide +kernel) ⟨Nat.le_of_ble_eq_true rfl, Nat.le_of_ble_eq_true rfl⟩) ⟨fun a U g mk q => by obtain ⟨q0, q1, qP, qK, qD, qN⟩ := q; exact ⟨q0, q1, qP, va_K.moved (u := U) (U := U.calling g mk a) (Vm.Alike.refl U.vm) qK, qD, qN.same rfl⟩, va_recv hKc hPc (ci := 8) (q0 := 0) rfl rfl, fun U hU hW => ⟨rfl, by rw [hU], by rw [hU]; exact hPc, va_K.moved hW.alike hKc, hDc.weaken (fun _ _ _ _ => trivial), hN.warm hW⟩⟩ rfl rfl hl.1 rfl (lv_room (Nat.le_of_ble_eq_true rfl)) dX8_erase_3 ⟨Nat.le_of_ble_eq_true rfl, Nat.le_of_ble_eq_true rfl⟩) hS (fun q _ h => hFc q h) hFc (fun r_3 u_4 t H1 locs ht hvm hw_5 hB hz1 hk1 hS => ?_)
  obtain ⟨w_6, rfl⟩ : ∃ z, z = u_4 := ⟨_, rfl⟩
  try dsimp only at hw_5
  obtain ⟨hP1, hK1, hD1⟩ := hB
  rw [ht] at hP1
  have hK1 := va_K.moved hvm.symm hK1
  obtain ⟨hP, hD⟩ := va_join (wr := []) (w1 := [(h0, .inr (8, [.ref hRows, .ref hMer, .ref hEra, .ref hTape, .ref hRea, .ref hTra, .ref hWor, .ref hPla, .ref hMod, .ref hHe1, .ref hHe2, .int 0, .int w_6, .int 0, .int 0, .int (-1), .int 0]))]) hP hD [0, 1, 2, 3] [] rfl rfl (by decide) (by decide) hk1 hFc hP1 hD1
  have hK := (hK.sub (tys' := [(cE, .boolean)]) [0] rfl).app hK1
  generalize H1 = H at hP hS ⊢
  have hP : va_P (dC, dI) vwCl [(h0, .inr (8, [.ref hRows, .ref hMer, .ref hEra, .ref hTape, .ref hRea, .ref hTra, .ref hWor, .ref hPla, .ref hMod, .ref hHe1, .ref hHe2, .int 0, .int w_6, .int 0, .int 0, .int (-1), .int 0]))] H := hP
  have hD : va_D A [(h0, .inr (8, [.ref hRows, .ref hMer, .ref hEra, .ref hTape, .ref hRea, .ref hTra, .ref hWor, .ref hPla, .ref hMod, .ref hHe1, .ref hHe2, .int 0, .int w_6, .int 0, .int 0, .int (-1), .int 0]))] := hD
  have hK : va_K (dC, dI) vwCl [(cE, .boolean)] s := hK
  have hk_7 : (0 : Int32).toInt = 0 := by decide
  have hk_8 : ((-1) : Int32).toInt = (-1) := by decide
  have hPc := hP.sub (ws' := [(h0, .inr (8, [.ref hRows, .ref hMer, .ref hEra, .ref hTape, .ref hRea, .ref hTra, .ref hWor, .ref hPla, .ref hMod, .ref hHe1, .ref hHe2, .int 0, .int w_6, .int 0, .int 0, .int (-1), .int 0]))]) [0] rfl
  have hDc := hD.sub (ws' := [(h0, .inr (8, [.ref hRows, .ref hMer, .ref hEra, .ref hTape, .ref hRea, .ref hTra, .ref hWor, .ref hPla, .ref hMod, .ref hHe1, .ref hHe2, .int 0, .int w_6, .int 0, .int 0, .int (-1), .int 0]))]) [0] (by decide) rfl
  have hKc := hK.sub (tys' := []) [] rfl
  have hFc := va_free (wc := [(h0, .inr (8, [.ref hRows, .ref hMer, .ref hEra, .ref hTape, .ref hRea, .ref hTra, .ref hWor, .ref hPla, .ref hMod, .ref hHe1, .ref hHe2, .int 0, .int w_6, .int 0, .int 0, .int (-1), .int 0]))]) hD hS hA [0] rfl
  refine va_calli (va_runV (As := [.int r_3]) (rest := []) ⟨hx, hb, hml, hown, hts⟩ (c_X8_settle l dC dI H.size h0 hRows hMer hEra hTape hRea hTra hWor hPla hMod hHe1 hHe2 0 w_6 0 0 (-1) 0 r_3 ) (cwV 1 hts gX8_erase_X8_settle rfl rfl rfl (by decide +kernel) ⟨Nat.le_of_ble_eq_true rfl, Nat.le_of_ble_eq_true rfl⟩) ⟨fun a U g mk q => by obtain ⟨q0, q1, qP, qK, qD, qN⟩ := q; exact ⟨q0, q1, qP, va_K.moved (u := U) (U := U.calling g mk a) (Vm.Alike.refl U.vm) qK, qD, qN.same rfl⟩, va_recv hKc hPc (ci := 8) (q0 := 0) rfl rfl, fun U hU hW => ⟨rfl, by rw [hU], by rw [hU]; exact hPc, va_K.moved hW.alike hKc, hDc.weaken (fun _ _ _ _ => trivial), hN.warm hW⟩⟩ rfl rfl hl.1 rfl (lv_room (Nat.le_of_ble_eq_true rfl)) dX8_erase_6 ⟨Nat.le_of_ble_eq_true rfl, Nat.le_of_ble_eq_true rfl⟩) hS (fun q _ h => hFc q h) hFc (fun r_9 u_10 t H1 locs ht hvm hw_11 hB hz1 hk1 hS => ?_)
  obtain ⟨w_12, rfl⟩ : ∃ z, z = u_10 := ⟨_, rfl⟩
  try dsimp only at hw_11
  obtain ⟨hP1, hK1, hD1⟩ := hB
  rw [ht] at hP1
  have hK1 := va_K.moved hvm.symm hK1
  obtain ⟨hP, hD⟩ := va_join (wr := []) (w1 := [(h0, .inr (8, [.ref hRows, .ref hMer, .ref hEra, .ref hTape, .ref hRea, .ref hTra, .ref hWor, .ref hPla, .ref hMod, .ref hHe1, .ref hHe2, .int 0, .int w_6, .int 0, .int 0, .int (-1), .int w_12]))]) hP hD [0] [] rfl rfl (by decide) (by decide) hk1 hFc hP1 hD1
  have hK := (hK.sub (tys' := [(cE, .boolean)]) [0] rfl).app hK1
  generalize H1 = H at hP hS ⊢
  have hP : va_P (dC, dI) vwCl [(h0, .inr (8, [.ref hRows, .ref hMer, .ref hEra, .ref hTape, .ref hRea, .ref hTra, .ref hWor, .ref hPla, .ref hMod, .ref hHe1, .ref hHe2, .int 0, .int w_6, .int 0, .int 0, .int (-1), .int w_12]))] H := hP
  have hD : va_D A [(h0, .inr (8, [.ref hRows, .ref hMer, .ref hEra, .ref hTape, .ref hRea, .ref hTra, .ref hWor, .ref hPla, .ref hMod, .ref hHe1, .ref hHe2, .int 0, .int w_6, .int 0, .int 0, .int (-1), .int w_12]))] := hD
  have hK : va_K (dC, dI) vwCl [(cE, .boolean)] s := hK
  obtain rfl : r_3 = r_9 := hw_11.symm
  have hans : (r_3 : Int32).toInt = r_3.toInt := rfl
  exact W.iret (v := r_3) hx hb hr (fun t ht hW => ⟨⟨r_3, (), rfl, by first | omega | (dsimp only; omega), trivial⟩, hS.F ht⟩) hS.2.2 dX8_erase_9
