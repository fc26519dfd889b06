theorem dX8_needsOf_0 : decode cX8_needsOf 0 = .ok (.iconst 0, 1) := by decide +kernel
theorem dX8_needsOf_1 : decode cX8_needsOf 1 = .ok (.istore_n 2, 1) := by decide +kernel
theorem dX8_needsOf_2 : decode cX8_needsOf 2 = .ok (.iconst 0, 1) := by decide +kernel
theorem dX8_needsOf_3 : decode cX8_needsOf 3 = .ok (.istore_n 3, 1) := by decide +kernel
theorem dX8_needsOf_4 : decode cX8_needsOf 4 = .ok (.iload_n 3, 1) := by decide +kernel
theorem dX8_needsOf_5 : decode cX8_needsOf 5 = .ok (.aload_n 0, 1) := by decide +kernel
theorem dX8_needsOf_6 : decode cX8_needsOf 6 = .ok (.getfield 148, 3) := by decide +kernel
theorem dX8_needsOf_9 : decode cX8_needsOf 9 = .ok (.if_icmp .ge 37, 3) := by decide +kernel
theorem dX8_needsOf_46 : decode cX8_needsOf 46 = .ok (.iload_n 2, 1) := by decide +kernel
theorem dX8_needsOf_47 : decode cX8_needsOf 47 = .ok (.ireturn, 1) := by decide +kernel
theorem dX8_placesToFill_0 : decode cX8_placesToFill 0 = .ok (.iload_n 2, 1) := by decide +kernel
set_option maxRecDepth 20000 in
theorem ggX8_placesToFill_X8_isMoment : GoodIn wsX8_placesToFill wsX8_isMoment := goodIn_r _ [7, 8] (by decide +kernel) (by decide +kernel)
set_option maxRecDepth 20000 in
theorem gX8_placesToFill_X8_isMoment : GoodIn wsX8_placesToFill (va_wsS RX8 79 yX8_isMoment wsX8_isMoment) := goodIn_app (goodIn_of _ (by decide +kernel)) ggX8_placesToFill_X8_isMoment
theorem dX8_placesToFill_1 : decode cX8_placesToFill 1 = .ok (.invokestatic 79, 3) := by decide +kernel
theorem dX8_placesToFill_4 : decode cX8_placesToFill 4 = .ok (.ifCond .eq 29, 3) := by decide +kernel
theorem dX8_placesToFill_33 : decode cX8_placesToFill 33 = .ok (.iconst (-1), 1) := by decide +kernel
theorem dX8_placesToFill_34 : decode cX8_placesToFill 34 = .ok (.ireturn, 1) := by decide +kernel
theorem dX8_placesToFill_7 : decode cX8_placesToFill 7 = .ok (.iload_n 3, 1) := by decide +kernel
theorem dX8_placesToFill_8 : decode cX8_placesToFill 8 = .ok (.invokestatic 79, 3) := by decide +kernel
theorem dX8_placesToFill_11 : decode cX8_placesToFill 11 = .ok (.ifCond .eq 22, 3) := by decide +kernel
theorem dX8_placesToFill_14 : decode cX8_placesToFill 14 = .ok (.iload_n 3, 1) := by decide +kernel
theorem dX8_placesToFill_15 : decode cX8_placesToFill 15 = .ok (.aload_n 0, 1) := by decide +kernel
theorem dX8_placesToFill_16 : decode cX8_placesToFill 16 = .ok (.getfield 83, 3) := by decide +kernel
theorem dX8_placesToFill_19 : decode cX8_placesToFill 19 = .ok (.if_icmp .gt 14, 3) := by decide +kernel
theorem dX8_placesToFill_22 : decode cX8_placesToFill 22 = .ok (.iload_n 2, 1) := by decide +kernel
theorem dX8_placesToFill_23 : decode cX8_placesToFill 23 = .ok (.iload_n 3, 1) := by decide +kernel
theorem dX8_placesToFill_24 : decode cX8_placesToFill 24 = .ok (.if_icmp .gt 9, 3) := by decide +kernel
theorem dX8_placesToFill_27 : decode cX8_placesToFill 27 = .ok (.iload 4, 2) := by decide +kernel
theorem dX8_placesToFill_29 : decode cX8_placesToFill 29 = .ok (.iconst 1, 1) := by decide +kernel
theorem dX8_placesToFill_30 : decode cX8_placesToFill 30 = .ok (.if_icmp .ge 5, 3) := by decide +kernel
theorem dX8_placesToFill_35 : decode cX8_placesToFill 35 = .ok (.iload_n 3, 1) := by decide +kernel
theorem dX8_placesToFill_36 : decode cX8_placesToFill 36 = .ok (.iload_n 2, 1) := by decide +kernel
theorem dX8_placesToFill_37 : decode cX8_placesToFill 37 = .ok (.isub, 1) := by decide +kernel
theorem dX8_placesToFill_38 : decode cX8_placesToFill 38 = .ok (.iload 4, 2) := by decide +kernel
theorem dX8_placesToFill_40 : decode cX8_placesToFill 40 = .ok (.idiv, 1) := by decide +kernel
theorem dX8_placesToFill_41 : decode cX8_placesToFill 41 = .ok (.iconst 1, 1) := by decide +kernel
theorem dX8_placesToFill_42 : decode cX8_placesToFill 42 = .ok (.iadd, 1) := by decide +kernel
theorem dX8_placesToFill_43 : decode cX8_placesToFill 43 = .ok (.istore 5, 2) := by decide +kernel
theorem dX8_placesToFill_45 : decode cX8_placesToFill 45 = .ok (.iload 5, 2) := by decide +kernel
theorem dX8_placesToFill_47 : decode cX8_placesToFill 47 = .ok (.bipush 40, 2) := by decide +kernel
theorem dX8_placesToFill_49 : decode cX8_placesToFill 49 = .ok (.if_icmp .le 5, 3) := by decide +kernel
theorem dX8_placesToFill_54 : decode cX8_placesToFill 54 = .ok (.aload_n 0, 1) := by decide +kernel
theorem dX8_placesToFill_55 : decode cX8_placesToFill 55 = .ok (.iload_n 1, 1) := by decide +kernel
set_option maxRecDepth 20000 in
theorem ggX8_placesToFill_X8_traitAt : GoodIn wsX8_placesToFill wsX8_traitAt := goodIn_r _ [12, 13, 14, 20, 21, 22, 23, 24, 25, 26, 27, 28, 29, 30, 31, 32, 33, 34, 35, 36] (by decide +kernel) (by decide +kernel)
set_option maxRecDepth 20000 in
theorem gX8_placesToFill_X8_traitAt : GoodIn wsX8_placesToFill (wsV RX8 130 RX8 yX8_traitAt wsX8_traitAt) := goodIn_app (goodIn_of _ (by decide +kernel)) ggX8_placesToFill_X8_traitAt
theorem dX8_placesToFill_56 : decode cX8_placesToFill 56 = .ok (.invokevirtual 130, 3) := by decide +kernel
theorem dX8_placesToFill_59 : decode cX8_placesToFill 59 = .ok (.ifnonnull 6, 3) := by decide +kernel
theorem dX8_placesToFill_62 : decode cX8_placesToFill 62 = .ok (.bipush (-2), 2) := by decide +kernel
theorem dX8_placesToFill_64 : decode cX8_placesToFill 64 = .ok (.ireturn, 1) := by decide +kernel
theorem dX8_fill_0 : decode cX8_fill 0 = .ok (.aload_n 0, 1) := by decide +kernel
theorem dX8_fill_1 : decode cX8_fill 1 = .ok (.iload_n 1, 1) := by decide +kernel
theorem dX8_fill_2 : decode cX8_fill 2 = .ok (.iload_n 2, 1) := by decide +kernel
theorem dX8_fill_3 : decode cX8_fill 3 = .ok (.iload_n 3, 1) := by decide +kernel
theorem dX8_fill_4 : decode cX8_fill 4 = .ok (.iload 4, 2) := by decide +kernel
set_option maxRecDepth 20000 in
theorem ggX8_fill_X8_placesToFill : GoodIn wsX8_fill wsX8_placesToFill := goodIn_r _ [5, 6, 7, 8, 9, 10, 4, 11, 12, 13, 14, 15, 16, 17, 18, 19, 20, 21, 22, 23, 126, 127, 128, 129, 130, 131, 132, 133, 134, 135, 136, 137, 138, 139, 140, 141, 142, 143, 144, 145, 146, 147] (by decide +kernel) (by decide +kernel)
set_option maxRecDepth 20000 in
theorem gX8_fill_X8_placesToFill : GoodIn wsX8_fill (wsV RX8 224 RX8 yX8_placesToFill wsX8_placesToFill) := goodIn_app (goodIn_of _ (by decide +kernel)) ggX8_fill_X8_placesToFill
theorem dX8_fill_6 : decode cX8_fill 6 = .ok (.invokevirtual 224, 3) := by decide +kernel
theorem dX8_fill_9 : decode cX8_fill 9 = .ok (.istore 5, 2) := by decide +kernel
theorem dX8_fill_11 : decode cX8_fill 11 = .ok (.iload 5, 2) := by decide +kernel
theorem dX8_fill_13 : decode cX8_fill 13 = .ok (.ifCond .le 34, 3) := by decide +kernel
theorem dX8_fill_47 : decode cX8_fill 47 = .ok (.aload_n 0, 1) := by decide +kernel
theorem dX8_fill_48 : decode cX8_fill 48 = .ok (.iload 5, 2) := by decide +kernel
set_option maxRecDepth 20000 in
theorem ggX8_fill_X8_settle : GoodIn wsX8_fill wsX8_settle := goodIn_r _ [121, 122, 123, 75, 124, 125, 126, 127, 128, 129, 130, 131, 132, 133, 134, 135, 136, 137, 138, 139, 140, 141, 142] (by decide +kernel) (by decide +kernel)
set_option maxRecDepth 20000 in
theorem gX8_fill_X8_settle : GoodIn wsX8_fill (wsV RX8 86 RX8 yX8_settle wsX8_settle) := goodIn_app (goodIn_of _ (by decide +kernel)) ggX8_fill_X8_settle
theorem dX8_fill_50 : decode cX8_fill 50 = .ok (.invokevirtual 86, 3) := by decide +kernel
theorem dX8_fill_53 : decode cX8_fill 53 = .ok (.ireturn, 1) := by decide +kernel
theorem dX8_model_0 : decode cX8_model 0 = .ok (.iload_n 1, 1) := by decide +kernel
theorem dX8_model_1 : decode cX8_model 1 = .ok (.aload_n 0, 1) := by decide +kernel
theorem dX8_model_2 : decode cX8_model 2 = .ok (.getfield 148, 3) := by decide +kernel
theorem dX8_model_5 : decode cX8_model 5 = .ok (.iushr, 1) := by decide +kernel
theorem dX8_model_6 : decode cX8_model 6 = .ok (.ifCond .eq 9, 3) := by decide +kernel
theorem dX8_model_15 : decode cX8_model 15 = .ok (.aload_n 0, 1) := by decide +kernel
theorem dX8_model_16 : decode cX8_model 16 = .ok (.getfield 250, 3) := by decide +kernel
theorem dX8_model_19 : decode cX8_model 19 = .ok (.bipush 10, 2) := by decide +kernel
theorem dX8_model_21 : decode cX8_model 21 = .ok (.if_icmp .lt 10, 3) := by decide +kernel
theorem dX8_model_31 : decode cX8_model 31 = .ok (.aload_n 0, 1) := by decide +kernel
theorem dX8_model_32 : decode cX8_model 32 = .ok (.getfield 65, 3) := by decide +kernel
theorem dX8_model_35 : decode cX8_model 35 = .ok (.aload_n 0, 1) := by decide +kernel
theorem dX8_model_36 : decode cX8_model 36 = .ok (.getfield 250, 3) := by decide +kernel
theorem dX8_model_39 : decode cX8_model 39 = .ok (.aload_n 0, 1) := by decide +kernel
theorem dX8_model_40 : decode cX8_model 40 = .ok (.iload_n 1, 1) := by decide +kernel
set_option maxRecDepth 20000 in
theorem ggX8_model_X8_needsOf : GoodIn wsX8_model wsX8_needsOf := goodIn_r _ [17, 1, 18, 19, 20, 7, 21, 22, 23, 24, 25, 26, 27, 28, 29, 30, 31, 32, 33, 34, 35, 36, 37, 38, 39, 40, 41, 42, 43, 44, 45, 46, 47, 48, 49, 50] (by decide +kernel) (by decide +kernel)
set_option maxRecDepth 20000 in
theorem gX8_model_X8_needsOf : GoodIn wsX8_model (wsV RX8 169 RX8 yX8_needsOf wsX8_needsOf) := goodIn_app (goodIn_of _ (by decide +kernel)) ggX8_model_X8_needsOf
theorem dX8_model_41 : decode cX8_model 41 = .ok (.invokevirtual 169, 3) := by decide +kernel
theorem dX8_model_44 : decode cX8_model 44 = .ok (.iastore, 1) := by decide +kernel
theorem dX8_model_45 : decode cX8_model 45 = .ok (.aload_n 0, 1) := by decide +kernel
theorem dX8_model_46 : decode cX8_model 46 = .ok (.dup, 1) := by decide +kernel
theorem dX8_model_47 : decode cX8_model 47 = .ok (.getfield 250, 3) := by decide +kernel
theorem dX8_model_50 : decode cX8_model 50 = .ok (.iconst 1, 1) := by decide +kernel
theorem dX8_model_51 : decode cX8_model 51 = .ok (.iadd, 1) := by decide +kernel
theorem dX8_model_52 : decode cX8_model 52 = .ok (.putfield 250, 3) := by decide +kernel
theorem dX8_model_55 : decode cX8_model 55 = .ok (.aload_n 0, 1) := by decide +kernel
theorem dX8_model_56 : decode cX8_model 56 = .ok (.aload_n 0, 1) := by decide +kernel
theorem dX8_model_57 : decode cX8_model 57 = .ok (.getfield 250, 3) := by decide +kernel
theorem dX8_model_60 : decode cX8_model 60 = .ok (.iconst 1, 1) := by decide +kernel
theorem dX8_model_61 : decode cX8_model 61 = .ok (.isub, 1) := by decide +kernel
set_option maxRecDepth 20000 in
theorem ggX8_model_X8_settle : GoodIn wsX8_model wsX8_settle := goodIn_r _ [8, 9, 10, 11, 12, 13, 26, 27, 28, 29, 30, 31, 32, 33, 34, 35, 36, 37, 38, 39, 40, 41, 42] (by decide +kernel) (by decide +kernel)
set_option maxRecDepth 20000 in
theorem gX8_model_X8_settle : GoodIn wsX8_model (wsV RX8 86 RX8 yX8_settle wsX8_settle) := goodIn_app (goodIn_of _ (by decide +kernel)) ggX8_model_X8_settle
theorem dX8_model_62 : decode cX8_model 62 = .ok (.invokevirtual 86, 3) := by decide +kernel
theorem dX8_model_65 : decode cX8_model 65 = .ok (.ireturn, 1) := by decide +kernel
theorem dX8_model_9 : decode cX8_model 9 = .ok (.aload_n 0, 1) := by decide +kernel
theorem dX8_model_10 : decode cX8_model 10 = .ok (.iconst (-1), 1) := by decide +kernel
theorem dX8_model_11 : decode cX8_model 11 = .ok (.invokevirtual 86, 3) := by decide +kernel
theorem dX8_model_14 : decode cX8_model 14 = .ok (.ireturn, 1) := by decide +kernel
set_option maxHeartbeats 4000000 in
set_option maxRecDepth 100000 in
theorem c_X8_needsOf (l : Launch) (dC : Nat → ClassId) (dI : Nat → Nat → Nat) (sz : Nat) (h0 : Nat) (hRows : Nat) (hMer : Nat) (hEra : Nat) (hTape : Nat) (hRea : Nat) (hTra : Nat) (hWor : Nat) (hPla : Nat) (hMod : Nat) (hHe1 : Nat) (hHe2 : Nat) (a : Int32)  : Met l yX8_needsOf wsX8_needsOf ({ frames := 0, cells := 0, slots := 0, locals := 0 }) (va_Pc [.ref h0, .int a] (fun U => U.heap.size = sz ∧ va_P (dC, dI) vwCl [(h0, .inr (8, [.ref hRows, .ref hMer, .ref hEra, .ref hTape, .ref hRea, .ref hTra, .ref hWor, .ref hPla, .ref hMod, .ref hHe1, .ref hHe2, .int 0, .int 0, .int 0, .int 0, .int (-1), .int 0]))] U.heap ∧ va_K (dC, dI) vwCl [] U ∧ va_D (fun _ => True) [(h0, .inr (8, [.ref hRows, .ref hMer, .ref hEra, .ref hTape, .ref hRea, .ref hTra, .ref hWor, .ref hPla, .ref hMod, .ref hHe1, .ref hHe2, .int 0, .int 0, .int 0, .int 0, .int (-1), .int 0]))] ∧ nw_ok U)) (va_Qi (fun (r : Int32) (_ : Unit) => r = 0) (fun (_ : Unit) (t : State) => va_P (dC, dI) vwCl [(h0, .inr (8, [.ref hRows, .ref hMer, .ref hEra, .ref hTape, .ref hRea, .ref hTra, .ref hWor, .ref hPla, .ref hMod, .ref hHe1, .ref hHe2, .int 0, .int 0, .int 0, .int 0, .int (-1), .int 0]))] t.heap ∧ va_K (dC, dI) vwCl [] t ∧ va_D (va_A [(h0, .inr (8, [.ref hRows, .ref hMer, .ref hEra, .ref hTape, .ref hRea, .ref hTra, .ref hWor, .ref hPla, .ref hMod, .ref hHe1, .ref hHe2, .int 0, .int 0, .int 0, .int 0, .int (-1), .int 0]))] sz) [(h0, .inr (8, [.ref hRows, .ref hMer, .ref hEra, .ref hTape, .ref hRea, .ref hTra, .ref hWor, .ref hPla, .ref hMod, .ref hHe1, .ref hHe2, .int 0, .int 0, .int 0, .int 0, .int (-1), .int 0]))]) (va_A [(h0, .inr (8, [.ref hRows, .ref hMer, .ref hEra, .ref hTape, .ref hRea, .ref hTra, .ref hWor, .ref hPla, .ref hMod, .ref hHe1, .ref hHe2, .int 0, .int 0, .int 0, .int 0, .int (-1), .int 0]))] sz)) 0 0 (va_A [(h0, .inr (8, [.ref hRows, .ref hMer, .ref hEra, .ref hTape, .ref hRea, .ref hTra, .ref hWor, .ref hPla, .ref hMod, .ref hHe1, .ref hHe2, .int 0, .int 0, .int 0, .int 0, .int (-1), .int 0]))] sz) := by
  refine Met.ofW (cc := cX8_needsOf) (maxL := 5) (ret := (some .int)) (by decide) rfl ?_
  intro p e s m args below meth c s₁ B hml hv
  obtain ⟨rfl, hsz, hP, hK, hD0, hN⟩ := hv
  have hx := B.exec
  have hb := B.bytes
  have hr := B.returns
  have hts := atoms_spec (ws := wsX8_needsOf) B.pre
  have hown : s.vm.findClass RX8 = some m.cls := findClass_of_methodNamed B.named
  have hlocks := B.notSynchronized
  subst hsz
  have hD := hD0.self (sz := s.heap.size)
  generalize hAe : va_A [(h0, .inr (8, [.ref hRows, .ref hMer, .ref hEra, .ref hTape, .ref hRea, .ref hTra, .ref hWor, .ref hPla, .ref hMod, .ref hHe1, .ref hHe2, .int 0, .int 0, .int 0, .int 0, .int (-1), .int 0]))] s.heap.size = A at hD ⊢
  have hA : ∀ q : Nat, s.heap.size ≤ q → A q := fun q h => by rw [← hAe]; exact Or.inr h
  have hS : va_S A s.heap s.heap [] := va_S.rf
  have hP : va_P (dC, dI) vwCl [(h0, .inr (8, [.ref hRows, .ref hMer, .ref hEra, .ref hTape, .ref hRea, .ref hTra, .ref hWor, .ref hPla, .ref hMod, .ref hHe1, .ref hHe2, .int 0, .int 0, .int 0, .int 0, .int (-1), .int 0]))] s.heap := hP
  have hIX8 : ∀ w ∈ u_ws RX8 TX8 17, w ∈ wsX8_needsOf := by decide +kernel
  have hl := lv_entry ([.ref h0, .int a]) (n := 5) (Nat.le_of_ble_eq_true rfl)
  rw [lg_entry_eq]
  generalize (lg_sl ([.ref h0, .int a]) ++ List.replicate (5 - (lg_sl ([.ref h0, .int a])).length) Slot.unset).toArray = ls at hl ⊢
  have hl : lv_has ls 5 [(0, .ref h0), (1, .int a)] := hl
  refine lv_iconst (v := 0) hx hb dX8_needsOf_0 (by decide) ?_
  refine lv_istore_n (lv' := [(2, .int 0), (0, .ref h0), (1, .int a)]) hx hb dX8_needsOf_1 rfl hl (by decide) rfl (fun ls hl => ?_)
  refine lv_iconst (v := 0) hx hb dX8_needsOf_2 (by decide) ?_
  refine lv_istore_n (lv' := [(3, .int 0), (2, .int 0), (0, .ref h0), (1, .int a)]) hx hb dX8_needsOf_3 rfl hl (by decide) rfl (fun ls hl => ?_)
  refine lv_iload_n hx hb dX8_needsOf_4 rfl (lv_at hl 0 rfl) ?_
  refine lv_aload_n hx hb dX8_needsOf_5 rfl (lv_at hl 2 rfl) ?_
  refine va_get (D := (dC, dI)) (ci := 8) (v := .int 0) (C := RX8) (T := TX8) (N := 17) hx hb hts hIX8 hown hK hP 0 rfl rfl 13 (by decide) (hts (.fieldLink RX8 148 "TraitHouse" "traitsThere" "I") (by decide +kernel)) (fun _ h9 => h9) rfl dX8_needsOf_6 ?_
  refine lv_icmp_ge (tgt := 46) hx hb dX8_needsOf_9 (by decide) (fun c_1 => ?_) (fun c_1 => absurd (by decide) c_1)
  refine lv_iload_n hx hb dX8_needsOf_46 rfl (lv_at hl 1 rfl) ?_
  have hP9 := hP.sub (ws' := [(h0, .inr (8, [.ref hRows, .ref hMer, .ref hEra, .ref hTape, .ref hRea, .ref hTra, .ref hWor, .ref hPla, .ref hMod, .ref hHe1, .ref hHe2, .int 0, .int 0, .int 0, .int 0, .int (-1), .int 0]))]) [0] rfl
  have hD9 := hD.sub (ws' := [(h0, .inr (8, [.ref hRows, .ref hMer, .ref hEra, .ref hTape, .ref hRea, .ref hTra, .ref hWor, .ref hPla, .ref hMod, .ref hHe1, .ref hHe2, .int 0, .int 0, .int 0, .int 0, .int (-1), .int 0]))]) [0] (by decide) rfl
  have hK9 := hK.sub (tys' := []) [] rfl
  exact W.iret (v := 0) hx hb hr (fun t ht hW => ⟨⟨0, (), rfl, rfl, by rw [ht]; exact hP9, va_K.moved hW.alike hK9, hD9⟩, hS.F ht⟩) hS.2.2 dX8_needsOf_47

set_option maxHeartbeats 4000000 in
set_option maxRecDepth 100000 in
theorem c_X8_placesToFill (l : Launch) (dC : Nat → ClassId) (dI : Nat → Nat → Nat) (sz : Nat) (h0 : Nat) (hRows : Nat) (hMer : Nat) (hEra : Nat) (hTape : Nat) (hRea : Nat) (hTra : Nat) (hWor : Nat) (hPla : Nat) (hMod : Nat) (hHe1 : Nat) (hHe2 : Nat) (tt : Int32) (a : Int32) (b : Int32) (d : Int32)  : Met l yX8_placesToFill wsX8_placesToFill ({ frames := 1, cells := 0, slots := 0, locals := 21 }) (va_Pc [.ref h0, .int tt, .int a, .int b, .int d] (fun U => U.heap.size = sz ∧ va_P (dC, dI) vwCl [(h0, .inr (8, [.ref hRows, .ref hMer, .ref hEra, .ref hTape, .ref hRea, .ref hTra, .ref hWor, .ref hPla, .ref hMod, .ref hHe1, .ref hHe2, .int 0, .int 0, .int 0, .int 0, .int (-1), .int 0]))] U.heap ∧ va_K (dC, dI) vwCl [] U ∧ va_D (fun _ => True) [(h0, .inr (8, [.ref hRows, .ref hMer, .ref hEra, .ref hTape, .ref hRea, .ref hTra, .ref hWor, .ref hPla, .ref hMod, .ref hHe1, .ref hHe2, .int 0, .int 0, .int 0, .int 0, .int (-1), .int 0]))] ∧ nw_ok U)) (va_Qi (fun (r : Int32) (_ : Unit) => (a.toInt = 0 ∧ b.toInt = 0 ∧ 1 ≤ d.toInt → r.toInt = (-2)) ∧ (¬ (a.toInt = 0 ∧ b.toInt = 0 ∧ 1 ≤ d.toInt) → r.toInt = (-1))) (fun (_ : Unit) (t : State) => va_P (dC, dI) vwCl [(h0, .inr (8, [.ref hRows, .ref hMer, .ref hEra, .ref hTape, .ref hRea, .ref hTra, .ref hWor, .ref hPla, .ref hMod, .ref hHe1, .ref hHe2, .int 0, .int 0, .int 0, .int 0, .int (-1), .int 0]))] t.heap ∧ va_K (dC, dI) vwCl [] t ∧ va_D (va_A [(h0, .inr (8, [.ref hRows, .ref hMer, .ref hEra, .ref hTape, .ref hRea, .ref hTra, .ref hWor, .ref hPla, .ref hMod, .ref hHe1, .ref hHe2, .int 0, .int 0, .int 0, .int 0, .int (-1), .int 0]))] sz) [(h0, .inr (8, [.ref hRows, .ref hMer, .ref hEra, .ref hTape, .ref hRea, .ref hTra, .ref hWor, .ref hPla, .ref hMod, .ref hHe1, .ref hHe2, .int 0, .int 0, .int 0, .int 0, .int (-1), .int 0]))]) (va_A [(h0, .inr (8, [.ref hRows, .ref hMer, .ref hEra, .ref hTape, .ref hRea, .ref hTra, .ref hWor, .ref hPla, .ref hMod, .ref hHe1, .ref hHe2, .int 0, .int 0, .int 0, .int 0, .int (-1), .int 0]))] sz)) 0 0 (va_A [(h0, .inr (8, [.ref hRows, .ref hMer, .ref hEra, .ref hTape, .ref hRea, .ref hTra, .ref hWor, .ref hPla, .ref hMod, .ref hHe1, .ref hHe2, .int 0, .int 0, .int 0, .int 0, .int (-1), .int 0]))] sz) := by
  refine Met.ofW (cc := cX8_placesToFill) (maxL := 7) (ret := (some .int)) (by decide) rfl ?_
  intro p e s m args below meth c s₁ B hml hv
  obtain ⟨rfl, hsz, hP, hK, hD0, hN⟩ := hv
  have hx := B.exec
  have hb := B.bytes
  have hr := B.returns
  have hts := atoms_spec (ws := wsX8_placesToFill) B.pre
  have hown : s.vm.findClass RX8 = some m.cls := findClass_of_methodNamed B.named
  have hlocks := B.notSynchronized
  subst hsz
  have hD := hD0.self (sz := s.heap.size)
  generalize hAe : va_A [(h0, .inr (8, [.ref hRows, .ref hMer, .ref hEra, .ref hTape, .ref hRea, .ref hTra, .ref hWor, .ref hPla, .ref hMod, .ref hHe1, .ref hHe2, .int 0, .int 0, .int 0, .int 0, .int (-1), .int 0]))] s.heap.size = A at hD ⊢
  have hA : ∀ q : Nat, s.heap.size ≤ q → A q := fun q h => by rw [← hAe]; exact Or.inr h
  have hS : va_S A s.heap s.heap [] := va_S.rf
  have hP : va_P (dC, dI) vwCl [(h0, .inr (8, [.ref hRows, .ref hMer, .ref hEra, .ref hTape, .ref hRea, .ref hTra, .ref hWor, .ref hPla, .ref hMod, .ref hHe1, .ref hHe2, .int 0, .int 0, .int 0, .int 0, .int (-1), .int 0]))] s.heap := hP
  have hIX8 : ∀ w ∈ u_ws RX8 TX8 17, w ∈ wsX8_placesToFill := by decide +kernel
  have hl := lv_entry ([.ref h0, .int tt, .int a, .int b, .int d]) (n := 7) (Nat.le_of_ble_eq_true rfl)
  rw [lg_entry_eq]
  generalize (lg_sl ([.ref h0, .int tt, .int a, .int b, .int d]) ++ List.replicate (7 - (lg_sl ([.ref h0, .int tt, .int a, .int b, .int d])).length) Slot.unset).toArray = ls at hl ⊢
  have hl : lv_has ls 7 [(0, .ref h0), (1, .int tt), (2, .int a), (3, .int b), (4, .int d)] := hl
  refine lv_iload_n hx hb dX8_placesToFill_0 rfl (lv_at hl 2 rfl) ?_
  have hPc := hP.sub (ws' := []) [] rfl
  have hDc := hD.sub (ws' := []) [] (by decide) rfl
  have hKc := hK.sub (tys' := []) [] rfl
  have hFc := va_free (wc := []) hD hS hA [] rfl
  refine va_calli (va_runS (As := [.int a]) (rest := []) ⟨hx, hb, hml, hown, hts⟩ (c_X8_isMoment l dC dI s.heap.size a ) (va_cwS 1 hts gX8_placesToFill_X8_isMoment rfl rfl rfl (by decide +kernel) ⟨Nat.le_of_ble_eq_true rfl, Nat.le_of_ble_eq_true rfl⟩) ⟨fun a U g mk q => by obtain ⟨q0, q1, qP, qK, qD, qN⟩ := q; exact ⟨q0, q1, qP, va_K.moved (u := U) (U := U.calling g mk a) (Vm.Alike.refl U.vm) qK, qD, qN.same rfl⟩, fun U hU hW => ⟨rfl, by rw [hU], by rw [hU]; exact hPc, va_K.moved hW.alike hKc, hDc.weaken (fun _ _ _ _ => trivial), hN.warm hW⟩⟩ rfl rfl hl.1 rfl (lv_room (Nat.le_of_ble_eq_true rfl)) dX8_placesToFill_1 ⟨Nat.le_of_ble_eq_true rfl, Nat.le_of_ble_eq_true rfl⟩) hS (fun q _ h => hFc q h) hFc (fun r_1 u_2 t H1 locs ht hvm hw_3 hB hz1 hk1 hS => ?_)
  try dsimp only at hw_3
  obtain ⟨hP1, hK1, hD1⟩ := hB
  rw [ht] at hP1
  have hK1 := va_K.moved hvm.symm hK1
  obtain ⟨hP, hD⟩ := va_join (wr := [(h0, .inr (8, [.ref hRows, .ref hMer, .ref hEra, .ref hTape, .ref hRea, .ref hTra, .ref hWor, .ref hPla, .ref hMod, .ref hHe1, .ref hHe2, .int 0, .int 0, .int 0, .int 0, .int (-1), .int 0]))]) (w1 := []) hP hD [] [0] rfl rfl (by decide) (by decide) hk1 hFc hP1 hD1
  have hK := (hK.sub (tys' := []) [] rfl).app hK1
  generalize H1 = H at hP hS ⊢
  have hP : va_P (dC, dI) vwCl [(h0, .inr (8, [.ref hRows, .ref hMer, .ref hEra, .ref hTape, .ref hRea, .ref hTra, .ref hWor, .ref hPla, .ref hMod, .ref hHe1, .ref hHe2, .int 0, .int 0, .int 0, .int 0, .int (-1), .int 0]))] H := hP
  have hD : va_D A [(h0, .inr (8, [.ref hRows, .ref hMer, .ref hEra, .ref hTape, .ref hRea, .ref hTra, .ref hWor, .ref hPla, .ref hMod, .ref hHe1, .ref hHe2, .int 0, .int 0, .int 0, .int 0, .int (-1), .int 0]))] := hD
  have hK : va_K (dC, dI) vwCl [] s := hK
  refine lv_if_eq (tgt := 33) hx hb dX8_placesToFill_4 (by decide) (fun c_4 => ?_) (fun c_4 => ?_)
  · have dc_4 : r_1.toInt = 0 := jI_eq c_4 rfl (by decide)
    refine lv_iconst (v := (-1)) hx hb dX8_placesToFill_33 (by decide) ?_
    have hP9 := hP.sub (ws' := [(h0, .inr (8, [.ref hRows, .ref hMer, .ref hEra, .ref hTape, .ref hRea, .ref hTra, .ref hWor, .ref hPla, .ref hMod, .ref hHe1, .ref hHe2, .int 0, .int 0, .int 0, .int 0, .int (-1), .int 0]))]) [0] rfl
    have hD9 := hD.sub (ws' := [(h0, .inr (8, [.ref hRows, .ref hMer, .ref hEra, .ref hTape, .ref hRea, .ref hTra, .ref hWor, .ref hPla, .ref hMod, .ref hHe1, .ref hHe2, .int 0, .int 0, .int 0, .int 0, .int (-1), .int 0]))]) [0] (by decide) rfl
    have hK9 := hK.sub (tys' := []) [] rfl
    have hans : ((-1) : Int32).toInt = (-1) := (by decide)
    exact W.iret (v := (-1)) hx hb hr (fun t ht hW => ⟨⟨(-1), (), rfl, by first | omega | (dsimp only; omega), by rw [ht]; exact hP9, va_K.moved hW.alike hK9, hD9⟩, hS.F ht⟩) hS.2.2 dX8_placesToFill_34
  · have dc_4 : ¬ r_1.toInt = 0 := jI_ne c_4 rfl (by decide)
    refine lv_iload_n hx hb dX8_placesToFill_7 rfl (lv_at hl 3 rfl) ?_
    have hPc := hP.sub (ws' := []) [] rfl
    have hDc := hD.sub (ws' := []) [] (by decide) rfl
    have hKc := hK.sub (tys' := []) [] rfl
    have hFc := va_free (wc := []) hD hS hA [] rfl
    refine va_calli (va_runS (As := [.int b]) (rest := []) ⟨hx, hb, hml, hown, hts⟩ (c_X8_isMoment l dC dI H.size b ) (va_cwS 1 hts gX8_placesToFill_X8_isMoment rfl rfl rfl (by decide +kernel) ⟨Nat.le_of_ble_eq_true rfl, Nat.le_of_ble_eq_true rfl⟩) ⟨fun a U g mk q => by obtain ⟨q0, q1, qP, qK, qD, qN⟩ := q; exact ⟨q0, q1, qP, va_K.moved (u := U) (U := U.calling g mk a) (Vm.Alike.refl U.vm) qK, qD, qN.same rfl⟩, fun U hU hW => ⟨rfl, by rw [hU], by rw [hU]; exact hPc, va_K.moved hW.alike hKc, hDc.weaken (fun _ _ _ _ => trivial), hN.warm hW⟩⟩ rfl rfl hl.1 rfl (lv_room (Nat.le_of_ble_eq_true rfl)) dX8_placesToFill_8 ⟨Nat.le_of_ble_eq_true rfl, Nat.le_of_ble_eq_true rfl⟩) hS (fun q _ h => hFc q h) hFc (fun r_5 u_6 t H1 locs ht hvm hw_7 hB hz1 hk1 hS => ?_)
    try dsimp only at hw_7
    obtain ⟨hP1, hK1, hD1⟩ := hB
    rw [ht] at hP1
    have hK1 := va_K.moved hvm.symm hK1
    obtain ⟨hP, hD⟩ := va_join (wr := [(h0, .inr (8, [.ref hRows, .ref hMer, .ref hEra, .ref hTape, .ref hRea, .ref hTra, .ref hWor, .ref hPla, .ref hMod, .ref hHe1, .ref hHe2, .int 0, .int 0, .int 0, .int 0, .int (-1), .int 0]))]) (w1 := []) hP hD [] [0] rfl rfl (by decide) (by decide) hk1 hFc hP1 hD1
    have hK := (hK.sub (tys' := []) [] rfl).app hK1
    generalize H1 = H at hP hS ⊢
    have hP : va_P (dC, dI) vwCl [(h0, .inr (8, [.ref hRows, .ref hMer, .ref hEra, .ref hTape, .ref hRea, .ref hTra, .ref hWor, .ref hPla, .ref hMod, .ref hHe1, .ref hHe2, .int 0, .int 0, .int 0, .int 0, .int (-1), .int 0]))] H := hP
    have hD : va_D A [(h0, .inr (8, [.ref hRows, .ref hMer, .ref hEra, .ref hTape, .ref hRea, .ref hTra, .ref hWor, .ref hPla, .ref hMod, .ref hHe1, .ref hHe2, .int 0, .int 0, .int 0, .int 0, .int (-1), .int 0]))] := hD
    have hK : va_K (dC, dI) vwCl [] s := hK
    refine lv_if_eq (tgt := 33) hx hb dX8_placesToFill_11 (by decide) (fun c_8 => ?_) (fun c_8 => ?_)
    · have dc_8 : r_5.toInt = 0 := jI_eq c_8 rfl (by decide)
      refine lv_iconst (v := (-1)) hx hb dX8_placesToFill_33 (by decide) ?_
      have hP9 := hP.sub (ws' := [(h0, .inr (8, [.ref hRows, .ref hMer, .ref hEra, .ref hTape, .ref hRea, .ref hTra, .ref hWor, .ref hPla, .ref hMod, .ref hHe1, .ref hHe2, .int 0, .int 0, .int 0, .int 0, .int (-1), .int 0]))]) [0] rfl
      have hD9 := hD.sub (ws' := [(h0, .inr (8, [.ref hRows, .ref hMer, .ref hEra, .ref hTape, .ref hRea, .ref hTra, .ref hWor, .ref hPla, .ref hMod, .ref hHe1, .ref hHe2, .int 0, .int 0, .int 0, .int 0, .int (-1), .int 0]))]) [0] (by decide) rfl
      have hK9 := hK.sub (tys' := []) [] rfl
      have hans : ((-1) : Int32).toInt = (-1) := (by decide)
      exact W.iret (v := (-1)) hx hb hr (fun t ht hW => ⟨⟨(-1), (), rfl, by first | omega | (dsimp only; omega), by rw [ht]; exact hP9, va_K.moved hW.alike hK9, hD9⟩, hS.F ht⟩) hS.2.2 dX8_placesToFill_34
    · have dc_8 : ¬ r_5.toInt = 0 := jI_ne c_8 rfl (by decide)
      refine lv_iload_n hx hb dX8_placesToFill_14 rfl (lv_at hl 3 rfl) ?_
      refine lv_aload_n hx hb dX8_placesToFill_15 rfl (lv_at hl 0 rfl) ?_
      refine va_get (D := (dC, dI)) (ci := 8) (v := .int 0) (C := RX8) (T := TX8) (N := 17) hx hb hts hIX8 hown hK hP 0 rfl rfl 11 (by decide) (hts (.fieldLink RX8 83 "TraitHouse" "now" "I") (by decide +kernel)) (fun _ h9 => h9) rfl dX8_placesToFill_16 ?_
      refine lv_icmp_gt (tgt := 33) hx hb dX8_placesToFill_19 (by decide) (fun c_9 => ?_) (fun c_9 => ?_)
      · have dc_9 : 0 < b.toInt := jI_lt c_9 (by decide) rfl
        refine lv_iconst (v := (-1)) hx hb dX8_placesToFill_33 (by decide) ?_
        have hP9 := hP.sub (ws' := [(h0, .inr (8, [.ref hRows, .ref hMer, .ref hEra, .ref hTape, .ref hRea, .ref hTra, .ref hWor, .ref hPla, .ref hMod, .ref hHe1, .ref hHe2, .int 0, .int 0, .int 0, .int 0, .int (-1), .int 0]))]) [0] rfl
        have hD9 := hD.sub (ws' := [(h0, .inr (8, [.ref hRows, .ref hMer, .ref hEra, .ref hTape, .ref hRea, .ref hTra, .ref hWor, .ref hPla, .ref hMod, .ref hHe1, .ref hHe2, .int 0, .int 0, .int 0, .int 0, .int (-1), .int 0]))]) [0] (by decide) rfl
        have hK9 := hK.sub (tys' := []) [] rfl
        have hans : ((-1) : Int32).toInt = (-1) := (by decide)
        exact W.iret (v := (-1)) hx hb hr (fun t ht hW => ⟨⟨(-1), (), rfl, by first | omega | (dsimp only; omega), by rw [ht]; exact hP9, va_K.moved hW.alike hK9, hD9⟩, hS.F ht⟩) hS.2.2 dX8_placesToFill_34
      · have dc_9 : b.toInt ≤ 0 := jI_nlt c_9 (by decide) rfl
        refine lv_iload_n hx hb dX8_placesToFill_22 rfl (lv_at hl 2 rfl) ?_
        refine lv_iload_n hx hb dX8_placesToFill_23 rfl (lv_at hl 3 rfl) ?_
        refine lv_icmp_gt (tgt := 33) hx hb dX8_placesToFill_24 (by decide) (fun c_10 => ?_) (fun c_10 => ?_)
        · have dc_10 : b.toInt < a.toInt := jI_lt c_10 rfl rfl
          refine lv_iconst (v := (-1)) hx hb dX8_placesToFill_33 (by decide) ?_
          have hP9 := hP.sub (ws' := [(h0, .inr (8, [.ref hRows, .ref hMer, .ref hEra, .ref hTape, .ref hRea, .ref hTra, .ref hWor, .ref hPla, .ref hMod, .ref hHe1, .ref hHe2, .int 0, .int 0, .int 0, .int 0, .int (-1), .int 0]))]) [0] rfl
          have hD9 := hD.sub (ws' := [(h0, .inr (8, [.ref hRows, .ref hMer, .ref hEra, .ref hTape, .ref hRea, .ref hTra, .ref hWor, .ref hPla, .ref hMod, .ref hHe1, .ref hHe2, .int 0, .int 0, .int 0, .int 0, .int (-1), .int 0]))]) [0] (by decide) rfl
          have hK9 := hK.sub (tys' := []) [] rfl
          have hans : ((-1) : Int32).toInt = (-1) := (by decide)
          exact W.iret (v := (-1)) hx hb hr (fun t ht hW => ⟨⟨(-1), (), rfl, by first | omega | (dsimp only; omega), by rw [ht]; exact hP9, va_K.moved hW.alike hK9, hD9⟩, hS.F ht⟩) hS.2.2 dX8_placesToFill_34
        · have dc_10 : a.toInt ≤ b.toInt := jI_nlt c_10 rfl rfl
          refine lv_iload hx hb dX8_placesToFill_27 (lv_at hl 4 rfl) ?_
          refine lv_iconst (v := 1) hx hb dX8_placesToFill_29 (by decide) ?_
          refine lv_icmp_ge (tgt := 35) hx hb dX8_placesToFill_30 (by decide) (fun c_11 => ?_) (fun c_11 => ?_)
          · have dc_11 : 1 ≤ d.toInt := jI_le c_11 (by decide) rfl
            refine lv_iload_n hx hb dX8_placesToFill_35 rfl (lv_at hl 3 rfl) ?_
            refine lv_iload_n hx hb dX8_placesToFill_36 rfl (lv_at hl 2 rfl) ?_
            refine lv_isub hx hb dX8_placesToFill_37 ?_
            refine lv_topi (fun x_12 ex_12 => ?_)
            have dx_12 : x_12.toInt = b.toInt - a.toInt := by rw [ex_12]; exact jI_sub rfl rfl (by omega) (by omega)
            obtain rfl : x_12 = 0 := Int32.toInt_inj.mp ((show x_12.toInt = 0 by omega).trans (by decide))
            refine lv_iload hx hb dX8_placesToFill_38 (lv_at hl 4 rfl) ?_
            refine lv_idiv hx hb dX8_placesToFill_40 (jI_ne0 (by omega)) ?_
            refine lv_topi (fun x_13 ex_13 => ?_)
            obtain rfl : x_13 = 0 := ex_13.trans (jI_0div _)
            refine lv_iconst (v := 1) hx hb dX8_placesToFill_41 (by decide) ?_
            refine lv_iadd hx hb dX8_placesToFill_42 ?_
            refine lv_topi (fun x_14 ex_14 => ?_)
            obtain rfl : x_14 = 1 := ex_14.trans (by decide)
            refine lv_istore (lv' := [(5, .int 1), (0, .ref h0), (1, .int tt), (2, .int a), (3, .int b), (4, .int d)]) hx hb dX8_placesToFill_43 hl (by decide) rfl (fun ls hl => ?_)
            refine lv_iload hx hb dX8_placesToFill_45 (lv_at hl 0 rfl) ?_
            refine lv_bipush (v := 40) hx hb dX8_placesToFill_47 (by decide) ?_
            refine lv_icmp_le (tgt := 54) hx hb dX8_placesToFill_49 (by decide) (fun c_15 => ?_) (fun c_15 => absurd (by decide) c_15)
            refine lv_aload_n hx hb dX8_placesToFill_54 rfl (lv_at hl 1 rfl) ?_
            refine lv_iload_n hx hb dX8_placesToFill_55 rfl (lv_at hl 2 rfl) ?_
            have hPc := hP.sub (ws' := [(h0, .inr (8, [.ref hRows, .ref hMer, .ref hEra, .ref hTape, .ref hRea, .ref hTra, .ref hWor, .ref hPla, .ref hMod, .ref hHe1, .ref hHe2, .int 0, .int 0, .int 0, .int 0, .int (-1), .int 0]))]) [0] rfl
            have hDc := hD.sub (ws' := [(h0, .inr (8, [.ref hRows, .ref hMer, .ref hEra, .ref hTape, .ref hRea, .ref hTra, .ref hWor, .ref hPla, .ref hMod, .ref hHe1, .ref hHe2, .int 0, .int 0, .int 0, .int 0, .int (-1), .int 0]))]) [0] (by decide) rfl
            have hKc := hK.sub (tys' := []) [] rfl
            have hFc := va_free (wc := [(h0, .inr (8, [.ref hRows, .ref hMer, .ref hEra, .ref hTape, .ref hRea, .ref hTra, .ref hWor, .ref hPla, .ref hMod, .ref hHe1, .ref hHe2, .int 0, .int 0, .int 0, .int 0, .int (-1), .int 0]))]) hD hS hA [0] rfl
            refine va_callq (va_runV (As := [.int tt]) (rest := []) ⟨hx, hb, hml, hown, hts⟩ (c_X8_traitAt l dC dI H.size h0 hRows hMer hEra hTape hRea hTra hWor hPla hMod hHe1 hHe2 0 0 0 (-1) 0 tt ) (cwV 1 hts gX8_placesToFill_X8_traitAt rfl rfl rfl (by decide +kernel) ⟨Nat.le_of_ble_eq_true rfl, Nat.le_of_ble_eq_true rfl⟩) ⟨fun a U g mk q => by obtain ⟨q0, q1, qP, qK, qD, qN⟩ := q; exact ⟨q0, q1, qP, va_K.moved (u := U) (U := U.calling g mk a) (Vm.Alike.refl U.vm) qK, qD, qN.same rfl⟩, va_recv hKc hPc (ci := 8) (q0 := 0) rfl rfl, fun U hU hW => ⟨rfl, by rw [hU], by rw [hU]; exact hPc, va_K.moved hW.alike hKc, hDc.weaken (fun _ _ _ _ => trivial), hN.warm hW⟩⟩ rfl rfl hl.1 rfl (lv_room (Nat.le_of_ble_eq_true rfl)) dX8_placesToFill_56 ⟨Nat.le_of_ble_eq_true rfl, Nat.le_of_ble_eq_true rfl⟩) hS (fun q _ h => hFc q h) hFc (fun r_16 u_17 t H1 locs ht hvm hw_18 hB hz1 hk1 hS => ?_)
            try dsimp only at hw_18
            obtain ⟨hP1, hK1, hD1⟩ := hB
            rw [ht] at hP1
            have hK1 := va_K.moved hvm.symm hK1
            obtain ⟨hP, hD⟩ := va_join (wr := []) (w1 := [(h0, .inr (8, [.ref hRows, .ref hMer, .ref hEra, .ref hTape, .ref hRea, .ref hTra, .ref hWor, .ref hPla, .ref hMod, .ref hHe1, .ref hHe2, .int 0, .int 0, .int 0, .int 0, .int (-1), .int 0]))]) hP hD [0] [] rfl rfl (by decide) (by decide) hk1 hFc hP1 hD1
            have hK := (hK.sub (tys' := []) [] rfl).app hK1
            generalize H1 = H at hP hS ⊢
            have hP : va_P (dC, dI) vwCl [(h0, .inr (8, [.ref hRows, .ref hMer, .ref hEra, .ref hTape, .ref hRea, .ref hTra, .ref hWor, .ref hPla, .ref hMod, .ref hHe1, .ref hHe2, .int 0, .int 0, .int 0, .int 0, .int (-1), .int 0]))] H := hP
            have hD : va_D A [(h0, .inr (8, [.ref hRows, .ref hMer, .ref hEra, .ref hTape, .ref hRea, .ref hTra, .ref hWor, .ref hPla, .ref hMod, .ref hHe1, .ref hHe2, .int 0, .int 0, .int 0, .int 0, .int (-1), .int 0]))] := hD
            have hK : va_K (dC, dI) vwCl [] s := hK
            obtain rfl : none = r_16 := hw_18.symm
            refine W.eq (g2 := F0 m 59 ls [.null]) rfl ?_
            refine lv_ifnonnullN hx hb dX8_placesToFill_59 ?_
            refine lv_bipush (v := (-2)) hx hb dX8_placesToFill_62 (by decide) ?_
            have hP9 := hP.sub (ws' := [(h0, .inr (8, [.ref hRows, .ref hMer, .ref hEra, .ref hTape, .ref hRea, .ref hTra, .ref hWor, .ref hPla, .ref hMod, .ref hHe1, .ref hHe2, .int 0, .int 0, .int 0, .int 0, .int (-1), .int 0]))]) [0] rfl
            have hD9 := hD.sub (ws' := [(h0, .inr (8, [.ref hRows, .ref hMer, .ref hEra, .ref hTape, .ref hRea, .ref hTra, .ref hWor, .ref hPla, .ref hMod, .ref hHe1, .ref hHe2, .int 0, .int 0, .int 0, .int 0, .int (-1), .int 0]))]) [0] (by decide) rfl
            have hK9 := hK.sub (tys' := []) [] rfl
            have hans : ((-2) : Int32).toInt = (-2) := (by decide)
            exact W.iret (v := (-2)) hx hb hr (fun t ht hW => ⟨⟨(-2), (), rfl, by first | omega | (dsimp only; omega), by rw [ht]; exact hP9, va_K.moved hW.alike hK9, hD9⟩, hS.F ht⟩) hS.2.2 dX8_placesToFill_64
          · have dc_11 : d.toInt < 1 := jI_nle c_11 (by decide) rfl
            refine lv_iconst (v := (-1)) hx hb dX8_placesToFill_33 (by decide) ?_
            have hP9 := hP.sub (ws' := [(h0, .inr (8, [.ref hRows, .ref hMer, .ref hEra, .ref hTape, .ref hRea, .ref hTra, .ref hWor, .ref hPla, .ref hMod, .ref hHe1, .ref hHe2, .int 0, .int 0, .int 0, .int 0, .int (-1), .int 0]))]) [0] rfl
            have hD9 := hD.sub (ws' := [(h0, .inr (8, [.ref hRows, .ref hMer, .ref hEra, .ref hTape, .ref hRea, .ref hTra, .ref hWor, .ref hPla, .ref hMod, .ref hHe1, .ref hHe2, .int 0, .int 0, .int 0, .int 0, .int (-1), .int 0]))]) [0] (by decide) rfl
            have hK9 := hK.sub (tys' := []) [] rfl
            have hans : ((-1) : Int32).toInt = (-1) := (by decide)
            exact W.iret (v := (-1)) hx hb hr (fun t ht hW => ⟨⟨(-1), (), rfl, by first | omega | (dsimp only; omega), by rw [ht]; exact hP9, va_K.moved hW.alike hK9, hD9⟩, hS.F ht⟩) hS.2.2 dX8_placesToFill_34

set_option maxHeartbeats 4000000 in
set_option maxRecDepth 100000 in
theorem c_X8_fill (l : Launch) (dC : Nat → ClassId) (dI : Nat → Nat → Nat) (sz : Nat) (h0 : Nat) (hRows : Nat) (hMer : Nat) (hEra : Nat) (hTape : Nat) (hRea : Nat) (hTra : Nat) (hWor : Nat) (hPla : Nat) (hMod : Nat) (hHe1 : Nat) (hHe2 : Nat) (tt : Int32) (a : Int32) (b : Int32) (d : Int32)  : Met l yX8_fill wsX8_fill ({ frames := 2, cells := 0, slots := 0, locals := 47 }) (va_Pc [.ref h0, .int tt, .int a, .int b, .int d] (fun U => U.heap.size = sz ∧ va_P (dC, dI) vwCl [(h0, .inr (8, [.ref hRows, .ref hMer, .ref hEra, .ref hTape, .ref hRea, .ref hTra, .ref hWor, .ref hPla, .ref hMod, .ref hHe1, .ref hHe2, .int 0, .int 0, .int 0, .int 0, .int (-1), .int 0]))] U.heap ∧ va_K (dC, dI) vwCl [] U ∧ va_D (fun _ => True) [(h0, .inr (8, [.ref hRows, .ref hMer, .ref hEra, .ref hTape, .ref hRea, .ref hTra, .ref hWor, .ref hPla, .ref hMod, .ref hHe1, .ref hHe2, .int 0, .int 0, .int 0, .int 0, .int (-1), .int 0]))] ∧ nw_ok U)) (va_Qi (fun (r : Int32) (_ : Unit) => (a.toInt = 0 ∧ b.toInt = 0 ∧ 1 ≤ d.toInt → r.toInt = (-2)) ∧ (¬ (a.toInt = 0 ∧ b.toInt = 0 ∧ 1 ≤ d.toInt) → r.toInt = (-1))) (fun (_ : Unit) (t : State) => True) (va_A [(h0, .inr (8, [.ref hRows, .ref hMer, .ref hEra, .ref hTape, .ref hRea, .ref hTra, .ref hWor, .ref hPla, .ref hMod, .ref hHe1, .ref hHe2, .int 0, .int 0, .int 0, .int 0, .int (-1), .int 0]))] sz)) 0 0 (va_A [(h0, .inr (8, [.ref hRows, .ref hMer, .ref hEra, .ref hTape, .ref hRea, .ref hTra, .ref hWor, .ref hPla, .ref hMod, .ref hHe1, .ref hHe2, .int 0, .int 0, .int 0, .int 0, .int (-1), .int 0]))] sz) := by
  refine Met.ofW (cc := cX8_fill) (maxL := 8) (ret := (some .int)) (by decide) rfl ?_
  intro p e s m args below meth c s₁ B hml hv
  obtain ⟨rfl, hsz, hP, hK, hD0, hN⟩ := hv
  have hx := B.exec
  have hb := B.bytes
  have hr := B.returns
  have hts := atoms_spec (ws := wsX8_fill) B.pre
  have hown : s.vm.findClass RX8 = some m.cls := findClass_of_methodNamed B.named
  have hlocks := B.notSynchronized
  subst hsz
  have hD := hD0.self (sz := s.heap.size)
  generalize hAe : va_A [(h0, .inr (8, [.ref hRows, .ref hMer, .ref hEra, .ref hTape, .ref hRea, .ref hTra, .ref hWor, .ref hPla, .ref hMod, .ref hHe1, .ref hHe2, .int 0, .int 0, .int 0, .int 0, .int (-1), .int 0]))] s.heap.size = A at hD ⊢
  have hA : ∀ q : Nat, s.heap.size ≤ q → A q := fun q h => by rw [← hAe]; exact Or.inr h
  have hS : va_S A s.heap s.heap [] := va_S.rf
  have hP : va_P (dC, dI) vwCl [(h0, .inr (8, [.ref hRows, .ref hMer, .ref hEra, .ref hTape, .ref hRea, .ref hTra, .ref hWor, .ref hPla, .ref hMod, .ref hHe1, .ref hHe2, .int 0, .int 0, .int 0, .int 0, .int (-1), .int 0]))] s.heap := hP
  have hl := lv_entry ([.ref h0, .int tt, .int a, .int b, .int d]) (n := 8) (Nat.le_of_ble_eq_true rfl)
  rw [lg_entry_eq]
  generalize (lg_sl ([.ref h0, .int tt, .int a, .int b, .int d]) ++ List.replicate (8 - (lg_sl ([.ref h0, .int tt, .int a, .int b, .int d])).length) Slot.unset).toArray = ls at hl ⊢
  have hl : lv_has ls 8 [(0, .ref h0), (1, .int tt), (2, .int a), (3, .int b), (4, .int d)] := hl
  refine lv_aload_n hx hb dX8_fill_0 rfl (lv_at hl 0 rfl) ?_
  refine lv_iload_n hx hb dX8_fill_1 rfl (lv_at hl 1 rfl) ?_
  refine lv_iload_n hx hb dX8_fill_2 rfl (lv_at hl 2 rfl) ?_
  refine lv_iload_n hx hb dX8_fill_3 rfl (lv_at hl 3 rfl) ?_
  refine lv_iload hx hb dX8_fill_4 (lv_at hl 4 rfl) ?_
  have hPc := hP.sub (ws' := [(h0, .inr (8, [.ref hRows, .ref hMer, .ref hEra, .ref hTape, .ref hRea, .ref hTra, .ref hWor, .ref hPla, .ref hMod, .ref hHe1, .ref hHe2, .int 0, .int 0, .int 0, .int 0, .int (-1), .int 0]))]) [0] rfl
  have hDc := hD.sub (ws' := [(h0, .inr (8, [.ref hRows, .ref hMer, .ref hEra, .ref hTape, .ref hRea, .ref hTra, .ref hWor, .ref hPla, .ref hMod, .ref hHe1, .ref hHe2, .int 0, .int 0, .int 0, .int 0, .int (-1), .int 0]))]) [0] (by decide) rfl
  have hKc := hK.sub (tys' := []) [] rfl
  have hFc := va_free (wc := [(h0, .inr (8, [.ref hRows, .ref hMer, .ref hEra, .ref hTape, .ref hRea, .ref hTra, .ref hWor, .ref hPla, .ref hMod, .ref hHe1, .ref hHe2, .int 0, .int 0, .int 0, .int 0, .int (-1), .int 0]))]) hD hS hA [0] rfl
  refine va_calli (va_runV (As := [.int tt, .int a, .int b, .int d]) (rest := []) ⟨hx, hb, hml, hown, hts⟩ (c_X8_placesToFill l dC dI s.heap.size h0 hRows hMer hEra hTape hRea hTra hWor hPla hMod hHe1 hHe2 tt a b d ) (cwV 4 hts gX8_fill_X8_placesToFill rfl rfl rfl (by decide +kernel) ⟨Nat.le_of_ble_eq_true rfl, Nat.le_of_ble_eq_true rfl⟩) ⟨fun a U g mk q => by obtain ⟨q0, q1, qP, qK, qD, qN⟩ := q; exact ⟨q0, q1, qP, va_K.moved (u := U) (U := U.calling g mk a) (Vm.Alike.refl U.vm) qK, qD, qN.same rfl⟩, va_recv hKc hPc (ci := 8) (q0 := 0) rfl rfl, fun U hU hW => ⟨rfl, by rw [hU], by rw [hU]; exact hPc, va_K.moved hW.alike hKc, hDc.weaken (fun _ _ _ _ => trivial), hN.warm hW⟩⟩ rfl rfl hl.1 rfl (lv_room (Nat.le_of_ble_eq_true rfl)) dX8_fill_6 ⟨Nat.le_of_ble_eq_true rfl, Nat.le_of_ble_eq_true rfl⟩) hS (fun q _ h => hFc q h) hFc (fun r_1 u_2 t H1 locs ht hvm hw_3 hB hz1 hk1 hS => ?_)
  try dsimp only at hw_3
  obtain ⟨hP1, hK1, hD1⟩ := hB
  rw [ht] at hP1
  have hK1 := va_K.moved hvm.symm hK1
  obtain ⟨hP, hD⟩ := va_join (wr := []) (w1 := [(h0, .inr (8, [.ref hRows, .ref hMer, .ref hEra, .ref hTape, .ref hRea, .ref hTra, .ref hWor, .ref hPla, .ref hMod, .ref hHe1, .ref hHe2, .int 0, .int 0, .int 0, .int 0, .int (-1), .int 0]))]) hP hD [0] [] rfl rfl (by decide) (by decide) hk1 hFc hP1 hD1
  have hK := (hK.sub (tys' := []) [] rfl).app hK1
  generalize H1 = H at hP hS ⊢
  have hP : va_P (dC, dI) vwCl [(h0, .inr (8, [.ref hRows, .ref hMer, .ref hEra, .ref hTape, .ref hRea, .ref hTra, .ref hWor, .ref hPla, .ref hMod, .ref hHe1, .ref hHe2, .int 0, .int 0, .int 0, .int 0, .int (-1), .int 0]))] H := hP
  have hD : va_D A [(h0, .inr (8, [.ref hRows, .ref hMer, .ref hEra, .ref hTape, .ref hRea, .ref hTra, .ref hWor, .ref hPla, .ref hMod, .ref hHe1, .ref hHe2, .int 0, .int 0, .int 0, .int 0, .int (-1), .int 0]))] := hD
  have hK : va_K (dC, dI) vwCl [] s := hK
  refine lv_istore (lv' := [(5, .int r_1), (0, .ref h0), (1, .int tt), (2, .int a), (3, .int b), (4, .int d)]) hx hb dX8_fill_9 hl (by decide) rfl (fun ls hl => ?_)
  refine lv_iload hx hb dX8_fill_11 (lv_at hl 0 rfl) ?_
  refine lv_if_le (tgt := 47) hx hb dX8_fill_13 (by decide) (fun c_4 => ?_) (fun c_4 => ?_)
  · have dc_4 : r_1.toInt ≤ 0 := jI_le c_4 rfl (by decide)
    refine lv_aload_n hx hb dX8_fill_47 rfl (lv_at hl 1 rfl) ?_
    refine lv_iload hx hb dX8_fill_48 (lv_at hl 0 rfl) ?_
    have hk_5 : (0 : Int32).toInt = 0 := by decide
    have hk_6 : ((-1) : Int32).toInt = (-1) := by decide
    have hPc := hP.sub (ws' := [(h0, .inr (8, [.ref hRows, .ref hMer, .ref hEra, .ref hTape, .ref hRea, .ref hTra, .ref hWor, .ref hPla, .ref hMod, .ref hHe1, .ref hHe2, .int 0, .int 0, .int 0, .int 0, .int (-1), .int 0]))]) [0] rfl
    have hDc := hD.sub (ws' := [(h0, .inr (8, [.ref hRows, .ref hMer, .ref hEra, .ref hTape, .ref hRea, .ref hTra, .ref hWor, .ref hPla, .ref hMod, .ref hHe1, .ref hHe2, .int 0, .int 0, .int 0, .int 0, .int (-1), .int 0]))]) [0] (by decide) rfl
    have hKc := hK.sub (tys' := []) [] rfl
    have hFc := va_free (wc := [(h0, .inr (8, [.ref hRows, .ref hMer, .ref hEra, .ref hTape, .ref hRea, .ref hTra, .ref hWor, .ref hPla, .ref hMod, .ref hHe1, .ref hHe2, .int 0, .int 0, .int 0, .int 0, .int (-1), .int 0]))]) hD hS hA [0] rfl
    refine va_calli (va_runV (As := [.int r_1]) (rest := []) ⟨hx, hb, hml, hown, hts⟩ (c_X8_settle l dC dI H.size h0 hRows hMer hEra hTape hRea hTra hWor hPla hMod hHe1 hHe2 0 0 0 0 (-1) 0 r_1 ) (cwV 1 hts gX8_fill_X8_settle rfl rfl rfl (by decide +kernel) ⟨Nat.le_of_ble_eq_true rfl, Nat.le_of_ble_eq_true rfl⟩) ⟨fun a U g mk q => by obtain ⟨q0, q1, qP, qK, qD, qN⟩ := q; exact ⟨q0, q1, qP, va_K.moved (u := U) (U := U.calling g mk a) (Vm.Alike.refl U.vm) qK, qD, qN.same rfl⟩, va_recv hKc hPc (ci := 8) (q0 := 0) rfl rfl, fun U hU hW => ⟨rfl, by rw [hU], by rw [hU]; exact hPc, va_K.moved hW.alike hKc, hDc.weaken (fun _ _ _ _ => trivial), hN.warm hW⟩⟩ rfl rfl hl.1 rfl (lv_room (Nat.le_of_ble_eq_true rfl)) dX8_fill_50 ⟨Nat.le_of_ble_eq_true rfl, Nat.le_of_ble_eq_true rfl⟩) hS (fun q _ h => hFc q h) hFc (fun r_7 u_8 t H1 locs ht hvm hw_9 hB hz1 hk1 hS => ?_)
    obtain ⟨w_10, rfl⟩ : ∃ z, z = u_8 := ⟨_, rfl⟩
    try dsimp only at hw_9
    obtain ⟨hP1, hK1, hD1⟩ := hB
    rw [ht] at hP1
    have hK1 := va_K.moved hvm.symm hK1
    obtain ⟨hP, hD⟩ := va_join (wr := []) (w1 := [(h0, .inr (8, [.ref hRows, .ref hMer, .ref hEra, .ref hTape, .ref hRea, .ref hTra, .ref hWor, .ref hPla, .ref hMod, .ref hHe1, .ref hHe2, .int 0, .int 0, .int 0, .int 0, .int (-1), .int w_10]))]) hP hD [0] [] rfl rfl (by decide) (by decide) hk1 hFc hP1 hD1
    have hK := (hK.sub (tys' := []) [] rfl).app hK1
    generalize H1 = H at hP hS ⊢
    have hP : va_P (dC, dI) vwCl [(h0, .inr (8, [.ref hRows, .ref hMer, .ref hEra, .ref hTape, .ref hRea, .ref hTra, .ref hWor, .ref hPla, .ref hMod, .ref hHe1, .ref hHe2, .int 0, .int 0, .int 0, .int 0, .int (-1), .int w_10]))] H := hP
    have hD : va_D A [(h0, .inr (8, [.ref hRows, .ref hMer, .ref hEra, .ref hTape, .ref hRea, .ref hTra, .ref hWor, .ref hPla, .ref hMod, .ref hHe1, .ref hHe2, .int 0, .int 0, .int 0, .int 0, .int (-1), .int w_10]))] := hD
    have hK : va_K (dC, dI) vwCl [] s := hK
    obtain rfl : r_1 = r_7 := hw_9.symm
    have hans : (r_1 : Int32).toInt = r_1.toInt := rfl
    exact W.iret (v := r_1) hx hb hr (fun t ht hW => ⟨⟨r_1, (), rfl, by first | omega | (dsimp only; omega), trivial⟩, hS.F ht⟩) hS.2.2 dX8_fill_53
  · have dc_4 : 0 < r_1.toInt := jI_nle c_4 rfl (by decide)
    exfalso; omega

set_option maxHeartbeats 4000000 in
set_option maxRecDepth 100000 in
theorem c_X8_model (l : Launch) (dC : Nat → ClassId) (dI : Nat → Nat → Nat) (sz : Nat) (h0 : Nat) (hRows : Nat) (hMer : Nat) (hEra : Nat) (hTape : Nat) (hRea : Nat) (hTra : Nat) (hWor : Nat) (hPla : Nat) (hMod : Nat) (hHe1 : Nat) (hHe2 : Nat) (cMo : ClassId) (a : Int32)  : Met l yX8_model wsX8_model ({ frames := 2, cells := 0, slots := 0, locals := 42 }) (va_Pc [.ref h0, .int a] (fun U => U.heap.size = sz ∧ va_P (dC, dI) vwCl [(h0, .inr (8, [.ref hRows, .ref hMer, .ref hEra, .ref hTape, .ref hRea, .ref hTra, .ref hWor, .ref hPla, .ref hMod, .ref hHe1, .ref hHe2, .int 0, .int 0, .int 0, .int 0, .int (-1), .int 0])), (hMod, .inl (cMo, 10, .inl (fun _ => 0)))] U.heap ∧ va_K (dC, dI) vwCl [(cMo, .int)] U ∧ va_D (fun _ => True) [(h0, .inr (8, [.ref hRows, .ref hMer, .ref hEra, .ref hTape, .ref hRea, .ref hTra, .ref hWor, .ref hPla, .ref hMod, .ref hHe1, .ref hHe2, .int 0, .int 0, .int 0, .int 0, .int (-1), .int 0])), (hMod, .inl (cMo, 10, .inl (fun _ => 0)))] ∧ nw_ok U)) (va_Qi (fun (r : Int32) (_ : Unit) => (a.toInt = 0 → r.toInt = 0) ∧ (¬ a.toInt = 0 → r.toInt = (-1))) (fun (_ : Unit) (t : State) => True) (va_A [(h0, .inr (8, [.ref hRows, .ref hMer, .ref hEra, .ref hTape, .ref hRea, .ref hTra, .ref hWor, .ref hPla, .ref hMod, .ref hHe1, .ref hHe2, .int 0, .int 0, .int 0, .int 0, .int (-1), .int 0])), (hMod, .inl (cMo, 10, .inl (fun _ => 0)))] sz)) 0 0 (va_A [(h0, .inr (8, [.ref hRows, .ref hMer, .ref hEra, .ref hTape, .ref hRea, .ref hTra, .ref hWor, .ref hPla, .ref hMod, .ref hHe1, .ref hHe2, .int 0, .int 0, .int 0, .int 0, .int (-1), .int 0])), (hMod, .inl (cMo, 10, .inl (fun _ => 0)))] sz) := by
  refine Met.ofW (cc := cX8_model) (maxL := 2) (ret := (some .int)) (by decide) rfl ?_
  intro p e s m args below meth c s₁ B hml hv
  obtain ⟨rfl, hsz, hP, hK, hD0, hN⟩ := hv
  have hx := B.exec
  have hb := B.bytes
  have hr := B.returns
  have hts := atoms_spec (ws := wsX8_model) B.pre
  have hown : s.vm.findClass RX8 = some m.cls := findClass_of_methodNamed B.named
  have hlocks := B.notSynchronized
  subst hsz
  have hD := hD0.self (sz := s.heap.size)
  generalize hAe : va_A [(h0, .inr (8, [.ref hRows, .ref hMer, .ref hEra, .ref hTape, .ref hRea, .ref hTra, .ref hWor, .ref hPla, .ref hMod, .ref hHe1, .ref hHe2, .int 0, .int 0, .int 0, .int 0, .int (-1), .int 0])), (hMod, .inl (cMo, 10, .inl (fun _ => 0)))] s.heap.size = A at hD ⊢
  have hA : ∀ q : Nat, s.heap.size ≤ q → A q := fun q h => by rw [← hAe]; exact Or.inr h
  have hS : va_S A s.heap s.heap [] := va_S.rf
  have hP : va_P (dC, dI) vwCl [(h0, .inr (8, [.ref hRows, .ref hMer, .ref hEra, .ref hTape, .ref hRea, .ref hTra, .ref hWor, .ref hPla, .ref hMod, .ref hHe1, .ref hHe2, .int 0, .int 0, .int 0, .int 0, .int (-1), .int 0])), (hMod, .inl (cMo, 10, .inl (fun _ => 0)))] s.heap := hP
  have hIX8 : ∀ w ∈ u_ws RX8 TX8 17, w ∈ wsX8_model := by decide +kernel
  have hl := lv_entry ([.ref h0, .int a]) (n := 2) (Nat.le_of_ble_eq_true rfl)
  rw [lg_entry_eq]
  generalize (lg_sl ([.ref h0, .int a]) ++ List.replicate (2 - (lg_sl ([.ref h0, .int a])).length) Slot.unset).toArray = ls at hl ⊢
  have hl : lv_has ls 2 [(0, .ref h0), (1, .int a)] := hl
  refine lv_iload_n hx hb dX8_model_0 rfl (lv_at hl 1 rfl) ?_
  refine lv_aload_n hx hb dX8_model_1 rfl (lv_at hl 0 rfl) ?_
  refine va_get (D := (dC, dI)) (ci := 8) (v := .int 0) (C := RX8) (T := TX8) (N := 17) hx hb hts hIX8 hown hK hP 0 rfl rfl 13 (by decide) (hts (.fieldLink RX8 148 "TraitHouse" "traitsThere" "I") (by decide +kernel)) (fun _ h9 => h9) rfl dX8_model_2 ?_
  obtain ⟨x_1, ex_1⟩ : ∃ y : Int32, y = (a.toUInt32 >>> ((0 : Int32).toUInt32 &&& Int32.toUInt32 31)).toInt32 := ⟨_, rfl⟩
  refine lv_iushr (v := x_1) hx hb dX8_model_5 ex_1.symm ?_
  obtain rfl : a = x_1 := (ex_1.trans (jI_ushr0 _)).symm
  refine lv_if_eq (tgt := 15) hx hb dX8_model_6 (by decide) (fun c_2 => ?_) (fun c_2 => ?_)
  · have dc_2 : a.toInt = 0 := jI_eq c_2 rfl (by decide)
    refine lv_aload_n hx hb dX8_model_15 rfl (lv_at hl 0 rfl) ?_
    refine va_get (D := (dC, dI)) (ci := 8) (v := .int 0) (C := RX8) (T := TX8) (N := 17) hx hb hts hIX8 hown hK hP 0 rfl rfl 14 (by decide) (hts (.fieldLink RX8 250 "TraitHouse" "modelsThere" "I") (by decide +kernel)) (fun _ h9 => h9) rfl dX8_model_16 ?_
    refine lv_bipush (v := 10) hx hb dX8_model_19 (by decide) ?_
    refine lv_icmp_lt (tgt := 31) hx hb dX8_model_21 (by decide) (fun c_3 => ?_) (fun c_3 => absurd (by decide) c_3)
    refine lv_aload_n hx hb dX8_model_31 rfl (lv_at hl 0 rfl) ?_
    refine va_get (D := (dC, dI)) (ci := 8) (v := .ref hMod) (C := RX8) (T := TX8) (N := 17) hx hb hts hIX8 hown hK hP 0 rfl rfl 8 (by decide) (hts (.fieldLink RX8 65 "TraitHouse" "models" "[I") (by decide +kernel)) (fun _ h9 => h9) rfl dX8_model_32 ?_
    refine lv_aload_n hx hb dX8_model_35 rfl (lv_at hl 0 rfl) ?_
    refine va_get (D := (dC, dI)) (ci := 8) (v := .int 0) (C := RX8) (T := TX8) (N := 17) hx hb hts hIX8 hown hK hP 0 rfl rfl 14 (by decide) (hts (.fieldLink RX8 250 "TraitHouse" "modelsThere" "I") (by decide +kernel)) (fun _ h9 => h9) rfl dX8_model_36 ?_
    refine lv_aload_n hx hb dX8_model_39 rfl (lv_at hl 0 rfl) ?_
    refine lv_iload_n hx hb dX8_model_40 rfl (lv_at hl 1 rfl) ?_
    have hPc := hP.sub (ws' := [(h0, .inr (8, [.ref hRows, .ref hMer, .ref hEra, .ref hTape, .ref hRea, .ref hTra, .ref hWor, .ref hPla, .ref hMod, .ref hHe1, .ref hHe2, .int 0, .int 0, .int 0, .int 0, .int (-1), .int 0]))]) [0] rfl
    have hDc := hD.sub (ws' := [(h0, .inr (8, [.ref hRows, .ref hMer, .ref hEra, .ref hTape, .ref hRea, .ref hTra, .ref hWor, .ref hPla, .ref hMod, .ref hHe1, .ref hHe2, .int 0, .int 0, .int 0, .int 0, .int (-1), .int 0]))]) [0] (by decide) rfl
    have hKc := hK.sub (tys' := []) [] rfl
    have hFc := va_free (wc := [(h0, .inr (8, [.ref hRows, .ref hMer, .ref hEra, .ref hTape, .ref hRea, .ref hTra, .ref hWor, .ref hPla, .ref hMod, .ref hHe1, .ref hHe2, .int 0, .int 0, .int 0, .int 0, .int (-1), .int 0]))]) hD hS hA [0] rfl
    refine va_calli (va_runV (As := [.int a]) (rest := [.int 0, .ref hMod]) ⟨hx, hb, hml, hown, hts⟩ (c_X8_needsOf l dC dI s.heap.size h0 hRows hMer hEra hTape hRea hTra hWor hPla hMod hHe1 hHe2 a ) (cwV 1 hts gX8_model_X8_needsOf rfl rfl rfl (by decide +kernel) ⟨Nat.le_of_ble_eq_true rfl, Nat.le_of_ble_eq_true rfl⟩) ⟨fun a U g mk q => by obtain ⟨q0, q1, qP, qK, qD, qN⟩ := q; exact ⟨q0, q1, qP, va_K.moved (u := U) (U := U.calling g mk a) (Vm.Alike.refl U.vm) qK, qD, qN.same rfl⟩, va_recv hKc hPc (ci := 8) (q0 := 0) rfl rfl, fun U hU hW => ⟨rfl, by rw [hU], by rw [hU]; exact hPc, va_K.moved hW.alike hKc, hDc.weaken (fun _ _ _ _ => trivial), hN.warm hW⟩⟩ rfl rfl hl.1 rfl (lv_room (Nat.le_of_ble_eq_true rfl)) dX8_model_41 ⟨Nat.le_of_ble_eq_true rfl, Nat.le_of_ble_eq_true rfl⟩) hS (fun q _ h => hFc q h) hFc (fun r_4 u_5 t H1 locs ht hvm hw_6 hB hz1 hk1 hS => ?_)
    try dsimp only at hw_6
    obtain ⟨hP1, hK1, hD1⟩ := hB
    rw [ht] at hP1
    have hK1 := va_K.moved hvm.symm hK1
    obtain ⟨hP, hD⟩ := va_join (wr := [(hMod, .inl (cMo, 10, .inl (fun _ => 0)))]) (w1 := [(h0, .inr (8, [.ref hRows, .ref hMer, .ref hEra, .ref hTape, .ref hRea, .ref hTra, .ref hWor, .ref hPla, .ref hMod, .ref hHe1, .ref hHe2, .int 0, .int 0, .int 0, .int 0, .int (-1), .int 0]))]) hP hD [0] [1] rfl rfl (by decide) (by decide) hk1 hFc hP1 hD1
    have hK := (hK.sub (tys' := [(cMo, .int)]) [0] rfl).app hK1
    generalize H1 = H at hP hS ⊢
    have hP : va_P (dC, dI) vwCl [(hMod, .inl (cMo, 10, .inl (fun _ => 0))), (h0, .inr (8, [.ref hRows, .ref hMer, .ref hEra, .ref hTape, .ref hRea, .ref hTra, .ref hWor, .ref hPla, .ref hMod, .ref hHe1, .ref hHe2, .int 0, .int 0, .int 0, .int 0, .int (-1), .int 0]))] H := hP
    have hD : va_D A [(hMod, .inl (cMo, 10, .inl (fun _ => 0))), (h0, .inr (8, [.ref hRows, .ref hMer, .ref hEra, .ref hTape, .ref hRea, .ref hTra, .ref hWor, .ref hPla, .ref hMod, .ref hHe1, .ref hHe2, .int 0, .int 0, .int 0, .int 0, .int (-1), .int 0]))] := hD
    have hK : va_K (dC, dI) vwCl [(cMo, .int)] s := hK
    obtain rfl : 0 = r_4 := hw_6.symm
    have h_7 : vp_in 0 10 := (vp_in_iff.mpr ⟨by decide, by decide⟩)
    refine va_iast hx hb hK hP hD hS 0 0 rfl rfl h_7 dX8_model_44 (fun H locs hP hD hS => ?_)
    have hP : va_P (dC, dI) vwCl [(hMod, .inl (cMo, 10, .inl (upd (fun _ => 0) (0 : Int32).toNatClampNeg 0))), (h0, .inr (8, [.ref hRows, .ref hMer, .ref hEra, .ref hTape, .ref hRea, .ref hTra, .ref hWor, .ref hPla, .ref hMod, .ref hHe1, .ref hHe2, .int 0, .int 0, .int 0, .int 0, .int (-1), .int 0]))] H := hP
    have hD : va_D A [(hMod, .inl (cMo, 10, .inl (upd (fun _ => 0) (0 : Int32).toNatClampNeg 0))), (h0, .inr (8, [.ref hRows, .ref hMer, .ref hEra, .ref hTape, .ref hRea, .ref hTra, .ref hWor, .ref hPla, .ref hMod, .ref hHe1, .ref hHe2, .int 0, .int 0, .int 0, .int 0, .int (-1), .int 0]))] := hD
    obtain ⟨g_8, eg_8⟩ : ∃ g : Nat → Int32, g = upd (fun _ => 0) (0 : Int32).toNatClampNeg 0 := ⟨_, rfl⟩
    rw [← eg_8] at hP hD
    refine lv_aload_n hx hb dX8_model_45 rfl (lv_at hl 0 rfl) ?_
    refine lv_dup hx hb dX8_model_46 rfl ?_
    refine va_get (D := (dC, dI)) (ci := 8) (v := .int 0) (C := RX8) (T := TX8) (N := 17) hx hb hts hIX8 hown hK hP 1 rfl rfl 14 (by decide) (hts (.fieldLink RX8 250 "TraitHouse" "modelsThere" "I") (by decide +kernel)) (fun _ h9 => h9) rfl dX8_model_47 ?_
    refine lv_iconst (v := 1) hx hb dX8_model_50 (by decide) ?_
    refine lv_iadd hx hb dX8_model_51 ?_
    refine lv_topi (fun x_9 ex_9 => ?_)
    obtain rfl : x_9 = 1 := ex_9.trans (by decide)
    refine va_put (D := (dC, dI)) (ci := 8) (v := .int 1) (ty := .int) (C := RX8) (T := TX8) (N := 17) hx hb hts hIX8 tyX8 tyX8_ok nmX8 hown hK hP hD hS 1 rfl rfl 14 (by decide) (hts (.fieldLink RX8 250 "TraitHouse" "modelsThere" "I") (by decide +kernel)) (fun _ h9 => h9) rfl (by decide +kernel) rfl rfl (Nat.le_of_ble_eq_true rfl) dX8_model_52 (fun H locs hP hD hS => ?_)
    have hP : va_P (dC, dI) vwCl [(hMod, .inl (cMo, 10, .inl g_8)), (h0, .inr (8, [.ref hRows, .ref hMer, .ref hEra, .ref hTape, .ref hRea, .ref hTra, .ref hWor, .ref hPla, .ref hMod, .ref hHe1, .ref hHe2, .int 0, .int 0, .int 0, .int 1, .int (-1), .int 0]))] H := hP
    have hD : va_D A [(hMod, .inl (cMo, 10, .inl g_8)), (h0, .inr (8, [.ref hRows, .ref hMer, .ref hEra, .ref hTape, .ref hRea, .ref hTra, .ref hWor, .ref hPla, .ref hMod, .ref hHe1, .ref hHe2, .int 0, .int 0, .int 0, .int 1, .int (-1), .int 0]))] := hD
    refine lv_aload_n hx hb dX8_model_55 rfl (lv_at hl 0 rfl) ?_
    refine lv_aload_n hx hb dX8_model_56 rfl (lv_at hl 0 rfl) ?_
    refine va_get (D := (dC, dI)) (ci := 8) (v := .int 1) (C := RX8) (T := TX8) (N := 17) hx hb hts hIX8 hown hK hP 1 rfl rfl 14 (by decide) (hts (.fieldLink RX8 250 "TraitHouse" "modelsThere" "I") (by decide +kernel)) (fun _ h9 => h9) rfl dX8_model_57 ?_
    refine lv_iconst (v := 1) hx hb dX8_model_60 (by decide) ?_
    refine lv_isub hx hb dX8_model_61 ?_
    refine lv_topi (fun x_10 ex_10 => ?_)
    obtain rfl : x_10 = 0 := ex_10.trans (by decide)
    have hk_11 : (0 : Int32).toInt = 0 := by decide
    have hk_12 : (1 : Int32).toInt = 1 := by decide
    have hk_13 : ((-1) : Int32).toInt = (-1) := by decide
    have hPc := hP.sub (ws' := [(h0, .inr (8, [.ref hRows, .ref hMer, .ref hEra, .ref hTape, .ref hRea, .ref hTra, .ref hWor, .ref hPla, .ref hMod, .ref hHe1, .ref hHe2, .int 0, .int 0, .int 0, .int 1, .int (-1), .int 0]))]) [1] rfl
    have hDc := hD.sub (ws' := [(h0, .inr (8, [.ref hRows, .ref hMer, .ref hEra, .ref hTape, .ref hRea, .ref hTra, .ref hWor, .ref hPla, .ref hMod, .ref hHe1, .ref hHe2, .int 0, .int 0, .int 0, .int 1, .int (-1), .int 0]))]) [1] (by decide) rfl
    have hKc := hK.sub (tys' := []) [] rfl
    have hFc := va_free (wc := [(h0, .inr (8, [.ref hRows, .ref hMer, .ref hEra, .ref hTape, .ref hRea, .ref hTra, .ref hWor, .ref hPla, .ref hMod, .ref hHe1, .ref hHe2, .int 0, .int 0, .int 0, .int 1, .int (-1), .int 0]))]) hD hS hA [1] rfl
    refine va_calli (va_runV (As := [.int 0]) (rest := []) ⟨hx, hb, hml, hown, hts⟩ (c_X8_settle l dC dI H.size h0 hRows hMer hEra hTape hRea hTra hWor hPla hMod hHe1 hHe2 0 0 0 1 (-1) 0 0 ) (cwV 1 hts gX8_model_X8_settle rfl rfl rfl (by decide +kernel) ⟨Nat.le_of_ble_eq_true rfl, Nat.le_of_ble_eq_true rfl⟩) ⟨fun a U g mk q => by obtain ⟨q0, q1, qP, qK, qD, qN⟩ := q; exact ⟨q0, q1, qP, va_K.moved (u := U) (U := U.calling g mk a) (Vm.Alike.refl U.vm) qK, qD, qN.same rfl⟩, va_recv hKc hPc (ci := 8) (q0 := 0) rfl rfl, fun U hU hW => ⟨rfl, by rw [hU], by rw [hU]; exact hPc, va_K.moved hW.alike hKc, hDc.weaken (fun _ _ _ _ => trivial), hN.warm hW⟩⟩ rfl rfl hl.1 rfl (lv_room (Nat.le_of_ble_eq_true rfl)) dX8_model_62 ⟨Nat.le_of_ble_eq_true rfl, Nat.le_of_ble_eq_true rfl⟩) hS (fun q _ h => hFc q h) hFc (fun r_14 u_15 t H1 locs ht hvm hw_16 hB hz1 hk1 hS => ?_)
    obtain ⟨w_17, rfl⟩ : ∃ z, z = u_15 := ⟨_, rfl⟩
    try dsimp only at hw_16
    obtain ⟨hP1, hK1, hD1⟩ := hB
    rw [ht] at hP1
    have hK1 := va_K.moved hvm.symm hK1
    obtain ⟨hP, hD⟩ := va_join (wr := [(hMod, .inl (cMo, 10, .inl g_8))]) (w1 := [(h0, .inr (8, [.ref hRows, .ref hMer, .ref hEra, .ref hTape, .ref hRea, .ref hTra, .ref hWor, .ref hPla, .ref hMod, .ref hHe1, .ref hHe2, .int 0, .int 0, .int 0, .int 1, .int (-1), .int w_17]))]) hP hD [1] [0] rfl rfl (by decide) (by decide) hk1 hFc hP1 hD1
    have hK := (hK.sub (tys' := [(cMo, .int)]) [0] rfl).app hK1
    generalize H1 = H at hP hS ⊢
    have hP : va_P (dC, dI) vwCl [(hMod, .inl (cMo, 10, .inl g_8)), (h0, .inr (8, [.ref hRows, .ref hMer, .ref hEra, .ref hTape, .ref hRea, .ref hTra, .ref hWor, .ref hPla, .ref hMod, .ref hHe1, .ref hHe2, .int 0, .int 0, .int 0, .int 1, .int (-1), .int w_17]))] H := hP
    have hD : va_D A [(hMod, .inl (cMo, 10, .inl g_8)), (h0, .inr (8, [.ref hRows, .ref hMer, .ref hEra, .ref hTape, .ref hRea, .ref hTra, .ref hWor, .ref hPla, .ref hMod, .ref hHe1, .ref hHe2, .int 0, .int 0, .int 0, .int 1, .int (-1), .int w_17]))] := hD
    have hK : va_K (dC, dI) vwCl [(cMo, .int)] s := hK
    obtain rfl : 0 = r_14 := hw_16.symm
    have hans : (0 : Int32).toInt = 0 := (by decide)
    exact W.iret (v := 0) hx hb hr (fun t ht hW => ⟨⟨0, (), rfl, by first | omega | (dsimp only; omega), trivial⟩, hS.F ht⟩) hS.2.2 dX8_model_65
  · have dc_2 : ¬ a.toInt = 0 := jI_ne c_2 rfl (by decide)
    refine lv_aload_n hx hb dX8_model_9 rfl (lv_at hl 0 rfl) ?_
    refine lv_iconst (v := (-1)) hx hb dX8_model_10 (by decide) ?_
    have hk_18 : ((-1) : Int32).toInt = (-1) := by decide
    have hk_19 : (0 : Int32).toInt = 0 := by decide
    have hPc := hP.sub (ws' := [(h0, .inr (8, [.ref hRows, .ref hMer, .ref hEra, .ref hTape, .ref hRea, .ref hTra, .ref hWor, .ref hPla, .ref hMod, .ref hHe1, .ref hHe2, .int 0, .int 0, .int 0, .int 0, .int (-1), .int 0]))]) [0] rfl
    have hDc := hD.sub (ws' := [(h0, .inr (8, [.ref hRows, .ref hMer, .ref hEra, .ref hTape, .ref hRea, .ref hTra, .ref hWor, .ref hPla, .ref hMod, .ref hHe1, .ref hHe2, .int 0, .int 0, .int 0, .int 0, .int (-1), .int 0]))]) [0] (by decide) rfl
    have hKc := hK.sub (tys' := []) [] rfl
    have hFc := va_free (wc := [(h0, .inr (8, [.ref hRows, .ref hMer, .ref hEra, .ref hTape, .ref hRea, .ref hTra, .ref hWor, .ref hPla, .ref hMod, .ref hHe1, .ref hHe2, .int 0, .int 0, .int 0, .int 0, .int (-1), .int 0]))]) hD hS hA [0] rfl
    refine va_calli (va_runV (As := [.int (-1)]) (rest := []) ⟨hx, hb, hml, hown, hts⟩ (c_X8_settle l dC dI s.heap.size h0 hRows hMer hEra hTape hRea hTra hWor hPla hMod hHe1 hHe2 0 0 0 0 (-1) 0 (-1) ) (cwV 1 hts gX8_model_X8_settle rfl rfl rfl (by decide +kernel) ⟨Nat.le_of_ble_eq_true rfl, Nat.le_of_ble_eq_true rfl⟩) ⟨fun a U g mk q => by obtain ⟨q0, q1, qP, qK, qD, qN⟩ := q; exact ⟨q0, q1, qP, va_K.moved (u := U) (U := U.calling g mk a) (Vm.Alike.refl U.vm) qK, qD, qN.same rfl⟩, va_recv hKc hPc (ci := 8) (q0 := 0) rfl rfl, fun U hU hW => ⟨rfl, by rw [hU], by rw [hU]; exact hPc, va_K.moved hW.alike hKc, hDc.weaken (fun _ _ _ _ => trivial), hN.warm hW⟩⟩ rfl rfl hl.1 rfl (lv_room (Nat.le_of_ble_eq_true rfl)) dX8_model_11 ⟨Nat.le_of_ble_eq_true rfl, Nat.le_of_ble_eq_true rfl⟩) hS (fun q _ h => hFc q h) hFc (fun r_20 u_21 t H1 locs ht hvm hw_22 hB hz1 hk1 hS => ?_)
    obtain ⟨w_23, rfl⟩ : ∃ z, z = u_21 := ⟨_, rfl⟩
    try dsimp only at hw_22
    obtain ⟨hP1, hK1, hD1⟩ := hB
    rw [ht] at hP1
    have hK1 := va_K.moved hvm.symm hK1
    obtain ⟨hP, hD⟩ := va_join (wr := [(hMod, .inl (cMo, 10, .inl (fun _ => 0)))]) (w1 := [(h0, .inr (8, [.ref hRows, .ref hMer, .ref hEra, .ref hTape, .ref hRea, .ref hTra, .ref hWor, .ref hPla, .ref hMod, .ref hHe1, .ref hHe2, .int 0, .int 0, .int 0, .int 0, .int (-1), .int w_23]))]) hP hD [0] [1] rfl rfl (by decide) (by decide) hk1 hFc hP1 hD1
    have hK := (hK.sub (tys' := [(cMo, .int)]) [0] rfl).app hK1
    generalize H1 = H at hP hS ⊢
    have hP : va_P (dC, dI) vwCl [(hMod, .inl (cMo, 10, .inl (fun _ => 0))), (h0, .inr (8, [.ref hRows, .ref hMer, .ref hEra, .ref hTape, .ref hRea, .ref hTra, .ref hWor, .ref hPla, .ref hMod, .ref hHe1, .ref hHe2, .int 0, .int 0, .int 0, .int 0, .int (-1), .int w_23]))] H := hP
    have hD : va_D A [(hMod, .inl (cMo, 10, .inl (fun _ => 0))), (h0, .inr (8, [.ref hRows, .ref hMer, .ref hEra, .ref hTape, .ref hRea, .ref hTra, .ref hWor, .ref hPla, .ref hMod, .ref hHe1, .ref hHe2, .int 0, .int 0, .int 0, .int 0, .int (-1), .int w_23]))] := hD
    have hK : va_K (dC, dI) vwCl [(cMo, .int)] s := hK
    obtain rfl : (-1) = r_20 := hw_22.symm
    have hans : ((-1) : Int32).toInt = (-1) := (by decide)
    exact W.iret (v := (-1)) hx hb hr (fun t ht hW => ⟨⟨(-1), (), rfl, by first | omega | (dsimp only; omega), trivial⟩, hS.F ht⟩) hS.2.2 dX8_model_14
