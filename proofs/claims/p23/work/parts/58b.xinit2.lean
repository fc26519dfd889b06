theorem dX3_init_0 : decode cX3_init 0 = .ok (.aload_n 0, 1) := by decide +kernel
theorem dX3_init_1 : decode cX3_init 1 = .ok (.invokespecial 3, 3) := by decide +kernel
theorem dX3_init_4 : decode cX3_init 4 = .ok (.aload_n 0, 1) := by decide +kernel
theorem dX3_init_5 : decode cX3_init 5 = .ok (.sipush 400, 3) := by decide +kernel
theorem dX3_init_8 : decode cX3_init 8 = .ok (.newarray .int, 2) := by decide +kernel
theorem dX3_init_10 : decode cX3_init 10 = .ok (.putfield 9, 3) := by decide +kernel
theorem dX3_init_13 : decode cX3_init 13 = .ok (.aload_n 0, 1) := by decide +kernel
theorem dX3_init_14 : decode cX3_init 14 = .ok (.sipush 400, 3) := by decide +kernel
theorem dX3_init_17 : decode cX3_init 17 = .ok (.newarray .int, 2) := by decide +kernel
theorem dX3_init_19 : decode cX3_init 19 = .ok (.putfield 15, 3) := by decide +kernel
theorem dX3_init_22 : decode cX3_init 22 = .ok (.aload_n 0, 1) := by decide +kernel
theorem dX3_init_23 : decode cX3_init 23 = .ok (.sipush 400, 3) := by decide +kernel
theorem dX3_init_26 : decode cX3_init 26 = .ok (.newarray .int, 2) := by decide +kernel
theorem dX3_init_28 : decode cX3_init 28 = .ok (.putfield 18, 3) := by decide +kernel
theorem dX3_init_31 : decode cX3_init 31 = .ok (.aload_n 0, 1) := by decide +kernel
theorem dX3_init_32 : decode cX3_init 32 = .ok (.sipush 400, 3) := by decide +kernel
theorem dX3_init_35 : decode cX3_init 35 = .ok (.newarray .int, 2) := by decide +kernel
theorem dX3_init_37 : decode cX3_init 37 = .ok (.putfield 21, 3) := by decide +kernel
theorem dX3_init_40 : decode cX3_init 40 = .ok (.aload_n 0, 1) := by decide +kernel
theorem dX3_init_41 : decode cX3_init 41 = .ok (.sipush 400, 3) := by decide +kernel
theorem dX3_init_44 : decode cX3_init 44 = .ok (.newarray .int, 2) := by decide +kernel
theorem dX3_init_46 : decode cX3_init 46 = .ok (.putfield 24, 3) := by decide +kernel
theorem dX3_init_49 : decode cX3_init 49 = .ok (.return_, 1) := by decide +kernel
theorem dX0_init_0 : decode cX0_init 0 = .ok (.aload_n 0, 1) := by decide +kernel
theorem dX0_init_1 : decode cX0_init 1 = .ok (.invokespecial 3, 3) := by decide +kernel
theorem dX0_init_4 : decode cX0_init 4 = .ok (.aload_n 0, 1) := by decide +kernel
theorem dX0_init_5 : decode cX0_init 5 = .ok (.bipush 20, 2) := by decide +kernel
theorem dX0_init_7 : decode cX0_init 7 = .ok (.newarray .int, 2) := by decide +kernel
theorem dX0_init_9 : decode cX0_init 9 = .ok (.putfield 9, 3) := by decide +kernel
theorem dX0_init_12 : decode cX0_init 12 = .ok (.aload_n 0, 1) := by decide +kernel
theorem dX0_init_13 : decode cX0_init 13 = .ok (.bipush 20, 2) := by decide +kernel
theorem dX0_init_15 : decode cX0_init 15 = .ok (.newarray .int, 2) := by decide +kernel
theorem dX0_init_17 : decode cX0_init 17 = .ok (.putfield 15, 3) := by decide +kernel
theorem dX0_init_20 : decode cX0_init 20 = .ok (.aload_n 0, 1) := by decide +kernel
theorem dX0_init_21 : decode cX0_init 21 = .ok (.getfield 9, 3) := by decide +kernel
theorem dX0_init_24 : decode cX0_init 24 = .ok (.iconst (-1), 1) := by decide +kernel
set_option maxRecDepth 20000 in
theorem ggX0_init_J7_fill_53178 : GoodIn wsX0_init wsJ7_fill_53178 := goodIn_r _ [10] (by decide +kernel) (by decide +kernel)
set_option maxRecDepth 20000 in
theorem gX0_init_J7_fill_53178 : GoodIn wsX0_init (va_wsS RX0 18 yJ7_fill_53178 wsJ7_fill_53178) := goodIn_app (goodIn_of _ (by decide +kernel)) ggX0_init_J7_fill_53178
theorem dX0_init_25 : decode cX0_init 25 = .ok (.invokestatic 18, 3) := by decide +kernel
theorem dX0_init_28 : decode cX0_init 28 = .ok (.return_, 1) := by decide +kernel
theorem dX2_init_0 : decode cX2_init 0 = .ok (.aload_n 0, 1) := by decide +kernel
theorem dX2_init_1 : decode cX2_init 1 = .ok (.invokespecial 3, 3) := by decide +kernel
theorem dX2_init_4 : decode cX2_init 4 = .ok (.aload_n 0, 1) := by decide +kernel
theorem dX2_init_5 : decode cX2_init 5 = .ok (.sipush 200, 3) := by decide +kernel
theorem dX2_init_8 : decode cX2_init 8 = .ok (.anewarray 9, 3) := by decide +kernel
theorem dX2_init_11 : decode cX2_init 11 = .ok (.putfield 11, 3) := by decide +kernel
theorem dX2_init_14 : decode cX2_init 14 = .ok (.aload_n 0, 1) := by decide +kernel
theorem dX2_init_15 : decode cX2_init 15 = .ok (.aload_n 1, 1) := by decide +kernel
theorem dX2_init_16 : decode cX2_init 16 = .ok (.putfield 17, 3) := by decide +kernel
theorem dX2_init_19 : decode cX2_init 19 = .ok (.return_, 1) := by decide +kernel
theorem dX7_init_0 : decode cX7_init 0 = .ok (.aload_n 0, 1) := by decide +kernel
theorem dX7_init_1 : decode cX7_init 1 = .ok (.invokespecial 3, 3) := by decide +kernel
theorem dX7_init_4 : decode cX7_init 4 = .ok (.aload_n 0, 1) := by decide +kernel
theorem dX7_init_5 : decode cX7_init 5 = .ok (.bipush 20, 2) := by decide +kernel
theorem dX7_init_7 : decode cX7_init 7 = .ok (.newarray .boolean, 2) := by decide +kernel
theorem dX7_init_9 : decode cX7_init 9 = .ok (.putfield 9, 3) := by decide +kernel
theorem dX7_init_12 : decode cX7_init 12 = .ok (.aload_n 0, 1) := by decide +kernel
theorem dX7_init_13 : decode cX7_init 13 = .ok (.sipush 400, 3) := by decide +kernel
theorem dX7_init_16 : decode cX7_init 16 = .ok (.newarray .int, 2) := by decide +kernel
theorem dX7_init_18 : decode cX7_init 18 = .ok (.putfield 15, 3) := by decide +kernel
theorem dX7_init_21 : decode cX7_init 21 = .ok (.aload_n 0, 1) := by decide +kernel
theorem dX7_init_22 : decode cX7_init 22 = .ok (.sipush 200, 3) := by decide +kernel
theorem dX7_init_25 : decode cX7_init 25 = .ok (.newarray .long, 2) := by decide +kernel
theorem dX7_init_27 : decode cX7_init 27 = .ok (.putfield 19, 3) := by decide +kernel
theorem dX7_init_30 : decode cX7_init 30 = .ok (.aload_n 0, 1) := by decide +kernel
theorem dX7_init_31 : decode cX7_init 31 = .ok (.bipush 20, 2) := by decide +kernel
theorem dX7_init_33 : decode cX7_init 33 = .ok (.newarray .long, 2) := by decide +kernel
theorem dX7_init_35 : decode cX7_init 35 = .ok (.putfield 23, 3) := by decide +kernel
theorem dX7_init_38 : decode cX7_init 38 = .ok (.aload_n 0, 1) := by decide +kernel
theorem dX7_init_39 : decode cX7_init 39 = .ok (.aload_n 1, 1) := by decide +kernel
theorem dX7_init_40 : decode cX7_init 40 = .ok (.putfield 26, 3) := by decide +kernel
theorem dX7_init_43 : decode cX7_init 43 = .ok (.aload_n 0, 1) := by decide +kernel
theorem dX7_init_44 : decode cX7_init 44 = .ok (.aload_n 2, 1) := by decide +kernel
theorem dX7_init_45 : decode cX7_init 45 = .ok (.putfield 30, 3) := by decide +kernel
theorem dX7_init_48 : decode cX7_init 48 = .ok (.aload_n 0, 1) := by decide +kernel
theorem dX7_init_49 : decode cX7_init 49 = .ok (.aload_n 3, 1) := by decide +kernel
theorem dX7_init_50 : decode cX7_init 50 = .ok (.putfield 34, 3) := by decide +kernel
theorem dX7_init_53 : decode cX7_init 53 = .ok (.return_, 1) := by decide +kernel
theorem dX1_init_0 : decode cX1_init 0 = .ok (.aload_n 0, 1) := by decide +kernel
theorem dX1_init_1 : decode cX1_init 1 = .ok (.invokespecial 3, 3) := by decide +kernel
theorem dX1_init_4 : decode cX1_init 4 = .ok (.aload_n 0, 1) := by decide +kernel
theorem dX1_init_5 : decode cX1_init 5 = .ok (.sipush 2000, 3) := by decide +kernel
theorem dX1_init_8 : decode cX1_init 8 = .ok (.newarray .int, 2) := by decide +kernel
theorem dX1_init_10 : decode cX1_init 10 = .ok (.putfield 9, 3) := by decide +kernel
theorem dX1_init_13 : decode cX1_init 13 = .ok (.aload_n 0, 1) := by decide +kernel
theorem dX1_init_14 : decode cX1_init 14 = .ok (.sipush 2000, 3) := by decide +kernel
theorem dX1_init_17 : decode cX1_init 17 = .ok (.newarray .int, 2) := by decide +kernel
theorem dX1_init_19 : decode cX1_init 19 = .ok (.putfield 15, 3) := by decide +kernel
theorem dX1_init_22 : decode cX1_init 22 = .ok (.aload_n 0, 1) := by decide +kernel
theorem dX1_init_23 : decode cX1_init 23 = .ok (.sipush 2000, 3) := by decide +kernel
theorem dX1_init_26 : decode cX1_init 26 = .ok (.newarray .boolean, 2) := by decide +kernel
theorem dX1_init_28 : decode cX1_init 28 = .ok (.putfield 18, 3) := by decide +kernel
theorem dX1_init_31 : decode cX1_init 31 = .ok (.aload_n 0, 1) := by decide +kernel
theorem dX1_init_32 : decode cX1_init 32 = .ok (.sipush 2000, 3) := by decide +kernel
theorem dX1_init_35 : decode cX1_init 35 = .ok (.newarray .long, 2) := by decide +kernel
theorem dX1_init_37 : decode cX1_init 37 = .ok (.putfield 22, 3) := by decide +kernel
theorem dX1_init_40 : decode cX1_init 40 = .ok (.return_, 1) := by decide +kernel
set_option maxHeartbeats 4000000 in
set_option maxRecDepth 100000 in
theorem c_X3_init (l : Launch) (dC : Nat → ClassId) (dI : Nat → Nat → Nat) (sz : Nat) (hRows : Nat)  : Met l yX3_init wsX3_init ({ frames := 1, cells := 5, slots := 2000, locals := 20 }) (va_Pc [.ref hRows] (fun U => U.heap.size = sz ∧ va_P (dC, dI) vwCl [(hRows, .inr (3, [.null, .null, .null, .null, .null, .int 0, .int 0]))] U.heap ∧ va_K (dC, dI) vwCl [] U ∧ va_D (fun _ => True) [(hRows, .inr (3, [.null, .null, .null, .null, .null, .int 0, .int 0]))] ∧ nw_ok U)) (va_Qv (fun (_ : Unit) => True) (fun (_ : Unit) (t : State) => ∃ (aP : Nat) (cP : ClassId) (aS : Nat) (cS : ClassId) (aM : Nat) (cM : ClassId) (aK : Nat) (cK : ClassId) (aV : Nat) (cV : ClassId), va_P (dC, dI) vwCl [(hRows, .inr (3, [.ref aP, .ref aS, .ref aM, .ref aK, .ref aV, .int 0, .int 0])), (aP, .inl (cP, 400, .inl (fun _ => 0))), (aS, .inl (cS, 400, .inl (fun _ => 0))), (aM, .inl (cM, 400, .inl (fun _ => 0))), (aK, .inl (cK, 400, .inl (fun _ => 0))), (aV, .inl (cV, 400, .inl (fun _ => 0)))] t.heap ∧ va_K (dC, dI) vwCl [(cP, .int), (cS, .int), (cM, .int), (cK, .int), (cV, .int)] t ∧ va_D (va_A [(hRows, .inr (3, [.null, .null, .null, .null, .null, .int 0, .int 0]))] sz) [(hRows, .inr (3, [.ref aP, .ref aS, .ref aM, .ref aK, .ref aV, .int 0, .int 0])), (aP, .inl (cP, 400, .inl (fun _ => 0))), (aS, .inl (cS, 400, .inl (fun _ => 0))), (aM, .inl (cM, 400, .inl (fun _ => 0))), (aK, .inl (cK, 400, .inl (fun _ => 0))), (aV, .inl (cV, 400, .inl (fun _ => 0)))]) (va_A [(hRows, .inr (3, [.null, .null, .null, .null, .null, .int 0, .int 0]))] sz)) 5 2000 (va_A [(hRows, .inr (3, [.null, .null, .null, .null, .null, .int 0, .int 0]))] sz) := by
  refine Met.ofW (cc := cX3_init) (maxL := 1) (ret := none) (by decide) rfl ?_
  intro p e s m args below meth c s₁ B hml hv
  obtain ⟨rfl, hsz, hP, hK, hD0, hN⟩ := hv
  have hx := B.exec
  have hb := B.bytes
  have hr := B.returns
  have hts := atoms_spec (ws := wsX3_init) B.pre
  have hown : s.vm.findClass RX3 = some m.cls := findClass_of_methodNamed B.named
  have hlocks := B.notSynchronized
  have hin : meth.name = "<init>" := (name_of_methodNamed B.named B.method).1
  subst hsz
  have hD := hD0.self (sz := s.heap.size)
  generalize hAe : va_A [(hRows, .inr (3, [.null, .null, .null, .null, .null, .int 0, .int 0]))] s.heap.size = A at hD ⊢
  have hA : ∀ q : Nat, s.heap.size ≤ q → A q := fun q h => by rw [← hAe]; exact Or.inr h
  have hS : va_S A s.heap s.heap [] := va_S.rf
  have hP : va_P (dC, dI) vwCl [(hRows, .inr (3, [.null, .null, .null, .null, .null, .int 0, .int 0]))] s.heap := hP
  have hIX3 : ∀ w ∈ u_ws RX3 TX3 7, w ∈ wsX3_init := by decide +kernel
  have hl := lv_entry ([.ref hRows]) (n := 1) (Nat.le_of_ble_eq_true rfl)
  rw [lg_entry_eq]
  generalize (lg_sl ([.ref hRows]) ++ List.replicate (1 - (lg_sl ([.ref hRows])).length) Slot.unset).toArray = ls at hl ⊢
  have hl : lv_has ls 1 [(0, .ref hRows)] := hl
  refine lv_aload_n hx hb dX3_init_0 rfl (lv_at hl 0 rfl) ?_
  refine W.objInit hx hb hown (hts (.methodLink RX3 3 objectInit) (by decide +kernel)) (hts (.instanceMethod objectInit) (by decide +kernel)) (hts (.code objectInit ⟨#[0xb1]⟩ 1 none) (by decide +kernel)) rfl (by rw [hml]; exact hl.1) rfl dX3_init_1 (Nat.le_of_ble_eq_true rfl) (Nat.le_of_ble_eq_true rfl) ?_
  refine W.eq (g2 := F0 m 4 ls []) rfl ?_
  refine lv_aload_n hx hb dX3_init_4 rfl (lv_at hl 0 rfl) ?_
  refine lv_sipush (v := 400) hx hb dX3_init_5 (by decide) ?_
  refine va_newa (atype := .int) (a0 := (400, .inl (fun _ => 0))) (ty := .int) (N' := 400) hx hb (hts (.arrayClass .int) (by decide +kernel)) rfl hK hP hD hS hA (jnew_int 400) (by decide) (by decide) (jnb_int (by decide)) (by decide) (by decide) dX3_init_8 (fun q_1 cA_2 H hK hP hD hS => ?_)
  have hP : va_P (dC, dI) vwCl [(hRows, .inr (3, [.null, .null, .null, .null, .null, .int 0, .int 0])), (q_1, .inl (cA_2, 400, .inl (fun _ => 0)))] H := hP
  have hD : va_D A [(hRows, .inr (3, [.null, .null, .null, .null, .null, .int 0, .int 0])), (q_1, .inl (cA_2, 400, .inl (fun _ => 0)))] := hD
  have hK : va_K (dC, dI) vwCl [(cA_2, .int)] s := hK
  refine W.widen (k := 1) (n := 400) (Nat.le_of_ble_eq_true rfl) (Nat.le_of_ble_eq_true rfl) ?_
  refine va_putF (D := (dC, dI)) (ci := 3) (v := .ref q_1) (ty := (.array .int)) (C := RX3) (T := TX3) (N := 7) hx hb hts hIX3 tyX3 tyX3_ok nmX3 hown hK hP hD hS 0 rfl rfl 0 (by decide) (hts (.fieldLink RX3 9 "TraitHouse$Rows" "people" "[I") (by decide +kernel)) (fun _ h9 => h9) rfl hin rfl (by decide +kernel) rfl rfl (Nat.le_of_ble_eq_true rfl) dX3_init_10 (fun H locs hP hD hS => ?_)
  have hP : va_P (dC, dI) vwCl [(hRows, .inr (3, [.ref q_1, .null, .null, .null, .null, .int 0, .int 0])), (q_1, .inl (cA_2, 400, .inl (fun _ => 0)))] H := hP
  have hD : va_D A [(hRows, .inr (3, [.ref q_1, .null, .null, .null, .null, .int 0, .int 0])), (q_1, .inl (cA_2, 400, .inl (fun _ => 0)))] := hD
  refine lv_aload_n hx hb dX3_init_13 rfl (lv_at hl 0 rfl) ?_
  refine lv_sipush (v := 400) hx hb dX3_init_14 (by decide) ?_
  refine va_newa (atype := .int) (a0 := (400, .inl (fun _ => 0))) (ty := .int) (N' := 400) hx hb (hts (.arrayClass .int) (by decide +kernel)) rfl hK hP hD hS hA (jnew_int 400) (by decide) (by decide) (jnb_int (by decide)) (by decide) (by decide) dX3_init_17 (fun q_3 cA_4 H hK hP hD hS => ?_)
  have hP : va_P (dC, dI) vwCl [(hRows, .inr (3, [.ref q_1, .null, .null, .null, .null, .int 0, .int 0])), (q_1, .inl (cA_2, 400, .inl (fun _ => 0))), (q_3, .inl (cA_4, 400, .inl (fun _ => 0)))] H := hP
  have hD : va_D A [(hRows, .inr (3, [.ref q_1, .null, .null, .null, .null, .int 0, .int 0])), (q_1, .inl (cA_2, 400, .inl (fun _ => 0))), (q_3, .inl (cA_4, 400, .inl (fun _ => 0)))] := hD
  have hK : va_K (dC, dI) vwCl [(cA_2, .int), (cA_4, .int)] s := hK
  refine W.widen (k := 2) (n := 800) (Nat.le_of_ble_eq_true rfl) (Nat.le_of_ble_eq_true rfl) ?_
  refine va_putF (D := (dC, dI)) (ci := 3) (v := .ref q_3) (ty := (.array .int)) (C := RX3) (T := TX3) (N := 7) hx hb hts hIX3 tyX3 tyX3_ok nmX3 hown hK hP hD hS 0 rfl rfl 1 (by decide) (hts (.fieldLink RX3 15 "TraitHouse$Rows" "streams" "[I") (by decide +kernel)) (fun _ h9 => h9) rfl hin rfl (by decide +kernel) rfl rfl (Nat.le_of_ble_eq_true rfl) dX3_init_19 (fun H locs hP hD hS => ?_)
  have hP : va_P (dC, dI) vwCl [(hRows, .inr (3, [.ref q_1, .ref q_3, .null, .null, .null, .int 0, .int 0])), (q_1, .inl (cA_2, 400, .inl (fun _ => 0))), (q_3, .inl (cA_4, 400, .inl (fun _ => 0)))] H := hP
  have hD : va_D A [(hRows, .inr (3, [.ref q_1, .ref q_3, .null, .null, .null, .int 0, .int 0])), (q_1, .inl (cA_2, 400, .inl (fun _ => 0))), (q_3, .inl (cA_4, 400, .inl (fun _ => 0)))] := hD
  refine lv_aload_n hx hb dX3_init_22 rfl (lv_at hl 0 rfl) ?_
  refine lv_sipush (v := 400) hx hb dX3_init_23 (by decide) ?_
  refine va_newa (atype := .int) (a0 := (400, .inl (fun _ => 0))) (ty := .int) (N' := 400) hx hb (hts (.arrayClass .int) (by decide +kernel)) rfl hK hP hD hS hA (jnew_int 400) (by decide) (by decide) (jnb_int (by decide)) (by decide) (by decide) dX3_init_26 (fun q_5 cA_6 H hK hP hD hS => ?_)
  have hP : va_P (dC, dI) vwCl [(hRows, .inr (3, [.ref q_1, .ref q_3, .null, .null, .null, .int 0, .int 0])), (q_1, .inl (cA_2, 400, .inl (fun _ => 0))), (q_3, .inl (cA_4, 400, .inl (fun _ => 0))), (q_5, .inl (cA_6, 400, .inl (fun _ => 0)))] H := hP
  have hD : va_D A [(hRows, .inr (3, [.ref q_1, .ref q_3, .null, .null, .null, .int 0, .int 0])), (q_1, .inl (cA_2, 400, .inl (fun _ => 0))), (q_3, .inl (cA_4, 400, .inl (fun _ => 0))), (q_5, .inl (cA_6, 400, .inl (fun _ => 0)))] := hD
  have hK : va_K (dC, dI) vwCl [(cA_2, .int), (cA_4, .int), (cA_6, .int)] s := hK
  refine W.widen (k := 3) (n := 1200) (Nat.le_of_ble_eq_true rfl) (Nat.le_of_ble_eq_true rfl) ?_
  refine va_putF (D := (dC, dI)) (ci := 3) (v := .ref q_5) (ty := (.array .int)) (C := RX3) (T := TX3) (N := 7) hx hb hts hIX3 tyX3 tyX3_ok nmX3 hown hK hP hD hS 0 rfl rfl 2 (by decide) (hts (.fieldLink RX3 18 "TraitHouse$Rows" "moments" "[I") (by decide +kernel)) (fun _ h9 => h9) rfl hin rfl (by decide +kernel) rfl rfl (Nat.le_of_ble_eq_true rfl) dX3_init_28 (fun H locs hP hD hS => ?_)
  have hP : va_P (dC, dI) vwCl [(hRows, .inr (3, [.ref q_1, .ref q_3, .ref q_5, .null, .null, .int 0, .int 0])), (q_1, .inl (cA_2, 400, .inl (fun _ => 0))), (q_3, .inl (cA_4, 400, .inl (fun _ => 0))), (q_5, .inl (cA_6, 400, .inl (fun _ => 0)))] H := hP
  have hD : va_D A [(hRows, .inr (3, [.ref q_1, .ref q_3, .ref q_5, .null, .null, .int 0, .int 0])), (q_1, .inl (cA_2, 400, .inl (fun _ => 0))), (q_3, .inl (cA_4, 400, .inl (fun _ => 0))), (q_5, .inl (cA_6, 400, .inl (fun _ => 0)))] := hD
  refine lv_aload_n hx hb dX3_init_31 rfl (lv_at hl 0 rfl) ?_
  refine lv_sipush (v := 400) hx hb dX3_init_32 (by decide) ?_
  refine va_newa (atype := .int) (a0 := (400, .inl (fun _ => 0))) (ty := .int) (N' := 400) hx hb (hts (.arrayClass .int) (by decide +kernel)) rfl hK hP hD hS hA (jnew_int 400) (by decide) (by decide) (jnb_int (by decide)) (by decide) (by decide) dX3_init_35 (fun q_7 cA_8 H hK hP hD hS => ?_)
  have hP : va_P (dC, dI) vwCl [(hRows, .inr (3, [.ref q_1, .ref q_3, .ref q_5, .null, .null, .int 0, .int 0])), (q_1, .inl (cA_2, 400, .inl (fun _ => 0))), (q_3, .inl (cA_4, 400, .inl (fun _ => 0))), (q_5, .inl (cA_6, 400, .inl (fun _ => 0))), (q_7, .inl (cA_8, 400, .inl (fun _ => 0)))] H := hP
  have hD : va_D A [(hRows, .inr (3, [.ref q_1, .ref q_3, .ref q_5, .null, .null, .int 0, .int 0])), (q_1, .inl (cA_2, 400, .inl (fun _ => 0))), (q_3, .inl (cA_4, 400, .inl (fun _ => 0))), (q_5, .inl (cA_6, 400, .inl (fun _ => 0))), (q_7, .inl (cA_8, 400, .inl (fun _ => 0)))] := hD
  have hK : va_K (dC, dI) vwCl [(cA_2, .int), (cA_4, .int), (cA_6, .int), (cA_8, .int)] s := hK
  refine W.widen (k := 4) (n := 1600) (Nat.le_of_ble_eq_true rfl) (Nat.le_of_ble_eq_true rfl) ?_
  refine va_putF (D := (dC, dI)) (ci := 3) (v := .ref q_7) (ty := (.array .int)) (C := RX3) (T := TX3) (N := 7) hx hb hts hIX3 tyX3 tyX3_ok nmX3 hown hK hP hD hS 0 rfl rfl 3 (by decide) (hts (.fieldLink RX3 21 "TraitHouse$Rows" "knowns" "[I") (by decide +kernel)) (fun _ h9 => h9) rfl hin rfl (by decide +kernel) rfl rfl (Nat.le_of_ble_eq_true rfl) dX3_init_37 (fun H locs hP hD hS => ?_)
  have hP : va_P (dC, dI) vwCl [(hRows, .inr (3, [.ref q_1, .ref q_3, .ref q_5, .ref q_7, .null, .int 0, .int 0])), (q_1, .inl (cA_2, 400, .inl (fun _ => 0))), (q_3, .inl (cA_4, 400, .inl (fun _ => 0))), (q_5, .inl (cA_6, 400, .inl (fun _ => 0))), (q_7, .inl (cA_8, 400, .inl (fun _ => 0)))] H := hP
  have hD : va_D A [(hRows, .inr (3, [.ref q_1, .ref q_3, .ref q_5, .ref q_7, .null, .int 0, .int 0])), (q_1, .inl (cA_2, 400, .inl (fun _ => 0))), (q_3, .inl (cA_4, 400, .inl (fun _ => 0))), (q_5, .inl (cA_6, 400, .inl (fun _ => 0))), (q_7, .inl (cA_8, 400, .inl (fun _ => 0)))] := hD
  refine lv_aload_n hx hb dX3_init_40 rfl (lv_at hl 0 rfl) ?_
  refine lv_sipush (v := 400) hx hb dX3_init_41 (by decide) ?_
  refine va_newa (atype := .int) (a0 := (400, .inl (fun _ => 0))) (ty := .int) (N' := 400) hx hb (hts (.arrayClass .int) (by decide +kernel)) rfl hK hP hD hS hA (jnew_int 400) (by decide) (by decide) (jnb_int (by decide)) (by decide) (by decide) dX3_init_44 (fun q_9 cA_10 H hK hP hD hS => ?_)
  have hP : va_P (dC, dI) vwCl [(hRows, .inr (3, [.ref q_1, .ref q_3, .ref q_5, .ref q_7, .null, .int 0, .int 0])), (q_1, .inl (cA_2, 400, .inl (fun _ => 0))), (q_3, .inl (cA_4, 400, .inl (fun _ => 0))), (q_5, .inl (cA_6, 400, .inl (fun _ => 0))), (q_7, .inl (cA_8, 400, .inl (fun _ => 0))), (q_9, .inl (cA_10, 400, .inl (fun _ => 0)))] H := hP
  have hD : va_D A [(hRows, .inr (3, [.ref q_1, .ref q_3, .ref q_5, .ref q_7, .null, .int 0, .int 0])), (q_1, .inl (cA_2, 400, .inl (fun _ => 0))), (q_3, .inl (cA_4, 400, .inl (fun _ => 0))), (q_5, .inl (cA_6, 400, .inl (fun _ => 0))), (q_7, .inl (cA_8, 400, .inl (fun _ => 0))), (q_9, .inl (cA_10, 400, .inl (fun _ => 0)))] := hD
  have hK : va_K (dC, dI) vwCl [(cA_2, .int), (cA_4, .int), (cA_6, .int), (cA_8, .int), (cA_10, .int)] s := hK
  refine W.widen (k := 5) (n := 2000) (Nat.le_of_ble_eq_true rfl) (Nat.le_of_ble_eq_true rfl) ?_
  refine va_putF (D := (dC, dI)) (ci := 3) (v := .ref q_9) (ty := (.array .int)) (C := RX3) (T := TX3) (N := 7) hx hb hts hIX3 tyX3 tyX3_ok nmX3 hown hK hP hD hS 0 rfl rfl 4 (by decide) (hts (.fieldLink RX3 24 "TraitHouse$Rows" "values" "[I") (by decide +kernel)) (fun _ h9 => h9) rfl hin rfl (by decide +kernel) rfl rfl (Nat.le_of_ble_eq_true rfl) dX3_init_46 (fun H locs hP hD hS => ?_)
  have hP : va_P (dC, dI) vwCl [(hRows, .inr (3, [.ref q_1, .ref q_3, .ref q_5, .ref q_7, .ref q_9, .int 0, .int 0])), (q_1, .inl (cA_2, 400, .inl (fun _ => 0))), (q_3, .inl (cA_4, 400, .inl (fun _ => 0))), (q_5, .inl (cA_6, 400, .inl (fun _ => 0))), (q_7, .inl (cA_8, 400, .inl (fun _ => 0))), (q_9, .inl (cA_10, 400, .inl (fun _ => 0)))] H := hP
  have hD : va_D A [(hRows, .inr (3, [.ref q_1, .ref q_3, .ref q_5, .ref q_7, .ref q_9, .int 0, .int 0])), (q_1, .inl (cA_2, 400, .inl (fun _ => 0))), (q_3, .inl (cA_4, 400, .inl (fun _ => 0))), (q_5, .inl (cA_6, 400, .inl (fun _ => 0))), (q_7, .inl (cA_8, 400, .inl (fun _ => 0))), (q_9, .inl (cA_10, 400, .inl (fun _ => 0)))] := hD
  have hP9 := hP.sub (ws' := [(hRows, .inr (3, [.ref q_1, .ref q_3, .ref q_5, .ref q_7, .ref q_9, .int 0, .int 0])), (q_1, .inl (cA_2, 400, .inl (fun _ => 0))), (q_3, .inl (cA_4, 400, .inl (fun _ => 0))), (q_5, .inl (cA_6, 400, .inl (fun _ => 0))), (q_7, .inl (cA_8, 400, .inl (fun _ => 0))), (q_9, .inl (cA_10, 400, .inl (fun _ => 0)))]) [0, 1, 2, 3, 4, 5] rfl
  have hD9 := hD.sub (ws' := [(hRows, .inr (3, [.ref q_1, .ref q_3, .ref q_5, .ref q_7, .ref q_9, .int 0, .int 0])), (q_1, .inl (cA_2, 400, .inl (fun _ => 0))), (q_3, .inl (cA_4, 400, .inl (fun _ => 0))), (q_5, .inl (cA_6, 400, .inl (fun _ => 0))), (q_7, .inl (cA_8, 400, .inl (fun _ => 0))), (q_9, .inl (cA_10, 400, .inl (fun _ => 0)))]) [0, 1, 2, 3, 4, 5] (by decide) rfl
  have hK9 := hK.sub (tys' := [(cA_2, .int), (cA_4, .int), (cA_6, .int), (cA_8, .int), (cA_10, .int)]) [0, 1, 2, 3, 4] rfl
  refine W.widen (k := 5) (n := 2000) (Nat.le_of_ble_eq_true rfl) (Nat.le_of_ble_eq_true rfl) ?_
  exact W.vret hx hb hr (fun t ht hW => ⟨⟨(), rfl, trivial, q_1, cA_2, q_3, cA_4, q_5, cA_6, q_7, cA_8, q_9, cA_10, by rw [ht]; exact hP9, va_K.moved hW.alike hK9, hD9⟩, hS.F ht⟩) hS.2.2 dX3_init_49

set_option maxHeartbeats 4000000 in
set_option maxRecDepth 100000 in
theorem c_X0_init (l : Launch) (dC : Nat → ClassId) (dI : Nat → Nat → Nat) (sz : Nat) (hMer : Nat)  : Met l yX0_init wsX0_init ({ frames := 1, cells := 2, slots := 40, locals := 23 }) (va_Pc [.ref hMer] (fun U => U.heap.size = sz ∧ va_P (dC, dI) vwCl [(hMer, .inr (0, [.null, .null, .int 0]))] U.heap ∧ va_K (dC, dI) vwCl [] U ∧ va_D (fun _ => True) [(hMer, .inr (0, [.null, .null, .int 0]))] ∧ nw_ok U)) (va_Qv (fun (u : (Nat → Int32)) => ∀ k : Nat, k < 20 → u k = (-1)) (fun (u : (Nat → Int32)) (t : State) => ∃ (aT : Nat) (cT : ClassId) (aN : Nat) (cN : ClassId), va_P (dC, dI) vwCl [(hMer, .inr (0, [.ref aT, .ref aN, .int 0])), (aT, .inl (cT, 20, .inl u)), (aN, .inl (cN, 20, .inl (fun _ => 0)))] t.heap ∧ va_K (dC, dI) vwCl [(cT, .int), (cN, .int)] t ∧ va_D (va_A [(hMer, .inr (0, [.null, .null, .int 0]))] sz) [(hMer, .inr (0, [.ref aT, .ref aN, .int 0])), (aT, .inl (cT, 20, .inl u)), (aN, .inl (cN, 20, .inl (fun _ => 0)))]) (va_A [(hMer, .inr (0, [.null, .null, .int 0]))] sz)) 2 40 (va_A [(hMer, .inr (0, [.null, .null, .int 0]))] sz) := by
  refine Met.ofW (cc := cX0_init) (maxL := 1) (ret := none) (by decide) rfl ?_
  intro p e s m args below meth c s₁ B hml hv
  obtain ⟨rfl, hsz, hP, hK, hD0, hN⟩ := hv
  have hx := B.exec
  have hb := B.bytes
  have hr := B.returns
  have hts := atoms_spec (ws := wsX0_init) B.pre
  have hown : s.vm.findClass RX0 = some m.cls := findClass_of_methodNamed B.named
  have hlocks := B.notSynchronized
  have hin : meth.name = "<init>" := (name_of_methodNamed B.named B.method).1
  subst hsz
  have hD := hD0.self (sz := s.heap.size)
  generalize hAe : va_A [(hMer, .inr (0, [.null, .null, .int 0]))] s.heap.size = A at hD ⊢
  have hA : ∀ q : Nat, s.heap.size ≤ q → A q := fun q h => by rw [← hAe]; exact Or.inr h
  have hS : va_S A s.heap s.heap [] := va_S.rf
  have hP : va_P (dC, dI) vwCl [(hMer, .inr (0, [.null, .null, .int 0]))] s.heap := hP
  have hIX0 : ∀ w ∈ u_ws RX0 TX0 3, w ∈ wsX0_init := by decide +kernel
  have hl := lv_entry ([.ref hMer]) (n := 1) (Nat.le_of_ble_eq_true rfl)
  rw [lg_entry_eq]
  generalize (lg_sl ([.ref hMer]) ++ List.replicate (1 - (lg_sl ([.ref hMer])).length) Slot.unset).toArray = ls at hl ⊢
  have hl : lv_has ls 1 [(0, .ref hMer)] := hl
  refine lv_aload_n hx hb dX0_init_0 rfl (lv_at hl 0 rfl) ?_
  refine W.objInit hx hb hown (hts (.methodLink RX0 3 objectInit) (by decide +kernel)) (hts (.instanceMethod objectInit) (by decide +kernel)) (hts (.code objectInit ⟨#[0xb1]⟩ 1 none) (by decide +kernel)) rfl (by rw [hml]; exact hl.1) rfl dX0_init_1 (Nat.le_of_ble_eq_true rfl) (Nat.le_of_ble_eq_true rfl) ?_
  refine W.eq (g2 := F0 m 4 ls []) rfl ?_
  refine lv_aload_n hx hb dX0_init_4 rfl (lv_at hl 0 rfl) ?_
  refine lv_bipush (v := 20) hx hb dX0_init_5 (by decide) ?_
  refine va_newa (atype := .int) (a0 := (20, .inl (fun _ => 0))) (ty := .int) (N' := 20) hx hb (hts (.arrayClass .int) (by decide +kernel)) rfl hK hP hD hS hA (jnew_int 20) (by decide) (by decide) (jnb_int (by decide)) (by decide) (by decide) dX0_init_7 (fun q_1 cA_2 H hK hP hD hS => ?_)
  have hP : va_P (dC, dI) vwCl [(hMer, .inr (0, [.null, .null, .int 0])), (q_1, .inl (cA_2, 20, .inl (fun _ => 0)))] H := hP
  have hD : va_D A [(hMer, .inr (0, [.null, .null, .int 0])), (q_1, .inl (cA_2, 20, .inl (fun _ => 0)))] := hD
  have hK : va_K (dC, dI) vwCl [(cA_2, .int)] s := hK
  refine W.widen (k := 1) (n := 20) (Nat.le_of_ble_eq_true rfl) (Nat.le_of_ble_eq_true rfl) ?_
  refine va_putF (D := (dC, dI)) (ci := 0) (v := .ref q_1) (ty := (.array .int)) (C := RX0) (T := TX0) (N := 3) hx hb hts hIX0 tyX0 tyX0_ok nmX0 hown hK hP hD hS 0 rfl rfl 0 (by decide) (hts (.fieldLink RX0 9 "TraitHouse$Merges" "targets" "[I") (by decide +kernel)) (fun _ h9 => h9) rfl hin rfl (by decide +kernel) rfl rfl (Nat.le_of_ble_eq_true rfl) dX0_init_9 (fun H locs hP hD hS => ?_)
  have hP : va_P (dC, dI) vwCl [(hMer, .inr (0, [.ref q_1, .null, .int 0])), (q_1, .inl (cA_2, 20, .inl (fun _ => 0)))] H := hP
  have hD : va_D A [(hMer, .inr (0, [.ref q_1, .null, .int 0])), (q_1, .inl (cA_2, 20, .inl (fun _ => 0)))] := hD
  refine lv_aload_n hx hb dX0_init_12 rfl (lv_at hl 0 rfl) ?_
  refine lv_bipush (v := 20) hx hb dX0_init_13 (by decide) ?_
  refine va_newa (atype := .int) (a0 := (20, .inl (fun _ => 0))) (ty := .int) (N' := 20) hx hb (hts (.arrayClass .int) (by decide +kernel)) rfl hK hP hD hS hA (jnew_int 20) (by decide) (by decide) (jnb_int (by decide)) (by decide) (by decide) dX0_init_15 (fun q_3 cA_4 H hK hP hD hS => ?_)
  have hP : va_P (dC, dI) vwCl [(hMer, .inr (0, [.ref q_1, .null, .int 0])), (q_1, .inl (cA_2, 20, .inl (fun _ => 0))), (q_3, .inl (cA_4, 20, .inl (fun _ => 0)))] H := hP
  have hD : va_D A [(hMer, .inr (0, [.ref q_1, .null, .int 0])), (q_1, .inl (cA_2, 20, .inl (fun _ => 0))), (q_3, .inl (cA_4, 20, .inl (fun _ => 0)))] := hD
  have hK : va_K (dC, dI) vwCl [(cA_2, .int), (cA_4, .int)] s := hK
  refine W.widen (k := 2) (n := 40) (Nat.le_of_ble_eq_true rfl) (Nat.le_of_ble_eq_true rfl) ?_
  refine va_putF (D := (dC, dI)) (ci := 0) (v := .ref q_3) (ty := (.array .int)) (C := RX0) (T := TX0) (N := 3) hx hb hts hIX0 tyX0 tyX0_ok nmX0 hown hK hP hD hS 0 rfl rfl 1 (by decide) (hts (.fieldLink RX0 15 "TraitHouse$Merges" "knowns" "[I") (by decide +kernel)) (fun _ h9 => h9) rfl hin rfl (by decide +kernel) rfl rfl (Nat.le_of_ble_eq_true rfl) dX0_init_17 (fun H locs hP hD hS => ?_)
  have hP : va_P (dC, dI) vwCl [(hMer, .inr (0, [.ref q_1, .ref q_3, .int 0])), (q_1, .inl (cA_2, 20, .inl (fun _ => 0))), (q_3, .inl (cA_4, 20, .inl (fun _ => 0)))] H := hP
  have hD : va_D A [(hMer, .inr (0, [.ref q_1, .ref q_3, .int 0])), (q_1, .inl (cA_2, 20, .inl (fun _ => 0))), (q_3, .inl (cA_4, 20, .inl (fun _ => 0)))] := hD
  refine lv_aload_n hx hb dX0_init_20 rfl (lv_at hl 0 rfl) ?_
  refine va_get (D := (dC, dI)) (ci := 0) (v := .ref q_1) (C := RX0) (T := TX0) (N := 3) hx hb hts hIX0 hown hK hP 0 rfl rfl 0 (by decide) (hts (.fieldLink RX0 9 "TraitHouse$Merges" "targets" "[I") (by decide +kernel)) (fun _ h9 => h9) rfl dX0_init_21 ?_
  refine lv_iconst (v := (-1)) hx hb dX0_init_24 (by decide) ?_
  have hk_5 : ((-1) : Int32).toInt = (-1) := by decide
  have hPc := hP.sub (ws' := [(q_1, .inl (cA_2, 20, .inl (fun _ => 0)))]) [1] rfl
  have hDc := hD.sub (ws' := [(q_1, .inl (cA_2, 20, .inl (fun _ => 0)))]) [1] (by decide) rfl
  have hKc := hK.sub (tys' := [(cA_2, .int)]) [0] rfl
  have hFc := va_free (wc := [(q_1, .inl (cA_2, 20, .inl (fun _ => 0)))]) hD hS hA [1] rfl
  refine va_callv (va_runS (As := [.ref q_1, .int (-1)]) (rest := []) ⟨hx, hb, hml, hown, hts⟩ (c_J7_fill_53178 l dC dI H.size q_1 cA_2 (fun _ => 0) (-1) ) (va_cwS 2 hts gX0_init_J7_fill_53178 rfl rfl rfl (by decide +kernel) ⟨Nat.le_of_ble_eq_true rfl, Nat.le_of_ble_eq_true rfl⟩) ⟨fun a U g mk q => by obtain ⟨q0, q1, qP, qK, qD, qN⟩ := q; exact ⟨q0, q1, qP, va_K.moved (u := U) (U := U.calling g mk a) (Vm.Alike.refl U.vm) qK, qD, qN.same rfl⟩, fun U hU hW => ⟨rfl, by rw [hU], by rw [hU]; exact hPc, va_K.moved hW.alike hKc, hDc.weaken (fun _ _ _ _ => trivial), hN.warm hW⟩⟩ rfl rfl hl.1 rfl (lv_room (Nat.le_of_ble_eq_true rfl)) dX0_init_25 ⟨Nat.le_of_ble_eq_true rfl, Nat.le_of_ble_eq_true rfl⟩) hS (fun q _ h => hFc q h) hFc (fun u_6 t H1 locs ht hvm hw_7 hB hz1 hk1 hS => ?_)
  obtain ⟨w_8, rfl⟩ : ∃ z, z = u_6 := ⟨_, rfl⟩
  try dsimp only at hw_7
  obtain ⟨hP1, hK1, hD1⟩ := hB
  rw [ht] at hP1
  have hK1 := va_K.moved hvm.symm hK1
  obtain ⟨hP, hD⟩ := va_join (wr := [(hMer, .inr (0, [.ref q_1, .ref q_3, .int 0])), (q_3, .inl (cA_4, 20, .inl (fun _ => 0)))]) (w1 := [(q_1, .inl (cA_2, 20, .inl w_8))]) hP hD [1] [0, 2] rfl rfl (by decide) (by decide) hk1 hFc hP1 hD1
  have hK := (hK.sub (tys' := [(cA_2, .int), (cA_4, .int)]) [0, 1] rfl).app hK1
  generalize H1 = H at hP hS ⊢
  have hP : va_P (dC, dI) vwCl [(hMer, .inr (0, [.ref q_1, .ref q_3, .int 0])), (q_3, .inl (cA_4, 20, .inl (fun _ => 0))), (q_1, .inl (cA_2, 20, .inl w_8))] H := hP
  have hD : va_D A [(hMer, .inr (0, [.ref q_1, .ref q_3, .int 0])), (q_3, .inl (cA_4, 20, .inl (fun _ => 0))), (q_1, .inl (cA_2, 20, .inl w_8))] := hD
  have hK : va_K (dC, dI) vwCl [(cA_2, .int), (cA_4, .int), (cA_2, .int)] s := hK
  have hP9 := hP.sub (ws' := [(hMer, .inr (0, [.ref q_1, .ref q_3, .int 0])), (q_1, .inl (cA_2, 20, .inl w_8)), (q_3, .inl (cA_4, 20, .inl (fun _ => 0)))]) [0, 2, 1] rfl
  have hD9 := hD.sub (ws' := [(hMer, .inr (0, [.ref q_1, .ref q_3, .int 0])), (q_1, .inl (cA_2, 20, .inl w_8)), (q_3, .inl (cA_4, 20, .inl (fun _ => 0)))]) [0, 2, 1] (by decide) rfl
  have hK9 := hK.sub (tys' := [(cA_2, .int), (cA_4, .int)]) [0, 1] rfl
  refine W.widen (k := 2) (n := 40) (Nat.le_of_ble_eq_true rfl) (Nat.le_of_ble_eq_true rfl) ?_
  exact W.vret hx hb hr (fun t ht hW => ⟨⟨w_8, rfl, by assumption, q_1, cA_2, q_3, cA_4, by rw [ht]; exact hP9, va_K.moved hW.alike hK9, hD9⟩, hS.F ht⟩) hS.2.2 dX0_init_28

set_option maxHeartbeats 4000000 in
set_option maxRecDepth 100000 in
theorem c_X2_init (l : Launch) (dC : Nat → ClassId) (dI : Nat → Nat → Nat) (sz : Nat) (hRea : Nat) (hTape : Nat)  : Met l yX2_init wsX2_init ({ frames := 1, cells := 1, slots := 200, locals := 20 }) (va_Pc [.ref hRea, .ref hTape] (fun U => U.heap.size = sz ∧ va_P (dC, dI) vwCl [(hRea, .inr (2, [.null, .null, .int 0, .int 0, .int 0, .int 0, .int 0, .int 0, .int 0]))] U.heap ∧ va_K (dC, dI) vwCl [] U ∧ va_D (fun _ => True) [(hRea, .inr (2, [.null, .null, .int 0, .int 0, .int 0, .int 0, .int 0, .int 0, .int 0]))] ∧ nw_ok U)) (va_Qv (fun (_ : Unit) => True) (fun (_ : Unit) (t : State) => ∃ (aSt : Nat) (cSt : ClassId), va_P (dC, dI) vwCl [(hRea, .inr (2, [.ref hTape, .ref aSt, .int 0, .int 0, .int 0, .int 0, .int 0, .int 0, .int 0])), (aSt, .inl (cSt, 200, .inr (.inr (.inr (.inr (fun _ => none))))))] t.heap ∧ va_K (dC, dI) vwCl [(cSt, .object RX4)] t ∧ va_D (va_A [(hRea, .inr (2, [.null, .null, .int 0, .int 0, .int 0, .int 0, .int 0, .int 0, .int 0]))] sz) [(hRea, .inr (2, [.ref hTape, .ref aSt, .int 0, .int 0, .int 0, .int 0, .int 0, .int 0, .int 0])), (aSt, .inl (cSt, 200, .inr (.inr (.inr (.inr (fun _ => none))))))]) (va_A [(hRea, .inr (2, [.null, .null, .int 0, .int 0, .int 0, .int 0, .int 0, .int 0, .int 0]))] sz)) 1 200 (va_A [(hRea, .inr (2, [.null, .null, .int 0, .int 0, .int 0, .int 0, .int 0, .int 0, .int 0]))] sz) := by
  refine Met.ofW (cc := cX2_init) (maxL := 2) (ret := none) (by decide) rfl ?_
  intro p e s m args below meth c s₁ B hml hv
  obtain ⟨rfl, hsz, hP, hK, hD0, hN⟩ := hv
  have hx := B.exec
  have hb := B.bytes
  have hr := B.returns
  have hts := atoms_spec (ws := wsX2_init) B.pre
  have hown : s.vm.findClass RX2 = some m.cls := findClass_of_methodNamed B.named
  have hlocks := B.notSynchronized
  have hin : meth.name = "<init>" := (name_of_methodNamed B.named B.method).1
  subst hsz
  have hD := hD0.self (sz := s.heap.size)
  generalize hAe : va_A [(hRea, .inr (2, [.null, .null, .int 0, .int 0, .int 0, .int 0, .int 0, .int 0, .int 0]))] s.heap.size = A at hD ⊢
  have hA : ∀ q : Nat, s.heap.size ≤ q → A q := fun q h => by rw [← hAe]; exact Or.inr h
  have hS : va_S A s.heap s.heap [] := va_S.rf
  have hP : va_P (dC, dI) vwCl [(hRea, .inr (2, [.null, .null, .int 0, .int 0, .int 0, .int 0, .int 0, .int 0, .int 0]))] s.heap := hP
  have hIX2 : ∀ w ∈ u_ws RX2 TX2 9, w ∈ wsX2_init := by decide +kernel
  have hl := lv_entry ([.ref hRea, .ref hTape]) (n := 2) (Nat.le_of_ble_eq_true rfl)
  rw [lg_entry_eq]
  generalize (lg_sl ([.ref hRea, .ref hTape]) ++ List.replicate (2 - (lg_sl ([.ref hRea, .ref hTape])).length) Slot.unset).toArray = ls at hl ⊢
  have hl : lv_has ls 2 [(0, .ref hRea), (1, .ref hTape)] := hl
  refine lv_aload_n hx hb dX2_init_0 rfl (lv_at hl 0 rfl) ?_
  refine W.objInit hx hb hown (hts (.methodLink RX2 3 objectInit) (by decide +kernel)) (hts (.instanceMethod objectInit) (by decide +kernel)) (hts (.code objectInit ⟨#[0xb1]⟩ 1 none) (by decide +kernel)) rfl (by rw [hml]; exact hl.1) rfl dX2_init_1 (Nat.le_of_ble_eq_true rfl) (Nat.le_of_ble_eq_true rfl) ?_
  refine W.eq (g2 := F0 m 4 ls []) rfl ?_
  refine lv_aload_n hx hb dX2_init_4 rfl (lv_at hl 0 rfl) ?_
  refine lv_sipush (v := 200) hx hb dX2_init_5 (by decide) ?_
  refine va_newq (N' := 200) hx hb hown (hts (.classLink RX2 9 RX4) (by decide +kernel)) hN.2.1 hK hP hD hS hA (by decide) (by decide) (by decide) (Nat.le_of_ble_eq_true rfl) (Nat.le_of_ble_eq_true rfl) dX2_init_8 (fun q_1 cA_2 H hK hP hD hS => ?_)
  have hP : va_P (dC, dI) vwCl [(hRea, .inr (2, [.null, .null, .int 0, .int 0, .int 0, .int 0, .int 0, .int 0, .int 0])), (q_1, .inl (cA_2, 200, .inr (.inr (.inr (.inr (fun _ => none))))))] H := hP
  have hD : va_D A [(hRea, .inr (2, [.null, .null, .int 0, .int 0, .int 0, .int 0, .int 0, .int 0, .int 0])), (q_1, .inl (cA_2, 200, .inr (.inr (.inr (.inr (fun _ => none))))))] := hD
  have hK : va_K (dC, dI) vwCl [(cA_2, .object RX4)] s := hK
  refine W.widen (k := 1) (n := 200) (Nat.le_of_ble_eq_true rfl) (Nat.le_of_ble_eq_true rfl) ?_
  refine va_putF (D := (dC, dI)) (ci := 2) (v := .ref q_1) (ty := (.array (.object "TraitHouse$Step"))) (C := RX2) (T := TX2) (N := 9) hx hb hts hIX2 tyX2 tyX2_ok nmX2 hown hK hP hD hS 0 rfl rfl 1 (by decide) (hts (.fieldLink RX2 11 "TraitHouse$Reader" "steps" "[LTraitHouse$Step;") (by decide +kernel)) (fun _ h9 => h9) rfl hin rfl (by decide +kernel) rfl rfl (Nat.le_of_ble_eq_true rfl) dX2_init_11 (fun H locs hP hD hS => ?_)
  have hP : va_P (dC, dI) vwCl [(hRea, .inr (2, [.null, .ref q_1, .int 0, .int 0, .int 0, .int 0, .int 0, .int 0, .int 0])), (q_1, .inl (cA_2, 200, .inr (.inr (.inr (.inr (fun _ => none))))))] H := hP
  have hD : va_D A [(hRea, .inr (2, [.null, .ref q_1, .int 0, .int 0, .int 0, .int 0, .int 0, .int 0, .int 0])), (q_1, .inl (cA_2, 200, .inr (.inr (.inr (.inr (fun _ => none))))))] := hD
  refine lv_aload_n hx hb dX2_init_14 rfl (lv_at hl 0 rfl) ?_
  refine lv_aload_n hx hb dX2_init_15 rfl (lv_at hl 1 rfl) ?_
  refine va_putF (D := (dC, dI)) (ci := 2) (v := .ref hTape) (ty := (.object "TraitHouse$Tape")) (C := RX2) (T := TX2) (N := 9) hx hb hts hIX2 tyX2 tyX2_ok nmX2 hown hK hP hD hS 0 rfl rfl 0 (by decide) (hts (.fieldLink RX2 17 "TraitHouse$Reader" "tape" "LTraitHouse$Tape;") (by decide +kernel)) (fun _ h9 => h9) rfl hin rfl (by decide +kernel) rfl rfl (Nat.le_of_ble_eq_true rfl) dX2_init_16 (fun H locs hP hD hS => ?_)
  have hP : va_P (dC, dI) vwCl [(hRea, .inr (2, [.ref hTape, .ref q_1, .int 0, .int 0, .int 0, .int 0, .int 0, .int 0, .int 0])), (q_1, .inl (cA_2, 200, .inr (.inr (.inr (.inr (fun _ => none))))))] H := hP
  have hD : va_D A [(hRea, .inr (2, [.ref hTape, .ref q_1, .int 0, .int 0, .int 0, .int 0, .int 0, .int 0, .int 0])), (q_1, .inl (cA_2, 200, .inr (.inr (.inr (.inr (fun _ => none))))))] := hD
  have hP9 := hP.sub (ws' := [(hRea, .inr (2, [.ref hTape, .ref q_1, .int 0, .int 0, .int 0, .int 0, .int 0, .int 0, .int 0])), (q_1, .inl (cA_2, 200, .inr (.inr (.inr (.inr (fun _ => none))))))]) [0, 1] rfl
  have hD9 := hD.sub (ws' := [(hRea, .inr (2, [.ref hTape, .ref q_1, .int 0, .int 0, .int 0, .int 0, .int 0, .int 0, .int 0])), (q_1, .inl (cA_2, 200, .inr (.inr (.inr (.inr (fun _ => none))))))]) [0, 1] (by decide) rfl
  have hK9 := hK.sub (tys' := [(cA_2, .object RX4)]) [0] rfl
  refine W.widen (k := 1) (n := 200) (Nat.le_of_ble_eq_true rfl) (Nat.le_of_ble_eq_true rfl) ?_
  exact W.vret hx hb hr (fun t ht hW => ⟨⟨(), rfl, trivial, q_1, cA_2, by rw [ht]; exact hP9, va_K.moved hW.alike hK9, hD9⟩, hS.F ht⟩) hS.2.2 dX2_init_19

set_option maxHeartbeats 4000000 in
set_option maxRecDepth 100000 in
theorem c_X7_init (l : Launch) (dC : Nat → ClassId) (dI : Nat → Nat → Nat) (sz : Nat) (hWor : Nat) (hRows : Nat) (hMer : Nat) (hTra : Nat)  : Met l yX7_init wsX7_init ({ frames := 1, cells := 4, slots := 640, locals := 20 }) (va_Pc [.ref hWor, .ref hRows, .ref hMer, .ref hTra] (fun U => U.heap.size = sz ∧ va_P (dC, dI) vwCl [(hWor, .inr (7, [.null, .null, .null, .null, .null, .null, .null, .int 0, .int 0, .int 0]))] U.heap ∧ va_K (dC, dI) vwCl [] U ∧ va_D (fun _ => True) [(hWor, .inr (7, [.null, .null, .null, .null, .null, .null, .null, .int 0, .int 0, .int 0]))] ∧ nw_ok U)) (va_Qv (fun (_ : Unit) => True) (fun (_ : Unit) (t : State) => ∃ (aOn : Nat) (cOn : ClassId) (aSe : Nat) (cSe : ClassId) (aSk : Nat) (cSk : ClassId) (aVs : Nat) (cVs : ClassId), va_P (dC, dI) vwCl [(hWor, .inr (7, [.ref hRows, .ref hMer, .ref hTra, .ref aOn, .ref aSe, .ref aSk, .ref aVs, .int 0, .int 0, .int 0])), (aOn, .inl (cOn, 20, .inl (fun _ => 0))), (aSe, .inl (cSe, 400, .inl (fun _ => 0))), (aSk, .inl (cSk, 200, .inr (.inl (fun _ => 0)))), (aVs, .inl (cVs, 20, .inr (.inl (fun _ => 0))))] t.heap ∧ va_K (dC, dI) vwCl [(cOn, .boolean), (cSe, .int), (cSk, .long), (cVs, .long)] t ∧ va_D (va_A [(hWor, .inr (7, [.null, .null, .null, .null, .null, .null, .null, .int 0, .int 0, .int 0]))] sz) [(hWor, .inr (7, [.ref hRows, .ref hMer, .ref hTra, .ref aOn, .ref aSe, .ref aSk, .ref aVs, .int 0, .int 0, .int 0])), (aOn, .inl (cOn, 20, .inl (fun _ => 0))), (aSe, .inl (cSe, 400, .inl (fun _ => 0))), (aSk, .inl (cSk, 200, .inr (.inl (fun _ => 0)))), (aVs, .inl (cVs, 20, .inr (.inl (fun _ => 0))))]) (va_A [(hWor, .inr (7, [.null, .null, .null, .null, .null, .null, .null, .int 0, .int 0, .int 0]))] sz)) 4 640 (va_A [(hWor, .inr (7, [.null, .null, .null, .null, .null, .null, .null, .int 0, .int 0, .int 0]))] sz) := by
  refine Met.ofW (cc := cX7_init) (maxL := 4) (ret := none) (by decide) rfl ?_
  intro p e s m args below meth c s₁ B hml hv
  obtain ⟨rfl, hsz, hP, hK, hD0, hN⟩ := hv
  have hx := B.exec
  have hb := B.bytes
  have hr := B.returns
  have hts := atoms_spec (ws := wsX7_init) B.pre
  have hown : s.vm.findClass RX7 = some m.cls := findClass_of_methodNamed B.named
  have hlocks := B.notSynchronized
  have hin : meth.name = "<init>" := (name_of_methodNamed B.named B.method).1
  subst hsz
  have hD := hD0.self (sz := s.heap.size)
  generalize hAe : va_A [(hWor, .inr (7, [.null, .null, .null, .null, .null, .null, .null, .int 0, .int 0, .int 0]))] s.heap.size = A at hD ⊢
  have hA : ∀ q : Nat, s.heap.size ≤ q → A q := fun q h => by rw [← hAe]; exact Or.inr h
  have hS : va_S A s.heap s.heap [] := va_S.rf
  have hP : va_P (dC, dI) vwCl [(hWor, .inr (7, [.null, .null, .null, .null, .null, .null, .null, .int 0, .int 0, .int 0]))] s.heap := hP
  have hIX7 : ∀ w ∈ u_ws RX7 TX7 10, w ∈ wsX7_init := by decide +kernel
  have hl := lv_entry ([.ref hWor, .ref hRows, .ref hMer, .ref hTra]) (n := 4) (Nat.le_of_ble_eq_true rfl)
  rw [lg_entry_eq]
  generalize (lg_sl ([.ref hWor, .ref hRows, .ref hMer, .ref hTra]) ++ List.replicate (4 - (lg_sl ([.ref hWor, .ref hRows, .ref hMer, .ref hTra])).length) Slot.unset).toArray = ls at hl ⊢
  have hl : lv_has ls 4 [(0, .ref hWor), (1, .ref hRows), (2, .ref hMer), (3, .ref hTra)] := hl
  refine lv_aload_n hx hb dX7_init_0 rfl (lv_at hl 0 rfl) ?_
  refine W.objInit hx hb hown (hts (.methodLink RX7 3 objectInit) (by decide +kernel)) (hts (.instanceMethod objectInit) (by decide +kernel)) (hts (.code objectInit ⟨#[0xb1]⟩ 1 none) (by decide +kernel)) rfl (by rw [hml]; exact hl.1) rfl dX7_init_1 (Nat.le_of_ble_eq_true rfl) (Nat.le_of_ble_eq_true rfl) ?_
  refine W.eq (g2 := F0 m 4 ls []) rfl ?_
  refine lv_aload_n hx hb dX7_init_4 rfl (lv_at hl 0 rfl) ?_
  refine lv_bipush (v := 20) hx hb dX7_init_5 (by decide) ?_
  refine va_newa (atype := .boolean) (a0 := (20, .inl (fun _ => 0))) (ty := .boolean) (N' := 20) hx hb (hts (.arrayClass .boolean) (by decide +kernel)) rfl hK hP hD hS hA (jnew_boolean 20) (by decide) (by decide) (jnb_boolean (by decide)) (by decide) (by decide) dX7_init_7 (fun q_1 cA_2 H hK hP hD hS => ?_)
  have hP : va_P (dC, dI) vwCl [(hWor, .inr (7, [.null, .null, .null, .null, .null, .null, .null, .int 0, .int 0, .int 0])), (q_1, .inl (cA_2, 20, .inl (fun _ => 0)))] H := hP
  have hD : va_D A [(hWor, .inr (7, [.null, .null, .null, .null, .null, .null, .null, .int 0, .int 0, .int 0])), (q_1, .inl (cA_2, 20, .inl (fun _ => 0)))] := hD
  have hK : va_K (dC, dI) vwCl [(cA_2, .boolean)] s := hK
  refine W.widen (k := 1) (n := 20) (Nat.le_of_ble_eq_true rfl) (Nat.le_of_ble_eq_true rfl) ?_
  refine va_putF (D := (dC, dI)) (ci := 7) (v := .ref q_1) (ty := (.array .boolean)) (C := RX7) (T := TX7) (N := 10) hx hb hts hIX7 tyX7 tyX7_ok nmX7 hown hK hP hD hS 0 rfl rfl 3 (by decide) (hts (.fieldLink RX7 9 "TraitHouse$Worker" "ones" "[Z") (by decide +kernel)) (fun _ h9 => h9) rfl hin rfl (by decide +kernel) rfl rfl (Nat.le_of_ble_eq_true rfl) dX7_init_9 (fun H locs hP hD hS => ?_)
  have hP : va_P (dC, dI) vwCl [(hWor, .inr (7, [.null, .null, .null, .ref q_1, .null, .null, .null, .int 0, .int 0, .int 0])), (q_1, .inl (cA_2, 20, .inl (fun _ => 0)))] H := hP
  have hD : va_D A [(hWor, .inr (7, [.null, .null, .null, .ref q_1, .null, .null, .null, .int 0, .int 0, .int 0])), (q_1, .inl (cA_2, 20, .inl (fun _ => 0)))] := hD
  refine lv_aload_n hx hb dX7_init_12 rfl (lv_at hl 0 rfl) ?_
  refine lv_sipush (v := 400) hx hb dX7_init_13 (by decide) ?_
  refine va_newa (atype := .int) (a0 := (400, .inl (fun _ => 0))) (ty := .int) (N' := 400) hx hb (hts (.arrayClass .int) (by decide +kernel)) rfl hK hP hD hS hA (jnew_int 400) (by decide) (by decide) (jnb_int (by decide)) (by decide) (by decide) dX7_init_16 (fun q_3 cA_4 H hK hP hD hS => ?_)
  have hP : va_P (dC, dI) vwCl [(hWor, .inr (7, [.null, .null, .null, .ref q_1, .null, .null, .null, .int 0, .int 0, .int 0])), (q_1, .inl (cA_2, 20, .inl (fun _ => 0))), (q_3, .inl (cA_4, 400, .inl (fun _ => 0)))] H := hP
  have hD : va_D A [(hWor, .inr (7, [.null, .null, .null, .ref q_1, .null, .null, .null, .int 0, .int 0, .int 0])), (q_1, .inl (cA_2, 20, .inl (fun _ => 0))), (q_3, .inl (cA_4, 400, .inl (fun _ => 0)))] := hD
  have hK : va_K (dC, dI) vwCl [(cA_2, .boolean), (cA_4, .int)] s := hK
  refine W.widen (k := 2) (n := 420) (Nat.le_of_ble_eq_true rfl) (Nat.le_of_ble_eq_true rfl) ?_
  refine va_putF (D := (dC, dI)) (ci := 7) (v := .ref q_3) (ty := (.array .int)) (C := RX7) (T := TX7) (N := 10) hx hb hts hIX7 tyX7 tyX7_ok nmX7 hown hK hP hD hS 0 rfl rfl 4 (by decide) (hts (.fieldLink RX7 15 "TraitHouse$Worker" "seen" "[I") (by decide +kernel)) (fun _ h9 => h9) rfl hin rfl (by decide +kernel) rfl rfl (Nat.le_of_ble_eq_true rfl) dX7_init_18 (fun H locs hP hD hS => ?_)
  have hP : va_P (dC, dI) vwCl [(hWor, .inr (7, [.null, .null, .null, .ref q_1, .ref q_3, .null, .null, .int 0, .int 0, .int 0])), (q_1, .inl (cA_2, 20, .inl (fun _ => 0))), (q_3, .inl (cA_4, 400, .inl (fun _ => 0)))] H := hP
  have hD : va_D A [(hWor, .inr (7, [.null, .null, .null, .ref q_1, .ref q_3, .null, .null, .int 0, .int 0, .int 0])), (q_1, .inl (cA_2, 20, .inl (fun _ => 0))), (q_3, .inl (cA_4, 400, .inl (fun _ => 0)))] := hD
  refine lv_aload_n hx hb dX7_init_21 rfl (lv_at hl 0 rfl) ?_
  refine lv_sipush (v := 200) hx hb dX7_init_22 (by decide) ?_
  refine va_newa (atype := .long) (a0 := (200, .inr (.inl (fun _ => 0)))) (ty := .long) (N' := 200) hx hb (hts (.arrayClass .long) (by decide +kernel)) rfl hK hP hD hS hA (jnew_long 200) (by decide) (by decide) (jnb_long (by decide)) (by decide) (by decide) dX7_init_25 (fun q_5 cA_6 H hK hP hD hS => ?_)
  have hP : va_P (dC, dI) vwCl [(hWor, .inr (7, [.null, .null, .null, .ref q_1, .ref q_3, .null, .null, .int 0, .int 0, .int 0])), (q_1, .inl (cA_2, 20, .inl (fun _ => 0))), (q_3, .inl (cA_4, 400, .inl (fun _ => 0))), (q_5, .inl (cA_6, 200, .inr (.inl (fun _ => 0))))] H := hP
  have hD : va_D A [(hWor, .inr (7, [.null, .null, .null, .ref q_1, .ref q_3, .null, .null, .int 0, .int 0, .int 0])), (q_1, .inl (cA_2, 20, .inl (fun _ => 0))), (q_3, .inl (cA_4, 400, .inl (fun _ => 0))), (q_5, .inl (cA_6, 200, .inr (.inl (fun _ => 0))))] := hD
  have hK : va_K (dC, dI) vwCl [(cA_2, .boolean), (cA_4, .int), (cA_6, .long)] s := hK
  refine W.widen (k := 3) (n := 620) (Nat.le_of_ble_eq_true rfl) (Nat.le_of_ble_eq_true rfl) ?_
  refine va_putF (D := (dC, dI)) (ci := 7) (v := .ref q_5) (ty := (.array .long)) (C := RX7) (T := TX7) (N := 10) hx hb hts hIX7 tyX7 tyX7_ok nmX7 hown hK hP hD hS 0 rfl rfl 5 (by decide) (hts (.fieldLink RX7 19 "TraitHouse$Worker" "stack" "[J") (by decide +kernel)) (fun _ h9 => h9) rfl hin rfl (by decide +kernel) rfl rfl (Nat.le_of_ble_eq_true rfl) dX7_init_27 (fun H locs hP hD hS => ?_)
  have hP : va_P (dC, dI) vwCl [(hWor, .inr (7, [.null, .null, .null, .ref q_1, .ref q_3, .ref q_5, .null, .int 0, .int 0, .int 0])), (q_1, .inl (cA_2, 20, .inl (fun _ => 0))), (q_3, .inl (cA_4, 400, .inl (fun _ => 0))), (q_5, .inl (cA_6, 200, .inr (.inl (fun _ => 0))))] H := hP
  have hD : va_D A [(hWor, .inr (7, [.null, .null, .null, .ref q_1, .ref q_3, .ref q_5, .null, .int 0, .int 0, .int 0])), (q_1, .inl (cA_2, 20, .inl (fun _ => 0))), (q_3, .inl (cA_4, 400, .inl (fun _ => 0))), (q_5, .inl (cA_6, 200, .inr (.inl (fun _ => 0))))] := hD
  refine lv_aload_n hx hb dX7_init_30 rfl (lv_at hl 0 rfl) ?_
  refine lv_bipush (v := 20) hx hb dX7_init_31 (by decide) ?_
  refine va_newa (atype := .long) (a0 := (20, .inr (.inl (fun _ => 0)))) (ty := .long) (N' := 20) hx hb (hts (.arrayClass .long) (by decide +kernel)) rfl hK hP hD hS hA (jnew_long 20) (by decide) (by decide) (jnb_long (by decide)) (by decide) (by decide) dX7_init_33 (fun q_7 cA_8 H hK hP hD hS => ?_)
  have hP : va_P (dC, dI) vwCl [(hWor, .inr (7, [.null, .null, .null, .ref q_1, .ref q_3, .ref q_5, .null, .int 0, .int 0, .int 0])), (q_1, .inl (cA_2, 20, .inl (fun _ => 0))), (q_3, .inl (cA_4, 400, .inl (fun _ => 0))), (q_5, .inl (cA_6, 200, .inr (.inl (fun _ => 0)))), (q_7, .inl (cA_8, 20, .inr (.inl (fun _ => 0))))] H := hP
  have hD : va_D A [(hWor, .inr (7, [.null, .null, .null, .ref q_1, .ref q_3, .ref q_5, .null, .int 0, .int 0, .int 0])), (q_1, .inl (cA_2, 20, .inl (fun _ => 0))), (q_3, .inl (cA_4, 400, .inl (fun _ => 0))), (q_5, .inl (cA_6, 200, .inr (.inl (fun _ => 0)))), (q_7, .inl (cA_8, 20, .inr (.inl (fun _ => 0))))] := hD
  have hK : va_K (dC, dI) vwCl [(cA_2, .boolean), (cA_4, .int), (cA_6, .long), (cA_8, .long)] s := hK
  refine W.widen (k := 4) (n := 640) (Nat.le_of_ble_eq_true rfl) (Nat.le_of_ble_eq_true rfl) ?_
  refine va_putF (D := (dC, dI)) (ci := 7) (v := .ref q_7) (ty := (.array .long)) (C := RX7) (T := TX7) (N := 10) hx hb hts hIX7 tyX7 tyX7_ok nmX7 hown hK hP hD hS 0 rfl rfl 6 (by decide) (hts (.fieldLink RX7 23 "TraitHouse$Worker" "values" "[J") (by decide +kernel)) (fun _ h9 => h9) rfl hin rfl (by decide +kernel) rfl rfl (Nat.le_of_ble_eq_true rfl) dX7_init_35 (fun H locs hP hD hS => ?_)
  have hP : va_P (dC, dI) vwCl [(hWor, .inr (7, [.null, .null, .null, .ref q_1, .ref q_3, .ref q_5, .ref q_7, .int 0, .int 0, .int 0])), (q_1, .inl (cA_2, 20, .inl (fun _ => 0))), (q_3, .inl (cA_4, 400, .inl (fun _ => 0))), (q_5, .inl (cA_6, 200, .inr (.inl (fun _ => 0)))), (q_7, .inl (cA_8, 20, .inr (.inl (fun _ => 0))))] H := hP
  have hD : va_D A [(hWor, .inr (7, [.null, .null, .null, .ref q_1, .ref q_3, .ref q_5, .ref q_7, .int 0, .int 0, .int 0])), (q_1, .inl (cA_2, 20, .inl (fun _ => 0))), (q_3, .inl (cA_4, 400, .inl (fun _ => 0))), (q_5, .inl (cA_6, 200, .inr (.inl (fun _ => 0)))), (q_7, .inl (cA_8, 20, .inr (.inl (fun _ => 0))))] := hD
  refine lv_aload_n hx hb dX7_init_38 rfl (lv_at hl 0 rfl) ?_
  refine lv_aload_n hx hb dX7_init_39 rfl (lv_at hl 1 rfl) ?_
  refine va_putF (D := (dC, dI)) (ci := 7) (v := .ref hRows) (ty := (.object "TraitHouse$Rows")) (C := RX7) (T := TX7) (N := 10) hx hb hts hIX7 tyX7 tyX7_ok nmX7 hown hK hP hD hS 0 rfl rfl 0 (by decide) (hts (.fieldLink RX7 26 "TraitHouse$Worker" "rows" "LTraitHouse$Rows;") (by decide +kernel)) (fun _ h9 => h9) rfl hin rfl (by decide +kernel) rfl rfl (Nat.le_of_ble_eq_true rfl) dX7_init_40 (fun H locs hP hD hS => ?_)
  have hP : va_P (dC, dI) vwCl [(hWor, .inr (7, [.ref hRows, .null, .null, .ref q_1, .ref q_3, .ref q_5, .ref q_7, .int 0, .int 0, .int 0])), (q_1, .inl (cA_2, 20, .inl (fun _ => 0))), (q_3, .inl (cA_4, 400, .inl (fun _ => 0))), (q_5, .inl (cA_6, 200, .inr (.inl (fun _ => 0)))), (q_7, .inl (cA_8, 20, .inr (.inl (fun _ => 0))))] H := hP
  have hD : va_D A [(hWor, .inr (7, [.ref hRows, .null, .null, .ref q_1, .ref q_3, .ref q_5, .ref q_7, .int 0, .int 0, .int 0])), (q_1, .inl (cA_2, 20, .inl (fun _ => 0))), (q_3, .inl (cA_4, 400, .inl (fun _ => 0))), (q_5, .inl (cA_6, 200, .inr (.inl (fun _ => 0)))), (q_7, .inl (cA_8, 20, .inr (.inl (fun _ => 0))))] := hD
  refine lv_aload_n hx hb dX7_init_43 rfl (lv_at hl 0 rfl) ?_
  refine lv_aload_n hx hb dX7_init_44 rfl (lv_at hl 2 rfl) ?_
  refine va_putF (D := (dC, dI)) (ci := 7) (v := .ref hMer) (ty := (.object "TraitHouse$Merges")) (C := RX7) (T := TX7) (N := 10) hx hb hts hIX7 tyX7 tyX7_ok nmX7 hown hK hP hD hS 0 rfl rfl 1 (by decide) (hts (.fieldLink RX7 30 "TraitHouse$Worker" "merges" "LTraitHouse$Merges;") (by decide +kernel)) (fun _ h9 => h9) rfl hin rfl (by decide +kernel) rfl rfl (Nat.le_of_ble_eq_true rfl) dX7_init_45 (fun H locs hP hD hS => ?_)
  have hP : va_P (dC, dI) vwCl [(hWor, .inr (7, [.ref hRows, .ref hMer, .null, .ref q_1, .ref q_3, .ref q_5, .ref q_7, .int 0, .int 0, .int 0])), (q_1, .inl (cA_2, 20, .inl (fun _ => 0))), (q_3, .inl (cA_4, 400, .inl (fun _ => 0))), (q_5, .inl (cA_6, 200, .inr (.inl (fun _ => 0)))), (q_7, .inl (cA_8, 20, .inr (.inl (fun _ => 0))))] H := hP
  have hD : va_D A [(hWor, .inr (7, [.ref hRows, .ref hMer, .null, .ref q_1, .ref q_3, .ref q_5, .ref q_7, .int 0, .int 0, .int 0])), (q_1, .inl (cA_2, 20, .inl (fun _ => 0))), (q_3, .inl (cA_4, 400, .inl (fun _ => 0))), (q_5, .inl (cA_6, 200, .inr (.inl (fun _ => 0)))), (q_7, .inl (cA_8, 20, .inr (.inl (fun _ => 0))))] := hD
  refine lv_aload_n hx hb dX7_init_48 rfl (lv_at hl 0 rfl) ?_
  refine lv_aload_n hx hb dX7_init_49 rfl (lv_at hl 3 rfl) ?_
  refine va_putF (D := (dC, dI)) (ci := 7) (v := .ref hTra) (ty := (.array (.object "TraitHouse$Trait"))) (C := RX7) (T := TX7) (N := 10) hx hb hts hIX7 tyX7 tyX7_ok nmX7 hown hK hP hD hS 0 rfl rfl 2 (by decide) (hts (.fieldLink RX7 34 "TraitHouse$Worker" "traits" "[LTraitHouse$Trait;") (by decide +kernel)) (fun _ h9 => h9) rfl hin rfl (by decide +kernel) rfl rfl (Nat.le_of_ble_eq_true rfl) dX7_init_50 (fun H locs hP hD hS => ?_)
  have hP : va_P (dC, dI) vwCl [(hWor, .inr (7, [.ref hRows, .ref hMer, .ref hTra, .ref q_1, .ref q_3, .ref q_5, .ref q_7, .int 0, .int 0, .int 0])), (q_1, .inl (cA_2, 20, .inl (fun _ => 0))), (q_3, .inl (cA_4, 400, .inl (fun _ => 0))), (q_5, .inl (cA_6, 200, .inr (.inl (fun _ => 0)))), (q_7, .inl (cA_8, 20, .inr (.inl (fun _ => 0))))] H := hP
  have hD : va_D A [(hWor, .inr (7, [.ref hRows, .ref hMer, .ref hTra, .ref q_1, .ref q_3, .ref q_5, .ref q_7, .int 0, .int 0, .int 0])), (q_1, .inl (cA_2, 20, .inl (fun _ => 0))), (q_3, .inl (cA_4, 400, .inl (fun _ => 0))), (q_5, .inl (cA_6, 200, .inr (.inl (fun _ => 0)))), (q_7, .inl (cA_8, 20, .inr (.inl (fun _ => 0))))] := hD
  have hP9 := hP.sub (ws' := [(hWor, .inr (7, [.ref hRows, .ref hMer, .ref hTra, .ref q_1, .ref q_3, .ref q_5, .ref q_7, .int 0, .int 0, .int 0])), (q_1, .inl (cA_2, 20, .inl (fun _ => 0))), (q_3, .inl (cA_4, 400, .inl (fun _ => 0))), (q_5, .inl (cA_6, 200, .inr (.inl (fun _ => 0)))), (q_7, .inl (cA_8, 20, .inr (.inl (fun _ => 0))))]) [0, 1, 2, 3, 4] rfl
  have hD9 := hD.sub (ws' := [(hWor, .inr (7, [.ref hRows, .ref hMer, .ref hTra, .ref q_1, .ref q_3, .ref q_5, .ref q_7, .int 0, .int 0, .int 0])), (q_1, .inl (cA_2, 20, .inl (fun _ => 0))), (q_3, .inl (cA_4, 400, .inl (fun _ => 0))), (q_5, .inl (cA_6, 200, .inr (.inl (fun _ => 0)))), (q_7, .inl (cA_8, 20, .inr (.inl (fun _ => 0))))]) [0, 1, 2, 3, 4] (by decide) rfl
  have hK9 := hK.sub (tys' := [(cA_2, .boolean), (cA_4, .int), (cA_6, .long), (cA_8, .long)]) [0, 1, 2, 3] rfl
  refine W.widen (k := 4) (n := 640) (Nat.le_of_ble_eq_true rfl) (Nat.le_of_ble_eq_true rfl) ?_
  exact W.vret hx hb hr (fun t ht hW => ⟨⟨(), rfl, trivial, q_1, cA_2, q_3, cA_4, q_5, cA_6, q_7, cA_8, by rw [ht]; exact hP9, va_K.moved hW.alike hK9, hD9⟩, hS.F ht⟩) hS.2.2 dX7_init_53

set_option maxHeartbeats 4000000 in
set_option maxRecDepth 100000 in
theorem c_X1_init (l : Launch) (dC : Nat → ClassId) (dI : Nat → Nat → Nat) (sz : Nat) (hPla : Nat)  : Met l yX1_init wsX1_init ({ frames := 1, cells := 4, slots := 8000, locals := 20 }) (va_Pc [.ref hPla] (fun U => U.heap.size = sz ∧ va_P (dC, dI) vwCl [(hPla, .inr (1, [.null, .null, .null, .null, .int 0]))] U.heap ∧ va_K (dC, dI) vwCl [] U ∧ va_D (fun _ => True) [(hPla, .inr (1, [.null, .null, .null, .null, .int 0]))] ∧ nw_ok U)) (va_Qv (fun (_ : Unit) => True) (fun (_ : Unit) (t : State) => ∃ (aO : Nat) (cO : ClassId) (aQ : Nat) (cQ : ClassId) (aF : Nat) (cF : ClassId) (aW : Nat) (cW : ClassId), va_P (dC, dI) vwCl [(hPla, .inr (1, [.ref aO, .ref aQ, .ref aF, .ref aW, .int 0])), (aO, .inl (cO, 2000, .inl (fun _ => 0))), (aQ, .inl (cQ, 2000, .inl (fun _ => 0))), (aF, .inl (cF, 2000, .inl (fun _ => 0))), (aW, .inl (cW, 2000, .inr (.inl (fun _ => 0))))] t.heap ∧ va_K (dC, dI) vwCl [(cO, .int), (cQ, .int), (cF, .boolean), (cW, .long)] t ∧ va_D (va_A [(hPla, .inr (1, [.null, .null, .null, .null, .int 0]))] sz) [(hPla, .inr (1, [.ref aO, .ref aQ, .ref aF, .ref aW, .int 0])), (aO, .inl (cO, 2000, .inl (fun _ => 0))), (aQ, .inl (cQ, 2000, .inl (fun _ => 0))), (aF, .inl (cF, 2000, .inl (fun _ => 0))), (aW, .inl (cW, 2000, .inr (.inl (fun _ => 0))))]) (va_A [(hPla, .inr (1, [.null, .null, .null, .null, .int 0]))] sz)) 4 8000 (va_A [(hPla, .inr (1, [.null, .null, .null, .null, .int 0]))] sz) := by
  refine Met.ofW (cc := cX1_init) (maxL := 1) (ret := none) (by decide) rfl ?_
  intro p e s m args below meth c s₁ B hml hv
  obtain ⟨rfl, hsz, hP, hK, hD0, hN⟩ := hv
  have hx := B.exec
  have hb := B.bytes
  have hr := B.returns
  have hts := atoms_spec (ws := wsX1_init) B.pre
  have hown : s.vm.findClass RX1 = some m.cls := findClass_of_methodNamed B.named
  have hlocks := B.notSynchronized
  have hin : meth.name = "<init>" := (name_of_methodNamed B.named B.method).1
  subst hsz
  have hD := hD0.self (sz := s.heap.size)
  generalize hAe : va_A [(hPla, .inr (1, [.null, .null, .null, .null, .int 0]))] s.heap.size = A at hD ⊢
  have hA : ∀ q : Nat, s.heap.size ≤ q → A q := fun q h => by rw [← hAe]; exact Or.inr h
  have hS : va_S A s.heap s.heap [] := va_S.rf
  have hP : va_P (dC, dI) vwCl [(hPla, .inr (1, [.null, .null, .null, .null, .int 0]))] s.heap := hP
  have hIX1 : ∀ w ∈ u_ws RX1 TX1 5, w ∈ wsX1_init := by decide +kernel
  have hl := lv_entry ([.ref hPla]) (n := 1) (Nat.le_of_ble_eq_true rfl)
  rw [lg_entry_eq]
  generalize (lg_sl ([.ref hPla]) ++ List.replicate (1 - (lg_sl ([.ref hPla])).length) Slot.unset).toArray = ls at hl ⊢
  have hl : lv_has ls 1 [(0, .ref hPla)] := hl
  refine lv_aload_n hx hb dX1_init_0 rfl (lv_at hl 0 rfl) ?_
  refine W.objInit hx hb hown (hts (.methodLink RX1 3 objectInit) (by decide +kernel)) (hts (.instanceMethod objectInit) (by decide +kernel)) (hts (.code objectInit ⟨#[0xb1]⟩ 1 none) (by decide +kernel)) rfl (by rw [hml]; exact hl.1) rfl dX1_init_1 (Nat.le_of_ble_eq_true rfl) (Nat.le_of_ble_eq_true rfl) ?_
  refine W.eq (g2 := F0 m 4 ls []) rfl ?_
  refine lv_aload_n hx hb dX1_init_4 rfl (lv_at hl 0 rfl) ?_
  refine lv_sipush (v := 2000) hx hb dX1_init_5 (by decide) ?_
  refine va_newa (atype := .int) (a0 := (2000, .inl (fun _ => 0))) (ty := .int) (N' := 2000) hx hb (hts (.arrayClass .int) (by decide +kernel)) rfl hK hP hD hS hA (jnew_int 2000) (by decide) (by decide) (jnb_int (by decide)) (by decide) (by decide) dX1_init_8 (fun q_1 cA_2 H hK hP hD hS => ?_)
  have hP : va_P (dC, dI) vwCl [(hPla, .inr (1, [.null, .null, .null, .null, .int 0])), (q_1, .inl (cA_2, 2000, .inl (fun _ => 0)))] H := hP
  have hD : va_D A [(hPla, .inr (1, [.null, .null, .null, .null, .int 0])), (q_1, .inl (cA_2, 2000, .inl (fun _ => 0)))] := hD
  have hK : va_K (dC, dI) vwCl [(cA_2, .int)] s := hK
  refine W.widen (k := 1) (n := 2000) (Nat.le_of_ble_eq_true rfl) (Nat.le_of_ble_eq_true rfl) ?_
  refine va_putF (D := (dC, dI)) (ci := 1) (v := .ref q_1) (ty := (.array .int)) (C := RX1) (T := TX1) (N := 5) hx hb hts hIX1 tyX1 tyX1_ok nmX1 hown hK hP hD hS 0 rfl rfl 0 (by decide) (hts (.fieldLink RX1 9 "TraitHouse$Places" "owners" "[I") (by decide +kernel)) (fun _ h9 => h9) rfl hin rfl (by decide +kernel) rfl rfl (Nat.le_of_ble_eq_true rfl) dX1_init_10 (fun H locs hP hD hS => ?_)
  have hP : va_P (dC, dI) vwCl [(hPla, .inr (1, [.ref q_1, .null, .null, .null, .int 0])), (q_1, .inl (cA_2, 2000, .inl (fun _ => 0)))] H := hP
  have hD : va_D A [(hPla, .inr (1, [.ref q_1, .null, .null, .null, .int 0])), (q_1, .inl (cA_2, 2000, .inl (fun _ => 0)))] := hD
  refine lv_aload_n hx hb dX1_init_13 rfl (lv_at hl 0 rfl) ?_
  refine lv_sipush (v := 2000) hx hb dX1_init_14 (by decide) ?_
  refine va_newa (atype := .int) (a0 := (2000, .inl (fun _ => 0))) (ty := .int) (N' := 2000) hx hb (hts (.arrayClass .int) (by decide +kernel)) rfl hK hP hD hS hA (jnew_int 2000) (by decide) (by decide) (jnb_int (by decide)) (by decide) (by decide) dX1_init_17 (fun q_3 cA_4 H hK hP hD hS => ?_)
  have hP : va_P (dC, dI) vwCl [(hPla, .inr (1, [.ref q_1, .null, .null, .null, .int 0])), (q_1, .inl (cA_2, 2000, .inl (fun _ => 0))), (q_3, .inl (cA_4, 2000, .inl (fun _ => 0)))] H := hP
  have hD : va_D A [(hPla, .inr (1, [.ref q_1, .null, .null, .null, .int 0])), (q_1, .inl (cA_2, 2000, .inl (fun _ => 0))), (q_3, .inl (cA_4, 2000, .inl (fun _ => 0)))] := hD
  have hK : va_K (dC, dI) vwCl [(cA_2, .int), (cA_4, .int)] s := hK
  refine W.widen (k := 2) (n := 4000) (Nat.le_of_ble_eq_true rfl) (Nat.le_of_ble_eq_true rfl) ?_
  refine va_putF (D := (dC, dI)) (ci := 1) (v := .ref q_3) (ty := (.array .int)) (C := RX1) (T := TX1) (N := 5) hx hb hts hIX1 tyX1 tyX1_ok nmX1 hown hK hP hD hS 0 rfl rfl 1 (by decide) (hts (.fieldLink RX1 15 "TraitHouse$Places" "moments" "[I") (by decide +kernel)) (fun _ h9 => h9) rfl hin rfl (by decide +kernel) rfl rfl (Nat.le_of_ble_eq_true rfl) dX1_init_19 (fun H locs hP hD hS => ?_)
  have hP : va_P (dC, dI) vwCl [(hPla, .inr (1, [.ref q_1, .ref q_3, .null, .null, .int 0])), (q_1, .inl (cA_2, 2000, .inl (fun _ => 0))), (q_3, .inl (cA_4, 2000, .inl (fun _ => 0)))] H := hP
  have hD : va_D A [(hPla, .inr (1, [.ref q_1, .ref q_3, .null, .null, .int 0])), (q_1, .inl (cA_2, 2000, .inl (fun _ => 0))), (q_3, .inl (cA_4, 2000, .inl (fun _ => 0)))] := hD
  refine lv_aload_n hx hb dX1_init_22 rfl (lv_at hl 0 rfl) ?_
  refine lv_sipush (v := 2000) hx hb dX1_init_23 (by decide) ?_
  refine va_newa (atype := .boolean) (a0 := (2000, .inl (fun _ => 0))) (ty := .boolean) (N' := 2000) hx hb (hts (.arrayClass .boolean) (by decide +kernel)) rfl hK hP hD hS hA (jnew_boolean 2000) (by decide) (by decide) (jnb_boolean (by decide)) (by decide) (by decide) dX1_init_26 (fun q_5 cA_6 H hK hP hD hS => ?_)
  have hP : va_P (dC, dI) vwCl [(hPla, .inr (1, [.ref q_1, .ref q_3, .null, .null, .int 0])), (q_1, .inl (cA_2, 2000, .inl (fun _ => 0))), (q_3, .inl (cA_4, 2000, .inl (fun _ => 0))), (q_5, .inl (cA_6, 2000, .inl (fun _ => 0)))] H := hP
  have hD : va_D A [(hPla, .inr (1, [.ref q_1, .ref q_3, .null, .null, .int 0])), (q_1, .inl (cA_2, 2000, .inl (fun _ => 0))), (q_3, .inl (cA_4, 2000, .inl (fun _ => 0))), (q_5, .inl (cA_6, 2000, .inl (fun _ => 0)))] := hD
  have hK : va_K (dC, dI) vwCl [(cA_2, .int), (cA_4, .int), (cA_6, .boolean)] s := hK
  refine W.widen (k := 3) (n := 6000) (Nat.le_of_ble_eq_true rfl) (Nat.le_of_ble_eq_true rfl) ?_
  refine va_putF (D := (dC, dI)) (ci := 1) (v := .ref q_5) (ty := (.array .boolean)) (C := RX1) (T := TX1) (N := 5) hx hb hts hIX1 tyX1 tyX1_ok nmX1 hown hK hP hD hS 0 rfl rfl 2 (by decide) (hts (.fieldLink RX1 18 "TraitHouse$Places" "filled" "[Z") (by decide +kernel)) (fun _ h9 => h9) rfl hin rfl (by decide +kernel) rfl rfl (Nat.le_of_ble_eq_true rfl) dX1_init_28 (fun H locs hP hD hS => ?_)
  have hP : va_P (dC, dI) vwCl [(hPla, .inr (1, [.ref q_1, .ref q_3, .ref q_5, .null, .int 0])), (q_1, .inl (cA_2, 2000, .inl (fun _ => 0))), (q_3, .inl (cA_4, 2000, .inl (fun _ => 0))), (q_5, .inl (cA_6, 2000, .inl (fun _ => 0)))] H := hP
  have hD : va_D A [(hPla, .inr (1, [.ref q_1, .ref q_3, .ref q_5, .null, .int 0])), (q_1, .inl (cA_2, 2000, .inl (fun _ => 0))), (q_3, .inl (cA_4, 2000, .inl (fun _ => 0))), (q_5, .inl (cA_6, 2000, .inl (fun _ => 0)))] := hD
  refine lv_aload_n hx hb dX1_init_31 rfl (lv_at hl 0 rfl) ?_
  refine lv_sipush (v := 2000) hx hb dX1_init_32 (by decide) ?_
  refine va_newa (atype := .long) (a0 := (2000, .inr (.inl (fun _ => 0)))) (ty := .long) (N' := 2000) hx hb (hts (.arrayClass .long) (by decide +kernel)) rfl hK hP hD hS hA (jnew_long 2000) (by decide) (by decide) (jnb_long (by decide)) (by decide) (by decide) dX1_init_35 (fun q_7 cA_8 H hK hP hD hS => ?_)
  have hP : va_P (dC, dI) vwCl [(hPla, .inr (1, [.ref q_1, .ref q_3, .ref q_5, .null, .int 0])), (q_1, .inl (cA_2, 2000, .inl (fun _ => 0))), (q_3, .inl (cA_4, 2000, .inl (fun _ => 0))), (q_5, .inl (cA_6, 2000, .inl (fun _ => 0))), (q_7, .inl (cA_8, 2000, .inr (.inl (fun _ => 0))))] H := hP
  have hD : va_D A [(hPla, .inr (1, [.ref q_1, .ref q_3, .ref q_5, .null, .int 0])), (q_1, .inl (cA_2, 2000, .inl (fun _ => 0))), (q_3, .inl (cA_4, 2000, .inl (fun _ => 0))), (q_5, .inl (cA_6, 2000, .inl (fun _ => 0))), (q_7, .inl (cA_8, 2000, .inr (.inl (fun _ => 0))))] := hD
  have hK : va_K (dC, dI) vwCl [(cA_2, .int), (cA_4, .int), (cA_6, .boolean), (cA_8, .long)] s := hK
  refine W.widen (k := 4) (n := 8000) (Nat.le_of_ble_eq_true rfl) (Nat.le_of_ble_eq_true rfl) ?_
  refine va_putF (D := (dC, dI)) (ci := 1) (v := .ref q_7) (ty := (.array .long)) (C := RX1) (T := TX1) (N := 5) hx hb hts hIX1 tyX1 tyX1_ok nmX1 hown hK hP hD hS 0 rfl rfl 3 (by decide) (hts (.fieldLink RX1 22 "TraitHouse$Places" "values" "[J") (by decide +kernel)) (fun _ h9 => h9) rfl hin rfl (by decide +kernel) rfl rfl (Nat.le_of_ble_eq_true rfl) dX1_init_37 (fun H locs hP hD hS => ?_)
  have hP : va_P (dC, dI) vwCl [(hPla, .inr (1, [.ref q_1, .ref q_3, .ref q_5, .ref q_7, .int 0])), (q_1, .inl (cA_2, 2000, .inl (fun _ => 0))), (q_3, .inl (cA_4, 2000, .inl (fun _ => 0))), (q_5, .inl (cA_6, 2000, .inl (fun _ => 0))), (q_7, .inl (cA_8, 2000, .inr (.inl (fun _ => 0))))] H := hP
  have hD : va_D A [(hPla, .inr (1, [.ref q_1, .ref q_3, .ref q_5, .ref q_7, .int 0])), (q_1, .inl (cA_2, 2000, .inl (fun _ => 0))), (q_3, .inl (cA_4, 2000, .inl (fun _ => 0))), (q_5, .inl (cA_6, 2000, .inl (fun _ => 0))), (q_7, .inl (cA_8, 2000, .inr (.inl (fun _ => 0))))] := hD
  have hP9 := hP.sub (ws' := [(hPla, .inr (1, [.ref q_1, .ref q_3, .ref q_5, .ref q_7, .int 0])), (q_1, .inl (cA_2, 2000, .inl (fun _ => 0))), (q_3, .inl (cA_4, 2000, .inl (fun _ => 0))), (q_5, .inl (cA_6, 2000, .inl (fun _ => 0))), (q_7, .inl (cA_8, 2000, .inr (.inl (fun _ => 0))))]) [0, 1, 2, 3, 4] rfl
  have hD9 := hD.sub (ws' := [(hPla, .inr (1, [.ref q_1, .ref q_3, .ref q_5, .ref q_7, .int 0])), (q_1, .inl (cA_2, 2000, .inl (fun _ => 0))), (q_3, .inl (cA_4, 2000, .inl (fun _ => 0))), (q_5, .inl (cA_6, 2000, .inl (fun _ => 0))), (q_7, .inl (cA_8, 2000, .inr (.inl (fun _ => 0))))]) [0, 1, 2, 3, 4] (by decide) rfl
  have hK9 := hK.sub (tys' := [(cA_2, .int), (cA_4, .int), (cA_6, .boolean), (cA_8, .long)]) [0, 1, 2, 3] rfl
  refine W.widen (k := 4) (n := 8000) (Nat.le_of_ble_eq_true rfl) (Nat.le_of_ble_eq_true rfl) ?_
  exact W.vret hx hb hr (fun t ht hW => ⟨⟨(), rfl, trivial, q_1, cA_2, q_3, cA_4, q_5, cA_6, q_7, cA_8, by rw [ht]; exact hP9, va_K.moved hW.alike hK9, hD9⟩, hS.F ht⟩) hS.2.2 dX1_init_40
