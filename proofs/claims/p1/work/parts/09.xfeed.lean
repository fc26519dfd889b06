theorem dX5_append_0 : decode cX5_append 0 = .ok (.iconst 3, 1) := by decide +kernel
theorem dX5_append_1 : decode cX5_append 1 = .ok (.istore_n 2, 1) := by decide +kernel
theorem dX5_append_2 : decode cX5_append 2 = .ok (.iload_n 2, 1) := by decide +kernel
theorem dX5_append_3 : decode cX5_append 3 = .ok (.ifCond .lt 48, 3) := by decide +kernel
theorem dX5_append_6 : decode cX5_append 6 = .ok (.aload_n 0, 1) := by decide +kernel
theorem dX5_append_7 : decode cX5_append 7 = .ok (.getfield 15, 3) := by decide +kernel
theorem dX5_append_10 : decode cX5_append 10 = .ok (.sipush 200, 3) := by decide +kernel
theorem dX5_append_13 : decode cX5_append 13 = .ok (.if_icmp .ge 38, 3) := by decide +kernel
theorem dX5_append_16 : decode cX5_append 16 = .ok (.aload_n 0, 1) := by decide +kernel
theorem dX5_append_17 : decode cX5_append 17 = .ok (.getfield 9, 3) := by decide +kernel
theorem dX5_append_20 : decode cX5_append 20 = .ok (.aload_n 0, 1) := by decide +kernel
theorem dX5_append_21 : decode cX5_append 21 = .ok (.getfield 15, 3) := by decide +kernel
theorem dX5_append_24 : decode cX5_append 24 = .ok (.iload_n 1, 1) := by decide +kernel
theorem dX5_append_25 : decode cX5_append 25 = .ok (.bipush 8, 2) := by decide +kernel
theorem dX5_append_27 : decode cX5_append 27 = .ok (.iload_n 2, 1) := by decide +kernel
theorem dX5_append_28 : decode cX5_append 28 = .ok (.imul, 1) := by decide +kernel
theorem dX5_append_29 : decode cX5_append 29 = .ok (.iushr, 1) := by decide +kernel
theorem dX5_append_30 : decode cX5_append 30 = .ok (.sipush 255, 3) := by decide +kernel
theorem dX5_append_33 : decode cX5_append 33 = .ok (.iand, 1) := by decide +kernel
theorem dX5_append_34 : decode cX5_append 34 = .ok (.iastore, 1) := by decide +kernel
theorem dX5_append_35 : decode cX5_append 35 = .ok (.aload_n 0, 1) := by decide +kernel
theorem dX5_append_36 : decode cX5_append 36 = .ok (.dup, 1) := by decide +kernel
theorem dX5_append_37 : decode cX5_append 37 = .ok (.getfield 15, 3) := by decide +kernel
theorem dX5_append_40 : decode cX5_append 40 = .ok (.iconst 1, 1) := by decide +kernel
theorem dX5_append_41 : decode cX5_append 41 = .ok (.iadd, 1) := by decide +kernel
theorem dX5_append_42 : decode cX5_append 42 = .ok (.putfield 15, 3) := by decide +kernel
theorem dX5_append_45 : decode cX5_append 45 = .ok (.iinc 2 (-1), 3) := by decide +kernel
theorem dX5_append_48 : decode cX5_append 48 = .ok (.goto (-46), 3) := by decide +kernel
theorem dX5_append_51 : decode cX5_append 51 = .ok (.return_, 1) := by decide +kernel
theorem dX8_feed_0 : decode cX8_feed 0 = .ok (.aload_n 0, 1) := by decide +kernel
theorem dX8_feed_1 : decode cX8_feed 1 = .ok (.getfield 30, 3) := by decide +kernel
theorem dX8_feed_4 : decode cX8_feed 4 = .ok (.getfield 142, 3) := by decide +kernel
theorem dX8_feed_7 : decode cX8_feed 7 = .ok (.bipush 20, 2) := by decide +kernel
theorem dX8_feed_9 : decode cX8_feed 9 = .ok (.iadd, 1) := by decide +kernel
theorem dX8_feed_10 : decode cX8_feed 10 = .ok (.sipush 200, 3) := by decide +kernel
theorem dX8_feed_13 : decode cX8_feed 13 = .ok (.if_icmp .le 5, 3) := by decide +kernel
theorem dX8_feed_18 : decode cX8_feed 18 = .ok (.aload_n 0, 1) := by decide +kernel
theorem dX8_feed_19 : decode cX8_feed 19 = .ok (.getfield 30, 3) := by decide +kernel
theorem dX8_feed_22 : decode cX8_feed 22 = .ok (.iload_n 1, 1) := by decide +kernel
set_option maxRecDepth 20000 in
theorem ggX8_feed_X5_append : GoodIn wsX8_feed wsX5_append := goodIn_r _ [5, 6, 7, 25, 26] (by decide +kernel) (by decide +kernel)
set_option maxRecDepth 20000 in
theorem gX8_feed_X5_append_n145 : GoodIn wsX8_feed (wsX5_append) := ggX8_feed_X5_append
theorem dX8_feed_23 : decode cX8_feed 23 = .ok (.invokevirtual 145, 3) := by decide +kernel
theorem dX8_feed_26 : decode cX8_feed 26 = .ok (.aload_n 0, 1) := by decide +kernel
theorem dX8_feed_27 : decode cX8_feed 27 = .ok (.getfield 30, 3) := by decide +kernel
theorem dX8_feed_30 : decode cX8_feed 30 = .ok (.iload_n 2, 1) := by decide +kernel
theorem dX8_feed_31 : decode cX8_feed 31 = .ok (.invokevirtual 145, 3) := by decide +kernel
theorem dX8_feed_34 : decode cX8_feed 34 = .ok (.aload_n 0, 1) := by decide +kernel
theorem dX8_feed_35 : decode cX8_feed 35 = .ok (.getfield 30, 3) := by decide +kernel
theorem dX8_feed_38 : decode cX8_feed 38 = .ok (.iload_n 3, 1) := by decide +kernel
theorem dX8_feed_39 : decode cX8_feed 39 = .ok (.invokevirtual 145, 3) := by decide +kernel
theorem dX8_feed_42 : decode cX8_feed 42 = .ok (.aload_n 0, 1) := by decide +kernel
theorem dX8_feed_43 : decode cX8_feed 43 = .ok (.getfield 30, 3) := by decide +kernel
theorem dX8_feed_46 : decode cX8_feed 46 = .ok (.iload 4, 2) := by decide +kernel
theorem dX8_feed_48 : decode cX8_feed 48 = .ok (.invokevirtual 145, 3) := by decide +kernel
theorem dX8_feed_51 : decode cX8_feed 51 = .ok (.aload_n 0, 1) := by decide +kernel
theorem dX8_feed_52 : decode cX8_feed 52 = .ok (.getfield 30, 3) := by decide +kernel
theorem dX8_feed_55 : decode cX8_feed 55 = .ok (.iload 5, 2) := by decide +kernel
theorem dX8_feed_57 : decode cX8_feed 57 = .ok (.invokevirtual 145, 3) := by decide +kernel
theorem dX8_feed_60 : decode cX8_feed 60 = .ok (.aload_n 0, 1) := by decide +kernel
theorem dX8_feed_61 : decode cX8_feed 61 = .ok (.getfield 30, 3) := by decide +kernel
theorem dX8_feed_64 : decode cX8_feed 64 = .ok (.getfield 142, 3) := by decide +kernel
theorem dX8_feed_67 : decode cX8_feed 67 = .ok (.ireturn, 1) := by decide +kernel
set_option maxHeartbeats 4000000 in
set_option maxRecDepth 100000 in
theorem c_X5_append (l : Launch) (dC : Nat → ClassId) (dI : Nat → Nat → Nat) (sz : Nat) (hTape : Nat) (aB : Nat) (cB : ClassId) (fB : Nat → Int32) (n : Int32) (a : Int32) (hn0 : 0 ≤ n.toInt) (hn1 : n.toInt ≤ 196) : Met l yX5_append wsX5_append ({ frames := 0, cells := 0, slots := 0, locals := 0 }) (va_Pc [.ref hTape, .int a] (fun U => U.heap.size = sz ∧ va_P (dC, dI) vwCl [(hTape, .inr (5, [.ref aB, .int n])), (aB, .inl (cB, 200, .inl fB))] U.heap ∧ va_K (dC, dI) vwCl [(cB, .int)] U ∧ va_D (fun _ => True) [(hTape, .inr (5, [.ref aB, .int n])), (aB, .inl (cB, 200, .inl fB))] ∧ nw_ok U)) (va_Qv (fun (u : Int32 × (Nat → Int32)) => u.1.toInt = n.toInt + 4) (fun (u : Int32 × (Nat → Int32)) (t : State) => va_P (dC, dI) vwCl [(hTape, .inr (5, [.ref aB, .int u.1])), (aB, .inl (cB, 200, .inl u.2))] t.heap ∧ va_K (dC, dI) vwCl [(cB, .int)] t ∧ va_D (va_A [(hTape, .inr (5, [.ref aB, .int n])), (aB, .inl (cB, 200, .inl fB))] sz) [(hTape, .inr (5, [.ref aB, .int u.1])), (aB, .inl (cB, 200, .inl u.2))]) (va_A [(hTape, .inr (5, [.ref aB, .int n])), (aB, .inl (cB, 200, .inl fB))] sz)) 0 0 (va_A [(hTape, .inr (5, [.ref aB, .int n])), (aB, .inl (cB, 200, .inl fB))] sz) := by
  refine Met.ofW (cc := cX5_append) (maxL := 3) (ret := none) (by decide) rfl ?_
  intro p e s m args below meth c s₁ B hml hv
  obtain ⟨rfl, hsz, hP, hK, hD0, hN⟩ := hv
  have hx := B.exec
  have hb := B.bytes
  have hr := B.returns
  have hts := atoms_spec (ws := wsX5_append) B.pre
  have hown : s.vm.findClass RX5 = some m.cls := findClass_of_methodNamed B.named
  have hlocks := B.notSynchronized
  subst hsz
  have hD := hD0.self (sz := s.heap.size)
  generalize hAe : va_A [(hTape, .inr (5, [.ref aB, .int n])), (aB, .inl (cB, 200, .inl fB))] s.heap.size = A at hD ⊢
  have hA : ∀ q : Nat, s.heap.size ≤ q → A q := fun q h => by rw [← hAe]; exact Or.inr h
  have hS : va_S A s.heap s.heap [] := va_S.rf
  have hP : va_P (dC, dI) vwCl [(hTape, .inr (5, [.ref aB, .int n])), (aB, .inl (cB, 200, .inl fB))] s.heap := hP
  have hIX5 : ∀ w ∈ u_ws RX5 TX5 2, w ∈ wsX5_append := by decide +kernel
  have hl := lv_entry ([.ref hTape, .int a]) (n := 3) (Nat.le_of_ble_eq_true rfl)
  rw [lg_entry_eq]
  generalize (lg_sl ([.ref hTape, .int a]) ++ List.replicate (3 - (lg_sl ([.ref hTape, .int a])).length) Slot.unset).toArray = ls at hl ⊢
  have hl : lv_has ls 3 [(0, .ref hTape), (1, .int a)] := hl
  refine lv_iconst (v := 3) hx hb dX5_append_0 (by decide) ?_
  refine lv_istore_n (lv' := [(2, .int 3), (0, .ref hTape), (1, .int a)]) hx hb dX5_append_1 rfl hl (by decide) rfl (fun ls hl => ?_)
  refine lv_iload_n hx hb dX5_append_2 rfl (lv_at hl 0 rfl) ?_
  refine lv_if_lt (tgt := 51) hx hb dX5_append_3 (by decide) (fun c_1 => absurd c_1 (by decide)) (fun c_1 => ?_)
  refine lv_aload_n hx hb dX5_append_6 rfl (lv_at hl 1 rfl) ?_
  refine va_get (D := (dC, dI)) (ci := 5) (v := .int n) (C := RX5) (T := TX5) (N := 2) hx hb hts hIX5 hown hK hP 0 rfl rfl 1 (by decide) (hts (.fieldLink RX5 15 "TraitHouse$Tape" "size" "I") (by decide +kernel)) (fun _ h9 => h9) rfl dX5_append_7 ?_
  refine lv_sipush (v := 200) hx hb dX5_append_10 (by decide) ?_
  refine lv_icmp_ge (tgt := 51) hx hb dX5_append_13 (by decide) (fun c_2 => ?_) (fun c_2 => ?_)
  · have dc_2 : 200 ≤ n.toInt := jI_le c_2 (by decide) rfl
    exfalso; omega
  · have dc_2 : n.toInt < 200 := jI_nle c_2 (by decide) rfl
    refine lv_aload_n hx hb dX5_append_16 rfl (lv_at hl 1 rfl) ?_
    refine va_get (D := (dC, dI)) (ci := 5) (v := .ref aB) (C := RX5) (T := TX5) (N := 2) hx hb hts hIX5 hown hK hP 0 rfl rfl 0 (by decide) (hts (.fieldLink RX5 9 "TraitHouse$Tape" "bytes" "[I") (by decide +kernel)) (fun _ h9 => h9) rfl dX5_append_17 ?_
    refine lv_aload_n hx hb dX5_append_20 rfl (lv_at hl 1 rfl) ?_
    refine va_get (D := (dC, dI)) (ci := 5) (v := .int n) (C := RX5) (T := TX5) (N := 2) hx hb hts hIX5 hown hK hP 0 rfl rfl 1 (by decide) (hts (.fieldLink RX5 15 "TraitHouse$Tape" "size" "I") (by decide +kernel)) (fun _ h9 => h9) rfl dX5_append_21 ?_
    refine lv_iload_n hx hb dX5_append_24 rfl (lv_at hl 2 rfl) ?_
    refine lv_bipush (v := 8) hx hb dX5_append_25 (by decide) ?_
    refine lv_iload_n hx hb dX5_append_27 rfl (lv_at hl 0 rfl) ?_
    refine lv_imul hx hb dX5_append_28 ?_
    refine lv_topi (fun x_3 ex_3 => ?_)
    obtain rfl : x_3 = 24 := ex_3.trans (by decide)
    obtain ⟨x_4, ex_4⟩ : ∃ y : Int32, y = (a.toUInt32 >>> ((24 : Int32).toUInt32 &&& Int32.toUInt32 31)).toInt32 := ⟨_, rfl⟩
    refine lv_iushr (v := x_4) hx hb dX5_append_29 ex_4.symm ?_
    refine lv_sipush (v := 255) hx hb dX5_append_30 (by decide) ?_
    refine lv_iand hx hb dX5_append_33 ?_
    refine lv_topi (fun x_5 ex_5 => ?_)
    have h_6 : vp_in n 200 := (vp_in_iff.mpr ⟨by omega, by omega⟩)
    refine va_iast hx hb hK hP hD hS 1 0 rfl rfl h_6 dX5_append_34 (fun H locs hP hD hS => ?_)
    have hP : va_P (dC, dI) vwCl [(hTape, .inr (5, [.ref aB, .int n])), (aB, .inl (cB, 200, .inl (upd fB n.toNatClampNeg x_5)))] H := hP
    have hD : va_D A [(hTape, .inr (5, [.ref aB, .int n])), (aB, .inl (cB, 200, .inl (upd fB n.toNatClampNeg x_5)))] := hD
    obtain ⟨g_7, eg_7⟩ : ∃ g : Nat → Int32, g = upd fB n.toNatClampNeg x_5 := ⟨_, rfl⟩
    rw [← eg_7] at hP hD
    refine lv_aload_n hx hb dX5_append_35 rfl (lv_at hl 1 rfl) ?_
    refine lv_dup hx hb dX5_append_36 rfl ?_
    refine va_get (D := (dC, dI)) (ci := 5) (v := .int n) (C := RX5) (T := TX5) (N := 2) hx hb hts hIX5 hown hK hP 0 rfl rfl 1 (by decide) (hts (.fieldLink RX5 15 "TraitHouse$Tape" "size" "I") (by decide +kernel)) (fun _ h9 => h9) rfl dX5_append_37 ?_
    refine lv_iconst (v := 1) hx hb dX5_append_40 (by decide) ?_
    refine lv_iadd hx hb dX5_append_41 ?_
    refine lv_topi (fun x_8 ex_8 => ?_)
    have dx_8 : x_8.toInt = n.toInt + 1 := by rw [ex_8]; exact jI_add rfl (by decide) (by omega) (by omega)
    refine va_put (D := (dC, dI)) (ci := 5) (v := .int x_8) (ty := .int) (C := RX5) (T := TX5) (N := 2) hx hb hts hIX5 tyX5 tyX5_ok nmX5 hown hK hP hD hS 0 rfl rfl 1 (by decide) (hts (.fieldLink RX5 15 "TraitHouse$Tape" "size" "I") (by decide +kernel)) (fun _ h9 => h9) rfl (by decide +kernel) rfl rfl (Nat.le_of_ble_eq_true rfl) dX5_append_42 (fun H locs hP hD hS => ?_)
    have hP : va_P (dC, dI) vwCl [(hTape, .inr (5, [.ref aB, .int x_8])), (aB, .inl (cB, 200, .inl g_7))] H := hP
    have hD : va_D A [(hTape, .inr (5, [.ref aB, .int x_8])), (aB, .inl (cB, 200, .inl g_7))] := hD
    refine lv_iinc (v := 2) (lv' := [(2, .int 2), (0, .ref hTape), (1, .int a)]) hx hb dX5_append_45 hl (k := 0) rfl (by decide) (by decide) rfl (fun ls hl => ?_)
    refine lv_goto (tgt := 2) hx hb dX5_append_48 (by decide) ?_
    refine lv_iload_n hx hb dX5_append_2 rfl (lv_at hl 0 rfl) ?_
    refine lv_if_lt (tgt := 51) hx hb dX5_append_3 (by decide) (fun c_9 => absurd c_9 (by decide)) (fun c_9 => ?_)
    refine lv_aload_n hx hb dX5_append_6 rfl (lv_at hl 1 rfl) ?_
    refine va_get (D := (dC, dI)) (ci := 5) (v := .int x_8) (C := RX5) (T := TX5) (N := 2) hx hb hts hIX5 hown hK hP 0 rfl rfl 1 (by decide) (hts (.fieldLink RX5 15 "TraitHouse$Tape" "size" "I") (by decide +kernel)) (fun _ h9 => h9) rfl dX5_append_7 ?_
    refine lv_sipush (v := 200) hx hb dX5_append_10 (by decide) ?_
    refine lv_icmp_ge (tgt := 51) hx hb dX5_append_13 (by decide) (fun c_10 => ?_) (fun c_10 => ?_)
    · have dc_10 : 200 ≤ x_8.toInt := jI_le c_10 (by decide) rfl
      exfalso; omega
    · have dc_10 : x_8.toInt < 200 := jI_nle c_10 (by decide) rfl
      refine lv_aload_n hx hb dX5_append_16 rfl (lv_at hl 1 rfl) ?_
      refine va_get (D := (dC, dI)) (ci := 5) (v := .ref aB) (C := RX5) (T := TX5) (N := 2) hx hb hts hIX5 hown hK hP 0 rfl rfl 0 (by decide) (hts (.fieldLink RX5 9 "TraitHouse$Tape" "bytes" "[I") (by decide +kernel)) (fun _ h9 => h9) rfl dX5_append_17 ?_
      refine lv_aload_n hx hb dX5_append_20 rfl (lv_at hl 1 rfl) ?_
      refine va_get (D := (dC, dI)) (ci := 5) (v := .int x_8) (C := RX5) (T := TX5) (N := 2) hx hb hts hIX5 hown hK hP 0 rfl rfl 1 (by decide) (hts (.fieldLink RX5 15 "TraitHouse$Tape" "size" "I") (by decide +kernel)) (fun _ h9 => h9) rfl dX5_append_21 ?_
      refine lv_iload_n hx hb dX5_append_24 rfl (lv_at hl 2 rfl) ?_
      refine lv_bipush (v := 8) hx hb dX5_append_25 (by decide) ?_
      refine lv_iload_n hx hb dX5_append_27 rfl (lv_at hl 0 rfl) ?_
      refine lv_imul hx hb dX5_append_28 ?_
      refine lv_topi (fun x_11 ex_11 => ?_)
      obtain rfl : x_11 = 16 := ex_11.trans (by decide)
      obtain ⟨x_12, ex_12⟩ : ∃ y : Int32, y = (a.toUInt32 >>> ((16 : Int32).toUInt32 &&& Int32.toUInt32 31)).toInt32 := ⟨_, rfl⟩
      refine lv_iushr (v := x_12) hx hb dX5_append_29 ex_12.symm ?_
      refine lv_sipush (v := 255) hx hb dX5_append_30 (by decide) ?_
      refine lv_iand hx hb dX5_append_33 ?_
      refine lv_topi (fun x_13 ex_13 => ?_)
      have h_14 : vp_in x_8 200 := (vp_in_iff.mpr ⟨by omega, by omega⟩)
      refine va_iast hx hb hK hP hD hS 1 0 rfl rfl h_14 dX5_append_34 (fun H locs hP hD hS => ?_)
      have hP : va_P (dC, dI) vwCl [(hTape, .inr (5, [.ref aB, .int x_8])), (aB, .inl (cB, 200, .inl (upd g_7 x_8.toNatClampNeg x_13)))] H := hP
      have hD : va_D A [(hTape, .inr (5, [.ref aB, .int x_8])), (aB, .inl (cB, 200, .inl (upd g_7 x_8.toNatClampNeg x_13)))] := hD
      obtain ⟨g_15, eg_15⟩ : ∃ g : Nat → Int32, g = upd g_7 x_8.toNatClampNeg x_13 := ⟨_, rfl⟩
      rw [← eg_15] at hP hD
      refine lv_aload_n hx hb dX5_append_35 rfl (lv_at hl 1 rfl) ?_
      refine lv_dup hx hb dX5_append_36 rfl ?_
      refine va_get (D := (dC, dI)) (ci := 5) (v := .int x_8) (C := RX5) (T := TX5) (N := 2) hx hb hts hIX5 hown hK hP 0 rfl rfl 1 (by decide) (hts (.fieldLink RX5 15 "TraitHouse$Tape" "size" "I") (by decide +kernel)) (fun _ h9 => h9) rfl dX5_append_37 ?_
      refine lv_iconst (v := 1) hx hb dX5_append_40 (by decide) ?_
      refine lv_iadd hx hb dX5_append_41 ?_
      refine lv_topi (fun x_16 ex_16 => ?_)
      have dx_16 : x_16.toInt = x_8.toInt + 1 := by rw [ex_16]; exact jI_add rfl (by decide) (by omega) (by omega)
      refine va_put (D := (dC, dI)) (ci := 5) (v := .int x_16) (ty := .int) (C := RX5) (T := TX5) (N := 2) hx hb hts hIX5 tyX5 tyX5_ok nmX5 hown hK hP hD hS 0 rfl rfl 1 (by decide) (hts (.fieldLink RX5 15 "TraitHouse$Tape" "size" "I") (by decide +kernel)) (fun _ h9 => h9) rfl (by decide +kernel) rfl rfl (Nat.le_of_ble_eq_true rfl) dX5_append_42 (fun H locs hP hD hS => ?_)
      have hP : va_P (dC, dI) vwCl [(hTape, .inr (5, [.ref aB, .int x_16])), (aB, .inl (cB, 200, .inl g_15))] H := hP
      have hD : va_D A [(hTape, .inr (5, [.ref aB, .int x_16])), (aB, .inl (cB, 200, .inl g_15))] := hD
      refine lv_iinc (v := 1) (lv' := [(2, .int 1), (0, .ref hTape), (1, .int a)]) hx hb dX5_append_45 hl (k := 0) rfl (by decide) (by decide) rfl (fun ls hl => ?_)
      refine lv_goto (tgt := 2) hx hb dX5_append_48 (by decide) ?_
      refine lv_iload_n hx hb dX5_append_2 rfl (lv_at hl 0 rfl) ?_
      refine lv_if_lt (tgt := 51) hx hb dX5_append_3 (by decide) (fun c_17 => absurd c_17 (by decide)) (fun c_17 => ?_)
      refine lv_aload_n hx hb dX5_append_6 rfl (lv_at hl 1 rfl) ?_
      refine va_get (D := (dC, dI)) (ci := 5) (v := .int x_16) (C := RX5) (T := TX5) (N := 2) hx hb hts hIX5 hown hK hP 0 rfl rfl 1 (by decide) (hts (.fieldLink RX5 15 "TraitHouse$Tape" "size" "I") (by decide +kernel)) (fun _ h9 => h9) rfl dX5_append_7 ?_
      refine lv_sipush (v := 200) hx hb dX5_append_10 (by decide) ?_
      refine lv_icmp_ge (tgt := 51) hx hb dX5_append_13 (by decide) (fun c_18 => ?_) (fun c_18 => ?_)
      · have dc_18 : 200 ≤ x_16.toInt := jI_le c_18 (by decide) rfl
        exfalso; omega
      · have dc_18 : x_16.toInt < 200 := jI_nle c_18 (by decide) rfl
        refine lv_aload_n hx hb dX5_append_16 rfl (lv_at hl 1 rfl) ?_
        refine va_get (D := (dC, dI)) (ci := 5) (v := .ref aB) (C := RX5) (T := TX5) (N := 2) hx hb hts hIX5 hown hK hP 0 rfl rfl 0 (by decide) (hts (.fieldLink RX5 9 "TraitHouse$Tape" "bytes" "[I") (by decide +kernel)) (fun _ h9 => h9) rfl dX5_append_17 ?_
        refine lv_aload_n hx hb dX5_append_20 rfl (lv_at hl 1 rfl) ?_
        refine va_get (D := (dC, dI)) (ci := 5) (v := .int x_16) (C := RX5) (T := TX5) (N := 2) hx hb hts hIX5 hown hK hP 0 rfl rfl 1 (by decide) (hts (.fieldLink RX5 15 "TraitHouse$Tape" "size" "I") (by decide +kernel)) (fun _ h9 => h9) rfl dX5_append_21 ?_
        refine lv_iload_n hx hb dX5_append_24 rfl (lv_at hl 2 rfl) ?_
        refine lv_bipush (v := 8) hx hb dX5_append_25 (by decide) ?_
        refine lv_iload_n hx hb dX5_append_27 rfl (lv_at hl 0 rfl) ?_
        refine lv_imul hx hb dX5_append_28 ?_
        refine lv_topi (fun x_19 ex_19 => ?_)
        obtain rfl : x_19 = 8 := ex_19.trans (by decide)
        obtain ⟨x_20, ex_20⟩ : ∃ y : Int32, y = (a.toUInt32 >>> ((8 : Int32).toUInt32 &&& Int32.toUInt32 31)).toInt32 := ⟨_, rfl⟩
        refine lv_iushr (v := x_20) hx hb dX5_append_29 ex_20.symm ?_
        refine lv_sipush (v := 255) hx hb dX5_append_30 (by decide) ?_
        refine lv_iand hx hb dX5_append_33 ?_
        refine lv_topi (fun x_21 ex_21 => ?_)
        have h_22 : vp_in x_16 200 := (vp_in_iff.mpr ⟨by omega, by omega⟩)
        refine va_iast hx hb hK hP hD hS 1 0 rfl rfl h_22 dX5_append_34 (fun H locs hP hD hS => ?_)
        have hP : va_P (dC, dI) vwCl [(hTape, .inr (5, [.ref aB, .int x_16])), (aB, .inl (cB, 200, .inl (upd g_15 x_16.toNatClampNeg x_21)))] H := hP
        have hD : va_D A [(hTape, .inr (5, [.ref aB, .int x_16])), (aB, .inl (cB, 200, .inl (upd g_15 x_16.toNatClampNeg x_21)))] := hD
        obtain ⟨g_23, eg_23⟩ : ∃ g : Nat → Int32, g = upd g_15 x_16.toNatClampNeg x_21 := ⟨_, rfl⟩
        rw [← eg_23] at hP hD
        refine lv_aload_n hx hb dX5_append_35 rfl (lv_at hl 1 rfl) ?_
        refine lv_dup hx hb dX5_append_36 rfl ?_
        refine va_get (D := (dC, dI)) (ci := 5) (v := .int x_16) (C := RX5) (T := TX5) (N := 2) hx hb hts hIX5 hown hK hP 0 rfl rfl 1 (by decide) (hts (.fieldLink RX5 15 "TraitHouse$Tape" "size" "I") (by decide +kernel)) (fun _ h9 => h9) rfl dX5_append_37 ?_
        refine lv_iconst (v := 1) hx hb dX5_append_40 (by decide) ?_
        refine lv_iadd hx hb dX5_append_41 ?_
        refine lv_topi (fun x_24 ex_24 => ?_)
        have dx_24 : x_24.toInt = x_16.toInt + 1 := by rw [ex_24]; exact jI_add rfl (by decide) (by omega) (by omega)
        refine va_put (D := (dC, dI)) (ci := 5) (v := .int x_24) (ty := .int) (C := RX5) (T := TX5) (N := 2) hx hb hts hIX5 tyX5 tyX5_ok nmX5 hown hK hP hD hS 0 rfl rfl 1 (by decide) (hts (.fieldLink RX5 15 "TraitHouse$Tape" "size" "I") (by decide +kernel)) (fun _ h9 => h9) rfl (by decide +kernel) rfl rfl (Nat.le_of_ble_eq_true rfl) dX5_append_42 (fun H locs hP hD hS => ?_)
        have hP : va_P (dC, dI) vwCl [(hTape, .inr (5, [.ref aB, .int x_24])), (aB, .inl (cB, 200, .inl g_23))] H := hP
        have hD : va_D A [(hTape, .inr (5, [.ref aB, .int x_24])), (aB, .inl (cB, 200, .inl g_23))] := hD
        refine lv_iinc (v := 0) (lv' := [(2, .int 0), (0, .ref hTape), (1, .int a)]) hx hb dX5_append_45 hl (k := 0) rfl (by decide) (by decide) rfl (fun ls hl => ?_)
        refine lv_goto (tgt := 2) hx hb dX5_append_48 (by decide) ?_
        refine lv_iload_n hx hb dX5_append_2 rfl (lv_at hl 0 rfl) ?_
        refine lv_if_lt (tgt := 51) hx hb dX5_append_3 (by decide) (fun c_25 => absurd c_25 (by decide)) (fun c_25 => ?_)
        refine lv_aload_n hx hb dX5_append_6 rfl (lv_at hl 1 rfl) ?_
        refine va_get (D := (dC, dI)) (ci := 5) (v := .int x_24) (C := RX5) (T := TX5) (N := 2) hx hb hts hIX5 hown hK hP 0 rfl rfl 1 (by decide) (hts (.fieldLink RX5 15 "TraitHouse$Tape" "size" "I") (by decide +kernel)) (fun _ h9 => h9) rfl dX5_append_7 ?_
        refine lv_sipush (v := 200) hx hb dX5_append_10 (by decide) ?_
        refine lv_icmp_ge (tgt := 51) hx hb dX5_append_13 (by decide) (fun c_26 => ?_) (fun c_26 => ?_)
        · have dc_26 : 200 ≤ x_24.toInt := jI_le c_26 (by decide) rfl
          exfalso; omega
        · have dc_26 : x_24.toInt < 200 := jI_nle c_26 (by decide) rfl
          refine lv_aload_n hx hb dX5_append_16 rfl (lv_at hl 1 rfl) ?_
          refine va_get (D := (dC, dI)) (ci := 5) (v := .ref aB) (C := RX5) (T := TX5) (N := 2) hx hb hts hIX5 hown hK hP 0 rfl rfl 0 (by decide) (hts (.fieldLink RX5 9 "TraitHouse$Tape" "bytes" "[I") (by decide +kernel)) (fun _ h9 => h9) rfl dX5_append_17 ?_
          refine lv_aload_n hx hb dX5_append_20 rfl (lv_at hl 1 rfl) ?_
          refine va_get (D := (dC, dI)) (ci := 5) (v := .int x_24) (C := RX5) (T := TX5) (N := 2) hx hb hts hIX5 hown hK hP 0 rfl rfl 1 (by decide) (hts (.fieldLink RX5 15 "TraitHouse$Tape" "size" "I") (by decide +kernel)) (fun _ h9 => h9) rfl dX5_append_21 ?_
          refine lv_iload_n hx hb dX5_append_24 rfl (lv_at hl 2 rfl) ?_
          refine lv_bipush (v := 8) hx hb dX5_append_25 (by decide) ?_
          refine lv_iload_n hx hb dX5_append_27 rfl (lv_at hl 0 rfl) ?_
          refine lv_imul hx hb dX5_append_28 ?_
          refine lv_topi (fun x_27 ex_27 => ?_)
          obtain rfl : x_27 = 0 := ex_27.trans (by decide)
          obtain ⟨x_28, ex_28⟩ : ∃ y : Int32, y = (a.toUInt32 >>> ((0 : Int32).toUInt32 &&& Int32.toUInt32 31)).toInt32 := ⟨_, rfl⟩
          refine lv_iushr (v := x_28) hx hb dX5_append_29 ex_28.symm ?_
          obtain rfl : a = x_28 := (ex_28.trans (jI_ushr0 _)).symm
          refine lv_sipush (v := 255) hx hb dX5_append_30 (by decide) ?_
          refine lv_iand hx hb dX5_append_33 ?_
          refine lv_topi (fun x_29 ex_29 => ?_)
          have h_30 : vp_in x_24 200 := (vp_in_iff.mpr ⟨by omega, by omega⟩)
          refine va_iast hx hb hK hP hD hS 1 0 rfl rfl h_30 dX5_append_34 (fun H locs hP hD hS => ?_)
          have hP : va_P (dC, dI) vwCl [(hTape, .inr (5, [.ref aB, .int x_24])), (aB, .inl (cB, 200, .inl (upd g_23 x_24.toNatClampNeg x_29)))] H := hP
          have hD : va_D A [(hTape, .inr (5, [.ref aB, .int x_24])), (aB, .inl (cB, 200, .inl (upd g_23 x_24.toNatClampNeg x_29)))] := hD
          obtain ⟨g_31, eg_31⟩ : ∃ g : Nat → Int32, g = upd g_23 x_24.toNatClampNeg x_29 := ⟨_, rfl⟩
          rw [← eg_31] at hP hD
          refine lv_aload_n hx hb dX5_append_35 rfl (lv_at hl 1 rfl) ?_
          refine lv_dup hx hb dX5_append_36 rfl ?_
          refine va_get (D := (dC, dI)) (ci := 5) (v := .int x_24) (C := RX5) (T := TX5) (N := 2) hx hb hts hIX5 hown hK hP 0 rfl rfl 1 (by decide) (hts (.fieldLink RX5 15 "TraitHouse$Tape" "size" "I") (by decide +kernel)) (fun _ h9 => h9) rfl dX5_append_37 ?_
          refine lv_iconst (v := 1) hx hb dX5_append_40 (by decide) ?_
          refine lv_iadd hx hb dX5_append_41 ?_
          refine lv_topi (fun x_32 ex_32 => ?_)
          have dx_32 : x_32.toInt = x_24.toInt + 1 := by rw [ex_32]; exact jI_add rfl (by decide) (by omega) (by omega)
          refine va_put (D := (dC, dI)) (ci := 5) (v := .int x_32) (ty := .int) (C := RX5) (T := TX5) (N := 2) hx hb hts hIX5 tyX5 tyX5_ok nmX5 hown hK hP hD hS 0 rfl rfl 1 (by decide) (hts (.fieldLink RX5 15 "TraitHouse$Tape" "size" "I") (by decide +kernel)) (fun _ h9 => h9) rfl (by decide +kernel) rfl rfl (Nat.le_of_ble_eq_true rfl) dX5_append_42 (fun H locs hP hD hS => ?_)
          have hP : va_P (dC, dI) vwCl [(hTape, .inr (5, [.ref aB, .int x_32])), (aB, .inl (cB, 200, .inl g_31))] H := hP
          have hD : va_D A [(hTape, .inr (5, [.ref aB, .int x_32])), (aB, .inl (cB, 200, .inl g_31))] := hD
          refine lv_iinc (v := (-1)) (lv' := [(2, .int (-1)), (0, .ref hTape), (1, .int a)]) hx hb dX5_append_45 hl (k := 0) rfl (by decide) (by decide) rfl (fun ls hl => ?_)
          refine lv_goto (tgt := 2) hx hb dX5_append_48 (by decide) ?_
          refine lv_iload_n hx hb dX5_append_2 rfl (lv_at hl 0 rfl) ?_
          refine lv_if_lt (tgt := 51) hx hb dX5_append_3 (by decide) (fun c_33 => ?_) (fun c_33 => absurd (by decide) c_33)
          have hP9 := hP.sub (ws' := [(hTape, .inr (5, [.ref aB, .int x_32])), (aB, .inl (cB, 200, .inl g_31))]) [0, 1] rfl
          have hD9 := hD.sub (ws' := [(hTape, .inr (5, [.ref aB, .int x_32])), (aB, .inl (cB, 200, .inl g_31))]) [0, 1] (by decide) rfl
          have hK9 := hK.sub (tys' := [(cB, .int)]) [0] rfl
          exact W.vret hx hb hr (fun t ht hW => ⟨⟨(x_32, g_31), rfl, by first | omega | (dsimp only; omega), by rw [ht]; exact hP9, va_K.moved hW.alike hK9, hD9⟩, hS.F ht⟩) hS.2.2 dX5_append_51

set_option maxHeartbeats 4000000 in
set_option maxRecDepth 100000 in
theorem c_X8_feed (l : Launch) (dC : Nat → ClassId) (dI : Nat → Nat → Nat) (sz : Nat) (h0 : Nat) (hRows : Nat) (hMer : Nat) (hEra : Nat) (hTape : Nat) (hRea : Nat) (hTra : Nat) (hWor : Nat) (hPla : Nat) (hMod : Nat) (hHe1 : Nat) (hHe2 : Nat) (aB : Nat) (cB : ClassId) (a : Int32) (b : Int32) (d : Int32) (e1 : Int32) (e2 : Int32)  : Met l yX8_feed wsX8_feed ({ frames := 1, cells := 0, slots := 0, locals := 22 }) (va_Pc [.ref h0, .int a, .int b, .int d, .int e1, .int e2] (fun U => U.heap.size = sz ∧ va_P (dC, dI) vwCl [(h0, .inr (8, [.ref hRows, .ref hMer, .ref hEra, .ref hTape, .ref hRea, .ref hTra, .ref hWor, .ref hPla, .ref hMod, .ref hHe1, .ref hHe2, .int 0, .int 0, .int 0, .int 0, .int (-1), .int 0])), (hTape, .inr (5, [.ref aB, .int 0])), (aB, .inl (cB, 200, .inl (fun _ => 0)))] U.heap ∧ va_K (dC, dI) vwCl [(cB, .int)] U ∧ va_D (fun _ => True) [(h0, .inr (8, [.ref hRows, .ref hMer, .ref hEra, .ref hTape, .ref hRea, .ref hTra, .ref hWor, .ref hPla, .ref hMod, .ref hHe1, .ref hHe2, .int 0, .int 0, .int 0, .int 0, .int (-1), .int 0])), (hTape, .inr (5, [.ref aB, .int 0])), (aB, .inl (cB, 200, .inl (fun _ => 0)))] ∧ nw_ok U)) (va_Qi (fun (r : Int32) (_ : Unit) => r.toInt = 20) (fun (_ : Unit) (t : State) => True) (va_A [(h0, .inr (8, [.ref hRows, .ref hMer, .ref hEra, .ref hTape, .ref hRea, .ref hTra, .ref hWor, .ref hPla, .ref hMod, .ref hHe1, .ref hHe2, .int 0, .int 0, .int 0, .int 0, .int (-1), .int 0])), (hTape, .inr (5, [.ref aB, .int 0])), (aB, .inl (cB, 200, .inl (fun _ => 0)))] sz)) 0 0 (va_A [(h0, .inr (8, [.ref hRows, .ref hMer, .ref hEra, .ref hTape, .ref hRea, .ref hTra, .ref hWor, .ref hPla, .ref hMod, .ref hHe1, .ref hHe2, .int 0, .int 0, .int 0, .int 0, .int (-1), .int 0])), (hTape, .inr (5, [.ref aB, .int 0])), (aB, .inl (cB, 200, .inl (fun _ => 0)))] sz) := by
  refine Met.ofW (cc := cX8_feed) (maxL := 6) (ret := (some .int)) (by decide) rfl ?_
  intro p e s m args below meth c s₁ B hml hv
  obtain ⟨rfl, hsz, hP, hK, hD0, hN⟩ := hv
  have hx := B.exec
  have hb := B.bytes
  have hr := B.returns
  have hts := atoms_spec (ws := wsX8_feed) B.pre
  have hown : s.vm.findClass RX8 = some m.cls := findClass_of_methodNamed B.named
  have hlocks := B.notSynchronized
  subst hsz
  have hD := hD0.self (sz := s.heap.size)
  generalize hAe : va_A [(h0, .inr (8, [.ref hRows, .ref hMer, .ref hEra, .ref hTape, .ref hRea, .ref hTra, .ref hWor, .ref hPla, .ref hMod, .ref hHe1, .ref hHe2, .int 0, .int 0, .int 0, .int 0, .int (-1), .int 0])), (hTape, .inr (5, [.ref aB, .int 0])), (aB, .inl (cB, 200, .inl (fun _ => 0)))] s.heap.size = A at hD ⊢
  have hA : ∀ q : Nat, s.heap.size ≤ q → A q := fun q h => by rw [← hAe]; exact Or.inr h
  have hS : va_S A s.heap s.heap [] := va_S.rf
  have hP : va_P (dC, dI) vwCl [(h0, .inr (8, [.ref hRows, .ref hMer, .ref hEra, .ref hTape, .ref hRea, .ref hTra, .ref hWor, .ref hPla, .ref hMod, .ref hHe1, .ref hHe2, .int 0, .int 0, .int 0, .int 0, .int (-1), .int 0])), (hTape, .inr (5, [.ref aB, .int 0])), (aB, .inl (cB, 200, .inl (fun _ => 0)))] s.heap := hP
  have hIX5 : ∀ w ∈ u_ws RX5 TX5 2, w ∈ wsX8_feed := by decide +kernel
  have hIX8 : ∀ w ∈ u_ws RX8 TX8 17, w ∈ wsX8_feed := by decide +kernel
  have hl := lv_entry ([.ref h0, .int a, .int b, .int d, .int e1, .int e2]) (n := 6) (Nat.le_of_ble_eq_true rfl)
  rw [lg_entry_eq]
  generalize (lg_sl ([.ref h0, .int a, .int b, .int d, .int e1, .int e2]) ++ List.replicate (6 - (lg_sl ([.ref h0, .int a, .int b, .int d, .int e1, .int e2])).length) Slot.unset).toArray = ls at hl ⊢
  have hl : lv_has ls 6 [(0, .ref h0), (1, .int a), (2, .int b), (3, .int d), (4, .int e1), (5, .int e2)] := hl
  refine lv_aload_n hx hb dX8_feed_0 rfl (lv_at hl 0 rfl) ?_
  refine va_get (D := (dC, dI)) (ci := 8) (v := .ref hTape) (C := RX8) (T := TX8) (N := 17) hx hb hts hIX8 hown hK hP 0 rfl rfl 3 (by decide) (hts (.fieldLink RX8 30 "TraitHouse" "tape" "LTraitHouse$Tape;") (by decide +kernel)) (fun _ h9 => h9) rfl dX8_feed_1 ?_
  refine va_getN (D := (dC, dI)) (ci := 5) (v := .int 0) (C := RX5) (T := TX5) (N := 2) hx hb hts hIX5 hown hK hP 1 rfl rfl 1 (by decide) (va_Nw.use rfl (nw_at hN 10 rfl)) (fun _ h9 => h9) rfl dX8_feed_4 ?_
  refine lv_bipush (v := 20) hx hb dX8_feed_7 (by decide) ?_
  refine lv_iadd hx hb dX8_feed_9 ?_
  refine lv_topi (fun x_1 ex_1 => ?_)
  obtain rfl : x_1 = 20 := ex_1.trans (by decide)
  refine lv_sipush (v := 200) hx hb dX8_feed_10 (by decide) ?_
  refine lv_icmp_le (tgt := 18) hx hb dX8_feed_13 (by decide) (fun c_2 => ?_) (fun c_2 => absurd (by decide) c_2)
  refine lv_aload_n hx hb dX8_feed_18 rfl (lv_at hl 0 rfl) ?_
  refine va_get (D := (dC, dI)) (ci := 8) (v := .ref hTape) (C := RX8) (T := TX8) (N := 17) hx hb hts hIX8 hown hK hP 0 rfl rfl 3 (by decide) (hts (.fieldLink RX8 30 "TraitHouse" "tape" "LTraitHouse$Tape;") (by decide +kernel)) (fun _ h9 => h9) rfl dX8_feed_19 ?_
  refine lv_iload_n hx hb dX8_feed_22 rfl (lv_at hl 1 rfl) ?_
  have hk_3 : (0 : Int32).toInt = 0 := by decide
  have hPc := hP.sub (ws' := [(hTape, .inr (5, [.ref aB, .int 0])), (aB, .inl (cB, 200, .inl (fun _ => 0)))]) [1, 2] rfl
  have hDc := hD.sub (ws' := [(hTape, .inr (5, [.ref aB, .int 0])), (aB, .inl (cB, 200, .inl (fun _ => 0)))]) [1, 2] (by decide) rfl
  have hKc := hK.sub (tys' := [(cB, .int)]) [0] rfl
  have hFc := va_free (wc := [(hTape, .inr (5, [.ref aB, .int 0])), (aB, .inl (cB, 200, .inl (fun _ => 0)))]) hD hS hA [1, 2] rfl
  refine va_callv (va_runVN (As := [.int a]) (rest := []) ⟨hx, hb, hml, hown, hts⟩ (c_X5_append l dC dI s.heap.size hTape aB cB (fun _ => 0) 0 a (by omega) (by omega)) ⟨(va_cnB 1 hts gX8_feed_X5_append_n145 rfl rfl rfl (nw_at hN 44 rfl) (hts (.initialized RX5) (by decide +kernel)) (by decide +kernel) ⟨Nat.le_of_ble_eq_true rfl, Nat.le_of_ble_eq_true rfl⟩), (hts (.instanceMethod yX5_append) (by decide +kernel)), (hts (.selects RX5 yX5_append yX5_append) (by decide +kernel))⟩ ⟨fun a U g mk q => by obtain ⟨q0, q1, qP, qK, qD, qN⟩ := q; exact ⟨q0, q1, qP, va_K.moved (u := U) (U := U.calling g mk a) (Vm.Alike.refl U.vm) qK, qD, qN.same rfl⟩, va_recv hKc hPc (ci := 5) (q0 := 0) rfl rfl, fun U hU hW => ⟨rfl, by rw [hU], by rw [hU]; exact hPc, va_K.moved hW.alike hKc, hDc.weaken (fun _ _ _ _ => trivial), hN.warm hW⟩⟩ rfl rfl hl.1 rfl (lv_room (Nat.le_of_ble_eq_true rfl)) dX8_feed_23 ⟨Nat.le_of_ble_eq_true rfl, Nat.le_of_ble_eq_true rfl⟩) hS (fun q _ h => hFc q h) hFc (fun u_4 t H1 locs ht hvm hw_5 hB hz1 hk1 hS => ?_)
  obtain ⟨w_6, w_7⟩ := u_4
  try dsimp only at hw_5
  obtain ⟨hP1, hK1, hD1⟩ := hB
  rw [ht] at hP1
  have hK1 := va_K.moved hvm.symm hK1
  obtain ⟨hP, hD⟩ := va_join (wr := [(h0, .inr (8, [.ref hRows, .ref hMer, .ref hEra, .ref hTape, .ref hRea, .ref hTra, .ref hWor, .ref hPla, .ref hMod, .ref hHe1, .ref hHe2, .int 0, .int 0, .int 0, .int 0, .int (-1), .int 0]))]) (w1 := [(hTape, .inr (5, [.ref aB, .int w_6])), (aB, .inl (cB, 200, .inl w_7))]) hP hD [1, 2] [0] rfl rfl (by decide) (by decide) hk1 hFc hP1 hD1
  have hK := (hK.sub (tys' := [(cB, .int)]) [0] rfl).app hK1
  generalize H1 = H at hP hS ⊢
  have hP : va_P (dC, dI) vwCl [(h0, .inr (8, [.ref hRows, .ref hMer, .ref hEra, .ref hTape, .ref hRea, .ref hTra, .ref hWor, .ref hPla, .ref hMod, .ref hHe1, .ref hHe2, .int 0, .int 0, .int 0, .int 0, .int (-1), .int 0])), (hTape, .inr (5, [.ref aB, .int w_6])), (aB, .inl (cB, 200, .inl w_7))] H := hP
  have hD : va_D A [(h0, .inr (8, [.ref hRows, .ref hMer, .ref hEra, .ref hTape, .ref hRea, .ref hTra, .ref hWor, .ref hPla, .ref hMod, .ref hHe1, .ref hHe2, .int 0, .int 0, .int 0, .int 0, .int (-1), .int 0])), (hTape, .inr (5, [.ref aB, .int w_6])), (aB, .inl (cB, 200, .inl w_7))] := hD
  have hK : va_K (dC, dI) vwCl [(cB, .int), (cB, .int)] s := hK
  refine lv_aload_n hx hb dX8_feed_26 rfl (lv_at hl 0 rfl) ?_
  refine va_get (D := (dC, dI)) (ci := 8) (v := .ref hTape) (C := RX8) (T := TX8) (N := 17) hx hb hts hIX8 hown hK hP 0 rfl rfl 3 (by decide) (hts (.fieldLink RX8 30 "TraitHouse" "tape" "LTraitHouse$Tape;") (by decide +kernel)) (fun _ h9 => h9) rfl dX8_feed_27 ?_
  refine lv_iload_n hx hb dX8_feed_30 rfl (lv_at hl 2 rfl) ?_
  have hPc := hP.sub (ws' := [(hTape, .inr (5, [.ref aB, .int w_6])), (aB, .inl (cB, 200, .inl w_7))]) [1, 2] rfl
  have hDc := hD.sub (ws' := [(hTape, .inr (5, [.ref aB, .int w_6])), (aB, .inl (cB, 200, .inl w_7))]) [1, 2] (by decide) rfl
  have hKc := hK.sub (tys' := [(cB, .int)]) [0] rfl
  have hFc := va_free (wc := [(hTape, .inr (5, [.ref aB, .int w_6])), (aB, .inl (cB, 200, .inl w_7))]) hD hS hA [1, 2] rfl
  refine va_callv (va_runVN (As := [.int b]) (rest := []) ⟨hx, hb, hml, hown, hts⟩ (c_X5_append l dC dI H.size hTape aB cB w_7 w_6 b (by omega) (by omega)) ⟨(va_cnB 1 hts gX8_feed_X5_append_n145 rfl rfl rfl (nw_at hN 44 rfl) (hts (.initialized RX5) (by decide +kernel)) (by decide +kernel) ⟨Nat.le_of_ble_eq_true rfl, Nat.le_of_ble_eq_true rfl⟩), (hts (.instanceMethod yX5_append) (by decide +kernel)), (hts (.selects RX5 yX5_append yX5_append) (by decide +kernel))⟩ ⟨fun a U g mk q => by obtain ⟨q0, q1, qP, qK, qD, qN⟩ := q; exact ⟨q0, q1, qP, va_K.moved (u := U) (U := U.calling g mk a) (Vm.Alike.refl U.vm) qK, qD, qN.same rfl⟩, va_recv hKc hPc (ci := 5) (q0 := 0) rfl rfl, fun U hU hW => ⟨rfl, by rw [hU], by rw [hU]; exact hPc, va_K.moved hW.alike hKc, hDc.weaken (fun _ _ _ _ => trivial), hN.warm hW⟩⟩ rfl rfl hl.1 rfl (lv_room (Nat.le_of_ble_eq_true rfl)) dX8_feed_31 ⟨Nat.le_of_ble_eq_true rfl, Nat.le_of_ble_eq_true rfl⟩) hS (fun q _ h => hFc q h) hFc (fun u_8 t H1 locs ht hvm hw_9 hB hz1 hk1 hS => ?_)
  obtain ⟨w_10, w_11⟩ := u_8
  try dsimp only at hw_9
  obtain ⟨hP1, hK1, hD1⟩ := hB
  rw [ht] at hP1
  have hK1 := va_K.moved hvm.symm hK1
  obtain ⟨hP, hD⟩ := va_join (wr := [(h0, .inr (8, [.ref hRows, .ref hMer, .ref hEra, .ref hTape, .ref hRea, .ref hTra, .ref hWor, .ref hPla, .ref hMod, .ref hHe1, .ref hHe2, .int 0, .int 0, .int 0, .int 0, .int (-1), .int 0]))]) (w1 := [(hTape, .inr (5, [.ref aB, .int w_10])), (aB, .inl (cB, 200, .inl w_11))]) hP hD [1, 2] [0] rfl rfl (by decide) (by decide) hk1 hFc hP1 hD1
  have hK := (hK.sub (tys' := [(cB, .int), (cB, .int)]) [0, 1] rfl).app hK1
  generalize H1 = H at hP hS ⊢
  have hP : va_P (dC, dI) vwCl [(h0, .inr (8, [.ref hRows, .ref hMer, .ref hEra, .ref hTape, .ref hRea, .ref hTra, .ref hWor, .ref hPla, .ref hMod, .ref hHe1, .ref hHe2, .int 0, .int 0, .int 0, .int 0, .int (-1), .int 0])), (hTape, .inr (5, [.ref aB, .int w_10])), (aB, .inl (cB, 200, .inl w_11))] H := hP
  have hD : va_D A [(h0, .inr (8, [.ref hRows, .ref hMer, .ref hEra, .ref hTape, .ref hRea, .ref hTra, .ref hWor, .ref hPla, .ref hMod, .ref hHe1, .ref hHe2, .int 0, .int 0, .int 0, .int 0, .int (-1), .int 0])), (hTape, .inr (5, [.ref aB, .int w_10])), (aB, .inl (cB, 200, .inl w_11))] := hD
  have hK : va_K (dC, dI) vwCl [(cB, .int), (cB, .int), (cB, .int)] s := hK
  refine lv_aload_n hx hb dX8_feed_34 rfl (lv_at hl 0 rfl) ?_
  refine va_get (D := (dC, dI)) (ci := 8) (v := .ref hTape) (C := RX8) (T := TX8) (N := 17) hx hb hts hIX8 hown hK hP 0 rfl rfl 3 (by decide) (hts (.fieldLink RX8 30 "TraitHouse" "tape" "LTraitHouse$Tape;") (by decide +kernel)) (fun _ h9 => h9) rfl dX8_feed_35 ?_
  refine lv_iload_n hx hb dX8_feed_38 rfl (lv_at hl 3 rfl) ?_
  have hPc := hP.sub (ws' := [(hTape, .inr (5, [.ref aB, .int w_10])), (aB, .inl (cB, 200, .inl w_11))]) [1, 2] rfl
  have hDc := hD.sub (ws' := [(hTape, .inr (5, [.ref aB, .int w_10])), (aB, .inl (cB, 200, .inl w_11))]) [1, 2] (by decide) rfl
  have hKc := hK.sub (tys' := [(cB, .int)]) [0] rfl
  have hFc := va_free (wc := [(hTape, .inr (5, [.ref aB, .int w_10])), (aB, .inl (cB, 200, .inl w_11))]) hD hS hA [1, 2] rfl
  refine va_callv (va_runVN (As := [.int d]) (rest := []) ⟨hx, hb, hml, hown, hts⟩ (c_X5_append l dC dI H.size hTape aB cB w_11 w_10 d (by omega) (by omega)) ⟨(va_cnB 1 hts gX8_feed_X5_append_n145 rfl rfl rfl (nw_at hN 44 rfl) (hts (.initialized RX5) (by decide +kernel)) (by decide +kernel) ⟨Nat.le_of_ble_eq_true rfl, Nat.le_of_ble_eq_true rfl⟩), (hts (.instanceMethod yX5_append) (by decide +kernel)), (hts (.selects RX5 yX5_append yX5_append) (by decide +kernel))⟩ ⟨fun a U g mk q => by obtain ⟨q0, q1, qP, qK, qD, qN⟩ := q; exact ⟨q0, q1, qP, va_K.moved (u := U) (U := U.calling g mk a) (Vm.Alike.refl U.vm) qK, qD, qN.same rfl⟩, va_recv hKc hPc (ci := 5) (q0 := 0) rfl rfl, fun U hU hW => ⟨rfl, by rw [hU], by rw [hU]; exact hPc, va_K.moved hW.alike hKc, hDc.weaken (fun _ _ _ _ => trivial), hN.warm hW⟩⟩ rfl rfl hl.1 rfl (lv_room (Nat.le_of_ble_eq_true rfl)) dX8_feed_39 ⟨Nat.le_of_ble_eq_true rfl, Nat.le_of_ble_eq_true rfl⟩) hS (fun q _ h => hFc q h) hFc (fun u_12 t H1 locs ht hvm hw_13 hB hz1 hk1 hS => ?_)
  obtain ⟨w_14, w_15⟩ := u_12
  try dsimp only at hw_13
  obtain ⟨hP1, hK1, hD1⟩ := hB
  rw [ht] at hP1
  have hK1 := va_K.moved hvm.symm hK1
  obtain ⟨hP, hD⟩ := va_join (wr := [(h0, .inr (8, [.ref hRows, .ref hMer, .ref hEra, .ref hTape, .ref hRea, .ref hTra, .ref hWor, .ref hPla, .ref hMod, .ref hHe1, .ref hHe2, .int 0, .int 0, .int 0, .int 0, .int (-1), .int 0]))]) (w1 := [(hTape, .inr (5, [.ref aB, .int w_14])), (aB, .inl (cB, 200, .inl w_15))]) hP hD [1, 2] [0] rfl rfl (by decide) (by decide) hk1 hFc hP1 hD1
  have hK := (hK.sub (tys' := [(cB, .int), (cB, .int), (cB, .int)]) [0, 1, 2] rfl).app hK1
  generalize H1 = H at hP hS ⊢
  have hP : va_P (dC, dI) vwCl [(h0, .inr (8, [.ref hRows, .ref hMer, .ref hEra, .ref hTape, .ref hRea, .ref hTra, .ref hWor, .ref hPla, .ref hMod, .ref hHe1, .ref hHe2, .int 0, .int 0, .int 0, .int 0, .int (-1), .int 0])), (hTape, .inr (5, [.ref aB, .int w_14])), (aB, .inl (cB, 200, .inl w_15))] H := hP
  have hD : va_D A [(h0, .inr (8, [.ref hRows, .ref hMer, .ref hEra, .ref hTape, .ref hRea, .ref hTra, .ref hWor, .ref hPla, .ref hMod, .ref hHe1, .ref hHe2, .int 0, .int 0, .int 0, .int 0, .int (-1), .int 0])), (hTape, .inr (5, [.ref aB, .int w_14])), (aB, .inl (cB, 200, .inl w_15))] := hD
  have hK : va_K (dC, dI) vwCl [(cB, .int), (cB, .int), (cB, .int), (cB, .int)] s := hK
  refine lv_aload_n hx hb dX8_feed_42 rfl (lv_at hl 0 rfl) ?_
  refine va_get (D := (dC, dI)) (ci := 8) (v := .ref hTape) (C := RX8) (T := TX8) (N := 17) hx hb hts hIX8 hown hK hP 0 rfl rfl 3 (by decide) (hts (.fieldLink RX8 30 "TraitHouse" "tape" "LTraitHouse$Tape;") (by decide +kernel)) (fun _ h9 => h9) rfl dX8_feed_43 ?_
  refine lv_iload hx hb dX8_feed_46 (lv_at hl 4 rfl) ?_
  have hPc := hP.sub (ws' := [(hTape, .inr (5, [.ref aB, .int w_14])), (aB, .inl (cB, 200, .inl w_15))]) [1, 2] rfl
  have hDc := hD.sub (ws' := [(hTape, .inr (5, [.ref aB, .int w_14])), (aB, .inl (cB, 200, .inl w_15))]) [1, 2] (by decide) rfl
  have hKc := hK.sub (tys' := [(cB, .int)]) [0] rfl
  have hFc := va_free (wc := [(hTape, .inr (5, [.ref aB, .int w_14])), (aB, .inl (cB, 200, .inl w_15))]) hD hS hA [1, 2] rfl
  refine va_callv (va_runVN (As := [.int e1]) (rest := []) ⟨hx, hb, hml, hown, hts⟩ (c_X5_append l dC dI H.size hTape aB cB w_15 w_14 e1 (by omega) (by omega)) ⟨(va_cnB 1 hts gX8_feed_X5_append_n145 rfl rfl rfl (nw_at hN 44 rfl) (hts (.initialized RX5) (by decide +kernel)) (by decide +kernel) ⟨Nat.le_of_ble_eq_true rfl, Nat.le_of_ble_eq_true rfl⟩), (hts (.instanceMethod yX5_append) (by decide +kernel)), (hts (.selects RX5 yX5_append yX5_append) (by decide +kernel))⟩ ⟨fun a U g mk q => by obtain ⟨q0, q1, qP, qK, qD, qN⟩ := q; exact ⟨q0, q1, qP, va_K.moved (u := U) (U := U.calling g mk a) (Vm.Alike.refl U.vm) qK, qD, qN.same rfl⟩, va_recv hKc hPc (ci := 5) (q0 := 0) rfl rfl, fun U hU hW => ⟨rfl, by rw [hU], by rw [hU]; exact hPc, va_K.moved hW.alike hKc, hDc.weaken (fun _ _ _ _ => trivial), hN.warm hW⟩⟩ rfl rfl hl.1 rfl (lv_room (Nat.le_of_ble_eq_true rfl)) dX8_feed_48 ⟨Nat.le_of_ble_eq_true rfl, Nat.le_of_ble_eq_true rfl⟩) hS (fun q _ h => hFc q h) hFc (fun u_16 t H1 locs ht hvm hw_17 hB hz1 hk1 hS => ?_)
  obtain ⟨w_18, w_19⟩ := u_16
  try dsimp only at hw_17
  obtain ⟨hP1, hK1, hD1⟩ := hB
  rw [ht] at hP1
  have hK1 := va_K.moved hvm.symm hK1
  obtain ⟨hP, hD⟩ := va_join (wr := [(h0, .inr (8, [.ref hRows, .ref hMer, .ref hEra, .ref hTape, .ref hRea, .ref hTra, .ref hWor, .ref hPla, .ref hMod, .ref hHe1, .ref hHe2, .int 0, .int 0, .int 0, .int 0, .int (-1), .int 0]))]) (w1 := [(hTape, .inr (5, [.ref aB, .int w_18])), (aB, .inl (cB, 200, .inl w_19))]) hP hD [1, 2] [0] rfl rfl (by decide) (by decide) hk1 hFc hP1 hD1
  have hK := (hK.sub (tys' := [(cB, .int), (cB, .int), (cB, .int), (cB, .int)]) [0, 1, 2, 3] rfl).app hK1
  generalize H1 = H at hP hS ⊢
  have hP : va_P (dC, dI) vwCl [(h0, .inr (8, [.ref hRows, .ref hMer, .ref hEra, .ref hTape, .ref hRea, .ref hTra, .ref hWor, .ref hPla, .ref hMod, .ref hHe1, .ref hHe2, .int 0, .int 0, .int 0, .int 0, .int (-1), .int 0])), (hTape, .inr (5, [.ref aB, .int w_18])), (aB, .inl (cB, 200, .inl w_19))] H := hP
  have hD : va_D A [(h0, .inr (8, [.ref hRows, .ref hMer, .ref hEra, .ref hTape, .ref hRea, .ref hTra, .ref hWor, .ref hPla, .ref hMod, .ref hHe1, .ref hHe2, .int 0, .int 0, .int 0, .int 0, .int (-1), .int 0])), (hTape, .inr (5, [.ref aB, .int w_18])), (aB, .inl (cB, 200, .inl w_19))] := hD
  have hK : va_K (dC, dI) vwCl [(cB, .int), (cB, .int), (cB, .int), (cB, .int), (cB, .int)] s := hK
  refine lv_aload_n hx hb dX8_feed_51 rfl (lv_at hl 0 rfl) ?_
  refine va_get (D := (dC, dI)) (ci := 8) (v := .ref hTape) (C := RX8) (T := TX8) (N := 17) hx hb hts hIX8 hown hK hP 0 rfl rfl 3 (by decide) (hts (.fieldLink RX8 30 "TraitHouse" "tape" "LTraitHouse$Tape;") (by decide +kernel)) (fun _ h9 => h9) rfl dX8_feed_52 ?_
  refine lv_iload hx hb dX8_feed_55 (lv_at hl 5 rfl) ?_
  have hPc := hP.sub (ws' := [(hTape, .inr (5, [.ref aB, .int w_18])), (aB, .inl (cB, 200, .inl w_19))]) [1, 2] rfl
  have hDc := hD.sub (ws' := [(hTape, .inr (5, [.ref aB, .int w_18])), (aB, .inl (cB, 200, .inl w_19))]) [1, 2] (by decide) rfl
  have hKc := hK.sub (tys' := [(cB, .int)]) [0] rfl
  have hFc := va_free (wc := [(hTape, .inr (5, [.ref aB, .int w_18])), (aB, .inl (cB, 200, .inl w_19))]) hD hS hA [1, 2] rfl
  refine va_callv (va_runVN (As := [.int e2]) (rest := []) ⟨hx, hb, hml, hown, hts⟩ (c_X5_append l dC dI H.size hTape aB cB w_19 w_18 e2 (by omega) (by omega)) ⟨(va_cnB 1 hts gX8_feed_X5_append_n145 rfl rfl rfl (nw_at hN 44 rfl) (hts (.initialized RX5) (by decide +kernel)) (by decide +kernel) ⟨Nat.le_of_ble_eq_true rfl, Nat.le_of_ble_eq_true rfl⟩), (hts (.instanceMethod yX5_append) (by decide +kernel)), (hts (.selects RX5 yX5_append yX5_append) (by decide +kernel))⟩ ⟨fun a U g mk q => by obtain ⟨q0, q1, qP, qK, qD, qN⟩ := q; exact ⟨q0, q1, qP, va_K.moved (u := U) (U := U.calling g mk a) (Vm.Alike.refl U.vm) qK, qD, qN.same rfl⟩, va_recv hKc hPc (ci := 5) (q0 := 0) rfl rfl, fun U hU hW => ⟨rfl, by rw [hU], by rw [hU]; exact hPc, va_K.moved hW.alike hKc, hDc.weaken (fun _ _ _ _ => trivial), hN.warm hW⟩⟩ rfl rfl hl.1 rfl (lv_room (Nat.le_of_ble_eq_true rfl)) dX8_feed_57 ⟨Nat.le_of_ble_eq_true rfl, Nat.le_of_ble_eq_true rfl⟩) hS (fun q _ h => hFc q h) hFc (fun u_20 t H1 locs ht hvm hw_21 hB hz1 hk1 hS => ?_)
  obtain ⟨w_22, w_23⟩ := u_20
  try dsimp only at hw_21
  obtain ⟨hP1, hK1, hD1⟩ := hB
  rw [ht] at hP1
  have hK1 := va_K.moved hvm.symm hK1
  obtain ⟨hP, hD⟩ := va_join (wr := [(h0, .inr (8, [.ref hRows, .ref hMer, .ref hEra, .ref hTape, .ref hRea, .ref hTra, .ref hWor, .ref hPla, .ref hMod, .ref hHe1, .ref hHe2, .int 0, .int 0, .int 0, .int 0, .int (-1), .int 0]))]) (w1 := [(hTape, .inr (5, [.ref aB, .int w_22])), (aB, .inl (cB, 200, .inl w_23))]) hP hD [1, 2] [0] rfl rfl (by decide) (by decide) hk1 hFc hP1 hD1
  have hK := (hK.sub (tys' := [(cB, .int), (cB, .int), (cB, .int), (cB, .int), (cB, .int)]) [0, 1, 2, 3, 4] rfl).app hK1
  generalize H1 = H at hP hS ⊢
  have hP : va_P (dC, dI) vwCl [(h0, .inr (8, [.ref hRows, .ref hMer, .ref hEra, .ref hTape, .ref hRea, .ref hTra, .ref hWor, .ref hPla, .ref hMod, .ref hHe1, .ref hHe2, .int 0, .int 0, .int 0, .int 0, .int (-1), .int 0])), (hTape, .inr (5, [.ref aB, .int w_22])), (aB, .inl (cB, 200, .inl w_23))] H := hP
  have hD : va_D A [(h0, .inr (8, [.ref hRows, .ref hMer, .ref hEra, .ref hTape, .ref hRea, .ref hTra, .ref hWor, .ref hPla, .ref hMod, .ref hHe1, .ref hHe2, .int 0, .int 0, .int 0, .int 0, .int (-1), .int 0])), (hTape, .inr (5, [.ref aB, .int w_22])), (aB, .inl (cB, 200, .inl w_23))] := hD
  have hK : va_K (dC, dI) vwCl [(cB, .int), (cB, .int), (cB, .int), (cB, .int), (cB, .int), (cB, .int)] s := hK
  refine lv_aload_n hx hb dX8_feed_60 rfl (lv_at hl 0 rfl) ?_
  refine va_get (D := (dC, dI)) (ci := 8) (v := .ref hTape) (C := RX8) (T := TX8) (N := 17) hx hb hts hIX8 hown hK hP 0 rfl rfl 3 (by decide) (hts (.fieldLink RX8 30 "TraitHouse" "tape" "LTraitHouse$Tape;") (by decide +kernel)) (fun _ h9 => h9) rfl dX8_feed_61 ?_
  refine va_getN (D := (dC, dI)) (ci := 5) (v := .int w_22) (C := RX5) (T := TX5) (N := 2) hx hb hts hIX5 hown hK hP 1 rfl rfl 1 (by decide) (va_Nw.use rfl (nw_at hN 10 rfl)) (fun _ h9 => h9) rfl dX8_feed_64 ?_
  have hans : (w_22 : Int32).toInt = w_22.toInt := rfl
  exact W.iret (v := w_22) hx hb hr (fun t ht hW => ⟨⟨w_22, (), rfl, by first | omega | (dsimp only; omega), trivial⟩, hS.F ht⟩) hS.2.2 dX8_feed_67
