theorem dX5_append_0 : decode cX5_append 0 = .ok (.iconst 3, 1) := by decide +kernel
theorem dX5_append_1 : decode cX5_append 1 = .ok (.istore_n 2, 1) := by decide +kernel
theorem dX5_append_2 : decode cX5_append 2 = .ok (.iload_n 2, 1) := by decide +kernel
theorem dX5_append_3 : decode cX5_append 3 = .ok (.ifCond .lt 48, 3) := by decide +kernel
theorem dX5_append_51 : decode cX5_append 51 = .ok (.return_, 1) := by decide +kernel
theorem dX5_append_6 : decode cX5_append 6 = .ok (.aload_n 0, 1) := by decide +kernel
theorem dX5_append_7 : decode cX5_append 7 = .ok (.getfield 15, 3) := by decide +kernel
theorem dX5_append_10 : decode cX5_append 10 = .ok (.sipush 200, 3) := by decide +kernel
theorem dX5_append_13 : decode cX5_append 13 = .ok (.if_icmp .ge 38, 3) := by decide +kernel
theorem dX5_append_16 : decode cX5_append 16 = .ok (.aload_n 0, 1) := by decide +kernel
theorem dX5_append_17 : decode cX5_append 17 = .ok (.getfield 9, 3) := by decide +kernel
theorem dX5_append_20 : decode cX5_append 20 = .ok (.aload_n 0, 1) := by decide +kernel
theorem dX5_append_21 : decode cX5_append 21 = .ok (.getfield 15, 3) := by decide +kernel
theorem dX5_append_24 : decode cX5_append 24 = .ok (.iload_n 1, 1) := by decide +kernel
theorem dX5_append_25 : decode cX5_append 25 = .ok (.bipush 8, 2) := by decide +kernel
theorem dX5_append_27 : decode cX5_append 27 = .ok (.iload_n 2, 1) := by decide +kernel
theorem dX5_append_28 : decode cX5_append 28 = .ok (.imul, 1) := by decide +kernel
theorem dX5_append_29 : decode cX5_append 29 = .ok (.iushr, 1) := by decide +kernel
theorem dX5_append_30 : decode cX5_append 30 = .ok (.sipush 255, 3) := by decide +kernel
theorem dX5_append_33 : decode cX5_append 33 = .ok (.iand, 1) := by decide +kernel
theorem dX5_append_34 : decode cX5_append 34 = .ok (.iastore, 1) := by decide +kernel
theorem dX5_append_35 : decode cX5_append 35 = .ok (.aload_n 0, 1) := by decide +kernel
theorem dX5_append_36 : decode cX5_append 36 = .ok (.dup, 1) := by decide +kernel
theorem dX5_append_37 : decode cX5_append 37 = .ok (.getfield 15, 3) := by decide +kernel
theorem dX5_append_40 : decode cX5_append 40 = .ok (.iconst 1, 1) := by decide +kernel
theorem dX5_append_41 : decode cX5_append 41 = .ok (.iadd, 1) := by decide +kernel
theorem dX5_append_42 : decode cX5_append 42 = .ok (.putfield 15, 3) := by decide +kernel
theorem dX5_append_45 : decode cX5_append 45 = .ok (.iinc 2 (-1), 3) := by decide +kernel
theorem dX5_append_48 : decode cX5_append 48 = .ok (.goto (-46), 3) := by decide +kernel
theorem dX8_feed_0 : decode cX8_feed 0 = .ok (.aload_n 0, 1) := by decide +kernel
theorem dX8_feed_1 : decode cX8_feed 1 = .ok (.getfield 30, 3) := by decide +kernel
theorem dX8_feed_4 : decode cX8_feed 4 = .ok (.getfield 142, 3) := by decide +kernel
theorem dX8_feed_7 : decode cX8_feed 7 = .ok (.bipush 20, 2) := by decide +kernel
theorem dX8_feed_9 : decode cX8_feed 9 = .ok (.iadd, 1) := by decide +kernel
theorem dX8_feed_10 : decode cX8_feed 10 = .ok (.sipush 200, 3) := by decide +kernel
theorem dX8_feed_13 : decode cX8_feed 13 = .ok (.if_icmp .le 5, 3) := by decide +kernel
theorem dX8_feed_18 : decode cX8_feed 18 = .ok (.aload_n 0, 1) := by decide +kernel
theorem dX8_feed_19 : decode cX8_feed 19 = .ok (.getfield 30, 3) := by decide +kernel
theorem dX8_feed_22 : decode cX8_feed 22 = .ok (.iload_n 1, 1) := by decide +kernel
set_option maxRecDepth 20000 in
theorem ggX8_feed_X5_append : GoodIn wsX8_feed wsX5_append := goodIn_r _ [5, 6, 7, 25, 26] (by decide +kernel) (by decide +kernel)
set_option maxRecDepth 20000 in
theorem gX8_feed_X5_append_n145 : GoodIn wsX8_feed (wsX5_append) := ggX8_feed_X5_append
theorem dX8_feed_23 : decode cX8_feed 23 = .ok (.invokevirtual 145, 3) := by decide +kernel
theorem dX8_feed_26 : decode cX8_feed 26 = .ok (.aload_n 0, 1) := by decide +kernel
theorem dX8_feed_27 : decode cX8_feed 27 = .ok (.getfield 30, 3) := by decide +kernel
theorem dX8_feed_30 : decode cX8_feed 30 = .ok (.iload_n 2, 1) := by decide +kernel
theorem dX8_feed_31 : decode cX8_feed 31 = .ok (.invokevirtual 145, 3) := by decide +kernel
theorem dX8_feed_34 : decode cX8_feed 34 = .ok (.aload_n 0, 1) := by decide +kernel
theorem dX8_feed_35 : decode cX8_feed 35 = .ok (.getfield 30, 3) := by decide +kernel
theorem dX8_feed_38 : decode cX8_feed 38 = .ok (.iload_n 3, 1) := by decide +kernel
theorem dX8_feed_39 : decode cX8_feed 39 = .ok (.invokevirtual 145, 3) := by decide +kernel
theorem dX8_feed_42 : decode cX8_feed 42 = .ok (.aload_n 0, 1) := by decide +kernel
theorem dX8_feed_43 : decode cX8_feed 43 = .ok (.getfield 30, 3) := by decide +kernel
theorem dX8_feed_46 : decode cX8_feed 46 = .ok (.iload 4, 2) := by decide +kernel
theorem dX8_feed_48 : decode cX8_feed 48 = .ok (.invokevirtual 145, 3) := by decide +kernel
theorem dX8_feed_51 : decode cX8_feed 51 = .ok (.aload_n 0, 1) := by decide +kernel
theorem dX8_feed_52 : decode cX8_feed 52 = .ok (.getfield 30, 3) := by decide +kernel
theorem dX8_feed_55 : decode cX8_feed 55 = .ok (.iload 5, 2) := by decide +kernel
theorem dX8_feed_57 : decode cX8_feed 57 = .ok (.invokevirtual 145, 3) := by decide +kernel
theorem dX8_feed_60 : decode cX8_feed 60 = .ok (.aload_n 0, 1) := by decide +kernel
theorem dX8_feed_61 : decode cX8_feed 61 = .ok (.getfield 30, 3) := by decide +kernel
theorem dX8_feed_64 : decode cX8_feed 64 = .ok (.getfield 142, 3) := by decide +kernel
theorem dX8_feed_67 : decode cX8_feed 67 = .ok (.ireturn, 1) := by decide +kernel
theorem dX8_feed_16 : decode cX8_feed 16 = .ok (.iconst (-1), 1) := by decide +kernel
theorem dX8_feed_17 : decode cX8_feed 17 = .ok (.ireturn, 1) := by decide +kernel
set_option maxHeartbeats 8000000 in
set_option maxRecDepth 100000 in
theorem k_X5_append (l : Launch) (dC : Nat → ClassId) (dI : Nat → Nat → Nat) (cA : Nat → ClassId) (sz : Nat) (ax : Nat → Nat) (xTz : Int32) (gB : Nat → Int32) (a : Int32) (i_xTz : 0 ≤ xTz.toInt ∧ xTz.toInt ≤ 200) (i_gB : inB 0 255 200 gB)  : Met l yX5_append wsX5_append ({ frames := 0, cells := 0, slots := 0, locals := 0 }) (va_Pc [.ref (ax 11), .int a] (fun U => U.heap.size = sz ∧ va_P (dC, dI) vwCl [((ax 11), .inr (5, [.ref (ax 12), .int xTz])), ((ax 12), .inl (cA 0, 200, .inl gB))] U.heap ∧ va_K (dC, dI) vwCl (tyL cA) U ∧ va_D (fun _ => True) [((ax 11), .inr (5, [.ref (ax 12), .int xTz])), ((ax 12), .inl (cA 0, 200, .inl gB))] ∧ nw_ok U)) (va_Qv (fun (u : Int32 × (Nat → Int32)) => (0 ≤ u.1.toInt ∧ u.1.toInt ≤ 200) ∧ (inB 0 255 200 u.2) ∧ ((xTz.toInt ≤ 196 → u.1.toInt = xTz.toInt + 4)) ∧ (xTz.toInt ≤ 196 → tpe u.2 u.1 = apl (tpe gB xTz) xTz.toInt (byt a) 4)) (fun (u : Int32 × (Nat → Int32)) (t : State) => va_P (dC, dI) vwCl [((ax 11), .inr (5, [.ref (ax 12), .int u.1])), ((ax 12), .inl (cA 0, 200, .inl u.2))] t.heap ∧ va_D (va_A [((ax 11), .inr (5, [.ref (ax 12), .int xTz])), ((ax 12), .inl (cA 0, 200, .inl gB))] sz) [((ax 11), .inr (5, [.ref (ax 12), .int u.1])), ((ax 12), .inl (cA 0, 200, .inl u.2))]) (va_A [((ax 11), .inr (5, [.ref (ax 12), .int xTz])), ((ax 12), .inl (cA 0, 200, .inl gB))] sz)) 0 0 (va_A [((ax 11), .inr (5, [.ref (ax 12), .int xTz])), ((ax 12), .inl (cA 0, 200, .inl gB))] sz) := by
  refine Met.ofW (cc := cX5_append) (maxL := 3) (ret := none) (by decide) rfl ?_
  intro p e s m args below meth c s₁ B hml hv
  obtain ⟨rfl, hsz, hP, hK, hD0, hN⟩ := hv
  have hx := B.exec
  have hb := B.bytes
  have hr := B.returns
  have hts := atoms_spec (ws := wsX5_append) B.pre
  have hown : s.vm.findClass RX5 = some m.cls := findClass_of_methodNamed B.named
  have hlocks := B.notSynchronized
  subst hsz
  have hD := hD0.self (sz := s.heap.size)
  generalize hAe : va_A [((ax 11), .inr (5, [.ref (ax 12), .int xTz])), ((ax 12), .inl (cA 0, 200, .inl gB))] s.heap.size = A at hD ⊢
  have hA : ∀ q : Nat, s.heap.size ≤ q → A q := fun q h => by rw [← hAe]; exact Or.inr h
  have hS : va_S A s.heap s.heap [] := va_S.rf
  have hIX5 : ∀ w ∈ u_ws RX5 TX5 2, w ∈ wsX5_append := by decide +kernel
  have hl := lv_entry ([.ref (ax 11), .int a]) (n := 3) (Nat.le_of_ble_eq_true rfl)
  rw [lg_entry_eq]
  generalize (lg_sl ([.ref (ax 11), .int a]) ++ List.replicate (3 - (lg_sl ([.ref (ax 11), .int a])).length) Slot.unset).toArray = ls at hl ⊢
  have hl : lv_has ls 3 [(0, .ref (ax 11)), (1, .int a)] := hl
  generalize hQe : MQ below _ _ _ _ _ _ = QQ
  refine lv_iconst (v := 3) hx hb dX5_append_0 (by decide) ?_
  refine lv_istore_n (lv' := [(2, .int 3), (0, .ref (ax 11)), (1, .int a)]) hx hb dX5_append_1 rfl hl (by decide) rfl (fun ls hl => ?_)
  have loop2_1 : ∀ (n : Nat) (i2 : Int32) (w_xTz_2 : Int32) (w_gB_2 : Nat → Int32) (H : Heap) (locs : List Loc) (ls : Array Slot), i2.toInt + 1 < (n : Int) → ((-1) ≤ i2.toInt ∧ i2.toInt ≤ 3) → (0 ≤ w_xTz_2.toInt ∧ w_xTz_2.toInt ≤ 200) → (inB 0 255 200 w_gB_2) → ((xTz.toInt ≤ 196 → w_xTz_2.toInt = xTz.toInt + 3 - i2.toInt)) → (xTz.toInt ≤ 196 → fdI gB w_gB_2 xTz.toInt.toNat (byt a) (3 - i2.toInt).toNat) → va_P (dC, dI) vwCl [((ax 11), .inr (5, [.ref (ax 12), .int w_xTz_2])), ((ax 12), .inl (cA 0, 200, .inl w_gB_2))] H → va_D A [((ax 11), .inr (5, [.ref (ax 12), .int w_xTz_2])), ((ax 12), .inl (cA 0, 200, .inl w_gB_2))] → va_S A s.heap H locs → lv_has ls 3 [(2, .int i2), (0, .ref (ax 11)), (1, .int a)] → W p l e ({ frames := 0, cells := 0, slots := 0, locals := 0 }) s m ([.ref (ax 11), .int a] : List Value).toArray below meth c H locs 0 0 QQ (F0 m 2 ls []) := by
    intro n
    induction n with
    | zero => intro i2 w_xTz_2 w_gB_2 H locs ls hme hv0_2 hv1_2 hv2_2 hv3_2 hv4_2; exfalso; omega
    | succ n ih_2 =>
      intro i2 w_xTz_2 w_gB_2 H locs ls hme_2 hv0_2 hv1_2 hv2_2 hv3_2 hv4_2 hP hD hS hl
      refine lv_iload_n hx hb dX5_append_2 rfl (lv_at hl 0 rfl) ?_
      refine lv_if_lt (tgt := 51) hx hb dX5_append_3 (by decide) (fun c_2 => ?_) (fun c_2 => ?_)
      · have dc_2 : i2.toInt < 0 := jI_lt c_2 rfl (by decide)
        have hP9 := hP.sub (ws' := [((ax 11), .inr (5, [.ref (ax 12), .int w_xTz_2])), ((ax 12), .inl (cA 0, 200, .inl w_gB_2))]) [0, 1] rfl
        have hD9 := hD.sub (ws' := [((ax 11), .inr (5, [.ref (ax 12), .int w_xTz_2])), ((ax 12), .inl (cA 0, 200, .inl w_gB_2))]) [0, 1] (by decide) rfl
        subst hQe
        have hpost : (0 ≤ w_xTz_2.toInt ∧ w_xTz_2.toInt ≤ 200) ∧ (inB 0 255 200 w_gB_2) ∧ ((xTz.toInt ≤ 196 → w_xTz_2.toInt = xTz.toInt + 4)) ∧ (xTz.toInt ≤ 196 → tpe w_gB_2 w_xTz_2 = apl (tpe gB xTz) xTz.toInt (byt a) 4) := ⟨hv1_2, hv2_2, by omega, fun h9 => fd_e (n := 4) (by have h8 := hv4_2 h9; rw [show (3 - i2.toInt).toNat = 4 by omega] at h8; exact h8) (by omega) (by omega)⟩
        exact W.vret hx hb hr (fun t ht hW => ⟨⟨(w_xTz_2, w_gB_2), rfl, hpost, by rw [ht]; exact hP9, hD9⟩, hS.F ht⟩) hS.2.2 dX5_append_51
      · have dc_2 : 0 ≤ i2.toInt := jI_nlt c_2 rfl (by decide)
        refine lv_aload_n hx hb dX5_append_6 rfl (lv_at hl 1 rfl) ?_
        refine va_get (D := (dC, dI)) (ci := 5) (v := .int w_xTz_2) (C := RX5) (T := TX5) (N := 2) hx hb hts hIX5 hown hK hP 0 rfl rfl 1 (by decide) (hts (.fieldLink RX5 15 "TraitHouse$Tape" "size" "I") (by decide +kernel)) (fun _ h9 => h9) rfl dX5_append_7 ?_
        refine lv_sipush (v := 200) hx hb dX5_append_10 (by decide) ?_
        refine lv_icmp_ge (tgt := 51) hx hb dX5_append_13 (by decide) (fun c_3 => ?_) (fun c_3 => ?_)
        · have dc_3 : 200 ≤ w_xTz_2.toInt := jI_le c_3 (by decide) rfl
          have hP9 := hP.sub (ws' := [((ax 11), .inr (5, [.ref (ax 12), .int w_xTz_2])), ((ax 12), .inl (cA 0, 200, .inl w_gB_2))]) [0, 1] rfl
          have hD9 := hD.sub (ws' := [((ax 11), .inr (5, [.ref (ax 12), .int w_xTz_2])), ((ax 12), .inl (cA 0, 200, .inl w_gB_2))]) [0, 1] (by decide) rfl
          subst hQe
          have hpost : (0 ≤ w_xTz_2.toInt ∧ w_xTz_2.toInt ≤ 200) ∧ (inB 0 255 200 w_gB_2) ∧ ((xTz.toInt ≤ 196 → w_xTz_2.toInt = xTz.toInt + 4)) ∧ (xTz.toInt ≤ 196 → tpe w_gB_2 w_xTz_2 = apl (tpe gB xTz) xTz.toInt (byt a) 4) := ⟨hv1_2, hv2_2, by omega, fun h9 => fd_e (n := 4) (by have h8 := hv4_2 h9; rw [show (3 - i2.toInt).toNat = 4 by omega] at h8; exact h8) (by omega) (by omega)⟩
          exact W.vret hx hb hr (fun t ht hW => ⟨⟨(w_xTz_2, w_gB_2), rfl, hpost, by rw [ht]; exact hP9, hD9⟩, hS.F ht⟩) hS.2.2 dX5_append_51
        · have dc_3 : w_xTz_2.toInt < 200 := jI_nle c_3 (by decide) rfl
          refine lv_aload_n hx hb dX5_append_16 rfl (lv_at hl 1 rfl) ?_
          refine va_get (D := (dC, dI)) (ci := 5) (v := .ref (ax 12)) (C := RX5) (T := TX5) (N := 2) hx hb hts hIX5 hown hK hP 0 rfl rfl 0 (by decide) (hts (.fieldLink RX5 9 "TraitHouse$Tape" "bytes" "[I") (by decide +kernel)) (fun _ h9 => h9) rfl dX5_append_17 ?_
          refine lv_aload_n hx hb dX5_append_20 rfl (lv_at hl 1 rfl) ?_
          refine va_get (D := (dC, dI)) (ci := 5) (v := .int w_xTz_2) (C := RX5) (T := TX5) (N := 2) hx hb hts hIX5 hown hK hP 0 rfl rfl 1 (by decide) (hts (.fieldLink RX5 15 "TraitHouse$Tape" "size" "I") (by decide +kernel)) (fun _ h9 => h9) rfl dX5_append_21 ?_
          refine lv_iload_n hx hb dX5_append_24 rfl (lv_at hl 2 rfl) ?_
          refine lv_bipush (v := 8) hx hb dX5_append_25 (by decide) ?_
          refine lv_iload_n hx hb dX5_append_27 rfl (lv_at hl 0 rfl) ?_
          refine lv_imul hx hb dX5_append_28 ?_
          refine lv_topi (fun x_4 ex_4 => ?_)
          have dx_4 : x_4.toInt = 8 * i2.toInt := by rw [ex_4]; exact jI_mul (by decide) rfl (by omega) (by omega)
          obtain ⟨x_5, ex_5⟩ : ∃ y : Int32, y = (a.toUInt32 >>> (x_4.toUInt32 &&& Int32.toUInt32 31)).toInt32 := ⟨_, rfl⟩
          refine lv_iushr (v := x_5) hx hb dX5_append_29 ex_5.symm ?_
          refine lv_sipush (v := 255) hx hb dX5_append_30 (by decide) ?_
          refine lv_iand hx hb dX5_append_33 ?_
          refine lv_topi (fun x_6 ex_6 => ?_)
          have dx_6 : 0 ≤ x_6.toInt ∧ x_6.toInt ≤ 255 := by rw [ex_6]; exact jI_mask _ 8 (by decide) (by decide)
          have h_7 : vp_in w_xTz_2 200 := (vp_in_iff.mpr ⟨by omega, by omega⟩)
          refine va_iast hx hb hK hP hD hS 1 0 rfl rfl h_7 dX5_append_34 (fun H locs hP hD hS => ?_)
          replace hP : va_P (dC, dI) vwCl [((ax 11), .inr (5, [.ref (ax 12), .int w_xTz_2])), ((ax 12), .inl (cA 0, 200, .inl (upd w_gB_2 w_xTz_2.toNatClampNeg x_6)))] H := hP
          replace hD : va_D A [((ax 11), .inr (5, [.ref (ax 12), .int w_xTz_2])), ((ax 12), .inl (cA 0, 200, .inl (upd w_gB_2 w_xTz_2.toNatClampNeg x_6)))] := hD
          obtain ⟨g_8, eg_8⟩ : ∃ g : Nat → Int32, g = upd w_gB_2 w_xTz_2.toNatClampNeg x_6 := ⟨_, rfl⟩
          rw [← eg_8] at hP hD
          have ig_8 : inB 0 255 200 g_8 := by rw [eg_8]; exact inB_upd hv2_2 (by omega) (by omega)
          refine lv_aload_n hx hb dX5_append_35 rfl (lv_at hl 1 rfl) ?_
          refine lv_dup hx hb dX5_append_36 rfl ?_
          refine va_get (D := (dC, dI)) (ci := 5) (v := .int w_xTz_2) (C := RX5) (T := TX5) (N := 2) hx hb hts hIX5 hown hK hP 0 rfl rfl 1 (by decide) (hts (.fieldLink RX5 15 "TraitHouse$Tape" "size" "I") (by decide +kernel)) (fun _ h9 => h9) rfl dX5_append_37 ?_
          refine lv_iconst (v := 1) hx hb dX5_append_40 (by decide) ?_
          refine lv_iadd hx hb dX5_append_41 ?_
          refine lv_topi (fun x_9 ex_9 => ?_)
          have dx_9 : x_9.toInt = w_xTz_2.toInt + 1 := by rw [ex_9]; exact jI_add rfl (by decide) (by omega) (by omega)
          refine va_put (D := (dC, dI)) (ci := 5) (v := .int x_9) (ty := .int) (C := RX5) (T := TX5) (N := 2) hx hb hts hIX5 tyX5 tyX5_ok nmX5 hown hK hP hD hS 0 rfl rfl 1 (by decide) (hts (.fieldLink RX5 15 "TraitHouse$Tape" "size" "I") (by decide +kernel)) (fun _ h9 => h9) rfl (by decide +kernel) rfl rfl (Nat.le_of_ble_eq_true rfl) dX5_append_42 (fun H locs hP hD hS => ?_)
          replace hP : va_P (dC, dI) vwCl [((ax 11), .inr (5, [.ref (ax 12), .int x_9])), ((ax 12), .inl (cA 0, 200, .inl g_8))] H := hP
          replace hD : va_D A [((ax 11), .inr (5, [.ref (ax 12), .int x_9])), ((ax 12), .inl (cA 0, 200, .inl g_8))] := hD
          obtain ⟨x_10, ex_10⟩ : ∃ y : Int32, y = i2 + (-1) := ⟨_, rfl⟩
          have dx_10 : x_10.toInt = i2.toInt + (-1) := by rw [ex_10]; exact jI_add rfl (by decide) (by omega) (by omega)
          refine lv_iinc (v := x_10) (lv' := [(2, .int x_10), (0, .ref (ax 11)), (1, .int a)]) hx hb dX5_append_45 hl (k := 0) rfl (by rw [ex_10]; rfl) (by decide) rfl (fun ls hl => ?_)
          refine lv_goto (tgt := 2) hx hb dX5_append_48 (by decide) ?_
          exact ih_2 x_10 x_9 g_8 _ _ ls (by omega) (by omega) (by omega) ig_8 (by omega) (fun h9 => fd_s (hv4_2 h9) eg_8 (by have : w_xTz_2.toNatClampNeg = w_xTz_2.toInt.toNat := rfl; omega) (cl_byt (x := x_4) (i := i2) (by omega) (by omega) (by omega) ex_5 ex_6 (by omega)) (by omega)) (hP.sub [0, 1] rfl) (hD.sub [0, 1] (by decide) rfl) hS (lv_sub hl [0, 1, 2] rfl)
  have hk_11 : (3 : Int32).toInt = 3 := by decide
  exact loop2_1 (Int.toNat ((3 : Int32).toInt + 1) + 1) 3 xTz gB _ _ ls (by omega) (by omega) i_xTz i_gB (by omega) (fun _ => (by rw [show (3 - (3 : Int32).toInt).toNat = 0 from rfl]; exact fd_0)) hP hD hS (lv_sub hl [0, 1, 2] rfl)

set_option maxHeartbeats 8000000 in
set_option maxRecDepth 100000 in
theorem k_X8_feed (l : Launch) (dC : Nat → ClassId) (dI : Nat → Nat → Nat) (cA : Nat → ClassId) (sz : Nat) (ax : Nat → Nat) (xNow : Int32) (xEr : Int32) (xTr : Int32) (xMo : Int32) (xFa : Int32) (xRe : Int32) (xTz : Int32) (gB : Nat → Int32) (a : Int32) (b : Int32) (d : Int32) (e1 : Int32) (e2 : Int32) (i_xNow : 0 ≤ xNow.toInt ∧ xNow.toInt ≤ 100000) (i_xTr : 0 ≤ xTr.toInt ∧ xTr.toInt ≤ 20) (i_xMo : 0 ≤ xMo.toInt ∧ xMo.toInt ≤ 10) (i_xTz : 0 ≤ xTz.toInt ∧ xTz.toInt ≤ 200) (i_gB : inB 0 255 200 gB)  : Met l yX8_feed wsX8_feed ({ frames := 1, cells := 0, slots := 0, locals := 22 }) (va_Pc [.ref (ax 0), .int a, .int b, .int d, .int e1, .int e2] (fun U => U.heap.size = sz ∧ va_P (dC, dI) vwCl [((ax 0), .inr (8, [.ref (ax 1), .ref (ax 7), .ref (ax 10), .ref (ax 11), .ref (ax 13), .ref (ax 15), .ref (ax 16), .ref (ax 21), .ref (ax 26), .ref (ax 27), .ref (ax 28), .int xNow, .int xEr, .int xTr, .int xMo, .int xFa, .int xRe])), ((ax 11), .inr (5, [.ref (ax 12), .int xTz])), ((ax 12), .inl (cA 0, 200, .inl gB))] U.heap ∧ va_K (dC, dI) vwCl (tyL cA) U ∧ va_D (fun _ => True) [((ax 0), .inr (8, [.ref (ax 1), .ref (ax 7), .ref (ax 10), .ref (ax 11), .ref (ax 13), .ref (ax 15), .ref (ax 16), .ref (ax 21), .ref (ax 26), .ref (ax 27), .ref (ax 28), .int xNow, .int xEr, .int xTr, .int xMo, .int xFa, .int xRe])), ((ax 11), .inr (5, [.ref (ax 12), .int xTz])), ((ax 12), .inl (cA 0, 200, .inl gB))] ∧ nw_ok U)) (va_Qi (fun (r : Int32) (u : Int32 × (Nat → Int32)) => (0 ≤ u.1.toInt ∧ u.1.toInt ≤ 200) ∧ (inB 0 255 200 u.2) ∧ ((xTz.toInt + 20 ≤ 200 → r.toInt = xTz.toInt + 20 ∧ u.1.toInt = xTz.toInt + 20) ∧ (¬ xTz.toInt + 20 ≤ 200 → r.toInt = (-1) ∧ u.1.toInt = xTz.toInt)) ∧ ((xTz.toInt + 20 ≤ 200 → tpe u.2 u.1 = apl (tpe gB xTz) xTz.toInt (w5 a b d e1 e2) 20) ∧ (¬ xTz.toInt + 20 ≤ 200 → u.2 = gB))) (fun (u : Int32 × (Nat → Int32)) (t : State) => va_P (dC, dI) vwCl [((ax 0), .inr (8, [.ref (ax 1), .ref (ax 7), .ref (ax 10), .ref (ax 11), .ref (ax 13), .ref (ax 15), .ref (ax 16), .ref (ax 21), .ref (ax 26), .ref (ax 27), .ref (ax 28), .int xNow, .int xEr, .int xTr, .int xMo, .int xFa, .int xRe])), ((ax 11), .inr (5, [.ref (ax 12), .int u.1])), ((ax 12), .inl (cA 0, 200, .inl u.2))] t.heap ∧ va_D (va_A [((ax 0), .inr (8, [.ref (ax 1), .ref (ax 7), .ref (ax 10), .ref (ax 11), .ref (ax 13), .ref (ax 15), .ref (ax 16), .ref (ax 21), .ref (ax 26), .ref (ax 27), .ref (ax 28), .int xNow, .int xEr, .int xTr, .int xMo, .int xFa, .int xRe])), ((ax 11), .inr (5, [.ref (ax 12), .int xTz])), ((ax 12), .inl (cA 0, 200, .inl gB))] sz) [((ax 0), .inr (8, [.ref (ax 1), .ref (ax 7), .ref (ax 10), .ref (ax 11), .ref (ax 13), .ref (ax 15), .ref (ax 16), .ref (ax 21), .ref (ax 26), .ref (ax 27), .ref (ax 28), .int xNow, .int xEr, .int xTr, .int xMo, .int xFa, .int xRe])), ((ax 11), .inr (5, [.ref (ax 12), .int u.1])), ((ax 12), .inl (cA 0, 200, .inl u.2))]) (va_A [((ax 0), .inr (8, [.ref (ax 1), .ref (ax 7), .ref (ax 10), .ref (ax 11), .ref (ax 13), .ref (ax 15), .ref (ax 16), .ref (ax 21), .ref (ax 26), .ref (ax 27), .ref (ax 28), .int xNow, .int xEr, .int xTr, .int xMo, .int xFa, .int xRe])), ((ax 11), .inr (5, [.ref (ax 12), .int xTz])), ((ax 12), .inl (cA 0, 200, .inl gB))] sz)) 0 0 (va_A [((ax 0), .inr (8, [.ref (ax 1), .ref (ax 7), .ref (ax 10), .ref (ax 11), .ref (ax 13), .ref (ax 15), .ref (ax 16), .ref (ax 21), .ref (ax 26), .ref (ax 27), .ref (ax 28), .int xNow, .int xEr, .int xTr, .int xMo, .int xFa, .int xRe])), ((ax 11), .inr (5, [.ref (ax 12), .int xTz])), ((ax 12), .inl (cA 0, 200, .inl gB))] sz) := by
  refine Met.ofW (cc := cX8_feed) (maxL := 6) (ret := (some .int)) (by decide) rfl ?_
  intro p e s m args below meth c s₁ B hml hv
  obtain ⟨rfl, hsz, hP, hK, hD0, hN⟩ := hv
  have hx := B.exec
  have hb := B.bytes
  have hr := B.returns
  have hts := atoms_spec (ws := wsX8_feed) B.pre
  have hown : s.vm.findClass RX8 = some m.cls := findClass_of_methodNamed B.named
  have hlocks := B.notSynchronized
  subst hsz
  have hD := hD0.self (sz := s.heap.size)
  generalize hAe : va_A [((ax 0), .inr (8, [.ref (ax 1), .ref (ax 7), .ref (ax 10), .ref (ax 11), .ref (ax 13), .ref (ax 15), .ref (ax 16), .ref (ax 21), .ref (ax 26), .ref (ax 27), .ref (ax 28), .int xNow, .int xEr, .int xTr, .int xMo, .int xFa, .int xRe])), ((ax 11), .inr (5, [.ref (ax 12), .int xTz])), ((ax 12), .inl (cA 0, 200, .inl gB))] s.heap.size = A at hD ⊢
  have hA : ∀ q : Nat, s.heap.size ≤ q → A q := fun q h => by rw [← hAe]; exact Or.inr h
  have hS : va_S A s.heap s.heap [] := va_S.rf
  have hIX5 : ∀ w ∈ u_ws RX5 TX5 2, w ∈ wsX8_feed := by decide +kernel
  have hIX8 : ∀ w ∈ u_ws RX8 TX8 17, w ∈ wsX8_feed := by decide +kernel
  have hl := lv_entry ([.ref (ax 0), .int a, .int b, .int d, .int e1, .int e2]) (n := 6) (Nat.le_of_ble_eq_true rfl)
  rw [lg_entry_eq]
  generalize (lg_sl ([.ref (ax 0), .int a, .int b, .int d, .int e1, .int e2]) ++ List.replicate (6 - (lg_sl ([.ref (ax 0), .int a, .int b, .int d, .int e1, .int e2])).length) Slot.unset).toArray = ls at hl ⊢
  have hl : lv_has ls 6 [(0, .ref (ax 0)), (1, .int a), (2, .int b), (3, .int d), (4, .int e1), (5, .int e2)] := hl
  generalize hQe : MQ below _ _ _ _ _ _ = QQ
  refine lv_aload_n hx hb dX8_feed_0 rfl (lv_at hl 0 rfl) ?_
  refine va_get (D := (dC, dI)) (ci := 8) (v := .ref (ax 11)) (C := RX8) (T := TX8) (N := 17) hx hb hts hIX8 hown hK hP 0 rfl rfl 3 (by decide) (hts (.fieldLink RX8 30 "TraitHouse" "tape" "LTraitHouse$Tape;") (by decide +kernel)) (fun _ h9 => h9) rfl dX8_feed_1 ?_
  refine va_getN (D := (dC, dI)) (ci := 5) (v := .int xTz) (C := RX5) (T := TX5) (N := 2) hx hb hts hIX5 hown hK hP 1 rfl rfl 1 (by decide) (va_Nw.use rfl (nw_at hN 10 rfl)) (fun _ h9 => h9) rfl dX8_feed_4 ?_
  refine lv_bipush (v := 20) hx hb dX8_feed_7 (by decide) ?_
  refine lv_iadd hx hb dX8_feed_9 ?_
  refine lv_topi (fun x_1 ex_1 => ?_)
  have dx_1 : x_1.toInt = xTz.toInt + 20 := by rw [ex_1]; exact jI_add rfl (by decide) (by omega) (by omega)
  refine lv_sipush (v := 200) hx hb dX8_feed_10 (by decide) ?_
  refine lv_icmp_le (tgt := 18) hx hb dX8_feed_13 (by decide) (fun c_2 => ?_) (fun c_2 => ?_)
  · have dc_2 : x_1.toInt ≤ 200 := jI_le c_2 rfl (by decide)
    refine lv_aload_n hx hb dX8_feed_18 rfl (lv_at hl 0 rfl) ?_
    refine va_get (D := (dC, dI)) (ci := 8) (v := .ref (ax 11)) (C := RX8) (T := TX8) (N := 17) hx hb hts hIX8 hown hK hP 0 rfl rfl 3 (by decide) (hts (.fieldLink RX8 30 "TraitHouse" "tape" "LTraitHouse$Tape;") (by decide +kernel)) (fun _ h9 => h9) rfl dX8_feed_19 ?_
    refine lv_iload_n hx hb dX8_feed_22 rfl (lv_at hl 1 rfl) ?_
    have hPc := hP.sub (ws' := [((ax 11), .inr (5, [.ref (ax 12), .int xTz])), ((ax 12), .inl (cA 0, 200, .inl gB))]) [1, 2] rfl
    have hDc := hD.sub (ws' := [((ax 11), .inr (5, [.ref (ax 12), .int xTz])), ((ax 12), .inl (cA 0, 200, .inl gB))]) [1, 2] (by decide) rfl
    have hFc := va_free (wc := [((ax 11), .inr (5, [.ref (ax 12), .int xTz])), ((ax 12), .inl (cA 0, 200, .inl gB))]) hD hS hA [1, 2] rfl
    refine va_callv (va_runVN (As := [.int a]) (rest := []) ⟨hx, hb, hml, hown, hts⟩ (k_X5_append l dC dI cA s.heap.size ax xTz gB a i_xTz i_gB) ⟨(va_cnB 1 hts gX8_feed_X5_append_n145 rfl rfl rfl (nw_at hN 44 rfl) (hts (.initialized RX5) (by decide +kernel)) (by decide +kernel) ⟨Nat.le_of_ble_eq_true rfl, Nat.le_of_ble_eq_true rfl⟩), (hts (.instanceMethod yX5_append) (by decide +kernel)), (hts (.selects RX5 yX5_append yX5_append) (by decide +kernel))⟩ ⟨fun a U g mk q => by obtain ⟨q0, q1, qP, qK, qD, qN⟩ := q; exact ⟨q0, q1, qP, va_K.moved (u := U) (U := U.calling g mk a) (Vm.Alike.refl U.vm) qK, qD, qN.same rfl⟩, va_recv hK hPc (ci := 5) (q0 := 0) rfl rfl, fun U hU hW => ⟨rfl, by rw [hU], by rw [hU]; exact hPc, va_K.moved hW.alike hK, hDc.weaken (fun _ _ _ _ => trivial), hN.warm hW⟩⟩ rfl rfl hl.1 rfl (lv_room (Nat.le_of_ble_eq_true rfl)) dX8_feed_23 ⟨Nat.le_of_ble_eq_true rfl, Nat.le_of_ble_eq_true rfl⟩) hS (fun q _ h => hFc q h) hFc (fun u_3 t H1 locs ht hvm hw_4 hB hz1 hk1 hS => ?_)
    obtain ⟨w_5, w_6⟩ := u_3
    try dsimp only at hw_4 hB
    obtain ⟨iv_7, iv_8, po_9, tp_10⟩ := hw_4
    obtain ⟨hP1, hD1⟩ := hB
    rw [ht] at hP1
    obtain ⟨hP, hD⟩ := va_join (wr := [((ax 0), .inr (8, [.ref (ax 1), .ref (ax 7), .ref (ax 10), .ref (ax 11), .ref (ax 13), .ref (ax 15), .ref (ax 16), .ref (ax 21), .ref (ax 26), .ref (ax 27), .ref (ax 28), .int xNow, .int xEr, .int xTr, .int xMo, .int xFa, .int xRe]))]) (w1 := [((ax 11), .inr (5, [.ref (ax 12), .int w_5])), ((ax 12), .inl (cA 0, 200, .inl w_6))]) hP hD [1, 2] [0] rfl rfl (by decide) (by decide) hk1 hFc hP1 hD1
    clear hz1
    generalize H1 = H at hP hS ⊢
    replace hP : va_P (dC, dI) vwCl [((ax 0), .inr (8, [.ref (ax 1), .ref (ax 7), .ref (ax 10), .ref (ax 11), .ref (ax 13), .ref (ax 15), .ref (ax 16), .ref (ax 21), .ref (ax 26), .ref (ax 27), .ref (ax 28), .int xNow, .int xEr, .int xTr, .int xMo, .int xFa, .int xRe])), ((ax 11), .inr (5, [.ref (ax 12), .int w_5])), ((ax 12), .inl (cA 0, 200, .inl w_6))] H := hP
    replace hD : va_D A [((ax 0), .inr (8, [.ref (ax 1), .ref (ax 7), .ref (ax 10), .ref (ax 11), .ref (ax 13), .ref (ax 15), .ref (ax 16), .ref (ax 21), .ref (ax 26), .ref (ax 27), .ref (ax 28), .int xNow, .int xEr, .int xTr, .int xMo, .int xFa, .int xRe])), ((ax 11), .inr (5, [.ref (ax 12), .int w_5])), ((ax 12), .inl (cA 0, 200, .inl w_6))] := hD
    refine lv_aload_n hx hb dX8_feed_26 rfl (lv_at hl 0 rfl) ?_
    refine va_get (D := (dC, dI)) (ci := 8) (v := .ref (ax 11)) (C := RX8) (T := TX8) (N := 17) hx hb hts hIX8 hown hK hP 0 rfl rfl 3 (by decide) (hts (.fieldLink RX8 30 "TraitHouse" "tape" "LTraitHouse$Tape;") (by decide +kernel)) (fun _ h9 => h9) rfl dX8_feed_27 ?_
    refine lv_iload_n hx hb dX8_feed_30 rfl (lv_at hl 2 rfl) ?_
    have hPc := hP.sub (ws' := [((ax 11), .inr (5, [.ref (ax 12), .int w_5])), ((ax 12), .inl (cA 0, 200, .inl w_6))]) [1, 2] rfl
    have hDc := hD.sub (ws' := [((ax 11), .inr (5, [.ref (ax 12), .int w_5])), ((ax 12), .inl (cA 0, 200, .inl w_6))]) [1, 2] (by decide) rfl
    have hFc := va_free (wc := [((ax 11), .inr (5, [.ref (ax 12), .int w_5])), ((ax 12), .inl (cA 0, 200, .inl w_6))]) hD hS hA [1, 2] rfl
    refine va_callv (va_runVN (As := [.int b]) (rest := []) ⟨hx, hb, hml, hown, hts⟩ (k_X5_append l dC dI cA H.size ax w_5 w_6 b iv_7 iv_8) ⟨(va_cnB 1 hts gX8_feed_X5_append_n145 rfl rfl rfl (nw_at hN 44 rfl) (hts (.initialized RX5) (by decide +kernel)) (by decide +kernel) ⟨Nat.le_of_ble_eq_true rfl, Nat.le_of_ble_eq_true rfl⟩), (hts (.instanceMethod yX5_append) (by decide +kernel)), (hts (.selects RX5 yX5_append yX5_append) (by decide +kernel))⟩ ⟨fun a U g mk q => by obtain ⟨q0, q1, qP, qK, qD, qN⟩ := q; exact ⟨q0, q1, qP, va_K.moved (u := U) (U := U.calling g mk a) (Vm.Alike.refl U.vm) qK, qD, qN.same rfl⟩, va_recv hK hPc (ci := 5) (q0 := 0) rfl rfl, fun U hU hW => ⟨rfl, by rw [hU], by rw [hU]; exact hPc, va_K.moved hW.alike hK, hDc.weaken (fun _ _ _ _ => trivial), hN.warm hW⟩⟩ rfl rfl hl.1 rfl (lv_room (Nat.le_of_ble_eq_true rfl)) dX8_feed_31 ⟨Nat.le_of_ble_eq_true rfl, Nat.le_of_ble_eq_true rfl⟩) hS (fun q _ h => hFc q h) hFc (fun u_11 t H1 locs ht hvm hw_12 hB hz1 hk1 hS => ?_)
    obtain ⟨w_13, w_14⟩ := u_11
    try dsimp only at hw_12 hB
    obtain ⟨iv_15, iv_16, po_17, tp_18⟩ := hw_12
    obtain ⟨hP1, hD1⟩ := hB
    rw [ht] at hP1
    obtain ⟨hP, hD⟩ := va_join (wr := [((ax 0), .inr (8, [.ref (ax 1), .ref (ax 7), .ref (ax 10), .ref (ax 11), .ref (ax 13), .ref (ax 15), .ref (ax 16), .ref (ax 21), .ref (ax 26), .ref (ax 27), .ref (ax 28), .int xNow, .int xEr, .int xTr, .int xMo, .int xFa, .int xRe]))]) (w1 := [((ax 11), .inr (5, [.ref (ax 12), .int w_13])), ((ax 12), .inl (cA 0, 200, .inl w_14))]) hP hD [1, 2] [0] rfl rfl (by decide) (by decide) hk1 hFc hP1 hD1
    clear hz1
    generalize H1 = H at hP hS ⊢
    replace hP : va_P (dC, dI) vwCl [((ax 0), .inr (8, [.ref (ax 1), .ref (ax 7), .ref (ax 10), .ref (ax 11), .ref (ax 13), .ref (ax 15), .ref (ax 16), .ref (ax 21), .ref (ax 26), .ref (ax 27), .ref (ax 28), .int xNow, .int xEr, .int xTr, .int xMo, .int xFa, .int xRe])), ((ax 11), .inr (5, [.ref (ax 12), .int w_13])), ((ax 12), .inl (cA 0, 200, .inl w_14))] H := hP
    replace hD : va_D A [((ax 0), .inr (8, [.ref (ax 1), .ref (ax 7), .ref (ax 10), .ref (ax 11), .ref (ax 13), .ref (ax 15), .ref (ax 16), .ref (ax 21), .ref (ax 26), .ref (ax 27), .ref (ax 28), .int xNow, .int xEr, .int xTr, .int xMo, .int xFa, .int xRe])), ((ax 11), .inr (5, [.ref (ax 12), .int w_13])), ((ax 12), .inl (cA 0, 200, .inl w_14))] := hD
    refine lv_aload_n hx hb dX8_feed_34 rfl (lv_at hl 0 rfl) ?_
    refine va_get (D := (dC, dI)) (ci := 8) (v := .ref (ax 11)) (C := RX8) (T := TX8) (N := 17) hx hb hts hIX8 hown hK hP 0 rfl rfl 3 (by decide) (hts (.fieldLink RX8 30 "TraitHouse" "tape" "LTraitHouse$Tape;") (by decide +kernel)) (fun _ h9 => h9) rfl dX8_feed_35 ?_
    refine lv_iload_n hx hb dX8_feed_38 rfl (lv_at hl 3 rfl) ?_
    have hPc := hP.sub (ws' := [((ax 11), .inr (5, [.ref (ax 12), .int w_13])), ((ax 12), .inl (cA 0, 200, .inl w_14))]) [1, 2] rfl
    have hDc := hD.sub (ws' := [((ax 11), .inr (5, [.ref (ax 12), .int w_13])), ((ax 12), .inl (cA 0, 200, .inl w_14))]) [1, 2] (by decide) rfl
    have hFc := va_free (wc := [((ax 11), .inr (5, [.ref (ax 12), .int w_13])), ((ax 12), .inl (cA 0, 200, .inl w_14))]) hD hS hA [1, 2] rfl
    refine va_callv (va_runVN (As := [.int d]) (rest := []) ⟨hx, hb, hml, hown, hts⟩ (k_X5_append l dC dI cA H.size ax w_13 w_14 d iv_15 iv_16) ⟨(va_cnB 1 hts gX8_feed_X5_append_n145 rfl rfl rfl (nw_at hN 44 rfl) (hts (.initialized RX5) (by decide +kernel)) (by decide +kernel) ⟨Nat.le_of_ble_eq_true rfl, Nat.le_of_ble_eq_true rfl⟩), (hts (.instanceMethod yX5_append) (by decide +kernel)), (hts (.selects RX5 yX5_append yX5_append) (by decide +kernel))⟩ ⟨fun a U g mk q => by obtain ⟨q0, q1, qP, qK, qD, qN⟩ := q; exact ⟨q0, q1, qP, va_K.moved (u := U) (U := U.calling g mk a) (Vm.Alike.refl U.vm) qK, qD, qN.same rfl⟩, va_recv hK hPc (ci := 5) (q0 := 0) rfl rfl, fun U hU hW => ⟨rfl, by rw [hU], by rw [hU]; exact hPc, va_K.moved hW.alike hK, hDc.weaken (fun _ _ _ _ => trivial), hN.warm hW⟩⟩ rfl rfl hl.1 rfl (lv_room (Nat.le_of_ble_eq_true rfl)) dX8_feed_39 ⟨Nat.le_of_ble_eq_true rfl, Nat.le_of_ble_eq_true rfl⟩) hS (fun q _ h => hFc q h) hFc (fun u_19 t H1 locs ht hvm hw_20 hB hz1 hk1 hS => ?_)
    obtain ⟨w_21, w_22⟩ := u_19
    try dsimp only at hw_20 hB
    obtain ⟨iv_23, iv_24, po_25, tp_26⟩ := hw_20
    obtain ⟨hP1, hD1⟩ := hB
    rw [ht] at hP1
    obtain ⟨hP, hD⟩ := va_join (wr := [((ax 0), .inr (8, [.ref (ax 1), .ref (ax 7), .ref (ax 10), .ref (ax 11), .ref (ax 13), .ref (ax 15), .ref (ax 16), .ref (ax 21), .ref (ax 26), .ref (ax 27), .ref (ax 28), .int xNow, .int xEr, .int xTr, .int xMo, .int xFa, .int xRe]))]) (w1 := [((ax 11), .inr (5, [.ref (ax 12), .int w_21])), ((ax 12), .inl (cA 0, 200, .inl w_22))]) hP hD [1, 2] [0] rfl rfl (by decide) (by decide) hk1 hFc hP1 hD1
    clear hz1
    generalize H1 = H at hP hS ⊢
    replace hP : va_P (dC, dI) vwCl [((ax 0), .inr (8, [.ref (ax 1), .ref (ax 7), .ref (ax 10), .ref (ax 11), .ref (ax 13), .ref (ax 15), .ref (ax 16), .ref (ax 21), .ref (ax 26), .ref (ax 27), .ref (ax 28), .int xNow, .int xEr, .int xTr, .int xMo, .int xFa, .int xRe])), ((ax 11), .inr (5, [.ref (ax 12), .int w_21])), ((ax 12), .inl (cA 0, 200, .inl w_22))] H := hP
    replace hD : va_D A [((ax 0), .inr (8, [.ref (ax 1), .ref (ax 7), .ref (ax 10), .ref (ax 11), .ref (ax 13), .ref (ax 15), .ref (ax 16), .ref (ax 21), .ref (ax 26), .ref (ax 27), .ref (ax 28), .int xNow, .int xEr, .int xTr, .int xMo, .int xFa, .int xRe])), ((ax 11), .inr (5, [.ref (ax 12), .int w_21])), ((ax 12), .inl (cA 0, 200, .inl w_22))] := hD
    refine lv_aload_n hx hb dX8_feed_42 rfl (lv_at hl 0 rfl) ?_
    refine va_get (D := (dC, dI)) (ci := 8) (v := .ref (ax 11)) (C := RX8) (T := TX8) (N := 17) hx hb hts hIX8 hown hK hP 0 rfl rfl 3 (by decide) (hts (.fieldLink RX8 30 "TraitHouse" "tape" "LTraitHouse$Tape;") (by decide +kernel)) (fun _ h9 => h9) rfl dX8_feed_43 ?_
    refine lv_iload hx hb dX8_feed_46 (lv_at hl 4 rfl) ?_
    have hPc := hP.sub (ws' := [((ax 11), .inr (5, [.ref (ax 12), .int w_21])), ((ax 12), .inl (cA 0, 200, .inl w_22))]) [1, 2] rfl
    have hDc := hD.sub (ws' := [((ax 11), .inr (5, [.ref (ax 12), .int w_21])), ((ax 12), .inl (cA 0, 200, .inl w_22))]) [1, 2] (by decide) rfl
    have hFc := va_free (wc := [((ax 11), .inr (5, [.ref (ax 12), .int w_21])), ((ax 12), .inl (cA 0, 200, .inl w_22))]) hD hS hA [1, 2] rfl
    refine va_callv (va_runVN (As := [.int e1]) (rest := []) ⟨hx, hb, hml, hown, hts⟩ (k_X5_append l dC dI cA H.size ax w_21 w_22 e1 iv_23 iv_24) ⟨(va_cnB 1 hts gX8_feed_X5_append_n145 rfl rfl rfl (nw_at hN 44 rfl) (hts (.initialized RX5) (by decide +kernel)) (by decide +kernel) ⟨Nat.le_of_ble_eq_true rfl, Nat.le_of_ble_eq_true rfl⟩), (hts (.instanceMethod yX5_append) (by decide +kernel)), (hts (.selects RX5 yX5_append yX5_append) (by decide +kernel))⟩ ⟨fun a U g mk q => by obtain ⟨q0, q1, qP, qK, qD, qN⟩ := q; exact ⟨q0, q1, qP, va_K.moved (u := U) (U := U.calling g mk a) (Vm.Alike.refl U.vm) qK, qD, qN.same rfl⟩, va_recv hK hPc (ci := 5) (q0 := 0) rfl rfl, fun U hU hW => ⟨rfl, by rw [hU], by rw [hU]; exact hPc, va_K.moved hW.alike hK, hDc.weaken (fun _ _ _ _ => trivial), hN.warm hW⟩⟩ rfl rfl hl.1 rfl (lv_room (Nat.le_of_ble_eq_true rfl)) dX8_feed_48 ⟨Nat.le_of_ble_eq_true rfl, Nat.le_of_ble_eq_true rfl⟩) hS (fun q _ h => hFc q h) hFc (fun u_27 t H1 locs ht hvm hw_28 hB hz1 hk1 hS => ?_)
    obtain ⟨w_29, w_30⟩ := u_27
    try dsimp only at hw_28 hB
    obtain ⟨iv_31, iv_32, po_33, tp_34⟩ := hw_28
    obtain ⟨hP1, hD1⟩ := hB
    rw [ht] at hP1
    obtain ⟨hP, hD⟩ := va_join (wr := [((ax 0), .inr (8, [.ref (ax 1), .ref (ax 7), .ref (ax 10), .ref (ax 11), .ref (ax 13), .ref (ax 15), .ref (ax 16), .ref (ax 21), .ref (ax 26), .ref (ax 27), .ref (ax 28), .int xNow, .int xEr, .int xTr, .int xMo, .int xFa, .int xRe]))]) (w1 := [((ax 11), .inr (5, [.ref (ax 12), .int w_29])), ((ax 12), .inl (cA 0, 200, .inl w_30))]) hP hD [1, 2] [0] rfl rfl (by decide) (by decide) hk1 hFc hP1 hD1
    clear hz1
    generalize H1 = H at hP hS ⊢
    replace hP : va_P (dC, dI) vwCl [((ax 0), .inr (8, [.ref (ax 1), .ref (ax 7), .ref (ax 10), .ref (ax 11), .ref (ax 13), .ref (ax 15), .ref (ax 16), .ref (ax 21), .ref (ax 26), .ref (ax 27), .ref (ax 28), .int xNow, .int xEr, .int xTr, .int xMo, .int xFa, .int xRe])), ((ax 11), .inr (5, [.ref (ax 12), .int w_29])), ((ax 12), .inl (cA 0, 200, .inl w_30))] H := hP
    replace hD : va_D A [((ax 0), .inr (8, [.ref (ax 1), .ref (ax 7), .ref (ax 10), .ref (ax 11), .ref (ax 13), .ref (ax 15), .ref (ax 16), .ref (ax 21), .ref (ax 26), .ref (ax 27), .ref (ax 28), .int xNow, .int xEr, .int xTr, .int xMo, .int xFa, .int xRe])), ((ax 11), .inr (5, [.ref (ax 12), .int w_29])), ((ax 12), .inl (cA 0, 200, .inl w_30))] := hD
    refine lv_aload_n hx hb dX8_feed_51 rfl (lv_at hl 0 rfl) ?_
    refine va_get (D := (dC, dI)) (ci := 8) (v := .ref (ax 11)) (C := RX8) (T := TX8) (N := 17) hx hb hts hIX8 hown hK hP 0 rfl rfl 3 (by decide) (hts (.fieldLink RX8 30 "TraitHouse" "tape" "LTraitHouse$Tape;") (by decide +kernel)) (fun _ h9 => h9) rfl dX8_feed_52 ?_
    refine lv_iload hx hb dX8_feed_55 (lv_at hl 5 rfl) ?_
    have hPc := hP.sub (ws' := [((ax 11), .inr (5, [.ref (ax 12), .int w_29])), ((ax 12), .inl (cA 0, 200, .inl w_30))]) [1, 2] rfl
    have hDc := hD.sub (ws' := [((ax 11), .inr (5, [.ref (ax 12), .int w_29])), ((ax 12), .inl (cA 0, 200, .inl w_30))]) [1, 2] (by decide) rfl
    have hFc := va_free (wc := [((ax 11), .inr (5, [.ref (ax 12), .int w_29])), ((ax 12), .inl (cA 0, 200, .inl w_30))]) hD hS hA [1, 2] rfl
    refine va_callv (va_runVN (As := [.int e2]) (rest := []) ⟨hx, hb, hml, hown, hts⟩ (k_X5_append l dC dI cA H.size ax w_29 w_30 e2 iv_31 iv_32) ⟨(va_cnB 1 hts gX8_feed_X5_append_n145 rfl rfl rfl (nw_at hN 44 rfl) (hts (.initialized RX5) (by decide +kernel)) (by decide +kernel) ⟨Nat.le_of_ble_eq_true rfl, Nat.le_of_ble_eq_true rfl⟩), (hts (.instanceMethod yX5_append) (by decide +kernel)), (hts (.selects RX5 yX5_append yX5_append) (by decide +kernel))⟩ ⟨fun a U g mk q => by obtain ⟨q0, q1, qP, qK, qD, qN⟩ := q; exact ⟨q0, q1, qP, va_K.moved (u := U) (U := U.calling g mk a) (Vm.Alike.refl U.vm) qK, qD, qN.same rfl⟩, va_recv hK hPc (ci := 5) (q0 := 0) rfl rfl, fun U hU hW => ⟨rfl, by rw [hU], by rw [hU]; exact hPc, va_K.moved hW.alike hK, hDc.weaken (fun _ _ _ _ => trivial), hN.warm hW⟩⟩ rfl rfl hl.1 rfl (lv_room (Nat.le_of_ble_eq_true rfl)) dX8_feed_57 ⟨Nat.le_of_ble_eq_true rfl, Nat.le_of_ble_eq_true rfl⟩) hS (fun q _ h => hFc q h) hFc (fun u_35 t H1 locs ht hvm hw_36 hB hz1 hk1 hS => ?_)
    obtain ⟨w_37, w_38⟩ := u_35
    try dsimp only at hw_36 hB
    obtain ⟨iv_39, iv_40, po_41, tp_42⟩ := hw_36
    obtain ⟨hP1, hD1⟩ := hB
    rw [ht] at hP1
    obtain ⟨hP, hD⟩ := va_join (wr := [((ax 0), .inr (8, [.ref (ax 1), .ref (ax 7), .ref (ax 10), .ref (ax 11), .ref (ax 13), .ref (ax 15), .ref (ax 16), .ref (ax 21), .ref (ax 26), .ref (ax 27), .ref (ax 28), .int xNow, .int xEr, .int xTr, .int xMo, .int xFa, .int xRe]))]) (w1 := [((ax 11), .inr (5, [.ref (ax 12), .int w_37])), ((ax 12), .inl (cA 0, 200, .inl w_38))]) hP hD [1, 2] [0] rfl rfl (by decide) (by decide) hk1 hFc hP1 hD1
    clear hz1
    generalize H1 = H at hP hS ⊢
    replace hP : va_P (dC, dI) vwCl [((ax 0), .inr (8, [.ref (ax 1), .ref (ax 7), .ref (ax 10), .ref (ax 11), .ref (ax 13), .ref (ax 15), .ref (ax 16), .ref (ax 21), .ref (ax 26), .ref (ax 27), .ref (ax 28), .int xNow, .int xEr, .int xTr, .int xMo, .int xFa, .int xRe])), ((ax 11), .inr (5, [.ref (ax 12), .int w_37])), ((ax 12), .inl (cA 0, 200, .inl w_38))] H := hP
    replace hD : va_D A [((ax 0), .inr (8, [.ref (ax 1), .ref (ax 7), .ref (ax 10), .ref (ax 11), .ref (ax 13), .ref (ax 15), .ref (ax 16), .ref (ax 21), .ref (ax 26), .ref (ax 27), .ref (ax 28), .int xNow, .int xEr, .int xTr, .int xMo, .int xFa, .int xRe])), ((ax 11), .inr (5, [.ref (ax 12), .int w_37])), ((ax 12), .inl (cA 0, 200, .inl w_38))] := hD
    refine lv_aload_n hx hb dX8_feed_60 rfl (lv_at hl 0 rfl) ?_
    refine va_get (D := (dC, dI)) (ci := 8) (v := .ref (ax 11)) (C := RX8) (T := TX8) (N := 17) hx hb hts hIX8 hown hK hP 0 rfl rfl 3 (by decide) (hts (.fieldLink RX8 30 "TraitHouse" "tape" "LTraitHouse$Tape;") (by decide +kernel)) (fun _ h9 => h9) rfl dX8_feed_61 ?_
    refine va_getN (D := (dC, dI)) (ci := 5) (v := .int w_37) (C := RX5) (T := TX5) (N := 2) hx hb hts hIX5 hown hK hP 1 rfl rfl 1 (by decide) (va_Nw.use rfl (nw_at hN 10 rfl)) (fun _ h9 => h9) rfl dX8_feed_64 ?_
    have hP9 := hP.sub (ws' := [((ax 0), .inr (8, [.ref (ax 1), .ref (ax 7), .ref (ax 10), .ref (ax 11), .ref (ax 13), .ref (ax 15), .ref (ax 16), .ref (ax 21), .ref (ax 26), .ref (ax 27), .ref (ax 28), .int xNow, .int xEr, .int xTr, .int xMo, .int xFa, .int xRe])), ((ax 11), .inr (5, [.ref (ax 12), .int w_37])), ((ax 12), .inl (cA 0, 200, .inl w_38))]) [0, 1, 2] rfl
    have hD9 := hD.sub (ws' := [((ax 0), .inr (8, [.ref (ax 1), .ref (ax 7), .ref (ax 10), .ref (ax 11), .ref (ax 13), .ref (ax 15), .ref (ax 16), .ref (ax 21), .ref (ax 26), .ref (ax 27), .ref (ax 28), .int xNow, .int xEr, .int xTr, .int xMo, .int xFa, .int xRe])), ((ax 11), .inr (5, [.ref (ax 12), .int w_37])), ((ax 12), .inl (cA 0, 200, .inl w_38))]) [0, 1, 2] (by decide) rfl
    subst hQe
    have hans : (w_37 : Int32).toInt = w_37.toInt := rfl
    have hpost : (0 ≤ w_37.toInt ∧ w_37.toInt ≤ 200) ∧ (inB 0 255 200 w_38) ∧ ((xTz.toInt + 20 ≤ 200 → (w_37 : Int32).toInt = xTz.toInt + 20 ∧ w_37.toInt = xTz.toInt + 20) ∧ (¬ xTz.toInt + 20 ≤ 200 → (w_37 : Int32).toInt = (-1) ∧ w_37.toInt = xTz.toInt)) ∧ ((xTz.toInt + 20 ≤ 200 → tpe w_38 w_37 = apl (tpe gB xTz) xTz.toInt (w5 a b d e1 e2) 20) ∧ (¬ xTz.toInt + 20 ≤ 200 → w_38 = gB)) := ⟨iv_39, iv_40, by omega, ⟨fun _ => (by rw [tp_42 (by omega), tp_34 (by omega), tp_26 (by omega), tp_18 (by omega), tp_10 (by omega), show w_29.toInt = xTz.toInt + 16 by omega, show w_21.toInt = xTz.toInt + 12 by omega, show w_13.toInt = xTz.toInt + 8 by omega, show w_5.toInt = xTz.toInt + 4 by omega]; exact apl5), fun h => by exfalso; omega⟩⟩
    exact W.iret (v := w_37) hx hb hr (fun t ht hW => ⟨⟨w_37, (w_37, w_38), rfl, hpost, by rw [ht]; exact hP9, hD9⟩, hS.F ht⟩) hS.2.2 dX8_feed_67
  · have dc_2 : 200 < x_1.toInt := jI_nle c_2 rfl (by decide)
    refine lv_iconst (v := (-1)) hx hb dX8_feed_16 (by decide) ?_
    have hP9 := hP.sub (ws' := [((ax 0), .inr (8, [.ref (ax 1), .ref (ax 7), .ref (ax 10), .ref (ax 11), .ref (ax 13), .ref (ax 15), .ref (ax 16), .ref (ax 21), .ref (ax 26), .ref (ax 27), .ref (ax 28), .int xNow, .int xEr, .int xTr, .int xMo, .int xFa, .int xRe])), ((ax 11), .inr (5, [.ref (ax 12), .int xTz])), ((ax 12), .inl (cA 0, 200, .inl gB))]) [0, 1, 2] rfl
    have hD9 := hD.sub (ws' := [((ax 0), .inr (8, [.ref (ax 1), .ref (ax 7), .ref (ax 10), .ref (ax 11), .ref (ax 13), .ref (ax 15), .ref (ax 16), .ref (ax 21), .ref (ax 26), .ref (ax 27), .ref (ax 28), .int xNow, .int xEr, .int xTr, .int xMo, .int xFa, .int xRe])), ((ax 11), .inr (5, [.ref (ax 12), .int xTz])), ((ax 12), .inl (cA 0, 200, .inl gB))]) [0, 1, 2] (by decide) rfl
    subst hQe
    have hans : ((-1) : Int32).toInt = (-1) := (by decide)
    have hpost : (0 ≤ xTz.toInt ∧ xTz.toInt ≤ 200) ∧ (inB 0 255 200 gB) ∧ ((xTz.toInt + 20 ≤ 200 → ((-1) : Int32).toInt = xTz.toInt + 20 ∧ xTz.toInt = xTz.toInt + 20) ∧ (¬ xTz.toInt + 20 ≤ 200 → ((-1) : Int32).toInt = (-1) ∧ xTz.toInt = xTz.toInt)) ∧ ((xTz.toInt + 20 ≤ 200 → tpe gB xTz = apl (tpe gB xTz) xTz.toInt (w5 a b d e1 e2) 20) ∧ (¬ xTz.toInt + 20 ≤ 200 → gB = gB)) := ⟨i_xTz, i_gB, by omega, ⟨fun h => by exfalso; omega, fun _ => rfl⟩⟩
    exact W.iret (v := (-1)) hx hb hr (fun t ht hW => ⟨⟨(-1), (xTz, gB), rfl, hpost, by rw [ht]; exact hP9, hD9⟩, hS.F ht⟩) hS.2.2 dX8_feed_17
