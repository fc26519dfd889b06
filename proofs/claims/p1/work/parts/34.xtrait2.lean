
set_option maxHeartbeats 4000000 in
set_option maxRecDepth 100000 in
theorem c_X2_read_f (l : Launch) (dC : Nat → ClassId) (dI : Nat → Nat → Nat) (sz : Nat) (adK : Nat → Nat) (adV : Nat → Nat) (hRea : Nat) (hTape : Nat) (aSt : Nat) (aB : Nat)  : Met l yX2_read wsX2_read ({ frames := 8, cells := 0, slots := 0, locals := 174 }) (va_Pc [.ref hRea, .int 0] (fun U => U.heap.size = sz ∧ va_P (dC, dI) vwCl [(hRea, .inr (2, [.ref hTape, .ref aSt, .int 0, .int 0, .int 0, .int 0, .int 0, .int 0, .int 0])), (hTape, .inr (5, [.ref aB, .int 0]))] U.heap ∧ va_K (dC, dI) vwCl [] U ∧ va_D (fun _ => True) [(hRea, .inr (2, [.ref hTape, .ref aSt, .int 0, .int 0, .int 0, .int 0, .int 0, .int 0, .int 0])), (hTape, .inr (5, [.ref aB, .int 0]))] ∧ st_ok adK adV (va_A [(hRea, .inr (2, [.ref hTape, .ref aSt, .int 0, .int 0, .int 0, .int 0, .int 0, .int 0, .int 0])), (hTape, .inr (5, [.ref aB, .int 0]))] sz) U)) (va_Qi (fun (r : Int32) (_ : Unit) => r = 0) (fun (_ : Unit) (t : State) => va_P (dC, dI) vwCl [(hRea, .inr (2, [.ref hTape, .ref aSt, .int 0, .int 0, .int 0, .int 0, .int 0, .int 0, .int 0])), (hTape, .inr (5, [.ref aB, .int 0]))] t.heap ∧ va_K (dC, dI) vwCl [] t ∧ va_D (va_A [(hRea, .inr (2, [.ref hTape, .ref aSt, .int 0, .int 0, .int 0, .int 0, .int 0, .int 0, .int 0])), (hTape, .inr (5, [.ref aB, .int 0]))] sz) [(hRea, .inr (2, [.ref hTape, .ref aSt, .int 0, .int 0, .int 0, .int 0, .int 0, .int 0, .int 0])), (hTape, .inr (5, [.ref aB, .int 0]))]) (va_A [(hRea, .inr (2, [.ref hTape, .ref aSt, .int 0, .int 0, .int 0, .int 0, .int 0, .int 0, .int 0])), (hTape, .inr (5, [.ref aB, .int 0]))] sz)) 0 0 (va_A [(hRea, .inr (2, [.ref hTape, .ref aSt, .int 0, .int 0, .int 0, .int 0, .int 0, .int 0, .int 0])), (hTape, .inr (5, [.ref aB, .int 0]))] sz) := by
  refine Met.ofW (cc := cX2_read) (maxL := 2) (ret := (some .int)) (by decide) rfl ?_
  intro p e s m args below meth c s₁ B hml hv
  obtain ⟨rfl, hsz, hP, hK, hD0, hN⟩ := hv
  have hx := B.exec
  have hb := B.bytes
  have hr := B.returns
  have hts := atoms_spec (ws := wsX2_read) B.pre
  have hown : s.vm.findClass RX2 = some m.cls := findClass_of_methodNamed B.named
  have hlocks := B.notSynchronized
  subst hsz
  have hD := hD0.self (sz := s.heap.size)
  generalize hAe : va_A [(hRea, .inr (2, [.ref hTape, .ref aSt, .int 0, .int 0, .int 0, .int 0, .int 0, .int 0, .int 0])), (hTape, .inr (5, [.ref aB, .int 0]))] s.heap.size = A at hD hN ⊢
  have hSt := hN
  have hN := hSt.1
  have hA : ∀ q : Nat, s.heap.size ≤ q → A q := fun q h => by rw [← hAe]; exact Or.inr h
  have hS : va_S A s.heap s.heap [] := va_S.rf
  have hP : va_P (dC, dI) vwCl [(hRea, .inr (2, [.ref hTape, .ref aSt, .int 0, .int 0, .int 0, .int 0, .int 0, .int 0, .int 0])), (hTape, .inr (5, [.ref aB, .int 0]))] s.heap := hP
  have hIX2 : ∀ w ∈ u_ws RX2 TX2 9, w ∈ wsX2_read := by decide +kernel
  have hl := lv_entry ([.ref hRea, .int 0]) (n := 2) (Nat.le_of_ble_eq_true rfl)
  rw [lg_entry_eq]
  generalize (lg_sl ([.ref hRea, .int 0]) ++ List.replicate (2 - (lg_sl ([.ref hRea, .int 0])).length) Slot.unset).toArray = ls at hl ⊢
  have hl : lv_has ls 2 [(0, .ref hRea), (1, .int 0)] := hl
  refine lv_aload_n hx hb dX2_read_0 rfl (lv_at hl 0 rfl) ?_
  refine lv_iconst (v := 0) hx hb dX2_read_1 (by decide) ?_
  refine va_put (D := (dC, dI)) (ci := 2) (v := .int 0) (ty := .int) (C := RX2) (T := TX2) (N := 9) hx hb hts hIX2 tyX2 tyX2_ok nmX2 hown hK hP hD hS 0 rfl rfl 2 (by decide) (hts (.fieldLink RX2 21 "TraitHouse$Reader" "size" "I") (by decide +kernel)) (fun _ h9 => h9) rfl (by decide +kernel) rfl rfl (Nat.le_of_ble_eq_true rfl) dX2_read_2 (fun H locs hP hD hS => ?_)
  have hP : va_P (dC, dI) vwCl [(hRea, .inr (2, [.ref hTape, .ref aSt, .int 0, .int 0, .int 0, .int 0, .int 0, .int 0, .int 0])), (hTape, .inr (5, [.ref aB, .int 0]))] H := hP
  have hD : va_D A [(hRea, .inr (2, [.ref hTape, .ref aSt, .int 0, .int 0, .int 0, .int 0, .int 0, .int 0, .int 0])), (hTape, .inr (5, [.ref aB, .int 0]))] := hD
  refine lv_aload_n hx hb dX2_read_5 rfl (lv_at hl 0 rfl) ?_
  refine lv_iconst (v := 0) hx hb dX2_read_6 (by decide) ?_
  refine va_put (D := (dC, dI)) (ci := 2) (v := .int 0) (ty := .int) (C := RX2) (T := TX2) (N := 9) hx hb hts hIX2 tyX2 tyX2_ok nmX2 hown hK hP hD hS 0 rfl rfl 4 (by decide) (hts (.fieldLink RX2 25 "TraitHouse$Reader" "behind" "I") (by decide +kernel)) (fun _ h9 => h9) rfl (by decide +kernel) rfl rfl (Nat.le_of_ble_eq_true rfl) dX2_read_7 (fun H locs hP hD hS => ?_)
  have hP : va_P (dC, dI) vwCl [(hRea, .inr (2, [.ref hTape, .ref aSt, .int 0, .int 0, .int 0, .int 0, .int 0, .int 0, .int 0])), (hTape, .inr (5, [.ref aB, .int 0]))] H := hP
  have hD : va_D A [(hRea, .inr (2, [.ref hTape, .ref aSt, .int 0, .int 0, .int 0, .int 0, .int 0, .int 0, .int 0])), (hTape, .inr (5, [.ref aB, .int 0]))] := hD
  refine lv_aload_n hx hb dX2_read_10 rfl (lv_at hl 0 rfl) ?_
  refine lv_iload_n hx hb dX2_read_11 rfl (lv_at hl 1 rfl) ?_
  refine va_put (D := (dC, dI)) (ci := 2) (v := .int 0) (ty := .int) (C := RX2) (T := TX2) (N := 9) hx hb hts hIX2 tyX2 tyX2_ok nmX2 hown hK hP hD hS 0 rfl rfl 5 (by decide) (hts (.fieldLink RX2 28 "TraitHouse$Reader" "traitsThere" "I") (by decide +kernel)) (fun _ h9 => h9) rfl (by decide +kernel) rfl rfl (Nat.le_of_ble_eq_true rfl) dX2_read_12 (fun H locs hP hD hS => ?_)
  have hP : va_P (dC, dI) vwCl [(hRea, .inr (2, [.ref hTape, .ref aSt, .int 0, .int 0, .int 0, .int 0, .int 0, .int 0, .int 0])), (hTape, .inr (5, [.ref aB, .int 0]))] H := hP
  have hD : va_D A [(hRea, .inr (2, [.ref hTape, .ref aSt, .int 0, .int 0, .int 0, .int 0, .int 0, .int 0, .int 0])), (hTape, .inr (5, [.ref aB, .int 0]))] := hD
  refine lv_aload_n hx hb dX2_read_15 rfl (lv_at hl 0 rfl) ?_
  refine lv_iconst (v := (-1)) hx hb dX2_read_16 (by decide) ?_
  refine va_put (D := (dC, dI)) (ci := 2) (v := .int (-1)) (ty := .int) (C := RX2) (T := TX2) (N := 9) hx hb hts hIX2 tyX2 tyX2_ok nmX2 hown hK hP hD hS 0 rfl rfl 6 (by decide) (hts (.fieldLink RX2 31 "TraitHouse$Reader" "fault" "I") (by decide +kernel)) (fun _ h9 => h9) rfl (by decide +kernel) rfl rfl (Nat.le_of_ble_eq_true rfl) dX2_read_17 (fun H locs hP hD hS => ?_)
  have hP : va_P (dC, dI) vwCl [(hRea, .inr (2, [.ref hTape, .ref aSt, .int 0, .int 0, .int 0, .int 0, .int (-1), .int 0, .int 0])), (hTape, .inr (5, [.ref aB, .int 0]))] H := hP
  have hD : va_D A [(hRea, .inr (2, [.ref hTape, .ref aSt, .int 0, .int 0, .int 0, .int 0, .int (-1), .int 0, .int 0])), (hTape, .inr (5, [.ref aB, .int 0]))] := hD
  refine lv_aload_n hx hb dX2_read_20 rfl (lv_at hl 0 rfl) ?_
  refine lv_iconst (v := 0) hx hb dX2_read_21 (by decide) ?_
  refine va_put (D := (dC, dI)) (ci := 2) (v := .int 0) (ty := .int) (C := RX2) (T := TX2) (N := 9) hx hb hts hIX2 tyX2 tyX2_ok nmX2 hown hK hP hD hS 0 rfl rfl 7 (by decide) (hts (.fieldLink RX2 34 "TraitHouse$Reader" "reads" "I") (by decide +kernel)) (fun _ h9 => h9) rfl (by decide +kernel) rfl rfl (Nat.le_of_ble_eq_true rfl) dX2_read_22 (fun H locs hP hD hS => ?_)
  have hP : va_P (dC, dI) vwCl [(hRea, .inr (2, [.ref hTape, .ref aSt, .int 0, .int 0, .int 0, .int 0, .int (-1), .int 0, .int 0])), (hTape, .inr (5, [.ref aB, .int 0]))] H := hP
  have hD : va_D A [(hRea, .inr (2, [.ref hTape, .ref aSt, .int 0, .int 0, .int 0, .int 0, .int (-1), .int 0, .int 0])), (hTape, .inr (5, [.ref aB, .int 0]))] := hD
  refine lv_aload_n hx hb dX2_read_25 rfl (lv_at hl 0 rfl) ?_
  refine lv_iconst (v := 0) hx hb dX2_read_26 (by decide) ?_
  refine va_put (D := (dC, dI)) (ci := 2) (v := .int 0) (ty := .boolean) (C := RX2) (T := TX2) (N := 9) hx hb hts hIX2 tyX2 tyX2_ok nmX2 hown hK hP hD hS 0 rfl rfl 8 (by decide) (hts (.fieldLink RX2 37 "TraitHouse$Reader" "leaks" "Z") (by decide +kernel)) (fun _ h9 => h9) rfl (by decide +kernel) rfl rfl (Nat.le_of_ble_eq_true rfl) dX2_read_27 (fun H locs hP hD hS => ?_)
  have hP : va_P (dC, dI) vwCl [(hRea, .inr (2, [.ref hTape, .ref aSt, .int 0, .int 0, .int 0, .int 0, .int (-1), .int 0, .int 0])), (hTape, .inr (5, [.ref aB, .int 0]))] H := hP
  have hD : va_D A [(hRea, .inr (2, [.ref hTape, .ref aSt, .int 0, .int 0, .int 0, .int 0, .int (-1), .int 0, .int 0])), (hTape, .inr (5, [.ref aB, .int 0]))] := hD
  refine lv_aload_n hx hb dX2_read_30 rfl (lv_at hl 0 rfl) ?_
  have hPc := hP.sub (ws' := [(hRea, .inr (2, [.ref hTape, .ref aSt, .int 0, .int 0, .int 0, .int 0, .int (-1), .int 0, .int 0])), (hTape, .inr (5, [.ref aB, .int 0]))]) [0, 1] rfl
  have hDc := hD.sub (ws' := [(hRea, .inr (2, [.ref hTape, .ref aSt, .int 0, .int 0, .int 0, .int 0, .int (-1), .int 0, .int 0])), (hTape, .inr (5, [.ref aB, .int 0]))]) [0, 1] (by decide) rfl
  have hKc := hK.sub (tys' := []) [] rfl
  have hFc := va_free (wc := [(hRea, .inr (2, [.ref hTape, .ref aSt, .int 0, .int 0, .int 0, .int 0, .int (-1), .int 0, .int 0])), (hTape, .inr (5, [.ref aB, .int 0]))]) hD hS hA [0, 1] rfl
  refine va_callv (va_runV (As := []) (rest := []) ⟨hx, hb, hml, hown, hts⟩ (c_X2_advance l dC dI H.size adK adV hRea hTape aSt aB 0 ) (cwV 0 hts gX2_read_X2_advance rfl rfl rfl (by decide +kernel) ⟨Nat.le_of_ble_eq_true rfl, Nat.le_of_ble_eq_true rfl⟩) ⟨fun a U g mk q => by obtain ⟨q0, q1, qP, qK, qD, qN⟩ := q; exact ⟨q0, q1, qP, va_K.moved (u := U) (U := U.calling g mk a) (Vm.Alike.refl U.vm) qK, qD, qN.same rfl rfl⟩, va_recv hKc hPc (ci := 2) (q0 := 0) rfl rfl, fun U hU hW => ⟨rfl, by rw [hU], by rw [hU]; exact hPc, va_K.moved hW.alike hKc, hDc.weaken (fun _ _ _ _ => trivial), hSt.call hS hU hW hFc⟩⟩ rfl rfl hl.1 rfl (lv_room (Nat.le_of_ble_eq_true rfl)) dX2_read_31 ⟨Nat.le_of_ble_eq_true rfl, Nat.le_of_ble_eq_true rfl⟩) hS (fun q _ h => hFc q h) hFc (fun u_1 t H1 locs ht hvm hw_2 hB hz1 hk1 hS => ?_)
  try dsimp only at hw_2
  obtain ⟨hP1, hK1, hD1⟩ := hB
  rw [ht] at hP1
  have hK1 := va_K.moved hvm.symm hK1
  obtain ⟨hP, hD⟩ := va_join (wr := []) (w1 := [(hRea, .inr (2, [.ref hTape, .ref aSt, .int 0, .int 0, .int 0, .int 0, .int (-1), .int 0, .int 0])), (hTape, .inr (5, [.ref aB, .int 0]))]) hP hD [0, 1] [] rfl rfl (by decide) (by decide) hk1 hFc hP1 hD1
  have hK := (hK.sub (tys' := []) [] rfl).app hK1
  generalize H1 = H at hP hS ⊢
  have hP : va_P (dC, dI) vwCl [(hRea, .inr (2, [.ref hTape, .ref aSt, .int 0, .int 0, .int 0, .int 0, .int (-1), .int 0, .int 0])), (hTape, .inr (5, [.ref aB, .int 0]))] H := hP
  have hD : va_D A [(hRea, .inr (2, [.ref hTape, .ref aSt, .int 0, .int 0, .int 0, .int 0, .int (-1), .int 0, .int 0])), (hTape, .inr (5, [.ref aB, .int 0]))] := hD
  have hK : va_K (dC, dI) vwCl [] s := hK
  refine lv_aload_n hx hb dX2_read_34 rfl (lv_at hl 0 rfl) ?_
  refine lv_iconst (v := 0) hx hb dX2_read_35 (by decide) ?_
  have hk_3 : (0 : Int32).toInt = 0 := by decide
  have hPc := hP.sub (ws' := [(hRea, .inr (2, [.ref hTape, .ref aSt, .int 0, .int 0, .int 0, .int 0, .int (-1), .int 0, .int 0])), (hTape, .inr (5, [.ref aB, .int 0]))]) [0, 1] rfl
  have hDc := hD.sub (ws' := [(hRea, .inr (2, [.ref hTape, .ref aSt, .int 0, .int 0, .int 0, .int 0, .int (-1), .int 0, .int 0])), (hTape, .inr (5, [.ref aB, .int 0]))]) [0, 1] (by decide) rfl
  have hKc := hK.sub (tys' := []) [] rfl
  have hFc := va_free (wc := [(hRea, .inr (2, [.ref hTape, .ref aSt, .int 0, .int 0, .int 0, .int 0, .int (-1), .int 0, .int 0])), (hTape, .inr (5, [.ref aB, .int 0]))]) hD hS hA [0, 1] rfl
  refine va_calli (va_runV (As := [.int 0]) (rest := []) ⟨hx, hb, hml, hown, hts⟩ (c_X2_readSum l dC dI H.size adK adV hRea hTape aSt aB 0 ) (cwV 1 hts gX2_read_X2_readSum rfl rfl rfl (by decide +kernel) ⟨Nat.le_of_ble_eq_true rfl, Nat.le_of_ble_eq_true rfl⟩) ⟨fun a U g mk q => by obtain ⟨q0, q1, qP, qK, qD, qN⟩ := q; exact ⟨q0, q1, qP, va_K.moved (u := U) (U := U.calling g mk a) (Vm.Alike.refl U.vm) qK, qD, qN.same rfl rfl⟩, va_recv hKc hPc (ci := 2) (q0 := 0) rfl rfl, fun U hU hW => ⟨rfl, by rw [hU], by rw [hU]; exact hPc, va_K.moved hW.alike hKc, hDc.weaken (fun _ _ _ _ => trivial), hSt.call hS hU hW hFc⟩⟩ rfl rfl hl.1 rfl (lv_room (Nat.le_of_ble_eq_true rfl)) dX2_read_36 ⟨Nat.le_of_ble_eq_true rfl, Nat.le_of_ble_eq_true rfl⟩) hS (fun q _ h => hFc q h) hFc (fun r_4 u_5 t H1 locs ht hvm hw_6 hB hz1 hk1 hS => ?_)
  try dsimp only at hw_6
  obtain ⟨hP1, hK1, hD1⟩ := hB
  rw [ht] at hP1
  have hK1 := va_K.moved hvm.symm hK1
  obtain ⟨hP, hD⟩ := va_join (wr := []) (w1 := [(hRea, .inr (2, [.ref hTape, .ref aSt, .int 0, .int 0, .int 0, .int 0, .int 0, .int 0, .int 0])), (hTape, .inr (5, [.ref aB, .int 0]))]) hP hD [0, 1] [] rfl rfl (by decide) (by decide) hk1 hFc hP1 hD1
  have hK := (hK.sub (tys' := []) [] rfl).app hK1
  generalize H1 = H at hP hS ⊢
  have hP : va_P (dC, dI) vwCl [(hRea, .inr (2, [.ref hTape, .ref aSt, .int 0, .int 0, .int 0, .int 0, .int 0, .int 0, .int 0])), (hTape, .inr (5, [.ref aB, .int 0]))] H := hP
  have hD : va_D A [(hRea, .inr (2, [.ref hTape, .ref aSt, .int 0, .int 0, .int 0, .int 0, .int 0, .int 0, .int 0])), (hTape, .inr (5, [.ref aB, .int 0]))] := hD
  have hK : va_K (dC, dI) vwCl [] s := hK
  obtain rfl : 0 = r_4 := hw_6.symm
  refine lv_if_eq (tgt := 61) hx hb dX2_read_39 (by decide) (fun c_7 => ?_) (fun c_7 => absurd (by decide) c_7)
  refine lv_aload_n hx hb dX2_read_61 rfl (lv_at hl 0 rfl) ?_
  refine va_get (D := (dC, dI)) (ci := 2) (v := .int 0) (C := RX2) (T := TX2) (N := 9) hx hb hts hIX2 hown hK hP 0 rfl rfl 6 (by decide) (hts (.fieldLink RX2 31 "TraitHouse$Reader" "fault" "I") (by decide +kernel)) (fun _ h9 => h9) rfl dX2_read_62 ?_
  have hP9 := hP.sub (ws' := [(hRea, .inr (2, [.ref hTape, .ref aSt, .int 0, .int 0, .int 0, .int 0, .int 0, .int 0, .int 0])), (hTape, .inr (5, [.ref aB, .int 0]))]) [0, 1] rfl
  have hD9 := hD.sub (ws' := [(hRea, .inr (2, [.ref hTape, .ref aSt, .int 0, .int 0, .int 0, .int 0, .int 0, .int 0, .int 0])), (hTape, .inr (5, [.ref aB, .int 0]))]) [0, 1] (by decide) rfl
  have hK9 := hK.sub (tys' := []) [] rfl
  exact W.iret (v := 0) hx hb hr (fun t ht hW => ⟨⟨0, (), rfl, rfl, by rw [ht]; exact hP9, va_K.moved hW.alike hK9, hD9⟩, hS.F ht⟩) hS.2.2 dX2_read_65

set_option maxHeartbeats 4000000 in
set_option maxRecDepth 100000 in
theorem c_X8_readTrait_f (l : Launch) (dC : Nat → ClassId) (dI : Nat → Nat → Nat) (sz : Nat) (adK : Nat → Nat) (adV : Nat → Nat) (h0 : Nat) (hRows : Nat) (hMer : Nat) (hEra : Nat) (hTape : Nat) (hRea : Nat) (hTra : Nat) (hWor : Nat) (hPla : Nat) (hMod : Nat) (hHe1 : Nat) (hHe2 : Nat) (aSt : Nat) (aB : Nat)  : Met l yX8_readTrait wsX8_readTrait ({ frames := 9, cells := 0, slots := 0, locals := 195 }) (va_Pc [.ref h0] (fun U => U.heap.size = sz ∧ va_P (dC, dI) vwCl [(h0, .inr (8, [.ref hRows, .ref hMer, .ref hEra, .ref hTape, .ref hRea, .ref hTra, .ref hWor, .ref hPla, .ref hMod, .ref hHe1, .ref hHe2, .int 0, .int 0, .int 0, .int 0, .int (-1), .int 0])), (hRea, .inr (2, [.ref hTape, .ref aSt, .int 0, .int 0, .int 0, .int 0, .int 0, .int 0, .int 0])), (hTape, .inr (5, [.ref aB, .int 0]))] U.heap ∧ va_K (dC, dI) vwCl [] U ∧ va_D (fun _ => True) [(h0, .inr (8, [.ref hRows, .ref hMer, .ref hEra, .ref hTape, .ref hRea, .ref hTra, .ref hWor, .ref hPla, .ref hMod, .ref hHe1, .ref hHe2, .int 0, .int 0, .int 0, .int 0, .int (-1), .int 0])), (hRea, .inr (2, [.ref hTape, .ref aSt, .int 0, .int 0, .int 0, .int 0, .int 0, .int 0, .int 0])), (hTape, .inr (5, [.ref aB, .int 0]))] ∧ st_ok adK adV (va_A [(h0, .inr (8, [.ref hRows, .ref hMer, .ref hEra, .ref hTape, .ref hRea, .ref hTra, .ref hWor, .ref hPla, .ref hMod, .ref hHe1, .ref hHe2, .int 0, .int 0, .int 0, .int 0, .int (-1), .int 0])), (hRea, .inr (2, [.ref hTape, .ref aSt, .int 0, .int 0, .int 0, .int 0, .int 0, .int 0, .int 0])), (hTape, .inr (5, [.ref aB, .int 0]))] sz) U)) (va_Qi (fun (r : Int32) (_ : Unit) => r = (-6)) (fun (_ : Unit) (t : State) => va_P (dC, dI) vwCl [(h0, .inr (8, [.ref hRows, .ref hMer, .ref hEra, .ref hTape, .ref hRea, .ref hTra, .ref hWor, .ref hPla, .ref hMod, .ref hHe1, .ref hHe2, .int 0, .int 0, .int 0, .int 0, .int 0, .int 0])), (hTape, .inr (5, [.ref aB, .int 0]))] t.heap ∧ va_K (dC, dI) vwCl [] t ∧ va_D (va_A [(h0, .inr (8, [.ref hRows, .ref hMer, .ref hEra, .ref hTape, .ref hRea, .ref hTra, .ref hWor, .ref hPla, .ref hMod, .ref hHe1, .ref hHe2, .int 0, .int 0, .int 0, .int 0, .int (-1), .int 0])), (hRea, .inr (2, [.ref hTape, .ref aSt, .int 0, .int 0, .int 0, .int 0, .int 0, .int 0, .int 0])), (hTape, .inr (5, [.ref aB, .int 0]))] sz) [(h0, .inr (8, [.ref hRows, .ref hMer, .ref hEra, .ref hTape, .ref hRea, .ref hTra, .ref hWor, .ref hPla, .ref hMod, .ref hHe1, .ref hHe2, .int 0, .int 0, .int 0, .int 0, .int 0, .int 0])), (hTape, .inr (5, [.ref aB, .int 0]))]) (va_A [(h0, .inr (8, [.ref hRows, .ref hMer, .ref hEra, .ref hTape, .ref hRea, .ref hTra, .ref hWor, .ref hPla, .ref hMod, .ref hHe1, .ref hHe2, .int 0, .int 0, .int 0, .int 0, .int (-1), .int 0])), (hRea, .inr (2, [.ref hTape, .ref aSt, .int 0, .int 0, .int 0, .int 0, .int 0, .int 0, .int 0])), (hTape, .inr (5, [.ref aB, .int 0]))] sz)) 0 0 (va_A [(h0, .inr (8, [.ref hRows, .ref hMer, .ref hEra, .ref hTape, .ref hRea, .ref hTra, .ref hWor, .ref hPla, .ref hMod, .ref hHe1, .ref hHe2, .int 0, .int 0, .int 0, .int 0, .int (-1), .int 0])), (hRea, .inr (2, [.ref hTape, .ref aSt, .int 0, .int 0, .int 0, .int 0, .int 0, .int 0, .int 0])), (hTape, .inr (5, [.ref aB, .int 0]))] sz) := by
  refine Met.ofW (cc := cX8_readTrait) (maxL := 2) (ret := (some .int)) (by decide) rfl ?_
  intro p e s m args below meth c s₁ B hml hv
  obtain ⟨rfl, hsz, hP, hK, hD0, hN⟩ := hv
  have hx := B.exec
  have hb := B.bytes
  have hr := B.returns
  have hts := atoms_spec (ws := wsX8_readTrait) B.pre
  have hown : s.vm.findClass RX8 = some m.cls := findClass_of_methodNamed B.named
  have hlocks := B.notSynchronized
  subst hsz
  have hD := hD0.self (sz := s.heap.size)
  generalize hAe : va_A [(h0, .inr (8, [.ref hRows, .ref hMer, .ref hEra, .ref hTape, .ref hRea, .ref hTra, .ref hWor, .ref hPla, .ref hMod, .ref hHe1, .ref hHe2, .int 0, .int 0, .int 0, .int 0, .int (-1), .int 0])), (hRea, .inr (2, [.ref hTape, .ref aSt, .int 0, .int 0, .int 0, .int 0, .int 0, .int 0, .int 0])), (hTape, .inr (5, [.ref aB, .int 0]))] s.heap.size = A at hD hN ⊢
  have hSt := hN
  have hN := hSt.1
  have hA : ∀ q : Nat, s.heap.size ≤ q → A q := fun q h => by rw [← hAe]; exact Or.inr h
  have hS : va_S A s.heap s.heap [] := va_S.rf
  have hP : va_P (dC, dI) vwCl [(h0, .inr (8, [.ref hRows, .ref hMer, .ref hEra, .ref hTape, .ref hRea, .ref hTra, .ref hWor, .ref hPla, .ref hMod, .ref hHe1, .ref hHe2, .int 0, .int 0, .int 0, .int 0, .int (-1), .int 0])), (hRea, .inr (2, [.ref hTape, .ref aSt, .int 0, .int 0, .int 0, .int 0, .int 0, .int 0, .int 0])), (hTape, .inr (5, [.ref aB, .int 0]))] s.heap := hP
  have hIX8 : ∀ w ∈ u_ws RX8 TX8 17, w ∈ wsX8_readTrait := by decide +kernel
  have hl := lv_entry ([.ref h0]) (n := 2) (Nat.le_of_ble_eq_true rfl)
  rw [lg_entry_eq]
  generalize (lg_sl ([.ref h0]) ++ List.replicate (2 - (lg_sl ([.ref h0])).length) Slot.unset).toArray = ls at hl ⊢
  have hl : lv_has ls 2 [(0, .ref h0)] := hl
  refine lv_aload_n hx hb dX8_readTrait_0 rfl (lv_at hl 0 rfl) ?_
  refine lv_aload_n hx hb dX8_readTrait_1 rfl (lv_at hl 0 rfl) ?_
  refine va_get (D := (dC, dI)) (ci := 8) (v := .ref hRea) (C := RX8) (T := TX8) (N := 17) hx hb hts hIX8 hown hK hP 0 rfl rfl 4 (by decide) (hts (.fieldLink RX8 39 "TraitHouse" "reader" "LTraitHouse$Reader;") (by decide +kernel)) (fun _ h9 => h9) rfl dX8_readTrait_2 ?_
  refine lv_aload_n hx hb dX8_readTrait_5 rfl (lv_at hl 0 rfl) ?_
  refine va_get (D := (dC, dI)) (ci := 8) (v := .int 0) (C := RX8) (T := TX8) (N := 17) hx hb hts hIX8 hown hK hP 0 rfl rfl 13 (by decide) (hts (.fieldLink RX8 148 "TraitHouse" "traitsThere" "I") (by decide +kernel)) (fun _ h9 => h9) rfl dX8_readTrait_6 ?_
  have hk_1 : (0 : Int32).toInt = 0 := by decide
  have hPc := hP.sub (ws' := [(hRea, .inr (2, [.ref hTape, .ref aSt, .int 0, .int 0, .int 0, .int 0, .int 0, .int 0, .int 0])), (hTape, .inr (5, [.ref aB, .int 0]))]) [1, 2] rfl
  have hDc := hD.sub (ws' := [(hRea, .inr (2, [.ref hTape, .ref aSt, .int 0, .int 0, .int 0, .int 0, .int 0, .int 0, .int 0])), (hTape, .inr (5, [.ref aB, .int 0]))]) [1, 2] (by decide) rfl
  have hKc := hK.sub (tys' := []) [] rfl
  have hFc := va_free (wc := [(hRea, .inr (2, [.ref hTape, .ref aSt, .int 0, .int 0, .int 0, .int 0, .int 0, .int 0, .int 0])), (hTape, .inr (5, [.ref aB, .int 0]))]) hD hS hA [1, 2] rfl
  refine va_calli (va_runVN (As := [.int 0]) (rest := [.ref h0]) ⟨hx, hb, hml, hown, hts⟩ (c_X2_read_f l dC dI s.heap.size adK adV hRea hTape aSt aB ) ⟨(va_cnB 1 hts gX8_readTrait_X2_read_n155 rfl rfl rfl (nw_at hN 45 rfl) (hts (.initialized RX2) (by decide +kernel)) (by decide +kernel) ⟨Nat.le_of_ble_eq_true rfl, Nat.le_of_ble_eq_true rfl⟩), (hts (.instanceMethod yX2_read) (by decide +kernel)), (hts (.selects RX2 yX2_read yX2_read) (by decide +kernel))⟩ ⟨fun a U g mk q => by obtain ⟨q0, q1, qP, qK, qD, qN⟩ := q; exact ⟨q0, q1, qP, va_K.moved (u := U) (U := U.calling g mk a) (Vm.Alike.refl U.vm) qK, qD, qN.same rfl rfl⟩, va_recv hKc hPc (ci := 2) (q0 := 0) rfl rfl, fun U hU hW => ⟨rfl, by rw [hU], by rw [hU]; exact hPc, va_K.moved hW.alike hKc, hDc.weaken (fun _ _ _ _ => trivial), hSt.call hS hU hW hFc⟩⟩ rfl rfl hl.1 rfl (lv_room (Nat.le_of_ble_eq_true rfl)) dX8_readTrait_9 ⟨Nat.le_of_ble_eq_true rfl, Nat.le_of_ble_eq_true rfl⟩) hS (fun q _ h => hFc q h) hFc (fun r_2 u_3 t H1 locs ht hvm hw_4 hB hz1 hk1 hS => ?_)
  try dsimp only at hw_4
  obtain ⟨hP1, hK1, hD1⟩ := hB
  rw [ht] at hP1
  have hK1 := va_K.moved hvm.symm hK1
  obtain ⟨hP, hD⟩ := va_join (wr := [(h0, .inr (8, [.ref hRows, .ref hMer, .ref hEra, .ref hTape, .ref hRea, .ref hTra, .ref hWor, .ref hPla, .ref hMod, .ref hHe1, .ref hHe2, .int 0, .int 0, .int 0, .int 0, .int (-1), .int 0]))]) (w1 := [(hRea, .inr (2, [.ref hTape, .ref aSt, .int 0, .int 0, .int 0, .int 0, .int 0, .int 0, .int 0])), (hTape, .inr (5, [.ref aB, .int 0]))]) hP hD [1, 2] [0] rfl rfl (by decide) (by decide) hk1 hFc hP1 hD1
  have hK := (hK.sub (tys' := []) [] rfl).app hK1
  generalize H1 = H at hP hS ⊢
  have hP : va_P (dC, dI) vwCl [(h0, .inr (8, [.ref hRows, .ref hMer, .ref hEra, .ref hTape, .ref hRea, .ref hTra, .ref hWor, .ref hPla, .ref hMod, .ref hHe1, .ref hHe2, .int 0, .int 0, .int 0, .int 0, .int (-1), .int 0])), (hRea, .inr (2, [.ref hTape, .ref aSt, .int 0, .int 0, .int 0, .int 0, .int 0, .int 0, .int 0])), (hTape, .inr (5, [.ref aB, .int 0]))] H := hP
  have hD : va_D A [(h0, .inr (8, [.ref hRows, .ref hMer, .ref hEra, .ref hTape, .ref hRea, .ref hTra, .ref hWor, .ref hPla, .ref hMod, .ref hHe1, .ref hHe2, .int 0, .int 0, .int 0, .int 0, .int (-1), .int 0])), (hRea, .inr (2, [.ref hTape, .ref aSt, .int 0, .int 0, .int 0, .int 0, .int 0, .int 0, .int 0])), (hTape, .inr (5, [.ref aB, .int 0]))] := hD
  have hK : va_K (dC, dI) vwCl [] s := hK
  obtain rfl : 0 = r_2 := hw_4.symm
  refine va_put (D := (dC, dI)) (ci := 8) (v := .int 0) (ty := .int) (C := RX8) (T := TX8) (N := 17) hx hb hts hIX8 tyX8 tyX8_ok nmX8 hown hK hP hD hS 0 rfl rfl 15 (by decide) (hts (.fieldLink RX8 75 "TraitHouse" "latestFault" "I") (by decide +kernel)) (fun _ h9 => h9) rfl (by decide +kernel) rfl rfl (Nat.le_of_ble_eq_true rfl) dX8_readTrait_12 (fun H locs hP hD hS => ?_)
  have hP : va_P (dC, dI) vwCl [(h0, .inr (8, [.ref hRows, .ref hMer, .ref hEra, .ref hTape, .ref hRea, .ref hTra, .ref hWor, .ref hPla, .ref hMod, .ref hHe1, .ref hHe2, .int 0, .int 0, .int 0, .int 0, .int 0, .int 0])), (hRea, .inr (2, [.ref hTape, .ref aSt, .int 0, .int 0, .int 0, .int 0, .int 0, .int 0, .int 0])), (hTape, .inr (5, [.ref aB, .int 0]))] H := hP
  have hD : va_D A [(h0, .inr (8, [.ref hRows, .ref hMer, .ref hEra, .ref hTape, .ref hRea, .ref hTra, .ref hWor, .ref hPla, .ref hMod, .ref hHe1, .ref hHe2, .int 0, .int 0, .int 0, .int 0, .int 0, .int 0])), (hRea, .inr (2, [.ref hTape, .ref aSt, .int 0, .int 0, .int 0, .int 0, .int 0, .int 0, .int 0])), (hTape, .inr (5, [.ref aB, .int 0]))] := hD
  refine lv_aload_n hx hb dX8_readTrait_15 rfl (lv_at hl 0 rfl) ?_
  refine va_get (D := (dC, dI)) (ci := 8) (v := .int 0) (C := RX8) (T := TX8) (N := 17) hx hb hts hIX8 hown hK hP 0 rfl rfl 15 (by decide) (hts (.fieldLink RX8 75 "TraitHouse" "latestFault" "I") (by decide +kernel)) (fun _ h9 => h9) rfl dX8_readTrait_16 ?_
  refine lv_iconst (v := (-1)) hx hb dX8_readTrait_19 (by decide) ?_
  refine lv_icmp_eq (tgt := 26) hx hb dX8_readTrait_20 (by decide) (fun c_5 => absurd c_5 (by decide)) (fun c_5 => ?_)
  refine lv_bipush (v := (-6)) hx hb dX8_readTrait_23 (by decide) ?_
  have hP9 := hP.sub (ws' := [(h0, .inr (8, [.ref hRows, .ref hMer, .ref hEra, .ref hTape, .ref hRea, .ref hTra, .ref hWor, .ref hPla, .ref hMod, .ref hHe1, .ref hHe2, .int 0, .int 0, .int 0, .int 0, .int 0, .int 0])), (hTape, .inr (5, [.ref aB, .int 0]))]) [0, 2] rfl
  have hD9 := hD.sub (ws' := [(h0, .inr (8, [.ref hRows, .ref hMer, .ref hEra, .ref hTape, .ref hRea, .ref hTra, .ref hWor, .ref hPla, .ref hMod, .ref hHe1, .ref hHe2, .int 0, .int 0, .int 0, .int 0, .int 0, .int 0])), (hTape, .inr (5, [.ref aB, .int 0]))]) [0, 2] (by decide) rfl
  have hK9 := hK.sub (tys' := []) [] rfl
  exact W.iret (v := (-6)) hx hb hr (fun t ht hW => ⟨⟨(-6), (), rfl, rfl, by rw [ht]; exact hP9, va_K.moved hW.alike hK9, hD9⟩, hS.F ht⟩) hS.2.2 dX8_readTrait_25

set_option maxHeartbeats 4000000 in
set_option maxRecDepth 100000 in
theorem c_X8_trait_f (l : Launch) (dC : Nat → ClassId) (dI : Nat → Nat → Nat) (sz : Nat) (adK : Nat → Nat) (adV : Nat → Nat) (h0 : Nat) (hRows : Nat) (hMer : Nat) (hEra : Nat) (hTape : Nat) (hRea : Nat) (hTra : Nat) (hWor : Nat) (hPla : Nat) (hMod : Nat) (hHe1 : Nat) (hHe2 : Nat) (aSt : Nat) (aB : Nat)  : Met l yX8_trait wsX8_trait ({ frames := 10, cells := 0, slots := 0, locals := 216 }) (va_Pc [.ref h0] (fun U => U.heap.size = sz ∧ va_P (dC, dI) vwCl [(h0, .inr (8, [.ref hRows, .ref hMer, .ref hEra, .ref hTape, .ref hRea, .ref hTra, .ref hWor, .ref hPla, .ref hMod, .ref hHe1, .ref hHe2, .int 0, .int 0, .int 0, .int 0, .int (-1), .int 0])), (hRea, .inr (2, [.ref hTape, .ref aSt, .int 0, .int 0, .int 0, .int 0, .int 0, .int 0, .int 0])), (hTape, .inr (5, [.ref aB, .int 0]))] U.heap ∧ va_K (dC, dI) vwCl [] U ∧ va_D (fun _ => True) [(h0, .inr (8, [.ref hRows, .ref hMer, .ref hEra, .ref hTape, .ref hRea, .ref hTra, .ref hWor, .ref hPla, .ref hMod, .ref hHe1, .ref hHe2, .int 0, .int 0, .int 0, .int 0, .int (-1), .int 0])), (hRea, .inr (2, [.ref hTape, .ref aSt, .int 0, .int 0, .int 0, .int 0, .int 0, .int 0, .int 0])), (hTape, .inr (5, [.ref aB, .int 0]))] ∧ st_ok adK adV (va_A [(h0, .inr (8, [.ref hRows, .ref hMer, .ref hEra, .ref hTape, .ref hRea, .ref hTra, .ref hWor, .ref hPla, .ref hMod, .ref hHe1, .ref hHe2, .int 0, .int 0, .int 0, .int 0, .int (-1), .int 0])), (hRea, .inr (2, [.ref hTape, .ref aSt, .int 0, .int 0, .int 0, .int 0, .int 0, .int 0, .int 0])), (hTape, .inr (5, [.ref aB, .int 0]))] sz) U)) (va_Qi (fun (r : Int32) (_ : Unit) => r = (-6)) (fun (_ : Unit) (t : State) => True) (va_A [(h0, .inr (8, [.ref hRows, .ref hMer, .ref hEra, .ref hTape, .ref hRea, .ref hTra, .ref hWor, .ref hPla, .ref hMod, .ref hHe1, .ref hHe2, .int 0, .int 0, .int 0, .int 0, .int (-1), .int 0])), (hRea, .inr (2, [.ref hTape, .ref aSt, .int 0, .int 0, .int 0, .int 0, .int 0, .int 0, .int 0])), (hTape, .inr (5, [.ref aB, .int 0]))] sz)) 0 0 (va_A [(h0, .inr (8, [.ref hRows, .ref hMer, .ref hEra, .ref hTape, .ref hRea, .ref hTra, .ref hWor, .ref hPla, .ref hMod, .ref hHe1, .ref hHe2, .int 0, .int 0, .int 0, .int 0, .int (-1), .int 0])), (hRea, .inr (2, [.ref hTape, .ref aSt, .int 0, .int 0, .int 0, .int 0, .int 0, .int 0, .int 0])), (hTape, .inr (5, [.ref aB, .int 0]))] sz) := by
  refine Met.ofW (cc := cX8_trait) (maxL := 2) (ret := (some .int)) (by decide) rfl ?_
  intro p e s m args below meth c s₁ B hml hv
  obtain ⟨rfl, hsz, hP, hK, hD0, hN⟩ := hv
  have hx := B.exec
  have hb := B.bytes
  have hr := B.returns
  have hts := atoms_spec (ws := wsX8_trait) B.pre
  have hown : s.vm.findClass RX8 = some m.cls := findClass_of_methodNamed B.named
  have hlocks := B.notSynchronized
  subst hsz
  have hD := hD0.self (sz := s.heap.size)
  generalize hAe : va_A [(h0, .inr (8, [.ref hRows, .ref hMer, .ref hEra, .ref hTape, .ref hRea, .ref hTra, .ref hWor, .ref hPla, .ref hMod, .ref hHe1, .ref hHe2, .int 0, .int 0, .int 0, .int 0, .int (-1), .int 0])), (hRea, .inr (2, [.ref hTape, .ref aSt, .int 0, .int 0, .int 0, .int 0, .int 0, .int 0, .int 0])), (hTape, .inr (5, [.ref aB, .int 0]))] s.heap.size = A at hD hN ⊢
  have hSt := hN
  have hN := hSt.1
  have hA : ∀ q : Nat, s.heap.size ≤ q → A q := fun q h => by rw [← hAe]; exact Or.inr h
  have hS : va_S A s.heap s.heap [] := va_S.rf
  have hP : va_P (dC, dI) vwCl [(h0, .inr (8, [.ref hRows, .ref hMer, .ref hEra, .ref hTape, .ref hRea, .ref hTra, .ref hWor, .ref hPla, .ref hMod, .ref hHe1, .ref hHe2, .int 0, .int 0, .int 0, .int 0, .int (-1), .int 0])), (hRea, .inr (2, [.ref hTape, .ref aSt, .int 0, .int 0, .int 0, .int 0, .int 0, .int 0, .int 0])), (hTape, .inr (5, [.ref aB, .int 0]))] s.heap := hP
  have hIX5 : ∀ w ∈ u_ws RX5 TX5 2, w ∈ wsX8_trait := by decide +kernel
  have hIX8 : ∀ w ∈ u_ws RX8 TX8 17, w ∈ wsX8_trait := by decide +kernel
  have hl := lv_entry ([.ref h0]) (n := 2) (Nat.le_of_ble_eq_true rfl)
  rw [lg_entry_eq]
  generalize (lg_sl ([.ref h0]) ++ List.replicate (2 - (lg_sl ([.ref h0])).length) Slot.unset).toArray = ls at hl ⊢
  have hl : lv_has ls 2 [(0, .ref h0)] := hl
  refine lv_aload_n hx hb dX8_trait_0 rfl (lv_at hl 0 rfl) ?_
  refine va_get (D := (dC, dI)) (ci := 8) (v := .int 0) (C := RX8) (T := TX8) (N := 17) hx hb hts hIX8 hown hK hP 0 rfl rfl 13 (by decide) (hts (.fieldLink RX8 148 "TraitHouse" "traitsThere" "I") (by decide +kernel)) (fun _ h9 => h9) rfl dX8_trait_1 ?_
  refine lv_bipush (v := 20) hx hb dX8_trait_4 (by decide) ?_
  refine lv_icmp_lt (tgt := 14) hx hb dX8_trait_6 (by decide) (fun c_1 => ?_) (fun c_1 => absurd (by decide) c_1)
  refine lv_aload_n hx hb dX8_trait_14 rfl (lv_at hl 0 rfl) ?_
  have hPc := hP.sub (ws' := [(h0, .inr (8, [.ref hRows, .ref hMer, .ref hEra, .ref hTape, .ref hRea, .ref hTra, .ref hWor, .ref hPla, .ref hMod, .ref hHe1, .ref hHe2, .int 0, .int 0, .int 0, .int 0, .int (-1), .int 0])), (hRea, .inr (2, [.ref hTape, .ref aSt, .int 0, .int 0, .int 0, .int 0, .int 0, .int 0, .int 0])), (hTape, .inr (5, [.ref aB, .int 0]))]) [0, 1, 2] rfl
  have hDc := hD.sub (ws' := [(h0, .inr (8, [.ref hRows, .ref hMer, .ref hEra, .ref hTape, .ref hRea, .ref hTra, .ref hWor, .ref hPla, .ref hMod, .ref hHe1, .ref hHe2, .int 0, .int 0, .int 0, .int 0, .int (-1), .int 0])), (hRea, .inr (2, [.ref hTape, .ref aSt, .int 0, .int 0, .int 0, .int 0, .int 0, .int 0, .int 0])), (hTape, .inr (5, [.ref aB, .int 0]))]) [0, 1, 2] (by decide) rfl
  have hKc := hK.sub (tys' := []) [] rfl
  have hFc := va_free (wc := [(h0, .inr (8, [.ref hRows, .ref hMer, .ref hEra, .ref hTape, .ref hRea, .ref hTra, .ref hWor, .ref hPla, .ref hMod, .ref hHe1, .ref hHe2, .int 0, .int 0, .int 0, .int 0, .int (-1), .int 0])), (hRea, .inr (2, [.ref hTape, .ref aSt, .int 0, .int 0, .int 0, .int 0, .int 0, .int 0, .int 0])), (hTape, .inr (5, [.ref aB, .int 0]))]) hD hS hA [0, 1, 2] rfl
  refine va_calli (va_runV (As := []) (rest := []) ⟨hx, hb, hml, hown, hts⟩ (c_X8_readTrait_f l dC dI s.heap.size adK adV h0 hRows hMer hEra hTape hRea hTra hWor hPla hMod hHe1 hHe2 aSt aB ) (cwV 0 hts gX8_trait_X8_readTrait rfl rfl rfl (by decide +kernel) ⟨Nat.le_of_ble_eq_true rfl, Nat.le_of_ble_eq_true rfl⟩) ⟨fun a U g mk q => by obtain ⟨q0, q1, qP, qK, qD, qN⟩ := q; exact ⟨q0, q1, qP, va_K.moved (u := U) (U := U.calling g mk a) (Vm.Alike.refl U.vm) qK, qD, qN.same rfl rfl⟩, va_recv hKc hPc (ci := 8) (q0 := 0) rfl rfl, fun U hU hW => ⟨rfl, by rw [hU], by rw [hU]; exact hPc, va_K.moved hW.alike hKc, hDc.weaken (fun _ _ _ _ => trivial), hSt.call hS hU hW hFc⟩⟩ rfl rfl hl.1 rfl (lv_room (Nat.le_of_ble_eq_true rfl)) dX8_trait_15 ⟨Nat.le_of_ble_eq_true rfl, Nat.le_of_ble_eq_true rfl⟩) hS (fun q _ h => hFc q h) hFc (fun r_2 u_3 t H1 locs ht hvm hw_4 hB hz1 hk1 hS => ?_)
  try dsimp only at hw_4
  obtain ⟨hP1, hK1, hD1⟩ := hB
  rw [ht] at hP1
  have hK1 := va_K.moved hvm.symm hK1
  obtain ⟨hP, hD⟩ := va_join (wr := []) (w1 := [(h0, .inr (8, [.ref hRows, .ref hMer, .ref hEra, .ref hTape, .ref hRea, .ref hTra, .ref hWor, .ref hPla, .ref hMod, .ref hHe1, .ref hHe2, .int 0, .int 0, .int 0, .int 0, .int 0, .int 0])), (hTape, .inr (5, [.ref aB, .int 0]))]) hP hD [0, 1, 2] [] rfl rfl (by decide) (by decide) hk1 hFc hP1 hD1
  have hK := (hK.sub (tys' := []) [] rfl).app hK1
  generalize H1 = H at hP hS ⊢
  have hP : va_P (dC, dI) vwCl [(h0, .inr (8, [.ref hRows, .ref hMer, .ref hEra, .ref hTape, .ref hRea, .ref hTra, .ref hWor, .ref hPla, .ref hMod, .ref hHe1, .ref hHe2, .int 0, .int 0, .int 0, .int 0, .int 0, .int 0])), (hTape, .inr (5, [.ref aB, .int 0]))] H := hP
  have hD : va_D A [(h0, .inr (8, [.ref hRows, .ref hMer, .ref hEra, .ref hTape, .ref hRea, .ref hTra, .ref hWor, .ref hPla, .ref hMod, .ref hHe1, .ref hHe2, .int 0, .int 0, .int 0, .int 0, .int 0, .int 0])), (hTape, .inr (5, [.ref aB, .int 0]))] := hD
  have hK : va_K (dC, dI) vwCl [] s := hK
  obtain rfl : (-6) = r_2 := hw_4.symm
  refine lv_istore_n (lv' := [(1, .int (-6)), (0, .ref h0)]) hx hb dX8_trait_18 rfl hl (by decide) rfl (fun ls hl => ?_)
  refine lv_aload_n hx hb dX8_trait_19 rfl (lv_at hl 1 rfl) ?_
  refine va_get (D := (dC, dI)) (ci := 8) (v := .ref hTape) (C := RX8) (T := TX8) (N := 17) hx hb hts hIX8 hown hK hP 0 rfl rfl 3 (by decide) (hts (.fieldLink RX8 30 "TraitHouse" "tape" "LTraitHouse$Tape;") (by decide +kernel)) (fun _ h9 => h9) rfl dX8_trait_20 ?_
  refine lv_iconst (v := 0) hx hb dX8_trait_23 (by decide) ?_
  refine va_putN (D := (dC, dI)) (ci := 5) (v := .int 0) (ty := .int) (C := RX5) (T := TX5) (N := 2) hx hb hts hIX5 tyX5 tyX5_ok nmX5 hown hK hP hD hS 1 rfl rfl 1 (by decide) (va_Nw.use rfl (nw_at hN 10 rfl)) (fun _ h9 => h9) rfl (by decide +kernel) rfl rfl (Nat.le_of_ble_eq_true rfl) dX8_trait_24 (fun H locs hP hD hS => ?_)
  have hP : va_P (dC, dI) vwCl [(h0, .inr (8, [.ref hRows, .ref hMer, .ref hEra, .ref hTape, .ref hRea, .ref hTra, .ref hWor, .ref hPla, .ref hMod, .ref hHe1, .ref hHe2, .int 0, .int 0, .int 0, .int 0, .int 0, .int 0])), (hTape, .inr (5, [.ref aB, .int 0]))] H := hP
  have hD : va_D A [(h0, .inr (8, [.ref hRows, .ref hMer, .ref hEra, .ref hTape, .ref hRea, .ref hTra, .ref hWor, .ref hPla, .ref hMod, .ref hHe1, .ref hHe2, .int 0, .int 0, .int 0, .int 0, .int 0, .int 0])), (hTape, .inr (5, [.ref aB, .int 0]))] := hD
  refine lv_aload_n hx hb dX8_trait_27 rfl (lv_at hl 1 rfl) ?_
  refine lv_iload_n hx hb dX8_trait_28 rfl (lv_at hl 0 rfl) ?_
  have hk_5 : ((-6) : Int32).toInt = (-6) := by decide
  have hk_6 : (0 : Int32).toInt = 0 := by decide
  have hPc := hP.sub (ws' := [(h0, .inr (8, [.ref hRows, .ref hMer, .ref hEra, .ref hTape, .ref hRea, .ref hTra, .ref hWor, .ref hPla, .ref hMod, .ref hHe1, .ref hHe2, .int 0, .int 0, .int 0, .int 0, .int 0, .int 0]))]) [0] rfl
  have hDc := hD.sub (ws' := [(h0, .inr (8, [.ref hRows, .ref hMer, .ref hEra, .ref hTape, .ref hRea, .ref hTra, .ref hWor, .ref hPla, .ref hMod, .ref hHe1, .ref hHe2, .int 0, .int 0, .int 0, .int 0, .int 0, .int 0]))]) [0] (by decide) rfl
  have hKc := hK.sub (tys' := []) [] rfl
  have hFc := va_free (wc := [(h0, .inr (8, [.ref hRows, .ref hMer, .ref hEra, .ref hTape, .ref hRea, .ref hTra, .ref hWor, .ref hPla, .ref hMod, .ref hHe1, .ref hHe2, .int 0, .int 0, .int 0, .int 0, .int 0, .int 0]))]) hD hS hA [0] rfl
  refine va_calli (va_runV (As := [.int (-6)]) (rest := []) ⟨hx, hb, hml, hown, hts⟩ (c_X8_settle l dC dI H.size h0 hRows hMer hEra hTape hRea hTra hWor hPla hMod hHe1 hHe2 0 0 0 0 0 0 (-6) ) (cwV 1 hts gX8_trait_X8_settle rfl rfl rfl (by decide +kernel) ⟨Nat.le_of_ble_eq_true rfl, Nat.le_of_ble_eq_true rfl⟩) ⟨fun a U g mk q => by obtain ⟨q0, q1, qP, qK, qD, qN⟩ := q; exact ⟨q0, q1, qP, va_K.moved (u := U) (U := U.calling g mk a) (Vm.Alike.refl U.vm) qK, qD, qN.same rfl⟩, va_recv hKc hPc (ci := 8) (q0 := 0) rfl rfl, fun U hU hW => ⟨rfl, by rw [hU], by rw [hU]; exact hPc, va_K.moved hW.alike hKc, hDc.weaken (fun _ _ _ _ => trivial), hN.warm hW⟩⟩ rfl rfl hl.1 rfl (lv_room (Nat.le_of_ble_eq_true rfl)) dX8_trait_29 ⟨Nat.le_of_ble_eq_true rfl, Nat.le_of_ble_eq_true rfl⟩) hS (fun q _ h => hFc q h) hFc (fun r_7 u_8 t H1 locs ht hvm hw_9 hB hz1 hk1 hS => ?_)
  obtain ⟨w_10, rfl⟩ : ∃ z, z = u_8 := ⟨_, rfl⟩
  try dsimp only at hw_9
  obtain ⟨hP1, hK1, hD1⟩ := hB
  rw [ht] at hP1
  have hK1 := va_K.moved hvm.symm hK1
  obtain ⟨hP, hD⟩ := va_join (wr := [(hTape, .inr (5, [.ref aB, .int 0]))]) (w1 := [(h0, .inr (8, [.ref hRows, .ref hMer, .ref hEra, .ref hTape, .ref hRea, .ref hTra, .ref hWor, .ref hPla, .ref hMod, .ref hHe1, .ref hHe2, .int 0, .int 0, .int 0, .int 0, .int 0, .int w_10]))]) hP hD [0] [1] rfl rfl (by decide) (by decide) hk1 hFc hP1 hD1
  have hK := (hK.sub (tys' := []) [] rfl).app hK1
  generalize H1 = H at hP hS ⊢
  have hP : va_P (dC, dI) vwCl [(hTape, .inr (5, [.ref aB, .int 0])), (h0, .inr (8, [.ref hRows, .ref hMer, .ref hEra, .ref hTape, .ref hRea, .ref hTra, .ref hWor, .ref hPla, .ref hMod, .ref hHe1, .ref hHe2, .int 0, .int 0, .int 0, .int 0, .int 0, .int w_10]))] H := hP
  have hD : va_D A [(hTape, .inr (5, [.ref aB, .int 0])), (h0, .inr (8, [.ref hRows, .ref hMer, .ref hEra, .ref hTape, .ref hRea, .ref hTra, .ref hWor, .ref hPla, .ref hMod, .ref hHe1, .ref hHe2, .int 0, .int 0, .int 0, .int 0, .int 0, .int w_10]))] := hD
  have hK : va_K (dC, dI) vwCl [] s := hK
  obtain rfl : (-6) = r_7 := hw_9.symm
  exact W.iret (v := (-6)) hx hb hr (fun t ht hW => ⟨⟨(-6), (), rfl, rfl, trivial⟩, hS.F ht⟩) hS.2.2 dX8_trait_32

set_option maxHeartbeats 4000000 in
set_option maxRecDepth 100000 in
theorem law_trait_f {p : Program} {l : Launch} {e : Env} {s : State} {m : MethodId} {below : List Frame} {meth : Method} {c : Code} {dC : Nat → ClassId} {dI : Nat → Nat → Nat} {b L : Nat} {xs : Nat → Int32} (hL : L = 11) (C0 : lw_At p s m meth c b L xs) (hN : nw_ok s) (adK adV : Nat → Nat) (hSt : st_ok adK adV (fun q : Nat => s.heap.size ≤ q) s) (h0 : Nat) (hRows : Nat) (hMer : Nat) (hEra : Nat) (hTape : Nat) (hRea : Nat) (hTra : Nat) (hWor : Nat) (hPla : Nat) (hMod : Nat) (hHe1 : Nat) (hHe2 : Nat) (aSt : Nat) (aB : Nat) (m0 : Nat) (m_rowPerson : Nat) (m_rowStream : Nat) (m_rowMoment : Nat) (m_rowKnown : Nat) (m_rowValue : Nat) (m_isGone : Nat) (m_mergeTo : Nat) (m_mergeKnown : Nat) (m_isErased : Nat) (m_tape : Nat) (m_five : Nat) (m_size0 : Nat) (m_step : Nat) (m_stepA : Nat) (m_stepB : Nat) (m_stepC : Nat) (m_values : Nat) (m_heap : Nat) (m_isOne : Nat) (m_lawFrom : Nat) (m_lawTo : Nat) (m_hasLaw : Nat) (m_limits : Nat) (m_held : Nat) (m_hasKept : Nat) (m_kept : Nat) (m_keptAt : Nat) (m_placeTrait : Nat) (m_placePerson : Nat) (m_placeMoment : Nat) (m_placeValue : Nat) (m_isFilled : Nat) (m_uses : Nat) (m_heapsOne : Nat) (m_heapsOther : Nat)  (H : Heap) (locs : List Loc) (hK : va_K (dC, dI) vwCl [] s) (hP : va_P (dC, dI) vwCl [(h0, .inr (8, [.ref hRows, .ref hMer, .ref hEra, .ref hTape, .ref hRea, .ref hTra, .ref hWor, .ref hPla, .ref hMod, .ref hHe1, .ref hHe2, .int 0, .int 0, .int 0, .int 0, .int (-1), .int 0])), (hRea, .inr (2, [.ref hTape, .ref aSt, .int 0, .int 0, .int 0, .int 0, .int 0, .int 0, .int 0])), (hTape, .inr (5, [.ref aB, .int 0])), (m0, .inr (9, [.int 0, .int 0, .int 0, .ref m_rowPerson, .ref m_rowStream, .ref m_rowMoment, .ref m_rowKnown, .ref m_rowValue, .ref m_isGone, .ref m_mergeTo, .ref m_mergeKnown, .int 0, .ref m_isErased, .ref m_tape, .int 0, .int 0, .int 0, .int 0, .int (-1), .int 0, .ref m_five, .int 0, .int 0, .int 0, .int 0, .ref m_size0, .ref m_step, .ref m_stepA, .ref m_stepB, .ref m_stepC, .ref m_values, .ref m_heap, .ref m_isOne, .ref m_lawFrom, .ref m_lawTo, .ref m_hasLaw, .ref m_limits, .ref m_held, .ref m_hasKept, .ref m_kept, .ref m_keptAt, .int 0, .ref m_placeTrait, .ref m_placePerson, .ref m_placeMoment, .ref m_placeValue, .ref m_isFilled, .int 0, .ref m_uses, .ref m_heapsOne, .ref m_heapsOther]))] H) (hD : va_D (fun q : Nat => s.heap.size ≤ q) [(h0, .inr (8, [.ref hRows, .ref hMer, .ref hEra, .ref hTape, .ref hRea, .ref hTra, .ref hWor, .ref hPla, .ref hMod, .ref hHe1, .ref hHe2, .int 0, .int 0, .int 0, .int 0, .int (-1), .int 0])), (hRea, .inr (2, [.ref hTape, .ref aSt, .int 0, .int 0, .int 0, .int 0, .int 0, .int 0, .int 0])), (hTape, .inr (5, [.ref aB, .int 0])), (m0, .inr (9, [.int 0, .int 0, .int 0, .ref m_rowPerson, .ref m_rowStream, .ref m_rowMoment, .ref m_rowKnown, .ref m_rowValue, .ref m_isGone, .ref m_mergeTo, .ref m_mergeKnown, .int 0, .ref m_isErased, .ref m_tape, .int 0, .int 0, .int 0, .int 0, .int (-1), .int 0, .ref m_five, .int 0, .int 0, .int 0, .int 0, .ref m_size0, .ref m_step, .ref m_stepA, .ref m_stepB, .ref m_stepC, .ref m_values, .ref m_heap, .ref m_isOne, .ref m_lawFrom, .ref m_lawTo, .ref m_hasLaw, .ref m_limits, .ref m_held, .ref m_hasKept, .ref m_kept, .ref m_keptAt, .int 0, .ref m_placeTrait, .ref m_placePerson, .ref m_placeMoment, .ref m_placeValue, .ref m_isFilled, .int 0, .ref m_uses, .ref m_heapsOne, .ref m_heapsOther]))]) (hS : va_S (fun q : Nat => s.heap.size ≤ q) s.heap H locs) (ls : Array Slot) (hl : lv_has ls 4 [(3, .int 0), (2, .ref m0), (1, .ref h0), (0, .ref b)]) : W p l e room_1 s m #[Value.ref b] below meth c H locs 600000 7302250 (lw_Z below #[Value.ref b] s) (F0 m 423 ls []) := by
  obtain ⟨hx, hb, hr, hml, hown, hts, hX, hbl, hlocks, hgv⟩ := id C0
  have hts := fun w h => hts w (wsL_law_in w h)
  have hown : s.vm.findClass RL = some m.cls := hown
  have hA : ∀ q : Nat, s.heap.size ≤ q → (fun q : Nat => s.heap.size ≤ q) q := fun _ h => h
  have hbA : ¬ (fun q : Nat => s.heap.size ≤ q) b := Nat.not_le.mpr hbl
  refine lv_aload_n hx hb dL_law_423 rfl (lv_at hl 2 rfl) ?_
  have hPc := hP.sub (ws' := [(h0, .inr (8, [.ref hRows, .ref hMer, .ref hEra, .ref hTape, .ref hRea, .ref hTra, .ref hWor, .ref hPla, .ref hMod, .ref hHe1, .ref hHe2, .int 0, .int 0, .int 0, .int 0, .int (-1), .int 0])), (hRea, .inr (2, [.ref hTape, .ref aSt, .int 0, .int 0, .int 0, .int 0, .int 0, .int 0, .int 0])), (hTape, .inr (5, [.ref aB, .int 0]))]) [0, 1, 2] rfl
  have hDc := hD.sub (ws' := [(h0, .inr (8, [.ref hRows, .ref hMer, .ref hEra, .ref hTape, .ref hRea, .ref hTra, .ref hWor, .ref hPla, .ref hMod, .ref hHe1, .ref hHe2, .int 0, .int 0, .int 0, .int 0, .int (-1), .int 0])), (hRea, .inr (2, [.ref hTape, .ref aSt, .int 0, .int 0, .int 0, .int 0, .int 0, .int 0, .int 0])), (hTape, .inr (5, [.ref aB, .int 0]))]) [0, 1, 2] (by decide) rfl
  have hKc := hK.sub (tys' := []) [] rfl
  have hFc := va_free (wc := [(h0, .inr (8, [.ref hRows, .ref hMer, .ref hEra, .ref hTape, .ref hRea, .ref hTra, .ref hWor, .ref hPla, .ref hMod, .ref hHe1, .ref hHe2, .int 0, .int 0, .int 0, .int 0, .int (-1), .int 0])), (hRea, .inr (2, [.ref hTape, .ref aSt, .int 0, .int 0, .int 0, .int 0, .int 0, .int 0, .int 0])), (hTape, .inr (5, [.ref aB, .int 0]))]) hD hS hA [0, 1, 2] rfl
  refine va_calli (va_runV (As := []) (rest := []) ⟨hx, hb, hml, hown, hts⟩ (c_X8_trait_f l dC dI H.size adK adV h0 hRows hMer hEra hTape hRea hTra hWor hPla hMod hHe1 hHe2 aSt aB ) (cwV 0 hts gL_law_X8_trait rfl rfl rfl (by decide +kernel) ⟨Nat.le_of_ble_eq_true rfl, Nat.le_of_ble_eq_true rfl⟩) ⟨fun a U g mk q => by obtain ⟨q0, q1, qP, qK, qD, qN⟩ := q; exact ⟨q0, q1, qP, va_K.moved (u := U) (U := U.calling g mk a) (Vm.Alike.refl U.vm) qK, qD, qN.same rfl rfl⟩, va_recv hKc hPc (ci := 8) (q0 := 0) rfl rfl, fun U hU hW => ⟨rfl, by rw [hU], by rw [hU]; exact hPc, va_K.moved hW.alike hKc, hDc.weaken (fun _ _ _ _ => trivial), hSt.call hS hU hW hFc⟩⟩ rfl rfl hl.1 rfl (lv_room (Nat.le_of_ble_eq_true rfl)) dL_law_424 ⟨Nat.le_of_ble_eq_true rfl, Nat.le_of_ble_eq_true rfl⟩) hS (fun q _ h => hFc q h) hFc (fun r_1 u_2 t H1 locs ht hvm hw_3 hB hz1 hk1 hS => ?_)
  try dsimp only at hw_3
  have hP1 : va_P (dC, dI) vwCl [] H1 := fun k q h => by simp at h
  have hD1 : va_D (va_A [(h0, .inr (8, [.ref hRows, .ref hMer, .ref hEra, .ref hTape, .ref hRea, .ref hTra, .ref hWor, .ref hPla, .ref hMod, .ref hHe1, .ref hHe2, .int 0, .int 0, .int 0, .int 0, .int (-1), .int 0])), (hRea, .inr (2, [.ref hTape, .ref aSt, .int 0, .int 0, .int 0, .int 0, .int 0, .int 0, .int 0])), (hTape, .inr (5, [.ref aB, .int 0]))] H.size) [] := ⟨fun i j p q h => by simp at h, fun k q h => by simp at h⟩
  have hK1 : va_K (dC, dI) vwCl [] s := hK.sub [] rfl
  obtain ⟨hP, hD⟩ := va_join (wr := [(m0, .inr (9, [.int 0, .int 0, .int 0, .ref m_rowPerson, .ref m_rowStream, .ref m_rowMoment, .ref m_rowKnown, .ref m_rowValue, .ref m_isGone, .ref m_mergeTo, .ref m_mergeKnown, .int 0, .ref m_isErased, .ref m_tape, .int 0, .int 0, .int 0, .int 0, .int (-1), .int 0, .ref m_five, .int 0, .int 0, .int 0, .int 0, .ref m_size0, .ref m_step, .ref m_stepA, .ref m_stepB, .ref m_stepC, .ref m_values, .ref m_heap, .ref m_isOne, .ref m_lawFrom, .ref m_lawTo, .ref m_hasLaw, .ref m_limits, .ref m_held, .ref m_hasKept, .ref m_kept, .ref m_keptAt, .int 0, .ref m_placeTrait, .ref m_placePerson, .ref m_placeMoment, .ref m_placeValue, .ref m_isFilled, .int 0, .ref m_uses, .ref m_heapsOne, .ref m_heapsOther]))]) (w1 := []) hP hD [0, 1, 2] [3] rfl rfl (by decide) (by decide) hk1 hFc hP1 hD1
  have hK := (hK.sub (tys' := []) [] rfl).app hK1
  generalize H1 = H at hP hS ⊢
  have hP : va_P (dC, dI) vwCl [(m0, .inr (9, [.int 0, .int 0, .int 0, .ref m_rowPerson, .ref m_rowStream, .ref m_rowMoment, .ref m_rowKnown, .ref m_rowValue, .ref m_isGone, .ref m_mergeTo, .ref m_mergeKnown, .int 0, .ref m_isErased, .ref m_tape, .int 0, .int 0, .int 0, .int 0, .int (-1), .int 0, .ref m_five, .int 0, .int 0, .int 0, .int 0, .ref m_size0, .ref m_step, .ref m_stepA, .ref m_stepB, .ref m_stepC, .ref m_values, .ref m_heap, .ref m_isOne, .ref m_lawFrom, .ref m_lawTo, .ref m_hasLaw, .ref m_limits, .ref m_held, .ref m_hasKept, .ref m_kept, .ref m_keptAt, .int 0, .ref m_placeTrait, .ref m_placePerson, .ref m_placeMoment, .ref m_placeValue, .ref m_isFilled, .int 0, .ref m_uses, .ref m_heapsOne, .ref m_heapsOther]))] H := hP
  have hD : va_D (fun q : Nat => s.heap.size ≤ q) [(m0, .inr (9, [.int 0, .int 0, .int 0, .ref m_rowPerson, .ref m_rowStream, .ref m_rowMoment, .ref m_rowKnown, .ref m_rowValue, .ref m_isGone, .ref m_mergeTo, .ref m_mergeKnown, .int 0, .ref m_isErased, .ref m_tape, .int 0, .int 0, .int 0, .int 0, .int (-1), .int 0, .ref m_five, .int 0, .int 0, .int 0, .int 0, .ref m_size0, .ref m_step, .ref m_stepA, .ref m_stepB, .ref m_stepC, .ref m_values, .ref m_heap, .ref m_isOne, .ref m_lawFrom, .ref m_lawTo, .ref m_hasLaw, .ref m_limits, .ref m_held, .ref m_hasKept, .ref m_kept, .ref m_keptAt, .int 0, .ref m_placeTrait, .ref m_placePerson, .ref m_placeMoment, .ref m_placeValue, .ref m_isFilled, .int 0, .ref m_uses, .ref m_heapsOne, .ref m_heapsOther]))] := hD
  have hK : va_K (dC, dI) vwCl [] s := hK
  obtain rfl : (-6) = r_1 := hw_3.symm
  refine lv_aload_n hx hb dL_law_427 rfl (lv_at hl 1 rfl) ?_
  have hPc := hP.sub (ws' := [(m0, .inr (9, [.int 0, .int 0, .int 0, .ref m_rowPerson, .ref m_rowStream, .ref m_rowMoment, .ref m_rowKnown, .ref m_rowValue, .ref m_isGone, .ref m_mergeTo, .ref m_mergeKnown, .int 0, .ref m_isErased, .ref m_tape, .int 0, .int 0, .int 0, .int 0, .int (-1), .int 0, .ref m_five, .int 0, .int 0, .int 0, .int 0, .ref m_size0, .ref m_step, .ref m_stepA, .ref m_stepB, .ref m_stepC, .ref m_values, .ref m_heap, .ref m_isOne, .ref m_lawFrom, .ref m_lawTo, .ref m_hasLaw, .ref m_limits, .ref m_held, .ref m_hasKept, .ref m_kept, .ref m_keptAt, .int 0, .ref m_placeTrait, .ref m_placePerson, .ref m_placeMoment, .ref m_placeValue, .ref m_isFilled, .int 0, .ref m_uses, .ref m_heapsOne, .ref m_heapsOther]))]) [0] rfl
  have hDc := hD.sub (ws' := [(m0, .inr (9, [.int 0, .int 0, .int 0, .ref m_rowPerson, .ref m_rowStream, .ref m_rowMoment, .ref m_rowKnown, .ref m_rowValue, .ref m_isGone, .ref m_mergeTo, .ref m_mergeKnown, .int 0, .ref m_isErased, .ref m_tape, .int 0, .int 0, .int 0, .int 0, .int (-1), .int 0, .ref m_five, .int 0, .int 0, .int 0, .int 0, .ref m_size0, .ref m_step, .ref m_stepA, .ref m_stepB, .ref m_stepC, .ref m_values, .ref m_heap, .ref m_isOne, .ref m_lawFrom, .ref m_lawTo, .ref m_hasLaw, .ref m_limits, .ref m_held, .ref m_hasKept, .ref m_kept, .ref m_keptAt, .int 0, .ref m_placeTrait, .ref m_placePerson, .ref m_placeMoment, .ref m_placeValue, .ref m_isFilled, .int 0, .ref m_uses, .ref m_heapsOne, .ref m_heapsOther]))]) [0] (by decide) rfl
  have hKc := hK.sub (tys' := []) [] rfl
  have hFc := va_free (wc := [(m0, .inr (9, [.int 0, .int 0, .int 0, .ref m_rowPerson, .ref m_rowStream, .ref m_rowMoment, .ref m_rowKnown, .ref m_rowValue, .ref m_isGone, .ref m_mergeTo, .ref m_mergeKnown, .int 0, .ref m_isErased, .ref m_tape, .int 0, .int 0, .int 0, .int 0, .int (-1), .int 0, .ref m_five, .int 0, .int 0, .int 0, .int 0, .ref m_size0, .ref m_step, .ref m_stepA, .ref m_stepB, .ref m_stepC, .ref m_values, .ref m_heap, .ref m_isOne, .ref m_lawFrom, .ref m_lawTo, .ref m_hasLaw, .ref m_limits, .ref m_held, .ref m_hasKept, .ref m_kept, .ref m_keptAt, .int 0, .ref m_placeTrait, .ref m_placePerson, .ref m_placeMoment, .ref m_placeValue, .ref m_isFilled, .int 0, .ref m_uses, .ref m_heapsOne, .ref m_heapsOther]))]) hD hS hA [0] rfl
  refine va_calli (va_runV (As := []) (rest := [.int (-6)]) ⟨hx, hb, hml, hown, hts⟩ (c_X9_trait l dC dI H.size m0 m_rowPerson m_rowStream m_rowMoment m_rowKnown m_rowValue m_isGone m_mergeTo m_mergeKnown m_isErased m_tape m_five m_size0 m_step m_stepA m_stepB m_stepC m_values m_heap m_isOne m_lawFrom m_lawTo m_hasLaw m_limits m_held m_hasKept m_kept m_keptAt m_placeTrait m_placePerson m_placeMoment m_placeValue m_isFilled m_uses m_heapsOne m_heapsOther ) (cwV 0 hts gL_law_X9_trait rfl rfl rfl (by decide +kernel) ⟨Nat.le_of_ble_eq_true rfl, Nat.le_of_ble_eq_true rfl⟩) ⟨fun a U g mk q => by obtain ⟨q0, q1, qP, qK, qD, qN⟩ := q; exact ⟨q0, q1, qP, va_K.moved (u := U) (U := U.calling g mk a) (Vm.Alike.refl U.vm) qK, qD, qN.same rfl⟩, va_recv hKc hPc (ci := 9) (q0 := 0) rfl rfl, fun U hU hW => ⟨rfl, by rw [hU], by rw [hU]; exact hPc, va_K.moved hW.alike hKc, hDc.weaken (fun _ _ _ _ => trivial), hN.warm hW⟩⟩ rfl rfl hl.1 rfl (lv_room (Nat.le_of_ble_eq_true rfl)) dL_law_428 ⟨Nat.le_of_ble_eq_true rfl, Nat.le_of_ble_eq_true rfl⟩) hS (fun q _ h => hFc q h) hFc (fun r_4 u_5 t H1 locs ht hvm hw_6 hB hz1 hk1 hS => ?_)
  try dsimp only at hw_6
  have hP1 : va_P (dC, dI) vwCl [] H1 := fun k q h => by simp at h
  have hD1 : va_D (va_A [(m0, .inr (9, [.int 0, .int 0, .int 0, .ref m_rowPerson, .ref m_rowStream, .ref m_rowMoment, .ref m_rowKnown, .ref m_rowValue, .ref m_isGone, .ref m_mergeTo, .ref m_mergeKnown, .int 0, .ref m_isErased, .ref m_tape, .int 0, .int 0, .int 0, .int 0, .int (-1), .int 0, .ref m_five, .int 0, .int 0, .int 0, .int 0, .ref m_size0, .ref m_step, .ref m_stepA, .ref m_stepB, .ref m_stepC, .ref m_values, .ref m_heap, .ref m_isOne, .ref m_lawFrom, .ref m_lawTo, .ref m_hasLaw, .ref m_limits, .ref m_held, .ref m_hasKept, .ref m_kept, .ref m_keptAt, .int 0, .ref m_placeTrait, .ref m_placePerson, .ref m_placeMoment, .ref m_placeValue, .ref m_isFilled, .int 0, .ref m_uses, .ref m_heapsOne, .ref m_heapsOther]))] H.size) [] := ⟨fun i j p q h => by simp at h, fun k q h => by simp at h⟩
  have hK1 : va_K (dC, dI) vwCl [] s := hK.sub [] rfl
  obtain ⟨hP, hD⟩ := va_join (wr := []) (w1 := []) hP hD [0] [] rfl rfl (by decide) (by decide) hk1 hFc hP1 hD1
  have hK := (hK.sub (tys' := []) [] rfl).app hK1
  generalize H1 = H at hP hS ⊢
  have hP : va_P (dC, dI) vwCl [] H := hP
  have hD : va_D (fun q : Nat => s.heap.size ≤ q) [] := hD
  have hK : va_K (dC, dI) vwCl [] s := hK
  obtain rfl : (-6) = r_4 := hw_6.symm
  refine lv_icmp_eq (tgt := 1234) hx hb dL_law_431 (by decide) (fun c_7 => ?_) (fun c_7 => ?_)
  · exact law_tail hL C0 hS (lv_sub hl [0, 3] rfl)
  · exact absurd rfl c_7
