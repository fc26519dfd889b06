
set_option maxHeartbeats 4000000 in
set_option maxRecDepth 100000 in
theorem law_value {p : Program} {l : Launch} {e : Env} {s : State} {m : MethodId} {below : List Frame} {meth : Method} {c : Code} {dC : Nat → ClassId} {dI : Nat → Nat → Nat} {b L : Nat} {xs : Nat → Int32} (hL : L = 11) (C0 : lw_At p s m meth c b L xs) (hN : nw_ok s) (h0 : Nat) (hRows : Nat) (hMer : Nat) (hEra : Nat) (hTape : Nat) (hRea : Nat) (hTra : Nat) (hWor : Nat) (hPla : Nat) (hMod : Nat) (hHe1 : Nat) (hHe2 : Nat) (m0 : Nat) (m_rowPerson : Nat) (m_rowStream : Nat) (m_rowMoment : Nat) (m_rowKnown : Nat) (m_rowValue : Nat) (m_isGone : Nat) (m_mergeTo : Nat) (m_mergeKnown : Nat) (m_isErased : Nat) (m_tape : Nat) (m_five : Nat) (m_size0 : Nat) (m_step : Nat) (m_stepA : Nat) (m_stepB : Nat) (m_stepC : Nat) (m_values : Nat) (m_heap : Nat) (m_isOne : Nat) (m_lawFrom : Nat) (m_lawTo : Nat) (m_hasLaw : Nat) (m_limits : Nat) (m_held : Nat) (m_hasKept : Nat) (m_kept : Nat) (m_keptAt : Nat) (m_placeTrait : Nat) (m_placePerson : Nat) (m_placeMoment : Nat) (m_placeValue : Nat) (m_isFilled : Nat) (m_uses : Nat) (m_heapsOne : Nat) (m_heapsOther : Nat)  (H : Heap) (locs : List Loc) (hK : va_K (dC, dI) vwCl [] s) (hP : va_P (dC, dI) vwCl [(h0, .inr (8, [.ref hRows, .ref hMer, .ref hEra, .ref hTape, .ref hRea, .ref hTra, .ref hWor, .ref hPla, .ref hMod, .ref hHe1, .ref hHe2, .int 0, .int 0, .int 0, .int 0, .int (-1), .int 0])), (m0, .inr (9, [.int 0, .int 0, .int 0, .ref m_rowPerson, .ref m_rowStream, .ref m_rowMoment, .ref m_rowKnown, .ref m_rowValue, .ref m_isGone, .ref m_mergeTo, .ref m_mergeKnown, .int 0, .ref m_isErased, .ref m_tape, .int 0, .int 0, .int 0, .int 0, .int (-1), .int 0, .ref m_five, .int 0, .int 0, .int 0, .int 0, .ref m_size0, .ref m_step, .ref m_stepA, .ref m_stepB, .ref m_stepC, .ref m_values, .ref m_heap, .ref m_isOne, .ref m_lawFrom, .ref m_lawTo, .ref m_hasLaw, .ref m_limits, .ref m_held, .ref m_hasKept, .ref m_kept, .ref m_keptAt, .int 0, .ref m_placeTrait, .ref m_placePerson, .ref m_placeMoment, .ref m_placeValue, .ref m_isFilled, .int 0, .ref m_uses, .ref m_heapsOne, .ref m_heapsOther]))] H) (hD : va_D (fun q : Nat => s.heap.size ≤ q) [(h0, .inr (8, [.ref hRows, .ref hMer, .ref hEra, .ref hTape, .ref hRea, .ref hTra, .ref hWor, .ref hPla, .ref hMod, .ref hHe1, .ref hHe2, .int 0, .int 0, .int 0, .int 0, .int (-1), .int 0])), (m0, .inr (9, [.int 0, .int 0, .int 0, .ref m_rowPerson, .ref m_rowStream, .ref m_rowMoment, .ref m_rowKnown, .ref m_rowValue, .ref m_isGone, .ref m_mergeTo, .ref m_mergeKnown, .int 0, .ref m_isErased, .ref m_tape, .int 0, .int 0, .int 0, .int 0, .int (-1), .int 0, .ref m_five, .int 0, .int 0, .int 0, .int 0, .ref m_size0, .ref m_step, .ref m_stepA, .ref m_stepB, .ref m_stepC, .ref m_values, .ref m_heap, .ref m_isOne, .ref m_lawFrom, .ref m_lawTo, .ref m_hasLaw, .ref m_limits, .ref m_held, .ref m_hasKept, .ref m_kept, .ref m_keptAt, .int 0, .ref m_placeTrait, .ref m_placePerson, .ref m_placeMoment, .ref m_placeValue, .ref m_isFilled, .int 0, .ref m_uses, .ref m_heapsOne, .ref m_heapsOther]))]) (hS : va_S (fun q : Nat => s.heap.size ≤ q) s.heap H locs) (ls : Array Slot) (hl : lv_has ls 4 [(3, .int 0), (2, .ref m0), (1, .ref h0), (0, .ref b)]) : W p l e room_1 s m #[Value.ref b] below meth c H locs 600000 7302250 (lw_Z below #[Value.ref b] s) (F0 m 449 ls []) := by
  obtain ⟨hx, hb, hr, hml, hown, hts, hX, hbl, hlocks, hgv⟩ := id C0
  have hts := fun w h => hts w (wsL_law_in w h)
  have hown : s.vm.findClass RL = some m.cls := hown
  have hA : ∀ q : Nat, s.heap.size ≤ q → (fun q : Nat => s.heap.size ≤ q) q := fun _ h => h
  have hbA : ¬ (fun q : Nat => s.heap.size ≤ q) b := Nat.not_le.mpr hbl
  obtain ⟨z1, ez1⟩ : ∃ z : Int32, z = xs (1 : Int32).toNatClampNeg := ⟨_, rfl⟩
  obtain ⟨z2, ez2⟩ : ∃ z : Int32, z = xs (2 : Int32).toNatClampNeg := ⟨_, rfl⟩
  obtain ⟨z3, ez3⟩ : ∃ z : Int32, z = xs (3 : Int32).toNatClampNeg := ⟨_, rfl⟩
  obtain ⟨z4, ez4⟩ : ∃ z : Int32, z = xs (4 : Int32).toNatClampNeg := ⟨_, rfl⟩
  refine lv_aload_n hx hb dL_law_449 rfl (lv_at hl 2 rfl) ?_
  refine lv_aload_n hx hb dL_law_450 rfl (lv_at hl 3 rfl) ?_
  refine lv_iload_n hx hb dL_law_451 rfl (lv_at hl 0 rfl) ?_
  refine lv_iconst (v := 1) hx hb dL_law_452 (by decide) ?_
  refine lv_iadd hx hb dL_law_453 ?_
  refine lv_topi (fun x_1 ex_1 => ?_)
  obtain rfl : x_1 = 1 := ex_1.trans (by decide)
  refine va_sld hx hb hX hbl hbA hS (vp_in_iff.mpr ⟨by decide, by rw [hL]; decide⟩) dL_law_454 ?_
  refine lv_topi (fun x_2 ex_2 => ?_)
  obtain rfl : z1 = x_2 := ez1.trans ex_2.symm
  refine lv_aload_n hx hb dL_law_455 rfl (lv_at hl 3 rfl) ?_
  refine lv_iload_n hx hb dL_law_456 rfl (lv_at hl 0 rfl) ?_
  refine lv_iconst (v := 2) hx hb dL_law_457 (by decide) ?_
  refine lv_iadd hx hb dL_law_458 ?_
  refine lv_topi (fun x_3 ex_3 => ?_)
  obtain rfl : x_3 = 2 := ex_3.trans (by decide)
  refine va_sld hx hb hX hbl hbA hS (vp_in_iff.mpr ⟨by decide, by rw [hL]; decide⟩) dL_law_459 ?_
  refine lv_topi (fun x_4 ex_4 => ?_)
  obtain rfl : z2 = x_4 := ez2.trans ex_4.symm
  refine lv_aload_n hx hb dL_law_460 rfl (lv_at hl 3 rfl) ?_
  refine lv_iload_n hx hb dL_law_461 rfl (lv_at hl 0 rfl) ?_
  refine lv_iconst (v := 3) hx hb dL_law_462 (by decide) ?_
  refine lv_iadd hx hb dL_law_463 ?_
  refine lv_topi (fun x_5 ex_5 => ?_)
  obtain rfl : x_5 = 3 := ex_5.trans (by decide)
  refine va_sld hx hb hX hbl hbA hS (vp_in_iff.mpr ⟨by decide, by rw [hL]; decide⟩) dL_law_464 ?_
  refine lv_topi (fun x_6 ex_6 => ?_)
  obtain rfl : z3 = x_6 := ez3.trans ex_6.symm
  refine lv_aload_n hx hb dL_law_465 rfl (lv_at hl 3 rfl) ?_
  refine lv_iload_n hx hb dL_law_466 rfl (lv_at hl 0 rfl) ?_
  refine lv_iconst (v := 4) hx hb dL_law_467 (by decide) ?_
  refine lv_iadd hx hb dL_law_468 ?_
  refine lv_topi (fun x_7 ex_7 => ?_)
  obtain rfl : x_7 = 4 := ex_7.trans (by decide)
  refine va_sld hx hb hX hbl hbA hS (vp_in_iff.mpr ⟨by decide, by rw [hL]; decide⟩) dL_law_469 ?_
  refine lv_topi (fun x_8 ex_8 => ?_)
  obtain rfl : z4 = x_8 := ez4.trans ex_8.symm
  have hPc := hP.sub (ws' := [(h0, .inr (8, [.ref hRows, .ref hMer, .ref hEra, .ref hTape, .ref hRea, .ref hTra, .ref hWor, .ref hPla, .ref hMod, .ref hHe1, .ref hHe2, .int 0, .int 0, .int 0, .int 0, .int (-1), .int 0]))]) [0] rfl
  have hDc := hD.sub (ws' := [(h0, .inr (8, [.ref hRows, .ref hMer, .ref hEra, .ref hTape, .ref hRea, .ref hTra, .ref hWor, .ref hPla, .ref hMod, .ref hHe1, .ref hHe2, .int 0, .int 0, .int 0, .int 0, .int (-1), .int 0]))]) [0] (by decide) rfl
  have hKc := hK.sub (tys' := []) [] rfl
  have hFc := va_free (wc := [(h0, .inr (8, [.ref hRows, .ref hMer, .ref hEra, .ref hTape, .ref hRea, .ref hTra, .ref hWor, .ref hPla, .ref hMod, .ref hHe1, .ref hHe2, .int 0, .int 0, .int 0, .int 0, .int (-1), .int 0]))]) hD hS hA [0] rfl
  refine va_calll (va_runV (As := [.int z1, .int z2, .int z3, .int z4]) (rest := []) ⟨hx, hb, hml, hown, hts⟩ (c_X8_value l dC dI H.size h0 hRows hMer hEra hTape hRea hTra hWor hPla hMod hHe1 hHe2 z1 z2 z3 z4 ) (cwV 4 hts gL_law_X8_value rfl rfl rfl (by decide +kernel) ⟨Nat.le_of_ble_eq_true rfl, Nat.le_of_ble_eq_true rfl⟩) ⟨fun a U g mk q => by obtain ⟨q0, q1, qP, qK, qD, qN⟩ := q; exact ⟨q0, q1, qP, va_K.moved (u := U) (U := U.calling g mk a) (Vm.Alike.refl U.vm) qK, qD, qN.same rfl⟩, va_recv hKc hPc (ci := 8) (q0 := 0) rfl rfl, fun U hU hW => ⟨rfl, by rw [hU], by rw [hU]; exact hPc, va_K.moved hW.alike hKc, hDc.weaken (fun _ _ _ _ => trivial), hN.warm hW⟩⟩ rfl rfl hl.1 rfl (lv_room (Nat.le_of_ble_eq_true rfl)) dL_law_470 ⟨Nat.le_of_ble_eq_true rfl, Nat.le_of_ble_eq_true rfl⟩) hS (fun q _ h => hFc q h) hFc (fun r_9 u_10 t H1 locs ht hvm hw_11 hB hz1 hk1 hS => ?_)
  try dsimp only at hw_11
  have hP1 : va_P (dC, dI) vwCl [] H1 := fun k q h => by simp at h
  have hD1 : va_D (va_A [(h0, .inr (8, [.ref hRows, .ref hMer, .ref hEra, .ref hTape, .ref hRea, .ref hTra, .ref hWor, .ref hPla, .ref hMod, .ref hHe1, .ref hHe2, .int 0, .int 0, .int 0, .int 0, .int (-1), .int 0]))] H.size) [] := ⟨fun i j p q h => by simp at h, fun k q h => by simp at h⟩
  have hK1 : va_K (dC, dI) vwCl [] s := hK.sub [] rfl
  obtain ⟨hP, hD⟩ := va_join (wr := [(m0, .inr (9, [.int 0, .int 0, .int 0, .ref m_rowPerson, .ref m_rowStream, .ref m_rowMoment, .ref m_rowKnown, .ref m_rowValue, .ref m_isGone, .ref m_mergeTo, .ref m_mergeKnown, .int 0, .ref m_isErased, .ref m_tape, .int 0, .int 0, .int 0, .int 0, .int (-1), .int 0, .ref m_five, .int 0, .int 0, .int 0, .int 0, .ref m_size0, .ref m_step, .ref m_stepA, .ref m_stepB, .ref m_stepC, .ref m_values, .ref m_heap, .ref m_isOne, .ref m_lawFrom, .ref m_lawTo, .ref m_hasLaw, .ref m_limits, .ref m_held, .ref m_hasKept, .ref m_kept, .ref m_keptAt, .int 0, .ref m_placeTrait, .ref m_placePerson, .ref m_placeMoment, .ref m_placeValue, .ref m_isFilled, .int 0, .ref m_uses, .ref m_heapsOne, .ref m_heapsOther]))]) (w1 := []) hP hD [0] [1] rfl rfl (by decide) (by decide) hk1 hFc hP1 hD1
  have hK := (hK.sub (tys' := []) [] rfl).app hK1
  generalize H1 = H at hP hS ⊢
  have hP : va_P (dC, dI) vwCl [(m0, .inr (9, [.int 0, .int 0, .int 0, .ref m_rowPerson, .ref m_rowStream, .ref m_rowMoment, .ref m_rowKnown, .ref m_rowValue, .ref m_isGone, .ref m_mergeTo, .ref m_mergeKnown, .int 0, .ref m_isErased, .ref m_tape, .int 0, .int 0, .int 0, .int 0, .int (-1), .int 0, .ref m_five, .int 0, .int 0, .int 0, .int 0, .ref m_size0, .ref m_step, .ref m_stepA, .ref m_stepB, .ref m_stepC, .ref m_values, .ref m_heap, .ref m_isOne, .ref m_lawFrom, .ref m_lawTo, .ref m_hasLaw, .ref m_limits, .ref m_held, .ref m_hasKept, .ref m_kept, .ref m_keptAt, .int 0, .ref m_placeTrait, .ref m_placePerson, .ref m_placeMoment, .ref m_placeValue, .ref m_isFilled, .int 0, .ref m_uses, .ref m_heapsOne, .ref m_heapsOther]))] H := hP
  have hD : va_D (fun q : Nat => s.heap.size ≤ q) [(m0, .inr (9, [.int 0, .int 0, .int 0, .ref m_rowPerson, .ref m_rowStream, .ref m_rowMoment, .ref m_rowKnown, .ref m_rowValue, .ref m_isGone, .ref m_mergeTo, .ref m_mergeKnown, .int 0, .ref m_isErased, .ref m_tape, .int 0, .int 0, .int 0, .int 0, .int (-1), .int 0, .ref m_five, .int 0, .int 0, .int 0, .int 0, .ref m_size0, .ref m_step, .ref m_stepA, .ref m_stepB, .ref m_stepC, .ref m_values, .ref m_heap, .ref m_isOne, .ref m_lawFrom, .ref m_lawTo, .ref m_hasLaw, .ref m_limits, .ref m_held, .ref m_hasKept, .ref m_kept, .ref m_keptAt, .int 0, .ref m_placeTrait, .ref m_placePerson, .ref m_placeMoment, .ref m_placeValue, .ref m_isFilled, .int 0, .ref m_uses, .ref m_heapsOne, .ref m_heapsOther]))] := hD
  have hK : va_K (dC, dI) vwCl [] s := hK
  obtain rfl : (-9000000000000000000) = r_9 := hw_11.symm
  refine lv_aload_n hx hb dL_law_473 rfl (lv_at hl 1 rfl) ?_
  refine lv_aload_n hx hb dL_law_474 rfl (lv_at hl 3 rfl) ?_
  refine lv_iload_n hx hb dL_law_475 rfl (lv_at hl 0 rfl) ?_
  refine lv_iconst (v := 1) hx hb dL_law_476 (by decide) ?_
  refine lv_iadd hx hb dL_law_477 ?_
  refine lv_topi (fun x_12 ex_12 => ?_)
  obtain rfl : x_12 = 1 := ex_12.trans (by decide)
  refine va_sld hx hb hX hbl hbA hS (vp_in_iff.mpr ⟨by decide, by rw [hL]; decide⟩) dL_law_478 ?_
  refine lv_topi (fun x_13 ex_13 => ?_)
  obtain rfl : z1 = x_13 := ez1.trans ex_13.symm
  refine lv_aload_n hx hb dL_law_479 rfl (lv_at hl 3 rfl) ?_
  refine lv_iload_n hx hb dL_law_480 rfl (lv_at hl 0 rfl) ?_
  refine lv_iconst (v := 2) hx hb dL_law_481 (by decide) ?_
  refine lv_iadd hx hb dL_law_482 ?_
  refine lv_topi (fun x_14 ex_14 => ?_)
  obtain rfl : x_14 = 2 := ex_14.trans (by decide)
  refine va_sld hx hb hX hbl hbA hS (vp_in_iff.mpr ⟨by decide, by rw [hL]; decide⟩) dL_law_483 ?_
  refine lv_topi (fun x_15 ex_15 => ?_)
  obtain rfl : z2 = x_15 := ez2.trans ex_15.symm
  refine lv_aload_n hx hb dL_law_484 rfl (lv_at hl 3 rfl) ?_
  refine lv_iload_n hx hb dL_law_485 rfl (lv_at hl 0 rfl) ?_
  refine lv_iconst (v := 3) hx hb dL_law_486 (by decide) ?_
  refine lv_iadd hx hb dL_law_487 ?_
  refine lv_topi (fun x_16 ex_16 => ?_)
  obtain rfl : x_16 = 3 := ex_16.trans (by decide)
  refine va_sld hx hb hX hbl hbA hS (vp_in_iff.mpr ⟨by decide, by rw [hL]; decide⟩) dL_law_488 ?_
  refine lv_topi (fun x_17 ex_17 => ?_)
  obtain rfl : z3 = x_17 := ez3.trans ex_17.symm
  refine lv_aload_n hx hb dL_law_489 rfl (lv_at hl 3 rfl) ?_
  refine lv_iload_n hx hb dL_law_490 rfl (lv_at hl 0 rfl) ?_
  refine lv_iconst (v := 4) hx hb dL_law_491 (by decide) ?_
  refine lv_iadd hx hb dL_law_492 ?_
  refine lv_topi (fun x_18 ex_18 => ?_)
  obtain rfl : x_18 = 4 := ex_18.trans (by decide)
  refine va_sld hx hb hX hbl hbA hS (vp_in_iff.mpr ⟨by decide, by rw [hL]; decide⟩) dL_law_493 ?_
  refine lv_topi (fun x_19 ex_19 => ?_)
  obtain rfl : z4 = x_19 := ez4.trans ex_19.symm
  have hPc := hP.sub (ws' := [(m0, .inr (9, [.int 0, .int 0, .int 0, .ref m_rowPerson, .ref m_rowStream, .ref m_rowMoment, .ref m_rowKnown, .ref m_rowValue, .ref m_isGone, .ref m_mergeTo, .ref m_mergeKnown, .int 0, .ref m_isErased, .ref m_tape, .int 0, .int 0, .int 0, .int 0, .int (-1), .int 0, .ref m_five, .int 0, .int 0, .int 0, .int 0, .ref m_size0, .ref m_step, .ref m_stepA, .ref m_stepB, .ref m_stepC, .ref m_values, .ref m_heap, .ref m_isOne, .ref m_lawFrom, .ref m_lawTo, .ref m_hasLaw, .ref m_limits, .ref m_held, .ref m_hasKept, .ref m_kept, .ref m_keptAt, .int 0, .ref m_placeTrait, .ref m_placePerson, .ref m_placeMoment, .ref m_placeValue, .ref m_isFilled, .int 0, .ref m_uses, .ref m_heapsOne, .ref m_heapsOther]))]) [0] rfl
  have hDc := hD.sub (ws' := [(m0, .inr (9, [.int 0, .int 0, .int 0, .ref m_rowPerson, .ref m_rowStream, .ref m_rowMoment, .ref m_rowKnown, .ref m_rowValue, .ref m_isGone, .ref m_mergeTo, .ref m_mergeKnown, .int 0, .ref m_isErased, .ref m_tape, .int 0, .int 0, .int 0, .int 0, .int (-1), .int 0, .ref m_five, .int 0, .int 0, .int 0, .int 0, .ref m_size0, .ref m_step, .ref m_stepA, .ref m_stepB, .ref m_stepC, .ref m_values, .ref m_heap, .ref m_isOne, .ref m_lawFrom, .ref m_lawTo, .ref m_hasLaw, .ref m_limits, .ref m_held, .ref m_hasKept, .ref m_kept, .ref m_keptAt, .int 0, .ref m_placeTrait, .ref m_placePerson, .ref m_placeMoment, .ref m_placeValue, .ref m_isFilled, .int 0, .ref m_uses, .ref m_heapsOne, .ref m_heapsOther]))]) [0] (by decide) rfl
  have hKc := hK.sub (tys' := []) [] rfl
  have hFc := va_free (wc := [(m0, .inr (9, [.int 0, .int 0, .int 0, .ref m_rowPerson, .ref m_rowStream, .ref m_rowMoment, .ref m_rowKnown, .ref m_rowValue, .ref m_isGone, .ref m_mergeTo, .ref m_mergeKnown, .int 0, .ref m_isErased, .ref m_tape, .int 0, .int 0, .int 0, .int 0, .int (-1), .int 0, .ref m_five, .int 0, .int 0, .int 0, .int 0, .ref m_size0, .ref m_step, .ref m_stepA, .ref m_stepB, .ref m_stepC, .ref m_values, .ref m_heap, .ref m_isOne, .ref m_lawFrom, .ref m_lawTo, .ref m_hasLaw, .ref m_limits, .ref m_held, .ref m_hasKept, .ref m_kept, .ref m_keptAt, .int 0, .ref m_placeTrait, .ref m_placePerson, .ref m_placeMoment, .ref m_placeValue, .ref m_isFilled, .int 0, .ref m_uses, .ref m_heapsOne, .ref m_heapsOther]))]) hD hS hA [0] rfl
  refine va_calll (va_runV (As := [.int z1, .int z2, .int z3, .int z4]) (rest := [.long (-9000000000000000000)]) ⟨hx, hb, hml, hown, hts⟩ (c_X9_value l dC dI H.size m0 m_rowPerson m_rowStream m_rowMoment m_rowKnown m_rowValue m_isGone m_mergeTo m_mergeKnown m_isErased m_tape m_five m_size0 m_step m_stepA m_stepB m_stepC m_values m_heap m_isOne m_lawFrom m_lawTo m_hasLaw m_limits m_held m_hasKept m_kept m_keptAt m_placeTrait m_placePerson m_placeMoment m_placeValue m_isFilled m_uses m_heapsOne m_heapsOther z1 z2 z3 z4 ) (cwV 4 hts gL_law_X9_value rfl rfl rfl (by decide +kernel) ⟨Nat.le_of_ble_eq_true rfl, Nat.le_of_ble_eq_true rfl⟩) ⟨fun a U g mk q => by obtain ⟨q0, q1, qP, qK, qD, qN⟩ := q; exact ⟨q0, q1, qP, va_K.moved (u := U) (U := U.calling g mk a) (Vm.Alike.refl U.vm) qK, qD, qN.same rfl⟩, va_recv hKc hPc (ci := 9) (q0 := 0) rfl rfl, fun U hU hW => ⟨rfl, by rw [hU], by rw [hU]; exact hPc, va_K.moved hW.alike hKc, hDc.weaken (fun _ _ _ _ => trivial), hN.warm hW⟩⟩ rfl rfl hl.1 rfl (lv_room (Nat.le_of_ble_eq_true rfl)) dL_law_494 ⟨Nat.le_of_ble_eq_true rfl, Nat.le_of_ble_eq_true rfl⟩) hS (fun q _ h => hFc q h) hFc (fun r_20 u_21 t H1 locs ht hvm hw_22 hB hz1 hk1 hS => ?_)
  try dsimp only at hw_22
  have hP1 : va_P (dC, dI) vwCl [] H1 := fun k q h => by simp at h
  have hD1 : va_D (va_A [(m0, .inr (9, [.int 0, .int 0, .int 0, .ref m_rowPerson, .ref m_rowStream, .ref m_rowMoment, .ref m_rowKnown, .ref m_rowValue, .ref m_isGone, .ref m_mergeTo, .ref m_mergeKnown, .int 0, .ref m_isErased, .ref m_tape, .int 0, .int 0, .int 0, .int 0, .int (-1), .int 0, .ref m_five, .int 0, .int 0, .int 0, .int 0, .ref m_size0, .ref m_step, .ref m_stepA, .ref m_stepB, .ref m_stepC, .ref m_values, .ref m_heap, .ref m_isOne, .ref m_lawFrom, .ref m_lawTo, .ref m_hasLaw, .ref m_limits, .ref m_held, .ref m_hasKept, .ref m_kept, .ref m_keptAt, .int 0, .ref m_placeTrait, .ref m_placePerson, .ref m_placeMoment, .ref m_placeValue, .ref m_isFilled, .int 0, .ref m_uses, .ref m_heapsOne, .ref m_heapsOther]))] H.size) [] := ⟨fun i j p q h => by simp at h, fun k q h => by simp at h⟩
  have hK1 : va_K (dC, dI) vwCl [] s := hK.sub [] rfl
  obtain ⟨hP, hD⟩ := va_join (wr := []) (w1 := []) hP hD [0] [] rfl rfl (by decide) (by decide) hk1 hFc hP1 hD1
  have hK := (hK.sub (tys' := []) [] rfl).app hK1
  generalize H1 = H at hP hS ⊢
  have hP : va_P (dC, dI) vwCl [] H := hP
  have hD : va_D (fun q : Nat => s.heap.size ≤ q) [] := hD
  have hK : va_K (dC, dI) vwCl [] s := hK
  obtain rfl : (-9000000000000000000) = r_20 := hw_22.symm
  refine W.lcmp hx hb dL_law_497 ?_
  refine lv_topi (fun k_23 ek_23 => ?_)
  have dk_23 : (k_23.toInt < 0 ↔ (-9000000000000000000) < (-9000000000000000000)) ∧ (k_23.toInt = 0 ↔ (-9000000000000000000) = (-9000000000000000000)) ∧ (0 < k_23.toInt ↔ (-9000000000000000000) < (-9000000000000000000)) := jI_cmp ek_23 (by decide) (by decide)
  refine lv_if_eq (tgt := 1234) hx hb dL_law_498 (by decide) (fun c_24 => ?_) (fun c_24 => ?_)
  · exact law_tail hL C0 hS (lv_sub hl [0, 3] rfl)
  · have dc_24 : ¬ k_23.toInt = 0 := jI_ne c_24 rfl (by decide)
    exfalso; omega

set_option maxHeartbeats 4000000 in
set_option maxRecDepth 100000 in
theorem law_law {p : Program} {l : Launch} {e : Env} {s : State} {m : MethodId} {below : List Frame} {meth : Method} {c : Code} {dC : Nat → ClassId} {dI : Nat → Nat → Nat} {b L : Nat} {xs : Nat → Int32} (hL : L = 11) (C0 : lw_At p s m meth c b L xs) (hN : nw_ok s) (h0 : Nat) (hRows : Nat) (hMer : Nat) (hEra : Nat) (hTape : Nat) (hRea : Nat) (hTra : Nat) (hWor : Nat) (hPla : Nat) (hMod : Nat) (hHe1 : Nat) (hHe2 : Nat) (m0 : Nat) (m_rowPerson : Nat) (m_rowStream : Nat) (m_rowMoment : Nat) (m_rowKnown : Nat) (m_rowValue : Nat) (m_isGone : Nat) (m_mergeTo : Nat) (m_mergeKnown : Nat) (m_isErased : Nat) (m_tape : Nat) (m_five : Nat) (m_size0 : Nat) (m_step : Nat) (m_stepA : Nat) (m_stepB : Nat) (m_stepC : Nat) (m_values : Nat) (m_heap : Nat) (m_isOne : Nat) (m_lawFrom : Nat) (m_lawTo : Nat) (m_hasLaw : Nat) (m_limits : Nat) (m_held : Nat) (m_hasKept : Nat) (m_kept : Nat) (m_keptAt : Nat) (m_placeTrait : Nat) (m_placePerson : Nat) (m_placeMoment : Nat) (m_placeValue : Nat) (m_isFilled : Nat) (m_uses : Nat) (m_heapsOne : Nat) (m_heapsOther : Nat)  (H : Heap) (locs : List Loc) (hK : va_K (dC, dI) vwCl [] s) (hP : va_P (dC, dI) vwCl [(h0, .inr (8, [.ref hRows, .ref hMer, .ref hEra, .ref hTape, .ref hRea, .ref hTra, .ref hWor, .ref hPla, .ref hMod, .ref hHe1, .ref hHe2, .int 0, .int 0, .int 0, .int 0, .int (-1), .int 0])), (m0, .inr (9, [.int 0, .int 0, .int 0, .ref m_rowPerson, .ref m_rowStream, .ref m_rowMoment, .ref m_rowKnown, .ref m_rowValue, .ref m_isGone, .ref m_mergeTo, .ref m_mergeKnown, .int 0, .ref m_isErased, .ref m_tape, .int 0, .int 0, .int 0, .int 0, .int (-1), .int 0, .ref m_five, .int 0, .int 0, .int 0, .int 0, .ref m_size0, .ref m_step, .ref m_stepA, .ref m_stepB, .ref m_stepC, .ref m_values, .ref m_heap, .ref m_isOne, .ref m_lawFrom, .ref m_lawTo, .ref m_hasLaw, .ref m_limits, .ref m_held, .ref m_hasKept, .ref m_kept, .ref m_keptAt, .int 0, .ref m_placeTrait, .ref m_placePerson, .ref m_placeMoment, .ref m_placeValue, .ref m_isFilled, .int 0, .ref m_uses, .ref m_heapsOne, .ref m_heapsOther]))] H) (hD : va_D (fun q : Nat => s.heap.size ≤ q) [(h0, .inr (8, [.ref hRows, .ref hMer, .ref hEra, .ref hTape, .ref hRea, .ref hTra, .ref hWor, .ref hPla, .ref hMod, .ref hHe1, .ref hHe2, .int 0, .int 0, .int 0, .int 0, .int (-1), .int 0])), (m0, .inr (9, [.int 0, .int 0, .int 0, .ref m_rowPerson, .ref m_rowStream, .ref m_rowMoment, .ref m_rowKnown, .ref m_rowValue, .ref m_isGone, .ref m_mergeTo, .ref m_mergeKnown, .int 0, .ref m_isErased, .ref m_tape, .int 0, .int 0, .int 0, .int 0, .int (-1), .int 0, .ref m_five, .int 0, .int 0, .int 0, .int 0, .ref m_size0, .ref m_step, .ref m_stepA, .ref m_stepB, .ref m_stepC, .ref m_values, .ref m_heap, .ref m_isOne, .ref m_lawFrom, .ref m_lawTo, .ref m_hasLaw, .ref m_limits, .ref m_held, .ref m_hasKept, .ref m_kept, .ref m_keptAt, .int 0, .ref m_placeTrait, .ref m_placePerson, .ref m_placeMoment, .ref m_placeValue, .ref m_isFilled, .int 0, .ref m_uses, .ref m_heapsOne, .ref m_heapsOther]))]) (hS : va_S (fun q : Nat => s.heap.size ≤ q) s.heap H locs) (ls : Array Slot) (hl : lv_has ls 4 [(3, .int 0), (2, .ref m0), (1, .ref h0), (0, .ref b)]) : W p l e room_1 s m #[Value.ref b] below meth c H locs 600000 7302250 (lw_Z below #[Value.ref b] s) (F0 m 503 ls []) := by
  obtain ⟨hx, hb, hr, hml, hown, hts, hX, hbl, hlocks, hgv⟩ := id C0
  have hts := fun w h => hts w (wsL_law_in w h)
  have hown : s.vm.findClass RL = some m.cls := hown
  have hA : ∀ q : Nat, s.heap.size ≤ q → (fun q : Nat => s.heap.size ≤ q) q := fun _ h => h
  have hbA : ¬ (fun q : Nat => s.heap.size ≤ q) b := Nat.not_le.mpr hbl
  obtain ⟨z1, ez1⟩ : ∃ z : Int32, z = xs (1 : Int32).toNatClampNeg := ⟨_, rfl⟩
  obtain ⟨z2, ez2⟩ : ∃ z : Int32, z = xs (2 : Int32).toNatClampNeg := ⟨_, rfl⟩
  obtain ⟨z3, ez3⟩ : ∃ z : Int32, z = xs (3 : Int32).toNatClampNeg := ⟨_, rfl⟩
  obtain ⟨z4, ez4⟩ : ∃ z : Int32, z = xs (4 : Int32).toNatClampNeg := ⟨_, rfl⟩
  obtain ⟨z5, ez5⟩ : ∃ z : Int32, z = xs (5 : Int32).toNatClampNeg := ⟨_, rfl⟩
  refine lv_aload_n hx hb dL_law_503 rfl (lv_at hl 2 rfl) ?_
  refine lv_aload_n hx hb dL_law_504 rfl (lv_at hl 3 rfl) ?_
  refine lv_iload_n hx hb dL_law_505 rfl (lv_at hl 0 rfl) ?_
  refine lv_iconst (v := 1) hx hb dL_law_506 (by decide) ?_
  refine lv_iadd hx hb dL_law_507 ?_
  refine lv_topi (fun x_1 ex_1 => ?_)
  obtain rfl : x_1 = 1 := ex_1.trans (by decide)
  refine va_sld hx hb hX hbl hbA hS (vp_in_iff.mpr ⟨by decide, by rw [hL]; decide⟩) dL_law_508 ?_
  refine lv_topi (fun x_2 ex_2 => ?_)
  obtain rfl : z1 = x_2 := ez1.trans ex_2.symm
  refine lv_aload_n hx hb dL_law_509 rfl (lv_at hl 3 rfl) ?_
  refine lv_iload_n hx hb dL_law_510 rfl (lv_at hl 0 rfl) ?_
  refine lv_iconst (v := 2) hx hb dL_law_511 (by decide) ?_
  refine lv_iadd hx hb dL_law_512 ?_
  refine lv_topi (fun x_3 ex_3 => ?_)
  obtain rfl : x_3 = 2 := ex_3.trans (by decide)
  refine va_sld hx hb hX hbl hbA hS (vp_in_iff.mpr ⟨by decide, by rw [hL]; decide⟩) dL_law_513 ?_
  refine lv_topi (fun x_4 ex_4 => ?_)
  obtain rfl : z2 = x_4 := ez2.trans ex_4.symm
  refine lv_i2l (v := z2.toInt64) hx hb dL_law_514 rfl ?_
  refine lv_bipush (v := 32) hx hb dL_law_515 (by decide) ?_
  refine lv_lshl (v := z2.toInt64 <<< ((32 : Int32).toInt64 &&& 63)) hx hb dL_law_517 rfl ?_
  refine lv_aload_n hx hb dL_law_518 rfl (lv_at hl 3 rfl) ?_
  refine lv_iload_n hx hb dL_law_519 rfl (lv_at hl 0 rfl) ?_
  refine lv_iconst (v := 3) hx hb dL_law_520 (by decide) ?_
  refine lv_iadd hx hb dL_law_521 ?_
  refine lv_topi (fun x_5 ex_5 => ?_)
  obtain rfl : x_5 = 3 := ex_5.trans (by decide)
  refine va_sld hx hb hX hbl hbA hS (vp_in_iff.mpr ⟨by decide, by rw [hL]; decide⟩) dL_law_522 ?_
  refine lv_topi (fun x_6 ex_6 => ?_)
  obtain rfl : z3 = x_6 := ez3.trans ex_6.symm
  refine lv_i2l (v := z3.toInt64) hx hb dL_law_523 rfl ?_
  refine lv_ldc2 hx hb hown (hts (.constantLong RL 59 (4294967295)) (by decide +kernel)) dL_law_524 ?_
  refine lv_land hx hb dL_law_527 ?_
  refine lv_lor hx hb dL_law_528 ?_
  refine lv_aload_n hx hb dL_law_529 rfl (lv_at hl 3 rfl) ?_
  refine lv_iload_n hx hb dL_law_530 rfl (lv_at hl 0 rfl) ?_
  refine lv_iconst (v := 4) hx hb dL_law_531 (by decide) ?_
  refine lv_iadd hx hb dL_law_532 ?_
  refine lv_topi (fun x_7 ex_7 => ?_)
  obtain rfl : x_7 = 4 := ex_7.trans (by decide)
  refine va_sld hx hb hX hbl hbA hS (vp_in_iff.mpr ⟨by decide, by rw [hL]; decide⟩) dL_law_533 ?_
  refine lv_topi (fun x_8 ex_8 => ?_)
  obtain rfl : z4 = x_8 := ez4.trans ex_8.symm
  refine lv_i2l (v := z4.toInt64) hx hb dL_law_534 rfl ?_
  refine lv_bipush (v := 32) hx hb dL_law_535 (by decide) ?_
  refine lv_lshl (v := z4.toInt64 <<< ((32 : Int32).toInt64 &&& 63)) hx hb dL_law_537 rfl ?_
  refine lv_aload_n hx hb dL_law_538 rfl (lv_at hl 3 rfl) ?_
  refine lv_iload_n hx hb dL_law_539 rfl (lv_at hl 0 rfl) ?_
  refine lv_iconst (v := 5) hx hb dL_law_540 (by decide) ?_
  refine lv_iadd hx hb dL_law_541 ?_
  refine lv_topi (fun x_9 ex_9 => ?_)
  obtain rfl : x_9 = 5 := ex_9.trans (by decide)
  refine va_sld hx hb hX hbl hbA hS (vp_in_iff.mpr ⟨by decide, by rw [hL]; decide⟩) dL_law_542 ?_
  refine lv_topi (fun x_10 ex_10 => ?_)
  obtain rfl : z5 = x_10 := ez5.trans ex_10.symm
  refine lv_i2l (v := z5.toInt64) hx hb dL_law_543 rfl ?_
  refine lv_ldc2 hx hb hown (hts (.constantLong RL 59 (4294967295)) (by decide +kernel)) dL_law_544 ?_
  refine lv_land hx hb dL_law_547 ?_
  refine lv_lor hx hb dL_law_548 ?_
  have hPc := hP.sub (ws' := [(h0, .inr (8, [.ref hRows, .ref hMer, .ref hEra, .ref hTape, .ref hRea, .ref hTra, .ref hWor, .ref hPla, .ref hMod, .ref hHe1, .ref hHe2, .int 0, .int 0, .int 0, .int 0, .int (-1), .int 0]))]) [0] rfl
  have hDc := hD.sub (ws' := [(h0, .inr (8, [.ref hRows, .ref hMer, .ref hEra, .ref hTape, .ref hRea, .ref hTra, .ref hWor, .ref hPla, .ref hMod, .ref hHe1, .ref hHe2, .int 0, .int 0, .int 0, .int 0, .int (-1), .int 0]))]) [0] (by decide) rfl
  have hKc := hK.sub (tys' := []) [] rfl
  have hFc := va_free (wc := [(h0, .inr (8, [.ref hRows, .ref hMer, .ref hEra, .ref hTape, .ref hRea, .ref hTra, .ref hWor, .ref hPla, .ref hMod, .ref hHe1, .ref hHe2, .int 0, .int 0, .int 0, .int 0, .int (-1), .int 0]))]) hD hS hA [0] rfl
  refine va_calli (va_runV (As := [.int z1, .long ((z2.toInt64 <<< ((32 : Int32).toInt64 &&& 63)) ||| (z3.toInt64 &&& 4294967295)), .long ((z4.toInt64 <<< ((32 : Int32).toInt64 &&& 63)) ||| (z5.toInt64 &&& 4294967295))]) (rest := []) ⟨hx, hb, hml, hown, hts⟩ (c_X8_law l dC dI H.size h0 hRows hMer hEra hTape hRea hTra hWor hPla hMod hHe1 hHe2 z1 ((z2.toInt64 <<< ((32 : Int32).toInt64 &&& 63)) ||| (z3.toInt64 &&& 4294967295)) ((z4.toInt64 <<< ((32 : Int32).toInt64 &&& 63)) ||| (z5.toInt64 &&& 4294967295)) ) (cwV 3 hts gL_law_X8_law rfl rfl rfl (by decide +kernel) ⟨Nat.le_of_ble_eq_true rfl, Nat.le_of_ble_eq_true rfl⟩) ⟨fun a U g mk q => by obtain ⟨q0, q1, qP, qK, qD, qN⟩ := q; exact ⟨q0, q1, qP, va_K.moved (u := U) (U := U.calling g mk a) (Vm.Alike.refl U.vm) qK, qD, qN.same rfl⟩, va_recv hKc hPc (ci := 8) (q0 := 0) rfl rfl, fun U hU hW => ⟨rfl, by rw [hU], by rw [hU]; exact hPc, va_K.moved hW.alike hKc, hDc.weaken (fun _ _ _ _ => trivial), hN.warm hW⟩⟩ rfl rfl hl.1 rfl (lv_room (Nat.le_of_ble_eq_true rfl)) dL_law_549 ⟨Nat.le_of_ble_eq_true rfl, Nat.le_of_ble_eq_true rfl⟩) hS (fun q _ h => hFc q h) hFc (fun r_11 u_12 t H1 locs ht hvm hw_13 hB hz1 hk1 hS => ?_)
  try dsimp only at hw_13
  have hP1 : va_P (dC, dI) vwCl [] H1 := fun k q h => by simp at h
  have hD1 : va_D (va_A [(h0, .inr (8, [.ref hRows, .ref hMer, .ref hEra, .ref hTape, .ref hRea, .ref hTra, .ref hWor, .ref hPla, .ref hMod, .ref hHe1, .ref hHe2, .int 0, .int 0, .int 0, .int 0, .int (-1), .int 0]))] H.size) [] := ⟨fun i j p q h => by simp at h, fun k q h => by simp at h⟩
  have hK1 : va_K (dC, dI) vwCl [] s := hK.sub [] rfl
  obtain ⟨hP, hD⟩ := va_join (wr := [(m0, .inr (9, [.int 0, .int 0, .int 0, .ref m_rowPerson, .ref m_rowStream, .ref m_rowMoment, .ref m_rowKnown, .ref m_rowValue, .ref m_isGone, .ref m_mergeTo, .ref m_mergeKnown, .int 0, .ref m_isErased, .ref m_tape, .int 0, .int 0, .int 0, .int 0, .int (-1), .int 0, .ref m_five, .int 0, .int 0, .int 0, .int 0, .ref m_size0, .ref m_step, .ref m_stepA, .ref m_stepB, .ref m_stepC, .ref m_values, .ref m_heap, .ref m_isOne, .ref m_lawFrom, .ref m_lawTo, .ref m_hasLaw, .ref m_limits, .ref m_held, .ref m_hasKept, .ref m_kept, .ref m_keptAt, .int 0, .ref m_placeTrait, .ref m_placePerson, .ref m_placeMoment, .ref m_placeValue, .ref m_isFilled, .int 0, .ref m_uses, .ref m_heapsOne, .ref m_heapsOther]))]) (w1 := []) hP hD [0] [1] rfl rfl (by decide) (by decide) hk1 hFc hP1 hD1
  have hK := (hK.sub (tys' := []) [] rfl).app hK1
  generalize H1 = H at hP hS ⊢
  have hP : va_P (dC, dI) vwCl [(m0, .inr (9, [.int 0, .int 0, .int 0, .ref m_rowPerson, .ref m_rowStream, .ref m_rowMoment, .ref m_rowKnown, .ref m_rowValue, .ref m_isGone, .ref m_mergeTo, .ref m_mergeKnown, .int 0, .ref m_isErased, .ref m_tape, .int 0, .int 0, .int 0, .int 0, .int (-1), .int 0, .ref m_five, .int 0, .int 0, .int 0, .int 0, .ref m_size0, .ref m_step, .ref m_stepA, .ref m_stepB, .ref m_stepC, .ref m_values, .ref m_heap, .ref m_isOne, .ref m_lawFrom, .ref m_lawTo, .ref m_hasLaw, .ref m_limits, .ref m_held, .ref m_hasKept, .ref m_kept, .ref m_keptAt, .int 0, .ref m_placeTrait, .ref m_placePerson, .ref m_placeMoment, .ref m_placeValue, .ref m_isFilled, .int 0, .ref m_uses, .ref m_heapsOne, .ref m_heapsOther]))] H := hP
  have hD : va_D (fun q : Nat => s.heap.size ≤ q) [(m0, .inr (9, [.int 0, .int 0, .int 0, .ref m_rowPerson, .ref m_rowStream, .ref m_rowMoment, .ref m_rowKnown, .ref m_rowValue, .ref m_isGone, .ref m_mergeTo, .ref m_mergeKnown, .int 0, .ref m_isErased, .ref m_tape, .int 0, .int 0, .int 0, .int 0, .int (-1), .int 0, .ref m_five, .int 0, .int 0, .int 0, .int 0, .ref m_size0, .ref m_step, .ref m_stepA, .ref m_stepB, .ref m_stepC, .ref m_values, .ref m_heap, .ref m_isOne, .ref m_lawFrom, .ref m_lawTo, .ref m_hasLaw, .ref m_limits, .ref m_held, .ref m_hasKept, .ref m_kept, .ref m_keptAt, .int 0, .ref m_placeTrait, .ref m_placePerson, .ref m_placeMoment, .ref m_placeValue, .ref m_isFilled, .int 0, .ref m_uses, .ref m_heapsOne, .ref m_heapsOther]))] := hD
  have hK : va_K (dC, dI) vwCl [] s := hK
  refine lv_aload_n hx hb dL_law_552 rfl (lv_at hl 1 rfl) ?_
  refine lv_aload_n hx hb dL_law_553 rfl (lv_at hl 3 rfl) ?_
  refine lv_iload_n hx hb dL_law_554 rfl (lv_at hl 0 rfl) ?_
  refine lv_iconst (v := 1) hx hb dL_law_555 (by decide) ?_
  refine lv_iadd hx hb dL_law_556 ?_
  refine lv_topi (fun x_14 ex_14 => ?_)
  obtain rfl : x_14 = 1 := ex_14.trans (by decide)
  refine va_sld hx hb hX hbl hbA hS (vp_in_iff.mpr ⟨by decide, by rw [hL]; decide⟩) dL_law_557 ?_
  refine lv_topi (fun x_15 ex_15 => ?_)
  obtain rfl : z1 = x_15 := ez1.trans ex_15.symm
  refine lv_aload_n hx hb dL_law_558 rfl (lv_at hl 3 rfl) ?_
  refine lv_iload_n hx hb dL_law_559 rfl (lv_at hl 0 rfl) ?_
  refine lv_iconst (v := 2) hx hb dL_law_560 (by decide) ?_
  refine lv_iadd hx hb dL_law_561 ?_
  refine lv_topi (fun x_16 ex_16 => ?_)
  obtain rfl : x_16 = 2 := ex_16.trans (by decide)
  refine va_sld hx hb hX hbl hbA hS (vp_in_iff.mpr ⟨by decide, by rw [hL]; decide⟩) dL_law_562 ?_
  refine lv_topi (fun x_17 ex_17 => ?_)
  obtain rfl : z2 = x_17 := ez2.trans ex_17.symm
  refine lv_i2l (v := z2.toInt64) hx hb dL_law_563 rfl ?_
  refine lv_bipush (v := 32) hx hb dL_law_564 (by decide) ?_
  refine lv_lshl (v := z2.toInt64 <<< ((32 : Int32).toInt64 &&& 63)) hx hb dL_law_566 rfl ?_
  refine lv_aload_n hx hb dL_law_567 rfl (lv_at hl 3 rfl) ?_
  refine lv_iload_n hx hb dL_law_568 rfl (lv_at hl 0 rfl) ?_
  refine lv_iconst (v := 3) hx hb dL_law_569 (by decide) ?_
  refine lv_iadd hx hb dL_law_570 ?_
  refine lv_topi (fun x_18 ex_18 => ?_)
  obtain rfl : x_18 = 3 := ex_18.trans (by decide)
  refine va_sld hx hb hX hbl hbA hS (vp_in_iff.mpr ⟨by decide, by rw [hL]; decide⟩) dL_law_571 ?_
  refine lv_topi (fun x_19 ex_19 => ?_)
  obtain rfl : z3 = x_19 := ez3.trans ex_19.symm
  refine lv_i2l (v := z3.toInt64) hx hb dL_law_572 rfl ?_
  refine lv_ldc2 hx hb hown (hts (.constantLong RL 59 (4294967295)) (by decide +kernel)) dL_law_573 ?_
  refine lv_land hx hb dL_law_576 ?_
  refine lv_lor hx hb dL_law_577 ?_
  refine lv_aload_n hx hb dL_law_578 rfl (lv_at hl 3 rfl) ?_
  refine lv_iload_n hx hb dL_law_579 rfl (lv_at hl 0 rfl) ?_
  refine lv_iconst (v := 4) hx hb dL_law_580 (by decide) ?_
  refine lv_iadd hx hb dL_law_581 ?_
  refine lv_topi (fun x_20 ex_20 => ?_)
  obtain rfl : x_20 = 4 := ex_20.trans (by decide)
  refine va_sld hx hb hX hbl hbA hS (vp_in_iff.mpr ⟨by decide, by rw [hL]; decide⟩) dL_law_582 ?_
  refine lv_topi (fun x_21 ex_21 => ?_)
  obtain rfl : z4 = x_21 := ez4.trans ex_21.symm
  refine lv_i2l (v := z4.toInt64) hx hb dL_law_583 rfl ?_
  refine lv_bipush (v := 32) hx hb dL_law_584 (by decide) ?_
  refine lv_lshl (v := z4.toInt64 <<< ((32 : Int32).toInt64 &&& 63)) hx hb dL_law_586 rfl ?_
  refine lv_aload_n hx hb dL_law_587 rfl (lv_at hl 3 rfl) ?_
  refine lv_iload_n hx hb dL_law_588 rfl (lv_at hl 0 rfl) ?_
  refine lv_iconst (v := 5) hx hb dL_law_589 (by decide) ?_
  refine lv_iadd hx hb dL_law_590 ?_
  refine lv_topi (fun x_22 ex_22 => ?_)
  obtain rfl : x_22 = 5 := ex_22.trans (by decide)
  refine va_sld hx hb hX hbl hbA hS (vp_in_iff.mpr ⟨by decide, by rw [hL]; decide⟩) dL_law_591 ?_
  refine lv_topi (fun x_23 ex_23 => ?_)
  obtain rfl : z5 = x_23 := ez5.trans ex_23.symm
  refine lv_i2l (v := z5.toInt64) hx hb dL_law_592 rfl ?_
  refine lv_ldc2 hx hb hown (hts (.constantLong RL 59 (4294967295)) (by decide +kernel)) dL_law_593 ?_
  refine lv_land hx hb dL_law_596 ?_
  refine lv_lor hx hb dL_law_597 ?_
  have hPc := hP.sub (ws' := [(m0, .inr (9, [.int 0, .int 0, .int 0, .ref m_rowPerson, .ref m_rowStream, .ref m_rowMoment, .ref m_rowKnown, .ref m_rowValue, .ref m_isGone, .ref m_mergeTo, .ref m_mergeKnown, .int 0, .ref m_isErased, .ref m_tape, .int 0, .int 0, .int 0, .int 0, .int (-1), .int 0, .ref m_five, .int 0, .int 0, .int 0, .int 0, .ref m_size0, .ref m_step, .ref m_stepA, .ref m_stepB, .ref m_stepC, .ref m_values, .ref m_heap, .ref m_isOne, .ref m_lawFrom, .ref m_lawTo, .ref m_hasLaw, .ref m_limits, .ref m_held, .ref m_hasKept, .ref m_kept, .ref m_keptAt, .int 0, .ref m_placeTrait, .ref m_placePerson, .ref m_placeMoment, .ref m_placeValue, .ref m_isFilled, .int 0, .ref m_uses, .ref m_heapsOne, .ref m_heapsOther]))]) [0] rfl
  have hDc := hD.sub (ws' := [(m0, .inr (9, [.int 0, .int 0, .int 0, .ref m_rowPerson, .ref m_rowStream, .ref m_rowMoment, .ref m_rowKnown, .ref m_rowValue, .ref m_isGone, .ref m_mergeTo, .ref m_mergeKnown, .int 0, .ref m_isErased, .ref m_tape, .int 0, .int 0, .int 0, .int 0, .int (-1), .int 0, .ref m_five, .int 0, .int 0, .int 0, .int 0, .ref m_size0, .ref m_step, .ref m_stepA, .ref m_stepB, .ref m_stepC, .ref m_values, .ref m_heap, .ref m_isOne, .ref m_lawFrom, .ref m_lawTo, .ref m_hasLaw, .ref m_limits, .ref m_held, .ref m_hasKept, .ref m_kept, .ref m_keptAt, .int 0, .ref m_placeTrait, .ref m_placePerson, .ref m_placeMoment, .ref m_placeValue, .ref m_isFilled, .int 0, .ref m_uses, .ref m_heapsOne, .ref m_heapsOther]))]) [0] (by decide) rfl
  have hKc := hK.sub (tys' := []) [] rfl
  have hFc := va_free (wc := [(m0, .inr (9, [.int 0, .int 0, .int 0, .ref m_rowPerson, .ref m_rowStream, .ref m_rowMoment, .ref m_rowKnown, .ref m_rowValue, .ref m_isGone, .ref m_mergeTo, .ref m_mergeKnown, .int 0, .ref m_isErased, .ref m_tape, .int 0, .int 0, .int 0, .int 0, .int (-1), .int 0, .ref m_five, .int 0, .int 0, .int 0, .int 0, .ref m_size0, .ref m_step, .ref m_stepA, .ref m_stepB, .ref m_stepC, .ref m_values, .ref m_heap, .ref m_isOne, .ref m_lawFrom, .ref m_lawTo, .ref m_hasLaw, .ref m_limits, .ref m_held, .ref m_hasKept, .ref m_kept, .ref m_keptAt, .int 0, .ref m_placeTrait, .ref m_placePerson, .ref m_placeMoment, .ref m_placeValue, .ref m_isFilled, .int 0, .ref m_uses, .ref m_heapsOne, .ref m_heapsOther]))]) hD hS hA [0] rfl
  refine va_calli (va_runV (As := [.int z1, .long ((z2.toInt64 <<< ((32 : Int32).toInt64 &&& 63)) ||| (z3.toInt64 &&& 4294967295)), .long ((z4.toInt64 <<< ((32 : Int32).toInt64 &&& 63)) ||| (z5.toInt64 &&& 4294967295))]) (rest := [.int r_11]) ⟨hx, hb, hml, hown, hts⟩ (c_X9_law l dC dI H.size m0 m_rowPerson m_rowStream m_rowMoment m_rowKnown m_rowValue m_isGone m_mergeTo m_mergeKnown m_isErased m_tape m_five m_size0 m_step m_stepA m_stepB m_stepC m_values m_heap m_isOne m_lawFrom m_lawTo m_hasLaw m_limits m_held m_hasKept m_kept m_keptAt m_placeTrait m_placePerson m_placeMoment m_placeValue m_isFilled m_uses m_heapsOne m_heapsOther z1 ((z2.toInt64 <<< ((32 : Int32).toInt64 &&& 63)) ||| (z3.toInt64 &&& 4294967295)) ((z4.toInt64 <<< ((32 : Int32).toInt64 &&& 63)) ||| (z5.toInt64 &&& 4294967295)) ) (cwV 3 hts gL_law_X9_law rfl rfl rfl (by decide +kernel) ⟨Nat.le_of_ble_eq_true rfl, Nat.le_of_ble_eq_true rfl⟩) ⟨fun a U g mk q => by obtain ⟨q0, q1, qP, qK, qD, qN⟩ := q; exact ⟨q0, q1, qP, va_K.moved (u := U) (U := U.calling g mk a) (Vm.Alike.refl U.vm) qK, qD, qN.same rfl⟩, va_recv hKc hPc (ci := 9) (q0 := 0) rfl rfl, fun U hU hW => ⟨rfl, by rw [hU], by rw [hU]; exact hPc, va_K.moved hW.alike hKc, hDc.weaken (fun _ _ _ _ => trivial), hN.warm hW⟩⟩ rfl rfl hl.1 rfl (lv_room (Nat.le_of_ble_eq_true rfl)) dL_law_598 ⟨Nat.le_of_ble_eq_true rfl, Nat.le_of_ble_eq_true rfl⟩) hS (fun q _ h => hFc q h) hFc (fun r_24 u_25 t H1 locs ht hvm hw_26 hB hz1 hk1 hS => ?_)
  try dsimp only at hw_26
  have hP1 : va_P (dC, dI) vwCl [] H1 := fun k q h => by simp at h
  have hD1 : va_D (va_A [(m0, .inr (9, [.int 0, .int 0, .int 0, .ref m_rowPerson, .ref m_rowStream, .ref m_rowMoment, .ref m_rowKnown, .ref m_rowValue, .ref m_isGone, .ref m_mergeTo, .ref m_mergeKnown, .int 0, .ref m_isErased, .ref m_tape, .int 0, .int 0, .int 0, .int 0, .int (-1), .int 0, .ref m_five, .int 0, .int 0, .int 0, .int 0, .ref m_size0, .ref m_step, .ref m_stepA, .ref m_stepB, .ref m_stepC, .ref m_values, .ref m_heap, .ref m_isOne, .ref m_lawFrom, .ref m_lawTo, .ref m_hasLaw, .ref m_limits, .ref m_held, .ref m_hasKept, .ref m_kept, .ref m_keptAt, .int 0, .ref m_placeTrait, .ref m_placePerson, .ref m_placeMoment, .ref m_placeValue, .ref m_isFilled, .int 0, .ref m_uses, .ref m_heapsOne, .ref m_heapsOther]))] H.size) [] := ⟨fun i j p q h => by simp at h, fun k q h => by simp at h⟩
  have hK1 : va_K (dC, dI) vwCl [] s := hK.sub [] rfl
  obtain ⟨hP, hD⟩ := va_join (wr := []) (w1 := []) hP hD [0] [] rfl rfl (by decide) (by decide) hk1 hFc hP1 hD1
  have hK := (hK.sub (tys' := []) [] rfl).app hK1
  generalize H1 = H at hP hS ⊢
  have hP : va_P (dC, dI) vwCl [] H := hP
  have hD : va_D (fun q : Nat => s.heap.size ≤ q) [] := hD
  have hK : va_K (dC, dI) vwCl [] s := hK
  refine lv_icmp_eq (tgt := 1234) hx hb dL_law_601 (by decide) (fun c_27 => ?_) (fun c_27 => ?_)
  · exact law_tail hL C0 hS (lv_sub hl [0, 3] rfl)
  · have dc_27 : ¬ r_11.toInt = r_24.toInt := jI_ne c_27 rfl rfl
    exfalso; omega

set_option maxHeartbeats 4000000 in
set_option maxRecDepth 100000 in
theorem law_limit {p : Program} {l : Launch} {e : Env} {s : State} {m : MethodId} {below : List Frame} {meth : Method} {c : Code} {dC : Nat → ClassId} {dI : Nat → Nat → Nat} {b L : Nat} {xs : Nat → Int32} (hL : L = 11) (C0 : lw_At p s m meth c b L xs) (hN : nw_ok s) (h0 : Nat) (hRows : Nat) (hMer : Nat) (hEra : Nat) (hTape : Nat) (hRea : Nat) (hTra : Nat) (hWor : Nat) (hPla : Nat) (hMod : Nat) (hHe1 : Nat) (hHe2 : Nat) (m0 : Nat) (m_rowPerson : Nat) (m_rowStream : Nat) (m_rowMoment : Nat) (m_rowKnown : Nat) (m_rowValue : Nat) (m_isGone : Nat) (m_mergeTo : Nat) (m_mergeKnown : Nat) (m_isErased : Nat) (m_tape : Nat) (m_five : Nat) (m_size0 : Nat) (m_step : Nat) (m_stepA : Nat) (m_stepB : Nat) (m_stepC : Nat) (m_values : Nat) (m_heap : Nat) (m_isOne : Nat) (m_lawFrom : Nat) (m_lawTo : Nat) (m_hasLaw : Nat) (m_limits : Nat) (m_held : Nat) (m_hasKept : Nat) (m_kept : Nat) (m_keptAt : Nat) (m_placeTrait : Nat) (m_placePerson : Nat) (m_placeMoment : Nat) (m_placeValue : Nat) (m_isFilled : Nat) (m_uses : Nat) (m_heapsOne : Nat) (m_heapsOther : Nat)  (H : Heap) (locs : List Loc) (hK : va_K (dC, dI) vwCl [] s) (hP : va_P (dC, dI) vwCl [(h0, .inr (8, [.ref hRows, .ref hMer, .ref hEra, .ref hTape, .ref hRea, .ref hTra, .ref hWor, .ref hPla, .ref hMod, .ref hHe1, .ref hHe2, .int 0, .int 0, .int 0, .int 0, .int (-1), .int 0])), (m0, .inr (9, [.int 0, .int 0, .int 0, .ref m_rowPerson, .ref m_rowStream, .ref m_rowMoment, .ref m_rowKnown, .ref m_rowValue, .ref m_isGone, .ref m_mergeTo, .ref m_mergeKnown, .int 0, .ref m_isErased, .ref m_tape, .int 0, .int 0, .int 0, .int 0, .int (-1), .int 0, .ref m_five, .int 0, .int 0, .int 0, .int 0, .ref m_size0, .ref m_step, .ref m_stepA, .ref m_stepB, .ref m_stepC, .ref m_values, .ref m_heap, .ref m_isOne, .ref m_lawFrom, .ref m_lawTo, .ref m_hasLaw, .ref m_limits, .ref m_held, .ref m_hasKept, .ref m_kept, .ref m_keptAt, .int 0, .ref m_placeTrait, .ref m_placePerson, .ref m_placeMoment, .ref m_placeValue, .ref m_isFilled, .int 0, .ref m_uses, .ref m_heapsOne, .ref m_heapsOther]))] H) (hD : va_D (fun q : Nat => s.heap.size ≤ q) [(h0, .inr (8, [.ref hRows, .ref hMer, .ref hEra, .ref hTape, .ref hRea, .ref hTra, .ref hWor, .ref hPla, .ref hMod, .ref hHe1, .ref hHe2, .int 0, .int 0, .int 0, .int 0, .int (-1), .int 0])), (m0, .inr (9, [.int 0, .int 0, .int 0, .ref m_rowPerson, .ref m_rowStream, .ref m_rowMoment, .ref m_rowKnown, .ref m_rowValue, .ref m_isGone, .ref m_mergeTo, .ref m_mergeKnown, .int 0, .ref m_isErased, .ref m_tape, .int 0, .int 0, .int 0, .int 0, .int (-1), .int 0, .ref m_five, .int 0, .int 0, .int 0, .int 0, .ref m_size0, .ref m_step, .ref m_stepA, .ref m_stepB, .ref m_stepC, .ref m_values, .ref m_heap, .ref m_isOne, .ref m_lawFrom, .ref m_lawTo, .ref m_hasLaw, .ref m_limits, .ref m_held, .ref m_hasKept, .ref m_kept, .ref m_keptAt, .int 0, .ref m_placeTrait, .ref m_placePerson, .ref m_placeMoment, .ref m_placeValue, .ref m_isFilled, .int 0, .ref m_uses, .ref m_heapsOne, .ref m_heapsOther]))]) (hS : va_S (fun q : Nat => s.heap.size ≤ q) s.heap H locs) (ls : Array Slot) (hl : lv_has ls 4 [(3, .int 0), (2, .ref m0), (1, .ref h0), (0, .ref b)]) : W p l e room_1 s m #[Value.ref b] below meth c H locs 600000 7302250 (lw_Z below #[Value.ref b] s) (F0 m 606 ls []) := by
  obtain ⟨hx, hb, hr, hml, hown, hts, hX, hbl, hlocks, hgv⟩ := id C0
  have hts := fun w h => hts w (wsL_law_in w h)
  have hown : s.vm.findClass RL = some m.cls := hown
  have hA : ∀ q : Nat, s.heap.size ≤ q → (fun q : Nat => s.heap.size ≤ q) q := fun _ h => h
  have hbA : ¬ (fun q : Nat => s.heap.size ≤ q) b := Nat.not_le.mpr hbl
  obtain ⟨z1, ez1⟩ : ∃ z : Int32, z = xs (1 : Int32).toNatClampNeg := ⟨_, rfl⟩
  obtain ⟨z2, ez2⟩ : ∃ z : Int32, z = xs (2 : Int32).toNatClampNeg := ⟨_, rfl⟩
  refine lv_aload_n hx hb dL_law_606 rfl (lv_at hl 2 rfl) ?_
  refine lv_aload_n hx hb dL_law_607 rfl (lv_at hl 3 rfl) ?_
  refine lv_iload_n hx hb dL_law_608 rfl (lv_at hl 0 rfl) ?_
  refine lv_iconst (v := 1) hx hb dL_law_609 (by decide) ?_
  refine lv_iadd hx hb dL_law_610 ?_
  refine lv_topi (fun x_1 ex_1 => ?_)
  obtain rfl : x_1 = 1 := ex_1.trans (by decide)
  refine va_sld hx hb hX hbl hbA hS (vp_in_iff.mpr ⟨by decide, by rw [hL]; decide⟩) dL_law_611 ?_
  refine lv_topi (fun x_2 ex_2 => ?_)
  obtain rfl : z1 = x_2 := ez1.trans ex_2.symm
  refine lv_aload_n hx hb dL_law_612 rfl (lv_at hl 3 rfl) ?_
  refine lv_iload_n hx hb dL_law_613 rfl (lv_at hl 0 rfl) ?_
  refine lv_iconst (v := 2) hx hb dL_law_614 (by decide) ?_
  refine lv_iadd hx hb dL_law_615 ?_
  refine lv_topi (fun x_3 ex_3 => ?_)
  obtain rfl : x_3 = 2 := ex_3.trans (by decide)
  refine va_sld hx hb hX hbl hbA hS (vp_in_iff.mpr ⟨by decide, by rw [hL]; decide⟩) dL_law_616 ?_
  refine lv_topi (fun x_4 ex_4 => ?_)
  obtain rfl : z2 = x_4 := ez2.trans ex_4.symm
  have hPc := hP.sub (ws' := [(h0, .inr (8, [.ref hRows, .ref hMer, .ref hEra, .ref hTape, .ref hRea, .ref hTra, .ref hWor, .ref hPla, .ref hMod, .ref hHe1, .ref hHe2, .int 0, .int 0, .int 0, .int 0, .int (-1), .int 0]))]) [0] rfl
  have hDc := hD.sub (ws' := [(h0, .inr (8, [.ref hRows, .ref hMer, .ref hEra, .ref hTape, .ref hRea, .ref hTra, .ref hWor, .ref hPla, .ref hMod, .ref hHe1, .ref hHe2, .int 0, .int 0, .int 0, .int 0, .int (-1), .int 0]))]) [0] (by decide) rfl
  have hKc := hK.sub (tys' := []) [] rfl
  have hFc := va_free (wc := [(h0, .inr (8, [.ref hRows, .ref hMer, .ref hEra, .ref hTape, .ref hRea, .ref hTra, .ref hWor, .ref hPla, .ref hMod, .ref hHe1, .ref hHe2, .int 0, .int 0, .int 0, .int 0, .int (-1), .int 0]))]) hD hS hA [0] rfl
  refine va_calli (va_runV (As := [.int z1, .int z2]) (rest := []) ⟨hx, hb, hml, hown, hts⟩ (c_X8_limit l dC dI H.size h0 hRows hMer hEra hTape hRea hTra hWor hPla hMod hHe1 hHe2 z1 z2 ) (cwV 2 hts gL_law_X8_limit rfl rfl rfl (by decide +kernel) ⟨Nat.le_of_ble_eq_true rfl, Nat.le_of_ble_eq_true rfl⟩) ⟨fun a U g mk q => by obtain ⟨q0, q1, qP, qK, qD, qN⟩ := q; exact ⟨q0, q1, qP, va_K.moved (u := U) (U := U.calling g mk a) (Vm.Alike.refl U.vm) qK, qD, qN.same rfl⟩, va_recv hKc hPc (ci := 8) (q0 := 0) rfl rfl, fun U hU hW => ⟨rfl, by rw [hU], by rw [hU]; exact hPc, va_K.moved hW.alike hKc, hDc.weaken (fun _ _ _ _ => trivial), hN.warm hW⟩⟩ rfl rfl hl.1 rfl (lv_room (Nat.le_of_ble_eq_true rfl)) dL_law_617 ⟨Nat.le_of_ble_eq_true rfl, Nat.le_of_ble_eq_true rfl⟩) hS (fun q _ h => hFc q h) hFc (fun r_5 u_6 t H1 locs ht hvm hw_7 hB hz1 hk1 hS => ?_)
  try dsimp only at hw_7
  have hP1 : va_P (dC, dI) vwCl [] H1 := fun k q h => by simp at h
  have hD1 : va_D (va_A [(h0, .inr (8, [.ref hRows, .ref hMer, .ref hEra, .ref hTape, .ref hRea, .ref hTra, .ref hWor, .ref hPla, .ref hMod, .ref hHe1, .ref hHe2, .int 0, .int 0, .int 0, .int 0, .int (-1), .int 0]))] H.size) [] := ⟨fun i j p q h => by simp at h, fun k q h => by simp at h⟩
  have hK1 : va_K (dC, dI) vwCl [] s := hK.sub [] rfl
  obtain ⟨hP, hD⟩ := va_join (wr := [(m0, .inr (9, [.int 0, .int 0, .int 0, .ref m_rowPerson, .ref m_rowStream, .ref m_rowMoment, .ref m_rowKnown, .ref m_rowValue, .ref m_isGone, .ref m_mergeTo, .ref m_mergeKnown, .int 0, .ref m_isErased, .ref m_tape, .int 0, .int 0, .int 0, .int 0, .int (-1), .int 0, .ref m_five, .int 0, .int 0, .int 0, .int 0, .ref m_size0, .ref m_step, .ref m_stepA, .ref m_stepB, .ref m_stepC, .ref m_values, .ref m_heap, .ref m_isOne, .ref m_lawFrom, .ref m_lawTo, .ref m_hasLaw, .ref m_limits, .ref m_held, .ref m_hasKept, .ref m_kept, .ref m_keptAt, .int 0, .ref m_placeTrait, .ref m_placePerson, .ref m_placeMoment, .ref m_placeValue, .ref m_isFilled, .int 0, .ref m_uses, .ref m_heapsOne, .ref m_heapsOther]))]) (w1 := []) hP hD [0] [1] rfl rfl (by decide) (by decide) hk1 hFc hP1 hD1
  have hK := (hK.sub (tys' := []) [] rfl).app hK1
  generalize H1 = H at hP hS ⊢
  have hP : va_P (dC, dI) vwCl [(m0, .inr (9, [.int 0, .int 0, .int 0, .ref m_rowPerson, .ref m_rowStream, .ref m_rowMoment, .ref m_rowKnown, .ref m_rowValue, .ref m_isGone, .ref m_mergeTo, .ref m_mergeKnown, .int 0, .ref m_isErased, .ref m_tape, .int 0, .int 0, .int 0, .int 0, .int (-1), .int 0, .ref m_five, .int 0, .int 0, .int 0, .int 0, .ref m_size0, .ref m_step, .ref m_stepA, .ref m_stepB, .ref m_stepC, .ref m_values, .ref m_heap, .ref m_isOne, .ref m_lawFrom, .ref m_lawTo, .ref m_hasLaw, .ref m_limits, .ref m_held, .ref m_hasKept, .ref m_kept, .ref m_keptAt, .int 0, .ref m_placeTrait, .ref m_placePerson, .ref m_placeMoment, .ref m_placeValue, .ref m_isFilled, .int 0, .ref m_uses, .ref m_heapsOne, .ref m_heapsOther]))] H := hP
  have hD : va_D (fun q : Nat => s.heap.size ≤ q) [(m0, .inr (9, [.int 0, .int 0, .int 0, .ref m_rowPerson, .ref m_rowStream, .ref m_rowMoment, .ref m_rowKnown, .ref m_rowValue, .ref m_isGone, .ref m_mergeTo, .ref m_mergeKnown, .int 0, .ref m_isErased, .ref m_tape, .int 0, .int 0, .int 0, .int 0, .int (-1), .int 0, .ref m_five, .int 0, .int 0, .int 0, .int 0, .ref m_size0, .ref m_step, .ref m_stepA, .ref m_stepB, .ref m_stepC, .ref m_values, .ref m_heap, .ref m_isOne, .ref m_lawFrom, .ref m_lawTo, .ref m_hasLaw, .ref m_limits, .ref m_held, .ref m_hasKept, .ref m_kept, .ref m_keptAt, .int 0, .ref m_placeTrait, .ref m_placePerson, .ref m_placeMoment, .ref m_placeValue, .ref m_isFilled, .int 0, .ref m_uses, .ref m_heapsOne, .ref m_heapsOther]))] := hD
  have hK : va_K (dC, dI) vwCl [] s := hK
  refine lv_aload_n hx hb dL_law_620 rfl (lv_at hl 1 rfl) ?_
  refine lv_aload_n hx hb dL_law_621 rfl (lv_at hl 3 rfl) ?_
  refine lv_iload_n hx hb dL_law_622 rfl (lv_at hl 0 rfl) ?_
  refine lv_iconst (v := 1) hx hb dL_law_623 (by decide) ?_
  refine lv_iadd hx hb dL_law_624 ?_
  refine lv_topi (fun x_8 ex_8 => ?_)
  obtain rfl : x_8 = 1 := ex_8.trans (by decide)
  refine va_sld hx hb hX hbl hbA hS (vp_in_iff.mpr ⟨by decide, by rw [hL]; decide⟩) dL_law_625 ?_
  refine lv_topi (fun x_9 ex_9 => ?_)
  obtain rfl : z1 = x_9 := ez1.trans ex_9.symm
  refine lv_aload_n hx hb dL_law_626 rfl (lv_at hl 3 rfl) ?_
  refine lv_iload_n hx hb dL_law_627 rfl (lv_at hl 0 rfl) ?_
  refine lv_iconst (v := 2) hx hb dL_law_628 (by decide) ?_
  refine lv_iadd hx hb dL_law_629 ?_
  refine lv_topi (fun x_10 ex_10 => ?_)
  obtain rfl : x_10 = 2 := ex_10.trans (by decide)
  refine va_sld hx hb hX hbl hbA hS (vp_in_iff.mpr ⟨by decide, by rw [hL]; decide⟩) dL_law_630 ?_
  refine lv_topi (fun x_11 ex_11 => ?_)
  obtain rfl : z2 = x_11 := ez2.trans ex_11.symm
  have hPc := hP.sub (ws' := [(m0, .inr (9, [.int 0, .int 0, .int 0, .ref m_rowPerson, .ref m_rowStream, .ref m_rowMoment, .ref m_rowKnown, .ref m_rowValue, .ref m_isGone, .ref m_mergeTo, .ref m_mergeKnown, .int 0, .ref m_isErased, .ref m_tape, .int 0, .int 0, .int 0, .int 0, .int (-1), .int 0, .ref m_five, .int 0, .int 0, .int 0, .int 0, .ref m_size0, .ref m_step, .ref m_stepA, .ref m_stepB, .ref m_stepC, .ref m_values, .ref m_heap, .ref m_isOne, .ref m_lawFrom, .ref m_lawTo, .ref m_hasLaw, .ref m_limits, .ref m_held, .ref m_hasKept, .ref m_kept, .ref m_keptAt, .int 0, .ref m_placeTrait, .ref m_placePerson, .ref m_placeMoment, .ref m_placeValue, .ref m_isFilled, .int 0, .ref m_uses, .ref m_heapsOne, .ref m_heapsOther]))]) [0] rfl
  have hDc := hD.sub (ws' := [(m0, .inr (9, [.int 0, .int 0, .int 0, .ref m_rowPerson, .ref m_rowStream, .ref m_rowMoment, .ref m_rowKnown, .ref m_rowValue, .ref m_isGone, .ref m_mergeTo, .ref m_mergeKnown, .int 0, .ref m_isErased, .ref m_tape, .int 0, .int 0, .int 0, .int 0, .int (-1), .int 0, .ref m_five, .int 0, .int 0, .int 0, .int 0, .ref m_size0, .ref m_step, .ref m_stepA, .ref m_stepB, .ref m_stepC, .ref m_values, .ref m_heap, .ref m_isOne, .ref m_lawFrom, .ref m_lawTo, .ref m_hasLaw, .ref m_limits, .ref m_held, .ref m_hasKept, .ref m_kept, .ref m_keptAt, .int 0, .ref m_placeTrait, .ref m_placePerson, .ref m_placeMoment, .ref m_placeValue, .ref m_isFilled, .int 0, .ref m_uses, .ref m_heapsOne, .ref m_heapsOther]))]) [0] (by decide) rfl
  have hKc := hK.sub (tys' := []) [] rfl
  have hFc := va_free (wc := [(m0, .inr (9, [.int 0, .int 0, .int 0, .ref m_rowPerson, .ref m_rowStream, .ref m_rowMoment, .ref m_rowKnown, .ref m_rowValue, .ref m_isGone, .ref m_mergeTo, .ref m_mergeKnown, .int 0, .ref m_isErased, .ref m_tape, .int 0, .int 0, .int 0, .int 0, .int (-1), .int 0, .ref m_five, .int 0, .int 0, .int 0, .int 0, .ref m_size0, .ref m_step, .ref m_stepA, .ref m_stepB, .ref m_stepC, .ref m_values, .ref m_heap, .ref m_isOne, .ref m_lawFrom, .ref m_lawTo, .ref m_hasLaw, .ref m_limits, .ref m_held, .ref m_hasKept, .ref m_kept, .ref m_keptAt, .int 0, .ref m_placeTrait, .ref m_placePerson, .ref m_placeMoment, .ref m_placeValue, .ref m_isFilled, .int 0, .ref m_uses, .ref m_heapsOne, .ref m_heapsOther]))]) hD hS hA [0] rfl
  refine va_calli (va_runV (As := [.int z1, .int z2]) (rest := [.int r_5]) ⟨hx, hb, hml, hown, hts⟩ (c_X9_limit l dC dI H.size m0 m_rowPerson m_rowStream m_rowMoment m_rowKnown m_rowValue m_isGone m_mergeTo m_mergeKnown m_isErased m_tape m_five m_size0 m_step m_stepA m_stepB m_stepC m_values m_heap m_isOne m_lawFrom m_lawTo m_hasLaw m_limits m_held m_hasKept m_kept m_keptAt m_placeTrait m_placePerson m_placeMoment m_placeValue m_isFilled m_uses m_heapsOne m_heapsOther z1 z2 ) (cwV 2 hts gL_law_X9_limit rfl rfl rfl (by decide +kernel) ⟨Nat.le_of_ble_eq_true rfl, Nat.le_of_ble_eq_true rfl⟩) ⟨fun a U g mk q => by obtain ⟨q0, q1, qP, qK, qD, qN⟩ := q; exact ⟨q0, q1, qP, va_K.moved (u := U) (U := U.calling g mk a) (Vm.Alike.refl U.vm) qK, qD, qN.same rfl⟩, va_recv hKc hPc (ci := 9) (q0 := 0) rfl rfl, fun U hU hW => ⟨rfl, by rw [hU], by rw [hU]; exact hPc, va_K.moved hW.alike hKc, hDc.weaken (fun _ _ _ _ => trivial), hN.warm hW⟩⟩ rfl rfl hl.1 rfl (lv_room (Nat.le_of_ble_eq_true rfl)) dL_law_631 ⟨Nat.le_of_ble_eq_true rfl, Nat.le_of_ble_eq_true rfl⟩) hS (fun q _ h => hFc q h) hFc (fun r_12 u_13 t H1 locs ht hvm hw_14 hB hz1 hk1 hS => ?_)
  try dsimp only at hw_14
  have hP1 : va_P (dC, dI) vwCl [] H1 := fun k q h => by simp at h
  have hD1 : va_D (va_A [(m0, .inr (9, [.int 0, .int 0, .int 0, .ref m_rowPerson, .ref m_rowStream, .ref m_rowMoment, .ref m_rowKnown, .ref m_rowValue, .ref m_isGone, .ref m_mergeTo, .ref m_mergeKnown, .int 0, .ref m_isErased, .ref m_tape, .int 0, .int 0, .int 0, .int 0, .int (-1), .int 0, .ref m_five, .int 0, .int 0, .int 0, .int 0, .ref m_size0, .ref m_step, .ref m_stepA, .ref m_stepB, .ref m_stepC, .ref m_values, .ref m_heap, .ref m_isOne, .ref m_lawFrom, .ref m_lawTo, .ref m_hasLaw, .ref m_limits, .ref m_held, .ref m_hasKept, .ref m_kept, .ref m_keptAt, .int 0, .ref m_placeTrait, .ref m_placePerson, .ref m_placeMoment, .ref m_placeValue, .ref m_isFilled, .int 0, .ref m_uses, .ref m_heapsOne, .ref m_heapsOther]))] H.size) [] := ⟨fun i j p q h => by simp at h, fun k q h => by simp at h⟩
  have hK1 : va_K (dC, dI) vwCl [] s := hK.sub [] rfl
  obtain ⟨hP, hD⟩ := va_join (wr := []) (w1 := []) hP hD [0] [] rfl rfl (by decide) (by decide) hk1 hFc hP1 hD1
  have hK := (hK.sub (tys' := []) [] rfl).app hK1
  generalize H1 = H at hP hS ⊢
  have hP : va_P (dC, dI) vwCl [] H := hP
  have hD : va_D (fun q : Nat => s.heap.size ≤ q) [] := hD
  have hK : va_K (dC, dI) vwCl [] s := hK
  refine lv_icmp_eq (tgt := 1234) hx hb dL_law_634 (by decide) (fun c_15 => ?_) (fun c_15 => ?_)
  · exact law_tail hL C0 hS (lv_sub hl [0, 3] rfl)
  · have dc_15 : ¬ r_5.toInt = r_12.toInt := jI_ne c_15 rfl rfl
    exfalso; omega

set_option maxHeartbeats 4000000 in
set_option maxRecDepth 100000 in
theorem law_freshen {p : Program} {l : Launch} {e : Env} {s : State} {m : MethodId} {below : List Frame} {meth : Method} {c : Code} {dC : Nat → ClassId} {dI : Nat → Nat → Nat} {b L : Nat} {xs : Nat → Int32} (hL : L = 11) (C0 : lw_At p s m meth c b L xs) (hN : nw_ok s) (h0 : Nat) (hRows : Nat) (hMer : Nat) (hEra : Nat) (hTape : Nat) (hRea : Nat) (hTra : Nat) (hWor : Nat) (hPla : Nat) (hMod : Nat) (hHe1 : Nat) (hHe2 : Nat) (m0 : Nat) (m_rowPerson : Nat) (m_rowStream : Nat) (m_rowMoment : Nat) (m_rowKnown : Nat) (m_rowValue : Nat) (m_isGone : Nat) (m_mergeTo : Nat) (m_mergeKnown : Nat) (m_isErased : Nat) (m_tape : Nat) (m_five : Nat) (m_size0 : Nat) (m_step : Nat) (m_stepA : Nat) (m_stepB : Nat) (m_stepC : Nat) (m_values : Nat) (m_heap : Nat) (m_isOne : Nat) (m_lawFrom : Nat) (m_lawTo : Nat) (m_hasLaw : Nat) (m_limits : Nat) (m_held : Nat) (m_hasKept : Nat) (m_kept : Nat) (m_keptAt : Nat) (m_placeTrait : Nat) (m_placePerson : Nat) (m_placeMoment : Nat) (m_placeValue : Nat) (m_isFilled : Nat) (m_uses : Nat) (m_heapsOne : Nat) (m_heapsOther : Nat)  (H : Heap) (locs : List Loc) (hK : va_K (dC, dI) vwCl [] s) (hP : va_P (dC, dI) vwCl [(h0, .inr (8, [.ref hRows, .ref hMer, .ref hEra, .ref hTape, .ref hRea, .ref hTra, .ref hWor, .ref hPla, .ref hMod, .ref hHe1, .ref hHe2, .int 0, .int 0, .int 0, .int 0, .int (-1), .int 0])), (m0, .inr (9, [.int 0, .int 0, .int 0, .ref m_rowPerson, .ref m_rowStream, .ref m_rowMoment, .ref m_rowKnown, .ref m_rowValue, .ref m_isGone, .ref m_mergeTo, .ref m_mergeKnown, .int 0, .ref m_isErased, .ref m_tape, .int 0, .int 0, .int 0, .int 0, .int (-1), .int 0, .ref m_five, .int 0, .int 0, .int 0, .int 0, .ref m_size0, .ref m_step, .ref m_stepA, .ref m_stepB, .ref m_stepC, .ref m_values, .ref m_heap, .ref m_isOne, .ref m_lawFrom, .ref m_lawTo, .ref m_hasLaw, .ref m_limits, .ref m_held, .ref m_hasKept, .ref m_kept, .ref m_keptAt, .int 0, .ref m_placeTrait, .ref m_placePerson, .ref m_placeMoment, .ref m_placeValue, .ref m_isFilled, .int 0, .ref m_uses, .ref m_heapsOne, .ref m_heapsOther]))] H) (hD : va_D (fun q : Nat => s.heap.size ≤ q) [(h0, .inr (8, [.ref hRows, .ref hMer, .ref hEra, .ref hTape, .ref hRea, .ref hTra, .ref hWor, .ref hPla, .ref hMod, .ref hHe1, .ref hHe2, .int 0, .int 0, .int 0, .int 0, .int (-1), .int 0])), (m0, .inr (9, [.int 0, .int 0, .int 0, .ref m_rowPerson, .ref m_rowStream, .ref m_rowMoment, .ref m_rowKnown, .ref m_rowValue, .ref m_isGone, .ref m_mergeTo, .ref m_mergeKnown, .int 0, .ref m_isErased, .ref m_tape, .int 0, .int 0, .int 0, .int 0, .int (-1), .int 0, .ref m_five, .int 0, .int 0, .int 0, .int 0, .ref m_size0, .ref m_step, .ref m_stepA, .ref m_stepB, .ref m_stepC, .ref m_values, .ref m_heap, .ref m_isOne, .ref m_lawFrom, .ref m_lawTo, .ref m_hasLaw, .ref m_limits, .ref m_held, .ref m_hasKept, .ref m_kept, .ref m_keptAt, .int 0, .ref m_placeTrait, .ref m_placePerson, .ref m_placeMoment, .ref m_placeValue, .ref m_isFilled, .int 0, .ref m_uses, .ref m_heapsOne, .ref m_heapsOther]))]) (hS : va_S (fun q : Nat => s.heap.size ≤ q) s.heap H locs) (ls : Array Slot) (hl : lv_has ls 4 [(3, .int 0), (2, .ref m0), (1, .ref h0), (0, .ref b)]) : W p l e room_1 s m #[Value.ref b] below meth c H locs 600000 7302250 (lw_Z below #[Value.ref b] s) (F0 m 639 ls []) := by
  obtain ⟨hx, hb, hr, hml, hown, hts, hX, hbl, hlocks, hgv⟩ := id C0
  have hts := fun w h => hts w (wsL_law_in w h)
  have hown : s.vm.findClass RL = some m.cls := hown
  have hA : ∀ q : Nat, s.heap.size ≤ q → (fun q : Nat => s.heap.size ≤ q) q := fun _ h => h
  have hbA : ¬ (fun q : Nat => s.heap.size ≤ q) b := Nat.not_le.mpr hbl
  obtain ⟨z1, ez1⟩ : ∃ z : Int32, z = xs (1 : Int32).toNatClampNeg := ⟨_, rfl⟩
  refine lv_aload_n hx hb dL_law_639 rfl (lv_at hl 2 rfl) ?_
  refine lv_aload_n hx hb dL_law_640 rfl (lv_at hl 3 rfl) ?_
  refine lv_iload_n hx hb dL_law_641 rfl (lv_at hl 0 rfl) ?_
  refine lv_iconst (v := 1) hx hb dL_law_642 (by decide) ?_
  refine lv_iadd hx hb dL_law_643 ?_
  refine lv_topi (fun x_1 ex_1 => ?_)
  obtain rfl : x_1 = 1 := ex_1.trans (by decide)
  refine va_sld hx hb hX hbl hbA hS (vp_in_iff.mpr ⟨by decide, by rw [hL]; decide⟩) dL_law_644 ?_
  refine lv_topi (fun x_2 ex_2 => ?_)
  obtain rfl : z1 = x_2 := ez1.trans ex_2.symm
  have hPc := hP.sub (ws' := [(h0, .inr (8, [.ref hRows, .ref hMer, .ref hEra, .ref hTape, .ref hRea, .ref hTra, .ref hWor, .ref hPla, .ref hMod, .ref hHe1, .ref hHe2, .int 0, .int 0, .int 0, .int 0, .int (-1), .int 0]))]) [0] rfl
  have hDc := hD.sub (ws' := [(h0, .inr (8, [.ref hRows, .ref hMer, .ref hEra, .ref hTape, .ref hRea, .ref hTra, .ref hWor, .ref hPla, .ref hMod, .ref hHe1, .ref hHe2, .int 0, .int 0, .int 0, .int 0, .int (-1), .int 0]))]) [0] (by decide) rfl
  have hKc := hK.sub (tys' := []) [] rfl
  have hFc := va_free (wc := [(h0, .inr (8, [.ref hRows, .ref hMer, .ref hEra, .ref hTape, .ref hRea, .ref hTra, .ref hWor, .ref hPla, .ref hMod, .ref hHe1, .ref hHe2, .int 0, .int 0, .int 0, .int 0, .int (-1), .int 0]))]) hD hS hA [0] rfl
  refine va_calli (va_runV (As := [.int z1]) (rest := []) ⟨hx, hb, hml, hown, hts⟩ (c_X8_freshen l dC dI H.size h0 hRows hMer hEra hTape hRea hTra hWor hPla hMod hHe1 hHe2 z1 ) (cwV 1 hts gL_law_X8_freshen rfl rfl rfl (by decide +kernel) ⟨Nat.le_of_ble_eq_true rfl, Nat.le_of_ble_eq_true rfl⟩) ⟨fun a U g mk q => by obtain ⟨q0, q1, qP, qK, qD, qN⟩ := q; exact ⟨q0, q1, qP, va_K.moved (u := U) (U := U.calling g mk a) (Vm.Alike.refl U.vm) qK, qD, qN.same rfl⟩, va_recv hKc hPc (ci := 8) (q0 := 0) rfl rfl, fun U hU hW => ⟨rfl, by rw [hU], by rw [hU]; exact hPc, va_K.moved hW.alike hKc, hDc.weaken (fun _ _ _ _ => trivial), hN.warm hW⟩⟩ rfl rfl hl.1 rfl (lv_room (Nat.le_of_ble_eq_true rfl)) dL_law_645 ⟨Nat.le_of_ble_eq_true rfl, Nat.le_of_ble_eq_true rfl⟩) hS (fun q _ h => hFc q h) hFc (fun r_3 u_4 t H1 locs ht hvm hw_5 hB hz1 hk1 hS => ?_)
  try dsimp only at hw_5
  have hP1 : va_P (dC, dI) vwCl [] H1 := fun k q h => by simp at h
  have hD1 : va_D (va_A [(h0, .inr (8, [.ref hRows, .ref hMer, .ref hEra, .ref hTape, .ref hRea, .ref hTra, .ref hWor, .ref hPla, .ref hMod, .ref hHe1, .ref hHe2, .int 0, .int 0, .int 0, .int 0, .int (-1), .int 0]))] H.size) [] := ⟨fun i j p q h => by simp at h, fun k q h => by simp at h⟩
  have hK1 : va_K (dC, dI) vwCl [] s := hK.sub [] rfl
  obtain ⟨hP, hD⟩ := va_join (wr := [(m0, .inr (9, [.int 0, .int 0, .int 0, .ref m_rowPerson, .ref m_rowStream, .ref m_rowMoment, .ref m_rowKnown, .ref m_rowValue, .ref m_isGone, .ref m_mergeTo, .ref m_mergeKnown, .int 0, .ref m_isErased, .ref m_tape, .int 0, .int 0, .int 0, .int 0, .int (-1), .int 0, .ref m_five, .int 0, .int 0, .int 0, .int 0, .ref m_size0, .ref m_step, .ref m_stepA, .ref m_stepB, .ref m_stepC, .ref m_values, .ref m_heap, .ref m_isOne, .ref m_lawFrom, .ref m_lawTo, .ref m_hasLaw, .ref m_limits, .ref m_held, .ref m_hasKept, .ref m_kept, .ref m_keptAt, .int 0, .ref m_placeTrait, .ref m_placePerson, .ref m_placeMoment, .ref m_placeValue, .ref m_isFilled, .int 0, .ref m_uses, .ref m_heapsOne, .ref m_heapsOther]))]) (w1 := []) hP hD [0] [1] rfl rfl (by decide) (by decide) hk1 hFc hP1 hD1
  have hK := (hK.sub (tys' := []) [] rfl).app hK1
  generalize H1 = H at hP hS ⊢
  have hP : va_P (dC, dI) vwCl [(m0, .inr (9, [.int 0, .int 0, .int 0, .ref m_rowPerson, .ref m_rowStream, .ref m_rowMoment, .ref m_rowKnown, .ref m_rowValue, .ref m_isGone, .ref m_mergeTo, .ref m_mergeKnown, .int 0, .ref m_isErased, .ref m_tape, .int 0, .int 0, .int 0, .int 0, .int (-1), .int 0, .ref m_five, .int 0, .int 0, .int 0, .int 0, .ref m_size0, .ref m_step, .ref m_stepA, .ref m_stepB, .ref m_stepC, .ref m_values, .ref m_heap, .ref m_isOne, .ref m_lawFrom, .ref m_lawTo, .ref m_hasLaw, .ref m_limits, .ref m_held, .ref m_hasKept, .ref m_kept, .ref m_keptAt, .int 0, .ref m_placeTrait, .ref m_placePerson, .ref m_placeMoment, .ref m_placeValue, .ref m_isFilled, .int 0, .ref m_uses, .ref m_heapsOne, .ref m_heapsOther]))] H := hP
  have hD : va_D (fun q : Nat => s.heap.size ≤ q) [(m0, .inr (9, [.int 0, .int 0, .int 0, .ref m_rowPerson, .ref m_rowStream, .ref m_rowMoment, .ref m_rowKnown, .ref m_rowValue, .ref m_isGone, .ref m_mergeTo, .ref m_mergeKnown, .int 0, .ref m_isErased, .ref m_tape, .int 0, .int 0, .int 0, .int 0, .int (-1), .int 0, .ref m_five, .int 0, .int 0, .int 0, .int 0, .ref m_size0, .ref m_step, .ref m_stepA, .ref m_stepB, .ref m_stepC, .ref m_values, .ref m_heap, .ref m_isOne, .ref m_lawFrom, .ref m_lawTo, .ref m_hasLaw, .ref m_limits, .ref m_held, .ref m_hasKept, .ref m_kept, .ref m_keptAt, .int 0, .ref m_placeTrait, .ref m_placePerson, .ref m_placeMoment, .ref m_placeValue, .ref m_isFilled, .int 0, .ref m_uses, .ref m_heapsOne, .ref m_heapsOther]))] := hD
  have hK : va_K (dC, dI) vwCl [] s := hK
  obtain rfl : (-2) = r_3 := hw_5.symm
  refine lv_aload_n hx hb dL_law_648 rfl (lv_at hl 1 rfl) ?_
  refine lv_aload_n hx hb dL_law_649 rfl (lv_at hl 3 rfl) ?_
  refine lv_iload_n hx hb dL_law_650 rfl (lv_at hl 0 rfl) ?_
  refine lv_iconst (v := 1) hx hb dL_law_651 (by decide) ?_
  refine lv_iadd hx hb dL_law_652 ?_
  refine lv_topi (fun x_6 ex_6 => ?_)
  obtain rfl : x_6 = 1 := ex_6.trans (by decide)
  refine va_sld hx hb hX hbl hbA hS (vp_in_iff.mpr ⟨by decide, by rw [hL]; decide⟩) dL_law_653 ?_
  refine lv_topi (fun x_7 ex_7 => ?_)
  obtain rfl : z1 = x_7 := ez1.trans ex_7.symm
  have hPc := hP.sub (ws' := [(m0, .inr (9, [.int 0, .int 0, .int 0, .ref m_rowPerson, .ref m_rowStream, .ref m_rowMoment, .ref m_rowKnown, .ref m_rowValue, .ref m_isGone, .ref m_mergeTo, .ref m_mergeKnown, .int 0, .ref m_isErased, .ref m_tape, .int 0, .int 0, .int 0, .int 0, .int (-1), .int 0, .ref m_five, .int 0, .int 0, .int 0, .int 0, .ref m_size0, .ref m_step, .ref m_stepA, .ref m_stepB, .ref m_stepC, .ref m_values, .ref m_heap, .ref m_isOne, .ref m_lawFrom, .ref m_lawTo, .ref m_hasLaw, .ref m_limits, .ref m_held, .ref m_hasKept, .ref m_kept, .ref m_keptAt, .int 0, .ref m_placeTrait, .ref m_placePerson, .ref m_placeMoment, .ref m_placeValue, .ref m_isFilled, .int 0, .ref m_uses, .ref m_heapsOne, .ref m_heapsOther]))]) [0] rfl
  have hDc := hD.sub (ws' := [(m0, .inr (9, [.int 0, .int 0, .int 0, .ref m_rowPerson, .ref m_rowStream, .ref m_rowMoment, .ref m_rowKnown, .ref m_rowValue, .ref m_isGone, .ref m_mergeTo, .ref m_mergeKnown, .int 0, .ref m_isErased, .ref m_tape, .int 0, .int 0, .int 0, .int 0, .int (-1), .int 0, .ref m_five, .int 0, .int 0, .int 0, .int 0, .ref m_size0, .ref m_step, .ref m_stepA, .ref m_stepB, .ref m_stepC, .ref m_values, .ref m_heap, .ref m_isOne, .ref m_lawFrom, .ref m_lawTo, .ref m_hasLaw, .ref m_limits, .ref m_held, .ref m_hasKept, .ref m_kept, .ref m_keptAt, .int 0, .ref m_placeTrait, .ref m_placePerson, .ref m_placeMoment, .ref m_placeValue, .ref m_isFilled, .int 0, .ref m_uses, .ref m_heapsOne, .ref m_heapsOther]))]) [0] (by decide) rfl
  have hKc := hK.sub (tys' := []) [] rfl
  have hFc := va_free (wc := [(m0, .inr (9, [.int 0, .int 0, .int 0, .ref m_rowPerson, .ref m_rowStream, .ref m_rowMoment, .ref m_rowKnown, .ref m_rowValue, .ref m_isGone, .ref m_mergeTo, .ref m_mergeKnown, .int 0, .ref m_isErased, .ref m_tape, .int 0, .int 0, .int 0, .int 0, .int (-1), .int 0, .ref m_five, .int 0, .int 0, .int 0, .int 0, .ref m_size0, .ref m_step, .ref m_stepA, .ref m_stepB, .ref m_stepC, .ref m_values, .ref m_heap, .ref m_isOne, .ref m_lawFrom, .ref m_lawTo, .ref m_hasLaw, .ref m_limits, .ref m_held, .ref m_hasKept, .ref m_kept, .ref m_keptAt, .int 0, .ref m_placeTrait, .ref m_placePerson, .ref m_placeMoment, .ref m_placeValue, .ref m_isFilled, .int 0, .ref m_uses, .ref m_heapsOne, .ref m_heapsOther]))]) hD hS hA [0] rfl
  refine va_calli (va_runV (As := [.int z1]) (rest := [.int (-2)]) ⟨hx, hb, hml, hown, hts⟩ (c_X9_freshen l dC dI H.size m0 m_rowPerson m_rowStream m_rowMoment m_rowKnown m_rowValue m_isGone m_mergeTo m_mergeKnown m_isErased m_tape m_five m_size0 m_step m_stepA m_stepB m_stepC m_values m_heap m_isOne m_lawFrom m_lawTo m_hasLaw m_limits m_held m_hasKept m_kept m_keptAt m_placeTrait m_placePerson m_placeMoment m_placeValue m_isFilled m_uses m_heapsOne m_heapsOther z1 ) (cwV 1 hts gL_law_X9_freshen rfl rfl rfl (by decide +kernel) ⟨Nat.le_of_ble_eq_true rfl, Nat.le_of_ble_eq_true rfl⟩) ⟨fun a U g mk q => by obtain ⟨q0, q1, qP, qK, qD, qN⟩ := q; exact ⟨q0, q1, qP, va_K.moved (u := U) (U := U.calling g mk a) (Vm.Alike.refl U.vm) qK, qD, qN.same rfl⟩, va_recv hKc hPc (ci := 9) (q0 := 0) rfl rfl, fun U hU hW => ⟨rfl, by rw [hU], by rw [hU]; exact hPc, va_K.moved hW.alike hKc, hDc.weaken (fun _ _ _ _ => trivial), hN.warm hW⟩⟩ rfl rfl hl.1 rfl (lv_room (Nat.le_of_ble_eq_true rfl)) dL_law_654 ⟨Nat.le_of_ble_eq_true rfl, Nat.le_of_ble_eq_true rfl⟩) hS (fun q _ h => hFc q h) hFc (fun r_8 u_9 t H1 locs ht hvm hw_10 hB hz1 hk1 hS => ?_)
  try dsimp only at hw_10
  have hP1 : va_P (dC, dI) vwCl [] H1 := fun k q h => by simp at h
  have hD1 : va_D (va_A [(m0, .inr (9, [.int 0, .int 0, .int 0, .ref m_rowPerson, .ref m_rowStream, .ref m_rowMoment, .ref m_rowKnown, .ref m_rowValue, .ref m_isGone, .ref m_mergeTo, .ref m_mergeKnown, .int 0, .ref m_isErased, .ref m_tape, .int 0, .int 0, .int 0, .int 0, .int (-1), .int 0, .ref m_five, .int 0, .int 0, .int 0, .int 0, .ref m_size0, .ref m_step, .ref m_stepA, .ref m_stepB, .ref m_stepC, .ref m_values, .ref m_heap, .ref m_isOne, .ref m_lawFrom, .ref m_lawTo, .ref m_hasLaw, .ref m_limits, .ref m_held, .ref m_hasKept, .ref m_kept, .ref m_keptAt, .int 0, .ref m_placeTrait, .ref m_placePerson, .ref m_placeMoment, .ref m_placeValue, .ref m_isFilled, .int 0, .ref m_uses, .ref m_heapsOne, .ref m_heapsOther]))] H.size) [] := ⟨fun i j p q h => by simp at h, fun k q h => by simp at h⟩
  have hK1 : va_K (dC, dI) vwCl [] s := hK.sub [] rfl
  obtain ⟨hP, hD⟩ := va_join (wr := []) (w1 := []) hP hD [0] [] rfl rfl (by decide) (by decide) hk1 hFc hP1 hD1
  have hK := (hK.sub (tys' := []) [] rfl).app hK1
  generalize H1 = H at hP hS ⊢
  have hP : va_P (dC, dI) vwCl [] H := hP
  have hD : va_D (fun q : Nat => s.heap.size ≤ q) [] := hD
  have hK : va_K (dC, dI) vwCl [] s := hK
  obtain rfl : (-2) = r_8 := hw_10.symm
  refine lv_icmp_eq (tgt := 1234) hx hb dL_law_657 (by decide) (fun c_11 => ?_) (fun c_11 => ?_)
  · exact law_tail hL C0 hS (lv_sub hl [0, 3] rfl)
  · exact absurd rfl c_11

set_option maxHeartbeats 4000000 in
set_option maxRecDepth 100000 in
theorem law_kept {p : Program} {l : Launch} {e : Env} {s : State} {m : MethodId} {below : List Frame} {meth : Method} {c : Code} {dC : Nat → ClassId} {dI : Nat → Nat → Nat} {b L : Nat} {xs : Nat → Int32} (hL : L = 11) (C0 : lw_At p s m meth c b L xs) (hN : nw_ok s) (h0 : Nat) (hRows : Nat) (hMer : Nat) (hEra : Nat) (hTape : Nat) (hRea : Nat) (hTra : Nat) (hWor : Nat) (hPla : Nat) (hMod : Nat) (hHe1 : Nat) (hHe2 : Nat) (m0 : Nat) (m_rowPerson : Nat) (m_rowStream : Nat) (m_rowMoment : Nat) (m_rowKnown : Nat) (m_rowValue : Nat) (m_isGone : Nat) (m_mergeTo : Nat) (m_mergeKnown : Nat) (m_isErased : Nat) (m_tape : Nat) (m_five : Nat) (m_size0 : Nat) (m_step : Nat) (m_stepA : Nat) (m_stepB : Nat) (m_stepC : Nat) (m_values : Nat) (m_heap : Nat) (m_isOne : Nat) (m_lawFrom : Nat) (m_lawTo : Nat) (m_hasLaw : Nat) (m_limits : Nat) (m_held : Nat) (m_hasKept : Nat) (m_kept : Nat) (m_keptAt : Nat) (m_placeTrait : Nat) (m_placePerson : Nat) (m_placeMoment : Nat) (m_placeValue : Nat) (m_isFilled : Nat) (m_uses : Nat) (m_heapsOne : Nat) (m_heapsOther : Nat)  (H : Heap) (locs : List Loc) (hK : va_K (dC, dI) vwCl [] s) (hP : va_P (dC, dI) vwCl [(h0, .inr (8, [.ref hRows, .ref hMer, .ref hEra, .ref hTape, .ref hRea, .ref hTra, .ref hWor, .ref hPla, .ref hMod, .ref hHe1, .ref hHe2, .int 0, .int 0, .int 0, .int 0, .int (-1), .int 0])), (m0, .inr (9, [.int 0, .int 0, .int 0, .ref m_rowPerson, .ref m_rowStream, .ref m_rowMoment, .ref m_rowKnown, .ref m_rowValue, .ref m_isGone, .ref m_mergeTo, .ref m_mergeKnown, .int 0, .ref m_isErased, .ref m_tape, .int 0, .int 0, .int 0, .int 0, .int (-1), .int 0, .ref m_five, .int 0, .int 0, .int 0, .int 0, .ref m_size0, .ref m_step, .ref m_stepA, .ref m_stepB, .ref m_stepC, .ref m_values, .ref m_heap, .ref m_isOne, .ref m_lawFrom, .ref m_lawTo, .ref m_hasLaw, .ref m_limits, .ref m_held, .ref m_hasKept, .ref m_kept, .ref m_keptAt, .int 0, .ref m_placeTrait, .ref m_placePerson, .ref m_placeMoment, .ref m_placeValue, .ref m_isFilled, .int 0, .ref m_uses, .ref m_heapsOne, .ref m_heapsOther]))] H) (hD : va_D (fun q : Nat => s.heap.size ≤ q) [(h0, .inr (8, [.ref hRows, .ref hMer, .ref hEra, .ref hTape, .ref hRea, .ref hTra, .ref hWor, .ref hPla, .ref hMod, .ref hHe1, .ref hHe2, .int 0, .int 0, .int 0, .int 0, .int (-1), .int 0])), (m0, .inr (9, [.int 0, .int 0, .int 0, .ref m_rowPerson, .ref m_rowStream, .ref m_rowMoment, .ref m_rowKnown, .ref m_rowValue, .ref m_isGone, .ref m_mergeTo, .ref m_mergeKnown, .int 0, .ref m_isErased, .ref m_tape, .int 0, .int 0, .int 0, .int 0, .int (-1), .int 0, .ref m_five, .int 0, .int 0, .int 0, .int 0, .ref m_size0, .ref m_step, .ref m_stepA, .ref m_stepB, .ref m_stepC, .ref m_values, .ref m_heap, .ref m_isOne, .ref m_lawFrom, .ref m_lawTo, .ref m_hasLaw, .ref m_limits, .ref m_held, .ref m_hasKept, .ref m_kept, .ref m_keptAt, .int 0, .ref m_placeTrait, .ref m_placePerson, .ref m_placeMoment, .ref m_placeValue, .ref m_isFilled, .int 0, .ref m_uses, .ref m_heapsOne, .ref m_heapsOther]))]) (hS : va_S (fun q : Nat => s.heap.size ≤ q) s.heap H locs) (ls : Array Slot) (hl : lv_has ls 4 [(3, .int 0), (2, .ref m0), (1, .ref h0), (0, .ref b)]) : W p l e room_1 s m #[Value.ref b] below meth c H locs 600000 7302250 (lw_Z below #[Value.ref b] s) (F0 m 662 ls []) := by
  obtain ⟨hx, hb, hr, hml, hown, hts, hX, hbl, hlocks, hgv⟩ := id C0
  have hts := fun w h => hts w (wsL_law_in w h)
  have hown : s.vm.findClass RL = some m.cls := hown
  have hA : ∀ q : Nat, s.heap.size ≤ q → (fun q : Nat => s.heap.size ≤ q) q := fun _ h => h
  have hbA : ¬ (fun q : Nat => s.heap.size ≤ q) b := Nat.not_le.mpr hbl
  obtain ⟨z1, ez1⟩ : ∃ z : Int32, z = xs (1 : Int32).toNatClampNeg := ⟨_, rfl⟩
  obtain ⟨z2, ez2⟩ : ∃ z : Int32, z = xs (2 : Int32).toNatClampNeg := ⟨_, rfl⟩
  refine lv_aload_n hx hb dL_law_662 rfl (lv_at hl 2 rfl) ?_
  refine lv_aload_n hx hb dL_law_663 rfl (lv_at hl 3 rfl) ?_
  refine lv_iload_n hx hb dL_law_664 rfl (lv_at hl 0 rfl) ?_
  refine lv_iconst (v := 1) hx hb dL_law_665 (by decide) ?_
  refine lv_iadd hx hb dL_law_666 ?_
  refine lv_topi (fun x_1 ex_1 => ?_)
  obtain rfl : x_1 = 1 := ex_1.trans (by decide)
  refine va_sld hx hb hX hbl hbA hS (vp_in_iff.mpr ⟨by decide, by rw [hL]; decide⟩) dL_law_667 ?_
  refine lv_topi (fun x_2 ex_2 => ?_)
  obtain rfl : z1 = x_2 := ez1.trans ex_2.symm
  refine lv_aload_n hx hb dL_law_668 rfl (lv_at hl 3 rfl) ?_
  refine lv_iload_n hx hb dL_law_669 rfl (lv_at hl 0 rfl) ?_
  refine lv_iconst (v := 2) hx hb dL_law_670 (by decide) ?_
  refine lv_iadd hx hb dL_law_671 ?_
  refine lv_topi (fun x_3 ex_3 => ?_)
  obtain rfl : x_3 = 2 := ex_3.trans (by decide)
  refine va_sld hx hb hX hbl hbA hS (vp_in_iff.mpr ⟨by decide, by rw [hL]; decide⟩) dL_law_672 ?_
  refine lv_topi (fun x_4 ex_4 => ?_)
  obtain rfl : z2 = x_4 := ez2.trans ex_4.symm
  have hPc := hP.sub (ws' := [(h0, .inr (8, [.ref hRows, .ref hMer, .ref hEra, .ref hTape, .ref hRea, .ref hTra, .ref hWor, .ref hPla, .ref hMod, .ref hHe1, .ref hHe2, .int 0, .int 0, .int 0, .int 0, .int (-1), .int 0]))]) [0] rfl
  have hDc := hD.sub (ws' := [(h0, .inr (8, [.ref hRows, .ref hMer, .ref hEra, .ref hTape, .ref hRea, .ref hTra, .ref hWor, .ref hPla, .ref hMod, .ref hHe1, .ref hHe2, .int 0, .int 0, .int 0, .int 0, .int (-1), .int 0]))]) [0] (by decide) rfl
  have hKc := hK.sub (tys' := []) [] rfl
  have hFc := va_free (wc := [(h0, .inr (8, [.ref hRows, .ref hMer, .ref hEra, .ref hTape, .ref hRea, .ref hTra, .ref hWor, .ref hPla, .ref hMod, .ref hHe1, .ref hHe2, .int 0, .int 0, .int 0, .int 0, .int (-1), .int 0]))]) hD hS hA [0] rfl
  refine va_calll (va_runV (As := [.int z1, .int z2]) (rest := []) ⟨hx, hb, hml, hown, hts⟩ (c_X8_kept l dC dI H.size h0 hRows hMer hEra hTape hRea hTra hWor hPla hMod hHe1 hHe2 z1 z2 ) (cwV 2 hts gL_law_X8_kept rfl rfl rfl (by decide +kernel) ⟨Nat.le_of_ble_eq_true rfl, Nat.le_of_ble_eq_true rfl⟩) ⟨fun a U g mk q => by obtain ⟨q0, q1, qP, qK, qD, qN⟩ := q; exact ⟨q0, q1, qP, va_K.moved (u := U) (U := U.calling g mk a) (Vm.Alike.refl U.vm) qK, qD, qN.same rfl⟩, va_recv hKc hPc (ci := 8) (q0 := 0) rfl rfl, fun U hU hW => ⟨rfl, by rw [hU], by rw [hU]; exact hPc, va_K.moved hW.alike hKc, hDc.weaken (fun _ _ _ _ => trivial), hN.warm hW⟩⟩ rfl rfl hl.1 rfl (lv_room (Nat.le_of_ble_eq_true rfl)) dL_law_673 ⟨Nat.le_of_ble_eq_true rfl, Nat.le_of_ble_eq_true rfl⟩) hS (fun q _ h => hFc q h) hFc (fun r_5 u_6 t H1 locs ht hvm hw_7 hB hz1 hk1 hS => ?_)
  try dsimp only at hw_7
  have hP1 : va_P (dC, dI) vwCl [] H1 := fun k q h => by simp at h
  have hD1 : va_D (va_A [(h0, .inr (8, [.ref hRows, .ref hMer, .ref hEra, .ref hTape, .ref hRea, .ref hTra, .ref hWor, .ref hPla, .ref hMod, .ref hHe1, .ref hHe2, .int 0, .int 0, .int 0, .int 0, .int (-1), .int 0]))] H.size) [] := ⟨fun i j p q h => by simp at h, fun k q h => by simp at h⟩
  have hK1 : va_K (dC, dI) vwCl [] s := hK.sub [] rfl
  obtain ⟨hP, hD⟩ := va_join (wr := [(m0, .inr (9, [.int 0, .int 0, .int 0, .ref m_rowPerson, .ref m_rowStream, .ref m_rowMoment, .ref m_rowKnown, .ref m_rowValue, .ref m_isGone, .ref m_mergeTo, .ref m_mergeKnown, .int 0, .ref m_isErased, .ref m_tape, .int 0, .int 0, .int 0, .int 0, .int (-1), .int 0, .ref m_five, .int 0, .int 0, .int 0, .int 0, .ref m_size0, .ref m_step, .ref m_stepA, .ref m_stepB, .ref m_stepC, .ref m_values, .ref m_heap, .ref m_isOne, .ref m_lawFrom, .ref m_lawTo, .ref m_hasLaw, .ref m_limits, .ref m_held, .ref m_hasKept, .ref m_kept, .ref m_keptAt, .int 0, .ref m_placeTrait, .ref m_placePerson, .ref m_placeMoment, .ref m_placeValue, .ref m_isFilled, .int 0, .ref m_uses, .ref m_heapsOne, .ref m_heapsOther]))]) (w1 := []) hP hD [0] [1] rfl rfl (by decide) (by decide) hk1 hFc hP1 hD1
  have hK := (hK.sub (tys' := []) [] rfl).app hK1
  generalize H1 = H at hP hS ⊢
  have hP : va_P (dC, dI) vwCl [(m0, .inr (9, [.int 0, .int 0, .int 0, .ref m_rowPerson, .ref m_rowStream, .ref m_rowMoment, .ref m_rowKnown, .ref m_rowValue, .ref m_isGone, .ref m_mergeTo, .ref m_mergeKnown, .int 0, .ref m_isErased, .ref m_tape, .int 0, .int 0, .int 0, .int 0, .int (-1), .int 0, .ref m_five, .int 0, .int 0, .int 0, .int 0, .ref m_size0, .ref m_step, .ref m_stepA, .ref m_stepB, .ref m_stepC, .ref m_values, .ref m_heap, .ref m_isOne, .ref m_lawFrom, .ref m_lawTo, .ref m_hasLaw, .ref m_limits, .ref m_held, .ref m_hasKept, .ref m_kept, .ref m_keptAt, .int 0, .ref m_placeTrait, .ref m_placePerson, .ref m_placeMoment, .ref m_placeValue, .ref m_isFilled, .int 0, .ref m_uses, .ref m_heapsOne, .ref m_heapsOther]))] H := hP
  have hD : va_D (fun q : Nat => s.heap.size ≤ q) [(m0, .inr (9, [.int 0, .int 0, .int 0, .ref m_rowPerson, .ref m_rowStream, .ref m_rowMoment, .ref m_rowKnown, .ref m_rowValue, .ref m_isGone, .ref m_mergeTo, .ref m_mergeKnown, .int 0, .ref m_isErased, .ref m_tape, .int 0, .int 0, .int 0, .int 0, .int (-1), .int 0, .ref m_five, .int 0, .int 0, .int 0, .int 0, .ref m_size0, .ref m_step, .ref m_stepA, .ref m_stepB, .ref m_stepC, .ref m_values, .ref m_heap, .ref m_isOne, .ref m_lawFrom, .ref m_lawTo, .ref m_hasLaw, .ref m_limits, .ref m_held, .ref m_hasKept, .ref m_kept, .ref m_keptAt, .int 0, .ref m_placeTrait, .ref m_placePerson, .ref m_placeMoment, .ref m_placeValue, .ref m_isFilled, .int 0, .ref m_uses, .ref m_heapsOne, .ref m_heapsOther]))] := hD
  have hK : va_K (dC, dI) vwCl [] s := hK
  obtain rfl : (-9000000000000000000) = r_5 := hw_7.symm
  refine lv_aload_n hx hb dL_law_676 rfl (lv_at hl 1 rfl) ?_
  refine lv_aload_n hx hb dL_law_677 rfl (lv_at hl 3 rfl) ?_
  refine lv_iload_n hx hb dL_law_678 rfl (lv_at hl 0 rfl) ?_
  refine lv_iconst (v := 1) hx hb dL_law_679 (by decide) ?_
  refine lv_iadd hx hb dL_law_680 ?_
  refine lv_topi (fun x_8 ex_8 => ?_)
  obtain rfl : x_8 = 1 := ex_8.trans (by decide)
  refine va_sld hx hb hX hbl hbA hS (vp_in_iff.mpr ⟨by decide, by rw [hL]; decide⟩) dL_law_681 ?_
  refine lv_topi (fun x_9 ex_9 => ?_)
  obtain rfl : z1 = x_9 := ez1.trans ex_9.symm
  refine lv_aload_n hx hb dL_law_682 rfl (lv_at hl 3 rfl) ?_
  refine lv_iload_n hx hb dL_law_683 rfl (lv_at hl 0 rfl) ?_
  refine lv_iconst (v := 2) hx hb dL_law_684 (by decide) ?_
  refine lv_iadd hx hb dL_law_685 ?_
  refine lv_topi (fun x_10 ex_10 => ?_)
  obtain rfl : x_10 = 2 := ex_10.trans (by decide)
  refine va_sld hx hb hX hbl hbA hS (vp_in_iff.mpr ⟨by decide, by rw [hL]; decide⟩) dL_law_686 ?_
  refine lv_topi (fun x_11 ex_11 => ?_)
  obtain rfl : z2 = x_11 := ez2.trans ex_11.symm
  have hPc := hP.sub (ws' := [(m0, .inr (9, [.int 0, .int 0, .int 0, .ref m_rowPerson, .ref m_rowStream, .ref m_rowMoment, .ref m_rowKnown, .ref m_rowValue, .ref m_isGone, .ref m_mergeTo, .ref m_mergeKnown, .int 0, .ref m_isErased, .ref m_tape, .int 0, .int 0, .int 0, .int 0, .int (-1), .int 0, .ref m_five, .int 0, .int 0, .int 0, .int 0, .ref m_size0, .ref m_step, .ref m_stepA, .ref m_stepB, .ref m_stepC, .ref m_values, .ref m_heap, .ref m_isOne, .ref m_lawFrom, .ref m_lawTo, .ref m_hasLaw, .ref m_limits, .ref m_held, .ref m_hasKept, .ref m_kept, .ref m_keptAt, .int 0, .ref m_placeTrait, .ref m_placePerson, .ref m_placeMoment, .ref m_placeValue, .ref m_isFilled, .int 0, .ref m_uses, .ref m_heapsOne, .ref m_heapsOther]))]) [0] rfl
  have hDc := hD.sub (ws' := [(m0, .inr (9, [.int 0, .int 0, .int 0, .ref m_rowPerson, .ref m_rowStream, .ref m_rowMoment, .ref m_rowKnown, .ref m_rowValue, .ref m_isGone, .ref m_mergeTo, .ref m_mergeKnown, .int 0, .ref m_isErased, .ref m_tape, .int 0, .int 0, .int 0, .int 0, .int (-1), .int 0, .ref m_five, .int 0, .int 0, .int 0, .int 0, .ref m_size0, .ref m_step, .ref m_stepA, .ref m_stepB, .ref m_stepC, .ref m_values, .ref m_heap, .ref m_isOne, .ref m_lawFrom, .ref m_lawTo, .ref m_hasLaw, .ref m_limits, .ref m_held, .ref m_hasKept, .ref m_kept, .ref m_keptAt, .int 0, .ref m_placeTrait, .ref m_placePerson, .ref m_placeMoment, .ref m_placeValue, .ref m_isFilled, .int 0, .ref m_uses, .ref m_heapsOne, .ref m_heapsOther]))]) [0] (by decide) rfl
  have hKc := hK.sub (tys' := []) [] rfl
  have hFc := va_free (wc := [(m0, .inr (9, [.int 0, .int 0, .int 0, .ref m_rowPerson, .ref m_rowStream, .ref m_rowMoment, .ref m_rowKnown, .ref m_rowValue, .ref m_isGone, .ref m_mergeTo, .ref m_mergeKnown, .int 0, .ref m_isErased, .ref m_tape, .int 0, .int 0, .int 0, .int 0, .int (-1), .int 0, .ref m_five, .int 0, .int 0, .int 0, .int 0, .ref m_size0, .ref m_step, .ref m_stepA, .ref m_stepB, .ref m_stepC, .ref m_values, .ref m_heap, .ref m_isOne, .ref m_lawFrom, .ref m_lawTo, .ref m_hasLaw, .ref m_limits, .ref m_held, .ref m_hasKept, .ref m_kept, .ref m_keptAt, .int 0, .ref m_placeTrait, .ref m_placePerson, .ref m_placeMoment, .ref m_placeValue, .ref m_isFilled, .int 0, .ref m_uses, .ref m_heapsOne, .ref m_heapsOther]))]) hD hS hA [0] rfl
  refine va_calll (va_runV (As := [.int z1, .int z2]) (rest := [.long (-9000000000000000000)]) ⟨hx, hb, hml, hown, hts⟩ (c_X9_kept l dC dI H.size m0 m_rowPerson m_rowStream m_rowMoment m_rowKnown m_rowValue m_isGone m_mergeTo m_mergeKnown m_isErased m_tape m_five m_size0 m_step m_stepA m_stepB m_stepC m_values m_heap m_isOne m_lawFrom m_lawTo m_hasLaw m_limits m_held m_hasKept m_kept m_keptAt m_placeTrait m_placePerson m_placeMoment m_placeValue m_isFilled m_uses m_heapsOne m_heapsOther z1 z2 ) (cwV 2 hts gL_law_X9_kept rfl rfl rfl (by decide +kernel) ⟨Nat.le_of_ble_eq_true rfl, Nat.le_of_ble_eq_true rfl⟩) ⟨fun a U g mk q => by obtain ⟨q0, q1, qP, qK, qD, qN⟩ := q; exact ⟨q0, q1, qP, va_K.moved (u := U) (U := U.calling g mk a) (Vm.Alike.refl U.vm) qK, qD, qN.same rfl⟩, va_recv hKc hPc (ci := 9) (q0 := 0) rfl rfl, fun U hU hW => ⟨rfl, by rw [hU], by rw [hU]; exact hPc, va_K.moved hW.alike hKc, hDc.weaken (fun _ _ _ _ => trivial), hN.warm hW⟩⟩ rfl rfl hl.1 rfl (lv_room (Nat.le_of_ble_eq_true rfl)) dL_law_687 ⟨Nat.le_of_ble_eq_true rfl, Nat.le_of_ble_eq_true rfl⟩) hS (fun q _ h => hFc q h) hFc (fun r_12 u_13 t H1 locs ht hvm hw_14 hB hz1 hk1 hS => ?_)
  try dsimp only at hw_14
  have hP1 : va_P (dC, dI) vwCl [] H1 := fun k q h => by simp at h
  have hD1 : va_D (va_A [(m0, .inr (9, [.int 0, .int 0, .int 0, .ref m_rowPerson, .ref m_rowStream, .ref m_rowMoment, .ref m_rowKnown, .ref m_rowValue, .ref m_isGone, .ref m_mergeTo, .ref m_mergeKnown, .int 0, .ref m_isErased, .ref m_tape, .int 0, .int 0, .int 0, .int 0, .int (-1), .int 0, .ref m_five, .int 0, .int 0, .int 0, .int 0, .ref m_size0, .ref m_step, .ref m_stepA, .ref m_stepB, .ref m_stepC, .ref m_values, .ref m_heap, .ref m_isOne, .ref m_lawFrom, .ref m_lawTo, .ref m_hasLaw, .ref m_limits, .ref m_held, .ref m_hasKept, .ref m_kept, .ref m_keptAt, .int 0, .ref m_placeTrait, .ref m_placePerson, .ref m_placeMoment, .ref m_placeValue, .ref m_isFilled, .int 0, .ref m_uses, .ref m_heapsOne, .ref m_heapsOther]))] H.size) [] := ⟨fun i j p q h => by simp at h, fun k q h => by simp at h⟩
  have hK1 : va_K (dC, dI) vwCl [] s := hK.sub [] rfl
  obtain ⟨hP, hD⟩ := va_join (wr := []) (w1 := []) hP hD [0] [] rfl rfl (by decide) (by decide) hk1 hFc hP1 hD1
  have hK := (hK.sub (tys' := []) [] rfl).app hK1
  generalize H1 = H at hP hS ⊢
  have hP : va_P (dC, dI) vwCl [] H := hP
  have hD : va_D (fun q : Nat => s.heap.size ≤ q) [] := hD
  have hK : va_K (dC, dI) vwCl [] s := hK
  obtain rfl : (-9000000000000000000) = r_12 := hw_14.symm
  refine W.lcmp hx hb dL_law_690 ?_
  refine lv_topi (fun k_15 ek_15 => ?_)
  have dk_15 : (k_15.toInt < 0 ↔ (-9000000000000000000) < (-9000000000000000000)) ∧ (k_15.toInt = 0 ↔ (-9000000000000000000) = (-9000000000000000000)) ∧ (0 < k_15.toInt ↔ (-9000000000000000000) < (-9000000000000000000)) := jI_cmp ek_15 (by decide) (by decide)
  refine lv_if_eq (tgt := 1234) hx hb dL_law_691 (by decide) (fun c_16 => ?_) (fun c_16 => ?_)
  · exact law_tail hL C0 hS (lv_sub hl [0, 3] rfl)
  · have dc_16 : ¬ k_15.toInt = 0 := jI_ne c_16 rfl (by decide)
    exfalso; omega

set_option maxHeartbeats 4000000 in
set_option maxRecDepth 100000 in
theorem law_age {p : Program} {l : Launch} {e : Env} {s : State} {m : MethodId} {below : List Frame} {meth : Method} {c : Code} {dC : Nat → ClassId} {dI : Nat → Nat → Nat} {b L : Nat} {xs : Nat → Int32} (hL : L = 11) (C0 : lw_At p s m meth c b L xs) (hN : nw_ok s) (h0 : Nat) (hRows : Nat) (hMer : Nat) (hEra : Nat) (hTape : Nat) (hRea : Nat) (hTra : Nat) (hWor : Nat) (hPla : Nat) (hMod : Nat) (hHe1 : Nat) (hHe2 : Nat) (m0 : Nat) (m_rowPerson : Nat) (m_rowStream : Nat) (m_rowMoment : Nat) (m_rowKnown : Nat) (m_rowValue : Nat) (m_isGone : Nat) (m_mergeTo : Nat) (m_mergeKnown : Nat) (m_isErased : Nat) (m_tape : Nat) (m_five : Nat) (m_size0 : Nat) (m_step : Nat) (m_stepA : Nat) (m_stepB : Nat) (m_stepC : Nat) (m_values : Nat) (m_heap : Nat) (m_isOne : Nat) (m_lawFrom : Nat) (m_lawTo : Nat) (m_hasLaw : Nat) (m_limits : Nat) (m_held : Nat) (m_hasKept : Nat) (m_kept : Nat) (m_keptAt : Nat) (m_placeTrait : Nat) (m_placePerson : Nat) (m_placeMoment : Nat) (m_placeValue : Nat) (m_isFilled : Nat) (m_uses : Nat) (m_heapsOne : Nat) (m_heapsOther : Nat)  (H : Heap) (locs : List Loc) (hK : va_K (dC, dI) vwCl [] s) (hP : va_P (dC, dI) vwCl [(h0, .inr (8, [.ref hRows, .ref hMer, .ref hEra, .ref hTape, .ref hRea, .ref hTra, .ref hWor, .ref hPla, .ref hMod, .ref hHe1, .ref hHe2, .int 0, .int 0, .int 0, .int 0, .int (-1), .int 0])), (m0, .inr (9, [.int 0, .int 0, .int 0, .ref m_rowPerson, .ref m_rowStream, .ref m_rowMoment, .ref m_rowKnown, .ref m_rowValue, .ref m_isGone, .ref m_mergeTo, .ref m_mergeKnown, .int 0, .ref m_isErased, .ref m_tape, .int 0, .int 0, .int 0, .int 0, .int (-1), .int 0, .ref m_five, .int 0, .int 0, .int 0, .int 0, .ref m_size0, .ref m_step, .ref m_stepA, .ref m_stepB, .ref m_stepC, .ref m_values, .ref m_heap, .ref m_isOne, .ref m_lawFrom, .ref m_lawTo, .ref m_hasLaw, .ref m_limits, .ref m_held, .ref m_hasKept, .ref m_kept, .ref m_keptAt, .int 0, .ref m_placeTrait, .ref m_placePerson, .ref m_placeMoment, .ref m_placeValue, .ref m_isFilled, .int 0, .ref m_uses, .ref m_heapsOne, .ref m_heapsOther]))] H) (hD : va_D (fun q : Nat => s.heap.size ≤ q) [(h0, .inr (8, [.ref hRows, .ref hMer, .ref hEra, .ref hTape, .ref hRea, .ref hTra, .ref hWor, .ref hPla, .ref hMod, .ref hHe1, .ref hHe2, .int 0, .int 0, .int 0, .int 0, .int (-1), .int 0])), (m0, .inr (9, [.int 0, .int 0, .int 0, .ref m_rowPerson, .ref m_rowStream, .ref m_rowMoment, .ref m_rowKnown, .ref m_rowValue, .ref m_isGone, .ref m_mergeTo, .ref m_mergeKnown, .int 0, .ref m_isErased, .ref m_tape, .int 0, .int 0, .int 0, .int 0, .int (-1), .int 0, .ref m_five, .int 0, .int 0, .int 0, .int 0, .ref m_size0, .ref m_step, .ref m_stepA, .ref m_stepB, .ref m_stepC, .ref m_values, .ref m_heap, .ref m_isOne, .ref m_lawFrom, .ref m_lawTo, .ref m_hasLaw, .ref m_limits, .ref m_held, .ref m_hasKept, .ref m_kept, .ref m_keptAt, .int 0, .ref m_placeTrait, .ref m_placePerson, .ref m_placeMoment, .ref m_placeValue, .ref m_isFilled, .int 0, .ref m_uses, .ref m_heapsOne, .ref m_heapsOther]))]) (hS : va_S (fun q : Nat => s.heap.size ≤ q) s.heap H locs) (ls : Array Slot) (hl : lv_has ls 4 [(3, .int 0), (2, .ref m0), (1, .ref h0), (0, .ref b)]) : W p l e room_1 s m #[Value.ref b] below meth c H locs 600000 7302250 (lw_Z below #[Value.ref b] s) (F0 m 696 ls []) := by
  obtain ⟨hx, hb, hr, hml, hown, hts, hX, hbl, hlocks, hgv⟩ := id C0
  have hts := fun w h => hts w (wsL_law_in w h)
  have hown : s.vm.findClass RL = some m.cls := hown
  have hA : ∀ q : Nat, s.heap.size ≤ q → (fun q : Nat => s.heap.size ≤ q) q := fun _ h => h
  have hbA : ¬ (fun q : Nat => s.heap.size ≤ q) b := Nat.not_le.mpr hbl
  obtain ⟨z1, ez1⟩ : ∃ z : Int32, z = xs (1 : Int32).toNatClampNeg := ⟨_, rfl⟩
  obtain ⟨z2, ez2⟩ : ∃ z : Int32, z = xs (2 : Int32).toNatClampNeg := ⟨_, rfl⟩
  obtain ⟨z3, ez3⟩ : ∃ z : Int32, z = xs (3 : Int32).toNatClampNeg := ⟨_, rfl⟩
  refine lv_aload_n hx hb dL_law_696 rfl (lv_at hl 2 rfl) ?_
  refine lv_aload_n hx hb dL_law_697 rfl (lv_at hl 3 rfl) ?_
  refine lv_iload_n hx hb dL_law_698 rfl (lv_at hl 0 rfl) ?_
  refine lv_iconst (v := 1) hx hb dL_law_699 (by decide) ?_
  refine lv_iadd hx hb dL_law_700 ?_
  refine lv_topi (fun x_1 ex_1 => ?_)
  obtain rfl : x_1 = 1 := ex_1.trans (by decide)
  refine va_sld hx hb hX hbl hbA hS (vp_in_iff.mpr ⟨by decide, by rw [hL]; decide⟩) dL_law_701 ?_
  refine lv_topi (fun x_2 ex_2 => ?_)
  obtain rfl : z1 = x_2 := ez1.trans ex_2.symm
  refine lv_aload_n hx hb dL_law_702 rfl (lv_at hl 3 rfl) ?_
  refine lv_iload_n hx hb dL_law_703 rfl (lv_at hl 0 rfl) ?_
  refine lv_iconst (v := 2) hx hb dL_law_704 (by decide) ?_
  refine lv_iadd hx hb dL_law_705 ?_
  refine lv_topi (fun x_3 ex_3 => ?_)
  obtain rfl : x_3 = 2 := ex_3.trans (by decide)
  refine va_sld hx hb hX hbl hbA hS (vp_in_iff.mpr ⟨by decide, by rw [hL]; decide⟩) dL_law_706 ?_
  refine lv_topi (fun x_4 ex_4 => ?_)
  obtain rfl : z2 = x_4 := ez2.trans ex_4.symm
  refine lv_aload_n hx hb dL_law_707 rfl (lv_at hl 3 rfl) ?_
  refine lv_iload_n hx hb dL_law_708 rfl (lv_at hl 0 rfl) ?_
  refine lv_iconst (v := 3) hx hb dL_law_709 (by decide) ?_
  refine lv_iadd hx hb dL_law_710 ?_
  refine lv_topi (fun x_5 ex_5 => ?_)
  obtain rfl : x_5 = 3 := ex_5.trans (by decide)
  refine va_sld hx hb hX hbl hbA hS (vp_in_iff.mpr ⟨by decide, by rw [hL]; decide⟩) dL_law_711 ?_
  refine lv_topi (fun x_6 ex_6 => ?_)
  obtain rfl : z3 = x_6 := ez3.trans ex_6.symm
  have hPc := hP.sub (ws' := [(h0, .inr (8, [.ref hRows, .ref hMer, .ref hEra, .ref hTape, .ref hRea, .ref hTra, .ref hWor, .ref hPla, .ref hMod, .ref hHe1, .ref hHe2, .int 0, .int 0, .int 0, .int 0, .int (-1), .int 0]))]) [0] rfl
  have hDc := hD.sub (ws' := [(h0, .inr (8, [.ref hRows, .ref hMer, .ref hEra, .ref hTape, .ref hRea, .ref hTra, .ref hWor, .ref hPla, .ref hMod, .ref hHe1, .ref hHe2, .int 0, .int 0, .int 0, .int 0, .int (-1), .int 0]))]) [0] (by decide) rfl
  have hKc := hK.sub (tys' := []) [] rfl
  have hFc := va_free (wc := [(h0, .inr (8, [.ref hRows, .ref hMer, .ref hEra, .ref hTape, .ref hRea, .ref hTra, .ref hWor, .ref hPla, .ref hMod, .ref hHe1, .ref hHe2, .int 0, .int 0, .int 0, .int 0, .int (-1), .int 0]))]) hD hS hA [0] rfl
  refine va_calli (va_runV (As := [.int z1, .int z2, .int z3]) (rest := []) ⟨hx, hb, hml, hown, hts⟩ (c_X8_age l dC dI H.size h0 hRows hMer hEra hTape hRea hTra hWor hPla hMod hHe1 hHe2 z1 z2 z3 ) (cwV 3 hts gL_law_X8_age rfl rfl rfl (by decide +kernel) ⟨Nat.le_of_ble_eq_true rfl, Nat.le_of_ble_eq_true rfl⟩) ⟨fun a U g mk q => by obtain ⟨q0, q1, qP, qK, qD, qN⟩ := q; exact ⟨q0, q1, qP, va_K.moved (u := U) (U := U.calling g mk a) (Vm.Alike.refl U.vm) qK, qD, qN.same rfl⟩, va_recv hKc hPc (ci := 8) (q0 := 0) rfl rfl, fun U hU hW => ⟨rfl, by rw [hU], by rw [hU]; exact hPc, va_K.moved hW.alike hKc, hDc.weaken (fun _ _ _ _ => trivial), hN.warm hW⟩⟩ rfl rfl hl.1 rfl (lv_room (Nat.le_of_ble_eq_true rfl)) dL_law_712 ⟨Nat.le_of_ble_eq_true rfl, Nat.le_of_ble_eq_true rfl⟩) hS (fun q _ h => hFc q h) hFc (fun r_7 u_8 t H1 locs ht hvm hw_9 hB hz1 hk1 hS => ?_)
  try dsimp only at hw_9
  have hP1 : va_P (dC, dI) vwCl [] H1 := fun k q h => by simp at h
  have hD1 : va_D (va_A [(h0, .inr (8, [.ref hRows, .ref hMer, .ref hEra, .ref hTape, .ref hRea, .ref hTra, .ref hWor, .ref hPla, .ref hMod, .ref hHe1, .ref hHe2, .int 0, .int 0, .int 0, .int 0, .int (-1), .int 0]))] H.size) [] := ⟨fun i j p q h => by simp at h, fun k q h => by simp at h⟩
  have hK1 : va_K (dC, dI) vwCl [] s := hK.sub [] rfl
  obtain ⟨hP, hD⟩ := va_join (wr := [(m0, .inr (9, [.int 0, .int 0, .int 0, .ref m_rowPerson, .ref m_rowStream, .ref m_rowMoment, .ref m_rowKnown, .ref m_rowValue, .ref m_isGone, .ref m_mergeTo, .ref m_mergeKnown, .int 0, .ref m_isErased, .ref m_tape, .int 0, .int 0, .int 0, .int 0, .int (-1), .int 0, .ref m_five, .int 0, .int 0, .int 0, .int 0, .ref m_size0, .ref m_step, .ref m_stepA, .ref m_stepB, .ref m_stepC, .ref m_values, .ref m_heap, .ref m_isOne, .ref m_lawFrom, .ref m_lawTo, .ref m_hasLaw, .ref m_limits, .ref m_held, .ref m_hasKept, .ref m_kept, .ref m_keptAt, .int 0, .ref m_placeTrait, .ref m_placePerson, .ref m_placeMoment, .ref m_placeValue, .ref m_isFilled, .int 0, .ref m_uses, .ref m_heapsOne, .ref m_heapsOther]))]) (w1 := []) hP hD [0] [1] rfl rfl (by decide) (by decide) hk1 hFc hP1 hD1
  have hK := (hK.sub (tys' := []) [] rfl).app hK1
  generalize H1 = H at hP hS ⊢
  have hP : va_P (dC, dI) vwCl [(m0, .inr (9, [.int 0, .int 0, .int 0, .ref m_rowPerson, .ref m_rowStream, .ref m_rowMoment, .ref m_rowKnown, .ref m_rowValue, .ref m_isGone, .ref m_mergeTo, .ref m_mergeKnown, .int 0, .ref m_isErased, .ref m_tape, .int 0, .int 0, .int 0, .int 0, .int (-1), .int 0, .ref m_five, .int 0, .int 0, .int 0, .int 0, .ref m_size0, .ref m_step, .ref m_stepA, .ref m_stepB, .ref m_stepC, .ref m_values, .ref m_heap, .ref m_isOne, .ref m_lawFrom, .ref m_lawTo, .ref m_hasLaw, .ref m_limits, .ref m_held, .ref m_hasKept, .ref m_kept, .ref m_keptAt, .int 0, .ref m_placeTrait, .ref m_placePerson, .ref m_placeMoment, .ref m_placeValue, .ref m_isFilled, .int 0, .ref m_uses, .ref m_heapsOne, .ref m_heapsOther]))] H := hP
  have hD : va_D (fun q : Nat => s.heap.size ≤ q) [(m0, .inr (9, [.int 0, .int 0, .int 0, .ref m_rowPerson, .ref m_rowStream, .ref m_rowMoment, .ref m_rowKnown, .ref m_rowValue, .ref m_isGone, .ref m_mergeTo, .ref m_mergeKnown, .int 0, .ref m_isErased, .ref m_tape, .int 0, .int 0, .int 0, .int 0, .int (-1), .int 0, .ref m_five, .int 0, .int 0, .int 0, .int 0, .ref m_size0, .ref m_step, .ref m_stepA, .ref m_stepB, .ref m_stepC, .ref m_values, .ref m_heap, .ref m_isOne, .ref m_lawFrom, .ref m_lawTo, .ref m_hasLaw, .ref m_limits, .ref m_held, .ref m_hasKept, .ref m_kept, .ref m_keptAt, .int 0, .ref m_placeTrait, .ref m_placePerson, .ref m_placeMoment, .ref m_placeValue, .ref m_isFilled, .int 0, .ref m_uses, .ref m_heapsOne, .ref m_heapsOther]))] := hD
  have hK : va_K (dC, dI) vwCl [] s := hK
  obtain rfl : (-1) = r_7 := hw_9.symm
  refine lv_aload_n hx hb dL_law_715 rfl (lv_at hl 1 rfl) ?_
  refine lv_aload_n hx hb dL_law_716 rfl (lv_at hl 3 rfl) ?_
  refine lv_iload_n hx hb dL_law_717 rfl (lv_at hl 0 rfl) ?_
  refine lv_iconst (v := 1) hx hb dL_law_718 (by decide) ?_
  refine lv_iadd hx hb dL_law_719 ?_
  refine lv_topi (fun x_10 ex_10 => ?_)
  obtain rfl : x_10 = 1 := ex_10.trans (by decide)
  refine va_sld hx hb hX hbl hbA hS (vp_in_iff.mpr ⟨by decide, by rw [hL]; decide⟩) dL_law_720 ?_
  refine lv_topi (fun x_11 ex_11 => ?_)
  obtain rfl : z1 = x_11 := ez1.trans ex_11.symm
  refine lv_aload_n hx hb dL_law_721 rfl (lv_at hl 3 rfl) ?_
  refine lv_iload_n hx hb dL_law_722 rfl (lv_at hl 0 rfl) ?_
  refine lv_iconst (v := 2) hx hb dL_law_723 (by decide) ?_
  refine lv_iadd hx hb dL_law_724 ?_
  refine lv_topi (fun x_12 ex_12 => ?_)
  obtain rfl : x_12 = 2 := ex_12.trans (by decide)
  refine va_sld hx hb hX hbl hbA hS (vp_in_iff.mpr ⟨by decide, by rw [hL]; decide⟩) dL_law_725 ?_
  refine lv_topi (fun x_13 ex_13 => ?_)
  obtain rfl : z2 = x_13 := ez2.trans ex_13.symm
  refine lv_aload_n hx hb dL_law_726 rfl (lv_at hl 3 rfl) ?_
  refine lv_iload_n hx hb dL_law_727 rfl (lv_at hl 0 rfl) ?_
  refine lv_iconst (v := 3) hx hb dL_law_728 (by decide) ?_
  refine lv_iadd hx hb dL_law_729 ?_
  refine lv_topi (fun x_14 ex_14 => ?_)
  obtain rfl : x_14 = 3 := ex_14.trans (by decide)
  refine va_sld hx hb hX hbl hbA hS (vp_in_iff.mpr ⟨by decide, by rw [hL]; decide⟩) dL_law_730 ?_
  refine lv_topi (fun x_15 ex_15 => ?_)
  obtain rfl : z3 = x_15 := ez3.trans ex_15.symm
  have hPc := hP.sub (ws' := [(m0, .inr (9, [.int 0, .int 0, .int 0, .ref m_rowPerson, .ref m_rowStream, .ref m_rowMoment, .ref m_rowKnown, .ref m_rowValue, .ref m_isGone, .ref m_mergeTo, .ref m_mergeKnown, .int 0, .ref m_isErased, .ref m_tape, .int 0, .int 0, .int 0, .int 0, .int (-1), .int 0, .ref m_five, .int 0, .int 0, .int 0, .int 0, .ref m_size0, .ref m_step, .ref m_stepA, .ref m_stepB, .ref m_stepC, .ref m_values, .ref m_heap, .ref m_isOne, .ref m_lawFrom, .ref m_lawTo, .ref m_hasLaw, .ref m_limits, .ref m_held, .ref m_hasKept, .ref m_kept, .ref m_keptAt, .int 0, .ref m_placeTrait, .ref m_placePerson, .ref m_placeMoment, .ref m_placeValue, .ref m_isFilled, .int 0, .ref m_uses, .ref m_heapsOne, .ref m_heapsOther]))]) [0] rfl
  have hDc := hD.sub (ws' := [(m0, .inr (9, [.int 0, .int 0, .int 0, .ref m_rowPerson, .ref m_rowStream, .ref m_rowMoment, .ref m_rowKnown, .ref m_rowValue, .ref m_isGone, .ref m_mergeTo, .ref m_mergeKnown, .int 0, .ref m_isErased, .ref m_tape, .int 0, .int 0, .int 0, .int 0, .int (-1), .int 0, .ref m_five, .int 0, .int 0, .int 0, .int 0, .ref m_size0, .ref m_step, .ref m_stepA, .ref m_stepB, .ref m_stepC, .ref m_values, .ref m_heap, .ref m_isOne, .ref m_lawFrom, .ref m_lawTo, .ref m_hasLaw, .ref m_limits, .ref m_held, .ref m_hasKept, .ref m_kept, .ref m_keptAt, .int 0, .ref m_placeTrait, .ref m_placePerson, .ref m_placeMoment, .ref m_placeValue, .ref m_isFilled, .int 0, .ref m_uses, .ref m_heapsOne, .ref m_heapsOther]))]) [0] (by decide) rfl
  have hKc := hK.sub (tys' := []) [] rfl
  have hFc := va_free (wc := [(m0, .inr (9, [.int 0, .int 0, .int 0, .ref m_rowPerson, .ref m_rowStream, .ref m_rowMoment, .ref m_rowKnown, .ref m_rowValue, .ref m_isGone, .ref m_mergeTo, .ref m_mergeKnown, .int 0, .ref m_isErased, .ref m_tape, .int 0, .int 0, .int 0, .int 0, .int (-1), .int 0, .ref m_five, .int 0, .int 0, .int 0, .int 0, .ref m_size0, .ref m_step, .ref m_stepA, .ref m_stepB, .ref m_stepC, .ref m_values, .ref m_heap, .ref m_isOne, .ref m_lawFrom, .ref m_lawTo, .ref m_hasLaw, .ref m_limits, .ref m_held, .ref m_hasKept, .ref m_kept, .ref m_keptAt, .int 0, .ref m_placeTrait, .ref m_placePerson, .ref m_placeMoment, .ref m_placeValue, .ref m_isFilled, .int 0, .ref m_uses, .ref m_heapsOne, .ref m_heapsOther]))]) hD hS hA [0] rfl
  refine va_calli (va_runV (As := [.int z1, .int z2, .int z3]) (rest := [.int (-1)]) ⟨hx, hb, hml, hown, hts⟩ (c_X9_age l dC dI H.size m0 m_rowPerson m_rowStream m_rowMoment m_rowKnown m_rowValue m_isGone m_mergeTo m_mergeKnown m_isErased m_tape m_five m_size0 m_step m_stepA m_stepB m_stepC m_values m_heap m_isOne m_lawFrom m_lawTo m_hasLaw m_limits m_held m_hasKept m_kept m_keptAt m_placeTrait m_placePerson m_placeMoment m_placeValue m_isFilled m_uses m_heapsOne m_heapsOther z1 z2 z3 ) (cwV 3 hts gL_law_X9_age rfl rfl rfl (by decide +kernel) ⟨Nat.le_of_ble_eq_true rfl, Nat.le_of_ble_eq_true rfl⟩) ⟨fun a U g mk q => by obtain ⟨q0, q1, qP, qK, qD, qN⟩ := q; exact ⟨q0, q1, qP, va_K.moved (u := U) (U := U.calling g mk a) (Vm.Alike.refl U.vm) qK, qD, qN.same rfl⟩, va_recv hKc hPc (ci := 9) (q0 := 0) rfl rfl, fun U hU hW => ⟨rfl, by rw [hU], by rw [hU]; exact hPc, va_K.moved hW.alike hKc, hDc.weaken (fun _ _ _ _ => trivial), hN.warm hW⟩⟩ rfl rfl hl.1 rfl (lv_room (Nat.le_of_ble_eq_true rfl)) dL_law_731 ⟨Nat.le_of_ble_eq_true rfl, Nat.le_of_ble_eq_true rfl⟩) hS (fun q _ h => hFc q h) hFc (fun r_16 u_17 t H1 locs ht hvm hw_18 hB hz1 hk1 hS => ?_)
  try dsimp only at hw_18
  have hP1 : va_P (dC, dI) vwCl [] H1 := fun k q h => by simp at h
  have hD1 : va_D (va_A [(m0, .inr (9, [.int 0, .int 0, .int 0, .ref m_rowPerson, .ref m_rowStream, .ref m_rowMoment, .ref m_rowKnown, .ref m_rowValue, .ref m_isGone, .ref m_mergeTo, .ref m_mergeKnown, .int 0, .ref m_isErased, .ref m_tape, .int 0, .int 0, .int 0, .int 0, .int (-1), .int 0, .ref m_five, .int 0, .int 0, .int 0, .int 0, .ref m_size0, .ref m_step, .ref m_stepA, .ref m_stepB, .ref m_stepC, .ref m_values, .ref m_heap, .ref m_isOne, .ref m_lawFrom, .ref m_lawTo, .ref m_hasLaw, .ref m_limits, .ref m_held, .ref m_hasKept, .ref m_kept, .ref m_keptAt, .int 0, .ref m_placeTrait, .ref m_placePerson, .ref m_placeMoment, .ref m_placeValue, .ref m_isFilled, .int 0, .ref m_uses, .ref m_heapsOne, .ref m_heapsOther]))] H.size) [] := ⟨fun i j p q h => by simp at h, fun k q h => by simp at h⟩
  have hK1 : va_K (dC, dI) vwCl [] s := hK.sub [] rfl
  obtain ⟨hP, hD⟩ := va_join (wr := []) (w1 := []) hP hD [0] [] rfl rfl (by decide) (by decide) hk1 hFc hP1 hD1
  have hK := (hK.sub (tys' := []) [] rfl).app hK1
  generalize H1 = H at hP hS ⊢
  have hP : va_P (dC, dI) vwCl [] H := hP
  have hD : va_D (fun q : Nat => s.heap.size ≤ q) [] := hD
  have hK : va_K (dC, dI) vwCl [] s := hK
  obtain rfl : (-1) = r_16 := hw_18.symm
  refine lv_icmp_eq (tgt := 1234) hx hb dL_law_734 (by decide) (fun c_19 => ?_) (fun c_19 => ?_)
  · exact law_tail hL C0 hS (lv_sub hl [0, 3] rfl)
  · exact absurd rfl c_19

set_option maxHeartbeats 4000000 in
set_option maxRecDepth 100000 in
theorem law_held {p : Program} {l : Launch} {e : Env} {s : State} {m : MethodId} {below : List Frame} {meth : Method} {c : Code} {dC : Nat → ClassId} {dI : Nat → Nat → Nat} {b L : Nat} {xs : Nat → Int32} (hL : L = 11) (C0 : lw_At p s m meth c b L xs) (hN : nw_ok s) (h0 : Nat) (hRows : Nat) (hMer : Nat) (hEra : Nat) (hTape : Nat) (hRea : Nat) (hTra : Nat) (hWor : Nat) (hPla : Nat) (hMod : Nat) (hHe1 : Nat) (hHe2 : Nat) (m0 : Nat) (m_rowPerson : Nat) (m_rowStream : Nat) (m_rowMoment : Nat) (m_rowKnown : Nat) (m_rowValue : Nat) (m_isGone : Nat) (m_mergeTo : Nat) (m_mergeKnown : Nat) (m_isErased : Nat) (m_tape : Nat) (m_five : Nat) (m_size0 : Nat) (m_step : Nat) (m_stepA : Nat) (m_stepB : Nat) (m_stepC : Nat) (m_values : Nat) (m_heap : Nat) (m_isOne : Nat) (m_lawFrom : Nat) (m_lawTo : Nat) (m_hasLaw : Nat) (m_limits : Nat) (m_held : Nat) (m_hasKept : Nat) (m_kept : Nat) (m_keptAt : Nat) (m_placeTrait : Nat) (m_placePerson : Nat) (m_placeMoment : Nat) (m_placeValue : Nat) (m_isFilled : Nat) (m_uses : Nat) (m_heapsOne : Nat) (m_heapsOther : Nat)  (H : Heap) (locs : List Loc) (hK : va_K (dC, dI) vwCl [] s) (hP : va_P (dC, dI) vwCl [(h0, .inr (8, [.ref hRows, .ref hMer, .ref hEra, .ref hTape, .ref hRea, .ref hTra, .ref hWor, .ref hPla, .ref hMod, .ref hHe1, .ref hHe2, .int 0, .int 0, .int 0, .int 0, .int (-1), .int 0])), (m0, .inr (9, [.int 0, .int 0, .int 0, .ref m_rowPerson, .ref m_rowStream, .ref m_rowMoment, .ref m_rowKnown, .ref m_rowValue, .ref m_isGone, .ref m_mergeTo, .ref m_mergeKnown, .int 0, .ref m_isErased, .ref m_tape, .int 0, .int 0, .int 0, .int 0, .int (-1), .int 0, .ref m_five, .int 0, .int 0, .int 0, .int 0, .ref m_size0, .ref m_step, .ref m_stepA, .ref m_stepB, .ref m_stepC, .ref m_values, .ref m_heap, .ref m_isOne, .ref m_lawFrom, .ref m_lawTo, .ref m_hasLaw, .ref m_limits, .ref m_held, .ref m_hasKept, .ref m_kept, .ref m_keptAt, .int 0, .ref m_placeTrait, .ref m_placePerson, .ref m_placeMoment, .ref m_placeValue, .ref m_isFilled, .int 0, .ref m_uses, .ref m_heapsOne, .ref m_heapsOther]))] H) (hD : va_D (fun q : Nat => s.heap.size ≤ q) [(h0, .inr (8, [.ref hRows, .ref hMer, .ref hEra, .ref hTape, .ref hRea, .ref hTra, .ref hWor, .ref hPla, .ref hMod, .ref hHe1, .ref hHe2, .int 0, .int 0, .int 0, .int 0, .int (-1), .int 0])), (m0, .inr (9, [.int 0, .int 0, .int 0, .ref m_rowPerson, .ref m_rowStream, .ref m_rowMoment, .ref m_rowKnown, .ref m_rowValue, .ref m_isGone, .ref m_mergeTo, .ref m_mergeKnown, .int 0, .ref m_isErased, .ref m_tape, .int 0, .int 0, .int 0, .int 0, .int (-1), .int 0, .ref m_five, .int 0, .int 0, .int 0, .int 0, .ref m_size0, .ref m_step, .ref m_stepA, .ref m_stepB, .ref m_stepC, .ref m_values, .ref m_heap, .ref m_isOne, .ref m_lawFrom, .ref m_lawTo, .ref m_hasLaw, .ref m_limits, .ref m_held, .ref m_hasKept, .ref m_kept, .ref m_keptAt, .int 0, .ref m_placeTrait, .ref m_placePerson, .ref m_placeMoment, .ref m_placeValue, .ref m_isFilled, .int 0, .ref m_uses, .ref m_heapsOne, .ref m_heapsOther]))]) (hS : va_S (fun q : Nat => s.heap.size ≤ q) s.heap H locs) (ls : Array Slot) (hl : lv_has ls 4 [(3, .int 0), (2, .ref m0), (1, .ref h0), (0, .ref b)]) : W p l e room_1 s m #[Value.ref b] below meth c H locs 600000 7302250 (lw_Z below #[Value.ref b] s) (F0 m 739 ls []) := by
  obtain ⟨hx, hb, hr, hml, hown, hts, hX, hbl, hlocks, hgv⟩ := id C0
  have hts := fun w h => hts w (wsL_law_in w h)
  have hown : s.vm.findClass RL = some m.cls := hown
  have hA : ∀ q : Nat, s.heap.size ≤ q → (fun q : Nat => s.heap.size ≤ q) q := fun _ h => h
  have hbA : ¬ (fun q : Nat => s.heap.size ≤ q) b := Nat.not_le.mpr hbl
  obtain ⟨z1, ez1⟩ : ∃ z : Int32, z = xs (1 : Int32).toNatClampNeg := ⟨_, rfl⟩
  refine lv_aload_n hx hb dL_law_739 rfl (lv_at hl 2 rfl) ?_
  refine lv_aload_n hx hb dL_law_740 rfl (lv_at hl 3 rfl) ?_
  refine lv_iload_n hx hb dL_law_741 rfl (lv_at hl 0 rfl) ?_
  refine lv_iconst (v := 1) hx hb dL_law_742 (by decide) ?_
  refine lv_iadd hx hb dL_law_743 ?_
  refine lv_topi (fun x_1 ex_1 => ?_)
  obtain rfl : x_1 = 1 := ex_1.trans (by decide)
  refine va_sld hx hb hX hbl hbA hS (vp_in_iff.mpr ⟨by decide, by rw [hL]; decide⟩) dL_law_744 ?_
  refine lv_topi (fun x_2 ex_2 => ?_)
  obtain rfl : z1 = x_2 := ez1.trans ex_2.symm
  have hPc := hP.sub (ws' := [(h0, .inr (8, [.ref hRows, .ref hMer, .ref hEra, .ref hTape, .ref hRea, .ref hTra, .ref hWor, .ref hPla, .ref hMod, .ref hHe1, .ref hHe2, .int 0, .int 0, .int 0, .int 0, .int (-1), .int 0]))]) [0] rfl
  have hDc := hD.sub (ws' := [(h0, .inr (8, [.ref hRows, .ref hMer, .ref hEra, .ref hTape, .ref hRea, .ref hTra, .ref hWor, .ref hPla, .ref hMod, .ref hHe1, .ref hHe2, .int 0, .int 0, .int 0, .int 0, .int (-1), .int 0]))]) [0] (by decide) rfl
  have hKc := hK.sub (tys' := []) [] rfl
  have hFc := va_free (wc := [(h0, .inr (8, [.ref hRows, .ref hMer, .ref hEra, .ref hTape, .ref hRea, .ref hTra, .ref hWor, .ref hPla, .ref hMod, .ref hHe1, .ref hHe2, .int 0, .int 0, .int 0, .int 0, .int (-1), .int 0]))]) hD hS hA [0] rfl
  refine va_calli (va_runV (As := [.int z1]) (rest := []) ⟨hx, hb, hml, hown, hts⟩ (c_X8_held l dC dI H.size h0 hRows hMer hEra hTape hRea hTra hWor hPla hMod hHe1 hHe2 z1 ) (cwV 1 hts gL_law_X8_held rfl rfl rfl (by decide +kernel) ⟨Nat.le_of_ble_eq_true rfl, Nat.le_of_ble_eq_true rfl⟩) ⟨fun a U g mk q => by obtain ⟨q0, q1, qP, qK, qD, qN⟩ := q; exact ⟨q0, q1, qP, va_K.moved (u := U) (U := U.calling g mk a) (Vm.Alike.refl U.vm) qK, qD, qN.same rfl⟩, va_recv hKc hPc (ci := 8) (q0 := 0) rfl rfl, fun U hU hW => ⟨rfl, by rw [hU], by rw [hU]; exact hPc, va_K.moved hW.alike hKc, hDc.weaken (fun _ _ _ _ => trivial), hN.warm hW⟩⟩ rfl rfl hl.1 rfl (lv_room (Nat.le_of_ble_eq_true rfl)) dL_law_745 ⟨Nat.le_of_ble_eq_true rfl, Nat.le_of_ble_eq_true rfl⟩) hS (fun q _ h => hFc q h) hFc (fun r_3 u_4 t H1 locs ht hvm hw_5 hB hz1 hk1 hS => ?_)
  try dsimp only at hw_5
  have hP1 : va_P (dC, dI) vwCl [] H1 := fun k q h => by simp at h
  have hD1 : va_D (va_A [(h0, .inr (8, [.ref hRows, .ref hMer, .ref hEra, .ref hTape, .ref hRea, .ref hTra, .ref hWor, .ref hPla, .ref hMod, .ref hHe1, .ref hHe2, .int 0, .int 0, .int 0, .int 0, .int (-1), .int 0]))] H.size) [] := ⟨fun i j p q h => by simp at h, fun k q h => by simp at h⟩
  have hK1 : va_K (dC, dI) vwCl [] s := hK.sub [] rfl
  obtain ⟨hP, hD⟩ := va_join (wr := [(m0, .inr (9, [.int 0, .int 0, .int 0, .ref m_rowPerson, .ref m_rowStream, .ref m_rowMoment, .ref m_rowKnown, .ref m_rowValue, .ref m_isGone, .ref m_mergeTo, .ref m_mergeKnown, .int 0, .ref m_isErased, .ref m_tape, .int 0, .int 0, .int 0, .int 0, .int (-1), .int 0, .ref m_five, .int 0, .int 0, .int 0, .int 0, .ref m_size0, .ref m_step, .ref m_stepA, .ref m_stepB, .ref m_stepC, .ref m_values, .ref m_heap, .ref m_isOne, .ref m_lawFrom, .ref m_lawTo, .ref m_hasLaw, .ref m_limits, .ref m_held, .ref m_hasKept, .ref m_kept, .ref m_keptAt, .int 0, .ref m_placeTrait, .ref m_placePerson, .ref m_placeMoment, .ref m_placeValue, .ref m_isFilled, .int 0, .ref m_uses, .ref m_heapsOne, .ref m_heapsOther]))]) (w1 := []) hP hD [0] [1] rfl rfl (by decide) (by decide) hk1 hFc hP1 hD1
  have hK := (hK.sub (tys' := []) [] rfl).app hK1
  generalize H1 = H at hP hS ⊢
  have hP : va_P (dC, dI) vwCl [(m0, .inr (9, [.int 0, .int 0, .int 0, .ref m_rowPerson, .ref m_rowStream, .ref m_rowMoment, .ref m_rowKnown, .ref m_rowValue, .ref m_isGone, .ref m_mergeTo, .ref m_mergeKnown, .int 0, .ref m_isErased, .ref m_tape, .int 0, .int 0, .int 0, .int 0, .int (-1), .int 0, .ref m_five, .int 0, .int 0, .int 0, .int 0, .ref m_size0, .ref m_step, .ref m_stepA, .ref m_stepB, .ref m_stepC, .ref m_values, .ref m_heap, .ref m_isOne, .ref m_lawFrom, .ref m_lawTo, .ref m_hasLaw, .ref m_limits, .ref m_held, .ref m_hasKept, .ref m_kept, .ref m_keptAt, .int 0, .ref m_placeTrait, .ref m_placePerson, .ref m_placeMoment, .ref m_placeValue, .ref m_isFilled, .int 0, .ref m_uses, .ref m_heapsOne, .ref m_heapsOther]))] H := hP
  have hD : va_D (fun q : Nat => s.heap.size ≤ q) [(m0, .inr (9, [.int 0, .int 0, .int 0, .ref m_rowPerson, .ref m_rowStream, .ref m_rowMoment, .ref m_rowKnown, .ref m_rowValue, .ref m_isGone, .ref m_mergeTo, .ref m_mergeKnown, .int 0, .ref m_isErased, .ref m_tape, .int 0, .int 0, .int 0, .int 0, .int (-1), .int 0, .ref m_five, .int 0, .int 0, .int 0, .int 0, .ref m_size0, .ref m_step, .ref m_stepA, .ref m_stepB, .ref m_stepC, .ref m_values, .ref m_heap, .ref m_isOne, .ref m_lawFrom, .ref m_lawTo, .ref m_hasLaw, .ref m_limits, .ref m_held, .ref m_hasKept, .ref m_kept, .ref m_keptAt, .int 0, .ref m_placeTrait, .ref m_placePerson, .ref m_placeMoment, .ref m_placeValue, .ref m_isFilled, .int 0, .ref m_uses, .ref m_heapsOne, .ref m_heapsOther]))] := hD
  have hK : va_K (dC, dI) vwCl [] s := hK
  obtain rfl : (-1) = r_3 := hw_5.symm
  refine lv_aload_n hx hb dL_law_748 rfl (lv_at hl 1 rfl) ?_
  refine lv_aload_n hx hb dL_law_749 rfl (lv_at hl 3 rfl) ?_
  refine lv_iload_n hx hb dL_law_750 rfl (lv_at hl 0 rfl) ?_
  refine lv_iconst (v := 1) hx hb dL_law_751 (by decide) ?_
  refine lv_iadd hx hb dL_law_752 ?_
  refine lv_topi (fun x_6 ex_6 => ?_)
  obtain rfl : x_6 = 1 := ex_6.trans (by decide)
  refine va_sld hx hb hX hbl hbA hS (vp_in_iff.mpr ⟨by decide, by rw [hL]; decide⟩) dL_law_753 ?_
  refine lv_topi (fun x_7 ex_7 => ?_)
  obtain rfl : z1 = x_7 := ez1.trans ex_7.symm
  have hPc := hP.sub (ws' := [(m0, .inr (9, [.int 0, .int 0, .int 0, .ref m_rowPerson, .ref m_rowStream, .ref m_rowMoment, .ref m_rowKnown, .ref m_rowValue, .ref m_isGone, .ref m_mergeTo, .ref m_mergeKnown, .int 0, .ref m_isErased, .ref m_tape, .int 0, .int 0, .int 0, .int 0, .int (-1), .int 0, .ref m_five, .int 0, .int 0, .int 0, .int 0, .ref m_size0, .ref m_step, .ref m_stepA, .ref m_stepB, .ref m_stepC, .ref m_values, .ref m_heap, .ref m_isOne, .ref m_lawFrom, .ref m_lawTo, .ref m_hasLaw, .ref m_limits, .ref m_held, .ref m_hasKept, .ref m_kept, .ref m_keptAt, .int 0, .ref m_placeTrait, .ref m_placePerson, .ref m_placeMoment, .ref m_placeValue, .ref m_isFilled, .int 0, .ref m_uses, .ref m_heapsOne, .ref m_heapsOther]))]) [0] rfl
  have hDc := hD.sub (ws' := [(m0, .inr (9, [.int 0, .int 0, .int 0, .ref m_rowPerson, .ref m_rowStream, .ref m_rowMoment, .ref m_rowKnown, .ref m_rowValue, .ref m_isGone, .ref m_mergeTo, .ref m_mergeKnown, .int 0, .ref m_isErased, .ref m_tape, .int 0, .int 0, .int 0, .int 0, .int (-1), .int 0, .ref m_five, .int 0, .int 0, .int 0, .int 0, .ref m_size0, .ref m_step, .ref m_stepA, .ref m_stepB, .ref m_stepC, .ref m_values, .ref m_heap, .ref m_isOne, .ref m_lawFrom, .ref m_lawTo, .ref m_hasLaw, .ref m_limits, .ref m_held, .ref m_hasKept, .ref m_kept, .ref m_keptAt, .int 0, .ref m_placeTrait, .ref m_placePerson, .ref m_placeMoment, .ref m_placeValue, .ref m_isFilled, .int 0, .ref m_uses, .ref m_heapsOne, .ref m_heapsOther]))]) [0] (by decide) rfl
  have hKc := hK.sub (tys' := []) [] rfl
  have hFc := va_free (wc := [(m0, .inr (9, [.int 0, .int 0, .int 0, .ref m_rowPerson, .ref m_rowStream, .ref m_rowMoment, .ref m_rowKnown, .ref m_rowValue, .ref m_isGone, .ref m_mergeTo, .ref m_mergeKnown, .int 0, .ref m_isErased, .ref m_tape, .int 0, .int 0, .int 0, .int 0, .int (-1), .int 0, .ref m_five, .int 0, .int 0, .int 0, .int 0, .ref m_size0, .ref m_step, .ref m_stepA, .ref m_stepB, .ref m_stepC, .ref m_values, .ref m_heap, .ref m_isOne, .ref m_lawFrom, .ref m_lawTo, .ref m_hasLaw, .ref m_limits, .ref m_held, .ref m_hasKept, .ref m_kept, .ref m_keptAt, .int 0, .ref m_placeTrait, .ref m_placePerson, .ref m_placeMoment, .ref m_placeValue, .ref m_isFilled, .int 0, .ref m_uses, .ref m_heapsOne, .ref m_heapsOther]))]) hD hS hA [0] rfl
  refine va_calli (va_runV (As := [.int z1]) (rest := [.int (-1)]) ⟨hx, hb, hml, hown, hts⟩ (c_X9_held l dC dI H.size m0 m_rowPerson m_rowStream m_rowMoment m_rowKnown m_rowValue m_isGone m_mergeTo m_mergeKnown m_isErased m_tape m_five m_size0 m_step m_stepA m_stepB m_stepC m_values m_heap m_isOne m_lawFrom m_lawTo m_hasLaw m_limits m_held m_hasKept m_kept m_keptAt m_placeTrait m_placePerson m_placeMoment m_placeValue m_isFilled m_uses m_heapsOne m_heapsOther z1 ) (cwV 1 hts gL_law_X9_held rfl rfl rfl (by decide +kernel) ⟨Nat.le_of_ble_eq_true rfl, Nat.le_of_ble_eq_true rfl⟩) ⟨fun a U g mk q => by obtain ⟨q0, q1, qP, qK, qD, qN⟩ := q; exact ⟨q0, q1, qP, va_K.moved (u := U) (U := U.calling g mk a) (Vm.Alike.refl U.vm) qK, qD, qN.same rfl⟩, va_recv hKc hPc (ci := 9) (q0 := 0) rfl rfl, fun U hU hW => ⟨rfl, by rw [hU], by rw [hU]; exact hPc, va_K.moved hW.alike hKc, hDc.weaken (fun _ _ _ _ => trivial), hN.warm hW⟩⟩ rfl rfl hl.1 rfl (lv_room (Nat.le_of_ble_eq_true rfl)) dL_law_754 ⟨Nat.le_of_ble_eq_true rfl, Nat.le_of_ble_eq_true rfl⟩) hS (fun q _ h => hFc q h) hFc (fun r_8 u_9 t H1 locs ht hvm hw_10 hB hz1 hk1 hS => ?_)
  try dsimp only at hw_10
  have hP1 : va_P (dC, dI) vwCl [] H1 := fun k q h => by simp at h
  have hD1 : va_D (va_A [(m0, .inr (9, [.int 0, .int 0, .int 0, .ref m_rowPerson, .ref m_rowStream, .ref m_rowMoment, .ref m_rowKnown, .ref m_rowValue, .ref m_isGone, .ref m_mergeTo, .ref m_mergeKnown, .int 0, .ref m_isErased, .ref m_tape, .int 0, .int 0, .int 0, .int 0, .int (-1), .int 0, .ref m_five, .int 0, .int 0, .int 0, .int 0, .ref m_size0, .ref m_step, .ref m_stepA, .ref m_stepB, .ref m_stepC, .ref m_values, .ref m_heap, .ref m_isOne, .ref m_lawFrom, .ref m_lawTo, .ref m_hasLaw, .ref m_limits, .ref m_held, .ref m_hasKept, .ref m_kept, .ref m_keptAt, .int 0, .ref m_placeTrait, .ref m_placePerson, .ref m_placeMoment, .ref m_placeValue, .ref m_isFilled, .int 0, .ref m_uses, .ref m_heapsOne, .ref m_heapsOther]))] H.size) [] := ⟨fun i j p q h => by simp at h, fun k q h => by simp at h⟩
  have hK1 : va_K (dC, dI) vwCl [] s := hK.sub [] rfl
  obtain ⟨hP, hD⟩ := va_join (wr := []) (w1 := []) hP hD [0] [] rfl rfl (by decide) (by decide) hk1 hFc hP1 hD1
  have hK := (hK.sub (tys' := []) [] rfl).app hK1
  generalize H1 = H at hP hS ⊢
  have hP : va_P (dC, dI) vwCl [] H := hP
  have hD : va_D (fun q : Nat => s.heap.size ≤ q) [] := hD
  have hK : va_K (dC, dI) vwCl [] s := hK
  obtain rfl : (-1) = r_8 := hw_10.symm
  refine lv_icmp_eq (tgt := 1234) hx hb dL_law_757 (by decide) (fun c_11 => ?_) (fun c_11 => ?_)
  · exact law_tail hL C0 hS (lv_sub hl [0, 3] rfl)
  · exact absurd rfl c_11

set_option maxHeartbeats 4000000 in
set_option maxRecDepth 100000 in
theorem law_fill {p : Program} {l : Launch} {e : Env} {s : State} {m : MethodId} {below : List Frame} {meth : Method} {c : Code} {dC : Nat → ClassId} {dI : Nat → Nat → Nat} {b L : Nat} {xs : Nat → Int32} (hL : L = 11) (C0 : lw_At p s m meth c b L xs) (hN : nw_ok s) (h0 : Nat) (hRows : Nat) (hMer : Nat) (hEra : Nat) (hTape : Nat) (hRea : Nat) (hTra : Nat) (hWor : Nat) (hPla : Nat) (hMod : Nat) (hHe1 : Nat) (hHe2 : Nat) (m0 : Nat) (m_rowPerson : Nat) (m_rowStream : Nat) (m_rowMoment : Nat) (m_rowKnown : Nat) (m_rowValue : Nat) (m_isGone : Nat) (m_mergeTo : Nat) (m_mergeKnown : Nat) (m_isErased : Nat) (m_tape : Nat) (m_five : Nat) (m_size0 : Nat) (m_step : Nat) (m_stepA : Nat) (m_stepB : Nat) (m_stepC : Nat) (m_values : Nat) (m_heap : Nat) (m_isOne : Nat) (m_lawFrom : Nat) (m_lawTo : Nat) (m_hasLaw : Nat) (m_limits : Nat) (m_held : Nat) (m_hasKept : Nat) (m_kept : Nat) (m_keptAt : Nat) (m_placeTrait : Nat) (m_placePerson : Nat) (m_placeMoment : Nat) (m_placeValue : Nat) (m_isFilled : Nat) (m_uses : Nat) (m_heapsOne : Nat) (m_heapsOther : Nat)  (H : Heap) (locs : List Loc) (hK : va_K (dC, dI) vwCl [] s) (hP : va_P (dC, dI) vwCl [(h0, .inr (8, [.ref hRows, .ref hMer, .ref hEra, .ref hTape, .ref hRea, .ref hTra, .ref hWor, .ref hPla, .ref hMod, .ref hHe1, .ref hHe2, .int 0, .int 0, .int 0, .int 0, .int (-1), .int 0])), (m0, .inr (9, [.int 0, .int 0, .int 0, .ref m_rowPerson, .ref m_rowStream, .ref m_rowMoment, .ref m_rowKnown, .ref m_rowValue, .ref m_isGone, .ref m_mergeTo, .ref m_mergeKnown, .int 0, .ref m_isErased, .ref m_tape, .int 0, .int 0, .int 0, .int 0, .int (-1), .int 0, .ref m_five, .int 0, .int 0, .int 0, .int 0, .ref m_size0, .ref m_step, .ref m_stepA, .ref m_stepB, .ref m_stepC, .ref m_values, .ref m_heap, .ref m_isOne, .ref m_lawFrom, .ref m_lawTo, .ref m_hasLaw, .ref m_limits, .ref m_held, .ref m_hasKept, .ref m_kept, .ref m_keptAt, .int 0, .ref m_placeTrait, .ref m_placePerson, .ref m_placeMoment, .ref m_placeValue, .ref m_isFilled, .int 0, .ref m_uses, .ref m_heapsOne, .ref m_heapsOther]))] H) (hD : va_D (fun q : Nat => s.heap.size ≤ q) [(h0, .inr (8, [.ref hRows, .ref hMer, .ref hEra, .ref hTape, .ref hRea, .ref hTra, .ref hWor, .ref hPla, .ref hMod, .ref hHe1, .ref hHe2, .int 0, .int 0, .int 0, .int 0, .int (-1), .int 0])), (m0, .inr (9, [.int 0, .int 0, .int 0, .ref m_rowPerson, .ref m_rowStream, .ref m_rowMoment, .ref m_rowKnown, .ref m_rowValue, .ref m_isGone, .ref m_mergeTo, .ref m_mergeKnown, .int 0, .ref m_isErased, .ref m_tape, .int 0, .int 0, .int 0, .int 0, .int (-1), .int 0, .ref m_five, .int 0, .int 0, .int 0, .int 0, .ref m_size0, .ref m_step, .ref m_stepA, .ref m_stepB, .ref m_stepC, .ref m_values, .ref m_heap, .ref m_isOne, .ref m_lawFrom, .ref m_lawTo, .ref m_hasLaw, .ref m_limits, .ref m_held, .ref m_hasKept, .ref m_kept, .ref m_keptAt, .int 0, .ref m_placeTrait, .ref m_placePerson, .ref m_placeMoment, .ref m_placeValue, .ref m_isFilled, .int 0, .ref m_uses, .ref m_heapsOne, .ref m_heapsOther]))]) (hS : va_S (fun q : Nat => s.heap.size ≤ q) s.heap H locs) (ls : Array Slot) (hl : lv_has ls 4 [(3, .int 0), (2, .ref m0), (1, .ref h0), (0, .ref b)]) : W p l e room_1 s m #[Value.ref b] below meth c H locs 600000 7302250 (lw_Z below #[Value.ref b] s) (F0 m 762 ls []) := by
  obtain ⟨hx, hb, hr, hml, hown, hts, hX, hbl, hlocks, hgv⟩ := id C0
  have hts := fun w h => hts w (wsL_law_in w h)
  have hown : s.vm.findClass RL = some m.cls := hown
  have hA : ∀ q : Nat, s.heap.size ≤ q → (fun q : Nat => s.heap.size ≤ q) q := fun _ h => h
  have hbA : ¬ (fun q : Nat => s.heap.size ≤ q) b := Nat.not_le.mpr hbl
  obtain ⟨z1, ez1⟩ : ∃ z : Int32, z = xs (1 : Int32).toNatClampNeg := ⟨_, rfl⟩
  obtain ⟨z2, ez2⟩ : ∃ z : Int32, z = xs (2 : Int32).toNatClampNeg := ⟨_, rfl⟩
  obtain ⟨z3, ez3⟩ : ∃ z : Int32, z = xs (3 : Int32).toNatClampNeg := ⟨_, rfl⟩
  obtain ⟨z4, ez4⟩ : ∃ z : Int32, z = xs (4 : Int32).toNatClampNeg := ⟨_, rfl⟩
  refine lv_aload_n hx hb dL_law_762 rfl (lv_at hl 2 rfl) ?_
  refine lv_aload_n hx hb dL_law_763 rfl (lv_at hl 3 rfl) ?_
  refine lv_iload_n hx hb dL_law_764 rfl (lv_at hl 0 rfl) ?_
  refine lv_iconst (v := 1) hx hb dL_law_765 (by decide) ?_
  refine lv_iadd hx hb dL_law_766 ?_
  refine lv_topi (fun x_1 ex_1 => ?_)
  obtain rfl : x_1 = 1 := ex_1.trans (by decide)
  refine va_sld hx hb hX hbl hbA hS (vp_in_iff.mpr ⟨by decide, by rw [hL]; decide⟩) dL_law_767 ?_
  refine lv_topi (fun x_2 ex_2 => ?_)
  obtain rfl : z1 = x_2 := ez1.trans ex_2.symm
  refine lv_aload_n hx hb dL_law_768 rfl (lv_at hl 3 rfl) ?_
  refine lv_iload_n hx hb dL_law_769 rfl (lv_at hl 0 rfl) ?_
  refine lv_iconst (v := 2) hx hb dL_law_770 (by decide) ?_
  refine lv_iadd hx hb dL_law_771 ?_
  refine lv_topi (fun x_3 ex_3 => ?_)
  obtain rfl : x_3 = 2 := ex_3.trans (by decide)
  refine va_sld hx hb hX hbl hbA hS (vp_in_iff.mpr ⟨by decide, by rw [hL]; decide⟩) dL_law_772 ?_
  refine lv_topi (fun x_4 ex_4 => ?_)
  obtain rfl : z2 = x_4 := ez2.trans ex_4.symm
  refine lv_aload_n hx hb dL_law_773 rfl (lv_at hl 3 rfl) ?_
  refine lv_iload_n hx hb dL_law_774 rfl (lv_at hl 0 rfl) ?_
  refine lv_iconst (v := 3) hx hb dL_law_775 (by decide) ?_
  refine lv_iadd hx hb dL_law_776 ?_
  refine lv_topi (fun x_5 ex_5 => ?_)
  obtain rfl : x_5 = 3 := ex_5.trans (by decide)
  refine va_sld hx hb hX hbl hbA hS (vp_in_iff.mpr ⟨by decide, by rw [hL]; decide⟩) dL_law_777 ?_
  refine lv_topi (fun x_6 ex_6 => ?_)
  obtain rfl : z3 = x_6 := ez3.trans ex_6.symm
  refine lv_aload_n hx hb dL_law_778 rfl (lv_at hl 3 rfl) ?_
  refine lv_iload_n hx hb dL_law_779 rfl (lv_at hl 0 rfl) ?_
  refine lv_iconst (v := 4) hx hb dL_law_780 (by decide) ?_
  refine lv_iadd hx hb dL_law_781 ?_
  refine lv_topi (fun x_7 ex_7 => ?_)
  obtain rfl : x_7 = 4 := ex_7.trans (by decide)
  refine va_sld hx hb hX hbl hbA hS (vp_in_iff.mpr ⟨by decide, by rw [hL]; decide⟩) dL_law_782 ?_
  refine lv_topi (fun x_8 ex_8 => ?_)
  obtain rfl : z4 = x_8 := ez4.trans ex_8.symm
  have hPc := hP.sub (ws' := [(h0, .inr (8, [.ref hRows, .ref hMer, .ref hEra, .ref hTape, .ref hRea, .ref hTra, .ref hWor, .ref hPla, .ref hMod, .ref hHe1, .ref hHe2, .int 0, .int 0, .int 0, .int 0, .int (-1), .int 0]))]) [0] rfl
  have hDc := hD.sub (ws' := [(h0, .inr (8, [.ref hRows, .ref hMer, .ref hEra, .ref hTape, .ref hRea, .ref hTra, .ref hWor, .ref hPla, .ref hMod, .ref hHe1, .ref hHe2, .int 0, .int 0, .int 0, .int 0, .int (-1), .int 0]))]) [0] (by decide) rfl
  have hKc := hK.sub (tys' := []) [] rfl
  have hFc := va_free (wc := [(h0, .inr (8, [.ref hRows, .ref hMer, .ref hEra, .ref hTape, .ref hRea, .ref hTra, .ref hWor, .ref hPla, .ref hMod, .ref hHe1, .ref hHe2, .int 0, .int 0, .int 0, .int 0, .int (-1), .int 0]))]) hD hS hA [0] rfl
  refine va_calli (va_runV (As := [.int z1, .int z2, .int z3, .int z4]) (rest := []) ⟨hx, hb, hml, hown, hts⟩ (c_X8_fill l dC dI H.size h0 hRows hMer hEra hTape hRea hTra hWor hPla hMod hHe1 hHe2 z1 z2 z3 z4 ) (cwV 4 hts gL_law_X8_fill rfl rfl rfl (by decide +kernel) ⟨Nat.le_of_ble_eq_true rfl, Nat.le_of_ble_eq_true rfl⟩) ⟨fun a U g mk q => by obtain ⟨q0, q1, qP, qK, qD, qN⟩ := q; exact ⟨q0, q1, qP, va_K.moved (u := U) (U := U.calling g mk a) (Vm.Alike.refl U.vm) qK, qD, qN.same rfl⟩, va_recv hKc hPc (ci := 8) (q0 := 0) rfl rfl, fun U hU hW => ⟨rfl, by rw [hU], by rw [hU]; exact hPc, va_K.moved hW.alike hKc, hDc.weaken (fun _ _ _ _ => trivial), hN.warm hW⟩⟩ rfl rfl hl.1 rfl (lv_room (Nat.le_of_ble_eq_true rfl)) dL_law_783 ⟨Nat.le_of_ble_eq_true rfl, Nat.le_of_ble_eq_true rfl⟩) hS (fun q _ h => hFc q h) hFc (fun r_9 u_10 t H1 locs ht hvm hw_11 hB hz1 hk1 hS => ?_)
  try dsimp only at hw_11
  have hP1 : va_P (dC, dI) vwCl [] H1 := fun k q h => by simp at h
  have hD1 : va_D (va_A [(h0, .inr (8, [.ref hRows, .ref hMer, .ref hEra, .ref hTape, .ref hRea, .ref hTra, .ref hWor, .ref hPla, .ref hMod, .ref hHe1, .ref hHe2, .int 0, .int 0, .int 0, .int 0, .int (-1), .int 0]))] H.size) [] := ⟨fun i j p q h => by simp at h, fun k q h => by simp at h⟩
  have hK1 : va_K (dC, dI) vwCl [] s := hK.sub [] rfl
  obtain ⟨hP, hD⟩ := va_join (wr := [(m0, .inr (9, [.int 0, .int 0, .int 0, .ref m_rowPerson, .ref m_rowStream, .ref m_rowMoment, .ref m_rowKnown, .ref m_rowValue, .ref m_isGone, .ref m_mergeTo, .ref m_mergeKnown, .int 0, .ref m_isErased, .ref m_tape, .int 0, .int 0, .int 0, .int 0, .int (-1), .int 0, .ref m_five, .int 0, .int 0, .int 0, .int 0, .ref m_size0, .ref m_step, .ref m_stepA, .ref m_stepB, .ref m_stepC, .ref m_values, .ref m_heap, .ref m_isOne, .ref m_lawFrom, .ref m_lawTo, .ref m_hasLaw, .ref m_limits, .ref m_held, .ref m_hasKept, .ref m_kept, .ref m_keptAt, .int 0, .ref m_placeTrait, .ref m_placePerson, .ref m_placeMoment, .ref m_placeValue, .ref m_isFilled, .int 0, .ref m_uses, .ref m_heapsOne, .ref m_heapsOther]))]) (w1 := []) hP hD [0] [1] rfl rfl (by decide) (by decide) hk1 hFc hP1 hD1
  have hK := (hK.sub (tys' := []) [] rfl).app hK1
  generalize H1 = H at hP hS ⊢
  have hP : va_P (dC, dI) vwCl [(m0, .inr (9, [.int 0, .int 0, .int 0, .ref m_rowPerson, .ref m_rowStream, .ref m_rowMoment, .ref m_rowKnown, .ref m_rowValue, .ref m_isGone, .ref m_mergeTo, .ref m_mergeKnown, .int 0, .ref m_isErased, .ref m_tape, .int 0, .int 0, .int 0, .int 0, .int (-1), .int 0, .ref m_five, .int 0, .int 0, .int 0, .int 0, .ref m_size0, .ref m_step, .ref m_stepA, .ref m_stepB, .ref m_stepC, .ref m_values, .ref m_heap, .ref m_isOne, .ref m_lawFrom, .ref m_lawTo, .ref m_hasLaw, .ref m_limits, .ref m_held, .ref m_hasKept, .ref m_kept, .ref m_keptAt, .int 0, .ref m_placeTrait, .ref m_placePerson, .ref m_placeMoment, .ref m_placeValue, .ref m_isFilled, .int 0, .ref m_uses, .ref m_heapsOne, .ref m_heapsOther]))] H := hP
  have hD : va_D (fun q : Nat => s.heap.size ≤ q) [(m0, .inr (9, [.int 0, .int 0, .int 0, .ref m_rowPerson, .ref m_rowStream, .ref m_rowMoment, .ref m_rowKnown, .ref m_rowValue, .ref m_isGone, .ref m_mergeTo, .ref m_mergeKnown, .int 0, .ref m_isErased, .ref m_tape, .int 0, .int 0, .int 0, .int 0, .int (-1), .int 0, .ref m_five, .int 0, .int 0, .int 0, .int 0, .ref m_size0, .ref m_step, .ref m_stepA, .ref m_stepB, .ref m_stepC, .ref m_values, .ref m_heap, .ref m_isOne, .ref m_lawFrom, .ref m_lawTo, .ref m_hasLaw, .ref m_limits, .ref m_held, .ref m_hasKept, .ref m_kept, .ref m_keptAt, .int 0, .ref m_placeTrait, .ref m_placePerson, .ref m_placeMoment, .ref m_placeValue, .ref m_isFilled, .int 0, .ref m_uses, .ref m_heapsOne, .ref m_heapsOther]))] := hD
  have hK : va_K (dC, dI) vwCl [] s := hK
  refine lv_aload_n hx hb dL_law_786 rfl (lv_at hl 1 rfl) ?_
  refine lv_aload_n hx hb dL_law_787 rfl (lv_at hl 3 rfl) ?_
  refine lv_iload_n hx hb dL_law_788 rfl (lv_at hl 0 rfl) ?_
  refine lv_iconst (v := 1) hx hb dL_law_789 (by decide) ?_
  refine lv_iadd hx hb dL_law_790 ?_
  refine lv_topi (fun x_12 ex_12 => ?_)
  obtain rfl : x_12 = 1 := ex_12.trans (by decide)
  refine va_sld hx hb hX hbl hbA hS (vp_in_iff.mpr ⟨by decide, by rw [hL]; decide⟩) dL_law_791 ?_
  refine lv_topi (fun x_13 ex_13 => ?_)
  obtain rfl : z1 = x_13 := ez1.trans ex_13.symm
  refine lv_aload_n hx hb dL_law_792 rfl (lv_at hl 3 rfl) ?_
  refine lv_iload_n hx hb dL_law_793 rfl (lv_at hl 0 rfl) ?_
  refine lv_iconst (v := 2) hx hb dL_law_794 (by decide) ?_
  refine lv_iadd hx hb dL_law_795 ?_
  refine lv_topi (fun x_14 ex_14 => ?_)
  obtain rfl : x_14 = 2 := ex_14.trans (by decide)
  refine va_sld hx hb hX hbl hbA hS (vp_in_iff.mpr ⟨by decide, by rw [hL]; decide⟩) dL_law_796 ?_
  refine lv_topi (fun x_15 ex_15 => ?_)
  obtain rfl : z2 = x_15 := ez2.trans ex_15.symm
  refine lv_aload_n hx hb dL_law_797 rfl (lv_at hl 3 rfl) ?_
  refine lv_iload_n hx hb dL_law_798 rfl (lv_at hl 0 rfl) ?_
  refine lv_iconst (v := 3) hx hb dL_law_799 (by decide) ?_
  refine lv_iadd hx hb dL_law_800 ?_
  refine lv_topi (fun x_16 ex_16 => ?_)
  obtain rfl : x_16 = 3 := ex_16.trans (by decide)
  refine va_sld hx hb hX hbl hbA hS (vp_in_iff.mpr ⟨by decide, by rw [hL]; decide⟩) dL_law_801 ?_
  refine lv_topi (fun x_17 ex_17 => ?_)
  obtain rfl : z3 = x_17 := ez3.trans ex_17.symm
  refine lv_aload_n hx hb dL_law_802 rfl (lv_at hl 3 rfl) ?_
  refine lv_iload_n hx hb dL_law_803 rfl (lv_at hl 0 rfl) ?_
  refine lv_iconst (v := 4) hx hb dL_law_804 (by decide) ?_
  refine lv_iadd hx hb dL_law_805 ?_
  refine lv_topi (fun x_18 ex_18 => ?_)
  obtain rfl : x_18 = 4 := ex_18.trans (by decide)
  refine va_sld hx hb hX hbl hbA hS (vp_in_iff.mpr ⟨by decide, by rw [hL]; decide⟩) dL_law_806 ?_
  refine lv_topi (fun x_19 ex_19 => ?_)
  obtain rfl : z4 = x_19 := ez4.trans ex_19.symm
  have hPc := hP.sub (ws' := [(m0, .inr (9, [.int 0, .int 0, .int 0, .ref m_rowPerson, .ref m_rowStream, .ref m_rowMoment, .ref m_rowKnown, .ref m_rowValue, .ref m_isGone, .ref m_mergeTo, .ref m_mergeKnown, .int 0, .ref m_isErased, .ref m_tape, .int 0, .int 0, .int 0, .int 0, .int (-1), .int 0, .ref m_five, .int 0, .int 0, .int 0, .int 0, .ref m_size0, .ref m_step, .ref m_stepA, .ref m_stepB, .ref m_stepC, .ref m_values, .ref m_heap, .ref m_isOne, .ref m_lawFrom, .ref m_lawTo, .ref m_hasLaw, .ref m_limits, .ref m_held, .ref m_hasKept, .ref m_kept, .ref m_keptAt, .int 0, .ref m_placeTrait, .ref m_placePerson, .ref m_placeMoment, .ref m_placeValue, .ref m_isFilled, .int 0, .ref m_uses, .ref m_heapsOne, .ref m_heapsOther]))]) [0] rfl
  have hDc := hD.sub (ws' := [(m0, .inr (9, [.int 0, .int 0, .int 0, .ref m_rowPerson, .ref m_rowStream, .ref m_rowMoment, .ref m_rowKnown, .ref m_rowValue, .ref m_isGone, .ref m_mergeTo, .ref m_mergeKnown, .int 0, .ref m_isErased, .ref m_tape, .int 0, .int 0, .int 0, .int 0, .int (-1), .int 0, .ref m_five, .int 0, .int 0, .int 0, .int 0, .ref m_size0, .ref m_step, .ref m_stepA, .ref m_stepB, .ref m_stepC, .ref m_values, .ref m_heap, .ref m_isOne, .ref m_lawFrom, .ref m_lawTo, .ref m_hasLaw, .ref m_limits, .ref m_held, .ref m_hasKept, .ref m_kept, .ref m_keptAt, .int 0, .ref m_placeTrait, .ref m_placePerson, .ref m_placeMoment, .ref m_placeValue, .ref m_isFilled, .int 0, .ref m_uses, .ref m_heapsOne, .ref m_heapsOther]))]) [0] (by decide) rfl
  have hKc := hK.sub (tys' := []) [] rfl
  have hFc := va_free (wc := [(m0, .inr (9, [.int 0, .int 0, .int 0, .ref m_rowPerson, .ref m_rowStream, .ref m_rowMoment, .ref m_rowKnown, .ref m_rowValue, .ref m_isGone, .ref m_mergeTo, .ref m_mergeKnown, .int 0, .ref m_isErased, .ref m_tape, .int 0, .int 0, .int 0, .int 0, .int (-1), .int 0, .ref m_five, .int 0, .int 0, .int 0, .int 0, .ref m_size0, .ref m_step, .ref m_stepA, .ref m_stepB, .ref m_stepC, .ref m_values, .ref m_heap, .ref m_isOne, .ref m_lawFrom, .ref m_lawTo, .ref m_hasLaw, .ref m_limits, .ref m_held, .ref m_hasKept, .ref m_kept, .ref m_keptAt, .int 0, .ref m_placeTrait, .ref m_placePerson, .ref m_placeMoment, .ref m_placeValue, .ref m_isFilled, .int 0, .ref m_uses, .ref m_heapsOne, .ref m_heapsOther]))]) hD hS hA [0] rfl
  refine va_calli (va_runV (As := [.int z1, .int z2, .int z3, .int z4]) (rest := [.int r_9]) ⟨hx, hb, hml, hown, hts⟩ (c_X9_fill l dC dI H.size m0 m_rowPerson m_rowStream m_rowMoment m_rowKnown m_rowValue m_isGone m_mergeTo m_mergeKnown m_isErased m_tape m_five m_size0 m_step m_stepA m_stepB m_stepC m_values m_heap m_isOne m_lawFrom m_lawTo m_hasLaw m_limits m_held m_hasKept m_kept m_keptAt m_placeTrait m_placePerson m_placeMoment m_placeValue m_isFilled m_uses m_heapsOne m_heapsOther z1 z2 z3 z4 ) (cwV 4 hts gL_law_X9_fill rfl rfl rfl (by decide +kernel) ⟨Nat.le_of_ble_eq_true rfl, Nat.le_of_ble_eq_true rfl⟩) ⟨fun a U g mk q => by obtain ⟨q0, q1, qP, qK, qD, qN⟩ := q; exact ⟨q0, q1, qP, va_K.moved (u := U) (U := U.calling g mk a) (Vm.Alike.refl U.vm) qK, qD, qN.same rfl⟩, va_recv hKc hPc (ci := 9) (q0 := 0) rfl rfl, fun U hU hW => ⟨rfl, by rw [hU], by rw [hU]; exact hPc, va_K.moved hW.alike hKc, hDc.weaken (fun _ _ _ _ => trivial), hN.warm hW⟩⟩ rfl rfl hl.1 rfl (lv_room (Nat.le_of_ble_eq_true rfl)) dL_law_807 ⟨Nat.le_of_ble_eq_true rfl, Nat.le_of_ble_eq_true rfl⟩) hS (fun q _ h => hFc q h) hFc (fun r_20 u_21 t H1 locs ht hvm hw_22 hB hz1 hk1 hS => ?_)
  try dsimp only at hw_22
  have hP1 : va_P (dC, dI) vwCl [] H1 := fun k q h => by simp at h
  have hD1 : va_D (va_A [(m0, .inr (9, [.int 0, .int 0, .int 0, .ref m_rowPerson, .ref m_rowStream, .ref m_rowMoment, .ref m_rowKnown, .ref m_rowValue, .ref m_isGone, .ref m_mergeTo, .ref m_mergeKnown, .int 0, .ref m_isErased, .ref m_tape, .int 0, .int 0, .int 0, .int 0, .int (-1), .int 0, .ref m_five, .int 0, .int 0, .int 0, .int 0, .ref m_size0, .ref m_step, .ref m_stepA, .ref m_stepB, .ref m_stepC, .ref m_values, .ref m_heap, .ref m_isOne, .ref m_lawFrom, .ref m_lawTo, .ref m_hasLaw, .ref m_limits, .ref m_held, .ref m_hasKept, .ref m_kept, .ref m_keptAt, .int 0, .ref m_placeTrait, .ref m_placePerson, .ref m_placeMoment, .ref m_placeValue, .ref m_isFilled, .int 0, .ref m_uses, .ref m_heapsOne, .ref m_heapsOther]))] H.size) [] := ⟨fun i j p q h => by simp at h, fun k q h => by simp at h⟩
  have hK1 : va_K (dC, dI) vwCl [] s := hK.sub [] rfl
  obtain ⟨hP, hD⟩ := va_join (wr := []) (w1 := []) hP hD [0] [] rfl rfl (by decide) (by decide) hk1 hFc hP1 hD1
  have hK := (hK.sub (tys' := []) [] rfl).app hK1
  generalize H1 = H at hP hS ⊢
  have hP : va_P (dC, dI) vwCl [] H := hP
  have hD : va_D (fun q : Nat => s.heap.size ≤ q) [] := hD
  have hK : va_K (dC, dI) vwCl [] s := hK
  refine lv_icmp_eq (tgt := 1234) hx hb dL_law_810 (by decide) (fun c_23 => ?_) (fun c_23 => ?_)
  · exact law_tail hL C0 hS (lv_sub hl [0, 3] rfl)
  · have dc_23 : ¬ r_9.toInt = r_20.toInt := jI_ne c_23 rfl rfl
    exfalso; omega

set_option maxHeartbeats 4000000 in
set_option maxRecDepth 100000 in
theorem law_history {p : Program} {l : Launch} {e : Env} {s : State} {m : MethodId} {below : List Frame} {meth : Method} {c : Code} {dC : Nat → ClassId} {dI : Nat → Nat → Nat} {b L : Nat} {xs : Nat → Int32} (hL : L = 11) (C0 : lw_At p s m meth c b L xs) (hN : nw_ok s) (h0 : Nat) (hRows : Nat) (hMer : Nat) (hEra : Nat) (hTape : Nat) (hRea : Nat) (hTra : Nat) (hWor : Nat) (hPla : Nat) (hMod : Nat) (hHe1 : Nat) (hHe2 : Nat) (m0 : Nat) (m_rowPerson : Nat) (m_rowStream : Nat) (m_rowMoment : Nat) (m_rowKnown : Nat) (m_rowValue : Nat) (m_isGone : Nat) (m_mergeTo : Nat) (m_mergeKnown : Nat) (m_isErased : Nat) (m_tape : Nat) (m_five : Nat) (m_size0 : Nat) (m_step : Nat) (m_stepA : Nat) (m_stepB : Nat) (m_stepC : Nat) (m_values : Nat) (m_heap : Nat) (m_isOne : Nat) (m_lawFrom : Nat) (m_lawTo : Nat) (m_hasLaw : Nat) (m_limits : Nat) (m_held : Nat) (m_hasKept : Nat) (m_kept : Nat) (m_keptAt : Nat) (m_placeTrait : Nat) (m_placePerson : Nat) (m_placeMoment : Nat) (m_placeValue : Nat) (m_isFilled : Nat) (m_uses : Nat) (m_heapsOne : Nat) (m_heapsOther : Nat) (k_isErased : ClassId)  (H : Heap) (locs : List Loc) (hK : va_K (dC, dI) vwCl [(k_isErased, .boolean)] s) (hP : va_P (dC, dI) vwCl [(h0, .inr (8, [.ref hRows, .ref hMer, .ref hEra, .ref hTape, .ref hRea, .ref hTra, .ref hWor, .ref hPla, .ref hMod, .ref hHe1, .ref hHe2, .int 0, .int 0, .int 0, .int 0, .int (-1), .int 0])), (m0, .inr (9, [.int 0, .int 0, .int 0, .ref m_rowPerson, .ref m_rowStream, .ref m_rowMoment, .ref m_rowKnown, .ref m_rowValue, .ref m_isGone, .ref m_mergeTo, .ref m_mergeKnown, .int 0, .ref m_isErased, .ref m_tape, .int 0, .int 0, .int 0, .int 0, .int (-1), .int 0, .ref m_five, .int 0, .int 0, .int 0, .int 0, .ref m_size0, .ref m_step, .ref m_stepA, .ref m_stepB, .ref m_stepC, .ref m_values, .ref m_heap, .ref m_isOne, .ref m_lawFrom, .ref m_lawTo, .ref m_hasLaw, .ref m_limits, .ref m_held, .ref m_hasKept, .ref m_kept, .ref m_keptAt, .int 0, .ref m_placeTrait, .ref m_placePerson, .ref m_placeMoment, .ref m_placeValue, .ref m_isFilled, .int 0, .ref m_uses, .ref m_heapsOne, .ref m_heapsOther])), (m_isErased, .inl (k_isErased, 20, .inl (fun _ => 0)))] H) (hD : va_D (fun q : Nat => s.heap.size ≤ q) [(h0, .inr (8, [.ref hRows, .ref hMer, .ref hEra, .ref hTape, .ref hRea, .ref hTra, .ref hWor, .ref hPla, .ref hMod, .ref hHe1, .ref hHe2, .int 0, .int 0, .int 0, .int 0, .int (-1), .int 0])), (m0, .inr (9, [.int 0, .int 0, .int 0, .ref m_rowPerson, .ref m_rowStream, .ref m_rowMoment, .ref m_rowKnown, .ref m_rowValue, .ref m_isGone, .ref m_mergeTo, .ref m_mergeKnown, .int 0, .ref m_isErased, .ref m_tape, .int 0, .int 0, .int 0, .int 0, .int (-1), .int 0, .ref m_five, .int 0, .int 0, .int 0, .int 0, .ref m_size0, .ref m_step, .ref m_stepA, .ref m_stepB, .ref m_stepC, .ref m_values, .ref m_heap, .ref m_isOne, .ref m_lawFrom, .ref m_lawTo, .ref m_hasLaw, .ref m_limits, .ref m_held, .ref m_hasKept, .ref m_kept, .ref m_keptAt, .int 0, .ref m_placeTrait, .ref m_placePerson, .ref m_placeMoment, .ref m_placeValue, .ref m_isFilled, .int 0, .ref m_uses, .ref m_heapsOne, .ref m_heapsOther])), (m_isErased, .inl (k_isErased, 20, .inl (fun _ => 0)))]) (hS : va_S (fun q : Nat => s.heap.size ≤ q) s.heap H locs) (ls : Array Slot) (hl : lv_has ls 4 [(3, .int 0), (2, .ref m0), (1, .ref h0), (0, .ref b)]) : W p l e room_1 s m #[Value.ref b] below meth c H locs 600000 7302250 (lw_Z below #[Value.ref b] s) (F0 m 815 ls []) := by
  obtain ⟨hx, hb, hr, hml, hown, hts, hX, hbl, hlocks, hgv⟩ := id C0
  have hts := fun w h => hts w (wsL_law_in w h)
  have hown : s.vm.findClass RL = some m.cls := hown
  have hA : ∀ q : Nat, s.heap.size ≤ q → (fun q : Nat => s.heap.size ≤ q) q := fun _ h => h
  have hbA : ¬ (fun q : Nat => s.heap.size ≤ q) b := Nat.not_le.mpr hbl
  obtain ⟨z1, ez1⟩ : ∃ z : Int32, z = xs (1 : Int32).toNatClampNeg := ⟨_, rfl⟩
  obtain ⟨z2, ez2⟩ : ∃ z : Int32, z = xs (2 : Int32).toNatClampNeg := ⟨_, rfl⟩
  obtain ⟨z3, ez3⟩ : ∃ z : Int32, z = xs (3 : Int32).toNatClampNeg := ⟨_, rfl⟩
  refine lv_aload_n hx hb dL_law_815 rfl (lv_at hl 2 rfl) ?_
  refine lv_aload_n hx hb dL_law_816 rfl (lv_at hl 3 rfl) ?_
  refine lv_iload_n hx hb dL_law_817 rfl (lv_at hl 0 rfl) ?_
  refine lv_iconst (v := 1) hx hb dL_law_818 (by decide) ?_
  refine lv_iadd hx hb dL_law_819 ?_
  refine lv_topi (fun x_1 ex_1 => ?_)
  obtain rfl : x_1 = 1 := ex_1.trans (by decide)
  refine va_sld hx hb hX hbl hbA hS (vp_in_iff.mpr ⟨by decide, by rw [hL]; decide⟩) dL_law_820 ?_
  refine lv_topi (fun x_2 ex_2 => ?_)
  obtain rfl : z1 = x_2 := ez1.trans ex_2.symm
  refine lv_aload_n hx hb dL_law_821 rfl (lv_at hl 3 rfl) ?_
  refine lv_iload_n hx hb dL_law_822 rfl (lv_at hl 0 rfl) ?_
  refine lv_iconst (v := 2) hx hb dL_law_823 (by decide) ?_
  refine lv_iadd hx hb dL_law_824 ?_
  refine lv_topi (fun x_3 ex_3 => ?_)
  obtain rfl : x_3 = 2 := ex_3.trans (by decide)
  refine va_sld hx hb hX hbl hbA hS (vp_in_iff.mpr ⟨by decide, by rw [hL]; decide⟩) dL_law_825 ?_
  refine lv_topi (fun x_4 ex_4 => ?_)
  obtain rfl : z2 = x_4 := ez2.trans ex_4.symm
  refine lv_aload_n hx hb dL_law_826 rfl (lv_at hl 3 rfl) ?_
  refine lv_iload_n hx hb dL_law_827 rfl (lv_at hl 0 rfl) ?_
  refine lv_iconst (v := 3) hx hb dL_law_828 (by decide) ?_
  refine lv_iadd hx hb dL_law_829 ?_
  refine lv_topi (fun x_5 ex_5 => ?_)
  obtain rfl : x_5 = 3 := ex_5.trans (by decide)
  refine va_sld hx hb hX hbl hbA hS (vp_in_iff.mpr ⟨by decide, by rw [hL]; decide⟩) dL_law_830 ?_
  refine lv_topi (fun x_6 ex_6 => ?_)
  obtain rfl : z3 = x_6 := ez3.trans ex_6.symm
  have hPc := hP.sub (ws' := [(h0, .inr (8, [.ref hRows, .ref hMer, .ref hEra, .ref hTape, .ref hRea, .ref hTra, .ref hWor, .ref hPla, .ref hMod, .ref hHe1, .ref hHe2, .int 0, .int 0, .int 0, .int 0, .int (-1), .int 0]))]) [0] rfl
  have hDc := hD.sub (ws' := [(h0, .inr (8, [.ref hRows, .ref hMer, .ref hEra, .ref hTape, .ref hRea, .ref hTra, .ref hWor, .ref hPla, .ref hMod, .ref hHe1, .ref hHe2, .int 0, .int 0, .int 0, .int 0, .int (-1), .int 0]))]) [0] (by decide) rfl
  have hKc := hK.sub (tys' := []) [] rfl
  have hFc := va_free (wc := [(h0, .inr (8, [.ref hRows, .ref hMer, .ref hEra, .ref hTape, .ref hRea, .ref hTra, .ref hWor, .ref hPla, .ref hMod, .ref hHe1, .ref hHe2, .int 0, .int 0, .int 0, .int 0, .int (-1), .int 0]))]) hD hS hA [0] rfl
  refine va_calll (va_runV (As := [.int z1, .int z2, .int z3]) (rest := []) ⟨hx, hb, hml, hown, hts⟩ (c_X8_history l dC dI H.size h0 hRows hMer hEra hTape hRea hTra hWor hPla hMod hHe1 hHe2 z1 z2 z3 ) (cwV 3 hts gL_law_X8_history rfl rfl rfl (by decide +kernel) ⟨Nat.le_of_ble_eq_true rfl, Nat.le_of_ble_eq_true rfl⟩) ⟨fun a U g mk q => by obtain ⟨q0, q1, qP, qK, qD, qN⟩ := q; exact ⟨q0, q1, qP, va_K.moved (u := U) (U := U.calling g mk a) (Vm.Alike.refl U.vm) qK, qD, qN.same rfl⟩, va_recv hKc hPc (ci := 8) (q0 := 0) rfl rfl, fun U hU hW => ⟨rfl, by rw [hU], by rw [hU]; exact hPc, va_K.moved hW.alike hKc, hDc.weaken (fun _ _ _ _ => trivial), hN.warm hW⟩⟩ rfl rfl hl.1 rfl (lv_room (Nat.le_of_ble_eq_true rfl)) dL_law_831 ⟨Nat.le_of_ble_eq_true rfl, Nat.le_of_ble_eq_true rfl⟩) hS (fun q _ h => hFc q h) hFc (fun r_7 u_8 t H1 locs ht hvm hw_9 hB hz1 hk1 hS => ?_)
  try dsimp only at hw_9
  have hP1 : va_P (dC, dI) vwCl [] H1 := fun k q h => by simp at h
  have hD1 : va_D (va_A [(h0, .inr (8, [.ref hRows, .ref hMer, .ref hEra, .ref hTape, .ref hRea, .ref hTra, .ref hWor, .ref hPla, .ref hMod, .ref hHe1, .ref hHe2, .int 0, .int 0, .int 0, .int 0, .int (-1), .int 0]))] H.size) [] := ⟨fun i j p q h => by simp at h, fun k q h => by simp at h⟩
  have hK1 : va_K (dC, dI) vwCl [] s := hK.sub [] rfl
  obtain ⟨hP, hD⟩ := va_join (wr := [(m0, .inr (9, [.int 0, .int 0, .int 0, .ref m_rowPerson, .ref m_rowStream, .ref m_rowMoment, .ref m_rowKnown, .ref m_rowValue, .ref m_isGone, .ref m_mergeTo, .ref m_mergeKnown, .int 0, .ref m_isErased, .ref m_tape, .int 0, .int 0, .int 0, .int 0, .int (-1), .int 0, .ref m_five, .int 0, .int 0, .int 0, .int 0, .ref m_size0, .ref m_step, .ref m_stepA, .ref m_stepB, .ref m_stepC, .ref m_values, .ref m_heap, .ref m_isOne, .ref m_lawFrom, .ref m_lawTo, .ref m_hasLaw, .ref m_limits, .ref m_held, .ref m_hasKept, .ref m_kept, .ref m_keptAt, .int 0, .ref m_placeTrait, .ref m_placePerson, .ref m_placeMoment, .ref m_placeValue, .ref m_isFilled, .int 0, .ref m_uses, .ref m_heapsOne, .ref m_heapsOther])), (m_isErased, .inl (k_isErased, 20, .inl (fun _ => 0)))]) (w1 := []) hP hD [0] [1, 2] rfl rfl (by decide) (by decide) hk1 hFc hP1 hD1
  have hK := (hK.sub (tys' := [(k_isErased, .boolean)]) [0] rfl).app hK1
  generalize H1 = H at hP hS ⊢
  have hP : va_P (dC, dI) vwCl [(m0, .inr (9, [.int 0, .int 0, .int 0, .ref m_rowPerson, .ref m_rowStream, .ref m_rowMoment, .ref m_rowKnown, .ref m_rowValue, .ref m_isGone, .ref m_mergeTo, .ref m_mergeKnown, .int 0, .ref m_isErased, .ref m_tape, .int 0, .int 0, .int 0, .int 0, .int (-1), .int 0, .ref m_five, .int 0, .int 0, .int 0, .int 0, .ref m_size0, .ref m_step, .ref m_stepA, .ref m_stepB, .ref m_stepC, .ref m_values, .ref m_heap, .ref m_isOne, .ref m_lawFrom, .ref m_lawTo, .ref m_hasLaw, .ref m_limits, .ref m_held, .ref m_hasKept, .ref m_kept, .ref m_keptAt, .int 0, .ref m_placeTrait, .ref m_placePerson, .ref m_placeMoment, .ref m_placeValue, .ref m_isFilled, .int 0, .ref m_uses, .ref m_heapsOne, .ref m_heapsOther])), (m_isErased, .inl (k_isErased, 20, .inl (fun _ => 0)))] H := hP
  have hD : va_D (fun q : Nat => s.heap.size ≤ q) [(m0, .inr (9, [.int 0, .int 0, .int 0, .ref m_rowPerson, .ref m_rowStream, .ref m_rowMoment, .ref m_rowKnown, .ref m_rowValue, .ref m_isGone, .ref m_mergeTo, .ref m_mergeKnown, .int 0, .ref m_isErased, .ref m_tape, .int 0, .int 0, .int 0, .int 0, .int (-1), .int 0, .ref m_five, .int 0, .int 0, .int 0, .int 0, .ref m_size0, .ref m_step, .ref m_stepA, .ref m_stepB, .ref m_stepC, .ref m_values, .ref m_heap, .ref m_isOne, .ref m_lawFrom, .ref m_lawTo, .ref m_hasLaw, .ref m_limits, .ref m_held, .ref m_hasKept, .ref m_kept, .ref m_keptAt, .int 0, .ref m_placeTrait, .ref m_placePerson, .ref m_placeMoment, .ref m_placeValue, .ref m_isFilled, .int 0, .ref m_uses, .ref m_heapsOne, .ref m_heapsOther])), (m_isErased, .inl (k_isErased, 20, .inl (fun _ => 0)))] := hD
  have hK : va_K (dC, dI) vwCl [(k_isErased, .boolean)] s := hK
  obtain rfl : (-9000000000000000000) = r_7 := hw_9.symm
  refine lv_aload_n hx hb dL_law_834 rfl (lv_at hl 1 rfl) ?_
  refine lv_aload_n hx hb dL_law_835 rfl (lv_at hl 3 rfl) ?_
  refine lv_iload_n hx hb dL_law_836 rfl (lv_at hl 0 rfl) ?_
  refine lv_iconst (v := 1) hx hb dL_law_837 (by decide) ?_
  refine lv_iadd hx hb dL_law_838 ?_
  refine lv_topi (fun x_10 ex_10 => ?_)
  obtain rfl : x_10 = 1 := ex_10.trans (by decide)
  refine va_sld hx hb hX hbl hbA hS (vp_in_iff.mpr ⟨by decide, by rw [hL]; decide⟩) dL_law_839 ?_
  refine lv_topi (fun x_11 ex_11 => ?_)
  obtain rfl : z1 = x_11 := ez1.trans ex_11.symm
  refine lv_aload_n hx hb dL_law_840 rfl (lv_at hl 3 rfl) ?_
  refine lv_iload_n hx hb dL_law_841 rfl (lv_at hl 0 rfl) ?_
  refine lv_iconst (v := 2) hx hb dL_law_842 (by decide) ?_
  refine lv_iadd hx hb dL_law_843 ?_
  refine lv_topi (fun x_12 ex_12 => ?_)
  obtain rfl : x_12 = 2 := ex_12.trans (by decide)
  refine va_sld hx hb hX hbl hbA hS (vp_in_iff.mpr ⟨by decide, by rw [hL]; decide⟩) dL_law_844 ?_
  refine lv_topi (fun x_13 ex_13 => ?_)
  obtain rfl : z2 = x_13 := ez2.trans ex_13.symm
  refine lv_aload_n hx hb dL_law_845 rfl (lv_at hl 3 rfl) ?_
  refine lv_iload_n hx hb dL_law_846 rfl (lv_at hl 0 rfl) ?_
  refine lv_iconst (v := 3) hx hb dL_law_847 (by decide) ?_
  refine lv_iadd hx hb dL_law_848 ?_
  refine lv_topi (fun x_14 ex_14 => ?_)
  obtain rfl : x_14 = 3 := ex_14.trans (by decide)
  refine va_sld hx hb hX hbl hbA hS (vp_in_iff.mpr ⟨by decide, by rw [hL]; decide⟩) dL_law_849 ?_
  refine lv_topi (fun x_15 ex_15 => ?_)
  obtain rfl : z3 = x_15 := ez3.trans ex_15.symm
  have hPc := hP.sub (ws' := [(m0, .inr (9, [.int 0, .int 0, .int 0, .ref m_rowPerson, .ref m_rowStream, .ref m_rowMoment, .ref m_rowKnown, .ref m_rowValue, .ref m_isGone, .ref m_mergeTo, .ref m_mergeKnown, .int 0, .ref m_isErased, .ref m_tape, .int 0, .int 0, .int 0, .int 0, .int (-1), .int 0, .ref m_five, .int 0, .int 0, .int 0, .int 0, .ref m_size0, .ref m_step, .ref m_stepA, .ref m_stepB, .ref m_stepC, .ref m_values, .ref m_heap, .ref m_isOne, .ref m_lawFrom, .ref m_lawTo, .ref m_hasLaw, .ref m_limits, .ref m_held, .ref m_hasKept, .ref m_kept, .ref m_keptAt, .int 0, .ref m_placeTrait, .ref m_placePerson, .ref m_placeMoment, .ref m_placeValue, .ref m_isFilled, .int 0, .ref m_uses, .ref m_heapsOne, .ref m_heapsOther])), (m_isErased, .inl (k_isErased, 20, .inl (fun _ => 0)))]) [0, 1] rfl
  have hDc := hD.sub (ws' := [(m0, .inr (9, [.int 0, .int 0, .int 0, .ref m_rowPerson, .ref m_rowStream, .ref m_rowMoment, .ref m_rowKnown, .ref m_rowValue, .ref m_isGone, .ref m_mergeTo, .ref m_mergeKnown, .int 0, .ref m_isErased, .ref m_tape, .int 0, .int 0, .int 0, .int 0, .int (-1), .int 0, .ref m_five, .int 0, .int 0, .int 0, .int 0, .ref m_size0, .ref m_step, .ref m_stepA, .ref m_stepB, .ref m_stepC, .ref m_values, .ref m_heap, .ref m_isOne, .ref m_lawFrom, .ref m_lawTo, .ref m_hasLaw, .ref m_limits, .ref m_held, .ref m_hasKept, .ref m_kept, .ref m_keptAt, .int 0, .ref m_placeTrait, .ref m_placePerson, .ref m_placeMoment, .ref m_placeValue, .ref m_isFilled, .int 0, .ref m_uses, .ref m_heapsOne, .ref m_heapsOther])), (m_isErased, .inl (k_isErased, 20, .inl (fun _ => 0)))]) [0, 1] (by decide) rfl
  have hKc := hK.sub (tys' := [(k_isErased, .boolean)]) [0] rfl
  have hFc := va_free (wc := [(m0, .inr (9, [.int 0, .int 0, .int 0, .ref m_rowPerson, .ref m_rowStream, .ref m_rowMoment, .ref m_rowKnown, .ref m_rowValue, .ref m_isGone, .ref m_mergeTo, .ref m_mergeKnown, .int 0, .ref m_isErased, .ref m_tape, .int 0, .int 0, .int 0, .int 0, .int (-1), .int 0, .ref m_five, .int 0, .int 0, .int 0, .int 0, .ref m_size0, .ref m_step, .ref m_stepA, .ref m_stepB, .ref m_stepC, .ref m_values, .ref m_heap, .ref m_isOne, .ref m_lawFrom, .ref m_lawTo, .ref m_hasLaw, .ref m_limits, .ref m_held, .ref m_hasKept, .ref m_kept, .ref m_keptAt, .int 0, .ref m_placeTrait, .ref m_placePerson, .ref m_placeMoment, .ref m_placeValue, .ref m_isFilled, .int 0, .ref m_uses, .ref m_heapsOne, .ref m_heapsOther])), (m_isErased, .inl (k_isErased, 20, .inl (fun _ => 0)))]) hD hS hA [0, 1] rfl
  refine va_calll (va_runV (As := [.int z1, .int z2, .int z3]) (rest := [.long (-9000000000000000000)]) ⟨hx, hb, hml, hown, hts⟩ (c_X9_history l dC dI H.size m0 m_rowPerson m_rowStream m_rowMoment m_rowKnown m_rowValue m_isGone m_mergeTo m_mergeKnown m_isErased m_tape m_five m_size0 m_step m_stepA m_stepB m_stepC m_values m_heap m_isOne m_lawFrom m_lawTo m_hasLaw m_limits m_held m_hasKept m_kept m_keptAt m_placeTrait m_placePerson m_placeMoment m_placeValue m_isFilled m_uses m_heapsOne m_heapsOther k_isErased z1 z2 z3 ) (cwV 3 hts gL_law_X9_history rfl rfl rfl (by decide +kernel) ⟨Nat.le_of_ble_eq_true rfl, Nat.le_of_ble_eq_true rfl⟩) ⟨fun a U g mk q => by obtain ⟨q0, q1, qP, qK, qD, qN⟩ := q; exact ⟨q0, q1, qP, va_K.moved (u := U) (U := U.calling g mk a) (Vm.Alike.refl U.vm) qK, qD, qN.same rfl⟩, va_recv hKc hPc (ci := 9) (q0 := 0) rfl rfl, fun U hU hW => ⟨rfl, by rw [hU], by rw [hU]; exact hPc, va_K.moved hW.alike hKc, hDc.weaken (fun _ _ _ _ => trivial), hN.warm hW⟩⟩ rfl rfl hl.1 rfl (lv_room (Nat.le_of_ble_eq_true rfl)) dL_law_850 ⟨Nat.le_of_ble_eq_true rfl, Nat.le_of_ble_eq_true rfl⟩) hS (fun q _ h => hFc q h) hFc (fun r_16 u_17 t H1 locs ht hvm hw_18 hB hz1 hk1 hS => ?_)
  try dsimp only at hw_18
  have hP1 : va_P (dC, dI) vwCl [] H1 := fun k q h => by simp at h
  have hD1 : va_D (va_A [(m0, .inr (9, [.int 0, .int 0, .int 0, .ref m_rowPerson, .ref m_rowStream, .ref m_rowMoment, .ref m_rowKnown, .ref m_rowValue, .ref m_isGone, .ref m_mergeTo, .ref m_mergeKnown, .int 0, .ref m_isErased, .ref m_tape, .int 0, .int 0, .int 0, .int 0, .int (-1), .int 0, .ref m_five, .int 0, .int 0, .int 0, .int 0, .ref m_size0, .ref m_step, .ref m_stepA, .ref m_stepB, .ref m_stepC, .ref m_values, .ref m_heap, .ref m_isOne, .ref m_lawFrom, .ref m_lawTo, .ref m_hasLaw, .ref m_limits, .ref m_held, .ref m_hasKept, .ref m_kept, .ref m_keptAt, .int 0, .ref m_placeTrait, .ref m_placePerson, .ref m_placeMoment, .ref m_placeValue, .ref m_isFilled, .int 0, .ref m_uses, .ref m_heapsOne, .ref m_heapsOther])), (m_isErased, .inl (k_isErased, 20, .inl (fun _ => 0)))] H.size) [] := ⟨fun i j p q h => by simp at h, fun k q h => by simp at h⟩
  have hK1 : va_K (dC, dI) vwCl [] s := hK.sub [] rfl
  obtain ⟨hP, hD⟩ := va_join (wr := []) (w1 := []) hP hD [0, 1] [] rfl rfl (by decide) (by decide) hk1 hFc hP1 hD1
  have hK := (hK.sub (tys' := [(k_isErased, .boolean)]) [0] rfl).app hK1
  generalize H1 = H at hP hS ⊢
  have hP : va_P (dC, dI) vwCl [] H := hP
  have hD : va_D (fun q : Nat => s.heap.size ≤ q) [] := hD
  have hK : va_K (dC, dI) vwCl [(k_isErased, .boolean)] s := hK
  obtain rfl : (-9000000000000000000) = r_16 := hw_18.symm
  refine W.lcmp hx hb dL_law_853 ?_
  refine lv_topi (fun k_19 ek_19 => ?_)
  have dk_19 : (k_19.toInt < 0 ↔ (-9000000000000000000) < (-9000000000000000000)) ∧ (k_19.toInt = 0 ↔ (-9000000000000000000) = (-9000000000000000000)) ∧ (0 < k_19.toInt ↔ (-9000000000000000000) < (-9000000000000000000)) := jI_cmp ek_19 (by decide) (by decide)
  refine lv_if_eq (tgt := 1234) hx hb dL_law_854 (by decide) (fun c_20 => ?_) (fun c_20 => ?_)
  · exact law_tail hL C0 hS (lv_sub hl [0, 3] rfl)
  · have dc_20 : ¬ k_19.toInt = 0 := jI_ne c_20 rfl (by decide)
    exfalso; omega
